/-! the reference: tests of a P (written by a program) -/
/-! the reference: an if of a P, leaves -/
theorem ci_ifA {h : ja_H} {ht st rg : Nat → Int} {w : Int} (q : CI h ht st rg) (h0 : 0 ≤ w) (h1 : w < (h 0 113)) (hr : rg w.toNat = 4) (o : (h 74) w.toNat = 1 ∨ (h 74) w.toNat = 2 ∨ (h 74) w.toNat = 4 ∨ (h 74) w.toNat = 6) : (0 ≤ ht w.toNat ∧ ht w.toNat ≤ 60) ∧ w + 1 < (h 0 113) ∧ rg (w + 1).toNat = 4 ∧ ht (w + 1).toNat = ht w.toNat + 1 ∧ ((h 74) w.toNat = 4 → 0 ≤ (h 75) w.toNat ∧ (h 75) w.toNat ≤ 6) ∧ ((h 74) w.toNat = 6 → 0 ≤ (h 75) w.toNat ∧ (h 75) w.toNat ≤ 9 ∧ 0 ≤ (h 76) w.toNat ∧ (h 76) w.toNat ≤ 7) := by
  obtain ⟨c, d⟩ := ci_if q h0 h1 hr
  rcases d with d | ⟨d1, d2, d3, d4⟩ | d | d | d
  · omega
  · refine ⟨c, d1, d2, d4, fun z => ?_, fun z => ?_⟩ <;> (rcases d3 with e | e | e | e <;> omega)
  · omega
  · omega
  · omega
theorem ci_ifB {h : ja_H} {ht st rg : Nat → Int} {w : Int} (q : CI h ht st rg) (h0 : 0 ≤ w) (h1 : w < (h 0 113)) (hr : rg w.toNat = 4) (o : (h 74) w.toNat = 12 ∨ (h 74) w.toNat = 13) : (0 ≤ ht w.toNat ∧ ht w.toNat ≤ 60) ∧ w + 1 < (h 0 113) ∧ rg (w + 1).toNat = 4 ∧ 1 ≤ ht w.toNat ∧ ht (w + 1).toNat = ht w.toNat - 1 ∧ w < (h 75) w.toNat ∧ (h 75) w.toNat < (h 0 113) ∧ rg ((h 75) w.toNat).toNat = 4 ∧ ht ((h 75) w.toNat).toNat = ht w.toNat := by
  obtain ⟨c, d⟩ := ci_if q h0 h1 hr
  rcases d with d | ⟨-, -, d, -⟩ | ⟨d1, d2, d3, d4⟩ | d | d
  · omega
  · rcases d with e | e | e | e <;> omega
  · exact ⟨c, d1, d2, d4⟩
  · omega
  · omega
theorem ci_ifC {h : ja_H} {ht st rg : Nat → Int} {w : Int} (q : CI h ht st rg) (h0 : 0 ≤ w) (h1 : w < (h 0 113)) (hr : rg w.toNat = 4) (o : (h 74) w.toNat ≠ 1 ∧ (h 74) w.toNat ≠ 2 ∧ (h 74) w.toNat ≠ 4 ∧ (h 74) w.toNat ≠ 6 ∧ (h 74) w.toNat ≠ 12 ∧ (h 74) w.toNat ≠ 13 ∧ (h 74) w.toNat ≠ 26) : (0 ≤ ht w.toNat ∧ ht w.toNat ≤ 60) ∧ w + 1 < (h 0 113) ∧ rg (w + 1).toNat = 4 ∧ 1 ≤ ht w.toNat ∧ ((h 74) w.toNat = 8 ∨ (h 74) w.toNat = 9 ∨ (h 74) w.toNat = 10 ∨ (h 74) w.toNat = 11 ∨ (h 74) w.toNat = 14) ∧ ((h 74) w.toNat = 8 → 0 ≤ (h 75) w.toNat ∧ (h 75) w.toNat ≤ 11) ∧ (((h 74) w.toNat = 9 ∧ 2 ≤ ht w.toNat ∧ ht (w + 1).toNat = ht w.toNat - 1) ∨ ((h 74) w.toNat ≠ 9 ∧ ht (w + 1).toNat = ht w.toNat)) := by
  obtain ⟨c, d⟩ := ci_if q h0 h1 hr
  rcases d with d | ⟨-, -, d, -⟩ | d | ⟨d1, d2, d3, d4, d5⟩ | ⟨d1, d2, d3, d4, d5⟩
  · omega
  · rcases d with e | e | e | e <;> omega
  · omega
  · refine ⟨c, d1, d2, d4, by omega, fun z => by omega, by omega⟩
  · refine ⟨c, d1, d2, by omega, by omega, fun z => by omega, by omega⟩
def lnZ (a : Int) : Prop := a = -1 ∨ lnY a
theorem lnZ_n {a : Int} (q : lnZ a) : -1 ≤ a ∧ (a ≤ 6 ∨ (100 ≤ a ∧ a ≤ 111)) := by
  unfold lnZ lnY at q; omega
theorem dmeetsName_0 : decode cX12_meetsName 0 = .ok (.iload_n 2, 1) := by decide +kernel
theorem dmeetsName_1 : decode cX12_meetsName 1 = .ok (.bipush 100, 2) := by decide +kernel
theorem dmeetsName_3 : decode cX12_meetsName 3 = .ok (.if_icmp .lt 15, 3) := by decide +kernel
theorem dmeetsName_6 : decode cX12_meetsName 6 = .ok (.aload_n 0, 1) := by decide +kernel
theorem dmeetsName_7 : decode cX12_meetsName 7 = .ok (.iload_n 3, 1) := by decide +kernel
theorem dmeetsName_8 : decode cX12_meetsName 8 = .ok (.iload 4, 2) := by decide +kernel
theorem dmeetsName_10 : decode cX12_meetsName 10 = .ok (.iload_n 2, 1) := by decide +kernel
theorem dmeetsName_11 : decode cX12_meetsName 11 = .ok (.bipush 100, 2) := by decide +kernel
theorem dmeetsName_13 : decode cX12_meetsName 13 = .ok (.isub, 1) := by decide +kernel
theorem dmeetsName_14 : decode cX12_meetsName 14 = .ok (.invokevirtual 1105, 3) := by decide +kernel
theorem dmeetsName_17 : decode cX12_meetsName 17 = .ok (.ireturn, 1) := by decide +kernel
theorem dmeetsName_18 : decode cX12_meetsName 18 = .ok (.iload_n 2, 1) := by decide +kernel
theorem dmeetsName_19 : decode cX12_meetsName 19 = .ok (.ifCond .lt 39, 3) := by decide +kernel
theorem dmeetsName_22 : decode cX12_meetsName 22 = .ok (.aload_n 0, 1) := by decide +kernel
theorem dmeetsName_23 : decode cX12_meetsName 23 = .ok (.getfield 209, 3) := by decide +kernel
theorem dmeetsName_26 : decode cX12_meetsName 26 = .ok (.iload_n 1, 1) := by decide +kernel
theorem dmeetsName_27 : decode cX12_meetsName 27 = .ok (.baload, 1) := by decide +kernel
theorem dmeetsName_28 : decode cX12_meetsName 28 = .ok (.ifCond .eq 8, 3) := by decide +kernel
theorem dmeetsName_31 : decode cX12_meetsName 31 = .ok (.bipush 7, 2) := by decide +kernel
theorem dmeetsName_33 : decode cX12_meetsName 33 = .ok (.goto 4, 3) := by decide +kernel
theorem dmeetsName_36 : decode cX12_meetsName 36 = .ok (.iconst 0, 1) := by decide +kernel
theorem dmeetsName_37 : decode cX12_meetsName 37 = .ok (.iload_n 2, 1) := by decide +kernel
theorem dmeetsName_38 : decode cX12_meetsName 38 = .ok (.iadd, 1) := by decide +kernel
theorem dmeetsName_39 : decode cX12_meetsName 39 = .ok (.istore 5, 2) := by decide +kernel
theorem dmeetsName_41 : decode cX12_meetsName 41 = .ok (.aload_n 0, 1) := by decide +kernel
theorem dmeetsName_42 : decode cX12_meetsName 42 = .ok (.getfield 399, 3) := by decide +kernel
theorem dmeetsName_45 : decode cX12_meetsName 45 = .ok (.iload 5, 2) := by decide +kernel
theorem dmeetsName_47 : decode cX12_meetsName 47 = .ok (.iload_n 3, 1) := by decide +kernel
theorem dmeetsName_48 : decode cX12_meetsName 48 = .ok (.iastore, 1) := by decide +kernel
theorem dmeetsName_49 : decode cX12_meetsName 49 = .ok (.aload_n 0, 1) := by decide +kernel
theorem dmeetsName_50 : decode cX12_meetsName 50 = .ok (.getfield 402, 3) := by decide +kernel
theorem dmeetsName_53 : decode cX12_meetsName 53 = .ok (.iload 5, 2) := by decide +kernel
theorem dmeetsName_55 : decode cX12_meetsName 55 = .ok (.iload 4, 2) := by decide +kernel
theorem dmeetsName_57 : decode cX12_meetsName 57 = .ok (.iastore, 1) := by decide +kernel
theorem dmeetsName_58 : decode cX12_meetsName 58 = .ok (.iconst 1, 1) := by decide +kernel
theorem dmeetsName_59 : decode cX12_meetsName 59 = .ok (.ireturn, 1) := by decide +kernel
section
variable {l : Launch} {D : va_G} {cA : Nat → ClassId} {ad : Nat → Nat}
theorem s_meetsName {a1 a2 a3 a4 : Int} {h : ja_H} {Q : Option ja_V → ja_H → Prop} (g : mo_G mo_zr h) (r1 : -2147483648 ≤ a1 ∧ a1 ≤ 2147483647) (r2 : -2147483648 ≤ a2 ∧ a2 ≤ 2147483647) (r3 : -2147483648 ≤ a3 ∧ a3 ≤ 2147483647) (r4 : -2147483648 ≤ a4 ∧ a4 ≤ 2147483647) (p1 : 0 ≤ a1 ∧ a1 ≤ 899) (p2 : -1 ≤ a2 ∧ (a2 ≤ 6 ∨ (100 ≤ a2 ∧ a2 ≤ 111))) (p3 : 0 ≤ a3 ∧ a3 ≤ 2) (p4 : a3 = 2 → 0 ≤ a4 ∧ a4 ≤ 200) (p5 : VI h) (p6 : a3 = 2 → caN h) (k1 : ∀ (v : Int) (h' : ja_H), ((0 ≤ v ∧ v ≤ 1) ∧ mo_ag FBI h h' ∧ VI h') → mo_G mo_zr h' → Q (some (0, v)) h') : mM_meetsName l D cA ad a1 a2 a3 a4 h Q := by
  show mJ l D cA ad 2 cX12_meetsName 6 (some .boolean) 0 [(0, (2, ((0 : Nat) : Int))), (1, (0, a1)), (2, (0, a2)), (3, (0, a3)), (4, (0, a4))] [] h Q
  have hca := p6
  refine ja_iload_n dmeetsName_0 rfl rfl ?_
  refine ja_bipush 100 dmeetsName_1 rfl ?_
  refine ja_icmp_lt 18 dmeetsName_3 rfl ⟨by omega, by omega⟩ ⟨by decide, by decide⟩ (fun c3 => ?_) (fun c3 => ?_)
  · refine ja_iload_n dmeetsName_18 rfl rfl ?_
    refine ja_if_lt 58 dmeetsName_19 rfl ⟨by omega, by omega⟩ (fun c19 => ?_) (fun c19 => ?_)
    · refine ja_iconst dmeetsName_58 ?_
      refine ja_zreturn dmeetsName_59 rfl (by omega) ?_
      exact mo_fin (by omega) rfl (k1 1 h (⟨by omega, (by (repeat (first | exact ag_refl | refine ag_up rfl ?_))), (by (repeat (first | exact p5 | refine vi_set (by decide) (by decide) (by decide) ?_ (by first | exact (fun z => absurd z (by decide)) | exact vi_aS p5 (by decide) _ | exact (fun z => ⟨by omega, hca⟩) | exact (fun z => ⟨by omega, hca z⟩) | (intro z; exfalso; omega)) | refine vi_res ?_ (by first | exact (fun z => absurd z (by decide)) | exact vi_aS p5 (by decide) _ | exact (fun z => ⟨by omega, hca⟩) | exact (fun z => ⟨by omega, hca z⟩) | (intro z; exfalso; omega)) | refine vi_up (by decide) (by decide) ?_)))⟩) g)
    · refine ja_aload_n dmeetsName_22 rfl rfl ?_
      refine fa_nodeInPick dmeetsName_23 ?_
      refine ja_iload_n dmeetsName_26 rfl rfl ?_
      refine il_nodeInPick (v := h 67 (a1).toNat) rfl ⟨by omega, by omega⟩ dmeetsName_27 ?_
      have f1 := gC_nodeInPick g (a1).toNat
      refine ja_if_eq 36 dmeetsName_28 rfl ⟨by omega, by omega⟩ (fun c28 => ?_) (fun c28 => ?_)
      · refine ja_iconst dmeetsName_36 ?_
        refine ja_iload_n dmeetsName_37 rfl rfl ?_
        refine ja_iadd dmeetsName_38 ?_
        refine ja_istore dmeetsName_39 (by decide) (L2 := [(5, (0, (0 + a2))), (0, (2, ((0 : Nat) : Int))), (1, (0, a1)), (2, (0, a2)), (3, (0, a3)), (4, (0, a4))]) rfl ?_
        refine ja_aload_n dmeetsName_41 rfl rfl ?_
        refine fa_bindKind dmeetsName_42 ?_
        refine ja_iload dmeetsName_45 rfl ?_
        refine ja_iload_n dmeetsName_47 rfl rfl ?_
        have g2 := gW_bindKind g (0 + a2).toNat (x := a3) ⟨by omega, by omega⟩
        refine is_bindKind ⟨by omega, by omega⟩ dmeetsName_48 ?_
        refine ja_aload_n dmeetsName_49 rfl rfl ?_
        refine fa_bindValue dmeetsName_50 ?_
        refine ja_iload dmeetsName_53 rfl ?_
        refine ja_iload dmeetsName_55 rfl ?_
        have g3 := gW_bindValue g2 (0 + a2).toNat (x := a4) ⟨by omega, by omega⟩
        refine is_bindValue ⟨by omega, by omega⟩ dmeetsName_57 ?_
        refine ja_iconst dmeetsName_58 ?_
        refine ja_zreturn dmeetsName_59 rfl (by omega) ?_
        exact mo_fin (by omega) rfl (k1 1 (ja_up (ja_up h 130 ((0 + a2).toNat) a3) 131 ((0 + a2).toNat) a4) (⟨by omega, (by (repeat (first | exact ag_refl | refine ag_up rfl ?_))), (by (repeat (first | exact p5 | refine vi_set (by decide) (by decide) (by decide) ?_ (by first | exact (fun z => absurd z (by decide)) | exact vi_aS p5 (by decide) _ | exact (fun z => ⟨by omega, hca⟩) | exact (fun z => ⟨by omega, hca z⟩) | (intro z; exfalso; omega)) | refine vi_res ?_ (by first | exact (fun z => absurd z (by decide)) | exact vi_aS p5 (by decide) _ | exact (fun z => ⟨by omega, hca⟩) | exact (fun z => ⟨by omega, hca z⟩) | (intro z; exfalso; omega)) | refine vi_up (by decide) (by decide) ?_)))⟩) g3)
      · refine ja_bipush 7 dmeetsName_31 rfl ?_
        refine ja_goto 37 dmeetsName_33 rfl ?_
        refine ja_iload_n dmeetsName_37 rfl rfl ?_
        refine ja_iadd dmeetsName_38 ?_
        refine ja_istore dmeetsName_39 (by decide) (L2 := [(5, (0, (7 + a2))), (0, (2, ((0 : Nat) : Int))), (1, (0, a1)), (2, (0, a2)), (3, (0, a3)), (4, (0, a4))]) rfl ?_
        refine ja_aload_n dmeetsName_41 rfl rfl ?_
        refine fa_bindKind dmeetsName_42 ?_
        refine ja_iload dmeetsName_45 rfl ?_
        refine ja_iload_n dmeetsName_47 rfl rfl ?_
        have g4 := gW_bindKind g (7 + a2).toNat (x := a3) ⟨by omega, by omega⟩
        refine is_bindKind ⟨by omega, by omega⟩ dmeetsName_48 ?_
        refine ja_aload_n dmeetsName_49 rfl rfl ?_
        refine fa_bindValue dmeetsName_50 ?_
        refine ja_iload dmeetsName_53 rfl ?_
        refine ja_iload dmeetsName_55 rfl ?_
        have g5 := gW_bindValue g4 (7 + a2).toNat (x := a4) ⟨by omega, by omega⟩
        refine is_bindValue ⟨by omega, by omega⟩ dmeetsName_57 ?_
        refine ja_iconst dmeetsName_58 ?_
        refine ja_zreturn dmeetsName_59 rfl (by omega) ?_
        exact mo_fin (by omega) rfl (k1 1 (ja_up (ja_up h 130 ((7 + a2).toNat) a3) 131 ((7 + a2).toNat) a4) (⟨by omega, (by (repeat (first | exact ag_refl | refine ag_up rfl ?_))), (by (repeat (first | exact p5 | refine vi_set (by decide) (by decide) (by decide) ?_ (by first | exact (fun z => absurd z (by decide)) | exact vi_aS p5 (by decide) _ | exact (fun z => ⟨by omega, hca⟩) | exact (fun z => ⟨by omega, hca z⟩) | (intro z; exfalso; omega)) | refine vi_res ?_ (by first | exact (fun z => absurd z (by decide)) | exact vi_aS p5 (by decide) _ | exact (fun z => ⟨by omega, hca⟩) | exact (fun z => ⟨by omega, hca z⟩) | (intro z; exfalso; omega)) | refine vi_up (by decide) (by decide) ?_)))⟩) g5)
  · refine ja_aload_n dmeetsName_6 rfl rfl ?_
    refine ja_iload_n dmeetsName_7 rfl rfl ?_
    refine ja_iload dmeetsName_8 rfl ?_
    refine ja_iload_n dmeetsName_10 rfl rfl ?_
    refine ja_bipush 100 dmeetsName_11 rfl ?_
    refine ja_isub dmeetsName_13 ?_
    refine t_isOf (by decide) (show (0 : Nat) ≤ 8 by decide) dmeetsName_14 g ⟨by omega, by omega⟩ ⟨by omega, by omega⟩ ⟨by omega, by omega⟩ (p4) (show 0 ≤ (a2 - 100) ∧ (a2 - 100) ≤ 12 by omega) ?_
    intro w6 k14_0
    refine ja_zreturn dmeetsName_17 rfl (by omega) ?_
    exact mo_fin (by omega) rfl (k1 w6 h (⟨by omega, (by (repeat (first | exact ag_refl | refine ag_up rfl ?_))), (by (repeat (first | exact p5 | refine vi_set (by decide) (by decide) (by decide) ?_ (by first | exact (fun z => absurd z (by decide)) | exact vi_aS p5 (by decide) _ | exact (fun z => ⟨by omega, hca⟩) | exact (fun z => ⟨by omega, hca z⟩) | (intro z; exfalso; omega)) | refine vi_res ?_ (by first | exact (fun z => absurd z (by decide)) | exact vi_aS p5 (by decide) _ | exact (fun z => ⟨by omega, hca⟩) | exact (fun z => ⟨by omega, hca z⟩) | (intro z; exfalso; omega)) | refine vi_up (by decide) (by decide) ?_)))⟩) g)
theorem t_meetsName {a1 a2 a3 a4 : Int} {d nL pc : Nat} {cc : ByteArray} {rt : Option FieldType} {L : List (Nat × ja_V)} {S : List ja_V} {h : ja_H} {Q : Option ja_V → ja_H → Prop} (hdd : 2 < d) (hwd : ja_wd S ≤ 8) (hd : decode cc pc = .ok (.invokevirtual 1160, 3)) (g : mo_G mo_zr h) (r1 : -2147483648 ≤ a1 ∧ a1 ≤ 2147483647) (r2 : -2147483648 ≤ a2 ∧ a2 ≤ 2147483647) (r3 : -2147483648 ≤ a3 ∧ a3 ≤ 2147483647) (r4 : -2147483648 ≤ a4 ∧ a4 ≤ 2147483647) (p1 : 0 ≤ a1 ∧ a1 ≤ 899) (p2 : -1 ≤ a2 ∧ (a2 ≤ 6 ∨ (100 ≤ a2 ∧ a2 ≤ 111))) (p3 : 0 ≤ a3 ∧ a3 ≤ 2) (p4 : a3 = 2 → 0 ≤ a4 ∧ a4 ≤ 200) (p5 : VI h) (p6 : a3 = 2 → caN h) (k1 : ∀ (v : Int) (h' : ja_H), ((0 ≤ v ∧ v ≤ 1) ∧ mo_ag FBI h h' ∧ VI h') → mo_G mo_zr h' → mJ l D cA ad d cc nL rt (pc + 3) L ((0, v) :: S) h' Q) : mJ l D cA ad d cc nL rt pc L ((0, a4) :: (0, a3) :: (0, a2) :: (0, a1) :: (2, ((0 : Nat) : Int)) :: S) h Q :=
  mc_meetsName hdd hwd hd (s_meetsName g r1 r2 r3 r4 p1 p2 p3 p4 p5 p6 k1)
end
theorem dundo_0 : decode cX12_undo 0 = .ok (.aload_n 0, 1) := by decide +kernel
theorem dundo_1 : decode cX12_undo 1 = .ok (.getfield 209, 3) := by decide +kernel
theorem dundo_4 : decode cX12_undo 4 = .ok (.iload_n 1, 1) := by decide +kernel
theorem dundo_5 : decode cX12_undo 5 = .ok (.baload, 1) := by decide +kernel
theorem dundo_6 : decode cX12_undo 6 = .ok (.ifCond .eq 8, 3) := by decide +kernel
theorem dundo_9 : decode cX12_undo 9 = .ok (.bipush 7, 2) := by decide +kernel
theorem dundo_11 : decode cX12_undo 11 = .ok (.goto 4, 3) := by decide +kernel
theorem dundo_14 : decode cX12_undo 14 = .ok (.iconst 0, 1) := by decide +kernel
theorem dundo_15 : decode cX12_undo 15 = .ok (.istore_n 2, 1) := by decide +kernel
theorem dundo_16 : decode cX12_undo 16 = .ok (.iconst 0, 1) := by decide +kernel
theorem dundo_17 : decode cX12_undo 17 = .ok (.istore_n 3, 1) := by decide +kernel
theorem dundo_18 : decode cX12_undo 18 = .ok (.iload_n 3, 1) := by decide +kernel
theorem dundo_19 : decode cX12_undo 19 = .ok (.bipush 7, 2) := by decide +kernel
theorem dundo_21 : decode cX12_undo 21 = .ok (.if_icmp .ge 46, 3) := by decide +kernel
theorem dundo_24 : decode cX12_undo 24 = .ok (.aload_n 0, 1) := by decide +kernel
theorem dundo_25 : decode cX12_undo 25 = .ok (.getfield 203, 3) := by decide +kernel
theorem dundo_28 : decode cX12_undo 28 = .ok (.aload_n 0, 1) := by decide +kernel
theorem dundo_29 : decode cX12_undo 29 = .ok (.getfield 185, 3) := by decide +kernel
theorem dundo_32 : decode cX12_undo 32 = .ok (.iload_n 1, 1) := by decide +kernel
theorem dundo_33 : decode cX12_undo 33 = .ok (.iaload, 1) := by decide +kernel
theorem dundo_34 : decode cX12_undo 34 = .ok (.iaload, 1) := by decide +kernel
theorem dundo_35 : decode cX12_undo 35 = .ok (.iload_n 3, 1) := by decide +kernel
theorem dundo_36 : decode cX12_undo 36 = .ok (.ishr, 1) := by decide +kernel
theorem dundo_37 : decode cX12_undo 37 = .ok (.iconst 1, 1) := by decide +kernel
theorem dundo_38 : decode cX12_undo 38 = .ok (.iand, 1) := by decide +kernel
theorem dundo_39 : decode cX12_undo 39 = .ok (.iconst 1, 1) := by decide +kernel
theorem dundo_40 : decode cX12_undo 40 = .ok (.if_icmp .ne 21, 3) := by decide +kernel
theorem dundo_43 : decode cX12_undo 43 = .ok (.aload_n 0, 1) := by decide +kernel
theorem dundo_44 : decode cX12_undo 44 = .ok (.getfield 399, 3) := by decide +kernel
theorem dundo_47 : decode cX12_undo 47 = .ok (.iload_n 2, 1) := by decide +kernel
theorem dundo_48 : decode cX12_undo 48 = .ok (.iload_n 3, 1) := by decide +kernel
theorem dundo_49 : decode cX12_undo 49 = .ok (.iadd, 1) := by decide +kernel
theorem dundo_50 : decode cX12_undo 50 = .ok (.iconst 0, 1) := by decide +kernel
theorem dundo_51 : decode cX12_undo 51 = .ok (.iastore, 1) := by decide +kernel
theorem dundo_52 : decode cX12_undo 52 = .ok (.aload_n 0, 1) := by decide +kernel
theorem dundo_53 : decode cX12_undo 53 = .ok (.getfield 402, 3) := by decide +kernel
theorem dundo_56 : decode cX12_undo 56 = .ok (.iload_n 2, 1) := by decide +kernel
theorem dundo_57 : decode cX12_undo 57 = .ok (.iload_n 3, 1) := by decide +kernel
theorem dundo_58 : decode cX12_undo 58 = .ok (.iadd, 1) := by decide +kernel
theorem dundo_59 : decode cX12_undo 59 = .ok (.iconst 0, 1) := by decide +kernel
theorem dundo_60 : decode cX12_undo 60 = .ok (.iastore, 1) := by decide +kernel
theorem dundo_61 : decode cX12_undo 61 = .ok (.iinc 3 1, 3) := by decide +kernel
theorem dundo_64 : decode cX12_undo 64 = .ok (.goto (-46), 3) := by decide +kernel
theorem dundo_67 : decode cX12_undo 67 = .ok (.return_, 1) := by decide +kernel
section
variable {l : Launch} {D : va_G} {cA : Nat → ClassId} {ad : Nat → Nat}
theorem s_undo {a1 : Int} {h : ja_H} {Q : Option ja_V → ja_H → Prop} (g : mo_G mo_zr h) (r1 : -2147483648 ≤ a1 ∧ a1 ≤ 2147483647) (p1 : 0 ≤ a1 ∧ a1 ≤ 899) (p2 : 0 ≤ (h 59 (a1).toNat) ∧ (h 59 (a1).toNat) ≤ 899) (p3 : VI h) (k1 : ∀ (h' : ja_H), (mo_ag FBI h h' ∧ VI h') → mo_G mo_zr h' → Q none h') : mM_undo l D cA ad a1 h Q := by
  show mJ l D cA ad 1 cX12_undo 4 none 0 [(0, (2, ((0 : Nat) : Int))), (1, (0, a1))] [] h Q
  have CUT : ∀ n : Nat, (∀ (x2 x3 : Int) (u : ja_H), mo_G mo_zr u → (-2147483648 ≤ x2 ∧ x2 ≤ 2147483647) → (-2147483648 ≤ x3 ∧ x3 ≤ 2147483647) → ((0 ≤ x3 ∧ x3 ≤ 7 ∧ (x2 = 0 ∨ x2 = 7)) ∧ mo_ag FBI h u ∧ VI u) → (((10 : Int) - x3).toNat) = n → mJ l D cA ad 1 cX12_undo 4 none 18 [(0, (2, ((0 : Nat) : Int))), (1, (0, a1)), (2, (0, x2)), (3, (0, x3))] [] u Q) := by
    intro n
    induction n using Nat.strongRecOn with
    | _ n ih =>
      skip
      · intro x2 x3 u gu qx2 qx3 iv hm
        subst hm
        obtain ⟨iv, ag, qv⟩ := iv
        have ena : (u 59 (a1).toNat) = (h 59 (a1).toNat) := ag 59 _ rfl
        refine ja_iload_n dundo_18 rfl rfl ?_
        refine ja_bipush 7 dundo_19 rfl ?_
        refine ja_icmp_ge 67 dundo_21 rfl ⟨by omega, by omega⟩ ⟨by decide, by decide⟩ (fun c21 => ?_) (fun c21 => ?_)
        · refine ja_return dundo_67 rfl ?_
          exact k1 u (⟨ag, qv⟩) gu
        · refine ja_aload_n dundo_24 rfl rfl ?_
          refine fa_nodeBinds dundo_25 ?_
          refine ja_aload_n dundo_28 rfl rfl ?_
          refine fa_nodeA dundo_29 ?_
          refine ja_iload_n dundo_32 rfl rfl ?_
          refine il_nodeA (v := u 59 (a1).toNat) rfl ⟨by omega, by omega⟩ dundo_33 ?_
          have f1 := gC_nodeA gu (a1).toNat
          refine il_nodeBinds (v := u 65 (u 59 (a1).toNat).toNat) rfl ⟨by omega, by omega⟩ dundo_34 ?_
          have f2 := gC_nodeBinds gu (u 59 (a1).toNat).toNat
          refine ja_iload_n dundo_35 rfl rfl ?_
          refine mo_hishr dundo_36 (fun v3 rv3 => ?_)
          refine ja_iconst dundo_37 ?_
          refine mo_iandc dundo_38 (by decide) (fun v4 rv4 => ?_)
          refine ja_iconst dundo_39 ?_
          refine ja_icmp_ne 61 dundo_40 rfl ⟨by omega, by omega⟩ ⟨by decide, by decide⟩ (fun c40 => ?_) (fun c40 => ?_)
          · refine ja_iinc dundo_61 rfl (by decide) (L2 := [(3, (0, (x3 + 1))), (0, (2, ((0 : Nat) : Int))), (1, (0, a1)), (2, (0, x2))]) rfl ?_
            refine ja_goto 18 dundo_64 rfl ?_
            exact ja_wk (fun q hq => by simp only [List.mem_cons, List.not_mem_nil, or_false] at hq; rcases hq with rfl | rfl | rfl | rfl <;> rfl) ((ih (((10 : Int) - (x3 + 1)).toNat) (by omega)) x2 (x3 + 1) u gu ⟨by omega, by omega⟩ ⟨by omega, by omega⟩ (⟨by omega, (ag_trans ag (by (repeat (first | exact ag_refl | refine ag_up rfl ?_)))), (by (repeat (first | exact qv | refine vi_set (by decide) (by decide) (by decide) ?_ (by first | exact (fun z => absurd z (by decide)) | exact vi_aS qv (by decide) _ | exact (fun z => ⟨by omega, hca⟩) | exact (fun z => ⟨by omega, hca z⟩) | (intro z; exfalso; omega)) | refine vi_res ?_ (by first | exact (fun z => absurd z (by decide)) | exact vi_aS qv (by decide) _ | exact (fun z => ⟨by omega, hca⟩) | exact (fun z => ⟨by omega, hca z⟩) | (intro z; exfalso; omega)) | refine vi_up (by decide) (by decide) ?_)))⟩) rfl)
          · refine ja_aload_n dundo_43 rfl rfl ?_
            refine fa_bindKind dundo_44 ?_
            refine ja_iload_n dundo_47 rfl rfl ?_
            refine ja_iload_n dundo_48 rfl rfl ?_
            refine ja_iadd dundo_49 ?_
            refine ja_iconst dundo_50 ?_
            have g5 := gW_bindKind gu (x2 + x3).toNat (x := 0) ⟨by decide, by decide⟩
            refine is_bindKind ⟨by omega, by omega⟩ dundo_51 ?_
            refine ja_aload_n dundo_52 rfl rfl ?_
            refine fa_bindValue dundo_53 ?_
            refine ja_iload_n dundo_56 rfl rfl ?_
            refine ja_iload_n dundo_57 rfl rfl ?_
            refine ja_iadd dundo_58 ?_
            refine ja_iconst dundo_59 ?_
            have g6 := gW_bindValue g5 (x2 + x3).toNat (x := 0) ⟨by decide, by decide⟩
            refine is_bindValue ⟨by omega, by omega⟩ dundo_60 ?_
            refine ja_iinc dundo_61 rfl (by decide) (L2 := [(3, (0, (x3 + 1))), (0, (2, ((0 : Nat) : Int))), (1, (0, a1)), (2, (0, x2))]) rfl ?_
            refine ja_goto 18 dundo_64 rfl ?_
            exact ja_wk (fun q hq => by simp only [List.mem_cons, List.not_mem_nil, or_false] at hq; rcases hq with rfl | rfl | rfl | rfl <;> rfl) ((ih (((10 : Int) - (x3 + 1)).toNat) (by omega)) x2 (x3 + 1) (ja_up (ja_up u 130 ((x2 + x3).toNat) 0) 131 ((x2 + x3).toNat) 0) g6 ⟨by omega, by omega⟩ ⟨by omega, by omega⟩ (⟨by omega, (ag_trans ag (by (repeat (first | exact ag_refl | refine ag_up rfl ?_)))), (by (repeat (first | exact qv | refine vi_set (by decide) (by decide) (by decide) ?_ (by first | exact (fun z => absurd z (by decide)) | exact vi_aS qv (by decide) _ | exact (fun z => ⟨by omega, hca⟩) | exact (fun z => ⟨by omega, hca z⟩) | (intro z; exfalso; omega)) | refine vi_res ?_ (by first | exact (fun z => absurd z (by decide)) | exact vi_aS qv (by decide) _ | exact (fun z => ⟨by omega, hca⟩) | exact (fun z => ⟨by omega, hca z⟩) | (intro z; exfalso; omega)) | refine vi_up (by decide) (by decide) ?_)))⟩) rfl)
  refine ja_aload_n dundo_0 rfl rfl ?_
  refine fa_nodeInPick dundo_1 ?_
  refine ja_iload_n dundo_4 rfl rfl ?_
  refine il_nodeInPick (v := h 67 (a1).toNat) rfl ⟨by omega, by omega⟩ dundo_5 ?_
  have f7 := gC_nodeInPick g (a1).toNat
  refine ja_if_eq 14 dundo_6 rfl ⟨by omega, by omega⟩ (fun c6 => ?_) (fun c6 => ?_)
  · refine ja_iconst dundo_14 ?_
    refine ja_istore_n dundo_15 rfl (by decide) (L2 := [(2, (0, 0)), (0, (2, ((0 : Nat) : Int))), (1, (0, a1))]) rfl ?_
    refine ja_iconst dundo_16 ?_
    refine ja_istore_n dundo_17 rfl (by decide) (L2 := [(3, (0, 0)), (2, (0, 0)), (0, (2, ((0 : Nat) : Int))), (1, (0, a1))]) rfl ?_
    exact ja_wk (fun q hq => by simp only [List.mem_cons, List.not_mem_nil, or_false] at hq; rcases hq with rfl | rfl | rfl | rfl <;> rfl) ((CUT _) 0 0 h g ⟨by decide, by decide⟩ ⟨by decide, by decide⟩ (⟨by omega, ag_refl, p3⟩) rfl)
  · refine ja_bipush 7 dundo_9 rfl ?_
    refine ja_goto 15 dundo_11 rfl ?_
    refine ja_istore_n dundo_15 rfl (by decide) (L2 := [(2, (0, 7)), (0, (2, ((0 : Nat) : Int))), (1, (0, a1))]) rfl ?_
    refine ja_iconst dundo_16 ?_
    refine ja_istore_n dundo_17 rfl (by decide) (L2 := [(3, (0, 0)), (2, (0, 7)), (0, (2, ((0 : Nat) : Int))), (1, (0, a1))]) rfl ?_
    exact ja_wk (fun q hq => by simp only [List.mem_cons, List.not_mem_nil, or_false] at hq; rcases hq with rfl | rfl | rfl | rfl <;> rfl) ((CUT _) 7 0 h g ⟨by decide, by decide⟩ ⟨by decide, by decide⟩ (⟨by omega, ag_refl, p3⟩) rfl)
theorem t_undo {a1 : Int} {d nL pc : Nat} {cc : ByteArray} {rt : Option FieldType} {L : List (Nat × ja_V)} {S : List ja_V} {h : ja_H} {Q : Option ja_V → ja_H → Prop} (hdd : 1 < d) (hwd : ja_wd S ≤ 8) (hd : decode cc pc = .ok (.invokevirtual 1157, 3)) (g : mo_G mo_zr h) (r1 : -2147483648 ≤ a1 ∧ a1 ≤ 2147483647) (p1 : 0 ≤ a1 ∧ a1 ≤ 899) (p2 : 0 ≤ (h 59 (a1).toNat) ∧ (h 59 (a1).toNat) ≤ 899) (p3 : VI h) (k1 : ∀ (h' : ja_H), (mo_ag FBI h h' ∧ VI h') → mo_G mo_zr h' → mJ l D cA ad d cc nL rt (pc + 3) L S h' Q) : mJ l D cA ad d cc nL rt pc L ((0, a1) :: (2, ((0 : Nat) : Int)) :: S) h Q :=
  mc_undo hdd hwd hd (s_undo g r1 p1 p2 p3 k1)
end
theorem difWord_0 : decode cX12_ifWord 0 = .ok (.aload_n 0, 1) := by decide +kernel
theorem difWord_1 : decode cX12_ifWord 1 = .ok (.dup, 1) := by decide +kernel
theorem difWord_2 : decode cX12_ifWord 2 = .ok (.getfield 1166, 3) := by decide +kernel
theorem difWord_5 : decode cX12_ifWord 5 = .ok (.iconst 1, 1) := by decide +kernel
theorem difWord_6 : decode cX12_ifWord 6 = .ok (.isub, 1) := by decide +kernel
theorem difWord_7 : decode cX12_ifWord 7 = .ok (.putfield 1166, 3) := by decide +kernel
theorem difWord_10 : decode cX12_ifWord 10 = .ok (.aload_n 0, 1) := by decide +kernel
theorem difWord_11 : decode cX12_ifWord 11 = .ok (.getfield 417, 3) := by decide +kernel
theorem difWord_14 : decode cX12_ifWord 14 = .ok (.aload_n 0, 1) := by decide +kernel
theorem difWord_15 : decode cX12_ifWord 15 = .ok (.getfield 1166, 3) := by decide +kernel
theorem difWord_18 : decode cX12_ifWord 18 = .ok (.iaload, 1) := by decide +kernel
theorem difWord_19 : decode cX12_ifWord 19 = .ok (.istore_n 2, 1) := by decide +kernel
theorem difWord_20 : decode cX12_ifWord 20 = .ok (.aload_n 0, 1) := by decide +kernel
theorem difWord_21 : decode cX12_ifWord 21 = .ok (.getfield 420, 3) := by decide +kernel
theorem difWord_24 : decode cX12_ifWord 24 = .ok (.aload_n 0, 1) := by decide +kernel
theorem difWord_25 : decode cX12_ifWord 25 = .ok (.getfield 1166, 3) := by decide +kernel
theorem difWord_28 : decode cX12_ifWord 28 = .ok (.iaload, 1) := by decide +kernel
theorem difWord_29 : decode cX12_ifWord 29 = .ok (.istore_n 3, 1) := by decide +kernel
theorem difWord_30 : decode cX12_ifWord 30 = .ok (.aload_n 0, 1) := by decide +kernel
theorem difWord_31 : decode cX12_ifWord 31 = .ok (.getfield 231, 3) := by decide +kernel
theorem difWord_34 : decode cX12_ifWord 34 = .ok (.iload_n 1, 1) := by decide +kernel
theorem difWord_35 : decode cX12_ifWord 35 = .ok (.iaload, 1) := by decide +kernel
theorem difWord_36 : decode cX12_ifWord 36 = .ok (.tableswitch 131 8 14 #[84, 131, 60, 107, 131, 131, 44], 44) := by decide +kernel
theorem difWord_80 : decode cX12_ifWord 80 = .ok (.aload_n 0, 1) := by decide +kernel
theorem difWord_81 : decode cX12_ifWord 81 = .ok (.iconst 1, 1) := by decide +kernel
theorem difWord_82 : decode cX12_ifWord 82 = .ok (.iload_n 2, 1) := by decide +kernel
theorem difWord_83 : decode cX12_ifWord 83 = .ok (.iload_n 3, 1) := by decide +kernel
theorem difWord_84 : decode cX12_ifWord 84 = .ok (.invokestatic 1111, 3) := by decide +kernel
theorem difWord_87 : decode cX12_ifWord 87 = .ok (.invokestatic 1098, 3) := by decide +kernel
theorem difWord_90 : decode cX12_ifWord 90 = .ok (.invokevirtual 1172, 3) := by decide +kernel
theorem difWord_93 : decode cX12_ifWord 93 = .ok (.goto 241, 3) := by decide +kernel
theorem difWord_96 : decode cX12_ifWord 96 = .ok (.aload_n 0, 1) := by decide +kernel
theorem difWord_97 : decode cX12_ifWord 97 = .ok (.iconst 1, 1) := by decide +kernel
theorem difWord_98 : decode cX12_ifWord 98 = .ok (.iload_n 2, 1) := by decide +kernel
theorem difWord_99 : decode cX12_ifWord 99 = .ok (.iload_n 3, 1) := by decide +kernel
theorem difWord_100 : decode cX12_ifWord 100 = .ok (.invokestatic 1111, 3) := by decide +kernel
theorem difWord_103 : decode cX12_ifWord 103 = .ok (.ifCond .ne 7, 3) := by decide +kernel
theorem difWord_106 : decode cX12_ifWord 106 = .ok (.iconst 1, 1) := by decide +kernel
theorem difWord_107 : decode cX12_ifWord 107 = .ok (.goto 4, 3) := by decide +kernel
theorem difWord_110 : decode cX12_ifWord 110 = .ok (.iconst 0, 1) := by decide +kernel
theorem difWord_111 : decode cX12_ifWord 111 = .ok (.invokestatic 1098, 3) := by decide +kernel
theorem difWord_114 : decode cX12_ifWord 114 = .ok (.invokevirtual 1172, 3) := by decide +kernel
theorem difWord_117 : decode cX12_ifWord 117 = .ok (.goto 217, 3) := by decide +kernel
theorem difWord_120 : decode cX12_ifWord 120 = .ok (.aload_n 0, 1) := by decide +kernel
theorem difWord_121 : decode cX12_ifWord 121 = .ok (.iconst 1, 1) := by decide +kernel
theorem difWord_122 : decode cX12_ifWord 122 = .ok (.aload_n 0, 1) := by decide +kernel
theorem difWord_123 : decode cX12_ifWord 123 = .ok (.iload_n 2, 1) := by decide +kernel
theorem difWord_124 : decode cX12_ifWord 124 = .ok (.iload_n 3, 1) := by decide +kernel
theorem difWord_125 : decode cX12_ifWord 125 = .ok (.aload_n 0, 1) := by decide +kernel
theorem difWord_126 : decode cX12_ifWord 126 = .ok (.getfield 234, 3) := by decide +kernel
theorem difWord_129 : decode cX12_ifWord 129 = .ok (.iload_n 1, 1) := by decide +kernel
theorem difWord_130 : decode cX12_ifWord 130 = .ok (.iaload, 1) := by decide +kernel
theorem difWord_131 : decode cX12_ifWord 131 = .ok (.invokevirtual 1105, 3) := by decide +kernel
theorem difWord_134 : decode cX12_ifWord 134 = .ok (.invokestatic 1098, 3) := by decide +kernel
theorem difWord_137 : decode cX12_ifWord 137 = .ok (.invokevirtual 1172, 3) := by decide +kernel
theorem difWord_140 : decode cX12_ifWord 140 = .ok (.goto 194, 3) := by decide +kernel
theorem difWord_143 : decode cX12_ifWord 143 = .ok (.aload_n 0, 1) := by decide +kernel
theorem difWord_144 : decode cX12_ifWord 144 = .ok (.iload_n 2, 1) := by decide +kernel
theorem difWord_145 : decode cX12_ifWord 145 = .ok (.iconst 1, 1) := by decide +kernel
theorem difWord_146 : decode cX12_ifWord 146 = .ok (.if_icmp .eq 7, 3) := by decide +kernel
theorem difWord_149 : decode cX12_ifWord 149 = .ok (.iconst 1, 1) := by decide +kernel
theorem difWord_150 : decode cX12_ifWord 150 = .ok (.goto 4, 3) := by decide +kernel
theorem difWord_153 : decode cX12_ifWord 153 = .ok (.iconst 0, 1) := by decide +kernel
theorem difWord_154 : decode cX12_ifWord 154 = .ok (.putfield 1169, 3) := by decide +kernel
theorem difWord_157 : decode cX12_ifWord 157 = .ok (.aload_n 0, 1) := by decide +kernel
theorem difWord_158 : decode cX12_ifWord 158 = .ok (.iconst 1, 1) := by decide +kernel
theorem difWord_159 : decode cX12_ifWord 159 = .ok (.iload_n 3, 1) := by decide +kernel
theorem difWord_160 : decode cX12_ifWord 160 = .ok (.ineg, 1) := by decide +kernel
theorem difWord_161 : decode cX12_ifWord 161 = .ok (.invokevirtual 1172, 3) := by decide +kernel
theorem difWord_164 : decode cX12_ifWord 164 = .ok (.goto 170, 3) := by decide +kernel
theorem difWord_167 : decode cX12_ifWord 167 = .ok (.aload_n 0, 1) := by decide +kernel
theorem difWord_168 : decode cX12_ifWord 168 = .ok (.dup, 1) := by decide +kernel
theorem difWord_169 : decode cX12_ifWord 169 = .ok (.getfield 1166, 3) := by decide +kernel
theorem difWord_172 : decode cX12_ifWord 172 = .ok (.iconst 1, 1) := by decide +kernel
theorem difWord_173 : decode cX12_ifWord 173 = .ok (.isub, 1) := by decide +kernel
theorem difWord_174 : decode cX12_ifWord 174 = .ok (.putfield 1166, 3) := by decide +kernel
theorem difWord_177 : decode cX12_ifWord 177 = .ok (.aload_n 0, 1) := by decide +kernel
theorem difWord_178 : decode cX12_ifWord 178 = .ok (.getfield 417, 3) := by decide +kernel
theorem difWord_181 : decode cX12_ifWord 181 = .ok (.aload_n 0, 1) := by decide +kernel
theorem difWord_182 : decode cX12_ifWord 182 = .ok (.getfield 1166, 3) := by decide +kernel
theorem difWord_185 : decode cX12_ifWord 185 = .ok (.iaload, 1) := by decide +kernel
theorem difWord_186 : decode cX12_ifWord 186 = .ok (.istore 4, 2) := by decide +kernel
theorem difWord_188 : decode cX12_ifWord 188 = .ok (.aload_n 0, 1) := by decide +kernel
theorem difWord_189 : decode cX12_ifWord 189 = .ok (.getfield 420, 3) := by decide +kernel
theorem difWord_192 : decode cX12_ifWord 192 = .ok (.aload_n 0, 1) := by decide +kernel
theorem difWord_193 : decode cX12_ifWord 193 = .ok (.getfield 1166, 3) := by decide +kernel
theorem difWord_196 : decode cX12_ifWord 196 = .ok (.iaload, 1) := by decide +kernel
theorem difWord_197 : decode cX12_ifWord 197 = .ok (.istore 5, 2) := by decide +kernel
theorem difWord_199 : decode cX12_ifWord 199 = .ok (.aload_n 0, 1) := by decide +kernel
theorem difWord_200 : decode cX12_ifWord 200 = .ok (.getfield 234, 3) := by decide +kernel
theorem difWord_203 : decode cX12_ifWord 203 = .ok (.iload_n 1, 1) := by decide +kernel
theorem difWord_204 : decode cX12_ifWord 204 = .ok (.iaload, 1) := by decide +kernel
theorem difWord_205 : decode cX12_ifWord 205 = .ok (.istore 6, 2) := by decide +kernel
theorem difWord_207 : decode cX12_ifWord 207 = .ok (.iload 6, 2) := by decide +kernel
theorem difWord_209 : decode cX12_ifWord 209 = .ok (.sipush 300, 3) := by decide +kernel
theorem difWord_212 : decode cX12_ifWord 212 = .ok (.if_icmp .eq 11, 3) := by decide +kernel
theorem difWord_215 : decode cX12_ifWord 215 = .ok (.iload 6, 2) := by decide +kernel
theorem difWord_217 : decode cX12_ifWord 217 = .ok (.sipush 301, 3) := by decide +kernel
theorem difWord_220 : decode cX12_ifWord 220 = .ok (.if_icmp .ne 52, 3) := by decide +kernel
theorem difWord_223 : decode cX12_ifWord 223 = .ok (.aload_n 0, 1) := by decide +kernel
theorem difWord_224 : decode cX12_ifWord 224 = .ok (.iconst 1, 1) := by decide +kernel
theorem difWord_225 : decode cX12_ifWord 225 = .ok (.iload 4, 2) := by decide +kernel
theorem difWord_227 : decode cX12_ifWord 227 = .ok (.iload_n 2, 1) := by decide +kernel
theorem difWord_228 : decode cX12_ifWord 228 = .ok (.if_icmp .ne 13, 3) := by decide +kernel
theorem difWord_231 : decode cX12_ifWord 231 = .ok (.iload 5, 2) := by decide +kernel
theorem difWord_233 : decode cX12_ifWord 233 = .ok (.iload_n 3, 1) := by decide +kernel
theorem difWord_234 : decode cX12_ifWord 234 = .ok (.if_icmp .ne 7, 3) := by decide +kernel
theorem difWord_237 : decode cX12_ifWord 237 = .ok (.iconst 1, 1) := by decide +kernel
theorem difWord_238 : decode cX12_ifWord 238 = .ok (.goto 4, 3) := by decide +kernel
theorem difWord_241 : decode cX12_ifWord 241 = .ok (.iconst 0, 1) := by decide +kernel
theorem difWord_242 : decode cX12_ifWord 242 = .ok (.iload 6, 2) := by decide +kernel
theorem difWord_244 : decode cX12_ifWord 244 = .ok (.sipush 300, 3) := by decide +kernel
theorem difWord_247 : decode cX12_ifWord 247 = .ok (.if_icmp .ne 7, 3) := by decide +kernel
theorem difWord_250 : decode cX12_ifWord 250 = .ok (.iconst 1, 1) := by decide +kernel
theorem difWord_251 : decode cX12_ifWord 251 = .ok (.goto 4, 3) := by decide +kernel
theorem difWord_254 : decode cX12_ifWord 254 = .ok (.iconst 0, 1) := by decide +kernel
theorem difWord_255 : decode cX12_ifWord 255 = .ok (.if_icmp .ne 7, 3) := by decide +kernel
theorem difWord_258 : decode cX12_ifWord 258 = .ok (.iconst 1, 1) := by decide +kernel
theorem difWord_259 : decode cX12_ifWord 259 = .ok (.goto 4, 3) := by decide +kernel
theorem difWord_262 : decode cX12_ifWord 262 = .ok (.iconst 0, 1) := by decide +kernel
theorem difWord_263 : decode cX12_ifWord 263 = .ok (.invokestatic 1098, 3) := by decide +kernel
theorem difWord_266 : decode cX12_ifWord 266 = .ok (.invokevirtual 1172, 3) := by decide +kernel
theorem difWord_269 : decode cX12_ifWord 269 = .ok (.goto 65, 3) := by decide +kernel
theorem difWord_272 : decode cX12_ifWord 272 = .ok (.aload_n 0, 1) := by decide +kernel
theorem difWord_273 : decode cX12_ifWord 273 = .ok (.iload 4, 2) := by decide +kernel
theorem difWord_275 : decode cX12_ifWord 275 = .ok (.iconst 1, 1) := by decide +kernel
theorem difWord_276 : decode cX12_ifWord 276 = .ok (.if_icmp .ne 26, 3) := by decide +kernel
theorem difWord_279 : decode cX12_ifWord 279 = .ok (.iload_n 2, 1) := by decide +kernel
theorem difWord_280 : decode cX12_ifWord 280 = .ok (.iconst 1, 1) := by decide +kernel
theorem difWord_281 : decode cX12_ifWord 281 = .ok (.if_icmp .ne 21, 3) := by decide +kernel
theorem difWord_284 : decode cX12_ifWord 284 = .ok (.iload_n 3, 1) := by decide +kernel
theorem difWord_285 : decode cX12_ifWord 285 = .ok (.ifCond .ne 21, 3) := by decide +kernel
theorem difWord_288 : decode cX12_ifWord 288 = .ok (.iload 6, 2) := by decide +kernel
theorem difWord_290 : decode cX12_ifWord 290 = .ok (.bipush 47, 2) := by decide +kernel
theorem difWord_292 : decode cX12_ifWord 292 = .ok (.if_icmp .eq 10, 3) := by decide +kernel
theorem difWord_295 : decode cX12_ifWord 295 = .ok (.iload 6, 2) := by decide +kernel
theorem difWord_297 : decode cX12_ifWord 297 = .ok (.bipush 37, 2) := by decide +kernel
theorem difWord_299 : decode cX12_ifWord 299 = .ok (.if_icmp .ne 7, 3) := by decide +kernel
theorem difWord_302 : decode cX12_ifWord 302 = .ok (.iconst 1, 1) := by decide +kernel
theorem difWord_303 : decode cX12_ifWord 303 = .ok (.goto 4, 3) := by decide +kernel
theorem difWord_306 : decode cX12_ifWord 306 = .ok (.iconst 0, 1) := by decide +kernel
theorem difWord_307 : decode cX12_ifWord 307 = .ok (.putfield 1169, 3) := by decide +kernel
theorem difWord_310 : decode cX12_ifWord 310 = .ok (.aload_n 0, 1) := by decide +kernel
theorem difWord_311 : decode cX12_ifWord 311 = .ok (.iconst 1, 1) := by decide +kernel
theorem difWord_312 : decode cX12_ifWord 312 = .ok (.aload_n 0, 1) := by decide +kernel
theorem difWord_313 : decode cX12_ifWord 313 = .ok (.getfield 1169, 3) := by decide +kernel
theorem difWord_316 : decode cX12_ifWord 316 = .ok (.ifCond .eq 7, 3) := by decide +kernel
theorem difWord_319 : decode cX12_ifWord 319 = .ok (.iconst 0, 1) := by decide +kernel
theorem difWord_320 : decode cX12_ifWord 320 = .ok (.goto 11, 3) := by decide +kernel
theorem difWord_323 : decode cX12_ifWord 323 = .ok (.iload 6, 2) := by decide +kernel
theorem difWord_325 : decode cX12_ifWord 325 = .ok (.iload 5, 2) := by decide +kernel
theorem difWord_327 : decode cX12_ifWord 327 = .ok (.iload_n 3, 1) := by decide +kernel
theorem difWord_328 : decode cX12_ifWord 328 = .ok (.invokestatic 1123, 3) := by decide +kernel
theorem difWord_331 : decode cX12_ifWord 331 = .ok (.invokevirtual 1172, 3) := by decide +kernel
theorem difWord_334 : decode cX12_ifWord 334 = .ok (.return_, 1) := by decide +kernel
section
variable {l : Launch} {D : va_G} {cA : Nat → ClassId} {ad : Nat → Nat}
theorem s_ifWord {a1 : Int} {h : ja_H} {Q : Option ja_V → ja_H → Prop} (g : mo_G mo_zr h) (r1 : -2147483648 ≤ a1 ∧ a1 ≤ 2147483647) (p1 : 0 ≤ a1 ∧ a1 < 5000) (p2 : VI h) (p3 : (h 74 (a1).toNat) = 8 → 0 ≤ (h 75 (a1).toNat) ∧ (h 75 (a1).toNat) ≤ 11) (p4 : (h 74 (a1).toNat) = 8 ∨ (h 74 (a1).toNat) = 9 ∨ (h 74 (a1).toNat) = 10 ∨ (h 74 (a1).toNat) = 11 ∨ (h 74 (a1).toNat) = 14) (p5 : 1 ≤ (h 0 206) ∧ (h 0 206) ≤ 61) (p6 : (h 74 (a1).toNat) = 9 → 2 ≤ (h 0 206)) (k1 : ∀ (h' : ja_H), (mo_ag FBI h h' ∧ VI h' ∧ (((h 74 (a1).toNat) = 9 ∧ (h' 0 206) = (h 0 206) - 1) ∨ (¬ (h 74 (a1).toNat) = 9 ∧ (h' 0 206) = (h 0 206)))) → mo_G mo_zr h' → Q none h') : mM_ifWord l D cA ad a1 h Q := by
  show mJ l D cA ad 3 cX12_ifWord 7 none 0 [(0, (2, ((0 : Nat) : Int))), (1, (0, a1))] [] h Q
  refine ja_aload_n difWord_0 rfl rfl ?_
  refine ja_dup difWord_1 (by decide) ?_
  refine fg_ePile (v := h 0 206) rfl difWord_2 ?_
  have f1 := gF_ePile g
  refine ja_iconst difWord_5 ?_
  refine ja_isub difWord_6 ?_
  have g2 := gP_ePile g (x := (h 0 206) - 1) ⟨by omega, by omega⟩
  refine fp_ePile difWord_7 ?_
  refine ja_aload_n difWord_10 rfl rfl ?_
  refine fa_ePileKind difWord_11 ?_
  refine ja_aload_n difWord_14 rfl rfl ?_
  refine fg_ePile (v := (h 0 206) - 1) rfl difWord_15 ?_
  refine il_ePileKind (v := h 136 ((h 0 206) - 1).toNat) rfl ⟨by omega, by omega⟩ difWord_18 ?_
  have f3 := gC_ePileKind g ((h 0 206) - 1).toNat
  refine ja_istore_n difWord_19 rfl (by decide) (L2 := [(2, (0, (h 136 ((h 0 206) - 1).toNat))), (0, (2, ((0 : Nat) : Int))), (1, (0, a1))]) rfl ?_
  refine ja_aload_n difWord_20 rfl rfl ?_
  refine fa_ePileValue difWord_21 ?_
  refine ja_aload_n difWord_24 rfl rfl ?_
  refine fg_ePile (v := (h 0 206) - 1) rfl difWord_25 ?_
  refine il_ePileValue (v := h 137 ((h 0 206) - 1).toNat) rfl ⟨by omega, by omega⟩ difWord_28 ?_
  have f4 := gC_ePileValue g ((h 0 206) - 1).toNat
  refine ja_istore_n difWord_29 rfl (by decide) (L2 := [(3, (0, (h 137 ((h 0 206) - 1).toNat))), (2, (0, (h 136 ((h 0 206) - 1).toNat))), (0, (2, ((0 : Nat) : Int))), (1, (0, a1))]) rfl ?_
  refine ja_aload_n difWord_30 rfl rfl ?_
  refine fa_op difWord_31 ?_
  refine ja_iload_n difWord_34 rfl rfl ?_
  refine il_op (v := h 74 (a1).toNat) rfl ⟨by omega, by omega⟩ difWord_35 ?_
  have f5 := gC_op g (a1).toNat
  have T36_120 : (h 74 (a1).toNat = 8) → mJ l D cA ad 3 cX12_ifWord 7 none 120 [(3, (0, (h 137 ((h 0 206) - 1).toNat))), (2, (0, (h 136 ((h 0 206) - 1).toNat))), (0, (2, ((0 : Nat) : Int))), (1, (0, a1))] [] (ja_up h 0 206 ((h 0 206) - 1)) Q := by
    intro e36
    refine ja_aload_n difWord_120 rfl rfl ?_
    refine ja_iconst difWord_121 ?_
    refine ja_aload_n difWord_122 rfl rfl ?_
    refine ja_iload_n difWord_123 rfl rfl ?_
    refine ja_iload_n difWord_124 rfl rfl ?_
    refine ja_aload_n difWord_125 rfl rfl ?_
    refine fa_opA difWord_126 ?_
    refine ja_iload_n difWord_129 rfl rfl ?_
    refine il_opA (v := h 75 (a1).toNat) rfl ⟨by omega, by omega⟩ difWord_130 ?_
    have f6 := gC_opA g (a1).toNat
    refine t_isOf (by decide) (show (2 : Nat) ≤ 8 by decide) difWord_131 g2 ⟨by omega, by omega⟩ ⟨by omega, by omega⟩ ⟨by omega, by omega⟩ ((vi_at p2 (by decide) _)) (show 0 ≤ (h 75 (a1).toNat) ∧ (h 75 (a1).toNat) ≤ 12 by omega) ?_
    intro w7 k131_0
    replace k131_0 : 0 ≤ w7 ∧ w7 ≤ 1 := k131_0
    refine t_asWhole (by decide) (show (2 : Nat) ≤ 8 by decide) difWord_134 g2 ⟨by omega, by omega⟩ ?_
    intro w8 k134_0
    replace k134_0 : 0 ≤ w8 ∧ w8 ≤ 1 := k134_0
    refine t_ePut (by decide) (show (0 : Nat) ≤ 8 by decide) difWord_137 g2 ⟨by decide, by decide⟩ ⟨by omega, by omega⟩ (show 0 ≤ 1 ∧ 1 ≤ 2 by omega) (show ((h 0 206) - 1) < 64 by omega) ?_
    intro g9
    replace g9 : mo_G mo_zr (ja_up (ja_up (ja_up (ja_up h 0 206 ((h 0 206) - 1)) 136 (((h 0 206) - 1).toNat) 1) 137 (((h 0 206) - 1).toNat) w8) 0 206 (((h 0 206) - 1) + 1)) := g9
    show mJ l D cA ad 3 cX12_ifWord 7 none 140 [(3, (0, (h 137 ((h 0 206) - 1).toNat))), (2, (0, (h 136 ((h 0 206) - 1).toNat))), (0, (2, ((0 : Nat) : Int))), (1, (0, a1))] [] (ja_up (ja_up (ja_up (ja_up h 0 206 ((h 0 206) - 1)) 136 (((h 0 206) - 1).toNat) 1) 137 (((h 0 206) - 1).toNat) w8) 0 206 (((h 0 206) - 1) + 1)) Q
    refine ja_goto 334 difWord_140 rfl ?_
    refine ja_return difWord_334 rfl ?_
    exact k1 (ja_up (ja_up (ja_up (ja_up h 0 206 ((h 0 206) - 1)) 136 (((h 0 206) - 1).toNat) 1) 137 (((h 0 206) - 1).toNat) w8) 0 206 (((h 0 206) - 1) + 1)) (⟨(by (repeat (first | exact ag_refl | refine ag_up rfl ?_))), (by (repeat (first | exact p2 | refine vi_set (by decide) (by decide) (by decide) ?_ (by first | exact (fun z => absurd z (by decide)) | exact vi_aS p2 (by decide) _ | exact (fun z => ⟨by omega, hca⟩) | exact (fun z => ⟨by omega, hca z⟩) | (intro z; exfalso; omega)) | refine vi_res ?_ (by first | exact (fun z => absurd z (by decide)) | exact vi_aS p2 (by decide) _ | exact (fun z => ⟨by omega, hca⟩) | exact (fun z => ⟨by omega, hca z⟩) | (intro z; exfalso; omega)) | refine vi_up (by decide) (by decide) ?_))), (show ((h 74 (a1).toNat) = 9 ∧ ((((h 0 206) - 1) + 1) : Int) = (h 0 206) - 1) ∨ (¬ (h 74 (a1).toNat) = 9 ∧ ((((h 0 206) - 1) + 1) : Int) = (h 0 206)) by omega)⟩) g9
  have T36_96 : (h 74 (a1).toNat = 10) → mJ l D cA ad 3 cX12_ifWord 7 none 96 [(3, (0, (h 137 ((h 0 206) - 1).toNat))), (2, (0, (h 136 ((h 0 206) - 1).toNat))), (0, (2, ((0 : Nat) : Int))), (1, (0, a1))] [] (ja_up h 0 206 ((h 0 206) - 1)) Q := by
    intro e36
    refine ja_aload_n difWord_96 rfl rfl ?_
    refine ja_iconst difWord_97 ?_
    refine ja_iload_n difWord_98 rfl rfl ?_
    refine ja_iload_n difWord_99 rfl rfl ?_
    refine t_isTrue (by decide) (show (2 : Nat) ≤ 8 by decide) difWord_100 g2 ⟨by omega, by omega⟩ ⟨by omega, by omega⟩ ?_
    intro w10 k100_0
    replace k100_0 : 0 ≤ w10 ∧ w10 ≤ 1 := k100_0
    refine ja_if_ne 110 difWord_103 rfl ⟨by omega, by omega⟩ (fun c103 => ?_) (fun c103 => ?_)
    · refine ja_iconst difWord_110 ?_
      refine t_asWhole (by decide) (show (2 : Nat) ≤ 8 by decide) difWord_111 g2 ⟨by decide, by decide⟩ ?_
      intro w11 k111_0
      replace k111_0 : 0 ≤ w11 ∧ w11 ≤ 1 := k111_0
      refine t_ePut (by decide) (show (0 : Nat) ≤ 8 by decide) difWord_114 g2 ⟨by decide, by decide⟩ ⟨by omega, by omega⟩ (show 0 ≤ 1 ∧ 1 ≤ 2 by omega) (show ((h 0 206) - 1) < 64 by omega) ?_
      intro g12
      replace g12 : mo_G mo_zr (ja_up (ja_up (ja_up (ja_up h 0 206 ((h 0 206) - 1)) 136 (((h 0 206) - 1).toNat) 1) 137 (((h 0 206) - 1).toNat) w11) 0 206 (((h 0 206) - 1) + 1)) := g12
      show mJ l D cA ad 3 cX12_ifWord 7 none 117 [(3, (0, (h 137 ((h 0 206) - 1).toNat))), (2, (0, (h 136 ((h 0 206) - 1).toNat))), (0, (2, ((0 : Nat) : Int))), (1, (0, a1))] [] (ja_up (ja_up (ja_up (ja_up h 0 206 ((h 0 206) - 1)) 136 (((h 0 206) - 1).toNat) 1) 137 (((h 0 206) - 1).toNat) w11) 0 206 (((h 0 206) - 1) + 1)) Q
      refine ja_goto 334 difWord_117 rfl ?_
      refine ja_return difWord_334 rfl ?_
      exact k1 (ja_up (ja_up (ja_up (ja_up h 0 206 ((h 0 206) - 1)) 136 (((h 0 206) - 1).toNat) 1) 137 (((h 0 206) - 1).toNat) w11) 0 206 (((h 0 206) - 1) + 1)) (⟨(by (repeat (first | exact ag_refl | refine ag_up rfl ?_))), (by (repeat (first | exact p2 | refine vi_set (by decide) (by decide) (by decide) ?_ (by first | exact (fun z => absurd z (by decide)) | exact vi_aS p2 (by decide) _ | exact (fun z => ⟨by omega, hca⟩) | exact (fun z => ⟨by omega, hca z⟩) | (intro z; exfalso; omega)) | refine vi_res ?_ (by first | exact (fun z => absurd z (by decide)) | exact vi_aS p2 (by decide) _ | exact (fun z => ⟨by omega, hca⟩) | exact (fun z => ⟨by omega, hca z⟩) | (intro z; exfalso; omega)) | refine vi_up (by decide) (by decide) ?_))), (show ((h 74 (a1).toNat) = 9 ∧ ((((h 0 206) - 1) + 1) : Int) = (h 0 206) - 1) ∨ (¬ (h 74 (a1).toNat) = 9 ∧ ((((h 0 206) - 1) + 1) : Int) = (h 0 206)) by omega)⟩) g12
    · refine ja_iconst difWord_106 ?_
      refine ja_goto 111 difWord_107 rfl ?_
      refine t_asWhole (by decide) (show (2 : Nat) ≤ 8 by decide) difWord_111 g2 ⟨by decide, by decide⟩ ?_
      intro w13 k111_0
      replace k111_0 : 0 ≤ w13 ∧ w13 ≤ 1 := k111_0
      refine t_ePut (by decide) (show (0 : Nat) ≤ 8 by decide) difWord_114 g2 ⟨by decide, by decide⟩ ⟨by omega, by omega⟩ (show 0 ≤ 1 ∧ 1 ≤ 2 by omega) (show ((h 0 206) - 1) < 64 by omega) ?_
      intro g14
      replace g14 : mo_G mo_zr (ja_up (ja_up (ja_up (ja_up h 0 206 ((h 0 206) - 1)) 136 (((h 0 206) - 1).toNat) 1) 137 (((h 0 206) - 1).toNat) w13) 0 206 (((h 0 206) - 1) + 1)) := g14
      show mJ l D cA ad 3 cX12_ifWord 7 none 117 [(3, (0, (h 137 ((h 0 206) - 1).toNat))), (2, (0, (h 136 ((h 0 206) - 1).toNat))), (0, (2, ((0 : Nat) : Int))), (1, (0, a1))] [] (ja_up (ja_up (ja_up (ja_up h 0 206 ((h 0 206) - 1)) 136 (((h 0 206) - 1).toNat) 1) 137 (((h 0 206) - 1).toNat) w13) 0 206 (((h 0 206) - 1) + 1)) Q
      refine ja_goto 334 difWord_117 rfl ?_
      refine ja_return difWord_334 rfl ?_
      exact k1 (ja_up (ja_up (ja_up (ja_up h 0 206 ((h 0 206) - 1)) 136 (((h 0 206) - 1).toNat) 1) 137 (((h 0 206) - 1).toNat) w13) 0 206 (((h 0 206) - 1) + 1)) (⟨(by (repeat (first | exact ag_refl | refine ag_up rfl ?_))), (by (repeat (first | exact p2 | refine vi_set (by decide) (by decide) (by decide) ?_ (by first | exact (fun z => absurd z (by decide)) | exact vi_aS p2 (by decide) _ | exact (fun z => ⟨by omega, hca⟩) | exact (fun z => ⟨by omega, hca z⟩) | (intro z; exfalso; omega)) | refine vi_res ?_ (by first | exact (fun z => absurd z (by decide)) | exact vi_aS p2 (by decide) _ | exact (fun z => ⟨by omega, hca⟩) | exact (fun z => ⟨by omega, hca z⟩) | (intro z; exfalso; omega)) | refine vi_up (by decide) (by decide) ?_))), (show ((h 74 (a1).toNat) = 9 ∧ ((((h 0 206) - 1) + 1) : Int) = (h 0 206) - 1) ∨ (¬ (h 74 (a1).toNat) = 9 ∧ ((((h 0 206) - 1) + 1) : Int) = (h 0 206)) by omega)⟩) g14
  have T36_143 : (h 74 (a1).toNat = 11) → mJ l D cA ad 3 cX12_ifWord 7 none 143 [(3, (0, (h 137 ((h 0 206) - 1).toNat))), (2, (0, (h 136 ((h 0 206) - 1).toNat))), (0, (2, ((0 : Nat) : Int))), (1, (0, a1))] [] (ja_up h 0 206 ((h 0 206) - 1)) Q := by
    intro e36
    refine ja_aload_n difWord_143 rfl rfl ?_
    refine ja_iload_n difWord_144 rfl rfl ?_
    refine ja_iconst difWord_145 ?_
    refine ja_icmp_eq 153 difWord_146 rfl ⟨by omega, by omega⟩ ⟨by decide, by decide⟩ (fun c146 => ?_) (fun c146 => ?_)
    · refine ja_iconst difWord_153 ?_
      have g15 := gP_eFails g2 (x := 0) ⟨by decide, by decide⟩
      refine fp_eFails (by omega) difWord_154 ?_
      refine ja_aload_n difWord_157 rfl rfl ?_
      refine ja_iconst difWord_158 ?_
      refine ja_iload_n difWord_159 rfl rfl ?_
      refine mo_hineg difWord_160 (fun v16 rv16 => ?_)
      refine t_ePut (by decide) (show (0 : Nat) ≤ 8 by decide) difWord_161 g15 ⟨by decide, by decide⟩ ⟨by omega, by omega⟩ (show 0 ≤ 1 ∧ 1 ≤ 2 by omega) (show ((h 0 206) - 1) < 64 by omega) ?_
      intro g17
      replace g17 : mo_G mo_zr (ja_up (ja_up (ja_up (ja_up (ja_up h 0 206 ((h 0 206) - 1)) 0 207 0) 136 (((h 0 206) - 1).toNat) 1) 137 (((h 0 206) - 1).toNat) v16) 0 206 (((h 0 206) - 1) + 1)) := g17
      show mJ l D cA ad 3 cX12_ifWord 7 none 164 [(3, (0, (h 137 ((h 0 206) - 1).toNat))), (2, (0, (h 136 ((h 0 206) - 1).toNat))), (0, (2, ((0 : Nat) : Int))), (1, (0, a1))] [] (ja_up (ja_up (ja_up (ja_up (ja_up h 0 206 ((h 0 206) - 1)) 0 207 0) 136 (((h 0 206) - 1).toNat) 1) 137 (((h 0 206) - 1).toNat) v16) 0 206 (((h 0 206) - 1) + 1)) Q
      refine ja_goto 334 difWord_164 rfl ?_
      refine ja_return difWord_334 rfl ?_
      exact k1 (ja_up (ja_up (ja_up (ja_up (ja_up h 0 206 ((h 0 206) - 1)) 0 207 0) 136 (((h 0 206) - 1).toNat) 1) 137 (((h 0 206) - 1).toNat) v16) 0 206 (((h 0 206) - 1) + 1)) (⟨(by (repeat (first | exact ag_refl | refine ag_up rfl ?_))), (by (repeat (first | exact p2 | refine vi_set (by decide) (by decide) (by decide) ?_ (by first | exact (fun z => absurd z (by decide)) | exact vi_aS p2 (by decide) _ | exact (fun z => ⟨by omega, hca⟩) | exact (fun z => ⟨by omega, hca z⟩) | (intro z; exfalso; omega)) | refine vi_res ?_ (by first | exact (fun z => absurd z (by decide)) | exact vi_aS p2 (by decide) _ | exact (fun z => ⟨by omega, hca⟩) | exact (fun z => ⟨by omega, hca z⟩) | (intro z; exfalso; omega)) | refine vi_up (by decide) (by decide) ?_))), (show ((h 74 (a1).toNat) = 9 ∧ ((((h 0 206) - 1) + 1) : Int) = (h 0 206) - 1) ∨ (¬ (h 74 (a1).toNat) = 9 ∧ ((((h 0 206) - 1) + 1) : Int) = (h 0 206)) by omega)⟩) g17
    · refine ja_iconst difWord_149 ?_
      refine ja_goto 154 difWord_150 rfl ?_
      have g18 := gP_eFails g2 (x := 1) ⟨by decide, by decide⟩
      refine fp_eFails (by omega) difWord_154 ?_
      refine ja_aload_n difWord_157 rfl rfl ?_
      refine ja_iconst difWord_158 ?_
      refine ja_iload_n difWord_159 rfl rfl ?_
      refine mo_hineg difWord_160 (fun v19 rv19 => ?_)
      refine t_ePut (by decide) (show (0 : Nat) ≤ 8 by decide) difWord_161 g18 ⟨by decide, by decide⟩ ⟨by omega, by omega⟩ (show 0 ≤ 1 ∧ 1 ≤ 2 by omega) (show ((h 0 206) - 1) < 64 by omega) ?_
      intro g20
      replace g20 : mo_G mo_zr (ja_up (ja_up (ja_up (ja_up (ja_up h 0 206 ((h 0 206) - 1)) 0 207 1) 136 (((h 0 206) - 1).toNat) 1) 137 (((h 0 206) - 1).toNat) v19) 0 206 (((h 0 206) - 1) + 1)) := g20
      show mJ l D cA ad 3 cX12_ifWord 7 none 164 [(3, (0, (h 137 ((h 0 206) - 1).toNat))), (2, (0, (h 136 ((h 0 206) - 1).toNat))), (0, (2, ((0 : Nat) : Int))), (1, (0, a1))] [] (ja_up (ja_up (ja_up (ja_up (ja_up h 0 206 ((h 0 206) - 1)) 0 207 1) 136 (((h 0 206) - 1).toNat) 1) 137 (((h 0 206) - 1).toNat) v19) 0 206 (((h 0 206) - 1) + 1)) Q
      refine ja_goto 334 difWord_164 rfl ?_
      refine ja_return difWord_334 rfl ?_
      exact k1 (ja_up (ja_up (ja_up (ja_up (ja_up h 0 206 ((h 0 206) - 1)) 0 207 1) 136 (((h 0 206) - 1).toNat) 1) 137 (((h 0 206) - 1).toNat) v19) 0 206 (((h 0 206) - 1) + 1)) (⟨(by (repeat (first | exact ag_refl | refine ag_up rfl ?_))), (by (repeat (first | exact p2 | refine vi_set (by decide) (by decide) (by decide) ?_ (by first | exact (fun z => absurd z (by decide)) | exact vi_aS p2 (by decide) _ | exact (fun z => ⟨by omega, hca⟩) | exact (fun z => ⟨by omega, hca z⟩) | (intro z; exfalso; omega)) | refine vi_res ?_ (by first | exact (fun z => absurd z (by decide)) | exact vi_aS p2 (by decide) _ | exact (fun z => ⟨by omega, hca⟩) | exact (fun z => ⟨by omega, hca z⟩) | (intro z; exfalso; omega)) | refine vi_up (by decide) (by decide) ?_))), (show ((h 74 (a1).toNat) = 9 ∧ ((((h 0 206) - 1) + 1) : Int) = (h 0 206) - 1) ∨ (¬ (h 74 (a1).toNat) = 9 ∧ ((((h 0 206) - 1) + 1) : Int) = (h 0 206)) by omega)⟩) g20
  have T36_80 : (h 74 (a1).toNat = 14) → mJ l D cA ad 3 cX12_ifWord 7 none 80 [(3, (0, (h 137 ((h 0 206) - 1).toNat))), (2, (0, (h 136 ((h 0 206) - 1).toNat))), (0, (2, ((0 : Nat) : Int))), (1, (0, a1))] [] (ja_up h 0 206 ((h 0 206) - 1)) Q := by
    intro e36
    refine ja_aload_n difWord_80 rfl rfl ?_
    refine ja_iconst difWord_81 ?_
    refine ja_iload_n difWord_82 rfl rfl ?_
    refine ja_iload_n difWord_83 rfl rfl ?_
    refine t_isTrue (by decide) (show (2 : Nat) ≤ 8 by decide) difWord_84 g2 ⟨by omega, by omega⟩ ⟨by omega, by omega⟩ ?_
    intro w21 k84_0
    replace k84_0 : 0 ≤ w21 ∧ w21 ≤ 1 := k84_0
    refine t_asWhole (by decide) (show (2 : Nat) ≤ 8 by decide) difWord_87 g2 ⟨by omega, by omega⟩ ?_
    intro w22 k87_0
    replace k87_0 : 0 ≤ w22 ∧ w22 ≤ 1 := k87_0
    refine t_ePut (by decide) (show (0 : Nat) ≤ 8 by decide) difWord_90 g2 ⟨by decide, by decide⟩ ⟨by omega, by omega⟩ (show 0 ≤ 1 ∧ 1 ≤ 2 by omega) (show ((h 0 206) - 1) < 64 by omega) ?_
    intro g23
    replace g23 : mo_G mo_zr (ja_up (ja_up (ja_up (ja_up h 0 206 ((h 0 206) - 1)) 136 (((h 0 206) - 1).toNat) 1) 137 (((h 0 206) - 1).toNat) w22) 0 206 (((h 0 206) - 1) + 1)) := g23
    show mJ l D cA ad 3 cX12_ifWord 7 none 93 [(3, (0, (h 137 ((h 0 206) - 1).toNat))), (2, (0, (h 136 ((h 0 206) - 1).toNat))), (0, (2, ((0 : Nat) : Int))), (1, (0, a1))] [] (ja_up (ja_up (ja_up (ja_up h 0 206 ((h 0 206) - 1)) 136 (((h 0 206) - 1).toNat) 1) 137 (((h 0 206) - 1).toNat) w22) 0 206 (((h 0 206) - 1) + 1)) Q
    refine ja_goto 334 difWord_93 rfl ?_
    refine ja_return difWord_334 rfl ?_
    exact k1 (ja_up (ja_up (ja_up (ja_up h 0 206 ((h 0 206) - 1)) 136 (((h 0 206) - 1).toNat) 1) 137 (((h 0 206) - 1).toNat) w22) 0 206 (((h 0 206) - 1) + 1)) (⟨(by (repeat (first | exact ag_refl | refine ag_up rfl ?_))), (by (repeat (first | exact p2 | refine vi_set (by decide) (by decide) (by decide) ?_ (by first | exact (fun z => absurd z (by decide)) | exact vi_aS p2 (by decide) _ | exact (fun z => ⟨by omega, hca⟩) | exact (fun z => ⟨by omega, hca z⟩) | (intro z; exfalso; omega)) | refine vi_res ?_ (by first | exact (fun z => absurd z (by decide)) | exact vi_aS p2 (by decide) _ | exact (fun z => ⟨by omega, hca⟩) | exact (fun z => ⟨by omega, hca z⟩) | (intro z; exfalso; omega)) | refine vi_up (by decide) (by decide) ?_))), (show ((h 74 (a1).toNat) = 9 ∧ ((((h 0 206) - 1) + 1) : Int) = (h 0 206) - 1) ∨ (¬ (h 74 (a1).toNat) = 9 ∧ ((((h 0 206) - 1) + 1) : Int) = (h 0 206)) by omega)⟩) g23
  have T36_167 : (h 74 (a1).toNat < 8 ∨ 14 < h 74 (a1).toNat ∨ h 74 (a1).toNat = 9 ∨ h 74 (a1).toNat = 12 ∨ h 74 (a1).toNat = 13) → mJ l D cA ad 3 cX12_ifWord 7 none 167 [(3, (0, (h 137 ((h 0 206) - 1).toNat))), (2, (0, (h 136 ((h 0 206) - 1).toNat))), (0, (2, ((0 : Nat) : Int))), (1, (0, a1))] [] (ja_up h 0 206 ((h 0 206) - 1)) Q := by
    intro e36
    refine ja_aload_n difWord_167 rfl rfl ?_
    refine ja_dup difWord_168 (by decide) ?_
    refine fg_ePile (v := (h 0 206) - 1) rfl difWord_169 ?_
    refine ja_iconst difWord_172 ?_
    refine ja_isub difWord_173 ?_
    have g24 := gP_ePile g2 (x := ((h 0 206) - 1) - 1) ⟨by omega, by omega⟩
    refine fp_ePile difWord_174 ?_
    refine ja_aload_n difWord_177 rfl rfl ?_
    refine fa_ePileKind difWord_178 ?_
    refine ja_aload_n difWord_181 rfl rfl ?_
    refine fg_ePile (v := ((h 0 206) - 1) - 1) rfl difWord_182 ?_
    refine il_ePileKind (v := h 136 (((h 0 206) - 1) - 1).toNat) rfl ⟨by omega, by omega⟩ difWord_185 ?_
    have f25 := gC_ePileKind g (((h 0 206) - 1) - 1).toNat
    refine ja_istore difWord_186 (by decide) (L2 := [(4, (0, (h 136 (((h 0 206) - 1) - 1).toNat))), (3, (0, (h 137 ((h 0 206) - 1).toNat))), (2, (0, (h 136 ((h 0 206) - 1).toNat))), (0, (2, ((0 : Nat) : Int))), (1, (0, a1))]) rfl ?_
    refine ja_aload_n difWord_188 rfl rfl ?_
    refine fa_ePileValue difWord_189 ?_
    refine ja_aload_n difWord_192 rfl rfl ?_
    refine fg_ePile (v := ((h 0 206) - 1) - 1) rfl difWord_193 ?_
    refine il_ePileValue (v := h 137 (((h 0 206) - 1) - 1).toNat) rfl ⟨by omega, by omega⟩ difWord_196 ?_
    have f26 := gC_ePileValue g (((h 0 206) - 1) - 1).toNat
    refine ja_istore difWord_197 (by decide) (L2 := [(5, (0, (h 137 (((h 0 206) - 1) - 1).toNat))), (4, (0, (h 136 (((h 0 206) - 1) - 1).toNat))), (3, (0, (h 137 ((h 0 206) - 1).toNat))), (2, (0, (h 136 ((h 0 206) - 1).toNat))), (0, (2, ((0 : Nat) : Int))), (1, (0, a1))]) rfl ?_
    refine ja_aload_n difWord_199 rfl rfl ?_
    refine fa_opA difWord_200 ?_
    refine ja_iload_n difWord_203 rfl rfl ?_
    refine il_opA (v := h 75 (a1).toNat) rfl ⟨by omega, by omega⟩ difWord_204 ?_
    have f27 := gC_opA g (a1).toNat
    refine ja_istore difWord_205 (by decide) (L2 := [(6, (0, (h 75 (a1).toNat))), (5, (0, (h 137 (((h 0 206) - 1) - 1).toNat))), (4, (0, (h 136 (((h 0 206) - 1) - 1).toNat))), (3, (0, (h 137 ((h 0 206) - 1).toNat))), (2, (0, (h 136 ((h 0 206) - 1).toNat))), (0, (2, ((0 : Nat) : Int))), (1, (0, a1))]) rfl ?_
    refine ja_iload difWord_207 rfl ?_
    refine ja_sipush 300 difWord_209 rfl ?_
    refine ja_icmp_eq 223 difWord_212 rfl ⟨by omega, by omega⟩ ⟨by decide, by decide⟩ (fun c212 => ?_) (fun c212 => ?_)
    · refine ja_aload_n difWord_223 rfl rfl ?_
      refine ja_iconst difWord_224 ?_
      refine ja_iload difWord_225 rfl ?_
      refine ja_iload_n difWord_227 rfl rfl ?_
      refine ja_icmp_ne 241 difWord_228 rfl ⟨by omega, by omega⟩ ⟨by omega, by omega⟩ (fun c228 => ?_) (fun c228 => ?_)
      · refine ja_iconst difWord_241 ?_
        refine ja_iload difWord_242 rfl ?_
        refine ja_sipush 300 difWord_244 rfl ?_
        refine ja_icmp_ne 254 difWord_247 rfl ⟨by omega, by omega⟩ ⟨by decide, by decide⟩ (fun c247 => ?_) (fun c247 => ?_)
        · refine ja_iconst difWord_254 ?_
          refine ja_icmp_ne 262 difWord_255 rfl ⟨by decide, by decide⟩ ⟨by decide, by decide⟩ (fun c255 => absurd c255 (by omega)) (fun c255 => ?_)
          refine ja_iconst difWord_258 ?_
          refine ja_goto 263 difWord_259 rfl ?_
          refine t_asWhole (by decide) (show (2 : Nat) ≤ 8 by decide) difWord_263 g24 ⟨by decide, by decide⟩ ?_
          intro w28 k263_0
          replace k263_0 : 0 ≤ w28 ∧ w28 ≤ 1 := k263_0
          refine t_ePut (by decide) (show (0 : Nat) ≤ 8 by decide) difWord_266 g24 ⟨by decide, by decide⟩ ⟨by omega, by omega⟩ (show 0 ≤ 1 ∧ 1 ≤ 2 by omega) (show (((h 0 206) - 1) - 1) < 64 by omega) ?_
          intro g29
          replace g29 : mo_G mo_zr (ja_up (ja_up (ja_up (ja_up (ja_up h 0 206 ((h 0 206) - 1)) 0 206 (((h 0 206) - 1) - 1)) 136 ((((h 0 206) - 1) - 1).toNat) 1) 137 ((((h 0 206) - 1) - 1).toNat) w28) 0 206 ((((h 0 206) - 1) - 1) + 1)) := g29
          show mJ l D cA ad 3 cX12_ifWord 7 none 269 [(6, (0, (h 75 (a1).toNat))), (5, (0, (h 137 (((h 0 206) - 1) - 1).toNat))), (4, (0, (h 136 (((h 0 206) - 1) - 1).toNat))), (3, (0, (h 137 ((h 0 206) - 1).toNat))), (2, (0, (h 136 ((h 0 206) - 1).toNat))), (0, (2, ((0 : Nat) : Int))), (1, (0, a1))] [] (ja_up (ja_up (ja_up (ja_up (ja_up h 0 206 ((h 0 206) - 1)) 0 206 (((h 0 206) - 1) - 1)) 136 ((((h 0 206) - 1) - 1).toNat) 1) 137 ((((h 0 206) - 1) - 1).toNat) w28) 0 206 ((((h 0 206) - 1) - 1) + 1)) Q
          refine ja_goto 334 difWord_269 rfl ?_
          refine ja_return difWord_334 rfl ?_
          exact k1 (ja_up (ja_up (ja_up (ja_up (ja_up h 0 206 ((h 0 206) - 1)) 0 206 (((h 0 206) - 1) - 1)) 136 ((((h 0 206) - 1) - 1).toNat) 1) 137 ((((h 0 206) - 1) - 1).toNat) w28) 0 206 ((((h 0 206) - 1) - 1) + 1)) (⟨(by (repeat (first | exact ag_refl | refine ag_up rfl ?_))), (by (repeat (first | exact p2 | refine vi_set (by decide) (by decide) (by decide) ?_ (by first | exact (fun z => absurd z (by decide)) | exact vi_aS p2 (by decide) _ | exact (fun z => ⟨by omega, hca⟩) | exact (fun z => ⟨by omega, hca z⟩) | (intro z; exfalso; omega)) | refine vi_res ?_ (by first | exact (fun z => absurd z (by decide)) | exact vi_aS p2 (by decide) _ | exact (fun z => ⟨by omega, hca⟩) | exact (fun z => ⟨by omega, hca z⟩) | (intro z; exfalso; omega)) | refine vi_up (by decide) (by decide) ?_))), (show ((h 74 (a1).toNat) = 9 ∧ (((((h 0 206) - 1) - 1) + 1) : Int) = (h 0 206) - 1) ∨ (¬ (h 74 (a1).toNat) = 9 ∧ (((((h 0 206) - 1) - 1) + 1) : Int) = (h 0 206)) by omega)⟩) g29
        · refine ja_iconst difWord_250 ?_
          refine ja_goto 255 difWord_251 rfl ?_
          refine ja_icmp_ne 262 difWord_255 rfl ⟨by decide, by decide⟩ ⟨by decide, by decide⟩ (fun c255 => ?_) (fun c255 => absurd c255 (by omega))
          refine ja_iconst difWord_262 ?_
          refine t_asWhole (by decide) (show (2 : Nat) ≤ 8 by decide) difWord_263 g24 ⟨by decide, by decide⟩ ?_
          intro w30 k263_0
          replace k263_0 : 0 ≤ w30 ∧ w30 ≤ 1 := k263_0
          refine t_ePut (by decide) (show (0 : Nat) ≤ 8 by decide) difWord_266 g24 ⟨by decide, by decide⟩ ⟨by omega, by omega⟩ (show 0 ≤ 1 ∧ 1 ≤ 2 by omega) (show (((h 0 206) - 1) - 1) < 64 by omega) ?_
          intro g31
          replace g31 : mo_G mo_zr (ja_up (ja_up (ja_up (ja_up (ja_up h 0 206 ((h 0 206) - 1)) 0 206 (((h 0 206) - 1) - 1)) 136 ((((h 0 206) - 1) - 1).toNat) 1) 137 ((((h 0 206) - 1) - 1).toNat) w30) 0 206 ((((h 0 206) - 1) - 1) + 1)) := g31
          show mJ l D cA ad 3 cX12_ifWord 7 none 269 [(6, (0, (h 75 (a1).toNat))), (5, (0, (h 137 (((h 0 206) - 1) - 1).toNat))), (4, (0, (h 136 (((h 0 206) - 1) - 1).toNat))), (3, (0, (h 137 ((h 0 206) - 1).toNat))), (2, (0, (h 136 ((h 0 206) - 1).toNat))), (0, (2, ((0 : Nat) : Int))), (1, (0, a1))] [] (ja_up (ja_up (ja_up (ja_up (ja_up h 0 206 ((h 0 206) - 1)) 0 206 (((h 0 206) - 1) - 1)) 136 ((((h 0 206) - 1) - 1).toNat) 1) 137 ((((h 0 206) - 1) - 1).toNat) w30) 0 206 ((((h 0 206) - 1) - 1) + 1)) Q
          refine ja_goto 334 difWord_269 rfl ?_
          refine ja_return difWord_334 rfl ?_
          exact k1 (ja_up (ja_up (ja_up (ja_up (ja_up h 0 206 ((h 0 206) - 1)) 0 206 (((h 0 206) - 1) - 1)) 136 ((((h 0 206) - 1) - 1).toNat) 1) 137 ((((h 0 206) - 1) - 1).toNat) w30) 0 206 ((((h 0 206) - 1) - 1) + 1)) (⟨(by (repeat (first | exact ag_refl | refine ag_up rfl ?_))), (by (repeat (first | exact p2 | refine vi_set (by decide) (by decide) (by decide) ?_ (by first | exact (fun z => absurd z (by decide)) | exact vi_aS p2 (by decide) _ | exact (fun z => ⟨by omega, hca⟩) | exact (fun z => ⟨by omega, hca z⟩) | (intro z; exfalso; omega)) | refine vi_res ?_ (by first | exact (fun z => absurd z (by decide)) | exact vi_aS p2 (by decide) _ | exact (fun z => ⟨by omega, hca⟩) | exact (fun z => ⟨by omega, hca z⟩) | (intro z; exfalso; omega)) | refine vi_up (by decide) (by decide) ?_))), (show ((h 74 (a1).toNat) = 9 ∧ (((((h 0 206) - 1) - 1) + 1) : Int) = (h 0 206) - 1) ∨ (¬ (h 74 (a1).toNat) = 9 ∧ (((((h 0 206) - 1) - 1) + 1) : Int) = (h 0 206)) by omega)⟩) g31
      · refine ja_iload difWord_231 rfl ?_
        refine ja_iload_n difWord_233 rfl rfl ?_
        refine ja_icmp_ne 241 difWord_234 rfl ⟨by omega, by omega⟩ ⟨by omega, by omega⟩ (fun c234 => ?_) (fun c234 => ?_)
        · refine ja_iconst difWord_241 ?_
          refine ja_iload difWord_242 rfl ?_
          refine ja_sipush 300 difWord_244 rfl ?_
          refine ja_icmp_ne 254 difWord_247 rfl ⟨by omega, by omega⟩ ⟨by decide, by decide⟩ (fun c247 => ?_) (fun c247 => ?_)
          · refine ja_iconst difWord_254 ?_
            refine ja_icmp_ne 262 difWord_255 rfl ⟨by decide, by decide⟩ ⟨by decide, by decide⟩ (fun c255 => absurd c255 (by omega)) (fun c255 => ?_)
            refine ja_iconst difWord_258 ?_
            refine ja_goto 263 difWord_259 rfl ?_
            refine t_asWhole (by decide) (show (2 : Nat) ≤ 8 by decide) difWord_263 g24 ⟨by decide, by decide⟩ ?_
            intro w32 k263_0
            replace k263_0 : 0 ≤ w32 ∧ w32 ≤ 1 := k263_0
            refine t_ePut (by decide) (show (0 : Nat) ≤ 8 by decide) difWord_266 g24 ⟨by decide, by decide⟩ ⟨by omega, by omega⟩ (show 0 ≤ 1 ∧ 1 ≤ 2 by omega) (show (((h 0 206) - 1) - 1) < 64 by omega) ?_
            intro g33
            replace g33 : mo_G mo_zr (ja_up (ja_up (ja_up (ja_up (ja_up h 0 206 ((h 0 206) - 1)) 0 206 (((h 0 206) - 1) - 1)) 136 ((((h 0 206) - 1) - 1).toNat) 1) 137 ((((h 0 206) - 1) - 1).toNat) w32) 0 206 ((((h 0 206) - 1) - 1) + 1)) := g33
            show mJ l D cA ad 3 cX12_ifWord 7 none 269 [(6, (0, (h 75 (a1).toNat))), (5, (0, (h 137 (((h 0 206) - 1) - 1).toNat))), (4, (0, (h 136 (((h 0 206) - 1) - 1).toNat))), (3, (0, (h 137 ((h 0 206) - 1).toNat))), (2, (0, (h 136 ((h 0 206) - 1).toNat))), (0, (2, ((0 : Nat) : Int))), (1, (0, a1))] [] (ja_up (ja_up (ja_up (ja_up (ja_up h 0 206 ((h 0 206) - 1)) 0 206 (((h 0 206) - 1) - 1)) 136 ((((h 0 206) - 1) - 1).toNat) 1) 137 ((((h 0 206) - 1) - 1).toNat) w32) 0 206 ((((h 0 206) - 1) - 1) + 1)) Q
            refine ja_goto 334 difWord_269 rfl ?_
            refine ja_return difWord_334 rfl ?_
            exact k1 (ja_up (ja_up (ja_up (ja_up (ja_up h 0 206 ((h 0 206) - 1)) 0 206 (((h 0 206) - 1) - 1)) 136 ((((h 0 206) - 1) - 1).toNat) 1) 137 ((((h 0 206) - 1) - 1).toNat) w32) 0 206 ((((h 0 206) - 1) - 1) + 1)) (⟨(by (repeat (first | exact ag_refl | refine ag_up rfl ?_))), (by (repeat (first | exact p2 | refine vi_set (by decide) (by decide) (by decide) ?_ (by first | exact (fun z => absurd z (by decide)) | exact vi_aS p2 (by decide) _ | exact (fun z => ⟨by omega, hca⟩) | exact (fun z => ⟨by omega, hca z⟩) | (intro z; exfalso; omega)) | refine vi_res ?_ (by first | exact (fun z => absurd z (by decide)) | exact vi_aS p2 (by decide) _ | exact (fun z => ⟨by omega, hca⟩) | exact (fun z => ⟨by omega, hca z⟩) | (intro z; exfalso; omega)) | refine vi_up (by decide) (by decide) ?_))), (show ((h 74 (a1).toNat) = 9 ∧ (((((h 0 206) - 1) - 1) + 1) : Int) = (h 0 206) - 1) ∨ (¬ (h 74 (a1).toNat) = 9 ∧ (((((h 0 206) - 1) - 1) + 1) : Int) = (h 0 206)) by omega)⟩) g33
          · refine ja_iconst difWord_250 ?_
            refine ja_goto 255 difWord_251 rfl ?_
            refine ja_icmp_ne 262 difWord_255 rfl ⟨by decide, by decide⟩ ⟨by decide, by decide⟩ (fun c255 => ?_) (fun c255 => absurd c255 (by omega))
            refine ja_iconst difWord_262 ?_
            refine t_asWhole (by decide) (show (2 : Nat) ≤ 8 by decide) difWord_263 g24 ⟨by decide, by decide⟩ ?_
            intro w34 k263_0
            replace k263_0 : 0 ≤ w34 ∧ w34 ≤ 1 := k263_0
            refine t_ePut (by decide) (show (0 : Nat) ≤ 8 by decide) difWord_266 g24 ⟨by decide, by decide⟩ ⟨by omega, by omega⟩ (show 0 ≤ 1 ∧ 1 ≤ 2 by omega) (show (((h 0 206) - 1) - 1) < 64 by omega) ?_
            intro g35
            replace g35 : mo_G mo_zr (ja_up (ja_up (ja_up (ja_up (ja_up h 0 206 ((h 0 206) - 1)) 0 206 (((h 0 206) - 1) - 1)) 136 ((((h 0 206) - 1) - 1).toNat) 1) 137 ((((h 0 206) - 1) - 1).toNat) w34) 0 206 ((((h 0 206) - 1) - 1) + 1)) := g35
            show mJ l D cA ad 3 cX12_ifWord 7 none 269 [(6, (0, (h 75 (a1).toNat))), (5, (0, (h 137 (((h 0 206) - 1) - 1).toNat))), (4, (0, (h 136 (((h 0 206) - 1) - 1).toNat))), (3, (0, (h 137 ((h 0 206) - 1).toNat))), (2, (0, (h 136 ((h 0 206) - 1).toNat))), (0, (2, ((0 : Nat) : Int))), (1, (0, a1))] [] (ja_up (ja_up (ja_up (ja_up (ja_up h 0 206 ((h 0 206) - 1)) 0 206 (((h 0 206) - 1) - 1)) 136 ((((h 0 206) - 1) - 1).toNat) 1) 137 ((((h 0 206) - 1) - 1).toNat) w34) 0 206 ((((h 0 206) - 1) - 1) + 1)) Q
            refine ja_goto 334 difWord_269 rfl ?_
            refine ja_return difWord_334 rfl ?_
            exact k1 (ja_up (ja_up (ja_up (ja_up (ja_up h 0 206 ((h 0 206) - 1)) 0 206 (((h 0 206) - 1) - 1)) 136 ((((h 0 206) - 1) - 1).toNat) 1) 137 ((((h 0 206) - 1) - 1).toNat) w34) 0 206 ((((h 0 206) - 1) - 1) + 1)) (⟨(by (repeat (first | exact ag_refl | refine ag_up rfl ?_))), (by (repeat (first | exact p2 | refine vi_set (by decide) (by decide) (by decide) ?_ (by first | exact (fun z => absurd z (by decide)) | exact vi_aS p2 (by decide) _ | exact (fun z => ⟨by omega, hca⟩) | exact (fun z => ⟨by omega, hca z⟩) | (intro z; exfalso; omega)) | refine vi_res ?_ (by first | exact (fun z => absurd z (by decide)) | exact vi_aS p2 (by decide) _ | exact (fun z => ⟨by omega, hca⟩) | exact (fun z => ⟨by omega, hca z⟩) | (intro z; exfalso; omega)) | refine vi_up (by decide) (by decide) ?_))), (show ((h 74 (a1).toNat) = 9 ∧ (((((h 0 206) - 1) - 1) + 1) : Int) = (h 0 206) - 1) ∨ (¬ (h 74 (a1).toNat) = 9 ∧ (((((h 0 206) - 1) - 1) + 1) : Int) = (h 0 206)) by omega)⟩) g35
        · refine ja_iconst difWord_237 ?_
          refine ja_goto 242 difWord_238 rfl ?_
          refine ja_iload difWord_242 rfl ?_
          refine ja_sipush 300 difWord_244 rfl ?_
          refine ja_icmp_ne 254 difWord_247 rfl ⟨by omega, by omega⟩ ⟨by decide, by decide⟩ (fun c247 => ?_) (fun c247 => ?_)
          · refine ja_iconst difWord_254 ?_
            refine ja_icmp_ne 262 difWord_255 rfl ⟨by decide, by decide⟩ ⟨by decide, by decide⟩ (fun c255 => ?_) (fun c255 => absurd c255 (by omega))
            refine ja_iconst difWord_262 ?_
            refine t_asWhole (by decide) (show (2 : Nat) ≤ 8 by decide) difWord_263 g24 ⟨by decide, by decide⟩ ?_
            intro w36 k263_0
            replace k263_0 : 0 ≤ w36 ∧ w36 ≤ 1 := k263_0
            refine t_ePut (by decide) (show (0 : Nat) ≤ 8 by decide) difWord_266 g24 ⟨by decide, by decide⟩ ⟨by omega, by omega⟩ (show 0 ≤ 1 ∧ 1 ≤ 2 by omega) (show (((h 0 206) - 1) - 1) < 64 by omega) ?_
            intro g37
            replace g37 : mo_G mo_zr (ja_up (ja_up (ja_up (ja_up (ja_up h 0 206 ((h 0 206) - 1)) 0 206 (((h 0 206) - 1) - 1)) 136 ((((h 0 206) - 1) - 1).toNat) 1) 137 ((((h 0 206) - 1) - 1).toNat) w36) 0 206 ((((h 0 206) - 1) - 1) + 1)) := g37
            show mJ l D cA ad 3 cX12_ifWord 7 none 269 [(6, (0, (h 75 (a1).toNat))), (5, (0, (h 137 (((h 0 206) - 1) - 1).toNat))), (4, (0, (h 136 (((h 0 206) - 1) - 1).toNat))), (3, (0, (h 137 ((h 0 206) - 1).toNat))), (2, (0, (h 136 ((h 0 206) - 1).toNat))), (0, (2, ((0 : Nat) : Int))), (1, (0, a1))] [] (ja_up (ja_up (ja_up (ja_up (ja_up h 0 206 ((h 0 206) - 1)) 0 206 (((h 0 206) - 1) - 1)) 136 ((((h 0 206) - 1) - 1).toNat) 1) 137 ((((h 0 206) - 1) - 1).toNat) w36) 0 206 ((((h 0 206) - 1) - 1) + 1)) Q
            refine ja_goto 334 difWord_269 rfl ?_
            refine ja_return difWord_334 rfl ?_
            exact k1 (ja_up (ja_up (ja_up (ja_up (ja_up h 0 206 ((h 0 206) - 1)) 0 206 (((h 0 206) - 1) - 1)) 136 ((((h 0 206) - 1) - 1).toNat) 1) 137 ((((h 0 206) - 1) - 1).toNat) w36) 0 206 ((((h 0 206) - 1) - 1) + 1)) (⟨(by (repeat (first | exact ag_refl | refine ag_up rfl ?_))), (by (repeat (first | exact p2 | refine vi_set (by decide) (by decide) (by decide) ?_ (by first | exact (fun z => absurd z (by decide)) | exact vi_aS p2 (by decide) _ | exact (fun z => ⟨by omega, hca⟩) | exact (fun z => ⟨by omega, hca z⟩) | (intro z; exfalso; omega)) | refine vi_res ?_ (by first | exact (fun z => absurd z (by decide)) | exact vi_aS p2 (by decide) _ | exact (fun z => ⟨by omega, hca⟩) | exact (fun z => ⟨by omega, hca z⟩) | (intro z; exfalso; omega)) | refine vi_up (by decide) (by decide) ?_))), (show ((h 74 (a1).toNat) = 9 ∧ (((((h 0 206) - 1) - 1) + 1) : Int) = (h 0 206) - 1) ∨ (¬ (h 74 (a1).toNat) = 9 ∧ (((((h 0 206) - 1) - 1) + 1) : Int) = (h 0 206)) by omega)⟩) g37
          · refine ja_iconst difWord_250 ?_
            refine ja_goto 255 difWord_251 rfl ?_
            refine ja_icmp_ne 262 difWord_255 rfl ⟨by decide, by decide⟩ ⟨by decide, by decide⟩ (fun c255 => absurd c255 (by omega)) (fun c255 => ?_)
            refine ja_iconst difWord_258 ?_
            refine ja_goto 263 difWord_259 rfl ?_
            refine t_asWhole (by decide) (show (2 : Nat) ≤ 8 by decide) difWord_263 g24 ⟨by decide, by decide⟩ ?_
            intro w38 k263_0
            replace k263_0 : 0 ≤ w38 ∧ w38 ≤ 1 := k263_0
            refine t_ePut (by decide) (show (0 : Nat) ≤ 8 by decide) difWord_266 g24 ⟨by decide, by decide⟩ ⟨by omega, by omega⟩ (show 0 ≤ 1 ∧ 1 ≤ 2 by omega) (show (((h 0 206) - 1) - 1) < 64 by omega) ?_
            intro g39
            replace g39 : mo_G mo_zr (ja_up (ja_up (ja_up (ja_up (ja_up h 0 206 ((h 0 206) - 1)) 0 206 (((h 0 206) - 1) - 1)) 136 ((((h 0 206) - 1) - 1).toNat) 1) 137 ((((h 0 206) - 1) - 1).toNat) w38) 0 206 ((((h 0 206) - 1) - 1) + 1)) := g39
            show mJ l D cA ad 3 cX12_ifWord 7 none 269 [(6, (0, (h 75 (a1).toNat))), (5, (0, (h 137 (((h 0 206) - 1) - 1).toNat))), (4, (0, (h 136 (((h 0 206) - 1) - 1).toNat))), (3, (0, (h 137 ((h 0 206) - 1).toNat))), (2, (0, (h 136 ((h 0 206) - 1).toNat))), (0, (2, ((0 : Nat) : Int))), (1, (0, a1))] [] (ja_up (ja_up (ja_up (ja_up (ja_up h 0 206 ((h 0 206) - 1)) 0 206 (((h 0 206) - 1) - 1)) 136 ((((h 0 206) - 1) - 1).toNat) 1) 137 ((((h 0 206) - 1) - 1).toNat) w38) 0 206 ((((h 0 206) - 1) - 1) + 1)) Q
            refine ja_goto 334 difWord_269 rfl ?_
            refine ja_return difWord_334 rfl ?_
            exact k1 (ja_up (ja_up (ja_up (ja_up (ja_up h 0 206 ((h 0 206) - 1)) 0 206 (((h 0 206) - 1) - 1)) 136 ((((h 0 206) - 1) - 1).toNat) 1) 137 ((((h 0 206) - 1) - 1).toNat) w38) 0 206 ((((h 0 206) - 1) - 1) + 1)) (⟨(by (repeat (first | exact ag_refl | refine ag_up rfl ?_))), (by (repeat (first | exact p2 | refine vi_set (by decide) (by decide) (by decide) ?_ (by first | exact (fun z => absurd z (by decide)) | exact vi_aS p2 (by decide) _ | exact (fun z => ⟨by omega, hca⟩) | exact (fun z => ⟨by omega, hca z⟩) | (intro z; exfalso; omega)) | refine vi_res ?_ (by first | exact (fun z => absurd z (by decide)) | exact vi_aS p2 (by decide) _ | exact (fun z => ⟨by omega, hca⟩) | exact (fun z => ⟨by omega, hca z⟩) | (intro z; exfalso; omega)) | refine vi_up (by decide) (by decide) ?_))), (show ((h 74 (a1).toNat) = 9 ∧ (((((h 0 206) - 1) - 1) + 1) : Int) = (h 0 206) - 1) ∨ (¬ (h 74 (a1).toNat) = 9 ∧ (((((h 0 206) - 1) - 1) + 1) : Int) = (h 0 206)) by omega)⟩) g39
    · refine ja_iload difWord_215 rfl ?_
      refine ja_sipush 301 difWord_217 rfl ?_
      refine ja_icmp_ne 272 difWord_220 rfl ⟨by omega, by omega⟩ ⟨by decide, by decide⟩ (fun c220 => ?_) (fun c220 => ?_)
      · refine ja_aload_n difWord_272 rfl rfl ?_
        refine ja_iload difWord_273 rfl ?_
        refine ja_iconst difWord_275 ?_
        refine ja_icmp_ne 302 difWord_276 rfl ⟨by omega, by omega⟩ ⟨by decide, by decide⟩ (fun c276 => ?_) (fun c276 => ?_)
        · refine ja_iconst difWord_302 ?_
          refine ja_goto 307 difWord_303 rfl ?_
          have g40 := gP_eFails g24 (x := 1) ⟨by decide, by decide⟩
          refine fp_eFails (by omega) difWord_307 ?_
          refine ja_aload_n difWord_310 rfl rfl ?_
          refine ja_iconst difWord_311 ?_
          refine ja_aload_n difWord_312 rfl rfl ?_
          refine fg_eFails (v := 1) rfl difWord_313 ?_
          refine ja_if_eq 323 difWord_316 rfl ⟨by decide, by decide⟩ (fun c316 => absurd c316 (by omega)) (fun c316 => ?_)
          refine ja_iconst difWord_319 ?_
          refine ja_goto 331 difWord_320 rfl ?_
          refine t_ePut (by decide) (show (0 : Nat) ≤ 8 by decide) difWord_331 g40 ⟨by decide, by decide⟩ ⟨by decide, by decide⟩ (show 0 ≤ 1 ∧ 1 ≤ 2 by omega) (show (((h 0 206) - 1) - 1) < 64 by omega) ?_
          intro g41
          replace g41 : mo_G mo_zr (ja_up (ja_up (ja_up (ja_up (ja_up (ja_up h 0 206 ((h 0 206) - 1)) 0 206 (((h 0 206) - 1) - 1)) 0 207 1) 136 ((((h 0 206) - 1) - 1).toNat) 1) 137 ((((h 0 206) - 1) - 1).toNat) 0) 0 206 ((((h 0 206) - 1) - 1) + 1)) := g41
          show mJ l D cA ad 3 cX12_ifWord 7 none 334 [(6, (0, (h 75 (a1).toNat))), (5, (0, (h 137 (((h 0 206) - 1) - 1).toNat))), (4, (0, (h 136 (((h 0 206) - 1) - 1).toNat))), (3, (0, (h 137 ((h 0 206) - 1).toNat))), (2, (0, (h 136 ((h 0 206) - 1).toNat))), (0, (2, ((0 : Nat) : Int))), (1, (0, a1))] [] (ja_up (ja_up (ja_up (ja_up (ja_up (ja_up h 0 206 ((h 0 206) - 1)) 0 206 (((h 0 206) - 1) - 1)) 0 207 1) 136 ((((h 0 206) - 1) - 1).toNat) 1) 137 ((((h 0 206) - 1) - 1).toNat) 0) 0 206 ((((h 0 206) - 1) - 1) + 1)) Q
          refine ja_return difWord_334 rfl ?_
          exact k1 (ja_up (ja_up (ja_up (ja_up (ja_up (ja_up h 0 206 ((h 0 206) - 1)) 0 206 (((h 0 206) - 1) - 1)) 0 207 1) 136 ((((h 0 206) - 1) - 1).toNat) 1) 137 ((((h 0 206) - 1) - 1).toNat) 0) 0 206 ((((h 0 206) - 1) - 1) + 1)) (⟨(by (repeat (first | exact ag_refl | refine ag_up rfl ?_))), (by (repeat (first | exact p2 | refine vi_set (by decide) (by decide) (by decide) ?_ (by first | exact (fun z => absurd z (by decide)) | exact vi_aS p2 (by decide) _ | exact (fun z => ⟨by omega, hca⟩) | exact (fun z => ⟨by omega, hca z⟩) | (intro z; exfalso; omega)) | refine vi_res ?_ (by first | exact (fun z => absurd z (by decide)) | exact vi_aS p2 (by decide) _ | exact (fun z => ⟨by omega, hca⟩) | exact (fun z => ⟨by omega, hca z⟩) | (intro z; exfalso; omega)) | refine vi_up (by decide) (by decide) ?_))), (show ((h 74 (a1).toNat) = 9 ∧ (((((h 0 206) - 1) - 1) + 1) : Int) = (h 0 206) - 1) ∨ (¬ (h 74 (a1).toNat) = 9 ∧ (((((h 0 206) - 1) - 1) + 1) : Int) = (h 0 206)) by omega)⟩) g41
        · refine ja_iload_n difWord_279 rfl rfl ?_
          refine ja_iconst difWord_280 ?_
          refine ja_icmp_ne 302 difWord_281 rfl ⟨by omega, by omega⟩ ⟨by decide, by decide⟩ (fun c281 => ?_) (fun c281 => ?_)
          · refine ja_iconst difWord_302 ?_
            refine ja_goto 307 difWord_303 rfl ?_
            have g42 := gP_eFails g24 (x := 1) ⟨by decide, by decide⟩
            refine fp_eFails (by omega) difWord_307 ?_
            refine ja_aload_n difWord_310 rfl rfl ?_
            refine ja_iconst difWord_311 ?_
            refine ja_aload_n difWord_312 rfl rfl ?_
            refine fg_eFails (v := 1) rfl difWord_313 ?_
            refine ja_if_eq 323 difWord_316 rfl ⟨by decide, by decide⟩ (fun c316 => absurd c316 (by omega)) (fun c316 => ?_)
            refine ja_iconst difWord_319 ?_
            refine ja_goto 331 difWord_320 rfl ?_
            refine t_ePut (by decide) (show (0 : Nat) ≤ 8 by decide) difWord_331 g42 ⟨by decide, by decide⟩ ⟨by decide, by decide⟩ (show 0 ≤ 1 ∧ 1 ≤ 2 by omega) (show (((h 0 206) - 1) - 1) < 64 by omega) ?_
            intro g43
            replace g43 : mo_G mo_zr (ja_up (ja_up (ja_up (ja_up (ja_up (ja_up h 0 206 ((h 0 206) - 1)) 0 206 (((h 0 206) - 1) - 1)) 0 207 1) 136 ((((h 0 206) - 1) - 1).toNat) 1) 137 ((((h 0 206) - 1) - 1).toNat) 0) 0 206 ((((h 0 206) - 1) - 1) + 1)) := g43
            show mJ l D cA ad 3 cX12_ifWord 7 none 334 [(6, (0, (h 75 (a1).toNat))), (5, (0, (h 137 (((h 0 206) - 1) - 1).toNat))), (4, (0, (h 136 (((h 0 206) - 1) - 1).toNat))), (3, (0, (h 137 ((h 0 206) - 1).toNat))), (2, (0, (h 136 ((h 0 206) - 1).toNat))), (0, (2, ((0 : Nat) : Int))), (1, (0, a1))] [] (ja_up (ja_up (ja_up (ja_up (ja_up (ja_up h 0 206 ((h 0 206) - 1)) 0 206 (((h 0 206) - 1) - 1)) 0 207 1) 136 ((((h 0 206) - 1) - 1).toNat) 1) 137 ((((h 0 206) - 1) - 1).toNat) 0) 0 206 ((((h 0 206) - 1) - 1) + 1)) Q
            refine ja_return difWord_334 rfl ?_
            exact k1 (ja_up (ja_up (ja_up (ja_up (ja_up (ja_up h 0 206 ((h 0 206) - 1)) 0 206 (((h 0 206) - 1) - 1)) 0 207 1) 136 ((((h 0 206) - 1) - 1).toNat) 1) 137 ((((h 0 206) - 1) - 1).toNat) 0) 0 206 ((((h 0 206) - 1) - 1) + 1)) (⟨(by (repeat (first | exact ag_refl | refine ag_up rfl ?_))), (by (repeat (first | exact p2 | refine vi_set (by decide) (by decide) (by decide) ?_ (by first | exact (fun z => absurd z (by decide)) | exact vi_aS p2 (by decide) _ | exact (fun z => ⟨by omega, hca⟩) | exact (fun z => ⟨by omega, hca z⟩) | (intro z; exfalso; omega)) | refine vi_res ?_ (by first | exact (fun z => absurd z (by decide)) | exact vi_aS p2 (by decide) _ | exact (fun z => ⟨by omega, hca⟩) | exact (fun z => ⟨by omega, hca z⟩) | (intro z; exfalso; omega)) | refine vi_up (by decide) (by decide) ?_))), (show ((h 74 (a1).toNat) = 9 ∧ (((((h 0 206) - 1) - 1) + 1) : Int) = (h 0 206) - 1) ∨ (¬ (h 74 (a1).toNat) = 9 ∧ (((((h 0 206) - 1) - 1) + 1) : Int) = (h 0 206)) by omega)⟩) g43
          · refine ja_iload_n difWord_284 rfl rfl ?_
            refine ja_if_ne 306 difWord_285 rfl ⟨by omega, by omega⟩ (fun c285 => ?_) (fun c285 => ?_)
            · refine ja_iconst difWord_306 ?_
              have g44 := gP_eFails g24 (x := 0) ⟨by decide, by decide⟩
              refine fp_eFails (by omega) difWord_307 ?_
              refine ja_aload_n difWord_310 rfl rfl ?_
              refine ja_iconst difWord_311 ?_
              refine ja_aload_n difWord_312 rfl rfl ?_
              refine fg_eFails (v := 0) rfl difWord_313 ?_
              refine ja_if_eq 323 difWord_316 rfl ⟨by decide, by decide⟩ (fun c316 => ?_) (fun c316 => absurd c316 (by omega))
              refine ja_iload difWord_323 rfl ?_
              refine ja_iload difWord_325 rfl ?_
              refine ja_iload_n difWord_327 rfl rfl ?_
              refine t_both (by decide) (show (2 : Nat) ≤ 8 by decide) difWord_328 g44 ⟨by omega, by omega⟩ ⟨by omega, by omega⟩ ⟨by omega, by omega⟩ (show ¬ (((h 75 (a1).toNat) = 47 ∨ (h 75 (a1).toNat) = 37) ∧ (h 137 ((h 0 206) - 1).toNat) = 0) by omega) ?_
              intro w45 k328_0
              replace k328_0 : -2147483648 ≤ w45 ∧ w45 ≤ 2147483647 := k328_0
              refine t_ePut (by decide) (show (0 : Nat) ≤ 8 by decide) difWord_331 g44 ⟨by decide, by decide⟩ ⟨by omega, by omega⟩ (show 0 ≤ 1 ∧ 1 ≤ 2 by omega) (show (((h 0 206) - 1) - 1) < 64 by omega) ?_
              intro g46
              replace g46 : mo_G mo_zr (ja_up (ja_up (ja_up (ja_up (ja_up (ja_up h 0 206 ((h 0 206) - 1)) 0 206 (((h 0 206) - 1) - 1)) 0 207 0) 136 ((((h 0 206) - 1) - 1).toNat) 1) 137 ((((h 0 206) - 1) - 1).toNat) w45) 0 206 ((((h 0 206) - 1) - 1) + 1)) := g46
              show mJ l D cA ad 3 cX12_ifWord 7 none 334 [(6, (0, (h 75 (a1).toNat))), (5, (0, (h 137 (((h 0 206) - 1) - 1).toNat))), (4, (0, (h 136 (((h 0 206) - 1) - 1).toNat))), (3, (0, (h 137 ((h 0 206) - 1).toNat))), (2, (0, (h 136 ((h 0 206) - 1).toNat))), (0, (2, ((0 : Nat) : Int))), (1, (0, a1))] [] (ja_up (ja_up (ja_up (ja_up (ja_up (ja_up h 0 206 ((h 0 206) - 1)) 0 206 (((h 0 206) - 1) - 1)) 0 207 0) 136 ((((h 0 206) - 1) - 1).toNat) 1) 137 ((((h 0 206) - 1) - 1).toNat) w45) 0 206 ((((h 0 206) - 1) - 1) + 1)) Q
              refine ja_return difWord_334 rfl ?_
              exact k1 (ja_up (ja_up (ja_up (ja_up (ja_up (ja_up h 0 206 ((h 0 206) - 1)) 0 206 (((h 0 206) - 1) - 1)) 0 207 0) 136 ((((h 0 206) - 1) - 1).toNat) 1) 137 ((((h 0 206) - 1) - 1).toNat) w45) 0 206 ((((h 0 206) - 1) - 1) + 1)) (⟨(by (repeat (first | exact ag_refl | refine ag_up rfl ?_))), (by (repeat (first | exact p2 | refine vi_set (by decide) (by decide) (by decide) ?_ (by first | exact (fun z => absurd z (by decide)) | exact vi_aS p2 (by decide) _ | exact (fun z => ⟨by omega, hca⟩) | exact (fun z => ⟨by omega, hca z⟩) | (intro z; exfalso; omega)) | refine vi_res ?_ (by first | exact (fun z => absurd z (by decide)) | exact vi_aS p2 (by decide) _ | exact (fun z => ⟨by omega, hca⟩) | exact (fun z => ⟨by omega, hca z⟩) | (intro z; exfalso; omega)) | refine vi_up (by decide) (by decide) ?_))), (show ((h 74 (a1).toNat) = 9 ∧ (((((h 0 206) - 1) - 1) + 1) : Int) = (h 0 206) - 1) ∨ (¬ (h 74 (a1).toNat) = 9 ∧ (((((h 0 206) - 1) - 1) + 1) : Int) = (h 0 206)) by omega)⟩) g46
            · refine ja_iload difWord_288 rfl ?_
              refine ja_bipush 47 difWord_290 rfl ?_
              refine ja_icmp_eq 302 difWord_292 rfl ⟨by omega, by omega⟩ ⟨by decide, by decide⟩ (fun c292 => ?_) (fun c292 => ?_)
              · refine ja_iconst difWord_302 ?_
                refine ja_goto 307 difWord_303 rfl ?_
                have g47 := gP_eFails g24 (x := 1) ⟨by decide, by decide⟩
                refine fp_eFails (by omega) difWord_307 ?_
                refine ja_aload_n difWord_310 rfl rfl ?_
                refine ja_iconst difWord_311 ?_
                refine ja_aload_n difWord_312 rfl rfl ?_
                refine fg_eFails (v := 1) rfl difWord_313 ?_
                refine ja_if_eq 323 difWord_316 rfl ⟨by decide, by decide⟩ (fun c316 => absurd c316 (by omega)) (fun c316 => ?_)
                refine ja_iconst difWord_319 ?_
                refine ja_goto 331 difWord_320 rfl ?_
                refine t_ePut (by decide) (show (0 : Nat) ≤ 8 by decide) difWord_331 g47 ⟨by decide, by decide⟩ ⟨by decide, by decide⟩ (show 0 ≤ 1 ∧ 1 ≤ 2 by omega) (show (((h 0 206) - 1) - 1) < 64 by omega) ?_
                intro g48
                replace g48 : mo_G mo_zr (ja_up (ja_up (ja_up (ja_up (ja_up (ja_up h 0 206 ((h 0 206) - 1)) 0 206 (((h 0 206) - 1) - 1)) 0 207 1) 136 ((((h 0 206) - 1) - 1).toNat) 1) 137 ((((h 0 206) - 1) - 1).toNat) 0) 0 206 ((((h 0 206) - 1) - 1) + 1)) := g48
                show mJ l D cA ad 3 cX12_ifWord 7 none 334 [(6, (0, (h 75 (a1).toNat))), (5, (0, (h 137 (((h 0 206) - 1) - 1).toNat))), (4, (0, (h 136 (((h 0 206) - 1) - 1).toNat))), (3, (0, (h 137 ((h 0 206) - 1).toNat))), (2, (0, (h 136 ((h 0 206) - 1).toNat))), (0, (2, ((0 : Nat) : Int))), (1, (0, a1))] [] (ja_up (ja_up (ja_up (ja_up (ja_up (ja_up h 0 206 ((h 0 206) - 1)) 0 206 (((h 0 206) - 1) - 1)) 0 207 1) 136 ((((h 0 206) - 1) - 1).toNat) 1) 137 ((((h 0 206) - 1) - 1).toNat) 0) 0 206 ((((h 0 206) - 1) - 1) + 1)) Q
                refine ja_return difWord_334 rfl ?_
                exact k1 (ja_up (ja_up (ja_up (ja_up (ja_up (ja_up h 0 206 ((h 0 206) - 1)) 0 206 (((h 0 206) - 1) - 1)) 0 207 1) 136 ((((h 0 206) - 1) - 1).toNat) 1) 137 ((((h 0 206) - 1) - 1).toNat) 0) 0 206 ((((h 0 206) - 1) - 1) + 1)) (⟨(by (repeat (first | exact ag_refl | refine ag_up rfl ?_))), (by (repeat (first | exact p2 | refine vi_set (by decide) (by decide) (by decide) ?_ (by first | exact (fun z => absurd z (by decide)) | exact vi_aS p2 (by decide) _ | exact (fun z => ⟨by omega, hca⟩) | exact (fun z => ⟨by omega, hca z⟩) | (intro z; exfalso; omega)) | refine vi_res ?_ (by first | exact (fun z => absurd z (by decide)) | exact vi_aS p2 (by decide) _ | exact (fun z => ⟨by omega, hca⟩) | exact (fun z => ⟨by omega, hca z⟩) | (intro z; exfalso; omega)) | refine vi_up (by decide) (by decide) ?_))), (show ((h 74 (a1).toNat) = 9 ∧ (((((h 0 206) - 1) - 1) + 1) : Int) = (h 0 206) - 1) ∨ (¬ (h 74 (a1).toNat) = 9 ∧ (((((h 0 206) - 1) - 1) + 1) : Int) = (h 0 206)) by omega)⟩) g48
              · refine ja_iload difWord_295 rfl ?_
                refine ja_bipush 37 difWord_297 rfl ?_
                refine ja_icmp_ne 306 difWord_299 rfl ⟨by omega, by omega⟩ ⟨by decide, by decide⟩ (fun c299 => ?_) (fun c299 => ?_)
                · refine ja_iconst difWord_306 ?_
                  have g49 := gP_eFails g24 (x := 0) ⟨by decide, by decide⟩
                  refine fp_eFails (by omega) difWord_307 ?_
                  refine ja_aload_n difWord_310 rfl rfl ?_
                  refine ja_iconst difWord_311 ?_
                  refine ja_aload_n difWord_312 rfl rfl ?_
                  refine fg_eFails (v := 0) rfl difWord_313 ?_
                  refine ja_if_eq 323 difWord_316 rfl ⟨by decide, by decide⟩ (fun c316 => ?_) (fun c316 => absurd c316 (by omega))
                  refine ja_iload difWord_323 rfl ?_
                  refine ja_iload difWord_325 rfl ?_
                  refine ja_iload_n difWord_327 rfl rfl ?_
                  refine t_both (by decide) (show (2 : Nat) ≤ 8 by decide) difWord_328 g49 ⟨by omega, by omega⟩ ⟨by omega, by omega⟩ ⟨by omega, by omega⟩ (show ¬ (((h 75 (a1).toNat) = 47 ∨ (h 75 (a1).toNat) = 37) ∧ (h 137 ((h 0 206) - 1).toNat) = 0) by omega) ?_
                  intro w50 k328_0
                  replace k328_0 : -2147483648 ≤ w50 ∧ w50 ≤ 2147483647 := k328_0
                  refine t_ePut (by decide) (show (0 : Nat) ≤ 8 by decide) difWord_331 g49 ⟨by decide, by decide⟩ ⟨by omega, by omega⟩ (show 0 ≤ 1 ∧ 1 ≤ 2 by omega) (show (((h 0 206) - 1) - 1) < 64 by omega) ?_
                  intro g51
                  replace g51 : mo_G mo_zr (ja_up (ja_up (ja_up (ja_up (ja_up (ja_up h 0 206 ((h 0 206) - 1)) 0 206 (((h 0 206) - 1) - 1)) 0 207 0) 136 ((((h 0 206) - 1) - 1).toNat) 1) 137 ((((h 0 206) - 1) - 1).toNat) w50) 0 206 ((((h 0 206) - 1) - 1) + 1)) := g51
                  show mJ l D cA ad 3 cX12_ifWord 7 none 334 [(6, (0, (h 75 (a1).toNat))), (5, (0, (h 137 (((h 0 206) - 1) - 1).toNat))), (4, (0, (h 136 (((h 0 206) - 1) - 1).toNat))), (3, (0, (h 137 ((h 0 206) - 1).toNat))), (2, (0, (h 136 ((h 0 206) - 1).toNat))), (0, (2, ((0 : Nat) : Int))), (1, (0, a1))] [] (ja_up (ja_up (ja_up (ja_up (ja_up (ja_up h 0 206 ((h 0 206) - 1)) 0 206 (((h 0 206) - 1) - 1)) 0 207 0) 136 ((((h 0 206) - 1) - 1).toNat) 1) 137 ((((h 0 206) - 1) - 1).toNat) w50) 0 206 ((((h 0 206) - 1) - 1) + 1)) Q
                  refine ja_return difWord_334 rfl ?_
                  exact k1 (ja_up (ja_up (ja_up (ja_up (ja_up (ja_up h 0 206 ((h 0 206) - 1)) 0 206 (((h 0 206) - 1) - 1)) 0 207 0) 136 ((((h 0 206) - 1) - 1).toNat) 1) 137 ((((h 0 206) - 1) - 1).toNat) w50) 0 206 ((((h 0 206) - 1) - 1) + 1)) (⟨(by (repeat (first | exact ag_refl | refine ag_up rfl ?_))), (by (repeat (first | exact p2 | refine vi_set (by decide) (by decide) (by decide) ?_ (by first | exact (fun z => absurd z (by decide)) | exact vi_aS p2 (by decide) _ | exact (fun z => ⟨by omega, hca⟩) | exact (fun z => ⟨by omega, hca z⟩) | (intro z; exfalso; omega)) | refine vi_res ?_ (by first | exact (fun z => absurd z (by decide)) | exact vi_aS p2 (by decide) _ | exact (fun z => ⟨by omega, hca⟩) | exact (fun z => ⟨by omega, hca z⟩) | (intro z; exfalso; omega)) | refine vi_up (by decide) (by decide) ?_))), (show ((h 74 (a1).toNat) = 9 ∧ (((((h 0 206) - 1) - 1) + 1) : Int) = (h 0 206) - 1) ∨ (¬ (h 74 (a1).toNat) = 9 ∧ (((((h 0 206) - 1) - 1) + 1) : Int) = (h 0 206)) by omega)⟩) g51
                · refine ja_iconst difWord_302 ?_
                  refine ja_goto 307 difWord_303 rfl ?_
                  have g52 := gP_eFails g24 (x := 1) ⟨by decide, by decide⟩
                  refine fp_eFails (by omega) difWord_307 ?_
                  refine ja_aload_n difWord_310 rfl rfl ?_
                  refine ja_iconst difWord_311 ?_
                  refine ja_aload_n difWord_312 rfl rfl ?_
                  refine fg_eFails (v := 1) rfl difWord_313 ?_
                  refine ja_if_eq 323 difWord_316 rfl ⟨by decide, by decide⟩ (fun c316 => absurd c316 (by omega)) (fun c316 => ?_)
                  refine ja_iconst difWord_319 ?_
                  refine ja_goto 331 difWord_320 rfl ?_
                  refine t_ePut (by decide) (show (0 : Nat) ≤ 8 by decide) difWord_331 g52 ⟨by decide, by decide⟩ ⟨by decide, by decide⟩ (show 0 ≤ 1 ∧ 1 ≤ 2 by omega) (show (((h 0 206) - 1) - 1) < 64 by omega) ?_
                  intro g53
                  replace g53 : mo_G mo_zr (ja_up (ja_up (ja_up (ja_up (ja_up (ja_up h 0 206 ((h 0 206) - 1)) 0 206 (((h 0 206) - 1) - 1)) 0 207 1) 136 ((((h 0 206) - 1) - 1).toNat) 1) 137 ((((h 0 206) - 1) - 1).toNat) 0) 0 206 ((((h 0 206) - 1) - 1) + 1)) := g53
                  show mJ l D cA ad 3 cX12_ifWord 7 none 334 [(6, (0, (h 75 (a1).toNat))), (5, (0, (h 137 (((h 0 206) - 1) - 1).toNat))), (4, (0, (h 136 (((h 0 206) - 1) - 1).toNat))), (3, (0, (h 137 ((h 0 206) - 1).toNat))), (2, (0, (h 136 ((h 0 206) - 1).toNat))), (0, (2, ((0 : Nat) : Int))), (1, (0, a1))] [] (ja_up (ja_up (ja_up (ja_up (ja_up (ja_up h 0 206 ((h 0 206) - 1)) 0 206 (((h 0 206) - 1) - 1)) 0 207 1) 136 ((((h 0 206) - 1) - 1).toNat) 1) 137 ((((h 0 206) - 1) - 1).toNat) 0) 0 206 ((((h 0 206) - 1) - 1) + 1)) Q
                  refine ja_return difWord_334 rfl ?_
                  exact k1 (ja_up (ja_up (ja_up (ja_up (ja_up (ja_up h 0 206 ((h 0 206) - 1)) 0 206 (((h 0 206) - 1) - 1)) 0 207 1) 136 ((((h 0 206) - 1) - 1).toNat) 1) 137 ((((h 0 206) - 1) - 1).toNat) 0) 0 206 ((((h 0 206) - 1) - 1) + 1)) (⟨(by (repeat (first | exact ag_refl | refine ag_up rfl ?_))), (by (repeat (first | exact p2 | refine vi_set (by decide) (by decide) (by decide) ?_ (by first | exact (fun z => absurd z (by decide)) | exact vi_aS p2 (by decide) _ | exact (fun z => ⟨by omega, hca⟩) | exact (fun z => ⟨by omega, hca z⟩) | (intro z; exfalso; omega)) | refine vi_res ?_ (by first | exact (fun z => absurd z (by decide)) | exact vi_aS p2 (by decide) _ | exact (fun z => ⟨by omega, hca⟩) | exact (fun z => ⟨by omega, hca z⟩) | (intro z; exfalso; omega)) | refine vi_up (by decide) (by decide) ?_))), (show ((h 74 (a1).toNat) = 9 ∧ (((((h 0 206) - 1) - 1) + 1) : Int) = (h 0 206) - 1) ∨ (¬ (h 74 (a1).toNat) = 9 ∧ (((((h 0 206) - 1) - 1) + 1) : Int) = (h 0 206)) by omega)⟩) g53
      · refine ja_aload_n difWord_223 rfl rfl ?_
        refine ja_iconst difWord_224 ?_
        refine ja_iload difWord_225 rfl ?_
        refine ja_iload_n difWord_227 rfl rfl ?_
        refine ja_icmp_ne 241 difWord_228 rfl ⟨by omega, by omega⟩ ⟨by omega, by omega⟩ (fun c228 => ?_) (fun c228 => ?_)
        · refine ja_iconst difWord_241 ?_
          refine ja_iload difWord_242 rfl ?_
          refine ja_sipush 300 difWord_244 rfl ?_
          refine ja_icmp_ne 254 difWord_247 rfl ⟨by omega, by omega⟩ ⟨by decide, by decide⟩ (fun c247 => ?_) (fun c247 => ?_)
          · refine ja_iconst difWord_254 ?_
            refine ja_icmp_ne 262 difWord_255 rfl ⟨by decide, by decide⟩ ⟨by decide, by decide⟩ (fun c255 => absurd c255 (by omega)) (fun c255 => ?_)
            refine ja_iconst difWord_258 ?_
            refine ja_goto 263 difWord_259 rfl ?_
            refine t_asWhole (by decide) (show (2 : Nat) ≤ 8 by decide) difWord_263 g24 ⟨by decide, by decide⟩ ?_
            intro w54 k263_0
            replace k263_0 : 0 ≤ w54 ∧ w54 ≤ 1 := k263_0
            refine t_ePut (by decide) (show (0 : Nat) ≤ 8 by decide) difWord_266 g24 ⟨by decide, by decide⟩ ⟨by omega, by omega⟩ (show 0 ≤ 1 ∧ 1 ≤ 2 by omega) (show (((h 0 206) - 1) - 1) < 64 by omega) ?_
            intro g55
            replace g55 : mo_G mo_zr (ja_up (ja_up (ja_up (ja_up (ja_up h 0 206 ((h 0 206) - 1)) 0 206 (((h 0 206) - 1) - 1)) 136 ((((h 0 206) - 1) - 1).toNat) 1) 137 ((((h 0 206) - 1) - 1).toNat) w54) 0 206 ((((h 0 206) - 1) - 1) + 1)) := g55
            show mJ l D cA ad 3 cX12_ifWord 7 none 269 [(6, (0, (h 75 (a1).toNat))), (5, (0, (h 137 (((h 0 206) - 1) - 1).toNat))), (4, (0, (h 136 (((h 0 206) - 1) - 1).toNat))), (3, (0, (h 137 ((h 0 206) - 1).toNat))), (2, (0, (h 136 ((h 0 206) - 1).toNat))), (0, (2, ((0 : Nat) : Int))), (1, (0, a1))] [] (ja_up (ja_up (ja_up (ja_up (ja_up h 0 206 ((h 0 206) - 1)) 0 206 (((h 0 206) - 1) - 1)) 136 ((((h 0 206) - 1) - 1).toNat) 1) 137 ((((h 0 206) - 1) - 1).toNat) w54) 0 206 ((((h 0 206) - 1) - 1) + 1)) Q
            refine ja_goto 334 difWord_269 rfl ?_
            refine ja_return difWord_334 rfl ?_
            exact k1 (ja_up (ja_up (ja_up (ja_up (ja_up h 0 206 ((h 0 206) - 1)) 0 206 (((h 0 206) - 1) - 1)) 136 ((((h 0 206) - 1) - 1).toNat) 1) 137 ((((h 0 206) - 1) - 1).toNat) w54) 0 206 ((((h 0 206) - 1) - 1) + 1)) (⟨(by (repeat (first | exact ag_refl | refine ag_up rfl ?_))), (by (repeat (first | exact p2 | refine vi_set (by decide) (by decide) (by decide) ?_ (by first | exact (fun z => absurd z (by decide)) | exact vi_aS p2 (by decide) _ | exact (fun z => ⟨by omega, hca⟩) | exact (fun z => ⟨by omega, hca z⟩) | (intro z; exfalso; omega)) | refine vi_res ?_ (by first | exact (fun z => absurd z (by decide)) | exact vi_aS p2 (by decide) _ | exact (fun z => ⟨by omega, hca⟩) | exact (fun z => ⟨by omega, hca z⟩) | (intro z; exfalso; omega)) | refine vi_up (by decide) (by decide) ?_))), (show ((h 74 (a1).toNat) = 9 ∧ (((((h 0 206) - 1) - 1) + 1) : Int) = (h 0 206) - 1) ∨ (¬ (h 74 (a1).toNat) = 9 ∧ (((((h 0 206) - 1) - 1) + 1) : Int) = (h 0 206)) by omega)⟩) g55
          · refine ja_iconst difWord_250 ?_
            refine ja_goto 255 difWord_251 rfl ?_
            refine ja_icmp_ne 262 difWord_255 rfl ⟨by decide, by decide⟩ ⟨by decide, by decide⟩ (fun c255 => ?_) (fun c255 => absurd c255 (by omega))
            refine ja_iconst difWord_262 ?_
            refine t_asWhole (by decide) (show (2 : Nat) ≤ 8 by decide) difWord_263 g24 ⟨by decide, by decide⟩ ?_
            intro w56 k263_0
            replace k263_0 : 0 ≤ w56 ∧ w56 ≤ 1 := k263_0
            refine t_ePut (by decide) (show (0 : Nat) ≤ 8 by decide) difWord_266 g24 ⟨by decide, by decide⟩ ⟨by omega, by omega⟩ (show 0 ≤ 1 ∧ 1 ≤ 2 by omega) (show (((h 0 206) - 1) - 1) < 64 by omega) ?_
            intro g57
            replace g57 : mo_G mo_zr (ja_up (ja_up (ja_up (ja_up (ja_up h 0 206 ((h 0 206) - 1)) 0 206 (((h 0 206) - 1) - 1)) 136 ((((h 0 206) - 1) - 1).toNat) 1) 137 ((((h 0 206) - 1) - 1).toNat) w56) 0 206 ((((h 0 206) - 1) - 1) + 1)) := g57
            show mJ l D cA ad 3 cX12_ifWord 7 none 269 [(6, (0, (h 75 (a1).toNat))), (5, (0, (h 137 (((h 0 206) - 1) - 1).toNat))), (4, (0, (h 136 (((h 0 206) - 1) - 1).toNat))), (3, (0, (h 137 ((h 0 206) - 1).toNat))), (2, (0, (h 136 ((h 0 206) - 1).toNat))), (0, (2, ((0 : Nat) : Int))), (1, (0, a1))] [] (ja_up (ja_up (ja_up (ja_up (ja_up h 0 206 ((h 0 206) - 1)) 0 206 (((h 0 206) - 1) - 1)) 136 ((((h 0 206) - 1) - 1).toNat) 1) 137 ((((h 0 206) - 1) - 1).toNat) w56) 0 206 ((((h 0 206) - 1) - 1) + 1)) Q
            refine ja_goto 334 difWord_269 rfl ?_
            refine ja_return difWord_334 rfl ?_
            exact k1 (ja_up (ja_up (ja_up (ja_up (ja_up h 0 206 ((h 0 206) - 1)) 0 206 (((h 0 206) - 1) - 1)) 136 ((((h 0 206) - 1) - 1).toNat) 1) 137 ((((h 0 206) - 1) - 1).toNat) w56) 0 206 ((((h 0 206) - 1) - 1) + 1)) (⟨(by (repeat (first | exact ag_refl | refine ag_up rfl ?_))), (by (repeat (first | exact p2 | refine vi_set (by decide) (by decide) (by decide) ?_ (by first | exact (fun z => absurd z (by decide)) | exact vi_aS p2 (by decide) _ | exact (fun z => ⟨by omega, hca⟩) | exact (fun z => ⟨by omega, hca z⟩) | (intro z; exfalso; omega)) | refine vi_res ?_ (by first | exact (fun z => absurd z (by decide)) | exact vi_aS p2 (by decide) _ | exact (fun z => ⟨by omega, hca⟩) | exact (fun z => ⟨by omega, hca z⟩) | (intro z; exfalso; omega)) | refine vi_up (by decide) (by decide) ?_))), (show ((h 74 (a1).toNat) = 9 ∧ (((((h 0 206) - 1) - 1) + 1) : Int) = (h 0 206) - 1) ∨ (¬ (h 74 (a1).toNat) = 9 ∧ (((((h 0 206) - 1) - 1) + 1) : Int) = (h 0 206)) by omega)⟩) g57
        · refine ja_iload difWord_231 rfl ?_
          refine ja_iload_n difWord_233 rfl rfl ?_
          refine ja_icmp_ne 241 difWord_234 rfl ⟨by omega, by omega⟩ ⟨by omega, by omega⟩ (fun c234 => ?_) (fun c234 => ?_)
          · refine ja_iconst difWord_241 ?_
            refine ja_iload difWord_242 rfl ?_
            refine ja_sipush 300 difWord_244 rfl ?_
            refine ja_icmp_ne 254 difWord_247 rfl ⟨by omega, by omega⟩ ⟨by decide, by decide⟩ (fun c247 => ?_) (fun c247 => ?_)
            · refine ja_iconst difWord_254 ?_
              refine ja_icmp_ne 262 difWord_255 rfl ⟨by decide, by decide⟩ ⟨by decide, by decide⟩ (fun c255 => absurd c255 (by omega)) (fun c255 => ?_)
              refine ja_iconst difWord_258 ?_
              refine ja_goto 263 difWord_259 rfl ?_
              refine t_asWhole (by decide) (show (2 : Nat) ≤ 8 by decide) difWord_263 g24 ⟨by decide, by decide⟩ ?_
              intro w58 k263_0
              replace k263_0 : 0 ≤ w58 ∧ w58 ≤ 1 := k263_0
              refine t_ePut (by decide) (show (0 : Nat) ≤ 8 by decide) difWord_266 g24 ⟨by decide, by decide⟩ ⟨by omega, by omega⟩ (show 0 ≤ 1 ∧ 1 ≤ 2 by omega) (show (((h 0 206) - 1) - 1) < 64 by omega) ?_
              intro g59
              replace g59 : mo_G mo_zr (ja_up (ja_up (ja_up (ja_up (ja_up h 0 206 ((h 0 206) - 1)) 0 206 (((h 0 206) - 1) - 1)) 136 ((((h 0 206) - 1) - 1).toNat) 1) 137 ((((h 0 206) - 1) - 1).toNat) w58) 0 206 ((((h 0 206) - 1) - 1) + 1)) := g59
              show mJ l D cA ad 3 cX12_ifWord 7 none 269 [(6, (0, (h 75 (a1).toNat))), (5, (0, (h 137 (((h 0 206) - 1) - 1).toNat))), (4, (0, (h 136 (((h 0 206) - 1) - 1).toNat))), (3, (0, (h 137 ((h 0 206) - 1).toNat))), (2, (0, (h 136 ((h 0 206) - 1).toNat))), (0, (2, ((0 : Nat) : Int))), (1, (0, a1))] [] (ja_up (ja_up (ja_up (ja_up (ja_up h 0 206 ((h 0 206) - 1)) 0 206 (((h 0 206) - 1) - 1)) 136 ((((h 0 206) - 1) - 1).toNat) 1) 137 ((((h 0 206) - 1) - 1).toNat) w58) 0 206 ((((h 0 206) - 1) - 1) + 1)) Q
              refine ja_goto 334 difWord_269 rfl ?_
              refine ja_return difWord_334 rfl ?_
              exact k1 (ja_up (ja_up (ja_up (ja_up (ja_up h 0 206 ((h 0 206) - 1)) 0 206 (((h 0 206) - 1) - 1)) 136 ((((h 0 206) - 1) - 1).toNat) 1) 137 ((((h 0 206) - 1) - 1).toNat) w58) 0 206 ((((h 0 206) - 1) - 1) + 1)) (⟨(by (repeat (first | exact ag_refl | refine ag_up rfl ?_))), (by (repeat (first | exact p2 | refine vi_set (by decide) (by decide) (by decide) ?_ (by first | exact (fun z => absurd z (by decide)) | exact vi_aS p2 (by decide) _ | exact (fun z => ⟨by omega, hca⟩) | exact (fun z => ⟨by omega, hca z⟩) | (intro z; exfalso; omega)) | refine vi_res ?_ (by first | exact (fun z => absurd z (by decide)) | exact vi_aS p2 (by decide) _ | exact (fun z => ⟨by omega, hca⟩) | exact (fun z => ⟨by omega, hca z⟩) | (intro z; exfalso; omega)) | refine vi_up (by decide) (by decide) ?_))), (show ((h 74 (a1).toNat) = 9 ∧ (((((h 0 206) - 1) - 1) + 1) : Int) = (h 0 206) - 1) ∨ (¬ (h 74 (a1).toNat) = 9 ∧ (((((h 0 206) - 1) - 1) + 1) : Int) = (h 0 206)) by omega)⟩) g59
            · refine ja_iconst difWord_250 ?_
              refine ja_goto 255 difWord_251 rfl ?_
              refine ja_icmp_ne 262 difWord_255 rfl ⟨by decide, by decide⟩ ⟨by decide, by decide⟩ (fun c255 => ?_) (fun c255 => absurd c255 (by omega))
              refine ja_iconst difWord_262 ?_
              refine t_asWhole (by decide) (show (2 : Nat) ≤ 8 by decide) difWord_263 g24 ⟨by decide, by decide⟩ ?_
              intro w60 k263_0
              replace k263_0 : 0 ≤ w60 ∧ w60 ≤ 1 := k263_0
              refine t_ePut (by decide) (show (0 : Nat) ≤ 8 by decide) difWord_266 g24 ⟨by decide, by decide⟩ ⟨by omega, by omega⟩ (show 0 ≤ 1 ∧ 1 ≤ 2 by omega) (show (((h 0 206) - 1) - 1) < 64 by omega) ?_
              intro g61
              replace g61 : mo_G mo_zr (ja_up (ja_up (ja_up (ja_up (ja_up h 0 206 ((h 0 206) - 1)) 0 206 (((h 0 206) - 1) - 1)) 136 ((((h 0 206) - 1) - 1).toNat) 1) 137 ((((h 0 206) - 1) - 1).toNat) w60) 0 206 ((((h 0 206) - 1) - 1) + 1)) := g61
              show mJ l D cA ad 3 cX12_ifWord 7 none 269 [(6, (0, (h 75 (a1).toNat))), (5, (0, (h 137 (((h 0 206) - 1) - 1).toNat))), (4, (0, (h 136 (((h 0 206) - 1) - 1).toNat))), (3, (0, (h 137 ((h 0 206) - 1).toNat))), (2, (0, (h 136 ((h 0 206) - 1).toNat))), (0, (2, ((0 : Nat) : Int))), (1, (0, a1))] [] (ja_up (ja_up (ja_up (ja_up (ja_up h 0 206 ((h 0 206) - 1)) 0 206 (((h 0 206) - 1) - 1)) 136 ((((h 0 206) - 1) - 1).toNat) 1) 137 ((((h 0 206) - 1) - 1).toNat) w60) 0 206 ((((h 0 206) - 1) - 1) + 1)) Q
              refine ja_goto 334 difWord_269 rfl ?_
              refine ja_return difWord_334 rfl ?_
              exact k1 (ja_up (ja_up (ja_up (ja_up (ja_up h 0 206 ((h 0 206) - 1)) 0 206 (((h 0 206) - 1) - 1)) 136 ((((h 0 206) - 1) - 1).toNat) 1) 137 ((((h 0 206) - 1) - 1).toNat) w60) 0 206 ((((h 0 206) - 1) - 1) + 1)) (⟨(by (repeat (first | exact ag_refl | refine ag_up rfl ?_))), (by (repeat (first | exact p2 | refine vi_set (by decide) (by decide) (by decide) ?_ (by first | exact (fun z => absurd z (by decide)) | exact vi_aS p2 (by decide) _ | exact (fun z => ⟨by omega, hca⟩) | exact (fun z => ⟨by omega, hca z⟩) | (intro z; exfalso; omega)) | refine vi_res ?_ (by first | exact (fun z => absurd z (by decide)) | exact vi_aS p2 (by decide) _ | exact (fun z => ⟨by omega, hca⟩) | exact (fun z => ⟨by omega, hca z⟩) | (intro z; exfalso; omega)) | refine vi_up (by decide) (by decide) ?_))), (show ((h 74 (a1).toNat) = 9 ∧ (((((h 0 206) - 1) - 1) + 1) : Int) = (h 0 206) - 1) ∨ (¬ (h 74 (a1).toNat) = 9 ∧ (((((h 0 206) - 1) - 1) + 1) : Int) = (h 0 206)) by omega)⟩) g61
          · refine ja_iconst difWord_237 ?_
            refine ja_goto 242 difWord_238 rfl ?_
            refine ja_iload difWord_242 rfl ?_
            refine ja_sipush 300 difWord_244 rfl ?_
            refine ja_icmp_ne 254 difWord_247 rfl ⟨by omega, by omega⟩ ⟨by decide, by decide⟩ (fun c247 => ?_) (fun c247 => ?_)
            · refine ja_iconst difWord_254 ?_
              refine ja_icmp_ne 262 difWord_255 rfl ⟨by decide, by decide⟩ ⟨by decide, by decide⟩ (fun c255 => ?_) (fun c255 => absurd c255 (by omega))
              refine ja_iconst difWord_262 ?_
              refine t_asWhole (by decide) (show (2 : Nat) ≤ 8 by decide) difWord_263 g24 ⟨by decide, by decide⟩ ?_
              intro w62 k263_0
              replace k263_0 : 0 ≤ w62 ∧ w62 ≤ 1 := k263_0
              refine t_ePut (by decide) (show (0 : Nat) ≤ 8 by decide) difWord_266 g24 ⟨by decide, by decide⟩ ⟨by omega, by omega⟩ (show 0 ≤ 1 ∧ 1 ≤ 2 by omega) (show (((h 0 206) - 1) - 1) < 64 by omega) ?_
              intro g63
              replace g63 : mo_G mo_zr (ja_up (ja_up (ja_up (ja_up (ja_up h 0 206 ((h 0 206) - 1)) 0 206 (((h 0 206) - 1) - 1)) 136 ((((h 0 206) - 1) - 1).toNat) 1) 137 ((((h 0 206) - 1) - 1).toNat) w62) 0 206 ((((h 0 206) - 1) - 1) + 1)) := g63
              show mJ l D cA ad 3 cX12_ifWord 7 none 269 [(6, (0, (h 75 (a1).toNat))), (5, (0, (h 137 (((h 0 206) - 1) - 1).toNat))), (4, (0, (h 136 (((h 0 206) - 1) - 1).toNat))), (3, (0, (h 137 ((h 0 206) - 1).toNat))), (2, (0, (h 136 ((h 0 206) - 1).toNat))), (0, (2, ((0 : Nat) : Int))), (1, (0, a1))] [] (ja_up (ja_up (ja_up (ja_up (ja_up h 0 206 ((h 0 206) - 1)) 0 206 (((h 0 206) - 1) - 1)) 136 ((((h 0 206) - 1) - 1).toNat) 1) 137 ((((h 0 206) - 1) - 1).toNat) w62) 0 206 ((((h 0 206) - 1) - 1) + 1)) Q
              refine ja_goto 334 difWord_269 rfl ?_
              refine ja_return difWord_334 rfl ?_
              exact k1 (ja_up (ja_up (ja_up (ja_up (ja_up h 0 206 ((h 0 206) - 1)) 0 206 (((h 0 206) - 1) - 1)) 136 ((((h 0 206) - 1) - 1).toNat) 1) 137 ((((h 0 206) - 1) - 1).toNat) w62) 0 206 ((((h 0 206) - 1) - 1) + 1)) (⟨(by (repeat (first | exact ag_refl | refine ag_up rfl ?_))), (by (repeat (first | exact p2 | refine vi_set (by decide) (by decide) (by decide) ?_ (by first | exact (fun z => absurd z (by decide)) | exact vi_aS p2 (by decide) _ | exact (fun z => ⟨by omega, hca⟩) | exact (fun z => ⟨by omega, hca z⟩) | (intro z; exfalso; omega)) | refine vi_res ?_ (by first | exact (fun z => absurd z (by decide)) | exact vi_aS p2 (by decide) _ | exact (fun z => ⟨by omega, hca⟩) | exact (fun z => ⟨by omega, hca z⟩) | (intro z; exfalso; omega)) | refine vi_up (by decide) (by decide) ?_))), (show ((h 74 (a1).toNat) = 9 ∧ (((((h 0 206) - 1) - 1) + 1) : Int) = (h 0 206) - 1) ∨ (¬ (h 74 (a1).toNat) = 9 ∧ (((((h 0 206) - 1) - 1) + 1) : Int) = (h 0 206)) by omega)⟩) g63
            · refine ja_iconst difWord_250 ?_
              refine ja_goto 255 difWord_251 rfl ?_
              refine ja_icmp_ne 262 difWord_255 rfl ⟨by decide, by decide⟩ ⟨by decide, by decide⟩ (fun c255 => absurd c255 (by omega)) (fun c255 => ?_)
              refine ja_iconst difWord_258 ?_
              refine ja_goto 263 difWord_259 rfl ?_
              refine t_asWhole (by decide) (show (2 : Nat) ≤ 8 by decide) difWord_263 g24 ⟨by decide, by decide⟩ ?_
              intro w64 k263_0
              replace k263_0 : 0 ≤ w64 ∧ w64 ≤ 1 := k263_0
              refine t_ePut (by decide) (show (0 : Nat) ≤ 8 by decide) difWord_266 g24 ⟨by decide, by decide⟩ ⟨by omega, by omega⟩ (show 0 ≤ 1 ∧ 1 ≤ 2 by omega) (show (((h 0 206) - 1) - 1) < 64 by omega) ?_
              intro g65
              replace g65 : mo_G mo_zr (ja_up (ja_up (ja_up (ja_up (ja_up h 0 206 ((h 0 206) - 1)) 0 206 (((h 0 206) - 1) - 1)) 136 ((((h 0 206) - 1) - 1).toNat) 1) 137 ((((h 0 206) - 1) - 1).toNat) w64) 0 206 ((((h 0 206) - 1) - 1) + 1)) := g65
              show mJ l D cA ad 3 cX12_ifWord 7 none 269 [(6, (0, (h 75 (a1).toNat))), (5, (0, (h 137 (((h 0 206) - 1) - 1).toNat))), (4, (0, (h 136 (((h 0 206) - 1) - 1).toNat))), (3, (0, (h 137 ((h 0 206) - 1).toNat))), (2, (0, (h 136 ((h 0 206) - 1).toNat))), (0, (2, ((0 : Nat) : Int))), (1, (0, a1))] [] (ja_up (ja_up (ja_up (ja_up (ja_up h 0 206 ((h 0 206) - 1)) 0 206 (((h 0 206) - 1) - 1)) 136 ((((h 0 206) - 1) - 1).toNat) 1) 137 ((((h 0 206) - 1) - 1).toNat) w64) 0 206 ((((h 0 206) - 1) - 1) + 1)) Q
              refine ja_goto 334 difWord_269 rfl ?_
              refine ja_return difWord_334 rfl ?_
              exact k1 (ja_up (ja_up (ja_up (ja_up (ja_up h 0 206 ((h 0 206) - 1)) 0 206 (((h 0 206) - 1) - 1)) 136 ((((h 0 206) - 1) - 1).toNat) 1) 137 ((((h 0 206) - 1) - 1).toNat) w64) 0 206 ((((h 0 206) - 1) - 1) + 1)) (⟨(by (repeat (first | exact ag_refl | refine ag_up rfl ?_))), (by (repeat (first | exact p2 | refine vi_set (by decide) (by decide) (by decide) ?_ (by first | exact (fun z => absurd z (by decide)) | exact vi_aS p2 (by decide) _ | exact (fun z => ⟨by omega, hca⟩) | exact (fun z => ⟨by omega, hca z⟩) | (intro z; exfalso; omega)) | refine vi_res ?_ (by first | exact (fun z => absurd z (by decide)) | exact vi_aS p2 (by decide) _ | exact (fun z => ⟨by omega, hca⟩) | exact (fun z => ⟨by omega, hca z⟩) | (intro z; exfalso; omega)) | refine vi_up (by decide) (by decide) ?_))), (show ((h 74 (a1).toNat) = 9 ∧ (((((h 0 206) - 1) - 1) + 1) : Int) = (h 0 206) - 1) ∨ (¬ (h 74 (a1).toNat) = 9 ∧ (((((h 0 206) - 1) - 1) + 1) : Int) = (h 0 206)) by omega)⟩) g65
  rcases (by omega : h 74 (a1).toNat = 8 ∨ h 74 (a1).toNat = 9 ∨ h 74 (a1).toNat = 10 ∨ h 74 (a1).toNat = 11 ∨ h 74 (a1).toNat = 12 ∨ h 74 (a1).toNat = 13 ∨ h 74 (a1).toNat = 14 ∨ (h 74 (a1).toNat < 8 ∨ 14 < h 74 (a1).toNat)) with e | e | e | e | e | e | e | e
  · exact ja_tableIn 120 difWord_36 ⟨by omega, by omega⟩ (by omega) (by omega) (by rw [e]; rfl) rfl (T36_120 (by omega))
  · exact ja_tableIn 167 difWord_36 ⟨by omega, by omega⟩ (by omega) (by omega) (by rw [e]; rfl) rfl (T36_167 (by omega))
  · exact ja_tableIn 96 difWord_36 ⟨by omega, by omega⟩ (by omega) (by omega) (by rw [e]; rfl) rfl (T36_96 (by omega))
  · exact ja_tableIn 143 difWord_36 ⟨by omega, by omega⟩ (by omega) (by omega) (by rw [e]; rfl) rfl (T36_143 (by omega))
  · exact ja_tableIn 167 difWord_36 ⟨by omega, by omega⟩ (by omega) (by omega) (by rw [e]; rfl) rfl (T36_167 (by omega))
  · exact ja_tableIn 167 difWord_36 ⟨by omega, by omega⟩ (by omega) (by omega) (by rw [e]; rfl) rfl (T36_167 (by omega))
  · exact ja_tableIn 80 difWord_36 ⟨by omega, by omega⟩ (by omega) (by omega) (by rw [e]; rfl) rfl (T36_80 (by omega))
  · exact ja_tableOut 167 difWord_36 ⟨by omega, by omega⟩ (by omega) rfl (T36_167 (by omega))
theorem t_ifWord {a1 : Int} {d nL pc : Nat} {cc : ByteArray} {rt : Option FieldType} {L : List (Nat × ja_V)} {S : List ja_V} {h : ja_H} {Q : Option ja_V → ja_H → Prop} (hdd : 3 < d) (hwd : ja_wd S ≤ 8) (hd : decode cc pc = .ok (.invokevirtual 1175, 3)) (g : mo_G mo_zr h) (r1 : -2147483648 ≤ a1 ∧ a1 ≤ 2147483647) (p1 : 0 ≤ a1 ∧ a1 < 5000) (p2 : VI h) (p3 : (h 74 (a1).toNat) = 8 → 0 ≤ (h 75 (a1).toNat) ∧ (h 75 (a1).toNat) ≤ 11) (p4 : (h 74 (a1).toNat) = 8 ∨ (h 74 (a1).toNat) = 9 ∨ (h 74 (a1).toNat) = 10 ∨ (h 74 (a1).toNat) = 11 ∨ (h 74 (a1).toNat) = 14) (p5 : 1 ≤ (h 0 206) ∧ (h 0 206) ≤ 61) (p6 : (h 74 (a1).toNat) = 9 → 2 ≤ (h 0 206)) (k1 : ∀ (h' : ja_H), (mo_ag FBI h h' ∧ VI h' ∧ (((h 74 (a1).toNat) = 9 ∧ (h' 0 206) = (h 0 206) - 1) ∨ (¬ (h 74 (a1).toNat) = 9 ∧ (h' 0 206) = (h 0 206)))) → mo_G mo_zr h' → mJ l D cA ad d cc nL rt (pc + 3) L S h' Q) : mJ l D cA ad d cc nL rt pc L ((0, a1) :: (2, ((0 : Nat) : Int)) :: S) h Q :=
  mc_ifWord hdd hwd hd (s_ifWord g r1 p1 p2 p3 p4 p5 p6 k1)
end
theorem disIf_0 : decode cX12_isIf 0 = .ok (.aload_n 0, 1) := by decide +kernel
theorem disIf_1 : decode cX12_isIf 1 = .ok (.getfield 209, 3) := by decide +kernel
theorem disIf_4 : decode cX12_isIf 4 = .ok (.iload_n 1, 1) := by decide +kernel
theorem disIf_5 : decode cX12_isIf 5 = .ok (.baload, 1) := by decide +kernel
theorem disIf_6 : decode cX12_isIf 6 = .ok (.ifCond .eq 8, 3) := by decide +kernel
theorem disIf_9 : decode cX12_isIf 9 = .ok (.bipush 7, 2) := by decide +kernel
theorem disIf_11 : decode cX12_isIf 11 = .ok (.goto 4, 3) := by decide +kernel
theorem disIf_14 : decode cX12_isIf 14 = .ok (.iconst 0, 1) := by decide +kernel
theorem disIf_15 : decode cX12_isIf 15 = .ok (.istore_n 2, 1) := by decide +kernel
theorem disIf_16 : decode cX12_isIf 16 = .ok (.aload_n 0, 1) := by decide +kernel
theorem disIf_17 : decode cX12_isIf 17 = .ok (.getfield 185, 3) := by decide +kernel
theorem disIf_20 : decode cX12_isIf 20 = .ok (.iload_n 1, 1) := by decide +kernel
theorem disIf_21 : decode cX12_isIf 21 = .ok (.iaload, 1) := by decide +kernel
theorem disIf_22 : decode cX12_isIf 22 = .ok (.istore_n 3, 1) := by decide +kernel
theorem disIf_23 : decode cX12_isIf 23 = .ok (.aload_n 0, 1) := by decide +kernel
theorem disIf_24 : decode cX12_isIf 24 = .ok (.iconst 0, 1) := by decide +kernel
theorem disIf_25 : decode cX12_isIf 25 = .ok (.putfield 1166, 3) := by decide +kernel
theorem disIf_28 : decode cX12_isIf 28 = .ok (.aload_n 0, 1) := by decide +kernel
theorem disIf_29 : decode cX12_isIf 29 = .ok (.iconst 0, 1) := by decide +kernel
theorem disIf_30 : decode cX12_isIf 30 = .ok (.putfield 1169, 3) := by decide +kernel
theorem disIf_33 : decode cX12_isIf 33 = .ok (.aload_n 0, 1) := by decide +kernel
theorem disIf_34 : decode cX12_isIf 34 = .ok (.getfield 231, 3) := by decide +kernel
theorem disIf_37 : decode cX12_isIf 37 = .ok (.iload_n 3, 1) := by decide +kernel
theorem disIf_38 : decode cX12_isIf 38 = .ok (.iaload, 1) := by decide +kernel
theorem disIf_39 : decode cX12_isIf 39 = .ok (.bipush 26, 2) := by decide +kernel
theorem disIf_41 : decode cX12_isIf 41 = .ok (.if_icmp .eq 282, 3) := by decide +kernel
theorem disIf_44 : decode cX12_isIf 44 = .ok (.aload_n 0, 1) := by decide +kernel
theorem disIf_45 : decode cX12_isIf 45 = .ok (.getfield 1169, 3) := by decide +kernel
theorem disIf_48 : decode cX12_isIf 48 = .ok (.ifCond .ne 275, 3) := by decide +kernel
theorem disIf_51 : decode cX12_isIf 51 = .ok (.aload_n 0, 1) := by decide +kernel
theorem disIf_52 : decode cX12_isIf 52 = .ok (.getfield 234, 3) := by decide +kernel
theorem disIf_55 : decode cX12_isIf 55 = .ok (.iload_n 3, 1) := by decide +kernel
theorem disIf_56 : decode cX12_isIf 56 = .ok (.iaload, 1) := by decide +kernel
theorem disIf_57 : decode cX12_isIf 57 = .ok (.istore 4, 2) := by decide +kernel
theorem disIf_59 : decode cX12_isIf 59 = .ok (.iload_n 3, 1) := by decide +kernel
theorem disIf_60 : decode cX12_isIf 60 = .ok (.istore 5, 2) := by decide +kernel
theorem disIf_62 : decode cX12_isIf 62 = .ok (.iinc 3 1, 3) := by decide +kernel
theorem disIf_65 : decode cX12_isIf 65 = .ok (.aload_n 0, 1) := by decide +kernel
theorem disIf_66 : decode cX12_isIf 66 = .ok (.getfield 231, 3) := by decide +kernel
theorem disIf_69 : decode cX12_isIf 69 = .ok (.iload 5, 2) := by decide +kernel
theorem disIf_71 : decode cX12_isIf 71 = .ok (.iaload, 1) := by decide +kernel
theorem disIf_72 : decode cX12_isIf 72 = .ok (.tableswitch 242 1 13 #[68, 78, 242, 87, 242, 112, 242, 242, 242, 242, 242, 171, 171], 68) := by decide +kernel
theorem disIf_140 : decode cX12_isIf 140 = .ok (.aload_n 0, 1) := by decide +kernel
theorem disIf_141 : decode cX12_isIf 141 = .ok (.iconst 1, 1) := by decide +kernel
theorem disIf_142 : decode cX12_isIf 142 = .ok (.iload 4, 2) := by decide +kernel
theorem disIf_144 : decode cX12_isIf 144 = .ok (.invokevirtual 1172, 3) := by decide +kernel
theorem disIf_147 : decode cX12_isIf 147 = .ok (.goto 173, 3) := by decide +kernel
theorem disIf_150 : decode cX12_isIf 150 = .ok (.aload_n 0, 1) := by decide +kernel
theorem disIf_151 : decode cX12_isIf 151 = .ok (.iconst 0, 1) := by decide +kernel
theorem disIf_152 : decode cX12_isIf 152 = .ok (.iconst 0, 1) := by decide +kernel
theorem disIf_153 : decode cX12_isIf 153 = .ok (.invokevirtual 1172, 3) := by decide +kernel
theorem disIf_156 : decode cX12_isIf 156 = .ok (.goto 164, 3) := by decide +kernel
theorem disIf_159 : decode cX12_isIf 159 = .ok (.aload_n 0, 1) := by decide +kernel
theorem disIf_160 : decode cX12_isIf 160 = .ok (.aload_n 0, 1) := by decide +kernel
theorem disIf_161 : decode cX12_isIf 161 = .ok (.getfield 399, 3) := by decide +kernel
theorem disIf_164 : decode cX12_isIf 164 = .ok (.iload_n 2, 1) := by decide +kernel
theorem disIf_165 : decode cX12_isIf 165 = .ok (.iload 4, 2) := by decide +kernel
theorem disIf_167 : decode cX12_isIf 167 = .ok (.iadd, 1) := by decide +kernel
theorem disIf_168 : decode cX12_isIf 168 = .ok (.iaload, 1) := by decide +kernel
theorem disIf_169 : decode cX12_isIf 169 = .ok (.aload_n 0, 1) := by decide +kernel
theorem disIf_170 : decode cX12_isIf 170 = .ok (.getfield 402, 3) := by decide +kernel
theorem disIf_173 : decode cX12_isIf 173 = .ok (.iload_n 2, 1) := by decide +kernel
theorem disIf_174 : decode cX12_isIf 174 = .ok (.iload 4, 2) := by decide +kernel
theorem disIf_176 : decode cX12_isIf 176 = .ok (.iadd, 1) := by decide +kernel
theorem disIf_177 : decode cX12_isIf 177 = .ok (.iaload, 1) := by decide +kernel
theorem disIf_178 : decode cX12_isIf 178 = .ok (.invokevirtual 1172, 3) := by decide +kernel
theorem disIf_181 : decode cX12_isIf 181 = .ok (.goto 139, 3) := by decide +kernel
theorem disIf_184 : decode cX12_isIf 184 = .ok (.aload_n 0, 1) := by decide +kernel
theorem disIf_185 : decode cX12_isIf 185 = .ok (.aload_n 0, 1) := by decide +kernel
theorem disIf_186 : decode cX12_isIf 186 = .ok (.getfield 237, 3) := by decide +kernel
theorem disIf_189 : decode cX12_isIf 189 = .ok (.iload 5, 2) := by decide +kernel
theorem disIf_191 : decode cX12_isIf 191 = .ok (.iaload, 1) := by decide +kernel
theorem disIf_192 : decode cX12_isIf 192 = .ok (.aload_n 0, 1) := by decide +kernel
theorem disIf_193 : decode cX12_isIf 193 = .ok (.getfield 49, 3) := by decide +kernel
theorem disIf_196 : decode cX12_isIf 196 = .ok (.aload_n 0, 1) := by decide +kernel
theorem disIf_197 : decode cX12_isIf 197 = .ok (.getfield 237, 3) := by decide +kernel
theorem disIf_200 : decode cX12_isIf 200 = .ok (.iload 5, 2) := by decide +kernel
theorem disIf_202 : decode cX12_isIf 202 = .ok (.iaload, 1) := by decide +kernel
theorem disIf_203 : decode cX12_isIf 203 = .ok (.baload, 1) := by decide +kernel
theorem disIf_204 : decode cX12_isIf 204 = .ok (.ifCond .eq 10, 3) := by decide +kernel
theorem disIf_207 : decode cX12_isIf 207 = .ok (.aload_n 0, 1) := by decide +kernel
theorem disIf_208 : decode cX12_isIf 208 = .ok (.getfield 1129, 3) := by decide +kernel
theorem disIf_211 : decode cX12_isIf 211 = .ok (.goto 4, 3) := by decide +kernel
theorem disIf_214 : decode cX12_isIf 214 = .ok (.iconst 0, 1) := by decide +kernel
theorem disIf_215 : decode cX12_isIf 215 = .ok (.iload 4, 2) := by decide +kernel
theorem disIf_217 : decode cX12_isIf 217 = .ok (.invokevirtual 1102, 3) := by decide +kernel
theorem disIf_220 : decode cX12_isIf 220 = .ok (.istore 6, 2) := by decide +kernel
theorem disIf_222 : decode cX12_isIf 222 = .ok (.aload_n 0, 1) := by decide +kernel
theorem disIf_223 : decode cX12_isIf 223 = .ok (.aload_n 0, 1) := by decide +kernel
theorem disIf_224 : decode cX12_isIf 224 = .ok (.getfield 285, 3) := by decide +kernel
theorem disIf_227 : decode cX12_isIf 227 = .ok (.iload 6, 2) := by decide +kernel
theorem disIf_229 : decode cX12_isIf 229 = .ok (.iaload, 1) := by decide +kernel
theorem disIf_230 : decode cX12_isIf 230 = .ok (.aload_n 0, 1) := by decide +kernel
theorem disIf_231 : decode cX12_isIf 231 = .ok (.getfield 288, 3) := by decide +kernel
theorem disIf_234 : decode cX12_isIf 234 = .ok (.iload 6, 2) := by decide +kernel
theorem disIf_236 : decode cX12_isIf 236 = .ok (.iaload, 1) := by decide +kernel
theorem disIf_237 : decode cX12_isIf 237 = .ok (.invokevirtual 1172, 3) := by decide +kernel
theorem disIf_240 : decode cX12_isIf 240 = .ok (.goto 80, 3) := by decide +kernel
theorem disIf_243 : decode cX12_isIf 243 = .ok (.aload_n 0, 1) := by decide +kernel
theorem disIf_244 : decode cX12_isIf 244 = .ok (.dup, 1) := by decide +kernel
theorem disIf_245 : decode cX12_isIf 245 = .ok (.getfield 1166, 3) := by decide +kernel
theorem disIf_248 : decode cX12_isIf 248 = .ok (.iconst 1, 1) := by decide +kernel
theorem disIf_249 : decode cX12_isIf 249 = .ok (.isub, 1) := by decide +kernel
theorem disIf_250 : decode cX12_isIf 250 = .ok (.putfield 1166, 3) := by decide +kernel
theorem disIf_253 : decode cX12_isIf 253 = .ok (.aload_n 0, 1) := by decide +kernel
theorem disIf_254 : decode cX12_isIf 254 = .ok (.getfield 417, 3) := by decide +kernel
theorem disIf_257 : decode cX12_isIf 257 = .ok (.aload_n 0, 1) := by decide +kernel
theorem disIf_258 : decode cX12_isIf 258 = .ok (.getfield 1166, 3) := by decide +kernel
theorem disIf_261 : decode cX12_isIf 261 = .ok (.iaload, 1) := by decide +kernel
theorem disIf_262 : decode cX12_isIf 262 = .ok (.aload_n 0, 1) := by decide +kernel
theorem disIf_263 : decode cX12_isIf 263 = .ok (.getfield 420, 3) := by decide +kernel
theorem disIf_266 : decode cX12_isIf 266 = .ok (.aload_n 0, 1) := by decide +kernel
theorem disIf_267 : decode cX12_isIf 267 = .ok (.getfield 1166, 3) := by decide +kernel
theorem disIf_270 : decode cX12_isIf 270 = .ok (.iaload, 1) := by decide +kernel
theorem disIf_271 : decode cX12_isIf 271 = .ok (.invokestatic 1111, 3) := by decide +kernel
theorem disIf_274 : decode cX12_isIf 274 = .ok (.istore 7, 2) := by decide +kernel
theorem disIf_276 : decode cX12_isIf 276 = .ok (.iload 7, 2) := by decide +kernel
theorem disIf_278 : decode cX12_isIf 278 = .ok (.aload_n 0, 1) := by decide +kernel
theorem disIf_279 : decode cX12_isIf 279 = .ok (.getfield 231, 3) := by decide +kernel
theorem disIf_282 : decode cX12_isIf 282 = .ok (.iload 5, 2) := by decide +kernel
theorem disIf_284 : decode cX12_isIf 284 = .ok (.iaload, 1) := by decide +kernel
theorem disIf_285 : decode cX12_isIf 285 = .ok (.bipush 13, 2) := by decide +kernel
theorem disIf_287 : decode cX12_isIf 287 = .ok (.if_icmp .ne 7, 3) := by decide +kernel
theorem disIf_290 : decode cX12_isIf 290 = .ok (.iconst 1, 1) := by decide +kernel
theorem disIf_291 : decode cX12_isIf 291 = .ok (.goto 4, 3) := by decide +kernel
theorem disIf_294 : decode cX12_isIf 294 = .ok (.iconst 0, 1) := by decide +kernel
theorem disIf_295 : decode cX12_isIf 295 = .ok (.if_icmp .ne 25, 3) := by decide +kernel
theorem disIf_298 : decode cX12_isIf 298 = .ok (.aload_n 0, 1) := by decide +kernel
theorem disIf_299 : decode cX12_isIf 299 = .ok (.iconst 1, 1) := by decide +kernel
theorem disIf_300 : decode cX12_isIf 300 = .ok (.iload 7, 2) := by decide +kernel
theorem disIf_302 : decode cX12_isIf 302 = .ok (.invokestatic 1098, 3) := by decide +kernel
theorem disIf_305 : decode cX12_isIf 305 = .ok (.invokevirtual 1172, 3) := by decide +kernel
theorem disIf_308 : decode cX12_isIf 308 = .ok (.iload 4, 2) := by decide +kernel
theorem disIf_310 : decode cX12_isIf 310 = .ok (.istore_n 3, 1) := by decide +kernel
theorem disIf_311 : decode cX12_isIf 311 = .ok (.goto 9, 3) := by decide +kernel
theorem disIf_314 : decode cX12_isIf 314 = .ok (.aload_n 0, 1) := by decide +kernel
theorem disIf_315 : decode cX12_isIf 315 = .ok (.iload 5, 2) := by decide +kernel
theorem disIf_317 : decode cX12_isIf 317 = .ok (.invokevirtual 1175, 3) := by decide +kernel
theorem disIf_320 : decode cX12_isIf 320 = .ok (.goto (-287), 3) := by decide +kernel
theorem disIf_323 : decode cX12_isIf 323 = .ok (.aload_n 0, 1) := by decide +kernel
theorem disIf_324 : decode cX12_isIf 324 = .ok (.getfield 1169, 3) := by decide +kernel
theorem disIf_327 : decode cX12_isIf 327 = .ok (.ifCond .ne 25, 3) := by decide +kernel
theorem disIf_330 : decode cX12_isIf 330 = .ok (.aload_n 0, 1) := by decide +kernel
theorem disIf_331 : decode cX12_isIf 331 = .ok (.getfield 417, 3) := by decide +kernel
theorem disIf_334 : decode cX12_isIf 334 = .ok (.iconst 0, 1) := by decide +kernel
theorem disIf_335 : decode cX12_isIf 335 = .ok (.iaload, 1) := by decide +kernel
theorem disIf_336 : decode cX12_isIf 336 = .ok (.aload_n 0, 1) := by decide +kernel
theorem disIf_337 : decode cX12_isIf 337 = .ok (.getfield 420, 3) := by decide +kernel
theorem disIf_340 : decode cX12_isIf 340 = .ok (.iconst 0, 1) := by decide +kernel
theorem disIf_341 : decode cX12_isIf 341 = .ok (.iaload, 1) := by decide +kernel
theorem disIf_342 : decode cX12_isIf 342 = .ok (.invokestatic 1111, 3) := by decide +kernel
theorem disIf_345 : decode cX12_isIf 345 = .ok (.ifCond .eq 7, 3) := by decide +kernel
theorem disIf_348 : decode cX12_isIf 348 = .ok (.iconst 1, 1) := by decide +kernel
theorem disIf_349 : decode cX12_isIf 349 = .ok (.goto 4, 3) := by decide +kernel
theorem disIf_352 : decode cX12_isIf 352 = .ok (.iconst 0, 1) := by decide +kernel
theorem disIf_353 : decode cX12_isIf 353 = .ok (.ireturn, 1) := by decide +kernel
section
variable {l : Launch} {D : va_G} {cA : Nat → ClassId} {ad : Nat → Nat}
theorem s_isIf {a1 : Int} {ht st rg : Nat → Int} {h : ja_H} {Q : Option ja_V → ja_H → Prop} (g : mo_G mo_zr h) (r1 : -2147483648 ≤ a1 ∧ a1 ≤ 2147483647) (p1 : 0 ≤ a1 ∧ a1 ≤ 899) (p2 : VI h) (p3 : CI h ht st rg) (p4 : 0 ≤ (h 59 (a1).toNat) ∧ (h 59 (a1).toNat) < (h 0 113)) (p5 : rg ((h 59 (a1).toNat)).toNat = 4) (p6 : ht ((h 59 (a1).toNat)).toNat = 0) (k1 : ∀ (v : Int) (h' : ja_H), ((0 ≤ v ∧ v ≤ 1) ∧ mo_ag FBI h h' ∧ VI h') → mo_G mo_zr h' → Q (some (0, v)) h') : mM_isIf l D cA ad a1 h Q := by
  show mJ l D cA ad 4 cX12_isIf 8 (some .boolean) 0 [(0, (2, ((0 : Nat) : Int))), (1, (0, a1))] [] h Q
  have kn_words := gF_words g
  have CUT : ∀ n : Nat, (∀ (x2 x3 : Int) (u : ja_H), mo_G mo_zr u → (-2147483648 ≤ x2 ∧ x2 ≤ 2147483647) → (-2147483648 ≤ x3 ∧ x3 ≤ 2147483647) → ((x2 = 0 ∨ x2 = 7) ∧ mo_ag FBI h u ∧ VI u ∧ 0 ≤ x3 ∧ x3 < (h 0 113) ∧ rg (x3).toNat = 4 ∧ 0 ≤ (u 0 206) ∧ ((u 0 207) = 1 ∨ (u 0 206) = ht (x3).toNat)) → (((5001 : Int) - x3).toNat) = n → mJ l D cA ad 4 cX12_isIf 8 (some .boolean) 33 [(0, (2, ((0 : Nat) : Int))), (2, (0, x2)), (3, (0, x3))] [] u Q) := by
    intro n
    induction n using Nat.strongRecOn with
    | _ n ih =>
      skip
      · intro x2 x3 u gu qx2 qx3 iv hm
        subst hm
        have ku_words := gF_words gu
        obtain ⟨i1, ag, qv, i2, i3, i4, i5, i6⟩ := iv
        have e_words : (u 0 113) = (h 0 113) := ag 0 113 rfl
        have hcu := ci_g p3 (ag_sub (X_sub (by decide) (by decide)) ag)
        refine ja_aload_n disIf_33 rfl rfl ?_
        refine fa_op disIf_34 ?_
        refine ja_iload_n disIf_37 rfl rfl ?_
        refine il_op (v := u 74 (x3).toNat) rfl ⟨by omega, by omega⟩ disIf_38 ?_
        have f1 := gC_op gu (x3).toNat
        refine ja_bipush 26 disIf_39 rfl ?_
        refine ja_icmp_eq 323 disIf_41 rfl ⟨by omega, by omega⟩ ⟨by decide, by decide⟩ (fun c41 => ?_) (fun c41 => ?_)
        · refine ja_aload_n disIf_323 rfl rfl ?_
          refine fg_eFails (v := u 0 207) rfl disIf_324 ?_
          have f2 := gF_eFails gu
          refine ja_if_ne 352 disIf_327 rfl ⟨by omega, by omega⟩ (fun c327 => ?_) (fun c327 => ?_)
          · refine ja_iconst disIf_352 ?_
            refine ja_zreturn disIf_353 rfl (by omega) ?_
            exact mo_fin (by omega) rfl (k1 0 u (⟨by omega, ag, qv⟩) gu)
          · refine ja_aload_n disIf_330 rfl rfl ?_
            refine fa_ePileKind disIf_331 ?_
            refine ja_iconst disIf_334 ?_
            refine il_ePileKind (v := u 136 (0 : Int).toNat) rfl ⟨by omega, by omega⟩ disIf_335 ?_
            have f3 := gC_ePileKind gu (0 : Int).toNat
            refine ja_aload_n disIf_336 rfl rfl ?_
            refine fa_ePileValue disIf_337 ?_
            refine ja_iconst disIf_340 ?_
            refine il_ePileValue (v := u 137 (0 : Int).toNat) rfl ⟨by omega, by omega⟩ disIf_341 ?_
            have f4 := gC_ePileValue gu (0 : Int).toNat
            refine t_isTrue (by decide) (show (0 : Nat) ≤ 8 by decide) disIf_342 gu ⟨by omega, by omega⟩ ⟨by omega, by omega⟩ ?_
            intro w5 k342_0
            refine ja_if_eq 352 disIf_345 rfl ⟨by omega, by omega⟩ (fun c345 => ?_) (fun c345 => ?_)
            · refine ja_iconst disIf_352 ?_
              refine ja_zreturn disIf_353 rfl (by omega) ?_
              exact mo_fin (by omega) rfl (k1 0 u (⟨by omega, ag, qv⟩) gu)
            · refine ja_iconst disIf_348 ?_
              refine ja_goto 353 disIf_349 rfl ?_
              refine ja_zreturn disIf_353 rfl (by omega) ?_
              exact mo_fin (by omega) rfl (k1 1 u (⟨by omega, ag, qv⟩) gu)
        · refine ja_aload_n disIf_44 rfl rfl ?_
          refine fg_eFails (v := u 0 207) rfl disIf_45 ?_
          have f6 := gF_eFails gu
          refine ja_if_ne 323 disIf_48 rfl ⟨by omega, by omega⟩ (fun c48 => ?_) (fun c48 => ?_)
          · refine ja_aload_n disIf_323 rfl rfl ?_
            refine fg_eFails (v := u 0 207) rfl disIf_324 ?_
            refine ja_if_ne 352 disIf_327 rfl ⟨by omega, by omega⟩ (fun c327 => ?_) (fun c327 => ?_)
            · refine ja_iconst disIf_352 ?_
              refine ja_zreturn disIf_353 rfl (by omega) ?_
              exact mo_fin (by omega) rfl (k1 0 u (⟨by omega, ag, qv⟩) gu)
            · refine ja_aload_n disIf_330 rfl rfl ?_
              refine fa_ePileKind disIf_331 ?_
              refine ja_iconst disIf_334 ?_
              refine il_ePileKind (v := u 136 (0 : Int).toNat) rfl ⟨by omega, by omega⟩ disIf_335 ?_
              have f7 := gC_ePileKind gu (0 : Int).toNat
              refine ja_aload_n disIf_336 rfl rfl ?_
              refine fa_ePileValue disIf_337 ?_
              refine ja_iconst disIf_340 ?_
              refine il_ePileValue (v := u 137 (0 : Int).toNat) rfl ⟨by omega, by omega⟩ disIf_341 ?_
              have f8 := gC_ePileValue gu (0 : Int).toNat
              refine t_isTrue (by decide) (show (0 : Nat) ≤ 8 by decide) disIf_342 gu ⟨by omega, by omega⟩ ⟨by omega, by omega⟩ ?_
              intro w9 k342_0
              refine ja_if_eq 352 disIf_345 rfl ⟨by omega, by omega⟩ (fun c345 => ?_) (fun c345 => ?_)
              · refine ja_iconst disIf_352 ?_
                refine ja_zreturn disIf_353 rfl (by omega) ?_
                exact mo_fin (by omega) rfl (k1 0 u (⟨by omega, ag, qv⟩) gu)
              · refine ja_iconst disIf_348 ?_
                refine ja_goto 353 disIf_349 rfl ?_
                refine ja_zreturn disIf_353 rfl (by omega) ?_
                exact mo_fin (by omega) rfl (k1 1 u (⟨by omega, ag, qv⟩) gu)
          · refine ja_aload_n disIf_51 rfl rfl ?_
            refine fa_opA disIf_52 ?_
            refine ja_iload_n disIf_55 rfl rfl ?_
            refine il_opA (v := u 75 (x3).toNat) rfl ⟨by omega, by omega⟩ disIf_56 ?_
            have f10 := gC_opA gu (x3).toNat
            refine ja_istore disIf_57 (by decide) (L2 := [(4, (0, (u 75 (x3).toNat))), (0, (2, ((0 : Nat) : Int))), (2, (0, x2)), (3, (0, x3))]) rfl ?_
            refine ja_iload_n disIf_59 rfl rfl ?_
            refine ja_istore disIf_60 (by decide) (L2 := [(5, (0, x3)), (4, (0, (u 75 (x3).toNat))), (0, (2, ((0 : Nat) : Int))), (2, (0, x2)), (3, (0, x3))]) rfl ?_
            refine ja_iinc disIf_62 rfl (by decide) (L2 := [(3, (0, (x3 + 1))), (5, (0, x3)), (4, (0, (u 75 (x3).toNat))), (0, (2, ((0 : Nat) : Int))), (2, (0, x2))]) rfl ?_
            refine ja_aload_n disIf_65 rfl rfl ?_
            refine fa_op disIf_66 ?_
            refine ja_iload disIf_69 rfl ?_
            refine il_op (v := u 74 (x3).toNat) rfl ⟨by omega, by omega⟩ disIf_71 ?_
            have T72_140 : (u 74 (x3).toNat = 1) → mJ l D cA ad 4 cX12_isIf 8 (some .boolean) 140 [(3, (0, (x3 + 1))), (5, (0, x3)), (4, (0, (u 75 (x3).toNat))), (0, (2, ((0 : Nat) : Int))), (2, (0, x2))] [] u Q := by
              intro e72
              obtain ⟨b0, b1, b2, b3, b4, b5⟩ := ci_ifA hcu i2 (by omega) i4 (by omega)
              refine ja_aload_n disIf_140 rfl rfl ?_
              refine ja_iconst disIf_141 ?_
              refine ja_iload disIf_142 rfl ?_
              refine t_ePut (by decide) (show (0 : Nat) ≤ 8 by decide) disIf_144 gu ⟨by decide, by decide⟩ ⟨by omega, by omega⟩ (show 0 ≤ 1 ∧ 1 ≤ 2 by omega) (show (u 0 206) < 64 by omega) ?_
              intro g11
              replace g11 : mo_G mo_zr (ja_up (ja_up (ja_up u 136 ((u 0 206).toNat) 1) 137 ((u 0 206).toNat) (u 75 (x3).toNat)) 0 206 ((u 0 206) + 1)) := g11
              show mJ l D cA ad 4 cX12_isIf 8 (some .boolean) 147 [(3, (0, (x3 + 1))), (5, (0, x3)), (4, (0, (u 75 (x3).toNat))), (0, (2, ((0 : Nat) : Int))), (2, (0, x2))] [] (ja_up (ja_up (ja_up u 136 ((u 0 206).toNat) 1) 137 ((u 0 206).toNat) (u 75 (x3).toNat)) 0 206 ((u 0 206) + 1)) Q
              refine ja_goto 320 disIf_147 rfl ?_
              refine ja_goto 33 disIf_320 rfl ?_
              exact ja_wk (fun q hq => by simp only [List.mem_cons, List.not_mem_nil, or_false] at hq; rcases hq with rfl | rfl | rfl <;> rfl) ((ih (((5001 : Int) - (x3 + 1)).toNat) (by omega)) x2 (x3 + 1) (ja_up (ja_up (ja_up u 136 ((u 0 206).toNat) 1) 137 ((u 0 206).toNat) (u 75 (x3).toNat)) 0 206 ((u 0 206) + 1)) g11 ⟨by omega, by omega⟩ ⟨by omega, by omega⟩ (⟨by omega, (ag_trans ag (by (repeat (first | exact ag_refl | refine ag_up rfl ?_)))), (by (repeat (first | exact qv | refine vi_set (by decide) (by decide) (by decide) ?_ (by first | exact (fun z => absurd z (by decide)) | exact vi_aS qv (by decide) _ | exact (fun z => ⟨by omega, hca⟩) | exact (fun z => ⟨by omega, hca z⟩) | (intro z; exfalso; omega)) | refine vi_res ?_ (by first | exact (fun z => absurd z (by decide)) | exact vi_aS qv (by decide) _ | exact (fun z => ⟨by omega, hca⟩) | exact (fun z => ⟨by omega, hca z⟩) | (intro z; exfalso; omega)) | refine vi_up (by decide) (by decide) ?_))), by omega, by omega, b2, (show 0 ≤ (((u 0 206) + 1) : Int) by omega), (Or.inr (show (((u 0 206) + 1) : Int) = ht ((x3 + 1)).toNat by omega))⟩) rfl)
            have T72_150 : (u 74 (x3).toNat = 2) → mJ l D cA ad 4 cX12_isIf 8 (some .boolean) 150 [(3, (0, (x3 + 1))), (5, (0, x3)), (4, (0, (u 75 (x3).toNat))), (0, (2, ((0 : Nat) : Int))), (2, (0, x2))] [] u Q := by
              intro e72
              obtain ⟨b0, b1, b2, b3, b4, b5⟩ := ci_ifA hcu i2 (by omega) i4 (by omega)
              refine ja_aload_n disIf_150 rfl rfl ?_
              refine ja_iconst disIf_151 ?_
              refine ja_iconst disIf_152 ?_
              refine t_ePut (by decide) (show (0 : Nat) ≤ 8 by decide) disIf_153 gu ⟨by decide, by decide⟩ ⟨by decide, by decide⟩ (show 0 ≤ 0 ∧ 0 ≤ 2 by omega) (show (u 0 206) < 64 by omega) ?_
              intro g12
              replace g12 : mo_G mo_zr (ja_up (ja_up (ja_up u 136 ((u 0 206).toNat) 0) 137 ((u 0 206).toNat) 0) 0 206 ((u 0 206) + 1)) := g12
              show mJ l D cA ad 4 cX12_isIf 8 (some .boolean) 156 [(3, (0, (x3 + 1))), (5, (0, x3)), (4, (0, (u 75 (x3).toNat))), (0, (2, ((0 : Nat) : Int))), (2, (0, x2))] [] (ja_up (ja_up (ja_up u 136 ((u 0 206).toNat) 0) 137 ((u 0 206).toNat) 0) 0 206 ((u 0 206) + 1)) Q
              refine ja_goto 320 disIf_156 rfl ?_
              refine ja_goto 33 disIf_320 rfl ?_
              exact ja_wk (fun q hq => by simp only [List.mem_cons, List.not_mem_nil, or_false] at hq; rcases hq with rfl | rfl | rfl <;> rfl) ((ih (((5001 : Int) - (x3 + 1)).toNat) (by omega)) x2 (x3 + 1) (ja_up (ja_up (ja_up u 136 ((u 0 206).toNat) 0) 137 ((u 0 206).toNat) 0) 0 206 ((u 0 206) + 1)) g12 ⟨by omega, by omega⟩ ⟨by omega, by omega⟩ (⟨by omega, (ag_trans ag (by (repeat (first | exact ag_refl | refine ag_up rfl ?_)))), (by (repeat (first | exact qv | refine vi_set (by decide) (by decide) (by decide) ?_ (by first | exact (fun z => absurd z (by decide)) | exact vi_aS qv (by decide) _ | exact (fun z => ⟨by omega, hca⟩) | exact (fun z => ⟨by omega, hca z⟩) | (intro z; exfalso; omega)) | refine vi_res ?_ (by first | exact (fun z => absurd z (by decide)) | exact vi_aS qv (by decide) _ | exact (fun z => ⟨by omega, hca⟩) | exact (fun z => ⟨by omega, hca z⟩) | (intro z; exfalso; omega)) | refine vi_up (by decide) (by decide) ?_))), by omega, by omega, b2, (show 0 ≤ (((u 0 206) + 1) : Int) by omega), (Or.inr (show (((u 0 206) + 1) : Int) = ht ((x3 + 1)).toNat by omega))⟩) rfl)
            have T72_159 : (u 74 (x3).toNat = 4) → mJ l D cA ad 4 cX12_isIf 8 (some .boolean) 159 [(3, (0, (x3 + 1))), (5, (0, x3)), (4, (0, (u 75 (x3).toNat))), (0, (2, ((0 : Nat) : Int))), (2, (0, x2))] [] u Q := by
              intro e72
              obtain ⟨b0, b1, b2, b3, b4, b5⟩ := ci_ifA hcu i2 (by omega) i4 (by omega)
              refine ja_aload_n disIf_159 rfl rfl ?_
              refine ja_aload_n disIf_160 rfl rfl ?_
              refine fa_bindKind disIf_161 ?_
              refine ja_iload_n disIf_164 rfl rfl ?_
              refine ja_iload disIf_165 rfl ?_
              refine ja_iadd disIf_167 ?_
              refine il_bindKind (v := u 130 (x2 + (u 75 (x3).toNat)).toNat) rfl ⟨by omega, by omega⟩ disIf_168 ?_
              have f13 := gC_bindKind gu (x2 + (u 75 (x3).toNat)).toNat
              refine ja_aload_n disIf_169 rfl rfl ?_
              refine fa_bindValue disIf_170 ?_
              refine ja_iload_n disIf_173 rfl rfl ?_
              refine ja_iload disIf_174 rfl ?_
              refine ja_iadd disIf_176 ?_
              refine il_bindValue (v := u 131 (x2 + (u 75 (x3).toNat)).toNat) rfl ⟨by omega, by omega⟩ disIf_177 ?_
              have f14 := gC_bindValue gu (x2 + (u 75 (x3).toNat)).toNat
              refine t_ePut (by decide) (show (0 : Nat) ≤ 8 by decide) disIf_178 gu ⟨by omega, by omega⟩ ⟨by omega, by omega⟩ (show 0 ≤ (u 130 (x2 + (u 75 (x3).toNat)).toNat) ∧ (u 130 (x2 + (u 75 (x3).toNat)).toNat) ≤ 2 by omega) (show (u 0 206) < 64 by omega) ?_
              intro g15
              replace g15 : mo_G mo_zr (ja_up (ja_up (ja_up u 136 ((u 0 206).toNat) (u 130 (x2 + (u 75 (x3).toNat)).toNat)) 137 ((u 0 206).toNat) (u 131 (x2 + (u 75 (x3).toNat)).toNat)) 0 206 ((u 0 206) + 1)) := g15
              show mJ l D cA ad 4 cX12_isIf 8 (some .boolean) 181 [(3, (0, (x3 + 1))), (5, (0, x3)), (4, (0, (u 75 (x3).toNat))), (0, (2, ((0 : Nat) : Int))), (2, (0, x2))] [] (ja_up (ja_up (ja_up u 136 ((u 0 206).toNat) (u 130 (x2 + (u 75 (x3).toNat)).toNat)) 137 ((u 0 206).toNat) (u 131 (x2 + (u 75 (x3).toNat)).toNat)) 0 206 ((u 0 206) + 1)) Q
              refine ja_goto 320 disIf_181 rfl ?_
              refine ja_goto 33 disIf_320 rfl ?_
              exact ja_wk (fun q hq => by simp only [List.mem_cons, List.not_mem_nil, or_false] at hq; rcases hq with rfl | rfl | rfl <;> rfl) ((ih (((5001 : Int) - (x3 + 1)).toNat) (by omega)) x2 (x3 + 1) (ja_up (ja_up (ja_up u 136 ((u 0 206).toNat) (u 130 (x2 + (u 75 (x3).toNat)).toNat)) 137 ((u 0 206).toNat) (u 131 (x2 + (u 75 (x3).toNat)).toNat)) 0 206 ((u 0 206) + 1)) g15 ⟨by omega, by omega⟩ ⟨by omega, by omega⟩ (⟨by omega, (ag_trans ag (by (repeat (first | exact ag_refl | refine ag_up rfl ?_)))), (by (repeat (first | exact qv | refine vi_set (by decide) (by decide) (by decide) ?_ (by first | exact (fun z => absurd z (by decide)) | exact vi_aS qv (by decide) _ | exact (fun z => ⟨by omega, hca⟩) | exact (fun z => ⟨by omega, hca z⟩) | (intro z; exfalso; omega)) | refine vi_res ?_ (by first | exact (fun z => absurd z (by decide)) | exact vi_aS qv (by decide) _ | exact (fun z => ⟨by omega, hca⟩) | exact (fun z => ⟨by omega, hca z⟩) | (intro z; exfalso; omega)) | refine vi_up (by decide) (by decide) ?_))), by omega, by omega, b2, (show 0 ≤ (((u 0 206) + 1) : Int) by omega), (Or.inr (show (((u 0 206) + 1) : Int) = ht ((x3 + 1)).toNat by omega))⟩) rfl)
            have T72_184 : (u 74 (x3).toNat = 6) → mJ l D cA ad 4 cX12_isIf 8 (some .boolean) 184 [(3, (0, (x3 + 1))), (5, (0, x3)), (4, (0, (u 75 (x3).toNat))), (0, (2, ((0 : Nat) : Int))), (2, (0, x2))] [] u Q := by
              intro e72
              obtain ⟨b0, b1, b2, b3, b4, b5⟩ := ci_ifA hcu i2 (by omega) i4 (by omega)
              refine ja_aload_n disIf_184 rfl rfl ?_
              refine ja_aload_n disIf_185 rfl rfl ?_
              refine fa_opB disIf_186 ?_
              refine ja_iload disIf_189 rfl ?_
              refine il_opB (v := u 76 (x3).toNat) rfl ⟨by omega, by omega⟩ disIf_191 ?_
              have f16 := gC_opB gu (x3).toNat
              refine ja_aload_n disIf_192 rfl rfl ?_
              refine fa_aspectEach disIf_193 ?_
              refine ja_aload_n disIf_196 rfl rfl ?_
              refine fa_opB disIf_197 ?_
              refine ja_iload disIf_200 rfl ?_
              refine il_opB (v := u 76 (x3).toNat) rfl ⟨by omega, by omega⟩ disIf_202 ?_
              refine il_aspectEach (v := u 14 (u 76 (x3).toNat).toNat) rfl ⟨by omega, by omega⟩ disIf_203 ?_
              have f17 := gC_aspectEach gu (u 76 (x3).toNat).toNat
              refine ja_if_eq 214 disIf_204 rfl ⟨by omega, by omega⟩ (fun c204 => ?_) (fun c204 => ?_)
              · refine ja_iconst disIf_214 ?_
                refine ja_iload disIf_215 rfl ?_
                refine t_heldAt (by decide) (show (0 : Nat) ≤ 8 by decide) disIf_217 gu ⟨by omega, by omega⟩ ⟨by decide, by decide⟩ ⟨by omega, by omega⟩ (show 0 ≤ (u 76 (x3).toNat) ∧ (u 76 (x3).toNat) ≤ 7 by omega) (show 0 ≤ 0 ∧ 0 ≤ 200 by omega) (show 0 ≤ (u 75 (x3).toNat) ∧ (u 75 (x3).toNat) ≤ 9 by omega) ?_
                intro w18 k217_0
                refine ja_istore disIf_220 (by decide) (L2 := [(6, (0, w18)), (3, (0, (x3 + 1))), (5, (0, x3)), (4, (0, (u 75 (x3).toNat))), (0, (2, ((0 : Nat) : Int))), (2, (0, x2))]) rfl ?_
                refine ja_aload_n disIf_222 rfl rfl ?_
                refine ja_aload_n disIf_223 rfl rfl ?_
                refine fa_heldKind disIf_224 ?_
                refine ja_iload disIf_227 rfl ?_
                refine il_heldKind (v := u 92 (w18).toNat) rfl ⟨by omega, by omega⟩ disIf_229 ?_
                have f19 := gC_heldKind gu (w18).toNat
                refine ja_aload_n disIf_230 rfl rfl ?_
                refine fa_heldValue disIf_231 ?_
                refine ja_iload disIf_234 rfl ?_
                refine il_heldValue (v := u 93 (w18).toNat) rfl ⟨by omega, by omega⟩ disIf_236 ?_
                have f20 := gC_heldValue gu (w18).toNat
                refine t_ePut (by decide) (show (0 : Nat) ≤ 8 by decide) disIf_237 gu ⟨by omega, by omega⟩ ⟨by omega, by omega⟩ (show 0 ≤ (u 92 (w18).toNat) ∧ (u 92 (w18).toNat) ≤ 2 by omega) (show (u 0 206) < 64 by omega) ?_
                intro g21
                replace g21 : mo_G mo_zr (ja_up (ja_up (ja_up u 136 ((u 0 206).toNat) (u 92 (w18).toNat)) 137 ((u 0 206).toNat) (u 93 (w18).toNat)) 0 206 ((u 0 206) + 1)) := g21
                show mJ l D cA ad 4 cX12_isIf 8 (some .boolean) 240 [(6, (0, w18)), (3, (0, (x3 + 1))), (5, (0, x3)), (4, (0, (u 75 (x3).toNat))), (0, (2, ((0 : Nat) : Int))), (2, (0, x2))] [] (ja_up (ja_up (ja_up u 136 ((u 0 206).toNat) (u 92 (w18).toNat)) 137 ((u 0 206).toNat) (u 93 (w18).toNat)) 0 206 ((u 0 206) + 1)) Q
                refine ja_goto 320 disIf_240 rfl ?_
                refine ja_goto 33 disIf_320 rfl ?_
                exact ja_wk (fun q hq => by simp only [List.mem_cons, List.not_mem_nil, or_false] at hq; rcases hq with rfl | rfl | rfl <;> rfl) ((ih (((5001 : Int) - (x3 + 1)).toNat) (by omega)) x2 (x3 + 1) (ja_up (ja_up (ja_up u 136 ((u 0 206).toNat) (u 92 (w18).toNat)) 137 ((u 0 206).toNat) (u 93 (w18).toNat)) 0 206 ((u 0 206) + 1)) g21 ⟨by omega, by omega⟩ ⟨by omega, by omega⟩ (⟨by omega, (ag_trans ag (by (repeat (first | exact ag_refl | refine ag_up rfl ?_)))), (by (repeat (first | exact qv | refine vi_set (by decide) (by decide) (by decide) ?_ (by first | exact (fun z => absurd z (by decide)) | exact vi_aS qv (by decide) _ | exact (fun z => ⟨by omega, hca⟩) | exact (fun z => ⟨by omega, hca z⟩) | (intro z; exfalso; omega)) | refine vi_res ?_ (by first | exact (fun z => absurd z (by decide)) | exact vi_aS qv (by decide) _ | exact (fun z => ⟨by omega, hca⟩) | exact (fun z => ⟨by omega, hca z⟩) | (intro z; exfalso; omega)) | refine vi_up (by decide) (by decide) ?_))), by omega, by omega, b2, (show 0 ≤ (((u 0 206) + 1) : Int) by omega), (Or.inr (show (((u 0 206) + 1) : Int) = ht ((x3 + 1)).toNat by omega))⟩) rfl)
              · refine ja_aload_n disIf_207 rfl rfl ?_
                refine fg_askedFor (v := u 0 196) rfl disIf_208 ?_
                have f22 := gF_askedFor gu
                refine ja_goto 215 disIf_211 rfl ?_
                refine ja_iload disIf_215 rfl ?_
                refine t_heldAt (by decide) (show (0 : Nat) ≤ 8 by decide) disIf_217 gu ⟨by omega, by omega⟩ ⟨by omega, by omega⟩ ⟨by omega, by omega⟩ (show 0 ≤ (u 76 (x3).toNat) ∧ (u 76 (x3).toNat) ≤ 7 by omega) (show 0 ≤ (u 0 196) ∧ (u 0 196) ≤ 200 by omega) (show 0 ≤ (u 75 (x3).toNat) ∧ (u 75 (x3).toNat) ≤ 9 by omega) ?_
                intro w23 k217_0
                refine ja_istore disIf_220 (by decide) (L2 := [(6, (0, w23)), (3, (0, (x3 + 1))), (5, (0, x3)), (4, (0, (u 75 (x3).toNat))), (0, (2, ((0 : Nat) : Int))), (2, (0, x2))]) rfl ?_
                refine ja_aload_n disIf_222 rfl rfl ?_
                refine ja_aload_n disIf_223 rfl rfl ?_
                refine fa_heldKind disIf_224 ?_
                refine ja_iload disIf_227 rfl ?_
                refine il_heldKind (v := u 92 (w23).toNat) rfl ⟨by omega, by omega⟩ disIf_229 ?_
                have f24 := gC_heldKind gu (w23).toNat
                refine ja_aload_n disIf_230 rfl rfl ?_
                refine fa_heldValue disIf_231 ?_
                refine ja_iload disIf_234 rfl ?_
                refine il_heldValue (v := u 93 (w23).toNat) rfl ⟨by omega, by omega⟩ disIf_236 ?_
                have f25 := gC_heldValue gu (w23).toNat
                refine t_ePut (by decide) (show (0 : Nat) ≤ 8 by decide) disIf_237 gu ⟨by omega, by omega⟩ ⟨by omega, by omega⟩ (show 0 ≤ (u 92 (w23).toNat) ∧ (u 92 (w23).toNat) ≤ 2 by omega) (show (u 0 206) < 64 by omega) ?_
                intro g26
                replace g26 : mo_G mo_zr (ja_up (ja_up (ja_up u 136 ((u 0 206).toNat) (u 92 (w23).toNat)) 137 ((u 0 206).toNat) (u 93 (w23).toNat)) 0 206 ((u 0 206) + 1)) := g26
                show mJ l D cA ad 4 cX12_isIf 8 (some .boolean) 240 [(6, (0, w23)), (3, (0, (x3 + 1))), (5, (0, x3)), (4, (0, (u 75 (x3).toNat))), (0, (2, ((0 : Nat) : Int))), (2, (0, x2))] [] (ja_up (ja_up (ja_up u 136 ((u 0 206).toNat) (u 92 (w23).toNat)) 137 ((u 0 206).toNat) (u 93 (w23).toNat)) 0 206 ((u 0 206) + 1)) Q
                refine ja_goto 320 disIf_240 rfl ?_
                refine ja_goto 33 disIf_320 rfl ?_
                exact ja_wk (fun q hq => by simp only [List.mem_cons, List.not_mem_nil, or_false] at hq; rcases hq with rfl | rfl | rfl <;> rfl) ((ih (((5001 : Int) - (x3 + 1)).toNat) (by omega)) x2 (x3 + 1) (ja_up (ja_up (ja_up u 136 ((u 0 206).toNat) (u 92 (w23).toNat)) 137 ((u 0 206).toNat) (u 93 (w23).toNat)) 0 206 ((u 0 206) + 1)) g26 ⟨by omega, by omega⟩ ⟨by omega, by omega⟩ (⟨by omega, (ag_trans ag (by (repeat (first | exact ag_refl | refine ag_up rfl ?_)))), (by (repeat (first | exact qv | refine vi_set (by decide) (by decide) (by decide) ?_ (by first | exact (fun z => absurd z (by decide)) | exact vi_aS qv (by decide) _ | exact (fun z => ⟨by omega, hca⟩) | exact (fun z => ⟨by omega, hca z⟩) | (intro z; exfalso; omega)) | refine vi_res ?_ (by first | exact (fun z => absurd z (by decide)) | exact vi_aS qv (by decide) _ | exact (fun z => ⟨by omega, hca⟩) | exact (fun z => ⟨by omega, hca z⟩) | (intro z; exfalso; omega)) | refine vi_up (by decide) (by decide) ?_))), by omega, by omega, b2, (show 0 ≤ (((u 0 206) + 1) : Int) by omega), (Or.inr (show (((u 0 206) + 1) : Int) = ht ((x3 + 1)).toNat by omega))⟩) rfl)
            have T72_243 : (u 74 (x3).toNat = 12 ∨ u 74 (x3).toNat = 13) → mJ l D cA ad 4 cX12_isIf 8 (some .boolean) 243 [(3, (0, (x3 + 1))), (5, (0, x3)), (4, (0, (u 75 (x3).toNat))), (0, (2, ((0 : Nat) : Int))), (2, (0, x2))] [] u Q := by
              intro e72
              obtain ⟨b0, b1, b2, b3, b4, b5, b6, b7, b8⟩ := ci_ifB hcu i2 (by omega) i4 (by omega)
              refine ja_aload_n disIf_243 rfl rfl ?_
              refine ja_dup disIf_244 (by decide) ?_
              refine fg_ePile (v := u 0 206) rfl disIf_245 ?_
              have f27 := gF_ePile gu
              refine ja_iconst disIf_248 ?_
              refine ja_isub disIf_249 ?_
              have g28 := gP_ePile gu (x := (u 0 206) - 1) ⟨by omega, by omega⟩
              refine fp_ePile disIf_250 ?_
              refine ja_aload_n disIf_253 rfl rfl ?_
              refine fa_ePileKind disIf_254 ?_
              refine ja_aload_n disIf_257 rfl rfl ?_
              refine fg_ePile (v := (u 0 206) - 1) rfl disIf_258 ?_
              refine il_ePileKind (v := u 136 ((u 0 206) - 1).toNat) rfl ⟨by omega, by omega⟩ disIf_261 ?_
              have f29 := gC_ePileKind gu ((u 0 206) - 1).toNat
              refine ja_aload_n disIf_262 rfl rfl ?_
              refine fa_ePileValue disIf_263 ?_
              refine ja_aload_n disIf_266 rfl rfl ?_
              refine fg_ePile (v := (u 0 206) - 1) rfl disIf_267 ?_
              refine il_ePileValue (v := u 137 ((u 0 206) - 1).toNat) rfl ⟨by omega, by omega⟩ disIf_270 ?_
              have f30 := gC_ePileValue gu ((u 0 206) - 1).toNat
              refine t_isTrue (by decide) (show (0 : Nat) ≤ 8 by decide) disIf_271 g28 ⟨by omega, by omega⟩ ⟨by omega, by omega⟩ ?_
              intro w31 k271_0
              replace k271_0 : 0 ≤ w31 ∧ w31 ≤ 1 := k271_0
              refine ja_istore disIf_274 (by decide) (L2 := [(7, (0, w31)), (3, (0, (x3 + 1))), (5, (0, x3)), (4, (0, (u 75 (x3).toNat))), (0, (2, ((0 : Nat) : Int))), (2, (0, x2))]) rfl ?_
              refine ja_iload disIf_276 rfl ?_
              refine ja_aload_n disIf_278 rfl rfl ?_
              refine fa_op disIf_279 ?_
              refine ja_iload disIf_282 rfl ?_
              refine il_op (v := u 74 (x3).toNat) rfl ⟨by omega, by omega⟩ disIf_284 ?_
              refine ja_bipush 13 disIf_285 rfl ?_
              refine ja_icmp_ne 294 disIf_287 rfl ⟨by omega, by omega⟩ ⟨by decide, by decide⟩ (fun c287 => ?_) (fun c287 => ?_)
              · refine ja_iconst disIf_294 ?_
                refine ja_icmp_ne 320 disIf_295 rfl ⟨by omega, by omega⟩ ⟨by decide, by decide⟩ (fun c295 => ?_) (fun c295 => ?_)
                · refine ja_goto 33 disIf_320 rfl ?_
                  exact ja_wk (fun q hq => by simp only [List.mem_cons, List.not_mem_nil, or_false] at hq; rcases hq with rfl | rfl | rfl <;> rfl) ((ih (((5001 : Int) - (x3 + 1)).toNat) (by omega)) x2 (x3 + 1) (ja_up u 0 206 ((u 0 206) - 1)) g28 ⟨by omega, by omega⟩ ⟨by omega, by omega⟩ (⟨by omega, (ag_trans ag (by (repeat (first | exact ag_refl | refine ag_up rfl ?_)))), (by (repeat (first | exact qv | refine vi_set (by decide) (by decide) (by decide) ?_ (by first | exact (fun z => absurd z (by decide)) | exact vi_aS qv (by decide) _ | exact (fun z => ⟨by omega, hca⟩) | exact (fun z => ⟨by omega, hca z⟩) | (intro z; exfalso; omega)) | refine vi_res ?_ (by first | exact (fun z => absurd z (by decide)) | exact vi_aS qv (by decide) _ | exact (fun z => ⟨by omega, hca⟩) | exact (fun z => ⟨by omega, hca z⟩) | (intro z; exfalso; omega)) | refine vi_up (by decide) (by decide) ?_))), by omega, by omega, b2, (show 0 ≤ (((u 0 206) - 1) : Int) by omega), (Or.inr (show (((u 0 206) - 1) : Int) = ht ((x3 + 1)).toNat by omega))⟩) rfl)
                · refine ja_aload_n disIf_298 rfl rfl ?_
                  refine ja_iconst disIf_299 ?_
                  refine ja_iload disIf_300 rfl ?_
                  refine t_asWhole (by decide) (show (2 : Nat) ≤ 8 by decide) disIf_302 g28 ⟨by omega, by omega⟩ ?_
                  intro w32 k302_0
                  replace k302_0 : 0 ≤ w32 ∧ w32 ≤ 1 := k302_0
                  refine t_ePut (by decide) (show (0 : Nat) ≤ 8 by decide) disIf_305 g28 ⟨by decide, by decide⟩ ⟨by omega, by omega⟩ (show 0 ≤ 1 ∧ 1 ≤ 2 by omega) (show ((u 0 206) - 1) < 64 by omega) ?_
                  intro g33
                  replace g33 : mo_G mo_zr (ja_up (ja_up (ja_up (ja_up u 0 206 ((u 0 206) - 1)) 136 (((u 0 206) - 1).toNat) 1) 137 (((u 0 206) - 1).toNat) w32) 0 206 (((u 0 206) - 1) + 1)) := g33
                  show mJ l D cA ad 4 cX12_isIf 8 (some .boolean) 308 [(7, (0, w31)), (3, (0, (x3 + 1))), (5, (0, x3)), (4, (0, (u 75 (x3).toNat))), (0, (2, ((0 : Nat) : Int))), (2, (0, x2))] [] (ja_up (ja_up (ja_up (ja_up u 0 206 ((u 0 206) - 1)) 136 (((u 0 206) - 1).toNat) 1) 137 (((u 0 206) - 1).toNat) w32) 0 206 (((u 0 206) - 1) + 1)) Q
                  refine ja_iload disIf_308 rfl ?_
                  refine ja_istore_n disIf_310 rfl (by decide) (L2 := [(3, (0, (u 75 (x3).toNat))), (7, (0, w31)), (5, (0, x3)), (4, (0, (u 75 (x3).toNat))), (0, (2, ((0 : Nat) : Int))), (2, (0, x2))]) rfl ?_
                  refine ja_goto 320 disIf_311 rfl ?_
                  refine ja_goto 33 disIf_320 rfl ?_
                  exact ja_wk (fun q hq => by simp only [List.mem_cons, List.not_mem_nil, or_false] at hq; rcases hq with rfl | rfl | rfl <;> rfl) ((ih (((5001 : Int) - (u 75 (x3).toNat)).toNat) (by omega)) x2 (u 75 (x3).toNat) (ja_up (ja_up (ja_up (ja_up u 0 206 ((u 0 206) - 1)) 136 (((u 0 206) - 1).toNat) 1) 137 (((u 0 206) - 1).toNat) w32) 0 206 (((u 0 206) - 1) + 1)) g33 ⟨by omega, by omega⟩ ⟨by omega, by omega⟩ (⟨by omega, (ag_trans ag (by (repeat (first | exact ag_refl | refine ag_up rfl ?_)))), (by (repeat (first | exact qv | refine vi_set (by decide) (by decide) (by decide) ?_ (by first | exact (fun z => absurd z (by decide)) | exact vi_aS qv (by decide) _ | exact (fun z => ⟨by omega, hca⟩) | exact (fun z => ⟨by omega, hca z⟩) | (intro z; exfalso; omega)) | refine vi_res ?_ (by first | exact (fun z => absurd z (by decide)) | exact vi_aS qv (by decide) _ | exact (fun z => ⟨by omega, hca⟩) | exact (fun z => ⟨by omega, hca z⟩) | (intro z; exfalso; omega)) | refine vi_up (by decide) (by decide) ?_))), by omega, by omega, b7, (show 0 ≤ ((((u 0 206) - 1) + 1) : Int) by omega), (Or.inr (show ((((u 0 206) - 1) + 1) : Int) = ht ((u 75 (x3).toNat)).toNat by omega))⟩) rfl)
              · refine ja_iconst disIf_290 ?_
                refine ja_goto 295 disIf_291 rfl ?_
                refine ja_icmp_ne 320 disIf_295 rfl ⟨by omega, by omega⟩ ⟨by decide, by decide⟩ (fun c295 => ?_) (fun c295 => ?_)
                · refine ja_goto 33 disIf_320 rfl ?_
                  exact ja_wk (fun q hq => by simp only [List.mem_cons, List.not_mem_nil, or_false] at hq; rcases hq with rfl | rfl | rfl <;> rfl) ((ih (((5001 : Int) - (x3 + 1)).toNat) (by omega)) x2 (x3 + 1) (ja_up u 0 206 ((u 0 206) - 1)) g28 ⟨by omega, by omega⟩ ⟨by omega, by omega⟩ (⟨by omega, (ag_trans ag (by (repeat (first | exact ag_refl | refine ag_up rfl ?_)))), (by (repeat (first | exact qv | refine vi_set (by decide) (by decide) (by decide) ?_ (by first | exact (fun z => absurd z (by decide)) | exact vi_aS qv (by decide) _ | exact (fun z => ⟨by omega, hca⟩) | exact (fun z => ⟨by omega, hca z⟩) | (intro z; exfalso; omega)) | refine vi_res ?_ (by first | exact (fun z => absurd z (by decide)) | exact vi_aS qv (by decide) _ | exact (fun z => ⟨by omega, hca⟩) | exact (fun z => ⟨by omega, hca z⟩) | (intro z; exfalso; omega)) | refine vi_up (by decide) (by decide) ?_))), by omega, by omega, b2, (show 0 ≤ (((u 0 206) - 1) : Int) by omega), (Or.inr (show (((u 0 206) - 1) : Int) = ht ((x3 + 1)).toNat by omega))⟩) rfl)
                · refine ja_aload_n disIf_298 rfl rfl ?_
                  refine ja_iconst disIf_299 ?_
                  refine ja_iload disIf_300 rfl ?_
                  refine t_asWhole (by decide) (show (2 : Nat) ≤ 8 by decide) disIf_302 g28 ⟨by omega, by omega⟩ ?_
                  intro w34 k302_0
                  replace k302_0 : 0 ≤ w34 ∧ w34 ≤ 1 := k302_0
                  refine t_ePut (by decide) (show (0 : Nat) ≤ 8 by decide) disIf_305 g28 ⟨by decide, by decide⟩ ⟨by omega, by omega⟩ (show 0 ≤ 1 ∧ 1 ≤ 2 by omega) (show ((u 0 206) - 1) < 64 by omega) ?_
                  intro g35
                  replace g35 : mo_G mo_zr (ja_up (ja_up (ja_up (ja_up u 0 206 ((u 0 206) - 1)) 136 (((u 0 206) - 1).toNat) 1) 137 (((u 0 206) - 1).toNat) w34) 0 206 (((u 0 206) - 1) + 1)) := g35
                  show mJ l D cA ad 4 cX12_isIf 8 (some .boolean) 308 [(7, (0, w31)), (3, (0, (x3 + 1))), (5, (0, x3)), (4, (0, (u 75 (x3).toNat))), (0, (2, ((0 : Nat) : Int))), (2, (0, x2))] [] (ja_up (ja_up (ja_up (ja_up u 0 206 ((u 0 206) - 1)) 136 (((u 0 206) - 1).toNat) 1) 137 (((u 0 206) - 1).toNat) w34) 0 206 (((u 0 206) - 1) + 1)) Q
                  refine ja_iload disIf_308 rfl ?_
                  refine ja_istore_n disIf_310 rfl (by decide) (L2 := [(3, (0, (u 75 (x3).toNat))), (7, (0, w31)), (5, (0, x3)), (4, (0, (u 75 (x3).toNat))), (0, (2, ((0 : Nat) : Int))), (2, (0, x2))]) rfl ?_
                  refine ja_goto 320 disIf_311 rfl ?_
                  refine ja_goto 33 disIf_320 rfl ?_
                  exact ja_wk (fun q hq => by simp only [List.mem_cons, List.not_mem_nil, or_false] at hq; rcases hq with rfl | rfl | rfl <;> rfl) ((ih (((5001 : Int) - (u 75 (x3).toNat)).toNat) (by omega)) x2 (u 75 (x3).toNat) (ja_up (ja_up (ja_up (ja_up u 0 206 ((u 0 206) - 1)) 136 (((u 0 206) - 1).toNat) 1) 137 (((u 0 206) - 1).toNat) w34) 0 206 (((u 0 206) - 1) + 1)) g35 ⟨by omega, by omega⟩ ⟨by omega, by omega⟩ (⟨by omega, (ag_trans ag (by (repeat (first | exact ag_refl | refine ag_up rfl ?_)))), (by (repeat (first | exact qv | refine vi_set (by decide) (by decide) (by decide) ?_ (by first | exact (fun z => absurd z (by decide)) | exact vi_aS qv (by decide) _ | exact (fun z => ⟨by omega, hca⟩) | exact (fun z => ⟨by omega, hca z⟩) | (intro z; exfalso; omega)) | refine vi_res ?_ (by first | exact (fun z => absurd z (by decide)) | exact vi_aS qv (by decide) _ | exact (fun z => ⟨by omega, hca⟩) | exact (fun z => ⟨by omega, hca z⟩) | (intro z; exfalso; omega)) | refine vi_up (by decide) (by decide) ?_))), by omega, by omega, b7, (show 0 ≤ ((((u 0 206) - 1) + 1) : Int) by omega), (Or.inr (show ((((u 0 206) - 1) + 1) : Int) = ht ((u 75 (x3).toNat)).toNat by omega))⟩) rfl)
            have T72_314 : (u 74 (x3).toNat < 1 ∨ 13 < u 74 (x3).toNat ∨ u 74 (x3).toNat = 3 ∨ u 74 (x3).toNat = 5 ∨ u 74 (x3).toNat = 7 ∨ u 74 (x3).toNat = 8 ∨ u 74 (x3).toNat = 9 ∨ u 74 (x3).toNat = 10 ∨ u 74 (x3).toNat = 11) → mJ l D cA ad 4 cX12_isIf 8 (some .boolean) 314 [(3, (0, (x3 + 1))), (5, (0, x3)), (4, (0, (u 75 (x3).toNat))), (0, (2, ((0 : Nat) : Int))), (2, (0, x2))] [] u Q := by
              intro e72
              obtain ⟨b0, b1, b2, b3, b4, b5, b6⟩ := ci_ifC hcu i2 (by omega) i4 (by omega)
              refine ja_aload_n disIf_314 rfl rfl ?_
              refine ja_iload disIf_315 rfl ?_
              refine t_ifWord (by decide) (show (0 : Nat) ≤ 8 by decide) disIf_317 gu ⟨by omega, by omega⟩ (show 0 ≤ x3 ∧ x3 < 5000 by omega) (qv) (b5) (b4) (show 1 ≤ (u 0 206) ∧ (u 0 206) ≤ 61 by omega) (show (u 74 (x3).toNat) = 9 → 2 ≤ (u 0 206) by omega) ?_
              intro h36 k317_0 g37
              refine ja_goto 33 disIf_320 rfl ?_
              exact ja_wk (fun q hq => by simp only [List.mem_cons, List.not_mem_nil, or_false] at hq; rcases hq with rfl | rfl | rfl <;> rfl) ((ih (((5001 : Int) - (x3 + 1)).toNat) (by omega)) x2 (x3 + 1) h36 g37 ⟨by omega, by omega⟩ ⟨by omega, by omega⟩ (⟨by omega, (ag_trans ag k317_0.1), k317_0.2.1, by omega, by omega, b2, (show 0 ≤ ((h36 0 206) : Int) by omega), Or.inr (show ((h36 0 206) : Int) = ht ((x3 + 1)).toNat by omega)⟩) rfl)
            rcases (by omega : u 74 (x3).toNat = 1 ∨ u 74 (x3).toNat = 2 ∨ u 74 (x3).toNat = 3 ∨ u 74 (x3).toNat = 4 ∨ u 74 (x3).toNat = 5 ∨ u 74 (x3).toNat = 6 ∨ u 74 (x3).toNat = 7 ∨ u 74 (x3).toNat = 8 ∨ u 74 (x3).toNat = 9 ∨ u 74 (x3).toNat = 10 ∨ u 74 (x3).toNat = 11 ∨ u 74 (x3).toNat = 12 ∨ u 74 (x3).toNat = 13 ∨ (u 74 (x3).toNat < 1 ∨ 13 < u 74 (x3).toNat)) with e | e | e | e | e | e | e | e | e | e | e | e | e | e
            · exact ja_tableIn 140 disIf_72 ⟨by omega, by omega⟩ (by omega) (by omega) (by rw [e]; rfl) rfl (T72_140 (by omega))
            · exact ja_tableIn 150 disIf_72 ⟨by omega, by omega⟩ (by omega) (by omega) (by rw [e]; rfl) rfl (T72_150 (by omega))
            · exact ja_tableIn 314 disIf_72 ⟨by omega, by omega⟩ (by omega) (by omega) (by rw [e]; rfl) rfl (T72_314 (by omega))
            · exact ja_tableIn 159 disIf_72 ⟨by omega, by omega⟩ (by omega) (by omega) (by rw [e]; rfl) rfl (T72_159 (by omega))
            · exact ja_tableIn 314 disIf_72 ⟨by omega, by omega⟩ (by omega) (by omega) (by rw [e]; rfl) rfl (T72_314 (by omega))
            · exact ja_tableIn 184 disIf_72 ⟨by omega, by omega⟩ (by omega) (by omega) (by rw [e]; rfl) rfl (T72_184 (by omega))
            · exact ja_tableIn 314 disIf_72 ⟨by omega, by omega⟩ (by omega) (by omega) (by rw [e]; rfl) rfl (T72_314 (by omega))
            · exact ja_tableIn 314 disIf_72 ⟨by omega, by omega⟩ (by omega) (by omega) (by rw [e]; rfl) rfl (T72_314 (by omega))
            · exact ja_tableIn 314 disIf_72 ⟨by omega, by omega⟩ (by omega) (by omega) (by rw [e]; rfl) rfl (T72_314 (by omega))
            · exact ja_tableIn 314 disIf_72 ⟨by omega, by omega⟩ (by omega) (by omega) (by rw [e]; rfl) rfl (T72_314 (by omega))
            · exact ja_tableIn 314 disIf_72 ⟨by omega, by omega⟩ (by omega) (by omega) (by rw [e]; rfl) rfl (T72_314 (by omega))
            · exact ja_tableIn 243 disIf_72 ⟨by omega, by omega⟩ (by omega) (by omega) (by rw [e]; rfl) rfl (T72_243 (by omega))
            · exact ja_tableIn 243 disIf_72 ⟨by omega, by omega⟩ (by omega) (by omega) (by rw [e]; rfl) rfl (T72_243 (by omega))
            · exact ja_tableOut 314 disIf_72 ⟨by omega, by omega⟩ (by omega) rfl (T72_314 (by omega))
  refine ja_aload_n disIf_0 rfl rfl ?_
  refine fa_nodeInPick disIf_1 ?_
  refine ja_iload_n disIf_4 rfl rfl ?_
  refine il_nodeInPick (v := h 67 (a1).toNat) rfl ⟨by omega, by omega⟩ disIf_5 ?_
  have f38 := gC_nodeInPick g (a1).toNat
  refine ja_if_eq 14 disIf_6 rfl ⟨by omega, by omega⟩ (fun c6 => ?_) (fun c6 => ?_)
  · refine ja_iconst disIf_14 ?_
    refine ja_istore_n disIf_15 rfl (by decide) (L2 := [(2, (0, 0)), (0, (2, ((0 : Nat) : Int))), (1, (0, a1))]) rfl ?_
    refine ja_aload_n disIf_16 rfl rfl ?_
    refine fa_nodeA disIf_17 ?_
    refine ja_iload_n disIf_20 rfl rfl ?_
    refine il_nodeA (v := h 59 (a1).toNat) rfl ⟨by omega, by omega⟩ disIf_21 ?_
    have f39 := gC_nodeA g (a1).toNat
    refine ja_istore_n disIf_22 rfl (by decide) (L2 := [(3, (0, (h 59 (a1).toNat))), (2, (0, 0)), (0, (2, ((0 : Nat) : Int))), (1, (0, a1))]) rfl ?_
    refine ja_aload_n disIf_23 rfl rfl ?_
    refine ja_iconst disIf_24 ?_
    have g40 := gP_ePile g (x := 0) ⟨by decide, by decide⟩
    refine fp_ePile disIf_25 ?_
    refine ja_aload_n disIf_28 rfl rfl ?_
    refine ja_iconst disIf_29 ?_
    have g41 := gP_eFails g40 (x := 0) ⟨by decide, by decide⟩
    refine fp_eFails (by omega) disIf_30 ?_
    exact ja_wk (fun q hq => by simp only [List.mem_cons, List.not_mem_nil, or_false] at hq; rcases hq with rfl | rfl | rfl <;> rfl) ((CUT _) 0 (h 59 (a1).toNat) (ja_up (ja_up h 0 206 0) 0 207 0) g41 ⟨by decide, by decide⟩ ⟨by omega, by omega⟩ (⟨by omega, (by (repeat (first | exact ag_refl | refine ag_up rfl ?_))), (by (repeat (first | exact p2 | refine vi_set (by decide) (by decide) (by decide) ?_ (by first | exact (fun z => absurd z (by decide)) | exact vi_aS p2 (by decide) _ | exact (fun z => ⟨by omega, hca⟩) | exact (fun z => ⟨by omega, hca z⟩) | (intro z; exfalso; omega)) | refine vi_res ?_ (by first | exact (fun z => absurd z (by decide)) | exact vi_aS p2 (by decide) _ | exact (fun z => ⟨by omega, hca⟩) | exact (fun z => ⟨by omega, hca z⟩) | (intro z; exfalso; omega)) | refine vi_up (by decide) (by decide) ?_))), by omega, by omega, p5, (show 0 ≤ (0 : Int) by omega), Or.inr (by rw [p6]; rfl)⟩) rfl)
  · refine ja_bipush 7 disIf_9 rfl ?_
    refine ja_goto 15 disIf_11 rfl ?_
    refine ja_istore_n disIf_15 rfl (by decide) (L2 := [(2, (0, 7)), (0, (2, ((0 : Nat) : Int))), (1, (0, a1))]) rfl ?_
    refine ja_aload_n disIf_16 rfl rfl ?_
    refine fa_nodeA disIf_17 ?_
    refine ja_iload_n disIf_20 rfl rfl ?_
    refine il_nodeA (v := h 59 (a1).toNat) rfl ⟨by omega, by omega⟩ disIf_21 ?_
    have f42 := gC_nodeA g (a1).toNat
    refine ja_istore_n disIf_22 rfl (by decide) (L2 := [(3, (0, (h 59 (a1).toNat))), (2, (0, 7)), (0, (2, ((0 : Nat) : Int))), (1, (0, a1))]) rfl ?_
    refine ja_aload_n disIf_23 rfl rfl ?_
    refine ja_iconst disIf_24 ?_
    have g43 := gP_ePile g (x := 0) ⟨by decide, by decide⟩
    refine fp_ePile disIf_25 ?_
    refine ja_aload_n disIf_28 rfl rfl ?_
    refine ja_iconst disIf_29 ?_
    have g44 := gP_eFails g43 (x := 0) ⟨by decide, by decide⟩
    refine fp_eFails (by omega) disIf_30 ?_
    exact ja_wk (fun q hq => by simp only [List.mem_cons, List.not_mem_nil, or_false] at hq; rcases hq with rfl | rfl | rfl <;> rfl) ((CUT _) 7 (h 59 (a1).toNat) (ja_up (ja_up h 0 206 0) 0 207 0) g44 ⟨by decide, by decide⟩ ⟨by omega, by omega⟩ (⟨by omega, (by (repeat (first | exact ag_refl | refine ag_up rfl ?_))), (by (repeat (first | exact p2 | refine vi_set (by decide) (by decide) (by decide) ?_ (by first | exact (fun z => absurd z (by decide)) | exact vi_aS p2 (by decide) _ | exact (fun z => ⟨by omega, hca⟩) | exact (fun z => ⟨by omega, hca z⟩) | (intro z; exfalso; omega)) | refine vi_res ?_ (by first | exact (fun z => absurd z (by decide)) | exact vi_aS p2 (by decide) _ | exact (fun z => ⟨by omega, hca⟩) | exact (fun z => ⟨by omega, hca z⟩) | (intro z; exfalso; omega)) | refine vi_up (by decide) (by decide) ?_))), by omega, by omega, p5, (show 0 ≤ (0 : Int) by omega), Or.inr (by rw [p6]; rfl)⟩) rfl)
theorem t_isIf {a1 : Int} {ht st rg : Nat → Int} {d nL pc : Nat} {cc : ByteArray} {rt : Option FieldType} {L : List (Nat × ja_V)} {S : List ja_V} {h : ja_H} {Q : Option ja_V → ja_H → Prop} (hdd : 4 < d) (hwd : ja_wd S ≤ 8) (hd : decode cc pc = .ok (.invokevirtual 1163, 3)) (g : mo_G mo_zr h) (r1 : -2147483648 ≤ a1 ∧ a1 ≤ 2147483647) (p1 : 0 ≤ a1 ∧ a1 ≤ 899) (p2 : VI h) (p3 : CI h ht st rg) (p4 : 0 ≤ (h 59 (a1).toNat) ∧ (h 59 (a1).toNat) < (h 0 113)) (p5 : rg ((h 59 (a1).toNat)).toNat = 4) (p6 : ht ((h 59 (a1).toNat)).toNat = 0) (k1 : ∀ (v : Int) (h' : ja_H), ((0 ≤ v ∧ v ≤ 1) ∧ mo_ag FBI h h' ∧ VI h') → mo_G mo_zr h' → mJ l D cA ad d cc nL rt (pc + 3) L ((0, v) :: S) h' Q) : mJ l D cA ad d cc nL rt pc L ((0, a1) :: (2, ((0 : Nat) : Int)) :: S) h Q :=
  mc_isIf hdd hwd hd (s_isIf g r1 p1 p2 p3 p4 p5 p6 k1)
end
