/-! the reference: rows with forgotten numbers, constants -/
variable {Zz : Zc}
section
variable {l : Launch} {D : va_G} {cA : Nat → ClassId} {ad : Nat → Nat} {sp : ja_S} {K d : Nat} {own : String} {cc : ByteArray} {nL : Nat} {rt : Option FieldType} {pc : Nat} {L : List (Nat × ja_V)} {S : List ja_V} {h : ja_H} {Q : Option ja_V → ja_H → Prop}
theorem ja_ldcw {index : Nat} {v : Int32} (x : Int) (hw : Cond.constant own index v ∈ ja_B) (hd : decode cc pc = .ok (.ldc_w index, 3)) (hv : v = Int32.ofInt x) (k : ja_J l D cA ad sp K d own cc nL rt (pc + 3) L ((0, x) :: S) h Q) : ja_J l D cA ad sp K d own cc nL rt pc L S h Q := by
  intro p e s m args below meth c H locs ls hx hb hml hr hown hts hnw hlt hlk hK hP hi hS hl
  subst hv
  exact lv_ldcw hx hb hown (hts _ hw) hd (k p e s m args below meth c H locs ls hx hb hml hr hown hts hnw hlt hlk hK hP hi hS hl)
theorem mo_iandc {x y : Int} (hd : decode cc pc = .ok (.iand, 1)) (hy : 0 ≤ y ∧ y ≤ 2147483647) (k : ∀ v : Int, (0 ≤ v ∧ v ≤ y) → ja_J l D cA ad sp K d own cc nL rt (pc + 1) L ((0, v) :: S) h Q) : ja_J l D cA ad sp K d own cc nL rt pc L ((0, y) :: (0, x) :: S) h Q := by
  have h1 := ck_and_ok (E := fun _ => 0) (L := fun _ => none) (x := ck_top) (y := ck_i y y) (a := ck_w32 x) (b := y) (ck_w32r x).1 (ck_w32r x).2 (ck_w32r x) (Int.le_refl _) (Int.le_refl _) ⟨by omega, by omega⟩
  rw [← ck_w32e] at h1
  have e : ck_and ck_top (ck_i y y) = ck_i 0 y := by
    unfold ck_and
    rw [if_pos]
    · rfl
    · exact decide_eq_true hy.1
  rw [e] at h1
  obtain ⟨v, hv, g1, g2, g3, -⟩ := ck_int h1.1 rfl
  have e2 : (Int32.ofInt x &&& Int32.ofInt y).toInt = v := congrArg Prod.snd hv
  exact ja_iand v hd (by rw [← e2, Int32.ofInt_toInt]) (k v ⟨g1, g2⟩)
theorem mo_hiadd {x y : Int} (hd : decode cc pc = .ok (.iadd, 1)) (k : ∀ v : Int, (-2147483648 ≤ v ∧ v ≤ 2147483647) → ja_J l D cA ad sp K d own cc nL rt (pc + 1) L ((0, v) :: S) h Q) : ja_J l D cA ad sp K d own cc nL rt pc L ((0, y) :: (0, x) :: S) h Q :=
  ja_iadd hd (ja_norm (ck_w32 (x + y)) (ck_w32e _) (k _ (ck_w32r _)))
theorem mo_hisub {x y : Int} (hd : decode cc pc = .ok (.isub, 1)) (k : ∀ v : Int, (-2147483648 ≤ v ∧ v ≤ 2147483647) → ja_J l D cA ad sp K d own cc nL rt (pc + 1) L ((0, v) :: S) h Q) : ja_J l D cA ad sp K d own cc nL rt pc L ((0, y) :: (0, x) :: S) h Q :=
  ja_isub hd (ja_norm (ck_w32 (x - y)) (ck_w32e _) (k _ (ck_w32r _)))
theorem mo_himul {x y : Int} (hd : decode cc pc = .ok (.imul, 1)) (k : ∀ v : Int, (-2147483648 ≤ v ∧ v ≤ 2147483647) → ja_J l D cA ad sp K d own cc nL rt (pc + 1) L ((0, v) :: S) h Q) : ja_J l D cA ad sp K d own cc nL rt pc L ((0, y) :: (0, x) :: S) h Q :=
  ja_imul hd (ja_norm (ck_w32 (x * y)) (ck_w32e _) (k _ (ck_w32r _)))
theorem mo_hineg {x : Int} (hd : decode cc pc = .ok (.ineg, 1)) (k : ∀ v : Int, (-2147483648 ≤ v ∧ v ≤ 2147483647) → ja_J l D cA ad sp K d own cc nL rt (pc + 1) L ((0, v) :: S) h Q) : ja_J l D cA ad sp K d own cc nL rt pc L ((0, x) :: S) h Q :=
  ja_ineg hd (ja_norm (ck_w32 (-x)) (ck_w32e _) (k _ (ck_w32r _)))
theorem mo_hiand {x y : Int} (hd : decode cc pc = .ok (.iand, 1)) (k : ∀ v : Int, (-2147483648 ≤ v ∧ v ≤ 2147483647) → ja_J l D cA ad sp K d own cc nL rt (pc + 1) L ((0, v) :: S) h Q) : ja_J l D cA ad sp K d own cc nL rt pc L ((0, y) :: (0, x) :: S) h Q :=
  ja_iand _ hd (Int32.ofInt_toInt _).symm (k _ (ck_ofr _))
theorem mo_hior {x y : Int} (hd : decode cc pc = .ok (.ior, 1)) (k : ∀ v : Int, (-2147483648 ≤ v ∧ v ≤ 2147483647) → ja_J l D cA ad sp K d own cc nL rt (pc + 1) L ((0, v) :: S) h Q) : ja_J l D cA ad sp K d own cc nL rt pc L ((0, y) :: (0, x) :: S) h Q :=
  ja_ior _ hd (Int32.ofInt_toInt _).symm (k _ (ck_ofr _))
theorem mo_hixor {x y : Int} (hd : decode cc pc = .ok (.ixor, 1)) (k : ∀ v : Int, (-2147483648 ≤ v ∧ v ≤ 2147483647) → ja_J l D cA ad sp K d own cc nL rt (pc + 1) L ((0, v) :: S) h Q) : ja_J l D cA ad sp K d own cc nL rt pc L ((0, y) :: (0, x) :: S) h Q :=
  ja_ixor _ hd (Int32.ofInt_toInt _).symm (k _ (ck_ofr _))
theorem mo_hishl {x y : Int} (hd : decode cc pc = .ok (.ishl, 1)) (k : ∀ v : Int, (-2147483648 ≤ v ∧ v ≤ 2147483647) → ja_J l D cA ad sp K d own cc nL rt (pc + 1) L ((0, v) :: S) h Q) : ja_J l D cA ad sp K d own cc nL rt pc L ((0, y) :: (0, x) :: S) h Q :=
  ja_ishl _ hd (Int32.ofInt_toInt _).symm (k _ (ck_ofr _))
theorem mo_hishr {x y : Int} (hd : decode cc pc = .ok (.ishr, 1)) (k : ∀ v : Int, (-2147483648 ≤ v ∧ v ≤ 2147483647) → ja_J l D cA ad sp K d own cc nL rt (pc + 1) L ((0, v) :: S) h Q) : ja_J l D cA ad sp K d own cc nL rt pc L ((0, y) :: (0, x) :: S) h Q :=
  ja_ishr _ hd (Int32.ofInt_toInt _).symm (k _ (ck_ofr _))
theorem mo_hidiv {x y : Int} (hd : decode cc pc = .ok (.idiv, 1)) (hy : ¬ y = 0) (hr : -2147483648 ≤ y ∧ y ≤ 2147483647) (k : ∀ v : Int, (-2147483648 ≤ v ∧ v ≤ 2147483647) → ja_J l D cA ad sp K d own cc nL rt (pc + 1) L ((0, v) :: S) h Q) : ja_J l D cA ad sp K d own cc nL rt pc L ((0, y) :: (0, x) :: S) h Q :=
  ja_idiv _ hd (fun q => hy ((ja_eq hr ja_r0).mp q)) (Int32.ofInt_toInt _).symm (k _ (ck_ofr _))
theorem mo_hirem {x y : Int} (hd : decode cc pc = .ok (.irem, 1)) (hy : ¬ y = 0) (hr : -2147483648 ≤ y ∧ y ≤ 2147483647) (k : ∀ v : Int, (-2147483648 ≤ v ∧ v ≤ 2147483647) → ja_J l D cA ad sp K d own cc nL rt (pc + 1) L ((0, v) :: S) h Q) : ja_J l D cA ad sp K d own cc nL rt pc L ((0, y) :: (0, x) :: S) h Q :=
  ja_irem _ hd (fun q => hy ((ja_eq hr ja_r0).mp q)) (Int32.ofInt_toInt _).symm (k _ (ck_ofr _))
theorem mo_lcmp {x y : Int} (hd : decode cc pc = .ok (.lcmp, 1)) (k : ∀ v : Int, (-1 ≤ v ∧ v ≤ 1) → ja_J l D cA ad sp K d own cc nL rt (pc + 1) L ((0, v) :: S) h Q) : ja_J l D cA ad sp K d own cc nL rt pc L ((1, y) :: (1, x) :: S) h Q :=
  ja_lcmp _ hd (Int32.ofInt_toInt _).symm (k _ (ck_cmpb _ _))
theorem mo_i2l {x : Int} (hd : decode cc pc = .ok (.i2l, 1)) (k : ∀ v : Int, ja_J l D cA ad sp K d own cc nL rt (pc + 1) L ((1, v) :: S) h Q) : ja_J l D cA ad sp K d own cc nL rt pc L ((0, x) :: S) h Q :=
  ja_i2l _ hd (Int64.ofInt_toInt _).symm (k _)
theorem mo_l2i {x : Int} (hd : decode cc pc = .ok (.l2i, 1)) (k : ∀ v : Int, (-2147483648 ≤ v ∧ v ≤ 2147483647) → ja_J l D cA ad sp K d own cc nL rt (pc + 1) L ((0, v) :: S) h Q) : ja_J l D cA ad sp K d own cc nL rt pc L ((1, x) :: S) h Q :=
  ja_l2i _ hd (Int32.ofInt_toInt _).symm (k _ (ck_ofr _))
theorem mo_lor {x y : Int} (hd : decode cc pc = .ok (.lor, 1)) (k : ∀ v : Int, ja_J l D cA ad sp K d own cc nL rt (pc + 1) L ((1, v) :: S) h Q) : ja_J l D cA ad sp K d own cc nL rt pc L ((1, y) :: (1, x) :: S) h Q :=
  ja_lor _ hd (Int64.ofInt_toInt _).symm (k _)
theorem mo_land {x y : Int} (hd : decode cc pc = .ok (.land, 1)) (k : ∀ v : Int, ja_J l D cA ad sp K d own cc nL rt (pc + 1) L ((1, v) :: S) h Q) : ja_J l D cA ad sp K d own cc nL rt pc L ((1, y) :: (1, x) :: S) h Q :=
  ja_land _ hd (Int64.ofInt_toInt _).symm (k _)
theorem mo_lxor {x y : Int} (hd : decode cc pc = .ok (.lxor, 1)) (k : ∀ v : Int, ja_J l D cA ad sp K d own cc nL rt (pc + 1) L ((1, v) :: S) h Q) : ja_J l D cA ad sp K d own cc nL rt pc L ((1, y) :: (1, x) :: S) h Q :=
  ja_lxor _ hd (Int64.ofInt_toInt _).symm (k _)
theorem mo_lushr {x y : Int} (hd : decode cc pc = .ok (.lushr, 1)) (k : ∀ v : Int, ja_J l D cA ad sp K d own cc nL rt (pc + 1) L ((1, v) :: S) h Q) : ja_J l D cA ad sp K d own cc nL rt pc L ((0, y) :: (1, x) :: S) h Q :=
  ja_lushr _ hd (Int64.ofInt_toInt _).symm (k _)
theorem mo_lshl {x y : Int} (hd : decode cc pc = .ok (.lshl, 1)) (k : ∀ v : Int, ja_J l D cA ad sp K d own cc nL rt (pc + 1) L ((1, v) :: S) h Q) : ja_J l D cA ad sp K d own cc nL rt pc L ((0, y) :: (1, x) :: S) h Q :=
  ja_lshl _ hd (Int64.ofInt_toInt _).symm (k _)
theorem mo_lshr {x y : Int} (hd : decode cc pc = .ok (.lshr, 1)) (k : ∀ v : Int, ja_J l D cA ad sp K d own cc nL rt (pc + 1) L ((1, v) :: S) h Q) : ja_J l D cA ad sp K d own cc nL rt pc L ((0, y) :: (1, x) :: S) h Q :=
  ja_lshr _ hd (Int64.ofInt_toInt _).symm (k _)
theorem mo_id {h : ja_H} {k j : Nat} : ja_up h k j (h k j) = h := by
  funext k' j'
  unfold ja_up
  split
  · next e => rw [e.1, e.2]
  · rfl
theorem mo_id2 {h : ja_H} {k j k2 j2 : Nat} {x y : Int} (hx : x = h k j) (hy : y = h k2 j2) : h = ja_up (ja_up h k j x) k2 j2 y := by
  subst hx; subst hy; rw [mo_id, mo_id]
theorem mo_id1 {h : ja_H} {k j : Nat} {x : Int} (hx : x = h k j) : h = ja_up h k j x := by
  subst hx; rw [mo_id]
theorem mk_221 (hd : decode cc pc = .ok (.ldc 221, 2)) (k : ja_J l D cA ad sp K d RX12 cc nL rt (pc + 2) L ((0, 360000) :: S) h Q) : ja_J l D cA ad sp K d RX12 cc nL rt pc L S h Q :=
  ja_ldc (v := Int32.ofInt 360000) 360000 (ja_m (ck_tb_in (p := 6839) (by decide +kernel)) rfl) hd rfl k
theorem mk_448 (hd : decode cc pc = .ok (.ldc2_w 448, 3)) (k : ja_J l D cA ad sp K d RX12 cc nL rt (pc + 3) L ((1, 6385252) :: S) h Q) : ja_J l D cA ad sp K d RX12 cc nL rt pc L S h Q :=
  ja_ldc2 (v := Int64.ofInt 6385252) 6385252 (ja_m (ck_tb_in (p := 7566) (by decide +kernel)) rfl) hd rfl k
theorem mk_450 (hd : decode cc pc = .ok (.ldc2_w 450, 3)) (k : ja_J l D cA ad sp K d RX12 cc nL rt (pc + 3) L ((1, 1634887539) :: S) h Q) : ja_J l D cA ad sp K d RX12 cc nL rt pc L S h Q :=
  ja_ldc2 (v := Int64.ofInt 1634887539) 1634887539 (ja_m (ck_tb_in (p := 7567) (by decide +kernel)) rfl) hd rfl k
theorem mk_452 (hd : decode cc pc = .ok (.ldc2_w 452, 3)) (k : ja_J l D cA ad sp K d RX12 cc nL rt (pc + 3) L ((1, 107144124132964) :: S) h Q) : ja_J l D cA ad sp K d RX12 cc nL rt pc L S h Q :=
  ja_ldc2 (v := Int64.ofInt 107144124132964) 107144124132964 (ja_m (ck_tb_in (p := 7568) (by decide +kernel)) rfl) hd rfl k
theorem mk_454 (hd : decode cc pc = .ok (.ldc2_w 454, 3)) (k : ja_J l D cA ad sp K d RX12 cc nL rt (pc + 3) L ((1, 107148434826100) :: S) h Q) : ja_J l D cA ad sp K d RX12 cc nL rt pc L S h Q :=
  ja_ldc2 (v := Int64.ofInt 107148434826100) 107148434826100 (ja_m (ck_tb_in (p := 7569) (by decide +kernel)) rfl) hd rfl k
theorem mk_456 (hd : decode cc pc = .ok (.ldc2_w 456, 3)) (k : ja_J l D cA ad sp K d RX12 cc nL rt (pc + 3) L ((1, 6447474) :: S) h Q) : ja_J l D cA ad sp K d RX12 cc nL rt pc L S h Q :=
  ja_ldc2 (v := Int64.ofInt 6447474) 6447474 (ja_m (ck_tb_in (p := 7570) (by decide +kernel)) rfl) hd rfl k
theorem mk_458 (hd : decode cc pc = .ok (.ldc2_w 458, 3)) (k : ja_J l D cA ad sp K d RX12 cc nL rt (pc + 3) L ((1, 108187649798757) :: S) h Q) : ja_J l D cA ad sp K d RX12 cc nL rt pc L S h Q :=
  ja_ldc2 (v := Int64.ofInt 108187649798757) 108187649798757 (ja_m (ck_tb_in (p := 7571) (by decide +kernel)) rfl) hd rfl k
theorem mk_460 (hd : decode cc pc = .ok (.ldc2_w 460, 3)) (k : ja_J l D cA ad sp K d RX12 cc nL rt (pc + 3) L ((1, 108187682958948) :: S) h Q) : ja_J l D cA ad sp K d RX12 cc nL rt pc L S h Q :=
  ja_ldc2 (v := Int64.ofInt 108187682958948) 108187682958948 (ja_m (ck_tb_in (p := 7572) (by decide +kernel)) rfl) hd rfl k
theorem mk_462 (hd : decode cc pc = .ok (.ldc2_w 462, 3)) (k : ja_J l D cA ad sp K d RX12 cc nL rt (pc + 3) L ((1, 1667329132) :: S) h Q) : ja_J l D cA ad sp K d RX12 cc nL rt pc L S h Q :=
  ja_ldc2 (v := Int64.ofInt 1667329132) 1667329132 (ja_m (ck_tb_in (p := 7573) (by decide +kernel)) rfl) hd rfl k
theorem mk_464 (hd : decode cc pc = .ok (.ldc2_w 464, 3)) (k : ja_J l D cA ad sp K d RX12 cc nL rt (pc + 3) L ((1, 426836779880) :: S) h Q) : ja_J l D cA ad sp K d RX12 cc nL rt pc L S h Q :=
  ja_ldc2 (v := Int64.ofInt 426836779880) 426836779880 (ja_m (ck_tb_in (p := 7574) (by decide +kernel)) rfl) hd rfl k
theorem mk_466 (hd : decode cc pc = .ok (.ldc2_w 466, 3)) (k : ja_J l D cA ad sp K d RX12 cc nL rt (pc + 3) L ((1, 427020088179) :: S) h Q) : ja_J l D cA ad sp K d RX12 cc nL rt pc L S h Q :=
  ja_ldc2 (v := Int64.ofInt 427020088179) 427020088179 (ja_m (ck_tb_in (p := 7575) (by decide +kernel)) rfl) hd rfl k
theorem mk_468 (hd : decode cc pc = .ok (.ldc2_w 468, 3)) (k : ja_J l D cA ad sp K d RX12 cc nL rt (pc + 3) L ((1, 1700881256) :: S) h Q) : ja_J l D cA ad sp K d RX12 cc nL rt pc L S h Q :=
  ja_ldc2 (v := Int64.ofInt 1700881256) 1700881256 (ja_m (ck_tb_in (p := 7576) (by decide +kernel)) rfl) hd rfl k
theorem mk_470 (hd : decode cc pc = .ok (.ldc2_w 470, 3)) (k : ja_J l D cA ad sp K d RX12 cc nL rt (pc + 3) L ((1, 1701606245) :: S) h Q) : ja_J l D cA ad sp K d RX12 cc nL rt pc L S h Q :=
  ja_ldc2 (v := Int64.ofInt 1701606245) 1701606245 (ja_m (ck_tb_in (p := 7577) (by decide +kernel)) rfl) hd rfl k
theorem mk_472 (hd : decode cc pc = .ok (.ldc2_w 472, 3)) (k : ja_J l D cA ad sp K d RX12 cc nL rt (pc + 3) L ((1, 1717660012) :: S) h Q) : ja_J l D cA ad sp K d RX12 cc nL rt pc L S h Q :=
  ja_ldc2 (v := Int64.ofInt 1717660012) 1717660012 (ja_m (ck_tb_in (p := 7578) (by decide +kernel)) rfl) hd rfl k
theorem mk_474 (hd : decode cc pc = .ok (.ldc2_w 474, 3)) (k : ja_J l D cA ad sp K d RX12 cc nL rt (pc + 3) L ((1, 439854918756) :: S) h Q) : ja_J l D cA ad sp K d RX12 cc nL rt pc L S h Q :=
  ja_ldc2 (v := Int64.ofInt 439854918756) 439854918756 (ja_m (ck_tb_in (p := 7579) (by decide +kernel)) rfl) hd rfl k
theorem mk_476 (hd : decode cc pc = .ok (.ldc2_w 476, 3)) (k : ja_J l D cA ad sp K d RX12 cc nL rt (pc + 3) L ((1, 1718382455) :: S) h Q) : ja_J l D cA ad sp K d RX12 cc nL rt pc L S h Q :=
  ja_ldc2 (v := Int64.ofInt 1718382455) 1718382455 (ja_m (ck_tb_in (p := 7580) (by decide +kernel)) rfl) hd rfl k
theorem mk_478 (hd : decode cc pc = .ok (.ldc2_w 478, 3)) (k : ja_J l D cA ad sp K d RX12 cc nL rt (pc + 3) L ((1, 6776180) :: S) h Q) : ja_J l D cA ad sp K d RX12 cc nL rt pc L S h Q :=
  ja_ldc2 (v := Int64.ofInt 6776180) 6776180 (ja_m (ck_tb_in (p := 7581) (by decide +kernel)) rfl) hd rfl k
theorem mk_480 (hd : decode cc pc = .ok (.ldc2_w 480, 3)) (k : ja_J l D cA ad sp K d RX12 cc nL rt (pc + 3) L ((1, 1734964837) :: S) h Q) : ja_J l D cA ad sp K d RX12 cc nL rt pc L S h Q :=
  ja_ldc2 (v := Int64.ofInt 1734964837) 1734964837 (ja_m (ck_tb_in (p := 7582) (by decide +kernel)) rfl) hd rfl k
theorem mk_482 (hd : decode cc pc = .ok (.ldc2_w 482, 3)) (k : ja_J l D cA ad sp K d RX12 cc nL rt (pc + 3) L ((1, 26479) :: S) h Q) : ja_J l D cA ad sp K d RX12 cc nL rt pc L S h Q :=
  ja_ldc2 (v := Int64.ofInt 26479) 26479 (ja_m (ck_tb_in (p := 7583) (by decide +kernel)) rfl) hd rfl k
theorem mk_484 (hd : decode cc pc = .ok (.ldc2_w 484, 3)) (k : ja_J l D cA ad sp K d RX12 cc nL rt (pc + 3) L ((1, 26982) :: S) h Q) : ja_J l D cA ad sp K d RX12 cc nL rt pc L S h Q :=
  ja_ldc2 (v := Int64.ofInt 26982) 26982 (ja_m (ck_tb_in (p := 7584) (by decide +kernel)) rfl) hd rfl k
theorem mk_486 (hd : decode cc pc = .ok (.ldc2_w 486, 3)) (k : ja_J l D cA ad sp K d RX12 cc nL rt (pc + 3) L ((1, 26990) :: S) h Q) : ja_J l D cA ad sp K d RX12 cc nL rt pc L S h Q :=
  ja_ldc2 (v := Int64.ofInt 26990) 26990 (ja_m (ck_tb_in (p := 7585) (by decide +kernel)) rfl) hd rfl k
theorem mk_488 (hd : decode cc pc = .ok (.ldc2_w 488, 3)) (k : ja_J l D cA ad sp K d RX12 cc nL rt (pc + 3) L ((1, 26995) :: S) h Q) : ja_J l D cA ad sp K d RX12 cc nL rt pc L S h Q :=
  ja_ldc2 (v := Int64.ofInt 26995) 26995 (ja_m (ck_tb_in (p := 7586) (by decide +kernel)) rfl) hd rfl k
theorem mk_490 (hd : decode cc pc = .ok (.ldc2_w 490, 3)) (k : ja_J l D cA ad sp K d RX12 cc nL rt (pc + 3) L ((1, 7103860) :: S) h Q) : ja_J l D cA ad sp K d RX12 cc nL rt pc L S h Q :=
  ja_ldc2 (v := Int64.ofInt 7103860) 7103860 (ja_m (ck_tb_in (p := 7587) (by decide +kernel)) rfl) hd rfl k
theorem mk_492 (hd : decode cc pc = .ok (.ldc2_w 492, 3)) (k : ja_J l D cA ad sp K d RX12 cc nL rt (pc + 3) L ((1, 1835100526) :: S) h Q) : ja_J l D cA ad sp K d RX12 cc nL rt pc L S h Q :=
  ja_ldc2 (v := Int64.ofInt 1835100526) 1835100526 (ja_m (ck_tb_in (p := 7591) (by decide +kernel)) rfl) hd rfl k
theorem mk_494 (hd : decode cc pc = .ok (.ldc2_w 494, 3)) (k : ja_J l D cA ad sp K d RX12 cc nL rt (pc + 3) L ((1, 1835101029) :: S) h Q) : ja_J l D cA ad sp K d RX12 cc nL rt pc L S h Q :=
  ja_ldc2 (v := Int64.ofInt 1835101029) 1835101029 (ja_m (ck_tb_in (p := 7592) (by decide +kernel)) rfl) hd rfl k
theorem mk_496 (hd : decode cc pc = .ok (.ldc2_w 496, 3)) (k : ja_J l D cA ad sp K d RX12 cc nL rt (pc + 3) L ((1, 120282512125796) :: S) h Q) : ja_J l D cA ad sp K d RX12 cc nL rt pc L S h Q :=
  ja_ldc2 (v := Int64.ofInt 120282512125796) 120282512125796 (ja_m (ck_tb_in (p := 7593) (by decide +kernel)) rfl) hd rfl k
theorem mk_498 (hd : decode cc pc = .ok (.ldc2_w 498, 3)) (k : ja_J l D cA ad sp K d RX12 cc nL rt (pc + 3) L ((1, 7234935) :: S) h Q) : ja_J l D cA ad sp K d RX12 cc nL rt pc L S h Q :=
  ja_ldc2 (v := Int64.ofInt 7234935) 7234935 (ja_m (ck_tb_in (p := 7594) (by decide +kernel)) rfl) hd rfl k
theorem mk_500 (hd : decode cc pc = .ok (.ldc2_w 500, 3)) (k : ja_J l D cA ad sp K d RX12 cc nL rt (pc + 3) L ((1, 1852796517) :: S) h Q) : ja_J l D cA ad sp K d RX12 cc nL rt pc L S h Q :=
  ja_ldc2 (v := Int64.ofInt 1852796517) 1852796517 (ja_m (ck_tb_in (p := 7595) (by decide +kernel)) rfl) hd rfl k
theorem mk_502 (hd : decode cc pc = .ok (.ldc2_w 502, 3)) (k : ja_J l D cA ad sp K d RX12 cc nL rt (pc + 3) L ((1, 7237492) :: S) h Q) : ja_J l D cA ad sp K d RX12 cc nL rt pc L S h Q :=
  ja_ldc2 (v := Int64.ofInt 7237492) 7237492 (ja_m (ck_tb_in (p := 7596) (by decide +kernel)) rfl) hd rfl k
theorem mk_504 (hd : decode cc pc = .ok (.ldc2_w 504, 3)) (k : ja_J l D cA ad sp K d RX12 cc nL rt (pc + 3) L ((1, 122468482507636) :: S) h Q) : ja_J l D cA ad sp K d RX12 cc nL rt pc L S h Q :=
  ja_ldc2 (v := Int64.ofInt 122468482507636) 122468482507636 (ja_m (ck_tb_in (p := 7597) (by decide +kernel)) rfl) hd rfl k
theorem mk_506 (hd : decode cc pc = .ok (.ldc2_w 506, 3)) (k : ja_J l D cA ad sp K d RX12 cc nL rt (pc + 3) L ((1, 28530) :: S) h Q) : ja_J l D cA ad sp K d RX12 cc nL rt pc L S h Q :=
  ja_ldc2 (v := Int64.ofInt 28530) 28530 (ja_m (ck_tb_in (p := 7598) (by decide +kernel)) rfl) hd rfl k
theorem mk_508 (hd : decode cc pc = .ok (.ldc2_w 508, 3)) (k : ja_J l D cA ad sp K d RX12 cc nL rt (pc + 3) L ((1, 478660552050) :: S) h Q) : ja_J l D cA ad sp K d RX12 cc nL rt pc L S h Q :=
  ja_ldc2 (v := Int64.ofInt 478660552050) 478660552050 (ja_m (ck_tb_in (p := 7599) (by decide +kernel)) rfl) hd rfl k
theorem mk_510 (hd : decode cc pc = .ok (.ldc2_w 510, 3)) (k : ja_J l D cA ad sp K d RX12 cc nL rt (pc + 3) L ((1, 1885954923) :: S) h Q) : ja_J l D cA ad sp K d RX12 cc nL rt pc L S h Q :=
  ja_ldc2 (v := Int64.ofInt 1885954923) 1885954923 (ja_m (ck_tb_in (p := 7600) (by decide +kernel)) rfl) hd rfl k
theorem mk_512 (hd : decode cc pc = .ok (.ldc2_w 512, 3)) (k : ja_J l D cA ad sp K d RX12 cc nL rt (pc + 3) L ((1, 482955849332) :: S) h Q) : ja_J l D cA ad sp K d RX12 cc nL rt pc L S h Q :=
  ja_ldc2 (v := Int64.ofInt 482955849332) 482955849332 (ja_m (ck_tb_in (p := 7601) (by decide +kernel)) rfl) hd rfl k
theorem mk_514 (hd : decode cc pc = .ok (.ldc2_w 514, 3)) (k : ja_J l D cA ad sp K d RX12 cc nL rt (pc + 3) L ((1, 125780071117422) :: S) h Q) : ja_J l D cA ad sp K d RX12 cc nL rt pc L S h Q :=
  ja_ldc2 (v := Int64.ofInt 125780071117422) 125780071117422 (ja_m (ck_tb_in (p := 7602) (by decide +kernel)) rfl) hd rfl k
theorem mk_516 (hd : decode cc pc = .ok (.ldc2_w 516, 3)) (k : ja_J l D cA ad sp K d RX12 cc nL rt (pc + 3) L ((1, 7501166) :: S) h Q) : ja_J l D cA ad sp K d RX12 cc nL rt pc L S h Q :=
  ja_ldc2 (v := Int64.ofInt 7501166) 7501166 (ja_m (ck_tb_in (p := 7603) (by decide +kernel)) rfl) hd rfl k
theorem mk_518 (hd : decode cc pc = .ok (.ldc2_w 518, 3)) (k : ja_J l D cA ad sp K d RX12 cc nL rt (pc + 3) L ((1, 1936026726) :: S) h Q) : ja_J l D cA ad sp K d RX12 cc nL rt pc L S h Q :=
  ja_ldc2 (v := Int64.ofInt 1936026726) 1936026726 (ja_m (ck_tb_in (p := 7604) (by decide +kernel)) rfl) hd rfl k
theorem mk_520 (hd : decode cc pc = .ok (.ldc2_w 520, 3)) (k : ja_J l D cA ad sp K d RX12 cc nL rt (pc + 3) L ((1, 7562612) :: S) h Q) : ja_J l D cA ad sp K d RX12 cc nL rt pc L S h Q :=
  ja_ldc2 (v := Int64.ofInt 7562612) 7562612 (ja_m (ck_tb_in (p := 7605) (by decide +kernel)) rfl) hd rfl k
theorem mk_522 (hd : decode cc pc = .ok (.ldc2_w 522, 3)) (k : ja_J l D cA ad sp K d RX12 cc nL rt (pc + 3) L ((1, 127961880028532) :: S) h Q) : ja_J l D cA ad sp K d RX12 cc nL rt pc L S h Q :=
  ja_ldc2 (v := Int64.ofInt 127961880028532) 127961880028532 (ja_m (ck_tb_in (p := 7606) (by decide +kernel)) rfl) hd rfl k
theorem mk_524 (hd : decode cc pc = .ok (.ldc2_w 524, 3)) (k : ja_J l D cA ad sp K d RX12 cc nL rt (pc + 3) L ((1, 499968536439) :: S) h Q) : ja_J l D cA ad sp K d RX12 cc nL rt pc L S h Q :=
  ja_ldc2 (v := Int64.ofInt 499968536439) 499968536439 (ja_m (ck_tb_in (p := 7607) (by decide +kernel)) rfl) hd rfl k
theorem mk_526 (hd : decode cc pc = .ok (.ldc2_w 526, 3)) (k : ja_J l D cA ad sp K d RX12 cc nL rt (pc + 3) L ((1, 7631481) :: S) h Q) : ja_J l D cA ad sp K d RX12 cc nL rt pc L S h Q :=
  ja_ldc2 (v := Int64.ofInt 7631481) 7631481 (ja_m (ck_tb_in (p := 7608) (by decide +kernel)) rfl) hd rfl k
theorem mk_528 (hd : decode cc pc = .ok (.ldc2_w 528, 3)) (k : ja_J l D cA ad sp K d RX12 cc nL rt (pc + 3) L ((1, 504363246962) :: S) h Q) : ja_J l D cA ad sp K d RX12 cc nL rt pc L S h Q :=
  ja_ldc2 (v := Int64.ofInt 504363246962) 504363246962 (ja_m (ck_tb_in (p := 7609) (by decide +kernel)) rfl) hd rfl k
theorem mk_530 (hd : decode cc pc = .ok (.ldc2_w 530, 3)) (k : ja_J l D cA ad sp K d RX12 cc nL rt (pc + 3) L ((1, 2002874990) :: S) h Q) : ja_J l D cA ad sp K d RX12 cc nL rt pc L S h Q :=
  ja_ldc2 (v := Int64.ofInt 2002874990) 2002874990 (ja_m (ck_tb_in (p := 7610) (by decide +kernel)) rfl) hd rfl k
theorem mk_532 (hd : decode cc pc = .ok (.ldc2_w 532, 3)) (k : ja_J l D cA ad sp K d RX12 cc nL rt (pc + 3) L ((1, 512852847717) :: S) h Q) : ja_J l D cA ad sp K d RX12 cc nL rt pc L S h Q :=
  ja_ldc2 (v := Int64.ofInt 512852847717) 512852847717 (ja_m (ck_tb_in (p := 7611) (by decide +kernel)) rfl) hd rfl k
theorem mk_534 (hd : decode cc pc = .ok (.ldc2_w 534, 3)) (k : ja_J l D cA ad sp K d RX12 cc nL rt (pc + 3) L ((1, 131294808271214) :: S) h Q) : ja_J l D cA ad sp K d RX12 cc nL rt pc L S h Q :=
  ja_ldc2 (v := Int64.ofInt 131294808271214) 131294808271214 (ja_m (ck_tb_in (p := 7612) (by decide +kernel)) rfl) hd rfl k
theorem mk_546 (hd : decode cc pc = .ok (.ldc2_w 546, 3)) (k : ja_J l D cA ad sp K d RX12 cc nL rt (pc + 3) L ((1, (-1)) :: S) h Q) : ja_J l D cA ad sp K d RX12 cc nL rt pc L S h Q :=
  ja_ldc2 (v := Int64.ofInt (-1)) (-1) (ja_m (ck_tb_in (p := 7559) (by decide +kernel)) rfl) hd rfl k
theorem mk_948 (hd : decode cc pc = .ok (.ldc2_w 948, 3)) (k : ja_J l D cA ad sp K d RX12 cc nL rt (pc + 3) L ((1, 107084111242085) :: S) h Q) : ja_J l D cA ad sp K d RX12 cc nL rt pc L S h Q :=
  ja_ldc2 (v := Int64.ofInt 107084111242085) 107084111242085 (ja_m (ck_tb_in (p := 7993) (by decide +kernel)) rfl) hd rfl k
theorem mk_1075w (hd : decode cc pc = .ok (.ldc_w 1075, 3)) (k : ja_J l D cA ad sp K d RX12 cc nL rt (pc + 3) L ((0, 2147483647) :: S) h Q) : ja_J l D cA ad sp K d RX12 cc nL rt pc L S h Q :=
  ja_ldcw (v := Int32.ofInt 2147483647) 2147483647 (ja_m (ck_tb_in (p := 8098) (by decide +kernel)) rfl) hd rfl k
end
