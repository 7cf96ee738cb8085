theorem ja_in {x : Int} (h1 : -2147483648 ≤ x) (h2 : x ≤ 2147483647) : (Int32.ofInt x).toInt = x := Int32.toInt_ofInt_of_le (by omega) (by omega)
theorem ja_inL {x : Int} (h1 : -9223372036854775808 ≤ x) (h2 : x ≤ 9223372036854775807) : (Int64.ofInt x).toInt = x := Int64.toInt_ofInt_of_le (by omega) (by omega)
def ja_r (x : Int) : Prop := -2147483648 ≤ x ∧ x ≤ 2147483647
def ja_rL (x : Int) : Prop := -9223372036854775808 ≤ x ∧ x ≤ 9223372036854775807
theorem ja_eq {x y : Int} (hx : ja_r x) (hy : ja_r y) : Int32.ofInt x = Int32.ofInt y ↔ x = y := by
  rw [← Int32.toInt_inj, ja_in hx.1 hx.2, ja_in hy.1 hy.2]
theorem ja_lt {x y : Int} (hx : ja_r x) (hy : ja_r y) : Int32.ofInt x < Int32.ofInt y ↔ x < y := by
  rw [Int32.lt_iff_toInt_lt, ja_in hx.1 hx.2, ja_in hy.1 hy.2]
theorem ja_le {x y : Int} (hx : ja_r x) (hy : ja_r y) : Int32.ofInt x ≤ Int32.ofInt y ↔ x ≤ y := by
  rw [Int32.le_iff_toInt_le, ja_in hx.1 hx.2, ja_in hy.1 hy.2]
theorem ja_r0 : ja_r 0 := ⟨by decide, by decide⟩
theorem ja_cat1 (ad : Nat → Nat) (v : ja_V) (h : v.1 ≠ 1) : (ja_c ad v).category = 1 := by
  obtain ⟨t, x⟩ := v
  unfold ja_c
  by_cases h0 : t = 0
  · subst h0; rfl
  · rw [if_neg h0, if_neg h]; rfl
theorem ja_cat2 (ad : Nat → Nat) (v : ja_V) (h : v.1 = 1) : (ja_c ad v).category = 2 := by
  obtain ⟨t, x⟩ := v
  cases h
  rfl
theorem ja_place {ad : Nat → Nat} {L : List (Nat × ja_V)} {i : Nat} {v : ja_V} (hg : ja_g L i = some v) : ∃ k : Nat, (L.map fun q => (q.1, ja_c ad q.2))[k]? = some (i, ja_c ad v) := by
  unfold ja_g at hg
  rw [Option.map_eq_some_iff] at hg
  obtain ⟨q, hq, rfl⟩ := hg
  have h1 := List.mem_of_find?_eq_some hq
  have h2 := List.find?_some hq
  have h3 : q.1 = i := by simpa using h2
  obtain ⟨k, hk⟩ := List.getElem?_of_mem h1
  exact ⟨k, by rw [List.getElem?_map, hk, ← h3]; rfl⟩
theorem ja_ix {i : Int} {n : Nat} (h0 : 0 ≤ i) (h1 : i < n) (hn : n < 2147483648) : vp_in (Int32.ofInt i) n ∧ (Int32.ofInt i).toNatClampNeg = i.toNat := by
  have e : (Int32.ofInt i).toInt = i := ja_in (by omega) (by omega)
  refine ⟨vp_in_iff.mpr ?_, ?_⟩
  · rw [e]; exact ⟨h0, h1⟩
  · rw [← Int32.toNat_toInt, e]
section JR
variable {l : Launch} {D : va_G} {cA : Nat → ClassId} {ad : Nat → Nat} {sp : ja_S} {K d : Nat} {own : String} {cc : ByteArray} {nL : Nat} {rt : Option FieldType} {pc : Nat} {L : List (Nat × ja_V)} {S : List ja_V} {h : ja_H} {Q : Option ja_V → ja_H → Prop}
theorem ja_iconst {n : Int} (hd : decode cc pc = .ok (.iconst n, 1)) (k : ja_J l D cA ad sp K d own cc nL rt (pc + 1) L ((0, n) :: S) h Q) : ja_J l D cA ad sp K d own cc nL rt pc L S h Q := by
  intro p e s m args below meth c H locs ls hx hb hml hr hown hts hnw hlt hlk hK hP hi hS hl
  exact lv_iconst hx hb hd rfl (k p e s m args below meth c H locs ls hx hb hml hr hown hts hnw hlt hlk hK hP hi hS hl)
theorem ja_bipush {n : Int} (x : Int) (hd : decode cc pc = .ok (.bipush n, 2)) (hv : (Int8.ofInt n).toInt32 = Int32.ofInt x) (k : ja_J l D cA ad sp K d own cc nL rt (pc + 2) L ((0, x) :: S) h Q) : ja_J l D cA ad sp K d own cc nL rt pc L S h Q := by
  intro p e s m args below meth c H locs ls hx hb hml hr hown hts hnw hlt hlk hK hP hi hS hl
  exact lv_bipush hx hb hd hv (k p e s m args below meth c H locs ls hx hb hml hr hown hts hnw hlt hlk hK hP hi hS hl)
theorem ja_sipush {n : Int} (x : Int) (hd : decode cc pc = .ok (.sipush n, 3)) (hv : (Int16.ofInt n).toInt32 = Int32.ofInt x) (k : ja_J l D cA ad sp K d own cc nL rt (pc + 3) L ((0, x) :: S) h Q) : ja_J l D cA ad sp K d own cc nL rt pc L S h Q := by
  intro p e s m args below meth c H locs ls hx hb hml hr hown hts hnw hlt hlk hK hP hi hS hl
  exact lv_sipush hx hb hd hv (k p e s m args below meth c H locs ls hx hb hml hr hown hts hnw hlt hlk hK hP hi hS hl)
theorem ja_lconst {n : Fin 2} (x : Int) (hd : decode cc pc = .ok (.lconst n, 1)) (hv : Int64.ofNat (n : Nat) = Int64.ofInt x) (k : ja_J l D cA ad sp K d own cc nL rt (pc + 1) L ((1, x) :: S) h Q) : ja_J l D cA ad sp K d own cc nL rt pc L S h Q := by
  intro p e s m args below meth c H locs ls hx hb hml hr hown hts hnw hlt hlk hK hP hi hS hl
  exact lv_lconst hx hb hd hv (k p e s m args below meth c H locs ls hx hb hml hr hown hts hnw hlt hlk hK hP hi hS hl)
theorem ja_ldc {index : Nat} {v : Int32} (x : Int) (hw : Cond.constant own index v ∈ ja_B) (hd : decode cc pc = .ok (.ldc index, 2)) (hv : v = Int32.ofInt x) (k : ja_J l D cA ad sp K d own cc nL rt (pc + 2) L ((0, x) :: S) h Q) : ja_J l D cA ad sp K d own cc nL rt pc L S h Q := by
  intro p e s m args below meth c H locs ls hx hb hml hr hown hts hnw hlt hlk hK hP hi hS hl
  subst hv
  exact lv_ldc hx hb hown (hts _ hw) hd (k p e s m args below meth c H locs ls hx hb hml hr hown hts hnw hlt hlk hK hP hi hS hl)
theorem ja_ldc2 {index : Nat} {v : Int64} (x : Int) (hw : Cond.constantLong own index v ∈ ja_B) (hd : decode cc pc = .ok (.ldc2_w index, 3)) (hv : v = Int64.ofInt x) (k : ja_J l D cA ad sp K d own cc nL rt (pc + 3) L ((1, x) :: S) h Q) : ja_J l D cA ad sp K d own cc nL rt pc L S h Q := by
  intro p e s m args below meth c H locs ls hx hb hml hr hown hts hnw hlt hlk hK hP hi hS hl
  subst hv
  exact lv_ldc2 hx hb hown (hts _ hw) hd (k p e s m args below meth c H locs ls hx hb hml hr hown hts hnw hlt hlk hK hP hi hS hl)
theorem ja_iload_n {q : Fin 4} {i : Nat} {x : Int} (hd : decode cc pc = .ok (.iload_n q, 1)) (hq : (q : Nat) = i) (hg : ja_g L i = some (0, x)) (k : ja_J l D cA ad sp K d own cc nL rt (pc + 1) L ((0, x) :: S) h Q) : ja_J l D cA ad sp K d own cc nL rt pc L S h Q := by
  intro p e s m args below meth c H locs ls hx hb hml hr hown hts hnw hlt hlk hK hP hi hS hl
  exact lv_iload_n hx hb hd hq (ja_at hl hg) (k p e s m args below meth c H locs ls hx hb hml hr hown hts hnw hlt hlk hK hP hi hS hl)
theorem ja_iload {i : Nat} {x : Int} (hd : decode cc pc = .ok (.iload i, 2)) (hg : ja_g L i = some (0, x)) (k : ja_J l D cA ad sp K d own cc nL rt (pc + 2) L ((0, x) :: S) h Q) : ja_J l D cA ad sp K d own cc nL rt pc L S h Q := by
  intro p e s m args below meth c H locs ls hx hb hml hr hown hts hnw hlt hlk hK hP hi hS hl
  exact lv_iload hx hb hd (ja_at hl hg) (k p e s m args below meth c H locs ls hx hb hml hr hown hts hnw hlt hlk hK hP hi hS hl)
theorem ja_istore_n {q : Fin 4} {i : Nat} {x : Int} {L2 : List (Nat × ja_V)} (hd : decode cc pc = .ok (.istore_n q, 1)) (hq : (q : Nat) = i) (hn : i < nL) (hL : ja_st i (0, x) L = L2) (k : ja_J l D cA ad sp K d own cc nL rt (pc + 1) L2 S h Q) : ja_J l D cA ad sp K d own cc nL rt pc L ((0, x) :: S) h Q := by
  intro p e s m args below meth c H locs ls hx hb hml hr hown hts hnw hlt hlk hK hP hi hS hl
  subst hL
  exact lv_istore_n hx hb hd hq hl hn (ja_stm ad i (0, x) L) (fun ls2 hl2 => k p e s m args below meth c H locs ls2 hx hb hml hr hown hts hnw hlt hlk hK hP hi hS hl2)
theorem ja_istore {i : Nat} {x : Int} {L2 : List (Nat × ja_V)} (hd : decode cc pc = .ok (.istore i, 2)) (hn : i < nL) (hL : ja_st i (0, x) L = L2) (k : ja_J l D cA ad sp K d own cc nL rt (pc + 2) L2 S h Q) : ja_J l D cA ad sp K d own cc nL rt pc L ((0, x) :: S) h Q := by
  intro p e s m args below meth c H locs ls hx hb hml hr hown hts hnw hlt hlk hK hP hi hS hl
  subst hL
  exact lv_istore hx hb hd hl hn (ja_stm ad i (0, x) L) (fun ls2 hl2 => k p e s m args below meth c H locs ls2 hx hb hml hr hown hts hnw hlt hlk hK hP hi hS hl2)
theorem ja_lload_n {q : Fin 4} {i : Nat} {x : Int} (hd : decode cc pc = .ok (.lload_n q, 1)) (hq : (q : Nat) = i) (hg : ja_g L i = some (1, x)) (k : ja_J l D cA ad sp K d own cc nL rt (pc + 1) L ((1, x) :: S) h Q) : ja_J l D cA ad sp K d own cc nL rt pc L S h Q := by
  intro p e s m args below meth c H locs ls hx hb hml hr hown hts hnw hlt hlk hK hP hi hS hl
  exact lv_lload_n hx hb hd hq (ja_at hl hg) (k p e s m args below meth c H locs ls hx hb hml hr hown hts hnw hlt hlk hK hP hi hS hl)
theorem ja_lload {i : Nat} {x : Int} (hd : decode cc pc = .ok (.lload i, 2)) (hg : ja_g L i = some (1, x)) (k : ja_J l D cA ad sp K d own cc nL rt (pc + 2) L ((1, x) :: S) h Q) : ja_J l D cA ad sp K d own cc nL rt pc L S h Q := by
  intro p e s m args below meth c H locs ls hx hb hml hr hown hts hnw hlt hlk hK hP hi hS hl
  exact lv_lload hx hb hd (ja_at hl hg) (k p e s m args below meth c H locs ls hx hb hml hr hown hts hnw hlt hlk hK hP hi hS hl)
theorem ja_lstore_n {q : Fin 4} {i : Nat} {x : Int} {L2 : List (Nat × ja_V)} (hd : decode cc pc = .ok (.lstore_n q, 1)) (hq : (q : Nat) = i) (hn : i + 1 < nL) (hL : ja_st2 i (1, x) L = L2) (k : ja_J l D cA ad sp K d own cc nL rt (pc + 1) L2 S h Q) : ja_J l D cA ad sp K d own cc nL rt pc L ((1, x) :: S) h Q := by
  intro p e s m args below meth c H locs ls hx hb hml hr hown hts hnw hlt hlk hK hP hi hS hl
  subst hL
  exact lv_lstore_n hx hb hd hq hl hn (ja_st2m ad i (1, x) L) (fun ls2 hl2 => k p e s m args below meth c H locs ls2 hx hb hml hr hown hts hnw hlt hlk hK hP hi hS hl2)
theorem ja_lstore {i : Nat} {x : Int} {L2 : List (Nat × ja_V)} (hd : decode cc pc = .ok (.lstore i, 2)) (hn : i + 1 < nL) (hL : ja_st2 i (1, x) L = L2) (k : ja_J l D cA ad sp K d own cc nL rt (pc + 2) L2 S h Q) : ja_J l D cA ad sp K d own cc nL rt pc L ((1, x) :: S) h Q := by
  intro p e s m args below meth c H locs ls hx hb hml hr hown hts hnw hlt hlk hK hP hi hS hl
  subst hL
  exact lv_lstore hx hb hd hl hn (ja_st2m ad i (1, x) L) (fun ls2 hl2 => k p e s m args below meth c H locs ls2 hx hb hml hr hown hts hnw hlt hlk hK hP hi hS hl2)
theorem ja_aload_n {q : Fin 4} {i : Nat} {x : Int} (hd : decode cc pc = .ok (.aload_n q, 1)) (hq : (q : Nat) = i) (hg : ja_g L i = some (2, x)) (k : ja_J l D cA ad sp K d own cc nL rt (pc + 1) L ((2, x) :: S) h Q) : ja_J l D cA ad sp K d own cc nL rt pc L S h Q := by
  intro p e s m args below meth c H locs ls hx hb hml hr hown hts hnw hlt hlk hK hP hi hS hl
  exact lv_aload_n hx hb hd hq (ja_at hl hg) (k p e s m args below meth c H locs ls hx hb hml hr hown hts hnw hlt hlk hK hP hi hS hl)
theorem ja_aload {i : Nat} {x : Int} (hd : decode cc pc = .ok (.aload i, 2)) (hg : ja_g L i = some (2, x)) (k : ja_J l D cA ad sp K d own cc nL rt (pc + 2) L ((2, x) :: S) h Q) : ja_J l D cA ad sp K d own cc nL rt pc L S h Q := by
  intro p e s m args below meth c H locs ls hx hb hml hr hown hts hnw hlt hlk hK hP hi hS hl
  exact lv_aload hx hb hd (ja_at hl hg) (k p e s m args below meth c H locs ls hx hb hml hr hown hts hnw hlt hlk hK hP hi hS hl)
theorem ja_astore_n {q : Fin 4} {i : Nat} {x : Int} {L2 : List (Nat × ja_V)} (hd : decode cc pc = .ok (.astore_n q, 1)) (hq : (q : Nat) = i) (hn : i < nL) (hL : ja_st i (2, x) L = L2) (k : ja_J l D cA ad sp K d own cc nL rt (pc + 1) L2 S h Q) : ja_J l D cA ad sp K d own cc nL rt pc L ((2, x) :: S) h Q := by
  intro p e s m args below meth c H locs ls hx hb hml hr hown hts hnw hlt hlk hK hP hi hS hl
  subst hL
  exact lv_astore_n hx hb hd hq hl hn (ja_stm ad i (2, x) L) (fun ls2 hl2 => k p e s m args below meth c H locs ls2 hx hb hml hr hown hts hnw hlt hlk hK hP hi hS hl2)
theorem ja_astore {i : Nat} {x : Int} {L2 : List (Nat × ja_V)} (hd : decode cc pc = .ok (.astore i, 2)) (hn : i < nL) (hL : ja_st i (2, x) L = L2) (k : ja_J l D cA ad sp K d own cc nL rt (pc + 2) L2 S h Q) : ja_J l D cA ad sp K d own cc nL rt pc L ((2, x) :: S) h Q := by
  intro p e s m args below meth c H locs ls hx hb hml hr hown hts hnw hlt hlk hK hP hi hS hl
  subst hL
  exact lv_astore hx hb hd hl hn (ja_stm ad i (2, x) L) (fun ls2 hl2 => k p e s m args below meth c H locs ls2 hx hb hml hr hown hts hnw hlt hlk hK hP hi hS hl2)
theorem ja_iinc {i : Nat} {n x : Int} {L2 : List (Nat × ja_V)} (hd : decode cc pc = .ok (.iinc i n, 3)) (hg : ja_g L i = some (0, x)) (hn : i < nL) (hL : ja_st i (0, x + n) L = L2) (k : ja_J l D cA ad sp K d own cc nL rt (pc + 3) L2 S h Q) : ja_J l D cA ad sp K d own cc nL rt pc L S h Q := by
  intro p e s m args below meth c H locs ls hx hb hml hr hown hts hnw hlt hlk hK hP hi hS hl
  subst hL
  obtain ⟨k0, hk0⟩ := ja_place (ad := ad) hg
  exact lv_iinc (v := Int32.ofInt (x + n)) hx hb hd hl hk0 (Int32.ofInt_add x n).symm hn (ja_stm ad i (0, x + n) L) (fun ls2 hl2 => k p e s m args below meth c H locs ls2 hx hb hml hr hown hts hnw hlt hlk hK hP hi hS hl2)
theorem ja_iadd {x y : Int} (hd : decode cc pc = .ok (.iadd, 1)) (k : ja_J l D cA ad sp K d own cc nL rt (pc + 1) L ((0, x + y) :: S) h Q) : ja_J l D cA ad sp K d own cc nL rt pc L ((0, y) :: (0, x) :: S) h Q := by
  intro p e s m args below meth c H locs ls hx hb hml hr hown hts hnw hlt hlk hK hP hi hS hl
  refine lv_iadd (x := Int32.ofInt x) (y := Int32.ofInt y) hx hb hd ?_
  rw [← Int32.ofInt_add]
  exact k p e s m args below meth c H locs ls hx hb hml hr hown hts hnw hlt hlk hK hP hi hS hl
theorem ja_isub {x y : Int} (hd : decode cc pc = .ok (.isub, 1)) (k : ja_J l D cA ad sp K d own cc nL rt (pc + 1) L ((0, x - y) :: S) h Q) : ja_J l D cA ad sp K d own cc nL rt pc L ((0, y) :: (0, x) :: S) h Q := by
  intro p e s m args below meth c H locs ls hx hb hml hr hown hts hnw hlt hlk hK hP hi hS hl
  refine lv_isub (x := Int32.ofInt x) (y := Int32.ofInt y) hx hb hd ?_
  rw [← Int32.ofInt_sub]
  exact k p e s m args below meth c H locs ls hx hb hml hr hown hts hnw hlt hlk hK hP hi hS hl
theorem ja_imul {x y : Int} (hd : decode cc pc = .ok (.imul, 1)) (k : ja_J l D cA ad sp K d own cc nL rt (pc + 1) L ((0, x * y) :: S) h Q) : ja_J l D cA ad sp K d own cc nL rt pc L ((0, y) :: (0, x) :: S) h Q := by
  intro p e s m args below meth c H locs ls hx hb hml hr hown hts hnw hlt hlk hK hP hi hS hl
  refine lv_imul (x := Int32.ofInt x) (y := Int32.ofInt y) hx hb hd ?_
  rw [← Int32.ofInt_mul]
  exact k p e s m args below meth c H locs ls hx hb hml hr hown hts hnw hlt hlk hK hP hi hS hl
theorem ja_ineg {x : Int} (hd : decode cc pc = .ok (.ineg, 1)) (k : ja_J l D cA ad sp K d own cc nL rt (pc + 1) L ((0, -x) :: S) h Q) : ja_J l D cA ad sp K d own cc nL rt pc L ((0, x) :: S) h Q := by
  intro p e s m args below meth c H locs ls hx hb hml hr hown hts hnw hlt hlk hK hP hi hS hl
  refine lv_ineg (x := Int32.ofInt x) hx hb hd ?_
  rw [← Int32.ofInt_neg]
  exact k p e s m args below meth c H locs ls hx hb hml hr hown hts hnw hlt hlk hK hP hi hS hl
theorem ja_iand {x y : Int} (v : Int) (hd : decode cc pc = .ok (.iand, 1)) (hv : Int32.ofInt x &&& Int32.ofInt y = Int32.ofInt v) (k : ja_J l D cA ad sp K d own cc nL rt (pc + 1) L ((0, v) :: S) h Q) : ja_J l D cA ad sp K d own cc nL rt pc L ((0, y) :: (0, x) :: S) h Q := by
  intro p e s m args below meth c H locs ls hx hb hml hr hown hts hnw hlt hlk hK hP hi hS hl
  refine lv_iand (x := Int32.ofInt x) (y := Int32.ofInt y) hx hb hd ?_
  rw [hv]
  exact k p e s m args below meth c H locs ls hx hb hml hr hown hts hnw hlt hlk hK hP hi hS hl
theorem ja_ior {x y : Int} (v : Int) (hd : decode cc pc = .ok (.ior, 1)) (hv : Int32.ofInt x ||| Int32.ofInt y = Int32.ofInt v) (k : ja_J l D cA ad sp K d own cc nL rt (pc + 1) L ((0, v) :: S) h Q) : ja_J l D cA ad sp K d own cc nL rt pc L ((0, y) :: (0, x) :: S) h Q := by
  intro p e s m args below meth c H locs ls hx hb hml hr hown hts hnw hlt hlk hK hP hi hS hl
  refine lv_ior (x := Int32.ofInt x) (y := Int32.ofInt y) hx hb hd ?_
  rw [hv]
  exact k p e s m args below meth c H locs ls hx hb hml hr hown hts hnw hlt hlk hK hP hi hS hl
theorem ja_ixor {x y : Int} (v : Int) (hd : decode cc pc = .ok (.ixor, 1)) (hv : Int32.ofInt x ^^^ Int32.ofInt y = Int32.ofInt v) (k : ja_J l D cA ad sp K d own cc nL rt (pc + 1) L ((0, v) :: S) h Q) : ja_J l D cA ad sp K d own cc nL rt pc L ((0, y) :: (0, x) :: S) h Q := by
  intro p e s m args below meth c H locs ls hx hb hml hr hown hts hnw hlt hlk hK hP hi hS hl
  refine lv_ixor (x := Int32.ofInt x) (y := Int32.ofInt y) hx hb hd ?_
  rw [hv]
  exact k p e s m args below meth c H locs ls hx hb hml hr hown hts hnw hlt hlk hK hP hi hS hl
theorem ja_ishl {x y : Int} (v : Int) (hd : decode cc pc = .ok (.ishl, 1)) (hv : Int32.ofInt x <<< (Int32.ofInt y &&& 31) = Int32.ofInt v) (k : ja_J l D cA ad sp K d own cc nL rt (pc + 1) L ((0, v) :: S) h Q) : ja_J l D cA ad sp K d own cc nL rt pc L ((0, y) :: (0, x) :: S) h Q := by
  intro p e s m args below meth c H locs ls hx hb hml hr hown hts hnw hlt hlk hK hP hi hS hl
  refine lv_ishl (x := Int32.ofInt x) (y := Int32.ofInt y) hx hb hd ?_
  rw [hv]
  exact k p e s m args below meth c H locs ls hx hb hml hr hown hts hnw hlt hlk hK hP hi hS hl
theorem ja_ishr {x y : Int} (v : Int) (hd : decode cc pc = .ok (.ishr, 1)) (hv : Int32.ofInt x >>> (Int32.ofInt y &&& 31) = Int32.ofInt v) (k : ja_J l D cA ad sp K d own cc nL rt (pc + 1) L ((0, v) :: S) h Q) : ja_J l D cA ad sp K d own cc nL rt pc L ((0, y) :: (0, x) :: S) h Q := by
  intro p e s m args below meth c H locs ls hx hb hml hr hown hts hnw hlt hlk hK hP hi hS hl
  refine lv_ishr (x := Int32.ofInt x) (y := Int32.ofInt y) hx hb hd ?_
  rw [hv]
  exact k p e s m args below meth c H locs ls hx hb hml hr hown hts hnw hlt hlk hK hP hi hS hl
theorem ja_idiv {x y : Int} (v : Int) (hd : decode cc pc = .ok (.idiv, 1)) (hne : ¬ Int32.ofInt y = 0) (hv : Int32.ofInt x / Int32.ofInt y = Int32.ofInt v) (k : ja_J l D cA ad sp K d own cc nL rt (pc + 1) L ((0, v) :: S) h Q) : ja_J l D cA ad sp K d own cc nL rt pc L ((0, y) :: (0, x) :: S) h Q := by
  intro p e s m args below meth c H locs ls hx hb hml hr hown hts hnw hlt hlk hK hP hi hS hl
  refine lv_idiv (x := Int32.ofInt x) (y := Int32.ofInt y) hx hb hd hne ?_
  rw [hv]
  exact k p e s m args below meth c H locs ls hx hb hml hr hown hts hnw hlt hlk hK hP hi hS hl
theorem ja_irem {x y : Int} (v : Int) (hd : decode cc pc = .ok (.irem, 1)) (hne : ¬ Int32.ofInt y = 0) (hv : Int32.ofInt x - Int32.ofInt x / Int32.ofInt y * Int32.ofInt y = Int32.ofInt v) (k : ja_J l D cA ad sp K d own cc nL rt (pc + 1) L ((0, v) :: S) h Q) : ja_J l D cA ad sp K d own cc nL rt pc L ((0, y) :: (0, x) :: S) h Q := by
  intro p e s m args below meth c H locs ls hx hb hml hr hown hts hnw hlt hlk hK hP hi hS hl
  refine lv_irem (x := Int32.ofInt x) (y := Int32.ofInt y) hx hb hd hne ?_
  rw [hv]
  exact k p e s m args below meth c H locs ls hx hb hml hr hown hts hnw hlt hlk hK hP hi hS hl
theorem ja_lor {x y : Int} (v : Int) (hd : decode cc pc = .ok (.lor, 1)) (hv : Int64.ofInt x ||| Int64.ofInt y = Int64.ofInt v) (k : ja_J l D cA ad sp K d own cc nL rt (pc + 1) L ((1, v) :: S) h Q) : ja_J l D cA ad sp K d own cc nL rt pc L ((1, y) :: (1, x) :: S) h Q := by
  intro p e s m args below meth c H locs ls hx hb hml hr hown hts hnw hlt hlk hK hP hi hS hl
  refine lv_lor (x := Int64.ofInt x) (y := Int64.ofInt y) hx hb hd ?_
  rw [hv]
  exact k p e s m args below meth c H locs ls hx hb hml hr hown hts hnw hlt hlk hK hP hi hS hl
theorem ja_land {x y : Int} (v : Int) (hd : decode cc pc = .ok (.land, 1)) (hv : Int64.ofInt x &&& Int64.ofInt y = Int64.ofInt v) (k : ja_J l D cA ad sp K d own cc nL rt (pc + 1) L ((1, v) :: S) h Q) : ja_J l D cA ad sp K d own cc nL rt pc L ((1, y) :: (1, x) :: S) h Q := by
  intro p e s m args below meth c H locs ls hx hb hml hr hown hts hnw hlt hlk hK hP hi hS hl
  refine lv_land (x := Int64.ofInt x) (y := Int64.ofInt y) hx hb hd ?_
  rw [hv]
  exact k p e s m args below meth c H locs ls hx hb hml hr hown hts hnw hlt hlk hK hP hi hS hl
theorem ja_lxor {x y : Int} (v : Int) (hd : decode cc pc = .ok (.lxor, 1)) (hv : Int64.ofInt x ^^^ Int64.ofInt y = Int64.ofInt v) (k : ja_J l D cA ad sp K d own cc nL rt (pc + 1) L ((1, v) :: S) h Q) : ja_J l D cA ad sp K d own cc nL rt pc L ((1, y) :: (1, x) :: S) h Q := by
  intro p e s m args below meth c H locs ls hx hb hml hr hown hts hnw hlt hlk hK hP hi hS hl
  refine lv_lxor (x := Int64.ofInt x) (y := Int64.ofInt y) hx hb hd ?_
  rw [hv]
  exact k p e s m args below meth c H locs ls hx hb hml hr hown hts hnw hlt hlk hK hP hi hS hl
theorem ja_lushr {x y : Int} (v : Int) (hd : decode cc pc = .ok (.lushr, 1)) (hv : ((Int64.ofInt x).toUInt64 >>> ((Int32.ofInt y).toInt64.toUInt64 &&& Int64.toUInt64 63)).toInt64 = Int64.ofInt v) (k : ja_J l D cA ad sp K d own cc nL rt (pc + 1) L ((1, v) :: S) h Q) : ja_J l D cA ad sp K d own cc nL rt pc L ((0, y) :: (1, x) :: S) h Q := by
  intro p e s m args below meth c H locs ls hx hb hml hr hown hts hnw hlt hlk hK hP hi hS hl
  exact lv_lushr (x := Int64.ofInt x) (y := Int32.ofInt y) hx hb hd hv (k p e s m args below meth c H locs ls hx hb hml hr hown hts hnw hlt hlk hK hP hi hS hl)
theorem ja_lshl {x y : Int} (v : Int) (hd : decode cc pc = .ok (.lshl, 1)) (hv : Int64.ofInt x <<< ((Int32.ofInt y).toInt64 &&& 63) = Int64.ofInt v) (k : ja_J l D cA ad sp K d own cc nL rt (pc + 1) L ((1, v) :: S) h Q) : ja_J l D cA ad sp K d own cc nL rt pc L ((0, y) :: (1, x) :: S) h Q := by
  intro p e s m args below meth c H locs ls hx hb hml hr hown hts hnw hlt hlk hK hP hi hS hl
  exact lv_lshl (x := Int64.ofInt x) (y := Int32.ofInt y) hx hb hd hv (k p e s m args below meth c H locs ls hx hb hml hr hown hts hnw hlt hlk hK hP hi hS hl)
theorem ja_lshr {x y : Int} (v : Int) (hd : decode cc pc = .ok (.lshr, 1)) (hv : Int64.ofInt x >>> ((Int32.ofInt y).toInt64 &&& 63) = Int64.ofInt v) (k : ja_J l D cA ad sp K d own cc nL rt (pc + 1) L ((1, v) :: S) h Q) : ja_J l D cA ad sp K d own cc nL rt pc L ((0, y) :: (1, x) :: S) h Q := by
  intro p e s m args below meth c H locs ls hx hb hml hr hown hts hnw hlt hlk hK hP hi hS hl
  exact lv_lshr (x := Int64.ofInt x) (y := Int32.ofInt y) hx hb hd hv (k p e s m args below meth c H locs ls hx hb hml hr hown hts hnw hlt hlk hK hP hi hS hl)
theorem ja_i2l {x : Int} (v : Int) (hd : decode cc pc = .ok (.i2l, 1)) (hv : (Int32.ofInt x).toInt64 = Int64.ofInt v) (k : ja_J l D cA ad sp K d own cc nL rt (pc + 1) L ((1, v) :: S) h Q) : ja_J l D cA ad sp K d own cc nL rt pc L ((0, x) :: S) h Q := by
  intro p e s m args below meth c H locs ls hx hb hml hr hown hts hnw hlt hlk hK hP hi hS hl
  exact lv_i2l hx hb hd hv (k p e s m args below meth c H locs ls hx hb hml hr hown hts hnw hlt hlk hK hP hi hS hl)
theorem ja_l2i {x : Int} (v : Int) (hd : decode cc pc = .ok (.l2i, 1)) (hv : (Int64.ofInt x).toInt32 = Int32.ofInt v) (k : ja_J l D cA ad sp K d own cc nL rt (pc + 1) L ((0, v) :: S) h Q) : ja_J l D cA ad sp K d own cc nL rt pc L ((1, x) :: S) h Q := by
  intro p e s m args below meth c H locs ls hx hb hml hr hown hts hnw hlt hlk hK hP hi hS hl
  exact lv_l2i hx hb hd hv (k p e s m args below meth c H locs ls hx hb hml hr hown hts hnw hlt hlk hK hP hi hS hl)
theorem ja_i2b {x : Int} (v : Int) (hd : decode cc pc = .ok (.i2b, 1)) (hv : (Int32.ofInt x).toInt8.toInt32 = Int32.ofInt v) (k : ja_J l D cA ad sp K d own cc nL rt (pc + 1) L ((0, v) :: S) h Q) : ja_J l D cA ad sp K d own cc nL rt pc L ((0, x) :: S) h Q := by
  intro p e s m args below meth c H locs ls hx hb hml hr hown hts hnw hlt hlk hK hP hi hS hl
  exact lv_i2b hx hb hd hv (k p e s m args below meth c H locs ls hx hb hml hr hown hts hnw hlt hlk hK hP hi hS hl)
theorem ja_lcmp {x y : Int} (v : Int) (hd : decode cc pc = .ok (.lcmp, 1)) (hv : lg_cmp (Int64.ofInt x) (Int64.ofInt y) = Int32.ofInt v) (k : ja_J l D cA ad sp K d own cc nL rt (pc + 1) L ((0, v) :: S) h Q) : ja_J l D cA ad sp K d own cc nL rt pc L ((1, y) :: (1, x) :: S) h Q := by
  intro p e s m args below meth c H locs ls hx hb hml hr hown hts hnw hlt hlk hK hP hi hS hl
  refine W.lcmp (x := Int64.ofInt x) (y := Int64.ofInt y) hx hb hd ?_
  rw [hv]
  exact k p e s m args below meth c H locs ls hx hb hml hr hown hts hnw hlt hlk hK hP hi hS hl
theorem ja_pop {v : ja_V} (hd : decode cc pc = .ok (.pop, 1)) (hc : v.1 ≠ 1) (k : ja_J l D cA ad sp K d own cc nL rt (pc + 1) L S h Q) : ja_J l D cA ad sp K d own cc nL rt pc L (v :: S) h Q := by
  intro p e s m args below meth c H locs ls hx hb hml hr hown hts hnw hlt hlk hK hP hi hS hl
  exact lv_pop hx hb hd (ja_cat1 ad v hc) (k p e s m args below meth c H locs ls hx hb hml hr hown hts hnw hlt hlk hK hP hi hS hl)
theorem ja_pop2 {v : ja_V} (hd : decode cc pc = .ok (.pop2, 1)) (hc : v.1 = 1) (k : ja_J l D cA ad sp K d own cc nL rt (pc + 1) L S h Q) : ja_J l D cA ad sp K d own cc nL rt pc L (v :: S) h Q := by
  intro p e s m args below meth c H locs ls hx hb hml hr hown hts hnw hlt hlk hK hP hi hS hl
  exact lv_pop2_2 hx hb hd (ja_cat2 ad v hc) (k p e s m args below meth c H locs ls hx hb hml hr hown hts hnw hlt hlk hK hP hi hS hl)
theorem ja_dup {v : ja_V} (hd : decode cc pc = .ok (.dup, 1)) (hc : v.1 ≠ 1) (k : ja_J l D cA ad sp K d own cc nL rt (pc + 1) L (v :: v :: S) h Q) : ja_J l D cA ad sp K d own cc nL rt pc L (v :: S) h Q := by
  intro p e s m args below meth c H locs ls hx hb hml hr hown hts hnw hlt hlk hK hP hi hS hl
  exact lv_dup hx hb hd (ja_cat1 ad v hc) (k p e s m args below meth c H locs ls hx hb hml hr hown hts hnw hlt hlk hK hP hi hS hl)
theorem ja_dup2 {v w : ja_V} (hd : decode cc pc = .ok (.dup2, 1)) (hc : v.1 ≠ 1) (hc2 : w.1 ≠ 1) (k : ja_J l D cA ad sp K d own cc nL rt (pc + 1) L (v :: w :: v :: w :: S) h Q) : ja_J l D cA ad sp K d own cc nL rt pc L (v :: w :: S) h Q := by
  intro p e s m args below meth c H locs ls hx hb hml hr hown hts hnw hlt hlk hK hP hi hS hl
  exact lv_dup2_11 hx hb hd (ja_cat1 ad v hc) (ja_cat1 ad w hc2) (k p e s m args below meth c H locs ls hx hb hml hr hown hts hnw hlt hlk hK hP hi hS hl)
theorem ja_dup_x1 {v w : ja_V} (hd : decode cc pc = .ok (.dup_x1, 1)) (hc : v.1 ≠ 1) (hc2 : w.1 ≠ 1) (k : ja_J l D cA ad sp K d own cc nL rt (pc + 1) L (v :: w :: v :: S) h Q) : ja_J l D cA ad sp K d own cc nL rt pc L (v :: w :: S) h Q := by
  intro p e s m args below meth c H locs ls hx hb hml hr hown hts hnw hlt hlk hK hP hi hS hl
  exact lv_dup_x1 hx hb hd (ja_cat1 ad v hc) (ja_cat1 ad w hc2) (k p e s m args below meth c H locs ls hx hb hml hr hown hts hnw hlt hlk hK hP hi hS hl)
theorem ja_goto {off : Int} (tgt : Nat) (hd : decode cc pc = .ok (.goto off, 3)) (ht : (pc : Int) + off = (tgt : Int)) (k : ja_J l D cA ad sp K d own cc nL rt tgt L S h Q) : ja_J l D cA ad sp K d own cc nL rt pc L S h Q := by
  intro p e s m args below meth c H locs ls hx hb hml hr hown hts hnw hlt hlk hK hP hi hS hl
  exact lv_goto hx hb hd ht (k p e s m args below meth c H locs ls hx hb hml hr hown hts hnw hlt hlk hK hP hi hS hl)
theorem ja_if_eq {x : Int} {off : Int} (tgt : Nat) (hd : decode cc pc = .ok (.ifCond .eq off, 3)) (ht : (pc : Int) + off = (tgt : Int)) (hr1 : ja_r x) (kt : x = 0 → ja_J l D cA ad sp K d own cc nL rt tgt L S h Q) (kf : ¬ x = 0 → ja_J l D cA ad sp K d own cc nL rt (pc + 3) L S h Q) : ja_J l D cA ad sp K d own cc nL rt pc L ((0, x) :: S) h Q := by
  intro p e s m args below meth c H locs ls hx hb hml hr hown hts hnw hlt hlk hK hP hi hS hl
  have e0 : (0 : Int32) = Int32.ofInt 0 := rfl
  have ee := ja_eq hr1 ja_r0
  rw [← e0] at ee
  exact lv_if_eq (x := Int32.ofInt x) hx hb hd ht (fun q => kt (ee.mp q) p e s m args below meth c H locs ls hx hb hml hr hown hts hnw hlt hlk hK hP hi hS hl) (fun q => kf (fun z => q (ee.mpr z)) p e s m args below meth c H locs ls hx hb hml hr hown hts hnw hlt hlk hK hP hi hS hl)
theorem ja_if_ne {x : Int} {off : Int} (tgt : Nat) (hd : decode cc pc = .ok (.ifCond .ne off, 3)) (ht : (pc : Int) + off = (tgt : Int)) (hr1 : ja_r x) (kt : ¬ x = 0 → ja_J l D cA ad sp K d own cc nL rt tgt L S h Q) (kf : x = 0 → ja_J l D cA ad sp K d own cc nL rt (pc + 3) L S h Q) : ja_J l D cA ad sp K d own cc nL rt pc L ((0, x) :: S) h Q := by
  intro p e s m args below meth c H locs ls hx hb hml hr hown hts hnw hlt hlk hK hP hi hS hl
  have e0 : (0 : Int32) = Int32.ofInt 0 := rfl
  have ee := ja_eq hr1 ja_r0
  rw [← e0] at ee
  exact lv_if_ne (x := Int32.ofInt x) hx hb hd ht (fun q => kt (fun z => q (ee.mpr z)) p e s m args below meth c H locs ls hx hb hml hr hown hts hnw hlt hlk hK hP hi hS hl) (fun q => kf (by first | exact ee.mp q | exact ee.mp (Decidable.not_not.mp q)) p e s m args below meth c H locs ls hx hb hml hr hown hts hnw hlt hlk hK hP hi hS hl)
theorem ja_if_lt {x : Int} {off : Int} (tgt : Nat) (hd : decode cc pc = .ok (.ifCond .lt off, 3)) (ht : (pc : Int) + off = (tgt : Int)) (hr1 : ja_r x) (kt : x < 0 → ja_J l D cA ad sp K d own cc nL rt tgt L S h Q) (kf : ¬ x < 0 → ja_J l D cA ad sp K d own cc nL rt (pc + 3) L S h Q) : ja_J l D cA ad sp K d own cc nL rt pc L ((0, x) :: S) h Q := by
  intro p e s m args below meth c H locs ls hx hb hml hr hown hts hnw hlt hlk hK hP hi hS hl
  have e0 : (0 : Int32) = Int32.ofInt 0 := rfl
  have ee := ja_lt hr1 ja_r0
  rw [← e0] at ee
  exact lv_if_lt (x := Int32.ofInt x) hx hb hd ht (fun q => kt (ee.mp q) p e s m args below meth c H locs ls hx hb hml hr hown hts hnw hlt hlk hK hP hi hS hl) (fun q => kf (fun z => q (ee.mpr z)) p e s m args below meth c H locs ls hx hb hml hr hown hts hnw hlt hlk hK hP hi hS hl)
theorem ja_if_ge {x : Int} {off : Int} (tgt : Nat) (hd : decode cc pc = .ok (.ifCond .ge off, 3)) (ht : (pc : Int) + off = (tgt : Int)) (hr1 : ja_r x) (kt : 0 ≤ x → ja_J l D cA ad sp K d own cc nL rt tgt L S h Q) (kf : ¬ 0 ≤ x → ja_J l D cA ad sp K d own cc nL rt (pc + 3) L S h Q) : ja_J l D cA ad sp K d own cc nL rt pc L ((0, x) :: S) h Q := by
  intro p e s m args below meth c H locs ls hx hb hml hr hown hts hnw hlt hlk hK hP hi hS hl
  have e0 : (0 : Int32) = Int32.ofInt 0 := rfl
  have ee := ja_le ja_r0 hr1
  rw [← e0] at ee
  exact lv_if_ge (x := Int32.ofInt x) hx hb hd ht (fun q => kt (ee.mp q) p e s m args below meth c H locs ls hx hb hml hr hown hts hnw hlt hlk hK hP hi hS hl) (fun q => kf (fun z => q (ee.mpr z)) p e s m args below meth c H locs ls hx hb hml hr hown hts hnw hlt hlk hK hP hi hS hl)
theorem ja_if_gt {x : Int} {off : Int} (tgt : Nat) (hd : decode cc pc = .ok (.ifCond .gt off, 3)) (ht : (pc : Int) + off = (tgt : Int)) (hr1 : ja_r x) (kt : 0 < x → ja_J l D cA ad sp K d own cc nL rt tgt L S h Q) (kf : ¬ 0 < x → ja_J l D cA ad sp K d own cc nL rt (pc + 3) L S h Q) : ja_J l D cA ad sp K d own cc nL rt pc L ((0, x) :: S) h Q := by
  intro p e s m args below meth c H locs ls hx hb hml hr hown hts hnw hlt hlk hK hP hi hS hl
  have e0 : (0 : Int32) = Int32.ofInt 0 := rfl
  have ee := ja_lt ja_r0 hr1
  rw [← e0] at ee
  exact lv_if_gt (x := Int32.ofInt x) hx hb hd ht (fun q => kt (ee.mp q) p e s m args below meth c H locs ls hx hb hml hr hown hts hnw hlt hlk hK hP hi hS hl) (fun q => kf (fun z => q (ee.mpr z)) p e s m args below meth c H locs ls hx hb hml hr hown hts hnw hlt hlk hK hP hi hS hl)
theorem ja_if_le {x : Int} {off : Int} (tgt : Nat) (hd : decode cc pc = .ok (.ifCond .le off, 3)) (ht : (pc : Int) + off = (tgt : Int)) (hr1 : ja_r x) (kt : x ≤ 0 → ja_J l D cA ad sp K d own cc nL rt tgt L S h Q) (kf : ¬ x ≤ 0 → ja_J l D cA ad sp K d own cc nL rt (pc + 3) L S h Q) : ja_J l D cA ad sp K d own cc nL rt pc L ((0, x) :: S) h Q := by
  intro p e s m args below meth c H locs ls hx hb hml hr hown hts hnw hlt hlk hK hP hi hS hl
  have e0 : (0 : Int32) = Int32.ofInt 0 := rfl
  have ee := ja_le hr1 ja_r0
  rw [← e0] at ee
  exact lv_if_le (x := Int32.ofInt x) hx hb hd ht (fun q => kt (ee.mp q) p e s m args below meth c H locs ls hx hb hml hr hown hts hnw hlt hlk hK hP hi hS hl) (fun q => kf (fun z => q (ee.mpr z)) p e s m args below meth c H locs ls hx hb hml hr hown hts hnw hlt hlk hK hP hi hS hl)
theorem ja_icmp_eq {x y : Int} {off : Int} (tgt : Nat) (hd : decode cc pc = .ok (.if_icmp .eq off, 3)) (ht : (pc : Int) + off = (tgt : Int)) (hr1 : ja_r x) (hr2 : ja_r y) (kt : x = y → ja_J l D cA ad sp K d own cc nL rt tgt L S h Q) (kf : ¬ x = y → ja_J l D cA ad sp K d own cc nL rt (pc + 3) L S h Q) : ja_J l D cA ad sp K d own cc nL rt pc L ((0, y) :: (0, x) :: S) h Q := by
  intro p e s m args below meth c H locs ls hx hb hml hr hown hts hnw hlt hlk hK hP hi hS hl
  have ee := ja_eq hr1 hr2
  exact lv_icmp_eq (x := Int32.ofInt x) (y := Int32.ofInt y) hx hb hd ht (fun q => kt (ee.mp q) p e s m args below meth c H locs ls hx hb hml hr hown hts hnw hlt hlk hK hP hi hS hl) (fun q => kf (fun z => q (ee.mpr z)) p e s m args below meth c H locs ls hx hb hml hr hown hts hnw hlt hlk hK hP hi hS hl)
theorem ja_icmp_ne {x y : Int} {off : Int} (tgt : Nat) (hd : decode cc pc = .ok (.if_icmp .ne off, 3)) (ht : (pc : Int) + off = (tgt : Int)) (hr1 : ja_r x) (hr2 : ja_r y) (kt : ¬ x = y → ja_J l D cA ad sp K d own cc nL rt tgt L S h Q) (kf : x = y → ja_J l D cA ad sp K d own cc nL rt (pc + 3) L S h Q) : ja_J l D cA ad sp K d own cc nL rt pc L ((0, y) :: (0, x) :: S) h Q := by
  intro p e s m args below meth c H locs ls hx hb hml hr hown hts hnw hlt hlk hK hP hi hS hl
  have ee := ja_eq hr1 hr2
  exact lv_icmp_ne (x := Int32.ofInt x) (y := Int32.ofInt y) hx hb hd ht (fun q => kt (fun z => q (ee.mpr z)) p e s m args below meth c H locs ls hx hb hml hr hown hts hnw hlt hlk hK hP hi hS hl) (fun q => kf (by first | exact ee.mp q | exact ee.mp (Decidable.not_not.mp q)) p e s m args below meth c H locs ls hx hb hml hr hown hts hnw hlt hlk hK hP hi hS hl)
theorem ja_icmp_lt {x y : Int} {off : Int} (tgt : Nat) (hd : decode cc pc = .ok (.if_icmp .lt off, 3)) (ht : (pc : Int) + off = (tgt : Int)) (hr1 : ja_r x) (hr2 : ja_r y) (kt : x < y → ja_J l D cA ad sp K d own cc nL rt tgt L S h Q) (kf : ¬ x < y → ja_J l D cA ad sp K d own cc nL rt (pc + 3) L S h Q) : ja_J l D cA ad sp K d own cc nL rt pc L ((0, y) :: (0, x) :: S) h Q := by
  intro p e s m args below meth c H locs ls hx hb hml hr hown hts hnw hlt hlk hK hP hi hS hl
  have ee := ja_lt hr1 hr2
  exact lv_icmp_lt (x := Int32.ofInt x) (y := Int32.ofInt y) hx hb hd ht (fun q => kt (ee.mp q) p e s m args below meth c H locs ls hx hb hml hr hown hts hnw hlt hlk hK hP hi hS hl) (fun q => kf (fun z => q (ee.mpr z)) p e s m args below meth c H locs ls hx hb hml hr hown hts hnw hlt hlk hK hP hi hS hl)
theorem ja_icmp_ge {x y : Int} {off : Int} (tgt : Nat) (hd : decode cc pc = .ok (.if_icmp .ge off, 3)) (ht : (pc : Int) + off = (tgt : Int)) (hr1 : ja_r x) (hr2 : ja_r y) (kt : y ≤ x → ja_J l D cA ad sp K d own cc nL rt tgt L S h Q) (kf : ¬ y ≤ x → ja_J l D cA ad sp K d own cc nL rt (pc + 3) L S h Q) : ja_J l D cA ad sp K d own cc nL rt pc L ((0, y) :: (0, x) :: S) h Q := by
  intro p e s m args below meth c H locs ls hx hb hml hr hown hts hnw hlt hlk hK hP hi hS hl
  have ee := ja_le hr2 hr1
  exact lv_icmp_ge (x := Int32.ofInt x) (y := Int32.ofInt y) hx hb hd ht (fun q => kt (ee.mp q) p e s m args below meth c H locs ls hx hb hml hr hown hts hnw hlt hlk hK hP hi hS hl) (fun q => kf (fun z => q (ee.mpr z)) p e s m args below meth c H locs ls hx hb hml hr hown hts hnw hlt hlk hK hP hi hS hl)
theorem ja_icmp_gt {x y : Int} {off : Int} (tgt : Nat) (hd : decode cc pc = .ok (.if_icmp .gt off, 3)) (ht : (pc : Int) + off = (tgt : Int)) (hr1 : ja_r x) (hr2 : ja_r y) (kt : y < x → ja_J l D cA ad sp K d own cc nL rt tgt L S h Q) (kf : ¬ y < x → ja_J l D cA ad sp K d own cc nL rt (pc + 3) L S h Q) : ja_J l D cA ad sp K d own cc nL rt pc L ((0, y) :: (0, x) :: S) h Q := by
  intro p e s m args below meth c H locs ls hx hb hml hr hown hts hnw hlt hlk hK hP hi hS hl
  have ee := ja_lt hr2 hr1
  exact lv_icmp_gt (x := Int32.ofInt x) (y := Int32.ofInt y) hx hb hd ht (fun q => kt (ee.mp q) p e s m args below meth c H locs ls hx hb hml hr hown hts hnw hlt hlk hK hP hi hS hl) (fun q => kf (fun z => q (ee.mpr z)) p e s m args below meth c H locs ls hx hb hml hr hown hts hnw hlt hlk hK hP hi hS hl)
theorem ja_icmp_le {x y : Int} {off : Int} (tgt : Nat) (hd : decode cc pc = .ok (.if_icmp .le off, 3)) (ht : (pc : Int) + off = (tgt : Int)) (hr1 : ja_r x) (hr2 : ja_r y) (kt : x ≤ y → ja_J l D cA ad sp K d own cc nL rt tgt L S h Q) (kf : ¬ x ≤ y → ja_J l D cA ad sp K d own cc nL rt (pc + 3) L S h Q) : ja_J l D cA ad sp K d own cc nL rt pc L ((0, y) :: (0, x) :: S) h Q := by
  intro p e s m args below meth c H locs ls hx hb hml hr hown hts hnw hlt hlk hK hP hi hS hl
  have ee := ja_le hr1 hr2
  exact lv_icmp_le (x := Int32.ofInt x) (y := Int32.ofInt y) hx hb hd ht (fun q => kt (ee.mp q) p e s m args below meth c H locs ls hx hb hml hr hown hts hnw hlt hlk hK hP hi hS hl) (fun q => kf (fun z => q (ee.mpr z)) p e s m args below meth c H locs ls hx hb hml hr hown hts hnw hlt hlk hK hP hi hS hl)
theorem ja_tableOut {dflt lo hi : Int} {offs : Array Int} {len : Nat} {x : Int} (tgt : Nat) (hd : decode cc pc = .ok (.tableswitch dflt lo hi offs, len)) (hr1 : ja_r x) (ho : x < lo ∨ hi < x) (ht : (pc : Int) + dflt = (tgt : Int)) (k : ja_J l D cA ad sp K d own cc nL rt tgt L S h Q) : ja_J l D cA ad sp K d own cc nL rt pc L ((0, x) :: S) h Q := by
  intro p e s m args below meth c H locs ls hx hb hml hr hown hts hnw hlt hlk hK hP hi hS hl
  exact lv_tableOut (x := Int32.ofInt x) hx hb hd (by rw [ja_in hr1.1 hr1.2]; exact ho) ht (k p e s m args below meth c H locs ls hx hb hml hr hown hts hnw hlt hlk hK hP hi hS hl)
theorem ja_tableIn {dflt lo hi : Int} {offs : Array Int} {len : Nat} {x off : Int} (tgt : Nat) (hd : decode cc pc = .ok (.tableswitch dflt lo hi offs, len)) (hr1 : ja_r x) (h1 : lo ≤ x) (h2 : x ≤ hi) (ho : offs[(x - lo).toNat]? = some off) (ht : (pc : Int) + off = (tgt : Int)) (k : ja_J l D cA ad sp K d own cc nL rt tgt L S h Q) : ja_J l D cA ad sp K d own cc nL rt pc L ((0, x) :: S) h Q := by
  intro p e s m args below meth c H locs ls hx hb hml hr hown hts hnw hlt hlk hK hP hi hS hl
  exact lv_tableIn (x := Int32.ofInt x) hx hb hd (by rw [ja_in hr1.1 hr1.2]; omega) (by rw [ja_in hr1.1 hr1.2]; omega) (by rw [ja_in hr1.1 hr1.2]; exact ho) ht (k p e s m args below meth c H locs ls hx hb hml hr hown hts hnw hlt hlk hK hP hi hS hl)
theorem ja_lookup {dflt : Int} {ps : Array (Int × Int)} {len : Nat} {x : Int} (off : Int) (tgt : Nat) (hd : decode cc pc = .ok (.lookupswitch dflt ps, len)) (hp : (ps.toList.zip (ps.toList.drop 1)).all (fun (a, next) => a.1 < next.1) = true) (hr1 : ja_r x) (ho : Op.lookupswitch.offset ps.toList dflt x = off) (ht : (pc : Int) + off = (tgt : Int)) (k : ja_J l D cA ad sp K d own cc nL rt tgt L S h Q) : ja_J l D cA ad sp K d own cc nL rt pc L ((0, x) :: S) h Q := by
  intro p e s m args below meth c H locs ls hx hb hml hr hown hts hnw hlt hlk hK hP hi hS hl
  exact lv_lookup (x := Int32.ofInt x) hx hb hd hp (by rw [ja_in hr1.1 hr1.2]; exact ho) ht (k p e s m args below meth c H locs ls hx hb hml hr hown hts hnw hlt hlk hK hP hi hS hl)
end JR
