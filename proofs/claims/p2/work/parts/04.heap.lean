theorem ja_e_obj {cA : Nat → ClassId} {ad : Nat → Nat} {sp : ja_S} {h : ja_H} {q ci N : Nat} (hsp : (sp q).1 = (ci, N)) (hci : ci < 100) : ja_e cA ad sp h q = .inr (ci, (List.range N).map (ja_fv ad sp h q)) := by
  unfold ja_e
  rw [hsp, if_neg (by show ¬ ci = 100; omega), if_neg (by show ¬ ci = 101; omega), if_neg (by show ¬ ci = 102; omega), if_neg (by show ¬ ci = 103; omega)]
theorem ja_e_I {cA : Nat → ClassId} {ad : Nat → Nat} {sp : ja_S} {h : ja_H} {q N : Nat} (hsp : (sp q).1 = (100, N)) : ja_e cA ad sp h q = .inl (cA 0, N, .inl fun j => Int32.ofInt (h q j)) := by
  unfold ja_e; rw [hsp, if_pos rfl]
theorem ja_e_Y {cA : Nat → ClassId} {ad : Nat → Nat} {sp : ja_S} {h : ja_H} {q N : Nat} (hsp : (sp q).1 = (101, N)) : ja_e cA ad sp h q = .inl (cA 1, N, .inl fun j => Int32.ofInt (h q j)) := by
  unfold ja_e; rw [hsp, if_neg (by show ¬ (101 : Nat) = 100; decide), if_pos rfl]
theorem ja_e_Z {cA : Nat → ClassId} {ad : Nat → Nat} {sp : ja_S} {h : ja_H} {q N : Nat} (hsp : (sp q).1 = (102, N)) : ja_e cA ad sp h q = .inl (cA 2, N, .inl fun j => Int32.ofInt (h q j)) := by
  unfold ja_e; rw [hsp, if_neg (by show ¬ (102 : Nat) = 100; decide), if_neg (by show ¬ (102 : Nat) = 101; decide), if_pos rfl]
theorem ja_e_L {cA : Nat → ClassId} {ad : Nat → Nat} {sp : ja_S} {h : ja_H} {q N : Nat} (hsp : (sp q).1 = (103, N)) : ja_e cA ad sp h q = .inl (cA 3, N, .inr (.inl fun j => Int64.ofInt (h q j))) := by
  unfold ja_e; rw [hsp, if_neg (by show ¬ (103 : Nat) = 100; decide), if_neg (by show ¬ (103 : Nat) = 101; decide), if_neg (by show ¬ (103 : Nat) = 102; decide), if_pos rfl]
theorem ja_fs_set {ad : Nat → Nat} {sp : ja_S} {h : ja_H} {q N j : Nat} {x : Int} {v : Value} (hv : ja_fv ad sp (ja_up h q j x) q j = v) : ((List.range N).map (ja_fv ad sp h q)).set j v = (List.range N).map (ja_fv ad sp (ja_up h q j x) q) := by
  apply List.ext_getElem?
  intro i
  rw [List.getElem?_set]
  by_cases hi : i < N
  · by_cases e : j = i
    · subst e
      rw [if_pos rfl, if_pos (by simpa using hi)]
      simp [hi, hv]
    · rw [if_neg e]
      have e2 : ja_fv ad sp (ja_up h q j x) q i = ja_fv ad sp h q i := by
        have : ja_up h q j x q i = h q i := by simp [ja_up, Ne.symm e]
        simp only [ja_fv, ja_fx, this]
      simp [hi, e2]
  · have h1 : ((List.range N).map (ja_fv ad sp h q))[i]? = none := by simp; omega
    have h2 : ((List.range N).map (ja_fv ad sp (ja_up h q j x) q))[i]? = none := by simp; omega
    by_cases e : j = i
    · rw [if_pos e, if_neg (by simp; omega), h2]
    · rw [if_neg e, h1, h2]
theorem ja_upI {h : ja_H} {q k : Nat} {x : Int} : upd (fun j => Int32.ofInt (h q j)) k (Int32.ofInt x) = fun j => Int32.ofInt (ja_up h q k x q j) := by
  funext j
  unfold upd ja_up
  by_cases e : j = k
  · rw [if_pos e, if_pos ⟨rfl, e⟩]
  · rw [if_neg e, if_neg (fun z => e z.2)]
theorem ja_upL {h : ja_H} {q k : Nat} {x : Int} : vp_updL (fun j => Int64.ofInt (h q j)) k (Int64.ofInt x) = fun j => Int64.ofInt (ja_up h q k x q j) := by
  funext j
  unfold vp_updL ja_up
  by_cases e : j = k
  · rw [if_pos e, if_pos ⟨rfl, e⟩]
  · rw [if_neg e, if_neg (fun z => e z.2)]
theorem ja_narZ {x : Int} (h : x = 0 ∨ x = 1) : vp_nar .boolean (Int32.ofInt x) = Int32.ofInt x := by
  rcases h with rfl | rfl <;> decide
section JH
variable {l : Launch} {D : va_G} {cA : Nat → ClassId} {ad : Nat → Nat} {sp : ja_S} {K d : Nat} {own : String} {cc : ByteArray} {nL : Nat} {rt : Option FieldType} {pc : Nat} {L : List (Nat × ja_V)} {S : List ja_V} {h : ja_H} {Q : Option ja_V → ja_H → Prop}
theorem ja_get {index ci j q N : Nat} {C : String} {T : u_T} (hq : q < K) (hsp : (sp q).1 = (ci, N)) (hci : ci < 100) (hcl : ja_cl[ci]? = some (C, T, N)) (hj : j < N) (hin : ∀ w ∈ u_ws C T N, w ∈ ja_B) (hw : Cond.fieldLink own index (T j).1 (T j).2.1 (T j).2.2.1 ∈ ja_B) (hd : decode cc pc = .ok (.getfield index, 3)) (k : ja_J l D cA ad sp K d own cc nL rt (pc + 3) L (ja_fx sp h q j :: S) h Q) : ja_J l D cA ad sp K d own cc nL rt pc L ((2, (q : Int)) :: S) h Q := by
  intro p e s m args below meth c H locs ls hx hb hml hr hown hts hnw hlt hlk hK hP hi hS hl
  have he : (ja_w cA ad sp K h)[q]? = some (ad q, .inr (ci, (List.range N).map (ja_fv ad sp h q))) := by rw [ja_w_get hq, ja_e_obj hsp hci]
  exact va_get (Ts := ja_B) (D := D) hx hb hts hin hown hK hP q he hcl j hj (hts _ hw) (fun _ z => z) (v := ja_c ad (ja_fx sp h q j)) (by simp [hj, ja_fv]) hd (k p e s m args below meth c H locs ls hx hb hml hr hown hts hnw hlt hlk hK hP hi hS hl)
theorem ja_getN {index ci j q N : Nat} {C : String} {T : u_T} (hq : q < K) (hsp : (sp q).1 = (ci, N)) (hci : ci < 100) (hcl : ja_cl[ci]? = some (C, T, N)) (hj : j < N) (hin : ∀ w ∈ u_ws C T N, w ∈ ja_B) {host : String} (hw : Cond.fieldLinkNest own index (T j).1 (T j).2.1 (T j).2.2.1 host ∈ lw_tbl) (hd : decode cc pc = .ok (.getfield index, 3)) (k : ja_J l D cA ad sp K d own cc nL rt (pc + 3) L (ja_fx sp h q j :: S) h Q) : ja_J l D cA ad sp K d own cc nL rt pc L ((2, (q : Int)) :: S) h Q := by
  intro p e s m args below meth c H locs ls hx hb hml hr hown hts hnw hlt hlk hK hP hi hS hl
  have he : (ja_w cA ad sp K h)[q]? = some (ad q, .inr (ci, (List.range N).map (ja_fv ad sp h q))) := by rw [ja_w_get hq, ja_e_obj hsp hci]
  exact va_getN (Ts := ja_B) (D := D) hx hb hts hin hown hK hP q he hcl j hj (va_Nw.use rfl (hnw _ hw rfl)) (fun _ z => z) (v := ja_c ad (ja_fx sp h q j)) (by simp [hj, ja_fv]) hd (k p e s m args below meth c H locs ls hx hb hml hr hown hts hnw hlt hlk hK hP hi hS hl)
theorem ja_putI {x : Int} {index ci j q N : Nat} {C : String} {T : u_T} (hq : q < K) (hsp : (sp q).1 = (ci, N)) (hci : ci < 100) (hcl : ja_cl[ci]? = some (C, T, N)) (hj : j < N) (hin : ∀ w ∈ u_ws C T N, w ∈ ja_B) (ty : Nat → FieldType) (hty : ∀ k, k < N → parseFieldDescriptor (T k).2.2.1 = some (ty k)) (hnm : ∀ a, a < N → ∀ b, b < N → a ≠ b → (T a).2.1 ≠ (T b).2.1) (hfin : (T j).2.2.2 = false) (hft : (sp q).2 j = 0) (htj : ty j = .int) (hw : Cond.fieldLink own index (T j).1 (T j).2.1 (T j).2.2.1 ∈ ja_B) (hd : decode cc pc = .ok (.putfield index, 3)) (k : ja_J l D cA ad sp K d own cc nL rt (pc + 3) L S (ja_up h q j x) Q) : ja_J l D cA ad sp K d own cc nL rt pc L ((0, x) :: (2, (q : Int)) :: S) h Q := by
  intro p e s m args below meth c H locs ls hx hb hml hr hown hts hnw hlt hlk hK hP hi hS hl
  have he : (ja_w cA ad sp K h)[q]? = some (ad q, .inr (ci, (List.range N).map (ja_fv ad sp h q))) := by rw [ja_w_get hq, ja_e_obj hsp hci]
  have hD := ja_D (cA := cA) (sp := sp) (h := h) hi
  refine va_put (Ts := ja_B) (D := D) (v := .int (Int32.ofInt x)) (ty := .int) hx hb hts hin ty hty hnm hown hK hP hD hS q he hcl j hj (hts _ hw) (fun _ z => z) hfin (by rw [hty j hj, htj]) rfl rfl (by simpa using hj) hd (fun H1 locs1 hP1 hD1 hS1 => ?_)
  rw [ja_fs_set (x := x) (by simp [ja_fv, ja_fx, hft, ja_up, ja_c])] at hP1
  rw [ja_w_set hq (ja_e_obj hsp hci).symm] at hP1
  exact k p e s m args below meth c H1 locs1 ls hx hb hml hr hown hts hnw hlt hlk hK hP1 hi hS1 hl
theorem ja_putZ {x : Int} {index ci j q N : Nat} {C : String} {T : u_T} (hq : q < K) (hsp : (sp q).1 = (ci, N)) (hci : ci < 100) (hcl : ja_cl[ci]? = some (C, T, N)) (hj : j < N) (hin : ∀ w ∈ u_ws C T N, w ∈ ja_B) (ty : Nat → FieldType) (hty : ∀ k, k < N → parseFieldDescriptor (T k).2.2.1 = some (ty k)) (hnm : ∀ a, a < N → ∀ b, b < N → a ≠ b → (T a).2.1 ≠ (T b).2.1) (hfin : (T j).2.2.2 = false) (hft : (sp q).2 j = 0) (htj : ty j = .boolean) (h01 : x = 0 ∨ x = 1) (hw : Cond.fieldLink own index (T j).1 (T j).2.1 (T j).2.2.1 ∈ ja_B) (hd : decode cc pc = .ok (.putfield index, 3)) (k : ja_J l D cA ad sp K d own cc nL rt (pc + 3) L S (ja_up h q j x) Q) : ja_J l D cA ad sp K d own cc nL rt pc L ((0, x) :: (2, (q : Int)) :: S) h Q := by
  intro p e s m args below meth c H locs ls hx hb hml hr hown hts hnw hlt hlk hK hP hi hS hl
  have he : (ja_w cA ad sp K h)[q]? = some (ad q, .inr (ci, (List.range N).map (ja_fv ad sp h q))) := by rw [ja_w_get hq, ja_e_obj hsp hci]
  have hD := ja_D (cA := cA) (sp := sp) (h := h) hi
  refine va_put (Ts := ja_B) (D := D) (v := .int (Int32.ofInt x)) (ty := .boolean) hx hb hts hin ty hty hnm hown hK hP hD hS q he hcl j hj (hts _ hw) (fun _ z => z) hfin (by rw [hty j hj, htj]) (by rcases h01 with rfl | rfl <;> rfl) (by rcases h01 with rfl | rfl <;> rfl) (by simpa using hj) hd (fun H1 locs1 hP1 hD1 hS1 => ?_)
  rw [ja_fs_set (x := x) (by simp [ja_fv, ja_fx, hft, ja_up, ja_c])] at hP1
  rw [ja_w_set hq (ja_e_obj hsp hci).symm] at hP1
  exact k p e s m args below meth c H1 locs1 ls hx hb hml hr hown hts hnw hlt hlk hK hP1 hi hS1 hl
theorem ja_putJ {x : Int} {index ci j q N : Nat} {C : String} {T : u_T} (hq : q < K) (hsp : (sp q).1 = (ci, N)) (hci : ci < 100) (hcl : ja_cl[ci]? = some (C, T, N)) (hj : j < N) (hin : ∀ w ∈ u_ws C T N, w ∈ ja_B) (ty : Nat → FieldType) (hty : ∀ k, k < N → parseFieldDescriptor (T k).2.2.1 = some (ty k)) (hnm : ∀ a, a < N → ∀ b, b < N → a ≠ b → (T a).2.1 ≠ (T b).2.1) (hfin : (T j).2.2.2 = false) (hft : (sp q).2 j = 1) (htj : ty j = .long) (hw : Cond.fieldLink own index (T j).1 (T j).2.1 (T j).2.2.1 ∈ ja_B) (hd : decode cc pc = .ok (.putfield index, 3)) (k : ja_J l D cA ad sp K d own cc nL rt (pc + 3) L S (ja_up h q j x) Q) : ja_J l D cA ad sp K d own cc nL rt pc L ((1, x) :: (2, (q : Int)) :: S) h Q := by
  intro p e s m args below meth c H locs ls hx hb hml hr hown hts hnw hlt hlk hK hP hi hS hl
  have he : (ja_w cA ad sp K h)[q]? = some (ad q, .inr (ci, (List.range N).map (ja_fv ad sp h q))) := by rw [ja_w_get hq, ja_e_obj hsp hci]
  have hD := ja_D (cA := cA) (sp := sp) (h := h) hi
  refine va_put (Ts := ja_B) (D := D) (v := .long (Int64.ofInt x)) (ty := .long) hx hb hts hin ty hty hnm hown hK hP hD hS q he hcl j hj (hts _ hw) (fun _ z => z) hfin (by rw [hty j hj, htj]) rfl rfl (by simpa using hj) hd (fun H1 locs1 hP1 hD1 hS1 => ?_)
  rw [ja_fs_set (x := x) (by simp [ja_fv, ja_fx, hft, ja_up, ja_c])] at hP1
  rw [ja_w_set hq (ja_e_obj hsp hci).symm] at hP1
  exact k p e s m args below meth c H1 locs1 ls hx hb hml hr hown hts hnw hlt hlk hK hP1 hi hS1 hl
theorem ja_putNI {x : Int} {index ci j q N : Nat} {C : String} {T : u_T} (hq : q < K) (hsp : (sp q).1 = (ci, N)) (hci : ci < 100) (hcl : ja_cl[ci]? = some (C, T, N)) (hj : j < N) (hin : ∀ w ∈ u_ws C T N, w ∈ ja_B) (ty : Nat → FieldType) (hty : ∀ k, k < N → parseFieldDescriptor (T k).2.2.1 = some (ty k)) (hnm : ∀ a, a < N → ∀ b, b < N → a ≠ b → (T a).2.1 ≠ (T b).2.1) (hfin : (T j).2.2.2 = false) (hft : (sp q).2 j = 0) (htj : ty j = .int) {host : String} (hw : Cond.fieldLinkNest own index (T j).1 (T j).2.1 (T j).2.2.1 host ∈ lw_tbl) (hd : decode cc pc = .ok (.putfield index, 3)) (k : ja_J l D cA ad sp K d own cc nL rt (pc + 3) L S (ja_up h q j x) Q) : ja_J l D cA ad sp K d own cc nL rt pc L ((0, x) :: (2, (q : Int)) :: S) h Q := by
  intro p e s m args below meth c H locs ls hx hb hml hr hown hts hnw hlt hlk hK hP hi hS hl
  have he : (ja_w cA ad sp K h)[q]? = some (ad q, .inr (ci, (List.range N).map (ja_fv ad sp h q))) := by rw [ja_w_get hq, ja_e_obj hsp hci]
  have hD := ja_D (cA := cA) (sp := sp) (h := h) hi
  refine va_putN (Ts := ja_B) (D := D) (v := .int (Int32.ofInt x)) (ty := .int) hx hb hts hin ty hty hnm hown hK hP hD hS q he hcl j hj (va_Nw.use rfl (hnw _ hw rfl)) (fun _ z => z) hfin (by rw [hty j hj, htj]) rfl rfl (by simpa using hj) hd (fun H1 locs1 hP1 hD1 hS1 => ?_)
  rw [ja_fs_set (x := x) (by simp [ja_fv, ja_fx, hft, ja_up, ja_c])] at hP1
  rw [ja_w_set hq (ja_e_obj hsp hci).symm] at hP1
  exact k p e s m args below meth c H1 locs1 ls hx hb hml hr hown hts hnw hlt hlk hK hP1 hi hS1 hl
theorem ja_putNZ {x : Int} {index ci j q N : Nat} {C : String} {T : u_T} (hq : q < K) (hsp : (sp q).1 = (ci, N)) (hci : ci < 100) (hcl : ja_cl[ci]? = some (C, T, N)) (hj : j < N) (hin : ∀ w ∈ u_ws C T N, w ∈ ja_B) (ty : Nat → FieldType) (hty : ∀ k, k < N → parseFieldDescriptor (T k).2.2.1 = some (ty k)) (hnm : ∀ a, a < N → ∀ b, b < N → a ≠ b → (T a).2.1 ≠ (T b).2.1) (hfin : (T j).2.2.2 = false) (hft : (sp q).2 j = 0) (htj : ty j = .boolean) (h01 : x = 0 ∨ x = 1) {host : String} (hw : Cond.fieldLinkNest own index (T j).1 (T j).2.1 (T j).2.2.1 host ∈ lw_tbl) (hd : decode cc pc = .ok (.putfield index, 3)) (k : ja_J l D cA ad sp K d own cc nL rt (pc + 3) L S (ja_up h q j x) Q) : ja_J l D cA ad sp K d own cc nL rt pc L ((0, x) :: (2, (q : Int)) :: S) h Q := by
  intro p e s m args below meth c H locs ls hx hb hml hr hown hts hnw hlt hlk hK hP hi hS hl
  have he : (ja_w cA ad sp K h)[q]? = some (ad q, .inr (ci, (List.range N).map (ja_fv ad sp h q))) := by rw [ja_w_get hq, ja_e_obj hsp hci]
  have hD := ja_D (cA := cA) (sp := sp) (h := h) hi
  refine va_putN (Ts := ja_B) (D := D) (v := .int (Int32.ofInt x)) (ty := .boolean) hx hb hts hin ty hty hnm hown hK hP hD hS q he hcl j hj (va_Nw.use rfl (hnw _ hw rfl)) (fun _ z => z) hfin (by rw [hty j hj, htj]) (by rcases h01 with rfl | rfl <;> rfl) (by rcases h01 with rfl | rfl <;> rfl) (by simpa using hj) hd (fun H1 locs1 hP1 hD1 hS1 => ?_)
  rw [ja_fs_set (x := x) (by simp [ja_fv, ja_fx, hft, ja_up, ja_c])] at hP1
  rw [ja_w_set hq (ja_e_obj hsp hci).symm] at hP1
  exact k p e s m args below meth c H1 locs1 ls hx hb hml hr hown hts hnw hlt hlk hK hP1 hi hS1 hl
theorem ja_putNJ {x : Int} {index ci j q N : Nat} {C : String} {T : u_T} (hq : q < K) (hsp : (sp q).1 = (ci, N)) (hci : ci < 100) (hcl : ja_cl[ci]? = some (C, T, N)) (hj : j < N) (hin : ∀ w ∈ u_ws C T N, w ∈ ja_B) (ty : Nat → FieldType) (hty : ∀ k, k < N → parseFieldDescriptor (T k).2.2.1 = some (ty k)) (hnm : ∀ a, a < N → ∀ b, b < N → a ≠ b → (T a).2.1 ≠ (T b).2.1) (hfin : (T j).2.2.2 = false) (hft : (sp q).2 j = 1) (htj : ty j = .long) {host : String} (hw : Cond.fieldLinkNest own index (T j).1 (T j).2.1 (T j).2.2.1 host ∈ lw_tbl) (hd : decode cc pc = .ok (.putfield index, 3)) (k : ja_J l D cA ad sp K d own cc nL rt (pc + 3) L S (ja_up h q j x) Q) : ja_J l D cA ad sp K d own cc nL rt pc L ((1, x) :: (2, (q : Int)) :: S) h Q := by
  intro p e s m args below meth c H locs ls hx hb hml hr hown hts hnw hlt hlk hK hP hi hS hl
  have he : (ja_w cA ad sp K h)[q]? = some (ad q, .inr (ci, (List.range N).map (ja_fv ad sp h q))) := by rw [ja_w_get hq, ja_e_obj hsp hci]
  have hD := ja_D (cA := cA) (sp := sp) (h := h) hi
  refine va_putN (Ts := ja_B) (D := D) (v := .long (Int64.ofInt x)) (ty := .long) hx hb hts hin ty hty hnm hown hK hP hD hS q he hcl j hj (va_Nw.use rfl (hnw _ hw rfl)) (fun _ z => z) hfin (by rw [hty j hj, htj]) rfl rfl (by simpa using hj) hd (fun H1 locs1 hP1 hD1 hS1 => ?_)
  rw [ja_fs_set (x := x) (by simp [ja_fv, ja_fx, hft, ja_up, ja_c])] at hP1
  rw [ja_w_set hq (ja_e_obj hsp hci).symm] at hP1
  exact k p e s m args below meth c H1 locs1 ls hx hb hml hr hown hts hnw hlt hlk hK hP1 hi hS1 hl
theorem ja_iald {q n : Nat} {i : Int} (hq : q < K) (hsp : (sp q).1 = (100, n)) (hn : n < 2147483648) (h0 : 0 ≤ i) (h1 : i < n) (hd : decode cc pc = .ok (.iaload, 1)) (k : ja_J l D cA ad sp K d own cc nL rt (pc + 1) L ((0, h q i.toNat) :: S) h Q) : ja_J l D cA ad sp K d own cc nL rt pc L ((0, i) :: (2, (q : Int)) :: S) h Q := by
  intro p e s m args below meth c H locs ls hx hb hml hr hown hts hnw hlt hlk hK hP hi hS hl
  obtain ⟨hin, hix⟩ := ja_ix h0 h1 hn
  have he : (ja_w cA ad sp K h)[q]? = some (ad q, ja_e cA ad sp h q) := ja_w_get hq
  rw [ja_e_I hsp] at he
  refine va_iald (D := D) hx hb hK hP q 0 he rfl hin hd ?_
  show W p l e (ja_R d) s m args below meth c H locs 0 0 _ (F0 m (pc + 1) ls (.int (Int32.ofInt (h q (Int32.ofInt i).toNatClampNeg)) :: S.map (ja_c ad)))
  rw [hix]
  exact k p e s m args below meth c H locs ls hx hb hml hr hown hts hnw hlt hlk hK hP hi hS hl
theorem ja_bald {q n : Nat} {i : Int} (hq : q < K) (hsp : (sp q).1 = (101, n)) (hn : n < 2147483648) (h0 : 0 ≤ i) (h1 : i < n) (hd : decode cc pc = .ok (.baload, 1)) (k : ja_J l D cA ad sp K d own cc nL rt (pc + 1) L ((0, h q i.toNat) :: S) h Q) : ja_J l D cA ad sp K d own cc nL rt pc L ((0, i) :: (2, (q : Int)) :: S) h Q := by
  intro p e s m args below meth c H locs ls hx hb hml hr hown hts hnw hlt hlk hK hP hi hS hl
  obtain ⟨hin, hix⟩ := ja_ix h0 h1 hn
  have he : (ja_w cA ad sp K h)[q]? = some (ad q, ja_e cA ad sp h q) := ja_w_get hq
  rw [ja_e_Y hsp] at he
  refine va_bald (D := D) hx hb hK hP q 1 he rfl hin hd ?_
  show W p l e (ja_R d) s m args below meth c H locs 0 0 _ (F0 m (pc + 1) ls (.int (Int32.ofInt (h q (Int32.ofInt i).toNatClampNeg)) :: S.map (ja_c ad)))
  rw [hix]
  exact k p e s m args below meth c H locs ls hx hb hml hr hown hts hnw hlt hlk hK hP hi hS hl
theorem ja_zald {q n : Nat} {i : Int} (hq : q < K) (hsp : (sp q).1 = (102, n)) (hn : n < 2147483648) (h0 : 0 ≤ i) (h1 : i < n) (hd : decode cc pc = .ok (.baload, 1)) (k : ja_J l D cA ad sp K d own cc nL rt (pc + 1) L ((0, h q i.toNat) :: S) h Q) : ja_J l D cA ad sp K d own cc nL rt pc L ((0, i) :: (2, (q : Int)) :: S) h Q := by
  intro p e s m args below meth c H locs ls hx hb hml hr hown hts hnw hlt hlk hK hP hi hS hl
  obtain ⟨hin, hix⟩ := ja_ix h0 h1 hn
  have he : (ja_w cA ad sp K h)[q]? = some (ad q, ja_e cA ad sp h q) := ja_w_get hq
  rw [ja_e_Z hsp] at he
  refine va_zald (D := D) hx hb hK hP q 2 he rfl hin hd ?_
  show W p l e (ja_R d) s m args below meth c H locs 0 0 _ (F0 m (pc + 1) ls (.int (Int32.ofInt (h q (Int32.ofInt i).toNatClampNeg)) :: S.map (ja_c ad)))
  rw [hix]
  exact k p e s m args below meth c H locs ls hx hb hml hr hown hts hnw hlt hlk hK hP hi hS hl
theorem ja_lald {q n : Nat} {i : Int} (hq : q < K) (hsp : (sp q).1 = (103, n)) (hn : n < 2147483648) (h0 : 0 ≤ i) (h1 : i < n) (hd : decode cc pc = .ok (.laload, 1)) (k : ja_J l D cA ad sp K d own cc nL rt (pc + 1) L ((1, h q i.toNat) :: S) h Q) : ja_J l D cA ad sp K d own cc nL rt pc L ((0, i) :: (2, (q : Int)) :: S) h Q := by
  intro p e s m args below meth c H locs ls hx hb hml hr hown hts hnw hlt hlk hK hP hi hS hl
  obtain ⟨hin, hix⟩ := ja_ix h0 h1 hn
  have he : (ja_w cA ad sp K h)[q]? = some (ad q, ja_e cA ad sp h q) := ja_w_get hq
  rw [ja_e_L hsp] at he
  refine va_lald (D := D) hx hb hK hP q 3 he rfl hin hd ?_
  show W p l e (ja_R d) s m args below meth c H locs 0 0 _ (F0 m (pc + 1) ls (.long (Int64.ofInt (h q (Int32.ofInt i).toNatClampNeg)) :: S.map (ja_c ad)))
  rw [hix]
  exact k p e s m args below meth c H locs ls hx hb hml hr hown hts hnw hlt hlk hK hP hi hS hl
theorem ja_iast {q n : Nat} {i : Int} (hq : q < K) (hsp : (sp q).1 = (100, n)) (hn : n < 2147483648) (h0 : 0 ≤ i) (h1 : i < n) {x : Int} (hd : decode cc pc = .ok (.iastore, 1)) (k : ja_J l D cA ad sp K d own cc nL rt (pc + 1) L S (ja_up h q i.toNat x) Q) : ja_J l D cA ad sp K d own cc nL rt pc L ((0, x) :: (0, i) :: (2, (q : Int)) :: S) h Q := by
  intro p e s m args below meth c H locs ls hx hb hml hr hown hts hnw hlt hlk hK hP hi hS hl
  obtain ⟨hin, hix⟩ := ja_ix h0 h1 hn
  have hD := ja_D (cA := cA) (sp := sp) (h := h) hi
  have he : (ja_w cA ad sp K h)[q]? = some (ad q, ja_e cA ad sp h q) := ja_w_get hq
  rw [ja_e_I hsp] at he
  refine va_iast (D := D) hx hb hK hP hD hS q 0 he rfl hin hd (fun H1 locs1 hP1 hD1 hS1 => ?_)
  rw [hix, ja_upI] at hP1
  rw [ja_w_set hq (ja_e_I hsp).symm] at hP1
  exact k p e s m args below meth c H1 locs1 ls hx hb hml hr hown hts hnw hlt hlk hK hP1 hi hS1 hl
theorem ja_zast {q n : Nat} {i : Int} (hq : q < K) (hsp : (sp q).1 = (102, n)) (hn : n < 2147483648) (h0 : 0 ≤ i) (h1 : i < n) {x : Int} (h01 : x = 0 ∨ x = 1) (hd : decode cc pc = .ok (.bastore, 1)) (k : ja_J l D cA ad sp K d own cc nL rt (pc + 1) L S (ja_up h q i.toNat x) Q) : ja_J l D cA ad sp K d own cc nL rt pc L ((0, x) :: (0, i) :: (2, (q : Int)) :: S) h Q := by
  intro p e s m args below meth c H locs ls hx hb hml hr hown hts hnw hlt hlk hK hP hi hS hl
  obtain ⟨hin, hix⟩ := ja_ix h0 h1 hn
  have hD := ja_D (cA := cA) (sp := sp) (h := h) hi
  have he : (ja_w cA ad sp K h)[q]? = some (ad q, ja_e cA ad sp h q) := ja_w_get hq
  rw [ja_e_Z hsp] at he
  refine va_zast (D := D) hx hb hK hP hD hS q 2 he rfl hin hd (fun H1 locs1 hP1 hD1 hS1 => ?_)
  rw [ja_narZ h01] at hP1
  rw [hix, ja_upI] at hP1
  rw [ja_w_set hq (ja_e_Z hsp).symm] at hP1
  exact k p e s m args below meth c H1 locs1 ls hx hb hml hr hown hts hnw hlt hlk hK hP1 hi hS1 hl
theorem ja_last {q n : Nat} {i : Int} (hq : q < K) (hsp : (sp q).1 = (103, n)) (hn : n < 2147483648) (h0 : 0 ≤ i) (h1 : i < n) {x : Int} (hd : decode cc pc = .ok (.lastore, 1)) (k : ja_J l D cA ad sp K d own cc nL rt (pc + 1) L S (ja_up h q i.toNat x) Q) : ja_J l D cA ad sp K d own cc nL rt pc L ((1, x) :: (0, i) :: (2, (q : Int)) :: S) h Q := by
  intro p e s m args below meth c H locs ls hx hb hml hr hown hts hnw hlt hlk hK hP hi hS hl
  obtain ⟨hin, hix⟩ := ja_ix h0 h1 hn
  have hD := ja_D (cA := cA) (sp := sp) (h := h) hi
  have he : (ja_w cA ad sp K h)[q]? = some (ad q, ja_e cA ad sp h q) := ja_w_get hq
  rw [ja_e_L hsp] at he
  refine va_last (D := D) hx hb hK hP hD hS q 3 he rfl hin hd (fun H1 locs1 hP1 hD1 hS1 => ?_)
  rw [hix, ja_upL] at hP1
  rw [ja_w_set hq (ja_e_L hsp).symm] at hP1
  exact k p e s m args below meth c H1 locs1 ls hx hb hml hr hown hts hnw hlt hlk hK hP1 hi hS1 hl
theorem ja_bast {q n : Nat} {i : Int} (hq : q < K) (hsp : (sp q).1 = (101, n)) (hn : n < 2147483648) (h0 : 0 ≤ i) (h1 : i < n) {x : Int} (v : Int) (hd : decode cc pc = .ok (.bastore, 1)) (hv : vp_nar .byte (Int32.ofInt x) = Int32.ofInt v) (k : ja_J l D cA ad sp K d own cc nL rt (pc + 1) L S (ja_up h q i.toNat v) Q) : ja_J l D cA ad sp K d own cc nL rt pc L ((0, x) :: (0, i) :: (2, (q : Int)) :: S) h Q := by
  intro p e s m args below meth c H locs ls hx hb hml hr hown hts hnw hlt hlk hK hP hi hS hl
  obtain ⟨hin, hix⟩ := ja_ix h0 h1 hn
  have hD := ja_D (cA := cA) (sp := sp) (h := h) hi
  have he : (ja_w cA ad sp K h)[q]? = some (ad q, ja_e cA ad sp h q) := ja_w_get hq
  rw [ja_e_Y hsp] at he
  refine va_bast (D := D) hx hb hK hP hD hS q 1 he rfl hin hd (fun H1 locs1 hP1 hD1 hS1 => ?_)
  rw [hv, hix, ja_upI] at hP1
  rw [ja_w_set hq (ja_e_Y hsp).symm] at hP1
  exact k p e s m args below meth c H1 locs1 ls hx hb hml hr hown hts hnw hlt hlk hK hP1 hi hS1 hl
theorem ja_alen {q n kd : Nat} (hq : q < K) (hsp : (sp q).1 = (kd, n)) (hkd : kd = 100 ∨ kd = 101 ∨ kd = 102 ∨ kd = 103) (hd : decode cc pc = .ok (.arraylength, 1)) (k : ja_J l D cA ad sp K d own cc nL rt (pc + 1) L ((0, (n : Int)) :: S) h Q) : ja_J l D cA ad sp K d own cc nL rt pc L ((2, (q : Int)) :: S) h Q := by
  intro p e s m args below meth c H locs ls hx hb hml hr hown hts hnw hlt hlk hK hP hi hS hl
  have he : (ja_w cA ad sp K h)[q]? = some (ad q, ja_e cA ad sp h q) := ja_w_get hq
  have hv : Int32.ofNat n = Int32.ofInt (n : Int) := rfl
  rcases hkd with rfl | rfl | rfl | rfl
  · rw [ja_e_I hsp] at he; exact va_alen (D := D) hx hb hK hP q 0 he rfl hv hd (k p e s m args below meth c H locs ls hx hb hml hr hown hts hnw hlt hlk hK hP hi hS hl)
  · rw [ja_e_Y hsp] at he; exact va_alen (D := D) hx hb hK hP q 1 he rfl hv hd (k p e s m args below meth c H locs ls hx hb hml hr hown hts hnw hlt hlk hK hP hi hS hl)
  · rw [ja_e_Z hsp] at he; exact va_alen (D := D) hx hb hK hP q 2 he rfl hv hd (k p e s m args below meth c H locs ls hx hb hml hr hown hts hnw hlt hlk hK hP hi hS hl)
  · rw [ja_e_L hsp] at he; exact va_alen (D := D) hx hb hK hP q 3 he rfl hv hd (k p e s m args below meth c H locs ls hx hb hml hr hown hts hnw hlt hlk hK hP hi hS hl)
theorem ja_ireturn {x : Int} (hd : decode cc pc = .ok (.ireturn, 1)) (hrt : rt = some .int) (hQ : Q (some (0, x)) h) : ja_J l D cA ad sp K d own cc nL rt pc L [(0, x)] h Q := by
  intro p e s m args below meth c H locs ls hx hb hml hr hown hts hnw hlt hlk hK hP hi hS hl
  exact W.iret (v := Int32.ofInt x) hx hb (hr.trans hrt) (fun t ht hW => ⟨some (0, x), h, rfl, hQ, by rw [ht]; exact hP, hS.F ht⟩) hS.2.2 hd hlk
theorem ja_zreturn {x : Int} (hd : decode cc pc = .ok (.ireturn, 1)) (hrt : rt = some .boolean) (h01 : x = 0 ∨ x = 1) (hQ : Q (some (0, x)) h) : ja_J l D cA ad sp K d own cc nL rt pc L [(0, x)] h Q := by
  intro p e s m args below meth c H locs ls hx hb hml hr hown hts hnw hlt hlk hK hP hi hS hl
  exact W.zret (v := Int32.ofInt x) hx hb (hr.trans hrt) (by rcases h01 with rfl | rfl <;> rfl) (fun t ht hW => ⟨some (0, x), h, rfl, hQ, by rw [ht]; exact hP, hS.F ht⟩) hS.2.2 hd hlk
theorem ja_lreturn {x : Int} (hd : decode cc pc = .ok (.lreturn, 1)) (hrt : rt = some .long) (hQ : Q (some (1, x)) h) : ja_J l D cA ad sp K d own cc nL rt pc L [(1, x)] h Q := by
  intro p e s m args below meth c H locs ls hx hb hml hr hown hts hnw hlt hlk hK hP hi hS hl
  exact W.lret (v := Int64.ofInt x) hx hb (hr.trans hrt) (fun t ht hW => ⟨some (1, x), h, rfl, hQ, by rw [ht]; exact hP, hS.F ht⟩) hS.2.2 hd hlk
theorem ja_return (hd : decode cc pc = .ok (.return_, 1)) (hrt : rt = none) (hQ : Q none h) : ja_J l D cA ad sp K d own cc nL rt pc L [] h Q := by
  intro p e s m args below meth c H locs ls hx hb hml hr hown hts hnw hlt hlk hK hP hi hS hl
  exact W.vret hx hb (hr.trans hrt) (fun t ht hW => ⟨none, h, rfl, hQ, by rw [ht]; exact hP, hS.F ht⟩) hS.2.2 hd hlk
end JH
def ja_args : Nat → List ja_V → List (Nat × ja_V)
  | _, [] => []
  | i, v :: vs => (i, v) :: ja_args (if v.1 = 1 then i + 2 else i + 1) vs
theorem ja_argsm (ad : Nat → Nat) (vs : List ja_V) : ∀ i : Nat, lv_args i (vs.map (ja_c ad)) = (ja_args i vs).map fun q => (q.1, ja_c ad q.2) := by
  induction vs with
  | nil => intro i; rfl
  | cons v vs ih =>
    intro i
    show (i, ja_c ad v) :: lv_args (if (ja_c ad v).category = 2 then i + 2 else i + 1) (vs.map (ja_c ad)) = _
    have e : (if (ja_c ad v).category = 2 then i + 2 else i + 1) = if v.1 = 1 then i + 2 else i + 1 := by
      by_cases h1 : v.1 = 1
      · rw [if_pos h1, if_pos (ja_cat2 ad v h1)]
      · rw [if_neg h1, if_neg (by rw [ja_cat1 ad v h1]; decide)]
    rw [e, ih]
    rfl
def ja_wd (vs : List ja_V) : Nat := (vs.map fun v => if v.1 = 1 then 2 else 1).sum
theorem ja_wd_cat (ad : Nat → Nat) (vs : List ja_V) : ((vs.map (ja_c ad)).map fun v => v.category).sum = ja_wd vs := by
  induction vs with
  | nil => rfl
  | cons v vs ih =>
    have e : (ja_c ad v).category = if v.1 = 1 then 2 else 1 := by
      by_cases h1 : v.1 = 1
      · rw [if_pos h1, ja_cat2 ad v h1]
      · rw [if_neg h1, ja_cat1 ad v h1]
    simp only [ja_wd, List.map_cons, List.sum_cons] at ih ⊢
    rw [e, ← ih]
theorem ja_wd_sl (ad : Nat → Nat) (vs : List ja_V) : (lg_sl (vs.map (ja_c ad))).length = ja_wd vs := by
  induction vs with
  | nil => rfl
  | cons v vs ih =>
    simp only [lg_sl, ja_wd, List.map_cons, List.flatMap_cons, List.length_append, List.sum_cons] at ih ⊢
    rw [ih]
    by_cases h1 : v.1 = 1
    · rw [if_pos h1, if_pos (ja_cat2 ad v h1)]; rfl
    · rw [if_neg h1, if_neg (by rw [ja_cat1 ad v h1]; decide)]; rfl
def ja_M (l : Launch) (D : va_G) (cA : Nat → ClassId) (ad : Nat → Nat) (sp : ja_S) (K d : Nat) (y : MethodName) (cc : ByteArray) (nL : Nat) (rt : Option FieldType) (vals : List ja_V) (h : ja_H) (Q : Option ja_V → ja_H → Prop) : Prop :=
  ja_J l D cA ad sp K d y.cls cc nL rt 0 (ja_args 0 vals) [] h Q
def ja_N (s : State) : Prop := ∀ w ∈ lw_tbl, ja_nest w = true → va_Nw w s
theorem ja_N.warm {s U : State} (hW : s.WarmedH U.vm) (h : ja_N s) : ja_N U := by
  intro w hw hn
  have h1 := h w hw hn
  cases w with
  | fieldLinkNest a i b n d g => exact va_Nw.warmF hW h1
  | methodLinkNest a i x g => exact va_Nw.warmM hW h1
  | _ => cases hn
def ja_PC (D : va_G) (cA : Nat → ClassId) (ad : Nat → Nat) (sp : ja_S) (K : Nat) (vals : List ja_V) (h : ja_H) : Array Value → State → Prop := fun a U =>
  a = (vals.map (ja_c ad)).toArray ∧ va_P D ja_cl (ja_w cA ad sp K h) U.heap ∧ va_K D ja_cl (ja_t cA) U ∧ ja_N U ∧ ja_Lt ad K U
theorem ja_met {l : Launch} {D : va_G} {cA : Nat → ClassId} {ad : Nat → Nat} {sp : ja_S} {K d : Nat} {y : MethodName} {cc : ByteArray} {nL : Nat} {rt : Option FieldType} {vals : List ja_V} {h : ja_H} {Q : Option ja_V → ja_H → Prop}
    (hi : ∀ i j, i < K → j < K → ad i = ad j → i = j) (hy : plainName y.cls = true) (hlen : ja_wd vals ≤ nL) (hM : ja_M l D cA ad sp K d y cc nL rt vals h Q) :
    Met l y (Cond.code y cc nL rt :: ja_B) (ja_R d) (ja_PC D cA ad sp K vals h) (ja_Q D cA ad sp K Q) 0 0 (ja_A ad K) := by
  refine Met.ofW (cc := cc) (maxL := nL) (ret := rt) hy rfl ?_
  intro p e s m args below meth c s₁ B hml hv
  obtain ⟨rfl, hP, hK, hN, hT⟩ := hv
  have hx := B.exec
  have hb := B.bytes
  have hr := B.returns
  have hts := atoms_spec (ws := Cond.code y cc nL rt :: ja_B) B.pre
  have hown : s.vm.findClass y.cls = some m.cls := findClass_of_methodNamed B.named
  have hlocks := B.notSynchronized
  have hl := lv_entry (vals.map (ja_c ad)) (n := nL) (by rw [ja_wd_sl]; exact hlen)
  rw [lg_entry_eq]
  generalize (lg_sl (vals.map (ja_c ad)) ++ List.replicate (nL - (lg_sl (vals.map (ja_c ad))).length) Slot.unset).toArray = ls at hl ⊢
  rw [ja_argsm] at hl
  exact hM p e s m _ below meth c s.heap [] ls hx hb hml hr hown (fun w hw => hts w (List.mem_cons_of_mem _ hw)) hN hT hlocks hK hP hi va_S.rf hl
theorem ja_blind {D : va_G} {cA : Nat → ClassId} {ad : Nat → Nat} {sp : ja_S} {K : Nat} {vals : List ja_V} {h : ja_H} : FrameBlind (ja_PC D cA ad sp K vals h) := by
  intro a U g mk q
  obtain ⟨q0, qP, qK, qN, qT⟩ := q
  exact ⟨q0, qP, va_K.moved (u := U) (U := U.calling g mk a) (Vm.Alike.refl U.vm) qK, fun w hw hn => va_Nw.same (by cases w <;> first | rfl | cases hn) (u := U) rfl (qN w hw hn), ja_Lt.calling (U := U) (V := U.calling g mk a) rfl rfl qT⟩
theorem ja_good {y : MethodName} {cc : ByteArray} {nL : Nat} {rt : Option FieldType} (hw : Cond.code y cc nL rt ∈ ja_B) : GoodIn ja_B (Cond.code y cc nL rt :: ja_B) := by
  intro w h
  have hm : w ∈ ja_B := by
    rcases List.mem_cons.mp h with rfl | h
    · exact hw
    · exact h
  exact ⟨hm, good_of_word (List.mem_filter.mp hm).2⟩
section JC
variable {l : Launch} {D : va_G} {cA : Nat → ClassId} {ad : Nat → Nat} {sp : ja_S} {K d d' : Nat} {own : String} {cc cc' : ByteArray} {nL nL' : Nat} {rt rt' : Option FieldType} {pc index n : Nat} {L : List (Nat × ja_V)} {S vals : List ja_V} {h : ja_H} {Q : Option ja_V → ja_H → Prop} {y : MethodName}
theorem ja_stk (ad : Nat → Nat) (r : Option ja_V) (S : List ja_V) : (r.map (ja_c ad)).toList ++ S.map (ja_c ad) = (r.toList ++ S).map (ja_c ad) := by cases r <;> rfl
theorem ja_callV (hw1 : Cond.methodLink own index y ∈ ja_B) (hw4 : Cond.initialized y.cls ∈ ja_B) (hw5 : Cond.code y cc' nL' rt' ∈ ja_B) (hy : y.cls ≠ "java/lang/invoke/MethodHandle" ∧ y.cls ≠ "java/lang/invoke/VarHandle" ∧ (parseMethodDescriptor y.desc).map (fun d => d.parameters.length) = some n ∧ plainName y.cls = true) (hn : vals.length = n) (hdd : d' < d) (hnL : nL' ≤ 45) (hw2 : Cond.instanceMethod y ∈ ja_B) (hw3 : Cond.selects y.cls y y ∈ ja_B) {q ci N : Nat} {T : u_T} (hq : q < K) (hsp : (sp q).1 = (ci, N)) (hci : ci < 100) (hcl : ja_cl[ci]? = some (y.cls, T, N)) (hlen : ja_wd vals + 1 ≤ nL') (hwd : ja_wd S ≤ 8) (hd : decode cc pc = .ok (.invokevirtual index, 3)) (k : ja_M l D cA ad sp K d' y cc' nL' rt' ((2, (q : Int)) :: vals) h (fun r h' => ja_J l D cA ad sp K d own cc nL rt (pc + 3) L (r.toList ++ S) h' Q)) : ja_J l D cA ad sp K d own cc nL rt pc L (vals.reverse ++ (2, (q : Int)) :: S) h Q := by
  intro p e s m args below meth c H locs ls hx hb hml hr hown hts hnw hlt hlk hK hP hi hS hl
  have hlen2 : ja_wd ((2, (q : Int)) :: vals) ≤ nL' := by
    have : ja_wd ((2, (q : Int)) :: vals) = 1 + ja_wd vals := rfl
    omega
  have hM := ja_met hi hy.2.2.2 hlen2 k
  have cb : CallB (ja_R d) s args own index y cc' nL' rt' (Cond.code y cc' nL' rt' :: ja_B) (ja_R d') 0 0 n := callB_of n hts (ja_good hw5) rfl rfl rfl (hts _ hw4) (hts _ hw1) ⟨hy.1, hy.2.1, hy.2.2.1⟩ ⟨by show d' + 1 ≤ d; omega, by show 8 + (nL' + 11) + 64 * d' ≤ 64 * d; omega⟩
  have he : (ja_w cA ad sp K h)[q]? = some (ad q, .inr (ci, (List.range N).map (ja_fv ad sp h q))) := by rw [ja_w_get hq, ja_e_obj hsp hci]
  have hpre : PreV s H y.cls (ad q) (ja_PC D cA ad sp K ((2, (q : Int)) :: vals) h) (vals.map (ja_c ad)) := ⟨ja_blind, va_recv hK hP hcl he, fun U hU hW => ⟨rfl, by rw [hU]; exact hP, va_K.moved hW.alike hK, ja_N.warm hW hnw, ja_Lt.call hW hU hS hlt⟩⟩
  have run := va_runV (e := e) (below := below) (meth := meth) (locs := locs) (cells := 0) (slots := 0) (g := F0 m pc ls ((vals.reverse ++ (2, (q : Int)) :: S).map (ja_c ad))) (rest := S.map (ja_c ad)) ⟨hx, hb, hml, hown, hts⟩ hM ⟨cb, hts _ hw2, hts _ hw3⟩ hpre rfl (by rw [List.length_map, hn]) hl.1 (by simp [ja_c]) (lv_room (by rw [ja_wd_cat]; exact hwd)) hd ⟨Nat.le_refl _, Nat.le_refl _⟩
  intro T hT X
  obtain ⟨v, st₀, t, T', L1, h0, X', hL1, e1, e2, ⟨r, h', ho, hk, hP', hF0⟩, st⟩ := run T hT X
  have hv : v = r.map (ja_c ad) := by cases ho; rfl
  subst hv
  have hF := hF0
  unfold va_F at hF
  rw [h0] at hF
  obtain ⟨t2, a1, b1⟩ := hk p e s m args below meth c T'.heap (locs ++ L1) ls hx hb hml hr hown hts hnw hlt hlk hK (by rw [e1]; exact hP') hi ⟨Nat.le_trans hS.1 (by rw [e1]; exact hF.1), fun q h1 h2 => by rw [e1, hF.2 q (Nat.lt_of_lt_of_le h1 hS.1) h2]; exact hS.2.1 q h1 h2, fun q hq => by
      rcases List.mem_append.mp hq with h | h
      · exact hS.2.2 q h
      · exact hL1 q h⟩ hl T' rfl X'
  rw [← ja_stk] at a1
  exact ⟨t2, st t2 a1, b1⟩
theorem ja_callS (hw1 : Cond.methodLink own index y ∈ ja_B) (hw4 : Cond.initialized y.cls ∈ ja_B) (hw5 : Cond.code y cc' nL' rt' ∈ ja_B) (hy : y.cls ≠ "java/lang/invoke/MethodHandle" ∧ y.cls ≠ "java/lang/invoke/VarHandle" ∧ (parseMethodDescriptor y.desc).map (fun d => d.parameters.length) = some n ∧ plainName y.cls = true) (hn : vals.length = n) (hdd : d' < d) (hnL : nL' ≤ 45) (hw2 : Cond.static y ∈ ja_B) (hlen : ja_wd vals ≤ nL') (hwd : ja_wd S ≤ 8) (hd : decode cc pc = .ok (.invokestatic index, 3)) (k : ja_M l D cA ad sp K d' y cc' nL' rt' vals h (fun r h' => ja_J l D cA ad sp K d own cc nL rt (pc + 3) L (r.toList ++ S) h' Q)) : ja_J l D cA ad sp K d own cc nL rt pc L (vals.reverse ++ S) h Q := by
  intro p e s m args below meth c H locs ls hx hb hml hr hown hts hnw hlt hlk hK hP hi hS hl
  have hM := ja_met hi hy.2.2.2 hlen k
  have cb : CallB (ja_R d) s args own index y cc' nL' rt' (Cond.code y cc' nL' rt' :: ja_B) (ja_R d') 0 0 n := callB_of n hts (ja_good hw5) rfl rfl rfl (hts _ hw4) (hts _ hw1) ⟨hy.1, hy.2.1, hy.2.2.1⟩ ⟨by show d' + 1 ≤ d; omega, by show 8 + (nL' + 11) + 64 * d' ≤ 64 * d; omega⟩
  have hpre : PreS s H (ja_PC D cA ad sp K vals h) (vals.map (ja_c ad)) := ⟨ja_blind, fun U hU hW => ⟨rfl, by rw [hU]; exact hP, va_K.moved hW.alike hK, ja_N.warm hW hnw, ja_Lt.call hW hU hS hlt⟩⟩
  have run := va_runS (e := e) (below := below) (meth := meth) (locs := locs) (cells := 0) (slots := 0) (g := F0 m pc ls ((vals.reverse ++ S).map (ja_c ad))) (rest := S.map (ja_c ad)) ⟨hx, hb, hml, hown, hts⟩ hM ⟨cb, hts _ hw2⟩ hpre rfl (by rw [List.length_map, hn]) hl.1 (by simp) (lv_room (by rw [ja_wd_cat]; exact hwd)) hd ⟨Nat.le_refl _, Nat.le_refl _⟩
  intro T hT X
  obtain ⟨v, st₀, t, T', L1, h0, X', hL1, e1, e2, ⟨r, h', ho, hk, hP', hF0⟩, st⟩ := run T hT X
  have hv : v = r.map (ja_c ad) := by cases ho; rfl
  subst hv
  have hF := hF0
  unfold va_F at hF
  rw [h0] at hF
  obtain ⟨t2, a1, b1⟩ := hk p e s m args below meth c T'.heap (locs ++ L1) ls hx hb hml hr hown hts hnw hlt hlk hK (by rw [e1]; exact hP') hi ⟨Nat.le_trans hS.1 (by rw [e1]; exact hF.1), fun q h1 h2 => by rw [e1, hF.2 q (Nat.lt_of_lt_of_le h1 hS.1) h2]; exact hS.2.1 q h1 h2, fun q hq => by
      rcases List.mem_append.mp hq with h | h
      · exact hS.2.2 q h
      · exact hL1 q h⟩ hl T' rfl X'
  rw [← ja_stk] at a1
  exact ⟨t2, st t2 a1, b1⟩
theorem ja_mmax {x y : Int} (v : Int) (hw1 : Cond.methodLink own index Lib.Math.max.name ∈ ja_B) (hw2 : Cond.static Lib.Math.max.name ∈ ja_B) (hw3 : Cond.initialized "java/lang/Math" ∈ ja_B) (hw4 : Cond.code Lib.Math.max.name Lib.Math.max.code 2 (some .int) ∈ ja_B) (hdd : 1 ≤ d) (hwd : ja_wd S ≤ 8) (hd : decode cc pc = .ok (.invokestatic index, 3)) (hv : (if Int32.ofInt x < Int32.ofInt y then Int32.ofInt y else Int32.ofInt x) = Int32.ofInt v) (k : ja_J l D cA ad sp K d own cc nL rt (pc + 3) L ((0, v) :: S) h Q) : ja_J l D cA ad sp K d own cc nL rt pc L ((0, y) :: (0, x) :: S) h Q := by
  intro p e s m args below meth c H locs ls hx hb hml hr hown hts hnw hlt hlk hK hP hi hS hl
  refine va_mmax (x := Int32.ofInt x) (y := Int32.ofInt y) hx hb (hml.trans hl.1.symm) hown (hts _ hw1) (hts _ hw2) (hts _ hw3) (hts _ hw4) (by show 1 ≤ d; exact hdd) (by show _ ≤ 64 * d; rw [ja_wd_cat]; omega) (Nat.zero_le _) (Nat.zero_le _) hd ?_
  rw [hv]
  exact k p e s m args below meth c H locs ls hx hb hml hr hown hts hnw hlt hlk hK hP hi hS hl
end JC
