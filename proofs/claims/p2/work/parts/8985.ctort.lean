/-! the constructor of Tokens: it copies OUR_NAMES (written by a program) -/
def ct_F (b0 : Nat) (f : Nat → Int32) (a : Nat) (s : State) : Prop := va_Z "WeaveHouse$Tokens" "OUR_NAMES" "[B" (.ref b0) (jn_A a s.heap.size) s s.heap ∧ va_T .byte b0 14 (fun j => .int (f j)) (jn_A a s.heap.size) s s.heap ∧ ∀ i, i < 14 → fits .byte (.int (f i)) = true
theorem ct_w37 : Cond.fieldLink RX9 37 "WeaveHouse$Tokens" "OUR_NAMES" "[B" ∈ ja_B := (ja_m (ck_tb_in (p := 4922) (by decide +kernel)) rfl)
theorem ct_w40 : Cond.methodLink RX9 40 arraycopyName ∈ ja_B := (ja_m (ck_tb_in (p := 4924) (by decide +kernel)) rfl)
theorem ct_wn : Cond.native arraycopyName ∈ ja_B := (ja_m (ck_tb_in (p := 4926) (by decide +kernel)) rfl)
theorem ct_ws : Cond.static arraycopyName ∈ ja_B := (ja_m (ck_tb_in (p := 4925) (by decide +kernel)) rfl)
theorem ct_wi : Cond.initialized "java/lang/System" ∈ ja_B := (ja_m (ck_tb_in (p := 4868) (by decide +kernel)) rfl)
section CTK
variable {l : Launch} {D : va_G} {cA : Nat → ClassId} {a z b0 : Nat} {f : Nat → Int32}
theorem jn_gets {ci d mc ms : Nat} {cc : ByteArray} {nL pc : Nat} {Ls : List (Nat × Value)} {S : List Value} {ws : va_W} {n k : Nat} {Qn : List Value → va_W → Prop} (hd : decode cc pc = .ok (.getstatic 37, 3)) (kk : jn_J l D cA (ct_F b0 f a) a z ci d mc ms RX9 cc nL (pc + 3) Ls (.ref b0 :: S) ws n k Qn) : jn_J l D cA (ct_F b0 f a) a z ci d mc ms RX9 cc nL pc Ls S ws n k Qn := by
  intro p e s m args below meth c H locs ls hx hb hml hr hnm hown hts hlk hF hK hz hP hD hS hl
  have hF9 := hF
  unfold ct_F at hF9
  rw [hz] at hF9
  exact va_gets (v := .ref b0) hx hb hF9.1 hS hown (hts _ ct_w37) (fun _ h9 => h9) hd (kk p e s m args below meth c H locs ls hx hb hml hr hnm hown hts hlk hF hK hz hP hD hS hl)
theorem jn_copy {ci d mc ms : Nat} {cc : ByteArray} {nL pc : Nat} {Ls : List (Nat × Value)} {S : List Value} {ws : va_W} {n k : Nat} {Qn : List Value → va_W → Prop} {q1 n1 x : Nat} {g : Nat → Int32} {sp dp nn : Int32} (ha1 : ws[q1]? = some (x, .inl (cA 1, n1, .inl g))) (h1 : ¬ sp < 0) (h2 : ¬ dp < 0) (h3 : ¬ nn < 0) (h4 : sp.toNatClampNeg + nn.toNatClampNeg ≤ 14) (h5 : dp.toNatClampNeg + nn.toNatClampNeg ≤ n1) (hin : ∀ i, i < nn.toNatClampNeg → sp.toNatClampNeg + i < 14) (hdd : 1 ≤ d) (hS8 : (S.map fun v => v.category).sum + (nativeFrameWords "java/lang/System" "arraycopy" 5 + 11) ≤ 64 * d) (hd : decode cc pc = .ok (.invokestatic 40, 3))
    (kk : jn_J l D cA (ct_F b0 f a) a z ci d mc ms RX9 cc nL (pc + 3) Ls S (ws.set q1 (x, .inl (cA 1, n1, .inl (va_cpy f g sp.toNatClampNeg dp.toNatClampNeg nn.toNatClampNeg)))) n k Qn) : jn_J l D cA (ct_F b0 f a) a z ci d mc ms RX9 cc nL pc Ls (.int nn :: .int dp :: .ref x :: .int sp :: .ref b0 :: S) ws n k Qn := by
  intro p e s m args below meth c H locs ls hx hb hml hr hnm hown hts hlk hF hK hz hP hD hS hl
  have hF9 := hF
  unfold ct_F at hF9
  rw [hz] at hF9
  exact vk_copyt hx hb (hml.trans hl.1.symm) hown (hts _ ct_w40) (hts _ ct_wn) (hts _ ct_ws) (hts _ ct_wi) hK hP hD hS hF9.2.1 q1 1 ha1 rfl h1 h2 h3 h4 h5 (fun i hi => hF9.2.2 _ (hin i hi)) hdd hS8 hd (fun H1 locs1 hP1 hD1 hS1 => kk p e s m args below meth c H1 locs1 ls hx hb hml hr hnm hown hts hlk hF hK hz hP1 hD1 hS1 hl)
set_option maxHeartbeats 20000000 in
theorem ct_Tokens   : jn_J l D cA (ct_F b0 f a) a z 9 3 8 (14044) RX9 cX9_init 1 0 (lv_args 0 (.ref a :: [])) [] [(a, .inr (9, [.null, .null, .null, .null, .null, .null, .int 0, .int 0]))] 0 0 (fun fs news => ∃ q1 q2 q3 q4 q5 q6 q7 q8 : Nat, fs = [.ref q1, .ref q2, .ref q3, .ref q4, .ref q5, .ref q7, .int 0, .int 0] ∧ news = [(q1, .inl (cA 1, 5014, .inl (va_cpy f (fun _ => 0) (0 : Int32).toNatClampNeg (5000 : Int32).toNatClampNeg (14 : Int32).toNatClampNeg))), (q2, .inl (cA 0, 902, .inl (fun _ => 0))), (q3, .inl (cA 0, 902, .inl (fun _ => 0))), (q4, .inl (cA 0, 902, .inl (fun _ => 0))), (q5, .inr (8, [.ref q6, .int 2, .int 0])), (q6, .inl (cA 0, 1808, .inl (fun _ => 0))), (q7, .inr (8, [.ref q8, .int 5, .int 0])), (q8, .inl (cA 0, 4510, .inl (fun _ => 0)))]) := by
  show jn_J l D cA (ct_F b0 f a) a z 9 3 8 (14044) RX9 cX9_init 1 0 [(0, .ref a)] [] _ 0 0 _
  refine jn_aload_n (x := a) dcX9_init_0 (List.mem_of_getElem? (i := 0) rfl) ?_
  refine jn_obj (ja_m (ck_tb_in (p := 4903) (by decide +kernel)) rfl) jo_i jo_c (by decide) (Nat.le_of_ble_eq_true rfl) dcX9_init_1 ?_
  refine jn_aload_n (x := a) dcX9_init_4 (List.mem_of_getElem? (i := 0) rfl) ?_
  refine jn_sipush (w := 5014) dcX9_init_5 (by decide +kernel) ?_
  refine jn_newY (v := 5014) (N := 5014) (by decide) (by decide) (by decide) (Nat.le_of_ble_eq_true rfl) (Nat.le_of_ble_eq_true rfl) dcX9_init_8 (fun q1 => ?_)
  refine jn_at [(a, .inr (9, [.null, .null, .null, .null, .null, .null, .int 0, .int 0])), (q1, .inl (cA 1, 5014, .inl (fun _ => 0)))] rfl ?_
  refine jn_putF (q0 := 0) (cj := 9) (N := 8) (C := RX9) (T := TX9) (j := 0) tyX9 cl_in9 tyX9_ok nmX9 rfl rfl (by decide) (ja_m (ck_tb_in (p := 4927) (by decide +kernel)) rfl) rfl rfl rfl rfl (Nat.le_of_ble_eq_true rfl) dcX9_init_10 ?_
  refine jn_at [(a, .inr (9, [.ref q1, .null, .null, .null, .null, .null, .int 0, .int 0])), (q1, .inl (cA 1, 5014, .inl (fun _ => 0)))] rfl ?_
  refine jn_aload_n (x := a) dcX9_init_13 (List.mem_of_getElem? (i := 0) rfl) ?_
  refine jn_sipush (w := 902) dcX9_init_14 (by decide +kernel) ?_
  refine jn_newI (v := 902) (N := 902) (by decide) (by decide) (by decide) (Nat.le_of_ble_eq_true rfl) (Nat.le_of_ble_eq_true rfl) dcX9_init_17 (fun q2 => ?_)
  refine jn_at [(a, .inr (9, [.ref q1, .null, .null, .null, .null, .null, .int 0, .int 0])), (q1, .inl (cA 1, 5014, .inl (fun _ => 0))), (q2, .inl (cA 0, 902, .inl (fun _ => 0)))] rfl ?_
  refine jn_putF (q0 := 0) (cj := 9) (N := 8) (C := RX9) (T := TX9) (j := 1) tyX9 cl_in9 tyX9_ok nmX9 rfl rfl (by decide) (ja_m (ck_tb_in (p := 4928) (by decide +kernel)) rfl) rfl rfl rfl rfl (Nat.le_of_ble_eq_true rfl) dcX9_init_19 ?_
  refine jn_at [(a, .inr (9, [.ref q1, .ref q2, .null, .null, .null, .null, .int 0, .int 0])), (q1, .inl (cA 1, 5014, .inl (fun _ => 0))), (q2, .inl (cA 0, 902, .inl (fun _ => 0)))] rfl ?_
  refine jn_aload_n (x := a) dcX9_init_22 (List.mem_of_getElem? (i := 0) rfl) ?_
  refine jn_sipush (w := 902) dcX9_init_23 (by decide +kernel) ?_
  refine jn_newI (v := 902) (N := 902) (by decide) (by decide) (by decide) (Nat.le_of_ble_eq_true rfl) (Nat.le_of_ble_eq_true rfl) dcX9_init_26 (fun q3 => ?_)
  refine jn_at [(a, .inr (9, [.ref q1, .ref q2, .null, .null, .null, .null, .int 0, .int 0])), (q1, .inl (cA 1, 5014, .inl (fun _ => 0))), (q2, .inl (cA 0, 902, .inl (fun _ => 0))), (q3, .inl (cA 0, 902, .inl (fun _ => 0)))] rfl ?_
  refine jn_putF (q0 := 0) (cj := 9) (N := 8) (C := RX9) (T := TX9) (j := 2) tyX9 cl_in9 tyX9_ok nmX9 rfl rfl (by decide) (ja_m (ck_tb_in (p := 4930) (by decide +kernel)) rfl) rfl rfl rfl rfl (Nat.le_of_ble_eq_true rfl) dcX9_init_28 ?_
  refine jn_at [(a, .inr (9, [.ref q1, .ref q2, .ref q3, .null, .null, .null, .int 0, .int 0])), (q1, .inl (cA 1, 5014, .inl (fun _ => 0))), (q2, .inl (cA 0, 902, .inl (fun _ => 0))), (q3, .inl (cA 0, 902, .inl (fun _ => 0)))] rfl ?_
  refine jn_aload_n (x := a) dcX9_init_31 (List.mem_of_getElem? (i := 0) rfl) ?_
  refine jn_sipush (w := 902) dcX9_init_32 (by decide +kernel) ?_
  refine jn_newI (v := 902) (N := 902) (by decide) (by decide) (by decide) (Nat.le_of_ble_eq_true rfl) (Nat.le_of_ble_eq_true rfl) dcX9_init_35 (fun q4 => ?_)
  refine jn_at [(a, .inr (9, [.ref q1, .ref q2, .ref q3, .null, .null, .null, .int 0, .int 0])), (q1, .inl (cA 1, 5014, .inl (fun _ => 0))), (q2, .inl (cA 0, 902, .inl (fun _ => 0))), (q3, .inl (cA 0, 902, .inl (fun _ => 0))), (q4, .inl (cA 0, 902, .inl (fun _ => 0)))] rfl ?_
  refine jn_putF (q0 := 0) (cj := 9) (N := 8) (C := RX9) (T := TX9) (j := 3) tyX9 cl_in9 tyX9_ok nmX9 rfl rfl (by decide) (ja_m (ck_tb_in (p := 4932) (by decide +kernel)) rfl) rfl rfl rfl rfl (Nat.le_of_ble_eq_true rfl) dcX9_init_37 ?_
  refine jn_at [(a, .inr (9, [.ref q1, .ref q2, .ref q3, .ref q4, .null, .null, .int 0, .int 0])), (q1, .inl (cA 1, 5014, .inl (fun _ => 0))), (q2, .inl (cA 0, 902, .inl (fun _ => 0))), (q3, .inl (cA 0, 902, .inl (fun _ => 0))), (q4, .inl (cA 0, 902, .inl (fun _ => 0)))] rfl ?_
  refine jn_aload_n (x := a) dcX9_init_40 (List.mem_of_getElem? (i := 0) rfl) ?_
  refine jn_new (C := RX8) (T := TX8) (N := 3) (cj := 8) (fs := [.null, .int 0, .int 0]) tyX8 cl_in8 tyX8_ok (ja_m (ck_tb_in (p := 4904) (by decide +kernel)) rfl) (ja_m (ck_tb_in (p := 4905) (by decide +kernel)) rfl) (ja_m (ck_tb_in (p := 4867) (by decide +kernel)) rfl) rfl dfX8 (Nat.le_of_ble_eq_true rfl) (Nat.le_of_ble_eq_true rfl) dcX9_init_41 (fun q5 => ?_)
  refine jn_at [(a, .inr (9, [.ref q1, .ref q2, .ref q3, .ref q4, .null, .null, .int 0, .int 0])), (q1, .inl (cA 1, 5014, .inl (fun _ => 0))), (q2, .inl (cA 0, 902, .inl (fun _ => 0))), (q3, .inl (cA 0, 902, .inl (fun _ => 0))), (q4, .inl (cA 0, 902, .inl (fun _ => 0))), (q5, .inr (8, [.null, .int 0, .int 0]))] rfl ?_
  refine jn_dup dcX9_init_44 ?_
  refine jn_sipush (w := 904) dcX9_init_45 (by decide +kernel) ?_
  refine jn_iconst (w := 2) dcX9_init_48 (by decide +kernel) ?_
  refine jn_call (F' := fun _ => True) (y := yX8_init) (cc' := cX8_init) (nL' := 3) (i := 5) (b := q5) (vals := [.int 904, .int 2]) (nn := 2) (cj := 8) (fs := [.null, .int 0, .int 0]) (ja_m (ck_tb_in (p := 4906) (by decide +kernel)) rfl) (ja_m (ck_tb_in (p := 4907) (by decide +kernel)) rfl) (ja_m (ck_tb_in (p := 4867) (by decide +kernel)) rfl) (ja_m (ck_tb_in (p := 4908) (by decide +kernel)) rfl) (by decide +kernel) (by decide +kernel) rfl rfl (by decide) (by decide) (Nat.le_of_ble_eq_true rfl) (fun _ _ _ _ _ => trivial) (fun _ _ _ _ _ _ _ _ _ => trivial) rfl (fun z9 h9 => ct_Table (l := l) (D := D) (cA := cA) (a := q5) (z := z9) (mo := 904) (wi := 2) (N := 1808) (by decide) (by decide) (by decide) (by decide) (by decide)) (Nat.le_of_ble_eq_true rfl) (Nat.le_of_ble_eq_true rfl) (Nat.le_of_ble_eq_true rfl) dcX9_init_49 (fun fs9 news9 hq9 => ?_)
  obtain ⟨q6, rfl, rfl⟩ := hq9
  refine jn_at [(a, .inr (9, [.ref q1, .ref q2, .ref q3, .ref q4, .null, .null, .int 0, .int 0])), (q1, .inl (cA 1, 5014, .inl (fun _ => 0))), (q2, .inl (cA 0, 902, .inl (fun _ => 0))), (q3, .inl (cA 0, 902, .inl (fun _ => 0))), (q4, .inl (cA 0, 902, .inl (fun _ => 0))), (q5, .inr (8, [.ref q6, .int 2, .int 0])), (q6, .inl (cA 0, 1808, .inl (fun _ => 0)))] rfl ?_
  refine jn_putF (q0 := 0) (cj := 9) (N := 8) (C := RX9) (T := TX9) (j := 4) tyX9 cl_in9 tyX9_ok nmX9 rfl rfl (by decide) (ja_m (ck_tb_in (p := 4934) (by decide +kernel)) rfl) rfl rfl rfl rfl (Nat.le_of_ble_eq_true rfl) dcX9_init_52 ?_
  refine jn_at [(a, .inr (9, [.ref q1, .ref q2, .ref q3, .ref q4, .ref q5, .null, .int 0, .int 0])), (q1, .inl (cA 1, 5014, .inl (fun _ => 0))), (q2, .inl (cA 0, 902, .inl (fun _ => 0))), (q3, .inl (cA 0, 902, .inl (fun _ => 0))), (q4, .inl (cA 0, 902, .inl (fun _ => 0))), (q5, .inr (8, [.ref q6, .int 2, .int 0])), (q6, .inl (cA 0, 1808, .inl (fun _ => 0)))] rfl ?_
  refine jn_aload_n (x := a) dcX9_init_55 (List.mem_of_getElem? (i := 0) rfl) ?_
  refine jn_new (C := RX8) (T := TX8) (N := 3) (cj := 8) (fs := [.null, .int 0, .int 0]) tyX8 cl_in8 tyX8_ok (ja_m (ck_tb_in (p := 4904) (by decide +kernel)) rfl) (ja_m (ck_tb_in (p := 4905) (by decide +kernel)) rfl) (ja_m (ck_tb_in (p := 4867) (by decide +kernel)) rfl) rfl dfX8 (Nat.le_of_ble_eq_true rfl) (Nat.le_of_ble_eq_true rfl) dcX9_init_56 (fun q7 => ?_)
  refine jn_at [(a, .inr (9, [.ref q1, .ref q2, .ref q3, .ref q4, .ref q5, .null, .int 0, .int 0])), (q1, .inl (cA 1, 5014, .inl (fun _ => 0))), (q2, .inl (cA 0, 902, .inl (fun _ => 0))), (q3, .inl (cA 0, 902, .inl (fun _ => 0))), (q4, .inl (cA 0, 902, .inl (fun _ => 0))), (q5, .inr (8, [.ref q6, .int 2, .int 0])), (q6, .inl (cA 0, 1808, .inl (fun _ => 0))), (q7, .inr (8, [.null, .int 0, .int 0]))] rfl ?_
  refine jn_dup dcX9_init_59 ?_
  refine jn_sipush (w := 902) dcX9_init_60 (by decide +kernel) ?_
  refine jn_iconst (w := 5) dcX9_init_63 (by decide +kernel) ?_
  refine jn_call (F' := fun _ => True) (y := yX8_init) (cc' := cX8_init) (nL' := 3) (i := 7) (b := q7) (vals := [.int 902, .int 5]) (nn := 2) (cj := 8) (fs := [.null, .int 0, .int 0]) (ja_m (ck_tb_in (p := 4906) (by decide +kernel)) rfl) (ja_m (ck_tb_in (p := 4907) (by decide +kernel)) rfl) (ja_m (ck_tb_in (p := 4867) (by decide +kernel)) rfl) (ja_m (ck_tb_in (p := 4908) (by decide +kernel)) rfl) (by decide +kernel) (by decide +kernel) rfl rfl (by decide) (by decide) (Nat.le_of_ble_eq_true rfl) (fun _ _ _ _ _ => trivial) (fun _ _ _ _ _ _ _ _ _ => trivial) rfl (fun z9 h9 => ct_Table (l := l) (D := D) (cA := cA) (a := q7) (z := z9) (mo := 902) (wi := 5) (N := 4510) (by decide) (by decide) (by decide) (by decide) (by decide)) (Nat.le_of_ble_eq_true rfl) (Nat.le_of_ble_eq_true rfl) (Nat.le_of_ble_eq_true rfl) dcX9_init_64 (fun fs9 news9 hq9 => ?_)
  obtain ⟨q8, rfl, rfl⟩ := hq9
  refine jn_at [(a, .inr (9, [.ref q1, .ref q2, .ref q3, .ref q4, .ref q5, .null, .int 0, .int 0])), (q1, .inl (cA 1, 5014, .inl (fun _ => 0))), (q2, .inl (cA 0, 902, .inl (fun _ => 0))), (q3, .inl (cA 0, 902, .inl (fun _ => 0))), (q4, .inl (cA 0, 902, .inl (fun _ => 0))), (q5, .inr (8, [.ref q6, .int 2, .int 0])), (q6, .inl (cA 0, 1808, .inl (fun _ => 0))), (q7, .inr (8, [.ref q8, .int 5, .int 0])), (q8, .inl (cA 0, 4510, .inl (fun _ => 0)))] rfl ?_
  refine jn_putF (q0 := 0) (cj := 9) (N := 8) (C := RX9) (T := TX9) (j := 5) tyX9 cl_in9 tyX9_ok nmX9 rfl rfl (by decide) (ja_m (ck_tb_in (p := 4935) (by decide +kernel)) rfl) rfl rfl rfl rfl (Nat.le_of_ble_eq_true rfl) dcX9_init_67 ?_
  refine jn_at [(a, .inr (9, [.ref q1, .ref q2, .ref q3, .ref q4, .ref q5, .ref q7, .int 0, .int 0])), (q1, .inl (cA 1, 5014, .inl (fun _ => 0))), (q2, .inl (cA 0, 902, .inl (fun _ => 0))), (q3, .inl (cA 0, 902, .inl (fun _ => 0))), (q4, .inl (cA 0, 902, .inl (fun _ => 0))), (q5, .inr (8, [.ref q6, .int 2, .int 0])), (q6, .inl (cA 0, 1808, .inl (fun _ => 0))), (q7, .inr (8, [.ref q8, .int 5, .int 0])), (q8, .inl (cA 0, 4510, .inl (fun _ => 0)))] rfl ?_
  refine jn_gets dcX9_init_70 ?_
  refine jn_iconst (w := 0) dcX9_init_73 (by decide +kernel) ?_
  refine jn_aload_n (x := a) dcX9_init_74 (List.mem_of_getElem? (i := 0) rfl) ?_
  refine jn_get (q0 := 0) (cj := 9) (N := 8) (C := RX9) (T := TX9) (j := 0) (v := .ref q1) cl_in9 rfl rfl (by decide) (ja_m (ck_tb_in (p := 4927) (by decide +kernel)) rfl) rfl dcX9_init_75 ?_
  refine jn_sipush (w := 5000) dcX9_init_78 (by decide +kernel) ?_
  refine jn_bipush (w := 14) dcX9_init_81 (by decide +kernel) ?_
  refine jn_copy (q1 := 1) rfl (by decide) (by decide) (by decide) (by decide) (by decide) (fun i hi => ?_) (Nat.le_of_ble_eq_true rfl) (Nat.le_of_ble_eq_true rfl) dcX9_init_83 ?_
  · rw [show (0 : Int32).toNatClampNeg = 0 from by decide, Nat.zero_add]; exact hi
  refine jn_at [(a, .inr (9, [.ref q1, .ref q2, .ref q3, .ref q4, .ref q5, .ref q7, .int 0, .int 0])), (q1, .inl (cA 1, 5014, .inl (va_cpy f (fun _ => 0) (0 : Int32).toNatClampNeg (5000 : Int32).toNatClampNeg (14 : Int32).toNatClampNeg))), (q2, .inl (cA 0, 902, .inl (fun _ => 0))), (q3, .inl (cA 0, 902, .inl (fun _ => 0))), (q4, .inl (cA 0, 902, .inl (fun _ => 0))), (q5, .inr (8, [.ref q6, .int 2, .int 0])), (q6, .inl (cA 0, 1808, .inl (fun _ => 0))), (q7, .inr (8, [.ref q8, .int 5, .int 0])), (q8, .inl (cA 0, 4510, .inl (fun _ => 0)))] rfl ?_
  exact jn_ret (fs := [.ref q1, .ref q2, .ref q3, .ref q4, .ref q5, .ref q7, .int 0, .int 0]) (news := [(q1, .inl (cA 1, 5014, .inl (va_cpy f (fun _ => 0) (0 : Int32).toNatClampNeg (5000 : Int32).toNatClampNeg (14 : Int32).toNatClampNeg))), (q2, .inl (cA 0, 902, .inl (fun _ => 0))), (q3, .inl (cA 0, 902, .inl (fun _ => 0))), (q4, .inl (cA 0, 902, .inl (fun _ => 0))), (q5, .inr (8, [.ref q6, .int 2, .int 0])), (q6, .inl (cA 0, 1808, .inl (fun _ => 0))), (q7, .inr (8, [.ref q8, .int 5, .int 0])), (q8, .inl (cA 0, 4510, .inl (fun _ => 0)))]) rfl ⟨q1, q2, q3, q4, q5, q6, q7, q8, rfl, rfl⟩ (Nat.le_of_ble_eq_true rfl) (Nat.le_of_ble_eq_true rfl) dcX9_init_86
end CTK
