/-! constructors: a judgement over a world that grows: cell 0 is the object that is made (at a), the others are new (z is the heap's size at the entry) -/
def jn_A (a z : Nat) : Nat → Prop := fun q => q = a ∨ z ≤ q
def jn_R (d c k : Nat) : Room := { frames := d, cells := c, slots := k, locals := 64 * d }
def jn_Q (D : va_G) (a z ci : Nat) (Qn : List Value → va_W → Prop) : Array Value → State → Outcome → State → Prop := fun _ st oc t =>
  ∃ (fs : List Value) (news : va_W), oc = .returned none ∧ Qn fs news ∧ va_P D ja_cl ((a, .inr (ci, fs)) :: news) t.heap ∧ va_D (jn_A a z) ((a, .inr (ci, fs)) :: news) ∧ va_F (jn_A a z) st t
def jn_J (l : Launch) (D : va_G) (cA : Nat → ClassId) (F : State → Prop) (a z ci d mc ms : Nat) (own : String) (cc : ByteArray) (nL pc : Nat) (Ls : List (Nat × Value)) (S : List Value) (ws : va_W) (n k : Nat) (Qn : List Value → va_W → Prop) : Prop :=
  ∀ (p : Program) (e : Env) (s : State) (m : MethodId) (args : Array Value) (below : List Frame) (meth : Method) (c : Code) (H : Heap) (locs : List Loc) (ls : Array Slot),
    p.tables.exec = Jvm.exec → c.code = cc → c.maxLocals = nL → meth.sig.returnType = none → meth.name = "<init>" → s.vm.findClass own = some m.cls → (∀ w ∈ ja_B, w.before args s = true) → meth.locks = false → F s →
    va_K D ja_cl (ja_t cA) s → s.heap.size = z → va_P D ja_cl ws H → va_D (jn_A a z) ws → va_S (jn_A a z) s.heap H locs → lv_has ls nL Ls →
    W p l e (jn_R d mc ms) s m args below meth c H locs n k (MQ below (jn_Q D a z ci Qn) args s mc ms (jn_A a z)) (F0 m pc ls S)
section JN
variable {l : Launch} {D : va_G} {cA : Nat → ClassId} {F : State → Prop} {a z ci d mc ms : Nat} {own : String} {cc : ByteArray} {nL pc : Nat} {Ls : List (Nat × Value)} {S : List Value} {ws : va_W} {n k : Nat} {Qn : List Value → va_W → Prop}
theorem jn_aload_n {q : Fin 4} {x : Nat} (hd : decode cc pc = .ok (.aload_n q, 1)) (hm : ((q : Nat), Value.ref x) ∈ Ls) (kk : jn_J l D cA F a z ci d mc ms own cc nL (pc + 1) Ls (.ref x :: S) ws n k Qn) : jn_J l D cA F a z ci d mc ms own cc nL pc Ls S ws n k Qn := by
  intro p e s m args below meth c H locs ls hx hb hml hr hnm hown hts hlk hF hK hz hP hD hS hl
  exact lv_aload_n hx hb hd rfl (hl.2.2 _ hm) (kk p e s m args below meth c H locs ls hx hb hml hr hnm hown hts hlk hF hK hz hP hD hS hl)
theorem jn_iload_n {q : Fin 4} {x : Int32} (hd : decode cc pc = .ok (.iload_n q, 1)) (hm : ((q : Nat), Value.int x) ∈ Ls) (kk : jn_J l D cA F a z ci d mc ms own cc nL (pc + 1) Ls (.int x :: S) ws n k Qn) : jn_J l D cA F a z ci d mc ms own cc nL pc Ls S ws n k Qn := by
  intro p e s m args below meth c H locs ls hx hb hml hr hnm hown hts hlk hF hK hz hP hD hS hl
  exact lv_iload_n hx hb hd rfl (hl.2.2 _ hm) (kk p e s m args below meth c H locs ls hx hb hml hr hnm hown hts hlk hF hK hz hP hD hS hl)
theorem jn_iconst {v : Int} {w : Int32} (hd : decode cc pc = .ok (.iconst v, 1)) (hv : Int32.ofInt v = w) (kk : jn_J l D cA F a z ci d mc ms own cc nL (pc + 1) Ls (.int w :: S) ws n k Qn) : jn_J l D cA F a z ci d mc ms own cc nL pc Ls S ws n k Qn := by
  intro p e s m args below meth c H locs ls hx hb hml hr hnm hown hts hlk hF hK hz hP hD hS hl
  exact lv_iconst hx hb hd hv (kk p e s m args below meth c H locs ls hx hb hml hr hnm hown hts hlk hF hK hz hP hD hS hl)
theorem jn_bipush {v : Int} {w : Int32} (hd : decode cc pc = .ok (.bipush v, 2)) (hv : (Int8.ofInt v).toInt32 = w) (kk : jn_J l D cA F a z ci d mc ms own cc nL (pc + 2) Ls (.int w :: S) ws n k Qn) : jn_J l D cA F a z ci d mc ms own cc nL pc Ls S ws n k Qn := by
  intro p e s m args below meth c H locs ls hx hb hml hr hnm hown hts hlk hF hK hz hP hD hS hl
  exact lv_bipush hx hb hd hv (kk p e s m args below meth c H locs ls hx hb hml hr hnm hown hts hlk hF hK hz hP hD hS hl)
theorem jn_sipush {v : Int} {w : Int32} (hd : decode cc pc = .ok (.sipush v, 3)) (hv : (Int16.ofInt v).toInt32 = w) (kk : jn_J l D cA F a z ci d mc ms own cc nL (pc + 3) Ls (.int w :: S) ws n k Qn) : jn_J l D cA F a z ci d mc ms own cc nL pc Ls S ws n k Qn := by
  intro p e s m args below meth c H locs ls hx hb hml hr hnm hown hts hlk hF hK hz hP hD hS hl
  exact lv_sipush hx hb hd hv (kk p e s m args below meth c H locs ls hx hb hml hr hnm hown hts hlk hF hK hz hP hD hS hl)
theorem jn_obj {idx x : Nat} (hw : Cond.methodLink own idx Lib.objectInit ∈ ja_B) (hi : Cond.instanceMethod Lib.objectInit ∈ ja_B) (hc : Cond.code Lib.objectInit ⟨#[0xb1]⟩ 1 none ∈ ja_B) (hdd : 1 ≤ d) (hS8 : (S.map fun v => v.category).sum ≤ 8) (hd : decode cc pc = .ok (.invokespecial idx, 3)) (kk : jn_J l D cA F a z ci d mc ms own cc nL (pc + 3) Ls S ws n k Qn) : jn_J l D cA F a z ci d mc ms own cc nL pc Ls (.ref x :: S) ws n k Qn := by
  intro p e s m args below meth c H locs ls hx hb hml hr hnm hown hts hlk hF hK hz hP hD hS hl
  exact W.objInit hx hb hown (hts _ hw) (hts _ hi) (hts _ hc) (g := F0 m pc ls (.ref x :: S)) rfl (hl.1.trans hml.symm) rfl hd (by show 1 ≤ d; exact hdd) (by show 2 * 0 + (S.map fun v => v.category).sum + 12 ≤ 64 * d; omega) (kk p e s m args below meth c H locs ls hx hb hml hr hnm hown hts hlk hF hK hz hP hD hS hl)
theorem jn_dup {x : Nat} (hd : decode cc pc = .ok (.dup, 1)) (kk : jn_J l D cA F a z ci d mc ms own cc nL (pc + 1) Ls (.ref x :: .ref x :: S) ws n k Qn) : jn_J l D cA F a z ci d mc ms own cc nL pc Ls (.ref x :: S) ws n k Qn := by
  intro p e s m args below meth c H locs ls hx hb hml hr hnm hown hts hlk hF hK hz hP hD hS hl
  exact lv_dup hx hb hd rfl (kk p e s m args below meth c H locs ls hx hb hml hr hnm hown hts hlk hF hK hz hP hD hS hl)
theorem jn_new {C : String} {T : u_T} {N cj idx : Nat} (ty : Nat → FieldType) (hin : ∀ w ∈ u_ws C T N, w ∈ ja_B) (hty : ∀ k, k < N → parseFieldDescriptor (T k).2.2.1 = some (ty k)) (hcl : Cond.classLink own idx C ∈ ja_B) (hinst : Cond.instantiable C N ∈ ja_B) (hini : Cond.initialized C ∈ ja_B) (hc : ja_cl[cj]? = some (C, T, N)) {fs : List Value} (hfs : ∀ j, j < N → defaultValue (ty j) = vp_V fs j) (h1 : n + 1 ≤ mc) (h2 : k + N ≤ ms) (hd : decode cc pc = .ok (.new idx, 3))
    (kk : ∀ q, jn_J l D cA F a z ci d mc ms own cc nL (pc + 3) Ls (.ref q :: S) (ws ++ [(q, .inr (cj, fs))]) (n + 1) (k + N) Qn) : jn_J l D cA F a z ci d mc ms own cc nL pc Ls S ws n k Qn := by
  intro p e s m args below meth c H locs ls hx hb hml hr hnm hown hts hlk hF hK hz hP hD hS hl
  exact va_new (Ts := ja_B) (D := D) hx hb hts hin ty hty hown (hts _ hcl) (hts _ hinst) (hts _ hini) hK hP hD hS (fun q h => Or.inr (by rw [← hz]; exact h)) hc hfs h1 h2 hd (fun q H1 hP1 hD1 hS1 => kk q p e s m args below meth c H1 locs ls hx hb hml hr hnm hown hts hlk hF hK hz hP1 hD1 hS1 hl)
theorem jn_wI : Cond.arrayClass .int ∈ ja_B := ja_m (ck_tb_in (p := 4921) (by decide +kernel)) rfl
theorem jn_newI {v : Int32} {N : Nat} (hv : ¬ v < 0) (hN : v.toNatClampNeg = N) (hb9 : N * componentBytes .int ≤ 536870912) (h1 : n + 1 ≤ mc) (h2 : k + N ≤ ms) (hd : decode cc pc = .ok (.newarray .int, 2))
    (kk : ∀ q, jn_J l D cA F a z ci d mc ms own cc nL (pc + 2) Ls (.ref q :: S) (ws ++ [(q, .inl (cA 0, N, .inl (fun _ => 0)))]) (n + 1) (k + N) Qn) : jn_J l D cA F a z ci d mc ms own cc nL pc Ls (.int v :: S) ws n k Qn := by
  intro p e s m args below meth c H locs ls hx hb hml hr hnm hown hts hlk hF hK hz hP hD hS hl
  refine va_newa (D := D) (atype := .int) (ty := .int) (N' := N) (a0 := (N, .inl (fun _ => 0))) hx hb (hts _ jn_wI) rfl hK hP hD hS (fun q h => Or.inr (by rw [← hz]; exact h)) (fun _ => rfl) hv hN hb9 h1 h2 hd (fun q c9 H1 hK1 hP1 hD1 hS1 => ?_)
  have e1 := (hK.2 0 (cA 0, .int) rfl).2
  have e2 := (hK1.2 4 (c9, .int) rfl).2
  have e3 : c9 = cA 0 := by
    have e4 := e2.symm.trans e1
    exact Option.some.inj e4
  subst e3
  exact kk q p e s m args below meth c H1 locs ls hx hb hml hr hnm hown hts hlk hF hK hz hP1 hD1 hS1 hl
theorem jn_wY : Cond.arrayClass .byte ∈ ja_B := ja_m (ck_tb_in (p := 4920) (by decide +kernel)) rfl
theorem jn_newY {v : Int32} {N : Nat} (hv : ¬ v < 0) (hN : v.toNatClampNeg = N) (hb9 : N * componentBytes .byte ≤ 536870912) (h1 : n + 1 ≤ mc) (h2 : k + N ≤ ms) (hd : decode cc pc = .ok (.newarray .byte, 2))
    (kk : ∀ q, jn_J l D cA F a z ci d mc ms own cc nL (pc + 2) Ls (.ref q :: S) (ws ++ [(q, .inl (cA 1, N, .inl (fun _ => 0)))]) (n + 1) (k + N) Qn) : jn_J l D cA F a z ci d mc ms own cc nL pc Ls (.int v :: S) ws n k Qn := by
  intro p e s m args below meth c H locs ls hx hb hml hr hnm hown hts hlk hF hK hz hP hD hS hl
  refine va_newa (D := D) (atype := .byte) (ty := .byte) (N' := N) (a0 := (N, .inl (fun _ => 0))) hx hb (hts _ jn_wY) rfl hK hP hD hS (fun q h => Or.inr (by rw [← hz]; exact h)) (fun _ => rfl) hv hN hb9 h1 h2 hd (fun q c9 H1 hK1 hP1 hD1 hS1 => ?_)
  have e1 := (hK.2 1 (cA 1, .byte) rfl).2
  have e2 := (hK1.2 4 (c9, .byte) rfl).2
  have e3 : c9 = cA 1 := by
    have e4 := e2.symm.trans e1
    exact Option.some.inj e4
  subst e3
  exact kk q p e s m args below meth c H1 locs ls hx hb hml hr hnm hown hts hlk hF hK hz hP1 hD1 hS1 hl
theorem jn_wZ : Cond.arrayClass .boolean ∈ ja_B := ja_m (ck_tb_in (p := 7516) (by decide +kernel)) rfl
theorem jn_newZ {v : Int32} {N : Nat} (hv : ¬ v < 0) (hN : v.toNatClampNeg = N) (hb9 : N * componentBytes .boolean ≤ 536870912) (h1 : n + 1 ≤ mc) (h2 : k + N ≤ ms) (hd : decode cc pc = .ok (.newarray .boolean, 2))
    (kk : ∀ q, jn_J l D cA F a z ci d mc ms own cc nL (pc + 2) Ls (.ref q :: S) (ws ++ [(q, .inl (cA 2, N, .inl (fun _ => 0)))]) (n + 1) (k + N) Qn) : jn_J l D cA F a z ci d mc ms own cc nL pc Ls (.int v :: S) ws n k Qn := by
  intro p e s m args below meth c H locs ls hx hb hml hr hnm hown hts hlk hF hK hz hP hD hS hl
  refine va_newa (D := D) (atype := .boolean) (ty := .boolean) (N' := N) (a0 := (N, .inl (fun _ => 0))) hx hb (hts _ jn_wZ) rfl hK hP hD hS (fun q h => Or.inr (by rw [← hz]; exact h)) (fun _ => rfl) hv hN hb9 h1 h2 hd (fun q c9 H1 hK1 hP1 hD1 hS1 => ?_)
  have e1 := (hK.2 2 (cA 2, .boolean) rfl).2
  have e2 := (hK1.2 4 (c9, .boolean) rfl).2
  have e3 : c9 = cA 2 := by
    have e4 := e2.symm.trans e1
    exact Option.some.inj e4
  subst e3
  exact kk q p e s m args below meth c H1 locs ls hx hb hml hr hnm hown hts hlk hF hK hz hP1 hD1 hS1 hl
theorem jn_wL : Cond.arrayClass .long ∈ ja_B := ja_m (ck_tb_in (p := 5245) (by decide +kernel)) rfl
theorem jn_newL {v : Int32} {N : Nat} (hv : ¬ v < 0) (hN : v.toNatClampNeg = N) (hb9 : N * componentBytes .long ≤ 536870912) (h1 : n + 1 ≤ mc) (h2 : k + N ≤ ms) (hd : decode cc pc = .ok (.newarray .long, 2))
    (kk : ∀ q, jn_J l D cA F a z ci d mc ms own cc nL (pc + 2) Ls (.ref q :: S) (ws ++ [(q, .inl (cA 3, N, .inr (.inl (fun _ => 0))))]) (n + 1) (k + N) Qn) : jn_J l D cA F a z ci d mc ms own cc nL pc Ls (.int v :: S) ws n k Qn := by
  intro p e s m args below meth c H locs ls hx hb hml hr hnm hown hts hlk hF hK hz hP hD hS hl
  refine va_newa (D := D) (atype := .long) (ty := .long) (N' := N) (a0 := (N, .inr (.inl (fun _ => 0)))) hx hb (hts _ jn_wL) rfl hK hP hD hS (fun q h => Or.inr (by rw [← hz]; exact h)) (fun _ => rfl) hv hN hb9 h1 h2 hd (fun q c9 H1 hK1 hP1 hD1 hS1 => ?_)
  have e1 := (hK.2 3 (cA 3, .long) rfl).2
  have e2 := (hK1.2 4 (c9, .long) rfl).2
  have e3 : c9 = cA 3 := by
    have e4 := e2.symm.trans e1
    exact Option.some.inj e4
  subst e3
  exact kk q p e s m args below meth c H1 locs ls hx hb hml hr hnm hown hts hlk hF hK hz hP1 hD1 hS1 hl
theorem jn_put {q0 x cj N j idx : Nat} {C : String} {T : u_T} {v : Value} {fs : List Value} (ty : Nat → FieldType) (hin : ∀ w ∈ u_ws C T N, w ∈ ja_B) (hty : ∀ k, k < N → parseFieldDescriptor (T k).2.2.1 = some (ty k)) (hnn : ∀ a, a < N → ∀ b, b < N → a ≠ b → (T a).2.1 ≠ (T b).2.1) (hc : ja_cl[cj]? = some (C, T, N)) (he : ws[q0]? = some (x, .inr (cj, fs))) (hj : j < N) (hw : Cond.fieldLink own idx (T j).1 (T j).2.1 (T j).2.2.1 ∈ ja_B) (hfin : (T j).2.2.2 = false) (hn : narrow (ty j) v = v) (hfit : fits (ty j) v = true) (hlen : j < fs.length) (hd : decode cc pc = .ok (.putfield idx, 3))
    (kk : jn_J l D cA F a z ci d mc ms own cc nL (pc + 3) Ls S (ws.set q0 (x, .inr (cj, fs.set j v))) n k Qn) : jn_J l D cA F a z ci d mc ms own cc nL pc Ls (v :: .ref x :: S) ws n k Qn := by
  intro p e s m args below meth c H locs ls hx hb hml hr hnm hown hts hlk hF hK hz hP hD hS hl
  exact va_put (Ts := ja_B) (D := D) (v := v) (ty := ty j) hx hb hts hin ty hty hnn hown hK hP hD hS q0 he hc j hj (hts _ hw) (fun _ z => z) hfin (hty j hj) hn hfit hlen hd (fun H1 locs1 hP1 hD1 hS1 => kk p e s m args below meth c H1 locs1 ls hx hb hml hr hnm hown hts hlk hF hK hz hP1 hD1 hS1 hl)
theorem jn_putF {q0 x cj N j idx : Nat} {C : String} {T : u_T} {v : Value} {fs : List Value} (ty : Nat → FieldType) (hin : ∀ w ∈ u_ws C T N, w ∈ ja_B) (hty : ∀ k, k < N → parseFieldDescriptor (T k).2.2.1 = some (ty k)) (hnn : ∀ a, a < N → ∀ b, b < N → a ≠ b → (T a).2.1 ≠ (T b).2.1) (hc : ja_cl[cj]? = some (C, T, N)) (he : ws[q0]? = some (x, .inr (cj, fs))) (hj : j < N) (hw : Cond.fieldLink own idx (T j).1 (T j).2.1 (T j).2.2.1 ∈ ja_B) (hfin : (T j).2.2.2 = true) (hdecl : (T j).1 = own) (hn : narrow (ty j) v = v) (hfit : fits (ty j) v = true) (hlen : j < fs.length) (hd : decode cc pc = .ok (.putfield idx, 3))
    (kk : jn_J l D cA F a z ci d mc ms own cc nL (pc + 3) Ls S (ws.set q0 (x, .inr (cj, fs.set j v))) n k Qn) : jn_J l D cA F a z ci d mc ms own cc nL pc Ls (v :: .ref x :: S) ws n k Qn := by
  intro p e s m args below meth c H locs ls hx hb hml hr hnm hown hts hlk hF hK hz hP hD hS hl
  exact va_putF (Ts := ja_B) (D := D) (v := v) (ty := ty j) hx hb hts hin ty hty hnn hown hK hP hD hS q0 he hc j hj (hts _ hw) (fun _ z => z) hfin hnm hdecl (hty j hj) hn hfit hlen hd (fun H1 locs1 hP1 hD1 hS1 => kk p e s m args below meth c H1 locs1 ls hx hb hml hr hnm hown hts hlk hF hK hz hP1 hD1 hS1 hl)
theorem jn_get {q0 x cj N j idx : Nat} {C : String} {T : u_T} {v : Value} {fs : List Value} (hin : ∀ w ∈ u_ws C T N, w ∈ ja_B) (hc : ja_cl[cj]? = some (C, T, N)) (he : ws[q0]? = some (x, .inr (cj, fs))) (hj : j < N) (hw : Cond.fieldLink own idx (T j).1 (T j).2.1 (T j).2.2.1 ∈ ja_B) (hv : fs[j]? = some v) (hd : decode cc pc = .ok (.getfield idx, 3))
    (kk : jn_J l D cA F a z ci d mc ms own cc nL (pc + 3) Ls (v :: S) ws n k Qn) : jn_J l D cA F a z ci d mc ms own cc nL pc Ls (.ref x :: S) ws n k Qn := by
  intro p e s m args below meth c H locs ls hx hb hml hr hnm hown hts hlk hF hK hz hP hD hS hl
  exact va_get (Ts := ja_B) (D := D) hx hb hts hin hown hK hP q0 he hc j hj (hts _ hw) (fun _ z => z) (v := v) hv hd (kk p e s m args below meth c H locs ls hx hb hml hr hnm hown hts hlk hF hK hz hP hD hS hl)
theorem jn_ret {fs : List Value} {news : va_W} (hws : ws = (a, .inr (ci, fs)) :: news) (hQ : Qn fs news) (h1 : n ≤ mc) (h2 : k ≤ ms) (hd : decode cc pc = .ok (.return_, 1)) : jn_J l D cA F a z ci d mc ms own cc nL pc Ls [] ws n k Qn := by
  intro p e s m args below meth c H locs ls hx hb hml hr hnm hown hts hlk hF hK hz hP hD hS hl
  subst hws
  exact W.widen (k := mc) (n := ms) h1 h2 (W.vret hx hb hr (fun t ht hW => ⟨fs, news, rfl, hQ, by rw [ht]; exact hP, hD, hS.F ht⟩) hS.2.2 hd hlk)
/-- the entry of a constructor's contract -/
def jn_PC (D : va_G) (cA : Nat → ClassId) (F : State → Prop) (a z ci : Nat) (fs vals : List Value) : Array Value → State → Prop := fun ar U => ar = (.ref a :: vals).toArray ∧ va_P D ja_cl [(a, .inr (ci, fs))] U.heap ∧ va_K D ja_cl (ja_t cA) U ∧ U.heap.size = z ∧ F U
theorem jn_met {y : MethodName} {fs vals : List Value} (hy : plainName y.cls = true) (hyn : y.name = "<init>") (hlen : (lg_sl (.ref a :: vals)).length ≤ nL) (haz : a < z) (hM : jn_J l D cA F a z ci d mc ms y.cls cc nL 0 (lv_args 0 (.ref a :: vals)) [] [(a, .inr (ci, fs))] 0 0 Qn) :
    Met l y (Cond.code y cc nL none :: ja_B) (jn_R d mc ms) (jn_PC D cA F a z ci fs vals) (jn_Q D a z ci Qn) mc ms (jn_A a z) := by
  refine Met.ofW (cc := cc) (maxL := nL) (ret := none) hy rfl ?_
  intro p e s m args below meth c s₁ B hml hv
  obtain ⟨rfl, hP, hK, hz, hF⟩ := hv
  have hx := B.exec
  have hb := B.bytes
  have hr := B.returns
  have hts := atoms_spec (ws := Cond.code y cc nL none :: ja_B) B.pre
  have hown : s.vm.findClass y.cls = some m.cls := findClass_of_methodNamed B.named
  have hnm : meth.name = "<init>" := (name_of_methodNamed B.named B.method).1.trans hyn
  have hl := lv_entry (.ref a :: vals) (n := nL) hlen
  rw [lg_entry_eq]
  generalize (lg_sl (.ref a :: vals) ++ List.replicate (nL - (lg_sl (.ref a :: vals)).length) Slot.unset).toArray = ls at hl ⊢
  refine hM p e s m _ below meth c s.heap [] ls hx hb hml hr hnm hown (fun w hw => hts w (List.mem_cons_of_mem _ hw)) B.notSynchronized hF hK hz hP ⟨fun i j p q hp hq _ => ?_, fun k q hq => ?_⟩ va_S.rf hl
  · have h1 : i < 1 := (List.getElem?_eq_some_iff.mp hp).1
    have h2 : j < 1 := (List.getElem?_eq_some_iff.mp hq).1
    omega
  · have h1 : k < 1 := (List.getElem?_eq_some_iff.mp hq).1
    have h0 : k = 0 := by omega
    subst h0
    cases hq
    exact Or.inl rfl
theorem jn_call {F' : State → Prop} {y : MethodName} {cc' : ByteArray} {nL' d' mc' ms' cj b i idx nn : Nat} {fs vals : List Value} {Qn' : List Value → va_W → Prop}
    (hw1 : Cond.methodLink own idx y ∈ ja_B) (hwi : Cond.instanceMethod y ∈ ja_B) (hw4 : Cond.initialized y.cls ∈ ja_B) (hw5 : Cond.code y cc' nL' none ∈ ja_B)
    (hy : y.cls ≠ "java/lang/invoke/MethodHandle" ∧ y.cls ≠ "java/lang/invoke/VarHandle" ∧ (parseMethodDescriptor y.desc).map (fun d => d.parameters.length) = some nn) (hyp : plainName y.cls = true) (hyn : y.name = "<init>") (hn : vals.length = nn) (hdd : d' < d) (hnL : nL' ≤ 45) (hlen : (lg_sl (.ref b :: vals)).length ≤ nL')
    (hFb : ∀ (a1 : Array Value) (U : State) (g : JFrame) (mk : MethodId), F' U → F' (U.calling g mk a1)) (hF' : ∀ (s U : State) (H : Heap) (locs : List Loc), F s → s.heap.size = z → va_S (jn_A a z) s.heap H locs → U.heap = H → s.WarmedH U.vm → F' U)
    (hws : ws[i]? = some (b, .inr (cj, fs)))
    (hM : ∀ z', b < z' → jn_J l D cA F' b z' cj d' mc' ms' y.cls cc' nL' 0 (lv_args 0 (.ref b :: vals)) [] [(b, .inr (cj, fs))] 0 0 Qn')
    (h1 : n + mc' ≤ mc) (h2 : k + ms' ≤ ms) (hS8 : (S.map fun v => v.category).sum ≤ 8) (hd : decode cc pc = .ok (.invokespecial idx, 3))
    (kk : ∀ fs' news, Qn' fs' news → jn_J l D cA F a z ci d mc ms own cc nL (pc + 3) Ls S (ws.set i (b, .inr (cj, fs')) ++ news) (n + mc') (k + ms') Qn) :
    jn_J l D cA F a z ci d mc ms own cc nL pc Ls (vals.reverse ++ .ref b :: S) ws n k Qn := by
  intro p e s m args below meth c H locs ls hx hb hml hr hnm hown hts hlk hF hK hz hP hD hS hl
  have hbl : b < H.size := (hP i _ hws).lt
  have hmet := jn_met (D := D) (cA := cA) (F := F') (a := b) (z := H.size) (ci := cj) (fs := fs) (vals := vals) hyp hyn hlen hbl (hM H.size hbl)
  have cb : CallB (jn_R d mc ms) s args own idx y cc' nL' none (Cond.code y cc' nL' none :: ja_B) (jn_R d' mc' ms') mc' ms' nn := callB_of nn hts (ja_good hw5) rfl rfl rfl (hts _ hw4) (hts _ hw1) ⟨hy.1, hy.2.1, hy.2.2⟩ ⟨by show d' + 1 ≤ d; omega, by show 8 + (nL' + 11) + 64 * d' ≤ 64 * d; omega⟩
  have hpre : PreS s H (jn_PC D cA F' b H.size cj fs vals) (.ref b :: vals) := by
    refine ⟨fun a1 U g mk q => ?_, fun U hU hW => ⟨rfl, ?_, va_K.moved hW.alike hK, by rw [hU], hF' s U H locs hF hz hS hU hW⟩⟩
    · obtain ⟨q0, qP, qK, qz, qF⟩ := q
      exact ⟨q0, qP, va_K.moved (u := U) (U := U.calling g mk a1) (Vm.Alike.refl U.vm) qK, qz, hFb a1 U g mk qF⟩
    · rw [hU]
      intro k0 q hq
      have hk1 : k0 < 1 := (List.getElem?_eq_some_iff.mp hq).1
      have hk0 : k0 = 0 := by omega
      subst hk0
      cases hq
      exact hP i _ hws
  have run := va_runI (e := e) (below := below) (meth := meth) (locs := locs) (cells := n) (slots := k) (g := F0 m pc ls (vals.reverse ++ .ref b :: S)) (rest := S) ⟨hx, hb, hml, hown, hts⟩ hmet ⟨cb, hyn, hts _ hwi⟩ hpre rfl hn hl.1 rfl (lv_room hS8) hd ⟨h1, h2⟩
  intro T hT X
  obtain ⟨v, st₀, t, T', L1, h0, X', hL1, e1, e2, ⟨fs', news, ho, hq, hP', hD', hF0⟩, st⟩ := run T hT X
  have hv : v = none := by cases ho; rfl
  subst hv
  unfold va_F at hF0
  rw [h0] at hF0
  obtain ⟨f1, f2⟩ := hF0
  have hba : jn_A a z b := hD.2 i _ hws
  have hzH : z ≤ H.size := by rw [← hz]; exact hS.1
  have hil : i < ws.length := (List.getElem?_eq_some_iff.mp hws).1
  have hold : ∀ (k0 : Nat) (q : Nat × va_E), k0 < ws.length → (ws.set i (b, .inr (cj, fs')))[k0]? = some q → (k0 = i ∧ q = (b, .inr (cj, fs'))) ∨ (k0 ≠ i ∧ ws[k0]? = some q) := by
    intro k0 q hk0 hq
    by_cases e : k0 = i
    · subst e
      rw [List.getElem?_set_self hk0] at hq
      exact Or.inl ⟨rfl, (Option.some.inj hq).symm⟩
    · rw [List.getElem?_set_ne (fun h => e h.symm)] at hq
      exact Or.inr ⟨e, hq⟩
  have hnew : ∀ (k0 : Nat) (q : Nat × va_E), news[k0]? = some q → H.size ≤ q.1 := by
    intro k0 q hq
    have hq1 : ((b, .inr (cj, fs')) :: news)[k0 + 1]? = some q := hq
    rcases hD'.2 (k0 + 1) q hq1 with h | h
    · have := hD'.1 (k0 + 1) 0 q _ hq1 rfl h
      omega
    · exact h
  have hP2 : va_P D ja_cl (ws.set i (b, .inr (cj, fs')) ++ news) t.heap := by
    intro k0 q hk0
    by_cases hlt : k0 < ws.length
    · rw [List.getElem?_append_left (by rw [List.length_set]; exact hlt)] at hk0
      rcases hold k0 q hlt hk0 with ⟨rfl, rfl⟩ | ⟨hne, hq0⟩
      · exact hP' 0 _ rfl
      · refine (hP k0 q hq0).kept (f2 q.1 (hP k0 q hq0).lt ?_)
        rintro (h | h)
        · exact hne (hD.1 k0 i q _ hq0 hws h)
        · have := (hP k0 q hq0).lt
          omega
    · rw [List.getElem?_append_right (by rw [List.length_set]; omega), List.length_set] at hk0
      exact hP' (k0 - ws.length + 1) q hk0
  have hD2 : va_D (jn_A a z) (ws.set i (b, .inr (cj, fs')) ++ news) := by
    refine va_D.app (hD.set hws) ⟨fun i1 j1 p1 q1 hp hq he => ?_, fun k0 q hk0 => Or.inr (Nat.le_trans hzH (hnew k0 q hk0))⟩ (fun i1 j1 p1 q1 hp hq he => ?_)
    · have := hD'.1 (i1 + 1) (j1 + 1) p1 q1 hp hq he
      omega
    · have g1 := hnew j1 q1 hq
      have hlt : i1 < ws.length := by
        have := (List.getElem?_eq_some_iff.mp hp).1
        rw [List.length_set] at this
        exact this
      rcases hold i1 p1 hlt hp with ⟨rfl, rfl⟩ | ⟨hne, hq0⟩
      · have : b = q1.1 := he
        omega
      · have := (hP i1 p1 hq0).lt
        omega
  obtain ⟨t2, a1, b1⟩ := kk fs' news hq p e s m args below meth c T'.heap (locs ++ L1) ls hx hb hml hr hnm hown hts hlk hF hK hz (by rw [e1]; exact hP2) hD2 ⟨Nat.le_trans hS.1 (by rw [e1]; exact f1), fun q q1 q2 => by
      rw [e1, f2 q (Nat.lt_of_lt_of_le q1 hS.1) (by
        rintro (h | h)
        · exact q2 (by rw [h]; exact hba)
        · exact q2 (Or.inr (Nat.le_trans hzH h)))]
      exact hS.2.1 q q1 q2, fun q hq => by
      rcases List.mem_append.mp hq with h | h
      · exact hS.2.2 q h
      · rcases hL1 q h with h | h
        · rw [h]; exact hba
        · exact Or.inr (Nat.le_trans hzH h)⟩ hl T' rfl X'
  exact ⟨t2, st t2 a1, b1⟩
end JN
