/-! methods that may throw: jx_J is ja_J with a room of one cell and ends that return or throw; a throw of the exception r (7, 8, 9) is told as the answer (r, 0) -/
def jx_n (r : Nat) : String := if r = 7 then "java/lang/IllegalArgumentException" else if r = 8 then "java/lang/IllegalStateException" else "java/lang/IndexOutOfBoundsException"
def jx_X (D : va_G) (cA : Nat → ClassId) (ad : Nat → Nat) (sp : ja_S) (K : Nat) (Q : Option ja_V → ja_H → Prop) : String → State → State → Prop := fun E st t =>
  ∃ (r : Nat) (h' : ja_H), jx_n r = E ∧ (r = 7 ∨ r = 8 ∨ r = 9) ∧ Q (some (r, 0)) h' ∧ va_P D ja_cl (ja_w cA ad sp K h') t.heap ∧ va_F (ja_A ad K) st t
def jx_Qr (Q : Option ja_V → ja_H → Prop) : Option ja_V → ja_H → Prop := fun r h => (∀ v, r = some v → v.1 < 2) ∧ Q r h
def jx_R (d : Nat) : Room := { frames := d, cells := 1, slots := 6, locals := 64 * d }
def jx_L : List (Nat × String) := [(91, "n"), (148, "what"), (169, "point"), (175, "meets"), (183, "finding"), (191, "k"), (195, "nothing is compiled"), (202, "no RUN"), (228, "output"), (244, "row"), (249, "object"), (257, "field"), (262, "held")]
def jx_Dn : List MethodName := [⟨"java/lang/RuntimeException", "<init>", "(Ljava/lang/String;)V"⟩, ⟨"java/lang/Exception", "<init>", "(Ljava/lang/String;)V"⟩, ⟨"java/lang/Throwable", "<init>", "(Ljava/lang/String;)V"⟩]
def jx_Cn : List String := ["java/lang/IllegalArgumentException", "java/lang/IllegalStateException", "java/lang/IndexOutOfBoundsException"]
def jx_Dw (s : State) : Prop := (∀ y ∈ jx_Dn, va_Nw (.declares y) s) ∧ ∀ C ∈ jx_Cn, va_Nw (.castable C C) s
def jx_Lt (ad : Nat → Nat) (K : Nat) (s : State) : Prop := jx_Dw s ∧ (∀ q ∈ jx_L, ∃ a, vk_R RX11 q.1 q.2 a s) ∧ vx_Zq Bundle.tN "UNASSIGNED_STACK" Bundle.steD (ja_A ad K) s s.heap ∧ vx_Zq Bundle.tN "SUPPRESSED_SENTINEL" Bundle.listD (ja_A ad K) s s.heap
theorem jx_Lt.call {ad : Nat → Nat} {K : Nat} {s U : State} {H : Heap} {locs : List Loc} (hW : s.WarmedH U.vm) (hU : U.heap = H) (hS : va_S (ja_A ad K) s.heap H locs) (h : jx_Lt ad K s) : jx_Lt ad K U := by
  obtain ⟨⟨g1, g2⟩, h1, h2, h3⟩ := h
  refine ⟨⟨fun y hy => va_Nw.warmD hW (g1 y hy), fun C hC => va_Nw.warmC hW (g2 C hC)⟩, fun q hq => (h1 q hq).imp fun a r => vk_R.warm hW r, ?_, ?_⟩ <;> rw [hU]
  · exact vx_Zq.moved hW.alike (h2.kept hS.2.1)
  · exact vx_Zq.moved hW.alike (h3.kept hS.2.1)
theorem jx_Lt.calling {ad : Nat → Nat} {K : Nat} {U V : State} (hv : V.vm = U.vm) (hh : V.heap = U.heap) (h : jx_Lt ad K U) : jx_Lt ad K V := by
  obtain ⟨⟨g1, g2⟩, h1, h2, h3⟩ := h
  have al : U.vm.Alike V.vm := by rw [hv]; exact Vm.Alike.refl U.vm
  refine ⟨⟨fun y hy => va_Nw.same rfl hv.symm (g1 y hy), fun C hC => va_Nw.same rfl hv.symm (g2 C hC)⟩, fun q hq => (h1 q hq).imp fun a r => vk_R.same hv r, ?_, ?_⟩ <;> rw [hh]
  · exact vx_Zq.moved al h2
  · exact vx_Zq.moved al h3
def jx_J (l : Launch) (D : va_G) (cA : Nat → ClassId) (ad : Nat → Nat) (sp : ja_S) (K d : Nat) (own : String) (cc : ByteArray) (nL : Nat) (rt : Option FieldType) (pc : Nat) (L : List (Nat × ja_V)) (S : List ja_V) (h : ja_H) (Q : Option ja_V → ja_H → Prop) : Prop :=
  ∀ (p : Program) (e : Env) (s : State) (m : MethodId) (args : Array Value) (below : List Frame) (meth : Method) (c : Code) (H : Heap) (locs : List Loc) (ls : Array Slot),
    p.tables.exec = Jvm.exec → c.code = cc → c.maxLocals = nL → meth.sig.returnType = rt → s.vm.findClass own = some m.cls → (∀ w ∈ ja_B, w.before args s = true) → (∀ w ∈ lw_tbl, ja_nest w = true → va_Nw w s) → ja_Lt ad K s → jx_Lt ad K s → l.stackTraces = false → (∀ x ∈ c.exceptionTable.toList, False) → meth.locks = false →
    va_K D ja_cl (ja_t cA) s → va_P D ja_cl (ja_w cA ad sp K h) H → (∀ i j, i < K → j < K → ad i = ad j → i = j) → va_S (ja_A ad K) s.heap H locs → lv_has ls nL (L.map fun q => (q.1, ja_c ad q.2)) →
    W p l e (jx_R d) s m args below meth c H locs 0 0 (vx_MQ below (ja_Q D cA ad sp K (jx_Qr Q)) (jx_X D cA ad sp K Q) args s 1 6 (ja_A ad K)) (F0 m pc ls (S.map (ja_c ad)))
section XR
variable {l : Launch} {D : va_G} {cA : Nat → ClassId} {ad : Nat → Nat} {sp : ja_S} {K d : Nat} {own : String} {cc : ByteArray} {nL : Nat} {rt : Option FieldType} {pc : Nat} {L : List (Nat × ja_V)} {S : List ja_V} {h : ja_H} {Q : Option ja_V → ja_H → Prop}
theorem jx_iconst {n : Int} (hd : decode cc pc = .ok (.iconst n, 1)) (k : jx_J l D cA ad sp K d own cc nL rt (pc + 1) L ((0, n) :: S) h Q) : jx_J l D cA ad sp K d own cc nL rt pc L S h Q := by
  intro p e s m args below meth c H locs ls hx hb hml hr hown hts hnw hlt hsr hst hel hlk hK hP hi hS hl
  exact lv_iconst hx hb hd rfl (k p e s m args below meth c H locs ls hx hb hml hr hown hts hnw hlt hsr hst hel hlk hK hP hi hS hl)
theorem jx_bipush {n : Int} (x : Int) (hd : decode cc pc = .ok (.bipush n, 2)) (hv : (Int8.ofInt n).toInt32 = Int32.ofInt x) (k : jx_J l D cA ad sp K d own cc nL rt (pc + 2) L ((0, x) :: S) h Q) : jx_J l D cA ad sp K d own cc nL rt pc L S h Q := by
  intro p e s m args below meth c H locs ls hx hb hml hr hown hts hnw hlt hsr hst hel hlk hK hP hi hS hl
  exact lv_bipush hx hb hd hv (k p e s m args below meth c H locs ls hx hb hml hr hown hts hnw hlt hsr hst hel hlk hK hP hi hS hl)
theorem jx_sipush {n : Int} (x : Int) (hd : decode cc pc = .ok (.sipush n, 3)) (hv : (Int16.ofInt n).toInt32 = Int32.ofInt x) (k : jx_J l D cA ad sp K d own cc nL rt (pc + 3) L ((0, x) :: S) h Q) : jx_J l D cA ad sp K d own cc nL rt pc L S h Q := by
  intro p e s m args below meth c H locs ls hx hb hml hr hown hts hnw hlt hsr hst hel hlk hK hP hi hS hl
  exact lv_sipush hx hb hd hv (k p e s m args below meth c H locs ls hx hb hml hr hown hts hnw hlt hsr hst hel hlk hK hP hi hS hl)
theorem jx_lconst {n : Fin 2} (x : Int) (hd : decode cc pc = .ok (.lconst n, 1)) (hv : Int64.ofNat (n : Nat) = Int64.ofInt x) (k : jx_J l D cA ad sp K d own cc nL rt (pc + 1) L ((1, x) :: S) h Q) : jx_J l D cA ad sp K d own cc nL rt pc L S h Q := by
  intro p e s m args below meth c H locs ls hx hb hml hr hown hts hnw hlt hsr hst hel hlk hK hP hi hS hl
  exact lv_lconst hx hb hd hv (k p e s m args below meth c H locs ls hx hb hml hr hown hts hnw hlt hsr hst hel hlk hK hP hi hS hl)
theorem jx_ldc {index : Nat} {v : Int32} (x : Int) (hw : Cond.constant own index v ∈ ja_B) (hd : decode cc pc = .ok (.ldc index, 2)) (hv : v = Int32.ofInt x) (k : jx_J l D cA ad sp K d own cc nL rt (pc + 2) L ((0, x) :: S) h Q) : jx_J l D cA ad sp K d own cc nL rt pc L S h Q := by
  intro p e s m args below meth c H locs ls hx hb hml hr hown hts hnw hlt hsr hst hel hlk hK hP hi hS hl
  subst hv
  exact lv_ldc hx hb hown (hts _ hw) hd (k p e s m args below meth c H locs ls hx hb hml hr hown hts hnw hlt hsr hst hel hlk hK hP hi hS hl)
theorem jx_ldc2 {index : Nat} {v : Int64} (x : Int) (hw : Cond.constantLong own index v ∈ ja_B) (hd : decode cc pc = .ok (.ldc2_w index, 3)) (hv : v = Int64.ofInt x) (k : jx_J l D cA ad sp K d own cc nL rt (pc + 3) L ((1, x) :: S) h Q) : jx_J l D cA ad sp K d own cc nL rt pc L S h Q := by
  intro p e s m args below meth c H locs ls hx hb hml hr hown hts hnw hlt hsr hst hel hlk hK hP hi hS hl
  subst hv
  exact lv_ldc2 hx hb hown (hts _ hw) hd (k p e s m args below meth c H locs ls hx hb hml hr hown hts hnw hlt hsr hst hel hlk hK hP hi hS hl)
theorem jx_iload_n {q : Fin 4} {i : Nat} {x : Int} (hd : decode cc pc = .ok (.iload_n q, 1)) (hq : (q : Nat) = i) (hg : ja_g L i = some (0, x)) (k : jx_J l D cA ad sp K d own cc nL rt (pc + 1) L ((0, x) :: S) h Q) : jx_J l D cA ad sp K d own cc nL rt pc L S h Q := by
  intro p e s m args below meth c H locs ls hx hb hml hr hown hts hnw hlt hsr hst hel hlk hK hP hi hS hl
  exact lv_iload_n hx hb hd hq (ja_at hl hg) (k p e s m args below meth c H locs ls hx hb hml hr hown hts hnw hlt hsr hst hel hlk hK hP hi hS hl)
theorem jx_iload {i : Nat} {x : Int} (hd : decode cc pc = .ok (.iload i, 2)) (hg : ja_g L i = some (0, x)) (k : jx_J l D cA ad sp K d own cc nL rt (pc + 2) L ((0, x) :: S) h Q) : jx_J l D cA ad sp K d own cc nL rt pc L S h Q := by
  intro p e s m args below meth c H locs ls hx hb hml hr hown hts hnw hlt hsr hst hel hlk hK hP hi hS hl
  exact lv_iload hx hb hd (ja_at hl hg) (k p e s m args below meth c H locs ls hx hb hml hr hown hts hnw hlt hsr hst hel hlk hK hP hi hS hl)
theorem jx_istore_n {q : Fin 4} {i : Nat} {x : Int} {L2 : List (Nat × ja_V)} (hd : decode cc pc = .ok (.istore_n q, 1)) (hq : (q : Nat) = i) (hn : i < nL) (hL : ja_st i (0, x) L = L2) (k : jx_J l D cA ad sp K d own cc nL rt (pc + 1) L2 S h Q) : jx_J l D cA ad sp K d own cc nL rt pc L ((0, x) :: S) h Q := by
  intro p e s m args below meth c H locs ls hx hb hml hr hown hts hnw hlt hsr hst hel hlk hK hP hi hS hl
  subst hL
  exact lv_istore_n hx hb hd hq hl hn (ja_stm ad i (0, x) L) (fun ls2 hl2 => k p e s m args below meth c H locs ls2 hx hb hml hr hown hts hnw hlt hsr hst hel hlk hK hP hi hS hl2)
theorem jx_istore {i : Nat} {x : Int} {L2 : List (Nat × ja_V)} (hd : decode cc pc = .ok (.istore i, 2)) (hn : i < nL) (hL : ja_st i (0, x) L = L2) (k : jx_J l D cA ad sp K d own cc nL rt (pc + 2) L2 S h Q) : jx_J l D cA ad sp K d own cc nL rt pc L ((0, x) :: S) h Q := by
  intro p e s m args below meth c H locs ls hx hb hml hr hown hts hnw hlt hsr hst hel hlk hK hP hi hS hl
  subst hL
  exact lv_istore hx hb hd hl hn (ja_stm ad i (0, x) L) (fun ls2 hl2 => k p e s m args below meth c H locs ls2 hx hb hml hr hown hts hnw hlt hsr hst hel hlk hK hP hi hS hl2)
theorem jx_lload_n {q : Fin 4} {i : Nat} {x : Int} (hd : decode cc pc = .ok (.lload_n q, 1)) (hq : (q : Nat) = i) (hg : ja_g L i = some (1, x)) (k : jx_J l D cA ad sp K d own cc nL rt (pc + 1) L ((1, x) :: S) h Q) : jx_J l D cA ad sp K d own cc nL rt pc L S h Q := by
  intro p e s m args below meth c H locs ls hx hb hml hr hown hts hnw hlt hsr hst hel hlk hK hP hi hS hl
  exact lv_lload_n hx hb hd hq (ja_at hl hg) (k p e s m args below meth c H locs ls hx hb hml hr hown hts hnw hlt hsr hst hel hlk hK hP hi hS hl)
theorem jx_lload {i : Nat} {x : Int} (hd : decode cc pc = .ok (.lload i, 2)) (hg : ja_g L i = some (1, x)) (k : jx_J l D cA ad sp K d own cc nL rt (pc + 2) L ((1, x) :: S) h Q) : jx_J l D cA ad sp K d own cc nL rt pc L S h Q := by
  intro p e s m args below meth c H locs ls hx hb hml hr hown hts hnw hlt hsr hst hel hlk hK hP hi hS hl
  exact lv_lload hx hb hd (ja_at hl hg) (k p e s m args below meth c H locs ls hx hb hml hr hown hts hnw hlt hsr hst hel hlk hK hP hi hS hl)
theorem jx_lstore_n {q : Fin 4} {i : Nat} {x : Int} {L2 : List (Nat × ja_V)} (hd : decode cc pc = .ok (.lstore_n q, 1)) (hq : (q : Nat) = i) (hn : i + 1 < nL) (hL : ja_st2 i (1, x) L = L2) (k : jx_J l D cA ad sp K d own cc nL rt (pc + 1) L2 S h Q) : jx_J l D cA ad sp K d own cc nL rt pc L ((1, x) :: S) h Q := by
  intro p e s m args below meth c H locs ls hx hb hml hr hown hts hnw hlt hsr hst hel hlk hK hP hi hS hl
  subst hL
  exact lv_lstore_n hx hb hd hq hl hn (ja_st2m ad i (1, x) L) (fun ls2 hl2 => k p e s m args below meth c H locs ls2 hx hb hml hr hown hts hnw hlt hsr hst hel hlk hK hP hi hS hl2)
theorem jx_lstore {i : Nat} {x : Int} {L2 : List (Nat × ja_V)} (hd : decode cc pc = .ok (.lstore i, 2)) (hn : i + 1 < nL) (hL : ja_st2 i (1, x) L = L2) (k : jx_J l D cA ad sp K d own cc nL rt (pc + 2) L2 S h Q) : jx_J l D cA ad sp K d own cc nL rt pc L ((1, x) :: S) h Q := by
  intro p e s m args below meth c H locs ls hx hb hml hr hown hts hnw hlt hsr hst hel hlk hK hP hi hS hl
  subst hL
  exact lv_lstore hx hb hd hl hn (ja_st2m ad i (1, x) L) (fun ls2 hl2 => k p e s m args below meth c H locs ls2 hx hb hml hr hown hts hnw hlt hsr hst hel hlk hK hP hi hS hl2)
theorem jx_aload_n {q : Fin 4} {i : Nat} {x : Int} (hd : decode cc pc = .ok (.aload_n q, 1)) (hq : (q : Nat) = i) (hg : ja_g L i = some (2, x)) (k : jx_J l D cA ad sp K d own cc nL rt (pc + 1) L ((2, x) :: S) h Q) : jx_J l D cA ad sp K d own cc nL rt pc L S h Q := by
  intro p e s m args below meth c H locs ls hx hb hml hr hown hts hnw hlt hsr hst hel hlk hK hP hi hS hl
  exact lv_aload_n hx hb hd hq (ja_at hl hg) (k p e s m args below meth c H locs ls hx hb hml hr hown hts hnw hlt hsr hst hel hlk hK hP hi hS hl)
theorem jx_aload {i : Nat} {x : Int} (hd : decode cc pc = .ok (.aload i, 2)) (hg : ja_g L i = some (2, x)) (k : jx_J l D cA ad sp K d own cc nL rt (pc + 2) L ((2, x) :: S) h Q) : jx_J l D cA ad sp K d own cc nL rt pc L S h Q := by
  intro p e s m args below meth c H locs ls hx hb hml hr hown hts hnw hlt hsr hst hel hlk hK hP hi hS hl
  exact lv_aload hx hb hd (ja_at hl hg) (k p e s m args below meth c H locs ls hx hb hml hr hown hts hnw hlt hsr hst hel hlk hK hP hi hS hl)
theorem jx_astore_n {q : Fin 4} {i : Nat} {x : Int} {L2 : List (Nat × ja_V)} (hd : decode cc pc = .ok (.astore_n q, 1)) (hq : (q : Nat) = i) (hn : i < nL) (hL : ja_st i (2, x) L = L2) (k : jx_J l D cA ad sp K d own cc nL rt (pc + 1) L2 S h Q) : jx_J l D cA ad sp K d own cc nL rt pc L ((2, x) :: S) h Q := by
  intro p e s m args below meth c H locs ls hx hb hml hr hown hts hnw hlt hsr hst hel hlk hK hP hi hS hl
  subst hL
  exact lv_astore_n hx hb hd hq hl hn (ja_stm ad i (2, x) L) (fun ls2 hl2 => k p e s m args below meth c H locs ls2 hx hb hml hr hown hts hnw hlt hsr hst hel hlk hK hP hi hS hl2)
theorem jx_astore {i : Nat} {x : Int} {L2 : List (Nat × ja_V)} (hd : decode cc pc = .ok (.astore i, 2)) (hn : i < nL) (hL : ja_st i (2, x) L = L2) (k : jx_J l D cA ad sp K d own cc nL rt (pc + 2) L2 S h Q) : jx_J l D cA ad sp K d own cc nL rt pc L ((2, x) :: S) h Q := by
  intro p e s m args below meth c H locs ls hx hb hml hr hown hts hnw hlt hsr hst hel hlk hK hP hi hS hl
  subst hL
  exact lv_astore hx hb hd hl hn (ja_stm ad i (2, x) L) (fun ls2 hl2 => k p e s m args below meth c H locs ls2 hx hb hml hr hown hts hnw hlt hsr hst hel hlk hK hP hi hS hl2)
theorem jx_iinc {i : Nat} {n x : Int} {L2 : List (Nat × ja_V)} (hd : decode cc pc = .ok (.iinc i n, 3)) (hg : ja_g L i = some (0, x)) (hn : i < nL) (hL : ja_st i (0, x + n) L = L2) (k : jx_J l D cA ad sp K d own cc nL rt (pc + 3) L2 S h Q) : jx_J l D cA ad sp K d own cc nL rt pc L S h Q := by
  intro p e s m args below meth c H locs ls hx hb hml hr hown hts hnw hlt hsr hst hel hlk hK hP hi hS hl
  subst hL
  obtain ⟨k0, hk0⟩ := ja_place (ad := ad) hg
  exact lv_iinc (v := Int32.ofInt (x + n)) hx hb hd hl hk0 (Int32.ofInt_add x n).symm hn (ja_stm ad i (0, x + n) L) (fun ls2 hl2 => k p e s m args below meth c H locs ls2 hx hb hml hr hown hts hnw hlt hsr hst hel hlk hK hP hi hS hl2)
theorem jx_iadd {x y : Int} (hd : decode cc pc = .ok (.iadd, 1)) (k : jx_J l D cA ad sp K d own cc nL rt (pc + 1) L ((0, x + y) :: S) h Q) : jx_J l D cA ad sp K d own cc nL rt pc L ((0, y) :: (0, x) :: S) h Q := by
  intro p e s m args below meth c H locs ls hx hb hml hr hown hts hnw hlt hsr hst hel hlk hK hP hi hS hl
  refine lv_iadd (x := Int32.ofInt x) (y := Int32.ofInt y) hx hb hd ?_
  rw [← Int32.ofInt_add]
  exact k p e s m args below meth c H locs ls hx hb hml hr hown hts hnw hlt hsr hst hel hlk hK hP hi hS hl
theorem jx_isub {x y : Int} (hd : decode cc pc = .ok (.isub, 1)) (k : jx_J l D cA ad sp K d own cc nL rt (pc + 1) L ((0, x - y) :: S) h Q) : jx_J l D cA ad sp K d own cc nL rt pc L ((0, y) :: (0, x) :: S) h Q := by
  intro p e s m args below meth c H locs ls hx hb hml hr hown hts hnw hlt hsr hst hel hlk hK hP hi hS hl
  refine lv_isub (x := Int32.ofInt x) (y := Int32.ofInt y) hx hb hd ?_
  rw [← Int32.ofInt_sub]
  exact k p e s m args below meth c H locs ls hx hb hml hr hown hts hnw hlt hsr hst hel hlk hK hP hi hS hl
theorem jx_imul {x y : Int} (hd : decode cc pc = .ok (.imul, 1)) (k : jx_J l D cA ad sp K d own cc nL rt (pc + 1) L ((0, x * y) :: S) h Q) : jx_J l D cA ad sp K d own cc nL rt pc L ((0, y) :: (0, x) :: S) h Q := by
  intro p e s m args below meth c H locs ls hx hb hml hr hown hts hnw hlt hsr hst hel hlk hK hP hi hS hl
  refine lv_imul (x := Int32.ofInt x) (y := Int32.ofInt y) hx hb hd ?_
  rw [← Int32.ofInt_mul]
  exact k p e s m args below meth c H locs ls hx hb hml hr hown hts hnw hlt hsr hst hel hlk hK hP hi hS hl
theorem jx_ineg {x : Int} (hd : decode cc pc = .ok (.ineg, 1)) (k : jx_J l D cA ad sp K d own cc nL rt (pc + 1) L ((0, -x) :: S) h Q) : jx_J l D cA ad sp K d own cc nL rt pc L ((0, x) :: S) h Q := by
  intro p e s m args below meth c H locs ls hx hb hml hr hown hts hnw hlt hsr hst hel hlk hK hP hi hS hl
  refine lv_ineg (x := Int32.ofInt x) hx hb hd ?_
  rw [← Int32.ofInt_neg]
  exact k p e s m args below meth c H locs ls hx hb hml hr hown hts hnw hlt hsr hst hel hlk hK hP hi hS hl
theorem jx_iand {x y : Int} (v : Int) (hd : decode cc pc = .ok (.iand, 1)) (hv : Int32.ofInt x &&& Int32.ofInt y = Int32.ofInt v) (k : jx_J l D cA ad sp K d own cc nL rt (pc + 1) L ((0, v) :: S) h Q) : jx_J l D cA ad sp K d own cc nL rt pc L ((0, y) :: (0, x) :: S) h Q := by
  intro p e s m args below meth c H locs ls hx hb hml hr hown hts hnw hlt hsr hst hel hlk hK hP hi hS hl
  refine lv_iand (x := Int32.ofInt x) (y := Int32.ofInt y) hx hb hd ?_
  rw [hv]
  exact k p e s m args below meth c H locs ls hx hb hml hr hown hts hnw hlt hsr hst hel hlk hK hP hi hS hl
theorem jx_ior {x y : Int} (v : Int) (hd : decode cc pc = .ok (.ior, 1)) (hv : Int32.ofInt x ||| Int32.ofInt y = Int32.ofInt v) (k : jx_J l D cA ad sp K d own cc nL rt (pc + 1) L ((0, v) :: S) h Q) : jx_J l D cA ad sp K d own cc nL rt pc L ((0, y) :: (0, x) :: S) h Q := by
  intro p e s m args below meth c H locs ls hx hb hml hr hown hts hnw hlt hsr hst hel hlk hK hP hi hS hl
  refine lv_ior (x := Int32.ofInt x) (y := Int32.ofInt y) hx hb hd ?_
  rw [hv]
  exact k p e s m args below meth c H locs ls hx hb hml hr hown hts hnw hlt hsr hst hel hlk hK hP hi hS hl
theorem jx_ixor {x y : Int} (v : Int) (hd : decode cc pc = .ok (.ixor, 1)) (hv : Int32.ofInt x ^^^ Int32.ofInt y = Int32.ofInt v) (k : jx_J l D cA ad sp K d own cc nL rt (pc + 1) L ((0, v) :: S) h Q) : jx_J l D cA ad sp K d own cc nL rt pc L ((0, y) :: (0, x) :: S) h Q := by
  intro p e s m args below meth c H locs ls hx hb hml hr hown hts hnw hlt hsr hst hel hlk hK hP hi hS hl
  refine lv_ixor (x := Int32.ofInt x) (y := Int32.ofInt y) hx hb hd ?_
  rw [hv]
  exact k p e s m args below meth c H locs ls hx hb hml hr hown hts hnw hlt hsr hst hel hlk hK hP hi hS hl
theorem jx_ishl {x y : Int} (v : Int) (hd : decode cc pc = .ok (.ishl, 1)) (hv : Int32.ofInt x <<< (Int32.ofInt y &&& 31) = Int32.ofInt v) (k : jx_J l D cA ad sp K d own cc nL rt (pc + 1) L ((0, v) :: S) h Q) : jx_J l D cA ad sp K d own cc nL rt pc L ((0, y) :: (0, x) :: S) h Q := by
  intro p e s m args below meth c H locs ls hx hb hml hr hown hts hnw hlt hsr hst hel hlk hK hP hi hS hl
  refine lv_ishl (x := Int32.ofInt x) (y := Int32.ofInt y) hx hb hd ?_
  rw [hv]
  exact k p e s m args below meth c H locs ls hx hb hml hr hown hts hnw hlt hsr hst hel hlk hK hP hi hS hl
theorem jx_ishr {x y : Int} (v : Int) (hd : decode cc pc = .ok (.ishr, 1)) (hv : Int32.ofInt x >>> (Int32.ofInt y &&& 31) = Int32.ofInt v) (k : jx_J l D cA ad sp K d own cc nL rt (pc + 1) L ((0, v) :: S) h Q) : jx_J l D cA ad sp K d own cc nL rt pc L ((0, y) :: (0, x) :: S) h Q := by
  intro p e s m args below meth c H locs ls hx hb hml hr hown hts hnw hlt hsr hst hel hlk hK hP hi hS hl
  refine lv_ishr (x := Int32.ofInt x) (y := Int32.ofInt y) hx hb hd ?_
  rw [hv]
  exact k p e s m args below meth c H locs ls hx hb hml hr hown hts hnw hlt hsr hst hel hlk hK hP hi hS hl
theorem jx_idiv {x y : Int} (v : Int) (hd : decode cc pc = .ok (.idiv, 1)) (hne : ¬ Int32.ofInt y = 0) (hv : Int32.ofInt x / Int32.ofInt y = Int32.ofInt v) (k : jx_J l D cA ad sp K d own cc nL rt (pc + 1) L ((0, v) :: S) h Q) : jx_J l D cA ad sp K d own cc nL rt pc L ((0, y) :: (0, x) :: S) h Q := by
  intro p e s m args below meth c H locs ls hx hb hml hr hown hts hnw hlt hsr hst hel hlk hK hP hi hS hl
  refine lv_idiv (x := Int32.ofInt x) (y := Int32.ofInt y) hx hb hd hne ?_
  rw [hv]
  exact k p e s m args below meth c H locs ls hx hb hml hr hown hts hnw hlt hsr hst hel hlk hK hP hi hS hl
theorem jx_irem {x y : Int} (v : Int) (hd : decode cc pc = .ok (.irem, 1)) (hne : ¬ Int32.ofInt y = 0) (hv : Int32.ofInt x - Int32.ofInt x / Int32.ofInt y * Int32.ofInt y = Int32.ofInt v) (k : jx_J l D cA ad sp K d own cc nL rt (pc + 1) L ((0, v) :: S) h Q) : jx_J l D cA ad sp K d own cc nL rt pc L ((0, y) :: (0, x) :: S) h Q := by
  intro p e s m args below meth c H locs ls hx hb hml hr hown hts hnw hlt hsr hst hel hlk hK hP hi hS hl
  refine lv_irem (x := Int32.ofInt x) (y := Int32.ofInt y) hx hb hd hne ?_
  rw [hv]
  exact k p e s m args below meth c H locs ls hx hb hml hr hown hts hnw hlt hsr hst hel hlk hK hP hi hS hl
theorem jx_lor {x y : Int} (v : Int) (hd : decode cc pc = .ok (.lor, 1)) (hv : Int64.ofInt x ||| Int64.ofInt y = Int64.ofInt v) (k : jx_J l D cA ad sp K d own cc nL rt (pc + 1) L ((1, v) :: S) h Q) : jx_J l D cA ad sp K d own cc nL rt pc L ((1, y) :: (1, x) :: S) h Q := by
  intro p e s m args below meth c H locs ls hx hb hml hr hown hts hnw hlt hsr hst hel hlk hK hP hi hS hl
  refine lv_lor (x := Int64.ofInt x) (y := Int64.ofInt y) hx hb hd ?_
  rw [hv]
  exact k p e s m args below meth c H locs ls hx hb hml hr hown hts hnw hlt hsr hst hel hlk hK hP hi hS hl
theorem jx_land {x y : Int} (v : Int) (hd : decode cc pc = .ok (.land, 1)) (hv : Int64.ofInt x &&& Int64.ofInt y = Int64.ofInt v) (k : jx_J l D cA ad sp K d own cc nL rt (pc + 1) L ((1, v) :: S) h Q) : jx_J l D cA ad sp K d own cc nL rt pc L ((1, y) :: (1, x) :: S) h Q := by
  intro p e s m args below meth c H locs ls hx hb hml hr hown hts hnw hlt hsr hst hel hlk hK hP hi hS hl
  refine lv_land (x := Int64.ofInt x) (y := Int64.ofInt y) hx hb hd ?_
  rw [hv]
  exact k p e s m args below meth c H locs ls hx hb hml hr hown hts hnw hlt hsr hst hel hlk hK hP hi hS hl
theorem jx_lxor {x y : Int} (v : Int) (hd : decode cc pc = .ok (.lxor, 1)) (hv : Int64.ofInt x ^^^ Int64.ofInt y = Int64.ofInt v) (k : jx_J l D cA ad sp K d own cc nL rt (pc + 1) L ((1, v) :: S) h Q) : jx_J l D cA ad sp K d own cc nL rt pc L ((1, y) :: (1, x) :: S) h Q := by
  intro p e s m args below meth c H locs ls hx hb hml hr hown hts hnw hlt hsr hst hel hlk hK hP hi hS hl
  refine lv_lxor (x := Int64.ofInt x) (y := Int64.ofInt y) hx hb hd ?_
  rw [hv]
  exact k p e s m args below meth c H locs ls hx hb hml hr hown hts hnw hlt hsr hst hel hlk hK hP hi hS hl
theorem jx_lushr {x y : Int} (v : Int) (hd : decode cc pc = .ok (.lushr, 1)) (hv : ((Int64.ofInt x).toUInt64 >>> ((Int32.ofInt y).toInt64.toUInt64 &&& Int64.toUInt64 63)).toInt64 = Int64.ofInt v) (k : jx_J l D cA ad sp K d own cc nL rt (pc + 1) L ((1, v) :: S) h Q) : jx_J l D cA ad sp K d own cc nL rt pc L ((0, y) :: (1, x) :: S) h Q := by
  intro p e s m args below meth c H locs ls hx hb hml hr hown hts hnw hlt hsr hst hel hlk hK hP hi hS hl
  exact lv_lushr (x := Int64.ofInt x) (y := Int32.ofInt y) hx hb hd hv (k p e s m args below meth c H locs ls hx hb hml hr hown hts hnw hlt hsr hst hel hlk hK hP hi hS hl)
theorem jx_lshl {x y : Int} (v : Int) (hd : decode cc pc = .ok (.lshl, 1)) (hv : Int64.ofInt x <<< ((Int32.ofInt y).toInt64 &&& 63) = Int64.ofInt v) (k : jx_J l D cA ad sp K d own cc nL rt (pc + 1) L ((1, v) :: S) h Q) : jx_J l D cA ad sp K d own cc nL rt pc L ((0, y) :: (1, x) :: S) h Q := by
  intro p e s m args below meth c H locs ls hx hb hml hr hown hts hnw hlt hsr hst hel hlk hK hP hi hS hl
  exact lv_lshl (x := Int64.ofInt x) (y := Int32.ofInt y) hx hb hd hv (k p e s m args below meth c H locs ls hx hb hml hr hown hts hnw hlt hsr hst hel hlk hK hP hi hS hl)
theorem jx_lshr {x y : Int} (v : Int) (hd : decode cc pc = .ok (.lshr, 1)) (hv : Int64.ofInt x >>> ((Int32.ofInt y).toInt64 &&& 63) = Int64.ofInt v) (k : jx_J l D cA ad sp K d own cc nL rt (pc + 1) L ((1, v) :: S) h Q) : jx_J l D cA ad sp K d own cc nL rt pc L ((0, y) :: (1, x) :: S) h Q := by
  intro p e s m args below meth c H locs ls hx hb hml hr hown hts hnw hlt hsr hst hel hlk hK hP hi hS hl
  exact lv_lshr (x := Int64.ofInt x) (y := Int32.ofInt y) hx hb hd hv (k p e s m args below meth c H locs ls hx hb hml hr hown hts hnw hlt hsr hst hel hlk hK hP hi hS hl)
theorem jx_i2l {x : Int} (v : Int) (hd : decode cc pc = .ok (.i2l, 1)) (hv : (Int32.ofInt x).toInt64 = Int64.ofInt v) (k : jx_J l D cA ad sp K d own cc nL rt (pc + 1) L ((1, v) :: S) h Q) : jx_J l D cA ad sp K d own cc nL rt pc L ((0, x) :: S) h Q := by
  intro p e s m args below meth c H locs ls hx hb hml hr hown hts hnw hlt hsr hst hel hlk hK hP hi hS hl
  exact lv_i2l hx hb hd hv (k p e s m args below meth c H locs ls hx hb hml hr hown hts hnw hlt hsr hst hel hlk hK hP hi hS hl)
theorem jx_l2i {x : Int} (v : Int) (hd : decode cc pc = .ok (.l2i, 1)) (hv : (Int64.ofInt x).toInt32 = Int32.ofInt v) (k : jx_J l D cA ad sp K d own cc nL rt (pc + 1) L ((0, v) :: S) h Q) : jx_J l D cA ad sp K d own cc nL rt pc L ((1, x) :: S) h Q := by
  intro p e s m args below meth c H locs ls hx hb hml hr hown hts hnw hlt hsr hst hel hlk hK hP hi hS hl
  exact lv_l2i hx hb hd hv (k p e s m args below meth c H locs ls hx hb hml hr hown hts hnw hlt hsr hst hel hlk hK hP hi hS hl)
theorem jx_i2b {x : Int} (v : Int) (hd : decode cc pc = .ok (.i2b, 1)) (hv : (Int32.ofInt x).toInt8.toInt32 = Int32.ofInt v) (k : jx_J l D cA ad sp K d own cc nL rt (pc + 1) L ((0, v) :: S) h Q) : jx_J l D cA ad sp K d own cc nL rt pc L ((0, x) :: S) h Q := by
  intro p e s m args below meth c H locs ls hx hb hml hr hown hts hnw hlt hsr hst hel hlk hK hP hi hS hl
  exact lv_i2b hx hb hd hv (k p e s m args below meth c H locs ls hx hb hml hr hown hts hnw hlt hsr hst hel hlk hK hP hi hS hl)
theorem jx_lcmp {x y : Int} (v : Int) (hd : decode cc pc = .ok (.lcmp, 1)) (hv : lg_cmp (Int64.ofInt x) (Int64.ofInt y) = Int32.ofInt v) (k : jx_J l D cA ad sp K d own cc nL rt (pc + 1) L ((0, v) :: S) h Q) : jx_J l D cA ad sp K d own cc nL rt pc L ((1, y) :: (1, x) :: S) h Q := by
  intro p e s m args below meth c H locs ls hx hb hml hr hown hts hnw hlt hsr hst hel hlk hK hP hi hS hl
  refine W.lcmp (x := Int64.ofInt x) (y := Int64.ofInt y) hx hb hd ?_
  rw [hv]
  exact k p e s m args below meth c H locs ls hx hb hml hr hown hts hnw hlt hsr hst hel hlk hK hP hi hS hl
theorem jx_pop {v : ja_V} (hd : decode cc pc = .ok (.pop, 1)) (hc : v.1 ≠ 1) (k : jx_J l D cA ad sp K d own cc nL rt (pc + 1) L S h Q) : jx_J l D cA ad sp K d own cc nL rt pc L (v :: S) h Q := by
  intro p e s m args below meth c H locs ls hx hb hml hr hown hts hnw hlt hsr hst hel hlk hK hP hi hS hl
  exact lv_pop hx hb hd (ja_cat1 ad v hc) (k p e s m args below meth c H locs ls hx hb hml hr hown hts hnw hlt hsr hst hel hlk hK hP hi hS hl)
theorem jx_pop2 {v : ja_V} (hd : decode cc pc = .ok (.pop2, 1)) (hc : v.1 = 1) (k : jx_J l D cA ad sp K d own cc nL rt (pc + 1) L S h Q) : jx_J l D cA ad sp K d own cc nL rt pc L (v :: S) h Q := by
  intro p e s m args below meth c H locs ls hx hb hml hr hown hts hnw hlt hsr hst hel hlk hK hP hi hS hl
  exact lv_pop2_2 hx hb hd (ja_cat2 ad v hc) (k p e s m args below meth c H locs ls hx hb hml hr hown hts hnw hlt hsr hst hel hlk hK hP hi hS hl)
theorem jx_dup {v : ja_V} (hd : decode cc pc = .ok (.dup, 1)) (hc : v.1 ≠ 1) (k : jx_J l D cA ad sp K d own cc nL rt (pc + 1) L (v :: v :: S) h Q) : jx_J l D cA ad sp K d own cc nL rt pc L (v :: S) h Q := by
  intro p e s m args below meth c H locs ls hx hb hml hr hown hts hnw hlt hsr hst hel hlk hK hP hi hS hl
  exact lv_dup hx hb hd (ja_cat1 ad v hc) (k p e s m args below meth c H locs ls hx hb hml hr hown hts hnw hlt hsr hst hel hlk hK hP hi hS hl)
theorem jx_dup2 {v w : ja_V} (hd : decode cc pc = .ok (.dup2, 1)) (hc : v.1 ≠ 1) (hc2 : w.1 ≠ 1) (k : jx_J l D cA ad sp K d own cc nL rt (pc + 1) L (v :: w :: v :: w :: S) h Q) : jx_J l D cA ad sp K d own cc nL rt pc L (v :: w :: S) h Q := by
  intro p e s m args below meth c H locs ls hx hb hml hr hown hts hnw hlt hsr hst hel hlk hK hP hi hS hl
  exact lv_dup2_11 hx hb hd (ja_cat1 ad v hc) (ja_cat1 ad w hc2) (k p e s m args below meth c H locs ls hx hb hml hr hown hts hnw hlt hsr hst hel hlk hK hP hi hS hl)
theorem jx_dup_x1 {v w : ja_V} (hd : decode cc pc = .ok (.dup_x1, 1)) (hc : v.1 ≠ 1) (hc2 : w.1 ≠ 1) (k : jx_J l D cA ad sp K d own cc nL rt (pc + 1) L (v :: w :: v :: S) h Q) : jx_J l D cA ad sp K d own cc nL rt pc L (v :: w :: S) h Q := by
  intro p e s m args below meth c H locs ls hx hb hml hr hown hts hnw hlt hsr hst hel hlk hK hP hi hS hl
  exact lv_dup_x1 hx hb hd (ja_cat1 ad v hc) (ja_cat1 ad w hc2) (k p e s m args below meth c H locs ls hx hb hml hr hown hts hnw hlt hsr hst hel hlk hK hP hi hS hl)
theorem jx_goto {off : Int} (tgt : Nat) (hd : decode cc pc = .ok (.goto off, 3)) (ht : (pc : Int) + off = (tgt : Int)) (k : jx_J l D cA ad sp K d own cc nL rt tgt L S h Q) : jx_J l D cA ad sp K d own cc nL rt pc L S h Q := by
  intro p e s m args below meth c H locs ls hx hb hml hr hown hts hnw hlt hsr hst hel hlk hK hP hi hS hl
  exact lv_goto hx hb hd ht (k p e s m args below meth c H locs ls hx hb hml hr hown hts hnw hlt hsr hst hel hlk hK hP hi hS hl)
theorem jx_if_eq {x : Int} {off : Int} (tgt : Nat) (hd : decode cc pc = .ok (.ifCond .eq off, 3)) (ht : (pc : Int) + off = (tgt : Int)) (hr1 : ja_r x) (kt : x = 0 → jx_J l D cA ad sp K d own cc nL rt tgt L S h Q) (kf : ¬ x = 0 → jx_J l D cA ad sp K d own cc nL rt (pc + 3) L S h Q) : jx_J l D cA ad sp K d own cc nL rt pc L ((0, x) :: S) h Q := by
  intro p e s m args below meth c H locs ls hx hb hml hr hown hts hnw hlt hsr hst hel hlk hK hP hi hS hl
  have e0 : (0 : Int32) = Int32.ofInt 0 := rfl
  have ee := ja_eq hr1 ja_r0
  rw [← e0] at ee
  exact lv_if_eq (x := Int32.ofInt x) hx hb hd ht (fun q => kt (ee.mp q) p e s m args below meth c H locs ls hx hb hml hr hown hts hnw hlt hsr hst hel hlk hK hP hi hS hl) (fun q => kf (fun z => q (ee.mpr z)) p e s m args below meth c H locs ls hx hb hml hr hown hts hnw hlt hsr hst hel hlk hK hP hi hS hl)
theorem jx_if_ne {x : Int} {off : Int} (tgt : Nat) (hd : decode cc pc = .ok (.ifCond .ne off, 3)) (ht : (pc : Int) + off = (tgt : Int)) (hr1 : ja_r x) (kt : ¬ x = 0 → jx_J l D cA ad sp K d own cc nL rt tgt L S h Q) (kf : x = 0 → jx_J l D cA ad sp K d own cc nL rt (pc + 3) L S h Q) : jx_J l D cA ad sp K d own cc nL rt pc L ((0, x) :: S) h Q := by
  intro p e s m args below meth c H locs ls hx hb hml hr hown hts hnw hlt hsr hst hel hlk hK hP hi hS hl
  have e0 : (0 : Int32) = Int32.ofInt 0 := rfl
  have ee := ja_eq hr1 ja_r0
  rw [← e0] at ee
  exact lv_if_ne (x := Int32.ofInt x) hx hb hd ht (fun q => kt (fun z => q (ee.mpr z)) p e s m args below meth c H locs ls hx hb hml hr hown hts hnw hlt hsr hst hel hlk hK hP hi hS hl) (fun q => kf (by first | exact ee.mp q | exact ee.mp (Decidable.not_not.mp q)) p e s m args below meth c H locs ls hx hb hml hr hown hts hnw hlt hsr hst hel hlk hK hP hi hS hl)
theorem jx_if_lt {x : Int} {off : Int} (tgt : Nat) (hd : decode cc pc = .ok (.ifCond .lt off, 3)) (ht : (pc : Int) + off = (tgt : Int)) (hr1 : ja_r x) (kt : x < 0 → jx_J l D cA ad sp K d own cc nL rt tgt L S h Q) (kf : ¬ x < 0 → jx_J l D cA ad sp K d own cc nL rt (pc + 3) L S h Q) : jx_J l D cA ad sp K d own cc nL rt pc L ((0, x) :: S) h Q := by
  intro p e s m args below meth c H locs ls hx hb hml hr hown hts hnw hlt hsr hst hel hlk hK hP hi hS hl
  have e0 : (0 : Int32) = Int32.ofInt 0 := rfl
  have ee := ja_lt hr1 ja_r0
  rw [← e0] at ee
  exact lv_if_lt (x := Int32.ofInt x) hx hb hd ht (fun q => kt (ee.mp q) p e s m args below meth c H locs ls hx hb hml hr hown hts hnw hlt hsr hst hel hlk hK hP hi hS hl) (fun q => kf (fun z => q (ee.mpr z)) p e s m args below meth c H locs ls hx hb hml hr hown hts hnw hlt hsr hst hel hlk hK hP hi hS hl)
theorem jx_if_ge {x : Int} {off : Int} (tgt : Nat) (hd : decode cc pc = .ok (.ifCond .ge off, 3)) (ht : (pc : Int) + off = (tgt : Int)) (hr1 : ja_r x) (kt : 0 ≤ x → jx_J l D cA ad sp K d own cc nL rt tgt L S h Q) (kf : ¬ 0 ≤ x → jx_J l D cA ad sp K d own cc nL rt (pc + 3) L S h Q) : jx_J l D cA ad sp K d own cc nL rt pc L ((0, x) :: S) h Q := by
  intro p e s m args below meth c H locs ls hx hb hml hr hown hts hnw hlt hsr hst hel hlk hK hP hi hS hl
  have e0 : (0 : Int32) = Int32.ofInt 0 := rfl
  have ee := ja_le ja_r0 hr1
  rw [← e0] at ee
  exact lv_if_ge (x := Int32.ofInt x) hx hb hd ht (fun q => kt (ee.mp q) p e s m args below meth c H locs ls hx hb hml hr hown hts hnw hlt hsr hst hel hlk hK hP hi hS hl) (fun q => kf (fun z => q (ee.mpr z)) p e s m args below meth c H locs ls hx hb hml hr hown hts hnw hlt hsr hst hel hlk hK hP hi hS hl)
theorem jx_if_gt {x : Int} {off : Int} (tgt : Nat) (hd : decode cc pc = .ok (.ifCond .gt off, 3)) (ht : (pc : Int) + off = (tgt : Int)) (hr1 : ja_r x) (kt : 0 < x → jx_J l D cA ad sp K d own cc nL rt tgt L S h Q) (kf : ¬ 0 < x → jx_J l D cA ad sp K d own cc nL rt (pc + 3) L S h Q) : jx_J l D cA ad sp K d own cc nL rt pc L ((0, x) :: S) h Q := by
  intro p e s m args below meth c H locs ls hx hb hml hr hown hts hnw hlt hsr hst hel hlk hK hP hi hS hl
  have e0 : (0 : Int32) = Int32.ofInt 0 := rfl
  have ee := ja_lt ja_r0 hr1
  rw [← e0] at ee
  exact lv_if_gt (x := Int32.ofInt x) hx hb hd ht (fun q => kt (ee.mp q) p e s m args below meth c H locs ls hx hb hml hr hown hts hnw hlt hsr hst hel hlk hK hP hi hS hl) (fun q => kf (fun z => q (ee.mpr z)) p e s m args below meth c H locs ls hx hb hml hr hown hts hnw hlt hsr hst hel hlk hK hP hi hS hl)
theorem jx_if_le {x : Int} {off : Int} (tgt : Nat) (hd : decode cc pc = .ok (.ifCond .le off, 3)) (ht : (pc : Int) + off = (tgt : Int)) (hr1 : ja_r x) (kt : x ≤ 0 → jx_J l D cA ad sp K d own cc nL rt tgt L S h Q) (kf : ¬ x ≤ 0 → jx_J l D cA ad sp K d own cc nL rt (pc + 3) L S h Q) : jx_J l D cA ad sp K d own cc nL rt pc L ((0, x) :: S) h Q := by
  intro p e s m args below meth c H locs ls hx hb hml hr hown hts hnw hlt hsr hst hel hlk hK hP hi hS hl
  have e0 : (0 : Int32) = Int32.ofInt 0 := rfl
  have ee := ja_le hr1 ja_r0
  rw [← e0] at ee
  exact lv_if_le (x := Int32.ofInt x) hx hb hd ht (fun q => kt (ee.mp q) p e s m args below meth c H locs ls hx hb hml hr hown hts hnw hlt hsr hst hel hlk hK hP hi hS hl) (fun q => kf (fun z => q (ee.mpr z)) p e s m args below meth c H locs ls hx hb hml hr hown hts hnw hlt hsr hst hel hlk hK hP hi hS hl)
theorem jx_icmp_eq {x y : Int} {off : Int} (tgt : Nat) (hd : decode cc pc = .ok (.if_icmp .eq off, 3)) (ht : (pc : Int) + off = (tgt : Int)) (hr1 : ja_r x) (hr2 : ja_r y) (kt : x = y → jx_J l D cA ad sp K d own cc nL rt tgt L S h Q) (kf : ¬ x = y → jx_J l D cA ad sp K d own cc nL rt (pc + 3) L S h Q) : jx_J l D cA ad sp K d own cc nL rt pc L ((0, y) :: (0, x) :: S) h Q := by
  intro p e s m args below meth c H locs ls hx hb hml hr hown hts hnw hlt hsr hst hel hlk hK hP hi hS hl
  have ee := ja_eq hr1 hr2
  exact lv_icmp_eq (x := Int32.ofInt x) (y := Int32.ofInt y) hx hb hd ht (fun q => kt (ee.mp q) p e s m args below meth c H locs ls hx hb hml hr hown hts hnw hlt hsr hst hel hlk hK hP hi hS hl) (fun q => kf (fun z => q (ee.mpr z)) p e s m args below meth c H locs ls hx hb hml hr hown hts hnw hlt hsr hst hel hlk hK hP hi hS hl)
theorem jx_icmp_ne {x y : Int} {off : Int} (tgt : Nat) (hd : decode cc pc = .ok (.if_icmp .ne off, 3)) (ht : (pc : Int) + off = (tgt : Int)) (hr1 : ja_r x) (hr2 : ja_r y) (kt : ¬ x = y → jx_J l D cA ad sp K d own cc nL rt tgt L S h Q) (kf : x = y → jx_J l D cA ad sp K d own cc nL rt (pc + 3) L S h Q) : jx_J l D cA ad sp K d own cc nL rt pc L ((0, y) :: (0, x) :: S) h Q := by
  intro p e s m args below meth c H locs ls hx hb hml hr hown hts hnw hlt hsr hst hel hlk hK hP hi hS hl
  have ee := ja_eq hr1 hr2
  exact lv_icmp_ne (x := Int32.ofInt x) (y := Int32.ofInt y) hx hb hd ht (fun q => kt (fun z => q (ee.mpr z)) p e s m args below meth c H locs ls hx hb hml hr hown hts hnw hlt hsr hst hel hlk hK hP hi hS hl) (fun q => kf (by first | exact ee.mp q | exact ee.mp (Decidable.not_not.mp q)) p e s m args below meth c H locs ls hx hb hml hr hown hts hnw hlt hsr hst hel hlk hK hP hi hS hl)
theorem jx_icmp_lt {x y : Int} {off : Int} (tgt : Nat) (hd : decode cc pc = .ok (.if_icmp .lt off, 3)) (ht : (pc : Int) + off = (tgt : Int)) (hr1 : ja_r x) (hr2 : ja_r y) (kt : x < y → jx_J l D cA ad sp K d own cc nL rt tgt L S h Q) (kf : ¬ x < y → jx_J l D cA ad sp K d own cc nL rt (pc + 3) L S h Q) : jx_J l D cA ad sp K d own cc nL rt pc L ((0, y) :: (0, x) :: S) h Q := by
  intro p e s m args below meth c H locs ls hx hb hml hr hown hts hnw hlt hsr hst hel hlk hK hP hi hS hl
  have ee := ja_lt hr1 hr2
  exact lv_icmp_lt (x := Int32.ofInt x) (y := Int32.ofInt y) hx hb hd ht (fun q => kt (ee.mp q) p e s m args below meth c H locs ls hx hb hml hr hown hts hnw hlt hsr hst hel hlk hK hP hi hS hl) (fun q => kf (fun z => q (ee.mpr z)) p e s m args below meth c H locs ls hx hb hml hr hown hts hnw hlt hsr hst hel hlk hK hP hi hS hl)
theorem jx_icmp_ge {x y : Int} {off : Int} (tgt : Nat) (hd : decode cc pc = .ok (.if_icmp .ge off, 3)) (ht : (pc : Int) + off = (tgt : Int)) (hr1 : ja_r x) (hr2 : ja_r y) (kt : y ≤ x → jx_J l D cA ad sp K d own cc nL rt tgt L S h Q) (kf : ¬ y ≤ x → jx_J l D cA ad sp K d own cc nL rt (pc + 3) L S h Q) : jx_J l D cA ad sp K d own cc nL rt pc L ((0, y) :: (0, x) :: S) h Q := by
  intro p e s m args below meth c H locs ls hx hb hml hr hown hts hnw hlt hsr hst hel hlk hK hP hi hS hl
  have ee := ja_le hr2 hr1
  exact lv_icmp_ge (x := Int32.ofInt x) (y := Int32.ofInt y) hx hb hd ht (fun q => kt (ee.mp q) p e s m args below meth c H locs ls hx hb hml hr hown hts hnw hlt hsr hst hel hlk hK hP hi hS hl) (fun q => kf (fun z => q (ee.mpr z)) p e s m args below meth c H locs ls hx hb hml hr hown hts hnw hlt hsr hst hel hlk hK hP hi hS hl)
theorem jx_icmp_gt {x y : Int} {off : Int} (tgt : Nat) (hd : decode cc pc = .ok (.if_icmp .gt off, 3)) (ht : (pc : Int) + off = (tgt : Int)) (hr1 : ja_r x) (hr2 : ja_r y) (kt : y < x → jx_J l D cA ad sp K d own cc nL rt tgt L S h Q) (kf : ¬ y < x → jx_J l D cA ad sp K d own cc nL rt (pc + 3) L S h Q) : jx_J l D cA ad sp K d own cc nL rt pc L ((0, y) :: (0, x) :: S) h Q := by
  intro p e s m args below meth c H locs ls hx hb hml hr hown hts hnw hlt hsr hst hel hlk hK hP hi hS hl
  have ee := ja_lt hr2 hr1
  exact lv_icmp_gt (x := Int32.ofInt x) (y := Int32.ofInt y) hx hb hd ht (fun q => kt (ee.mp q) p e s m args below meth c H locs ls hx hb hml hr hown hts hnw hlt hsr hst hel hlk hK hP hi hS hl) (fun q => kf (fun z => q (ee.mpr z)) p e s m args below meth c H locs ls hx hb hml hr hown hts hnw hlt hsr hst hel hlk hK hP hi hS hl)
theorem jx_icmp_le {x y : Int} {off : Int} (tgt : Nat) (hd : decode cc pc = .ok (.if_icmp .le off, 3)) (ht : (pc : Int) + off = (tgt : Int)) (hr1 : ja_r x) (hr2 : ja_r y) (kt : x ≤ y → jx_J l D cA ad sp K d own cc nL rt tgt L S h Q) (kf : ¬ x ≤ y → jx_J l D cA ad sp K d own cc nL rt (pc + 3) L S h Q) : jx_J l D cA ad sp K d own cc nL rt pc L ((0, y) :: (0, x) :: S) h Q := by
  intro p e s m args below meth c H locs ls hx hb hml hr hown hts hnw hlt hsr hst hel hlk hK hP hi hS hl
  have ee := ja_le hr1 hr2
  exact lv_icmp_le (x := Int32.ofInt x) (y := Int32.ofInt y) hx hb hd ht (fun q => kt (ee.mp q) p e s m args below meth c H locs ls hx hb hml hr hown hts hnw hlt hsr hst hel hlk hK hP hi hS hl) (fun q => kf (fun z => q (ee.mpr z)) p e s m args below meth c H locs ls hx hb hml hr hown hts hnw hlt hsr hst hel hlk hK hP hi hS hl)
theorem jx_tableOut {dflt lo hi : Int} {offs : Array Int} {len : Nat} {x : Int} (tgt : Nat) (hd : decode cc pc = .ok (.tableswitch dflt lo hi offs, len)) (hr1 : ja_r x) (ho : x < lo ∨ hi < x) (ht : (pc : Int) + dflt = (tgt : Int)) (k : jx_J l D cA ad sp K d own cc nL rt tgt L S h Q) : jx_J l D cA ad sp K d own cc nL rt pc L ((0, x) :: S) h Q := by
  intro p e s m args below meth c H locs ls hx hb hml hr hown hts hnw hlt hsr hst hel hlk hK hP hi hS hl
  exact lv_tableOut (x := Int32.ofInt x) hx hb hd (by rw [ja_in hr1.1 hr1.2]; exact ho) ht (k p e s m args below meth c H locs ls hx hb hml hr hown hts hnw hlt hsr hst hel hlk hK hP hi hS hl)
theorem jx_tableIn {dflt lo hi : Int} {offs : Array Int} {len : Nat} {x off : Int} (tgt : Nat) (hd : decode cc pc = .ok (.tableswitch dflt lo hi offs, len)) (hr1 : ja_r x) (h1 : lo ≤ x) (h2 : x ≤ hi) (ho : offs[(x - lo).toNat]? = some off) (ht : (pc : Int) + off = (tgt : Int)) (k : jx_J l D cA ad sp K d own cc nL rt tgt L S h Q) : jx_J l D cA ad sp K d own cc nL rt pc L ((0, x) :: S) h Q := by
  intro p e s m args below meth c H locs ls hx hb hml hr hown hts hnw hlt hsr hst hel hlk hK hP hi hS hl
  exact lv_tableIn (x := Int32.ofInt x) hx hb hd (by rw [ja_in hr1.1 hr1.2]; omega) (by rw [ja_in hr1.1 hr1.2]; omega) (by rw [ja_in hr1.1 hr1.2]; exact ho) ht (k p e s m args below meth c H locs ls hx hb hml hr hown hts hnw hlt hsr hst hel hlk hK hP hi hS hl)
theorem jx_lookup {dflt : Int} {ps : Array (Int × Int)} {len : Nat} {x : Int} (off : Int) (tgt : Nat) (hd : decode cc pc = .ok (.lookupswitch dflt ps, len)) (hp : (ps.toList.zip (ps.toList.drop 1)).all (fun (a, next) => a.1 < next.1) = true) (hr1 : ja_r x) (ho : Op.lookupswitch.offset ps.toList dflt x = off) (ht : (pc : Int) + off = (tgt : Int)) (k : jx_J l D cA ad sp K d own cc nL rt tgt L S h Q) : jx_J l D cA ad sp K d own cc nL rt pc L ((0, x) :: S) h Q := by
  intro p e s m args below meth c H locs ls hx hb hml hr hown hts hnw hlt hsr hst hel hlk hK hP hi hS hl
  exact lv_lookup (x := Int32.ofInt x) hx hb hd hp (by rw [ja_in hr1.1 hr1.2]; exact ho) ht (k p e s m args below meth c H locs ls hx hb hml hr hown hts hnw hlt hsr hst hel hlk hK hP hi hS hl)
end XR
section XH
variable {l : Launch} {D : va_G} {cA : Nat → ClassId} {ad : Nat → Nat} {sp : ja_S} {K d : Nat} {own : String} {cc : ByteArray} {nL : Nat} {rt : Option FieldType} {pc : Nat} {L : List (Nat × ja_V)} {S : List ja_V} {h : ja_H} {Q : Option ja_V → ja_H → Prop}
theorem jx_get {index ci j q N : Nat} {C : String} {T : u_T} (hq : q < K) (hsp : (sp q).1 = (ci, N)) (hci : ci < 100) (hcl : ja_cl[ci]? = some (C, T, N)) (hj : j < N) (hin : ∀ w ∈ u_ws C T N, w ∈ ja_B) (hw : Cond.fieldLink own index (T j).1 (T j).2.1 (T j).2.2.1 ∈ ja_B) (hd : decode cc pc = .ok (.getfield index, 3)) (k : jx_J l D cA ad sp K d own cc nL rt (pc + 3) L (ja_fx sp h q j :: S) h Q) : jx_J l D cA ad sp K d own cc nL rt pc L ((2, (q : Int)) :: S) h Q := by
  intro p e s m args below meth c H locs ls hx hb hml hr hown hts hnw hlt hsr hst hel hlk hK hP hi hS hl
  have he : (ja_w cA ad sp K h)[q]? = some (ad q, .inr (ci, (List.range N).map (ja_fv ad sp h q))) := by rw [ja_w_get hq, ja_e_obj hsp hci]
  exact va_get (Ts := ja_B) (D := D) hx hb hts hin hown hK hP q he hcl j hj (hts _ hw) (fun _ z => z) (v := ja_c ad (ja_fx sp h q j)) (by simp [hj, ja_fv]) hd (k p e s m args below meth c H locs ls hx hb hml hr hown hts hnw hlt hsr hst hel hlk hK hP hi hS hl)
theorem jx_getN {index ci j q N : Nat} {C : String} {T : u_T} (hq : q < K) (hsp : (sp q).1 = (ci, N)) (hci : ci < 100) (hcl : ja_cl[ci]? = some (C, T, N)) (hj : j < N) (hin : ∀ w ∈ u_ws C T N, w ∈ ja_B) {host : String} (hw : Cond.fieldLinkNest own index (T j).1 (T j).2.1 (T j).2.2.1 host ∈ lw_tbl) (hd : decode cc pc = .ok (.getfield index, 3)) (k : jx_J l D cA ad sp K d own cc nL rt (pc + 3) L (ja_fx sp h q j :: S) h Q) : jx_J l D cA ad sp K d own cc nL rt pc L ((2, (q : Int)) :: S) h Q := by
  intro p e s m args below meth c H locs ls hx hb hml hr hown hts hnw hlt hsr hst hel hlk hK hP hi hS hl
  have he : (ja_w cA ad sp K h)[q]? = some (ad q, .inr (ci, (List.range N).map (ja_fv ad sp h q))) := by rw [ja_w_get hq, ja_e_obj hsp hci]
  exact va_getN (Ts := ja_B) (D := D) hx hb hts hin hown hK hP q he hcl j hj (va_Nw.use rfl (hnw _ hw rfl)) (fun _ z => z) (v := ja_c ad (ja_fx sp h q j)) (by simp [hj, ja_fv]) hd (k p e s m args below meth c H locs ls hx hb hml hr hown hts hnw hlt hsr hst hel hlk hK hP hi hS hl)
theorem jx_putI {x : Int} {index ci j q N : Nat} {C : String} {T : u_T} (hq : q < K) (hsp : (sp q).1 = (ci, N)) (hci : ci < 100) (hcl : ja_cl[ci]? = some (C, T, N)) (hj : j < N) (hin : ∀ w ∈ u_ws C T N, w ∈ ja_B) (ty : Nat → FieldType) (hty : ∀ k, k < N → parseFieldDescriptor (T k).2.2.1 = some (ty k)) (hnm : ∀ a, a < N → ∀ b, b < N → a ≠ b → (T a).2.1 ≠ (T b).2.1) (hfin : (T j).2.2.2 = false) (hft : (sp q).2 j = 0) (htj : ty j = .int) (hw : Cond.fieldLink own index (T j).1 (T j).2.1 (T j).2.2.1 ∈ ja_B) (hd : decode cc pc = .ok (.putfield index, 3)) (k : jx_J l D cA ad sp K d own cc nL rt (pc + 3) L S (ja_up h q j x) Q) : jx_J l D cA ad sp K d own cc nL rt pc L ((0, x) :: (2, (q : Int)) :: S) h Q := by
  intro p e s m args below meth c H locs ls hx hb hml hr hown hts hnw hlt hsr hst hel hlk hK hP hi hS hl
  have he : (ja_w cA ad sp K h)[q]? = some (ad q, .inr (ci, (List.range N).map (ja_fv ad sp h q))) := by rw [ja_w_get hq, ja_e_obj hsp hci]
  have hD := ja_D (cA := cA) (sp := sp) (h := h) hi
  refine va_put (Ts := ja_B) (D := D) (v := .int (Int32.ofInt x)) (ty := .int) hx hb hts hin ty hty hnm hown hK hP hD hS q he hcl j hj (hts _ hw) (fun _ z => z) hfin (by rw [hty j hj, htj]) rfl rfl (by simpa using hj) hd (fun H1 locs1 hP1 hD1 hS1 => ?_)
  rw [ja_fs_set (x := x) (by simp [ja_fv, ja_fx, hft, ja_up, ja_c])] at hP1
  rw [ja_w_set hq (ja_e_obj hsp hci).symm] at hP1
  exact k p e s m args below meth c H1 locs1 ls hx hb hml hr hown hts hnw hlt hsr hst hel hlk hK hP1 hi hS1 hl
theorem jx_putZ {x : Int} {index ci j q N : Nat} {C : String} {T : u_T} (hq : q < K) (hsp : (sp q).1 = (ci, N)) (hci : ci < 100) (hcl : ja_cl[ci]? = some (C, T, N)) (hj : j < N) (hin : ∀ w ∈ u_ws C T N, w ∈ ja_B) (ty : Nat → FieldType) (hty : ∀ k, k < N → parseFieldDescriptor (T k).2.2.1 = some (ty k)) (hnm : ∀ a, a < N → ∀ b, b < N → a ≠ b → (T a).2.1 ≠ (T b).2.1) (hfin : (T j).2.2.2 = false) (hft : (sp q).2 j = 0) (htj : ty j = .boolean) (h01 : x = 0 ∨ x = 1) (hw : Cond.fieldLink own index (T j).1 (T j).2.1 (T j).2.2.1 ∈ ja_B) (hd : decode cc pc = .ok (.putfield index, 3)) (k : jx_J l D cA ad sp K d own cc nL rt (pc + 3) L S (ja_up h q j x) Q) : jx_J l D cA ad sp K d own cc nL rt pc L ((0, x) :: (2, (q : Int)) :: S) h Q := by
  intro p e s m args below meth c H locs ls hx hb hml hr hown hts hnw hlt hsr hst hel hlk hK hP hi hS hl
  have he : (ja_w cA ad sp K h)[q]? = some (ad q, .inr (ci, (List.range N).map (ja_fv ad sp h q))) := by rw [ja_w_get hq, ja_e_obj hsp hci]
  have hD := ja_D (cA := cA) (sp := sp) (h := h) hi
  refine va_put (Ts := ja_B) (D := D) (v := .int (Int32.ofInt x)) (ty := .boolean) hx hb hts hin ty hty hnm hown hK hP hD hS q he hcl j hj (hts _ hw) (fun _ z => z) hfin (by rw [hty j hj, htj]) (by rcases h01 with rfl | rfl <;> rfl) (by rcases h01 with rfl | rfl <;> rfl) (by simpa using hj) hd (fun H1 locs1 hP1 hD1 hS1 => ?_)
  rw [ja_fs_set (x := x) (by simp [ja_fv, ja_fx, hft, ja_up, ja_c])] at hP1
  rw [ja_w_set hq (ja_e_obj hsp hci).symm] at hP1
  exact k p e s m args below meth c H1 locs1 ls hx hb hml hr hown hts hnw hlt hsr hst hel hlk hK hP1 hi hS1 hl
theorem jx_putJ {x : Int} {index ci j q N : Nat} {C : String} {T : u_T} (hq : q < K) (hsp : (sp q).1 = (ci, N)) (hci : ci < 100) (hcl : ja_cl[ci]? = some (C, T, N)) (hj : j < N) (hin : ∀ w ∈ u_ws C T N, w ∈ ja_B) (ty : Nat → FieldType) (hty : ∀ k, k < N → parseFieldDescriptor (T k).2.2.1 = some (ty k)) (hnm : ∀ a, a < N → ∀ b, b < N → a ≠ b → (T a).2.1 ≠ (T b).2.1) (hfin : (T j).2.2.2 = false) (hft : (sp q).2 j = 1) (htj : ty j = .long) (hw : Cond.fieldLink own index (T j).1 (T j).2.1 (T j).2.2.1 ∈ ja_B) (hd : decode cc pc = .ok (.putfield index, 3)) (k : jx_J l D cA ad sp K d own cc nL rt (pc + 3) L S (ja_up h q j x) Q) : jx_J l D cA ad sp K d own cc nL rt pc L ((1, x) :: (2, (q : Int)) :: S) h Q := by
  intro p e s m args below meth c H locs ls hx hb hml hr hown hts hnw hlt hsr hst hel hlk hK hP hi hS hl
  have he : (ja_w cA ad sp K h)[q]? = some (ad q, .inr (ci, (List.range N).map (ja_fv ad sp h q))) := by rw [ja_w_get hq, ja_e_obj hsp hci]
  have hD := ja_D (cA := cA) (sp := sp) (h := h) hi
  refine va_put (Ts := ja_B) (D := D) (v := .long (Int64.ofInt x)) (ty := .long) hx hb hts hin ty hty hnm hown hK hP hD hS q he hcl j hj (hts _ hw) (fun _ z => z) hfin (by rw [hty j hj, htj]) rfl rfl (by simpa using hj) hd (fun H1 locs1 hP1 hD1 hS1 => ?_)
  rw [ja_fs_set (x := x) (by simp [ja_fv, ja_fx, hft, ja_up, ja_c])] at hP1
  rw [ja_w_set hq (ja_e_obj hsp hci).symm] at hP1
  exact k p e s m args below meth c H1 locs1 ls hx hb hml hr hown hts hnw hlt hsr hst hel hlk hK hP1 hi hS1 hl
theorem jx_putNI {x : Int} {index ci j q N : Nat} {C : String} {T : u_T} (hq : q < K) (hsp : (sp q).1 = (ci, N)) (hci : ci < 100) (hcl : ja_cl[ci]? = some (C, T, N)) (hj : j < N) (hin : ∀ w ∈ u_ws C T N, w ∈ ja_B) (ty : Nat → FieldType) (hty : ∀ k, k < N → parseFieldDescriptor (T k).2.2.1 = some (ty k)) (hnm : ∀ a, a < N → ∀ b, b < N → a ≠ b → (T a).2.1 ≠ (T b).2.1) (hfin : (T j).2.2.2 = false) (hft : (sp q).2 j = 0) (htj : ty j = .int) {host : String} (hw : Cond.fieldLinkNest own index (T j).1 (T j).2.1 (T j).2.2.1 host ∈ lw_tbl) (hd : decode cc pc = .ok (.putfield index, 3)) (k : jx_J l D cA ad sp K d own cc nL rt (pc + 3) L S (ja_up h q j x) Q) : jx_J l D cA ad sp K d own cc nL rt pc L ((0, x) :: (2, (q : Int)) :: S) h Q := by
  intro p e s m args below meth c H locs ls hx hb hml hr hown hts hnw hlt hsr hst hel hlk hK hP hi hS hl
  have he : (ja_w cA ad sp K h)[q]? = some (ad q, .inr (ci, (List.range N).map (ja_fv ad sp h q))) := by rw [ja_w_get hq, ja_e_obj hsp hci]
  have hD := ja_D (cA := cA) (sp := sp) (h := h) hi
  refine va_putN (Ts := ja_B) (D := D) (v := .int (Int32.ofInt x)) (ty := .int) hx hb hts hin ty hty hnm hown hK hP hD hS q he hcl j hj (va_Nw.use rfl (hnw _ hw rfl)) (fun _ z => z) hfin (by rw [hty j hj, htj]) rfl rfl (by simpa using hj) hd (fun H1 locs1 hP1 hD1 hS1 => ?_)
  rw [ja_fs_set (x := x) (by simp [ja_fv, ja_fx, hft, ja_up, ja_c])] at hP1
  rw [ja_w_set hq (ja_e_obj hsp hci).symm] at hP1
  exact k p e s m args below meth c H1 locs1 ls hx hb hml hr hown hts hnw hlt hsr hst hel hlk hK hP1 hi hS1 hl
theorem jx_putNZ {x : Int} {index ci j q N : Nat} {C : String} {T : u_T} (hq : q < K) (hsp : (sp q).1 = (ci, N)) (hci : ci < 100) (hcl : ja_cl[ci]? = some (C, T, N)) (hj : j < N) (hin : ∀ w ∈ u_ws C T N, w ∈ ja_B) (ty : Nat → FieldType) (hty : ∀ k, k < N → parseFieldDescriptor (T k).2.2.1 = some (ty k)) (hnm : ∀ a, a < N → ∀ b, b < N → a ≠ b → (T a).2.1 ≠ (T b).2.1) (hfin : (T j).2.2.2 = false) (hft : (sp q).2 j = 0) (htj : ty j = .boolean) (h01 : x = 0 ∨ x = 1) {host : String} (hw : Cond.fieldLinkNest own index (T j).1 (T j).2.1 (T j).2.2.1 host ∈ lw_tbl) (hd : decode cc pc = .ok (.putfield index, 3)) (k : jx_J l D cA ad sp K d own cc nL rt (pc + 3) L S (ja_up h q j x) Q) : jx_J l D cA ad sp K d own cc nL rt pc L ((0, x) :: (2, (q : Int)) :: S) h Q := by
  intro p e s m args below meth c H locs ls hx hb hml hr hown hts hnw hlt hsr hst hel hlk hK hP hi hS hl
  have he : (ja_w cA ad sp K h)[q]? = some (ad q, .inr (ci, (List.range N).map (ja_fv ad sp h q))) := by rw [ja_w_get hq, ja_e_obj hsp hci]
  have hD := ja_D (cA := cA) (sp := sp) (h := h) hi
  refine va_putN (Ts := ja_B) (D := D) (v := .int (Int32.ofInt x)) (ty := .boolean) hx hb hts hin ty hty hnm hown hK hP hD hS q he hcl j hj (va_Nw.use rfl (hnw _ hw rfl)) (fun _ z => z) hfin (by rw [hty j hj, htj]) (by rcases h01 with rfl | rfl <;> rfl) (by rcases h01 with rfl | rfl <;> rfl) (by simpa using hj) hd (fun H1 locs1 hP1 hD1 hS1 => ?_)
  rw [ja_fs_set (x := x) (by simp [ja_fv, ja_fx, hft, ja_up, ja_c])] at hP1
  rw [ja_w_set hq (ja_e_obj hsp hci).symm] at hP1
  exact k p e s m args below meth c H1 locs1 ls hx hb hml hr hown hts hnw hlt hsr hst hel hlk hK hP1 hi hS1 hl
theorem jx_putNJ {x : Int} {index ci j q N : Nat} {C : String} {T : u_T} (hq : q < K) (hsp : (sp q).1 = (ci, N)) (hci : ci < 100) (hcl : ja_cl[ci]? = some (C, T, N)) (hj : j < N) (hin : ∀ w ∈ u_ws C T N, w ∈ ja_B) (ty : Nat → FieldType) (hty : ∀ k, k < N → parseFieldDescriptor (T k).2.2.1 = some (ty k)) (hnm : ∀ a, a < N → ∀ b, b < N → a ≠ b → (T a).2.1 ≠ (T b).2.1) (hfin : (T j).2.2.2 = false) (hft : (sp q).2 j = 1) (htj : ty j = .long) {host : String} (hw : Cond.fieldLinkNest own index (T j).1 (T j).2.1 (T j).2.2.1 host ∈ lw_tbl) (hd : decode cc pc = .ok (.putfield index, 3)) (k : jx_J l D cA ad sp K d own cc nL rt (pc + 3) L S (ja_up h q j x) Q) : jx_J l D cA ad sp K d own cc nL rt pc L ((1, x) :: (2, (q : Int)) :: S) h Q := by
  intro p e s m args below meth c H locs ls hx hb hml hr hown hts hnw hlt hsr hst hel hlk hK hP hi hS hl
  have he : (ja_w cA ad sp K h)[q]? = some (ad q, .inr (ci, (List.range N).map (ja_fv ad sp h q))) := by rw [ja_w_get hq, ja_e_obj hsp hci]
  have hD := ja_D (cA := cA) (sp := sp) (h := h) hi
  refine va_putN (Ts := ja_B) (D := D) (v := .long (Int64.ofInt x)) (ty := .long) hx hb hts hin ty hty hnm hown hK hP hD hS q he hcl j hj (va_Nw.use rfl (hnw _ hw rfl)) (fun _ z => z) hfin (by rw [hty j hj, htj]) rfl rfl (by simpa using hj) hd (fun H1 locs1 hP1 hD1 hS1 => ?_)
  rw [ja_fs_set (x := x) (by simp [ja_fv, ja_fx, hft, ja_up, ja_c])] at hP1
  rw [ja_w_set hq (ja_e_obj hsp hci).symm] at hP1
  exact k p e s m args below meth c H1 locs1 ls hx hb hml hr hown hts hnw hlt hsr hst hel hlk hK hP1 hi hS1 hl
theorem jx_iald {q n : Nat} {i : Int} (hq : q < K) (hsp : (sp q).1 = (100, n)) (hn : n < 2147483648) (h0 : 0 ≤ i) (h1 : i < n) (hd : decode cc pc = .ok (.iaload, 1)) (k : jx_J l D cA ad sp K d own cc nL rt (pc + 1) L ((0, h q i.toNat) :: S) h Q) : jx_J l D cA ad sp K d own cc nL rt pc L ((0, i) :: (2, (q : Int)) :: S) h Q := by
  intro p e s m args below meth c H locs ls hx hb hml hr hown hts hnw hlt hsr hst hel hlk hK hP hi hS hl
  obtain ⟨hin, hix⟩ := ja_ix h0 h1 hn
  have he : (ja_w cA ad sp K h)[q]? = some (ad q, ja_e cA ad sp h q) := ja_w_get hq
  rw [ja_e_I hsp] at he
  refine va_iald (D := D) hx hb hK hP q 0 he rfl hin hd ?_
  show W p l e (jx_R d) s m args below meth c H locs 0 0 _ (F0 m (pc + 1) ls (.int (Int32.ofInt (h q (Int32.ofInt i).toNatClampNeg)) :: S.map (ja_c ad)))
  rw [hix]
  exact k p e s m args below meth c H locs ls hx hb hml hr hown hts hnw hlt hsr hst hel hlk hK hP hi hS hl
theorem jx_bald {q n : Nat} {i : Int} (hq : q < K) (hsp : (sp q).1 = (101, n)) (hn : n < 2147483648) (h0 : 0 ≤ i) (h1 : i < n) (hd : decode cc pc = .ok (.baload, 1)) (k : jx_J l D cA ad sp K d own cc nL rt (pc + 1) L ((0, h q i.toNat) :: S) h Q) : jx_J l D cA ad sp K d own cc nL rt pc L ((0, i) :: (2, (q : Int)) :: S) h Q := by
  intro p e s m args below meth c H locs ls hx hb hml hr hown hts hnw hlt hsr hst hel hlk hK hP hi hS hl
  obtain ⟨hin, hix⟩ := ja_ix h0 h1 hn
  have he : (ja_w cA ad sp K h)[q]? = some (ad q, ja_e cA ad sp h q) := ja_w_get hq
  rw [ja_e_Y hsp] at he
  refine va_bald (D := D) hx hb hK hP q 1 he rfl hin hd ?_
  show W p l e (jx_R d) s m args below meth c H locs 0 0 _ (F0 m (pc + 1) ls (.int (Int32.ofInt (h q (Int32.ofInt i).toNatClampNeg)) :: S.map (ja_c ad)))
  rw [hix]
  exact k p e s m args below meth c H locs ls hx hb hml hr hown hts hnw hlt hsr hst hel hlk hK hP hi hS hl
theorem jx_zald {q n : Nat} {i : Int} (hq : q < K) (hsp : (sp q).1 = (102, n)) (hn : n < 2147483648) (h0 : 0 ≤ i) (h1 : i < n) (hd : decode cc pc = .ok (.baload, 1)) (k : jx_J l D cA ad sp K d own cc nL rt (pc + 1) L ((0, h q i.toNat) :: S) h Q) : jx_J l D cA ad sp K d own cc nL rt pc L ((0, i) :: (2, (q : Int)) :: S) h Q := by
  intro p e s m args below meth c H locs ls hx hb hml hr hown hts hnw hlt hsr hst hel hlk hK hP hi hS hl
  obtain ⟨hin, hix⟩ := ja_ix h0 h1 hn
  have he : (ja_w cA ad sp K h)[q]? = some (ad q, ja_e cA ad sp h q) := ja_w_get hq
  rw [ja_e_Z hsp] at he
  refine va_zald (D := D) hx hb hK hP q 2 he rfl hin hd ?_
  show W p l e (jx_R d) s m args below meth c H locs 0 0 _ (F0 m (pc + 1) ls (.int (Int32.ofInt (h q (Int32.ofInt i).toNatClampNeg)) :: S.map (ja_c ad)))
  rw [hix]
  exact k p e s m args below meth c H locs ls hx hb hml hr hown hts hnw hlt hsr hst hel hlk hK hP hi hS hl
theorem jx_lald {q n : Nat} {i : Int} (hq : q < K) (hsp : (sp q).1 = (103, n)) (hn : n < 2147483648) (h0 : 0 ≤ i) (h1 : i < n) (hd : decode cc pc = .ok (.laload, 1)) (k : jx_J l D cA ad sp K d own cc nL rt (pc + 1) L ((1, h q i.toNat) :: S) h Q) : jx_J l D cA ad sp K d own cc nL rt pc L ((0, i) :: (2, (q : Int)) :: S) h Q := by
  intro p e s m args below meth c H locs ls hx hb hml hr hown hts hnw hlt hsr hst hel hlk hK hP hi hS hl
  obtain ⟨hin, hix⟩ := ja_ix h0 h1 hn
  have he : (ja_w cA ad sp K h)[q]? = some (ad q, ja_e cA ad sp h q) := ja_w_get hq
  rw [ja_e_L hsp] at he
  refine va_lald (D := D) hx hb hK hP q 3 he rfl hin hd ?_
  show W p l e (jx_R d) s m args below meth c H locs 0 0 _ (F0 m (pc + 1) ls (.long (Int64.ofInt (h q (Int32.ofInt i).toNatClampNeg)) :: S.map (ja_c ad)))
  rw [hix]
  exact k p e s m args below meth c H locs ls hx hb hml hr hown hts hnw hlt hsr hst hel hlk hK hP hi hS hl
theorem jx_iast {q n : Nat} {i : Int} (hq : q < K) (hsp : (sp q).1 = (100, n)) (hn : n < 2147483648) (h0 : 0 ≤ i) (h1 : i < n) {x : Int} (hd : decode cc pc = .ok (.iastore, 1)) (k : jx_J l D cA ad sp K d own cc nL rt (pc + 1) L S (ja_up h q i.toNat x) Q) : jx_J l D cA ad sp K d own cc nL rt pc L ((0, x) :: (0, i) :: (2, (q : Int)) :: S) h Q := by
  intro p e s m args below meth c H locs ls hx hb hml hr hown hts hnw hlt hsr hst hel hlk hK hP hi hS hl
  obtain ⟨hin, hix⟩ := ja_ix h0 h1 hn
  have hD := ja_D (cA := cA) (sp := sp) (h := h) hi
  have he : (ja_w cA ad sp K h)[q]? = some (ad q, ja_e cA ad sp h q) := ja_w_get hq
  rw [ja_e_I hsp] at he
  refine va_iast (D := D) hx hb hK hP hD hS q 0 he rfl hin hd (fun H1 locs1 hP1 hD1 hS1 => ?_)
  rw [hix, ja_upI] at hP1
  rw [ja_w_set hq (ja_e_I hsp).symm] at hP1
  exact k p e s m args below meth c H1 locs1 ls hx hb hml hr hown hts hnw hlt hsr hst hel hlk hK hP1 hi hS1 hl
theorem jx_zast {q n : Nat} {i : Int} (hq : q < K) (hsp : (sp q).1 = (102, n)) (hn : n < 2147483648) (h0 : 0 ≤ i) (h1 : i < n) {x : Int} (h01 : x = 0 ∨ x = 1) (hd : decode cc pc = .ok (.bastore, 1)) (k : jx_J l D cA ad sp K d own cc nL rt (pc + 1) L S (ja_up h q i.toNat x) Q) : jx_J l D cA ad sp K d own cc nL rt pc L ((0, x) :: (0, i) :: (2, (q : Int)) :: S) h Q := by
  intro p e s m args below meth c H locs ls hx hb hml hr hown hts hnw hlt hsr hst hel hlk hK hP hi hS hl
  obtain ⟨hin, hix⟩ := ja_ix h0 h1 hn
  have hD := ja_D (cA := cA) (sp := sp) (h := h) hi
  have he : (ja_w cA ad sp K h)[q]? = some (ad q, ja_e cA ad sp h q) := ja_w_get hq
  rw [ja_e_Z hsp] at he
  refine va_zast (D := D) hx hb hK hP hD hS q 2 he rfl hin hd (fun H1 locs1 hP1 hD1 hS1 => ?_)
  rw [ja_narZ h01] at hP1
  rw [hix, ja_upI] at hP1
  rw [ja_w_set hq (ja_e_Z hsp).symm] at hP1
  exact k p e s m args below meth c H1 locs1 ls hx hb hml hr hown hts hnw hlt hsr hst hel hlk hK hP1 hi hS1 hl
theorem jx_last {q n : Nat} {i : Int} (hq : q < K) (hsp : (sp q).1 = (103, n)) (hn : n < 2147483648) (h0 : 0 ≤ i) (h1 : i < n) {x : Int} (hd : decode cc pc = .ok (.lastore, 1)) (k : jx_J l D cA ad sp K d own cc nL rt (pc + 1) L S (ja_up h q i.toNat x) Q) : jx_J l D cA ad sp K d own cc nL rt pc L ((1, x) :: (0, i) :: (2, (q : Int)) :: S) h Q := by
  intro p e s m args below meth c H locs ls hx hb hml hr hown hts hnw hlt hsr hst hel hlk hK hP hi hS hl
  obtain ⟨hin, hix⟩ := ja_ix h0 h1 hn
  have hD := ja_D (cA := cA) (sp := sp) (h := h) hi
  have he : (ja_w cA ad sp K h)[q]? = some (ad q, ja_e cA ad sp h q) := ja_w_get hq
  rw [ja_e_L hsp] at he
  refine va_last (D := D) hx hb hK hP hD hS q 3 he rfl hin hd (fun H1 locs1 hP1 hD1 hS1 => ?_)
  rw [hix, ja_upL] at hP1
  rw [ja_w_set hq (ja_e_L hsp).symm] at hP1
  exact k p e s m args below meth c H1 locs1 ls hx hb hml hr hown hts hnw hlt hsr hst hel hlk hK hP1 hi hS1 hl
theorem jx_bast {q n : Nat} {i : Int} (hq : q < K) (hsp : (sp q).1 = (101, n)) (hn : n < 2147483648) (h0 : 0 ≤ i) (h1 : i < n) {x : Int} (v : Int) (hd : decode cc pc = .ok (.bastore, 1)) (hv : vp_nar .byte (Int32.ofInt x) = Int32.ofInt v) (k : jx_J l D cA ad sp K d own cc nL rt (pc + 1) L S (ja_up h q i.toNat v) Q) : jx_J l D cA ad sp K d own cc nL rt pc L ((0, x) :: (0, i) :: (2, (q : Int)) :: S) h Q := by
  intro p e s m args below meth c H locs ls hx hb hml hr hown hts hnw hlt hsr hst hel hlk hK hP hi hS hl
  obtain ⟨hin, hix⟩ := ja_ix h0 h1 hn
  have hD := ja_D (cA := cA) (sp := sp) (h := h) hi
  have he : (ja_w cA ad sp K h)[q]? = some (ad q, ja_e cA ad sp h q) := ja_w_get hq
  rw [ja_e_Y hsp] at he
  refine va_bast (D := D) hx hb hK hP hD hS q 1 he rfl hin hd (fun H1 locs1 hP1 hD1 hS1 => ?_)
  rw [hv, hix, ja_upI] at hP1
  rw [ja_w_set hq (ja_e_Y hsp).symm] at hP1
  exact k p e s m args below meth c H1 locs1 ls hx hb hml hr hown hts hnw hlt hsr hst hel hlk hK hP1 hi hS1 hl
theorem jx_alen {q n kd : Nat} (hq : q < K) (hsp : (sp q).1 = (kd, n)) (hkd : kd = 100 ∨ kd = 101 ∨ kd = 102 ∨ kd = 103) (hd : decode cc pc = .ok (.arraylength, 1)) (k : jx_J l D cA ad sp K d own cc nL rt (pc + 1) L ((0, (n : Int)) :: S) h Q) : jx_J l D cA ad sp K d own cc nL rt pc L ((2, (q : Int)) :: S) h Q := by
  intro p e s m args below meth c H locs ls hx hb hml hr hown hts hnw hlt hsr hst hel hlk hK hP hi hS hl
  have he : (ja_w cA ad sp K h)[q]? = some (ad q, ja_e cA ad sp h q) := ja_w_get hq
  have hv : Int32.ofNat n = Int32.ofInt (n : Int) := rfl
  rcases hkd with rfl | rfl | rfl | rfl
  · rw [ja_e_I hsp] at he; exact va_alen (D := D) hx hb hK hP q 0 he rfl hv hd (k p e s m args below meth c H locs ls hx hb hml hr hown hts hnw hlt hsr hst hel hlk hK hP hi hS hl)
  · rw [ja_e_Y hsp] at he; exact va_alen (D := D) hx hb hK hP q 1 he rfl hv hd (k p e s m args below meth c H locs ls hx hb hml hr hown hts hnw hlt hsr hst hel hlk hK hP hi hS hl)
  · rw [ja_e_Z hsp] at he; exact va_alen (D := D) hx hb hK hP q 2 he rfl hv hd (k p e s m args below meth c H locs ls hx hb hml hr hown hts hnw hlt hsr hst hel hlk hK hP hi hS hl)
  · rw [ja_e_L hsp] at he; exact va_alen (D := D) hx hb hK hP q 3 he rfl hv hd (k p e s m args below meth c H locs ls hx hb hml hr hown hts hnw hlt hsr hst hel hlk hK hP hi hS hl)
theorem jx_ireturn {x : Int} (hd : decode cc pc = .ok (.ireturn, 1)) (hrt : rt = some .int) (hQ : Q (some (0, x)) h) : jx_J l D cA ad sp K d own cc nL rt pc L [(0, x)] h Q := by
  intro p e s m args below meth c H locs ls hx hb hml hr hown hts hnw hlt hsr hst hel hlk hK hP hi hS hl
  exact vx_ret (W.widen (k := 1) (n := 6) (Nat.zero_le _) (Nat.zero_le _) (W.iret (v := Int32.ofInt x) hx hb (hr.trans hrt) (fun t ht hW => ⟨some (0, x), h, rfl, ⟨fun v q => (by cases q <;> simp), hQ⟩, by rw [ht]; exact hP, hS.F ht⟩) hS.2.2 hd hlk))
theorem jx_zreturn {x : Int} (hd : decode cc pc = .ok (.ireturn, 1)) (hrt : rt = some .boolean) (h01 : x = 0 ∨ x = 1) (hQ : Q (some (0, x)) h) : jx_J l D cA ad sp K d own cc nL rt pc L [(0, x)] h Q := by
  intro p e s m args below meth c H locs ls hx hb hml hr hown hts hnw hlt hsr hst hel hlk hK hP hi hS hl
  exact vx_ret (W.widen (k := 1) (n := 6) (Nat.zero_le _) (Nat.zero_le _) (W.zret (v := Int32.ofInt x) hx hb (hr.trans hrt) (by rcases h01 with rfl | rfl <;> rfl) (fun t ht hW => ⟨some (0, x), h, rfl, ⟨fun v q => (by cases q <;> simp), hQ⟩, by rw [ht]; exact hP, hS.F ht⟩) hS.2.2 hd hlk))
theorem jx_lreturn {x : Int} (hd : decode cc pc = .ok (.lreturn, 1)) (hrt : rt = some .long) (hQ : Q (some (1, x)) h) : jx_J l D cA ad sp K d own cc nL rt pc L [(1, x)] h Q := by
  intro p e s m args below meth c H locs ls hx hb hml hr hown hts hnw hlt hsr hst hel hlk hK hP hi hS hl
  exact vx_ret (W.widen (k := 1) (n := 6) (Nat.zero_le _) (Nat.zero_le _) (W.lret (v := Int64.ofInt x) hx hb (hr.trans hrt) (fun t ht hW => ⟨some (1, x), h, rfl, ⟨fun v q => (by cases q <;> simp), hQ⟩, by rw [ht]; exact hP, hS.F ht⟩) hS.2.2 hd hlk))
theorem jx_return (hd : decode cc pc = .ok (.return_, 1)) (hrt : rt = none) (hQ : Q none h) : jx_J l D cA ad sp K d own cc nL rt pc L [] h Q := by
  intro p e s m args below meth c H locs ls hx hb hml hr hown hts hnw hlt hsr hst hel hlk hK hP hi hS hl
  exact vx_ret (W.widen (k := 1) (n := 6) (Nat.zero_le _) (Nat.zero_le _) (W.vret hx hb (hr.trans hrt) (fun t ht hW => ⟨none, h, rfl, ⟨fun v q => (by cases q <;> simp), hQ⟩, by rw [ht]; exact hP, hS.F ht⟩) hS.2.2 hd hlk))
end XH
section XC9
variable {l : Launch} {D : va_G} {cA : Nat → ClassId} {ad : Nat → Nat} {sp : ja_S} {K d d' : Nat} {own : String} {cc cc' : ByteArray} {nL nL' : Nat} {rt rt' : Option FieldType} {pc index n : Nat} {L : List (Nat × ja_V)} {S vals : List ja_V} {h : ja_H} {Q : Option ja_V → ja_H → Prop} {y : MethodName}
theorem jx_callV (hw1 : Cond.methodLink own index y ∈ ja_B) (hw4 : Cond.initialized y.cls ∈ ja_B) (hw5 : Cond.code y cc' nL' rt' ∈ ja_B) (hy : y.cls ≠ "java/lang/invoke/MethodHandle" ∧ y.cls ≠ "java/lang/invoke/VarHandle" ∧ (parseMethodDescriptor y.desc).map (fun d => d.parameters.length) = some n ∧ plainName y.cls = true) (hn : vals.length = n) (hdd : d' < d) (hnL : nL' ≤ 45) (hw2 : Cond.instanceMethod y ∈ ja_B) (hw3 : Cond.selects y.cls y y ∈ ja_B) {q ci N : Nat} {T : u_T} (hq : q < K) (hsp : (sp q).1 = (ci, N)) (hci : ci < 100) (hcl : ja_cl[ci]? = some (y.cls, T, N)) (hlen : ja_wd vals + 1 ≤ nL') (hwd : ja_wd S ≤ 8) (hd : decode cc pc = .ok (.invokevirtual index, 3)) (k : ja_M l D cA ad sp K d' y cc' nL' rt' ((2, (q : Int)) :: vals) h (fun r h' => jx_J l D cA ad sp K d own cc nL rt (pc + 3) L (r.toList ++ S) h' Q)) : jx_J l D cA ad sp K d own cc nL rt pc L (vals.reverse ++ (2, (q : Int)) :: S) h Q := by
  intro p e s m args below meth c H locs ls hx hb hml hr hown hts hnw hlt hsr hst hel hlk hK hP hi hS hl
  have hlen2 : ja_wd ((2, (q : Int)) :: vals) ≤ nL' := by
    have : ja_wd ((2, (q : Int)) :: vals) = 1 + ja_wd vals := rfl
    omega
  have hM := ja_met hi hy.2.2.2 hlen2 k
  have cb : CallB (jx_R d) s args own index y cc' nL' rt' (Cond.code y cc' nL' rt' :: ja_B) (ja_R d') 0 0 n := callB_of n hts (ja_good hw5) rfl rfl rfl (hts _ hw4) (hts _ hw1) ⟨hy.1, hy.2.1, hy.2.2.1⟩ ⟨by show d' + 1 ≤ d; omega, by show 8 + (nL' + 11) + 64 * d' ≤ 64 * d; omega⟩
  have he : (ja_w cA ad sp K h)[q]? = some (ad q, .inr (ci, (List.range N).map (ja_fv ad sp h q))) := by rw [ja_w_get hq, ja_e_obj hsp hci]
  have hpre : PreV s H y.cls (ad q) (ja_PC D cA ad sp K ((2, (q : Int)) :: vals) h) (vals.map (ja_c ad)) := ⟨ja_blind, va_recv hK hP hcl he, fun U hU hW => ⟨rfl, by rw [hU]; exact hP, va_K.moved hW.alike hK, ja_N.warm hW hnw, ja_Lt.call hW hU hS hlt⟩⟩
  have run := va_runV (e := e) (below := below) (meth := meth) (locs := locs) (cells := 0) (slots := 0) (g := F0 m pc ls ((vals.reverse ++ (2, (q : Int)) :: S).map (ja_c ad))) (rest := S.map (ja_c ad)) ⟨hx, hb, hml, hown, hts⟩ hM ⟨cb, hts _ hw2, hts _ hw3⟩ hpre rfl (by rw [List.length_map, hn]) hl.1 (by simp [ja_c]) (lv_room (by rw [ja_wd_cat]; exact hwd)) hd ⟨by show 0 + 0 ≤ 1; omega, by show 0 + 0 ≤ 6; omega⟩
  intro T hT X
  obtain ⟨v, st₀, t, T', L1, h0, X', hL1, e1, e2, ⟨r, h', ho, hk, hP', hF0⟩, st⟩ := run T hT X
  have hv : v = r.map (ja_c ad) := by cases ho; rfl
  subst hv
  have hF := hF0
  unfold va_F at hF
  rw [h0] at hF
  obtain ⟨t2, a1, b1⟩ := hk p e s m args below meth c T'.heap (locs ++ L1) ls hx hb hml hr hown hts hnw hlt hsr hst hel hlk hK (by rw [e1]; exact hP') hi ⟨Nat.le_trans hS.1 (by rw [e1]; exact hF.1), fun q h1 h2 => by rw [e1, hF.2 q (Nat.lt_of_lt_of_le h1 hS.1) h2]; exact hS.2.1 q h1 h2, fun q hq => by
      rcases List.mem_append.mp hq with h | h
      · exact hS.2.2 q h
      · exact hL1 q h⟩ hl T' rfl X'
  rw [← ja_stk] at a1
  exact ⟨t2, st t2 a1, b1⟩
theorem jx_callS (hw1 : Cond.methodLink own index y ∈ ja_B) (hw4 : Cond.initialized y.cls ∈ ja_B) (hw5 : Cond.code y cc' nL' rt' ∈ ja_B) (hy : y.cls ≠ "java/lang/invoke/MethodHandle" ∧ y.cls ≠ "java/lang/invoke/VarHandle" ∧ (parseMethodDescriptor y.desc).map (fun d => d.parameters.length) = some n ∧ plainName y.cls = true) (hn : vals.length = n) (hdd : d' < d) (hnL : nL' ≤ 45) (hw2 : Cond.static y ∈ ja_B) (hlen : ja_wd vals ≤ nL') (hwd : ja_wd S ≤ 8) (hd : decode cc pc = .ok (.invokestatic index, 3)) (k : ja_M l D cA ad sp K d' y cc' nL' rt' vals h (fun r h' => jx_J l D cA ad sp K d own cc nL rt (pc + 3) L (r.toList ++ S) h' Q)) : jx_J l D cA ad sp K d own cc nL rt pc L (vals.reverse ++ S) h Q := by
  intro p e s m args below meth c H locs ls hx hb hml hr hown hts hnw hlt hsr hst hel hlk hK hP hi hS hl
  have hM := ja_met hi hy.2.2.2 hlen k
  have cb : CallB (jx_R d) s args own index y cc' nL' rt' (Cond.code y cc' nL' rt' :: ja_B) (ja_R d') 0 0 n := callB_of n hts (ja_good hw5) rfl rfl rfl (hts _ hw4) (hts _ hw1) ⟨hy.1, hy.2.1, hy.2.2.1⟩ ⟨by show d' + 1 ≤ d; omega, by show 8 + (nL' + 11) + 64 * d' ≤ 64 * d; omega⟩
  have hpre : PreS s H (ja_PC D cA ad sp K vals h) (vals.map (ja_c ad)) := ⟨ja_blind, fun U hU hW => ⟨rfl, by rw [hU]; exact hP, va_K.moved hW.alike hK, ja_N.warm hW hnw, ja_Lt.call hW hU hS hlt⟩⟩
  have run := va_runS (e := e) (below := below) (meth := meth) (locs := locs) (cells := 0) (slots := 0) (g := F0 m pc ls ((vals.reverse ++ S).map (ja_c ad))) (rest := S.map (ja_c ad)) ⟨hx, hb, hml, hown, hts⟩ hM ⟨cb, hts _ hw2⟩ hpre rfl (by rw [List.length_map, hn]) hl.1 (by simp) (lv_room (by rw [ja_wd_cat]; exact hwd)) hd ⟨by show 0 + 0 ≤ 1; omega, by show 0 + 0 ≤ 6; omega⟩
  intro T hT X
  obtain ⟨v, st₀, t, T', L1, h0, X', hL1, e1, e2, ⟨r, h', ho, hk, hP', hF0⟩, st⟩ := run T hT X
  have hv : v = r.map (ja_c ad) := by cases ho; rfl
  subst hv
  have hF := hF0
  unfold va_F at hF
  rw [h0] at hF
  obtain ⟨t2, a1, b1⟩ := hk p e s m args below meth c T'.heap (locs ++ L1) ls hx hb hml hr hown hts hnw hlt hsr hst hel hlk hK (by rw [e1]; exact hP') hi ⟨Nat.le_trans hS.1 (by rw [e1]; exact hF.1), fun q h1 h2 => by rw [e1, hF.2 q (Nat.lt_of_lt_of_le h1 hS.1) h2]; exact hS.2.1 q h1 h2, fun q hq => by
      rcases List.mem_append.mp hq with h | h
      · exact hS.2.2 q h
      · exact hL1 q h⟩ hl T' rfl X'
  rw [← ja_stk] at a1
  exact ⟨t2, st t2 a1, b1⟩
theorem jx_mmax {x y : Int} (v : Int) (hw1 : Cond.methodLink own index Lib.Math.max.name ∈ ja_B) (hw2 : Cond.static Lib.Math.max.name ∈ ja_B) (hw3 : Cond.initialized "java/lang/Math" ∈ ja_B) (hw4 : Cond.code Lib.Math.max.name Lib.Math.max.code 2 (some .int) ∈ ja_B) (hdd : 1 ≤ d) (hwd : ja_wd S ≤ 8) (hd : decode cc pc = .ok (.invokestatic index, 3)) (hv : (if Int32.ofInt x < Int32.ofInt y then Int32.ofInt y else Int32.ofInt x) = Int32.ofInt v) (k : jx_J l D cA ad sp K d own cc nL rt (pc + 3) L ((0, v) :: S) h Q) : jx_J l D cA ad sp K d own cc nL rt pc L ((0, y) :: (0, x) :: S) h Q := by
  intro p e s m args below meth c H locs ls hx hb hml hr hown hts hnw hlt hsr hst hel hlk hK hP hi hS hl
  refine va_mmax (x := Int32.ofInt x) (y := Int32.ofInt y) hx hb (hml.trans hl.1.symm) hown (hts _ hw1) (hts _ hw2) (hts _ hw3) (hts _ hw4) (by show 1 ≤ d; exact hdd) (by show _ ≤ 64 * d; rw [ja_wd_cat]; omega) (Nat.zero_le _) (Nat.zero_le _) hd ?_
  rw [hv]
  exact k p e s m args below meth c H locs ls hx hb hml hr hown hts hnw hlt hsr hst hel hlk hK hP hi hS hl
end XC9
def jx_gw (w : Cond) : Bool := goodWord w || (jx_Dn.any (fun y => decide (w = .declares y)) || jx_Cn.any (fun C => decide (w = .castable C C)))
theorem jx_at7 : vx_atS RX11 93 "java/lang/IllegalArgumentException" ["java/lang/RuntimeException", "java/lang/Exception"] = ([4879, 6148, 6157, 6161, 6164, 6166, 6149, 6150, 4896, 4897, 6151, 6156, 6162, 6182, 6122, 6183, 6124, 6184, 6126, 6152, 6154, 6144, 6178, 6179, 6181, 6144, 6169, 6170, 6171, 6172, 6114, 6172, 6173, 6174, 6175, 6116, 6175, 6176, 6177, 6178, 6118, 6168, 6111, 6112, 6119, 6120, 6121, 6123, 6125, 6127, 6147, 6146, 6145] : List Nat).filterMap ck_tb := by decide +kernel
theorem jx_ag7 : (vx_atS RX11 93 "java/lang/IllegalArgumentException" ["java/lang/RuntimeException", "java/lang/Exception"]).all jx_gw = true := by decide +kernel
theorem jx_ck7 : Cond.classLink RX11 89 "java/lang/IllegalArgumentException" ∈ ja_B := ja_m (ck_tb_in (p := 6110) (by decide +kernel)) rfl
theorem jx_ci7 : Cond.initialized "java/lang/IllegalArgumentException" ∈ ja_B := ja_m (ck_tb_in (p := 4882) (by decide +kernel)) rfl
theorem jx_at8 : vx_atS RX11 197 "java/lang/IllegalStateException" ["java/lang/RuntimeException", "java/lang/Exception"] = ([4879, 6148, 6157, 6161, 6164, 6166, 6149, 6150, 4896, 4897, 6151, 6156, 6162, 6182, 6122, 6183, 6124, 6184, 6126, 6152, 6154, 6144, 6178, 6179, 6181, 6144, 6300, 6301, 6302, 6172, 6114, 6172, 6173, 6174, 6175, 6116, 6175, 6176, 6177, 6178, 6118, 6299, 6290, 6291, 6292, 6159, 6293, 6294, 6295, 6296, 6147, 6146, 6297] : List Nat).filterMap ck_tb := by decide +kernel
theorem jx_ag8 : (vx_atS RX11 197 "java/lang/IllegalStateException" ["java/lang/RuntimeException", "java/lang/Exception"]).all jx_gw = true := by decide +kernel
theorem jx_ck8 : Cond.classLink RX11 193 "java/lang/IllegalStateException" ∈ ja_B := ja_m (ck_tb_in (p := 6289) (by decide +kernel)) rfl
theorem jx_ci8 : Cond.initialized "java/lang/IllegalStateException" ∈ ja_B := ja_m (ck_tb_in (p := 4889) (by decide +kernel)) rfl
theorem jx_at9 : vx_atS RX11 150 "java/lang/IndexOutOfBoundsException" ["java/lang/RuntimeException", "java/lang/Exception"] = ([4879, 6148, 6157, 6161, 6164, 6166, 6149, 6150, 4896, 4897, 6151, 6156, 6162, 6182, 6122, 6183, 6124, 6184, 6126, 6152, 6154, 6144, 6178, 6179, 6181, 6144, 6216, 6217, 6218, 6172, 6114, 6172, 6173, 6174, 6175, 6116, 6175, 6176, 6177, 6178, 6118, 6215, 6206, 6207, 6208, 6160, 6209, 6210, 6211, 6212, 6147, 6146, 6213] : List Nat).filterMap ck_tb := by decide +kernel
theorem jx_ag9 : (vx_atS RX11 150 "java/lang/IndexOutOfBoundsException" ["java/lang/RuntimeException", "java/lang/Exception"]).all jx_gw = true := by decide +kernel
theorem jx_ck9 : Cond.classLink RX11 146 "java/lang/IndexOutOfBoundsException" ∈ ja_B := ja_m (ck_tb_in (p := 6205) (by decide +kernel)) rfl
theorem jx_ci9 : Cond.initialized "java/lang/IndexOutOfBoundsException" ∈ ja_B := ja_m (ck_tb_in (p := 4888) (by decide +kernel)) rfl
theorem jx_ats {ic : Nat} {X : String} {names : List String} {ps : List Nat} (h : vx_atS RX11 ic X names = ps.filterMap ck_tb) (g : (vx_atS RX11 ic X names).all jx_gw = true) : ∀ w ∈ vx_atS RX11 ic X names, w ∈ ja_B ∨ (∃ y ∈ jx_Dn, w = .declares y) ∨ ∃ C ∈ jx_Cn, w = .castable C C := by
  intro w hw
  have hg := List.all_eq_true.mp g w hw
  rw [h] at hw
  obtain ⟨p, -, hp⟩ := List.mem_filterMap.mp hw
  unfold jx_gw at hg
  simp only [Bool.or_eq_true, List.any_eq_true, decide_eq_true_eq] at hg
  rcases hg with hg | hg | hg
  · exact Or.inl (ja_m (ck_tb_in hp) hg)
  · exact Or.inr (Or.inl hg)
  · exact Or.inr (Or.inr hg)
/-- throw new E("text"), at an empty stack -/
theorem jx_thrown {l : Launch} {D : va_G} {cA : Nat → ClassId} {ad : Nat → Nat} {sp : ja_S} {K d : Nat} {cc : ByteArray} {nL : Nat} {rt : Option FieldType} {pc : Nat} {L : List (Nat × ja_V)} {h : ja_H} {Q : Option ja_V → ja_H → Prop} {ik is ic r : Nat} {X txt : String} (hr : jx_n r = X) (hr9 : r = 7 ∨ r = 8 ∨ r = 9)
    (hX : Bundle.fit X = true) (hk : Cond.classLink RX11 ik X ∈ ja_B) (hini : Cond.initialized X ∈ ja_B) (hat : ∀ w ∈ vx_atS RX11 ic X ["java/lang/RuntimeException", "java/lang/Exception"], w ∈ ja_B ∨ (∃ y ∈ jx_Dn, w = .declares y) ∨ ∃ C ∈ jx_Cn, w = .castable C C) (hl : (is, txt) ∈ jx_L) (hdd : 6 ≤ d)
    (d0 : decode cc pc = .ok (.new ik, 3)) (d3 : decode cc (pc + 3) = .ok (.dup, 1)) (d4 : decode cc (pc + 4) = .ok (.ldc is, 2)) (d6 : decode cc (pc + 6) = .ok (.invokespecial ic, 3)) (d9 : decode cc (pc + 9) = .ok (.athrow, 1))
    (hQ : Q (some (r, 0)) h) : jx_J l D cA ad sp K d RX11 cc nL rt pc L [] h Q := by
  intro p e s m args below meth c H locs ls hx hb hml hrr hown hts hnw hlt hsr hst hel hlk hK hP hi hS hl2
  obtain ⟨sa, hsa⟩ := hsr.2.1 _ hl
  refine vx_throwS (names := ["java/lang/RuntimeException", "java/lang/Exception"]) (A := ja_A ad K) hx hb hst hown hX (by decide +kernel) (hts _ hk) (hts _ hini) hsa (fun w hw => ?_) (fun w hw => ?_) hsr.2.2.1 hsr.2.2.2 hS (hl2.1.trans hml.symm) d0 d3 d4 d6 d9 (fun x hx => (hel x hx).elim) (by show 2 + 3 < d; omega) (by show 0 + (13 * (2 + 1) + 43) ≤ 64 * d; omega) (by show 0 + 1 ≤ 1; omega) (by show 0 + 6 ≤ 6; omega) hlk (fun t al h1 h2 => ?_) hS.2.2 (by omega) (by omega)
  · rcases hat w hw with q | ⟨y, hy, rfl⟩ | ⟨C, hC, rfl⟩
    · exact hts w q
    · exact va_Nw.use rfl (hsr.1.1 y hy)
    · exact va_Nw.use rfl (hsr.1.2 C hC)
  · have gd : ∀ z ∈ ja_B, vx_ot z = true := fun z hz => by
      unfold vx_ot
      rw [(List.mem_filter.mp hz).2, Bool.or_true]
    rcases List.mem_cons.mp hw with rfl | hw
    · exact gd _ hk
    · rcases List.mem_cons.mp hw with rfl | hw
      · exact gd _ hini
      · rcases hat w hw with q | ⟨y, hy, rfl⟩ | ⟨C, hC, rfl⟩
        · exact gd _ q
        · rfl
        · rfl
  · exact ⟨r, h, hr, hr9, hQ, hP.kept (fun k q hk => h2 q.1 (vx_lt hP hk)), by unfold va_F; exact ⟨Nat.le_trans hS.1 h1, fun q q1 q2 => (h2 q (Nat.lt_of_lt_of_le q1 hS.1)).trans (hS.2.1 q q1 q2)⟩⟩
def jx_PC (D : va_G) (cA : Nat → ClassId) (ad : Nat → Nat) (sp : ja_S) (K : Nat) (vals : List ja_V) (h : ja_H) : Array Value → State → Prop := fun a U => ja_PC D cA ad sp K vals h a U ∧ jx_Lt ad K U
theorem jx_blind {D : va_G} {cA : Nat → ClassId} {ad : Nat → Nat} {sp : ja_S} {K : Nat} {vals : List ja_V} {h : ja_H} : FrameBlind (jx_PC D cA ad sp K vals h) := by
  intro a U g mk q
  exact ⟨ja_blind a U g mk q.1, jx_Lt.calling (U := U) (V := U.calling g mk a) rfl rfl q.2⟩
def jx_M (l : Launch) (D : va_G) (cA : Nat → ClassId) (ad : Nat → Nat) (sp : ja_S) (K d : Nat) (y : MethodName) (cc : ByteArray) (nL : Nat) (rt : Option FieldType) (vals : List ja_V) (h : ja_H) (Q : Option ja_V → ja_H → Prop) : Prop :=
  jx_J l D cA ad sp K d y.cls cc nL rt 0 (ja_args 0 vals) [] h Q
theorem jx_met {l : Launch} {D : va_G} {cA : Nat → ClassId} {ad : Nat → Nat} {sp : ja_S} {K d : Nat} {y : MethodName} {cc : ByteArray} {nL : Nat} {rt : Option FieldType} {vals : List ja_V} {h : ja_H} {Q : Option ja_V → ja_H → Prop}
    (hst : l.stackTraces = false) (hi : ∀ i j, i < K → j < K → ad i = ad j → i = j) (hy : plainName y.cls = true) (hlen : ja_wd vals ≤ nL) (hM : jx_M l D cA ad sp K d y cc nL rt vals h Q) :
    vx_Met l y (Cond.code y cc nL rt :: ja_B) (jx_R d) (jx_PC D cA ad sp K vals h) (ja_Q D cA ad sp K (jx_Qr Q)) (jx_X D cA ad sp K Q) 1 6 (ja_A ad K) := by
  refine vx_ofW (cc := cc) (maxL := nL) (ret := rt) hy rfl ?_
  intro p e s m args below meth c s₁ B hml hel hv
  obtain ⟨⟨rfl, hP, hK, hN, hT⟩, hsr⟩ := hv
  have hx := B.exec
  have hb := B.bytes
  have hr := B.returns
  have hts := atoms_spec (ws := Cond.code y cc nL rt :: ja_B) B.pre
  have hown : s.vm.findClass y.cls = some m.cls := findClass_of_methodNamed B.named
  have hlocks := B.notSynchronized
  have hl := lv_entry (vals.map (ja_c ad)) (n := nL) (by rw [ja_wd_sl]; exact hlen)
  rw [lg_entry_eq]
  generalize (lg_sl (vals.map (ja_c ad)) ++ List.replicate (nL - (lg_sl (vals.map (ja_c ad))).length) Slot.unset).toArray = ls at hl ⊢
  rw [ja_argsm] at hl
  exact hM p e s m _ below meth c s.heap [] ls hx hb hml hr hown (fun w hw => hts w (List.mem_cons_of_mem _ hw)) hN hT hsr hst hel hlocks hK hP hi va_S.rf hl
/-- what does not throw -/
theorem jx_of {l : Launch} {D : va_G} {cA : Nat → ClassId} {ad : Nat → Nat} {sp : ja_S} {K d : Nat} {own : String} {cc : ByteArray} {nL : Nat} {rt : Option FieldType} {pc : Nat} {L : List (Nat × ja_V)} {S : List ja_V} {h : ja_H} {Q Q2 : Option ja_V → ja_H → Prop} (hq : ∀ r h, Q r h → Q2 r h) (k : jx_J l D cA ad sp K d own cc nL rt pc L S h Q) : jx_J l D cA ad sp K d own cc nL rt pc L S h Q2 := by
  intro p e s m args below meth c H locs ls hx hb hml hr hown hts hnw hlt hsr hst hel hlk hK hP hi hS hl T hT X
  obtain ⟨t, h1, o, h2, h3, h4⟩ := k p e s m args below meth c H locs ls hx hb hml hr hown hts hnw hlt hsr hst hel hlk hK hP hi hS hl T hT X
  refine ⟨t, h1, o, h2, h3, ?_⟩
  rcases h4 with ⟨⟨r, h', e1, e2, e3, e4⟩, h5⟩ | ⟨q, e0, E, ce, L9, ⟨r, h', e1, e2, e3, e4, e5⟩, h5⟩
  · exact Or.inl ⟨⟨r, h', e1, ⟨e2.1, hq _ _ e2.2⟩, e3, e4⟩, h5⟩
  · exact Or.inr ⟨q, e0, E, ce, L9, ⟨r, h', e1, e2, hq _ _ e3, e4, e5⟩, h5⟩
section XE
variable {l : Launch} {D : va_G} {cA : Nat → ClassId} {ad : Nat → Nat} {sp : ja_S} {K d : Nat} {own : String} {cc : ByteArray} {nL : Nat} {rt : Option FieldType} {pc : Nat} {L : List (Nat × ja_V)} {S : List ja_V} {h : ja_H} {Q : Option ja_V → ja_H → Prop}
theorem jx_norm {x : Int} (v : Int) (hv : Int32.ofInt x = Int32.ofInt v) (k : jx_J l D cA ad sp K d own cc nL rt pc L ((0, v) :: S) h Q) : jx_J l D cA ad sp K d own cc nL rt pc L ((0, x) :: S) h Q := by
  intro p e s m args below meth c H locs ls hx hb hml hr hown hts hnw hlt hsr hst hel hlk hK hP hi hS hl
  have := k p e s m args below meth c H locs ls hx hb hml hr hown hts hnw hlt hsr hst hel hlk hK hP hi hS hl
  have e1 : ja_c ad (0, x) = ja_c ad (0, v) := congrArg Value.int hv
  rw [List.map_cons, e1]
  exact this
theorem jx_iincv {i : Nat} {n x : Int} (v : Int) {L2 : List (Nat × ja_V)} (hd : decode cc pc = .ok (.iinc i n, 3)) (hg : ja_g L i = some (0, x)) (hn : i < nL) (hv : Int32.ofInt (x + n) = Int32.ofInt v) (hL : ja_st i (0, v) L = L2) (k : jx_J l D cA ad sp K d own cc nL rt (pc + 3) L2 S h Q) : jx_J l D cA ad sp K d own cc nL rt pc L S h Q := by
  intro p e s m args below meth c H locs ls hx hb hml hr hown hts hnw hlt hsr hst hel hlk hK hP hi hS hl
  subst hL
  obtain ⟨k0, hk0⟩ := ja_place (ad := ad) hg
  exact lv_iinc (v := Int32.ofInt v) hx hb hd hl hk0 (by rw [← hv]; exact (Int32.ofInt_add x n).symm) hn (ja_stm ad i (0, v) L) (fun ls2 hl2 => k p e s m args below meth c H locs ls2 hx hb hml hr hown hts hnw hlt hsr hst hel hlk hK hP hi hS hl2)
end XE
