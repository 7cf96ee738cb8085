/-! A MACHINE OF INTS over a fixed world: cells k < K at addresses ad k; what a cell holds is h k : Nat → Int. -/
abbrev ja_V : Type := Nat × Int
abbrev ja_H : Type := Nat → Nat → Int
abbrev ja_S : Type := Nat → (Nat × Nat) × (Nat → Nat)
def ja_c (ad : Nat → Nat) (v : ja_V) : Value := if v.1 = 0 then .int (Int32.ofInt v.2) else if v.1 = 1 then .long (Int64.ofInt v.2) else .ref (ad v.2.toNat)
def ja_cl : List vw_C := [(RX0, TX0, 6), (RX1, TX1, 2), (RX2, TX2, 12), (RX3, TX3, 3), (RX4, TX4, 15), (RX5, TX5, 21), (RX6, TX6, 18), (RX7, TX7, 11), (RX8, TX8, 3), (RX9, TX9, 8), (RX10, TX10, 1), (RX11, TX11, 12), (RX12, TX12, 209)]
def ja_t (cA : Nat → ClassId) : List (ClassId × FieldType) := [(cA 0, .int), (cA 1, .byte), (cA 2, .boolean), (cA 3, .long)]
def ja_fx (sp : ja_S) (h : ja_H) (k j : Nat) : ja_V := match (sp k).2 j with
  | 0 => (0, h k j)
  | 1 => (1, h k j)
  | t + 2 => (2, (t : Int))
def ja_fv (ad : Nat → Nat) (sp : ja_S) (h : ja_H) (k j : Nat) : Value := ja_c ad (ja_fx sp h k j)
def ja_e (cA : Nat → ClassId) (ad : Nat → Nat) (sp : ja_S) (h : ja_H) (k : Nat) : va_E :=
  if (sp k).1.1 = 100 then .inl (cA 0, (sp k).1.2, .inl fun j => Int32.ofInt (h k j))
  else if (sp k).1.1 = 101 then .inl (cA 1, (sp k).1.2, .inl fun j => Int32.ofInt (h k j))
  else if (sp k).1.1 = 102 then .inl (cA 2, (sp k).1.2, .inl fun j => Int32.ofInt (h k j))
  else if (sp k).1.1 = 103 then .inl (cA 3, (sp k).1.2, .inr (.inl fun j => Int64.ofInt (h k j)))
  else .inr ((sp k).1.1, (List.range (sp k).1.2).map (ja_fv ad sp h k))
def ja_w (cA : Nat → ClassId) (ad : Nat → Nat) (sp : ja_S) (K : Nat) (h : ja_H) : va_W := (List.range K).map fun k => (ad k, ja_e cA ad sp h k)
def ja_up (h : ja_H) (k j : Nat) (x : Int) : ja_H := fun k' j' => if k' = k ∧ j' = j then x else h k' j'
theorem ja_w_get {cA : Nat → ClassId} {ad : Nat → Nat} {sp : ja_S} {K : Nat} {h : ja_H} {k : Nat} (hk : k < K) : (ja_w cA ad sp K h)[k]? = some (ad k, ja_e cA ad sp h k) := by
  simp [ja_w, hk]
theorem ja_e_ne {cA : Nat → ClassId} {ad : Nat → Nat} {sp : ja_S} {h : ja_H} {k j q : Nat} {x : Int} (hq : q ≠ k) : ja_e cA ad sp (ja_up h k j x) q = ja_e cA ad sp h q := by
  have e1 : ∀ i, ja_up h k j x q i = h q i := fun i => by simp [ja_up, hq]
  have e2 : ja_fv ad sp (ja_up h k j x) q = ja_fv ad sp h q := by
    funext i; simp only [ja_fv, ja_fx, e1]
  simp only [ja_e, e1, e2]
theorem ja_w_set {cA : Nat → ClassId} {ad : Nat → Nat} {sp : ja_S} {K : Nat} {h : ja_H} {k j : Nat} {x : Int} (hk : k < K) {E : va_E} (hE : E = ja_e cA ad sp (ja_up h k j x) k) : (ja_w cA ad sp K h).set k (ad k, E) = ja_w cA ad sp K (ja_up h k j x) := by
  subst hE
  apply List.ext_getElem?
  intro i
  rw [List.getElem?_set]
  by_cases hi : i < K
  · by_cases e : k = i
    · subst e
      simp [ja_w, hk]
    · rw [if_neg e, ja_w_get hi, ja_w_get hi, ja_e_ne (fun q => e q.symm)]
  · have : (ja_w cA ad sp K h)[i]? = none := by simp [ja_w]; omega
    have h2 : (ja_w cA ad sp K (ja_up h k j x))[i]? = none := by simp [ja_w]; omega
    by_cases e : k = i
    · omega
    · rw [if_neg e, this, h2]
def ja_A (ad : Nat → Nat) (K : Nat) : Nat → Prop := fun q => ∃ k, k < K ∧ q = ad k
theorem ja_D {cA : Nat → ClassId} {ad : Nat → Nat} {sp : ja_S} {K : Nat} {h : ja_H} (hi : ∀ i j, i < K → j < K → ad i = ad j → i = j) : va_D (ja_A ad K) (ja_w cA ad sp K h) := by
  have key : ∀ (i : Nat) (p : Nat × va_E), (ja_w cA ad sp K h)[i]? = some p → i < K ∧ p.1 = ad i := by
    intro i p hp
    have hlt : i < K := by
      have := (List.getElem?_eq_some_iff.mp hp).1
      simpa [ja_w] using this
    rw [ja_w_get hlt] at hp
    exact ⟨hlt, (congrArg Prod.fst (Option.some.inj hp)).symm⟩
  refine ⟨fun i j p q hp hq e => ?_, fun k q hq => ?_⟩
  · obtain ⟨a1, a2⟩ := key i p hp
    obtain ⟨b1, b2⟩ := key j q hq
    exact hi i j a1 b1 (by rw [← a2, ← b2, e])
  · obtain ⟨a1, a2⟩ := key k q hq
    exact ⟨k, a1, a2⟩
def ja_nest : Cond → Bool
  | .fieldLinkNest .. => true
  | .methodLinkNest .. => true
  | _ => false
def ja_B : List Cond := lw_tbl.filter goodWord
theorem ja_m {w : Cond} (h : w ∈ lw_tbl) (g : goodWord w = true) : w ∈ ja_B := List.mem_filter.mpr ⟨h, g⟩
def ja_R (d : Nat) : Room := { frames := d, cells := 0, slots := 0, locals := 64 * d }
def ja_Q (D : va_G) (cA : Nat → ClassId) (ad : Nat → Nat) (sp : ja_S) (K : Nat) (Q : Option ja_V → ja_H → Prop) : Array Value → State → Outcome → State → Prop := fun _ st o t =>
  ∃ (r : Option ja_V) (h' : ja_H), o = .returned (r.map (ja_c ad)) ∧ Q r h' ∧ va_P D ja_cl (ja_w cA ad sp K h') t.heap ∧ va_F (ja_A ad K) st t
def ja_st (i : Nat) (v : ja_V) (L : List (Nat × ja_V)) : List (Nat × ja_V) := (i, v) :: L.filter (fun q => !(q.1 == i) && !(q.1 + 1 == i && q.2.1 == 1))
def ja_st2 (i : Nat) (v : ja_V) (L : List (Nat × ja_V)) : List (Nat × ja_V) := (i, v) :: L.filter (fun q => !(q.1 == i) && (!(q.1 == i + 1) && !(q.1 + 1 == i && q.2.1 == 1)))
def ja_g (L : List (Nat × ja_V)) (i : Nat) : Option ja_V := (L.find? (fun q => q.1 == i)).map (fun q => q.2)
def ja_tx : String := "and    args   around aspect bar    before behind call   catch  class  each   else   fail   field  flow   get    give   go     if     in     is     let    main   make   method new    none   not    object or     order  pick   print  return run    self   set    target throw  try    under  warn   while  within "
/-- a literal of the class (cell K, its bytes: cell K + 1), as it lies in the heap: outside of what may change -/
def ja_Lt (ad : Nat → Nat) (K : Nat) (s : State) : Prop := vk_R RX9 110 ja_tx (ad K) s ∧ (va_O "java/lang/String" (ad K) (ja_A ad K) s s.heap ∧ va_OF "java/lang/String" "coder" "B" (.int 0) (ad K) (ja_A ad K) s s.heap ∧ va_OF "java/lang/String" "value" "[B" (.ref (ad (K + 1))) (ad K) (ja_A ad K) s s.heap ∧ ∃ f : Nat → Int32, va_T .byte (ad (K + 1)) 308 (fun j => .int (f j)) (ja_A ad K) s s.heap) ∧ va_Z "java/lang/String" "COMPACT_STRINGS" "Z" (.int 1) (ja_A ad K) s s.heap ∧ va_Zq "jdk/internal/util/Preconditions" "SIOOBE_FORMATTER" "Ljava/util/function/BiFunction;" (ja_A ad K) s s.heap
theorem ja_Lt.call {ad : Nat → Nat} {K : Nat} {s U : State} {H : Heap} {locs : List Loc} (hW : s.WarmedH U.vm) (hU : U.heap = H) (hS : va_S (ja_A ad K) s.heap H locs) (h : ja_Lt ad K s) : ja_Lt ad K U := by
  obtain ⟨h1, ⟨h2, h3, h4, f, h5⟩, h6, h8⟩ := h
  refine ⟨vk_R.warm hW h1, ⟨?_, ?_, ?_, f, ?_⟩, ?_, ?_⟩ <;> rw [hU]
  · exact va_O.moved hW.alike (h2.kept hS.2.1)
  · exact va_OF.moved hW.alike (h3.kept hS.2.1)
  · exact va_OF.moved hW.alike (h4.kept hS.2.1)
  · exact va_T.moved hW.alike (h5.kept hS.2.1)
  · exact va_Z.moved hW.alike (h6.kept hS.2.1)
  · exact va_Zq.moved hW.alike (h8.kept hS.2.1)
theorem ja_Lt.calling {ad : Nat → Nat} {K : Nat} {U V : State} (hv : V.vm = U.vm) (hh : V.heap = U.heap) (h : ja_Lt ad K U) : ja_Lt ad K V := by
  obtain ⟨h1, ⟨h2, h3, h4, f, h5⟩, h6, h8⟩ := h
  have al : U.vm.Alike V.vm := by rw [hv]; exact Vm.Alike.refl U.vm
  refine ⟨vk_R.same hv h1, ⟨?_, ?_, ?_, f, ?_⟩, ?_, ?_⟩ <;> rw [hh]
  · exact va_O.moved al h2
  · exact va_OF.moved al h3
  · exact va_OF.moved al h4
  · exact va_T.moved al h5
  · exact va_Z.moved al h6
  · exact va_Zq.moved al h8
def ja_J (l : Launch) (D : va_G) (cA : Nat → ClassId) (ad : Nat → Nat) (sp : ja_S) (K d : Nat) (own : String) (cc : ByteArray) (nL : Nat) (rt : Option FieldType) (pc : Nat) (L : List (Nat × ja_V)) (S : List ja_V) (h : ja_H) (Q : Option ja_V → ja_H → Prop) : Prop :=
  ∀ (p : Program) (e : Env) (s : State) (m : MethodId) (args : Array Value) (below : List Frame) (meth : Method) (c : Code) (H : Heap) (locs : List Loc) (ls : Array Slot),
    p.tables.exec = Jvm.exec → c.code = cc → c.maxLocals = nL → meth.sig.returnType = rt → s.vm.findClass own = some m.cls → (∀ w ∈ ja_B, w.before args s = true) → (∀ w ∈ lw_tbl, ja_nest w = true → va_Nw w s) → ja_Lt ad K s → meth.locks = false →
    va_K D ja_cl (ja_t cA) s → va_P D ja_cl (ja_w cA ad sp K h) H → (∀ i j, i < K → j < K → ad i = ad j → i = j) → va_S (ja_A ad K) s.heap H locs → lv_has ls nL (L.map fun q => (q.1, ja_c ad q.2)) →
    W p l e (ja_R d) s m args below meth c H locs 0 0 (MQ below (ja_Q D cA ad sp K Q) args s 0 0 (ja_A ad K)) (F0 m pc ls (S.map (ja_c ad)))
theorem ja_at {ad : Nat → Nat} {L : List (Nat × ja_V)} {i : Nat} {v : ja_V} {ls : Array Slot} {nL : Nat} (h : lv_has ls nL (L.map fun q => (q.1, ja_c ad q.2))) (hg : ja_g L i = some v) : ls[i]? = some (.val (ja_c ad v)) := by
  unfold ja_g at hg
  rw [Option.map_eq_some_iff] at hg
  obtain ⟨q, hq, rfl⟩ := hg
  have h1 := List.mem_of_find?_eq_some hq
  have h2 := List.find?_some hq
  have h3 : q.1 = i := by simpa using h2
  have := h.2.2 (q.1, ja_c ad q.2) (List.mem_map.mpr ⟨q, h1, rfl⟩)
  rw [h3] at this
  exact this
theorem ja_cat (ad : Nat → Nat) (v : ja_V) : ((ja_c ad v).category == 2) = (v.1 == 1) := by
  obtain ⟨t, x⟩ := v
  unfold ja_c
  by_cases h0 : t = 0
  · subst h0; rfl
  · by_cases h1 : t = 1
    · subst h1; rfl
    · simp [h0, h1, Value.category]
theorem ja_stm (ad : Nat → Nat) (i : Nat) (v : ja_V) (L : List (Nat × ja_V)) : (i, ja_c ad v) :: (L.map fun q => (q.1, ja_c ad q.2)).filter (fun q => !(q.1 == i) && !(q.1 + 1 == i && q.2.category == 2)) = (ja_st i v L).map fun q => (q.1, ja_c ad q.2) := by
  simp only [ja_st, List.map_cons, List.filter_map]
  congr 2
  apply List.filter_congr
  intro q _
  simp only [Function.comp, ja_cat]
theorem ja_st2m (ad : Nat → Nat) (i : Nat) (v : ja_V) (L : List (Nat × ja_V)) : (i, ja_c ad v) :: (L.map fun q => (q.1, ja_c ad q.2)).filter (fun q => !(q.1 == i) && (!(q.1 == i + 1) && !(q.1 + 1 == i && q.2.category == 2))) = (ja_st2 i v L).map fun q => (q.1, ja_c ad q.2) := by
  simp only [ja_st2, List.map_cons, List.filter_map]
  congr 2
  apply List.filter_congr
  intro q _
  simp only [Function.comp, ja_cat]
