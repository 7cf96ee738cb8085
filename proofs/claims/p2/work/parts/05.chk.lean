/-! A CHECKER OF INTERVALS over the machine of ints. An abstract value: tag, interval, origin (i + 1: it is what local i holds), (base, delta) against what local base - 1 held when the stretch began, 1: it is not 0. -/
abbrev ck_v : Type := Nat × (Int × Int) × Nat × (Nat × Int) × Nat
abbrev ck_L : Type := List (Nat × ck_v)
/-- a certificate: place, locals, stack, rank: (local or 1000, bound, sign) -/
abbrev ck_C : Type := Nat × ck_L × List ck_v × List (Nat × Int × Nat)
/-- what is known of a method's call: depth, arguments, answer, certificates -/
abbrev ck_S : Type := Nat × List ck_v × Option ck_v × List ck_C
/-- a method: name, code, (locals, answer's type), (class, number of arguments, static), the places of its words: code, instance or static, selects, initialized -/
abbrev ck_M : Type := MethodName × ByteArray × (Nat × Option FieldType) × (Nat × Nat × Bool) × (Nat × Nat × Nat × Nat)
/-- a row of a class's pool: index, kind (0 field, 1 field of a nest mate, 2 method), two numbers, the place of its word -/
abbrev ck_P : Type := Nat × Nat × Nat × Nat × Nat
/-- a constant: index, kind (0 int, 1 long), its number, the place of its word -/
abbrev ck_K : Type := Nat × Nat × Int × Nat
def ck_i (lo hi : Int) : ck_v := (0, (lo, hi), 0, (0, 0), 0)
def ck_lg : ck_v := (1, (0, 0), 0, (0, 0), 0)
def ck_rf (t : Nat) : ck_v := (2, ((t : Int), (t : Int)), 0, (0, 0), 0)
def ck_top : ck_v := ck_i (-2147483648) 2147483647
def ck_fits (lo hi : Int) : Bool := decide (-2147483648 ≤ lo) && decide (hi ≤ 2147483647)
def ck_norm (lo hi : Int) : ck_v := if ck_fits lo hi then ck_i lo hi else ck_top
def ck_g (L : ck_L) (i : Nat) : Option ck_v := (L.find? (fun q => q.1 == i)).map (fun q => q.2)
def ck_o (a : ck_v) (o : Nat) : ck_v := (a.1, a.2.1, o, a.2.2.2)
def ck_wide (L : ck_L) (j : Nat) : Bool := match ck_g L j with
  | some a => a.1 == 1
  | none => true
def ck_st (i : Nat) (a : ck_v) (L : ck_L) : ck_L := (i, ck_o a 0) :: L.filter (fun q => !(q.1 == i) && !(q.1 + 1 == i && ck_wide L q.1))
def ck_st2 (i : Nat) (a : ck_v) (L : ck_L) : ck_L := (i, ck_o a 0) :: L.filter (fun q => !(q.1 == i) && (!(q.1 == i + 1) && !(q.1 + 1 == i && ck_wide L q.1)))
def ck_drop (i : Nat) (S : List ck_v) : List ck_v := S.map fun a => if a.2.2.1 == i + 1 || a.2.2.1 == i + 2 then ck_o a 0 else a
/-- refined: an interval's cut with (lo, hi); nz: it is not 0 -/
def ck_cut (a : ck_v) (lo hi : Int) (nz : Nat) : ck_v := (a.1, (if a.2.1.1 < lo then lo else a.2.1.1, if hi < a.2.1.2 then hi else a.2.1.2), a.2.2.1, a.2.2.2.1, if nz == 1 then 1 else a.2.2.2.2)
def ck_emp (a : ck_v) : Bool := decide (a.2.1.2 < a.2.1.1)
def ck_ref (L : ck_L) (a : ck_v) (lo hi : Int) (nz : Nat) : ck_L := match a.2.2.1 with
  | 0 => L
  | i + 1 => L.map fun q => if q.1 == i && q.2.1 == 0 then (q.1, ck_cut q.2 lo hi nz) else q
def ck_sub1 (a b : ck_v) : Bool := a.1 == b.1 && b.2.2.1 == 0 && b.2.2.2.1.1 == 0 && b.2.2.2.2 == 0 && decide (b.2.1.1 ≤ a.2.1.1) && decide (a.2.1.2 ≤ b.2.1.2) && (a.1 == 0 || a.1 == 1 || (a.1 == 2 && decide (a.2.1.1 = b.2.1.1)))
def ck_subS : List ck_v → List ck_v → Bool
  | [], [] => true
  | a :: as, b :: bs => ck_sub1 a b && ck_subS as bs
  | _, _ => false
def ck_subL (L L2 : ck_L) : Bool := L2.all fun q => match ck_g L q.1 with
  | some a => ck_sub1 a q.2
  | none => false
/-- the rank falls, from the stretch's begin to here -/
def ck_lex (L : ck_L) : List (Nat × Int × Nat) → List (Nat × Int × Nat) → Bool
  | (i, b, s) :: r, (i2, b2, s2) :: r2 =>
    if i == 1000 then i2 == 1000 && (decide (b2 < b) || (decide (b2 = b) && ck_lex L r r2))
    else i2 == i && s2 == s && decide (b2 = b) && (match ck_g L i with
      | some a => a.1 == 0 && a.2.2.2.1.1 == i + 1 && (decide (0 < (if s == 0 then a.2.2.2.1.2 else -a.2.2.2.1.2)) || (decide (a.2.2.2.1.2 = 0) && ck_lex L r r2))
      | none => false)
  | _, _ => false
/-- a certificate is well made: its rank's numbers lie in 0 .. 2^33 -/
def ck_okC (c : ck_C) : Bool := decide (c.2.2.2.length ≤ 8) && c.2.2.2.all (fun q => if q.1 == 1000 then decide (0 ≤ q.2.1) && decide (q.2.1 < 8589934592) else match ck_g c.2.1 q.1 with
      | some a => a.1 == 0 && (if q.2.2 == 0 then decide (a.2.1.2 ≤ q.2.1) && decide (q.2.1 - a.2.1.1 < 8589934592) else decide (q.2.1 ≤ a.2.1.1) && decide (a.2.1.2 - q.2.1 < 8589934592))
      | none => false) && c.2.1.all (fun q => q.2.2.2.1 == 0 && q.2.2.2.2.1.1 == 0 && q.2.2.2.2.2 == 0) && c.2.2.1.all (fun a => a.2.2.1 == 0 && a.2.2.2.1.1 == 0 && a.2.2.2.2 == 0)
def ck_begin (L : ck_L) : ck_L := L.map fun q => (q.1, if q.2.1 == 0 then (q.2.1, q.2.2.1, 0, (q.1 + 1, 0), 0) else q.2)
def ck_cert (cs : List ck_C) (pc : Nat) : Option ck_C := cs.find? (fun c => c.1 == pc)
def ck_wd (S : List ck_v) : Nat := (S.map fun a => if a.1 = 1 then 2 else 1).sum
def ck_mulr (a b : ck_v) : Int × Int :=
  let p := a.2.1.1 * b.2.1.1; let q := a.2.1.1 * b.2.1.2; let r := a.2.1.2 * b.2.1.1; let s := a.2.1.2 * b.2.1.2
  (min (min p q) (min r s), max (max p q) (max r s))
def ck_and (a b : ck_v) : ck_v := if decide (0 ≤ b.2.1.1) then ck_i 0 b.2.1.2 else if decide (0 ≤ a.2.1.1) then ck_i 0 a.2.1.2 else ck_top
def ck_tys : List (Nat → FieldType) := [tyX0, tyX1, tyX2, tyX3, tyX4, tyX5, tyX6, tyX7, tyX8, tyX9, tyX10, tyX11, tyX12]
def ck_ty (c j : Nat) : Option FieldType := (ck_tys[c]?).map (fun t => t j)
def ck_fin (c j : Nat) : Bool := match ja_cl[c]? with
  | some r => (r.2.1 j).2.2.2
  | none => true
/-- an instruction's length; 0 of a switch -/
def ck_len (i : Instr) : Nat := match i with
  | .tableswitch .. => 0
  | .lookupswitch .. => 0
  | .bipush _ => 2
  | .ldc _ => 2
  | .iload _ => 2
  | .lload _ => 2
  | .aload _ => 2
  | .istore _ => 2
  | .lstore _ => 2
  | .astore _ => 2
  | .sipush _ => 3
  | .ldc2_w _ => 3
  | .iinc .. => 3
  | .goto _ => 3
  | .ifCond .. => 3
  | .if_icmp .. => 3
  | .getfield _ => 3
  | .putfield _ => 3
  | .invokevirtual _ => 3
  | .invokestatic _ => 3
  | _ => 1
def ck_ret0 (r : Option ck_v) : Bool := match r with
  | some a => a.2.2.1 == 0 && a.2.2.2.1.1 == 0
  | none => true
section CK
variable (sp : ja_S) (fi : Nat → Nat → Int × Int) (K : Nat) (mt : Nat → ck_M) (pf : Nat → Nat → Option ck_P) (kl : Nat → List ck_K) (ss : Nat → List ck_S) (hn : Nat → Nat × Int) (pr : Nat × Nat)
variable (ci : Nat) (dec : Nat → Option (Instr × Nat)) (nL : Nat) (rt : Option FieldType) (d : Nat) (ret : Option ck_v) (cs : List ck_C) (lx : List (Nat × Int × Nat))
def ck_nx (f : Nat → ck_L → List ck_v → Bool) (pc : Nat) (L : ck_L) (S : List ck_v) : Bool := match ck_cert cs pc with
  | some c => ck_subL L c.2.1 && ck_subS S c.2.2.1 && ck_lex L lx c.2.2.2
  | none => f pc L S
def ck_fv (k j : Nat) : ck_v := match (sp k).2 j with
  | 0 => ck_i (fi k j).1 (fi k j).2
  | 1 => ck_lg
  | t + 2 => ck_rf t
/-- a field's place among the locals: what is known of it since it was looked at -/
def ck_key (k j : Nat) : Nat := 1000 + k * 256 + j
def ck_keepL (P : Nat → Bool) (L : ck_L) : ck_L := L.filter fun q => P q.1
def ck_keepS (P : Nat → Bool) (S : List ck_v) : List ck_v := S.map fun a => if a.2.2.1 == 0 || P (a.2.2.1 - 1) then a else ck_o a 0
def ck_noF (i : Nat) : Bool := Nat.blt i 1000
def ck_noK (key i : Nat) : Bool := !(i == key)
def ck_noC (c i : Nat) : Bool := Nat.blt i 1000 || !((i - 1000) / 256 == c)
def ck_two (f : Nat → ck_L → List ck_v → Bool) (pc tgt : Nat) (off : Int) (L : ck_L) (S : List ck_v) (x y : ck_v) (t f1 : ck_v × ck_v × Nat) : Bool :=
  decide ((pc : Int) + off = (tgt : Int)) &&
  (ck_emp (ck_cut x t.1.2.1.1 t.1.2.1.2 0) || ck_emp (ck_cut y t.2.1.2.1.1 t.2.1.2.1.2 0) || f tgt (ck_ref (ck_ref L x t.1.2.1.1 t.1.2.1.2 t.2.2) y t.2.1.2.1.1 t.2.1.2.1.2 0) S) &&
  (ck_emp (ck_cut x f1.1.2.1.1 f1.1.2.1.2 0) || ck_emp (ck_cut y f1.2.1.2.1.1 f1.2.1.2.1.2 0) || f (pc + 3) (ck_ref (ck_ref L x f1.1.2.1.1 f1.1.2.1.2 f1.2.2) y f1.2.1.2.1.1 f1.2.1.2.1.2 0) S)
/-- what x, y are where x < y, x ≤ y, x = y, x ≠ y -/
def ck_lt (x y : ck_v) : ck_v × ck_v × Nat := (ck_i x.2.1.1 (y.2.1.2 - 1), ck_i (x.2.1.1 + 1) y.2.1.2, 0)
def ck_le (x y : ck_v) : ck_v × ck_v × Nat := (ck_i x.2.1.1 y.2.1.2, ck_i x.2.1.1 y.2.1.2, 0)
def ck_eq (x y : ck_v) : ck_v × ck_v × Nat := (ck_i y.2.1.1 y.2.1.2, ck_i x.2.1.1 x.2.1.2, 0)
def ck_ne (x y : ck_v) : ck_v × ck_v × Nat := if decide (y.2.1.1 = y.2.1.2) then
    (ck_i (if x.2.1.1 = y.2.1.1 then x.2.1.1 + 1 else x.2.1.1) (if x.2.1.2 = y.2.1.1 then x.2.1.2 - 1 else x.2.1.2), ck_i y.2.1.1 y.2.1.2, if y.2.1.1 = 0 then 1 else 0)
  else (ck_i x.2.1.1 x.2.1.2, ck_i y.2.1.1 y.2.1.2, 0)
def ck_sw (p : ck_v × ck_v × Nat) : ck_v × ck_v × Nat := (p.2.1, p.1, 0)
def ck_br (c : ClassFile.Cond) (x y : ck_v) : (ck_v × ck_v × Nat) × (ck_v × ck_v × Nat) := match c with
  | .eq => (ck_eq x y, ck_ne x y)
  | .ne => (ck_ne x y, ck_eq x y)
  | .lt => (ck_lt x y, ck_sw (ck_le y x))
  | .ge => (ck_sw (ck_le y x), ck_lt x y)
  | .gt => (ck_sw (ck_lt y x), ck_le x y)
  | .le => (ck_le x y, ck_sw (ck_lt y x))
/-- the context that fits: by its place, told by an argument, or by search -/
def ck_sel (mid : Nat) (as : List ck_v) : Option ck_S := if (hn mid).1 == 99 then (ss mid).find? (fun s => decide (s.1 < d) && ck_subS as s.2.1) else match (ss mid)[((as.getD (hn mid).1 ck_lg).2.1.1 - (hn mid).2).toNat]? with
  | some s => if decide (s.1 < d) && ck_subS as s.2.1 then some s else none
  | none => none
def ck_call (f : Nat → ck_L → List ck_v → Bool) (pc : Nat) (L : ck_L) (S : List ck_v) (p : ck_P) (st : Bool) : Bool :=
  let M := mt p.2.2.1
  let n := M.2.2.2.1.2.1
  let as := (S.take n).reverse
  let S1 := S.drop n
  decide (as.length = n) && M.2.2.2.1.2.2 == st && decide (M.2.2.1.1 ≤ 45) &&
  (if st then decide (ck_wd as ≤ M.2.2.1.1) && decide (ck_wd S1 ≤ 8) && (match ck_sel ss hn d p.2.2.1 as with
      | some s => ck_ret0 s.2.2.1 && f (pc + 3) (ck_keepL ck_noF L) (s.2.2.1.toList ++ ck_keepS ck_noF S1)
      | none => false)
   else match S1 with
    | q :: S2 => q.1 == 2 && decide (0 ≤ q.2.1.1) && decide (q.2.1.1.toNat < K) && decide ((sp q.2.1.1.toNat).1.1 = M.2.2.2.1.1) && decide (M.2.2.2.1.1 < 13) && decide (ck_wd as + 1 ≤ M.2.2.1.1) && decide (ck_wd S2 ≤ 8) && (match ck_sel ss hn d p.2.2.1 (q :: as) with
      | some s => ck_ret0 s.2.2.1 && f (pc + 3) (ck_keepL ck_noF L) (s.2.2.1.toList ++ ck_keepS ck_noF S2)
      | none => false)
    | _ => false)
def ck_arr (q : ck_v) (i : ck_v) (kd : Nat) : Bool := q.1 == 2 && decide (0 ≤ q.2.1.1) && decide (q.2.1.1.toNat < K) && decide ((sp q.2.1.1.toNat).1.1 = kd) && i.1 == 0 && decide (0 ≤ i.2.1.1) && decide (i.2.1.2 < ((sp q.2.1.1.toNat).1.2 : Int)) && decide ((sp q.2.1.1.toNat).1.2 < 2147483648)
def ck_one (f : Nat → ck_L → List ck_v → Bool) (pc : Nat) (L : ck_L) (S : List ck_v) (i : Instr) : Bool := match i, S with
  | .iconst v, S => decide (-1 ≤ v) && decide (v ≤ 5) && f (pc + 1) L (ck_i v v :: S)
  | .bipush v, S => decide (-128 ≤ v) && decide (v ≤ 127) && decide ((Int8.ofInt v).toInt32 = Int32.ofInt v) && f (pc + 2) L (ck_i v v :: S)
  | .sipush v, S => decide (-32768 ≤ v) && decide (v ≤ 32767) && decide ((Int16.ofInt v).toInt32 = Int32.ofInt v) && f (pc + 3) L (ck_i v v :: S)
  | .lconst v, S => decide (Int64.ofNat (v : Nat) = Int64.ofInt (v : Nat)) && f (pc + 1) L (ck_lg :: S)
  | .ldc idx, S => (match (kl ci).find? (fun p => p.1 == idx && p.2.1 == 0) with
      | some p => ck_fits p.2.2.1 p.2.2.1 && f (pc + 2) L (ck_i p.2.2.1 p.2.2.1 :: S)
      | none => false)
  | .ldc2_w idx, S => (match (kl ci).find? (fun p => p.1 == idx && p.2.1 == 1) with
      | some _ => f (pc + 3) L (ck_lg :: S)
      | none => false)
  | .iload_n k, S => (match ck_g L k with
      | some a => a.1 == 0 && f (pc + 1) L (ck_o a (k + 1) :: S)
      | none => false)
  | .iload k, S => (match ck_g L k with
      | some a => decide (k < 900) && a.1 == 0 && f (pc + 2) L (ck_o a (k + 1) :: S)
      | none => false)
  | .lload_n k, S => (match ck_g L k with
      | some a => a.1 == 1 && f (pc + 1) L (ck_lg :: S)
      | none => false)
  | .lload k, S => (match ck_g L k with
      | some a => decide (k < 900) && a.1 == 1 && f (pc + 2) L (ck_lg :: S)
      | none => false)
  | .aload_n k, S => (match ck_g L k with
      | some a => a.1 == 2 && f (pc + 1) L ((2, a.2.1, 0, (0, 0), 0) :: S)
      | none => false)
  | .aload k, S => (match ck_g L k with
      | some a => decide (k < 900) && a.1 == 2 && f (pc + 2) L ((2, a.2.1, 0, (0, 0), 0) :: S)
      | none => false)
  | .istore_n k, a :: S => a.1 == 0 && decide ((k : Nat) < nL) && f (pc + 1) (ck_st k a L) (ck_drop k S)
  | .istore k, a :: S => a.1 == 0 && decide (k < nL) && decide (k < 900) && f (pc + 2) (ck_st k a L) (ck_drop k S)
  | .astore_n k, a :: S => a.1 == 2 && decide ((k : Nat) < nL) && f (pc + 1) (ck_st k a L) (ck_drop k S)
  | .astore k, a :: S => a.1 == 2 && decide (k < nL) && decide (k < 900) && f (pc + 2) (ck_st k a L) (ck_drop k S)
  | .lstore_n k, a :: S => a.1 == 1 && decide ((k : Nat) + 1 < nL) && f (pc + 1) (ck_st2 k a L) (ck_drop k S)
  | .lstore k, a :: S => a.1 == 1 && decide (k + 1 < nL) && decide (k < 900) && f (pc + 2) (ck_st2 k a L) (ck_drop k S)
  | .iinc k n, S => (match ck_g L k with
      | some a => a.1 == 0 && decide (k < nL) && decide (k < 900) && (if ck_fits (a.2.1.1 + n) (a.2.1.2 + n) then f (pc + 3) (ck_st k (0, (a.2.1.1 + n, a.2.1.2 + n), 0, (a.2.2.2.1.1, a.2.2.2.1.2 + n), 0) L) (ck_drop k S) else f (pc + 3) (ck_st k ck_top L) (ck_drop k S))
      | none => false)
  | .iadd, y :: x :: S => x.1 == 0 && y.1 == 0 && f (pc + 1) L (ck_norm (x.2.1.1 + y.2.1.1) (x.2.1.2 + y.2.1.2) :: S)
  | .isub, y :: x :: S => x.1 == 0 && y.1 == 0 && f (pc + 1) L (ck_norm (x.2.1.1 - y.2.1.2) (x.2.1.2 - y.2.1.1) :: S)
  | .imul, y :: x :: S => x.1 == 0 && y.1 == 0 && f (pc + 1) L (ck_norm (ck_mulr x y).1 (ck_mulr x y).2 :: S)
  | .ineg, x :: S => x.1 == 0 && f (pc + 1) L (ck_norm (-x.2.1.2) (-x.2.1.1) :: S)
  | .iand, y :: x :: S => x.1 == 0 && y.1 == 0 && f (pc + 1) L (ck_and x y :: S)
  | .ior, y :: x :: S => x.1 == 0 && y.1 == 0 && f (pc + 1) L (ck_top :: S)
  | .ixor, y :: x :: S => x.1 == 0 && y.1 == 0 && f (pc + 1) L (ck_top :: S)
  | .ishl, y :: x :: S => x.1 == 0 && y.1 == 0 && f (pc + 1) L (ck_top :: S)
  | .ishr, y :: x :: S => x.1 == 0 && y.1 == 0 && f (pc + 1) L (ck_top :: S)
  | .idiv, y :: x :: S => x.1 == 0 && y.1 == 0 && (y.2.2.2.2 == 1 || decide (0 < y.2.1.1)) && f (pc + 1) L (ck_top :: S)
  | .irem, y :: x :: S => x.1 == 0 && y.1 == 0 && (y.2.2.2.2 == 1 || decide (0 < y.2.1.1)) && f (pc + 1) L (ck_top :: S)
  | .lor, y :: x :: S => x.1 == 1 && y.1 == 1 && f (pc + 1) L (ck_lg :: S)
  | .land, y :: x :: S => x.1 == 1 && y.1 == 1 && f (pc + 1) L (ck_lg :: S)
  | .lushr, y :: x :: S => x.1 == 1 && y.1 == 0 && f (pc + 1) L (ck_lg :: S)
  | .lshl, y :: x :: S => x.1 == 1 && y.1 == 0 && f (pc + 1) L (ck_lg :: S)
  | .i2l, x :: S => x.1 == 0 && f (pc + 1) L (ck_lg :: S)
  | .l2i, x :: S => x.1 == 1 && f (pc + 1) L (ck_top :: S)
  | .i2b, x :: S => x.1 == 0 && f (pc + 1) L (ck_top :: S)
  | .lcmp, y :: x :: S => x.1 == 1 && y.1 == 1 && f (pc + 1) L (ck_i (-1) 1 :: S)
  | .pop, x :: S => !(x.1 == 1) && f (pc + 1) L S
  | .pop2, x :: S => x.1 == 1 && f (pc + 1) L S
  | .dup, x :: S => !(x.1 == 1) && f (pc + 1) L (x :: x :: S)
  | .dup2, x :: y :: S => !(x.1 == 1) && !(y.1 == 1) && f (pc + 1) L (x :: y :: x :: y :: S)
  | .dup_x1, x :: y :: S => !(x.1 == 1) && !(y.1 == 1) && f (pc + 1) L (x :: y :: x :: S)
  | .goto off, S => decide (0 ≤ (pc : Int) + off) && f ((pc : Int) + off).toNat L S
  | .ifCond c off, x :: S => x.1 == 0 && ck_two f pc ((pc : Int) + off).toNat off L S x (ck_i 0 0) (ck_br c x (ck_i 0 0)).1 (ck_br c x (ck_i 0 0)).2
  | .if_icmp c off, y :: x :: S => x.1 == 0 && y.1 == 0 && ck_two f pc ((pc : Int) + off).toNat off L S x y (ck_br c x y).1 (ck_br c x y).2
  | .tableswitch dflt lo hi offs, x :: S => x.1 == 0 && decide (0 ≤ (pc : Int) + dflt) && f ((pc : Int) + dflt).toNat L S && decide ((offs.size : Int) = hi - lo + 1) && offs.toList.all (fun off => decide (0 ≤ (pc : Int) + off) && f ((pc : Int) + off).toNat L S)
  | .lookupswitch dflt ps, x :: S => x.1 == 0 && (ps.toList.zip (ps.toList.drop 1)).all (fun (a, next) => a.1 < next.1) && decide (0 ≤ (pc : Int) + dflt) && f ((pc : Int) + dflt).toNat L S && ps.toList.all (fun q => decide (0 ≤ (pc : Int) + q.2) && f ((pc : Int) + q.2).toNat L S)
  | .getfield idx, q :: S => (match pf ci idx with
      | some p => q.1 == 2 && decide (0 ≤ q.2.1.1) && decide (q.2.1.1.toNat < K) && decide (p.2.1 < 2) && decide ((sp q.2.1.1.toNat).1.1 = p.2.2.1) && decide (p.2.2.1 < 13) && decide (p.2.2.2.1 < (sp q.2.1.1.toNat).1.2) && decide (p.2.2.2.1 < 256) && (if (sp q.2.1.1.toNat).2 p.2.2.2.1 == 0 then (match ck_g L (ck_key q.2.1.1.toNat p.2.2.2.1) with
          | some a => a.1 == 0 && f (pc + 3) L (ck_o a (ck_key q.2.1.1.toNat p.2.2.2.1 + 1) :: S)
          | none => f (pc + 3) ((ck_key q.2.1.1.toNat p.2.2.2.1, ck_fv sp fi q.2.1.1.toNat p.2.2.2.1) :: L) (ck_o (ck_fv sp fi q.2.1.1.toNat p.2.2.2.1) (ck_key q.2.1.1.toNat p.2.2.2.1 + 1) :: S)) else f (pc + 3) L (ck_fv sp fi q.2.1.1.toNat p.2.2.2.1 :: S))
      | none => false)
  | .putfield idx, x :: q :: S => (match pf ci idx with
      | some p => q.1 == 2 && decide (0 ≤ q.2.1.1) && decide (q.2.1.1.toNat < K) && decide (p.2.1 < 2) && decide ((sp q.2.1.1.toNat).1.1 = p.2.2.1) && decide (p.2.2.1 < 13) && decide (p.2.2.2.1 < (sp q.2.1.1.toNat).1.2) && (match (sp q.2.1.1.toNat).2 p.2.2.2.1 with
          | 0 => x.1 == 0 && decide ((fi q.2.1.1.toNat p.2.2.2.1).1 ≤ x.2.1.1) && decide (x.2.1.2 ≤ (fi q.2.1.1.toNat p.2.2.2.1).2) && (decide (ck_ty p.2.2.1 p.2.2.2.1 = some .int) || (decide (ck_ty p.2.2.1 p.2.2.2.1 = some .boolean) && decide (0 ≤ x.2.1.1) && decide (x.2.1.2 ≤ 1)))
          | 1 => x.1 == 1 && decide (ck_ty p.2.2.1 p.2.2.2.1 = some .long)
          | _ => false) && !(ck_fin p.2.2.1 p.2.2.2.1) && !(q.2.1.1.toNat == pr.1 && p.2.2.2.1 == pr.2) && decide (p.2.2.2.1 < 256) && f (pc + 3) (if (sp q.2.1.1.toNat).2 p.2.2.2.1 == 0 then (ck_key q.2.1.1.toNat p.2.2.2.1, ck_o x 0) :: ck_keepL (ck_noK (ck_key q.2.1.1.toNat p.2.2.2.1)) L else ck_keepL (ck_noK (ck_key q.2.1.1.toNat p.2.2.2.1)) L) (ck_keepS (ck_noK (ck_key q.2.1.1.toNat p.2.2.2.1)) S)
      | none => false)
  | .iaload, i :: q :: S => ck_arr sp K q i 100 && f (pc + 1) L (ck_i (fi q.2.1.1.toNat 0).1 (fi q.2.1.1.toNat 0).2 :: S)
  | .baload, i :: q :: S => ((ck_arr sp K q i 101 || ck_arr sp K q i 102)) && f (pc + 1) L (ck_i (fi q.2.1.1.toNat 0).1 (fi q.2.1.1.toNat 0).2 :: S)
  | .laload, i :: q :: S => ck_arr sp K q i 103 && f (pc + 1) L (ck_lg :: S)
  | .iastore, x :: i :: q :: S => x.1 == 0 && ck_arr sp K q i 100 && decide ((fi q.2.1.1.toNat 0).1 ≤ x.2.1.1) && decide (x.2.1.2 ≤ (fi q.2.1.1.toNat 0).2) && f (pc + 1) (ck_keepL (ck_noC q.2.1.1.toNat) L) (ck_keepS (ck_noC q.2.1.1.toNat) S)
  | .lastore, x :: i :: q :: S => x.1 == 1 && ck_arr sp K q i 103 && f (pc + 1) (ck_keepL (ck_noC q.2.1.1.toNat) L) (ck_keepS (ck_noC q.2.1.1.toNat) S)
  | .arraylength, q :: S => q.1 == 2 && decide (0 ≤ q.2.1.1) && decide (q.2.1.1.toNat < K) && decide (100 ≤ (sp q.2.1.1.toNat).1.1) && decide ((sp q.2.1.1.toNat).1.1 ≤ 103) && decide ((sp q.2.1.1.toNat).1.2 < 2147483648) && f (pc + 1) L (ck_i ((sp q.2.1.1.toNat).1.2 : Int) ((sp q.2.1.1.toNat).1.2 : Int) :: S)
  | .ireturn, [x] => x.1 == 0 && (match ret with
      | some r => ck_sub1 x r && (decide (rt = some .int) || (decide (rt = some .boolean) && decide (0 ≤ x.2.1.1) && decide (x.2.1.2 ≤ 1)))
      | none => false)
  | .lreturn, [x] => x.1 == 1 && (match ret with
      | some r => ck_sub1 x r && decide (rt = some .long)
      | none => false)
  | .return_, [] => ret.isNone && decide (rt = none)
  | .invokevirtual idx, S => (match pf ci idx with
      | some p => decide (p.2.1 = 2) && ck_call sp K mt ss hn d f pc L S p false
      | none => false)
  | .invokestatic idx, S => (match pf ci idx with
      | some p => (decide (p.2.1 = 2) && ck_call sp K mt ss hn d f pc L S p true) || (decide (p.2.1 = 3) && decide (1 ≤ d) && (match S with
          | y :: x :: S2 => x.1 == 0 && y.1 == 0 && decide (ck_wd S2 ≤ 8) && f (pc + 3) L (ck_top :: S2)
          | _ => false))
      | none => false)
  | _, _ => false
def ck_run : Nat → Nat → ck_L → List ck_v → Bool
  | 0, _, _, _ => false
  | n + 1, pc, L, S => match dec pc with
    | some (i, len) => (ck_len i == 0 || len == ck_len i) && ck_one sp fi K mt pf kl ss hn pr ci nL rt d ret (ck_nx cs lx (ck_run n)) pc L S i
    | none => false
end CK
