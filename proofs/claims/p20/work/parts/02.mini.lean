/-! THE MINI MACHINE: frames, locals as a list of pairs, a heap as a list of cells (the cell number k stands at the address base + k); a deterministic step. Array kinds: 0 int, 1 byte, 2 boolean, 3 long, 4 references. -/
/-- a decoded instruction: pc, length, instruction, two resolved numbers, a constant, the place of its link word -/
abbrev mm_I : Type := Nat × Nat × Instr × Nat × Nat × Int × Nat
abbrev mm_V : Type := List (Nat × Value)
abbrev mm_H : Type := List va_E
/-- a static int array: address, length, contents -/
abbrev mm_S : Type := Nat × Nat × (Nat → Int32)
abbrev mm_E : Type := Nat × List mm_S
/-- a frame: method, pc, locals, stack, cells and slots that it may still make -/
abbrev mm_F : Type := Nat × Nat × mm_V × List Value × Nat × Nat
/-- what a simple instruction leaves -/
abbrev mm_O : Type := Option (Nat × mm_V × List Value × Nat × Nat × mm_H)
/-- a method for the mini machine: parameters (without the receiver), kind (0 static, 1 virtual, 2 constructor, 3 native copy), class number of the receiver, return kind (0 void, 1 int, 2 boolean, 3 long, 4 byte, 5 char), cells, slots -/
abbrev mm_M : Type := Nat × Nat × Nat × Nat × Nat × Nat
def mm_get (lv : mm_V) (i : Nat) : Option Value := (lv.find? (fun q => q.1 == i)).map (fun q => q.2)
def mm_p1 (lv : mm_V) (i : Nat) (v : Value) : mm_V := (i, v) :: lv.filter (fun q => !(q.1 == i) && !(q.1 + 1 == i && q.2.category == 2))
def mm_p2 (lv : mm_V) (i : Nat) (v : Value) : mm_V := (i, v) :: lv.filter (fun q => !(q.1 == i) && (!(q.1 == i + 1) && !(q.1 + 1 == i && q.2.category == 2)))
def mm_cell (E : mm_E) (h : mm_H) (a : Nat) : Option va_E := if E.1 ≤ a then h[a - E.1]? else none
def mm_stat (E : mm_E) (a : Nat) : Option mm_S := if E.1 ≤ a then none else (E.2.take 4).find? (fun q => q.1 == a)
/-- the two String constants: objects at the places 4 and 6 of the static rows, their bytes at 5 and 7; at 8 what a static of the JDK holds (null where its length is 0) -/
def mm_str (E : mm_E) (a : Nat) : Option Nat := if E.1 ≤ a then none else match E.2[4]?, E.2[6]? with
  | some q, some r => if q.1 = a then some 0 else if r.1 = a then some 1 else none
  | _, _ => none
def mm_byt (E : mm_E) (a : Nat) : Option mm_S := if E.1 ≤ a then none else match E.2[5]?, E.2[7]? with
  | some q, some r => if q.1 = a then some q else if r.1 = a then some r else none
  | _, _ => none
def mm_cond (k : Jvm.ClassFile.Cond) (x y : Int32) : Bool := match k with
  | .eq => decide (x = y)
  | .ne => decide (¬ x = y)
  | .lt => decide (x < y)
  | .ge => decide (y ≤ x)
  | .gt => decide (y < x)
  | .le => decide (x ≤ y)
def mm_jump (lv : mm_V) (st : List Value) (cb sb : Nat) (h : mm_H) (pc : Nat) (off : Int) : mm_O := if 0 ≤ (pc : Int) + off then some (((pc : Int) + off).toNat, lv, st, cb, sb, h) else none
/-- the value of a local of a kind: 0 int, 1 long, 2 reference -/
def mm_kind (v : Value) : Nat := match v with
  | .int _ => 0
  | .long _ => 1
  | .ref _ => 2
  | .null => 3
  | _ => 4
def mm_load (lv : mm_V) (st : List Value) (cb sb : Nat) (h : mm_H) (pc' : Nat) (kd i : Nat) : mm_O := match mm_get lv i with
  | some v => if mm_kind v = kd then some (pc', lv, v :: st, cb, sb, h) else none
  | none => none
def mm_store (nL : Nat) (lv : mm_V) (st : List Value) (cb sb : Nat) (h : mm_H) (pc' : Nat) (kd i : Nat) : mm_O := match st with
  | v :: r => if mm_kind v = kd then (if kd = 1 then (if i + 1 < nL then some (pc', mm_p2 lv i v, r, cb, sb, h) else none) else (if i < nL then some (pc', mm_p1 lv i v, r, cb, sb, h) else none)) else none
  | [] => none
def mm_bin (lv : mm_V) (st : List Value) (cb sb : Nat) (h : mm_H) (pc' : Nat) (g : Int32 → Int32 → Option Int32) : mm_O := match st with
  | .int y :: .int x :: r => (g x y).map (fun v => (pc', lv, .int v :: r, cb, sb, h))
  | _ => none
def mm_binL (lv : mm_V) (st : List Value) (cb sb : Nat) (h : mm_H) (pc' : Nat) (g : Int64 → Int64 → Value) : mm_O := match st with
  | .long y :: .long x :: r => some (pc', lv, g x y :: r, cb, sb, h)
  | _ => none
def mm_un (lv : mm_V) (st : List Value) (cb sb : Nat) (h : mm_H) (pc' : Nat) (g : Int32 → Value) : mm_O := match st with
  | .int x :: r => some (pc', lv, g x :: r, cb, sb, h)
  | _ => none
def mm_inr (i : Int32) (n : Nat) : Bool := decide (0 ≤ i.toInt) && decide (i.toInt < (n : Int))
def mm_ald (E : mm_E) (lv : mm_V) (st : List Value) (cb sb : Nat) (h : mm_H) (pc' : Nat) (kd kd2 : Nat) : mm_O := match st with
  | .int i :: .ref a :: r => match mm_cell E h a with
    | some (.inl (t, n, .inl f)) => if (t = kd ∨ t = kd2) ∧ mm_inr i n = true then some (pc', lv, .int (f i.toNatClampNeg) :: r, cb, sb, h) else none
    | some _ => none
    | none => match (if kd = 0 then mm_stat E a else mm_byt E a) with
      | some (_, n, f) => if mm_inr i n = true then some (pc', lv, .int (f i.toNatClampNeg) :: r, cb, sb, h) else none
      | none => none
  | _ => none
def mm_nar (t : Nat) (x : Int32) : Int32 := if t = 0 then x else if t = 1 then vp_nar .byte x else vp_nar .boolean x
def mm_ast (E : mm_E) (lv : mm_V) (st : List Value) (cb sb : Nat) (h : mm_H) (pc' : Nat) (kd kd2 : Nat) : mm_O := match st with
  | .int x :: .int i :: .ref a :: r => match mm_cell E h a with
    | some (.inl (t, n, .inl f)) => if (t = kd ∨ t = kd2) ∧ mm_inr i n = true then some (pc', lv, r, cb, sb, h.set (a - E.1) (.inl (t, n, .inl (upd f i.toNatClampNeg (mm_nar t x))))) else none
    | _ => none
  | _ => none
def mm_lald (E : mm_E) (lv : mm_V) (st : List Value) (cb sb : Nat) (h : mm_H) (pc' : Nat) : mm_O := match st with
  | .int i :: .ref a :: r => match mm_cell E h a with
    | some (.inl (t, n, .inr (.inl f))) => if t = 3 ∧ mm_inr i n = true then some (pc', lv, .long (f i.toNatClampNeg) :: r, cb, sb, h) else none
    | _ => none
  | _ => none
def mm_last (E : mm_E) (lv : mm_V) (st : List Value) (cb sb : Nat) (h : mm_H) (pc' : Nat) : mm_O := match st with
  | .long x :: .int i :: .ref a :: r => match mm_cell E h a with
    | some (.inl (t, n, .inr (.inl f))) => if t = 3 ∧ mm_inr i n = true then some (pc', lv, r, cb, sb, h.set (a - E.1) (.inl (t, n, .inr (.inl (vp_updL f i.toNatClampNeg x))))) else none
    | _ => none
  | _ => none
def mm_aald (E : mm_E) (lv : mm_V) (st : List Value) (cb sb : Nat) (h : mm_H) (pc' : Nat) : mm_O := match st with
  | .int i :: .ref a :: r => match mm_cell E h a with
    | some (.inl (t, n, .inr (.inr (.inr (.inr f))))) => if t = 4 ∧ mm_inr i n = true then some (pc', lv, va_rf (f i.toNatClampNeg) :: r, cb, sb, h) else none
    | _ => none
  | _ => none
def mm_alen (E : mm_E) (lv : mm_V) (st : List Value) (cb sb : Nat) (h : mm_H) (pc' : Nat) (kd : Nat) : mm_O := match st with
  | .ref a :: r => match mm_cell E h a with
    | some (.inl (t, n, _)) => if t < 5 then some (pc', lv, .int (Int32.ofNat n) :: r, cb, sb, h) else none
    | some (.inr _) => none
    | none => match (if kd = 0 then mm_stat E a else mm_byt E a) with
      | some (_, n, _) => some (pc', lv, .int (Int32.ofNat n) :: r, cb, sb, h)
      | none => none
  | _ => none
def mm_getf (E : mm_E) (lv : mm_V) (st : List Value) (cb sb : Nat) (h : mm_H) (pc' : Nat) (ci k : Nat) : mm_O := match st with
  | .ref a :: r => match mm_cell E h a with
    | some (.inr (c, fs)) => if c = ci then (match fs[k]? with
      | some v => some (pc', lv, v :: r, cb, sb, h)
      | none => none) else none
    | _ => none
  | _ => none
/-- a String constant's field: 0 its bytes, 1 its coder -/
def mm_gets (E : mm_E) (lv : mm_V) (st : List Value) (cb sb : Nat) (h : mm_H) (pc' : Nat) (b : Nat) : mm_O := match st with
  | .ref a :: r => match mm_str E a with
    | some i => if b = 1 then some (pc', lv, .int 0 :: r, cb, sb, h) else (match E.2[5 + 2 * i]? with
      | some q => some (pc', lv, .ref q.1 :: r, cb, sb, h)
      | none => none)
    | none => none
  | _ => none
/-- may a value stand in a field of a kind: 0 int, 1 long, 2 boolean, 3 reference -/
def mm_fits (kd : Nat) (v : Value) : Bool := match v with
  | .int x => decide (kd = 0) || (decide (kd = 2) && (decide (x = 0) || decide (x = 1)))
  | .long _ => decide (kd = 1)
  | .ref _ => decide (kd = 3)
  | .null => decide (kd = 3)
  | _ => false
def mm_putf (E : mm_E) (lv : mm_V) (st : List Value) (cb sb : Nat) (h : mm_H) (pc' : Nat) (ci k : Nat) (kd : Nat) : mm_O := match st with
  | v :: .ref a :: r => match mm_cell E h a with
    | some (.inr (c, fs)) => if c = ci ∧ k < fs.length ∧ mm_fits kd v = true then some (pc', lv, r, cb, sb, h.set (a - E.1) (.inr (c, fs.set k v))) else none
    | _ => none
  | _ => none
/-- the default of a field of a kind -/
def mm_dflt (kd : Nat) : Value := match kd with
  | 0 => .int 0
  | 1 => .long 0
  | 2 => .int 0
  | _ => .null
def mm_new (E : mm_E) (lv : mm_V) (st : List Value) (cb sb : Nat) (h : mm_H) (pc' : Nat) (ci : Nat) (kds : List Nat) : mm_O :=
  if 1 ≤ cb ∧ kds.length ≤ sb then some (pc', lv, .ref (E.1 + h.length) :: st, cb - 1, sb - kds.length, h ++ [.inr (ci, kds.map mm_dflt)]) else none
def mm_newa (E : mm_E) (lv : mm_V) (st : List Value) (cb sb : Nat) (h : mm_H) (pc' : Nat) (t : ArrayType) : mm_O := match st with
  | .int n :: r => if 0 ≤ n.toInt ∧ n.toInt ≤ 100000 ∧ 1 ≤ cb ∧ n.toNatClampNeg ≤ sb then (match t with
    | .int => some (pc', lv, .ref (E.1 + h.length) :: r, cb - 1, sb - n.toNatClampNeg, h ++ [.inl (0, n.toNatClampNeg, .inl (fun _ => 0))])
    | .byte => some (pc', lv, .ref (E.1 + h.length) :: r, cb - 1, sb - n.toNatClampNeg, h ++ [.inl (1, n.toNatClampNeg, .inl (fun _ => 0))])
    | .boolean => some (pc', lv, .ref (E.1 + h.length) :: r, cb - 1, sb - n.toNatClampNeg, h ++ [.inl (2, n.toNatClampNeg, .inl (fun _ => 0))])
    | .long => some (pc', lv, .ref (E.1 + h.length) :: r, cb - 1, sb - n.toNatClampNeg, h ++ [.inl (3, n.toNatClampNeg, .inr (.inl (fun _ => 0)))])
    | _ => none) else none
  | _ => none
def mm_newm (E : mm_E) (lv : mm_V) (st : List Value) (cb sb : Nat) (h : mm_H) (pc' : Nat) : mm_O := match st with
  | .int k :: .int n :: r => if 0 ≤ n.toInt ∧ n.toInt ≤ 10000 ∧ 0 ≤ k.toInt ∧ k.toInt ≤ 10000 ∧ 1 + n.toNatClampNeg ≤ cb ∧ n.toNatClampNeg + n.toNatClampNeg * k.toNatClampNeg ≤ sb then
      some (pc', lv, .ref (E.1 + h.length) :: r, cb - (1 + n.toNatClampNeg), sb - (n.toNatClampNeg + n.toNatClampNeg * k.toNatClampNeg),
        h ++ (.inl (4, n.toNatClampNeg, .inr (.inr (.inr (.inr (fun i => if i < n.toNatClampNeg then some (E.1 + h.length + 1 + i) else none))))) :: List.replicate n.toNatClampNeg (.inl (0, k.toNatClampNeg, .inl (fun _ => 0))))) else none
  | _ => none
/-- System.arraycopy of two int arrays -/
def mm_copy (E : mm_E) (lv : mm_V) (st : List Value) (cb sb : Nat) (h : mm_H) (pc' : Nat) : mm_O := match st with
  | .int n :: .int dp :: .ref a :: .int sp :: .ref a0 :: r => match mm_cell E h a0, mm_cell E h a with
    | some (.inl (t0, n0, .inl f)), some (.inl (t1, n1, .inl g)) => if t0 = 0 ∧ t1 = 0 ∧ 0 ≤ n.toInt ∧ 0 ≤ dp.toInt ∧ 0 ≤ sp.toInt ∧ sp.toNatClampNeg + n.toNatClampNeg ≤ n0 ∧ dp.toNatClampNeg + n.toNatClampNeg ≤ n1 ∧ (r.map fun v => v.category).sum ≤ 8 then
        some (pc', lv, r, cb, sb, h.set (a - E.1) (.inl (t1, n1, .inl (va_cpy f g sp.toNatClampNeg dp.toNatClampNeg n.toNatClampNeg)))) else none
    | _, _ => none
  | _ => none
def mm_sw (lv : mm_V) (st : List Value) (cb sb : Nat) (h : mm_H) (pc : Nat) (dflt lo hi : Int) (offs : Array Int) : mm_O := match st with
  | .int x :: r => if x.toInt < lo ∨ hi < x.toInt then mm_jump lv r cb sb h pc dflt else (match offs[(x.toInt - lo).toNat]? with
    | some off => mm_jump lv r cb sb h pc off
    | none => none)
  | _ => none
/-- a simple instruction: no frame comes or goes -/
def mm_ex (E : mm_E) (kds : List (List Nat)) (nL : Nat) (ins : Instr) (len a b : Nat) (z : Int) (pc : Nat) (lv : mm_V) (st : List Value) (cb sb : Nat) (h : mm_H) : mm_O := match ins with
  | .iconst n => some (pc + len, lv, .int (Int32.ofInt n) :: st, cb, sb, h)
  | .bipush n => some (pc + len, lv, .int (Int8.ofInt n).toInt32 :: st, cb, sb, h)
  | .sipush n => some (pc + len, lv, .int (Int16.ofInt n).toInt32 :: st, cb, sb, h)
  | .lconst n => some (pc + len, lv, .long (Int64.ofNat (n : Nat)) :: st, cb, sb, h)
  | .ldc _ => if a = 0 then some (pc + len, lv, .int (Int32.ofInt z) :: st, cb, sb, h) else (match E.2[2 + 2 * a]? with
    | some q => some (pc + len, lv, .ref q.1 :: st, cb, sb, h)
    | none => none)
  | .ldc_w _ => some (pc + len, lv, .int (Int32.ofInt z) :: st, cb, sb, h)
  | .ldc2_w _ => some (pc + len, lv, .long (Int64.ofInt z) :: st, cb, sb, h)
  | .iload_n k => mm_load lv st cb sb h (pc + len) 0 k
  | .iload k => mm_load lv st cb sb h (pc + len) 0 k
  | .lload_n k => mm_load lv st cb sb h (pc + len) 1 k
  | .lload k => mm_load lv st cb sb h (pc + len) 1 k
  | .aload_n k => mm_load lv st cb sb h (pc + len) 2 k
  | .aload k => mm_load lv st cb sb h (pc + len) 2 k
  | .istore_n k => mm_store nL lv st cb sb h (pc + len) 0 k
  | .istore k => mm_store nL lv st cb sb h (pc + len) 0 k
  | .lstore_n k => mm_store nL lv st cb sb h (pc + len) 1 k
  | .lstore k => mm_store nL lv st cb sb h (pc + len) 1 k
  | .astore_n k => mm_store nL lv st cb sb h (pc + len) 2 k
  | .astore k => mm_store nL lv st cb sb h (pc + len) 2 k
  | .iinc i n => match mm_get lv i with
    | some (.int x) => if i < nL then some (pc + len, mm_p1 lv i (.int (x + Int32.ofInt n)), st, cb, sb, h) else none
    | _ => none
  | .iadd => mm_bin lv st cb sb h (pc + len) (fun x y => some (x + y))
  | .isub => mm_bin lv st cb sb h (pc + len) (fun x y => some (x - y))
  | .imul => mm_bin lv st cb sb h (pc + len) (fun x y => some (x * y))
  | .idiv => mm_bin lv st cb sb h (pc + len) (fun x y => if y = 0 then none else some (x / y))
  | .irem => mm_bin lv st cb sb h (pc + len) (fun x y => if y = 0 then none else some (x - x / y * y))
  | .iand => mm_bin lv st cb sb h (pc + len) (fun x y => some (x &&& y))
  | .ior => mm_bin lv st cb sb h (pc + len) (fun x y => some (x ||| y))
  | .ixor => mm_bin lv st cb sb h (pc + len) (fun x y => some (x ^^^ y))
  | .ishl => mm_bin lv st cb sb h (pc + len) (fun x y => some (x <<< (y &&& 31)))
  | .ishr => mm_bin lv st cb sb h (pc + len) (fun x y => some (x >>> (y &&& 31)))
  | .iushr => mm_bin lv st cb sb h (pc + len) (fun x y => some (x.toUInt32 >>> (y.toUInt32 &&& Int32.toUInt32 31)).toInt32)
  | .ineg => mm_un lv st cb sb h (pc + len) (fun x => .int (-x))
  | .i2l => mm_un lv st cb sb h (pc + len) (fun x => .long x.toInt64)
  | .i2b => mm_un lv st cb sb h (pc + len) (fun x => .int x.toInt8.toInt32)
  | .i2c => mm_un lv st cb sb h (pc + len) (fun x => .int (x.toUInt32 % 65536).toInt32)
  | .l2i => match st with
    | .long x :: r => some (pc + len, lv, .int x.toInt32 :: r, cb, sb, h)
    | _ => none
  | .ladd => mm_binL lv st cb sb h (pc + len) (fun x y => .long (x + y))
  | .lmul => mm_binL lv st cb sb h (pc + len) (fun x y => .long (x * y))
  | .lcmp => mm_binL lv st cb sb h (pc + len) (fun x y => .int (lg_cmp x y))
  | .dup => match st with
    | v :: r => if v.category = 1 then some (pc + len, lv, v :: v :: r, cb, sb, h) else none
    | [] => none
  | .pop => match st with
    | v :: r => if v.category = 1 then some (pc + len, lv, r, cb, sb, h) else none
    | [] => none
  | .dup2 => match st with
    | v :: w :: r => if v.category = 1 ∧ w.category = 1 then some (pc + len, lv, v :: w :: v :: w :: r, cb, sb, h) else none
    | _ => none
  | .if_icmp k off => match st with
    | .int y :: .int x :: r => if mm_cond k x y = true then mm_jump lv r cb sb h pc off else some (pc + len, lv, r, cb, sb, h)
    | _ => none
  | .ifCond k off => match st with
    | .int x :: r => if mm_cond k x 0 = true then mm_jump lv r cb sb h pc off else some (pc + len, lv, r, cb, sb, h)
    | _ => none
  | .goto off => mm_jump lv st cb sb h pc off
  | .tableswitch dflt lo hi offs => mm_sw lv st cb sb h pc dflt lo hi offs
  | .getstatic _ => if a = 9 then some (pc + len, lv, .int 1 :: st, cb, sb, h) else if a = 8 then (match E.2[8]? with
    | some q => some (pc + len, lv, (if q.2.1 = 0 then .null else .ref q.1) :: st, cb, sb, h)
    | none => none) else (match E.2[a]? with
    | some q => some (pc + len, lv, .ref q.1 :: st, cb, sb, h)
    | none => none)
  | .iaload => mm_ald E lv st cb sb h (pc + len) 0 0
  | .baload => mm_ald E lv st cb sb h (pc + len) 1 2
  | .iastore => mm_ast E lv st cb sb h (pc + len) 0 0
  | .bastore => mm_ast E lv st cb sb h (pc + len) 1 2
  | .laload => mm_lald E lv st cb sb h (pc + len)
  | .lastore => mm_last E lv st cb sb h (pc + len)
  | .aaload => mm_aald E lv st cb sb h (pc + len)
  | .arraylength => mm_alen E lv st cb sb h (pc + len) a
  | .getfield _ => if a = 90 then mm_gets E lv st cb sb h (pc + len) b else mm_getf E lv st cb sb h (pc + len) a b
  | .putfield _ => match kds[a]? with
    | some l => (match l[b]? with
      | some kd => mm_putf E lv st cb sb h (pc + len) a b kd
      | none => none)
    | none => none
  | .new _ => match kds[a]? with
    | some l => mm_new E lv st cb sb h (pc + len) a l
    | none => none
  | .newarray t => mm_newa E lv st cb sb h (pc + len) t
  | .multianewarray _ 2 => mm_newm E lv st cb sb h (pc + len)
  | _ => none
/-- does the instruction call, and how: 0 static, 1 virtual, 2 special -/
def mm_inv (ins : Instr) : Option Nat := match ins with
  | .invokestatic _ => some 0
  | .invokevirtual _ => some 1
  | .invokespecial _ => some 2
  | _ => none
/-- does the instruction return: 0 nothing, 1 an int, 3 a long -/
def mm_rtn (ins : Instr) : Option Nat := match ins with
  | .return_ => some 0
  | .ireturn => some 1
  | .lreturn => some 3
  | _ => none
/-- the methods: code in chunks of 16 bytes, locals, and the rest -/
abbrev mm_T : Type := List (List (List mm_I) × Nat × mm_M)
def mm_at (P : mm_T) (m pc : Nat) : Option (mm_I × Nat × mm_M) := match P[m]? with
  | some (cs, nL, d) => (match cs[pc / 16]? with
    | some l => (l.find? (fun q => q.1 == pc)).map (fun q => (q, nL, d))
    | none => none)
  | none => none
/-- a machine: frames, heap, the last answer -/
abbrev mm_C : Type := List mm_F × mm_H × Option Value
/-- what a method answers, by its kind -/
def mm_ans (rk ik : Nat) (st : List Value) : Option (Option Value) := match st with
  | [] => if rk = 0 ∧ ik = 0 then some none else none
  | [.int v] => if ik = 1 ∧ (rk = 1 ∨ (rk = 2 ∧ (v = 0 ∨ v = 1)) ∨ (rk = 4 ∧ -128 ≤ v.toInt ∧ v.toInt ≤ 127) ∨ (rk = 5 ∧ 0 ≤ v.toInt ∧ v.toInt ≤ 65535)) then some (some (.int v)) else none
  | [.long v] => if ik = 3 ∧ rk = 3 then some (some (.long v)) else none
  | _ => none
def mm_back (v : Option Value) (fs : List mm_F) (h : mm_H) : mm_C := match fs with
  | [] => ([], h, v)
  | (m, pc, lv, st, cb, sb) :: fs => ((m, pc, lv, v.toList ++ st, cb, sb) :: fs, h, none)
/-- the receiver of a call: none is wanted, or an object of the class -/
def mm_recv (E : mm_E) (h : mm_H) (kd ci : Nat) (st : List Value) : Option (List Value × List Value) := if kd = 0 then some ([], st) else match st with
  | .ref a :: r => if ci = 90 then (match mm_str E a with
    | some _ => some ([.ref a], r)
    | none => none) else match mm_cell E h a with
    | some (.inr (c, _)) => if c = ci then some ([.ref a], r) else none
    | _ => none
  | _ => none
/-- the two special callees: method 0 is java.lang.Object's constructor, method 1 System.arraycopy -/
def mm_sp (E : mm_E) (a ik : Nat) (lv : mm_V) (st : List Value) (cb sb : Nat) (h : mm_H) (pc' : Nat) : mm_O := if a = 0 then (match st with
  | .ref _ :: r => if ik = 2 ∧ (r.map fun v => v.category).sum ≤ 8 then some (pc', lv, r, cb, sb, h) else none
  | _ => none) else (if ik = 0 then mm_copy E lv st cb sb h pc' else none)
def mm_call (E : mm_E) (L : Nat) (P : mm_T) (k : Nat) (ik : Nat) (m pc' : Nat) (lv : mm_V) (st : List Value) (cb sb : Nat) (fs : List mm_F) (h : mm_H) : Option mm_C := match P[k]? with
  | some (_, nL, np, kd, ci, _, mc, ms) => if kd = ik ∧ fs.length + 1 < L ∧ mc ≤ cb ∧ ms ≤ sb ∧ np ≤ st.length then
      (match mm_recv E h kd ci (st.drop np) with
      | some (rv, r) => if (r.map fun v => v.category).sum ≤ 8 ∧ (lg_sl (rv ++ (st.take np).reverse)).length ≤ nL then some ((k, 0, lv_args 0 (rv ++ (st.take np).reverse), [], mc, ms) :: (m, pc', lv, r, cb - mc, sb - ms) :: fs, h, none) else none
      | none => none) else none
  | none => none
/-- a step -/
def mm_stp (E : mm_E) (kds : List (List Nat)) (P : mm_T) (L : Nat) (c : mm_C) : Option mm_C := match c with
  | ([], _, _) => none
  | ((m, pc, lv, st, cb, sb) :: fs, h, _) => match mm_at P m pc with
    | none => none
    | some ((_, len, ins, a, b, z, _), nL, (_, _, _, rk, _, _)) => match mm_inv ins with
      | some ik => if a < 2 then (if fs.length + 1 < L then (match mm_sp E a ik lv st cb sb h (pc + len) with
          | some (pc', lv', st', cb', sb', h') => some ((m, pc', lv', st', cb', sb') :: fs, h', none)
          | none => none) else none)
        else mm_call E L P a ik m (pc + len) lv st cb sb fs h
      | none => match mm_rtn ins with
        | some ik => (match mm_ans rk ik st with
          | some v => some (mm_back v fs h)
          | none => none)
        | none => match mm_ex E kds nL ins len a b z pc lv st cb sb h with
          | some (pc', lv', st', cb', sb', h') => some ((m, pc', lv', st', cb', sb') :: fs, h', none)
          | none => none
def mm_run (E : mm_E) (kds : List (List Nat)) (P : mm_T) (L : Nat) : Nat → mm_C → Option mm_C
  | 0, c => some c
  | n + 1, c => match mm_stp E kds P L c with
    | some c' => mm_run E kds P L n c'
    | none => none
