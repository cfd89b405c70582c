/-! THE ENGINE: the mini machine over codes. A code is a number: below 2^32 an int (2^31 more than it is), from 2^32 on a named int, from 2 * 2^32 on the cell of that number, 3 * 2^32 null, and 1 more any int, 2 more any long, 3 more nothing known, from 16 more on a static array; from 4 * 2^32 on a named value; from 2^65 on a long. A row of codes is one number, 68 bits each, behind 32 bits: kind (5 + a class, or an array's) and length. -/
noncomputable def en_if {α : Type} (b : Bool) (t f : α) : α := Bool.rec (motive := fun _ => α) f t b
noncomputable def en_nth {α : Type} (d : α) (l : List α) : Nat → α := List.rec (motive := fun _ => Nat → α) (fun _ => d) (fun a _ ih i => Nat.rec (motive := fun _ => α) a (fun j _ => ih j) i) l
noncomputable def en_set {α : Type} (l : List α) : Nat → α → List α := List.rec (motive := fun _ => Nat → α → List α) (fun _ _ => []) (fun a r ih i v => Nat.rec (motive := fun _ => List α) (v :: r) (fun j _ => a :: ih j v) i) l
abbrev en_H : Type := List (List Nat)
abbrev en_V : Type := List (Nat × Nat)
/-- a frame that waits: method, pc, locals, stack, cells, slots, depth -/
abbrev en_F : Type := Nat × Nat × Nat × List Nat × Nat × Nat × Nat
/-- what goes on from a state: method, pc, locals, stack, cells, slots, depth, frames, heap, cells made, ranges -/
abbrev en_C : Type := Nat → Nat → Nat → List Nat → Nat → Nat → Nat → List en_F → en_H → Nat → en_V → Bool
/-- an instruction -/
abbrev en_O : Type := Nat → List Nat → Nat → Nat → Nat → List en_F → en_H → Nat → en_V → en_C → Bool
noncomputable def en_get (h : en_H) (k : Nat) : Nat := en_nth 0 (en_nth [] h (Nat.div k 12)) (Nat.mod k 12)
noncomputable def en_put (h : en_H) (k N : Nat) : en_H := en_set h (Nat.div k 12) (en_set (en_nth [] h (Nat.div k 12)) (Nat.mod k 12) N)
def en_elt (N j : Nat) : Nat := Nat.mod (Nat.shiftRight N (Nat.add 32 (Nat.mul 68 j))) 295147905179352825856
def en_eset (N j v : Nat) : Nat := Nat.xor N (Nat.shiftLeft (Nat.xor (en_elt N j) v) (Nat.add 32 (Nat.mul 68 j)))
def en_kind (N : Nat) : Nat := Nat.mod N 256
def en_len (N : Nat) : Nat := Nat.mod (Nat.div N 256) 16777216
/-- a row of n times the code D -/
def en_rep (kind n D : Nat) : Nat := Nat.add (Nat.add kind (Nat.mul 256 n)) (Nat.mul 4294967296 (Nat.mul D (Nat.div (Nat.sub (Nat.pow 2 (Nat.mul 68 n)) 1) 295147905179352825855)))
/-- is a code an int, a long, a cell or null or a static array -/
noncomputable def en_isI (c : Nat) : Bool := en_if (Nat.ble c 8589934591) true (Nat.beq c 12884901889)
noncomputable def en_isL (c : Nat) : Bool := en_if (Nat.ble 36893488147419103232 c) true (Nat.beq c 12884901890)
noncomputable def en_isR (c : Nat) : Bool := en_if (Nat.ble 8589934592 c) (en_if (Nat.ble c 12884901887) true (en_if (Nat.ble 12884901904 c) (Nat.ble c 12884902911) false)) false
/-- the int's number if the code is one that is known; else, if it is a named one of few values, each of them; else the rest -/
noncomputable def en_all (f : Nat → Bool) (lo : Nat) (n : Nat) : Bool := Nat.rec (motive := fun _ => Nat → Bool) (fun lo => f lo) (fun _ ih lo => en_if (f lo) (ih (Nat.succ lo)) false) n lo
noncomputable def en_pt (ev : en_V) (c : Nat) (k : Nat → Bool) (r : en_V → Bool) (o : Bool) : Bool :=
  en_if (Nat.ble c 4294967295) (k c) (en_if (Nat.ble c 8589934591)
    (Prod.rec (motive := fun _ => Bool) (fun lo hi => en_if (Nat.beq lo hi) (k lo) (en_if (Nat.ble (Nat.sub hi lo) 300) (en_if (Nat.ble lo hi) (en_all (fun v => r (en_set ev (Nat.sub c 4294967296) (v, v))) lo (Nat.sub hi lo)) true) o)) (en_nth (0, 4294967295) ev (Nat.sub c 4294967296))) o)
noncomputable def en_push (m pc c : Nat) : en_O := fun loc st cb sb dp fs hp nx ev ih => ih m pc loc (c :: st) cb sb dp fs hp nx ev
noncomputable def en_load (t : Nat → Bool) (m pc i : Nat) : en_O := fun loc st cb sb dp fs hp nx ev ih => en_if (t (en_elt loc i)) (ih m pc loc (en_elt loc i :: st) cb sb dp fs hp nx ev) false
noncomputable def en_pop (st : List Nat) (k : Nat → List Nat → Bool) : Bool := List.rec (motive := fun _ => Bool) false (fun a r _ => k a r) st
/-- storing a value of one slot: the slot ahead holds no long -/
noncomputable def en_store (t : Nat → Bool) (m pc i : Nat) : en_O := fun loc st cb sb dp fs hp nx ev ih => en_pop st (fun c r => en_if (t c) (en_if (Nat.rec (motive := fun _ => Bool) true (fun j _ => Nat.ble (en_elt loc j) 12884902911) i) (ih m pc (en_eset loc i c) r cb sb dp fs hp nx ev) false) false)
noncomputable def en_storeL (m pc i : Nat) : en_O := fun loc st cb sb dp fs hp nx ev ih => en_pop st (fun c r => en_if (en_isL c) (en_if (Nat.rec (motive := fun _ => Bool) true (fun j _ => Nat.ble (en_elt loc j) 12884902911) i) (ih m pc (en_eset (en_eset loc i c) (Nat.succ i) 12884901891) r cb sb dp fs hp nx ev) false) false)
/-- two ints by a rule g of known ones -/
noncomputable def en_bin (g : Nat → Nat → Option Nat) (q : Bool) (m pc pc' : Nat) : en_O := fun loc st cb sb dp fs hp nx ev ih => en_pop st (fun y r => en_pop r (fun x r =>
  en_if (en_isI x) (en_if (en_isI y) (en_pt ev y (fun y => en_pt ev x (fun x => Option.rec (motive := fun _ => Bool) false (fun v => ih m pc' loc (v :: r) cb sb dp fs hp nx ev) (g x y)) (fun ev => ih m pc loc st cb sb dp fs hp nx ev) (en_if q (ih m pc' loc (12884901889 :: r) cb sb dp fs hp nx ev) false)) (fun ev => ih m pc loc st cb sb dp fs hp nx ev) (en_if q (ih m pc' loc (12884901889 :: r) cb sb dp fs hp nx ev) false)) false) false))
noncomputable def en_add (x y : Nat) : Option Nat := some (Nat.mod (Nat.add (Nat.add x y) 2147483648) 4294967296)
noncomputable def en_sub (x y : Nat) : Option Nat := some (Nat.mod (Nat.sub (Nat.add x 6442450944) y) 4294967296)
noncomputable def en_mul (x y : Nat) : Option Nat := some (Nat.mod (Nat.add (Nat.mul (Nat.add x 2147483648) (Nat.add y 2147483648)) 2147483648) 4294967296)
/-- rules of ints that are not below 0 -/
noncomputable def en_pos (f : Nat → Nat → Nat) (x y : Nat) : Option Nat := en_if (Nat.ble 2147483648 x) (en_if (Nat.ble 2147483648 y) (en_if (Nat.ble (f (Nat.sub x 2147483648) (Nat.sub y 2147483648)) 2147483647) (some (Nat.add (f (Nat.sub x 2147483648) (Nat.sub y 2147483648)) 2147483648)) none) none) none
noncomputable def en_div (x y : Nat) : Option Nat := en_if (Nat.beq y 2147483648) none (en_pos Nat.div x y)
noncomputable def en_rem (x y : Nat) : Option Nat := en_if (Nat.beq y 2147483648) none (en_pos Nat.mod x y)
noncomputable def en_sh (f : Nat → Nat → Nat) (x y : Nat) : Option Nat := en_if (Nat.ble y 2147483679) (en_pos f x y) none
/-- x & 63 of the named int 0 is the named int 6 -/
noncomputable def en_and (m pc pc' : Nat) : en_O := fun loc st cb sb dp fs hp nx ev ih => en_pop st (fun y r => en_pop r (fun x r =>
  en_if (Nat.beq x 4294967296) (en_if (Nat.beq y 2147483711) (ih m pc' loc (4294967302 :: r) cb sb dp fs hp nx ev) false) (en_bin (en_pos Nat.land) true m pc pc' loc st cb sb dp fs hp nx ev ih)))
noncomputable def en_any1 (m pc' : Nat) : en_O := fun loc st cb sb dp fs hp nx ev ih => en_pop st (fun x r => en_if (en_isI x) (ih m pc' loc (12884901889 :: r) cb sb dp fs hp nx ev) false)
/-- an int that is not below 0 as a long -/
noncomputable def en_i2l (m pc pc' : Nat) : en_O := fun loc st cb sb dp fs hp nx ev ih => en_pop st (fun x r => en_if (Nat.ble x 4294967295) (en_if (Nat.ble 2147483648 x) (ih m pc' loc (Nat.add 36893488147419103232 (Nat.sub x 2147483648) :: r) cb sb dp fs hp nx ev) false) false)
noncomputable def en_binL (f : Nat → Nat → Nat) (m pc' : Nat) : en_O := fun loc st cb sb dp fs hp nx ev ih => en_pop st (fun y r => en_pop r (fun x r => en_if (Nat.ble 36893488147419103232 x) (en_if (Nat.ble 36893488147419103232 y)
  (en_if (Nat.ble (f (Nat.sub x 36893488147419103232) (Nat.sub y 36893488147419103232)) 9223372036854775807) (ih m pc' loc (Nat.add 36893488147419103232 (f (Nat.sub x 36893488147419103232) (Nat.sub y 36893488147419103232)) :: r) cb sb dp fs hp nx ev) false) false) false))
noncomputable def en_iinc (m pc pc' i k : Nat) : en_O := fun loc st cb sb dp fs hp nx ev ih => en_if (Nat.ble (en_elt loc i) 4294967295) (en_if (Nat.rec (motive := fun _ => Bool) true (fun j _ => Nat.ble (en_elt loc j) 12884902911) i) (ih m pc' (en_eset loc i (Nat.mod (Nat.add (en_elt loc i) k) 4294967296)) st cb sb dp fs hp nx ev) false) false
noncomputable def en_dup (m pc' : Nat) : en_O := fun loc st cb sb dp fs hp nx ev ih => en_pop st (fun x _ => en_if (Nat.ble x 12884902911) (en_if (Nat.beq x 12884901890) false (ih m pc' loc (x :: st) cb sb dp fs hp nx ev)) false)
noncomputable def en_drop (m pc' : Nat) : en_O := fun loc st cb sb dp fs hp nx ev ih => en_pop st (fun x r => en_if (Nat.ble x 12884902911) (en_if (Nat.beq x 12884901890) false (ih m pc' loc r cb sb dp fs hp nx ev)) false)
noncomputable def en_dup2 (m pc' : Nat) : en_O := fun loc st cb sb dp fs hp nx ev ih => en_pop st (fun x r => en_pop r (fun y _ => en_if (Nat.ble x 12884902911) (en_if (Nat.beq x 12884901890) false (en_if (Nat.ble y 12884902911) (en_if (Nat.beq y 12884901890) false (ih m pc' loc (x :: y :: st) cb sb dp fs hp nx ev)) false)) false))
/-- a test: of two known ints by g; of a named one beside a known one by its range -/
noncomputable def en_rng (lo hi : Nat) (k : Nat × Nat → Bool) : Bool := en_if (Nat.ble lo hi) (k (lo, hi)) true
noncomputable def en_cmp (k : Jvm.ClassFile.Cond) (x y : Nat) (ev : en_V) (kt kf : en_V → Bool) : Bool :=
  en_if (Nat.ble x 4294967295) (en_if (Nat.ble y 4294967295)
    (Jvm.ClassFile.Cond.rec (motive := fun _ => Bool) (en_if (Nat.beq x y) (kt ev) (kf ev)) (en_if (Nat.beq x y) (kf ev) (kt ev)) (en_if (Nat.ble y x) (kf ev) (kt ev)) (en_if (Nat.ble y x) (kt ev) (kf ev)) (en_if (Nat.ble x y) (kf ev) (kt ev)) (en_if (Nat.ble x y) (kt ev) (kf ev)) k)
    (en_if (kt ev) (kf ev) false))
  (en_if (Nat.ble x 8589934591) (en_if (Nat.ble y 4294967295)
    (Prod.rec (motive := fun _ => Bool) (fun lo hi =>
      Jvm.ClassFile.Cond.rec (motive := fun _ => Bool)
        (en_if (en_if (Nat.ble lo y) (en_if (Nat.ble y hi) (kt (en_set ev (Nat.sub x 4294967296) (y, y))) true) true) (en_if (Nat.beq y lo) (en_rng (Nat.succ lo) hi (fun q => kf (en_set ev (Nat.sub x 4294967296) q))) (en_if (Nat.beq y hi) (en_rng lo (Nat.pred hi) (fun q => kf (en_set ev (Nat.sub x 4294967296) q))) (kf ev))) false)
        (en_if (en_if (Nat.ble lo y) (en_if (Nat.ble y hi) (kf (en_set ev (Nat.sub x 4294967296) (y, y))) true) true) (en_if (Nat.beq y lo) (en_rng (Nat.succ lo) hi (fun q => kt (en_set ev (Nat.sub x 4294967296) q))) (en_if (Nat.beq y hi) (en_rng lo (Nat.pred hi) (fun q => kt (en_set ev (Nat.sub x 4294967296) q))) (kt ev))) false)
        (en_if (Nat.ble y lo) (kf ev) (en_if (Nat.ble y hi) (en_if (kt (en_set ev (Nat.sub x 4294967296) (lo, Nat.pred y))) (kf (en_set ev (Nat.sub x 4294967296) (y, hi))) false) (kt ev)))
        (en_if (Nat.ble y lo) (kt ev) (en_if (Nat.ble y hi) (en_if (kf (en_set ev (Nat.sub x 4294967296) (lo, Nat.pred y))) (kt (en_set ev (Nat.sub x 4294967296) (y, hi))) false) (kf ev)))
        (en_if (Nat.ble hi y) (kf ev) (en_if (Nat.ble lo y) (en_if (kf (en_set ev (Nat.sub x 4294967296) (lo, y))) (kt (en_set ev (Nat.sub x 4294967296) (Nat.succ y, hi))) false) (kt ev)))
        (en_if (Nat.ble hi y) (kt ev) (en_if (Nat.ble lo y) (en_if (kt (en_set ev (Nat.sub x 4294967296) (lo, y))) (kf (en_set ev (Nat.sub x 4294967296) (Nat.succ y, hi))) false) (kf ev))) k)
      (en_nth (0, 4294967295) ev (Nat.sub x 4294967296)))
    (en_if (kt ev) (kf ev) false)) (en_if (kt ev) (kf ev) false))
/-- the test turned about, for a known one beside a named one -/
def en_flip (k : Jvm.ClassFile.Cond) : Jvm.ClassFile.Cond := match k with
  | .eq => .eq
  | .ne => .ne
  | .lt => .gt
  | .ge => .le
  | .gt => .lt
  | .le => .ge
noncomputable def en_br (k : Jvm.ClassFile.Cond) (m pt pf : Nat) (x y : Nat) : en_O := fun loc st cb sb dp fs hp nx ev ih =>
  en_if (en_isI x) (en_if (en_isI y) (en_if (Nat.ble x 4294967295) (en_if (Nat.ble y 4294967295)
    (en_cmp k x y ev (fun ev => ih m pt loc st cb sb dp fs hp nx ev) (fun ev => ih m pf loc st cb sb dp fs hp nx ev))
    (en_cmp (en_flip k) y x ev (fun ev => ih m pt loc st cb sb dp fs hp nx ev) (fun ev => ih m pf loc st cb sb dp fs hp nx ev)))
    (en_cmp k x y ev (fun ev => ih m pt loc st cb sb dp fs hp nx ev) (fun ev => ih m pf loc st cb sb dp fs hp nx ev))) false) false
noncomputable def en_icmp (k : Jvm.ClassFile.Cond) (m pt pf : Nat) : en_O := fun loc st cb sb dp fs hp nx ev ih => en_pop st (fun y r => en_pop r (fun x r => en_br k m pt pf x y loc r cb sb dp fs hp nx ev ih))
noncomputable def en_if0 (k : Jvm.ClassFile.Cond) (m pt pf : Nat) : en_O := fun loc st cb sb dp fs hp nx ev ih => en_pop st (fun x r => en_br k m pt pf x 2147483648 loc r cb sb dp fs hp nx ev ih)
noncomputable def en_goto (m pt : Nat) : en_O := fun loc st cb sb dp fs hp nx ev ih => ih m pt loc st cb sb dp fs hp nx ev
/-- the switch: offs by places from lo (its number as a code) on -/
noncomputable def en_sw (m pc pd lo n : Nat) (ps : List Nat) : en_O := fun loc st cb sb dp fs hp nx ev ih => en_pop st (fun x r => en_if (en_isI x)
  (en_pt ev x (fun x => en_if (Nat.ble lo x) (en_if (Nat.ble x (Nat.add lo n)) (ih m (en_nth pd ps (Nat.sub x lo)) loc r cb sb dp fs hp nx ev) (ih m pd loc r cb sb dp fs hp nx ev)) (ih m pd loc r cb sb dp fs hp nx ev)) (fun ev => ih m pc loc st cb sb dp fs hp nx ev)
    (en_cmp .lt x lo ev (fun ev => ih m pd loc r cb sb dp fs hp nx ev) (fun ev => en_cmp .gt x (Nat.add lo n) ev (fun ev => ih m pd loc r cb sb dp fs hp nx ev) (fun ev => ih m pc loc st cb sb dp fs hp nx ev)))) false)
/-- an index that is known and in the row -/
noncomputable def en_idx (len : Nat) (i : Nat) (k : Nat → Bool) : Bool := en_if (Nat.ble 2147483648 i) (en_if (Nat.ble (Nat.succ (Nat.sub i 2147483648)) len) (k (Nat.sub i 2147483648)) false) false
/-- the cell of a code -/
noncomputable def en_cell (c : Nat) (k : Nat → Bool) (s : Nat → Bool) : Bool := en_if (Nat.ble 8589934592 c) (en_if (Nat.ble c 12884901887) (k (Nat.sub c 8589934592)) (en_if (Nat.ble 12884901904 c) (en_if (Nat.ble c 12884902911) (s (Nat.sub c 12884901904)) false) false)) false
noncomputable def en_aload (SA : List (Nat × Nat)) (t : Nat → Bool) (m pc pc' : Nat) : en_O := fun loc st cb sb dp fs hp nx ev ih => en_pop st (fun i r => en_pop r (fun a r =>
  en_if (en_isI i) (en_pt ev i (fun i => en_cell a
    (fun a => en_if (Nat.ble (Nat.succ a) nx) (en_if (t (en_kind (en_get hp a))) (en_idx (en_len (en_get hp a)) i (fun i => ih m pc' loc (en_elt (en_get hp a) i :: r) cb sb dp fs hp nx ev)) false) false)
    (fun s => en_if (t 0) (Prod.rec (motive := fun _ => Bool) (fun n row => en_idx n i (fun i => ih m pc' loc (en_elt row i :: r) cb sb dp fs hp nx ev)) (en_nth (0, 0) SA s)) false))
    (fun ev => ih m pc loc st cb sb dp fs hp nx ev) false) false))
/-- may a value be stored in a row of a kind: ints anywhere, bytes and booleans if they are such -/
noncomputable def en_fit (kind v : Nat) : Bool := en_if (Nat.beq kind 0) (en_isI v) (en_if (Nat.beq kind 1) (en_if (Nat.ble v 4294967295) (en_if (Nat.ble 2147483520 v) (Nat.ble v 2147483775) false) (en_isI v)) (en_if (Nat.beq kind 2) (en_if (Nat.ble v 4294967295) (en_if (Nat.ble 2147483648 v) (Nat.ble v 2147483649) false) (en_isI v)) (en_if (Nat.beq kind 3) (en_isL v) false)))
/-- a named int that goes through a narrowing is any int -/
noncomputable def en_nar (kind v : Nat) : Nat := en_if (Nat.beq kind 0) v (en_if (Nat.beq kind 3) v (en_if (Nat.ble v 4294967295) v 12884901889))
noncomputable def en_astore (t : Nat → Bool) (m pc pc' : Nat) : en_O := fun loc st cb sb dp fs hp nx ev ih => en_pop st (fun v r => en_pop r (fun i r => en_pop r (fun a r =>
  en_if (en_isI i) (en_pt ev i (fun i => en_cell a
    (fun a => en_if (Nat.ble (Nat.succ a) nx) (en_if (t (en_kind (en_get hp a))) (en_if (en_fit (en_kind (en_get hp a)) v) (en_idx (en_len (en_get hp a)) i (fun i => ih m pc' loc r cb sb dp fs (en_put hp a (en_eset (en_get hp a) i (en_nar (en_kind (en_get hp a)) v))) nx ev)) false) false) false)
    (fun _ => false)) (fun ev => ih m pc loc st cb sb dp fs hp nx ev) false) false)))
noncomputable def en_alen (SA : List (Nat × Nat)) (m pc' : Nat) : en_O := fun loc st cb sb dp fs hp nx ev ih => en_pop st (fun a r => en_cell a
    (fun a => en_if (Nat.ble (Nat.succ a) nx) (en_if (Nat.ble (en_kind (en_get hp a)) 4) (ih m pc' loc (Nat.add (en_len (en_get hp a)) 2147483648 :: r) cb sb dp fs hp nx ev) false) false)
    (fun s => Prod.rec (motive := fun _ => Bool) (fun n _ => en_if (Nat.ble n 16777215) (ih m pc' loc (Nat.add n 2147483648 :: r) cb sb dp fs hp nx ev) false) (en_nth (0, 0) SA s)))
noncomputable def en_getf (m pc' ci b : Nat) : en_O := fun loc st cb sb dp fs hp nx ev ih => en_pop st (fun a r => en_cell a
    (fun a => en_if (Nat.ble (Nat.succ a) nx) (en_if (Nat.beq (en_kind (en_get hp a)) (Nat.add 5 ci)) (en_if (Nat.ble (Nat.succ b) (en_len (en_get hp a))) (ih m pc' loc (en_elt (en_get hp a) b :: r) cb sb dp fs hp nx ev) false) false) false) (fun _ => false))
noncomputable def en_ffit (kd v : Nat) : Bool := en_if (Nat.beq kd 0) (en_isI v) (en_if (Nat.beq kd 1) (en_isL v) (en_if (Nat.beq kd 2) (en_if (Nat.ble 2147483648 v) (Nat.ble v 2147483649) false) (en_if (Nat.beq kd 3) (en_if (en_isR v) true (Nat.beq v 12884901888)) false)))
noncomputable def en_putf (m pc' ci b kd : Nat) : en_O := fun loc st cb sb dp fs hp nx ev ih => en_pop st (fun v r => en_pop r (fun a r => en_cell a
    (fun a => en_if (Nat.ble (Nat.succ a) nx) (en_if (Nat.beq (en_kind (en_get hp a)) (Nat.add 5 ci)) (en_if (Nat.ble (Nat.succ b) (en_len (en_get hp a))) (en_if (en_ffit kd v) (ih m pc' loc r cb sb dp fs (en_put hp a (en_eset (en_get hp a) b v)) nx ev) false) false) false) false) (fun _ => false)))
/-- a new cell N of n slots -/
noncomputable def en_new (m pc' n N : Nat) (cb sb nx : Nat) (hp : en_H) (loc : Nat) (st : List Nat) (dp : Nat) (fs : List en_F) (ev : en_V) (ih : en_C) : Bool :=
  en_if (Nat.ble 1 cb) (en_if (Nat.ble n sb) (en_if (Nat.ble (Nat.succ nx) 168) (ih m pc' loc (Nat.add 8589934592 nx :: st) (Nat.sub cb 1) (Nat.sub sb n) dp fs (en_put hp nx N) (Nat.succ nx) ev) false) false) false
def en_dfl (kd : Nat) : Nat := match kd with
  | 0 => 2147483648
  | 1 => 36893488147419103232
  | 2 => 2147483648
  | _ => 12884901888
def en_obj (l : List Nat) (N j : Nat) : Nat := match l with
  | [] => N
  | k :: r => en_obj r (en_eset N j (en_dfl k)) (Nat.succ j)
noncomputable def en_newo (m pc' ci : Nat) (l : List Nat) : en_O := fun loc st cb sb dp fs hp nx ev ih => en_new m pc' l.length (en_obj l (Nat.add (Nat.add 5 ci) (Nat.mul 256 l.length)) 0) cb sb nx hp loc st dp fs ev ih
noncomputable def en_newa (m pc' kind D : Nat) : en_O := fun loc st cb sb dp fs hp nx ev ih => en_pop st (fun n r => en_if (Nat.ble 2147483648 n) (en_if (Nat.ble n 2147583648) (en_new m pc' (Nat.sub n 2147483648) (en_rep kind (Nat.sub n 2147483648) D) cb sb nx hp loc r dp fs ev ih) false) false)
/-- n new rows N from the cell k on -/
noncomputable def en_rows (n : Nat) : en_H → Nat → Nat → en_H := Nat.rec (motive := fun _ => en_H → Nat → Nat → en_H) (fun hp _ _ => hp) (fun _ ih hp k N => ih (en_put hp k N) (Nat.succ k) N) n
noncomputable def en_refs (n : Nat) : Nat → Nat → Nat → Nat := Nat.rec (motive := fun _ => Nat → Nat → Nat → Nat) (fun N _ _ => N) (fun _ ih N j c => ih (en_eset N j c) (Nat.succ j) (Nat.succ c)) n
noncomputable def en_mna (m pc' : Nat) : en_O := fun loc st cb sb dp fs hp nx ev ih => en_pop st (fun k r => en_pop r (fun n r =>
  en_if (Nat.ble 2147483648 n) (en_if (Nat.ble n 2147483748) (en_if (Nat.ble 2147483648 k) (en_if (Nat.ble k 2147483748)
    (en_if (Nat.ble (Nat.succ (Nat.sub n 2147483648)) cb) (en_if (Nat.ble (Nat.add (Nat.sub n 2147483648) (Nat.mul (Nat.sub n 2147483648) (Nat.sub k 2147483648))) sb) (en_if (Nat.ble (Nat.add (Nat.succ nx) (Nat.sub n 2147483648)) 168)
      (ih m pc' loc (Nat.add 8589934592 nx :: r) (Nat.sub cb (Nat.succ (Nat.sub n 2147483648))) (Nat.sub sb (Nat.add (Nat.sub n 2147483648) (Nat.mul (Nat.sub n 2147483648) (Nat.sub k 2147483648)))) dp fs
        (en_rows (Nat.sub n 2147483648) (en_put hp nx (en_refs (Nat.sub n 2147483648) (Nat.add 4 (Nat.mul 256 (Nat.sub n 2147483648))) 0 (Nat.add 8589934592 (Nat.succ nx)))) (Nat.succ nx) (en_rep 0 (Nat.sub k 2147483648) 2147483648)) (Nat.add (Nat.succ nx) (Nat.sub n 2147483648)) ev) false) false) false) false) false) false) false))
/-- the words of a stack -/
noncomputable def en_cat (st : List Nat) : Nat := List.rec (motive := fun _ => Nat) 0 (fun c _ ih => en_if (Nat.ble c 12884901889) (Nat.succ ih) (Nat.succ (Nat.succ ih))) st
noncomputable def en_oinit (m pc' : Nat) : en_O := fun loc st cb sb dp fs hp nx ev ih => en_pop st (fun a r => en_if (en_isR a) (en_if (Nat.ble 1 dp) (en_if (Nat.ble (en_cat r) 8) (ih m pc' loc r cb sb dp fs hp nx ev) false) false) false)
/-- a whole row of ints over another of its length -/
noncomputable def en_copy (m pc' : Nat) : en_O := fun loc st cb sb dp fs hp nx ev ih => en_pop st (fun n r => en_pop r (fun q r => en_pop r (fun d r => en_pop r (fun p r => en_pop r (fun s r =>
  en_if (Nat.beq p 2147483648) (en_if (Nat.beq q 2147483648) (en_if (Nat.ble 1 dp) (en_if (Nat.ble (en_cat r) 8) (en_cell s (fun s => en_cell d (fun d => en_if (Nat.ble (Nat.succ s) nx) (en_if (Nat.ble (Nat.succ d) nx)
    (en_if (Nat.beq (en_kind (en_get hp s)) 0) (en_if (Nat.beq (en_kind (en_get hp d)) 0) (en_if (Nat.beq n (Nat.add 2147483648 (en_len (en_get hp s)))) (en_if (Nat.beq n (Nat.add 2147483648 (en_len (en_get hp d))))
      (ih m pc' loc r cb sb dp fs (en_put hp d (en_get hp s)) nx ev) false) false) false) false) false) false) (fun _ => false)) (fun _ => false)) false) false) false) false)))))
/-- the callee's locals out of its values -/
noncomputable def en_args (l : List Nat) : Nat → Nat → (Nat → Nat → Bool) → Bool := List.rec (motive := fun _ => Nat → Nat → (Nat → Nat → Bool) → Bool) (fun j loc k => k j loc)
  (fun c _ ih j loc k => en_if (en_isL c) (ih (Nat.succ (Nat.succ j)) (en_eset loc j c) k) (en_if (Nat.ble c 12884902911) (en_if (Nat.beq c 12884901891) false (ih (Nat.succ j) (en_eset loc j c) k)) false)) l
noncomputable def en_take (n : Nat) : List Nat → List Nat → (List Nat → List Nat → Bool) → Bool := Nat.rec (motive := fun _ => List Nat → List Nat → (List Nat → List Nat → Bool) → Bool) (fun acc st k => k acc st) (fun _ ih acc st k => en_pop st (fun a r => ih (a :: acc) r k)) n
noncomputable def en_call (m pc' k nL np kd ci mc ms : Nat) : en_O := fun loc st cb sb dp fs hp nx ev ih => en_take np [] st (fun as r =>
  en_if (Nat.ble 1 dp) (en_if (Nat.ble mc cb) (en_if (Nat.ble ms sb)
    (en_if (Nat.beq kd 0) (en_if (Nat.ble (en_cat r) 8) (en_args as 0 (en_rep 0 nL 12884901891) (fun j l => en_if (Nat.ble j nL) (ih k 0 l [] mc ms (Nat.pred dp) ((m, pc', loc, r, Nat.sub cb mc, Nat.sub sb ms, dp) :: fs) hp nx ev) false)) false)
      (en_pop r (fun a r => en_cell a (fun a0 => en_if (Nat.ble (Nat.succ a0) nx) (en_if (Nat.beq (en_kind (en_get hp a0)) (Nat.add 5 ci)) (en_if (Nat.ble (en_cat r) 8) (en_args (a :: as) 0 (en_rep 0 nL 12884901891) (fun j l => en_if (Nat.ble j nL) (ih k 0 l [] mc ms (Nat.pred dp) ((m, pc', loc, r, Nat.sub cb mc, Nat.sub sb ms, dp) :: fs) hp nx ev) false)) false) false) false) (fun _ => false)))) false) false) false)
/-- a return: fin looks at what the lowest frame answers -/
noncomputable def en_back (fin : List Nat → en_H → Nat → en_V → Bool) (v : List Nat) : en_O := fun _ _ _ _ _ fs hp nx ev ih => List.rec (motive := fun _ => Bool) (fin v hp nx ev) (fun f fs _ => Prod.rec (motive := fun _ => Bool) (fun m f => Prod.rec (motive := fun _ => Bool) (fun pc f => Prod.rec (motive := fun _ => Bool) (fun loc f => Prod.rec (motive := fun _ => Bool) (fun st f => Prod.rec (motive := fun _ => Bool) (fun cb f => Prod.rec (motive := fun _ => Bool) (fun sb dp => ih m pc loc (List.rec (motive := fun _ => List Nat) st (fun a _ _ => a :: st) v) cb sb dp fs hp nx ev) f) f) f) f) f) f) fs
noncomputable def en_ret (fin : List Nat → en_H → Nat → en_V → Bool) (rk ik : Nat) : en_O := fun loc st cb sb dp fs hp nx ev ih =>
  List.rec (motive := fun _ => Bool) (en_if (Nat.beq rk 0) (en_if (Nat.beq ik 0) (en_back fin [] loc st cb sb dp fs hp nx ev ih) false) false)
    (fun v r _ => List.rec (motive := fun _ => Bool)
      (en_if (Nat.beq ik 1) (en_if (en_isI v) (en_if (Nat.beq rk 1) (en_back fin [v] loc st cb sb dp fs hp nx ev ih) (en_if (Nat.beq rk 2) (en_if (Nat.ble 2147483648 v) (en_if (Nat.ble v 2147483649) (en_back fin [v] loc st cb sb dp fs hp nx ev ih) false) false) false)) false)
        (en_if (Nat.beq ik 3) (en_if (en_isL v) (en_if (Nat.beq rk 3) (en_back fin [v] loc st cb sb dp fs hp nx ev ih) false) false) false)) (fun _ _ _ => false) r) st
def en_c (x : Int) : Nat := (x + 2147483648).toNat
/-- an instruction of the table as an instruction of the engine -/
noncomputable def en_comp (SA : List (Nat × Nat)) (fin : List Nat → en_H → Nat → en_V → Bool) (kds : List (List Nat)) (P : mm_T) (m pc nL rk : Nat) (ins : Instr) (len a b : Nat) (z : Int) : Option en_O := match ins with
  | .iconst n => some (en_push m (pc + len) (en_c n))
  | .bipush n => some (en_push m (pc + len) (en_c n))
  | .sipush n => some (en_push m (pc + len) (en_c n))
  | .ldc _ => some (en_push m (pc + len) (en_c z))
  | .ldc_w _ => some (en_push m (pc + len) (en_c z))
  | .lconst n => some (en_push m (pc + len) (36893488147419103232 + (n : Nat)))
  | .ldc2_w _ => if 0 ≤ z then some (en_push m (pc + len) (36893488147419103232 + z.toNat)) else none
  | .iload_n k => if (k : Nat) < nL then some (en_load en_isI m (pc + len) k) else none
  | .iload k => if k < nL then some (en_load en_isI m (pc + len) k) else none
  | .lload_n k => if (k : Nat) < nL then some (en_load en_isL m (pc + len) k) else none
  | .lload k => if k < nL then some (en_load en_isL m (pc + len) k) else none
  | .aload_n k => if (k : Nat) < nL then some (en_load en_isR m (pc + len) k) else none
  | .aload k => if k < nL then some (en_load en_isR m (pc + len) k) else none
  | .istore_n k => if (k : Nat) < nL then some (en_store en_isI m (pc + len) k) else none
  | .istore k => if k < nL then some (en_store en_isI m (pc + len) k) else none
  | .astore_n k => if (k : Nat) < nL then some (en_store en_isR m (pc + len) k) else none
  | .astore k => if k < nL then some (en_store en_isR m (pc + len) k) else none
  | .lstore_n k => if (k : Nat) + 1 < nL then some (en_storeL m (pc + len) k) else none
  | .lstore k => if k + 1 < nL then some (en_storeL m (pc + len) k) else none
  | .iinc i n => if i < nL then some (en_iinc m pc (pc + len) i (n % 4294967296).toNat) else none
  | .iadd => some (en_bin en_add true m pc (pc + len))
  | .isub => some (en_bin en_sub true m pc (pc + len))
  | .imul => some (en_bin en_mul true m pc (pc + len))
  | .idiv => some (en_bin en_div false m pc (pc + len))
  | .irem => some (en_bin en_rem false m pc (pc + len))
  | .iand => some (en_and m pc (pc + len))
  | .ior => some (en_bin (en_pos Nat.lor) true m pc (pc + len))
  | .ishl => some (en_bin (en_sh (fun x y => Nat.shiftLeft x y)) true m pc (pc + len))
  | .ishr => some (en_bin (en_sh (fun x y => Nat.shiftRight x y)) true m pc (pc + len))
  | .iushr => some (en_bin (fun _ _ => none) true m pc (pc + len))
  | .i2b => some (en_any1 m (pc + len))
  | .i2l => some (en_i2l m pc (pc + len))
  | .ladd => some (en_binL Nat.add m (pc + len))
  | .lmul => some (en_binL Nat.mul m (pc + len))
  | .dup => some (en_dup m (pc + len))
  | .pop => some (en_drop m (pc + len))
  | .dup2 => some (en_dup2 m (pc + len))
  | .if_icmp k off => some (en_icmp k m ((pc : Int) + off).toNat (pc + len))
  | .ifCond k off => some (en_if0 k m ((pc : Int) + off).toNat (pc + len))
  | .goto off => some (en_goto m ((pc : Int) + off).toNat)
  | .tableswitch dflt lo hi offs => if -1000000 ≤ lo ∧ hi ≤ 1000000 ∧ lo ≤ hi ∧ offs.size = (hi - lo).toNat + 1 then some (en_sw m pc ((pc : Int) + dflt).toNat (en_c lo) (hi - lo).toNat (offs.toList.map (fun off => ((pc : Int) + off).toNat))) else none
  | .getstatic _ => if a < SA.length then some (en_push m (pc + len) (12884901904 + a)) else none
  | .iaload => some (en_aload SA (fun k => Nat.beq k 0) m pc (pc + len))
  | .baload => some (en_aload SA (fun k => en_if (Nat.beq k 1) true (Nat.beq k 2)) m pc (pc + len))
  | .laload => some (en_aload SA (fun k => Nat.beq k 3) m pc (pc + len))
  | .aaload => some (en_aload SA (fun k => Nat.beq k 4) m pc (pc + len))
  | .iastore => some (en_astore (fun k => Nat.beq k 0) m pc (pc + len))
  | .bastore => some (en_astore (fun k => en_if (Nat.beq k 1) true (Nat.beq k 2)) m pc (pc + len))
  | .lastore => some (en_astore (fun k => Nat.beq k 3) m pc (pc + len))
  | .arraylength => some (en_alen SA m (pc + len))
  | .getfield _ => some (en_getf m (pc + len) a b)
  | .putfield _ => match kds[a]? with
    | some l => (match l[b]? with
      | some kd => some (en_putf m (pc + len) a b kd)
      | none => none)
    | none => none
  | .new _ => if a < 200 then (match kds[a]? with
    | some l => if l.length < 10000 then some (en_newo m (pc + len) a l) else none
    | none => none) else none
  | .newarray t => match t with
    | .int => some (en_newa m (pc + len) 0 2147483648)
    | .byte => some (en_newa m (pc + len) 1 2147483648)
    | .boolean => some (en_newa m (pc + len) 2 2147483648)
    | .long => some (en_newa m (pc + len) 3 36893488147419103232)
    | _ => none
  | .multianewarray _ 2 => some (en_mna m (pc + len))
  | .return_ => some (en_ret fin rk 0)
  | .ireturn => some (en_ret fin rk 1)
  | .lreturn => some (en_ret fin rk 3)
  | .invokestatic _ => if a = 1 then some (en_copy m (pc + len)) else if a < 2 then none else (match P[a]? with
    | some (_, nL', np, kd, ci, _, mc, ms) => if kd = 0 then some (en_call m (pc + len) a nL' np kd ci mc ms) else none
    | none => none)
  | .invokevirtual _ => if a < 2 then none else (match P[a]? with
    | some (_, nL', np, kd, ci, _, mc, ms) => if kd = 1 then some (en_call m (pc + len) a nL' np kd ci mc ms) else none
    | none => none)
  | .invokespecial _ => if a = 0 then some (en_oinit m (pc + len)) else if a < 2 then none else (match P[a]? with
    | some (_, nL', np, kd, ci, _, mc, ms) => if kd = 2 then some (en_call m (pc + len) a nL' np kd ci mc ms) else none
    | none => none)
  | _ => none
/-- what is done at a place instead of its instruction, if anything -/
abbrev en_T : Type := Nat → Nat → Option (en_O → en_O)
noncomputable def en_fetch (SA : List (Nat × Nat)) (fin : List Nat → en_H → Nat → en_V → Bool) (kds : List (List Nat)) (P : mm_T) (tb : en_T) (m pc : Nat) : Option en_O := match mm_at P m pc with
  | none => none
  | some ((_, len, ins, a, b, z, _), nL, (_, _, _, rk, _, _)) => match en_comp SA fin kds P m pc nL rk ins len a b z with
    | none => none
    | some o => match tb m pc with
      | none => some o
      | some hk => some (hk o)
/-- n steps at most -/
noncomputable def en_run (SA : List (Nat × Nat)) (fin : List Nat → en_H → Nat → en_V → Bool) (kds : List (List Nat)) (P : mm_T) (tb : en_T) (n : Nat) : en_C :=
  Nat.rec (motive := fun _ => en_C) (fun _ _ _ _ _ _ _ _ _ _ _ => false) (fun _ ih m pc loc st cb sb dp fs hp nx ev =>
    Nat.rec (motive := fun _ => Bool) (Option.rec (motive := fun _ => Bool) false (fun o => o loc st cb sb dp fs hp nx ev ih) (en_fetch SA fin kds P tb m 0))
      (fun q _ => Option.rec (motive := fun _ => Bool) false (fun o => o loc st cb sb dp fs hp nx ev ih) (en_fetch SA fin kds P tb m (Nat.succ q))) pc) n
