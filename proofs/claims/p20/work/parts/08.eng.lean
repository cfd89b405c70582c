/-! THE ENGINE: the mini machine over codes. A code is a number: below 2^32 an int (2^31 more than it is); from 2^32 on a named int and what is added to it (65536 times the name, 32768 more than what is added); from 2 * 2^32 on the cell of that number; 3 * 2^32 null, 2 more any long, 3 more nothing known, from 16 more on a static array; from 4 * 2^32 on a named value; from 2^65 on a long; from 2^66 on an int from .. to. A row of codes is one number, 68 bits each, behind 32 bits: kind (1 int, 2 byte, 3 boolean, 4 long, 5 references, 6 + a class) and length. A place is 65536 times the method and the pc. -/
noncomputable def en_if {α : Type} (b : Bool) (t f : α) : α := Bool.rec (motive := fun _ => α) f t b
noncomputable def en_nth {α : Type} (d : α) (l : List α) : Nat → α := List.rec (motive := fun _ => Nat → α) (fun _ => d) (fun a _ ih i => Nat.rec (motive := fun _ => α) a (fun j _ => ih j) i) l
noncomputable def en_set {α : Type} (l : List α) : Nat → α → List α := List.rec (motive := fun _ => Nat → α → List α) (fun _ _ => []) (fun a r ih i v => Nat.rec (motive := fun _ => List α) (v :: r) (fun j _ => a :: ih j v) i) l
/-- the heap: a tree of cells, by numbers -/
abbrev en_H : Type := (((((((Nat × Nat) × Nat) × Nat) × ((Nat × Nat) × (Nat × Nat))) × ((((((Nat × (Nat × Nat)) × Nat) × Nat) × ((((Nat × Nat) × (Nat × (Nat × Nat))) × (((Nat × Nat) × Nat) × (Nat × (Nat × (Nat × Nat))))) × Nat)) × ((Nat × Nat) × Nat)) × (Nat × ((((Nat × Nat) × ((Nat × Nat) × ((Nat × Nat) × Nat))) × (((Nat × (Nat × Nat)) × ((Nat × Nat) × (Nat × Nat))) × (((Nat × Nat) × (Nat × Nat)) × ((Nat × Nat) × (Nat × Nat))))) × (((((Nat × Nat) × (Nat × Nat)) × ((Nat × Nat) × (Nat × Nat))) × (((Nat × Nat) × (Nat × Nat)) × ((Nat × Nat) × (Nat × Nat)))) × ((((Nat × Nat) × (Nat × Nat)) × ((Nat × Nat) × (Nat × (Nat × Nat)))) × ((((Nat × Nat) × (Nat × Nat)) × ((Nat × Nat) × Nat)) × (Nat × (Nat × (Nat × Nat)))))))))) × Nat) × ((((((Nat × Nat) × Nat) × (Nat × (Nat × Nat))) × (Nat × Nat)) × Nat) × ((((((((Nat × Nat) × Nat) × (Nat × Nat)) × (Nat × (Nat × Nat))) × Nat) × (Nat × (((Nat × Nat) × (Nat × Nat)) × ((Nat × Nat) × (Nat × Nat))))) × Nat) × (((Nat × Nat) × Nat) × (Nat × ((Nat × ((Nat × Nat) × (Nat × Nat))) × (((Nat × Nat) × (Nat × Nat)) × ((Nat × Nat) × ((Nat × Nat) × (Nat × Nat))))))))))
abbrev en_V : Type := List (Nat × Nat)
/-- a frame that waits: place, locals, stack, cells, slots, depth -/
abbrev en_F : Type := Nat × Nat × List Nat × Nat × Nat × Nat
/-- the rest of a state: cells, slots, depth, frames, cells made, ranges of named ints -/
abbrev en_W : Type := Nat × Nat × Nat × List en_F × Nat × en_V
/-- what goes on from a state: place, locals, stack, heap, rest -/
abbrev en_C : Type := Nat → Nat → List Nat → en_H → en_W → Bool
/-- an instruction -/
abbrev en_O : Type := Nat → List Nat → en_H → en_W → en_C → Bool
noncomputable def en_lg (t : Nat) (_ : Nat) : Nat := t
noncomputable def en_lp (_ : Nat) (_ N : Nat) : Nat := N
noncomputable def en_ng {α β : Type} (mid : Nat) (ga : α → Nat → Nat) (gb : β → Nat → Nat) (t : α × β) (k : Nat) : Nat := en_if (Nat.ble mid k) (gb t.2 k) (ga t.1 k)
noncomputable def en_np {α β : Type} (mid : Nat) (pa : α → Nat → Nat → α) (pb : β → Nat → Nat → β) (t : α × β) (k N : Nat) : α × β := en_if (Nat.ble mid k) (t.1, pb t.2 k N) (pa t.1 k N, t.2)
noncomputable def en_get : en_H → Nat → Nat := (en_ng 89 (en_ng 88 (en_ng 8 (en_ng 4 (en_ng 3 (en_ng 2 (en_ng 1 en_lg en_lg) en_lg) en_lg) (en_ng 6 (en_ng 5 en_lg en_lg) (en_ng 7 en_lg en_lg))) (en_ng 29 (en_ng 26 (en_ng 13 (en_ng 12 (en_ng 11 (en_ng 9 en_lg (en_ng 10 en_lg en_lg)) en_lg) en_lg) (en_ng 25 (en_ng 18 (en_ng 15 (en_ng 14 en_lg en_lg) (en_ng 16 en_lg (en_ng 17 en_lg en_lg))) (en_ng 21 (en_ng 20 (en_ng 19 en_lg en_lg) en_lg) (en_ng 22 en_lg (en_ng 23 en_lg (en_ng 24 en_lg en_lg))))) en_lg)) (en_ng 28 (en_ng 27 en_lg en_lg) en_lg)) (en_ng 30 en_lg (en_ng 52 (en_ng 37 (en_ng 32 (en_ng 31 en_lg en_lg) (en_ng 34 (en_ng 33 en_lg en_lg) (en_ng 36 (en_ng 35 en_lg en_lg) en_lg))) (en_ng 44 (en_ng 40 (en_ng 38 en_lg (en_ng 39 en_lg en_lg)) (en_ng 42 (en_ng 41 en_lg en_lg) (en_ng 43 en_lg en_lg))) (en_ng 48 (en_ng 46 (en_ng 45 en_lg en_lg) (en_ng 47 en_lg en_lg)) (en_ng 50 (en_ng 49 en_lg en_lg) (en_ng 51 en_lg en_lg))))) (en_ng 68 (en_ng 60 (en_ng 56 (en_ng 54 (en_ng 53 en_lg en_lg) (en_ng 55 en_lg en_lg)) (en_ng 58 (en_ng 57 en_lg en_lg) (en_ng 59 en_lg en_lg))) (en_ng 64 (en_ng 62 (en_ng 61 en_lg en_lg) (en_ng 63 en_lg en_lg)) (en_ng 66 (en_ng 65 en_lg en_lg) (en_ng 67 en_lg en_lg)))) (en_ng 77 (en_ng 72 (en_ng 70 (en_ng 69 en_lg en_lg) (en_ng 71 en_lg en_lg)) (en_ng 74 (en_ng 73 en_lg en_lg) (en_ng 75 en_lg (en_ng 76 en_lg en_lg)))) (en_ng 84 (en_ng 81 (en_ng 79 (en_ng 78 en_lg en_lg) (en_ng 80 en_lg en_lg)) (en_ng 83 (en_ng 82 en_lg en_lg) en_lg)) (en_ng 85 en_lg (en_ng 86 en_lg (en_ng 87 en_lg en_lg)))))))))) en_lg) (en_ng 98 (en_ng 97 (en_ng 95 (en_ng 92 (en_ng 91 (en_ng 90 en_lg en_lg) en_lg) (en_ng 93 en_lg (en_ng 94 en_lg en_lg))) (en_ng 96 en_lg en_lg)) en_lg) (en_ng 117 (en_ng 116 (en_ng 107 (en_ng 106 (en_ng 103 (en_ng 101 (en_ng 100 (en_ng 99 en_lg en_lg) en_lg) (en_ng 102 en_lg en_lg)) (en_ng 104 en_lg (en_ng 105 en_lg en_lg))) en_lg) (en_ng 108 en_lg (en_ng 112 (en_ng 110 (en_ng 109 en_lg en_lg) (en_ng 111 en_lg en_lg)) (en_ng 114 (en_ng 113 en_lg en_lg) (en_ng 115 en_lg en_lg))))) en_lg) (en_ng 120 (en_ng 119 (en_ng 118 en_lg en_lg) en_lg) (en_ng 121 en_lg (en_ng 126 (en_ng 122 en_lg (en_ng 124 (en_ng 123 en_lg en_lg) (en_ng 125 en_lg en_lg))) (en_ng 130 (en_ng 128 (en_ng 127 en_lg en_lg) (en_ng 129 en_lg en_lg)) (en_ng 132 (en_ng 131 en_lg en_lg) (en_ng 134 (en_ng 133 en_lg en_lg) (en_ng 135 en_lg en_lg))))))))))
noncomputable def en_put : en_H → Nat → Nat → en_H := (en_np 89 (en_np 88 (en_np 8 (en_np 4 (en_np 3 (en_np 2 (en_np 1 en_lp en_lp) en_lp) en_lp) (en_np 6 (en_np 5 en_lp en_lp) (en_np 7 en_lp en_lp))) (en_np 29 (en_np 26 (en_np 13 (en_np 12 (en_np 11 (en_np 9 en_lp (en_np 10 en_lp en_lp)) en_lp) en_lp) (en_np 25 (en_np 18 (en_np 15 (en_np 14 en_lp en_lp) (en_np 16 en_lp (en_np 17 en_lp en_lp))) (en_np 21 (en_np 20 (en_np 19 en_lp en_lp) en_lp) (en_np 22 en_lp (en_np 23 en_lp (en_np 24 en_lp en_lp))))) en_lp)) (en_np 28 (en_np 27 en_lp en_lp) en_lp)) (en_np 30 en_lp (en_np 52 (en_np 37 (en_np 32 (en_np 31 en_lp en_lp) (en_np 34 (en_np 33 en_lp en_lp) (en_np 36 (en_np 35 en_lp en_lp) en_lp))) (en_np 44 (en_np 40 (en_np 38 en_lp (en_np 39 en_lp en_lp)) (en_np 42 (en_np 41 en_lp en_lp) (en_np 43 en_lp en_lp))) (en_np 48 (en_np 46 (en_np 45 en_lp en_lp) (en_np 47 en_lp en_lp)) (en_np 50 (en_np 49 en_lp en_lp) (en_np 51 en_lp en_lp))))) (en_np 68 (en_np 60 (en_np 56 (en_np 54 (en_np 53 en_lp en_lp) (en_np 55 en_lp en_lp)) (en_np 58 (en_np 57 en_lp en_lp) (en_np 59 en_lp en_lp))) (en_np 64 (en_np 62 (en_np 61 en_lp en_lp) (en_np 63 en_lp en_lp)) (en_np 66 (en_np 65 en_lp en_lp) (en_np 67 en_lp en_lp)))) (en_np 77 (en_np 72 (en_np 70 (en_np 69 en_lp en_lp) (en_np 71 en_lp en_lp)) (en_np 74 (en_np 73 en_lp en_lp) (en_np 75 en_lp (en_np 76 en_lp en_lp)))) (en_np 84 (en_np 81 (en_np 79 (en_np 78 en_lp en_lp) (en_np 80 en_lp en_lp)) (en_np 83 (en_np 82 en_lp en_lp) en_lp)) (en_np 85 en_lp (en_np 86 en_lp (en_np 87 en_lp en_lp)))))))))) en_lp) (en_np 98 (en_np 97 (en_np 95 (en_np 92 (en_np 91 (en_np 90 en_lp en_lp) en_lp) (en_np 93 en_lp (en_np 94 en_lp en_lp))) (en_np 96 en_lp en_lp)) en_lp) (en_np 117 (en_np 116 (en_np 107 (en_np 106 (en_np 103 (en_np 101 (en_np 100 (en_np 99 en_lp en_lp) en_lp) (en_np 102 en_lp en_lp)) (en_np 104 en_lp (en_np 105 en_lp en_lp))) en_lp) (en_np 108 en_lp (en_np 112 (en_np 110 (en_np 109 en_lp en_lp) (en_np 111 en_lp en_lp)) (en_np 114 (en_np 113 en_lp en_lp) (en_np 115 en_lp en_lp))))) en_lp) (en_np 120 (en_np 119 (en_np 118 en_lp en_lp) en_lp) (en_np 121 en_lp (en_np 126 (en_np 122 en_lp (en_np 124 (en_np 123 en_lp en_lp) (en_np 125 en_lp en_lp))) (en_np 130 (en_np 128 (en_np 127 en_lp en_lp) (en_np 129 en_lp en_lp)) (en_np 132 (en_np 131 en_lp en_lp) (en_np 134 (en_np 133 en_lp en_lp) (en_np 135 en_lp en_lp))))))))))
def en_elt (N j : Nat) : Nat := Nat.mod (Nat.shiftRight N (Nat.add 32 (Nat.mul 68 j))) 295147905179352825856
def en_eset (N j v : Nat) : Nat := Nat.xor N (Nat.shiftLeft (Nat.xor (en_elt N j) v) (Nat.add 32 (Nat.mul 68 j)))
def en_kind (N : Nat) : Nat := Nat.mod N 256
def en_len (N : Nat) : Nat := Nat.mod (Nat.div N 256) 16777216
/-- a row of n times the code D -/
def en_rep (kind n D : Nat) : Nat := Nat.add (Nat.add kind (Nat.mul 256 n)) (Nat.mul 4294967296 (Nat.mul D (Nat.div (Nat.sub (Nat.pow 2 (Nat.mul 68 n)) 1) 295147905179352825855)))
/-- is a code an int, a long, a cell or a static array -/
noncomputable def en_isI (c : Nat) : Bool := en_if (Nat.ble c 8589934591) true (Nat.ble 73786976294838206464 c)
noncomputable def en_isL (c : Nat) : Bool := en_if (Nat.ble 36893488147419103232 c) (Nat.ble c 73786976294838206463) (Nat.beq c 12884901890)
noncomputable def en_isR (c : Nat) : Bool := en_if (Nat.ble 8589934592 c) (en_if (Nat.ble c 8589934727) true (en_if (Nat.ble 12884901904 c) (Nat.ble c 12884902911) false)) false
noncomputable def en_ev (w : en_W) : en_V := w.2.2.2.2.2
noncomputable def en_sev (w : en_W) (i : Nat) (q : Nat × Nat) : en_W := (w.1, w.2.1, w.2.2.1, w.2.2.2.1, w.2.2.2.2.1, en_set w.2.2.2.2.2 i q)
/-- an int from lo to hi -/
noncomputable def en_mk (lo hi : Nat) : Nat := en_if (Nat.beq lo hi) lo (Nat.add 73786976294838206464 (Nat.add (Nat.mul lo 4294967296) hi))
/-- from where to where an int goes; a named one with its name and what is added, if nothing wraps -/
noncomputable def en_iv {α : Type} (w : en_W) (c : Nat) (k : Nat → Nat → α) : α := en_if (Nat.ble c 4294967295) (k c c) (en_if (Nat.ble c 8589934591)
  (Prod.rec (motive := fun _ => α) (fun lo hi => en_if (Nat.ble 32768 (Nat.add lo (Nat.mod c 65536))) (en_if (Nat.ble (Nat.add hi (Nat.mod c 65536)) 4295000063) (k (Nat.sub (Nat.add lo (Nat.mod c 65536)) 32768) (Nat.sub (Nat.add hi (Nat.mod c 65536)) 32768)) (k 0 4294967295)) (k 0 4294967295)) (en_nth (0, 4294967295) (en_ev w) (Nat.div (Nat.sub c 4294967296) 65536)))
  (en_if (Nat.ble 73786976294838206464 c) (k (Nat.div (Nat.sub c 73786976294838206464) 4294967296) (Nat.mod c 4294967296)) (k 0 4294967295)))
/-- a named int is from lo to hi -/
noncomputable def en_ref (w : en_W) (c lo hi : Nat) (k : en_W → Bool) : Bool := en_if (Nat.ble lo hi) (en_if (Nat.ble c 4294967295) (k w) (en_if (Nat.ble c 8589934591)
  (Prod.rec (motive := fun _ => Bool) (fun l h => en_if (Nat.ble 32768 (Nat.add l (Nat.mod c 65536))) (en_if (Nat.ble (Nat.add h (Nat.mod c 65536)) 4295000063) (k (en_sev w (Nat.div (Nat.sub c 4294967296) 65536) (Nat.sub (Nat.add lo 32768) (Nat.mod c 65536), Nat.sub (Nat.add hi 32768) (Nat.mod c 65536)))) (k w)) (k w)) (en_nth (0, 4294967295) (en_ev w) (Nat.div (Nat.sub c 4294967296) 65536)))
  (k w))) true
noncomputable def en_all (f : Nat → Bool) (n : Nat) : Nat → Bool := Nat.rec (motive := fun _ => Nat → Bool) (fun lo => f lo) (fun _ ih lo => en_if (f lo) (ih (Nat.succ lo)) false) n
/-- an int that is to be known: it is; or a named one of few values, each of them, once more; or one of few values, each; or the rest -/
noncomputable def en_pt (w : en_W) (c : Nat) (k : Nat → Bool) (r : en_W → Bool) (o : Bool) : Bool :=
  en_if (Nat.ble c 4294967295) (k c) (en_iv w c (fun lo hi => en_if (Nat.beq lo hi) (k lo) (en_if (Nat.ble (Nat.sub hi lo) 300) (en_if (Nat.ble lo hi)
    (en_if (Nat.ble c 8589934591) (en_all (fun v => en_ref w c v v r) (Nat.sub hi lo) lo) (en_all k (Nat.sub hi lo) lo)) true) o)))
noncomputable def en_pop (st : List Nat) (k : Nat → List Nat → Bool) : Bool := List.rec (motive := fun _ => Bool) false (fun a r _ => k a r) st
noncomputable def en_push (q c : Nat) : en_O := fun loc st hp w ih => ih q loc (c :: st) hp w
noncomputable def en_load (t : Nat → Bool) (q i : Nat) : en_O := fun loc st hp w ih => en_if (t (en_elt loc i)) (ih q loc (en_elt loc i :: st) hp w) false
/-- the slot ahead holds no long and no value of a kind that isn't known -/
noncomputable def en_free (loc i : Nat) : Bool := Nat.rec (motive := fun _ => Bool) true (fun j _ => en_if (Nat.ble (en_elt loc j) 12884902911) (en_if (Nat.beq (en_elt loc j) 12884901890) false true) (Nat.ble 73786976294838206464 (en_elt loc j))) i
noncomputable def en_store (t : Nat → Bool) (q i : Nat) : en_O := fun loc st hp w ih => en_pop st (fun c r => en_if (t c) (en_if (en_free loc i) (ih q (en_eset loc i c) r hp w) false) false)
noncomputable def en_storeL (q i : Nat) : en_O := fun loc st hp w ih => en_pop st (fun c r => en_if (en_isL c) (en_if (en_free loc i) (ih q (en_eset (en_eset loc i c) (Nat.succ i) 12884901891) r hp w) false) false)
/-- two ints by a rule -/
noncomputable def en_bin (g : en_W → Nat → Nat → (Nat → Bool) → Bool) (q : Nat) : en_O := fun loc st hp w ih => en_pop st (fun y r => en_pop r (fun x r => en_if (en_isI x) (en_if (en_isI y) (g w x y (fun v => ih q loc (v :: r) hp w)) false) false))
noncomputable def en_nm (c n : Nat) : Nat := Nat.add (Nat.mul (Nat.div c 65536) 65536) n
noncomputable def en_addI (w : en_W) (x y : Nat) (k : Nat → Bool) : Bool := en_iv w x (fun a b => en_iv w y (fun c d => en_if (Nat.ble 2147483648 (Nat.add a c)) (en_if (Nat.ble (Nat.add b d) 6442450943) (k (en_mk (Nat.sub (Nat.add a c) 2147483648) (Nat.sub (Nat.add b d) 2147483648))) (k 73786976299133173759)) (k 73786976299133173759)))
/-- a named int and a known one -/
noncomputable def en_addN (w : en_W) (x y : Nat) (k : Nat → Bool) : Bool := en_if (Nat.ble 2147483648 (Nat.add (Nat.mod x 65536) y)) (en_if (Nat.ble (Nat.add (Nat.mod x 65536) y) 2147549183) (k (en_nm x (Nat.sub (Nat.add (Nat.mod x 65536) y) 2147483648))) (en_addI w x y k)) (en_addI w x y k)
noncomputable def en_add (w : en_W) (x y : Nat) (k : Nat → Bool) : Bool := en_if (Nat.ble y 4294967295) (en_if (Nat.ble x 4294967295) (k (Nat.mod (Nat.add (Nat.add x y) 2147483648) 4294967296)) (en_if (Nat.ble x 8589934591) (en_addN w x y k) (en_addI w x y k)))
  (en_if (Nat.ble x 4294967295) (en_if (Nat.ble y 8589934591) (en_addN w y x k) (en_addI w x y k)) (en_addI w x y k))
noncomputable def en_subI (w : en_W) (x y : Nat) (k : Nat → Bool) : Bool := en_iv w x (fun a b => en_iv w y (fun c d => en_if (Nat.ble d (Nat.add a 2147483648)) (en_if (Nat.ble (Nat.add b 2147483648) (Nat.add c 4294967295)) (k (en_mk (Nat.sub (Nat.add a 2147483648) d) (Nat.sub (Nat.add b 2147483648) c))) (k 73786976299133173759)) (k 73786976299133173759)))
noncomputable def en_sub (w : en_W) (x y : Nat) (k : Nat → Bool) : Bool := en_if (Nat.ble y 4294967295) (en_if (Nat.ble x 4294967295) (k (Nat.mod (Nat.sub (Nat.add x 6442450944) y) 4294967296)) (en_if (Nat.ble x 8589934591)
  (en_if (Nat.ble y (Nat.add (Nat.mod x 65536) 2147483648)) (en_if (Nat.ble (Nat.add (Nat.mod x 65536) 2147483648) (Nat.add y 65535)) (k (en_nm x (Nat.sub (Nat.add (Nat.mod x 65536) 2147483648) y))) (en_subI w x y k)) (en_subI w x y k)) (en_subI w x y k))) (en_subI w x y k)
noncomputable def en_mul (w : en_W) (x y : Nat) (k : Nat → Bool) : Bool := en_if (Nat.ble y 4294967295) (en_if (Nat.ble x 4294967295) (k (Nat.mod (Nat.add (Nat.mul (Nat.add x 2147483648) (Nat.add y 2147483648)) 2147483648) 4294967296)) (k 73786976299133173759)) (k 73786976299133173759)
/-- an int that is not below 0, by a known one above 0 -/
noncomputable def en_div (w : en_W) (x y : Nat) (k : Nat → Bool) : Bool := en_if (Nat.ble y 4294967295) (en_if (Nat.ble 2147483649 y) (en_iv w x (fun a b => en_if (Nat.ble 2147483648 a) (k (en_mk (Nat.add (Nat.div (Nat.sub a 2147483648) (Nat.sub y 2147483648)) 2147483648) (Nat.add (Nat.div (Nat.sub b 2147483648) (Nat.sub y 2147483648)) 2147483648))) false)) false) false
noncomputable def en_rem (w : en_W) (x y : Nat) (k : Nat → Bool) : Bool := en_if (Nat.ble y 4294967295) (en_if (Nat.ble 2147483649 y) (en_iv w x (fun a b => en_if (Nat.ble 2147483648 a) (en_if (Nat.beq (Nat.div (Nat.sub a 2147483648) (Nat.sub y 2147483648)) (Nat.div (Nat.sub b 2147483648) (Nat.sub y 2147483648)))
  (k (en_mk (Nat.add (Nat.mod (Nat.sub a 2147483648) (Nat.sub y 2147483648)) 2147483648) (Nat.add (Nat.mod (Nat.sub b 2147483648) (Nat.sub y 2147483648)) 2147483648))) (k (en_mk 2147483648 (Nat.sub y 1)))) false)) false) false
/-- ints by ranges -/
noncomputable def en_mulX (w : en_W) (x y : Nat) (k : Nat → Bool) : Bool := en_iv w x (fun a b => en_iv w y (fun c d => en_if (Nat.ble 2147483648 a) (en_if (Nat.ble 2147483648 c) (en_if (Nat.ble (Nat.mul (Nat.sub b 2147483648) (Nat.sub d 2147483648)) 2147483647) (k (en_mk (Nat.add 2147483648 (Nat.mul (Nat.sub a 2147483648) (Nat.sub c 2147483648))) (Nat.add 2147483648 (Nat.mul (Nat.sub b 2147483648) (Nat.sub d 2147483648))))) (en_mul w x y k)) (en_mul w x y k)) (en_mul w x y k)))
noncomputable def en_divX (w : en_W) (x y : Nat) (k : Nat → Bool) : Bool := en_iv w y (fun c d => en_if (Nat.ble 2147483649 c) (en_iv w x (fun a b => en_if (Nat.ble 2147483648 a) (k (en_mk (Nat.add 2147483648 (Nat.div (Nat.sub a 2147483648) (Nat.sub d 2147483648))) (Nat.add 2147483648 (Nat.div (Nat.sub b 2147483648) (Nat.sub c 2147483648))))) (k 73786976299133173759))) (en_if (Nat.ble (Nat.succ d) 2147483648) (k 73786976299133173759) false))
noncomputable def en_remX (w : en_W) (x y : Nat) (k : Nat → Bool) : Bool := en_iv w y (fun c d => en_if (Nat.ble 2147483649 c) (en_iv w x (fun a b => en_if (Nat.ble 2147483648 a) (en_if (Nat.ble y 4294967295) (en_rem w x y k) (en_if (Nat.ble b (Nat.sub d 1)) (k (en_mk 2147483648 b)) (k (en_mk 2147483648 (Nat.sub d 1))))) (k 73786976299133173759))) (en_if (Nat.ble (Nat.succ d) 2147483648) (k 73786976299133173759) false))
/-- rules of known ints that are not below 0, else any -/
noncomputable def en_pos (f : Nat → Nat → Nat) (x y : Nat) (k : Nat → Bool) : Bool := en_if (Nat.ble y 4294967295) (en_if (Nat.ble x 4294967295) (en_if (Nat.ble 2147483648 x) (en_if (Nat.ble 2147483648 y) (en_if (Nat.ble (f (Nat.sub x 2147483648) (Nat.sub y 2147483648)) 2147483647) (k (Nat.add (f (Nat.sub x 2147483648) (Nat.sub y 2147483648)) 2147483648)) (k 73786976299133173759)) (k 73786976299133173759)) (k 73786976299133173759)) (k 73786976299133173759)) (k 73786976299133173759)
noncomputable def en_and (_ : en_W) (x y : Nat) (k : Nat → Bool) : Bool := en_if (Nat.ble x 4294967295) (en_pos Nat.land x y k) (en_if (Nat.ble y 4294967295) (en_if (Nat.ble 2147483648 y) (k (en_mk 2147483648 y)) (k 73786976299133173759)) (k 73786976299133173759))
noncomputable def en_or (_ : en_W) (x y : Nat) (k : Nat → Bool) : Bool := en_pos Nat.lor x y k
noncomputable def en_shl (_ : en_W) (x y : Nat) (k : Nat → Bool) : Bool := en_if (Nat.ble y 2147483679) (en_pos (fun x y => Nat.shiftLeft x y) x y k) (k 73786976299133173759)
noncomputable def en_shr (_ : en_W) (x y : Nat) (k : Nat → Bool) : Bool := en_if (Nat.ble y 2147483679) (en_pos (fun x y => Nat.shiftRight x y) x y k) (k 73786976299133173759)
noncomputable def en_andX (w : en_W) (x y : Nat) (k : Nat → Bool) : Bool := en_if (Nat.ble x 4294967295) (en_if (Nat.ble y 4294967295) (k (Nat.mod (Nat.add 2147483648 (Nat.land (Nat.mod (Nat.add 2147483648 x) 4294967296) (Nat.mod (Nat.add 2147483648 y) 4294967296))) 4294967296)) (en_and w x y k)) (en_and w x y k)
noncomputable def en_xor (_ : en_W) (x y : Nat) (k : Nat → Bool) : Bool := en_if (Nat.beq y 2147483647) (en_if (Nat.ble x 4294967295) (k (Nat.sub 4294967295 x)) (k 73786976299133173759)) (k 73786976299133173759)
noncomputable def en_ushr (_ : en_W) (_ y : Nat) (k : Nat → Bool) : Bool := en_if (Nat.ble 2147483649 y) (en_if (Nat.ble y 2147483679) (k (en_mk 2147483648 4294967295)) (k 73786976299133173759)) (k 73786976299133173759)
noncomputable def en_un (c q : Nat) : en_O := fun loc st hp w ih => en_pop st (fun x r => en_if (en_isI x) (ih q loc (c :: r) hp w) false)
/-- an int that is not below 0 as a long -/
noncomputable def en_i2l (q : Nat) : en_O := fun loc st hp w ih => en_pop st (fun x r => en_if (Nat.ble x 4294967295) (en_if (Nat.ble 2147483648 x) (ih q loc (Nat.add 36893488147419103232 (Nat.sub x 2147483648) :: r) hp w) (ih q loc (12884901890 :: r) hp w)) (en_if (en_isI x) (ih q loc (12884901890 :: r) hp w) false))
noncomputable def en_binL (f : Nat → Nat → Nat) (q : Nat) : en_O := fun loc st hp w ih => en_pop st (fun y r => en_pop r (fun x r => en_if (en_isL x) (en_if (en_isL y) (en_if (Nat.ble 36893488147419103232 x) (en_if (Nat.ble 36893488147419103232 y)
  (en_if (Nat.ble (f (Nat.sub x 36893488147419103232) (Nat.sub y 36893488147419103232)) 9223372036854775807) (ih q loc (Nat.add 36893488147419103232 (f (Nat.sub x 36893488147419103232) (Nat.sub y 36893488147419103232)) :: r) hp w) (ih q loc (12884901890 :: r) hp w)) (ih q loc (12884901890 :: r) hp w)) (ih q loc (12884901890 :: r) hp w)) false) false))
noncomputable def en_iinc (q i k : Nat) : en_O := fun loc st hp w ih => en_if (en_isI (en_elt loc i)) (en_if (en_free loc i) (en_add w (en_elt loc i) k (fun v => ih q (en_eset loc i v) st hp w)) false) false
/-- a value of one word -/
noncomputable def en_one (c : Nat) : Bool := en_if (Nat.ble c 12884902911) (en_if (Nat.beq c 12884901890) false (en_if (Nat.beq c 12884901891) false true)) (Nat.ble 73786976294838206464 c)
noncomputable def en_dup (q : Nat) : en_O := fun loc st hp w ih => en_pop st (fun x _ => en_if (en_one x) (ih q loc (x :: st) hp w) false)
noncomputable def en_drop (q : Nat) : en_O := fun loc st hp w ih => en_pop st (fun x r => en_if (en_one x) (ih q loc r hp w) false)
noncomputable def en_dup2 (q : Nat) : en_O := fun loc st hp w ih => en_pop st (fun x r => en_pop r (fun y _ => en_if (en_one x) (en_if (en_one y) (ih q loc (x :: y :: st) hp w) false) false))
noncomputable def en_mn (a b : Nat) : Nat := en_if (Nat.ble a b) a b
noncomputable def en_mx (a b : Nat) : Nat := en_if (Nat.ble a b) b a
/-- x < y: what goes on if so, if not -/
noncomputable def en_lt (x y : Nat) (w : en_W) (kt kf : en_W → Bool) : Bool := en_if (en_if (Nat.ble x 4294967295) (Nat.ble y 4294967295) false) (en_if (Nat.ble y x) (kf w) (kt w))
  (en_iv w x (fun a b => en_iv w y (fun c d => en_if (Nat.ble (Nat.succ b) c) (kt w) (en_if (Nat.ble d a) (kf w)
    (en_if (en_ref w x a (en_mn b (Nat.pred d)) (fun w => en_ref w y (en_mx c (Nat.succ a)) d kt)) (en_ref w x (en_mx a c) b (fun w => en_ref w y c (en_mn d b) kf)) false)))))
/-- a number is left out of a range's end -/
noncomputable def en_cut (w : en_W) (x a b c : Nat) (k : en_W → Bool) : Bool := en_if (Nat.beq c a) (en_ref w x (Nat.succ a) b k) (en_if (Nat.beq c b) (en_ref w x a (Nat.pred b) k) (k w))
noncomputable def en_eq (x y : Nat) (w : en_W) (kt kf : en_W → Bool) : Bool := en_if (en_if (Nat.ble x 4294967295) (Nat.ble y 4294967295) false) (en_if (Nat.beq x y) (kt w) (kf w))
  (en_if (en_if (Nat.beq x y) (Nat.ble x 8589934591) false) (kt w) (en_iv w x (fun a b => en_iv w y (fun c d => en_if (Nat.ble (Nat.succ b) c) (kf w) (en_if (Nat.ble (Nat.succ d) a) (kf w)
    (en_if (en_if (Nat.beq c d) (en_ref w x c c kt) (en_if (Nat.beq a b) (en_ref w y a a kt) (kt w))) (en_if (Nat.beq c d) (en_if (Nat.beq a b) true (en_cut w x a b c kf)) (en_if (Nat.beq a b) (en_cut w y c d a kf) (kf w))) false))))))
noncomputable def en_cmp (k : Jvm.ClassFile.Cond) (x y : Nat) (w : en_W) (kt kf : en_W → Bool) : Bool := Jvm.ClassFile.Cond.rec (motive := fun _ => Bool) (en_eq x y w kt kf) (en_eq x y w kf kt) (en_lt x y w kt kf) (en_lt x y w kf kt) (en_lt y x w kt kf) (en_lt y x w kf kt) k
noncomputable def en_icmp (k : Jvm.ClassFile.Cond) (qt qf : Nat) : en_O := fun loc st hp w ih => en_pop st (fun y r => en_pop r (fun x r => en_if (en_isI x) (en_if (en_isI y) (en_cmp k x y w (fun w => ih qt loc r hp w) (fun w => ih qf loc r hp w)) false) false))
noncomputable def en_if0 (k : Jvm.ClassFile.Cond) (qt qf : Nat) : en_O := fun loc st hp w ih => en_pop st (fun x r => en_if (en_isI x) (en_cmp k x 2147483648 w (fun w => ih qt loc r hp w) (fun w => ih qf loc r hp w)) false)
noncomputable def en_goto (q : Nat) : en_O := fun loc st hp w ih => ih q loc st hp w
/-- the switch: places by numbers from lo on -/
noncomputable def en_sw (q0 qd lo n : Nat) (qs : List Nat) : en_O := fun loc st hp w ih => en_pop st (fun x r => en_if (en_isI x)
  (en_pt w x (fun x => en_if (Nat.ble lo x) (en_if (Nat.ble x (Nat.add lo n)) (ih (en_nth qd qs (Nat.sub x lo)) loc r hp w) (ih qd loc r hp w)) (ih qd loc r hp w)) (fun w => ih q0 loc st hp w)
    (en_lt x lo w (fun w => ih qd loc r hp w) (fun w => en_lt (Nat.add lo n) x w (fun w => ih qd loc r hp w) (fun w => en_pt w x (fun _ => false) (fun w => ih q0 loc st hp w) false)))) false)
/-- an index that is known and in the row -/
noncomputable def en_idx (len i : Nat) (k : Nat → Bool) : Bool := en_if (Nat.ble 2147483648 i) (en_if (Nat.ble (Nat.succ (Nat.sub i 2147483648)) len) (k (Nat.sub i 2147483648)) false) false
/-- the cell of a code, or the static array -/
noncomputable def en_cell (c : Nat) (k : Nat → Bool) (s : Nat → Bool) : Bool := en_if (Nat.ble 8589934592 c) (en_if (Nat.ble c 8589934727) (k (Nat.sub c 8589934592)) (en_if (Nat.ble 12884901904 c) (en_if (Nat.ble c 12884902911) (s (Nat.sub c 12884901904)) false) false)) false
noncomputable def en_aload (SA : List (Nat × Nat)) (t : Nat → Bool) (q0 q : Nat) : en_O := fun loc st hp w ih => en_pop st (fun i r => en_pop r (fun a r =>
  en_if (en_isI i) (en_pt w i (fun i => en_cell a
    (fun a => en_if (t (en_kind (en_get hp a))) (en_idx (en_len (en_get hp a)) i (fun i => ih q loc (en_elt (en_get hp a) i :: r) hp w)) false)
    (fun s => en_if (t 1) (Prod.rec (motive := fun _ => Bool) (fun n row => en_idx n i (fun i => ih q loc (en_elt row i :: r) hp w)) (en_nth (0, 0) SA s)) false))
    (fun w => ih q0 loc st hp w) false) false))
/-- may a value be stored in a row of a kind: ints, bytes and booleans if they are such, longs -/
noncomputable def en_fit (kind v : Nat) (k : Nat → Bool) : Bool := en_if (Nat.beq kind 1) (en_if (en_isI v) (k v) false) (en_if (Nat.beq kind 4) (en_if (en_isL v) (k v) false)
  (en_if (Nat.beq kind 3) (en_if (Nat.ble v 4294967295) (en_if (Nat.ble 2147483648 v) (en_if (Nat.ble v 2147483649) (k v) false) false) (en_if (en_isI v) (k 73786976299133173759) false))
  (en_if (Nat.beq kind 2) (en_if (Nat.ble v 4294967295) (en_if (Nat.ble 2147483520 v) (en_if (Nat.ble v 2147483775) (k v) false) false) (en_if (en_isI v) (k 73786976299133173759) false)) false)))
noncomputable def en_astore (t : Nat → Bool) (q0 q : Nat) : en_O := fun loc st hp w ih => en_pop st (fun v r => en_pop r (fun i r => en_pop r (fun a r =>
  en_if (en_isI i) (en_pt w i (fun i => en_cell a
    (fun a => en_if (t (en_kind (en_get hp a))) (en_fit (en_kind (en_get hp a)) v (fun v => en_idx (en_len (en_get hp a)) i (fun i => ih q loc r (en_put hp a (en_eset (en_get hp a) i v)) w))) false)
    (fun _ => false)) (fun w => ih q0 loc st hp w) false) false)))
/-- a code without a name -/
noncomputable def sf_nl (c : Nat) : Bool := en_if (Nat.ble c 4294967295) true (Nat.ble 8589934592 c)
/-- a code within one that has no name -/
noncomputable def sf_sub (w : en_W) (c c2 : Nat) : Bool :=
  en_if (Nat.ble c2 4294967295) (en_if (en_isI c) (en_iv w c (fun lo hi => en_if (Nat.beq lo c2) (Nat.beq hi c2) false)) false)
    (en_if (Nat.ble 73786976294838206464 c2) (en_if (Nat.ble c2 147573952589676412927) (en_if (en_isI c) (en_iv w c (fun lo hi => en_if (Nat.ble (Nat.div (Nat.sub c2 73786976294838206464) 4294967296) lo) (Nat.ble hi (Nat.mod c2 4294967296)) false)) false) false)
      (en_if (Nat.beq c2 12884901890) (en_isL c) (en_if (Nat.ble 8589934592 c2) (Nat.beq c c2) false)))
/-- a row of one code all through -/
noncomputable def en_uni (N : Nat) : Bool := Nat.beq N (en_rep (en_kind N) (en_len N) (en_elt N 0))
noncomputable def en_aloadX (SA : List (Nat × Nat)) (t : Nat → Bool) (q0 q : Nat) : en_O := fun loc st hp w ih => en_pop st (fun i r => en_pop r (fun a r => en_if (Nat.ble i 4294967295) (en_aload SA t q0 q loc st hp w ih) (en_if (en_isI i) (en_iv w i (fun lo hi => en_cell a
    (fun a => en_if (t (en_kind (en_get hp a))) (en_if (Nat.ble 2147483648 lo) (en_if (Nat.ble (Nat.succ (Nat.sub hi 2147483648)) (en_len (en_get hp a))) (en_if (en_uni (en_get hp a)) (ih q loc (en_elt (en_get hp a) 0 :: r) hp w) (en_aload SA t q0 q loc st hp w ih)) (en_aload SA t q0 q loc st hp w ih)) (en_aload SA t q0 q loc st hp w ih)) false)
    (fun _ => en_aload SA t q0 q loc st hp w ih))) false)))
/-- a store that keeps a row of one code -/
noncomputable def en_weak (t : Nat → Bool) (st : List Nat) (hp : en_H) (w : en_W) : Bool := en_pop st (fun v r => en_pop r (fun i r => en_pop r (fun a _ => en_if (en_isI i) (en_iv w i (fun lo hi => en_cell a
    (fun a => en_if (t (en_kind (en_get hp a))) (en_if (Nat.ble 2147483648 lo) (en_if (Nat.ble (Nat.succ (Nat.sub hi 2147483648)) (en_len (en_get hp a))) (en_if (en_uni (en_get hp a)) (en_fit (en_kind (en_get hp a)) v (fun v => en_if (Nat.ble v 147573952589676412927) (sf_sub w v (en_elt (en_get hp a) 0)) false)) false) false) false) false)
    (fun _ => false))) false)))
noncomputable def en_astoreX (t : Nat → Bool) (q0 q : Nat) : en_O := fun loc st hp w ih => en_if (en_weak t st hp w) (en_pop st (fun _ r => en_pop r (fun _ r => en_pop r (fun _ r => ih q loc r hp w)))) (en_astore t q0 q loc st hp w ih)
noncomputable def en_alen (SA : List (Nat × Nat)) (q : Nat) : en_O := fun loc st hp w ih => en_pop st (fun a r => en_cell a
    (fun a => en_if (Nat.ble 1 (en_kind (en_get hp a))) (en_if (Nat.ble (en_kind (en_get hp a)) 5) (ih q loc (Nat.add 2147483648 (en_len (en_get hp a)) :: r) hp w) false) false)
    (fun s => Prod.rec (motive := fun _ => Bool) (fun n _ => en_if (Nat.ble n 16777215) (en_if (Nat.ble (Nat.succ s) (List.rec (motive := fun _ => Nat) 0 (fun _ _ n => Nat.succ n) SA)) (ih q loc (Nat.add 2147483648 n :: r) hp w) false) false) (en_nth (0, 0) SA s)))
noncomputable def en_getf (q ci b : Nat) : en_O := fun loc st hp w ih => en_pop st (fun a r => en_cell a
    (fun a => en_if (Nat.beq (en_kind (en_get hp a)) (Nat.add 6 ci)) (en_if (Nat.ble (Nat.succ b) (en_len (en_get hp a))) (ih q loc (en_elt (en_get hp a) b :: r) hp w) false) false) (fun _ => false))
noncomputable def en_ffit (kd v : Nat) : Bool := en_if (Nat.beq kd 0) (en_isI v) (en_if (Nat.beq kd 1) (en_isL v) (en_if (Nat.beq kd 2) (en_if (Nat.ble 2147483648 v) (Nat.ble v 2147483649) false) (en_if (Nat.beq kd 3) (en_if (en_isR v) true (Nat.beq v 12884901888)) false)))
noncomputable def en_putf (q ci b kd : Nat) : en_O := fun loc st hp w ih => en_pop st (fun v r => en_pop r (fun a r => en_cell a
    (fun a => en_if (Nat.beq (en_kind (en_get hp a)) (Nat.add 6 ci)) (en_if (Nat.ble (Nat.succ b) (en_len (en_get hp a))) (en_if (en_ffit kd v) (ih q loc r (en_put hp a (en_eset (en_get hp a) b v)) w) false) false) false) (fun _ => false)))
/-- String constants (static rows 4 and 6, their bytes 5 and 7): fields, lengths, bytes -/
noncomputable def en_gets (q b : Nat) : en_O := fun loc st hp w ih => en_pop st (fun a r => en_if (Nat.beq a 12884901908) (ih q loc (en_if (Nat.beq b 1) 2147483648 12884901909 :: r) hp w) (en_if (Nat.beq a 12884901910) (ih q loc (en_if (Nat.beq b 1) 2147483648 12884901911 :: r) hp w) false))
noncomputable def en_alenB (q : Nat) : en_O := fun loc st hp w ih => en_pop st (fun a r => en_if (Nat.beq a 12884901909) (ih q loc (2147483840 :: r) hp w) (en_if (Nat.beq a 12884901911) (ih q loc (2147483657 :: r) hp w) false))
noncomputable def en_balB (q : Nat) : en_O := fun loc st hp w ih => en_pop st (fun i r => en_pop r (fun a r => en_if (en_isI i) (en_iv w i (fun lo hi => en_if (Nat.ble 2147483648 lo) (en_if (Nat.ble (Nat.succ (Nat.sub hi 2147483648)) (en_if (Nat.beq a 12884901909) 192 (en_if (Nat.beq a 12884901911) 9 0))) (ih q loc (en_mk 2147483520 2147483775 :: r) hp w) false) false)) false))
noncomputable def en_isB (st : List Nat) : Bool := en_pop st (fun _ r => en_pop r (fun a _ => en_if (Nat.beq a 12884901909) true (Nat.beq a 12884901911)))
noncomputable def en_baload (SA : List (Nat × Nat)) (t : Nat → Bool) (q0 q : Nat) : en_O := fun loc st hp w ih => en_if (en_isB st) (en_balB q loc st hp w ih) (en_aloadX SA t q0 q loc st hp w ih)
/-- two longs compared; a long cut to an int -/
noncomputable def en_lcmp (q : Nat) : en_O := fun loc st hp w ih => en_pop st (fun y r => en_pop r (fun x r => en_if (en_isL x) (en_if (en_isL y) (ih q loc (73786976299133173759 :: r) hp w) false) false))
noncomputable def en_l2i (q : Nat) : en_O := fun loc st hp w ih => en_pop st (fun x r => en_if (en_isL x) (ih q loc (73786976299133173759 :: r) hp w) false)
noncomputable def en_unR (lo hi q : Nat) : en_O := fun loc st hp w ih => en_pop st (fun x r => en_if (en_isI x) (ih q loc (en_mk lo hi :: r) hp w) false)
/-- a new cell N of n slots -/
noncomputable def en_new (q n N : Nat) : en_O := fun loc st hp w ih => en_if (Nat.ble 1 w.1) (en_if (Nat.ble n w.2.1) (en_if (Nat.ble (Nat.succ w.2.2.2.2.1) 136)
  (ih q loc (Nat.add 8589934592 w.2.2.2.2.1 :: st) (en_put hp w.2.2.2.2.1 N) (Nat.sub w.1 1, Nat.sub w.2.1 n, w.2.2.1, w.2.2.2.1, Nat.succ w.2.2.2.2.1, w.2.2.2.2.2)) false) false) false
def en_dfl (kd : Nat) : Nat := match kd with
  | 0 => 2147483648
  | 1 => 36893488147419103232
  | 2 => 2147483648
  | _ => 12884901888
def en_obj (l : List Nat) (N j : Nat) : Nat := match l with
  | [] => N
  | k :: r => en_obj r (en_eset N j (en_dfl k)) (Nat.succ j)
noncomputable def en_newo (q ci : Nat) (l : List Nat) : en_O := fun loc st hp w ih => en_new q l.length (en_obj l (Nat.add (Nat.add 6 ci) (Nat.mul 256 l.length)) 0) loc st hp w ih
noncomputable def en_newa (q kind D : Nat) : en_O := fun loc st hp w ih => en_pop st (fun n r => en_if (Nat.ble 2147483648 n) (en_if (Nat.ble n 2147583648) (en_new q (Nat.sub n 2147483648) (en_rep kind (Nat.sub n 2147483648) D) loc r hp w ih) false) false)
/-- n new rows N from the cell k on -/
noncomputable def en_rows (n : Nat) : en_H → Nat → Nat → en_H := Nat.rec (motive := fun _ => en_H → Nat → Nat → en_H) (fun hp _ _ => hp) (fun _ ih hp k N => ih (en_put hp k N) (Nat.succ k) N) n
noncomputable def en_refs (n : Nat) : Nat → Nat → Nat → Nat := Nat.rec (motive := fun _ => Nat → Nat → Nat → Nat) (fun N _ _ => N) (fun _ ih N j c => ih (en_eset N j c) (Nat.succ j) (Nat.succ c)) n
noncomputable def en_mna (q : Nat) : en_O := fun loc st hp w ih => en_pop st (fun k r => en_pop r (fun n r =>
  en_if (Nat.ble 2147483648 n) (en_if (Nat.ble n 2147483748) (en_if (Nat.ble 2147483648 k) (en_if (Nat.ble k 2147483748)
    (en_if (Nat.ble (Nat.succ (Nat.sub n 2147483648)) w.1) (en_if (Nat.ble (Nat.add (Nat.sub n 2147483648) (Nat.mul (Nat.sub n 2147483648) (Nat.sub k 2147483648))) w.2.1) (en_if (Nat.ble (Nat.add (Nat.succ w.2.2.2.2.1) (Nat.sub n 2147483648)) 136)
      (ih q loc (Nat.add 8589934592 w.2.2.2.2.1 :: r)
        (en_rows (Nat.sub n 2147483648) (en_put hp w.2.2.2.2.1 (en_refs (Nat.sub n 2147483648) (Nat.add 5 (Nat.mul 256 (Nat.sub n 2147483648))) 0 (Nat.add 8589934592 (Nat.succ w.2.2.2.2.1)))) (Nat.succ w.2.2.2.2.1) (en_rep 1 (Nat.sub k 2147483648) 2147483648))
        (Nat.sub w.1 (Nat.succ (Nat.sub n 2147483648)), Nat.sub w.2.1 (Nat.add (Nat.sub n 2147483648) (Nat.mul (Nat.sub n 2147483648) (Nat.sub k 2147483648))), w.2.2.1, w.2.2.2.1, Nat.add (Nat.succ w.2.2.2.2.1) (Nat.sub n 2147483648), w.2.2.2.2.2)) false) false) false) false) false) false) false))
/-- the words of a stack, at most -/
noncomputable def en_cat (st : List Nat) : Nat := List.rec (motive := fun _ => Nat) 0 (fun c _ ih => en_if (en_one c) (Nat.succ ih) (Nat.succ (Nat.succ ih))) st
noncomputable def en_oinit (q : Nat) : en_O := fun loc st hp w ih => en_pop st (fun a r => en_if (en_isR a) (en_if (Nat.ble 1 w.2.2.1) (en_if (Nat.ble (en_cat r) 8) (ih q loc r hp w) false) false) false)
/-- a whole row of ints over another of its length -/
noncomputable def en_copy (q : Nat) : en_O := fun loc st hp w ih => en_pop st (fun n r => en_pop r (fun p r => en_pop r (fun d r => en_pop r (fun o r => en_pop r (fun s r =>
  en_if (Nat.beq p 2147483648) (en_if (Nat.beq o 2147483648) (en_if (Nat.ble 1 w.2.2.1) (en_if (Nat.ble (en_cat r) 8) (en_cell s (fun s => en_cell d (fun d =>
    en_if (Nat.beq (en_kind (en_get hp s)) 1) (en_if (Nat.beq (en_kind (en_get hp d)) 1) (en_if (Nat.beq n (Nat.add 2147483648 (en_len (en_get hp s)))) (en_if (Nat.beq n (Nat.add 2147483648 (en_len (en_get hp d))))
      (ih q loc r (en_put hp d (en_get hp s)) w) false) false) false) false) (fun _ => false)) (fun _ => false)) false) false) false) false)))))
/-- the callee's locals out of its values -/
noncomputable def en_args (l : List Nat) : Nat → Nat → (Nat → Nat → Bool) → Bool := List.rec (motive := fun _ => Nat → Nat → (Nat → Nat → Bool) → Bool) (fun j loc k => k j loc)
  (fun c _ ih j loc k => en_if (en_one c) (ih (Nat.succ j) (en_eset loc j c) k) (en_if (en_isL c) (ih (Nat.succ (Nat.succ j)) (en_eset loc j c) k) false)) l
noncomputable def en_take (n : Nat) : List Nat → List Nat → (List Nat → List Nat → Bool) → Bool := Nat.rec (motive := fun _ => List Nat → List Nat → (List Nat → List Nat → Bool) → Bool) (fun acc st k => k acc st) (fun _ ih acc st k => en_pop st (fun a r => ih (a :: acc) r k)) n
/-- a frame more -/
noncomputable def en_go (q k nL mc ms : Nat) (as r : List Nat) : en_O := fun loc _ hp w ih => en_if (Nat.ble (en_cat r) 8) (en_args as 0 (en_rep 0 nL 12884901891) (fun j l => en_if (Nat.ble j nL)
  (ih k l [] hp (mc, ms, Nat.pred w.2.2.1, (q, loc, r, Nat.sub w.1 mc, Nat.sub w.2.1 ms, w.2.2.1) :: w.2.2.2.1, w.2.2.2.2)) false)) false
noncomputable def en_call (q k nL np kd ci mc ms : Nat) : en_O := fun loc st hp w ih => en_take np [] st (fun as r =>
  en_if (Nat.ble 1 w.2.2.1) (en_if (Nat.ble mc w.1) (en_if (Nat.ble ms w.2.1)
    (en_if (Nat.beq kd 0) (en_go q k nL mc ms as r loc st hp w ih)
      (en_pop r (fun a r => en_if (Nat.beq ci 90) (en_if (en_if (Nat.beq a 12884901908) true (Nat.beq a 12884901910)) (en_go q k nL mc ms (a :: as) r loc st hp w ih) false) (en_cell a (fun a0 => en_if (Nat.beq (en_kind (en_get hp a0)) (Nat.add 6 ci)) (en_go q k nL mc ms (a :: as) r loc st hp w ih) false) (fun _ => false))))) false) false) false)
/-- a return: fin looks at what the lowest frame answers -/
noncomputable def en_back (fin : List Nat → en_H → en_W → Bool) (v : List Nat) : en_O := fun _ _ hp w ih => List.rec (motive := fun _ => Bool) (fin v hp w) (fun f fs _ => ih f.1 f.2.1 (List.rec (motive := fun _ => List Nat) f.2.2.1 (fun a _ _ => a :: f.2.2.1) v) hp (f.2.2.2.1, f.2.2.2.2.1, f.2.2.2.2.2, fs, w.2.2.2.2)) w.2.2.2.1
/-- the ints that a method of a kind answers: boolean, byte, char -/
noncomputable def en_rkr (rk lo hi : Nat) : Bool := en_if (Nat.beq rk 2) (en_if (Nat.ble 2147483648 lo) (Nat.ble hi 2147483649) false) (en_if (Nat.beq rk 4) (en_if (Nat.ble 2147483520 lo) (Nat.ble hi 2147483775) false) (en_if (Nat.beq rk 5) (en_if (Nat.ble 2147483648 lo) (Nat.ble hi 2147549183) false) false))
noncomputable def en_ret (fin : List Nat → en_H → en_W → Bool) (rk ik : Nat) : en_O := fun loc st hp w ih =>
  List.rec (motive := fun _ => Bool) (en_if (Nat.beq rk 0) (en_if (Nat.beq ik 0) (en_back fin [] loc st hp w ih) false) false)
    (fun v r _ => List.rec (motive := fun _ => Bool)
      (en_if (Nat.beq ik 1) (en_if (en_isI v) (en_if (Nat.beq rk 1) (en_back fin [v] loc st hp w ih) (en_if (en_iv w v (en_rkr rk)) (en_back fin [v] loc st hp w ih) false)) false)
        (en_if (Nat.beq ik 3) (en_if (en_isL v) (en_if (Nat.beq rk 3) (en_back fin [v] loc st hp w ih) false) false) false)) (fun _ _ _ => false) r) st
def en_c (x : Int) : Nat := (x + 2147483648).toNat
def en_tgt (pc : Nat) (off : Int) : Bool := decide (0 ≤ (pc : Int) + off) && decide ((pc : Int) + off < 65536)
/-- an instruction of the table as an instruction of the engine; q its place, n the next one, j a target -/
noncomputable def en_comp (SA : List (Nat × Nat)) (fin : List Nat → en_H → en_W → Bool) (kds : List (List Nat)) (P : mm_T) (m pc nL rk : Nat) (ins : Instr) (len a b : Nat) (z : Int) (q n : Nat) (j : Int → Nat) : Option en_O := match ins with
  | .iconst x => if -2147483648 ≤ x ∧ x < 2147483648 then some (en_push n (en_c x)) else none
  | .bipush x => if -128 ≤ x ∧ x < 128 then some (en_push n (en_c x)) else none
  | .sipush x => if -32768 ≤ x ∧ x < 32768 then some (en_push n (en_c x)) else none
  | .ldc _ => if a = 0 then (if -2147483648 ≤ z ∧ z < 2147483648 then some (en_push n (en_c z)) else none) else if a = 1 then some (en_push n 12884901908) else if a = 2 then some (en_push n 12884901910) else none
  | .ldc_w _ => if -2147483648 ≤ z ∧ z < 2147483648 then some (en_push n (en_c z)) else none
  | .lconst x => some (en_push n (36893488147419103232 + (x : Nat)))
  | .ldc2_w _ => if 0 ≤ z ∧ z ≤ 9223372036854775807 then some (en_push n (36893488147419103232 + z.toNat)) else none
  | .iload_n k => if (k : Nat) < nL then some (en_load en_isI n k) else none
  | .iload k => if k < nL then some (en_load en_isI n k) else none
  | .lload_n k => if (k : Nat) < nL then some (en_load en_isL n k) else none
  | .lload k => if k < nL then some (en_load en_isL n k) else none
  | .aload_n k => if (k : Nat) < nL then some (en_load en_isR n k) else none
  | .aload k => if k < nL then some (en_load en_isR n k) else none
  | .istore_n k => if (k : Nat) < nL then some (en_store en_isI n k) else none
  | .istore k => if k < nL then some (en_store en_isI n k) else none
  | .astore_n k => if (k : Nat) < nL then some (en_store en_isR n k) else none
  | .astore k => if k < nL then some (en_store en_isR n k) else none
  | .lstore_n k => if (k : Nat) + 1 < nL then some (en_storeL n k) else none
  | .lstore k => if k + 1 < nL then some (en_storeL n k) else none
  | .iinc i x => if i < nL ∧ -2147483648 ≤ x ∧ x < 2147483648 then some (en_iinc n i (en_c x)) else none
  | .iadd => some (en_bin en_add n)
  | .isub => some (en_bin en_sub n)
  | .imul => some (en_bin en_mulX n)
  | .idiv => some (en_bin en_divX n)
  | .irem => some (en_bin en_remX n)
  | .iand => some (en_bin en_andX n)
  | .ior => some (en_bin en_or n)
  | .ishl => some (en_bin en_shl n)
  | .ishr => some (en_bin en_shr n)
  | .iushr => some (en_bin en_ushr n)
  | .ixor => some (en_bin en_xor n)
  | .ineg => some (en_un 73786976299133173759 n)
  | .i2b => some (en_unR 2147483520 2147483775 n)
  | .i2c => some (en_unR 2147483648 2147549183 n)
  | .lcmp => some (en_lcmp n)
  | .l2i => some (en_l2i n)
  | .i2l => some (en_i2l n)
  | .ladd => some (en_binL Nat.add n)
  | .lmul => some (en_binL Nat.mul n)
  | .dup => some (en_dup n)
  | .pop => some (en_drop n)
  | .dup2 => some (en_dup2 n)
  | .if_icmp k off => if en_tgt pc off = true then some (en_icmp k (j off) n) else none
  | .ifCond k off => if en_tgt pc off = true then some (en_if0 k (j off) n) else none
  | .goto off => if en_tgt pc off = true then some (en_goto (j off)) else none
  | .tableswitch dflt lo hi offs => if -1000000 ≤ lo ∧ hi ≤ 1000000 ∧ lo ≤ hi ∧ offs.size = (hi - lo).toNat + 1 ∧ en_tgt pc dflt = true ∧ offs.toList.all (en_tgt pc) = true then some (en_sw q (j dflt) (en_c lo) (hi - lo).toNat (offs.toList.map j)) else none
  | .getstatic _ => if a = 9 then some (en_push n 2147483649) else if a < 4 ∧ a < SA.length then some (en_push n (12884901904 + a)) else none
  | .iaload => some (en_aloadX SA (fun k => Nat.beq k 1) q n)
  | .baload => some (en_baload SA (fun k => en_if (Nat.beq k 2) true (Nat.beq k 3)) q n)
  | .laload => some (en_aloadX SA (fun k => Nat.beq k 4) q n)
  | .aaload => some (en_aloadX SA (fun k => Nat.beq k 5) q n)
  | .iastore => some (en_astoreX (fun k => Nat.beq k 1) q n)
  | .bastore => some (en_astoreX (fun k => en_if (Nat.beq k 2) true (Nat.beq k 3)) q n)
  | .lastore => some (en_astoreX (fun k => Nat.beq k 4) q n)
  | .arraylength => if a = 0 then some (en_alen SA n) else some (en_alenB n)
  | .getfield _ => if a = 90 then some (en_gets n b) else some (en_getf n a b)
  | .putfield _ => match kds[a]? with
    | some l => (match l[b]? with
      | some kd => some (en_putf n a b kd)
      | none => none)
    | none => none
  | .new _ => if a < 200 then (match kds[a]? with
    | some l => if l.length < 10000 then some (en_newo n a l) else none
    | none => none) else none
  | .newarray t => match t with
    | .int => some (en_newa n 1 2147483648)
    | .byte => some (en_newa n 2 2147483648)
    | .boolean => some (en_newa n 3 2147483648)
    | .long => some (en_newa n 4 36893488147419103232)
    | _ => none
  | .multianewarray _ 2 => some (en_mna n)
  | .return_ => some (en_ret fin rk 0)
  | .ireturn => some (en_ret fin rk 1)
  | .lreturn => some (en_ret fin rk 3)
  | .invokestatic _ => if a = 1 then some (en_copy n) else if a < 2 then none else (match P[a]? with
    | some (_, nL', np, kd, ci, _, mc, ms) => if kd = 0 then some (en_call n (65536 * a) nL' np kd ci mc ms) else none
    | none => none)
  | .invokevirtual _ => if a < 2 then none else (match P[a]? with
    | some (_, nL', np, kd, ci, _, mc, ms) => if kd = 1 then some (en_call n (65536 * a) nL' np kd ci mc ms) else none
    | none => none)
  | .invokespecial _ => if a = 0 then some (en_oinit n) else if a < 2 then none else (match P[a]? with
    | some (_, nL', np, kd, ci, _, mc, ms) => if kd = 2 then some (en_call n (65536 * a) nL' np kd ci mc ms) else none
    | none => none)
  | _ => none
/-- what is done at a place instead of its instruction, if anything -/
abbrev en_T : Type := Nat → Option (en_O → en_O)
noncomputable def en_fetch (SA : List (Nat × Nat)) (fin : List Nat → en_H → en_W → Bool) (kds : List (List Nat)) (P : mm_T) (tb : en_T) (q : Nat) : Option en_O := match mm_at P (q / 65536) (q % 65536) with
  | none => none
  | some ((_, len, ins, a, b, z, _), nL, (_, _, _, rk, _, _)) => if 65536 ≤ q % 65536 + len then none else match en_comp SA fin kds P (q / 65536) (q % 65536) nL rk ins len a b z q (q + len) (fun off => q / 65536 * 65536 + (((q % 65536 : Nat) : Int) + off).toNat) with
    | none => none
    | some o => match tb q with
      | none => some o
      | some hk => some (hk o)
/-- n steps at most -/
noncomputable def en_run (SA : List (Nat × Nat)) (fin : List Nat → en_H → en_W → Bool) (kds : List (List Nat)) (P : mm_T) (tb : en_T) (n : Nat) : en_C :=
  Nat.rec (motive := fun _ => en_C) (fun _ _ _ _ _ => false) (fun _ ih q loc st hp w =>
    Nat.rec (motive := fun _ => Bool) false (fun q _ => Option.rec (motive := fun _ => Bool) false (fun o => o loc st hp w ih) (en_fetch SA fin kds P tb (Nat.succ q))) q) n
