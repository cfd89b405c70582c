/-! THE REFINEMENT, a simple instruction: what the mini machine does, the machine does -/
def rf_tys (cA : Nat → ClassId) : List (ClassId × FieldType) := [(cA 0, .int), (cA 1, .byte), (cA 2, .boolean), (cA 3, .long), (cA 4, .array .int)]
def rf_nest (w : Cond) : Bool := match w with
  | .methodLinkNest _ _ _ _ => true
  | _ => false
/-- the String constants: class, entry, text -/
def rf_SR : List (String × Nat × String) := [("StrawWatch$Tokens", 83, "man     wind    danger  orders  runs    strikes eats    moods   ship    goal    broom   seed    if      then    else    watch   league  skill   helm    look    cook    sail    blows   near    "), ("StrawWatch$Tokens", 66, ";=+-*/<()")]
def rf_Str (E : mm_E) (s : State) : Prop := ∃ (adK adV : Nat → Nat) (len : List Nat) (byt : List (List Int32)), vk_S 2 len byt adK adV (fun x : Nat => E.1 ≤ x) s s.heap ∧ (∀ i, i < 2 → (∃ n f, E.2[4 + 2 * i]? = some (adK i, n, f)) ∧ E.2[5 + 2 * i]? = some (adV i, len.getD i 0, fun j => (byt.getD i []).getD j 0)) ∧ (∀ (k : Nat) (o : String × Nat × String), rf_SR[k]? = some o → vk_R o.1 o.2.1 o.2.2 (adK k) s) ∧ va_Z "java/lang/String" "COMPACT_STRINGS" "Z" (.int 1) (fun x : Nat => E.1 ≤ x) s s.heap ∧ ∃ q, E.2[8]? = some q ∧ va_Z "jdk/internal/util/Preconditions" "SIOOBE_FORMATTER" "Ljava/util/function/BiFunction;" (if q.2.1 = 0 then .null else .ref q.1) (fun x : Nat => E.1 ≤ x) s s.heap
theorem rf_str {E : mm_E} {adK : Nat → Nat} {P : Nat → Prop} {a i : Nat} (hE : ∀ i, i < 2 → (∃ n f, E.2[4 + 2 * i]? = some (adK i, n, f)) ∧ P i) (hi : mm_str E a = some i) : i < 2 ∧ a = adK i := by
  obtain ⟨⟨n0, f0, e0⟩, -⟩ := hE 0 (by decide)
  obtain ⟨⟨n1, f1, e1⟩, -⟩ := hE 1 (by decide)
  have e0 : E.2[4]? = some (adK 0, n0, f0) := e0
  have e1 : E.2[6]? = some (adK 1, n1, f1) := e1
  unfold mm_str at hi
  split at hi
  · cases hi
  · rw [e0, e1] at hi
    simp only at hi
    split at hi
    · rename_i h1
      cases hi
      exact ⟨by decide, h1.symm⟩
    · split at hi
      · rename_i h1
        cases hi
        exact ⟨by decide, h1.symm⟩
      · cases hi
theorem rf_byt {E : mm_E} {adV : Nat → Nat} {g : Nat → Nat × (Nat → Int32)} {P : Nat → Prop} {a : Nat} {r : mm_S} (hE : ∀ i, i < 2 → P i ∧ E.2[5 + 2 * i]? = some (adV i, g i)) (hi : mm_byt E a = some r) : ∃ i, i < 2 ∧ a = adV i ∧ r = (adV i, g i) := by
  obtain ⟨-, e0⟩ := hE 0 (by decide)
  obtain ⟨-, e1⟩ := hE 1 (by decide)
  have e0 : E.2[5]? = some (adV 0, g 0) := e0
  have e1 : E.2[7]? = some (adV 1, g 1) := e1
  unfold mm_byt at hi
  split at hi
  · cases hi
  · rw [e0, e1] at hi
    simp only at hi
    split at hi
    · rename_i h1
      cases hi
      exact ⟨0, by decide, h1.symm, rfl⟩
    · split at hi
      · rename_i h1
        cases hi
        exact ⟨1, by decide, h1.symm, rfl⟩
      · cases hi
/-- what holds at every method's start: classes, nest words, static arrays -/
def rf_Cx (E : mm_E) (SN : List (String × String × String)) (Tw : List Cond) (D : va_G) (cl : List vw_C) (cA : Nat → ClassId) (s : State) : Prop :=
  va_K D cl (rf_tys cA) s ∧ (∀ w ∈ Tw, rf_nest w = true → va_Nw w s) ∧ (Cond.arrayOver (.array .int)).before #[] s = true ∧
  (∀ q ∈ E.2.take 4, va_T .int q.1 q.2.1 (fun j => .int (q.2.2 j)) (fun x : Nat => E.1 ≤ x) s s.heap) ∧ (∀ (k : Nat) (nm : String × String × String), SN[k]? = some nm → ∃ q, E.2[k]? = some q ∧ va_Z nm.1 nm.2.1 nm.2.2 (.ref q.1) (fun x : Nat => E.1 ≤ x) s s.heap) ∧ E.1 ≤ s.heap.size ∧ rf_Str E s
def rf_w (Tw : List Cond) (w : Nat) (X : Cond) : Bool := decide (Tw[w]? = some X) && goodWord X
def rf_len (ins : Instr) : Nat := match ins with
  | .bipush _ => 2
  | .sipush _ => 3
  | .ldc _ => 2
  | .ldc_w _ => 3
  | .ldc2_w _ => 3
  | .iload _ => 2
  | .lload _ => 2
  | .aload _ => 2
  | .istore _ => 2
  | .lstore _ => 2
  | .astore _ => 2
  | .iinc _ _ => 3
  | .if_icmp _ _ => 3
  | .ifCond _ _ => 3
  | .goto _ => 3
  | .getstatic _ => 3
  | .getfield _ => 3
  | .putfield _ => 3
  | .new _ => 3
  | .newarray _ => 2
  | .multianewarray _ _ => 4
  | .invokestatic _ => 3
  | .invokevirtual _ => 3
  | .invokespecial _ => 3
  | _ => 1
/-- is an instruction of a method of the class own as the table says: its length, its links -/
def rf_ck (Tw : List Cond) (cl : List vw_C) (SN : List (String × String × String)) (own : String) (ini : Bool) (pc len : Nat) (ins : Instr) (a b : Nat) (z : Int) (w : Nat) : Bool := match ins with
  | .ldc i => decide (len = 2) && (if a = 0 then rf_w Tw w (.constant own i (Int32.ofInt z)) else (match rf_SR[a - 1]? with
    | some o => decide (o.1 = own ∧ o.2.1 = i)
    | none => false))
  | .ldc_w i => decide (len = 3) && rf_w Tw w (.constant own i (Int32.ofInt z))
  | .ldc2_w i => decide (len = 3) && rf_w Tw w (.constantLong own i (Int64.ofInt z))
  | .if_icmp _ off => decide (len = 3) && decide (0 ≤ (pc : Int) + off)
  | .ifCond _ off => decide (len = 3) && decide (0 ≤ (pc : Int) + off)
  | .goto off => decide (len = 3) && decide (0 ≤ (pc : Int) + off)
  | .tableswitch _ _ _ _ => true
  | .getstatic i => decide (len = 3) && (if a = 9 then rf_w Tw w (.fieldLink own i "java/lang/String" "COMPACT_STRINGS" "Z") else if a = 8 then rf_w Tw w (.fieldLink own i "jdk/internal/util/Preconditions" "SIOOBE_FORMATTER" "Ljava/util/function/BiFunction;") else (match SN[a]? with
    | some nm => rf_w Tw w (.fieldLink own i nm.1 nm.2.1 nm.2.2)
    | none => false))
  | .getfield i => decide (len = 3) && (if a = 90 then (if b = 1 then rf_w Tw w (.fieldLink own i "java/lang/String" "coder" "B") else rf_w Tw w (.fieldLink own i "java/lang/String" "value" "[B")) else (match cl[a]? with
    | some (_, TT, N) => decide (b < N) && rf_w Tw w (.fieldLink own i (TT b).1 (TT b).2.1 (TT b).2.2.1)
    | none => false))
  | .putfield i => decide (len = 3) && (match cl[a]? with
    | some (_, TT, N) => decide (b < N) && (rf_w Tw w (.fieldLink own i (TT b).1 (TT b).2.1 (TT b).2.2.1) && (!(TT b).2.2.2 || (ini && decide ((TT b).1 = own))))
    | none => false)
  | .new i => decide (len = 3) && (match cl[a]? with
    | some (C, _, _) => rf_w Tw w (.classLink own i C)
    | none => false)
  | .newarray t => decide (len = 2) && rf_w Tw w (.arrayClass (newarray.typeOf t))
  | .multianewarray i _ => decide (len = 4) && rf_w Tw w (.classLink own i "[[I")
  | _ => decide (len = rf_len ins)
theorem rf_w_in {Tw T : List Cond} {args : Array Value} {s : State} {w : Nat} {X : Cond} (hTw : ∀ X ∈ Tw, goodWord X = true → X ∈ T) (hts : ∀ w ∈ T, w.before args s = true) (h : rf_w Tw w X = true) : X.before args s = true := by
  simp only [rf_w, Bool.and_eq_true, decide_eq_true_eq] at h
  exact hts _ (hTw _ (List.mem_of_getElem? h.1) h.2)
theorem rf_cell {E : mm_E} {h : mm_H} {a : Nat} {x : va_E} (hc : mm_cell E h a = some x) : ∃ k, a = E.1 + k ∧ h[k]? = some x := by
  unfold mm_cell at hc
  split at hc
  · exact ⟨a - E.1, by omega, hc⟩
  · cases hc
theorem rf_at {ls : Array Slot} {nL i : Nat} {lv : mm_V} {v : Value} (hl : lv_has ls nL lv) (hg : mm_get lv i = some v) : ls[i]? = some (.val v) ∧ ∃ k : Nat, lv[k]? = some (i, v) := by
  unfold mm_get at hg
  cases hf : lv.find? (fun q => q.1 == i) with
  | none => rw [hf] at hg; cases hg
  | some q =>
    rw [hf] at hg
    cases hg
    have h1 := List.find?_some hf
    have h2 := List.mem_of_find?_eq_some hf
    have h3 : q.1 = i := by simpa using h1
    subst h3
    exact ⟨hl.2.2 q h2, List.getElem?_of_mem h2⟩
theorem rf_inr {i : Int32} {n : Nat} (h : mm_inr i n = true) : vp_in i n := by
  simp only [mm_inr, Bool.and_eq_true, decide_eq_true_eq] at h
  exact vp_in_iff.mpr h
theorem rf_nlt {n : Int32} (h : 0 ≤ n.toInt) : ¬ n < 0 := by
  intro q
  have := Int32.lt_iff_toInt_lt.mp q
  have h0 : (0 : Int32).toInt = 0 := by decide
  omega
theorem rf_clamp {n : Int32} {M : Nat} (h : 0 ≤ n.toInt) (h2 : n.toInt ≤ (M : Int)) : n.toNatClampNeg ≤ M := by
  have := rf_nn (rf_nlt h)
  omega
theorem rf_tgt {pc : Nat} {off : Int} (h : 0 ≤ (pc : Int) + off) : (pc : Int) + off = ((((pc : Int) + off).toNat : Nat) : Int) := (Int.toNat_of_nonneg h).symm
theorem rf_kd0 {v : Value} (h : mm_kind v = 0) : ∃ x, v = .int x := by cases v <;> simp [mm_kind] at h <;> exact ⟨_, rfl⟩
theorem rf_kd1 {v : Value} (h : mm_kind v = 1) : ∃ x, v = .long x := by cases v <;> simp [mm_kind] at h <;> exact ⟨_, rfl⟩
theorem rf_kd2 {v : Value} (h : mm_kind v = 2) : ∃ x, v = .ref x := by cases v <;> simp [mm_kind] at h <;> exact ⟨_, rfl⟩
theorem rf_load {lv : mm_V} {st : List Value} {cb sb : Nat} {h : mm_H} {pc' kd i : Nat} {r : Nat × mm_V × List Value × Nat × Nat × mm_H} (hh : mm_load lv st cb sb h pc' kd i = some r) : ∃ v, mm_get lv i = some v ∧ mm_kind v = kd ∧ r = (pc', lv, v :: st, cb, sb, h) := by
  unfold mm_load at hh
  split at hh
  · split at hh
    · cases hh
      exact ⟨_, by assumption, by assumption, rfl⟩
    · cases hh
  · cases hh
theorem rf_store {nL : Nat} {lv : mm_V} {st : List Value} {cb sb : Nat} {h : mm_H} {pc' kd i : Nat} {r : Nat × mm_V × List Value × Nat × Nat × mm_H} (hh : mm_store nL lv st cb sb h pc' kd i = some r) : ∃ v rest, st = v :: rest ∧ mm_kind v = kd ∧ ((kd = 1 ∧ i + 1 < nL ∧ r = (pc', mm_p2 lv i v, rest, cb, sb, h)) ∨ (kd ≠ 1 ∧ i < nL ∧ r = (pc', mm_p1 lv i v, rest, cb, sb, h))) := by
  unfold mm_store at hh
  split at hh
  · rename_i v rest
    split at hh
    · split at hh
      · split at hh
        · cases hh
          exact ⟨v, rest, rfl, by assumption, Or.inl ⟨by assumption, by assumption, rfl⟩⟩
        · cases hh
      · split at hh
        · cases hh
          exact ⟨v, rest, rfl, by assumption, Or.inr ⟨by assumption, by assumption, rfl⟩⟩
        · cases hh
    · cases hh
  · cases hh
theorem rf_bin {lv : mm_V} {st : List Value} {cb sb : Nat} {h : mm_H} {pc' : Nat} {g : Int32 → Int32 → Option Int32} {r : Nat × mm_V × List Value × Nat × Nat × mm_H} (hh : mm_bin lv st cb sb h pc' g = some r) : ∃ y x rest v, st = .int y :: .int x :: rest ∧ g x y = some v ∧ r = (pc', lv, .int v :: rest, cb, sb, h) := by
  unfold mm_bin at hh
  split at hh
  · rename_i y x rest
    cases hg : g x y with
    | none => rw [hg] at hh; cases hh
    | some v => rw [hg] at hh; cases hh; exact ⟨y, x, rest, v, rfl, hg, rfl⟩
  · cases hh
theorem rf_binL {lv : mm_V} {st : List Value} {cb sb : Nat} {h : mm_H} {pc' : Nat} {g : Int64 → Int64 → Value} {r : Nat × mm_V × List Value × Nat × Nat × mm_H} (hh : mm_binL lv st cb sb h pc' g = some r) : ∃ y x rest, st = .long y :: .long x :: rest ∧ r = (pc', lv, g x y :: rest, cb, sb, h) := by
  unfold mm_binL at hh
  split at hh
  · cases hh; exact ⟨_, _, _, rfl, rfl⟩
  · cases hh
theorem rf_un {lv : mm_V} {st : List Value} {cb sb : Nat} {h : mm_H} {pc' : Nat} {g : Int32 → Value} {r : Nat × mm_V × List Value × Nat × Nat × mm_H} (hh : mm_un lv st cb sb h pc' g = some r) : ∃ x rest, st = .int x :: rest ∧ r = (pc', lv, g x :: rest, cb, sb, h) := by
  unfold mm_un at hh
  split at hh
  · cases hh; exact ⟨_, _, rfl, rfl⟩
  · cases hh
theorem rf_jump {lv : mm_V} {st : List Value} {cb sb : Nat} {h : mm_H} {pc : Nat} {off : Int} {r : Nat × mm_V × List Value × Nat × Nat × mm_H} (hh : mm_jump lv st cb sb h pc off = some r) : 0 ≤ (pc : Int) + off ∧ r = (((pc : Int) + off).toNat, lv, st, cb, sb, h) := by
  unfold mm_jump at hh
  split at hh
  · cases hh; exact ⟨by assumption, rfl⟩
  · cases hh
section RFX
variable {p : Program} {l : Launch} {e : Env} {R : Room} {s : State} {m : MethodId} {args : Array Value} {below : List Frame} {meth : Method} {c : Code} {H : Heap} {locs : List Loc} {cells slots : Nat} {Q : State → Prop}
variable {cc : ByteArray} {ls : Array Slot} {D : va_G} {cl : List vw_C} {cA : Nat → ClassId}
set_option maxHeartbeats 4000000 in
set_option maxRecDepth 100000 in
theorem rf_ex {E : mm_E} {SN : List (String × String × String)} {Tw T : List Cond} {ty : Nat → Nat → FieldType} {kds : List (List Nat)} {own : String} {ini : Bool} {nL : Nat} (hexec : p.tables.exec = Jvm.exec) (hb : c.code = cc) (hTw : ∀ X ∈ Tw, goodWord X = true → X ∈ T) (hts : ∀ w ∈ T, w.before args s = true) (hCl : rf_Cl cl ty kds T) (hown : s.vm.findClass own = some m.cls) (hini : ini = true → meth.name = "<init>") (hC : rf_Cx E SN Tw D cl cA s) (hAi : Cond.arrayClass .int ∈ T)
    {ins : Instr} {len a b : Nat} {z : Int} {w pc : Nat} {lv : mm_V} {st : List Value} {cb sb : Nat} {h : mm_H} {pc' : Nat} {lv' : mm_V} {st' : List Value} {cb' sb' : Nat} {h' : mm_H}
    (hd : decode cc pc = .ok (ins, len)) (hck : rf_ck Tw cl SN own ini pc len ins a b z w = true) (hex : mm_ex E kds nL ins len a b z pc lv st cb sb h = some (pc', lv', st', cb', sb', h')) (hl : lv_has ls nL lv) (hI : rf_I D cl cA E.1 s h H locs) (hcb : cells + cb ≤ R.cells) (hsb : slots + sb ≤ R.slots)
    (kk : ∀ (H' : Heap) (locs' : List Loc) (cells' slots' : Nat) (ls' : Array Slot), rf_I D cl cA E.1 s h' H' locs' → lv_has ls' nL lv' → cells' + cb' = cells + cb → slots' + sb' = slots + sb → W p l e R s m args below meth c H' locs' cells' slots' Q (F0 m pc' ls' st')) :
    W p l e R s m args below meth c H locs cells slots Q (F0 m pc ls st) := by
  obtain ⟨hK, hNe, hAO, hTb, hZs, hbs, hStr⟩ := hC
  cases ins
  case iconst n =>
    cases hex
    have hlen : len = 1 := of_decide_eq_true hck
    subst hlen
    exact lv_iconst hexec hb hd rfl (kk _ _ _ _ _ hI hl rfl rfl)
  case bipush n =>
    cases hex
    have hlen : len = 2 := of_decide_eq_true hck
    subst hlen
    exact lv_bipush hexec hb hd rfl (kk _ _ _ _ _ hI hl rfl rfl)
  case sipush n =>
    cases hex
    have hlen : len = 3 := of_decide_eq_true hck
    subst hlen
    exact lv_sipush hexec hb hd rfl (kk _ _ _ _ _ hI hl rfl rfl)
  case lconst n =>
    cases hex
    have hlen : len = 1 := of_decide_eq_true hck
    subst hlen
    exact lv_lconst hexec hb hd rfl (kk _ _ _ _ _ hI hl rfl rfl)
  case ldc n =>
    simp only [rf_ck, Bool.and_eq_true, decide_eq_true_eq] at hck
    obtain ⟨rfl, hck⟩ := hck
    simp only [mm_ex] at hex
    by_cases ha : a = 0
    · rw [if_pos ha] at hex hck
      cases hex
      exact lv_ldc hexec hb hown (rf_w_in hTw hts hck) hd (kk _ _ _ _ _ hI hl rfl rfl)
    · rw [if_neg ha] at hex hck
      obtain ⟨adK, adV, ln, byt, hS, hE, hR, -⟩ := hStr
      split at hck
      · rename_i o ho
        obtain ⟨e1, e2⟩ := of_decide_eq_true hck
        have hr := hR _ o ho
        have hlt : a - 1 < 2 := (List.getElem?_eq_some_iff.mp ho).1
        obtain ⟨⟨n1, f1, q1⟩, -⟩ := hE (a - 1) hlt
        have e3 : 4 + 2 * (a - 1) = 2 + 2 * a := by omega
        rw [e3] at q1
        rw [q1] at hex
        cases hex
        rw [e1, e2] at hr
        exact va_ldcS hexec hb hown hr hd (kk _ _ _ _ _ hI hl rfl rfl)
      · cases hck
  case ldc_w n =>
    cases hex
    simp only [rf_ck, Bool.and_eq_true, decide_eq_true_eq] at hck
    obtain ⟨rfl, hck⟩ := hck
    exact lv_ldcw hexec hb hown (rf_w_in hTw hts hck) hd (kk _ _ _ _ _ hI hl rfl rfl)
  case ldc2_w n =>
    cases hex
    simp only [rf_ck, Bool.and_eq_true, decide_eq_true_eq] at hck
    obtain ⟨rfl, hck⟩ := hck
    exact lv_ldc2 hexec hb hown (rf_w_in hTw hts hck) hd (kk _ _ _ _ _ hI hl rfl rfl)
  case iload_n k =>
    obtain ⟨v, h1, h2, h3⟩ := rf_load hex
    obtain ⟨x, rfl⟩ := rf_kd0 h2
    cases h3
    have hlen : len = 1 := of_decide_eq_true hck
    subst hlen
    exact lv_iload_n hexec hb hd rfl (rf_at hl h1).1 (kk _ _ _ _ _ hI hl rfl rfl)
  case iload k =>
    obtain ⟨v, h1, h2, h3⟩ := rf_load hex
    obtain ⟨x, rfl⟩ := rf_kd0 h2
    cases h3
    have hlen : len = 2 := of_decide_eq_true hck
    subst hlen
    exact lv_iload hexec hb hd (rf_at hl h1).1 (kk _ _ _ _ _ hI hl rfl rfl)
  case lload_n k =>
    obtain ⟨v, h1, h2, h3⟩ := rf_load hex
    obtain ⟨x, rfl⟩ := rf_kd1 h2
    cases h3
    have hlen : len = 1 := of_decide_eq_true hck
    subst hlen
    exact lv_lload_n hexec hb hd rfl (rf_at hl h1).1 (kk _ _ _ _ _ hI hl rfl rfl)
  case lload k =>
    obtain ⟨v, h1, h2, h3⟩ := rf_load hex
    obtain ⟨x, rfl⟩ := rf_kd1 h2
    cases h3
    have hlen : len = 2 := of_decide_eq_true hck
    subst hlen
    exact lv_lload hexec hb hd (rf_at hl h1).1 (kk _ _ _ _ _ hI hl rfl rfl)
  case aload_n k =>
    obtain ⟨v, h1, h2, h3⟩ := rf_load hex
    obtain ⟨x, rfl⟩ := rf_kd2 h2
    cases h3
    have hlen : len = 1 := of_decide_eq_true hck
    subst hlen
    exact lv_aload_n hexec hb hd rfl (rf_at hl h1).1 (kk _ _ _ _ _ hI hl rfl rfl)
  case aload k =>
    obtain ⟨v, h1, h2, h3⟩ := rf_load hex
    obtain ⟨x, rfl⟩ := rf_kd2 h2
    cases h3
    have hlen : len = 2 := of_decide_eq_true hck
    subst hlen
    exact lv_aload hexec hb hd (rf_at hl h1).1 (kk _ _ _ _ _ hI hl rfl rfl)
  case istore_n k =>
    obtain ⟨v, rest, rfl, h2, ⟨h9, -, -⟩ | ⟨-, h4, h3⟩⟩ := rf_store hex
    · cases h9
    · obtain ⟨x, rfl⟩ := rf_kd0 h2
      cases h3
      have hlen : len = 1 := of_decide_eq_true hck
      subst hlen
      exact lv_istore_n hexec hb hd rfl hl h4 rfl (fun ls' hl' => kk _ _ _ _ ls' hI hl' rfl rfl)
  case istore k =>
    obtain ⟨v, rest, rfl, h2, ⟨h9, -, -⟩ | ⟨-, h4, h3⟩⟩ := rf_store hex
    · cases h9
    · obtain ⟨x, rfl⟩ := rf_kd0 h2
      cases h3
      have hlen : len = 2 := of_decide_eq_true hck
      subst hlen
      exact lv_istore hexec hb hd hl h4 rfl (fun ls' hl' => kk _ _ _ _ ls' hI hl' rfl rfl)
  case astore_n k =>
    obtain ⟨v, rest, rfl, h2, ⟨h9, -, -⟩ | ⟨-, h4, h3⟩⟩ := rf_store hex
    · cases h9
    · obtain ⟨x, rfl⟩ := rf_kd2 h2
      cases h3
      have hlen : len = 1 := of_decide_eq_true hck
      subst hlen
      exact lv_astore_n hexec hb hd rfl hl h4 rfl (fun ls' hl' => kk _ _ _ _ ls' hI hl' rfl rfl)
  case astore k =>
    obtain ⟨v, rest, rfl, h2, ⟨h9, -, -⟩ | ⟨-, h4, h3⟩⟩ := rf_store hex
    · cases h9
    · obtain ⟨x, rfl⟩ := rf_kd2 h2
      cases h3
      have hlen : len = 2 := of_decide_eq_true hck
      subst hlen
      exact lv_astore hexec hb hd hl h4 rfl (fun ls' hl' => kk _ _ _ _ ls' hI hl' rfl rfl)
  case lstore_n k =>
    obtain ⟨v, rest, rfl, h2, ⟨-, h4, h3⟩ | ⟨h9, -, -⟩⟩ := rf_store hex
    · obtain ⟨x, rfl⟩ := rf_kd1 h2
      cases h3
      have hlen : len = 1 := of_decide_eq_true hck
      subst hlen
      exact lv_lstore_n hexec hb hd rfl hl h4 rfl (fun ls' hl' => kk _ _ _ _ ls' hI hl' rfl rfl)
    · exact absurd rfl h9
  case lstore k =>
    obtain ⟨v, rest, rfl, h2, ⟨-, h4, h3⟩ | ⟨h9, -, -⟩⟩ := rf_store hex
    · obtain ⟨x, rfl⟩ := rf_kd1 h2
      cases h3
      have hlen : len = 2 := of_decide_eq_true hck
      subst hlen
      exact lv_lstore hexec hb hd hl h4 rfl (fun ls' hl' => kk _ _ _ _ ls' hI hl' rfl rfl)
    · exact absurd rfl h9
  case iinc i n =>
    have hlen : len = 3 := of_decide_eq_true hck
    subst hlen
    simp only [mm_ex] at hex
    split at hex
    · rename_i x hg
      split at hex
      · rename_i hi
        cases hex
        obtain ⟨-, k, hk⟩ := rf_at hl hg
        exact lv_iinc hexec hb hd hl hk rfl hi rfl (fun ls' hl' => kk _ _ _ _ ls' hI hl' rfl rfl)
      · cases hex
    · cases hex
  case iadd =>
    obtain ⟨y, x, rest, v, rfl, h2, h3⟩ := rf_bin hex
    cases h2
    cases h3
    have hlen : len = 1 := of_decide_eq_true hck
    subst hlen
    exact lv_iadd hexec hb hd (kk _ _ _ _ _ hI hl rfl rfl)
  case isub =>
    obtain ⟨y, x, rest, v, rfl, h2, h3⟩ := rf_bin hex
    cases h2
    cases h3
    have hlen : len = 1 := of_decide_eq_true hck
    subst hlen
    exact lv_isub hexec hb hd (kk _ _ _ _ _ hI hl rfl rfl)
  case imul =>
    obtain ⟨y, x, rest, v, rfl, h2, h3⟩ := rf_bin hex
    cases h2
    cases h3
    have hlen : len = 1 := of_decide_eq_true hck
    subst hlen
    exact lv_imul hexec hb hd (kk _ _ _ _ _ hI hl rfl rfl)
  case idiv =>
    obtain ⟨y, x, rest, v, rfl, h2, h3⟩ := rf_bin hex
    cases h3
    have hlen : len = 1 := of_decide_eq_true hck
    subst hlen
    split at h2
    · cases h2
    · rename_i hy
      cases h2
      exact lv_idiv hexec hb hd hy (kk _ _ _ _ _ hI hl rfl rfl)
  case irem =>
    obtain ⟨y, x, rest, v, rfl, h2, h3⟩ := rf_bin hex
    cases h3
    have hlen : len = 1 := of_decide_eq_true hck
    subst hlen
    split at h2
    · cases h2
    · rename_i hy
      cases h2
      exact lv_irem hexec hb hd hy (kk _ _ _ _ _ hI hl rfl rfl)
  case iand =>
    obtain ⟨y, x, rest, v, rfl, h2, h3⟩ := rf_bin hex
    cases h2
    cases h3
    have hlen : len = 1 := of_decide_eq_true hck
    subst hlen
    exact lv_iand hexec hb hd (kk _ _ _ _ _ hI hl rfl rfl)
  case ior =>
    obtain ⟨y, x, rest, v, rfl, h2, h3⟩ := rf_bin hex
    cases h2
    cases h3
    have hlen : len = 1 := of_decide_eq_true hck
    subst hlen
    exact lv_ior hexec hb hd (kk _ _ _ _ _ hI hl rfl rfl)
  case ixor =>
    obtain ⟨y, x, rest, v, rfl, h2, h3⟩ := rf_bin hex
    cases h2
    cases h3
    have hlen : len = 1 := of_decide_eq_true hck
    subst hlen
    exact lv_ixor hexec hb hd (kk _ _ _ _ _ hI hl rfl rfl)
  case ishl =>
    obtain ⟨y, x, rest, v, rfl, h2, h3⟩ := rf_bin hex
    cases h2
    cases h3
    have hlen : len = 1 := of_decide_eq_true hck
    subst hlen
    exact lv_ishl hexec hb hd (kk _ _ _ _ _ hI hl rfl rfl)
  case ishr =>
    obtain ⟨y, x, rest, v, rfl, h2, h3⟩ := rf_bin hex
    cases h2
    cases h3
    have hlen : len = 1 := of_decide_eq_true hck
    subst hlen
    exact lv_ishr hexec hb hd (kk _ _ _ _ _ hI hl rfl rfl)
  case iushr =>
    obtain ⟨y, x, rest, v, rfl, h2, h3⟩ := rf_bin hex
    cases h2
    cases h3
    have hlen : len = 1 := of_decide_eq_true hck
    subst hlen
    exact lv_iushr hexec hb hd rfl (kk _ _ _ _ _ hI hl rfl rfl)
  case ineg =>
    obtain ⟨x, rest, rfl, h3⟩ := rf_un hex
    cases h3
    have hlen : len = 1 := of_decide_eq_true hck
    subst hlen
    exact lv_ineg hexec hb hd (kk _ _ _ _ _ hI hl rfl rfl)
  case i2l =>
    obtain ⟨x, rest, rfl, h3⟩ := rf_un hex
    cases h3
    have hlen : len = 1 := of_decide_eq_true hck
    subst hlen
    exact lv_i2l hexec hb hd rfl (kk _ _ _ _ _ hI hl rfl rfl)
  case i2b =>
    obtain ⟨x, rest, rfl, h3⟩ := rf_un hex
    cases h3
    have hlen : len = 1 := of_decide_eq_true hck
    subst hlen
    exact lv_i2b hexec hb hd rfl (kk _ _ _ _ _ hI hl rfl rfl)
  case i2c =>
    obtain ⟨x, rest, rfl, h3⟩ := rf_un hex
    cases h3
    have hlen : len = 1 := of_decide_eq_true hck
    subst hlen
    exact lv_i2c hexec hb hd rfl (kk _ _ _ _ _ hI hl rfl rfl)
  case l2i =>
    have hlen : len = 1 := of_decide_eq_true hck
    subst hlen
    simp only [mm_ex] at hex
    split at hex
    · cases hex
      exact lv_l2i hexec hb hd rfl (kk _ _ _ _ _ hI hl rfl rfl)
    · cases hex
  case ladd =>
    obtain ⟨y, x, rest, rfl, h3⟩ := rf_binL hex
    cases h3
    have hlen : len = 1 := of_decide_eq_true hck
    subst hlen
    exact lv_ladd hexec hb hd (kk _ _ _ _ _ hI hl rfl rfl)
  case lmul =>
    obtain ⟨y, x, rest, rfl, h3⟩ := rf_binL hex
    cases h3
    have hlen : len = 1 := of_decide_eq_true hck
    subst hlen
    exact lv_lmul hexec hb hd (kk _ _ _ _ _ hI hl rfl rfl)
  case lcmp =>
    obtain ⟨y, x, rest, rfl, h3⟩ := rf_binL hex
    cases h3
    have hlen : len = 1 := of_decide_eq_true hck
    subst hlen
    exact W.lcmp hexec hb hd (kk _ _ _ _ _ hI hl rfl rfl)
  case dup =>
    have hlen : len = 1 := of_decide_eq_true hck
    subst hlen
    simp only [mm_ex] at hex
    split at hex
    · split at hex
      · cases hex
        exact lv_dup hexec hb hd (by assumption) (kk _ _ _ _ _ hI hl rfl rfl)
      · cases hex
    · cases hex
  case pop =>
    have hlen : len = 1 := of_decide_eq_true hck
    subst hlen
    simp only [mm_ex] at hex
    split at hex
    · split at hex
      · cases hex
        exact lv_pop hexec hb hd (by assumption) (kk _ _ _ _ _ hI hl rfl rfl)
      · cases hex
    · cases hex
  case dup2 =>
    have hlen : len = 1 := of_decide_eq_true hck
    subst hlen
    simp only [mm_ex] at hex
    split at hex
    · split at hex
      · rename_i hc2
        cases hex
        exact lv_dup2_11 hexec hb hd hc2.1 hc2.2 (kk _ _ _ _ _ hI hl rfl rfl)
      · cases hex
    · cases hex
  case if_icmp k off =>
    simp only [rf_ck, Bool.and_eq_true, decide_eq_true_eq] at hck
    obtain ⟨rfl, h0⟩ := hck
    have ht := rf_tgt h0
    simp only [mm_ex] at hex
    split at hex
    · rename_i y x rest
      have kt : mm_cond k x y = true → W p l e R s m args below meth c H locs cells slots Q (F0 m ((pc : Int) + off).toNat ls rest) := by
        intro hc
        rw [if_pos hc] at hex
        obtain ⟨-, h3⟩ := rf_jump hex
        cases h3
        exact kk _ _ _ _ _ hI hl rfl rfl
      have kf : ¬ mm_cond k x y = true → W p l e R s m args below meth c H locs cells slots Q (F0 m (pc + 3) ls rest) := by
        intro hc
        rw [if_neg hc] at hex
        cases hex
        exact kk _ _ _ _ _ hI hl rfl rfl
      cases k
      · exact lv_icmp_eq hexec hb hd ht (fun hc => kt (by simpa [mm_cond] using hc)) (fun hc => kf (by simpa [mm_cond] using hc))
      · exact lv_icmp_ne hexec hb hd ht (fun hc => kt (by simpa [mm_cond] using hc)) (fun hc => kf (by simpa [mm_cond] using hc))
      · exact lv_icmp_lt hexec hb hd ht (fun hc => kt (by simpa [mm_cond] using hc)) (fun hc => kf (by simpa [mm_cond] using hc))
      · exact lv_icmp_ge hexec hb hd ht (fun hc => kt (by simpa [mm_cond] using hc)) (fun hc => kf (by simpa [mm_cond] using hc))
      · exact lv_icmp_gt hexec hb hd ht (fun hc => kt (by simpa [mm_cond] using hc)) (fun hc => kf (by simpa [mm_cond] using hc))
      · exact lv_icmp_le hexec hb hd ht (fun hc => kt (by simpa [mm_cond] using hc)) (fun hc => kf (by simpa [mm_cond] using hc))
    · cases hex
  case ifCond k off =>
    simp only [rf_ck, Bool.and_eq_true, decide_eq_true_eq] at hck
    obtain ⟨rfl, h0⟩ := hck
    have ht := rf_tgt h0
    simp only [mm_ex] at hex
    split at hex
    · rename_i x rest
      have kt : mm_cond k x 0 = true → W p l e R s m args below meth c H locs cells slots Q (F0 m ((pc : Int) + off).toNat ls rest) := by
        intro hc
        rw [if_pos hc] at hex
        obtain ⟨-, h3⟩ := rf_jump hex
        cases h3
        exact kk _ _ _ _ _ hI hl rfl rfl
      have kf : ¬ mm_cond k x 0 = true → W p l e R s m args below meth c H locs cells slots Q (F0 m (pc + 3) ls rest) := by
        intro hc
        rw [if_neg hc] at hex
        cases hex
        exact kk _ _ _ _ _ hI hl rfl rfl
      cases k
      · exact lv_if_eq hexec hb hd ht (fun hc => kt (by simpa [mm_cond] using hc)) (fun hc => kf (by simpa [mm_cond] using hc))
      · exact lv_if_ne hexec hb hd ht (fun hc => kt (by simpa [mm_cond] using hc)) (fun hc => kf (by simpa [mm_cond] using hc))
      · exact lv_if_lt hexec hb hd ht (fun hc => kt (by simpa [mm_cond] using hc)) (fun hc => kf (by simpa [mm_cond] using hc))
      · exact lv_if_ge hexec hb hd ht (fun hc => kt (by simpa [mm_cond] using hc)) (fun hc => kf (by simpa [mm_cond] using hc))
      · exact lv_if_gt hexec hb hd ht (fun hc => kt (by simpa [mm_cond] using hc)) (fun hc => kf (by simpa [mm_cond] using hc))
      · exact lv_if_le hexec hb hd ht (fun hc => kt (by simpa [mm_cond] using hc)) (fun hc => kf (by simpa [mm_cond] using hc))
    · cases hex
  case goto off =>
    simp only [rf_ck, Bool.and_eq_true, decide_eq_true_eq] at hck
    obtain ⟨rfl, h0⟩ := hck
    obtain ⟨-, h3⟩ := rf_jump hex
    cases h3
    exact lv_goto hexec hb hd (rf_tgt h0) (kk _ _ _ _ _ hI hl rfl rfl)
  case tableswitch dflt lo hi offs =>
    simp only [mm_ex, mm_sw] at hex
    split at hex
    · rename_i x rest
      split at hex
      · rename_i hx
        obtain ⟨h0, h3⟩ := rf_jump hex
        cases h3
        exact lv_tableOut hexec hb hd hx (rf_tgt h0) (kk _ _ _ _ _ hI hl rfl rfl)
      · rename_i hx
        split at hex
        · rename_i off ho
          obtain ⟨h0, h3⟩ := rf_jump hex
          cases h3
          exact lv_tableIn hexec hb hd (fun q => hx (Or.inl q)) (fun q => hx (Or.inr q)) ho (rf_tgt h0) (kk _ _ _ _ _ hI hl rfl rfl)
        · cases hex
    · cases hex
  case getstatic i =>
    simp only [rf_ck, Bool.and_eq_true, decide_eq_true_eq] at hck
    obtain ⟨rfl, hck⟩ := hck
    simp only [mm_ex] at hex
    by_cases h9 : a = 9
    · rw [if_pos h9] at hex hck
      cases hex
      obtain ⟨_, _, _, _, -, -, -, hZ, -⟩ := hStr
      exact va_gets hexec hb hZ hI.2.2 hown (rf_w_in hTw hts hck) (fun _ h9 => h9) hd (kk _ _ _ _ _ hI hl rfl rfl)
    · rw [if_neg h9] at hex hck
      by_cases h8 : a = 8
      · rw [if_pos h8] at hex hck
        obtain ⟨_, _, _, _, -, -, -, -, q, hq, hZ⟩ := hStr
        rw [hq] at hex
        cases hex
        exact va_gets hexec hb hZ hI.2.2 hown (rf_w_in hTw hts hck) (fun _ h9 => h9) hd (kk _ _ _ _ _ hI hl rfl rfl)
      · rw [if_neg h8] at hex hck
        split at hck
        · rename_i nm hnm
          obtain ⟨q, hq, hZ⟩ := hZs a nm hnm
          rw [hq] at hex
          cases hex
          exact va_gets hexec hb hZ hI.2.2 hown (rf_w_in hTw hts hck) (fun _ h9 => h9) hd (kk _ _ _ _ _ hI hl rfl rfl)
        · cases hck
  case iaload =>
    have hlen : len = 1 := of_decide_eq_true hck
    subst hlen
    simp only [mm_ex, mm_ald] at hex
    split at hex
    · rename_i i q rest
      split at hex
      · rename_i t n f hc
        split at hex
        · rename_i hh
          cases hex
          obtain ⟨k, rfl, hk⟩ := rf_cell hc
          obtain ⟨ht, hin⟩ := hh
          have ht : t = 0 := ht.elim id id
          subst ht
          exact va_iald hexec hb hK hI.2.1 k 0 (rf_ws_at hk) rfl (rf_inr hin) hd (kk _ _ _ _ _ hI hl rfl rfl)
        · cases hex
      · cases hex
      · rw [if_pos trivial] at hex
        split at hex
        · rename_i a0 n f hs
          split at hex
          · rename_i hh
            cases hex
            unfold mm_stat at hs
            split at hs
            · cases hs
            · have hq1 := List.find?_some hs
              have hq2 := List.mem_of_find?_eq_some hs
              have hq3 : a0 = q := by simpa using hq1
              subst hq3
              exact va_ti hexec hb (hTb _ hq2) hI.2.2 (rf_inr hh) rfl hd (kk _ _ _ _ _ hI hl rfl rfl)
          · cases hex
        · cases hex
    · cases hex
  case baload =>
    have hlen : len = 1 := of_decide_eq_true hck
    subst hlen
    simp only [mm_ex, mm_ald] at hex
    split at hex
    · rename_i i q rest
      split at hex
      · rename_i t n f hc
        split at hex
        · rename_i hh
          cases hex
          obtain ⟨k, rfl, hk⟩ := rf_cell hc
          obtain ⟨ht, hin⟩ := hh
          rcases ht with rfl | rfl
          · exact va_bald hexec hb hK hI.2.1 k 1 (rf_ws_at hk) rfl (rf_inr hin) hd (kk _ _ _ _ _ hI hl rfl rfl)
          · exact va_zald hexec hb hK hI.2.1 k 2 (rf_ws_at hk) rfl (rf_inr hin) hd (kk _ _ _ _ _ hI hl rfl rfl)
        · cases hex
      · cases hex
      · rw [if_neg (by decide)] at hex
        split at hex
        · rename_i a0 n f hs
          split at hex
          · rename_i hh
            cases hex
            obtain ⟨adK, adV, ln, byt, hS, hE, -⟩ := hStr
            obtain ⟨i2, hi2, rfl, hr⟩ := rf_byt (g := fun i => (ln.getD i 0, fun j => (byt.getD i []).getD j 0)) hE hs
            cases hr
            exact va_tb hexec hb (hS.1 i2 hi2).2.2.2 hI.2.2 (rf_inr hh) rfl hd (kk _ _ _ _ _ hI hl rfl rfl)
          · cases hex
        · cases hex
    · cases hex
  case iastore =>
    have hlen : len = 1 := of_decide_eq_true hck
    subst hlen
    simp only [mm_ex, mm_ast] at hex
    split at hex
    · rename_i x i q rest
      split at hex
      · rename_i t n f hc
        split at hex
        · rename_i hh
          cases hex
          obtain ⟨k, rfl, hk⟩ := rf_cell hc
          obtain ⟨ht, hin⟩ := hh
          have ht : t = 0 := ht.elim id id
          subst ht
          refine rf_iast hexec hb hK hI hk rfl (rf_inr hin) hd (fun H1 locs1 hI1 => ?_)
          refine kk _ _ _ _ _ ?_ hl rfl rfl
          rw [Nat.add_sub_cancel_left]
          exact hI1
        · cases hex
      · cases hex
    · cases hex
  case bastore =>
    have hlen : len = 1 := of_decide_eq_true hck
    subst hlen
    simp only [mm_ex, mm_ast] at hex
    split at hex
    · rename_i x i q rest
      split at hex
      · rename_i t n f hc
        split at hex
        · rename_i hh
          cases hex
          obtain ⟨k, rfl, hk⟩ := rf_cell hc
          obtain ⟨ht, hin⟩ := hh
          rcases ht with rfl | rfl
          · refine rf_bast hexec hb hK hI hk rfl (rf_inr hin) hd (fun H1 locs1 hI1 => ?_)
            refine kk _ _ _ _ _ ?_ hl rfl rfl
            rw [Nat.add_sub_cancel_left]
            exact hI1
          · refine rf_zast hexec hb hK hI hk rfl (rf_inr hin) hd (fun H1 locs1 hI1 => ?_)
            refine kk _ _ _ _ _ ?_ hl rfl rfl
            rw [Nat.add_sub_cancel_left]
            exact hI1
        · cases hex
      · cases hex
    · cases hex
  case laload =>
    have hlen : len = 1 := of_decide_eq_true hck
    subst hlen
    simp only [mm_ex, mm_lald] at hex
    split at hex
    · rename_i i q rest
      split at hex
      · rename_i t n f hc
        split at hex
        · rename_i hh
          cases hex
          obtain ⟨k, rfl, hk⟩ := rf_cell hc
          obtain ⟨rfl, hin⟩ := hh
          exact va_lald hexec hb hK hI.2.1 k 3 (rf_ws_at hk) rfl (rf_inr hin) hd (kk _ _ _ _ _ hI hl rfl rfl)
        · cases hex
      · cases hex
    · cases hex
  case lastore =>
    have hlen : len = 1 := of_decide_eq_true hck
    subst hlen
    simp only [mm_ex, mm_last] at hex
    split at hex
    · rename_i x i q rest
      split at hex
      · rename_i t n f hc
        split at hex
        · rename_i hh
          cases hex
          obtain ⟨k, rfl, hk⟩ := rf_cell hc
          obtain ⟨rfl, hin⟩ := hh
          refine rf_last hexec hb hK hI hk rfl (rf_inr hin) hd (fun H1 locs1 hI1 => ?_)
          refine kk _ _ _ _ _ ?_ hl rfl rfl
          rw [Nat.add_sub_cancel_left]
          exact hI1
        · cases hex
      · cases hex
    · cases hex
  case aaload =>
    have hlen : len = 1 := of_decide_eq_true hck
    subst hlen
    simp only [mm_ex, mm_aald] at hex
    split at hex
    · rename_i i q rest
      split at hex
      · rename_i t n f hc
        split at hex
        · rename_i hh
          cases hex
          obtain ⟨k, rfl, hk⟩ := rf_cell hc
          obtain ⟨rfl, hin⟩ := hh
          have hin := rf_inr hin
          have hlt : i.toNatClampNeg < n := Nat.not_le.mp fun q => hin (Or.inr q)
          exact W.aald (v := va_rf (f i.toNatClampNeg)) (ty := .array .int) hexec hb (hI.2.1 k _ (rf_ws_at hk)) ((hK.2 4 _ rfl).1 n (fun j => va_rf (f j))) rfl (fun q => by cases q) (by show ¬ (i < 0 ∨ (arrV _ _ _).slots.size ≤ _); rw [arrV_size]; exact hin) (by show (arrV _ _ _).slots[_]? = _; rw [arrV_read _ _ hlt]) rfl rfl hd (kk _ _ _ _ _ hI hl rfl rfl)
        · cases hex
      · cases hex
    · cases hex
  case arraylength =>
    have hlen : len = 1 := of_decide_eq_true hck
    subst hlen
    simp only [mm_ex, mm_alen] at hex
    split at hex
    · rename_i q rest
      split at hex
      · rename_i t n f hc
        split at hex
        · rename_i hh
          cases hex
          obtain ⟨k, rfl, hk⟩ := rf_cell hc
          obtain ⟨ty0, hty0⟩ : ∃ ty0, (rf_tys cA)[t]? = some (cA t, ty0) := by
            rcases t with _ | _ | _ | _ | _ | t
            · exact ⟨_, rfl⟩
            · exact ⟨_, rfl⟩
            · exact ⟨_, rfl⟩
            · exact ⟨_, rfl⟩
            · exact ⟨_, rfl⟩
            · exact absurd hh (Nat.not_lt.mpr (Nat.le_add_left 5 t))
          exact va_alen hexec hb hK hI.2.1 k t (rf_ws_at hk) hty0 rfl hd (kk _ _ _ _ _ hI hl rfl rfl)
        · cases hex
      · cases hex
      · split at hex
        · rename_i a0 n f hs
          cases hex
          by_cases ha0 : a = 0
          · rw [if_pos ha0] at hs
            unfold mm_stat at hs
            split at hs
            · cases hs
            · have hq1 := List.find?_some hs
              have hq2 := List.mem_of_find?_eq_some hs
              have hq3 : a0 = q := by simpa using hq1
              subst hq3
              exact va_tlen hexec hb (hTb _ hq2) hI.2.2 rfl hd (kk _ _ _ _ _ hI hl rfl rfl)
          · rw [if_neg ha0] at hs
            obtain ⟨adK, adV, ln, byt, hS, hE, -⟩ := hStr
            obtain ⟨i2, hi2, rfl, hr⟩ := rf_byt (g := fun i => (ln.getD i 0, fun j => (byt.getD i []).getD j 0)) hE hs
            cases hr
            exact va_tlen hexec hb (hS.1 i2 hi2).2.2.2 hI.2.2 rfl hd (kk _ _ _ _ _ hI hl rfl rfl)
        · cases hex
    · cases hex
  case getfield i =>
    simp only [rf_ck, Bool.and_eq_true, decide_eq_true_eq] at hck
    obtain ⟨rfl, hck⟩ := hck
    by_cases h90 : a = 90
    · rw [if_pos h90] at hck
      simp only [mm_ex, if_pos h90, mm_gets] at hex
      split at hex
      · rename_i q rest
        split at hex
        · rename_i i2 hi2
          obtain ⟨adK, adV, ln, byt, hS, hE, -⟩ := hStr
          obtain ⟨hl2, rfl⟩ := rf_str hE hi2
          by_cases hb1 : b = 1
          · rw [if_pos hb1] at hex hck
            cases hex
            exact vk_getf hexec hb (hS.1 i2 hl2).2.1 hI.2.2 hown (rf_w_in hTw hts hck) (fun _ h9 => h9) hd (kk _ _ _ _ _ hI hl rfl rfl)
          · rw [if_neg hb1] at hex hck
            rw [(hE i2 hl2).2] at hex
            cases hex
            exact vk_getf hexec hb (hS.1 i2 hl2).2.2.1 hI.2.2 hown (rf_w_in hTw hts hck) (fun _ h9 => h9) hd (kk _ _ _ _ _ hI hl rfl rfl)
        · cases hex
      · cases hex
    rw [if_neg h90] at hck
    split at hck
    · rename_i C TT N hcl
      simp only [Bool.and_eq_true, decide_eq_true_eq] at hck
      simp only [mm_ex, if_neg h90, mm_getf] at hex
      split at hex
      · rename_i q rest
        split at hex
        · rename_i ci fs hc
          split at hex
          · rename_i hci
            split at hex
            · rename_i v hv
              cases hex
              obtain ⟨k, rfl, hk⟩ := rf_cell hc
              subst hci
              exact rf_get hexec hb hts hCl hown hK hI hk hcl hck.1 (rf_w_in hTw hts hck.2) hv hd (kk _ _ _ _ _ hI hl rfl rfl)
            · cases hex
          · cases hex
        · cases hex
      · cases hex
    · cases hck
  case putfield i =>
    simp only [rf_ck, Bool.and_eq_true, decide_eq_true_eq] at hck
    obtain ⟨rfl, hck⟩ := hck
    split at hck
    · rename_i C TT N hcl
      simp only [Bool.and_eq_true, decide_eq_true_eq] at hck
      obtain ⟨hbN, hwd, hfin⟩ := hck
      simp only [mm_ex] at hex
      split at hex
      · rename_i lk hlk
        split at hex
        · rename_i kd hkd
          simp only [mm_putf] at hex
          split at hex
          · rename_i v q rest
            split at hex
            · rename_i ci fs hc
              split at hex
              · rename_i hh
                cases hex
                obtain ⟨k, rfl, hk⟩ := rf_cell hc
                obtain ⟨rfl, hlt, hfit⟩ := hh
                obtain ⟨-, -, -, -, -, ks, hks, -, hall⟩ := hCl _ C TT N hcl
                cases hlk.symm.trans hks
                have e1 := (hall b hbN).1
                cases hkd.symm.trans e1
                refine rf_put hexec hb hts hCl hown hK hI hk hcl hbN (rf_w_in hTw hts hwd) ?_ hfit hlt hd (fun H1 locs1 hI1 => ?_)
                · simp only [Bool.or_eq_true, Bool.not_eq_true', Bool.and_eq_true, decide_eq_true_eq] at hfin
                  rcases hfin with hf | ⟨hf1, hf2⟩
                  · exact Or.inl hf
                  · exact Or.inr ⟨hini hf1, hf2⟩
                · refine kk _ _ _ _ _ ?_ hl rfl rfl
                  rw [Nat.add_sub_cancel_left]
                  exact hI1
              · cases hex
            · cases hex
          · cases hex
        · cases hex
      · cases hex
    · cases hck
  case new i =>
    simp only [rf_ck, Bool.and_eq_true, decide_eq_true_eq] at hck
    obtain ⟨rfl, hck⟩ := hck
    split at hck
    · rename_i C TT N hcl
      simp only [mm_ex] at hex
      split at hex
      · rename_i lk hlk
        simp only [mm_new] at hex
        split at hex
        · rename_i hh
          cases hex
          refine rf_new hexec hb hts hCl hown (rf_w_in hTw hts hck) hK hI hcl hlk (by omega) (by omega) hd (fun H1 hI1 => ?_)
          exact kk _ _ _ _ _ hI1 hl (by omega) (by omega)
        · cases hex
      · cases hex
    · cases hck
  case newarray t =>
    simp only [rf_ck, Bool.and_eq_true, decide_eq_true_eq] at hck
    obtain ⟨rfl, hck⟩ := hck
    have hwd := rf_w_in hTw hts hck
    simp only [mm_ex, mm_newa] at hex
    split at hex
    · rename_i n rest
      split at hex
      · rename_i hh
        obtain ⟨g1, g2, g3, g4⟩ := hh
        have hcl := rf_clamp g1 (M := 100000) g2
        cases t <;> simp only [reduceCtorEq, Option.some.injEq, Prod.mk.injEq] at hex <;> obtain ⟨rfl, rfl, rfl, rfl, rfl, rfl⟩ := hex
        · exact rf_newa hexec hb hwd rfl (t := 2) ((hK.2 2 _ rfl).2) hI (fun _ => rfl) (rf_nlt g1) rfl (by show n.toNatClampNeg * 1 ≤ 536870912; omega) (by omega) (by omega) hd (fun H1 hI1 => kk _ _ _ _ _ hI1 hl (by omega) (by omega))
        · exact rf_newa hexec hb hwd rfl (t := 1) ((hK.2 1 _ rfl).2) hI (fun _ => rfl) (rf_nlt g1) rfl (by show n.toNatClampNeg * 1 ≤ 536870912; omega) (by omega) (by omega) hd (fun H1 hI1 => kk _ _ _ _ _ hI1 hl (by omega) (by omega))
        · exact rf_newa hexec hb hwd rfl (t := 0) ((hK.2 0 _ rfl).2) hI (fun _ => rfl) (rf_nlt g1) rfl (by show n.toNatClampNeg * 4 ≤ 536870912; omega) (by omega) (by omega) hd (fun H1 hI1 => kk _ _ _ _ _ hI1 hl (by omega) (by omega))
        · exact rf_newa hexec hb hwd rfl (t := 3) ((hK.2 3 _ rfl).2) hI (fun _ => rfl) (rf_nlt g1) rfl (by show n.toNatClampNeg * 8 ≤ 536870912; omega) (by omega) (by omega) hd (fun H1 hI1 => kk _ _ _ _ _ hI1 hl (by omega) (by omega))
      · cases hex
    · cases hex
  case multianewarray i dims =>
    simp only [rf_ck, Bool.and_eq_true, decide_eq_true_eq] at hck
    obtain ⟨rfl, hck⟩ := hck
    have hwd := rf_w_in hTw hts hck
    rcases dims with _ | _ | _ | dims
    · cases hex
    · cases hex
    · simp only [mm_ex, mm_newm] at hex
      split at hex
      · rename_i k n rest
        split at hex
        · rename_i hh
          obtain ⟨g1, g2, g3, g4, g5, g6⟩ := hh
          have hn := rf_clamp g1 (M := 10000) g2
          have hk := rf_clamp g3 (M := 10000) g4
          cases hex
          exact rf_mna hexec hb hown hwd hAO (hts _ hAi) ((hK.2 0 _ rfl).2) ((hK.2 4 _ rfl).2) hI (rf_nlt g1) (rf_nlt g3) rfl rfl (by omega) (by omega) (by omega) (by omega) hd (fun H1 hI1 => kk _ _ _ _ _ hI1 hl (by omega) (by omega))
        · cases hex
      · cases hex
    · cases hex
  all_goals (exact absurd hex (by simp [mm_ex]))
end RFX
