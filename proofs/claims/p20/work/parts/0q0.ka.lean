/-! ROWS THAT NO METHOD WITHIN REACH WRITES (by hand): K the cells of the rows, G the fields that may hold their places, T what of the stack may be one, by method and place -/
def ka_t (E : mm_E) (K : List Nat) (v : Value) : Prop := ∃ c ∈ K, v = .ref (E.1 + c)
theorem ka_ti {E : mm_E} {K : List Nat} {x : Int32} : ¬ ka_t E K (.int x) := fun ⟨_, _, e⟩ => by cases e
theorem ka_tl {E : mm_E} {K : List Nat} {x : Int64} : ¬ ka_t E K (.long x) := fun ⟨_, _, e⟩ => by cases e
theorem ka_tn {E : mm_E} {K : List Nat} : ¬ ka_t E K .null := fun ⟨_, _, e⟩ => by cases e
def ka_hd : List Bool → Bool
  | [] => false
  | a :: _ => a
def ka_st (E : mm_E) (K : List Nat) : List Value → List Bool → Prop
  | [], _ => True
  | v :: st, t => (ka_t E K v → ka_hd t = true) ∧ ka_st E K st t.tail
def ka_le : List Bool → List Bool → Bool
  | [], _ => true
  | a :: r, t => (!a || ka_hd t) && ka_le r t.tail
theorem ka_hd_le : ∀ {t u : List Bool}, ka_le t u = true → ka_hd t = true → ka_hd u = true ∧ ka_le t.tail u.tail = true
  | [], _, _, h => by cases h
  | a :: r, u, h, ha => by
    obtain ⟨h1, h2⟩ := Bool.and_eq_true_iff.mp h
    have ha : a = true := ha
    subst ha
    exact ⟨h1, h2⟩
theorem ka_tl_le : ∀ {t u : List Bool}, ka_le t u = true → ka_le t.tail u.tail = true
  | [], _, _ => rfl
  | _ :: _, _, h => (Bool.and_eq_true_iff.mp h).2
theorem ka_st_le {E : mm_E} {K : List Nat} : ∀ {st : List Value} {t u : List Bool}, ka_le t u = true → ka_st E K st t → ka_st E K st u
  | [], _, _, _, _ => trivial
  | _ :: _, _, _, h, g => ⟨fun k => (ka_hd_le h (g.1 k)).1, ka_st_le (ka_tl_le h) g.2⟩
/-- no place of such a row among the values -/
def ka_n (E : mm_E) (K : List Nat) (vs : List Value) : Prop := ∀ v ∈ vs, ¬ ka_t E K v
def ka_lv (E : mm_E) (K : List Nat) (lv : mm_V) : Prop := ∀ q ∈ lv, ¬ ka_t E K q.2
/-- a method's local that may hold such a place: where a row is handed on to be read -/
def ka_u (m i : Nat) : Bool := Nat.beq m 206 && Nat.beq i 1
def ka_lw (E : mm_E) (K : List Nat) (m : Nat) (lv : mm_V) : Prop := ∀ q ∈ lv, ka_t E K q.2 → ka_u m q.1 = true
theorem ka_lw_of {E : mm_E} {K : List Nat} {m : Nat} {lv : mm_V} (h : ka_lv E K lv) : ka_lw E K m lv := fun q hq k => absurd k (h q hq)
theorem ka_get {E : mm_E} {K : List Nat} {m : Nat} {lv : mm_V} {i : Nat} {v : Value} (h : ka_lw E K m lv) (e : mm_get lv i = some v) (k : ka_t E K v) : ka_u m i = true := by
  unfold mm_get at e
  obtain ⟨q, hq, e2⟩ := Option.map_eq_some_iff.mp e
  have h4 := List.find?_some (p := fun q : Nat × Value => q.1 == i) hq
  have h5 : q.1 = i := eq_of_beq h4
  rw [← h5]
  exact h q (List.mem_of_find?_eq_some hq) (by rw [e2]; exact k)
theorem ka_p1 {E : mm_E} {K : List Nat} {m : Nat} {lv : mm_V} {i : Nat} {v : Value} (h : ka_lw E K m lv) (hv : ¬ ka_t E K v) : ka_lw E K m (mm_p1 lv i v) := by
  intro q hq
  rcases List.mem_cons.mp hq with rfl | hq
  · exact fun k => absurd k hv
  · exact h q (List.mem_filter.mp hq).1
theorem ka_p2 {E : mm_E} {K : List Nat} {m : Nat} {lv : mm_V} {i : Nat} {v : Value} (h : ka_lw E K m lv) (hv : ¬ ka_t E K v) : ka_lw E K m (mm_p2 lv i v) := by
  intro q hq
  rcases List.mem_cons.mp hq with rfl | hq
  · exact fun k => absurd k hv
  · exact h q (List.mem_filter.mp hq).1
theorem ka_args {E : mm_E} {K : List Nat} : ∀ {vs : List Value} {i : Nat}, ka_n E K vs → ka_lv E K (lv_args i vs)
  | [], _, _ => fun q hq => by cases hq
  | v :: vs, i, h => by
    intro q hq
    rcases List.mem_cons.mp hq with rfl | hq
    · exact h v List.mem_cons_self
    · exact ka_args (fun w hw => h w (List.mem_cons_of_mem _ hw)) q hq
/-- the heap: only some fields hold such a place -/
def ka_h (E : mm_E) (G : Nat → Nat → Bool) (K : List Nat) (h : mm_H) : Prop := (∀ (c ci : Nat) (fs : List Value), h[c]? = some (.inr (ci, fs)) → ∀ (k : Nat) (v : Value), fs[k]? = some v → ka_t E K v → G ci k = true) ∧ (∀ (c n : Nat) (f : Nat → Option Nat), h[c]? = some (.inl (4, n, .inr (.inr (.inr (.inr f))))) → ∀ i, i < n → ¬ ka_t E K (va_rf (f i))) ∧ ∀ c ∈ K, ∃ x : ClassId × vp_A, h[c]? = some (.inl x)
/-- the rows are as they were -/
def ka_F (K : List Nat) (h h' : mm_H) : Prop := ∀ c ∈ K, h'[c]? = h[c]?
section KA
variable {E : mm_E} {G : Nat → Nat → Bool} {K : List Nat} {h h1 h2 h' : mm_H}
theorem ka_r : ka_F K h h := fun _ _ => rfl
theorem ka_tr (a : ka_F K h h1) (b : ka_F K h1 h2) : ka_F K h h2 := fun c hc => (b c hc).trans (a c hc)
theorem ka_cell {a : Nat} {x : va_E} (e : mm_cell E h a = some x) : h[a - E.1]? = some x ∧ E.1 ≤ a := by
  unfold mm_cell at e
  split at e
  · next g => exact ⟨e, g⟩
  · cases e
/-- a row that is not among them is written -/
theorem ka_set {a t n : Nat} {x : kq_X} {y : va_E} (hH : ka_h E G K h) (e : mm_cell E h a = some y) (hx : ∀ f : Nat → Option Nat, x ≠ .inr (.inr (.inr (.inr f)))) (ha : ¬ ka_t E K (.ref a)) : ka_h E G K (h.set (a - E.1) (.inl (t, n, x))) ∧ ka_F K h (h.set (a - E.1) (.inl (t, n, x))) := by
  obtain ⟨e1, e2⟩ := ka_cell e
  have hl := (List.getElem?_eq_some_iff.mp e1).1
  have hF : ka_F K h (h.set (a - E.1) (.inl (t, n, x))) := fun c hc => by
    refine List.getElem?_set_ne (fun q => ha ⟨c, hc, ?_⟩)
    rw [← q, Nat.add_sub_cancel' e2]
  refine ⟨⟨fun c ci fs ec k v hk hv => ?_, fun c n2 f ec i hi => ?_, fun c hc => ?_⟩, hF⟩
  · by_cases q : a - E.1 = c
    · subst q
      rw [List.getElem?_set_self hl] at ec
      cases ec
    · rw [List.getElem?_set_ne q] at ec
      exact hH.1 c ci fs ec k v hk hv
  · by_cases q : a - E.1 = c
    · subst q
      rw [List.getElem?_set_self hl] at ec
      cases ec
      exact absurd rfl (hx f)
    · rw [List.getElem?_set_ne q] at ec
      exact hH.2.1 c n2 f ec i hi
  · rw [hF c hc]
    exact hH.2.2 c hc
/-- a field is written, with what is no such place -/
theorem ka_put {a c0 k0 : Nat} {fs0 : List Value} {v0 : Value} (hH : ka_h E G K h) (e : mm_cell E h a = some (.inr (c0, fs0))) (hv0 : ¬ ka_t E K v0) : ka_h E G K (h.set (a - E.1) (.inr (c0, fs0.set k0 v0))) ∧ ka_F K h (h.set (a - E.1) (.inr (c0, fs0.set k0 v0))) := by
  obtain ⟨e1, e2⟩ := ka_cell e
  have hl := (List.getElem?_eq_some_iff.mp e1).1
  have hF : ka_F K h (h.set (a - E.1) (.inr (c0, fs0.set k0 v0))) := fun c hc => by
    refine List.getElem?_set_ne (fun q => ?_)
    obtain ⟨x, ex⟩ := hH.2.2 c hc
    rw [← q, e1] at ex
    cases ex
  refine ⟨⟨fun c ci fs ec k v hk hv => ?_, fun c n2 f ec i hi => ?_, fun c hc => ?_⟩, hF⟩
  · by_cases q : a - E.1 = c
    · subst q
      rw [List.getElem?_set_self hl] at ec
      cases ec
      by_cases q2 : k0 = k
      · subst q2
        by_cases hl2 : k0 < fs0.length
        · rw [List.getElem?_set_self hl2] at hk
          cases hk
          exact absurd hv hv0
        · rw [List.getElem?_eq_none (by rw [List.length_set]; exact Nat.le_of_not_lt hl2)] at hk
          cases hk
      · rw [List.getElem?_set_ne q2] at hk
        exact hH.1 _ _ _ e1 k v hk hv
    · rw [List.getElem?_set_ne q] at ec
      exact hH.1 c ci fs ec k v hk hv
  · by_cases q : a - E.1 = c
    · subst q
      rw [List.getElem?_set_self hl] at ec
      cases ec
    · rw [List.getElem?_set_ne q] at ec
      exact hH.2.1 c n2 f ec i hi
  · rw [hF c hc]
    exact hH.2.2 c hc
end KA
/-- what an instruction leaves of the stack; none: not these -/
def ka_eff (kds : List (List Nat)) (G : Nat → Nat → Bool) (m : Nat) (ins : Instr) (a b : Nat) (t : List Bool) : Option (List Bool) := match ins with
  | .iconst _ => some (false :: t)
  | .bipush _ => some (false :: t)
  | .sipush _ => some (false :: t)
  | .lconst _ => some (false :: t)
  | .ldc _ => some (true :: t)
  | .ldc_w _ => some (false :: t)
  | .ldc2_w _ => some (false :: t)
  | .iload_n i => some (ka_u m i :: t)
  | .iload i => some (ka_u m i :: t)
  | .lload_n i => some (ka_u m i :: t)
  | .lload i => some (ka_u m i :: t)
  | .aload_n i => some (ka_u m i :: t)
  | .aload i => some (ka_u m i :: t)
  | .istore_n _ => if ka_hd t then none else some t.tail
  | .istore _ => if ka_hd t then none else some t.tail
  | .lstore_n _ => if ka_hd t then none else some t.tail
  | .lstore _ => if ka_hd t then none else some t.tail
  | .astore_n _ => if ka_hd t then none else some t.tail
  | .astore _ => if ka_hd t then none else some t.tail
  | .iinc _ _ => some t
  | .iadd => some (false :: t.tail.tail)
  | .isub => some (false :: t.tail.tail)
  | .imul => some (false :: t.tail.tail)
  | .idiv => some (false :: t.tail.tail)
  | .irem => some (false :: t.tail.tail)
  | .iand => some (false :: t.tail.tail)
  | .ior => some (false :: t.tail.tail)
  | .ixor => some (false :: t.tail.tail)
  | .ishl => some (false :: t.tail.tail)
  | .ishr => some (false :: t.tail.tail)
  | .iushr => some (false :: t.tail.tail)
  | .ineg => some (false :: t.tail)
  | .i2l => some (false :: t.tail)
  | .i2b => some (false :: t.tail)
  | .i2c => some (false :: t.tail)
  | .l2i => some (false :: t.tail)
  | .ladd => some (false :: t.tail.tail)
  | .lmul => some (false :: t.tail.tail)
  | .lcmp => some (false :: t.tail.tail)
  | .dup => some (ka_hd t :: t)
  | .pop => some t.tail
  | .dup2 => some (ka_hd t :: ka_hd t.tail :: t)
  | .if_icmp _ _ => some t.tail.tail
  | .ifCond _ _ => some t.tail
  | .goto _ => some t
  | .tableswitch _ _ _ _ => some t.tail
  | .getstatic _ => some (true :: t)
  | .iaload => some (false :: t.tail.tail)
  | .baload => some (false :: t.tail.tail)
  | .iastore => if ka_hd t.tail.tail then none else some t.tail.tail.tail
  | .bastore => if ka_hd t.tail.tail then none else some t.tail.tail.tail
  | .laload => some (false :: t.tail.tail)
  | .lastore => if ka_hd t.tail.tail then none else some t.tail.tail.tail
  | .aaload => some (false :: t.tail.tail)
  | .arraylength => some (false :: t.tail)
  | .getfield _ => if Nat.beq a 90 then some (true :: t.tail) else some (G a b :: t.tail)
  | .putfield _ => match kds[a]? with
    | some l => (match l[b]? with
      | some kd => if Nat.beq kd 3 then none else some t.tail.tail
      | none => none)
    | none => none
  | _ => none
/-- where an instruction goes on -/
def ka_suc (ins : Instr) (pc len : Nat) : List Nat := match ins with
  | .if_icmp _ off => [pc + len, ((pc : Int) + off).toNat]
  | .ifCond _ off => [pc + len, ((pc : Int) + off).toNat]
  | .goto off => [((pc : Int) + off).toNat]
  | .tableswitch d _ _ offs => ((pc : Int) + d).toNat :: offs.toList.map (fun off => ((pc : Int) + off).toNat)
  | _ => [pc + len]
def ka_res (E : mm_E) (G : Nat → Nat → Bool) (K : List Nat) (m : Nat) (h : mm_H) (S : List Nat) (t : List Bool) (pc : Nat) (lv : mm_V) (st : List Value) (h' : mm_H) : Prop := pc ∈ S ∧ ka_lw E K m lv ∧ ka_st E K st t ∧ ka_h E G K h' ∧ ka_F K h h'
section KX
variable {E : mm_E} {G : Nat → Nat → Bool} {K : List Nat} {m : Nat} {h h' : mm_H} {lv lv' : mm_V} {st st' : List Value} {cb sb cb' sb' pn pc' : Nat} {t : List Bool}
theorem ka_1 {v : Value} (hH : ka_h E G K h) (hl : ka_lw E K m lv) (hv : ¬ ka_t E K v) (hs : ka_st E K st t) : ka_res E G K m h [pn] (false :: t) pn lv (v :: st) h := ⟨List.mem_singleton.mpr rfl, hl, ⟨fun k => absurd k hv, hs⟩, hH, ka_r⟩
theorem ka_xload {kd i : Nat} (hH : ka_h E G K h) (hl : ka_lw E K m lv) (hs : ka_st E K st t) (hx : mm_load lv st cb sb h pn kd i = some (pc', lv', st', cb', sb', h')) : ka_res E G K m h [pn] (ka_u m i :: t) pc' lv' st' h' := by
  unfold mm_load at hx
  split at hx
  · next v e =>
    split at hx
    · cases hx
      exact ⟨List.mem_singleton.mpr rfl, hl, ⟨fun k => ka_get hl e k, hs⟩, hH, ka_r⟩
    · cases hx
  · cases hx
theorem ka_xstore {nL kd i : Nat} (hH : ka_h E G K h) (hl : ka_lw E K m lv) (hs : ka_st E K st t) (ht : ka_hd t = false) (hx : mm_store nL lv st cb sb h pn kd i = some (pc', lv', st', cb', sb', h')) : ka_res E G K m h [pn] t.tail pc' lv' st' h' := by
  unfold mm_store at hx
  split at hx
  · next v r =>
    have hv : ¬ ka_t E K v := fun k => by
      have := hs.1 k
      rw [ht] at this
      cases this
    split at hx
    · split at hx
      · split at hx
        · cases hx
          exact ⟨List.mem_singleton.mpr rfl, ka_p2 hl hv, hs.2, hH, ka_r⟩
        · cases hx
      · split at hx
        · cases hx
          exact ⟨List.mem_singleton.mpr rfl, ka_p1 hl hv, hs.2, hH, ka_r⟩
        · cases hx
    · cases hx
  · cases hx
theorem ka_xbin {g : Int32 → Int32 → Option Int32} (hH : ka_h E G K h) (hl : ka_lw E K m lv) (hs : ka_st E K st t) (hx : mm_bin lv st cb sb h pn g = some (pc', lv', st', cb', sb', h')) : ka_res E G K m h [pn] (false :: t.tail.tail) pc' lv' st' h' := by
  unfold mm_bin at hx
  split at hx
  · obtain ⟨v, -, e⟩ := Option.map_eq_some_iff.mp hx
    cases e
    exact ka_1 hH hl ka_ti hs.2.2
  · cases hx
theorem ka_xbinL {g : Int64 → Int64 → Value} (hg : ∀ x y, ¬ ka_t E K (g x y)) (hH : ka_h E G K h) (hl : ka_lw E K m lv) (hs : ka_st E K st t) (hx : mm_binL lv st cb sb h pn g = some (pc', lv', st', cb', sb', h')) : ka_res E G K m h [pn] (false :: t.tail.tail) pc' lv' st' h' := by
  unfold mm_binL at hx
  split at hx
  · cases hx
    exact ka_1 hH hl (hg _ _) hs.2.2
  · cases hx
theorem ka_xun {g : Int32 → Value} (hg : ∀ x, ¬ ka_t E K (g x)) (hH : ka_h E G K h) (hl : ka_lw E K m lv) (hs : ka_st E K st t) (hx : mm_un lv st cb sb h pn g = some (pc', lv', st', cb', sb', h')) : ka_res E G K m h [pn] (false :: t.tail) pc' lv' st' h' := by
  unfold mm_un at hx
  split at hx
  · cases hx
    exact ka_1 hH hl (hg _) hs.2
  · cases hx
theorem ka_xald {kd kd2 : Nat} (hH : ka_h E G K h) (hl : ka_lw E K m lv) (hs : ka_st E K st t) (hx : mm_ald E lv st cb sb h pn kd kd2 = some (pc', lv', st', cb', sb', h')) : ka_res E G K m h [pn] (false :: t.tail.tail) pc' lv' st' h' := by
  unfold mm_ald at hx
  split at hx
  · split at hx
    · split at hx
      · cases hx
        exact ka_1 hH hl ka_ti hs.2.2
      · cases hx
    · cases hx
    · split at hx
      · split at hx
        · cases hx
          exact ka_1 hH hl ka_ti hs.2.2
        · cases hx
      · cases hx
  · cases hx
theorem ka_xlald (hH : ka_h E G K h) (hl : ka_lw E K m lv) (hs : ka_st E K st t) (hx : mm_lald E lv st cb sb h pn = some (pc', lv', st', cb', sb', h')) : ka_res E G K m h [pn] (false :: t.tail.tail) pc' lv' st' h' := by
  unfold mm_lald at hx
  split at hx
  · split at hx
    · split at hx
      · cases hx
        exact ka_1 hH hl ka_tl hs.2.2
      · cases hx
    · cases hx
  · cases hx
theorem ka_xaald (hH : ka_h E G K h) (hl : ka_lw E K m lv) (hs : ka_st E K st t) (hx : mm_aald E lv st cb sb h pn = some (pc', lv', st', cb', sb', h')) : ka_res E G K m h [pn] (false :: t.tail.tail) pc' lv' st' h' := by
  unfold mm_aald at hx
  split at hx
  · split at hx
    · next e =>
      split at hx
      · next hc =>
        cases hx
        obtain ⟨rfl, hi⟩ := hc
        obtain ⟨i1, i2⟩ := Bool.and_eq_true_iff.mp hi
        have i1 := of_decide_eq_true i1
        have i2 := of_decide_eq_true i2
        exact ka_1 hH hl (hH.2.1 _ _ _ (ka_cell e).1 _ (by show Int.toNat _ < _; omega)) hs.2.2
      · cases hx
    · cases hx
  · cases hx
theorem ka_xalen {kd : Nat} (hH : ka_h E G K h) (hl : ka_lw E K m lv) (hs : ka_st E K st t) (hx : mm_alen E lv st cb sb h pn kd = some (pc', lv', st', cb', sb', h')) : ka_res E G K m h [pn] (false :: t.tail) pc' lv' st' h' := by
  unfold mm_alen at hx
  split at hx
  · split at hx
    · split at hx
      · cases hx
        exact ka_1 hH hl ka_ti hs.2
      · cases hx
    · cases hx
    · split at hx
      · cases hx
        exact ka_1 hH hl ka_ti hs.2
      · cases hx
  · cases hx
theorem ka_xgetf {ci k : Nat} (hH : ka_h E G K h) (hl : ka_lw E K m lv) (hs : ka_st E K st t) (hx : mm_getf E lv st cb sb h pn ci k = some (pc', lv', st', cb', sb', h')) : ka_res E G K m h [pn] (G ci k :: t.tail) pc' lv' st' h' := by
  unfold mm_getf at hx
  split at hx
  · split at hx
    · next e =>
      split at hx
      · next hc =>
        split at hx
        · next v ev =>
          cases hx
          subst hc
          exact ⟨List.mem_singleton.mpr rfl, hl, ⟨fun q => hH.1 _ _ _ (ka_cell e).1 _ _ ev q, hs.2⟩, hH, ka_r⟩
        · cases hx
      · cases hx
    · cases hx
  · cases hx
theorem ka_xgets {b : Nat} (hH : ka_h E G K h) (hl : ka_lw E K m lv) (hs : ka_st E K st t) (hx : mm_gets E lv st cb sb h pn b = some (pc', lv', st', cb', sb', h')) : ka_res E G K m h [pn] (true :: t.tail) pc' lv' st' h' := by
  unfold mm_gets at hx
  split at hx
  · split at hx
    · split at hx
      · cases hx
        exact ⟨List.mem_singleton.mpr rfl, hl, ⟨fun _ => rfl, hs.2⟩, hH, ka_r⟩
      · split at hx
        · cases hx
          exact ⟨List.mem_singleton.mpr rfl, hl, ⟨fun _ => rfl, hs.2⟩, hH, ka_r⟩
        · cases hx
    · cases hx
  · cases hx
theorem ka_f {a : Bool} {P : Prop} (h : P → a = true) (ha : a = false) : ¬ P := fun k => by
  have := h k
  rw [ha] at this
  cases this
theorem ka_xast {kd kd2 : Nat} (hH : ka_h E G K h) (hl : ka_lw E K m lv) (hs : ka_st E K st t) (ht : ka_hd t.tail.tail = false) (hx : mm_ast E lv st cb sb h pn kd kd2 = some (pc', lv', st', cb', sb', h')) : ka_res E G K m h [pn] t.tail.tail.tail pc' lv' st' h' := by
  unfold mm_ast at hx
  split at hx
  · split at hx
    · next e =>
      split at hx
      · cases hx
        refine ⟨List.mem_singleton.mpr rfl, hl, hs.2.2.2, ?_, ?_⟩
        · exact (ka_set hH e (fun f q => by cases q) (ka_f hs.2.2.1 ht)).1
        · exact (ka_set hH e (fun f q => by cases q) (ka_f hs.2.2.1 ht)).2
      · cases hx
    · cases hx
  · cases hx
theorem ka_xlast (hH : ka_h E G K h) (hl : ka_lw E K m lv) (hs : ka_st E K st t) (ht : ka_hd t.tail.tail = false) (hx : mm_last E lv st cb sb h pn = some (pc', lv', st', cb', sb', h')) : ka_res E G K m h [pn] t.tail.tail.tail pc' lv' st' h' := by
  unfold mm_last at hx
  split at hx
  · split at hx
    · next e =>
      split at hx
      · cases hx
        refine ⟨List.mem_singleton.mpr rfl, hl, hs.2.2.2, ?_, ?_⟩
        · exact (ka_set hH e (fun f q => by cases q) (ka_f hs.2.2.1 ht)).1
        · exact (ka_set hH e (fun f q => by cases q) (ka_f hs.2.2.1 ht)).2
      · cases hx
    · cases hx
  · cases hx
theorem ka_xcopy (hH : ka_h E G K h) (hl : ka_lw E K m lv) (hs : ka_st E K st t) (ht : ka_hd t.tail.tail = false) (hx : mm_copy E lv st cb sb h pn = some (pc', lv', st', cb', sb', h')) : ka_res E G K m h [pn] t.tail.tail.tail.tail.tail pc' lv' st' h' := by
  unfold mm_copy at hx
  split at hx
  · split at hx
    · next e0 e1 =>
      split at hx
      · cases hx
        refine ⟨List.mem_singleton.mpr rfl, hl, hs.2.2.2.2.2, ?_, ?_⟩
        · exact (ka_set hH e1 (fun f q => by cases q) (ka_f hs.2.2.1 ht)).1
        · exact (ka_set hH e1 (fun f q => by cases q) (ka_f hs.2.2.1 ht)).2
      · cases hx
    · cases hx
  · cases hx
theorem ka_fit {kd : Nat} {v : Value} (hk : kd ≠ 3) (h : mm_fits kd v = true) : ¬ ka_t E K v := by
  intro ⟨c, _, e⟩
  subst e
  exact hk (of_decide_eq_true h)
theorem ka_xputf {ci k kd : Nat} (hH : ka_h E G K h) (hl : ka_lw E K m lv) (hs : ka_st E K st t) (hk : kd ≠ 3) (hx : mm_putf E lv st cb sb h pn ci k kd = some (pc', lv', st', cb', sb', h')) : ka_res E G K m h [pn] t.tail.tail pc' lv' st' h' := by
  unfold mm_putf at hx
  split at hx
  · split at hx
    · next e =>
      split at hx
      · next hc =>
        cases hx
        have q := ka_put (k0 := k) hH e (ka_fit (E := E) (K := K) hk hc.2.2)
        exact ⟨List.mem_singleton.mpr rfl, hl, hs.2.2, q.1, q.2⟩
      · cases hx
    · cases hx
  · cases hx
theorem ka_xjump {off : Int} {S : List Nat} (hH : ka_h E G K h) (hl : ka_lw E K m lv) (hs : ka_st E K st t) (hm : ((pn : Int) + off).toNat ∈ S) (hx : mm_jump lv st cb sb h pn off = some (pc', lv', st', cb', sb', h')) : ka_res E G K m h S t pc' lv' st' h' := by
  unfold mm_jump at hx
  split at hx
  · cases hx
    exact ⟨hm, hl, hs, hH, ka_r⟩
  · cases hx
theorem ka_xsw {d lo hi : Int} {offs : Array Int} (hH : ka_h E G K h) (hl : ka_lw E K m lv) (hs : ka_st E K st t) (hx : mm_sw lv st cb sb h pn d lo hi offs = some (pc', lv', st', cb', sb', h')) : ka_res E G K m h (((pn : Int) + d).toNat :: offs.toList.map (fun off => ((pn : Int) + off).toNat)) t.tail pc' lv' st' h' := by
  unfold mm_sw at hx
  split at hx
  · split at hx
    · exact ka_xjump hH hl hs.2 List.mem_cons_self hx
    · split at hx
      · next off e =>
        refine ka_xjump hH hl hs.2 (List.mem_cons_of_mem _ (List.mem_map.mpr ⟨off, ?_, rfl⟩)) hx
        rw [Array.mem_toList_iff]
        exact Array.mem_of_getElem? e
      · cases hx
  · cases hx
end KX
theorem ka_ne3 {kd : Nat} (h : Nat.beq kd 3 = false) : kd ≠ 3 := fun e => by
  subst e
  cases h
theorem ka_ex {E : mm_E} {G : Nat → Nat → Bool} {K : List Nat} {m nL len a b pc pc' cb sb cb' sb' : Nat} {z : Int} {ins : Instr} {lv lv' : mm_V} {st st' : List Value} {h h' : mm_H} {t u : List Bool} (hH : ka_h E G K h) (hl : ka_lw E K m lv) (hs : ka_st E K st t) (he : ka_eff mt_kds G m ins a b t = some u) (hx : mm_ex E mt_kds nL ins len a b z pc lv st cb sb h = some (pc', lv', st', cb', sb', h')) : ka_res E G K m h (ka_suc ins pc len) u pc' lv' st' h' := by
  cases ins
  case iconst => cases he; cases hx; exact ka_1 hH hl ka_ti hs
  case bipush => cases he; cases hx; exact ka_1 hH hl ka_ti hs
  case sipush => cases he; cases hx; exact ka_1 hH hl ka_ti hs
  case lconst => cases he; cases hx; exact ka_1 hH hl ka_tl hs
  case ldc =>
    cases he
    simp only [mm_ex] at hx
    (repeat' split at hx) <;> first | (cases hx; exact ⟨List.mem_singleton.mpr rfl, hl, ⟨fun _ => rfl, hs⟩, hH, ka_r⟩) | cases hx
  case ldc_w => cases he; cases hx; exact ka_1 hH hl ka_ti hs
  case ldc2_w => cases he; cases hx; exact ka_1 hH hl ka_tl hs
  case iload_n => cases he; exact ka_xload hH hl hs hx
  case iload => cases he; exact ka_xload hH hl hs hx
  case lload_n => cases he; exact ka_xload hH hl hs hx
  case lload => cases he; exact ka_xload hH hl hs hx
  case aload_n => cases he; exact ka_xload hH hl hs hx
  case aload => cases he; exact ka_xload hH hl hs hx
  case istore_n | istore | lstore_n | lstore | astore_n | astore =>
    simp only [ka_eff] at he
    cases ht : ka_hd t with
    | true =>
      rw [ht] at he
      cases he
    | false =>
      rw [ht] at he
      cases he
      exact ka_xstore hH hl hs ht hx
  case iinc =>
    cases he
    simp only [mm_ex] at hx
    split at hx
    · split at hx
      · cases hx
        exact ⟨List.mem_singleton.mpr rfl, ka_p1 hl ka_ti, hs, hH, ka_r⟩
      · cases hx
    · cases hx
  case iadd => cases he; exact ka_xbin hH hl hs hx
  case isub => cases he; exact ka_xbin hH hl hs hx
  case imul => cases he; exact ka_xbin hH hl hs hx
  case idiv => cases he; exact ka_xbin hH hl hs hx
  case irem => cases he; exact ka_xbin hH hl hs hx
  case iand => cases he; exact ka_xbin hH hl hs hx
  case ior => cases he; exact ka_xbin hH hl hs hx
  case ixor => cases he; exact ka_xbin hH hl hs hx
  case ishl => cases he; exact ka_xbin hH hl hs hx
  case ishr => cases he; exact ka_xbin hH hl hs hx
  case iushr => cases he; exact ka_xbin hH hl hs hx
  case ineg => cases he; exact ka_xun (fun _ => ka_ti) hH hl hs hx
  case i2l => cases he; exact ka_xun (fun _ => ka_tl) hH hl hs hx
  case i2b => cases he; exact ka_xun (fun _ => ka_ti) hH hl hs hx
  case i2c => cases he; exact ka_xun (fun _ => ka_ti) hH hl hs hx
  case l2i =>
    cases he
    simp only [mm_ex] at hx
    split at hx
    · cases hx
      exact ka_1 hH hl ka_ti hs.2
    · cases hx
  case ladd => cases he; exact ka_xbinL (fun _ _ => ka_tl) hH hl hs hx
  case lmul => cases he; exact ka_xbinL (fun _ _ => ka_tl) hH hl hs hx
  case lcmp => cases he; exact ka_xbinL (fun _ _ => ka_ti) hH hl hs hx
  case dup =>
    cases he
    simp only [mm_ex] at hx
    split at hx
    · split at hx
      · cases hx
        exact ⟨List.mem_singleton.mpr rfl, hl, ⟨hs.1, hs⟩, hH, ka_r⟩
      · cases hx
    · cases hx
  case pop =>
    cases he
    simp only [mm_ex] at hx
    split at hx
    · split at hx
      · cases hx
        exact ⟨List.mem_singleton.mpr rfl, hl, hs.2, hH, ka_r⟩
      · cases hx
    · cases hx
  case dup2 =>
    cases he
    simp only [mm_ex] at hx
    split at hx
    · split at hx
      · cases hx
        exact ⟨List.mem_singleton.mpr rfl, hl, ⟨hs.1, hs.2.1, hs⟩, hH, ka_r⟩
      · cases hx
    · cases hx
  case if_icmp =>
    cases he
    simp only [mm_ex] at hx
    split at hx
    · split at hx
      · exact ka_xjump hH hl hs.2.2 (List.mem_cons_of_mem _ List.mem_cons_self) hx
      · cases hx
        exact ⟨List.mem_cons_self, hl, hs.2.2, hH, ka_r⟩
    · cases hx
  case ifCond =>
    cases he
    simp only [mm_ex] at hx
    split at hx
    · split at hx
      · exact ka_xjump hH hl hs.2 (List.mem_cons_of_mem _ List.mem_cons_self) hx
      · cases hx
        exact ⟨List.mem_cons_self, hl, hs.2, hH, ka_r⟩
    · cases hx
  case goto => cases he; exact ka_xjump hH hl hs List.mem_cons_self hx
  case tableswitch => cases he; exact ka_xsw hH hl hs hx
  case getstatic =>
    cases he
    simp only [mm_ex] at hx
    (repeat' split at hx) <;> first | (cases hx; exact ⟨List.mem_singleton.mpr rfl, hl, ⟨fun _ => rfl, hs⟩, hH, ka_r⟩) | cases hx
  case iaload => cases he; exact ka_xald hH hl hs hx
  case baload => cases he; exact ka_xald hH hl hs hx
  case iastore | bastore =>
    simp only [ka_eff] at he
    cases ht : ka_hd t.tail.tail with
    | true =>
      rw [ht] at he
      cases he
    | false =>
      rw [ht] at he
      cases he
      exact ka_xast hH hl hs ht hx
  case laload => cases he; exact ka_xlald hH hl hs hx
  case lastore =>
    simp only [ka_eff] at he
    cases ht : ka_hd t.tail.tail with
    | true =>
      rw [ht] at he
      cases he
    | false =>
      rw [ht] at he
      cases he
      exact ka_xlast hH hl hs ht hx
  case aaload => cases he; exact ka_xaald hH hl hs hx
  case arraylength => cases he; exact ka_xalen hH hl hs hx
  case getfield =>
    simp only [mm_ex] at hx
    simp only [ka_eff] at he
    cases h9 : Nat.beq a 90 with
    | true =>
      rw [h9] at he
      cases he
      rw [if_pos (Nat.eq_of_beq_eq_true h9)] at hx
      exact ka_xgets hH hl hs hx
    | false =>
      rw [h9] at he
      cases he
      rw [if_neg (Nat.ne_of_beq_eq_false h9)] at hx
      exact ka_xgetf hH hl hs hx
  case putfield =>
    simp only [mm_ex] at hx
    simp only [ka_eff] at he
    split at hx
    · next l el =>
      rw [el] at he
      simp only at he
      split at hx
      · next kd ek =>
        rw [ek] at he
        simp only at he
        cases hk : Nat.beq kd 3 with
        | true =>
          rw [hk] at he
          cases he
        | false =>
          rw [hk] at he
          cases he
          exact ka_xputf hH hl hs (ka_ne3 hk) hx
      · cases hx
    · cases hx
  all_goals cases he
abbrev ka_T : Type := List (Nat × List (Nat × List Bool))
def ka_Tg (T : ka_T) (m pc : Nat) : List Bool := match T.find? (fun q => Nat.beq q.1 m) with
  | some q => (match q.2.find? (fun r => Nat.beq r.1 pc) with
    | some r => r.2
    | none => [])
  | none => []
def ka_np (np kd : Nat) : Nat := match kd with
  | 0 => np
  | _ => np + 1
def ka_af (rk : Nat) (t : List Bool) : List Bool := match rk with
  | 0 => t
  | _ => false :: t
/-- what is handed on: no row, or one to be read -/
def ka_ok (k np kd : Nat) (t : List Bool) : Bool := (t.take (ka_np np kd)).all (fun x => !x) || (Nat.blt 0 kd && (Nat.blt 0 np && (ka_u k 1 && ((t.take (np - 1)).all (fun x => !x) && !ka_hd (t.drop np)))))
def ka_i (S : List Nat) (G : Nat → Nat → Bool) (T : ka_T) (m : Nat) (q : mm_I) : Bool := match mm_inv q.2.2.1 with
  | some _ => if q.2.2.2.1 < 2 then Nat.beq q.2.2.2.1 1 && (!ka_hd (ka_Tg T m q.1).tail.tail && ka_le (ka_Tg T m q.1).tail.tail.tail.tail.tail (ka_Tg T m (q.1 + q.2.1))) else (match mt_P[q.2.2.2.1]? with
    | some (_, _, np, kd, _, rk, _, _) => S.elem q.2.2.2.1 && (Nat.ble rk 2 && (ka_ok q.2.2.2.1 np kd (ka_Tg T m q.1) && ka_le (ka_af rk ((ka_Tg T m q.1).drop (ka_np np kd))) (ka_Tg T m (q.1 + q.2.1))))
    | none => false)
  | none => match mm_rtn q.2.2.1 with
    | some _ => true
    | none => match ka_eff mt_kds G m q.2.2.1 q.2.2.2.1 q.2.2.2.2.1 (ka_Tg T m q.1) with
      | some u => (ka_suc q.2.2.1 q.1 q.2.1).all (fun p => ka_le u (ka_Tg T m p))
      | none => false
def ka_chk (S : List Nat) (G : Nat → Nat → Bool) (T : ka_T) : Bool := S.all (fun m => match mt_P[m]? with
  | some r => r.1.all (fun l => l.all (ka_i S G T m))
  | none => true)
theorem ka_at {S : List Nat} {G : Nat → Nat → Bool} {T : ka_T} (hS : ka_chk S G T = true) {m pc : Nat} (hm : m ∈ S) {x : mm_I} {y : Nat × mm_M} (hat : mm_at mt_P m pc = some (x, y)) : ka_i S G T m x = true ∧ x.1 = pc := by
  unfold mm_at at hat
  have h1 := List.all_eq_true.mp hS m hm
  cases hP : mt_P[m]? with
  | none =>
    rw [hP] at hat
    cases hat
  | some r =>
    obtain ⟨cs, nL, d⟩ := r
    rw [hP] at hat h1
    simp only at hat h1
    cases hc : cs[pc / 16]? with
    | none =>
      rw [hc] at hat
      cases hat
    | some l =>
      rw [hc] at hat
      simp only at hat
      obtain ⟨q, hq, e⟩ := Option.map_eq_some_iff.mp hat
      have h2 := List.all_eq_true.mp h1 l (List.mem_of_getElem? hc)
      have h3 := List.all_eq_true.mp h2 q (List.mem_of_find?_eq_some hq)
      have e2 : q = x := congrArg (fun w : mm_I × Nat × mm_M => w.1) e
      rw [← e2]
      have h4 := List.find?_some (p := fun q : mm_I => q.1 == pc) hq
      exact ⟨h3, eq_of_beq h4⟩
def ka_rk (m : Nat) : Nat := match mt_P[m]? with
  | some (_, _, _, _, _, rk, _, _) => rk
  | none => 0
/-- a frame that waits for an answer -/
def ka_w (E : mm_E) (K : List Nat) (rk : Nat) (st : List Value) (t : List Bool) : Prop := ∀ vo : Option Value, (rk = 0 → vo = none) → (rk = 1 ∨ rk = 2 → ∃ r : Int32, vo = some (.int r)) → ka_st E K (vo.toList ++ st) t
theorem ka_take {E : mm_E} {K : List Nat} : ∀ (n : Nat) (st : List Value) (t : List Bool), ka_st E K st t → (t.take n).all (fun x => !x) = true → ka_n E K (st.take n)
  | 0, _, _, _, _ => fun v hv => by cases hv
  | _ + 1, [], _, _, _ => fun v hv => by cases hv
  | n + 1, v :: st, [], h, _ => fun w hw => by
    rcases List.mem_cons.mp hw with rfl | hw
    · exact fun k => absurd (h.1 k) (by decide)
    · exact ka_take n st [] h.2 (by rw [List.take_nil]; rfl) w hw
  | n + 1, v :: st, a :: t, h, g => fun w hw => by
    obtain ⟨g1, g2⟩ := Bool.and_eq_true_iff.mp (show ((!a) && (t.take n).all (fun x => !x)) = true from g)
    rcases List.mem_cons.mp hw with rfl | hw
    · intro k
      have := h.1 k
      have : a = true := this
      subst this
      cases g1
    · exact ka_take n st t h.2 g2 w hw
theorem ka_drop {E : mm_E} {K : List Nat} : ∀ (n : Nat) (st : List Value) (t : List Bool), ka_st E K st t → ka_st E K (st.drop n) (t.drop n)
  | 0, _, _, h => h
  | _ + 1, [], _, _ => trivial
  | n + 1, v :: st, [], h => by
    have g := ka_drop n st [] h.2
    rw [List.drop_nil] at g
    exact g
  | n + 1, v :: st, a :: t, h => ka_drop n st t h.2
theorem ka_w_of {E : mm_E} {K : List Nat} {rk : Nat} {st : List Value} {t u : List Bool} (h2 : rk ≤ 2) (hs : ka_st E K st t) (hle : ka_le (ka_af rk t) u = true) : ka_w E K rk st u := by
  intro vo a b
  refine ka_st_le hle ?_
  rcases rk with _ | _ | _ | rk
  · rw [a rfl]
    exact hs
  · obtain ⟨r, rfl⟩ := b (Or.inl rfl)
    exact ⟨fun k => absurd k ka_ti, hs⟩
  · obtain ⟨r, rfl⟩ := b (Or.inr rfl)
    exact ⟨fun k => absurd k ka_ti, hs⟩
  · omega
theorem ka_recv0 {E : mm_E} {K : List Nat} {h : mm_H} {np kd ci : Nat} {st rv r : List Value} {t : List Bool} (hs : ka_st E K st t) (hn : np ≤ st.length) (ht : (t.take (ka_np np kd)).all (fun x => !x) = true) (e : mm_recv E h kd ci (st.drop np) = some (rv, r)) : ka_n E K (rv ++ (st.take np).reverse) ∧ ka_st E K r (t.drop (ka_np np kd)) := by
  have e0 := e
  unfold mm_recv at e
  cases kd with
  | zero =>
    rw [if_pos rfl] at e
    cases e
    refine ⟨fun v hv => ?_, ka_drop _ _ _ hs⟩
    exact ka_take _ _ _ hs ht v (List.mem_reverse.mp hv)
  | succ kd =>
    have g : ∃ a : Nat, st.drop np = .ref a :: r ∧ rv = [.ref a] := by
      rw [if_neg (Nat.succ_ne_zero kd)] at e
      split at e
      · next a r2 e2 =>
        split at e
        · split at e
          · cases e
            exact ⟨a, e2, rfl⟩
          · cases e
        · split at e
          · split at e
            · cases e
              exact ⟨a, e2, rfl⟩
            · cases e
          · cases e
      · cases e
    obtain ⟨a, g1, rfl⟩ := g
    have d1 := ka_drop np st t hs
    have hT : ka_n E K (st.take (np + 1)) := ka_take _ _ _ hs ht
    have e3 : st.take (np + 1) = st.take np ++ [.ref a] := by
      rw [List.take_succ]
      have : st[np]? = some (.ref a) := by
        have := congrArg (fun l : List Value => l[0]?) g1
        simpa using this
      rw [this]
      rfl
    rw [e3] at hT
    refine ⟨fun v hv => ?_, ?_⟩
    · rcases List.mem_append.mp hv with hv | hv
      · exact hT v (List.mem_append_right _ hv)
      · exact hT v (List.mem_append_left _ (List.mem_reverse.mp hv))
    · have d2 := ka_drop (np + 1) st t hs
      have e4 : st.drop (np + 1) = r := by
        rw [← List.drop_drop, g1]
        rfl
      rw [e4] at d2
      exact d2
theorem ka_recv {E : mm_E} {K : List Nat} {h : mm_H} {k np kd ci : Nat} {st rv r : List Value} {t : List Bool} (hs : ka_st E K st t) (hn : np ≤ st.length) (ht : ka_ok k np kd t = true) (e : mm_recv E h kd ci (st.drop np) = some (rv, r)) : ka_lw E K k (lv_args 0 (rv ++ (st.take np).reverse)) ∧ ka_st E K r (t.drop (ka_np np kd)) := by
  unfold ka_ok at ht
  rcases Bool.or_eq_true_iff.mp ht with ht | ht
  · obtain ⟨v1, v2⟩ := ka_recv0 hs hn ht e
    exact ⟨ka_lw_of (ka_args v1), v2⟩
  obtain ⟨t1, ht⟩ := Bool.and_eq_true_iff.mp ht
  obtain ⟨t2, ht⟩ := Bool.and_eq_true_iff.mp ht
  obtain ⟨t3, ht⟩ := Bool.and_eq_true_iff.mp ht
  obtain ⟨t4, t5⟩ := Bool.and_eq_true_iff.mp ht
  cases kd with
  | zero => cases t1
  | succ kd =>
    cases np with
    | zero => cases t2
    | succ n =>
      unfold mm_recv at e
      have g : ∃ a : Nat, st.drop (n + 1) = .ref a :: r ∧ rv = [.ref a] := by
        rw [if_neg (Nat.succ_ne_zero kd)] at e
        split at e
        · next a r2 e2 =>
          split at e
          · split at e
            · cases e
              exact ⟨a, e2, rfl⟩
            · cases e
          · split at e
            · split at e
              · cases e
                exact ⟨a, e2, rfl⟩
              · cases e
            · cases e
        · cases e
      obtain ⟨a, g1, rfl⟩ := g
      have d1 := ka_drop (n + 1) st t hs
      rw [g1] at d1
      have hra : ¬ ka_t E K (.ref a) := fun k9 => by
        rw [d1.1 k9] at t5
        cases t5
      have hT : ka_n E K (st.take n) := ka_take n st t hs t4
      obtain ⟨v1, hv1⟩ : ∃ v1, st[n]? = some v1 := ⟨_, List.getElem?_eq_getElem (by omega)⟩
      have e3 : st.take (n + 1) = st.take n ++ [v1] := by
        rw [List.take_succ, hv1]
        rfl
      have e4 : ([.ref a] : List Value) ++ (st.take (n + 1)).reverse = .ref a :: v1 :: (st.take n).reverse := by
        rw [e3, List.reverse_append]
        rfl
      refine ⟨?_, ?_⟩
      · rw [e4]
        intro q hq k9
        rcases List.mem_cons.mp hq with rfl | hq
        · exact absurd k9 hra
        · rcases List.mem_cons.mp hq with rfl | hq
          · exact t3
          · exact absurd k9 (ka_args (fun v hv => hT v (List.mem_reverse.mp hv)) q hq)
      · have d2 := ka_drop (n + 2) st t hs
        have e5 : st.drop (n + 2) = r := by
          rw [show n + 2 = (n + 1) + 1 from rfl, ← List.drop_drop, g1]
          rfl
        rw [e5] at d2
        exact d2
theorem ka_stp {S : List Nat} {G : Nat → Nat → Bool} {T : ka_T} (hS : ka_chk S G T = true) {E : mm_E} {K : List Nat} {m pc : Nat} (hm : m ∈ S) {lv : mm_V} {st : List Value} {cb sb : Nat} {gs : List mm_F} {h : mm_H} {o : Option Value} {X : mm_C} (hH : ka_h E G K h) (hl : ka_lw E K m lv) (hs : ka_st E K st (ka_Tg T m pc)) (hx : mm_stp E mt_kds mt_P 1000 ((m, pc, lv, st, cb, sb) :: gs, h, o) = some X) : (∃ (pc' : Nat) (lv' : mm_V) (st' : List Value) (cb' sb' : Nat) (h' : mm_H), X = ((m, pc', lv', st', cb', sb') :: gs, h', none) ∧ ka_lw E K m lv' ∧ ka_st E K st' (ka_Tg T m pc') ∧ ka_h E G K h' ∧ ka_F K h h') ∨ (∃ (k : Nat) (lv2 : mm_V) (cb2 sb2 pc' : Nat) (r : List Value) (cb' sb' : Nat), k ∈ S ∧ k ≠ 999 ∧ ka_lw E K k lv2 ∧ X = ((k, 0, lv2, [], cb2, sb2) :: (m, pc', lv, r, cb', sb') :: gs, h, none) ∧ ka_w E K (ka_rk k) r (ka_Tg T m pc')) ∨ (∃ (v : Option Value) (cs : List (List mm_I)) (nL np kd ci rk mc ms ik : Nat), X = mm_back v gs h ∧ mt_P[m]? = some (cs, nL, np, kd, ci, rk, mc, ms) ∧ mm_ans rk ik st = some v) := by
  rcases bp_stpF hx with - | - | g
  case inr.inr => exact Or.inr (Or.inr g)
  all_goals (
    simp only [mm_stp] at hx
    cases hat : mm_at mt_P m pc with
    | none =>
      rw [hat] at hx
      cases hx
    | some x =>
      obtain ⟨⟨q0, len, ins, a, b, z, wd⟩, nL, np, kd, ci, rk, mc, ms⟩ := x
      obtain ⟨hi, hq⟩ := ka_at hS hm hat
      have hq : q0 = pc := hq
      subst hq
      rw [hat] at hx
      simp only at hx
      unfold ka_i at hi
      simp only at hi
      cases hv : mm_inv ins with
      | some ik =>
        rw [hv] at hx hi
        simp only at hx hi
        split at hx
        · next ha =>
          rw [if_pos ha] at hi
          obtain ⟨i1, hi⟩ := Bool.and_eq_true_iff.mp hi
          obtain ⟨i2, i3⟩ := Bool.and_eq_true_iff.mp hi
          have ea := Nat.eq_of_beq_eq_true i1
          subst ea
          split at hx
          · split at hx
            · next e =>
              cases hx
              unfold mm_sp at e
              rw [if_neg (by decide)] at e
              split at e
              · obtain ⟨r1, r2, r3, r4, r5⟩ := ka_xcopy hH hl hs (by cases hh : ka_hd (ka_Tg T m q0).tail.tail with
                  | true => rw [hh] at i2; cases i2
                  | false => rfl) e
                refine Or.inl ⟨_, _, _, _, _, _, rfl, r2, ?_, r4, r5⟩
                rw [List.mem_singleton.mp r1]
                exact ka_st_le i3 r3
              · cases e
            · cases hx
          · cases hx
        · next ha =>
          rw [if_neg ha] at hi
          unfold mm_call at hx
          split at hx
          · next cs2 nL2 np2 kd2 ci2 rk2 mc2 ms2 eP =>
            rw [eP] at hi
            simp only at hi
            obtain ⟨i1, hi⟩ := Bool.and_eq_true_iff.mp hi
            obtain ⟨i2, hi⟩ := Bool.and_eq_true_iff.mp hi
            obtain ⟨i3, i4⟩ := Bool.and_eq_true_iff.mp hi
            split at hx
            · next hc =>
              split at hx
              · next rv r er =>
                split at hx
                · cases hx
                  obtain ⟨v1, v2⟩ := ka_recv hs hc.2.2.2.2 i3 er
                  refine Or.inr (Or.inl ⟨a, _, _, _, _, _, _, _, List.elem_iff.mp i1, fun e => ?_, v1, rfl, ?_⟩)
                  · rw [e, bp_none] at eP
                    cases eP
                  · have ek : ka_rk a = rk2 := by
                      unfold ka_rk
                      rw [eP]
                    rw [ek]
                    exact ka_w_of (Nat.le_of_ble_eq_true i2) v2 i4
                · cases hx
              · cases hx
            · cases hx
          · cases hx
      | none =>
        rw [hv] at hx hi
        simp only at hx hi
        cases hr : mm_rtn ins with
        | some ik =>
          rw [hr] at hx
          simp only at hx
          split at hx
          · next v ev =>
            cases hx
            refine Or.inr (Or.inr ?_)
            unfold mm_at at hat
            cases hP : mt_P[m]? with
            | none =>
              rw [hP] at hat
              cases hat
            | some r9 =>
              obtain ⟨cs9, nL9, d9⟩ := r9
              rw [hP] at hat
              simp only at hat
              split at hat
              · obtain ⟨q9, -, e9⟩ := Option.map_eq_some_iff.mp hat
                cases e9
                exact ⟨v, cs9, _, _, _, _, _, _, _, ik, rfl, rfl, ev⟩
              · cases hat
          · cases hx
        | none =>
          rw [hr] at hx hi
          simp only at hx hi
          split at hx
          · next e =>
            cases hx
            split at hi
            · next u hu =>
              obtain ⟨r1, r2, r3, r4, r5⟩ := ka_ex hH hl hs hu e
              exact Or.inl ⟨_, _, _, _, _, _, rfl, r2, ka_st_le (List.all_eq_true.mp hi _ r1) r3, r4, r5⟩
            · cases hi
          · cases hx)
/-- frames in a row: the first waits for an answer of kind rk, or (none) is at work -/
def ka_ch (E : mm_E) (K : List Nat) (S : List Nat) (T : ka_T) : Option Nat → List mm_F → Prop
  | _, [] => True
  | r, (m, pc, lv, st, _, _) :: fs => m ∈ S ∧ m ≠ 999 ∧ ka_lw E K m lv ∧ (match r with
    | none => ka_st E K st (ka_Tg T m pc)
    | some rk => ka_w E K rk st (ka_Tg T m pc)) ∧ ka_ch E K S T (some (ka_rk m)) fs
theorem ka_rk_of {m : Nat} {cs : List (List mm_I)} {nL np kd ci rk mc ms : Nat} (h : mt_P[m]? = some (cs, nL, np, kd, ci, rk, mc, ms)) : ka_rk m = rk := by
  unfold ka_rk
  rw [h]
theorem ka_call {S : List Nat} {G : Nat → Nat → Bool} {T : ka_T} (hS : ka_chk S G T = true) {E : mm_E} {K : List Nat} {PO : mm_C → Prop} {g0 : mm_F} {t : List mm_F} {h0 : mm_H} {rk0 : Nat} : ∀ (NN : Nat), (∀ (vo : Option Value) (h' : mm_H), ka_F K h0 h' → (rk0 = 0 → vo = none) → (rk0 = 1 ∨ rk0 = 2 → ∃ r : Int32, vo = some (.int r)) → bp_G E PO NN (mm_back vo (g0 :: t) h')) → ∀ (fs : List mm_F) (h : mm_H) (o : Option Value), fs ≠ [] → ka_ch E K S T none fs → (∀ f, fs.getLast? = some f → ka_rk f.1 = rk0) → ka_h E G K h → ka_F K h0 h → bp_G E PO NN (fs ++ g0 :: t, h, o) := by
  have hnm : ∀ (fs : List mm_F) (h : mm_H) (o : Option Value), fs ≠ [] → ka_ch E K S T none fs → ¬ bp_mk (fs ++ g0 :: t, h, o) := by
    intro fs h o hne hch hm2
    obtain ⟨f, t2, e, hf⟩ := hm2
    cases fs with
    | nil => exact hne rfl
    | cons f1 fs =>
      have e : f1 :: (fs ++ g0 :: t) = f :: t2 := e
      cases e
      obtain ⟨m, pc, lv, st, cb, sb⟩ := f
      exact hch.2.1 hf
  intro NN
  induction NN with
  | zero =>
    intro kk fs h o hne hch hla hH hF k hk c2 hr hm2
    have e : k = 0 := by omega
    subst e
    have hr : some ((fs ++ g0 :: t, h, o) : mm_C) = some c2 := hr
    cases hr
    exact absurd hm2 (hnm fs h o hne hch)
  | succ NN ih =>
    intro kk fs h o hne hch hla hH hF
    have ih2 := ih (fun vo h' f a b => bp_mono (Nat.le_succ NN) (kk vo h' f a b))
    refine bp_anyD (hnm fs h o hne hch) (fun c' hs => ?_)
    cases fs with
    | nil => exact absurd rfl hne
    | cons f1 fs =>
      obtain ⟨m, pc, lv, st, cb, sb⟩ := f1
      obtain ⟨c1, c2, c3, c4, c5⟩ := hch
      rcases ka_stp hS c1 (gs := fs ++ g0 :: t) hH c3 c4 hs with ⟨pc', lv', st', cb', sb', h', rfl, d1, d2, d3, d4⟩ | ⟨k, lv2, cb2, sb2, pc', r, cb', sb', d1, d2, d3, rfl, d4⟩ | ⟨v, cs, nL, np, kd, ci, rk, mc, ms, ik, rfl, hP, ha⟩
      · refine ih2 ((m, pc', lv', st', cb', sb') :: fs) h' none (List.cons_ne_nil _ _) ⟨c1, c2, d1, d2, c5⟩ (fun f hf => ?_) d3 (ka_tr hF d4)
        cases fs with
        | nil =>
          have hf : some (m, pc', lv', st', cb', sb') = some f := hf
          cases hf
          exact hla (m, pc, lv, st, cb, sb) rfl
        | cons f2 fs =>
          rw [List.getLast?_cons_cons] at hf
          exact hla f (by rw [List.getLast?_cons_cons]; exact hf)
      · refine ih2 ((k, 0, lv2, [], cb2, sb2) :: (m, pc', lv, r, cb', sb') :: fs) h none (List.cons_ne_nil _ _) ⟨d1, d2, d3, trivial, c1, c2, c3, d4, c5⟩ (fun f hf => ?_) hH hF
        rw [List.getLast?_cons_cons] at hf
        cases fs with
        | nil =>
          have hf : some (m, pc', lv, r, cb', sb') = some f := hf
          cases hf
          exact hla (m, pc, lv, st, cb, sb) rfl
        | cons f2 fs =>
          rw [List.getLast?_cons_cons] at hf
          exact hla f (by rw [List.getLast?_cons_cons]; exact hf)
      · have ek := ka_rk_of hP
        cases fs with
        | nil =>
          have e0 := hla _ rfl
          have e0 : ka_rk m = rk0 := e0
          rw [ek] at e0
          subst e0
          exact bp_mono (Nat.le_succ NN) (kk v h hF (bp_ans ha).1 (bp_ans ha).2)
        | cons f2 fs =>
          obtain ⟨m2, pc2, lv2, st2, cb2, sb2⟩ := f2
          obtain ⟨e1, e2, e3, e4, e5⟩ := c5
          have e4 : ka_w E K (ka_rk m) st2 (ka_Tg T m2 pc2) := e4
          rw [ek] at e4
          refine ih2 ((m2, pc2, lv2, v.toList ++ st2, cb2, sb2) :: fs) h none (List.cons_ne_nil _ _) ⟨e1, e2, e3, e4 v (bp_ans ha).1 (bp_ans ha).2, e5⟩ (fun f hf => ?_) hH hF
          cases fs with
          | nil =>
            have hf : some (m2, pc2, lv2, v.toList ++ st2, cb2, sb2) = some f := hf
            cases hf
            exact hla (m2, pc2, lv2, st2, cb2, sb2) rfl
          | cons f3 fs =>
            rw [List.getLast?_cons_cons] at hf
            exact hla f (by rw [List.getLast?_cons_cons, List.getLast?_cons_cons]; exact hf)
/-- a call: the rows are as they were -/
theorem ka_call0 {S : List Nat} {G : Nat → Nat → Bool} {T : ka_T} (hS : ka_chk S G T = true) {E : mm_E} {K : List Nat} {PO : mm_C → Prop} {NN : Nat} {g0 : mm_F} {t : List mm_F} {m : Nat} (hm : m ∈ S) {cs : List (List mm_I)} {nL np kd ci rk mc ms : Nat} (hP : mt_P[m]? = some (cs, nL, np, kd, ci, rk, mc, ms)) {lv : mm_V} {cb sb : Nat} {h : mm_H} {o : Option Value} (hH : ka_h E G K h) (hl : ka_lv E K lv) (kk : ∀ (vo : Option Value) (h' : mm_H), ka_F K h h' → (rk = 0 → vo = none) → (rk = 1 ∨ rk = 2 → ∃ r : Int32, vo = some (.int r)) → bp_G E PO NN (mm_back vo (g0 :: t) h')) : bp_G E PO NN ((m, 0, lv, [], cb, sb) :: g0 :: t, h, o) := by
  refine ka_call hS NN kk [(m, 0, lv, [], cb, sb)] h o (List.cons_ne_nil _ _) ⟨hm, fun e => ?_, ka_lw_of hl, trivial, trivial⟩ (fun f hf => ?_) hH ka_r
  · rw [e, bp_none] at hP
    cases hP
  · cases hf
    exact ka_rk_of hP
