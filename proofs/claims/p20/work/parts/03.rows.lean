/-! THE REFINEMENT, its rows: the world of a heap of the mini machine, and the rows that write, with the heap's size -/
def rf_E (cA : Nat → ClassId) (e : va_E) : va_E := match e with
  | .inl (t, a) => .inl (cA t, a)
  | .inr o => .inr o
def rf_ws (cA : Nat → ClassId) (base : Nat) (h : mm_H) : va_W := h.mapIdx (fun k e => (base + k, rf_E cA e))
theorem rf_ws_get (cA : Nat → ClassId) (base : Nat) (h : mm_H) (k : Nat) : (rf_ws cA base h)[k]? = h[k]?.map (fun e => (base + k, rf_E cA e)) := by simp [rf_ws]
theorem rf_ws_at {cA : Nat → ClassId} {base : Nat} {h : mm_H} {k : Nat} {e : va_E} (hk : h[k]? = some e) : (rf_ws cA base h)[k]? = some (base + k, rf_E cA e) := by rw [rf_ws_get, hk]; rfl
theorem rf_ws_set (cA : Nat → ClassId) (base : Nat) (h : mm_H) (k : Nat) (e : va_E) : (rf_ws cA base h).set k (base + k, rf_E cA e) = rf_ws cA base (h.set k e) := by
  apply List.ext_getElem?
  intro i
  rw [List.getElem?_set, rf_ws_get, rf_ws_get, List.getElem?_set]
  by_cases hik : k = i
  · subst hik
    by_cases hl : k < h.length
    · simp [hl, rf_ws]
    · simp [hl, rf_ws]
  · simp [hik]
theorem rf_ws_app (cA : Nat → ClassId) (base : Nat) (h : mm_H) (e : va_E) : rf_ws cA base (h ++ [e]) = rf_ws cA base h ++ [(base + h.length, rf_E cA e)] := by
  simp [rf_ws, List.mapIdx_append]
theorem rf_D (cA : Nat → ClassId) (base : Nat) (h : mm_H) : va_D (fun q : Nat => base ≤ q) (rf_ws cA base h) := by
  have key : ∀ (k : Nat) (q : Nat × va_E), (rf_ws cA base h)[k]? = some q → q.1 = base + k := by
    intro k q hq
    rw [rf_ws_get] at hq
    cases hk : h[k]? with
    | none => rw [hk] at hq; cases hq
    | some e => rw [hk] at hq; cases hq; rfl
  refine ⟨fun i j p q hp hq hpq => ?_, fun k q hq => ?_⟩
  · have h1 := key i p hp
    have h2 := key j q hq
    omega
  · have h1 := key k q hq
    show base ≤ q.1
    omega
/-- the heap H holds the cells h from base on, and nothing below base has changed since s -/
def rf_I (D : va_G) (cl : List vw_C) (cA : Nat → ClassId) (base : Nat) (s : State) (h : mm_H) (H : Heap) (locs : List Loc) : Prop :=
  H.size = base + h.length ∧ va_P D cl (rf_ws cA base h) H ∧ va_S (fun q : Nat => base ≤ q) s.heap H locs
theorem rf_I.set {D : va_G} {cl : List vw_C} {cA : Nat → ClassId} {base : Nat} {s : State} {h : mm_H} {H H1 : Heap} {locs : List Loc} (hI : rf_I D cl cA base s h H locs) {k : Nat} {e e' : va_E} (hk : h[k]? = some e)
    (hat : va_at D cl (base + k, rf_E cA e') H1) (hz : H1.size = H.size) (ho : ∀ q : Nat, q ≠ base + k → H1[q]? = H[q]?) (j : Nat) : rf_I D cl cA base s (h.set k e') H1 (locs ++ [⟨base + k, j⟩]) := by
  obtain ⟨h1, h2, h3⟩ := hI
  refine ⟨by rw [hz, h1, List.length_set], ?_, h3.put hz ho (Nat.le_add_right base k)⟩
  rw [← rf_ws_set]
  exact h2.set (rf_D cA base h) (rf_ws_at hk) hat ho
theorem rf_I.push {D : va_G} {cl : List vw_C} {cA : Nat → ClassId} {base : Nat} {s : State} {h : mm_H} {H H1 : Heap} {locs : List Loc} (hI : rf_I D cl cA base s h H locs) {e' : va_E}
    (hat : va_at D cl (H.size, rf_E cA e') H1) (hz : H1.size = H.size + 1) (ho : ∀ q : Nat, q < H.size → H1[q]? = H[q]?) : rf_I D cl cA base s (h ++ [e']) H1 locs := by
  obtain ⟨h1, h2, h3⟩ := hI
  refine ⟨by rw [hz, h1, List.length_append, List.length_singleton]; omega, ?_, by rw [hz]; exact Nat.le_succ_of_le h3.1, fun q a b => (ho q (Nat.lt_of_lt_of_le a h3.1)).trans (h3.2.1 q a b), h3.2.2⟩
  rw [rf_ws_app]
  refine (h2.kept (fun k q hq => ho q.1 ((h2 k q hq).lt))).app (fun k q hq => ?_)
  have h0 : k < 1 := (List.getElem?_eq_some_iff.mp hq).1
  rw [show k = 0 by omega] at hq
  cases hq
  rw [← h1]
  exact hat
def rf_kd (ty : FieldType) : Nat := match ty with
  | .int => 0
  | .long => 1
  | .boolean => 2
  | .object _ => 3
  | .array _ => 3
  | _ => 4
theorem rf_fits {ty : FieldType} {v : Value} (h : mm_fits (rf_kd ty) v = true) : narrow ty v = v ∧ fits ty v = true := by
  cases v with
  | int x =>
    cases ty <;> simp [mm_fits, rf_kd] at h
    · exact ⟨rfl, rfl⟩
    · rcases h with h | h <;> subst h <;> exact ⟨by decide, by decide⟩
  | long x => cases ty <;> simp [mm_fits, rf_kd] at h <;> exact ⟨rfl, rfl⟩
  | ref x => cases ty <;> simp [mm_fits, rf_kd] at h <;> exact ⟨rfl, rfl⟩
  | null => cases ty <;> simp [mm_fits, rf_kd] at h <;> exact ⟨rfl, rfl⟩
  | _ => simp [mm_fits] at h
theorem rf_dflt {ty : FieldType} (h : rf_kd ty ≠ 4) : defaultValue ty = mm_dflt (rf_kd ty) := by
  cases ty <;> first | rfl | exact absurd rfl h
/-- the classes' table against the words -/
def rf_Cl (cl : List vw_C) (ty : Nat → Nat → FieldType) (kds : List (List Nat)) (T : List Cond) : Prop := ∀ (ci : Nat) (C : String) (TT : u_T) (N : Nat), cl[ci]? = some (C, TT, N) →
  (∀ w ∈ u_ws C TT N, w ∈ T) ∧ (∀ k, k < N → parseFieldDescriptor (TT k).2.2.1 = some (ty ci k)) ∧ (∀ a, a < N → ∀ b, b < N → a ≠ b → (TT a).2.1 ≠ (TT b).2.1) ∧ Cond.instantiable C N ∈ T ∧ Cond.initialized C ∈ T ∧
  ∃ l, kds[ci]? = some l ∧ l.length = N ∧ ∀ k, k < N → l[k]? = some (rf_kd (ty ci k)) ∧ rf_kd (ty ci k) ≠ 4
section RFR
variable {p : Program} {l : Launch} {e : Env} {R : Room} {s : State} {m : MethodId} {args : Array Value} {below : List Frame} {meth : Method} {c : Code} {H : Heap} {locs : List Loc} {cells slots : Nat} {Q : State → Prop}
variable {cc : ByteArray} {pc : Nat} {ls : Array Slot} {rest : List Value} {D : va_G} {cl : List vw_C} {cA : Nat → ClassId} {base : Nat} {tys : List (ClassId × FieldType)} {h : mm_H}
theorem rf_put (hexec : p.tables.exec = Jvm.exec) (hb : c.code = cc) {own C : String} {TT : u_T} {N ci index : Nat} {T : List Cond} {ty : Nat → Nat → FieldType} {kds : List (List Nat)} (hts : ∀ w ∈ T, w.before args s = true) (hCl : rf_Cl cl ty kds T) (hown : s.vm.findClass own = some m.cls) (hK : va_K D cl tys s) (hI : rf_I D cl cA base s h H locs) {q0 : Nat} {fs : List Value} (he : h[q0]? = some (.inr (ci, fs))) (hc : cl[ci]? = some (C, TT, N)) {k : Nat} (hk : k < N) (hlink : (Cond.fieldLink own index (TT k).1 (TT k).2.1 (TT k).2.2.1).before args s = true) (hfin : (TT k).2.2.2 = false ∨ (meth.name = "<init>" ∧ (TT k).1 = own)) {v : Value} (hf : mm_fits (rf_kd (ty ci k)) v = true) (hl : k < fs.length)
    (hdg : decode cc pc = .ok (.putfield index, 3)) (kk : ∀ (H1 : Heap) (locs1 : List Loc), rf_I D cl cA base s (h.set q0 (.inr (ci, fs.set k v))) H1 locs1 → W p l e R s m args below meth c H1 locs1 cells slots Q (F0 m (pc + 3) ls rest)) : W p l e R s m args below meth c H locs cells slots Q (F0 m pc ls (v :: .ref (base + q0) :: rest)) := by
  obtain ⟨hin, hty, hnm, -, -, -⟩ := hCl ci C TT N hc
  have hap := va_apart (own := own) hts hin (ty ci) hty hnm hK hc
  obtain ⟨hn, hfit⟩ := rf_fits hf
  have hd := hty k hk
  obtain ⟨r, h1, cell, q1, q2, q3, q4⟩ := hI.2.1 q0 _ (rf_ws_at he)
  have hr : r = (C, TT, N) := Option.some.inj (h1.symm.trans hc)
  subst hr
  obtain ⟨hS, hfc, kC, hkC, hkind⟩ := hK.1 ci _ hc
  obtain ⟨cf, kf, fi, f, hi, hsl⟩ := hS k hk
  have hlay := hts _ (hin _ (u_in_lay hk))
  unfold u_lay at hlay
  have hst := (u_facts hfc hkC (u_lays hts hin hk) hi).1
  have fin : ∀ H' : Heap, H'[base + q0]? = some (cell.setSlot f.slot v) → H'.size = H.size → (∀ q, q ≠ base + q0 → H'[q]? = H[q]?) → W p l e R s m args below meth c H' (locs ++ [⟨base + q0, f.slot⟩]) cells slots Q (F0 m (pc + 3) ls rest) := by
    intro H' e1 e2 e3
    rw [hsl] at e1 ⊢
    exact kk H' _ (hI.set he (e' := .inr (ci, fs.set k v)) ⟨_, hc, t_OB.to (V := updV (vp_V fs) k v) ⟨_, e1, q2, q3, t_set q4 hap hk v⟩ (fun j _ => vp_updV_set hl v j)⟩ e2 e3 _)
  by_cases hff : (TT k).2.2.2 = false
  · rw [if_neg (by rw [hff]; decide)] at hlay
    have h6 := u_store hfc hkC hkind hlay hi hd hn hfit
    exact W.putK hexec hb (f := f) ⟨hown, hlink, ⟨_, _, _, hi⟩, hst⟩ (by rw [q2]; exact h6) q1 q3 (by rw [hsl]; exact k2_hasslot (q4 k hk)) rfl rfl hdg fin
  · have hff2 : (TT k).2.2.2 = true := by simpa using hff
    obtain ⟨hin2, hdecl⟩ := hfin.resolve_left hff
    rw [if_pos hff2] at hlay
    have hcf : m.cls = cf := by
      obtain ⟨_, _, c', _, _, _, -, -, hf', -, -, -, hown2, -⟩ := Cond.laysFinal_spec hlay
      have e1 : c' = cf := by have := hi.symm.trans hf'; simp at this; exact this.1.symm
      rw [hdecl] at hown2
      rw [← e1]; exact Option.some.inj (hown.symm.trans hown2)
    have h6 := u_fits hfc hkC hkind (Or.inr hlay) hi hd hn hfit
    exact W.putFinK hexec hb hown hlink hi hst hcf hin2 (by rw [q2]; exact h6) q1 q3 (by rw [hsl]; exact k2_hasslot (q4 k hk)) rfl rfl hdg fin
theorem rf_get (hexec : p.tables.exec = Jvm.exec) (hb : c.code = cc) {own C : String} {TT : u_T} {N ci index : Nat} {T : List Cond} {ty : Nat → Nat → FieldType} {kds : List (List Nat)} (hts : ∀ w ∈ T, w.before args s = true) (hCl : rf_Cl cl ty kds T) (hown : s.vm.findClass own = some m.cls) (hK : va_K D cl tys s) (hI : rf_I D cl cA base s h H locs) {q0 : Nat} {fs : List Value} (he : h[q0]? = some (.inr (ci, fs))) (hc : cl[ci]? = some (C, TT, N)) {k : Nat} (hk : k < N) (hlink : (Cond.fieldLink own index (TT k).1 (TT k).2.1 (TT k).2.2.1).before args s = true) {v : Value} (hv : fs[k]? = some v) (hdg : decode cc pc = .ok (.getfield index, 3))
    (kk : W p l e R s m args below meth c H locs cells slots Q (F0 m (pc + 3) ls (v :: rest))) : W p l e R s m args below meth c H locs cells slots Q (F0 m pc ls (.ref (base + q0) :: rest)) := by
  obtain ⟨hin, -⟩ := hCl ci C TT N hc
  exact va_get hexec hb hts hin hown hK hI.2.1 q0 (rf_ws_at he) hc k hk hlink (fun _ h9 => h9) hv hdg kk
theorem rf_iast (hexec : p.tables.exec = Jvm.exec) (hb : c.code = cc) (hK : va_K D cl tys s) (hI : rf_I D cl cA base s h H locs) {q0 t : Nat} {n : Nat} {f : Nat → Int32} (ha : h[q0]? = some (.inl (t, n, .inl f))) (ht : tys[t]? = some (cA t, .int)) {i : Int32} {x : Int32} (hin : vp_in i n) (hdg : decode cc pc = .ok (.iastore, 1))
    (kk : ∀ (H1 : Heap) (locs1 : List Loc), rf_I D cl cA base s (h.set q0 (.inl (t, n, .inl (upd f i.toNatClampNeg x)))) H1 locs1 → W p l e R s m args below meth c H1 locs1 cells slots Q (F0 m (pc + 1) ls rest)) : W p l e R s m args below meth c H locs cells slots Q (F0 m pc ls (.int x :: .int i :: .ref (base + q0) :: rest)) := by
  refine W.iast hexec hb (hI.2.1 q0 _ (rf_ws_at ha)) ((hK.2 t _ ht).1 n (fun j => .int (f j))) (fun q => by cases q) (by show ¬ (i < 0 ∨ (arrV _ _ _).slots.size ≤ _); rw [arrV_size]; exact hin) rfl rfl hdg fun H1 e z oq => ?_
  refine kk H1 _ (hI.set ha ?_ z oq _)
  show H1[base + q0]? = some (vp_cell _ _)
  rw [e]
  rw [vp_cell_i, vp_cell_i, arrV_store]
  congr 2
  funext q
  by_cases hq : q = i.toNatClampNeg
  · subst hq
    simp [updV, upd]
  · simp [updV, upd, hq]
theorem rf_bast (hexec : p.tables.exec = Jvm.exec) (hb : c.code = cc) (hK : va_K D cl tys s) (hI : rf_I D cl cA base s h H locs) {q0 t : Nat} {n : Nat} {f : Nat → Int32} (ha : h[q0]? = some (.inl (t, n, .inl f))) (ht : tys[t]? = some (cA t, .byte)) {i : Int32} {x : Int32} (hin : vp_in i n) (hdg : decode cc pc = .ok (.bastore, 1))
    (kk : ∀ (H1 : Heap) (locs1 : List Loc), rf_I D cl cA base s (h.set q0 (.inl (t, n, .inl (upd f i.toNatClampNeg (vp_nar .byte x))))) H1 locs1 → W p l e R s m args below meth c H1 locs1 cells slots Q (F0 m (pc + 1) ls rest)) : W p l e R s m args below meth c H locs cells slots Q (F0 m pc ls (.int x :: .int i :: .ref (base + q0) :: rest)) := by
  refine W.bast hexec hb (hI.2.1 q0 _ (rf_ws_at ha)) ((hK.2 t _ ht).1 n (fun j => .int (f j))) (fun q => by cases q) (by show ¬ (i < 0 ∨ (arrV _ _ _).slots.size ≤ _); rw [arrV_size]; exact hin) rfl rfl hdg fun H1 e z oq => ?_
  refine kk H1 _ (hI.set ha ?_ z oq _)
  show H1[base + q0]? = some (vp_cell _ _)
  rw [e]
  rw [vp_cell_i, vp_cell_i, arrV_store]
  congr 2
  funext q
  by_cases hq : q = i.toNatClampNeg
  · subst hq
    simp [updV, upd, vp_nar]
    try rfl
  · simp [updV, upd, hq]
theorem rf_zast (hexec : p.tables.exec = Jvm.exec) (hb : c.code = cc) (hK : va_K D cl tys s) (hI : rf_I D cl cA base s h H locs) {q0 t : Nat} {n : Nat} {f : Nat → Int32} (ha : h[q0]? = some (.inl (t, n, .inl f))) (ht : tys[t]? = some (cA t, .boolean)) {i : Int32} {x : Int32} (hin : vp_in i n) (hdg : decode cc pc = .ok (.bastore, 1))
    (kk : ∀ (H1 : Heap) (locs1 : List Loc), rf_I D cl cA base s (h.set q0 (.inl (t, n, .inl (upd f i.toNatClampNeg (vp_nar .boolean x))))) H1 locs1 → W p l e R s m args below meth c H1 locs1 cells slots Q (F0 m (pc + 1) ls rest)) : W p l e R s m args below meth c H locs cells slots Q (F0 m pc ls (.int x :: .int i :: .ref (base + q0) :: rest)) := by
  refine W.zast hexec hb (hI.2.1 q0 _ (rf_ws_at ha)) ((hK.2 t _ ht).1 n (fun j => .int (f j))) (fun q => by cases q) (by show ¬ (i < 0 ∨ (arrV _ _ _).slots.size ≤ _); rw [arrV_size]; exact hin) rfl rfl hdg fun H1 e z oq => ?_
  refine kk H1 _ (hI.set ha ?_ z oq _)
  show H1[base + q0]? = some (vp_cell _ _)
  rw [e]
  rw [vp_cell_i, vp_cell_i, arrV_store]
  congr 2
  funext q
  by_cases hq : q = i.toNatClampNeg
  · subst hq
    simp [updV, upd, vp_nar]
    try rfl
  · simp [updV, upd, hq]
theorem rf_last (hexec : p.tables.exec = Jvm.exec) (hb : c.code = cc) (hK : va_K D cl tys s) (hI : rf_I D cl cA base s h H locs) {q0 t : Nat} {n : Nat} {f : Nat → Int64} (ha : h[q0]? = some (.inl (t, n, .inr (.inl f)))) (ht : tys[t]? = some (cA t, .long)) {i : Int32} {x : Int64} (hin : vp_in i n) (hdg : decode cc pc = .ok (.lastore, 1))
    (kk : ∀ (H1 : Heap) (locs1 : List Loc), rf_I D cl cA base s (h.set q0 (.inl (t, n, .inr (.inl (vp_updL f i.toNatClampNeg x))))) H1 locs1 → W p l e R s m args below meth c H1 locs1 cells slots Q (F0 m (pc + 1) ls rest)) : W p l e R s m args below meth c H locs cells slots Q (F0 m pc ls (.long x :: .int i :: .ref (base + q0) :: rest)) := by
  refine W.last hexec hb (hI.2.1 q0 _ (rf_ws_at ha)) ((hK.2 t _ ht).1 n (fun j => .long (f j))) (fun q => by cases q) (by show ¬ (i < 0 ∨ (arrV _ _ _).slots.size ≤ _); rw [arrV_size]; exact hin) rfl rfl hdg fun H1 e z oq => ?_
  refine kk H1 _ (hI.set ha ?_ z oq _)
  show H1[base + q0]? = some (vp_cell _ _)
  rw [e]
  rw [vp_cell_l, vp_cell_l, arrV_store]
  congr 2
  funext q
  by_cases hq : q = i.toNatClampNeg
  · subst hq
    simp [updV, vp_updL]
  · simp [updV, vp_updL, hq]
theorem rf_newa (hexec : p.tables.exec = Jvm.exec) (hb : c.code = cc) {atype : ArrayType} (harr : (Cond.arrayClass (newarray.typeOf atype)).before args s = true) {ty : FieldType} (hty : newarray.typeOf atype = ty) {t : Nat} (hfc : s.vm.findClass ("[" ++ ty.toString) = some (cA t)) (hI : rf_I D cl cA base s h H locs)
    {n : Int32} {N' : Nat} {a0 : vp_A} (ha : ∀ cA : ClassId, vp_cell cA a0 = arrV cA N' (fun _ => defaultValue ty)) (hn : ¬ n < 0) (hN : n.toNatClampNeg = N') (hbytes : N' * componentBytes ty ≤ 536870912) (hcells : cells + 1 ≤ R.cells) (hslots : slots + N' ≤ R.slots) (hdg : decode cc pc = .ok (.newarray atype, 2))
    (kk : ∀ (H1 : Heap), rf_I D cl cA base s (h ++ [.inl (t, a0)]) H1 locs → W p l e R s m args below meth c H1 locs (cells + 1) (slots + N') Q (F0 m (pc + 2) ls (.ref (base + h.length) :: rest))) : W p l e R s m args below meth c H locs cells slots Q (F0 m pc ls (.int n :: rest)) := by
  subst hty
  refine va_newaK hexec hb harr rfl hdg rfl hn hN hbytes hcells hslots hI.1 fun H1 c1 e1 z1 o1 hAr hNm => ?_
  have hc1 : c1 = cA t := Option.some.inj (hNm.symm.trans hfc)
  subst hc1
  refine kk H1 (hI.push (e' := .inl (t, a0)) ?_ (by rw [z1, hI.1]) (fun q hq => o1 q (by rw [← hI.1]; exact hq)))
  show H1[H.size]? = some (vp_cell _ _)
  rw [ha, hI.1]
  exact e1
theorem rf_new (hexec : p.tables.exec = Jvm.exec) (hb : c.code = cc) {own C : String} {TT : u_T} {N ci index : Nat} {T : List Cond} {ty : Nat → Nat → FieldType} {kds : List (List Nat)} (hts : ∀ w ∈ T, w.before args s = true) (hCl : rf_Cl cl ty kds T) (hown : s.vm.findClass own = some m.cls) (hcl : (Cond.classLink own index C).before args s = true)
    (hK : va_K D cl tys s) (hI : rf_I D cl cA base s h H locs) (hc : cl[ci]? = some (C, TT, N)) {ks : List Nat} (hks : kds[ci]? = some ks) (hcells : cells + 1 ≤ R.cells) (hslots : slots + ks.length ≤ R.slots) (hdg : decode cc pc = .ok (.new index, 3))
    (kk : ∀ (H1 : Heap), rf_I D cl cA base s (h ++ [.inr (ci, ks.map mm_dflt)]) H1 locs → W p l e R s m args below meth c H1 locs (cells + 1) (slots + ks.length) Q (F0 m (pc + 3) ls (.ref (base + h.length) :: rest))) : W p l e R s m args below meth c H locs cells slots Q (F0 m pc ls rest) := by
  obtain ⟨hin, hty, hnm, hinst, hini, ks', hks', hlen, hall⟩ := hCl ci C TT N hc
  cases hks.symm.trans hks'
  have hKn := hK.1 ci _ hc
  rw [hlen] at hslots kk
  refine W.newcK hexec hb hown hcl (hts _ hinst) (hts _ hini) rfl hdg hcells hslots hKn.2.1 hI.1 fun H1 kC hkC e1 z1 o1 => ?_
  refine kk H1 (hI.push (e' := .inr (ci, ks.map mm_dflt)) ?_ (by rw [z1, hI.1]) (fun q hq => o1 q (by rw [← hI.1]; exact hq)))
  rw [hI.1]
  refine ⟨_, hc, (u_born (ty ci) hts hin hKn hkC e1 hty).to (fun j hj => ?_)⟩
  obtain ⟨hj1, hj2⟩ := hall j hj
  rw [rf_dflt hj2]
  simp [vp_V, List.getD_eq_getElem?_getD, hj1]
end RFR
