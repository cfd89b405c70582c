/-! THE REFINEMENT, two more rows: System.arraycopy of int arrays, new int[n][k] -/
theorem rf_I.set2 {D : va_G} {cl : List vw_C} {cA : Nat → ClassId} {base : Nat} {s : State} {h : mm_H} {H H1 : Heap} {locs locs' : List Loc} (hI : rf_I D cl cA base s h H locs) {k : Nat} {e e' : va_E} (hk : h[k]? = some e)
    (hat : va_at D cl (base + k, rf_E cA e') H1) (hz : H1.size = H.size) (ho : ∀ q : Nat, q ≠ base + k → H1[q]? = H[q]?) (hl : ∀ q ∈ locs', base ≤ q.base) : rf_I D cl cA base s (h.set k e') H1 locs' := by
  obtain ⟨h1, h2, h3⟩ := hI
  refine ⟨by rw [hz, h1, List.length_set], ?_, by rw [hz]; exact h3.1, fun q a b => ?_, hl⟩
  · rw [← rf_ws_set]
    exact h2.set (rf_D cA base h) (rf_ws_at hk) hat ho
  · rw [ho q (fun e => b (by rw [e]; exact Nat.le_add_right base k))]
    exact h3.2.1 q a b
theorem rf_I.app {D : va_G} {cl : List vw_C} {cA : Nat → ClassId} {base : Nat} {s : State} {h es : mm_H} {H H1 : Heap} {locs : List Loc} (hI : rf_I D cl cA base s h H locs)
    (hat : ∀ (j : Nat) (e : va_E), es[j]? = some e → va_at D cl (H.size + j, rf_E cA e) H1) (hz : H1.size = H.size + es.length) (ho : ∀ q : Nat, q < H.size → H1[q]? = H[q]?) : rf_I D cl cA base s (h ++ es) H1 locs := by
  obtain ⟨h1, h2, h3⟩ := hI
  refine ⟨by rw [hz, h1, List.length_append]; omega, fun k q hq => ?_, by rw [hz]; exact Nat.le_trans h3.1 (Nat.le_add_right _ _), fun q a b => (ho q (Nat.lt_of_lt_of_le a h3.1)).trans (h3.2.1 q a b), h3.2.2⟩
  rw [rf_ws_get] at hq
  by_cases hl : k < h.length
  · rw [List.getElem?_append_left hl, ← rf_ws_get] at hq
    exact (h2 k q hq).kept (ho q.1 ((h2 k q hq).lt))
  · rw [List.getElem?_append_right (Nat.le_of_not_lt hl)] at hq
    cases hj : es[k - h.length]? with
    | none => rw [hj] at hq; cases hq
    | some e =>
      rw [hj] at hq
      cases hq
      have h9 := hat _ e hj
      rw [h1, show base + h.length + (k - h.length) = base + k by omega] at h9
      exact h9
section RFC
variable {p : Program} {l : Launch} {e : Env} {R : Room} {s : State} {m : MethodId} {args : Array Value} {below : List Frame} {meth : Method} {c : Code} {H : Heap} {locs : List Loc} {cells slots : Nat} {Q : State → Prop}
variable {cc : ByteArray} {pc : Nat} {ls : Array Slot} {rest : List Value} {D : va_G} {cl : List vw_C} {cA : Nat → ClassId} {base : Nat} {tys : List (ClassId × FieldType)} {h : mm_H}
theorem rf_nn {z : Int32} (hz : ¬ z < 0) : z.toInt = (z.toNatClampNeg : Int) := by
  have hz0 : (0 : Int) ≤ z.toInt := by
    have := Int32.not_lt.mp hz
    simpa using Int32.le_iff_toInt_le.mp this
  show z.toInt = ((z.toInt.toNat : Nat) : Int)
  omega
theorem rf_copy (hexec : p.tables.exec = Jvm.exec) (hb : c.code = cc) (hml : c.maxLocals = ls.size) {own : String} {index : Nat} (hown : s.vm.findClass own = some m.cls) (hlink : (Cond.methodLink own index arraycopyName).before args s = true) (hnat : (Cond.native arraycopyName).before args s = true) (hstat : (Cond.static arraycopyName).before args s = true) (hini : (Cond.initialized "java/lang/System").before args s = true)
    (hK : va_K D cl tys s) (hI : rf_I D cl cA base s h H locs) {q0 q1 t0 t1 : Nat} {n0 n1 : Nat} {f g : Nat → Int32} (ha0 : h[q0]? = some (.inl (t0, n0, .inl f))) (ha1 : h[q1]? = some (.inl (t1, n1, .inl g))) (ht0 : tys[t0]? = some (cA t0, .int)) (ht1 : tys[t1]? = some (cA t1, .int))
    {sp dp n : Int32} (h1 : ¬ sp < 0) (h2 : ¬ dp < 0) (h3 : ¬ n < 0) (h4 : sp.toNatClampNeg + n.toNatClampNeg ≤ n0) (h5 : dp.toNatClampNeg + n.toNatClampNeg ≤ n1)
    (hframes : 1 ≤ R.frames) (hlocals : (rest.map fun v => v.category).sum + (nativeFrameWords "java/lang/System" "arraycopy" 5 + 11) ≤ R.locals) (hdg : decode cc pc = .ok (.invokestatic index, 3))
    (kk : ∀ (H1 : Heap) (locs1 : List Loc), rf_I D cl cA base s (h.set q1 (.inl (t1, n1, .inl (va_cpy f g sp.toNatClampNeg dp.toNatClampNeg n.toNatClampNeg)))) H1 locs1 → W p l e R s m args below meth c H1 locs1 cells slots Q (F0 m (pc + 3) ls rest)) : W p l e R s m args below meth c H locs cells slots Q (F0 m pc ls (.int n :: .int dp :: .ref (base + q1) :: .int sp :: .ref (base + q0) :: rest)) := by
  intro T hT X
  have hc0 : H[base + q0]? = some (vp_cell (cA t0) (n0, .inl f)) := hI.2.1 q0 _ (rf_ws_at ha0)
  have hc1 : H[base + q1]? = some (vp_cell (cA t1) (n1, .inl g)) := hI.2.1 q1 _ (rf_ws_at ha1)
  obtain ⟨-, k0, hk0, cm0, hkk0⟩ := (hK.2 t0 _ ht0).1 n0 (fun j => .int (f j))
  obtain ⟨-, k1, hk1, cm1, hkk1⟩ := (hK.2 t1 _ ht1).1 n1 (fun j => .int (g j))
  obtain ⟨vm', X', step⟩ := X.arraycopy hexec hown hlink hnat hstat hini (src := base + q0) (dst := base + q1) (cs := vp_cell (cA t0) (n0, .inl f)) (cd := vp_cell (cA t1) (n1, .inl g)) (srcPos := sp) (destPos := dp) (n := n) (by rw [hT]; exact hc0) (by rw [hT]; exact hc1)
    (fun _ h => by cases h) (fun _ h => by cases h) (fun h => by cases h) (fun h => by cases h) hk0 hk1 hkk0 hkk1 (by simp [refKind]) h1 h2 h3
    (by rw [rf_nn h1, rf_nn h3]; show ¬ _ > ((arrV (cA t0) n0 (fun j => .int (f j))).slots.size : Int); rw [arrV_size]; omega)
    (by rw [rf_nn h2, rf_nn h3]; show ¬ _ > ((arrV (cA t1) n1 (fun j => .int (g j))).slots.size : Int); rw [arrV_size]; omega)
    (fun vm₁ _ i hi => by
      have e : (vp_cell (cA t0) (n0, .inl f)).slots.getD (sp.toNatClampNeg + i) .null = .int (f (sp.toNatClampNeg + i)) := by
        show (arrV (cA t0) n0 (fun j => .int (f j))).slots.getD _ _ = _
        rw [Array.getD_eq_getD_getElem?, arrV_read _ _ (by omega)]
        rfl
      refine ⟨?_, ?_⟩
      · rw [e]
        rfl
      · rw [e]
        exact trivial)
    (g := F0 m pc ls (.int n :: .int dp :: .ref (base + q1) :: .int sp :: .ref (base + q0) :: rest)) rfl (by rw [hml]) (rest := rest) rfl (by rw [hb]; exact hdg) hframes (by show 2 * 0 + _ + _ ≤ _; omega)
  have e1 : copied (vp_cell (cA t0) (n0, .inl f)) (vp_cell (cA t1) (n1, .inl g)) sp dp n = vp_cell (cA t1) (n1, .inl (va_cpy f g sp.toNatClampNeg dp.toNatClampNeg n.toNatClampNeg)) := va_copied (fun z => .int z) (cA t0) (cA t1) f g h4
  rw [e1] at X' step
  have hl : base + q1 < H.size := (Array.getElem?_eq_some_iff.mp hc1).1
  have hheap : ((T.setVm vm').setCell (base + q1) (vp_cell (cA t1) (n1, .inl (va_cpy f g sp.toNatClampNeg dp.toNatClampNeg n.toNatClampNeg)))).heap = H.setIfInBounds (base + q1) (vp_cell (cA t1) (n1, .inl (va_cpy f g sp.toNatClampNeg dp.toNatClampNeg n.toNatClampNeg))) := by rw [← hT]; rfl
  obtain ⟨t, a1, b1⟩ := kk _ _ (hI.set2 ha1 (e' := .inl (t1, n1, .inl (va_cpy f g sp.toNatClampNeg dp.toNatClampNeg n.toNatClampNeg))) (show (H.setIfInBounds (base + q1) _)[base + q1]? = some _ by simp [Array.getElem?_setIfInBounds, hl]) (by simp) (fun q hq => by simp [Array.getElem?_setIfInBounds, Ne.symm hq]) (fun q hq => by
      rcases List.mem_append.mp hq with h | h
      · exact hI.2.2.2.2 q h
      · obtain ⟨z, -, hz⟩ := List.mem_map.mp h
        rw [← hz]
        exact Nat.le_add_right base q1)) _ hheap X'
  exact ⟨t, step t a1, b1⟩
theorem rf_outer (c : ClassId) (N h0 : Nat) : ∀ i : Nat, Jvm.Free.Multi.outerC c N h0 i = arrV c N (fun j => va_rf (if j < i then some (h0 + 1 + j) else none))
  | 0 => by
    show ({ cls := c, slots := Array.replicate N .null, vm := .none } : Cell) = _
    rw [arrV_new]
    refine congrArg (arrV c N) (funext fun j => ?_)
    simp [va_rf]
  | i + 1 => by
    show (Jvm.Free.Multi.outerC c N h0 i).setSlot i (.ref (h0 + 1 + i)) = _
    rw [rf_outer c N h0 i, arrV_store]
    refine congrArg (arrV c N) (funext fun j => ?_)
    by_cases e : j = i
    · subst e
      simp [updV, va_rf]
    · by_cases h : j < i
      · simp [updV, e, h, Nat.lt_succ_of_lt h]
      · simp [updV, e, h, show ¬ j < i + 1 by omega]
theorem rf_mna (hexec : p.tables.exec = Jvm.exec) (hb : c.code = cc) {own : String} {index : Nat} (hown : s.vm.findClass own = some m.cls) (hclink : (Cond.classLink own index "[[I").before args s = true) (hover : (Cond.arrayOver (.array .int)).before args s = true) (harr : (Cond.arrayClass .int).before args s = true)
    (hc0 : s.vm.findClass "[I" = some (cA 0)) (hc4 : s.vm.findClass "[[I" = some (cA 4)) (hI : rf_I D cl cA base s h H locs) {n k : Int32} {N' K' : Nat} (hn : ¬ n < 0) (hk : ¬ k < 0) (hN : n.toNatClampNeg = N') (hM : k.toNatClampNeg = K')
    (hb1 : N' * 4 ≤ 536870912) (hb2 : K' * 4 ≤ 536870912) (hcells : cells + (1 + N') ≤ R.cells) (hslots : slots + (N' + N' * K') ≤ R.slots) (hdg : decode cc pc = .ok (.multianewarray index 2, 4))
    (kk : ∀ (H1 : Heap), rf_I D cl cA base s (h ++ (.inl (4, N', .inr (.inr (.inr (.inr (fun i => if i < N' then some (base + h.length + 1 + i) else none))))) :: List.replicate N' (.inl (0, K', .inl (fun _ => 0))))) H1 locs → W p l e R s m args below meth c H1 locs (cells + (1 + N')) (slots + (N' + N' * K')) Q (F0 m (pc + 4) ls (.ref (base + h.length) :: rest))) : W p l e R s m args below meth c H locs cells slots Q (F0 m pc ls (.int k :: .int n :: rest)) := by
  subst hN
  subst hM
  intro T hT Xs
  obtain ⟨vm₁, c4, c0, -, fA, fC, hO, -, X', step⟩ := Xs.multianewarray2F hexec hown hclink hover harr (g := F0 m pc ls (.int k :: .int n :: rest)) rfl (by rw [hb]; exact hdg) rfl hn hk hb1 hb2 (by omega) rfl rfl hcells hslots
  have ec : c0 = cA 0 := Option.some.inj (fC.symm.trans hc0)
  have ea : c4 = cA 4 := Option.some.inj (fA.symm.trans hc4)
  subst ec
  subst ea
  generalize hF : Jvm.Free.Multi.fill (T.setVm vm₁) (cA 4) (cA 0) n.toNatClampNeg k.toNatClampNeg (defaultValue .int) n.toNatClampNeg = F at X' step
  have hTh : (T.setVm vm₁).heap = H := hT
  obtain ⟨f1, f2, -, -⟩ := Jvm.Free.Multi.fill_facts (T.setVm vm₁) (cA 4) (cA 0) n.toNatClampNeg k.toNatClampNeg (defaultValue .int) n.toNatClampNeg
  rw [hF, hTh] at f1 f2
  have hold : ∀ x : Nat, x < H.size → F.heap[x]? = H[x]? := fun x hx => by
    have := Jvm.Free.Multi.fill_old (T.setVm vm₁) (cA 4) (cA 0) n.toNatClampNeg k.toNatClampNeg (defaultValue .int) (a := x) (by rw [hTh]; exact hx) n.toNatClampNeg
    rw [hF, hTh] at this
    exact this
  have hrow : ∀ j : Nat, j < n.toNatClampNeg → F.heap[H.size + 1 + j]? = some (vp_cell (cA 0) (k.toNatClampNeg, .inl (fun _ => 0))) := fun j hj => by
    have := Jvm.Free.Multi.fill_inner (T.setVm vm₁) (cA 4) (cA 0) n.toNatClampNeg k.toNatClampNeg (defaultValue .int) n.toNatClampNeg j hj
    rw [hF, hTh] at this
    rw [this, vp_cell_i, ← arrV_new]
    rfl
  rw [rf_outer] at f2
  have hI1 : rf_I D cl cA base s (h ++ (.inl (4, n.toNatClampNeg, .inr (.inr (.inr (.inr (fun i => if i < n.toNatClampNeg then some (base + h.length + 1 + i) else none))))) :: List.replicate n.toNatClampNeg (.inl (0, k.toNatClampNeg, .inl (fun _ => 0))))) F.heap locs := by
    refine hI.app (fun j e hj => ?_) (by rw [f1]; simp; omega) hold
    cases j with
    | zero =>
      cases hj
      show F.heap[H.size + 0]? = some (vp_cell _ _)
      rw [Nat.add_zero, f2, vp_cell_q, hI.1]
    | succ j =>
      rw [List.getElem?_cons_succ, List.getElem?_replicate] at hj
      by_cases hjn : j < n.toNatClampNeg
      · rw [if_pos hjn] at hj
        cases hj
        show F.heap[H.size + (j + 1)]? = some (vp_cell _ _)
        rw [show H.size + (j + 1) = H.size + 1 + j by omega]
        exact hrow j hjn
      · rw [if_neg hjn] at hj
        cases hj
  have X2 : Stand p l e R s m args below meth c F locs (cells + (1 + n.toNatClampNeg)) (slots + (n.toNatClampNeg + n.toNatClampNeg * k.toNatClampNeg)) := by
    rw [← Nat.add_assoc, ← Nat.add_assoc]
    exact X'
  obtain ⟨t, a1, b1⟩ := kk F.heap hI1 F rfl X2
  refine ⟨t, step t ?_, b1⟩
  have e : T.heap.size = base + h.length := by rw [hT, hI.1]
  rw [e]
  exact a1
end RFC
