/-! THE REFINEMENT, whole runs: a big step of the mini machine, and the machine's contracts out of it -/
def mm_big (E : mm_E) (kds : List (List Nat)) (P : mm_T) : Nat → Nat → mm_F → mm_H → Option (Option Value × mm_H)
  | 0, _, _, _ => none
  | n + 1, d, (m, pc, lv, st, cb, sb), h => match mm_at P m pc with
    | none => none
    | some ((_, len, ins, a, b, z, _), nL, (_, _, _, rk, _, _)) => match mm_inv ins with
      | some ik => if d = 0 then none else if a < 2 then (match mm_sp E a ik lv st cb sb h (pc + len) with
          | some (pc', lv', st', cb', sb', h') => mm_big E kds P n d (m, pc', lv', st', cb', sb') h'
          | none => none)
        else (match P[a]? with
          | some (_, nL', np, kd, ci, _, mc, ms) => if kd = ik ∧ mc ≤ cb ∧ ms ≤ sb ∧ np ≤ st.length then
              (match mm_recv E h kd ci (st.drop np) with
              | some (rv, r) => if (r.map fun v => v.category).sum ≤ 8 ∧ (lg_sl (rv ++ (st.take np).reverse)).length ≤ nL' then
                  (match mm_big E kds P n (d - 1) (a, 0, lv_args 0 (rv ++ (st.take np).reverse), [], mc, ms) h with
                  | some (v1, h1) => mm_big E kds P n d (m, pc + len, lv, v1.toList ++ r, cb - mc, sb - ms) h1
                  | none => none) else none
              | none => none) else none
          | none => none)
      | none => match mm_rtn ins with
        | some ik => (match mm_ans rk ik st with
          | some v => some (v, h)
          | none => none)
        | none => match mm_ex E kds nL ins len a b z pc lv st cb sb h with
          | some (pc', lv', st', cb', sb', h') => mm_big E kds P n d (m, pc', lv', st', cb', sb') h'
          | none => none
abbrev rf_Y : Type := MethodName × ByteArray × Option FieldType
def rf_rk (rk : Nat) (ret : Option FieldType) : Bool := match ret with
  | none => decide (rk = 0)
  | some .int => decide (rk = 1)
  | some .boolean => decide (rk = 2)
  | some .long => decide (rk = 3)
  | some .byte => decide (rk = 4)
  | some .char => decide (rk = 5)
  | _ => false
def rf_nlk (Tw : List Cond) (own : String) (w i : Nat) (y : MethodName) : Bool := match Tw[w]? with
  | some (.methodLinkNest o j y' _) => decide (o = own) && (decide (j = i) && decide (y' = y))
  | _ => false
theorem rf_Str.same {E : mm_E} {u U : State} (h : rf_Str E u) (hv : u.vm = U.vm) (hh : U.heap = u.heap) : rf_Str E U := by
  have hal : u.vm.Alike U.vm := by rw [hv]; exact Vm.Alike.refl U.vm
  obtain ⟨adK, adV, ln, byt, h1, h2, h3, h4, q, h5, h6⟩ := h
  refine ⟨adK, adV, ln, byt, ?_, h2, fun k o ho => vk_R.same hv.symm (h3 k o ho), ?_, q, h5, ?_⟩
  · rw [hh]; exact vk_S.moved hal h1
  · rw [hh]; exact va_Z.moved hal h4
  · rw [hh]; exact va_Z.moved hal h6
theorem rf_Str.warm {E : mm_E} {s U : State} (h : rf_Str E s) (hW : s.WarmedH U.vm) (hh : ∀ q : Nat, q < s.heap.size → ¬ E.1 ≤ q → U.heap[q]? = s.heap[q]?) : rf_Str E U := by
  have hal := hW.alike
  obtain ⟨adK, adV, ln, byt, h1, h2, h3, h4, q, h5, h6⟩ := h
  exact ⟨adK, adV, ln, byt, vk_S.moved hal (h1.kept hh), h2, fun k o ho => vk_R.warm hW (h3 k o ho), va_Z.moved hal (h4.kept hh), q, h5, va_Z.moved hal (h6.kept hh)⟩
/-- is an instruction as the table says -/
def rf_cks (Tw : List Cond) (cl : List vw_C) (SN : List (String × String × String)) (DS : List rf_Y) (nM : Nat) (own : String) (ini : Bool) (q : mm_I) : Bool := match q with
  | (pc, len, ins, a, b, z, w) => match ins with
    | .invokestatic i => decide (len = 3) && (match a with
      | 0 => false
      | 1 => rf_w Tw w (.methodLink own i arraycopyName)
      | a => decide (a < nM) && (match DS[a]? with
        | some y => rf_w Tw w (.methodLink own i y.1) || rf_nlk Tw own w i y.1
        | none => false))
    | .invokevirtual i => decide (len = 3) && (decide (2 ≤ a) && (decide (a < nM) && (match DS[a]? with
      | some y => rf_w Tw w (.methodLink own i y.1)
      | none => false)))
    | .invokespecial i => decide (len = 3) && (match a with
      | 0 => rf_w Tw w (.methodLink own i objectInit)
      | 1 => false
      | a => decide (a < nM) && (match DS[a]? with
        | some y => rf_w Tw w (.methodLink own i y.1)
        | none => false))
    | _ => rf_ck Tw cl SN own ini pc len ins a b z w
/-- a method as the words say -/
def rf_M (T : List Cond) (cl : List vw_C) (y : MethodName) (cc : ByteArray) (ret : Option FieldType) (nL np kd ci rk : Nat) : Prop :=
  Cond.code y cc nL ret ∈ T ∧ Cond.initialized y.cls ∈ T ∧ plainFor y = true ∧ (y.cls ≠ "java/lang/invoke/MethodHandle" ∧ y.cls ≠ "java/lang/invoke/VarHandle" ∧ (parseMethodDescriptor y.desc).map (fun d => d.parameters.length) = some np) ∧ rf_rk rk ret = true ∧ nL ≤ 40 ∧
  (kd = 0 → Cond.static y ∈ T) ∧ (kd = 1 → Cond.instanceMethod y ∈ T ∧ Cond.selects y.cls y y ∈ T ∧ ((ci ≠ 90 ∧ ∃ TT N, cl[ci]? = some (y.cls, TT, N)) ∨ (ci = 90 ∧ y.cls = "java/lang/String"))) ∧ (kd = 2 → Cond.instanceMethod y ∈ T ∧ y.name = "<init>" ∧ ret = none)
def rf_P (P : mm_T) (DS : List rf_Y) (nM : Nat) (Tw T : List Cond) (cl : List vw_C) (SN : List (String × String × String)) : Prop := ∀ (k : Nat) (cs : List (List mm_I)) (nL np kd ci rk mc ms : Nat), P[k]? = some (cs, nL, np, kd, ci, rk, mc, ms) → 2 ≤ k → k < nM →
  ∃ y cc ret, DS[k]? = some (y, cc, ret) ∧ rf_M T cl y cc ret nL np kd ci rk ∧ ∀ ch ∈ cs, ∀ q ∈ ch, decode cc q.1 = .ok (q.2.2.1, q.2.1) ∧ rf_cks Tw cl SN DS nM y.cls (decide (y.name = "<init>")) q = true
def rf_G (T : List Cond) : Prop := Cond.arrayClass .int ∈ T ∧ Cond.instanceMethod objectInit ∈ T ∧ Cond.code objectInit ⟨#[0xb1]⟩ 1 none ∈ T ∧ Cond.native arraycopyName ∈ T ∧ Cond.static arraycopyName ∈ T ∧ Cond.initialized "java/lang/System" ∈ T
theorem rf_mmat {P : mm_T} {k pc : Nat} {q : mm_I} {nL : Nat} {dd : mm_M} (h : mm_at P k pc = some (q, nL, dd)) : ∃ cs, P[k]? = some (cs, nL, dd) ∧ q.1 = pc ∧ ∃ ch ∈ cs, q ∈ ch := by
  unfold mm_at at h
  split at h
  · rename_i cs nL' d hk
    split at h
    · rename_i ch hch
      cases hf : ch.find? (fun q => q.1 == pc) with
      | none => rw [hf] at h; cases h
      | some q' =>
        rw [hf] at h
        cases h
        have h1 := List.find?_some hf
        exact ⟨cs, hk, by simpa using h1, ch, List.mem_of_getElem? hch, List.mem_of_find?_eq_some hf⟩
    · cases h
  · cases h
def rf_rm (d mc ms : Nat) : Room := { frames := d, cells := mc, slots := ms, locals := 60 * d }
def rf_Pc (E : mm_E) (SN : List (String × String × String)) (Tw : List Cond) (D : va_G) (cl : List vw_C) (cA : Nat → ClassId) (av : List Value) (h : mm_H) : Array Value → State → Prop := fun v U => v = av.toArray ∧ rf_Cx E SN Tw D cl cA U ∧ U.heap.size = E.1 + h.length ∧ va_P D cl (rf_ws cA E.1 h) U.heap
def rf_Qc (E : mm_E) (D : va_G) (cl : List vw_C) (cA : Nat → ClassId) (v : Option Value) (h' : mm_H) : Array Value → State → Outcome → State → Prop := fun _ st oc t => oc = .returned v ∧ t.heap.size = E.1 + h'.length ∧ va_P D cl (rf_ws cA E.1 h') t.heap ∧ va_F (fun q : Nat => E.1 ≤ q) st t
theorem rf_Cx.same {E : mm_E} {SN : List (String × String × String)} {Tw : List Cond} {D : va_G} {cl : List vw_C} {cA : Nat → ClassId} {u U : State} (h : rf_Cx E SN Tw D cl cA u) (hv : u.vm = U.vm) (hh : U.heap = u.heap) : rf_Cx E SN Tw D cl cA U := by
  have hal : u.vm.Alike U.vm := by rw [hv]; exact Vm.Alike.refl U.vm
  obtain ⟨h1, h2, h3, h4, h5, h6, h7⟩ := h
  refine ⟨va_K.moved hal h1, fun w hw hn => ?_, Jvm.Stand.arrayOver_alikeB hal h3, fun q hq => ?_, fun k nm hk => ?_, by rw [hh]; exact h6, h7.same hv hh⟩
  · refine va_Nw.same ?_ hv (h2 w hw hn)
    cases w <;> first | rfl | exact absurd hn Bool.false_ne_true
  · rw [hh]; exact va_T.moved hal (h4 q hq)
  · obtain ⟨q, hq, hz⟩ := h5 k nm hk
    rw [hh]
    exact ⟨q, hq, va_Z.moved hal hz⟩
theorem rf_Cx.warm {E : mm_E} {SN : List (String × String × String)} {Tw : List Cond} {D : va_G} {cl : List vw_C} {cA : Nat → ClassId} {s U : State} (h : rf_Cx E SN Tw D cl cA s) (hW : s.WarmedH U.vm) (hz : E.1 ≤ U.heap.size) (hh : ∀ q : Nat, q < s.heap.size → ¬ E.1 ≤ q → U.heap[q]? = s.heap[q]?) : rf_Cx E SN Tw D cl cA U := by
  have hal := hW.alike
  obtain ⟨h1, h2, h3, h4, h5, h6, h7⟩ := h
  refine ⟨va_K.moved hal h1, fun w hw hn => ?_, Jvm.Stand.arrayOver_alikeB hal h3, fun q hq => va_T.moved hal ((h4 q hq).kept hh), fun k nm hk => ?_, hz, h7.warm hW hh⟩
  · have h9 := h2 w hw hn
    cases w <;> first | exact va_Nw.warmM hW h9 | exact absurd hn Bool.false_ne_true
  · obtain ⟨q, hq, hz⟩ := h5 k nm hk
    exact ⟨q, hq, va_Z.moved hal (hz.kept hh)⟩
section RFB
variable {p : Program} {l : Launch} {e : Env} {R : Room} {s : State} {m : MethodId} {args : Array Value} {below : List Frame} {meth : Method} {c : Code} {H : Heap} {locs : List Loc} {cells slots : Nat} {Q : State → Prop}
variable {D : va_G} {cl : List vw_C} {cA : Nat → ClassId}
theorem rf_call {E : mm_E} {mc ms pc : Nat} {ls : Array Slot} {st0 rest : List Value} {a : Array Value} {v1 : Option Value} {h h1 : mm_H} (hr : va_Run p l e R s m args below meth c H locs cells slots mc ms (F0 m pc ls st0) rest (rf_Qc E D cl cA v1 h1 a) (fun q : Nat => E.1 ≤ q)) (hI : rf_I D cl cA E.1 s h H locs)
    (kk : ∀ (H1 : Heap) (locs1 : List Loc), rf_I D cl cA E.1 s h1 H1 locs1 → W p l e R s m args below meth c H1 locs1 (cells + mc) (slots + ms) Q (F0 m (pc + 3) ls (v1.toList ++ rest))) : W p l e R s m args below meth c H locs cells slots Q (F0 m pc ls st0) := by
  intro T hT X
  obtain ⟨v, st₀, t, T', L, h0, X', hL, e1, e2, ⟨hv, hz, hP, hF⟩, st⟩ := hr T hT X
  cases hv
  have hF1 := hF.1
  have hF2 := hF.2
  rw [h0, ← e1] at hF1
  rw [h0, ← e1] at hF2
  rw [← e1] at hz hP
  obtain ⟨t2, a1, b1⟩ := kk T'.heap (locs ++ L) ⟨hz, hP, Nat.le_trans hI.2.2.1 hF1, fun q g1 g2 => (hF2 q (Nat.lt_of_lt_of_le g1 hI.2.2.1) g2).trans (hI.2.2.2.1 q g1 g2), fun q hq => by
    rcases List.mem_append.mp hq with h | h
    · exact hI.2.2.2.2 q h
    · exact hL q h⟩ T' rfl X'
  exact ⟨t2, st t2 a1, b1⟩
end RFB
theorem rf_blind {E : mm_E} {SN : List (String × String × String)} {Tw : List Cond} {D : va_G} {cl : List vw_C} {cA : Nat → ClassId} {av : List Value} {h : mm_H} : FrameBlind (rf_Pc E SN Tw D cl cA av h) := by
  intro a U g mk q
  obtain ⟨q0, q1, q2, q3⟩ := q
  exact ⟨q0, q1.same rfl rfl, q2, q3⟩
theorem rf_pre {E : mm_E} {SN : List (String × String × String)} {Tw : List Cond} {D : va_G} {cl : List vw_C} {cA : Nat → ClassId} {s : State} {H : Heap} {locs : List Loc} {av : List Value} {h : mm_H} (hC : rf_Cx E SN Tw D cl cA s) (hI : rf_I D cl cA E.1 s h H locs) : PreS s H (rf_Pc E SN Tw D cl cA av h) av := by
  refine ⟨rf_blind, fun U hU hW => ⟨rfl, hC.warm hW ?_ ?_, by rw [hU]; exact hI.1, by rw [hU]; exact hI.2.1⟩⟩
  · rw [hU, hI.1]; exact Nat.le_add_right _ _
  · intro q h1 h2
    rw [hU]
    exact hI.2.2.2.1 q h1 h2
