/-! WHAT A CALL CANNOT CHANGE: fields that no method within its reach writes -/
def kp_F (F : Nat → Nat → Bool) (h h' : mm_H) : Prop := h'.length = h.length ∧ ∀ (c ci : Nat) (fs : List Value), h[c]? = some (.inr (ci, fs)) → ∃ fs' : List Value, h'[c]? = some (.inr (ci, fs')) ∧ fs'.length = fs.length ∧ ∀ k, F ci k = true → fs'[k]? = fs[k]?
section KP
variable {F : Nat → Nat → Bool} {h h1 h2 h' : mm_H}
theorem kp_r : kp_F F h h := ⟨rfl, fun _ _ fs e => ⟨fs, e, rfl, fun _ _ => rfl⟩⟩
theorem kp_t (a : kp_F F h h1) (b : kp_F F h1 h2) : kp_F F h h2 := ⟨b.1.trans a.1, fun c ci fs e => by
  obtain ⟨f1, e1, l1, k1⟩ := a.2 c ci fs e
  obtain ⟨f2, e2, l2, k2⟩ := b.2 c ci f1 e1
  exact ⟨f2, e2, l2.trans l1, fun k hk => (k2 k hk).trans (k1 k hk)⟩⟩
theorem kp_e (e : h' = h) : kp_F F h h' := by
  rw [e]
  exact kp_r
theorem kp_set {i : Nat} {x y : ClassId × vp_A} (e : h[i]? = some (.inl x)) : kp_F F h (h.set i (.inl y)) := by
  refine ⟨List.length_set, fun c ci fs ec => ⟨fs, ?_, rfl, fun _ _ => rfl⟩⟩
  by_cases hc : i = c
  · rw [hc, ec] at e
    cases e
  · rw [List.getElem?_set_ne hc]
    exact ec
theorem kp_put {i c0 k0 : Nat} {fs0 : List Value} {v : Value} (e : h[i]? = some (.inr (c0, fs0))) (hF : F c0 k0 = false) : kp_F F h (h.set i (.inr (c0, fs0.set k0 v))) := by
  refine ⟨List.length_set, fun c ci fs ec => ?_⟩
  by_cases hc : i = c
  · subst hc
    rw [ec] at e
    cases e
    refine ⟨fs0.set k0 v, List.getElem?_set_self (List.getElem?_eq_some_iff.mp ec).1, List.length_set, fun k hk => ?_⟩
    have hne : k0 ≠ k := fun e => by
      rw [e, hk] at hF
      cases hF
    exact List.getElem?_set_ne hne
  · exact ⟨fs, by rw [List.getElem?_set_ne hc]; exact ec, rfl, fun _ _ => rfl⟩
variable {E : mm_E} {lv lv' : mm_V} {st st' : List Value} {cb sb cb' sb' pc pc' q : Nat}
theorem kp_load {kd i : Nat} (hx : mm_load lv st cb sb h pc kd i = some (pc', lv', st', cb', sb', h')) : h' = h := by
  unfold mm_load at hx
  (repeat' split at hx) <;> first | (cases hx; rfl) | cases hx
theorem kp_store {nL kd i : Nat} (hx : mm_store nL lv st cb sb h pc kd i = some (pc', lv', st', cb', sb', h')) : h' = h := by
  unfold mm_store at hx
  (repeat' split at hx) <;> first | (cases hx; rfl) | cases hx
theorem kp_bin {g : Int32 → Int32 → Option Int32} (hx : mm_bin lv st cb sb h pc g = some (pc', lv', st', cb', sb', h')) : h' = h := by
  unfold mm_bin at hx
  split at hx
  · obtain ⟨v, -, e⟩ := Option.map_eq_some_iff.mp hx
    cases e
    rfl
  · cases hx
theorem kp_binL {g : Int64 → Int64 → Value} (hx : mm_binL lv st cb sb h pc g = some (pc', lv', st', cb', sb', h')) : h' = h := by
  unfold mm_binL at hx
  (repeat' split at hx) <;> first | (cases hx; rfl) | cases hx
theorem kp_un {g : Int32 → Value} (hx : mm_un lv st cb sb h pc g = some (pc', lv', st', cb', sb', h')) : h' = h := by
  unfold mm_un at hx
  (repeat' split at hx) <;> first | (cases hx; rfl) | cases hx
theorem kp_ald {kd kd2 : Nat} (hx : mm_ald E lv st cb sb h pc kd kd2 = some (pc', lv', st', cb', sb', h')) : h' = h := by
  unfold mm_ald at hx
  (repeat' split at hx) <;> first | (cases hx; rfl) | cases hx
theorem kp_lald (hx : mm_lald E lv st cb sb h pc = some (pc', lv', st', cb', sb', h')) : h' = h := by
  unfold mm_lald at hx
  (repeat' split at hx) <;> first | (cases hx; rfl) | cases hx
theorem kp_aald (hx : mm_aald E lv st cb sb h pc = some (pc', lv', st', cb', sb', h')) : h' = h := by
  unfold mm_aald at hx
  (repeat' split at hx) <;> first | (cases hx; rfl) | cases hx
theorem kp_alen {kd : Nat} (hx : mm_alen E lv st cb sb h pc kd = some (pc', lv', st', cb', sb', h')) : h' = h := by
  unfold mm_alen at hx
  (repeat' split at hx) <;> first | (cases hx; rfl) | cases hx
theorem kp_getf {ci k : Nat} (hx : mm_getf E lv st cb sb h pc ci k = some (pc', lv', st', cb', sb', h')) : h' = h := by
  unfold mm_getf at hx
  (repeat' split at hx) <;> first | (cases hx; rfl) | cases hx
theorem kp_gets {b : Nat} (hx : mm_gets E lv st cb sb h pc b = some (pc', lv', st', cb', sb', h')) : h' = h := by
  unfold mm_gets at hx
  (repeat' split at hx) <;> first | (cases hx; rfl) | cases hx
theorem kp_jump {off : Int} (hx : mm_jump lv st cb sb h pc off = some (pc', lv', st', cb', sb', h')) : h' = h := by
  unfold mm_jump at hx
  (repeat' split at hx) <;> first | (cases hx; rfl) | cases hx
theorem kp_sw {d lo hi : Int} {offs : Array Int} (hx : mm_sw lv st cb sb h pc d lo hi offs = some (pc', lv', st', cb', sb', h')) : h' = h := by
  unfold mm_sw at hx
  split at hx
  · split at hx
    · exact kp_jump hx
    · split at hx
      · exact kp_jump hx
      · cases hx
  · cases hx
theorem kp_celli {a : Nat} {x : va_E} (e : mm_cell E h a = some x) : h[a - E.1]? = some x := by
  unfold mm_cell at e
  split at e
  · exact e
  · cases e
theorem kp_ast {kd kd2 : Nat} (hx : mm_ast E lv st cb sb h pc kd kd2 = some (pc', lv', st', cb', sb', h')) : kp_F F h h' := by
  unfold mm_ast at hx
  split at hx
  · split at hx
    · next e =>
      split at hx
      · cases hx
        exact kp_set (kp_celli e)
      · cases hx
    · cases hx
  · cases hx
theorem kp_last (hx : mm_last E lv st cb sb h pc = some (pc', lv', st', cb', sb', h')) : kp_F F h h' := by
  unfold mm_last at hx
  split at hx
  · split at hx
    · next e =>
      split at hx
      · cases hx
        exact kp_set (kp_celli e)
      · cases hx
    · cases hx
  · cases hx
theorem kp_copy (hx : mm_copy E lv st cb sb h pc = some (pc', lv', st', cb', sb', h')) : kp_F F h h' := by
  unfold mm_copy at hx
  split at hx
  · split at hx
    · next e0 e1 =>
      split at hx
      · cases hx
        exact kp_set (kp_celli e1)
      · cases hx
    · cases hx
  · cases hx
theorem kp_putf {ci k kd : Nat} (hF : F ci k = false) (hx : mm_putf E lv st cb sb h pc ci k kd = some (pc', lv', st', cb', sb', h')) : kp_F F h h' := by
  unfold mm_putf at hx
  split at hx
  · split at hx
    · next e =>
      split at hx
      · next hc =>
        cases hx
        refine kp_put (kp_celli e) ?_
        rw [hc.1]
        exact hF
      · cases hx
    · cases hx
  · cases hx
theorem kp_sp {a ik : Nat} (hx : mm_sp E a ik lv st cb sb h pc = some (pc', lv', st', cb', sb', h')) : kp_F F h h' := by
  unfold mm_sp at hx
  split at hx
  · split at hx
    · split at hx
      · cases hx
        exact kp_r
      · cases hx
    · cases hx
  · split at hx
    · exact kp_copy hx
    · cases hx
end KP
/-- does the instruction make something, or write a field: not these -/
def kp_i (S : List Nat) (F : Nat → Nat → Bool) (q : mm_I) : Bool := (match mm_inv q.2.2.1 with
  | some _ => decide (q.2.2.2.1 < 2) || S.elem q.2.2.2.1
  | none => true) && (match q.2.2.1 with
  | .putfield _ => !F q.2.2.2.1 q.2.2.2.2.1
  | .new _ => false
  | .newarray _ => false
  | .multianewarray _ _ => false
  | _ => true)
def kp_chk (S : List Nat) (F : Nat → Nat → Bool) (P : mm_T) : Bool := S.all (fun m => match P[m]? with
  | some r => r.1.all (fun l => l.all (kp_i S F))
  | none => true)
theorem kp_at {S : List Nat} {F : Nat → Nat → Bool} (hS : kp_chk S F mt_P = true) {m pc : Nat} (hm : m ∈ S) {x : mm_I} {y : Nat × mm_M} (hat : mm_at mt_P m pc = some (x, y)) : kp_i S F x = true := by
  unfold mm_at at hat
  have h1 := List.all_eq_true.mp hS m hm
  cases hP : mt_P[m]? with
  | none =>
    rw [hP] at hat
    cases hat
  | some r =>
    obtain ⟨cs, nL, d⟩ := r
    rw [hP] at hat h1
    simp only at hat h1
    cases hc : cs[pc / 16]? with
    | none =>
      rw [hc] at hat
      cases hat
    | some l =>
      rw [hc] at hat
      simp only at hat
      obtain ⟨q, hq, e⟩ := Option.map_eq_some_iff.mp hat
      have h2 := List.all_eq_true.mp h1 l (List.mem_of_getElem? hc)
      have h3 := List.all_eq_true.mp h2 q (List.mem_of_find?_eq_some hq)
      have e2 : q = x := congrArg (fun w : mm_I × Nat × mm_M => w.1) e
      rw [← e2]
      exact h3
theorem kp_ex {F : Nat → Nat → Bool} {E : mm_E} {S : List Nat} {nL q0 len a b wd pc pc' cb sb cb' sb' : Nat} {z : Int} {ins : Instr} {lv lv' : mm_V} {st st' : List Value} {h h' : mm_H} (hi : kp_i S F (q0, len, ins, a, b, z, wd) = true) (hx : mm_ex E mt_kds nL ins len a b z pc lv st cb sb h = some (pc', lv', st', cb', sb', h')) : kp_F F h h' := by
  have hi2 := (Bool.and_eq_true_iff.mp hi).2
  cases ins
  case iconst => cases hx; exact kp_r
  case bipush => cases hx; exact kp_r
  case sipush => cases hx; exact kp_r
  case lconst => cases hx; exact kp_r
  case ldc =>
    simp only [mm_ex] at hx
    (repeat' split at hx) <;> first | (cases hx; exact kp_r) | cases hx
  case ldc_w => cases hx; exact kp_r
  case ldc2_w => cases hx; exact kp_r
  case iload_n => exact kp_e (kp_load hx)
  case iload => exact kp_e (kp_load hx)
  case lload_n => exact kp_e (kp_load hx)
  case lload => exact kp_e (kp_load hx)
  case aload_n => exact kp_e (kp_load hx)
  case aload => exact kp_e (kp_load hx)
  case istore_n => exact kp_e (kp_store hx)
  case istore => exact kp_e (kp_store hx)
  case lstore_n => exact kp_e (kp_store hx)
  case lstore => exact kp_e (kp_store hx)
  case astore_n => exact kp_e (kp_store hx)
  case astore => exact kp_e (kp_store hx)
  case iinc =>
    simp only [mm_ex] at hx
    (repeat' split at hx) <;> first | (cases hx; exact kp_r) | cases hx
  case iadd => exact kp_e (kp_bin hx)
  case isub => exact kp_e (kp_bin hx)
  case imul => exact kp_e (kp_bin hx)
  case idiv => exact kp_e (kp_bin hx)
  case irem => exact kp_e (kp_bin hx)
  case iand => exact kp_e (kp_bin hx)
  case ior => exact kp_e (kp_bin hx)
  case ixor => exact kp_e (kp_bin hx)
  case ishl => exact kp_e (kp_bin hx)
  case ishr => exact kp_e (kp_bin hx)
  case iushr => exact kp_e (kp_bin hx)
  case ineg => exact kp_e (kp_un hx)
  case i2l => exact kp_e (kp_un hx)
  case i2b => exact kp_e (kp_un hx)
  case i2c => exact kp_e (kp_un hx)
  case l2i =>
    simp only [mm_ex] at hx
    (repeat' split at hx) <;> first | (cases hx; exact kp_r) | cases hx
  case ladd => exact kp_e (kp_binL hx)
  case lmul => exact kp_e (kp_binL hx)
  case lcmp => exact kp_e (kp_binL hx)
  case dup =>
    simp only [mm_ex] at hx
    (repeat' split at hx) <;> first | (cases hx; exact kp_r) | cases hx
  case pop =>
    simp only [mm_ex] at hx
    (repeat' split at hx) <;> first | (cases hx; exact kp_r) | cases hx
  case dup2 =>
    simp only [mm_ex] at hx
    (repeat' split at hx) <;> first | (cases hx; exact kp_r) | cases hx
  case if_icmp =>
    simp only [mm_ex] at hx
    split at hx
    · split at hx
      · exact kp_e (kp_jump hx)
      · cases hx; exact kp_r
    · cases hx
  case ifCond =>
    simp only [mm_ex] at hx
    split at hx
    · split at hx
      · exact kp_e (kp_jump hx)
      · cases hx; exact kp_r
    · cases hx
  case goto => exact kp_e (kp_jump hx)
  case tableswitch => exact kp_e (kp_sw hx)
  case getstatic =>
    simp only [mm_ex] at hx
    (repeat' split at hx) <;> first | (cases hx; exact kp_r) | cases hx
  case iaload => exact kp_e (kp_ald hx)
  case baload => exact kp_e (kp_ald hx)
  case iastore => exact kp_ast hx
  case bastore => exact kp_ast hx
  case laload => exact kp_e (kp_lald hx)
  case lastore => exact kp_last hx
  case aaload => exact kp_e (kp_aald hx)
  case arraylength => exact kp_e (kp_alen hx)
  case getfield =>
    simp only [mm_ex] at hx
    split at hx
    · exact kp_e (kp_gets hx)
    · exact kp_e (kp_getf hx)
  case putfield =>
    simp only [mm_ex] at hx
    split at hx
    · split at hx
      · refine kp_putf ?_ hx
        have hi2 : (!F a b) = true := hi2
        cases hFab : F a b with
        | false => rfl
        | true =>
          rw [hFab] at hi2
          cases hi2
      · cases hx
    · cases hx
  case new => cases hi2
  case newarray => cases hi2
  case multianewarray => cases hi2
  all_goals (have hx : (none : mm_O) = some (pc', lv', st', cb', sb', h') := hx; cases hx)
/-- a step: the heap, and the frames -/
theorem kp_stp {F : Nat → Nat → Bool} {S : List Nat} (hS : kp_chk S F mt_P = true) {E : mm_E} {m pc : Nat} (hm : m ∈ S) {lv : mm_V} {st : List Value} {cb sb : Nat} {gs : List mm_F} {h : mm_H} {o : Option Value} {X : mm_C} (hs : mm_stp E mt_kds mt_P 1000 ((m, pc, lv, st, cb, sb) :: gs, h, o) = some X) : (∃ (pc' : Nat) (lv' : mm_V) (st' : List Value) (cb' sb' : Nat) (h' : mm_H), X = ((m, pc', lv', st', cb', sb') :: gs, h', none) ∧ kp_F F h h') ∨ (∃ (f : mm_F) (pc' : Nat) (lv' : mm_V) (st' : List Value) (cb' sb' : Nat), f.1 ∈ S ∧ f.1 ≠ 999 ∧ X = (f :: (m, pc', lv', st', cb', sb') :: gs, h, none)) ∨ (∃ (v : Option Value) (cs : List (List mm_I)) (nL np kd ci rk mc ms ik : Nat), X = mm_back v gs h ∧ mt_P[m]? = some (cs, nL, np, kd, ci, rk, mc, ms) ∧ mm_ans rk ik st = some v) := by
  rcases bp_stpF hs with ⟨pc', lv', st', cb', sb', h', rfl⟩ | ⟨f, pc', lv', st', cb', sb', h', hf, rfl⟩ | g
  · refine Or.inl ⟨_, _, _, _, _, _, rfl, ?_⟩
    simp only [mm_stp] at hs
    cases hat : mm_at mt_P m pc with
    | none =>
      rw [hat] at hs
      cases hs
    | some x =>
      obtain ⟨⟨q0, len, ins, a, b, z, wd⟩, nL, np, kd, ci, rk, mc, ms⟩ := x
      have hi := kp_at hS hm hat
      rw [hat] at hs
      simp only at hs
      cases hv : mm_inv ins with
      | some ik =>
        rw [hv] at hs
        simp only at hs
        split at hs
        · split at hs
          · split at hs
            · next e =>
              cases hs
              exact kp_sp e
            · cases hs
          · cases hs
        · unfold mm_call at hs
          (repeat' split at hs) <;> first | (cases hs; done) | skip
          all_goals (
            have e := congrArg (fun c : mm_C => c.1.length) (Option.some.inj hs)
            simp only [List.length_cons] at e
            omega)
      | none =>
        rw [hv] at hs
        simp only at hs
        cases hr : mm_rtn ins with
        | some ik =>
          rw [hr] at hs
          simp only at hs
          split at hs
          · exact kp_e (by
              cases gs with
              | nil =>
                have e := congrArg (fun c : mm_C => c.1.length) (Option.some.inj hs)
                exact absurd e (by simp [mm_back])
              | cons g gs =>
                obtain ⟨a1, a2, a3, a4, a5, a6⟩ := g
                exact (congrArg (fun c : mm_C => c.2.1) (Option.some.inj hs)).symm)
          · cases hs
        | none =>
          rw [hr] at hs
          simp only at hs
          split at hs
          · next e =>
            cases hs
            exact kp_ex hi e
          · cases hs
  · refine Or.inr (Or.inl ⟨f, pc', lv', st', cb', sb', ?_, hf, ?_⟩)
    all_goals (
      simp only [mm_stp] at hs
      cases hat : mm_at mt_P m pc with
      | none =>
        rw [hat] at hs
        cases hs
      | some x =>
        obtain ⟨⟨q0, len, ins, a, b, z, wd⟩, nL, np, kd, ci, rk, mc, ms⟩ := x
        have hi := kp_at hS hm hat
        rw [hat] at hs
        simp only at hs
        cases hv : mm_inv ins with
        | some ik =>
          have hi1 := (Bool.and_eq_true_iff.mp hi).1
          simp only [hv] at hi1
          rw [hv] at hs
          simp only at hs
          split at hs
          · split at hs
            · split at hs
              · exfalso
                have e := congrArg (fun c : mm_C => c.1.length) (Option.some.inj hs)
                simp only [List.length_cons] at e
                omega
              · cases hs
            · cases hs
          · next ha =>
            unfold mm_call at hs
            split at hs
            · split at hs
              · split at hs
                · split at hs
                  · cases hs
                    first
                      | rfl
                      | (rcases Bool.or_eq_true_iff.mp hi1 with u | u
                         · exact absurd (of_decide_eq_true u) ha
                         · exact List.elem_iff.mp u)
                  · cases hs
                · cases hs
              · cases hs
            · cases hs
        | none =>
          exfalso
          rw [hv] at hs
          simp only at hs
          cases hr : mm_rtn ins with
          | some ik =>
            rw [hr] at hs
            simp only at hs
            split at hs
            · have e := congrArg (fun c : mm_C => c.1.length) (Option.some.inj hs)
              cases gs with
              | nil => simp [mm_back] at e
              | cons g gs =>
                obtain ⟨a1, a2, a3, a4, a5, a6⟩ := g
                simp only [mm_back, List.length_cons] at e
                omega
            · cases hs
          | none =>
            rw [hr] at hs
            simp only at hs
            split at hs
            · have e := congrArg (fun c : mm_C => c.1.length) (Option.some.inj hs)
              simp only [List.length_cons] at e
              omega
            · cases hs)
  · exact Or.inr (Or.inr g)
/-- a call: what it cannot change is as it was -/
theorem kp_call {F : Nat → Nat → Bool} {S : List Nat} (hS : kp_chk S F mt_P = true) {E : mm_E} {PO : mm_C → Prop} {g0 : mm_F} {t : List mm_F} {K : Nat} (hKS : K ∈ S) {cs : List (List mm_I)} {nL np kd ci rk mc ms : Nat} (hK : mt_P[K]? = some (cs, nL, np, kd, ci, rk, mc, ms)) {h0 : mm_H} : ∀ (NN : Nat), (∀ (vo : Option Value) (h' : mm_H), kp_F F h0 h' → (rk = 0 → vo = none) → (rk = 1 ∨ rk = 2 → ∃ r : Int32, vo = some (.int r)) → bp_G E PO NN (mm_back vo (g0 :: t) h')) → ∀ (fs : List mm_F) (pc : Nat) (lv : mm_V) (st : List Value) (cb sb : Nat) (h : mm_H) (o : Option Value), kp_F F h0 h → (∀ f ∈ fs, f.1 ∈ S ∧ f.1 ≠ 999) → bp_G E PO NN (fs ++ (K, pc, lv, st, cb, sb) :: g0 :: t, h, o) := by
  have hKn : K ≠ 999 := fun e => by
    rw [e, bp_none] at hK
    cases hK
  have hnm : ∀ (fs : List mm_F) (pc : Nat) (lv : mm_V) (st : List Value) (cb sb : Nat) (h : mm_H) (o : Option Value), (∀ f ∈ fs, f.1 ∈ S ∧ f.1 ≠ 999) → ¬ bp_mk (fs ++ (K, pc, lv, st, cb, sb) :: g0 :: t, h, o) := by
    intro fs pc lv st cb sb h o hfs hm2
    obtain ⟨f, t2, e, hf⟩ := hm2
    cases fs with
    | nil =>
      have e : (K, pc, lv, st, cb, sb) :: g0 :: t = f :: t2 := e
      cases e
      exact hKn hf
    | cons f1 fs =>
      have e : f1 :: (fs ++ (K, pc, lv, st, cb, sb) :: g0 :: t) = f :: t2 := e
      cases e
      exact (hfs _ List.mem_cons_self).2 hf
  intro NN
  induction NN with
  | zero =>
    intro kk fs pc lv st cb sb h o hF hfs k hk c2 hr hm2
    have e : k = 0 := by omega
    subst e
    have hr : some ((fs ++ (K, pc, lv, st, cb, sb) :: g0 :: t, h, o) : mm_C) = some c2 := hr
    cases hr
    exact absurd hm2 (hnm fs pc lv st cb sb h o hfs)
  | succ NN ih =>
    intro kk fs pc lv st cb sb h o hF hfs
    have ih2 := ih (fun vo h' f a b => bp_mono (Nat.le_succ NN) (kk vo h' f a b))
    refine bp_anyD (hnm fs pc lv st cb sb h o hfs) (fun c' hs => ?_)
    cases fs with
    | nil =>
      rcases kp_stp hS hKS hs with ⟨pc', lv', st', cb', sb', h', rfl, hF2⟩ | ⟨f, pc', lv', st', cb', sb', hf, hf2, rfl⟩ | ⟨v, cs2, nL2, np2, kd2, ci2, rk2, mc2, ms2, ik, rfl, hK2, ha⟩
      · exact ih2 [] pc' lv' st' cb' sb' h' none (kp_t hF hF2) (fun f hf => by cases hf)
      · exact ih2 [f] pc' lv' st' cb' sb' h none hF (fun f2 hf3 => by
          cases List.mem_singleton.mp hf3
          exact ⟨hf, hf2⟩)
      · rw [hK] at hK2
        cases hK2
        exact bp_mono (Nat.le_succ NN) (kk v h hF (bp_ans ha).1 (bp_ans ha).2)
    | cons f1 fs =>
      obtain ⟨m1, pc1, lv1, st1, cb1, sb1⟩ := f1
      have hfs2 : ∀ f ∈ fs, f.1 ∈ S ∧ f.1 ≠ 999 := fun f hf => hfs f (List.mem_cons_of_mem _ hf)
      have hm1 : m1 ∈ S ∧ m1 ≠ 999 := hfs (m1, pc1, lv1, st1, cb1, sb1) List.mem_cons_self
      rcases kp_stp hS hm1.1 (gs := fs ++ (K, pc, lv, st, cb, sb) :: g0 :: t) hs with ⟨pc', lv', st', cb', sb', h', rfl, hF2⟩ | ⟨f, pc', lv', st', cb', sb', hf, hf2, rfl⟩ | ⟨v, cs2, nL2, np2, kd2, ci2, rk2, mc2, ms2, ik, rfl, hK2, ha⟩
      · refine ih2 ((m1, pc', lv', st', cb', sb') :: fs) pc lv st cb sb h' none (kp_t hF hF2) (fun f hf => ?_)
        rcases List.mem_cons.mp hf with rfl | hf
        · exact hm1
        · exact hfs2 f hf
      · refine ih2 (f :: (m1, pc', lv', st', cb', sb') :: fs) pc lv st cb sb h none hF (fun f2 hf3 => ?_)
        rcases List.mem_cons.mp hf3 with rfl | hf3
        · exact ⟨hf, hf2⟩
        rcases List.mem_cons.mp hf3 with rfl | hf3
        · exact hm1
        · exact hfs2 f2 hf3
      · cases fs with
        | nil => exact ih2 [] pc lv (v.toList ++ st) cb sb h none hF (fun f hf => by cases hf)
        | cons f2 fs =>
          obtain ⟨m2, pc2, lv2, st2, cb2, sb2⟩ := f2
          refine ih2 ((m2, pc2, lv2, v.toList ++ st2, cb2, sb2) :: fs) pc lv st cb sb h none hF (fun f hf => ?_)
          rcases List.mem_cons.mp hf with rfl | hf
          · exact hfs2 (m2, pc2, lv2, st2, cb2, sb2) List.mem_cons_self
          · exact hfs2 f (List.mem_cons_of_mem _ hf)
theorem kp_call0 {F : Nat → Nat → Bool} {S : List Nat} (hS : kp_chk S F mt_P = true) {E : mm_E} {PO : mm_C → Prop} {NN : Nat} {g0 : mm_F} {t : List mm_F} {K : Nat} (hKS : K ∈ S) {cs : List (List mm_I)} {nL np kd ci rk mc ms : Nat} (hK : mt_P[K]? = some (cs, nL, np, kd, ci, rk, mc, ms)) {pc : Nat} {lv : mm_V} {st : List Value} {cb sb : Nat} {h : mm_H} {o : Option Value} (kk : ∀ (vo : Option Value) (h' : mm_H), kp_F F h h' → (rk = 0 → vo = none) → (rk = 1 ∨ rk = 2 → ∃ r : Int32, vo = some (.int r)) → bp_G E PO NN (mm_back vo (g0 :: t) h')) : bp_G E PO NN ((K, pc, lv, st, cb, sb) :: g0 :: t, h, o) := kp_call hS hKS hK NN kk [] pc lv st cb sb h o kp_r (fun f hf => by cases hf)
