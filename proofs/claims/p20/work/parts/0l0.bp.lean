/-! PARTIAL RUNS: what holds of a state that a run comes to, if it comes there (marked by a frame of no method), within so many steps -/
def bp_mk (c : mm_C) : Prop := ∃ (f : mm_F) (t : List mm_F), c.1 = f :: t ∧ f.1 = 999
def bp_G (E : mm_E) (PO : mm_C → Prop) (NN : Nat) (c : mm_C) : Prop := ∀ k, k ≤ NN → ∀ c', mm_run E mt_kds mt_P 1000 k c = some c' → bp_mk c' → PO c'
theorem bp_none : mt_P[999]? = none := by decide +kernel
theorem bp_at {pc : Nat} : mm_at mt_P 999 pc = none := by
  unfold mm_at
  rw [bp_none]
theorem bp_stk {E : mm_E} {f : mm_F} {t : List mm_F} {h : mm_H} {o : Option Value} (hf : f.1 = 999) : mm_stp E mt_kds mt_P 1000 (f :: t, h, o) = none := by
  obtain ⟨m, pc, lv, st, cb, sb⟩ := f
  have hf : m = 999 := hf
  subst hf
  simp only [mm_stp, bp_at]
theorem bp_stk2 {E : mm_E} {c : mm_C} (hm : bp_mk c) : mm_stp E mt_kds mt_P 1000 c = none := by
  obtain ⟨f, t, e, hf⟩ := hm
  obtain ⟨fs, h, o⟩ := c
  have e : fs = f :: t := e
  subst e
  exact bp_stk hf
theorem bp_run_s {E : mm_E} {n : Nat} {c : mm_C} : mm_run E mt_kds mt_P 1000 (n + 1) c = (match mm_stp E mt_kds mt_P 1000 c with
    | some c' => mm_run E mt_kds mt_P 1000 n c'
    | none => none) := rfl
section BPG
variable {E : mm_E} {PO : mm_C → Prop} {NN : Nat}
theorem bp_mono {N2 : Nat} {c : mm_C} (h : NN ≤ N2) (g : bp_G E PO N2 c) : bp_G E PO NN c := fun k hk => g k (Nat.le_trans hk h)
/-- whatever the step is -/
theorem bp_any {c : mm_C} (hm : ¬ bp_mk c) (g : ∀ c', mm_stp E mt_kds mt_P 1000 c = some c' → bp_G E PO NN c') : bp_G E PO NN c := by
  intro k hk c2 hr hm2
  cases k with
  | zero =>
    have hr : some c = some c2 := hr
    cases hr
    exact absurd hm2 hm
  | succ k =>
    rw [bp_run_s] at hr
    cases hs : mm_stp E mt_kds mt_P 1000 c with
    | none =>
      rw [hs] at hr
      cases hr
    | some c' =>
      rw [hs] at hr
      exact g c' hs k (by omega) c2 hr hm2
theorem bp_anyD {c : mm_C} (hm : ¬ bp_mk c) (g : ∀ c', mm_stp E mt_kds mt_P 1000 c = some c' → bp_G E PO NN c') : bp_G E PO (NN + 1) c := by
  intro k hk c2 hr hm2
  cases k with
  | zero =>
    have hr : some c = some c2 := hr
    cases hr
    exact absurd hm2 hm
  | succ k =>
    rw [bp_run_s] at hr
    cases hs : mm_stp E mt_kds mt_P 1000 c with
    | none =>
      rw [hs] at hr
      cases hr
    | some c' =>
      rw [hs] at hr
      exact g c' hs k (by omega) c2 hr hm2
theorem bp_nm {c c' : mm_C} (h : mm_stp E mt_kds mt_P 1000 c = some c') : ¬ bp_mk c := fun hm => by
  rw [bp_stk2 hm] at h
  cases h
theorem bp_good_step {c c' : mm_C} (h : mm_stp E mt_kds mt_P 1000 c = some c') (g : bp_G E PO NN c') : bp_G E PO NN c := bp_any (bp_nm h) (fun c2 h2 => by
  rw [h] at h2
  cases h2
  exact g)
theorem bp_good_stepD {c c' : mm_C} (h : mm_stp E mt_kds mt_P 1000 c = some c') (g : bp_G E PO NN c') : bp_G E PO (NN + 1) c := bp_anyD (bp_nm h) (fun c2 h2 => by
  rw [h] at h2
  cases h2
  exact g)
theorem bp_ne {m pc : Nat} {x : mm_I × Nat × mm_M} (hat : mm_at mt_P m pc = some x) : m ≠ 999 := fun e => by
  subst e
  rw [bp_at] at hat
  cases hat
theorem bp_nm2 {m pc : Nat} {x : mm_I × Nat × mm_M} (hat : mm_at mt_P m pc = some x) {lv : mm_V} {st : List Value} {cb sb : Nat} {gs : List mm_F} {h : mm_H} {o : Option Value} : ¬ bp_mk ((m, pc, lv, st, cb, sb) :: gs, h, o) := fun hm => by
  obtain ⟨f, t, e, hf⟩ := hm
  have e : (m, pc, lv, st, cb, sb) :: gs = f :: t := e
  cases e
  exact bp_ne hat hf
theorem bp_zero {m pc : Nat} {x : mm_I × Nat × mm_M} (hat : mm_at mt_P m pc = some x) {lv : mm_V} {st : List Value} {cb sb : Nat} {gs : List mm_F} {h : mm_H} {o : Option Value} : bp_G E PO 0 ((m, pc, lv, st, cb, sb) :: gs, h, o) := by
  intro k hk c2 hr hm2
  have e : k = 0 := by omega
  subst e
  have hr : some (((m, pc, lv, st, cb, sb) :: gs, h, o) : mm_C) = some c2 := hr
  cases hr
  exact absurd hm2 (bp_nm2 hat)
end BPG
/-- a step above some frames is the same whatever frames these are -/
theorem bp_fr {E : mm_E} {f : mm_F} {fs t t2 : List mm_F} {h : mm_H} {o : Option Value} {X : mm_C} (ht : t.length = t2.length) (hs : mm_stp E mt_kds mt_P 1000 (f :: (fs ++ t), h, o) = some X) : (∃ (f2 : mm_F) (fs2 : List mm_F) (h2 : mm_H) (o2 : Option Value), X = (f2 :: (fs2 ++ t), h2, o2) ∧ mm_stp E mt_kds mt_P 1000 (f :: (fs ++ t2), h, o) = some (f2 :: (fs2 ++ t2), h2, o2)) ∨ (fs = [] ∧ ∃ vo : Option Value, X = mm_back vo t h ∧ mm_stp E mt_kds mt_P 1000 (f :: t2, h, o) = some (mm_back vo t2 h)) := by
  obtain ⟨m, pc, lv, st, cb, sb⟩ := f
  have hl : (fs ++ t).length = (fs ++ t2).length := by
    rw [List.length_append, List.length_append, ht]
  simp only [mm_stp] at hs ⊢
  cases hat : mm_at mt_P m pc with
  | none =>
    rw [hat] at hs
    cases hs
  | some x =>
    obtain ⟨⟨q0, len, ins, a, b, z, wd⟩, nL, np, kd, ci, rk, mc, ms⟩ := x
    rw [hat] at hs
    simp only at hs ⊢
    cases hi : mm_inv ins with
    | some ik =>
      rw [hi] at hs
      simp only at hs ⊢
      by_cases ha : a < 2
      · rw [if_pos ha] at hs ⊢
        by_cases hg : (fs ++ t).length + 1 < 1000
        · rw [if_pos hg] at hs
          rw [← hl, if_pos hg]
          cases hx : mm_sp E a ik lv st cb sb h (pc + len) with
          | none =>
            rw [hx] at hs
            cases hs
          | some y =>
            obtain ⟨pc', lv', st', cb', sb', h'⟩ := y
            rw [hx] at hs
            cases hs
            exact Or.inl ⟨_, _, _, _, rfl, rfl⟩
        · rw [if_neg hg] at hs
          cases hs
      · rw [if_neg ha] at hs ⊢
        unfold mm_call at hs ⊢
        cases hK : mt_P[a]? with
        | none =>
          rw [hK] at hs
          cases hs
        | some y =>
          obtain ⟨cs1, nL1, np1, kd1, ci1, rk1, mc1, ms1⟩ := y
          rw [hK] at hs
          simp only at hs ⊢
          rw [← hl]
          by_cases hg : kd1 = ik ∧ (fs ++ t).length + 1 < 1000 ∧ mc1 ≤ cb ∧ ms1 ≤ sb ∧ np1 ≤ st.length
          · rw [if_pos hg] at hs ⊢
            cases hr : mm_recv E h kd1 ci1 (st.drop np1) with
            | none =>
              rw [hr] at hs
              cases hs
            | some y =>
              obtain ⟨rv, r⟩ := y
              rw [hr] at hs
              simp only at hs ⊢
              by_cases hc : (r.map fun v => v.category).sum ≤ 8 ∧ (lg_sl (rv ++ (st.take np1).reverse)).length ≤ nL1
              · rw [if_pos hc] at hs ⊢
                cases hs
                exact Or.inl ⟨_, (m, pc + len, lv, r, cb - mc1, sb - ms1) :: fs, _, _, rfl, rfl⟩
              · rw [if_neg hc] at hs
                cases hs
          · rw [if_neg hg] at hs
            cases hs
    | none =>
      rw [hi] at hs
      simp only at hs ⊢
      cases hrt : mm_rtn ins with
      | some ik =>
        rw [hrt] at hs
        simp only at hs ⊢
        cases ha : mm_ans rk ik st with
        | none =>
          rw [ha] at hs
          cases hs
        | some v =>
          rw [ha] at hs
          cases hs
          cases fs with
          | nil => exact Or.inr ⟨rfl, v, rfl, rfl⟩
          | cons g fs =>
            obtain ⟨m2, pc2, lv2, st2, cb2, sb2⟩ := g
            exact Or.inl ⟨_, fs, _, _, rfl, rfl⟩
      | none =>
        rw [hrt] at hs
        simp only at hs ⊢
        cases hx : mm_ex E mt_kds nL ins len a b z pc lv st cb sb h with
        | none =>
          rw [hx] at hs
          cases hs
        | some y =>
          obtain ⟨pc', lv', st', cb', sb', h'⟩ := y
          rw [hx] at hs
          cases hs
          exact Or.inl ⟨_, _, _, _, rfl, rfl⟩
def bp_mf : mm_F := (999, 0, [], [], 0, 0)
/-- a run above a marked frame that comes back to it is a run above any frame -/
theorem bp_lift {E : mm_E} {g : mm_F} {t : List mm_F} {vo : Option Value} {h2 : mm_H} : ∀ (n : Nat) (f : mm_F) (fs : List mm_F) (h : mm_H) (o : Option Value), mm_run E mt_kds mt_P 1000 n (f :: (fs ++ bp_mf :: t), h, o) = some (mm_back vo (bp_mf :: t) h2) → mm_run E mt_kds mt_P 1000 n (f :: (fs ++ g :: t), h, o) = some (mm_back vo (g :: t) h2) := by
  intro n
  induction n with
  | zero =>
    intro f fs h o hr
    have hr : some ((f :: (fs ++ bp_mf :: t), h, o) : mm_C) = some (mm_back vo (bp_mf :: t) h2) := hr
    have e := congrArg (fun c : mm_C => c.1.length) (Option.some.inj hr)
    have e2 : (f :: (fs ++ bp_mf :: t)).length = t.length + 1 := e
    rw [List.length_cons, List.length_append, List.length_cons] at e2
    omega
  | succ n ih =>
    intro f fs h o hr
    rw [bp_run_s] at hr
    cases hs : mm_stp E mt_kds mt_P 1000 (f :: (fs ++ bp_mf :: t), h, o) with
    | none =>
      rw [hs] at hr
      cases hr
    | some X =>
      rw [hs] at hr
      simp only at hr
      rcases bp_fr (t := bp_mf :: t) (t2 := g :: t) rfl hs with ⟨f2, fs2, h3, o3, rfl, e2⟩ | ⟨rfl, v, rfl, e2⟩
      · rw [bp_run_s, e2]
        exact ih f2 fs2 h3 o3 hr
      · rw [bp_run_s]
        have e2 : mm_stp E mt_kds mt_P 1000 (f :: ([] ++ g :: t), h, o) = some (mm_back v (g :: t) h) := e2
        rw [e2]
        show mm_run E mt_kds mt_P 1000 n (mm_back v (g :: t) h) = _
        cases n with
        | zero =>
          have hr : some (mm_back v (bp_mf :: t) h) = some (mm_back vo (bp_mf :: t) h2) := hr
          have e := Option.some.inj hr
          have e3 : h = h2 := congrArg (fun c : mm_C => c.2.1) e
          have e4 : v.toList ++ ([] : List Value) = vo.toList ++ [] := congrArg (fun c : mm_C => (c.1.headD bp_mf).2.2.2.1) e
          rw [List.append_nil, List.append_nil] at e4
          have e5 : v = vo := by
            cases v with
            | none => cases vo with
              | none => rfl
              | some w => cases e4
            | some u => cases vo with
              | none => cases e4
              | some w => cases e4; rfl
          rw [e3, e5]
          rfl
        | succ n =>
          rw [bp_run_s] at hr
          have e : mm_stp E mt_kds mt_P 1000 (mm_back v (bp_mf :: t) h) = none := bp_stk (f := (999, 0, [], v.toList ++ [], 0, 0)) rfl
          rw [e] at hr
          cases hr
/-- what a call comes to, and what it says if it comes back: both -/
theorem bp_join {E : mm_E} {FIN : mm_C → Prop} {A B : Option Value → mm_H → Prop} {m pc : Nat} {lv : mm_V} {st : List Value} {cb sb : Nat} {h : mm_H} {o : Option Value} {g : mm_F} {t : List mm_F} (T : ∀ (FIN' : mm_C → Prop), (∀ vo h', A vo h' → bh_G E FIN' (mm_back vo (bp_mf :: t) h')) → bh_G E FIN' ((m, pc, lv, st, cb, sb) :: bp_mf :: t, h, o)) (Pp : ∀ (PO : mm_C → Prop) (NN : Nat), (∀ vo h', B vo h' → bp_G E PO NN (mm_back vo (bp_mf :: t) h')) → bp_G E PO NN ((m, pc, lv, st, cb, sb) :: bp_mf :: t, h, o)) (kk : ∀ vo h', A vo h' → B vo h' → bh_G E FIN (mm_back vo (g :: t) h')) : bh_G E FIN ((m, pc, lv, st, cb, sb) :: g :: t, h, o) := by
  obtain ⟨n, c', hr, vo, h', rfl, hA⟩ := T (fun c => ∃ vo h', c = mm_back vo (bp_mf :: t) h' ∧ A vo h') (fun vo h' hA => ⟨0, _, rfl, vo, h', rfl, hA⟩)
  have hB := Pp (fun c => ∃ vo h', c = mm_back vo (bp_mf :: t) h' ∧ B vo h') n (fun vo h' hB k hk c2 hr2 hm2 => by
    cases k with
    | zero =>
      have hr2 : some (mm_back vo (bp_mf :: t) h') = some c2 := hr2
      cases hr2
      exact ⟨vo, h', rfl, hB⟩
    | succ k =>
      rw [bp_run_s] at hr2
      have e : mm_stp E mt_kds mt_P 1000 (mm_back vo (bp_mf :: t) h') = none := bp_stk (f := (999, 0, [], vo.toList ++ [], 0, 0)) rfl
      rw [e] at hr2
      cases hr2) n (Nat.le_refl _) _ hr ⟨_, _, rfl, rfl⟩
  obtain ⟨v2, h2, e, hB⟩ := hB
  have e3 : h' = h2 := congrArg (fun c : mm_C => c.2.1) e
  have e4 : vo.toList ++ ([] : List Value) = v2.toList ++ [] := congrArg (fun c : mm_C => (c.1.headD bp_mf).2.2.2.1) e
  rw [List.append_nil, List.append_nil] at e4
  have e5 : vo = v2 := by
    cases vo with
    | none => cases v2 with
      | none => rfl
      | some w => cases e4
    | some u => cases v2 with
      | none => cases e4
      | some w => cases e4; rfl
  subst e3
  subst e5
  have hr2 := bp_lift (g := g) n (m, pc, lv, st, cb, sb) [] h o hr
  obtain ⟨k, c3, r1, r2⟩ := kk vo h' hA hB
  refine ⟨n + k, c3, ?_, r2⟩
  have add : ∀ (a : Nat) (c c1 : mm_C), mm_run E mt_kds mt_P 1000 a c = some c1 → mm_run E mt_kds mt_P 1000 (a + k) c = mm_run E mt_kds mt_P 1000 k c1 := by
    intro a
    induction a with
    | zero =>
      intro c c1 h1
      have h1 : some c = some c1 := h1
      cases h1
      rw [Nat.zero_add]
    | succ a iha =>
      intro c c1 h1
      rw [bp_run_s] at h1
      rw [Nat.succ_add_eq_add_succ, Nat.add_succ, bp_run_s]
      cases hs : mm_stp E mt_kds mt_P 1000 c with
      | none =>
        rw [hs] at h1
        cases h1
      | some c' =>
        rw [hs] at h1
        simp only at h1 ⊢
        exact iha c' c1 h1
  exact (add n _ _ hr2).trans r1
theorem bp_ans {rk ik : Nat} {st : List Value} {v : Option Value} (h : mm_ans rk ik st = some v) : (rk = 0 → v = none) ∧ (rk = 1 ∨ rk = 2 → ∃ r : Int32, v = some (.int r)) := by
  rcases st with _ | ⟨a, _ | ⟨b, r⟩⟩
  · have h : (if rk = 0 ∧ ik = 0 then some none else none) = some v := h
    by_cases hc : rk = 0 ∧ ik = 0
    · rw [if_pos hc] at h
      cases h
      exact ⟨fun _ => rfl, fun e => by omega⟩
    · rw [if_neg hc] at h
      cases h
  · cases a with
    | int x =>
      have h : (if ik = 1 ∧ (rk = 1 ∨ (rk = 2 ∧ (x = 0 ∨ x = 1)) ∨ (rk = 4 ∧ -128 ≤ x.toInt ∧ x.toInt ≤ 127) ∨ (rk = 5 ∧ 0 ≤ x.toInt ∧ x.toInt ≤ 65535)) then some (some (Value.int x)) else none) = some v := h
      by_cases hc : ik = 1 ∧ (rk = 1 ∨ (rk = 2 ∧ (x = 0 ∨ x = 1)) ∨ (rk = 4 ∧ -128 ≤ x.toInt ∧ x.toInt ≤ 127) ∨ (rk = 5 ∧ 0 ≤ x.toInt ∧ x.toInt ≤ 65535))
      · rw [if_pos hc] at h
        cases h
        exact ⟨fun e => by omega, fun _ => ⟨x, rfl⟩⟩
      · rw [if_neg hc] at h
        cases h
    | long x =>
      have h : (if ik = 3 ∧ rk = 3 then some (some (Value.long x)) else none) = some v := h
      by_cases hc : ik = 3 ∧ rk = 3
      · rw [if_pos hc] at h
        cases h
        exact ⟨fun e => by omega, fun e => by omega⟩
      · rw [if_neg hc] at h
        cases h
    | _ =>
      have h : (none : Option (Option Value)) = some v := h
      cases h
  · cases a <;> (have h : (none : Option (Option Value)) = some v := h; cases h)
/-- what a step leaves of the frames -/
theorem bp_stpF {E : mm_E} {m pc : Nat} {lv : mm_V} {st : List Value} {cb sb : Nat} {gs : List mm_F} {h : mm_H} {o : Option Value} {X : mm_C} (hs : mm_stp E mt_kds mt_P 1000 ((m, pc, lv, st, cb, sb) :: gs, h, o) = some X) : (∃ (pc' : Nat) (lv' : mm_V) (st' : List Value) (cb' sb' : Nat) (h' : mm_H), X = ((m, pc', lv', st', cb', sb') :: gs, h', none)) ∨ (∃ (f : mm_F) (pc' : Nat) (lv' : mm_V) (st' : List Value) (cb' sb' : Nat) (h' : mm_H), f.1 ≠ 999 ∧ X = (f :: (m, pc', lv', st', cb', sb') :: gs, h', none)) ∨ (∃ (v : Option Value) (cs : List (List mm_I)) (nL np kd ci rk mc ms ik : Nat), X = mm_back v gs h ∧ mt_P[m]? = some (cs, nL, np, kd, ci, rk, mc, ms) ∧ mm_ans rk ik st = some v) := by
  simp only [mm_stp] at hs
  cases hat : mm_at mt_P m pc with
  | none =>
    rw [hat] at hs
    cases hs
  | some x =>
    obtain ⟨⟨q0, len, ins, a, b, z, wd⟩, nL, np, kd, ci, rk, mc, ms⟩ := x
    rw [hat] at hs
    simp only at hs
    cases hi : mm_inv ins with
    | some ik =>
      rw [hi] at hs
      simp only at hs
      by_cases ha : a < 2
      · rw [if_pos ha] at hs
        by_cases hg : gs.length + 1 < 1000
        · rw [if_pos hg] at hs
          cases hx : mm_sp E a ik lv st cb sb h (pc + len) with
          | none =>
            rw [hx] at hs
            cases hs
          | some y =>
            obtain ⟨pc', lv', st', cb', sb', h'⟩ := y
            rw [hx] at hs
            cases hs
            exact Or.inl ⟨_, _, _, _, _, _, rfl⟩
        · rw [if_neg hg] at hs
          cases hs
      · rw [if_neg ha] at hs
        unfold mm_call at hs
        cases hK : mt_P[a]? with
        | none =>
          rw [hK] at hs
          cases hs
        | some y =>
          obtain ⟨cs1, nL1, np1, kd1, ci1, rk1, mc1, ms1⟩ := y
          rw [hK] at hs
          simp only at hs
          by_cases hg : kd1 = ik ∧ gs.length + 1 < 1000 ∧ mc1 ≤ cb ∧ ms1 ≤ sb ∧ np1 ≤ st.length
          · rw [if_pos hg] at hs
            cases hr : mm_recv E h kd1 ci1 (st.drop np1) with
            | none =>
              rw [hr] at hs
              cases hs
            | some y =>
              obtain ⟨rv, r⟩ := y
              rw [hr] at hs
              simp only at hs
              by_cases hc : (r.map fun v => v.category).sum ≤ 8 ∧ (lg_sl (rv ++ (st.take np1).reverse)).length ≤ nL1
              · rw [if_pos hc] at hs
                cases hs
                refine Or.inr (Or.inl ⟨_, _, _, _, _, _, _, fun e => ?_, rfl⟩)
                have e : a = 999 := e
                rw [e, bp_none] at hK
                cases hK
              · rw [if_neg hc] at hs
                cases hs
          · rw [if_neg hg] at hs
            cases hs
    | none =>
      rw [hi] at hs
      simp only at hs
      cases hrt : mm_rtn ins with
      | some ik =>
        rw [hrt] at hs
        simp only at hs
        cases ha : mm_ans rk ik st with
        | none =>
          rw [ha] at hs
          cases hs
        | some v =>
          rw [ha] at hs
          cases hs
          unfold mm_at at hat
          cases hK : mt_P[m]? with
          | none =>
            rw [hK] at hat
            cases hat
          | some y =>
            obtain ⟨cs, nL2, d⟩ := y
            rw [hK] at hat
            simp only at hat
            cases hc : cs[pc / 16]? with
            | none =>
              rw [hc] at hat
              cases hat
            | some l =>
              rw [hc] at hat
              simp only at hat
              obtain ⟨q, -, hq⟩ := Option.map_eq_some_iff.mp hat
              have e2 : (nL2, d) = (nL, np, kd, ci, rk, mc, ms) := congrArg (fun x : mm_I × Nat × mm_M => x.2) hq
              cases e2
              exact Or.inr (Or.inr ⟨v, cs, nL, np, kd, ci, rk, mc, ms, ik, rfl, rfl, ha⟩)
      | none =>
        rw [hrt] at hs
        simp only at hs
        cases hx : mm_ex E mt_kds nL ins len a b z pc lv st cb sb h with
        | none =>
          rw [hx] at hs
          cases hs
        | some y =>
          obtain ⟨pc', lv', st', cb', sb', h'⟩ := y
          rw [hx] at hs
          cases hs
          exact Or.inl ⟨_, _, _, _, _, _, rfl⟩
/-- a call of which nothing is asked: it comes back, with an answer of its kind, or it does not -/
theorem bp_free {E : mm_E} {PO : mm_C → Prop} {g0 : mm_F} {t : List mm_F} {K : Nat} {cs : List (List mm_I)} {nL np kd ci rk mc ms : Nat} (hK : mt_P[K]? = some (cs, nL, np, kd, ci, rk, mc, ms)) : ∀ (NN : Nat), (∀ (vo : Option Value) (h' : mm_H), (rk = 0 → vo = none) → (rk = 1 ∨ rk = 2 → ∃ r : Int32, vo = some (.int r)) → bp_G E PO NN (mm_back vo (g0 :: t) h')) → ∀ (fs : List mm_F) (pc : Nat) (lv : mm_V) (st : List Value) (cb sb : Nat) (h : mm_H) (o : Option Value), (∀ f ∈ fs, f.1 ≠ 999) → bp_G E PO NN (fs ++ (K, pc, lv, st, cb, sb) :: g0 :: t, h, o) := by
  have hKn : K ≠ 999 := fun e => by
    rw [e, bp_none] at hK
    cases hK
  have hnm : ∀ (fs : List mm_F) (pc : Nat) (lv : mm_V) (st : List Value) (cb sb : Nat) (h : mm_H) (o : Option Value), (∀ f ∈ fs, f.1 ≠ 999) → ¬ bp_mk (fs ++ (K, pc, lv, st, cb, sb) :: g0 :: t, h, o) := by
    intro fs pc lv st cb sb h o hfs hm2
    obtain ⟨f, t2, e, hf⟩ := hm2
    cases fs with
    | nil =>
      have e : (K, pc, lv, st, cb, sb) :: g0 :: t = f :: t2 := e
      cases e
      exact hKn hf
    | cons f1 fs =>
      have e : f1 :: (fs ++ (K, pc, lv, st, cb, sb) :: g0 :: t) = f :: t2 := e
      cases e
      exact hfs _ List.mem_cons_self hf
  intro NN
  induction NN with
  | zero =>
    intro kk fs pc lv st cb sb h o hfs k hk c2 hr hm2
    have e : k = 0 := by omega
    subst e
    have hr : some ((fs ++ (K, pc, lv, st, cb, sb) :: g0 :: t, h, o) : mm_C) = some c2 := hr
    cases hr
    exact absurd hm2 (hnm fs pc lv st cb sb h o hfs)
  | succ NN ih =>
    intro kk fs pc lv st cb sb h o hfs
    have ih2 := ih (fun vo h' a b => bp_mono (Nat.le_succ NN) (kk vo h' a b))
    refine bp_anyD (hnm fs pc lv st cb sb h o hfs) (fun c' hs => ?_)
    cases fs with
    | nil =>
      rcases bp_stpF hs with ⟨pc', lv', st', cb', sb', h', rfl⟩ | ⟨f, pc', lv', st', cb', sb', h', hf, rfl⟩ | ⟨v, cs2, nL2, np2, kd2, ci2, rk2, mc2, ms2, ik, rfl, hK2, ha⟩
      · exact ih2 [] pc' lv' st' cb' sb' h' none (fun f hf => by cases hf)
      · exact ih2 [f] pc' lv' st' cb' sb' h' none (fun f2 hf2 => by
          cases List.mem_singleton.mp hf2
          exact hf)
      · rw [hK] at hK2
        cases hK2
        exact bp_mono (Nat.le_succ NN) (kk v h (bp_ans ha).1 (bp_ans ha).2)
    | cons f1 fs =>
      obtain ⟨m1, pc1, lv1, st1, cb1, sb1⟩ := f1
      have hfs2 : ∀ f ∈ fs, f.1 ≠ 999 := fun f hf => hfs f (List.mem_cons_of_mem _ hf)
      have hm1 : m1 ≠ 999 := hfs (m1, pc1, lv1, st1, cb1, sb1) List.mem_cons_self
      rcases bp_stpF (gs := fs ++ (K, pc, lv, st, cb, sb) :: g0 :: t) hs with ⟨pc', lv', st', cb', sb', h', rfl⟩ | ⟨f, pc', lv', st', cb', sb', h', hf, rfl⟩ | ⟨v, cs2, nL2, np2, kd2, ci2, rk2, mc2, ms2, ik, rfl, hK2, ha⟩
      · refine ih2 ((m1, pc', lv', st', cb', sb') :: fs) pc lv st cb sb h' none (fun f hf => ?_)
        rcases List.mem_cons.mp hf with rfl | hf
        · exact hm1
        · exact hfs2 f hf
      · refine ih2 (f :: (m1, pc', lv', st', cb', sb') :: fs) pc lv st cb sb h' none (fun f2 hf2 => ?_)
        rcases List.mem_cons.mp hf2 with rfl | hf2
        · exact hf
        rcases List.mem_cons.mp hf2 with rfl | hf2
        · exact hm1
        · exact hfs2 f2 hf2
      · cases fs with
        | nil => exact ih2 [] pc lv (v.toList ++ st) cb sb h none (fun f hf => by cases hf)
        | cons f2 fs =>
          obtain ⟨m2, pc2, lv2, st2, cb2, sb2⟩ := f2
          refine ih2 ((m2, pc2, lv2, v.toList ++ st2, cb2, sb2) :: fs) pc lv st cb sb h none (fun f hf => ?_)
          rcases List.mem_cons.mp hf with rfl | hf
          · exact hfs2 (m2, pc2, lv2, st2, cb2, sb2) List.mem_cons_self
          · exact hfs2 f (List.mem_cons_of_mem _ hf)
section BPS
variable {T : bm_T} {E : mm_E} {PO : mm_C → Prop} {NN : Nat} {h0 h : mm_H} {s : Nat → Int32} {A : Nat → Nat → Int32} {L : Nat → Nat → Int64} {m pc pc' pc0 len a b wd nL : Nat} {dd : mm_M} {z : Int} {ins : Instr} {lv lv' : mm_V} {st st' r : List Value} {gs : List mm_F} {o : Option Value}
/-- a simple step -/
theorem bp_s1 {h' : mm_H} (hat : mm_at mt_P m pc = some ((pc0, len, ins, a, b, z, wd), nL, dd)) (hi : mm_inv ins = none) (hr : mm_rtn ins = none) (hx : mm_ex E mt_kds nL ins len a b z pc lv st 0 0 h = some (pc', lv', st', 0, 0, h')) (g : bp_G E PO NN ((m, pc', lv', st', 0, 0) :: gs, h', none)) : bp_G E PO NN ((m, pc, lv, st, 0, 0) :: gs, h, o) := by
  obtain ⟨np, kd, ci, rk, mc, ms⟩ := dd
  exact bp_good_step (by simp only [mm_stp, hat, hi, hr, hx]) g
theorem bp_ld {kd i : Nat} {v : Value} (hat : mm_at mt_P m pc = some ((pc0, len, ins, a, b, z, wd), nL, dd)) (hi : mm_inv ins = none) (hr : mm_rtn ins = none) (hl : ∀ (lv : mm_V) (st : List Value) (h : mm_H), mm_ex E mt_kds nL ins len a b z pc lv st 0 0 h = mm_load lv st 0 0 h pc' kd i) (hv : mm_get lv i = some v) (hk : mm_kind v = kd) (g : bp_G E PO NN ((m, pc', lv, v :: st, 0, 0) :: gs, h, none)) : bp_G E PO NN ((m, pc, lv, st, 0, 0) :: gs, h, o) := by
  refine bp_s1 hat hi hr ?_ g
  rw [hl]
  unfold mm_load
  rw [hv]
  simp only []
  rw [if_pos hk]
theorem bp_st {kd i : Nat} {v : Value} (hat : mm_at mt_P m pc = some ((pc0, len, ins, a, b, z, wd), nL, dd)) (hi : mm_inv ins = none) (hr : mm_rtn ins = none) (hl : ∀ (lv : mm_V) (st : List Value) (h : mm_H), mm_ex E mt_kds nL ins len a b z pc lv st 0 0 h = mm_store nL lv st 0 0 h pc' kd i) (hk : mm_kind v = kd) (hkd : kd ≠ 1) (hil : i < nL) (g : ∀ lv' : mm_V, (∀ (j : Nat) (w : Value), mm_get lv j = some w → j ≠ i → (w.category = 1 ∨ j + 1 ≠ i) → mm_get lv' j = some w) → mm_get lv' i = some v → bp_G E PO NN ((m, pc', lv', r, 0, 0) :: gs, h, none)) : bp_G E PO NN ((m, pc, lv, v :: r, 0, 0) :: gs, h, o) := by
  refine bp_s1 hat hi hr (lv' := mm_p1 lv i v) (st' := r) (h' := h) ?_ (g _ (fun j w h1 h2 h3 => bh_p1 h1 h2 h3) bh_h0)
  rw [hl]
  unfold mm_store
  simp only []
  rw [if_pos hk, if_neg hkd, if_pos hil]
theorem bp_stL {i : Nat} {x : Int64} (hat : mm_at mt_P m pc = some ((pc0, len, ins, a, b, z, wd), nL, dd)) (hi : mm_inv ins = none) (hr : mm_rtn ins = none) (hl : ∀ (lv : mm_V) (st : List Value) (h : mm_H), mm_ex E mt_kds nL ins len a b z pc lv st 0 0 h = mm_store nL lv st 0 0 h pc' 1 i) (hil : i + 1 < nL) (g : ∀ lv' : mm_V, (∀ (j : Nat) (w : Value), mm_get lv j = some w → j ≠ i → j ≠ i + 1 → (w.category = 1 ∨ j + 1 ≠ i) → mm_get lv' j = some w) → mm_get lv' i = some (.long x) → bp_G E PO NN ((m, pc', lv', r, 0, 0) :: gs, h, none)) : bp_G E PO NN ((m, pc, lv, .long x :: r, 0, 0) :: gs, h, o) := by
  refine bp_s1 hat hi hr (lv' := mm_p2 lv i (.long x)) (st' := r) (h' := h) ?_ (g _ (fun j w h1 h2 h4 h3 => bh_p2 h1 h2 h4 h3) bh_h0)
  rw [hl]
  unfold mm_store
  simp only []
  rw [if_pos (show mm_kind (Value.long x) = 1 from rfl), if_pos trivial, if_pos hil]
theorem bp_inc {i : Nat} {n : Int} {x : Int32} (hat : mm_at mt_P m pc = some ((pc0, len, .iinc i n, a, b, z, wd), nL, dd)) (hp : pc + len = pc') (hil : i < nL) (hv : mm_get lv i = some (.int x)) (h1 : -2147483648 ≤ n ∧ n < 2147483648) (h2 : -2147483648 ≤ x.toInt + n) (h3 : x.toInt + n < 2147483648) (g : ∀ (lv' : mm_V) (y : Int32), (∀ (j : Nat) (w : Value), mm_get lv j = some w → j ≠ i → (w.category = 1 ∨ j + 1 ≠ i) → mm_get lv' j = some w) → mm_get lv' i = some (.int y) → y.toInt = x.toInt + n → bp_G E PO NN ((m, pc', lv', st, 0, 0) :: gs, h, none)) : bp_G E PO NN ((m, pc, lv, st, 0, 0) :: gs, h, o) := by
  refine bp_s1 hat rfl rfl (lv' := mm_p1 lv i (.int (x + Int32.ofInt n))) (st' := st) (h' := h) ?_ (g _ _ (fun j w h1 h2 h3 => bh_p1 h1 h2 h3) bh_h0 ?_)
  · simp only [mm_ex, hv, if_pos hil, hp]
  · have e1 : (Int32.ofInt n).toInt = n := Int32.toInt_ofInt_of_le (by omega) (by omega)
    rw [Int32.toInt_add, e1]
    exact Int.bmod_eq_of_le (by omega) (by omega)
theorem bp_c {c : Int32} {n : Int} (hat : mm_at mt_P m pc = some ((pc0, len, ins, a, b, z, wd), nL, dd)) (hi : mm_inv ins = none) (hr : mm_rtn ins = none) (hl : ∀ (lv : mm_V) (st : List Value) (h : mm_H), mm_ex E mt_kds nL ins len a b z pc lv st 0 0 h = some (pc', lv, .int c :: st, 0, 0, h)) (hc : c.toInt = n) (g : ∀ v : Int32, v.toInt = n → bp_G E PO NN ((m, pc', lv, .int v :: st, 0, 0) :: gs, h, none)) : bp_G E PO NN ((m, pc, lv, st, 0, 0) :: gs, h, o) :=
  bp_s1 hat hi hr (hl lv st h) (g c hc)
theorem bp_cL {x : Int64} (hat : mm_at mt_P m pc = some ((pc0, len, ins, a, b, z, wd), nL, dd)) (hi : mm_inv ins = none) (hr : mm_rtn ins = none) (hl : ∀ (lv : mm_V) (st : List Value) (h : mm_H), mm_ex E mt_kds nL ins len a b z pc lv st 0 0 h = some (pc', lv, .long x :: st, 0, 0, h)) (g : ∀ x : Int64, bp_G E PO NN ((m, pc', lv, .long x :: st, 0, 0) :: gs, h, none)) : bp_G E PO NN ((m, pc, lv, st, 0, 0) :: gs, h, o) :=
  bp_s1 hat hi hr (hl lv st h) (g x)
theorem bp_bin {x y v : Int32} {f : Int32 → Int32 → Option Int32} (hat : mm_at mt_P m pc = some ((pc0, len, ins, a, b, z, wd), nL, dd)) (hi : mm_inv ins = none) (hr : mm_rtn ins = none) (hl : ∀ (lv : mm_V) (st : List Value) (h : mm_H), mm_ex E mt_kds nL ins len a b z pc lv st 0 0 h = mm_bin lv st 0 0 h pc' f) (hf : f x y = some v) (g : bp_G E PO NN ((m, pc', lv, .int v :: st, 0, 0) :: gs, h, none)) : bp_G E PO NN ((m, pc, lv, .int y :: .int x :: st, 0, 0) :: gs, h, o) := by
  refine bp_s1 hat hi hr ?_ g
  rw [hl]
  simp only [mm_bin, hf, Option.map_some]
theorem bp_add {x y : Int32} (hat : mm_at mt_P m pc = some ((pc0, len, .iadd, a, b, z, wd), nL, dd)) (hp : pc + len = pc') (h1 : -2147483648 ≤ x.toInt + y.toInt) (h2 : x.toInt + y.toInt < 2147483648) (g : ∀ v : Int32, v.toInt = x.toInt + y.toInt → bp_G E PO NN ((m, pc', lv, .int v :: st, 0, 0) :: gs, h, none)) : bp_G E PO NN ((m, pc, lv, .int y :: .int x :: st, 0, 0) :: gs, h, o) := by
  subst hp
  refine bp_bin (v := x + y) hat rfl rfl (fun _ _ _ => rfl) rfl (g _ ?_)
  rw [Int32.toInt_add]
  exact Int.bmod_eq_of_le (by omega) (by omega)
theorem bp_sub {x y : Int32} (hat : mm_at mt_P m pc = some ((pc0, len, .isub, a, b, z, wd), nL, dd)) (hp : pc + len = pc') (h1 : -2147483648 ≤ x.toInt - y.toInt) (h2 : x.toInt - y.toInt < 2147483648) (g : ∀ v : Int32, v.toInt = x.toInt - y.toInt → bp_G E PO NN ((m, pc', lv, .int v :: st, 0, 0) :: gs, h, none)) : bp_G E PO NN ((m, pc, lv, .int y :: .int x :: st, 0, 0) :: gs, h, o) := by
  subst hp
  refine bp_bin (v := x - y) hat rfl rfl (fun _ _ _ => rfl) rfl (g _ ?_)
  rw [Int32.toInt_sub]
  exact Int.bmod_eq_of_le (by omega) (by omega)
theorem bp_mul {x y : Int32} (hat : mm_at mt_P m pc = some ((pc0, len, .imul, a, b, z, wd), nL, dd)) (hp : pc + len = pc') (h1 : -2147483648 ≤ x.toInt * y.toInt) (h2 : x.toInt * y.toInt < 2147483648) (g : ∀ v : Int32, v.toInt = x.toInt * y.toInt → bp_G E PO NN ((m, pc', lv, .int v :: st, 0, 0) :: gs, h, none)) : bp_G E PO NN ((m, pc, lv, .int y :: .int x :: st, 0, 0) :: gs, h, o) := by
  subst hp
  refine bp_bin (v := x * y) hat rfl rfl (fun _ _ _ => rfl) rfl (g _ ?_)
  rw [Int32.toInt_mul]
  exact Int.bmod_eq_of_le (by omega) (by omega)
theorem bp_addA {x y : Int32} (hat : mm_at mt_P m pc = some ((pc0, len, .iadd, a, b, z, wd), nL, dd)) (hp : pc + len = pc') (g : ∀ v : Int32, bp_G E PO NN ((m, pc', lv, .int v :: st, 0, 0) :: gs, h, none)) : bp_G E PO NN ((m, pc, lv, .int y :: .int x :: st, 0, 0) :: gs, h, o) := by
  subst hp
  exact bp_bin (v := x + y) hat rfl rfl (fun _ _ _ => rfl) rfl (g _)
theorem bp_subA {x y : Int32} (hat : mm_at mt_P m pc = some ((pc0, len, .isub, a, b, z, wd), nL, dd)) (hp : pc + len = pc') (g : ∀ v : Int32, bp_G E PO NN ((m, pc', lv, .int v :: st, 0, 0) :: gs, h, none)) : bp_G E PO NN ((m, pc, lv, .int y :: .int x :: st, 0, 0) :: gs, h, o) := by
  subst hp
  exact bp_bin (v := x - y) hat rfl rfl (fun _ _ _ => rfl) rfl (g _)
theorem bp_mulA {x y : Int32} (hat : mm_at mt_P m pc = some ((pc0, len, .imul, a, b, z, wd), nL, dd)) (hp : pc + len = pc') (g : ∀ v : Int32, bp_G E PO NN ((m, pc', lv, .int v :: st, 0, 0) :: gs, h, none)) : bp_G E PO NN ((m, pc, lv, .int y :: .int x :: st, 0, 0) :: gs, h, o) := by
  subst hp
  exact bp_bin (v := x * y) hat rfl rfl (fun _ _ _ => rfl) rfl (g _)
theorem bp_andA {x y : Int32} (hat : mm_at mt_P m pc = some ((pc0, len, .iand, a, b, z, wd), nL, dd)) (hp : pc + len = pc') (g : ∀ v : Int32, bp_G E PO NN ((m, pc', lv, .int v :: st, 0, 0) :: gs, h, none)) : bp_G E PO NN ((m, pc, lv, .int y :: .int x :: st, 0, 0) :: gs, h, o) := by
  subst hp
  exact bp_bin (v := x &&& y) hat rfl rfl (fun _ _ _ => rfl) rfl (g _)
theorem bp_divA {x y : Int32} (hat : mm_at mt_P m pc = some ((pc0, len, .idiv, a, b, z, wd), nL, dd)) (hp : pc + len = pc') (hy : y.toInt ≠ 0) (g : ∀ v : Int32, bp_G E PO NN ((m, pc', lv, .int v :: st, 0, 0) :: gs, h, none)) : bp_G E PO NN ((m, pc, lv, .int y :: .int x :: st, 0, 0) :: gs, h, o) := by
  subst hp
  refine bp_bin (v := x / y) (f := fun x y => if y = 0 then none else some (x / y)) hat rfl rfl (fun _ _ _ => rfl) ?_ (g _)
  exact if_neg (fun e => hy (by rw [e]; rfl))
theorem bp_go {off : Int} (hat : mm_at mt_P m pc = some ((pc0, len, .goto off, a, b, z, wd), nL, dd)) (hq : (pc : Int) + off = (pc' : Int)) (g : bp_G E PO NN ((m, pc', lv, st, 0, 0) :: gs, h, none)) : bp_G E PO NN ((m, pc, lv, st, 0, 0) :: gs, h, o) :=
  bp_s1 hat rfl rfl (bh_jmp hq) g
theorem bp_ic {k : Jvm.ClassFile.Cond} {off : Int} {x y : Int32} {pt : Nat} (hat : mm_at mt_P m pc = some ((pc0, len, .if_icmp k off, a, b, z, wd), nL, dd)) (hp : pc + len = pc') (hq : (pc : Int) + off = (pt : Int)) (g1 : bh_cd k x y → bp_G E PO NN ((m, pt, lv, st, 0, 0) :: gs, h, none)) (g2 : ¬ bh_cd k x y → bp_G E PO NN ((m, pc', lv, st, 0, 0) :: gs, h, none)) : bp_G E PO NN ((m, pc, lv, .int y :: .int x :: st, 0, 0) :: gs, h, o) := by
  subst hp
  by_cases hc : mm_cond k x y = true
  · refine bp_s1 hat rfl rfl ?_ (g1 (bh_cd_iff.mp hc))
    simp only [mm_ex]
    rw [if_pos hc]
    exact bh_jmp hq
  · refine bp_s1 hat rfl rfl ?_ (g2 (fun e => hc (bh_cd_iff.mpr e)))
    simp only [mm_ex]
    rw [if_neg hc]
theorem bp_i0 {k : Jvm.ClassFile.Cond} {off : Int} {x : Int32} {pt : Nat} (hat : mm_at mt_P m pc = some ((pc0, len, .ifCond k off, a, b, z, wd), nL, dd)) (hp : pc + len = pc') (hq : (pc : Int) + off = (pt : Int)) (g1 : bh_cd k x 0 → bp_G E PO NN ((m, pt, lv, st, 0, 0) :: gs, h, none)) (g2 : ¬ bh_cd k x 0 → bp_G E PO NN ((m, pc', lv, st, 0, 0) :: gs, h, none)) : bp_G E PO NN ((m, pc, lv, .int x :: st, 0, 0) :: gs, h, o) := by
  subst hp
  by_cases hc : mm_cond k x 0 = true
  · refine bp_s1 hat rfl rfl ?_ (g1 (bh_cd_iff.mp hc))
    simp only [mm_ex]
    rw [if_pos hc]
    exact bh_jmp hq
  · refine bp_s1 hat rfl rfl ?_ (g2 (fun e => hc (bh_cd_iff.mpr e)))
    simp only [mm_ex]
    rw [if_neg hc]
theorem bp_dup {v : Value} (hat : mm_at mt_P m pc = some ((pc0, len, .dup, a, b, z, wd), nL, dd)) (hp : pc + len = pc') (hv : v.category = 1) (g : bp_G E PO NN ((m, pc', lv, v :: v :: st, 0, 0) :: gs, h, none)) : bp_G E PO NN ((m, pc, lv, v :: st, 0, 0) :: gs, h, o) := by
  subst hp
  refine bp_s1 hat rfl rfl ?_ g
  simp only [mm_ex]
  rw [if_pos hv]
theorem bp_pop {v : Value} (hat : mm_at mt_P m pc = some ((pc0, len, .pop, a, b, z, wd), nL, dd)) (hp : pc + len = pc') (hv : v.category = 1) (g : bp_G E PO NN ((m, pc', lv, st, 0, 0) :: gs, h, none)) : bp_G E PO NN ((m, pc, lv, v :: st, 0, 0) :: gs, h, o) := by
  subst hp
  refine bp_s1 hat rfl rfl ?_ g
  simp only [mm_ex]
  rw [if_pos hv]
theorem bp_lb {x y : Int64} {f : Int64 → Int64 → Value} (hat : mm_at mt_P m pc = some ((pc0, len, ins, a, b, z, wd), nL, dd)) (hi : mm_inv ins = none) (hr : mm_rtn ins = none) (hl : ∀ (lv : mm_V) (st : List Value) (h : mm_H), mm_ex E mt_kds nL ins len a b z pc lv st 0 0 h = mm_binL lv st 0 0 h pc' f) (g : bp_G E PO NN ((m, pc', lv, f x y :: st, 0, 0) :: gs, h, none)) : bp_G E PO NN ((m, pc, lv, .long y :: .long x :: st, 0, 0) :: gs, h, o) := by
  refine bp_s1 hat hi hr ?_ g
  rw [hl]
  rfl
theorem bp_ladd {x y : Int64} (hat : mm_at mt_P m pc = some ((pc0, len, .ladd, a, b, z, wd), nL, dd)) (hp : pc + len = pc') (g : ∀ x : Int64, bp_G E PO NN ((m, pc', lv, .long x :: st, 0, 0) :: gs, h, none)) : bp_G E PO NN ((m, pc, lv, .long y :: .long x :: st, 0, 0) :: gs, h, o) := by
  subst hp
  exact bp_lb (f := fun x y => .long (x + y)) hat rfl rfl (fun _ _ _ => rfl) (g _)
theorem bp_lmul {x y : Int64} (hat : mm_at mt_P m pc = some ((pc0, len, .lmul, a, b, z, wd), nL, dd)) (hp : pc + len = pc') (g : ∀ x : Int64, bp_G E PO NN ((m, pc', lv, .long x :: st, 0, 0) :: gs, h, none)) : bp_G E PO NN ((m, pc, lv, .long y :: .long x :: st, 0, 0) :: gs, h, o) := by
  subst hp
  exact bp_lb (f := fun x y => .long (x * y)) hat rfl rfl (fun _ _ _ => rfl) (g _)
theorem bp_lcmp {x y : Int64} (hat : mm_at mt_P m pc = some ((pc0, len, .lcmp, a, b, z, wd), nL, dd)) (hp : pc + len = pc') (g : ∀ x : Int32, bp_G E PO NN ((m, pc', lv, .int x :: st, 0, 0) :: gs, h, none)) : bp_G E PO NN ((m, pc, lv, .long y :: .long x :: st, 0, 0) :: gs, h, o) := by
  subst hp
  exact bp_lb (f := fun x y => .int (lg_cmp x y)) hat rfl rfl (fun _ _ _ => rfl) (g _)
theorem bp_i2l {x : Int32} (hat : mm_at mt_P m pc = some ((pc0, len, .i2l, a, b, z, wd), nL, dd)) (hp : pc + len = pc') (g : ∀ x : Int64, bp_G E PO NN ((m, pc', lv, .long x :: st, 0, 0) :: gs, h, none)) : bp_G E PO NN ((m, pc, lv, .int x :: st, 0, 0) :: gs, h, o) := by
  subst hp
  exact bp_s1 hat rfl rfl rfl (g _)
theorem bp_cs {args : List Value} {x np nLk rk : Nat} {cs : List (List mm_I)} {K : Nat} {ci : Nat} (hat : mm_at mt_P m pc = some ((pc0, len, .invokestatic x, K, b, z, wd), nL, dd)) (hp : pc + len = pc') (hK : mt_P[K]? = some (cs, nLk, np, 0, ci, rk, 0, 0)) (hK2 : ¬ K < 2) (hg : gs.length + 1 < 1000) (hn : args.length = np) (hc : (st.map fun v => v.category).sum ≤ 8) (hs : (lg_sl args.reverse).length ≤ nLk) (g : bp_G E PO NN ((K, 0, lv_args 0 args.reverse, [], 0, 0) :: (m, pc', lv, st, 0, 0) :: gs, h, none)) : bp_G E PO NN ((m, pc, lv, args ++ st, 0, 0) :: gs, h, o) := by
  subst hp
  subst hn
  obtain ⟨np, kd, ci2, rk2, mc, ms⟩ := dd
  refine bp_good_step (c' := ((K, 0, lv_args 0 args.reverse, [], 0, 0) :: (m, pc + len, lv, st, 0, 0) :: gs, h, none)) ?_ g
  have e1 : (args ++ st).drop args.length = st := List.drop_left
  have e2 : (args ++ st).take args.length = args := List.take_left
  have e3 : args.length ≤ (args ++ st).length := by
    rw [List.length_append]
    exact Nat.le_add_right _ _
  simp only [mm_stp, hat, mm_inv, if_neg hK2, mm_call, hK]
  rw [if_pos ⟨trivial, hg, Nat.le_refl _, Nat.le_refl _, e3⟩, e1, e2]
  simp only [mm_recv, if_true]
  rw [if_pos ⟨hc, hs⟩]
  rfl
theorem bp_rv {np kd ci mc ms : Nat} (hat : mm_at mt_P m pc = some ((pc0, len, .return_, a, b, z, wd), nL, (np, kd, ci, 0, mc, ms))) (g : bp_G E PO NN (mm_back none gs h)) : bp_G E PO NN ((m, pc, lv, [], 0, 0) :: gs, h, o) :=
  bp_good_step (by simp only [mm_stp, hat, mm_inv, mm_rtn, mm_ans]; rfl) g
theorem bp_ri {np kd ci mc ms : Nat} {v : Int32} (hat : mm_at mt_P m pc = some ((pc0, len, .ireturn, a, b, z, wd), nL, (np, kd, ci, 1, mc, ms))) (g : bp_G E PO NN (mm_back (some (.int v)) gs h)) : bp_G E PO NN ((m, pc, lv, [.int v], 0, 0) :: gs, h, o) := by
  refine bp_good_step ?_ g
  have e : mm_ans 1 1 [.int v] = some (some (.int v)) := by
    unfold mm_ans
    simp
  simp only [mm_stp, hat, mm_inv, mm_rtn, e]
theorem bp_rb {np kd ci mc ms : Nat} {v : Int32} (hat : mm_at mt_P m pc = some ((pc0, len, .ireturn, a, b, z, wd), nL, (np, kd, ci, 2, mc, ms))) (hv : v.toInt = 0 ∨ v.toInt = 1) (g : bp_G E PO NN (mm_back (some (.int v)) gs h)) : bp_G E PO NN ((m, pc, lv, [.int v], 0, 0) :: gs, h, o) := by
  refine bp_good_step ?_ g
  have hv2 : v = 0 ∨ v = 1 := by
    rcases hv with hv | hv
    · exact Or.inl (Int32.toInt_inj.mp hv)
    · exact Or.inr (Int32.toInt_inj.mp hv)
  have e : mm_ans 2 1 [.int v] = some (some (.int v)) := by
    unfold mm_ans
    simp [hv2]
  simp only [mm_stp, hat, mm_inv, mm_rtn, e]
theorem bp_rl {np kd ci mc ms : Nat} {v : Int64} (hat : mm_at mt_P m pc = some ((pc0, len, .lreturn, a, b, z, wd), nL, (np, kd, ci, 3, mc, ms))) (g : bp_G E PO NN (mm_back (some (.long v)) gs h)) : bp_G E PO NN ((m, pc, lv, [.long v], 0, 0) :: gs, h, o) := by
  refine bp_good_step ?_ g
  have e : mm_ans 3 3 [.long v] = some (some (.long v)) := rfl
  simp only [mm_stp, hat, mm_inv, mm_rtn, e]
theorem bp_sw {x : Int32} {d lo hi : Int} {offs : Array Int} {off : Int} (hat : mm_at mt_P m pc = some ((pc0, len, .tableswitch d lo hi offs, a, b, z, wd), nL, dd)) (hx : (if x.toInt < lo ∨ hi < x.toInt then some d else offs[(x.toInt - lo).toNat]?) = some off) (hq : (pc : Int) + off = (pc' : Int)) (g : bp_G E PO NN ((m, pc', lv, st, 0, 0) :: gs, h, none)) : bp_G E PO NN ((m, pc, lv, .int x :: st, 0, 0) :: gs, h, o) := by
  refine bp_s1 hat rfl rfl ?_ g
  simp only [mm_ex, mm_sw]
  by_cases hc : x.toInt < lo ∨ hi < x.toInt
  · rw [if_pos hc] at hx
    rw [if_pos hc, Option.some.inj hx]
    exact bh_jmp hq
  · rw [if_neg hc] at hx
    rw [if_neg hc, hx]
    exact bh_jmp hq
theorem bn_gi {c ci k K : Nat} {v : Int32} (hat : mm_at mt_P m pc = some ((pc0, len, ins, a, b, z, wd), nL, dd)) (hi : mm_inv ins = none) (hr : mm_rtn ins = none) (hl : ∀ (lv : mm_V) (st : List Value) (h : mm_H), mm_ex E mt_kds nL ins len a b z pc lv st 0 0 h = mm_getf E lv st 0 0 h pc' ci k) (hP : bm_P T E h0 h s A L) (hc : (c, ci) ∈ T.1) (hk : (c, k) ∈ T.2.2.1) (hK : 100 * c + k = K) (hv : s K = v) (g : bp_G E PO NN ((m, pc', lv, .int v :: st, 0, 0) :: gs, h, none)) : bp_G E PO NN ((m, pc, lv, .ref (E.1 + c) :: st, 0, 0) :: gs, h, o) := by
  subst hK
  refine bp_s1 hat hi hr ?_ g
  obtain ⟨fs0, fs, a1, a2, a3, a4, a5, a6, a7⟩ := hP.2.2.1 (c, ci) hc
  simp only at a2 a6
  rw [hl]
  simp only [mm_getf, bh_cell, a2, if_true, a6 k hk, hv]
theorem bn_gl {c ci k : Nat} (hat : mm_at mt_P m pc = some ((pc0, len, ins, a, b, z, wd), nL, dd)) (hi : mm_inv ins = none) (hr : mm_rtn ins = none) (hl : ∀ (lv : mm_V) (st : List Value) (h : mm_H), mm_ex E mt_kds nL ins len a b z pc lv st 0 0 h = mm_getf E lv st 0 0 h pc' ci k) (hP : bm_P T E h0 h s A L) (hc : (c, ci) ∈ T.1) (hk : (c, k) ∈ T.2.2.2.1) (g : bp_G E PO NN ((m, pc', lv, .long (L c k) :: st, 0, 0) :: gs, h, none)) : bp_G E PO NN ((m, pc, lv, .ref (E.1 + c) :: st, 0, 0) :: gs, h, o) := by
  refine bp_s1 hat hi hr ?_ g
  obtain ⟨fs0, fs, a1, a2, a3, a4, a5, a6, a7⟩ := hP.2.2.1 (c, ci) hc
  simp only at a2 a7
  rw [hl]
  simp only [mm_getf, bh_cell, a2, if_true, a7 k hk]
theorem bn_gr {c ci k t : Nat} (hat : mm_at mt_P m pc = some ((pc0, len, ins, a, b, z, wd), nL, dd)) (hi : mm_inv ins = none) (hr : mm_rtn ins = none) (hl : ∀ (lv : mm_V) (st : List Value) (h : mm_H), mm_ex E mt_kds nL ins len a b z pc lv st 0 0 h = mm_getf E lv st 0 0 h pc' ci k) (hP : bm_P T E h0 h s A L) (hc : (c, ci) ∈ T.1) (hk : (c, k, t) ∈ T.2.1) (g : bp_G E PO NN ((m, pc', lv, .ref (E.1 + t) :: st, 0, 0) :: gs, h, none)) : bp_G E PO NN ((m, pc, lv, .ref (E.1 + c) :: st, 0, 0) :: gs, h, o) := by
  refine bp_s1 hat hi hr ?_ g
  obtain ⟨fs0, fs, a1, a2, a3, a4, a5, a6, a7⟩ := hP.2.2.1 (c, ci) hc
  simp only at a2 a5
  rw [hl]
  simp only [mm_getf, bh_cell, a2, if_true, a5 k t hk]
theorem bn_pf {c ci k kd K : Nat} {v : Int32} (hat : mm_at mt_P m pc = some ((pc0, len, ins, a, b, z, wd), nL, dd)) (hi : mm_inv ins = none) (hr : mm_rtn ins = none) (hl : ∀ (lv : mm_V) (st : List Value) (h : mm_H), mm_ex E mt_kds nL ins len a b z pc lv st 0 0 h = mm_putf E lv st 0 0 h pc' ci k kd) (hP : bm_P T E h0 h s A L) (hc : (c, ci) ∈ T.1) (hk : (c, k) ∈ T.2.2.1) (hK : 100 * c + k = K) (hf : mm_fits kd (.int v) = true) (g : ∀ (h' : mm_H) (s' : Nat → Int32), bm_P T E h0 h' s' A L → s' K = v → (∀ j, j ≠ K → s' j = s j) → bp_G E PO NN ((m, pc', lv, st, 0, 0) :: gs, h', none)) : bp_G E PO NN ((m, pc, lv, .int v :: .ref (E.1 + c) :: st, 0, 0) :: gs, h, o) := by
  subst hK
  obtain ⟨fs, a2, hkl, hP2⟩ := bm_setf hP hc hk v
  refine bp_s1 hat hi hr (lv' := lv) (st' := st) (h' := h.set c (.inr (ci, fs.set k (.int v)))) ?_ (g _ (upd s (100 * c + k) v) hP2 (if_pos rfl) (fun j hj => if_neg hj))
  rw [hl]
  simp only [mm_putf, bh_cell, a2, true_and, if_pos (And.intro hkl hf), Nat.add_sub_cancel_left]
theorem bn_pl {c ci k : Nat} {v : Int64} (hat : mm_at mt_P m pc = some ((pc0, len, ins, a, b, z, wd), nL, dd)) (hi : mm_inv ins = none) (hr : mm_rtn ins = none) (hl : ∀ (lv : mm_V) (st : List Value) (h : mm_H), mm_ex E mt_kds nL ins len a b z pc lv st 0 0 h = mm_putf E lv st 0 0 h pc' ci k 1) (hP : bm_P T E h0 h s A L) (hc : (c, ci) ∈ T.1) (hk : (c, k) ∈ T.2.2.2.1) (g : ∀ h' : mm_H, bm_P T E h0 h' s A (bh_upL L c k v) → bp_G E PO NN ((m, pc', lv, st, 0, 0) :: gs, h', none)) : bp_G E PO NN ((m, pc, lv, .long v :: .ref (E.1 + c) :: st, 0, 0) :: gs, h, o) := by
  obtain ⟨fs, a2, hkl, hP2⟩ := bm_setfl hP hc hk v
  refine bp_s1 hat hi hr (lv' := lv) (st' := st) (h' := h.set c (.inr (ci, fs.set k (.long v)))) ?_ (g _ hP2)
  rw [hl]
  simp only [mm_putf, bh_cell, a2, true_and, if_pos (And.intro hkl (show mm_fits 1 (.long v) = true from rfl)), Nat.add_sub_cancel_left]
theorem bn_ia {kd kd2 c t n : Nat} {I : Int32} (hat : mm_at mt_P m pc = some ((pc0, len, ins, a, b, z, wd), nL, dd)) (hi : mm_inv ins = none) (hr : mm_rtn ins = none) (hl : ∀ (lv : mm_V) (st : List Value) (h : mm_H), mm_ex E mt_kds nL ins len a b z pc lv st 0 0 h = mm_ald E lv st 0 0 h pc' kd kd2) (hP : bm_P T E h0 h s A L) (hq : (c, t, n) ∈ T.2.2.2.2.1) (ht : t = kd ∨ t = kd2) (h1 : 0 ≤ I.toInt) (h2 : I.toInt < n) (g : bp_G E PO NN ((m, pc', lv, .int (A c I.toInt.toNat) :: st, 0, 0) :: gs, h, none)) : bp_G E PO NN ((m, pc, lv, .int I :: .ref (E.1 + c) :: st, 0, 0) :: gs, h, o) := by
  refine bp_s1 hat hi hr ?_ g
  have e := hP.2.2.2.1 (c, t, n) hq
  simp only at e
  rw [hl]
  simp only [mm_ald, bh_cell, e]
  rw [if_pos ⟨ht, bh_inr h1 h2⟩]
  rfl
theorem bn_ias {kd kd2 c t n : Nat} {I v : Int32} (hat : mm_at mt_P m pc = some ((pc0, len, ins, a, b, z, wd), nL, dd)) (hi : mm_inv ins = none) (hr : mm_rtn ins = none) (hl : ∀ (lv : mm_V) (st : List Value) (h : mm_H), mm_ex E mt_kds nL ins len a b z pc lv st 0 0 h = mm_ast E lv st 0 0 h pc' kd kd2) (hP : bm_P T E h0 h s A L) (hq : (c, t, n) ∈ T.2.2.2.2.1) (ht : t = kd ∨ t = kd2) (h1 : 0 ≤ I.toInt) (h2 : I.toInt < n) (g : ∀ h' : mm_H, bm_P T E h0 h' s (bh_up A c I.toInt.toNat (mm_nar t v)) L → bp_G E PO NN ((m, pc', lv, st, 0, 0) :: gs, h', none)) : bp_G E PO NN ((m, pc, lv, .int v :: .int I :: .ref (E.1 + c) :: st, 0, 0) :: gs, h, o) := by
  refine bp_s1 hat hi hr (lv' := lv) (st' := st) (h' := h.set c (.inl (t, n, .inl (upd (A c) I.toInt.toNat (mm_nar t v))))) ?_ (g _ (bm_seta hP (q := (c, t, n)) hq I.toInt.toNat (mm_nar t v)))
  have e := hP.2.2.2.1 (c, t, n) hq
  simp only at e
  rw [hl]
  simp only [mm_ast, bh_cell, e]
  rw [if_pos ⟨ht, bh_inr h1 h2⟩, Nat.add_sub_cancel_left]
  rfl
theorem bn_la {c n : Nat} {I : Int32} (hat : mm_at mt_P m pc = some ((pc0, len, ins, a, b, z, wd), nL, dd)) (hi : mm_inv ins = none) (hr : mm_rtn ins = none) (hl : ∀ (lv : mm_V) (st : List Value) (h : mm_H), mm_ex E mt_kds nL ins len a b z pc lv st 0 0 h = mm_lald E lv st 0 0 h pc') (hP : bm_P T E h0 h s A L) (hq : (c, n) ∈ T.2.2.2.2.2) (h1 : 0 ≤ I.toInt) (h2 : I.toInt < n) (g : bp_G E PO NN ((m, pc', lv, .long (L c I.toInt.toNat) :: st, 0, 0) :: gs, h, none)) : bp_G E PO NN ((m, pc, lv, .int I :: .ref (E.1 + c) :: st, 0, 0) :: gs, h, o) := by
  refine bp_s1 hat hi hr ?_ g
  have e := hP.2.2.2.2.1 (c, n) hq
  simp only at e
  rw [hl]
  simp only [mm_lald, bh_cell, e]
  rw [if_pos ⟨trivial, bh_inr h1 h2⟩]
  rfl
theorem bn_las {c n : Nat} {I : Int32} {x : Int64} (hat : mm_at mt_P m pc = some ((pc0, len, ins, a, b, z, wd), nL, dd)) (hi : mm_inv ins = none) (hr : mm_rtn ins = none) (hl : ∀ (lv : mm_V) (st : List Value) (h : mm_H), mm_ex E mt_kds nL ins len a b z pc lv st 0 0 h = mm_last E lv st 0 0 h pc') (hP : bm_P T E h0 h s A L) (hq : (c, n) ∈ T.2.2.2.2.2) (h1 : 0 ≤ I.toInt) (h2 : I.toInt < n) (g : ∀ h' : mm_H, bm_P T E h0 h' s A (bh_upL L c I.toInt.toNat x) → bp_G E PO NN ((m, pc', lv, st, 0, 0) :: gs, h', none)) : bp_G E PO NN ((m, pc, lv, .long x :: .int I :: .ref (E.1 + c) :: st, 0, 0) :: gs, h, o) := by
  refine bp_s1 hat hi hr (lv' := lv) (st' := st) (h' := h.set c (.inl (3, n, .inr (.inl (vp_updL (L c) I.toInt.toNat x))))) ?_ (g _ (bm_setl hP (q := (c, n)) hq I.toInt.toNat x))
  have e := hP.2.2.2.2.1 (c, n) hq
  simp only at e
  rw [hl]
  simp only [mm_last, bh_cell, e]
  rw [if_pos ⟨trivial, bh_inr h1 h2⟩, Nat.add_sub_cancel_left]
  rfl
theorem bn_cv {args : List Value} {np nLk rk c ci : Nat} {cs : List (List mm_I)} {K : Nat} (hat : mm_at mt_P m pc = some ((pc0, len, ins, K, b, z, wd), nL, dd)) (hi : mm_inv ins = some 1) (hp : pc + len = pc') (hK : mt_P[K]? = some (cs, nLk, np, 1, ci, rk, 0, 0)) (hK2 : ¬ K < 2) (hP : bm_P T E h0 h s A L) (hq : (c, ci) ∈ T.1) (hci : ci ≠ 90) (hg : gs.length + 1 < 1000) (hn : args.length = np) (hc : (st.map fun v => v.category).sum ≤ 8) (hs : (lg_sl (.ref (E.1 + c) :: args.reverse)).length ≤ nLk) (g : bp_G E PO NN ((K, 0, lv_args 0 (.ref (E.1 + c) :: args.reverse), [], 0, 0) :: (m, pc', lv, st, 0, 0) :: gs, h, none)) : bp_G E PO NN ((m, pc, lv, args ++ .ref (E.1 + c) :: st, 0, 0) :: gs, h, o) := by
  subst hp
  subst hn
  obtain ⟨fs0, fs, a1, a2, a3⟩ := hP.2.2.1 (c, ci) hq
  simp only at a2
  obtain ⟨np, kd, ci2, rk2, mc, ms⟩ := dd
  refine bp_good_step (c' := ((K, 0, lv_args 0 (.ref (E.1 + c) :: args.reverse), [], 0, 0) :: (m, pc + len, lv, st, 0, 0) :: gs, h, none)) ?_ g
  have e1 : (args ++ .ref (E.1 + c) :: st).drop args.length = .ref (E.1 + c) :: st := List.drop_left
  have e2 : (args ++ .ref (E.1 + c) :: st).take args.length = args := List.take_left
  have e3 : args.length ≤ (args ++ Value.ref (E.1 + c) :: st).length := by
    rw [List.length_append]
    exact Nat.le_add_right _ _
  simp only [mm_stp, hat, hi, if_neg hK2, mm_call, hK]
  rw [if_pos ⟨trivial, hg, Nat.zero_le _, Nat.zero_le _, e3⟩, e1, e2]
  have hr : mm_recv E h 1 ci (.ref (E.1 + c) :: st) = some ([.ref (E.1 + c)], st) := by
    have e0 : mm_cell E h (E.1 + c) = some (.inr (ci, fs)) := by rw [bh_cell, a2]
    generalize E.1 + c = r9 at e0
    simp [mm_recv, e0, hci]
  rw [hr]
  simp only []
  rw [if_pos ⟨hc, hs⟩]
  rfl
theorem bn_lcmp {x y : Int64} (hat : mm_at mt_P m pc = some ((pc0, len, .lcmp, a, b, z, wd), nL, dd)) (hp : pc + len = pc') (g : ∀ v : Int32, ((v.toInt = 1 ∧ y.toInt < x.toInt) ∨ (v.toInt = 0 ∧ x.toInt = y.toInt) ∨ (v.toInt = -1 ∧ x.toInt < y.toInt)) → bp_G E PO NN ((m, pc', lv, .int v :: st, 0, 0) :: gs, h, none)) : bp_G E PO NN ((m, pc, lv, .long y :: .long x :: st, 0, 0) :: gs, h, o) := by
  subst hp
  refine bp_lb (f := fun x y => .int (lg_cmp x y)) hat rfl rfl (fun _ _ _ => rfl) (g _ ?_)
  unfold lg_cmp
  simp only [gt_iff_lt, Int64.lt_iff_toInt_lt, ← Int64.toInt_inj]
  by_cases h1 : y.toInt < x.toInt
  · rw [if_pos h1]
    exact Or.inl ⟨by decide, h1⟩
  · rw [if_neg h1]
    by_cases h2 : x.toInt = y.toInt
    · rw [if_pos h2]
      exact Or.inr (Or.inl ⟨by decide, h2⟩)
    · rw [if_neg h2]
      exact Or.inr (Or.inr ⟨by decide, by omega⟩)
theorem bn_ladd {x y : Int64} (hat : mm_at mt_P m pc = some ((pc0, len, .ladd, a, b, z, wd), nL, dd)) (hp : pc + len = pc') (g : ∀ v : Int64, v = x + y → bp_G E PO NN ((m, pc', lv, .long v :: st, 0, 0) :: gs, h, none)) : bp_G E PO NN ((m, pc, lv, .long y :: .long x :: st, 0, 0) :: gs, h, o) := by
  subst hp
  exact bp_lb (f := fun x y => .long (x + y)) hat rfl rfl (fun _ _ _ => rfl) (g _ rfl)
theorem bn_lmul {x y : Int64} (hat : mm_at mt_P m pc = some ((pc0, len, .lmul, a, b, z, wd), nL, dd)) (hp : pc + len = pc') (g : ∀ v : Int64, v = x * y → bp_G E PO NN ((m, pc', lv, .long v :: st, 0, 0) :: gs, h, none)) : bp_G E PO NN ((m, pc, lv, .long y :: .long x :: st, 0, 0) :: gs, h, o) := by
  subst hp
  exact bp_lb (f := fun x y => .long (x * y)) hat rfl rfl (fun _ _ _ => rfl) (g _ rfl)
theorem bn_i2l {x : Int32} (hat : mm_at mt_P m pc = some ((pc0, len, .i2l, a, b, z, wd), nL, dd)) (hp : pc + len = pc') (g : ∀ v : Int64, v.toInt = x.toInt → bp_G E PO NN ((m, pc', lv, .long v :: st, 0, 0) :: gs, h, none)) : bp_G E PO NN ((m, pc, lv, .int x :: st, 0, 0) :: gs, h, o) := by
  subst hp
  exact bp_s1 hat rfl rfl rfl (g _ (Int32.toInt_toInt64 x))
theorem bn_l2i {x : Int64} (hat : mm_at mt_P m pc = some ((pc0, len, .l2i, a, b, z, wd), nL, dd)) (hp : pc + len = pc') (g : ∀ v : Int32, (-2147483648 ≤ x.toInt → x.toInt < 2147483648 → v.toInt = x.toInt) → bp_G E PO NN ((m, pc', lv, .int v :: st, 0, 0) :: gs, h, none)) : bp_G E PO NN ((m, pc, lv, .long x :: st, 0, 0) :: gs, h, o) := by
  subst hp
  refine bp_s1 hat rfl rfl rfl (g x.toInt32 (fun h1 h2 => ?_))
  rw [Int64.toInt_toInt32]
  exact Int.bmod_eq_of_le (by omega) (by omega)
theorem bn_cL {x : Int64} {n : Int} (hat : mm_at mt_P m pc = some ((pc0, len, ins, a, b, z, wd), nL, dd)) (hi : mm_inv ins = none) (hr : mm_rtn ins = none) (hl : ∀ (lv : mm_V) (st : List Value) (h : mm_H), mm_ex E mt_kds nL ins len a b z pc lv st 0 0 h = some (pc', lv, .long x :: st, 0, 0, h)) (hc : x.toInt = n) (g : ∀ v : Int64, v.toInt = n → bp_G E PO NN ((m, pc', lv, .long v :: st, 0, 0) :: gs, h, none)) : bp_G E PO NN ((m, pc, lv, st, 0, 0) :: gs, h, o) :=
  bp_s1 hat hi hr (hl lv st h) (g x hc)
theorem bn_orA {x y : Int32} (hat : mm_at mt_P m pc = some ((pc0, len, .ior, a, b, z, wd), nL, dd)) (hp : pc + len = pc') (g : ∀ v : Int32, bp_G E PO NN ((m, pc', lv, .int v :: st, 0, 0) :: gs, h, none)) : bp_G E PO NN ((m, pc, lv, .int y :: .int x :: st, 0, 0) :: gs, h, o) := by
  subst hp
  exact bp_bin (v := x ||| y) hat rfl rfl (fun _ _ _ => rfl) rfl (g _)
theorem bn_shlA {x y : Int32} (hat : mm_at mt_P m pc = some ((pc0, len, .ishl, a, b, z, wd), nL, dd)) (hp : pc + len = pc') (g : ∀ v : Int32, bp_G E PO NN ((m, pc', lv, .int v :: st, 0, 0) :: gs, h, none)) : bp_G E PO NN ((m, pc, lv, .int y :: .int x :: st, 0, 0) :: gs, h, o) := by
  subst hp
  exact bp_bin (v := x <<< (y &&& 31)) hat rfl rfl (fun _ _ _ => rfl) rfl (g _)
theorem bn_i2c {x : Int32} (hat : mm_at mt_P m pc = some ((pc0, len, .i2c, a, b, z, wd), nL, dd)) (hp : pc + len = pc') (h1 : 0 ≤ x.toInt) (h2 : x.toInt < 65536) (g : bp_G E PO NN ((m, pc', lv, .int x :: st, 0, 0) :: gs, h, none)) : bp_G E PO NN ((m, pc, lv, .int x :: st, 0, 0) :: gs, h, o) := by
  subst hp
  have e : (x.toUInt32 % 65536).toInt32 = x := by
    have e1 : x.toUInt32.toNat < 65536 := by
      have e3 : x.toInt = (x.toUInt32.toNat : Int) := by
        have e4 : x.toUInt32.toNat = x.toBitVec.toNat := rfl
        have e5 : x.toInt = x.toBitVec.toInt := rfl
        rw [e5] at h1 h2 ⊢
        rw [e4]
        rw [BitVec.toInt_eq_toNat_cond] at h1 h2 ⊢
        have e6 := x.toBitVec.isLt
        split at h1 <;> split <;> omega
      omega
    have e2 : x.toUInt32 % 65536 = x.toUInt32 := UInt32.toNat_inj.mp (by rw [UInt32.toNat_mod]; exact Nat.mod_eq_of_lt e1)
    rw [e2]
    rfl
  exact bp_s1 hat rfl rfl (h' := h) (lv' := lv) (st' := .int x :: st) (by simp only [mm_ex, mm_un, e]) g
theorem bn_al {c t n : Nat} (hat : mm_at mt_P m pc = some ((pc0, len, .arraylength, a, b, z, wd), nL, dd)) (hp : pc + len = pc') (hP : bm_P T E h0 h s A L) (hq : (c, t, n) ∈ T.2.2.2.2.1) (ht : t < 5) (hn : n ≤ 3072) (g : ∀ v : Int32, v.toInt = (n : Int) → bp_G E PO NN ((m, pc', lv, .int v :: st, 0, 0) :: gs, h, none)) : bp_G E PO NN ((m, pc, lv, .ref (E.1 + c) :: st, 0, 0) :: gs, h, o) := by
  subst hp
  refine bp_s1 hat rfl rfl ?_ (g (Int32.ofNat n) (Int32.toInt_ofNat_of_lt (by omega)))
  have e := hP.2.2.2.1 (c, t, n) hq
  simp only at e
  simp only [mm_ex, mm_alen, bh_cell, e, if_pos ht]
theorem bn_gs {x : Nat} {q : mm_S} (hat : mm_at mt_P m pc = some ((pc0, len, .getstatic x, a, b, z, wd), nL, dd)) (hp : pc + len = pc') (h8 : a ≠ 8) (h9 : a ≠ 9) (hq : E.2[a]? = some q) (g : bp_G E PO NN ((m, pc', lv, .ref q.1 :: st, 0, 0) :: gs, h, none)) : bp_G E PO NN ((m, pc, lv, st, 0, 0) :: gs, h, o) := by
  subst hp
  exact bp_s1 hat rfl rfl (h' := h) (lv' := lv) (st' := .ref q.1 :: st) (by simp only [mm_ex, if_neg h9, if_neg h8, hq]) g
theorem bn_sia {q q' : mm_S} {I : Int32} (hat : mm_at mt_P m pc = some ((pc0, len, .iaload, a, b, z, wd), nL, dd)) (hp : pc + len = pc') (hq : q.1 < E.1) (hs : mm_stat E q.1 = some q') (h1 : 0 ≤ I.toInt) (h2 : I.toInt < (q'.2.1 : Int)) (g : ∀ v : Int32, bp_G E PO NN ((m, pc', lv, .int v :: st, 0, 0) :: gs, h, none)) : bp_G E PO NN ((m, pc, lv, .int I :: .ref q.1 :: st, 0, 0) :: gs, h, o) := by
  subst hp
  obtain ⟨q0, n, f⟩ := q'
  refine bp_s1 hat rfl rfl ?_ (g (f I.toNatClampNeg))
  have ec : mm_cell E h q.1 = none := if_neg (Nat.not_le.mpr hq)
  simp only [mm_ex, mm_ald, ec, if_true, hs]
  rw [if_pos (bh_inr h1 h2)]
theorem bn_addx {x y : Int32} (hat : mm_at mt_P m pc = some ((pc0, len, .iadd, a, b, z, wd), nL, dd)) (hp : pc + len = pc') (g : ∀ v : Int32, (-2147483648 ≤ x.toInt + y.toInt → x.toInt + y.toInt < 2147483648 → v.toInt = x.toInt + y.toInt) → bp_G E PO NN ((m, pc', lv, .int v :: st, 0, 0) :: gs, h, none)) : bp_G E PO NN ((m, pc, lv, .int y :: .int x :: st, 0, 0) :: gs, h, o) := by
  subst hp
  refine bp_bin (v := x + y) hat rfl rfl (fun _ _ _ => rfl) rfl (g _ (fun h1 h2 => ?_))
  rw [Int32.toInt_add]
  exact Int.bmod_eq_of_le (by omega) (by omega)
theorem bn_subx {x y : Int32} (hat : mm_at mt_P m pc = some ((pc0, len, .isub, a, b, z, wd), nL, dd)) (hp : pc + len = pc') (g : ∀ v : Int32, (-2147483648 ≤ x.toInt - y.toInt → x.toInt - y.toInt < 2147483648 → v.toInt = x.toInt - y.toInt) → bp_G E PO NN ((m, pc', lv, .int v :: st, 0, 0) :: gs, h, none)) : bp_G E PO NN ((m, pc, lv, .int y :: .int x :: st, 0, 0) :: gs, h, o) := by
  subst hp
  refine bp_bin (v := x - y) hat rfl rfl (fun _ _ _ => rfl) rfl (g _ (fun h1 h2 => ?_))
  rw [Int32.toInt_sub]
  exact Int.bmod_eq_of_le (by omega) (by omega)
theorem bn_mulx {x y : Int32} (hat : mm_at mt_P m pc = some ((pc0, len, .imul, a, b, z, wd), nL, dd)) (hp : pc + len = pc') (g : ∀ v : Int32, (-2147483648 ≤ x.toInt * y.toInt → x.toInt * y.toInt < 2147483648 → v.toInt = x.toInt * y.toInt) → bp_G E PO NN ((m, pc', lv, .int v :: st, 0, 0) :: gs, h, none)) : bp_G E PO NN ((m, pc, lv, .int y :: .int x :: st, 0, 0) :: gs, h, o) := by
  subst hp
  refine bp_bin (v := x * y) hat rfl rfl (fun _ _ _ => rfl) rfl (g _ (fun h1 h2 => ?_))
  rw [Int32.toInt_mul]
  exact Int.bmod_eq_of_le (by omega) (by omega)
theorem bp_s1D {h' : mm_H} (hat : mm_at mt_P m pc = some ((pc0, len, ins, a, b, z, wd), nL, dd)) (hi : mm_inv ins = none) (hr : mm_rtn ins = none) (hx : mm_ex E mt_kds nL ins len a b z pc lv st 0 0 h = some (pc', lv', st', 0, 0, h')) (g : bp_G E PO NN ((m, pc', lv', st', 0, 0) :: gs, h', none)) : bp_G E PO (NN + 1) ((m, pc, lv, st, 0, 0) :: gs, h, o) := by
  obtain ⟨np, kd, ci, rk, mc, ms⟩ := dd
  exact bp_good_stepD (by simp only [mm_stp, hat, hi, hr, hx]) g
theorem bp_goD {off : Int} (hat : mm_at mt_P m pc = some ((pc0, len, .goto off, a, b, z, wd), nL, dd)) (hq : (pc : Int) + off = (pc' : Int)) (g : bp_G E PO NN ((m, pc', lv, st, 0, 0) :: gs, h, none)) : bp_G E PO (NN + 1) ((m, pc, lv, st, 0, 0) :: gs, h, o) :=
  bp_s1D hat rfl rfl (bh_jmp hq) g
theorem bp_s0 (hat : mm_at mt_P m pc = some ((pc0, len, ins, a, b, z, wd), nL, dd)) (hi : mm_inv ins = none) (hr : mm_rtn ins = none) (hx : mm_ex E mt_kds nL ins len a b z pc lv st 0 0 h = none) : bp_G E PO NN ((m, pc, lv, st, 0, 0) :: gs, h, o) := by
  refine bp_any (bp_nm2 hat) (fun c' hs => ?_)
  obtain ⟨np, kd, ci, rk, mc, ms⟩ := dd
  have e : mm_stp E mt_kds mt_P 1000 ((m, pc, lv, st, 0, 0) :: gs, h, o) = none := by simp only [mm_stp, hat, hi, hr, hx]
  rw [e] at hs
  cases hs
theorem bp_inrF {i : Int32} {n : Nat} (hb : ¬ (0 ≤ i.toInt ∧ i.toInt < (n : Int))) : ¬ mm_inr i n = true := by
  unfold mm_inr
  simp only [Bool.and_eq_true, decide_eq_true_eq]
  exact hb
theorem bn_iaF {kd kd2 c t n : Nat} {I : Int32} (hat : mm_at mt_P m pc = some ((pc0, len, ins, a, b, z, wd), nL, dd)) (hi : mm_inv ins = none) (hr : mm_rtn ins = none) (hl : ∀ (lv : mm_V) (st : List Value) (h : mm_H), mm_ex E mt_kds nL ins len a b z pc lv st 0 0 h = mm_ald E lv st 0 0 h pc' kd kd2) (hP : bm_P T E h0 h s A L) (hq : (c, t, n) ∈ T.2.2.2.2.1) (ht : t = kd ∨ t = kd2) (g : 0 ≤ I.toInt → I.toInt < n → bp_G E PO NN ((m, pc', lv, .int (A c I.toInt.toNat) :: st, 0, 0) :: gs, h, none)) : bp_G E PO NN ((m, pc, lv, .int I :: .ref (E.1 + c) :: st, 0, 0) :: gs, h, o) := by
  by_cases hb : 0 ≤ I.toInt ∧ I.toInt < (n : Int)
  · exact bn_ia hat hi hr hl hP hq ht hb.1 hb.2 (g hb.1 hb.2)
  · refine bp_s0 hat hi hr ?_
    have e := hP.2.2.2.1 (c, t, n) hq
    simp only at e
    rw [hl]
    simp only [mm_ald, bh_cell, e]
    rw [if_neg (fun q => bp_inrF hb q.2)]
theorem bn_iasF {kd kd2 c t n : Nat} {I v : Int32} (hat : mm_at mt_P m pc = some ((pc0, len, ins, a, b, z, wd), nL, dd)) (hi : mm_inv ins = none) (hr : mm_rtn ins = none) (hl : ∀ (lv : mm_V) (st : List Value) (h : mm_H), mm_ex E mt_kds nL ins len a b z pc lv st 0 0 h = mm_ast E lv st 0 0 h pc' kd kd2) (hP : bm_P T E h0 h s A L) (hq : (c, t, n) ∈ T.2.2.2.2.1) (ht : t = kd ∨ t = kd2) (g : 0 ≤ I.toInt → I.toInt < n → ∀ h' : mm_H, bm_P T E h0 h' s (bh_up A c I.toInt.toNat (mm_nar t v)) L → bp_G E PO NN ((m, pc', lv, st, 0, 0) :: gs, h', none)) : bp_G E PO NN ((m, pc, lv, .int v :: .int I :: .ref (E.1 + c) :: st, 0, 0) :: gs, h, o) := by
  by_cases hb : 0 ≤ I.toInt ∧ I.toInt < (n : Int)
  · exact bn_ias hat hi hr hl hP hq ht hb.1 hb.2 (g hb.1 hb.2)
  · refine bp_s0 hat hi hr ?_
    have e := hP.2.2.2.1 (c, t, n) hq
    simp only at e
    rw [hl]
    simp only [mm_ast, bh_cell, e]
    rw [if_neg (fun q => bp_inrF hb q.2)]
theorem bn_laF {c n : Nat} {I : Int32} (hat : mm_at mt_P m pc = some ((pc0, len, ins, a, b, z, wd), nL, dd)) (hi : mm_inv ins = none) (hr : mm_rtn ins = none) (hl : ∀ (lv : mm_V) (st : List Value) (h : mm_H), mm_ex E mt_kds nL ins len a b z pc lv st 0 0 h = mm_lald E lv st 0 0 h pc') (hP : bm_P T E h0 h s A L) (hq : (c, n) ∈ T.2.2.2.2.2) (g : 0 ≤ I.toInt → I.toInt < n → bp_G E PO NN ((m, pc', lv, .long (L c I.toInt.toNat) :: st, 0, 0) :: gs, h, none)) : bp_G E PO NN ((m, pc, lv, .int I :: .ref (E.1 + c) :: st, 0, 0) :: gs, h, o) := by
  by_cases hb : 0 ≤ I.toInt ∧ I.toInt < (n : Int)
  · exact bn_la hat hi hr hl hP hq hb.1 hb.2 (g hb.1 hb.2)
  · refine bp_s0 hat hi hr ?_
    have e := hP.2.2.2.2.1 (c, n) hq
    simp only at e
    rw [hl]
    simp only [mm_lald, bh_cell, e]
    rw [if_neg (fun q => bp_inrF hb q.2)]
theorem bn_lasF {c n : Nat} {I : Int32} {x : Int64} (hat : mm_at mt_P m pc = some ((pc0, len, ins, a, b, z, wd), nL, dd)) (hi : mm_inv ins = none) (hr : mm_rtn ins = none) (hl : ∀ (lv : mm_V) (st : List Value) (h : mm_H), mm_ex E mt_kds nL ins len a b z pc lv st 0 0 h = mm_last E lv st 0 0 h pc') (hP : bm_P T E h0 h s A L) (hq : (c, n) ∈ T.2.2.2.2.2) (g : 0 ≤ I.toInt → I.toInt < n → ∀ h' : mm_H, bm_P T E h0 h' s A (bh_upL L c I.toInt.toNat x) → bp_G E PO NN ((m, pc', lv, st, 0, 0) :: gs, h', none)) : bp_G E PO NN ((m, pc, lv, .long x :: .int I :: .ref (E.1 + c) :: st, 0, 0) :: gs, h, o) := by
  by_cases hb : 0 ≤ I.toInt ∧ I.toInt < (n : Int)
  · exact bn_las hat hi hr hl hP hq hb.1 hb.2 (g hb.1 hb.2)
  · refine bp_s0 hat hi hr ?_
    have e := hP.2.2.2.2.1 (c, n) hq
    simp only at e
    rw [hl]
    simp only [mm_last, bh_cell, e]
    rw [if_neg (fun q => bp_inrF hb q.2)]
theorem bn_cvF {args : List Value} {np nLk rk c ci : Nat} {cs : List (List mm_I)} {K : Nat} (hat : mm_at mt_P m pc = some ((pc0, len, ins, K, b, z, wd), nL, dd)) (hi : mm_inv ins = some 1) (hp : pc + len = pc') (hK : mt_P[K]? = some (cs, nLk, np, 1, ci, rk, 0, 0)) (hK2 : ¬ K < 2) (hP : bm_P T E h0 h s A L) (hq : (c, ci) ∈ T.1) (hci : ci ≠ 90) (hn : args.length = np) (hc : (st.map fun v => v.category).sum ≤ 8) (hs : (lg_sl (.ref (E.1 + c) :: args.reverse)).length ≤ nLk) (g : bp_G E PO NN ((K, 0, lv_args 0 (.ref (E.1 + c) :: args.reverse), [], 0, 0) :: (m, pc', lv, st, 0, 0) :: gs, h, none)) : bp_G E PO NN ((m, pc, lv, args ++ .ref (E.1 + c) :: st, 0, 0) :: gs, h, o) := by
  by_cases hg : gs.length + 1 < 1000
  · exact bn_cv hat hi hp hK hK2 hP hq hci hg hn hc hs g
  · refine bp_any (bp_nm2 hat) (fun c' hs2 => ?_)
    obtain ⟨np, kd, ci2, rk2, mc, ms⟩ := dd
    have e : mm_stp E mt_kds mt_P 1000 ((m, pc, lv, args ++ .ref (E.1 + c) :: st, 0, 0) :: gs, h, o) = none := by
      simp only [mm_stp, hat, hi, if_neg hK2, mm_call, hK]
      rw [if_neg (fun q => hg q.2.1)]
    rw [e] at hs2
    cases hs2
theorem bp_csF {args : List Value} {x np nLk rk : Nat} {cs : List (List mm_I)} {K : Nat} {ci : Nat} (hat : mm_at mt_P m pc = some ((pc0, len, .invokestatic x, K, b, z, wd), nL, dd)) (hp : pc + len = pc') (hK : mt_P[K]? = some (cs, nLk, np, 0, ci, rk, 0, 0)) (hK2 : ¬ K < 2) (hn : args.length = np) (hc : (st.map fun v => v.category).sum ≤ 8) (hs : (lg_sl args.reverse).length ≤ nLk) (g : bp_G E PO NN ((K, 0, lv_args 0 args.reverse, [], 0, 0) :: (m, pc', lv, st, 0, 0) :: gs, h, none)) : bp_G E PO NN ((m, pc, lv, args ++ st, 0, 0) :: gs, h, o) := by
  by_cases hg : gs.length + 1 < 1000
  · exact bp_cs hat hp hK hK2 hg hn hc hs g
  · refine bp_any (bp_nm2 hat) (fun c' hs2 => ?_)
    obtain ⟨np, kd, ci2, rk2, mc, ms⟩ := dd
    have e : mm_stp E mt_kds mt_P 1000 ((m, pc, lv, args ++ st, 0, 0) :: gs, h, o) = none := by
      simp only [mm_stp, hat, mm_inv, if_neg hK2, mm_call, hK]
      rw [if_neg (fun q => hg q.2.1)]
    rw [e] at hs2
    cases hs2
theorem bp_rbF {np kd ci mc ms : Nat} {v : Int32} (hat : mm_at mt_P m pc = some ((pc0, len, .ireturn, a, b, z, wd), nL, (np, kd, ci, 2, mc, ms))) (g : (v.toInt = 0 ∨ v.toInt = 1) → bp_G E PO NN (mm_back (some (.int v)) gs h)) : bp_G E PO NN ((m, pc, lv, [.int v], 0, 0) :: gs, h, o) := by
  by_cases hv : v.toInt = 0 ∨ v.toInt = 1
  · exact bp_rb hat hv (g hv)
  · refine bp_any (bp_nm2 hat) (fun c' hs2 => ?_)
    have hv2 : ¬ (v = 0 ∨ v = 1) := fun hv2 => hv (by
      rcases hv2 with rfl | rfl
      · exact Or.inl rfl
      · exact Or.inr rfl)
    have e2 : mm_ans 2 1 [.int v] = none := by
      unfold mm_ans
      simp [hv2]
    have e : mm_stp E mt_kds mt_P 1000 ((m, pc, lv, [.int v], 0, 0) :: gs, h, o) = none := by simp only [mm_stp, hat, mm_inv, mm_rtn, e2]
    rw [e] at hs2
    cases hs2
theorem bp_free0 {g0 : mm_F} {t : List mm_F} {K : Nat} {cs : List (List mm_I)} {nLk np kd ci rk mc ms cb sb : Nat} (hK : mt_P[K]? = some (cs, nLk, np, kd, ci, rk, mc, ms)) (kk : ∀ (vo : Option Value) (h' : mm_H), (rk = 0 → vo = none) → (rk = 1 ∨ rk = 2 → ∃ r : Int32, vo = some (.int r)) → bp_G E PO NN (mm_back vo (g0 :: t) h')) : bp_G E PO NN ((K, pc, lv, st, cb, sb) :: g0 :: t, h, o) := bp_free hK NN kk [] pc lv st cb sb h o (fun f hf => by cases hf)
theorem bp_dup2 {v w : Value} (hat : mm_at mt_P m pc = some ((pc0, len, .dup2, a, b, z, wd), nL, dd)) (hp : pc + len = pc') (hv : v.category = 1) (hw : w.category = 1) (g : bp_G E PO NN ((m, pc', lv, v :: w :: v :: w :: st, 0, 0) :: gs, h, none)) : bp_G E PO NN ((m, pc, lv, v :: w :: st, 0, 0) :: gs, h, o) := by
  subst hp
  refine bp_s1 hat rfl rfl ?_ g
  simp only [mm_ex]
  rw [if_pos ⟨hv, hw⟩]
theorem bp_i2b {x : Int32} (hat : mm_at mt_P m pc = some ((pc0, len, .i2b, a, b, z, wd), nL, dd)) (hp : pc + len = pc') (g : bp_G E PO NN ((m, pc', lv, .int x.toInt8.toInt32 :: st, 0, 0) :: gs, h, none)) : bp_G E PO NN ((m, pc, lv, .int x :: st, 0, 0) :: gs, h, o) := by
  subst hp
  exact bp_s1 hat rfl rfl rfl g
theorem bn_incx {i : Nat} {n : Int} {x : Int32} (hat : mm_at mt_P m pc = some ((pc0, len, .iinc i n, a, b, z, wd), nL, dd)) (hp : pc + len = pc') (hil : i < nL) (hv : mm_get lv i = some (.int x)) (h1 : -2147483648 ≤ n ∧ n < 2147483648) (g : ∀ (lv' : mm_V) (y : Int32), (∀ (j : Nat) (w : Value), mm_get lv j = some w → j ≠ i → (w.category = 1 ∨ j + 1 ≠ i) → mm_get lv' j = some w) → mm_get lv' i = some (.int y) → (-2147483648 ≤ x.toInt + n → x.toInt + n < 2147483648 → y.toInt = x.toInt + n) → bp_G E PO NN ((m, pc', lv', st, 0, 0) :: gs, h, none)) : bp_G E PO NN ((m, pc, lv, st, 0, 0) :: gs, h, o) := by
  refine bp_s1 hat rfl rfl (lv' := mm_p1 lv i (.int (x + Int32.ofInt n))) (st' := st) (h' := h) ?_ (g _ _ (fun j w h1 h2 h3 => bh_p1 h1 h2 h3) bh_h0 (fun h2 h3 => ?_))
  · simp only [mm_ex, hv, if_pos hil, hp]
  · have e1 : (Int32.ofInt n).toInt = n := Int32.toInt_ofInt_of_le (by omega) (by omega)
    rw [Int32.toInt_add, e1]
    exact Int.bmod_eq_of_le (by omega) (by omega)
theorem bp_ishrA {x y : Int32} (hat : mm_at mt_P m pc = some ((pc0, len, .ishr, a, b, z, wd), nL, dd)) (hp : pc + len = pc') (g : ∀ v : Int32, bp_G E PO NN ((m, pc', lv, .int v :: st, 0, 0) :: gs, h, none)) : bp_G E PO NN ((m, pc, lv, .int y :: .int x :: st, 0, 0) :: gs, h, o) := by
  subst hp
  exact bp_bin (v := x >>> (y &&& 31)) hat rfl rfl (fun _ _ _ => rfl) rfl (g _)

end BPS
