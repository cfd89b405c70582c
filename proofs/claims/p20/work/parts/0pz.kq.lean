/-! ROWS KEEP THEIR KINDS AND THEIR LENGTHS, whatever runs -/
abbrev kq_X : Type := (Nat → Int32) ⊕ (Nat → Int64) ⊕ (Nat → UInt32) ⊕ (Nat → UInt64) ⊕ (Nat → Option Nat)
def kq_A (h h' : mm_H) : Prop := ∀ (c t n : Nat) (x : kq_X), h[c]? = some (.inl (t, n, x)) → ∃ x' : kq_X, h'[c]? = some (.inl (t, n, x')) ∧ ∀ f, x = .inl f → ∃ f', x' = .inl f'
section KQ
variable {h h1 h2 h' : mm_H}
theorem kq_r : kq_A h h := fun _ _ _ x e => ⟨x, e, fun f q => ⟨f, q⟩⟩
theorem kq_t (a : kq_A h h1) (b : kq_A h1 h2) : kq_A h h2 := fun c t n x e => by
  obtain ⟨x1, e1, g1⟩ := a c t n x e
  obtain ⟨x2, e2, g2⟩ := b c t n x1 e1
  exact ⟨x2, e2, fun f q => by
    obtain ⟨f1, q1⟩ := g1 f q
    exact g2 f1 q1⟩
theorem kq_e (e : h' = h) : kq_A h h' := by
  rw [e]
  exact kq_r
theorem kq_set {i t n : Nat} {x y : kq_X} (e : h[i]? = some (.inl (t, n, x))) (g : ∀ f, x = .inl f → ∃ f', y = .inl f') : kq_A h (h.set i (.inl (t, n, y))) := by
  intro c t2 n2 x2 ec
  by_cases q : i = c
  · subst q
    rw [e] at ec
    cases ec
    exact ⟨y, List.getElem?_set_self (List.getElem?_eq_some_iff.mp e).1, g⟩
  · exact ⟨x2, by rw [List.getElem?_set_ne q]; exact ec, fun f q2 => ⟨f, q2⟩⟩
theorem kq_seto {i c0 : Nat} {fs fs' : List Value} (e : h[i]? = some (.inr (c0, fs))) : kq_A h (h.set i (.inr (c0, fs'))) := by
  intro c t2 n2 x2 ec
  by_cases q : i = c
  · subst q
    rw [e] at ec
    cases ec
  · exact ⟨x2, by rw [List.getElem?_set_ne q]; exact ec, fun f q2 => ⟨f, q2⟩⟩
theorem kq_app {l : mm_H} : kq_A h (h ++ l) := by
  intro c t n x e
  exact ⟨x, by rw [List.getElem?_append_left (List.getElem?_eq_some_iff.mp e).1]; exact e, fun f q => ⟨f, q⟩⟩
variable {E : mm_E} {lv lv' : mm_V} {st st' : List Value} {cb sb cb' sb' pc pc' q : Nat}
theorem kq_ast {kd kd2 : Nat} (hx : mm_ast E lv st cb sb h pc kd kd2 = some (pc', lv', st', cb', sb', h')) : kq_A h h' := by
  unfold mm_ast at hx
  split at hx
  · split at hx
    · next e =>
      split at hx
      · cases hx
        exact kq_set (kp_celli e) (fun f _ => ⟨_, rfl⟩)
      · cases hx
    · cases hx
  · cases hx
theorem kq_last (hx : mm_last E lv st cb sb h pc = some (pc', lv', st', cb', sb', h')) : kq_A h h' := by
  unfold mm_last at hx
  split at hx
  · split at hx
    · next e =>
      split at hx
      · cases hx
        exact kq_set (kp_celli e) (fun f q => by cases q)
      · cases hx
    · cases hx
  · cases hx
theorem kq_copy (hx : mm_copy E lv st cb sb h pc = some (pc', lv', st', cb', sb', h')) : kq_A h h' := by
  unfold mm_copy at hx
  split at hx
  · split at hx
    · next e0 e1 =>
      split at hx
      · cases hx
        exact kq_set (kp_celli e1) (fun f _ => ⟨_, rfl⟩)
      · cases hx
    · cases hx
  · cases hx
theorem kq_putf {ci k kd : Nat} (hx : mm_putf E lv st cb sb h pc ci k kd = some (pc', lv', st', cb', sb', h')) : kq_A h h' := by
  unfold mm_putf at hx
  split at hx
  · split at hx
    · next e =>
      split at hx
      · cases hx
        exact kq_seto (kp_celli e)
      · cases hx
    · cases hx
  · cases hx
theorem kq_new {ci : Nat} {kds : List Nat} (hx : mm_new E lv st cb sb h pc ci kds = some (pc', lv', st', cb', sb', h')) : kq_A h h' := by
  unfold mm_new at hx
  split at hx
  · cases hx
    exact kq_app
  · cases hx
theorem kq_newa {t : ArrayType} (hx : mm_newa E lv st cb sb h pc t = some (pc', lv', st', cb', sb', h')) : kq_A h h' := by
  unfold mm_newa at hx
  split at hx
  · split at hx
    · split at hx <;> first | (cases hx; exact kq_app) | cases hx
    · cases hx
  · cases hx
theorem kq_newm (hx : mm_newm E lv st cb sb h pc = some (pc', lv', st', cb', sb', h')) : kq_A h h' := by
  unfold mm_newm at hx
  split at hx
  · split at hx
    · cases hx
      exact kq_app
    · cases hx
  · cases hx
theorem kq_sp {a ik : Nat} (hx : mm_sp E a ik lv st cb sb h pc = some (pc', lv', st', cb', sb', h')) : kq_A h h' := by
  unfold mm_sp at hx
  split at hx
  · split at hx
    · split at hx
      · cases hx
        exact kq_r
      · cases hx
    · cases hx
  · split at hx
    · exact kq_copy hx
    · cases hx
end KQ
theorem kq_ex {E : mm_E} {kds : List (List Nat)} {nL len a b pc pc' cb sb cb' sb' : Nat} {z : Int} {ins : Instr} {lv lv' : mm_V} {st st' : List Value} {h h' : mm_H} (hx : mm_ex E kds nL ins len a b z pc lv st cb sb h = some (pc', lv', st', cb', sb', h')) : kq_A h h' := by
  cases ins
  case iconst => cases hx; exact kq_r
  case bipush => cases hx; exact kq_r
  case sipush => cases hx; exact kq_r
  case lconst => cases hx; exact kq_r
  case ldc =>
    simp only [mm_ex] at hx
    (repeat' split at hx) <;> first | (cases hx; exact kq_r) | cases hx
  case ldc_w => cases hx; exact kq_r
  case ldc2_w => cases hx; exact kq_r
  case iload_n => exact kq_e (kp_load hx)
  case iload => exact kq_e (kp_load hx)
  case lload_n => exact kq_e (kp_load hx)
  case lload => exact kq_e (kp_load hx)
  case aload_n => exact kq_e (kp_load hx)
  case aload => exact kq_e (kp_load hx)
  case istore_n => exact kq_e (kp_store hx)
  case istore => exact kq_e (kp_store hx)
  case lstore_n => exact kq_e (kp_store hx)
  case lstore => exact kq_e (kp_store hx)
  case astore_n => exact kq_e (kp_store hx)
  case astore => exact kq_e (kp_store hx)
  case iinc =>
    simp only [mm_ex] at hx
    (repeat' split at hx) <;> first | (cases hx; exact kq_r) | cases hx
  case iadd => exact kq_e (kp_bin hx)
  case isub => exact kq_e (kp_bin hx)
  case imul => exact kq_e (kp_bin hx)
  case idiv => exact kq_e (kp_bin hx)
  case irem => exact kq_e (kp_bin hx)
  case iand => exact kq_e (kp_bin hx)
  case ior => exact kq_e (kp_bin hx)
  case ixor => exact kq_e (kp_bin hx)
  case ishl => exact kq_e (kp_bin hx)
  case ishr => exact kq_e (kp_bin hx)
  case iushr => exact kq_e (kp_bin hx)
  case ineg => exact kq_e (kp_un hx)
  case i2l => exact kq_e (kp_un hx)
  case i2b => exact kq_e (kp_un hx)
  case i2c => exact kq_e (kp_un hx)
  case l2i =>
    simp only [mm_ex] at hx
    (repeat' split at hx) <;> first | (cases hx; exact kq_r) | cases hx
  case ladd => exact kq_e (kp_binL hx)
  case lmul => exact kq_e (kp_binL hx)
  case lcmp => exact kq_e (kp_binL hx)
  case dup =>
    simp only [mm_ex] at hx
    (repeat' split at hx) <;> first | (cases hx; exact kq_r) | cases hx
  case pop =>
    simp only [mm_ex] at hx
    (repeat' split at hx) <;> first | (cases hx; exact kq_r) | cases hx
  case dup2 =>
    simp only [mm_ex] at hx
    (repeat' split at hx) <;> first | (cases hx; exact kq_r) | cases hx
  case if_icmp =>
    simp only [mm_ex] at hx
    split at hx
    · split at hx
      · exact kq_e (kp_jump hx)
      · cases hx; exact kq_r
    · cases hx
  case ifCond =>
    simp only [mm_ex] at hx
    split at hx
    · split at hx
      · exact kq_e (kp_jump hx)
      · cases hx; exact kq_r
    · cases hx
  case goto => exact kq_e (kp_jump hx)
  case tableswitch => exact kq_e (kp_sw hx)
  case getstatic =>
    simp only [mm_ex] at hx
    (repeat' split at hx) <;> first | (cases hx; exact kq_r) | cases hx
  case iaload => exact kq_e (kp_ald hx)
  case baload => exact kq_e (kp_ald hx)
  case iastore => exact kq_ast hx
  case bastore => exact kq_ast hx
  case laload => exact kq_e (kp_lald hx)
  case lastore => exact kq_last hx
  case aaload => exact kq_e (kp_aald hx)
  case arraylength => exact kq_e (kp_alen hx)
  case getfield =>
    simp only [mm_ex] at hx
    split at hx
    · exact kq_e (kp_gets hx)
    · exact kq_e (kp_getf hx)
  case putfield =>
    simp only [mm_ex] at hx
    split at hx
    · split at hx
      · exact kq_putf hx
      · cases hx
    · cases hx
  case new =>
    simp only [mm_ex] at hx
    split at hx
    · exact kq_new hx
    · cases hx
  case newarray => exact kq_newa hx
  case multianewarray _ k =>
    rcases k with _ | _ | _ | k
    · have hx : (none : mm_O) = some (pc', lv', st', cb', sb', h') := hx
      cases hx
    · have hx : (none : mm_O) = some (pc', lv', st', cb', sb', h') := hx
      cases hx
    · exact kq_newm hx
    · have hx : (none : mm_O) = some (pc', lv', st', cb', sb', h') := hx
      cases hx
  all_goals (have hx : (none : mm_O) = some (pc', lv', st', cb', sb', h') := hx; cases hx)
theorem kq_bk {v : Option Value} {gs : List mm_F} {h : mm_H} : (mm_back v gs h).2.1 = h := by
  cases gs with
  | nil => rfl
  | cons g gs =>
    obtain ⟨a1, a2, a3, a4, a5, a6⟩ := g
    rfl
theorem kq_stp0 {E : mm_E} {m pc : Nat} {lv : mm_V} {st : List Value} {cb sb : Nat} {gs : List mm_F} {h : mm_H} {o : Option Value} {X : mm_C} (hs : mm_stp E mt_kds mt_P 1000 ((m, pc, lv, st, cb, sb) :: gs, h, o) = some X) : kq_A h X.2.1 := by
  simp only [mm_stp] at hs
  cases hat : mm_at mt_P m pc with
  | none =>
    rw [hat] at hs
    cases hs
  | some x =>
    obtain ⟨⟨q0, len, ins, a, b, z, wd⟩, nL, np, kd, ci, rk, mc, ms⟩ := x
    rw [hat] at hs
    simp only at hs
    cases hv : mm_inv ins with
    | some ik =>
      rw [hv] at hs
      simp only at hs
      split at hs
      · split at hs
        · split at hs
          · next e =>
            cases hs
            exact kq_sp e
          · cases hs
        · cases hs
      · unfold mm_call at hs
        (repeat' split at hs) <;> first | (cases hs; done) | skip
        all_goals (
          cases hs
          exact kq_r)
    | none =>
      rw [hv] at hs
      simp only at hs
      cases hr : mm_rtn ins with
      | some ik =>
        rw [hr] at hs
        simp only at hs
        split at hs
        · cases hs
          exact kq_e kq_bk
        · cases hs
      | none =>
        rw [hr] at hs
        simp only at hs
        split at hs
        · next e =>
          cases hs
          exact kq_ex e
        · cases hs
theorem kq_stp {E : mm_E} {m pc : Nat} {lv : mm_V} {st : List Value} {cb sb : Nat} {gs : List mm_F} {h h' : mm_H} {o o' : Option Value} {f : mm_F} {gs' : List mm_F} (hs : mm_stp E mt_kds mt_P 1000 ((m, pc, lv, st, cb, sb) :: gs, h, o) = some (f :: gs', h', o')) : kq_A h h' := kq_stp0 hs
/-- a call: what it cannot change is as it was -/
theorem kq_call {F : Nat → Nat → Bool} {S : List Nat} (hS : kp_chk S F mt_P = true) {E : mm_E} {PO : mm_C → Prop} {g0 : mm_F} {t : List mm_F} {K : Nat} (hKS : K ∈ S) {cs : List (List mm_I)} {nL np kd ci rk mc ms : Nat} (hK : mt_P[K]? = some (cs, nL, np, kd, ci, rk, mc, ms)) {h0 : mm_H} : ∀ (NN : Nat), (∀ (vo : Option Value) (h' : mm_H), (kp_F F h0 h' ∧ kq_A h0 h') → (rk = 0 → vo = none) → (rk = 1 ∨ rk = 2 → ∃ r : Int32, vo = some (.int r)) → bp_G E PO NN (mm_back vo (g0 :: t) h')) → ∀ (fs : List mm_F) (pc : Nat) (lv : mm_V) (st : List Value) (cb sb : Nat) (h : mm_H) (o : Option Value), (kp_F F h0 h ∧ kq_A h0 h) → (∀ f ∈ fs, f.1 ∈ S ∧ f.1 ≠ 999) → bp_G E PO NN (fs ++ (K, pc, lv, st, cb, sb) :: g0 :: t, h, o) := by
  have hKn : K ≠ 999 := fun e => by
    rw [e, bp_none] at hK
    cases hK
  have hnm : ∀ (fs : List mm_F) (pc : Nat) (lv : mm_V) (st : List Value) (cb sb : Nat) (h : mm_H) (o : Option Value), (∀ f ∈ fs, f.1 ∈ S ∧ f.1 ≠ 999) → ¬ bp_mk (fs ++ (K, pc, lv, st, cb, sb) :: g0 :: t, h, o) := by
    intro fs pc lv st cb sb h o hfs hm2
    obtain ⟨f, t2, e, hf⟩ := hm2
    cases fs with
    | nil =>
      have e : (K, pc, lv, st, cb, sb) :: g0 :: t = f :: t2 := e
      cases e
      exact hKn hf
    | cons f1 fs =>
      have e : f1 :: (fs ++ (K, pc, lv, st, cb, sb) :: g0 :: t) = f :: t2 := e
      cases e
      exact (hfs _ List.mem_cons_self).2 hf
  intro NN
  induction NN with
  | zero =>
    intro kk fs pc lv st cb sb h o hF hfs k hk c2 hr hm2
    have e : k = 0 := by omega
    subst e
    have hr : some ((fs ++ (K, pc, lv, st, cb, sb) :: g0 :: t, h, o) : mm_C) = some c2 := hr
    cases hr
    exact absurd hm2 (hnm fs pc lv st cb sb h o hfs)
  | succ NN ih =>
    intro kk fs pc lv st cb sb h o hF hfs
    have ih2 := ih (fun vo h' f a b => bp_mono (Nat.le_succ NN) (kk vo h' f a b))
    refine bp_anyD (hnm fs pc lv st cb sb h o hfs) (fun c' hs => ?_)
    cases fs with
    | nil =>
      rcases kp_stp hS hKS hs with ⟨pc', lv', st', cb', sb', h', rfl, hF2⟩ | ⟨f, pc', lv', st', cb', sb', hf, hf2, rfl⟩ | ⟨v, cs2, nL2, np2, kd2, ci2, rk2, mc2, ms2, ik, rfl, hK2, ha⟩
      · exact ih2 [] pc' lv' st' cb' sb' h' none ⟨kp_t hF.1 hF2, kq_t hF.2 (kq_stp hs)⟩ (fun f hf => by cases hf)
      · exact ih2 [f] pc' lv' st' cb' sb' h none hF (fun f2 hf3 => by
          cases List.mem_singleton.mp hf3
          exact ⟨hf, hf2⟩)
      · rw [hK] at hK2
        cases hK2
        exact bp_mono (Nat.le_succ NN) (kk v h hF (bp_ans ha).1 (bp_ans ha).2)
    | cons f1 fs =>
      obtain ⟨m1, pc1, lv1, st1, cb1, sb1⟩ := f1
      have hfs2 : ∀ f ∈ fs, f.1 ∈ S ∧ f.1 ≠ 999 := fun f hf => hfs f (List.mem_cons_of_mem _ hf)
      have hm1 : m1 ∈ S ∧ m1 ≠ 999 := hfs (m1, pc1, lv1, st1, cb1, sb1) List.mem_cons_self
      rcases kp_stp hS hm1.1 (gs := fs ++ (K, pc, lv, st, cb, sb) :: g0 :: t) hs with ⟨pc', lv', st', cb', sb', h', rfl, hF2⟩ | ⟨f, pc', lv', st', cb', sb', hf, hf2, rfl⟩ | ⟨v, cs2, nL2, np2, kd2, ci2, rk2, mc2, ms2, ik, rfl, hK2, ha⟩
      · refine ih2 ((m1, pc', lv', st', cb', sb') :: fs) pc lv st cb sb h' none ⟨kp_t hF.1 hF2, kq_t hF.2 (kq_stp hs)⟩ (fun f hf => ?_)
        rcases List.mem_cons.mp hf with rfl | hf
        · exact hm1
        · exact hfs2 f hf
      · refine ih2 (f :: (m1, pc', lv', st', cb', sb') :: fs) pc lv st cb sb h none hF (fun f2 hf3 => ?_)
        rcases List.mem_cons.mp hf3 with rfl | hf3
        · exact ⟨hf, hf2⟩
        rcases List.mem_cons.mp hf3 with rfl | hf3
        · exact hm1
        · exact hfs2 f2 hf3
      · cases fs with
        | nil => exact ih2 [] pc lv (v.toList ++ st) cb sb h none hF (fun f hf => by cases hf)
        | cons f2 fs =>
          obtain ⟨m2, pc2, lv2, st2, cb2, sb2⟩ := f2
          refine ih2 ((m2, pc2, lv2, v.toList ++ st2, cb2, sb2) :: fs) pc lv st cb sb h none hF (fun f hf => ?_)
          rcases List.mem_cons.mp hf with rfl | hf
          · exact hfs2 (m2, pc2, lv2, st2, cb2, sb2) List.mem_cons_self
          · exact hfs2 f (List.mem_cons_of_mem _ hf)
theorem kq_call0 {F : Nat → Nat → Bool} {S : List Nat} (hS : kp_chk S F mt_P = true) {E : mm_E} {PO : mm_C → Prop} {NN : Nat} {g0 : mm_F} {t : List mm_F} {K : Nat} (hKS : K ∈ S) {cs : List (List mm_I)} {nL np kd ci rk mc ms : Nat} (hK : mt_P[K]? = some (cs, nL, np, kd, ci, rk, mc, ms)) {pc : Nat} {lv : mm_V} {st : List Value} {cb sb : Nat} {h : mm_H} {o : Option Value} (kk : ∀ (vo : Option Value) (h' : mm_H), (kp_F F h h' ∧ kq_A h h') → (rk = 0 → vo = none) → (rk = 1 ∨ rk = 2 → ∃ r : Int32, vo = some (.int r)) → bp_G E PO NN (mm_back vo (g0 :: t) h')) : bp_G E PO NN ((K, pc, lv, st, cb, sb) :: g0 :: t, h, o) := kq_call hS hKS hK NN kk [] pc lv st cb sb h o ⟨kp_r, kq_r⟩ (fun f hf => by cases hf)
