/-! CALLS: what a call cannot write, fields and rows at once (wip/p8, by hand) -/
theorem kp_stp0 {F : Nat → Nat → Bool} {S : List Nat} (hS : kp_chk S F mt_P = true) {E : mm_E} {m pc : Nat} (hm : m ∈ S) {lv : mm_V} {st : List Value} {cb sb : Nat} {gs : List mm_F} {h : mm_H} {o : Option Value} {X : mm_C} (hs : mm_stp E mt_kds mt_P 1000 ((m, pc, lv, st, cb, sb) :: gs, h, o) = some X) : kp_F F h X.2.1 := by
  rcases kp_stp hS hm hs with ⟨pc', lv', st', cb', sb', h', rfl, hF2⟩ | ⟨f, pc', lv', st', cb', sb', hf, hf2, rfl⟩ | ⟨v, cs2, nL2, np2, kd2, ci2, rk2, mc2, ms2, ik, rfl, hK2, ha⟩
  · exact hF2
  · exact kp_r
  · rw [kq_bk]
    exact kp_r
/-- what a call leaves: rows that it cannot write, fields that it cannot write, kinds and lengths -/
def kb_P (F : Nat → Nat → Bool) (E : mm_E) (G : Nat → Nat → Bool) (K : List Nat) (h h' : mm_H) : Prop := ka_h E G K h' ∧ ka_F K h h' ∧ kp_F F h h' ∧ kq_A h h'
theorem kb_call {S : List Nat} {F G : Nat → Nat → Bool} {T : ka_T} (hS : ka_chk S G T = true) (hS2 : kp_chk S F mt_P = true) {E : mm_E} {K : List Nat} {PO : mm_C → Prop} {g0 : mm_F} {t : List mm_F} {h0 : mm_H} {rk0 : Nat} : ∀ (NN : Nat), (∀ (vo : Option Value) (h' : mm_H), kb_P F E G K h0 h' → (rk0 = 0 → vo = none) → (rk0 = 1 ∨ rk0 = 2 → ∃ r : Int32, vo = some (.int r)) → bp_G E PO NN (mm_back vo (g0 :: t) h')) → ∀ (fs : List mm_F) (h : mm_H) (o : Option Value), fs ≠ [] → ka_ch E K S T none fs → (∀ f, fs.getLast? = some f → ka_rk f.1 = rk0) → kb_P F E G K h0 h → bp_G E PO NN (fs ++ g0 :: t, h, o) := by
  have hnm : ∀ (fs : List mm_F) (h : mm_H) (o : Option Value), fs ≠ [] → ka_ch E K S T none fs → ¬ bp_mk (fs ++ g0 :: t, h, o) := by
    intro fs h o hne hch hm2
    obtain ⟨f, t2, e, hf⟩ := hm2
    cases fs with
    | nil => exact hne rfl
    | cons f1 fs =>
      have e : f1 :: (fs ++ g0 :: t) = f :: t2 := e
      cases e
      obtain ⟨m, pc, lv, st, cb, sb⟩ := f
      exact hch.2.1 hf
  intro NN
  induction NN with
  | zero =>
    intro kk fs h o hne hch hla hF k hk c2 hr hm2
    have e : k = 0 := by omega
    subst e
    have hr : some ((fs ++ g0 :: t, h, o) : mm_C) = some c2 := hr
    cases hr
    exact absurd hm2 (hnm fs h o hne hch)
  | succ NN ih =>
    intro kk fs h o hne hch hla hF
    have ih2 := ih (fun vo h' f a b => bp_mono (Nat.le_succ NN) (kk vo h' f a b))
    refine bp_anyD (hnm fs h o hne hch) (fun c' hs => ?_)
    obtain ⟨hH, hF1, hF2, hF3⟩ := hF
    cases fs with
    | nil => exact absurd rfl hne
    | cons f1 fs =>
      obtain ⟨m, pc, lv, st, cb, sb⟩ := f1
      obtain ⟨c1, c2, c3, c4, c5⟩ := hch
      have hp := kp_stp0 hS2 c1 (gs := fs ++ g0 :: t) hs
      have hq := kq_stp0 (gs := fs ++ g0 :: t) hs
      rcases ka_stp hS c1 (gs := fs ++ g0 :: t) hH c3 c4 hs with ⟨pc', lv', st', cb', sb', h', rfl, d1, d2, d3, d4⟩ | ⟨k, lv2, cb2, sb2, pc', r, cb', sb', d1, d2, d3, rfl, d4⟩ | ⟨v, cs, nL, np, kd, ci, rk, mc, ms, ik, rfl, hP, ha⟩
      · refine ih2 ((m, pc', lv', st', cb', sb') :: fs) h' none (List.cons_ne_nil _ _) ⟨c1, c2, d1, d2, c5⟩ (fun f hf => ?_) ⟨d3, ka_tr hF1 d4, kp_t hF2 hp, kq_t hF3 hq⟩
        cases fs with
        | nil =>
          have hf : some (m, pc', lv', st', cb', sb') = some f := hf
          cases hf
          exact hla (m, pc, lv, st, cb, sb) rfl
        | cons f2 fs =>
          rw [List.getLast?_cons_cons] at hf
          exact hla f (by rw [List.getLast?_cons_cons]; exact hf)
      · refine ih2 ((k, 0, lv2, [], cb2, sb2) :: (m, pc', lv, r, cb', sb') :: fs) h none (List.cons_ne_nil _ _) ⟨d1, d2, d3, trivial, c1, c2, c3, d4, c5⟩ (fun f hf => ?_) ⟨hH, hF1, hF2, hF3⟩
        rw [List.getLast?_cons_cons] at hf
        cases fs with
        | nil =>
          have hf : some (m, pc', lv, r, cb', sb') = some f := hf
          cases hf
          exact hla (m, pc, lv, st, cb, sb) rfl
        | cons f2 fs =>
          rw [List.getLast?_cons_cons] at hf
          exact hla f (by rw [List.getLast?_cons_cons]; exact hf)
      · have ek := ka_rk_of hP
        cases fs with
        | nil =>
          have e0 := hla _ rfl
          have e0 : ka_rk m = rk0 := e0
          rw [ek] at e0
          subst e0
          exact bp_mono (Nat.le_succ NN) (kk v h ⟨hH, hF1, hF2, hF3⟩ (bp_ans ha).1 (bp_ans ha).2)
        | cons f2 fs =>
          obtain ⟨m2, pc2, lv2, st2, cb2, sb2⟩ := f2
          obtain ⟨e1, e2, e3, e4, e5⟩ := c5
          have e4 : ka_w E K (ka_rk m) st2 (ka_Tg T m2 pc2) := e4
          rw [ek] at e4
          refine ih2 ((m2, pc2, lv2, v.toList ++ st2, cb2, sb2) :: fs) h none (List.cons_ne_nil _ _) ⟨e1, e2, e3, e4 v (bp_ans ha).1 (bp_ans ha).2, e5⟩ (fun f hf => ?_) ⟨hH, hF1, hF2, hF3⟩
          cases fs with
          | nil =>
            have hf : some (m2, pc2, lv2, v.toList ++ st2, cb2, sb2) = some f := hf
            cases hf
            exact hla (m2, pc2, lv2, st2, cb2, sb2) rfl
          | cons f3 fs =>
            rw [List.getLast?_cons_cons] at hf
            exact hla f (by rw [List.getLast?_cons_cons, List.getLast?_cons_cons]; exact hf)
/-- a call: rows, fields, kinds and lengths -/
theorem kb_call0 {S : List Nat} {F G : Nat → Nat → Bool} {T : ka_T} (hS : ka_chk S G T = true) (hS2 : kp_chk S F mt_P = true) {E : mm_E} {K : List Nat} {PO : mm_C → Prop} {NN : Nat} {g0 : mm_F} {t : List mm_F} {m : Nat} (hm : m ∈ S) {cs : List (List mm_I)} {nL np kd ci rk mc ms : Nat} (hP : mt_P[m]? = some (cs, nL, np, kd, ci, rk, mc, ms)) {lv : mm_V} {cb sb : Nat} {h : mm_H} {o : Option Value} (hH : ka_h E G K h) (hl : ka_lv E K lv) (kk : ∀ (vo : Option Value) (h' : mm_H), kb_P F E G K h h' → (rk = 0 → vo = none) → (rk = 1 ∨ rk = 2 → ∃ r : Int32, vo = some (.int r)) → bp_G E PO NN (mm_back vo (g0 :: t) h')) : bp_G E PO NN ((m, 0, lv, [], cb, sb) :: g0 :: t, h, o) := by
  refine kb_call hS hS2 NN kk [(m, 0, lv, [], cb, sb)] h o (List.cons_ne_nil _ _) ⟨hm, fun e => ?_, ka_lw_of hl, trivial, trivial⟩ (fun f hf => ?_) ⟨hH, ka_r, kp_r, kq_r⟩
  · rw [e, bp_none] at hP
    cases hP
  · cases hf
    exact ka_rk_of hP
/-- what a table's writes leave of it -/
theorem ka_hP {T : bm_T} {E : mm_E} {G : Nat → Nat → Bool} {K : List Nat} {h0 h : mm_H} {s : Nat → Int32} {A : Nat → Nat → Int32} {L : Nat → Nat → Int64} (hP : bm_P T E h0 h s A L) (hH : ka_h E G K h0) : ka_h E G K h := by
  obtain ⟨hW, hl, hO, hA, hL, hF⟩ := hP
  obtain ⟨k1, k2, k3⟩ := hH
  have key : ∀ c, (∃ q ∈ T.1, q.1 = c) ∨ (∃ q ∈ T.2.2.2.2.1, q.1 = c) ∨ (∃ q ∈ T.2.2.2.2.2, q.1 = c) ∨ h[c]? = h0[c]? := fun c => by
    by_cases a : ∃ q ∈ T.1, q.1 = c
    · exact Or.inl a
    by_cases b : ∃ q ∈ T.2.2.2.2.1, q.1 = c
    · exact Or.inr (Or.inl b)
    by_cases d : ∃ q ∈ T.2.2.2.2.2, q.1 = c
    · exact Or.inr (Or.inr (Or.inl d))
    · exact Or.inr (Or.inr (Or.inr (hF c (fun q hq e => a ⟨q, hq, e⟩) (fun q hq e => b ⟨q, hq, e⟩) (fun q hq e => d ⟨q, hq, e⟩))))
  refine ⟨fun c ci fs e k v hk ht => ?_, fun c n f e i hi ht => ?_, fun c hc => ?_⟩
  · rcases key c with ⟨q, hq, rfl⟩ | ⟨q, hq, rfl⟩ | ⟨q, hq, rfl⟩ | g
    · obtain ⟨fs0, fs1, a1, a2, o1, o2, o3, o4, o5⟩ := hO q hq
      rw [a2] at e
      cases e
      by_cases i1 : (q.1, k) ∈ T.2.2.1
      · rw [o4 k i1] at hk
        cases hk
        exact absurd ht ka_ti
      by_cases i2 : (q.1, k) ∈ T.2.2.2.1
      · rw [o5 k i2] at hk
        cases hk
        exact absurd ht ka_tl
      · rw [o2 k i1 i2] at hk
        exact k1 q.1 _ fs0 a1 k v hk ht
    · rw [hA q hq] at e
      cases e
    · rw [hL q hq] at e
      cases e
    · rw [g] at e
      exact k1 c ci fs e k v hk ht
  · rcases key c with ⟨q, hq, rfl⟩ | ⟨q, hq, rfl⟩ | ⟨q, hq, rfl⟩ | g
    · obtain ⟨fs0, fs1, a1, a2, o1⟩ := hO q hq
      rw [a2] at e
      cases e
    · rw [hA q hq] at e
      injection e with e
      injection e with e
      injection e with _ e
      injection e with _ e
      cases e
    · rw [hL q hq] at e
      cases e
    · rw [g] at e
      exact k2 c n f e i hi ht
  · rcases key c with ⟨q, hq, rfl⟩ | ⟨q, hq, rfl⟩ | ⟨q, hq, rfl⟩ | g
    · obtain ⟨fs0, fs1, a1, a2, o1⟩ := hO q hq
      obtain ⟨x, e⟩ := k3 q.1 hc
      rw [a1] at e
      cases e
    · exact ⟨_, hA q hq⟩
    · exact ⟨_, hL q hq⟩
    · rw [g]
      exact k3 c hc
