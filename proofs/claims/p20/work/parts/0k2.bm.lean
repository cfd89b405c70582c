/-! BY HAND OVER MANY OBJECTS: a table: objects (cell, class), fields that are references (cell, field, its cell), ints, longs (cell, field), arrays of ints (cell, kind, length), of longs (cell, length); an int field's key is 100 * cell + field -/
abbrev bm_T : Type := List (Nat × Nat) × List (Nat × Nat × Nat) × List (Nat × Nat) × List (Nat × Nat) × List (Nat × Nat × Nat) × List (Nat × Nat)
def bm_W (T : bm_T) : Prop :=
  (∀ q ∈ T.1, ∀ p ∈ T.1, q.1 = p.1 → q = p) ∧ (∀ q ∈ T.1, ∀ p ∈ T.2.2.2.2.1, q.1 ≠ p.1) ∧ (∀ q ∈ T.1, ∀ p ∈ T.2.2.2.2.2, q.1 ≠ p.1) ∧
  (∀ q ∈ T.2.2.2.2.1, ∀ p ∈ T.2.2.2.2.1, q.1 = p.1 → q = p) ∧ (∀ q ∈ T.2.2.2.2.2, ∀ p ∈ T.2.2.2.2.2, q.1 = p.1 → q = p) ∧ (∀ q ∈ T.2.2.2.2.1, ∀ p ∈ T.2.2.2.2.2, q.1 ≠ p.1) ∧
  (∀ q ∈ T.2.1, (q.1, q.2.1) ∉ T.2.2.1 ∧ (q.1, q.2.1) ∉ T.2.2.2.1) ∧ (∀ q ∈ T.2.2.1, q ∉ T.2.2.2.1 ∧ q.2 < 100) ∧ (∀ q ∈ T.2.2.2.1, ∀ p ∈ T.2.2.2.2.2, q.1 ≠ p.1)
/-- an object's fields -/
def bm_O (T : bm_T) (E : mm_E) (s : Nat → Int32) (L : Nat → Nat → Int64) (c : Nat) (fs0 fs : List Value) : Prop :=
  fs.length = fs0.length ∧ (∀ k, (c, k) ∉ T.2.2.1 → (c, k) ∉ T.2.2.2.1 → fs[k]? = fs0[k]?) ∧ (∀ k t, (c, k, t) ∈ T.2.1 → fs[k]? = some (.ref (E.1 + t))) ∧ (∀ k, (c, k) ∈ T.2.2.1 → fs[k]? = some (.int (s (100 * c + k)))) ∧ (∀ k, (c, k) ∈ T.2.2.2.1 → fs[k]? = some (.long (L c k)))
def bm_P (T : bm_T) (E : mm_E) (h0 h : mm_H) (s : Nat → Int32) (A : Nat → Nat → Int32) (L : Nat → Nat → Int64) : Prop :=
  bm_W T ∧ h.length = 133 ∧ (∀ q ∈ T.1, ∃ fs0 fs : List Value, h0[q.1]? = some (.inr (q.2, fs0)) ∧ h[q.1]? = some (.inr (q.2, fs)) ∧ bm_O T E s L q.1 fs0 fs) ∧
  (∀ q ∈ T.2.2.2.2.1, h[q.1]? = some (.inl (q.2.1, q.2.2, .inl (A q.1)))) ∧ (∀ q ∈ T.2.2.2.2.2, h[q.1]? = some (.inl (3, q.2, .inr (.inl (L q.1))))) ∧
  (∀ k, (∀ q ∈ T.1, q.1 ≠ k) → (∀ q ∈ T.2.2.2.2.1, q.1 ≠ k) → (∀ q ∈ T.2.2.2.2.2, q.1 ≠ k) → h[k]? = h0[k]?)
section BM
variable {T : bm_T} {E : mm_E} {FIN : mm_C → Prop} {h0 h : mm_H} {s : Nat → Int32} {A : Nat → Nat → Int32} {L : Nat → Nat → Int64} {m pc pc' pc0 len a b wd nL : Nat} {dd : mm_M} {z : Int} {ins : Instr} {lv lv' : mm_V} {st st' r : List Value} {gs : List mm_F} {o : Option Value}
/-- an int field is written -/
theorem bm_setf (hP : bm_P T E h0 h s A L) {c ci k : Nat} (hc : (c, ci) ∈ T.1) (hk : (c, k) ∈ T.2.2.1) (v : Int32) : ∃ fs : List Value, h[c]? = some (.inr (ci, fs)) ∧ k < fs.length ∧ bm_P T E h0 (h.set c (.inr (ci, fs.set k (.int v)))) (upd s (100 * c + k) v) A L := by
  obtain ⟨hW, hl, hO, hA, hL, hF⟩ := hP
  obtain ⟨fs0, fs, a1, a2, a3, a4, a5, a6, a7⟩ := hO (c, ci) hc
  simp only at a1 a2 a3 a4 a5 a6 a7
  have hcl : c < h.length := (List.getElem?_eq_some_iff.mp a2).1
  have hkl : k < fs.length := (List.getElem?_eq_some_iff.mp (a6 k hk)).1
  obtain ⟨w1, w2, w3, w4, w5, w6, w7, w8, w9⟩ := hW
  refine ⟨fs, a2, hkl, ⟨w1, w2, w3, w4, w5, w6, w7, w8, w9⟩, by rw [List.length_set]; exact hl, fun q hq => ?_, fun q hq => ?_, fun q hq => ?_, fun j j1 j2 j3 => ?_⟩
  · by_cases e : c = q.1
    · have e2 := w1 (c, ci) hc q hq e
      subst e2
      refine ⟨fs0, fs.set k (.int v), a1, List.getElem?_set_self hcl, by rw [List.length_set]; exact a3, fun j j1 j2 => ?_, fun j t hj => ?_, fun j hj => ?_, fun j hj => ?_⟩
      · rw [List.getElem?_set_ne (fun e => j1 (by rw [← e]; exact hk))]
        exact a4 j j1 j2
      · rw [List.getElem?_set_ne (fun e => (w7 (c, j, t) hj).1 (by rw [← e]; exact hk))]
        exact a5 j t hj
      · by_cases e : k = j
        · subst e
          rw [List.getElem?_set_self hkl]
          unfold upd
          rw [if_pos rfl]
        · rw [List.getElem?_set_ne e]
          unfold upd
          rw [if_neg (fun g => e (Nat.add_left_cancel g).symm)]
          exact a6 j hj
      · rw [List.getElem?_set_ne (fun e => (w8 (c, k) hk).1 (by rw [e]; exact hj))]
        exact a7 j hj
    · obtain ⟨gs0, gs, b1, b2, b3, b4, b5, b6, b7⟩ := hO q hq
      refine ⟨gs0, gs, b1, by rw [List.getElem?_set_ne e]; exact b2, b3, b4, b5, fun j hj => ?_, b7⟩
      unfold upd
      have g1 : k < 100 := (w8 (c, k) hk).2
      have g2 : j < 100 := (w8 (q.1, j) hj).2
      rw [if_neg (by omega)]
      exact b6 j hj
  · rw [List.getElem?_set_ne (w2 (c, ci) hc q hq)]
    exact hA q hq
  · rw [List.getElem?_set_ne (w3 (c, ci) hc q hq)]
    exact hL q hq
  · rw [List.getElem?_set_ne (j1 (c, ci) hc)]
    exact hF j j1 j2 j3
/-- a long field is written -/
theorem bm_setfl (hP : bm_P T E h0 h s A L) {c ci k : Nat} (hc : (c, ci) ∈ T.1) (hk : (c, k) ∈ T.2.2.2.1) (v : Int64) : ∃ fs : List Value, h[c]? = some (.inr (ci, fs)) ∧ k < fs.length ∧ bm_P T E h0 (h.set c (.inr (ci, fs.set k (.long v)))) s A (bh_upL L c k v) := by
  obtain ⟨hW, hl, hO, hA, hL, hF⟩ := hP
  obtain ⟨fs0, fs, a1, a2, a3, a4, a5, a6, a7⟩ := hO (c, ci) hc
  simp only at a1 a2 a3 a4 a5 a6 a7
  have hcl : c < h.length := (List.getElem?_eq_some_iff.mp a2).1
  have hkl : k < fs.length := (List.getElem?_eq_some_iff.mp (a7 k hk)).1
  obtain ⟨w1, w2, w3, w4, w5, w6, w7, w8, w9⟩ := hW
  refine ⟨fs, a2, hkl, ⟨w1, w2, w3, w4, w5, w6, w7, w8, w9⟩, by rw [List.length_set]; exact hl, fun q hq => ?_, fun q hq => ?_, fun q hq => ?_, fun j j1 j2 j3 => ?_⟩
  · by_cases e : c = q.1
    · have e2 := w1 (c, ci) hc q hq e
      subst e2
      refine ⟨fs0, fs.set k (.long v), a1, List.getElem?_set_self hcl, by rw [List.length_set]; exact a3, fun j j1 j2 => ?_, fun j t hj => ?_, fun j hj => ?_, fun j hj => ?_⟩
      · rw [List.getElem?_set_ne (fun e => j2 (by rw [← e]; exact hk))]
        exact a4 j j1 j2
      · rw [List.getElem?_set_ne (fun e => (w7 (c, j, t) hj).2 (by rw [← e]; exact hk))]
        exact a5 j t hj
      · rw [List.getElem?_set_ne (fun e => (w8 (c, j) hj).1 (by rw [← e]; exact hk))]
        exact a6 j hj
      · by_cases e : k = j
        · subst e
          rw [List.getElem?_set_self hkl]
          unfold bh_upL vp_updL
          rw [if_pos rfl, if_pos rfl]
        · rw [List.getElem?_set_ne e]
          unfold bh_upL vp_updL
          rw [if_pos rfl, if_neg (fun g => e g.symm)]
          exact a7 j hj
    · obtain ⟨gs0, gs, b1, b2, b3, b4, b5, b6, b7⟩ := hO q hq
      refine ⟨gs0, gs, b1, by rw [List.getElem?_set_ne e]; exact b2, b3, b4, b5, b6, fun j hj => ?_⟩
      unfold bh_upL
      rw [if_neg (fun g => e g.symm)]
      exact b7 j hj
  · rw [List.getElem?_set_ne (w2 (c, ci) hc q hq)]
    exact hA q hq
  · rw [List.getElem?_set_ne (w3 (c, ci) hc q hq)]
    unfold bh_upL
    rw [if_neg (fun g => w3 (c, ci) hc q hq g.symm)]
    exact hL q hq
  · rw [List.getElem?_set_ne (j1 (c, ci) hc)]
    exact hF j j1 j2 j3
/-- an element of an int array is written -/
theorem bm_seta (hP : bm_P T E h0 h s A L) {q : Nat × Nat × Nat} (hq : q ∈ T.2.2.2.2.1) (i : Nat) (v : Int32) : bm_P T E h0 (h.set q.1 (.inl (q.2.1, q.2.2, .inl (upd (A q.1) i v)))) s (bh_up A q.1 i v) L := by
  obtain ⟨hW, hl, hO, hA, hL, hF⟩ := hP
  have hql : q.1 < h.length := (List.getElem?_eq_some_iff.mp (hA q hq)).1
  refine ⟨hW, by rw [List.length_set]; exact hl, fun p hp => ?_, fun p hp => ?_, fun p hp => ?_, fun j j1 j2 j3 => ?_⟩
  · rw [List.getElem?_set_ne (fun e => hW.2.1 p hp q hq e.symm)]
    exact hO p hp
  · by_cases e : q.1 = p.1
    · have e2 := hW.2.2.2.1 q hq p hp e
      subst e2
      rw [List.getElem?_set_self hql, bh_up_eq]
    · rw [List.getElem?_set_ne e, bh_up_ne (fun g => e g.symm)]
      exact hA p hp
  · rw [List.getElem?_set_ne (hW.2.2.2.2.2.1 q hq p hp)]
    exact hL p hp
  · rw [List.getElem?_set_ne (j2 q hq)]
    exact hF j j1 j2 j3
theorem bm_setl (hP : bm_P T E h0 h s A L) {q : Nat × Nat} (hq : q ∈ T.2.2.2.2.2) (i : Nat) (v : Int64) : bm_P T E h0 (h.set q.1 (.inl (3, q.2, .inr (.inl (vp_updL (L q.1) i v))))) s A (bh_upL L q.1 i v) := by
  obtain ⟨hW, hl, hO, hA, hL, hF⟩ := hP
  have hql : q.1 < h.length := (List.getElem?_eq_some_iff.mp (hL q hq)).1
  refine ⟨hW, by rw [List.length_set]; exact hl, fun p hp => ?_, fun p hp => ?_, fun p hp => ?_, fun j j1 j2 j3 => ?_⟩
  · rw [List.getElem?_set_ne (fun e => hW.2.2.1 p hp q hq e.symm)]
    obtain ⟨gs0, gs, b1, b2, b3, b4, b5, b6, b7⟩ := hO p hp
    refine ⟨gs0, gs, b1, b2, b3, b4, b5, b6, fun j hj => ?_⟩
    unfold bh_upL
    rw [if_neg (hW.2.2.2.2.2.2.2.2 (p.1, j) hj q hq)]
    exact b7 j hj
  · rw [List.getElem?_set_ne (fun e => hW.2.2.2.2.2.1 p hp q hq e.symm)]
    exact hA p hp
  · by_cases e : q.1 = p.1
    · have e2 := hW.2.2.2.2.1 q hq p hp e
      subst e2
      rw [List.getElem?_set_self hql]
      unfold bh_upL
      rw [if_pos rfl]
    · rw [List.getElem?_set_ne e]
      unfold bh_upL
      rw [if_neg (fun g => e g.symm)]
      exact hL p hp
  · rw [List.getElem?_set_ne (j3 q hq)]
    exact hF j j1 j2 j3
theorem bm_gi {c ci k K : Nat} {v : Int32} (hat : mm_at mt_P m pc = some ((pc0, len, ins, a, b, z, wd), nL, dd)) (hi : mm_inv ins = none) (hr : mm_rtn ins = none) (hl : ∀ (lv : mm_V) (st : List Value) (h : mm_H), mm_ex E mt_kds nL ins len a b z pc lv st 0 0 h = mm_getf E lv st 0 0 h pc' ci k) (hP : bm_P T E h0 h s A L) (hc : (c, ci) ∈ T.1) (hk : (c, k) ∈ T.2.2.1) (hK : 100 * c + k = K) (hv : s K = v) (g : bh_G E FIN ((m, pc', lv, .int v :: st, 0, 0) :: gs, h, none)) : bh_G E FIN ((m, pc, lv, .ref (E.1 + c) :: st, 0, 0) :: gs, h, o) := by
  subst hK
  refine bh_s1 hat hi hr ?_ g
  obtain ⟨fs0, fs, a1, a2, a3, a4, a5, a6, a7⟩ := hP.2.2.1 (c, ci) hc
  simp only at a2 a6
  rw [hl]
  simp only [mm_getf, bh_cell, a2, if_true, a6 k hk, hv]
theorem bm_gl {c ci k : Nat} (hat : mm_at mt_P m pc = some ((pc0, len, ins, a, b, z, wd), nL, dd)) (hi : mm_inv ins = none) (hr : mm_rtn ins = none) (hl : ∀ (lv : mm_V) (st : List Value) (h : mm_H), mm_ex E mt_kds nL ins len a b z pc lv st 0 0 h = mm_getf E lv st 0 0 h pc' ci k) (hP : bm_P T E h0 h s A L) (hc : (c, ci) ∈ T.1) (hk : (c, k) ∈ T.2.2.2.1) (g : bh_G E FIN ((m, pc', lv, .long (L c k) :: st, 0, 0) :: gs, h, none)) : bh_G E FIN ((m, pc, lv, .ref (E.1 + c) :: st, 0, 0) :: gs, h, o) := by
  refine bh_s1 hat hi hr ?_ g
  obtain ⟨fs0, fs, a1, a2, a3, a4, a5, a6, a7⟩ := hP.2.2.1 (c, ci) hc
  simp only at a2 a7
  rw [hl]
  simp only [mm_getf, bh_cell, a2, if_true, a7 k hk]
theorem bm_gr {c ci k t : Nat} (hat : mm_at mt_P m pc = some ((pc0, len, ins, a, b, z, wd), nL, dd)) (hi : mm_inv ins = none) (hr : mm_rtn ins = none) (hl : ∀ (lv : mm_V) (st : List Value) (h : mm_H), mm_ex E mt_kds nL ins len a b z pc lv st 0 0 h = mm_getf E lv st 0 0 h pc' ci k) (hP : bm_P T E h0 h s A L) (hc : (c, ci) ∈ T.1) (hk : (c, k, t) ∈ T.2.1) (g : bh_G E FIN ((m, pc', lv, .ref (E.1 + t) :: st, 0, 0) :: gs, h, none)) : bh_G E FIN ((m, pc, lv, .ref (E.1 + c) :: st, 0, 0) :: gs, h, o) := by
  refine bh_s1 hat hi hr ?_ g
  obtain ⟨fs0, fs, a1, a2, a3, a4, a5, a6, a7⟩ := hP.2.2.1 (c, ci) hc
  simp only at a2 a5
  rw [hl]
  simp only [mm_getf, bh_cell, a2, if_true, a5 k t hk]
theorem bm_pf {c ci k kd K : Nat} {v : Int32} (hat : mm_at mt_P m pc = some ((pc0, len, ins, a, b, z, wd), nL, dd)) (hi : mm_inv ins = none) (hr : mm_rtn ins = none) (hl : ∀ (lv : mm_V) (st : List Value) (h : mm_H), mm_ex E mt_kds nL ins len a b z pc lv st 0 0 h = mm_putf E lv st 0 0 h pc' ci k kd) (hP : bm_P T E h0 h s A L) (hc : (c, ci) ∈ T.1) (hk : (c, k) ∈ T.2.2.1) (hK : 100 * c + k = K) (hf : mm_fits kd (.int v) = true) (g : ∀ (h' : mm_H) (s' : Nat → Int32), bm_P T E h0 h' s' A L → s' K = v → (∀ j, j ≠ K → s' j = s j) → bh_G E FIN ((m, pc', lv, st, 0, 0) :: gs, h', none)) : bh_G E FIN ((m, pc, lv, .int v :: .ref (E.1 + c) :: st, 0, 0) :: gs, h, o) := by
  subst hK
  obtain ⟨fs, a2, hkl, hP2⟩ := bm_setf hP hc hk v
  refine bh_s1 hat hi hr (lv' := lv) (st' := st) (h' := h.set c (.inr (ci, fs.set k (.int v)))) ?_ (g _ (upd s (100 * c + k) v) hP2 (if_pos rfl) (fun j hj => if_neg hj))
  rw [hl]
  simp only [mm_putf, bh_cell, a2, true_and, if_pos (And.intro hkl hf), Nat.add_sub_cancel_left]
theorem bm_pl {c ci k : Nat} {v : Int64} (hat : mm_at mt_P m pc = some ((pc0, len, ins, a, b, z, wd), nL, dd)) (hi : mm_inv ins = none) (hr : mm_rtn ins = none) (hl : ∀ (lv : mm_V) (st : List Value) (h : mm_H), mm_ex E mt_kds nL ins len a b z pc lv st 0 0 h = mm_putf E lv st 0 0 h pc' ci k 1) (hP : bm_P T E h0 h s A L) (hc : (c, ci) ∈ T.1) (hk : (c, k) ∈ T.2.2.2.1) (g : ∀ h' : mm_H, bm_P T E h0 h' s A (bh_upL L c k v) → bh_G E FIN ((m, pc', lv, st, 0, 0) :: gs, h', none)) : bh_G E FIN ((m, pc, lv, .long v :: .ref (E.1 + c) :: st, 0, 0) :: gs, h, o) := by
  obtain ⟨fs, a2, hkl, hP2⟩ := bm_setfl hP hc hk v
  refine bh_s1 hat hi hr (lv' := lv) (st' := st) (h' := h.set c (.inr (ci, fs.set k (.long v)))) ?_ (g _ hP2)
  rw [hl]
  simp only [mm_putf, bh_cell, a2, true_and, if_pos (And.intro hkl (show mm_fits 1 (.long v) = true from rfl)), Nat.add_sub_cancel_left]
theorem bm_ia {kd kd2 c t n : Nat} {I : Int32} (hat : mm_at mt_P m pc = some ((pc0, len, ins, a, b, z, wd), nL, dd)) (hi : mm_inv ins = none) (hr : mm_rtn ins = none) (hl : ∀ (lv : mm_V) (st : List Value) (h : mm_H), mm_ex E mt_kds nL ins len a b z pc lv st 0 0 h = mm_ald E lv st 0 0 h pc' kd kd2) (hP : bm_P T E h0 h s A L) (hq : (c, t, n) ∈ T.2.2.2.2.1) (ht : t = kd ∨ t = kd2) (h1 : 0 ≤ I.toInt) (h2 : I.toInt < n) (g : bh_G E FIN ((m, pc', lv, .int (A c I.toInt.toNat) :: st, 0, 0) :: gs, h, none)) : bh_G E FIN ((m, pc, lv, .int I :: .ref (E.1 + c) :: st, 0, 0) :: gs, h, o) := by
  refine bh_s1 hat hi hr ?_ g
  have e := hP.2.2.2.1 (c, t, n) hq
  simp only at e
  rw [hl]
  simp only [mm_ald, bh_cell, e]
  rw [if_pos ⟨ht, bh_inr h1 h2⟩]
  rfl
theorem bm_ias {kd kd2 c t n : Nat} {I v : Int32} (hat : mm_at mt_P m pc = some ((pc0, len, ins, a, b, z, wd), nL, dd)) (hi : mm_inv ins = none) (hr : mm_rtn ins = none) (hl : ∀ (lv : mm_V) (st : List Value) (h : mm_H), mm_ex E mt_kds nL ins len a b z pc lv st 0 0 h = mm_ast E lv st 0 0 h pc' kd kd2) (hP : bm_P T E h0 h s A L) (hq : (c, t, n) ∈ T.2.2.2.2.1) (ht : t = kd ∨ t = kd2) (h1 : 0 ≤ I.toInt) (h2 : I.toInt < n) (g : ∀ h' : mm_H, bm_P T E h0 h' s (bh_up A c I.toInt.toNat (mm_nar t v)) L → bh_G E FIN ((m, pc', lv, st, 0, 0) :: gs, h', none)) : bh_G E FIN ((m, pc, lv, .int v :: .int I :: .ref (E.1 + c) :: st, 0, 0) :: gs, h, o) := by
  refine bh_s1 hat hi hr (lv' := lv) (st' := st) (h' := h.set c (.inl (t, n, .inl (upd (A c) I.toInt.toNat (mm_nar t v))))) ?_ (g _ (bm_seta hP (q := (c, t, n)) hq I.toInt.toNat (mm_nar t v)))
  have e := hP.2.2.2.1 (c, t, n) hq
  simp only at e
  rw [hl]
  simp only [mm_ast, bh_cell, e]
  rw [if_pos ⟨ht, bh_inr h1 h2⟩, Nat.add_sub_cancel_left]
  rfl
theorem bm_la {c n : Nat} {I : Int32} (hat : mm_at mt_P m pc = some ((pc0, len, ins, a, b, z, wd), nL, dd)) (hi : mm_inv ins = none) (hr : mm_rtn ins = none) (hl : ∀ (lv : mm_V) (st : List Value) (h : mm_H), mm_ex E mt_kds nL ins len a b z pc lv st 0 0 h = mm_lald E lv st 0 0 h pc') (hP : bm_P T E h0 h s A L) (hq : (c, n) ∈ T.2.2.2.2.2) (h1 : 0 ≤ I.toInt) (h2 : I.toInt < n) (g : bh_G E FIN ((m, pc', lv, .long (L c I.toInt.toNat) :: st, 0, 0) :: gs, h, none)) : bh_G E FIN ((m, pc, lv, .int I :: .ref (E.1 + c) :: st, 0, 0) :: gs, h, o) := by
  refine bh_s1 hat hi hr ?_ g
  have e := hP.2.2.2.2.1 (c, n) hq
  simp only at e
  rw [hl]
  simp only [mm_lald, bh_cell, e]
  rw [if_pos ⟨trivial, bh_inr h1 h2⟩]
  rfl
theorem bm_las {c n : Nat} {I : Int32} {x : Int64} (hat : mm_at mt_P m pc = some ((pc0, len, ins, a, b, z, wd), nL, dd)) (hi : mm_inv ins = none) (hr : mm_rtn ins = none) (hl : ∀ (lv : mm_V) (st : List Value) (h : mm_H), mm_ex E mt_kds nL ins len a b z pc lv st 0 0 h = mm_last E lv st 0 0 h pc') (hP : bm_P T E h0 h s A L) (hq : (c, n) ∈ T.2.2.2.2.2) (h1 : 0 ≤ I.toInt) (h2 : I.toInt < n) (g : ∀ h' : mm_H, bm_P T E h0 h' s A (bh_upL L c I.toInt.toNat x) → bh_G E FIN ((m, pc', lv, st, 0, 0) :: gs, h', none)) : bh_G E FIN ((m, pc, lv, .long x :: .int I :: .ref (E.1 + c) :: st, 0, 0) :: gs, h, o) := by
  refine bh_s1 hat hi hr (lv' := lv) (st' := st) (h' := h.set c (.inl (3, n, .inr (.inl (vp_updL (L c) I.toInt.toNat x))))) ?_ (g _ (bm_setl hP (q := (c, n)) hq I.toInt.toNat x))
  have e := hP.2.2.2.2.1 (c, n) hq
  simp only at e
  rw [hl]
  simp only [mm_last, bh_cell, e]
  rw [if_pos ⟨trivial, bh_inr h1 h2⟩, Nat.add_sub_cancel_left]
  rfl
theorem bm_cv {args : List Value} {np nLk rk c ci : Nat} {cs : List (List mm_I)} {K : Nat} (hat : mm_at mt_P m pc = some ((pc0, len, ins, K, b, z, wd), nL, dd)) (hi : mm_inv ins = some 1) (hp : pc + len = pc') (hK : mt_P[K]? = some (cs, nLk, np, 1, ci, rk, 0, 0)) (hK2 : ¬ K < 2) (hP : bm_P T E h0 h s A L) (hq : (c, ci) ∈ T.1) (hci : ci ≠ 90) (hg : gs.length + 1 < 1000) (hn : args.length = np) (hc : (st.map fun v => v.category).sum ≤ 8) (hs : (lg_sl (.ref (E.1 + c) :: args.reverse)).length ≤ nLk) (g : bh_G E FIN ((K, 0, lv_args 0 (.ref (E.1 + c) :: args.reverse), [], 0, 0) :: (m, pc', lv, st, 0, 0) :: gs, h, none)) : bh_G E FIN ((m, pc, lv, args ++ .ref (E.1 + c) :: st, 0, 0) :: gs, h, o) := by
  subst hp
  subst hn
  obtain ⟨fs0, fs, a1, a2, a3⟩ := hP.2.2.1 (c, ci) hq
  simp only at a2
  obtain ⟨np, kd, ci2, rk2, mc, ms⟩ := dd
  refine en_good_step (c' := ((K, 0, lv_args 0 (.ref (E.1 + c) :: args.reverse), [], 0, 0) :: (m, pc + len, lv, st, 0, 0) :: gs, h, none)) ?_ g
  have e1 : (args ++ .ref (E.1 + c) :: st).drop args.length = .ref (E.1 + c) :: st := List.drop_left
  have e2 : (args ++ .ref (E.1 + c) :: st).take args.length = args := List.take_left
  have e3 : args.length ≤ (args ++ Value.ref (E.1 + c) :: st).length := by
    rw [List.length_append]
    exact Nat.le_add_right _ _
  simp only [mm_stp, hat, hi, if_neg hK2, mm_call, hK]
  rw [if_pos ⟨trivial, hg, Nat.zero_le _, Nat.zero_le _, e3⟩, e1, e2]
  have hr : mm_recv E h 1 ci (.ref (E.1 + c) :: st) = some ([.ref (E.1 + c)], st) := by
    have e0 : mm_cell E h (E.1 + c) = some (.inr (ci, fs)) := by rw [bh_cell, a2]
    generalize E.1 + c = r9 at e0
    simp [mm_recv, e0, hci]
  rw [hr]
  simp only []
  rw [if_pos ⟨hc, hs⟩]
  rfl
end BM
