/-! BY HAND: the mini machine over the reference's object (cell 88), a step a row. A table: fields that are references (with their cells), fields that are ints, arrays of ints (cell, kind, length), arrays of longs (cell, length) -/
abbrev bh_T : Type := List (Nat × Nat) × List Nat × List (Nat × Nat × Nat) × List (Nat × Nat)
def bh_W (T : bh_T) : Prop := (∀ q ∈ T.2.2.1, q.1 ≠ 88) ∧ (∀ q ∈ T.2.2.2, q.1 ≠ 88) ∧ (∀ q ∈ T.2.2.1, ∀ p ∈ T.2.2.1, q.1 = p.1 → q = p) ∧ (∀ q ∈ T.2.2.2, ∀ p ∈ T.2.2.2, q.1 = p.1 → q = p) ∧ (∀ q ∈ T.2.2.1, ∀ p ∈ T.2.2.2, q.1 ≠ p.1) ∧ (∀ q ∈ T.1, ∀ k ∈ T.2.1, q.1 ≠ k)
def bh_P (T : bh_T) (E : mm_E) (h0 h : mm_H) (s : Nat → Int32) (A : Nat → Nat → Int32) (L : Nat → Nat → Int64) : Prop :=
  bh_W T ∧ h.length = 133 ∧ (∃ fs0 fs : List Value, h0[88]? = some (.inr (9, fs0)) ∧ h[88]? = some (.inr (9, fs)) ∧ fs.length = fs0.length ∧ (∀ k, k ∉ T.2.1 → fs[k]? = fs0[k]?) ∧ (∀ p ∈ T.1, fs[p.1]? = some (.ref (E.1 + p.2))) ∧ (∀ k ∈ T.2.1, fs[k]? = some (.int (s k)))) ∧
  (∀ q ∈ T.2.2.1, h[q.1]? = some (.inl (q.2.1, q.2.2, .inl (A q.1)))) ∧ (∀ q ∈ T.2.2.2, h[q.1]? = some (.inl (3, q.2, .inr (.inl (L q.1))))) ∧
  (∀ k, k ≠ 88 → (∀ q ∈ T.2.2.1, q.1 ≠ k) → (∀ q ∈ T.2.2.2, q.1 ≠ k) → h[k]? = h0[k]?)
def bh_up (A : Nat → Nat → Int32) (c i : Nat) (v : Int32) : Nat → Nat → Int32 := fun k => if k = c then upd (A c) i v else A k
def bh_upL (L : Nat → Nat → Int64) (c i : Nat) (v : Int64) : Nat → Nat → Int64 := fun k => if k = c then vp_updL (L c) i v else L k
theorem bh_up_ne {A : Nat → Nat → Int32} {c i k : Nat} {v : Int32} (h : k ≠ c) : bh_up A c i v k = A k := if_neg h
theorem bh_up_eq {A : Nat → Nat → Int32} {c i : Nat} {v : Int32} : bh_up A c i v c = upd (A c) i v := if_pos rfl
theorem bh_up_i {A : Nat → Nat → Int32} {c i : Nat} {v : Int32} : bh_up A c i v c i = v := by
  rw [bh_up_eq]
  exact if_pos rfl
theorem bh_up_j {A : Nat → Nat → Int32} {c i j : Nat} {v : Int32} (h : j ≠ i) : bh_up A c i v c j = A c j := by
  rw [bh_up_eq]
  exact if_neg h
theorem bh_up_o {A : Nat → Nat → Int32} {c i k j : Nat} {v : Int32} (h : k ≠ c ∨ j ≠ i) : bh_up A c i v k j = A k j := by
  by_cases e : k = c
  · rw [e]
    rcases h with h | h
    · exact absurd e h
    · exact bh_up_j h
  · rw [bh_up_ne e]
abbrev bh_G (E : mm_E) (FIN : mm_C → Prop) (c : mm_C) : Prop := en_Good E mt_kds mt_P 1000 FIN c
theorem bh_cell {E : mm_E} {h : mm_H} (k : Nat) : mm_cell E h (E.1 + k) = h[k]? := by
  unfold mm_cell
  rw [if_pos (Nat.le_add_right _ _), Nat.add_sub_cancel_left]
theorem bh_find {i j : Nat} {w : Value} {lv : mm_V} {f : Nat × Value → Bool} (hf : ∀ q : Nat × Value, q.1 = j → q.2 = w → f q = true) (h : mm_get lv j = some w) : mm_get (lv.filter f) j = some w := by
  unfold mm_get at h ⊢
  induction lv with
  | nil => cases h
  | cons q lv ih =>
    rw [List.find?_cons] at h
    rw [List.filter_cons]
    by_cases hqj : q.1 = j
    · have e3 : (q.1 == j) = true := beq_iff_eq.mpr hqj
      rw [e3] at h
      have hq2 : q.2 = w := Option.some.inj h
      rw [if_pos (hf q hqj hq2), List.find?_cons, e3]
      exact h
    · have e3 : (q.1 == j) = false := beq_eq_false_iff_ne.mpr hqj
      rw [e3] at h
      split
      · rw [List.find?_cons, e3]
        exact ih h
      · exact ih h
theorem bh_hd {i j : Nat} {v : Value} {lv : mm_V} (h : j ≠ i) : mm_get ((i, v) :: lv) j = mm_get lv j := by
  unfold mm_get
  rw [List.find?_cons]
  have e : ((i, v).1 == j) = false := beq_eq_false_iff_ne.mpr (fun e => h e.symm)
  rw [e]
theorem bh_h0 {i : Nat} {v : Value} {lv : mm_V} : mm_get ((i, v) :: lv) i = some v := by
  unfold mm_get
  rw [List.find?_cons]
  have e : ((i, v).1 == i) = true := beq_iff_eq.mpr rfl
  rw [e]
  rfl
theorem bh_p1 {i j : Nat} {v w : Value} {lv : mm_V} (h : mm_get lv j = some w) (hij : j ≠ i) (hw : w.category = 1 ∨ j + 1 ≠ i) : mm_get (mm_p1 lv i v) j = some w := by
  unfold mm_p1
  rw [bh_hd hij]
  refine bh_find (i := i) (fun q hq hq2 => ?_) h
  have e1 : (q.1 == i) = false := beq_eq_false_iff_ne.mpr (fun e => hij (hq.symm.trans e))
  rw [e1]
  rcases hw with hw | hw
  · have e2 : (q.2.category == 2) = false := by rw [hq2, hw]; rfl
    rw [e2, Bool.and_false]
    rfl
  · have e2 : (q.1 + 1 == i) = false := beq_eq_false_iff_ne.mpr (fun e => hw (by rw [← hq]; exact e))
    rw [e2]
    rfl
theorem bh_p2 {i j : Nat} {v w : Value} {lv : mm_V} (h : mm_get lv j = some w) (hij : j ≠ i) (hij2 : j ≠ i + 1) (hw : w.category = 1 ∨ j + 1 ≠ i) : mm_get (mm_p2 lv i v) j = some w := by
  unfold mm_p2
  rw [bh_hd hij]
  refine bh_find (i := i) (fun q hq hq2 => ?_) h
  have e1 : (q.1 == i) = false := beq_eq_false_iff_ne.mpr (fun e => hij (hq.symm.trans e))
  have e4 : (q.1 == i + 1) = false := beq_eq_false_iff_ne.mpr (fun e => hij2 (hq.symm.trans e))
  rw [e1, e4]
  rcases hw with hw | hw
  · have e2 : (q.2.category == 2) = false := by rw [hq2, hw]; rfl
    rw [e2, Bool.and_false]
    rfl
  · have e2 : (q.1 + 1 == i) = false := beq_eq_false_iff_ne.mpr (fun e => hw (by rw [← hq]; exact e))
    rw [e2]
    rfl
theorem bh_inr {i : Int32} {n : Nat} (h1 : 0 ≤ i.toInt) (h2 : i.toInt < n) : mm_inr i n = true := by
  unfold mm_inr
  simp only [Bool.and_eq_true, decide_eq_true_eq]
  exact ⟨h1, h2⟩
section BH
variable {T : bh_T} {E : mm_E} {FIN : mm_C → Prop} {h0 h : mm_H} {s : Nat → Int32} {A : Nat → Nat → Int32} {L : Nat → Nat → Int64} {m pc pc' pc0 len a b wd nL : Nat} {dd : mm_M} {z : Int} {ins : Instr} {lv lv' : mm_V} {st st' r : List Value} {gs : List mm_F} {o : Option Value}
/-- an int field is written -/
theorem bh_setf (hP : bh_P T E h0 h s A L) {k : Nat} (hk : k ∈ T.2.1) (v : Int32) : ∃ fs : List Value, h[88]? = some (.inr (9, fs)) ∧ k < fs.length ∧ bh_P T E h0 (h.set 88 (.inr (9, fs.set k (.int v)))) (upd s k v) A L := by
  obtain ⟨hW, hl, ⟨fs0, fs, a1, a2, a3, a4, a5, a6⟩, hA, hL, hF⟩ := hP
  have h88 : 88 < h.length := by rw [hl]; decide
  have hkl : k < fs.length := (List.getElem?_eq_some_iff.mp (a6 k hk)).1
  refine ⟨fs, a2, hkl, hW, by rw [List.length_set]; exact hl, ⟨fs0, fs.set k (.int v), a1, List.getElem?_set_self h88, by rw [List.length_set]; exact a3, fun j hj => ?_, fun p hp => ?_, fun j hj => ?_⟩, fun q hq => ?_, fun q hq => ?_, fun j j1 j2 j3 => ?_⟩
  · rw [List.getElem?_set_ne (fun e => hj (by rw [← e]; exact hk))]
    exact a4 j hj
  · rw [List.getElem?_set_ne (fun e => hW.2.2.2.2.2 p hp k hk e.symm)]
    exact a5 p hp
  · by_cases e : k = j
    · subst e
      rw [List.getElem?_set_self hkl]
      unfold upd
      rw [if_pos rfl]
    · rw [List.getElem?_set_ne e]
      unfold upd
      rw [if_neg (fun g => e g.symm)]
      exact a6 j hj
  · rw [List.getElem?_set_ne (fun e => hW.1 q hq e.symm)]
    exact hA q hq
  · rw [List.getElem?_set_ne (fun e => hW.2.1 q hq e.symm)]
    exact hL q hq
  · rw [List.getElem?_set_ne (fun e => j1 e.symm)]
    exact hF j j1 j2 j3
/-- an element of an int array is written -/
theorem bh_seta (hP : bh_P T E h0 h s A L) {q : Nat × Nat × Nat} (hq : q ∈ T.2.2.1) (i : Nat) (v : Int32) : bh_P T E h0 (h.set q.1 (.inl (q.2.1, q.2.2, .inl (upd (A q.1) i v)))) s (bh_up A q.1 i v) L := by
  obtain ⟨hW, hl, ⟨fs0, fs, a1, a2, a3, a4, a5, a6⟩, hA, hL, hF⟩ := hP
  have hql : q.1 < h.length := (List.getElem?_eq_some_iff.mp (hA q hq)).1
  refine ⟨hW, by rw [List.length_set]; exact hl, ⟨fs0, fs, a1, ?_, a3, a4, a5, a6⟩, fun p hp => ?_, fun p hp => ?_, fun j j1 j2 j3 => ?_⟩
  · rw [List.getElem?_set_ne (hW.1 q hq)]
    exact a2
  · by_cases e : q.1 = p.1
    · have e2 := hW.2.2.1 q hq p hp e
      subst e2
      rw [List.getElem?_set_self hql, bh_up_eq]
    · rw [List.getElem?_set_ne e, bh_up_ne (fun g => e g.symm)]
      exact hA p hp
  · rw [List.getElem?_set_ne (hW.2.2.2.2.1 q hq p hp)]
    exact hL p hp
  · rw [List.getElem?_set_ne (j2 q hq)]
    exact hF j j1 j2 j3
theorem bh_setl (hP : bh_P T E h0 h s A L) {q : Nat × Nat} (hq : q ∈ T.2.2.2) (i : Nat) (v : Int64) : bh_P T E h0 (h.set q.1 (.inl (3, q.2, .inr (.inl (vp_updL (L q.1) i v))))) s A (bh_upL L q.1 i v) := by
  obtain ⟨hW, hl, ⟨fs0, fs, a1, a2, a3, a4, a5, a6⟩, hA, hL, hF⟩ := hP
  have hql : q.1 < h.length := (List.getElem?_eq_some_iff.mp (hL q hq)).1
  refine ⟨hW, by rw [List.length_set]; exact hl, ⟨fs0, fs, a1, ?_, a3, a4, a5, a6⟩, fun p hp => ?_, fun p hp => ?_, fun j j1 j2 j3 => ?_⟩
  · rw [List.getElem?_set_ne (hW.2.1 q hq)]
    exact a2
  · rw [List.getElem?_set_ne (fun e => hW.2.2.2.2.1 p hp q hq e.symm)]
    exact hA p hp
  · by_cases e : q.1 = p.1
    · have e2 := hW.2.2.2.1 q hq p hp e
      subst e2
      rw [List.getElem?_set_self hql]
      unfold bh_upL
      rw [if_pos rfl]
    · rw [List.getElem?_set_ne e]
      unfold bh_upL
      rw [if_neg (fun g => e g.symm)]
      exact hL p hp
  · rw [List.getElem?_set_ne (j3 q hq)]
    exact hF j j1 j2 j3
/-- a simple step -/
theorem bh_s1 {h' : mm_H} (hat : mm_at mt_P m pc = some ((pc0, len, ins, a, b, z, wd), nL, dd)) (hi : mm_inv ins = none) (hr : mm_rtn ins = none) (hx : mm_ex E mt_kds nL ins len a b z pc lv st 0 0 h = some (pc', lv', st', 0, 0, h')) (g : bh_G E FIN ((m, pc', lv', st', 0, 0) :: gs, h', none)) : bh_G E FIN ((m, pc, lv, st, 0, 0) :: gs, h, o) := by
  obtain ⟨np, kd, ci, rk, mc, ms⟩ := dd
  exact en_good_step (by simp only [mm_stp, hat, hi, hr, hx]) g
theorem bh_ld {kd i : Nat} {v : Value} (hat : mm_at mt_P m pc = some ((pc0, len, ins, a, b, z, wd), nL, dd)) (hi : mm_inv ins = none) (hr : mm_rtn ins = none) (hl : ∀ (lv : mm_V) (st : List Value) (h : mm_H), mm_ex E mt_kds nL ins len a b z pc lv st 0 0 h = mm_load lv st 0 0 h pc' kd i) (hv : mm_get lv i = some v) (hk : mm_kind v = kd) (g : bh_G E FIN ((m, pc', lv, v :: st, 0, 0) :: gs, h, none)) : bh_G E FIN ((m, pc, lv, st, 0, 0) :: gs, h, o) := by
  refine bh_s1 hat hi hr ?_ g
  rw [hl]
  unfold mm_load
  rw [hv]
  simp only []
  rw [if_pos hk]
theorem bh_st {kd i : Nat} {v : Value} (hat : mm_at mt_P m pc = some ((pc0, len, ins, a, b, z, wd), nL, dd)) (hi : mm_inv ins = none) (hr : mm_rtn ins = none) (hl : ∀ (lv : mm_V) (st : List Value) (h : mm_H), mm_ex E mt_kds nL ins len a b z pc lv st 0 0 h = mm_store nL lv st 0 0 h pc' kd i) (hk : mm_kind v = kd) (hkd : kd ≠ 1) (hil : i < nL) (g : ∀ lv' : mm_V, (∀ (j : Nat) (w : Value), mm_get lv j = some w → j ≠ i → (w.category = 1 ∨ j + 1 ≠ i) → mm_get lv' j = some w) → mm_get lv' i = some v → bh_G E FIN ((m, pc', lv', r, 0, 0) :: gs, h, none)) : bh_G E FIN ((m, pc, lv, v :: r, 0, 0) :: gs, h, o) := by
  refine bh_s1 hat hi hr (lv' := mm_p1 lv i v) (st' := r) (h' := h) ?_ (g _ (fun j w h1 h2 h3 => bh_p1 h1 h2 h3) bh_h0)
  rw [hl]
  unfold mm_store
  simp only []
  rw [if_pos hk, if_neg hkd, if_pos hil]
theorem bh_stL {i : Nat} {x : Int64} (hat : mm_at mt_P m pc = some ((pc0, len, ins, a, b, z, wd), nL, dd)) (hi : mm_inv ins = none) (hr : mm_rtn ins = none) (hl : ∀ (lv : mm_V) (st : List Value) (h : mm_H), mm_ex E mt_kds nL ins len a b z pc lv st 0 0 h = mm_store nL lv st 0 0 h pc' 1 i) (hil : i + 1 < nL) (g : ∀ lv' : mm_V, (∀ (j : Nat) (w : Value), mm_get lv j = some w → j ≠ i → j ≠ i + 1 → (w.category = 1 ∨ j + 1 ≠ i) → mm_get lv' j = some w) → mm_get lv' i = some (.long x) → bh_G E FIN ((m, pc', lv', r, 0, 0) :: gs, h, none)) : bh_G E FIN ((m, pc, lv, .long x :: r, 0, 0) :: gs, h, o) := by
  refine bh_s1 hat hi hr (lv' := mm_p2 lv i (.long x)) (st' := r) (h' := h) ?_ (g _ (fun j w h1 h2 h4 h3 => bh_p2 h1 h2 h4 h3) bh_h0)
  rw [hl]
  unfold mm_store
  simp only []
  rw [if_pos (show mm_kind (Value.long x) = 1 from rfl), if_pos trivial, if_pos hil]
theorem bh_inc {i : Nat} {n : Int} {x : Int32} (hat : mm_at mt_P m pc = some ((pc0, len, .iinc i n, a, b, z, wd), nL, dd)) (hp : pc + len = pc') (hil : i < nL) (hv : mm_get lv i = some (.int x)) (h1 : -2147483648 ≤ n ∧ n < 2147483648) (h2 : -2147483648 ≤ x.toInt + n) (h3 : x.toInt + n < 2147483648) (g : ∀ (lv' : mm_V) (y : Int32), (∀ (j : Nat) (w : Value), mm_get lv j = some w → j ≠ i → (w.category = 1 ∨ j + 1 ≠ i) → mm_get lv' j = some w) → mm_get lv' i = some (.int y) → y.toInt = x.toInt + n → bh_G E FIN ((m, pc', lv', st, 0, 0) :: gs, h, none)) : bh_G E FIN ((m, pc, lv, st, 0, 0) :: gs, h, o) := by
  refine bh_s1 hat rfl rfl (lv' := mm_p1 lv i (.int (x + Int32.ofInt n))) (st' := st) (h' := h) ?_ (g _ _ (fun j w h1 h2 h3 => bh_p1 h1 h2 h3) bh_h0 ?_)
  · simp only [mm_ex, hv, if_pos hil, hp]
  · have e1 : (Int32.ofInt n).toInt = n := Int32.toInt_ofInt_of_le (by omega) (by omega)
    rw [Int32.toInt_add, e1]
    exact Int.bmod_eq_of_le (by omega) (by omega)
theorem bh_c {c : Int32} {n : Int} (hat : mm_at mt_P m pc = some ((pc0, len, ins, a, b, z, wd), nL, dd)) (hi : mm_inv ins = none) (hr : mm_rtn ins = none) (hl : ∀ (lv : mm_V) (st : List Value) (h : mm_H), mm_ex E mt_kds nL ins len a b z pc lv st 0 0 h = some (pc', lv, .int c :: st, 0, 0, h)) (hc : c.toInt = n) (g : ∀ v : Int32, v.toInt = n → bh_G E FIN ((m, pc', lv, .int v :: st, 0, 0) :: gs, h, none)) : bh_G E FIN ((m, pc, lv, st, 0, 0) :: gs, h, o) :=
  bh_s1 hat hi hr (hl lv st h) (g c hc)
theorem bh_cL {x : Int64} (hat : mm_at mt_P m pc = some ((pc0, len, ins, a, b, z, wd), nL, dd)) (hi : mm_inv ins = none) (hr : mm_rtn ins = none) (hl : ∀ (lv : mm_V) (st : List Value) (h : mm_H), mm_ex E mt_kds nL ins len a b z pc lv st 0 0 h = some (pc', lv, .long x :: st, 0, 0, h)) (g : ∀ x : Int64, bh_G E FIN ((m, pc', lv, .long x :: st, 0, 0) :: gs, h, none)) : bh_G E FIN ((m, pc, lv, st, 0, 0) :: gs, h, o) :=
  bh_s1 hat hi hr (hl lv st h) (g x)
theorem bh_gi {k : Nat} {v : Int32} (hat : mm_at mt_P m pc = some ((pc0, len, ins, a, b, z, wd), nL, dd)) (hi : mm_inv ins = none) (hr : mm_rtn ins = none) (hl : ∀ (lv : mm_V) (st : List Value) (h : mm_H), mm_ex E mt_kds nL ins len a b z pc lv st 0 0 h = mm_getf E lv st 0 0 h pc' 9 k) (hP : bh_P T E h0 h s A L) (hk : k ∈ T.2.1) (hv : s k = v) (g : bh_G E FIN ((m, pc', lv, .int v :: st, 0, 0) :: gs, h, none)) : bh_G E FIN ((m, pc, lv, .ref (E.1 + 88) :: st, 0, 0) :: gs, h, o) := by
  refine bh_s1 hat hi hr ?_ g
  obtain ⟨fs0, fs, a1, a2, a3, a4, a5, a6⟩ := hP.2.2.1
  rw [hl]
  simp only [mm_getf, bh_cell, a2, if_true, a6 k hk, hv]
theorem bh_gr {k c : Nat} (hat : mm_at mt_P m pc = some ((pc0, len, ins, a, b, z, wd), nL, dd)) (hi : mm_inv ins = none) (hr : mm_rtn ins = none) (hl : ∀ (lv : mm_V) (st : List Value) (h : mm_H), mm_ex E mt_kds nL ins len a b z pc lv st 0 0 h = mm_getf E lv st 0 0 h pc' 9 k) (hP : bh_P T E h0 h s A L) (hk : (k, c) ∈ T.1) (g : bh_G E FIN ((m, pc', lv, .ref (E.1 + c) :: st, 0, 0) :: gs, h, none)) : bh_G E FIN ((m, pc, lv, .ref (E.1 + 88) :: st, 0, 0) :: gs, h, o) := by
  refine bh_s1 hat hi hr ?_ g
  obtain ⟨fs0, fs, a1, a2, a3, a4, a5, a6⟩ := hP.2.2.1
  rw [hl]
  have e := a5 (k, c) hk
  simp only at e
  simp only [mm_getf, bh_cell, a2, if_true, e]
theorem bh_pf {k kd : Nat} {v : Int32} (hat : mm_at mt_P m pc = some ((pc0, len, ins, a, b, z, wd), nL, dd)) (hi : mm_inv ins = none) (hr : mm_rtn ins = none) (hl : ∀ (lv : mm_V) (st : List Value) (h : mm_H), mm_ex E mt_kds nL ins len a b z pc lv st 0 0 h = mm_putf E lv st 0 0 h pc' 9 k kd) (hP : bh_P T E h0 h s A L) (hk : k ∈ T.2.1) (hf : mm_fits kd (.int v) = true) (g : ∀ (h' : mm_H) (s' : Nat → Int32), bh_P T E h0 h' s' A L → s' k = v → (∀ j, j ≠ k → s' j = s j) → bh_G E FIN ((m, pc', lv, st, 0, 0) :: gs, h', none)) : bh_G E FIN ((m, pc, lv, .int v :: .ref (E.1 + 88) :: st, 0, 0) :: gs, h, o) := by
  obtain ⟨fs, a2, hkl, hP2⟩ := bh_setf hP hk v
  refine bh_s1 hat hi hr (lv' := lv) (st' := st) (h' := h.set 88 (.inr (9, fs.set k (.int v)))) ?_ (g _ (upd s k v) hP2 (if_pos rfl) (fun j hj => if_neg hj))
  rw [hl]
  simp only [mm_putf, bh_cell, a2, true_and, if_pos (And.intro hkl hf), Nat.add_sub_cancel_left]
theorem bh_ia {kd kd2 c t n : Nat} {I : Int32} (hat : mm_at mt_P m pc = some ((pc0, len, ins, a, b, z, wd), nL, dd)) (hi : mm_inv ins = none) (hr : mm_rtn ins = none) (hl : ∀ (lv : mm_V) (st : List Value) (h : mm_H), mm_ex E mt_kds nL ins len a b z pc lv st 0 0 h = mm_ald E lv st 0 0 h pc' kd kd2) (hP : bh_P T E h0 h s A L) (hq : (c, t, n) ∈ T.2.2.1) (ht : t = kd ∨ t = kd2) (h1 : 0 ≤ I.toInt) (h2 : I.toInt < n) (g : bh_G E FIN ((m, pc', lv, .int (A c I.toInt.toNat) :: st, 0, 0) :: gs, h, none)) : bh_G E FIN ((m, pc, lv, .int I :: .ref (E.1 + c) :: st, 0, 0) :: gs, h, o) := by
  refine bh_s1 hat hi hr ?_ g
  have e := hP.2.2.2.1 (c, t, n) hq
  simp only at e
  rw [hl]
  simp only [mm_ald, bh_cell, e]
  rw [if_pos ⟨ht, bh_inr h1 h2⟩]
  rfl
theorem bh_ias {kd kd2 c t n : Nat} {I v : Int32} (hat : mm_at mt_P m pc = some ((pc0, len, ins, a, b, z, wd), nL, dd)) (hi : mm_inv ins = none) (hr : mm_rtn ins = none) (hl : ∀ (lv : mm_V) (st : List Value) (h : mm_H), mm_ex E mt_kds nL ins len a b z pc lv st 0 0 h = mm_ast E lv st 0 0 h pc' kd kd2) (hP : bh_P T E h0 h s A L) (hq : (c, t, n) ∈ T.2.2.1) (ht : t = kd ∨ t = kd2) (h1 : 0 ≤ I.toInt) (h2 : I.toInt < n) (g : ∀ h' : mm_H, bh_P T E h0 h' s (bh_up A c I.toInt.toNat (mm_nar t v)) L → bh_G E FIN ((m, pc', lv, st, 0, 0) :: gs, h', none)) : bh_G E FIN ((m, pc, lv, .int v :: .int I :: .ref (E.1 + c) :: st, 0, 0) :: gs, h, o) := by
  refine bh_s1 hat hi hr (lv' := lv) (st' := st) (h' := h.set c (.inl (t, n, .inl (upd (A c) I.toInt.toNat (mm_nar t v))))) ?_ (g _ (bh_seta hP (q := (c, t, n)) hq I.toInt.toNat (mm_nar t v)))
  have e := hP.2.2.2.1 (c, t, n) hq
  simp only at e
  rw [hl]
  simp only [mm_ast, bh_cell, e]
  rw [if_pos ⟨ht, bh_inr h1 h2⟩, Nat.add_sub_cancel_left]
  rfl
theorem bh_la {c n : Nat} {I : Int32} (hat : mm_at mt_P m pc = some ((pc0, len, ins, a, b, z, wd), nL, dd)) (hi : mm_inv ins = none) (hr : mm_rtn ins = none) (hl : ∀ (lv : mm_V) (st : List Value) (h : mm_H), mm_ex E mt_kds nL ins len a b z pc lv st 0 0 h = mm_lald E lv st 0 0 h pc') (hP : bh_P T E h0 h s A L) (hq : (c, n) ∈ T.2.2.2) (h1 : 0 ≤ I.toInt) (h2 : I.toInt < n) (g : ∀ x : Int64, bh_G E FIN ((m, pc', lv, .long x :: st, 0, 0) :: gs, h, none)) : bh_G E FIN ((m, pc, lv, .int I :: .ref (E.1 + c) :: st, 0, 0) :: gs, h, o) := by
  refine bh_s1 hat hi hr ?_ (g (L c I.toInt.toNat))
  have e := hP.2.2.2.2.1 (c, n) hq
  simp only at e
  rw [hl]
  simp only [mm_lald, bh_cell, e]
  rw [if_pos ⟨trivial, bh_inr h1 h2⟩]
  rfl
theorem bh_las {c n : Nat} {I : Int32} {x : Int64} (hat : mm_at mt_P m pc = some ((pc0, len, ins, a, b, z, wd), nL, dd)) (hi : mm_inv ins = none) (hr : mm_rtn ins = none) (hl : ∀ (lv : mm_V) (st : List Value) (h : mm_H), mm_ex E mt_kds nL ins len a b z pc lv st 0 0 h = mm_last E lv st 0 0 h pc') (hP : bh_P T E h0 h s A L) (hq : (c, n) ∈ T.2.2.2) (h1 : 0 ≤ I.toInt) (h2 : I.toInt < n) (g : ∀ (h' : mm_H) (L' : Nat → Nat → Int64), bh_P T E h0 h' s A L' → bh_G E FIN ((m, pc', lv, st, 0, 0) :: gs, h', none)) : bh_G E FIN ((m, pc, lv, .long x :: .int I :: .ref (E.1 + c) :: st, 0, 0) :: gs, h, o) := by
  refine bh_s1 hat hi hr (lv' := lv) (st' := st) (h' := h.set c (.inl (3, n, .inr (.inl (vp_updL (L c) I.toInt.toNat x))))) ?_ (g _ _ (bh_setl hP (q := (c, n)) hq I.toInt.toNat x))
  have e := hP.2.2.2.2.1 (c, n) hq
  simp only at e
  rw [hl]
  simp only [mm_last, bh_cell, e]
  rw [if_pos ⟨trivial, bh_inr h1 h2⟩, Nat.add_sub_cancel_left]
  rfl
theorem bh_bin {x y v : Int32} {f : Int32 → Int32 → Option Int32} (hat : mm_at mt_P m pc = some ((pc0, len, ins, a, b, z, wd), nL, dd)) (hi : mm_inv ins = none) (hr : mm_rtn ins = none) (hl : ∀ (lv : mm_V) (st : List Value) (h : mm_H), mm_ex E mt_kds nL ins len a b z pc lv st 0 0 h = mm_bin lv st 0 0 h pc' f) (hf : f x y = some v) (g : bh_G E FIN ((m, pc', lv, .int v :: st, 0, 0) :: gs, h, none)) : bh_G E FIN ((m, pc, lv, .int y :: .int x :: st, 0, 0) :: gs, h, o) := by
  refine bh_s1 hat hi hr ?_ g
  rw [hl]
  simp only [mm_bin, hf, Option.map_some]
theorem bh_add {x y : Int32} (hat : mm_at mt_P m pc = some ((pc0, len, .iadd, a, b, z, wd), nL, dd)) (hp : pc + len = pc') (h1 : -2147483648 ≤ x.toInt + y.toInt) (h2 : x.toInt + y.toInt < 2147483648) (g : ∀ v : Int32, v.toInt = x.toInt + y.toInt → bh_G E FIN ((m, pc', lv, .int v :: st, 0, 0) :: gs, h, none)) : bh_G E FIN ((m, pc, lv, .int y :: .int x :: st, 0, 0) :: gs, h, o) := by
  subst hp
  refine bh_bin (v := x + y) hat rfl rfl (fun _ _ _ => rfl) rfl (g _ ?_)
  rw [Int32.toInt_add]
  exact Int.bmod_eq_of_le (by omega) (by omega)
theorem bh_sub {x y : Int32} (hat : mm_at mt_P m pc = some ((pc0, len, .isub, a, b, z, wd), nL, dd)) (hp : pc + len = pc') (h1 : -2147483648 ≤ x.toInt - y.toInt) (h2 : x.toInt - y.toInt < 2147483648) (g : ∀ v : Int32, v.toInt = x.toInt - y.toInt → bh_G E FIN ((m, pc', lv, .int v :: st, 0, 0) :: gs, h, none)) : bh_G E FIN ((m, pc, lv, .int y :: .int x :: st, 0, 0) :: gs, h, o) := by
  subst hp
  refine bh_bin (v := x - y) hat rfl rfl (fun _ _ _ => rfl) rfl (g _ ?_)
  rw [Int32.toInt_sub]
  exact Int.bmod_eq_of_le (by omega) (by omega)
theorem bh_mul {x y : Int32} (hat : mm_at mt_P m pc = some ((pc0, len, .imul, a, b, z, wd), nL, dd)) (hp : pc + len = pc') (h1 : -2147483648 ≤ x.toInt * y.toInt) (h2 : x.toInt * y.toInt < 2147483648) (g : ∀ v : Int32, v.toInt = x.toInt * y.toInt → bh_G E FIN ((m, pc', lv, .int v :: st, 0, 0) :: gs, h, none)) : bh_G E FIN ((m, pc, lv, .int y :: .int x :: st, 0, 0) :: gs, h, o) := by
  subst hp
  refine bh_bin (v := x * y) hat rfl rfl (fun _ _ _ => rfl) rfl (g _ ?_)
  rw [Int32.toInt_mul]
  exact Int.bmod_eq_of_le (by omega) (by omega)
theorem bh_addA {x y : Int32} (hat : mm_at mt_P m pc = some ((pc0, len, .iadd, a, b, z, wd), nL, dd)) (hp : pc + len = pc') (g : ∀ v : Int32, bh_G E FIN ((m, pc', lv, .int v :: st, 0, 0) :: gs, h, none)) : bh_G E FIN ((m, pc, lv, .int y :: .int x :: st, 0, 0) :: gs, h, o) := by
  subst hp
  exact bh_bin (v := x + y) hat rfl rfl (fun _ _ _ => rfl) rfl (g _)
theorem bh_subA {x y : Int32} (hat : mm_at mt_P m pc = some ((pc0, len, .isub, a, b, z, wd), nL, dd)) (hp : pc + len = pc') (g : ∀ v : Int32, bh_G E FIN ((m, pc', lv, .int v :: st, 0, 0) :: gs, h, none)) : bh_G E FIN ((m, pc, lv, .int y :: .int x :: st, 0, 0) :: gs, h, o) := by
  subst hp
  exact bh_bin (v := x - y) hat rfl rfl (fun _ _ _ => rfl) rfl (g _)
theorem bh_mulA {x y : Int32} (hat : mm_at mt_P m pc = some ((pc0, len, .imul, a, b, z, wd), nL, dd)) (hp : pc + len = pc') (g : ∀ v : Int32, bh_G E FIN ((m, pc', lv, .int v :: st, 0, 0) :: gs, h, none)) : bh_G E FIN ((m, pc, lv, .int y :: .int x :: st, 0, 0) :: gs, h, o) := by
  subst hp
  exact bh_bin (v := x * y) hat rfl rfl (fun _ _ _ => rfl) rfl (g _)
theorem bh_andA {x y : Int32} (hat : mm_at mt_P m pc = some ((pc0, len, .iand, a, b, z, wd), nL, dd)) (hp : pc + len = pc') (g : ∀ v : Int32, bh_G E FIN ((m, pc', lv, .int v :: st, 0, 0) :: gs, h, none)) : bh_G E FIN ((m, pc, lv, .int y :: .int x :: st, 0, 0) :: gs, h, o) := by
  subst hp
  exact bh_bin (v := x &&& y) hat rfl rfl (fun _ _ _ => rfl) rfl (g _)
theorem bh_divA {x y : Int32} (hat : mm_at mt_P m pc = some ((pc0, len, .idiv, a, b, z, wd), nL, dd)) (hp : pc + len = pc') (hy : y.toInt ≠ 0) (g : ∀ v : Int32, bh_G E FIN ((m, pc', lv, .int v :: st, 0, 0) :: gs, h, none)) : bh_G E FIN ((m, pc, lv, .int y :: .int x :: st, 0, 0) :: gs, h, o) := by
  subst hp
  refine bh_bin (v := x / y) (f := fun x y => if y = 0 then none else some (x / y)) hat rfl rfl (fun _ _ _ => rfl) ?_ (g _)
  exact if_neg (fun e => hy (by rw [e]; rfl))
theorem bh_jmp {off : Int} {lv : mm_V} {st : List Value} {h : mm_H} (hq : (pc : Int) + off = (pc' : Int)) : mm_jump lv st 0 0 h pc off = some (pc', lv, st, 0, 0, h) := by
  unfold mm_jump
  rw [hq, if_pos (Int.natCast_nonneg _), Int.toNat_natCast]
theorem bh_go {off : Int} (hat : mm_at mt_P m pc = some ((pc0, len, .goto off, a, b, z, wd), nL, dd)) (hq : (pc : Int) + off = (pc' : Int)) (g : bh_G E FIN ((m, pc', lv, st, 0, 0) :: gs, h, none)) : bh_G E FIN ((m, pc, lv, st, 0, 0) :: gs, h, o) :=
  bh_s1 hat rfl rfl (bh_jmp hq) g
/-- a condition in words of whole numbers -/
def bh_cd (k : Jvm.ClassFile.Cond) (x y : Int32) : Prop := match k with
  | .eq => x.toInt = y.toInt
  | .ne => x.toInt ≠ y.toInt
  | .lt => x.toInt < y.toInt
  | .ge => y.toInt ≤ x.toInt
  | .gt => y.toInt < x.toInt
  | .le => x.toInt ≤ y.toInt
theorem bh_cd_iff {k : Jvm.ClassFile.Cond} {x y : Int32} : mm_cond k x y = true ↔ bh_cd k x y := by
  cases k <;> simp only [mm_cond, bh_cd, decide_eq_true_eq]
  · exact Int32.toInt_inj.symm
  · exact not_congr Int32.toInt_inj.symm
  · exact Int32.lt_iff_toInt_lt
  · exact Int32.le_iff_toInt_le
  · exact Int32.lt_iff_toInt_lt
  · exact Int32.le_iff_toInt_le
theorem bh_ic {k : Jvm.ClassFile.Cond} {off : Int} {x y : Int32} {pt : Nat} (hat : mm_at mt_P m pc = some ((pc0, len, .if_icmp k off, a, b, z, wd), nL, dd)) (hp : pc + len = pc') (hq : (pc : Int) + off = (pt : Int)) (g1 : bh_cd k x y → bh_G E FIN ((m, pt, lv, st, 0, 0) :: gs, h, none)) (g2 : ¬ bh_cd k x y → bh_G E FIN ((m, pc', lv, st, 0, 0) :: gs, h, none)) : bh_G E FIN ((m, pc, lv, .int y :: .int x :: st, 0, 0) :: gs, h, o) := by
  subst hp
  by_cases hc : mm_cond k x y = true
  · refine bh_s1 hat rfl rfl ?_ (g1 (bh_cd_iff.mp hc))
    simp only [mm_ex]
    rw [if_pos hc]
    exact bh_jmp hq
  · refine bh_s1 hat rfl rfl ?_ (g2 (fun e => hc (bh_cd_iff.mpr e)))
    simp only [mm_ex]
    rw [if_neg hc]
theorem bh_i0 {k : Jvm.ClassFile.Cond} {off : Int} {x : Int32} {pt : Nat} (hat : mm_at mt_P m pc = some ((pc0, len, .ifCond k off, a, b, z, wd), nL, dd)) (hp : pc + len = pc') (hq : (pc : Int) + off = (pt : Int)) (g1 : bh_cd k x 0 → bh_G E FIN ((m, pt, lv, st, 0, 0) :: gs, h, none)) (g2 : ¬ bh_cd k x 0 → bh_G E FIN ((m, pc', lv, st, 0, 0) :: gs, h, none)) : bh_G E FIN ((m, pc, lv, .int x :: st, 0, 0) :: gs, h, o) := by
  subst hp
  by_cases hc : mm_cond k x 0 = true
  · refine bh_s1 hat rfl rfl ?_ (g1 (bh_cd_iff.mp hc))
    simp only [mm_ex]
    rw [if_pos hc]
    exact bh_jmp hq
  · refine bh_s1 hat rfl rfl ?_ (g2 (fun e => hc (bh_cd_iff.mpr e)))
    simp only [mm_ex]
    rw [if_neg hc]
theorem bh_dup {v : Value} (hat : mm_at mt_P m pc = some ((pc0, len, .dup, a, b, z, wd), nL, dd)) (hp : pc + len = pc') (hv : v.category = 1) (g : bh_G E FIN ((m, pc', lv, v :: v :: st, 0, 0) :: gs, h, none)) : bh_G E FIN ((m, pc, lv, v :: st, 0, 0) :: gs, h, o) := by
  subst hp
  refine bh_s1 hat rfl rfl ?_ g
  simp only [mm_ex]
  rw [if_pos hv]
theorem bh_pop {v : Value} (hat : mm_at mt_P m pc = some ((pc0, len, .pop, a, b, z, wd), nL, dd)) (hp : pc + len = pc') (hv : v.category = 1) (g : bh_G E FIN ((m, pc', lv, st, 0, 0) :: gs, h, none)) : bh_G E FIN ((m, pc, lv, v :: st, 0, 0) :: gs, h, o) := by
  subst hp
  refine bh_s1 hat rfl rfl ?_ g
  simp only [mm_ex]
  rw [if_pos hv]
theorem bh_lb {x y : Int64} {f : Int64 → Int64 → Value} (hat : mm_at mt_P m pc = some ((pc0, len, ins, a, b, z, wd), nL, dd)) (hi : mm_inv ins = none) (hr : mm_rtn ins = none) (hl : ∀ (lv : mm_V) (st : List Value) (h : mm_H), mm_ex E mt_kds nL ins len a b z pc lv st 0 0 h = mm_binL lv st 0 0 h pc' f) (g : bh_G E FIN ((m, pc', lv, f x y :: st, 0, 0) :: gs, h, none)) : bh_G E FIN ((m, pc, lv, .long y :: .long x :: st, 0, 0) :: gs, h, o) := by
  refine bh_s1 hat hi hr ?_ g
  rw [hl]
  rfl
theorem bh_ladd {x y : Int64} (hat : mm_at mt_P m pc = some ((pc0, len, .ladd, a, b, z, wd), nL, dd)) (hp : pc + len = pc') (g : ∀ x : Int64, bh_G E FIN ((m, pc', lv, .long x :: st, 0, 0) :: gs, h, none)) : bh_G E FIN ((m, pc, lv, .long y :: .long x :: st, 0, 0) :: gs, h, o) := by
  subst hp
  exact bh_lb (f := fun x y => .long (x + y)) hat rfl rfl (fun _ _ _ => rfl) (g _)
theorem bh_lmul {x y : Int64} (hat : mm_at mt_P m pc = some ((pc0, len, .lmul, a, b, z, wd), nL, dd)) (hp : pc + len = pc') (g : ∀ x : Int64, bh_G E FIN ((m, pc', lv, .long x :: st, 0, 0) :: gs, h, none)) : bh_G E FIN ((m, pc, lv, .long y :: .long x :: st, 0, 0) :: gs, h, o) := by
  subst hp
  exact bh_lb (f := fun x y => .long (x * y)) hat rfl rfl (fun _ _ _ => rfl) (g _)
theorem bh_lcmp {x y : Int64} (hat : mm_at mt_P m pc = some ((pc0, len, .lcmp, a, b, z, wd), nL, dd)) (hp : pc + len = pc') (g : ∀ x : Int32, bh_G E FIN ((m, pc', lv, .int x :: st, 0, 0) :: gs, h, none)) : bh_G E FIN ((m, pc, lv, .long y :: .long x :: st, 0, 0) :: gs, h, o) := by
  subst hp
  exact bh_lb (f := fun x y => .int (lg_cmp x y)) hat rfl rfl (fun _ _ _ => rfl) (g _)
theorem bh_i2l {x : Int32} (hat : mm_at mt_P m pc = some ((pc0, len, .i2l, a, b, z, wd), nL, dd)) (hp : pc + len = pc') (g : ∀ x : Int64, bh_G E FIN ((m, pc', lv, .long x :: st, 0, 0) :: gs, h, none)) : bh_G E FIN ((m, pc, lv, .int x :: st, 0, 0) :: gs, h, o) := by
  subst hp
  exact bh_s1 hat rfl rfl rfl (g _)
/-- a call of a method of the object -/
theorem bh_cv {args : List Value} {x np nLk rk : Nat} {cs : List (List mm_I)} {K : Nat} (hat : mm_at mt_P m pc = some ((pc0, len, .invokevirtual x, K, b, z, wd), nL, dd)) (hp : pc + len = pc') (hK : mt_P[K]? = some (cs, nLk, np, 1, 9, rk, 0, 0)) (hK2 : ¬ K < 2) (hP : bh_P T E h0 h s A L) (hg : gs.length + 1 < 1000) (hn : args.length = np) (hc : (st.map fun v => v.category).sum ≤ 8) (hs : (lg_sl (.ref (E.1 + 88) :: args.reverse)).length ≤ nLk) (g : bh_G E FIN ((K, 0, lv_args 0 (.ref (E.1 + 88) :: args.reverse), [], 0, 0) :: (m, pc', lv, st, 0, 0) :: gs, h, none)) : bh_G E FIN ((m, pc, lv, args ++ .ref (E.1 + 88) :: st, 0, 0) :: gs, h, o) := by
  subst hp
  subst hn
  obtain ⟨fs0, fs, a1, a2, a3, a4, a5, a6⟩ := hP.2.2.1
  obtain ⟨np, kd, ci, rk2, mc, ms⟩ := dd
  refine en_good_step (c' := ((K, 0, lv_args 0 (.ref (E.1 + 88) :: args.reverse), [], 0, 0) :: (m, pc + len, lv, st, 0, 0) :: gs, h, none)) ?_ g
  have e1 : (args ++ .ref (E.1 + 88) :: st).drop args.length = .ref (E.1 + 88) :: st := List.drop_left
  have e2 : (args ++ .ref (E.1 + 88) :: st).take args.length = args := List.take_left
  have e3 : args.length ≤ (args ++ Value.ref (E.1 + 88) :: st).length := by
    rw [List.length_append]
    exact Nat.le_add_right _ _
  simp only [mm_stp, hat, mm_inv, if_neg hK2, mm_call, hK]
  rw [if_pos ⟨trivial, hg, Nat.le_refl _, Nat.le_refl _, e3⟩, e1, e2]
  have hr : mm_recv E h 1 9 (.ref (E.1 + 88) :: st) = some ([.ref (E.1 + 88)], st) := by simp [mm_recv, bh_cell, a2]
  rw [hr]
  simp only []
  rw [if_pos ⟨hc, hs⟩]
  rfl
theorem bh_cs {args : List Value} {x np nLk rk : Nat} {cs : List (List mm_I)} {K : Nat} {ci : Nat} (hat : mm_at mt_P m pc = some ((pc0, len, .invokestatic x, K, b, z, wd), nL, dd)) (hp : pc + len = pc') (hK : mt_P[K]? = some (cs, nLk, np, 0, ci, rk, 0, 0)) (hK2 : ¬ K < 2) (hg : gs.length + 1 < 1000) (hn : args.length = np) (hc : (st.map fun v => v.category).sum ≤ 8) (hs : (lg_sl args.reverse).length ≤ nLk) (g : bh_G E FIN ((K, 0, lv_args 0 args.reverse, [], 0, 0) :: (m, pc', lv, st, 0, 0) :: gs, h, none)) : bh_G E FIN ((m, pc, lv, args ++ st, 0, 0) :: gs, h, o) := by
  subst hp
  subst hn
  obtain ⟨np, kd, ci2, rk2, mc, ms⟩ := dd
  refine en_good_step (c' := ((K, 0, lv_args 0 args.reverse, [], 0, 0) :: (m, pc + len, lv, st, 0, 0) :: gs, h, none)) ?_ g
  have e1 : (args ++ st).drop args.length = st := List.drop_left
  have e2 : (args ++ st).take args.length = args := List.take_left
  have e3 : args.length ≤ (args ++ st).length := by
    rw [List.length_append]
    exact Nat.le_add_right _ _
  simp only [mm_stp, hat, mm_inv, if_neg hK2, mm_call, hK]
  rw [if_pos ⟨trivial, hg, Nat.le_refl _, Nat.le_refl _, e3⟩, e1, e2]
  simp only [mm_recv, if_true]
  rw [if_pos ⟨hc, hs⟩]
  rfl
theorem bh_rv {np kd ci mc ms : Nat} (hat : mm_at mt_P m pc = some ((pc0, len, .return_, a, b, z, wd), nL, (np, kd, ci, 0, mc, ms))) (g : bh_G E FIN (mm_back none gs h)) : bh_G E FIN ((m, pc, lv, [], 0, 0) :: gs, h, o) :=
  en_good_step (by simp only [mm_stp, hat, mm_inv, mm_rtn, mm_ans]; rfl) g
theorem bh_ri {np kd ci mc ms : Nat} {v : Int32} (hat : mm_at mt_P m pc = some ((pc0, len, .ireturn, a, b, z, wd), nL, (np, kd, ci, 1, mc, ms))) (g : bh_G E FIN (mm_back (some (.int v)) gs h)) : bh_G E FIN ((m, pc, lv, [.int v], 0, 0) :: gs, h, o) := by
  refine en_good_step ?_ g
  have e : mm_ans 1 1 [.int v] = some (some (.int v)) := by
    unfold mm_ans
    simp
  simp only [mm_stp, hat, mm_inv, mm_rtn, e]
theorem bh_rb {np kd ci mc ms : Nat} {v : Int32} (hat : mm_at mt_P m pc = some ((pc0, len, .ireturn, a, b, z, wd), nL, (np, kd, ci, 2, mc, ms))) (hv : v.toInt = 0 ∨ v.toInt = 1) (g : bh_G E FIN (mm_back (some (.int v)) gs h)) : bh_G E FIN ((m, pc, lv, [.int v], 0, 0) :: gs, h, o) := by
  refine en_good_step ?_ g
  have hv2 : v = 0 ∨ v = 1 := by
    rcases hv with hv | hv
    · exact Or.inl (Int32.toInt_inj.mp hv)
    · exact Or.inr (Int32.toInt_inj.mp hv)
  have e : mm_ans 2 1 [.int v] = some (some (.int v)) := by
    unfold mm_ans
    simp [hv2]
  simp only [mm_stp, hat, mm_inv, mm_rtn, e]
theorem bh_rl {np kd ci mc ms : Nat} {v : Int64} (hat : mm_at mt_P m pc = some ((pc0, len, .lreturn, a, b, z, wd), nL, (np, kd, ci, 3, mc, ms))) (g : bh_G E FIN (mm_back (some (.long v)) gs h)) : bh_G E FIN ((m, pc, lv, [.long v], 0, 0) :: gs, h, o) := by
  refine en_good_step ?_ g
  have e : mm_ans 3 3 [.long v] = some (some (.long v)) := rfl
  simp only [mm_stp, hat, mm_inv, mm_rtn, e]
theorem bh_sw {x : Int32} {d lo hi : Int} {offs : Array Int} {off : Int} (hat : mm_at mt_P m pc = some ((pc0, len, .tableswitch d lo hi offs, a, b, z, wd), nL, dd)) (hx : (if x.toInt < lo ∨ hi < x.toInt then some d else offs[(x.toInt - lo).toNat]?) = some off) (hq : (pc : Int) + off = (pc' : Int)) (g : bh_G E FIN ((m, pc', lv, st, 0, 0) :: gs, h, none)) : bh_G E FIN ((m, pc, lv, .int x :: st, 0, 0) :: gs, h, o) := by
  refine bh_s1 hat rfl rfl ?_ g
  simp only [mm_ex, mm_sw]
  by_cases hc : x.toInt < lo ∨ hi < x.toInt
  · rw [if_pos hc] at hx
    rw [if_pos hc, Option.some.inj hx]
    exact bh_jmp hq
  · rw [if_neg hc] at hx
    rw [if_neg hc, hx]
    exact bh_jmp hq
end BH
