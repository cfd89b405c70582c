/-! BY HAND: what the tape gets and gives back, of the class (cell 0) and of the reference (wip/p3/bhg.py) -/
def bc_W (T : bh_T) : Prop := (∀ q ∈ T.2.2.1, q.1 ≠ 0) ∧ (∀ q ∈ T.2.2.2, q.1 ≠ 0) ∧ (∀ q ∈ T.2.2.1, ∀ p ∈ T.2.2.1, q.1 = p.1 → q = p) ∧ (∀ q ∈ T.2.2.2, ∀ p ∈ T.2.2.2, q.1 = p.1 → q = p) ∧ (∀ q ∈ T.2.2.1, ∀ p ∈ T.2.2.2, q.1 ≠ p.1) ∧ (∀ q ∈ T.1, ∀ k ∈ T.2.1, q.1 ≠ k)
def bc_P (T : bh_T) (E : mm_E) (h0 h : mm_H) (s : Nat → Int32) (A : Nat → Nat → Int32) (L : Nat → Nat → Int64) : Prop :=
  bc_W T ∧ h.length = 133 ∧ (∃ fs0 fs : List Value, h0[0]? = some (.inr (8, fs0)) ∧ h[0]? = some (.inr (8, fs)) ∧ fs.length = fs0.length ∧ (∀ k, k ∉ T.2.1 → fs[k]? = fs0[k]?) ∧ (∀ p ∈ T.1, fs[p.1]? = some (.ref (E.1 + p.2))) ∧ (∀ k ∈ T.2.1, fs[k]? = some (.int (s k)))) ∧
  (∀ q ∈ T.2.2.1, h[q.1]? = some (.inl (q.2.1, q.2.2, .inl (A q.1)))) ∧ (∀ q ∈ T.2.2.2, h[q.1]? = some (.inl (3, q.2, .inr (.inl (L q.1))))) ∧
  (∀ k, k ≠ 0 → (∀ q ∈ T.2.2.1, q.1 ≠ k) → (∀ q ∈ T.2.2.2, q.1 ≠ k) → h[k]? = h0[k]?)
section BC
variable {T : bh_T} {E : mm_E} {FIN : mm_C → Prop} {h0 h : mm_H} {s : Nat → Int32} {A : Nat → Nat → Int32} {L : Nat → Nat → Int64} {m pc pc' pc0 len a b wd nL : Nat} {dd : mm_M} {z : Int} {ins : Instr} {lv lv' : mm_V} {st st' r : List Value} {gs : List mm_F} {o : Option Value}
/-- an int field is written -/
theorem bc_setf (hP : bc_P T E h0 h s A L) {k : Nat} (hk : k ∈ T.2.1) (v : Int32) : ∃ fs : List Value, h[0]? = some (.inr (8, fs)) ∧ k < fs.length ∧ bc_P T E h0 (h.set 0 (.inr (8, fs.set k (.int v)))) (upd s k v) A L := by
  obtain ⟨hW, hl, ⟨fs0, fs, a1, a2, a3, a4, a5, a6⟩, hA, hL, hF⟩ := hP
  have h00 : 0 < h.length := by rw [hl]; decide
  have hkl : k < fs.length := (List.getElem?_eq_some_iff.mp (a6 k hk)).1
  refine ⟨fs, a2, hkl, hW, by rw [List.length_set]; exact hl, ⟨fs0, fs.set k (.int v), a1, List.getElem?_set_self h00, by rw [List.length_set]; exact a3, fun j hj => ?_, fun p hp => ?_, fun j hj => ?_⟩, fun q hq => ?_, fun q hq => ?_, fun j j1 j2 j3 => ?_⟩
  · rw [List.getElem?_set_ne (fun e => hj (by rw [← e]; exact hk))]
    exact a4 j hj
  · rw [List.getElem?_set_ne (fun e => hW.2.2.2.2.2 p hp k hk e.symm)]
    exact a5 p hp
  · by_cases e : k = j
    · subst e
      rw [List.getElem?_set_self hkl]
      unfold upd
      rw [if_pos rfl]
    · rw [List.getElem?_set_ne e]
      unfold upd
      rw [if_neg (fun g => e g.symm)]
      exact a6 j hj
  · rw [List.getElem?_set_ne (fun e => hW.1 q hq e.symm)]
    exact hA q hq
  · rw [List.getElem?_set_ne (fun e => hW.2.1 q hq e.symm)]
    exact hL q hq
  · rw [List.getElem?_set_ne (fun e => j1 e.symm)]
    exact hF j j1 j2 j3
/-- an element of an int array is written -/
theorem bc_seta (hP : bc_P T E h0 h s A L) {q : Nat × Nat × Nat} (hq : q ∈ T.2.2.1) (i : Nat) (v : Int32) : bc_P T E h0 (h.set q.1 (.inl (q.2.1, q.2.2, .inl (upd (A q.1) i v)))) s (bh_up A q.1 i v) L := by
  obtain ⟨hW, hl, ⟨fs0, fs, a1, a2, a3, a4, a5, a6⟩, hA, hL, hF⟩ := hP
  have hql : q.1 < h.length := (List.getElem?_eq_some_iff.mp (hA q hq)).1
  refine ⟨hW, by rw [List.length_set]; exact hl, ⟨fs0, fs, a1, ?_, a3, a4, a5, a6⟩, fun p hp => ?_, fun p hp => ?_, fun j j1 j2 j3 => ?_⟩
  · rw [List.getElem?_set_ne (hW.1 q hq)]
    exact a2
  · by_cases e : q.1 = p.1
    · have e2 := hW.2.2.1 q hq p hp e
      subst e2
      rw [List.getElem?_set_self hql, bh_up_eq]
    · rw [List.getElem?_set_ne e, bh_up_ne (fun g => e g.symm)]
      exact hA p hp
  · rw [List.getElem?_set_ne (hW.2.2.2.2.1 q hq p hp)]
    exact hL p hp
  · rw [List.getElem?_set_ne (j2 q hq)]
    exact hF j j1 j2 j3
theorem bc_gi {k : Nat} {v : Int32} (hat : mm_at mt_P m pc = some ((pc0, len, ins, a, b, z, wd), nL, dd)) (hi : mm_inv ins = none) (hr : mm_rtn ins = none) (hl : ∀ (lv : mm_V) (st : List Value) (h : mm_H), mm_ex E mt_kds nL ins len a b z pc lv st 0 0 h = mm_getf E lv st 0 0 h pc' 8 k) (hP : bc_P T E h0 h s A L) (hk : k ∈ T.2.1) (hv : s k = v) (g : bh_G E FIN ((m, pc', lv, .int v :: st, 0, 0) :: gs, h, none)) : bh_G E FIN ((m, pc, lv, .ref (E.1 + 0) :: st, 0, 0) :: gs, h, o) := by
  refine bh_s1 hat hi hr ?_ g
  obtain ⟨fs0, fs, a1, a2, a3, a4, a5, a6⟩ := hP.2.2.1
  rw [hl]
  simp only [mm_getf, bh_cell, a2, if_true, a6 k hk, hv]
theorem bc_gr {k c : Nat} (hat : mm_at mt_P m pc = some ((pc0, len, ins, a, b, z, wd), nL, dd)) (hi : mm_inv ins = none) (hr : mm_rtn ins = none) (hl : ∀ (lv : mm_V) (st : List Value) (h : mm_H), mm_ex E mt_kds nL ins len a b z pc lv st 0 0 h = mm_getf E lv st 0 0 h pc' 8 k) (hP : bc_P T E h0 h s A L) (hk : (k, c) ∈ T.1) (g : bh_G E FIN ((m, pc', lv, .ref (E.1 + c) :: st, 0, 0) :: gs, h, none)) : bh_G E FIN ((m, pc, lv, .ref (E.1 + 0) :: st, 0, 0) :: gs, h, o) := by
  refine bh_s1 hat hi hr ?_ g
  obtain ⟨fs0, fs, a1, a2, a3, a4, a5, a6⟩ := hP.2.2.1
  rw [hl]
  have e := a5 (k, c) hk
  simp only at e
  simp only [mm_getf, bh_cell, a2, if_true, e]
theorem bc_pf {k kd : Nat} {v : Int32} (hat : mm_at mt_P m pc = some ((pc0, len, ins, a, b, z, wd), nL, dd)) (hi : mm_inv ins = none) (hr : mm_rtn ins = none) (hl : ∀ (lv : mm_V) (st : List Value) (h : mm_H), mm_ex E mt_kds nL ins len a b z pc lv st 0 0 h = mm_putf E lv st 0 0 h pc' 8 k kd) (hP : bc_P T E h0 h s A L) (hk : k ∈ T.2.1) (hf : mm_fits kd (.int v) = true) (g : ∀ (h' : mm_H) (s' : Nat → Int32), bc_P T E h0 h' s' A L → s' k = v → (∀ j, j ≠ k → s' j = s j) → bh_G E FIN ((m, pc', lv, st, 0, 0) :: gs, h', none)) : bh_G E FIN ((m, pc, lv, .int v :: .ref (E.1 + 0) :: st, 0, 0) :: gs, h, o) := by
  obtain ⟨fs, a2, hkl, hP2⟩ := bc_setf hP hk v
  refine bh_s1 hat hi hr (lv' := lv) (st' := st) (h' := h.set 0 (.inr (8, fs.set k (.int v)))) ?_ (g _ (upd s k v) hP2 (if_pos rfl) (fun j hj => if_neg hj))
  rw [hl]
  simp only [mm_putf, bh_cell, a2, true_and, if_pos (And.intro hkl hf), Nat.add_sub_cancel_left]
theorem bc_ia {kd kd2 c t n : Nat} {I : Int32} (hat : mm_at mt_P m pc = some ((pc0, len, ins, a, b, z, wd), nL, dd)) (hi : mm_inv ins = none) (hr : mm_rtn ins = none) (hl : ∀ (lv : mm_V) (st : List Value) (h : mm_H), mm_ex E mt_kds nL ins len a b z pc lv st 0 0 h = mm_ald E lv st 0 0 h pc' kd kd2) (hP : bc_P T E h0 h s A L) (hq : (c, t, n) ∈ T.2.2.1) (ht : t = kd ∨ t = kd2) (h1 : 0 ≤ I.toInt) (h2 : I.toInt < n) (g : bh_G E FIN ((m, pc', lv, .int (A c I.toInt.toNat) :: st, 0, 0) :: gs, h, none)) : bh_G E FIN ((m, pc, lv, .int I :: .ref (E.1 + c) :: st, 0, 0) :: gs, h, o) := by
  refine bh_s1 hat hi hr ?_ g
  have e := hP.2.2.2.1 (c, t, n) hq
  simp only at e
  rw [hl]
  simp only [mm_ald, bh_cell, e]
  rw [if_pos ⟨ht, bh_inr h1 h2⟩]
  rfl
theorem bc_ias {kd kd2 c t n : Nat} {I v : Int32} (hat : mm_at mt_P m pc = some ((pc0, len, ins, a, b, z, wd), nL, dd)) (hi : mm_inv ins = none) (hr : mm_rtn ins = none) (hl : ∀ (lv : mm_V) (st : List Value) (h : mm_H), mm_ex E mt_kds nL ins len a b z pc lv st 0 0 h = mm_ast E lv st 0 0 h pc' kd kd2) (hP : bc_P T E h0 h s A L) (hq : (c, t, n) ∈ T.2.2.1) (ht : t = kd ∨ t = kd2) (h1 : 0 ≤ I.toInt) (h2 : I.toInt < n) (g : ∀ h' : mm_H, bc_P T E h0 h' s (bh_up A c I.toInt.toNat (mm_nar t v)) L → bh_G E FIN ((m, pc', lv, st, 0, 0) :: gs, h', none)) : bh_G E FIN ((m, pc, lv, .int v :: .int I :: .ref (E.1 + c) :: st, 0, 0) :: gs, h, o) := by
  refine bh_s1 hat hi hr (lv' := lv) (st' := st) (h' := h.set c (.inl (t, n, .inl (upd (A c) I.toInt.toNat (mm_nar t v))))) ?_ (g _ (bc_seta hP (q := (c, t, n)) hq I.toInt.toNat (mm_nar t v)))
  have e := hP.2.2.2.1 (c, t, n) hq
  simp only at e
  rw [hl]
  simp only [mm_ast, bh_cell, e]
  rw [if_pos ⟨ht, bh_inr h1 h2⟩, Nat.add_sub_cancel_left]
  rfl
/-- a call of a method of the object -/
theorem bc_cv {args : List Value} {x np nLk rk : Nat} {cs : List (List mm_I)} {K : Nat} (hat : mm_at mt_P m pc = some ((pc0, len, .invokevirtual x, K, b, z, wd), nL, dd)) (hp : pc + len = pc') (hK : mt_P[K]? = some (cs, nLk, np, 1, 8, rk, 0, 0)) (hK2 : ¬ K < 2) (hP : bc_P T E h0 h s A L) (hg : gs.length + 1 < 1000) (hn : args.length = np) (hc : (st.map fun v => v.category).sum ≤ 8) (hs : (lg_sl (.ref (E.1 + 0) :: args.reverse)).length ≤ nLk) (g : bh_G E FIN ((K, 0, lv_args 0 (.ref (E.1 + 0) :: args.reverse), [], 0, 0) :: (m, pc', lv, st, 0, 0) :: gs, h, none)) : bh_G E FIN ((m, pc, lv, args ++ .ref (E.1 + 0) :: st, 0, 0) :: gs, h, o) := by
  subst hp
  subst hn
  obtain ⟨fs0, fs, a1, a2, a3, a4, a5, a6⟩ := hP.2.2.1
  obtain ⟨np, kd, ci, rk2, mc, ms⟩ := dd
  refine en_good_step (c' := ((K, 0, lv_args 0 (.ref (E.1 + 0) :: args.reverse), [], 0, 0) :: (m, pc + len, lv, st, 0, 0) :: gs, h, none)) ?_ g
  have e1 : (args ++ .ref (E.1 + 0) :: st).drop args.length = .ref (E.1 + 0) :: st := List.drop_left
  have e2 : (args ++ .ref (E.1 + 0) :: st).take args.length = args := List.take_left
  have e3 : args.length ≤ (args ++ Value.ref (E.1 + 0) :: st).length := by
    rw [List.length_append]
    exact Nat.le_add_right _ _
  simp only [mm_stp, hat, mm_inv, if_neg hK2, mm_call, hK]
  rw [if_pos ⟨trivial, hg, Nat.le_refl _, Nat.le_refl _, e3⟩, e1, e2]
  have hr : mm_recv E h 1 8 (.ref (E.1 + 0) :: st) = some ([.ref (E.1 + 0)], st) := by
    have e0 : mm_cell E h (E.1 + 0) = some (.inr (8, fs)) := by rw [bh_cell, a2]
    have e1 : E.1 + 0 = E.1 := rfl
    rw [e1] at e0 ⊢
    simp [mm_recv, e0]
  rw [hr]
  simp only []
  rw [if_pos ⟨hc, hs⟩]
  rfl
theorem bh_iushrA {x y : Int32} (hat : mm_at mt_P m pc = some ((pc0, len, .iushr, a, b, z, wd), nL, dd)) (hp : pc + len = pc') (g : ∀ v : Int32, bh_G E FIN ((m, pc', lv, .int v :: st, 0, 0) :: gs, h, none)) : bh_G E FIN ((m, pc, lv, .int y :: .int x :: st, 0, 0) :: gs, h, o) := by
  subst hp
  exact bh_bin (v := (x.toUInt32 >>> (y.toUInt32 &&& Int32.toUInt32 31)).toInt32) hat rfl rfl (fun _ _ _ => rfl) rfl (g _)
theorem bh_ishrA {x y : Int32} (hat : mm_at mt_P m pc = some ((pc0, len, .ishr, a, b, z, wd), nL, dd)) (hp : pc + len = pc') (g : ∀ v : Int32, bh_G E FIN ((m, pc', lv, .int v :: st, 0, 0) :: gs, h, none)) : bh_G E FIN ((m, pc, lv, .int y :: .int x :: st, 0, 0) :: gs, h, o) := by
  subst hp
  exact bh_bin (v := x >>> (y &&& 31)) hat rfl rfl (fun _ _ _ => rfl) rfl (g _)
theorem bh_i2bA {x : Int32} (hat : mm_at mt_P m pc = some ((pc0, len, .i2b, a, b, z, wd), nL, dd)) (hp : pc + len = pc') (g : ∀ v : Int32, bh_G E FIN ((m, pc', lv, .int v :: st, 0, 0) :: gs, h, none)) : bh_G E FIN ((m, pc, lv, .int x :: st, 0, 0) :: gs, h, o) := by
  subst hp
  exact bh_s1 hat rfl rfl rfl (g _)
end BC
def bc_T : bh_T := ([(0, 1)], [1, 2], [(1, 1, 2000)], [])
theorem bc_i1 : 1 ∈ bc_T.2.1 := by decide
theorem bc_i2 : 2 ∈ bc_T.2.1 := by decide
theorem bc_r0 : (0, 1) ∈ bc_T.1 := by decide
theorem bc_a1 : (1, 1, 2000) ∈ bc_T.2.2.1 := by decide
theorem bc_TW : bc_W bc_T := by unfold bc_W; decide
theorem bt_5_0 : mm_at mt_P 5 0 = some ((0, 1, .iload_n 1, 0, 0, 0, 0), 2, 1, 1, 9, 1, 0, 0) := rfl
theorem bt_5_1 : mm_at mt_P 5 1 = some ((1, 3, .ifCond .lt 11, 0, 0, 0, 0), 2, 1, 1, 9, 1, 0, 0) := rfl
theorem bt_5_4 : mm_at mt_P 5 4 = some ((4, 1, .iload_n 1, 0, 0, 0, 0), 2, 1, 1, 9, 1, 0, 0) := rfl
theorem bt_5_5 : mm_at mt_P 5 5 = some ((5, 1, .aload_n 0, 0, 0, 0, 0), 2, 1, 1, 9, 1, 0, 0) := rfl
theorem bt_5_6 : mm_at mt_P 5 6 = some ((6, 3, .getfield 166, 9, 2, 0, 1219), 2, 1, 1, 9, 1, 0, 0) := rfl
theorem bt_5_9 : mm_at mt_P 5 9 = some ((9, 3, .if_icmp .le 5, 0, 0, 0, 0), 2, 1, 1, 9, 1, 0, 0) := rfl
theorem bt_5_12 : mm_at mt_P 5 12 = some ((12, 1, .iconst (-1), 0, 0, 0, 0), 2, 1, 1, 9, 1, 0, 0) := rfl
theorem bt_5_13 : mm_at mt_P 5 13 = some ((13, 1, .ireturn, 0, 0, 0, 0), 2, 1, 1, 9, 1, 0, 0) := rfl
theorem bt_5_14 : mm_at mt_P 5 14 = some ((14, 1, .aload_n 0, 0, 0, 0, 0), 2, 1, 1, 9, 1, 0, 0) := rfl
theorem bt_5_15 : mm_at mt_P 5 15 = some ((15, 1, .dup, 0, 0, 0, 0), 2, 1, 1, 9, 1, 0, 0) := rfl
theorem bt_5_16 : mm_at mt_P 5 16 = some ((16, 3, .getfield 166, 9, 2, 0, 1219), 2, 1, 1, 9, 1, 0, 0) := rfl
theorem bt_5_19 : mm_at mt_P 5 19 = some ((19, 1, .iload_n 1, 0, 0, 0, 0), 2, 1, 1, 9, 1, 0, 0) := rfl
theorem bt_5_20 : mm_at mt_P 5 20 = some ((20, 1, .isub, 0, 0, 0, 0), 2, 1, 1, 9, 1, 0, 0) := rfl
theorem bt_5_21 : mm_at mt_P 5 21 = some ((21, 3, .putfield 166, 9, 2, 0, 1219), 2, 1, 1, 9, 1, 0, 0) := rfl
theorem bt_5_24 : mm_at mt_P 5 24 = some ((24, 1, .aload_n 0, 0, 0, 0, 0), 2, 1, 1, 9, 1, 0, 0) := rfl
theorem bt_5_25 : mm_at mt_P 5 25 = some ((25, 3, .getfield 166, 9, 2, 0, 1219), 2, 1, 1, 9, 1, 0, 0) := rfl
theorem bt_5_28 : mm_at mt_P 5 28 = some ((28, 1, .ireturn, 0, 0, 0, 0), 2, 1, 1, 9, 1, 0, 0) := rfl
theorem bt_28_0 : mm_at mt_P 28 0 = some ((0, 1, .aload_n 0, 0, 0, 0, 0), 6, 5, 1, 9, 1, 0, 0) := rfl
theorem bt_28_1 : mm_at mt_P 28 1 = some ((1, 3, .getfield 166, 9, 2, 0, 1219), 6, 5, 1, 9, 1, 0, 0) := rfl
theorem bt_28_4 : mm_at mt_P 28 4 = some ((4, 2, .bipush 20, 0, 0, 0, 0), 6, 5, 1, 9, 1, 0, 0) := rfl
theorem bt_28_6 : mm_at mt_P 28 6 = some ((6, 1, .iadd, 0, 0, 0, 0), 6, 5, 1, 9, 1, 0, 0) := rfl
theorem bt_28_7 : mm_at mt_P 28 7 = some ((7, 3, .sipush 2000, 0, 0, 0, 0), 6, 5, 1, 9, 1, 0, 0) := rfl
theorem bt_28_10 : mm_at mt_P 28 10 = some ((10, 3, .if_icmp .le 5, 0, 0, 0, 0), 6, 5, 1, 9, 1, 0, 0) := rfl
theorem bt_28_13 : mm_at mt_P 28 13 = some ((13, 1, .iconst (-1), 0, 0, 0, 0), 6, 5, 1, 9, 1, 0, 0) := rfl
theorem bt_28_14 : mm_at mt_P 28 14 = some ((14, 1, .ireturn, 0, 0, 0, 0), 6, 5, 1, 9, 1, 0, 0) := rfl
theorem bt_28_15 : mm_at mt_P 28 15 = some ((15, 1, .aload_n 0, 0, 0, 0, 0), 6, 5, 1, 9, 1, 0, 0) := rfl
theorem bt_28_16 : mm_at mt_P 28 16 = some ((16, 1, .iload_n 1, 0, 0, 0, 0), 6, 5, 1, 9, 1, 0, 0) := rfl
theorem bt_28_17 : mm_at mt_P 28 17 = some ((17, 3, .invokevirtual 169, 76, 0, 0, 1441), 6, 5, 1, 9, 1, 0, 0) := rfl
theorem bt_28_20 : mm_at mt_P 28 20 = some ((20, 1, .aload_n 0, 0, 0, 0, 0), 6, 5, 1, 9, 1, 0, 0) := rfl
theorem bt_28_21 : mm_at mt_P 28 21 = some ((21, 1, .iload_n 2, 0, 0, 0, 0), 6, 5, 1, 9, 1, 0, 0) := rfl
theorem bt_28_22 : mm_at mt_P 28 22 = some ((22, 3, .invokevirtual 169, 76, 0, 0, 1441), 6, 5, 1, 9, 1, 0, 0) := rfl
theorem bt_28_25 : mm_at mt_P 28 25 = some ((25, 1, .aload_n 0, 0, 0, 0, 0), 6, 5, 1, 9, 1, 0, 0) := rfl
theorem bt_28_26 : mm_at mt_P 28 26 = some ((26, 1, .iload_n 3, 0, 0, 0, 0), 6, 5, 1, 9, 1, 0, 0) := rfl
theorem bt_28_27 : mm_at mt_P 28 27 = some ((27, 3, .invokevirtual 169, 76, 0, 0, 1441), 6, 5, 1, 9, 1, 0, 0) := rfl
theorem bt_28_30 : mm_at mt_P 28 30 = some ((30, 1, .aload_n 0, 0, 0, 0, 0), 6, 5, 1, 9, 1, 0, 0) := rfl
theorem bt_28_31 : mm_at mt_P 28 31 = some ((31, 2, .iload 4, 0, 0, 0, 0), 6, 5, 1, 9, 1, 0, 0) := rfl
theorem bt_28_33 : mm_at mt_P 28 33 = some ((33, 3, .invokevirtual 169, 76, 0, 0, 1441), 6, 5, 1, 9, 1, 0, 0) := rfl
theorem bt_28_36 : mm_at mt_P 28 36 = some ((36, 1, .aload_n 0, 0, 0, 0, 0), 6, 5, 1, 9, 1, 0, 0) := rfl
theorem bt_28_37 : mm_at mt_P 28 37 = some ((37, 2, .iload 5, 0, 0, 0, 0), 6, 5, 1, 9, 1, 0, 0) := rfl
theorem bt_28_39 : mm_at mt_P 28 39 = some ((39, 3, .invokevirtual 169, 76, 0, 0, 1441), 6, 5, 1, 9, 1, 0, 0) := rfl
theorem bt_28_42 : mm_at mt_P 28 42 = some ((42, 1, .aload_n 0, 0, 0, 0, 0), 6, 5, 1, 9, 1, 0, 0) := rfl
theorem bt_28_43 : mm_at mt_P 28 43 = some ((43, 3, .getfield 166, 9, 2, 0, 1219), 6, 5, 1, 9, 1, 0, 0) := rfl
theorem bt_28_46 : mm_at mt_P 28 46 = some ((46, 1, .ireturn, 0, 0, 0, 0), 6, 5, 1, 9, 1, 0, 0) := rfl
theorem bt_76_0 : mm_at mt_P 76 0 = some ((0, 2, .bipush 24, 0, 0, 0, 0), 3, 1, 1, 9, 0, 0, 0) := rfl
theorem bt_76_2 : mm_at mt_P 76 2 = some ((2, 1, .istore_n 2, 0, 0, 0, 0), 3, 1, 1, 9, 0, 0, 0) := rfl
theorem bt_76_3 : mm_at mt_P 76 3 = some ((3, 1, .iload_n 2, 0, 0, 0, 0), 3, 1, 1, 9, 0, 0, 0) := rfl
theorem bt_76_4 : mm_at mt_P 76 4 = some ((4, 3, .ifCond .lt 32, 0, 0, 0, 0), 3, 1, 1, 9, 0, 0, 0) := rfl
theorem bt_76_7 : mm_at mt_P 76 7 = some ((7, 1, .aload_n 0, 0, 0, 0, 0), 3, 1, 1, 9, 0, 0, 0) := rfl
theorem bt_76_8 : mm_at mt_P 76 8 = some ((8, 3, .getfield 13, 9, 1, 0, 1218), 3, 1, 1, 9, 0, 0, 0) := rfl
theorem bt_76_11 : mm_at mt_P 76 11 = some ((11, 1, .aload_n 0, 0, 0, 0, 0), 3, 1, 1, 9, 0, 0, 0) := rfl
theorem bt_76_12 : mm_at mt_P 76 12 = some ((12, 3, .getfield 166, 9, 2, 0, 1219), 3, 1, 1, 9, 0, 0, 0) := rfl
theorem bt_76_15 : mm_at mt_P 76 15 = some ((15, 1, .iload_n 1, 0, 0, 0, 0), 3, 1, 1, 9, 0, 0, 0) := rfl
theorem bt_76_16 : mm_at mt_P 76 16 = some ((16, 1, .iload_n 2, 0, 0, 0, 0), 3, 1, 1, 9, 0, 0, 0) := rfl
theorem bt_76_17 : mm_at mt_P 76 17 = some ((17, 1, .ishr, 0, 0, 0, 0), 3, 1, 1, 9, 0, 0, 0) := rfl
theorem bt_76_18 : mm_at mt_P 76 18 = some ((18, 1, .i2b, 0, 0, 0, 0), 3, 1, 1, 9, 0, 0, 0) := rfl
theorem bt_76_19 : mm_at mt_P 76 19 = some ((19, 1, .bastore, 0, 0, 0, 0), 3, 1, 1, 9, 0, 0, 0) := rfl
theorem bt_76_20 : mm_at mt_P 76 20 = some ((20, 1, .aload_n 0, 0, 0, 0, 0), 3, 1, 1, 9, 0, 0, 0) := rfl
theorem bt_76_21 : mm_at mt_P 76 21 = some ((21, 1, .dup, 0, 0, 0, 0), 3, 1, 1, 9, 0, 0, 0) := rfl
theorem bt_76_22 : mm_at mt_P 76 22 = some ((22, 3, .getfield 166, 9, 2, 0, 1219), 3, 1, 1, 9, 0, 0, 0) := rfl
theorem bt_76_25 : mm_at mt_P 76 25 = some ((25, 1, .iconst 1, 0, 0, 0, 0), 3, 1, 1, 9, 0, 0, 0) := rfl
theorem bt_76_26 : mm_at mt_P 76 26 = some ((26, 1, .iadd, 0, 0, 0, 0), 3, 1, 1, 9, 0, 0, 0) := rfl
theorem bt_76_27 : mm_at mt_P 76 27 = some ((27, 3, .putfield 166, 9, 2, 0, 1219), 3, 1, 1, 9, 0, 0, 0) := rfl
theorem bt_76_30 : mm_at mt_P 76 30 = some ((30, 3, .iinc 2 (-8), 0, 0, 0, 0), 3, 1, 1, 9, 0, 0, 0) := rfl
theorem bt_76_33 : mm_at mt_P 76 33 = some ((33, 3, .goto (-30), 0, 0, 0, 0), 3, 1, 1, 9, 0, 0, 0) := rfl
theorem bt_76_36 : mm_at mt_P 76 36 = some ((36, 1, .return_, 0, 0, 0, 0), 3, 1, 1, 9, 0, 0, 0) := rfl
theorem bt_220_0 : mm_at mt_P 220 0 = some ((0, 2, .bipush 24, 0, 0, 0, 0), 3, 1, 1, 8, 0, 0, 0) := rfl
theorem bt_220_2 : mm_at mt_P 220 2 = some ((2, 1, .istore_n 2, 0, 0, 0, 0), 3, 1, 1, 8, 0, 0, 0) := rfl
theorem bt_220_3 : mm_at mt_P 220 3 = some ((3, 1, .iload_n 2, 0, 0, 0, 0), 3, 1, 1, 8, 0, 0, 0) := rfl
theorem bt_220_4 : mm_at mt_P 220 4 = some ((4, 3, .ifCond .lt 42, 0, 0, 0, 0), 3, 1, 1, 8, 0, 0, 0) := rfl
theorem bt_220_7 : mm_at mt_P 220 7 = some ((7, 1, .aload_n 0, 0, 0, 0, 0), 3, 1, 1, 8, 0, 0, 0) := rfl
theorem bt_220_8 : mm_at mt_P 220 8 = some ((8, 3, .getfield 13, 8, 1, 0, 433), 3, 1, 1, 8, 0, 0, 0) := rfl
theorem bt_220_11 : mm_at mt_P 220 11 = some ((11, 3, .sipush 2000, 0, 0, 0, 0), 3, 1, 1, 8, 0, 0, 0) := rfl
theorem bt_220_14 : mm_at mt_P 220 14 = some ((14, 3, .if_icmp .ge 32, 0, 0, 0, 0), 3, 1, 1, 8, 0, 0, 0) := rfl
theorem bt_220_17 : mm_at mt_P 220 17 = some ((17, 1, .aload_n 0, 0, 0, 0, 0), 3, 1, 1, 8, 0, 0, 0) := rfl
theorem bt_220_18 : mm_at mt_P 220 18 = some ((18, 3, .getfield 9, 8, 0, 0, 432), 3, 1, 1, 8, 0, 0, 0) := rfl
theorem bt_220_21 : mm_at mt_P 220 21 = some ((21, 1, .aload_n 0, 0, 0, 0, 0), 3, 1, 1, 8, 0, 0, 0) := rfl
theorem bt_220_22 : mm_at mt_P 220 22 = some ((22, 3, .getfield 13, 8, 1, 0, 433), 3, 1, 1, 8, 0, 0, 0) := rfl
theorem bt_220_25 : mm_at mt_P 220 25 = some ((25, 1, .iload_n 1, 0, 0, 0, 0), 3, 1, 1, 8, 0, 0, 0) := rfl
theorem bt_220_26 : mm_at mt_P 220 26 = some ((26, 1, .iload_n 2, 0, 0, 0, 0), 3, 1, 1, 8, 0, 0, 0) := rfl
theorem bt_220_27 : mm_at mt_P 220 27 = some ((27, 1, .iushr, 0, 0, 0, 0), 3, 1, 1, 8, 0, 0, 0) := rfl
theorem bt_220_28 : mm_at mt_P 220 28 = some ((28, 1, .i2b, 0, 0, 0, 0), 3, 1, 1, 8, 0, 0, 0) := rfl
theorem bt_220_29 : mm_at mt_P 220 29 = some ((29, 1, .bastore, 0, 0, 0, 0), 3, 1, 1, 8, 0, 0, 0) := rfl
theorem bt_220_30 : mm_at mt_P 220 30 = some ((30, 1, .aload_n 0, 0, 0, 0, 0), 3, 1, 1, 8, 0, 0, 0) := rfl
theorem bt_220_31 : mm_at mt_P 220 31 = some ((31, 1, .dup, 0, 0, 0, 0), 3, 1, 1, 8, 0, 0, 0) := rfl
theorem bt_220_32 : mm_at mt_P 220 32 = some ((32, 3, .getfield 13, 8, 1, 0, 433), 3, 1, 1, 8, 0, 0, 0) := rfl
theorem bt_220_35 : mm_at mt_P 220 35 = some ((35, 1, .iconst 1, 0, 0, 0, 0), 3, 1, 1, 8, 0, 0, 0) := rfl
theorem bt_220_36 : mm_at mt_P 220 36 = some ((36, 1, .iadd, 0, 0, 0, 0), 3, 1, 1, 8, 0, 0, 0) := rfl
theorem bt_220_37 : mm_at mt_P 220 37 = some ((37, 3, .putfield 13, 8, 1, 0, 433), 3, 1, 1, 8, 0, 0, 0) := rfl
theorem bt_220_40 : mm_at mt_P 220 40 = some ((40, 3, .iinc 2 (-8), 0, 0, 0, 0), 3, 1, 1, 8, 0, 0, 0) := rfl
theorem bt_220_43 : mm_at mt_P 220 43 = some ((43, 3, .goto (-40), 0, 0, 0, 0), 3, 1, 1, 8, 0, 0, 0) := rfl
theorem bt_220_46 : mm_at mt_P 220 46 = some ((46, 1, .return_, 0, 0, 0, 0), 3, 1, 1, 8, 0, 0, 0) := rfl
theorem bt_221_0 : mm_at mt_P 221 0 = some ((0, 1, .iload_n 1, 0, 0, 0, 0), 2, 1, 1, 8, 1, 0, 0) := rfl
theorem bt_221_1 : mm_at mt_P 221 1 = some ((1, 3, .ifCond .lt 11, 0, 0, 0, 0), 2, 1, 1, 8, 1, 0, 0) := rfl
theorem bt_221_4 : mm_at mt_P 221 4 = some ((4, 1, .iload_n 1, 0, 0, 0, 0), 2, 1, 1, 8, 1, 0, 0) := rfl
theorem bt_221_5 : mm_at mt_P 221 5 = some ((5, 1, .aload_n 0, 0, 0, 0, 0), 2, 1, 1, 8, 1, 0, 0) := rfl
theorem bt_221_6 : mm_at mt_P 221 6 = some ((6, 3, .getfield 13, 8, 1, 0, 433), 2, 1, 1, 8, 1, 0, 0) := rfl
theorem bt_221_9 : mm_at mt_P 221 9 = some ((9, 3, .if_icmp .le 5, 0, 0, 0, 0), 2, 1, 1, 8, 1, 0, 0) := rfl
theorem bt_221_12 : mm_at mt_P 221 12 = some ((12, 1, .iconst (-1), 0, 0, 0, 0), 2, 1, 1, 8, 1, 0, 0) := rfl
theorem bt_221_13 : mm_at mt_P 221 13 = some ((13, 1, .ireturn, 0, 0, 0, 0), 2, 1, 1, 8, 1, 0, 0) := rfl
theorem bt_221_14 : mm_at mt_P 221 14 = some ((14, 1, .aload_n 0, 0, 0, 0, 0), 2, 1, 1, 8, 1, 0, 0) := rfl
theorem bt_221_15 : mm_at mt_P 221 15 = some ((15, 1, .dup, 0, 0, 0, 0), 2, 1, 1, 8, 1, 0, 0) := rfl
theorem bt_221_16 : mm_at mt_P 221 16 = some ((16, 3, .getfield 13, 8, 1, 0, 433), 2, 1, 1, 8, 1, 0, 0) := rfl
theorem bt_221_19 : mm_at mt_P 221 19 = some ((19, 1, .iload_n 1, 0, 0, 0, 0), 2, 1, 1, 8, 1, 0, 0) := rfl
theorem bt_221_20 : mm_at mt_P 221 20 = some ((20, 1, .isub, 0, 0, 0, 0), 2, 1, 1, 8, 1, 0, 0) := rfl
theorem bt_221_21 : mm_at mt_P 221 21 = some ((21, 3, .putfield 13, 8, 1, 0, 433), 2, 1, 1, 8, 1, 0, 0) := rfl
theorem bt_221_24 : mm_at mt_P 221 24 = some ((24, 1, .aload_n 0, 0, 0, 0, 0), 2, 1, 1, 8, 1, 0, 0) := rfl
theorem bt_221_25 : mm_at mt_P 221 25 = some ((25, 3, .getfield 13, 8, 1, 0, 433), 2, 1, 1, 8, 1, 0, 0) := rfl
theorem bt_221_28 : mm_at mt_P 221 28 = some ((28, 1, .ireturn, 0, 0, 0, 0), 2, 1, 1, 8, 1, 0, 0) := rfl
theorem bt_230_0 : mm_at mt_P 230 0 = some ((0, 1, .aload_n 0, 0, 0, 0, 0), 6, 5, 1, 8, 1, 0, 0) := rfl
theorem bt_230_1 : mm_at mt_P 230 1 = some ((1, 3, .getfield 13, 8, 1, 0, 433), 6, 5, 1, 8, 1, 0, 0) := rfl
theorem bt_230_4 : mm_at mt_P 230 4 = some ((4, 2, .bipush 20, 0, 0, 0, 0), 6, 5, 1, 8, 1, 0, 0) := rfl
theorem bt_230_6 : mm_at mt_P 230 6 = some ((6, 1, .iadd, 0, 0, 0, 0), 6, 5, 1, 8, 1, 0, 0) := rfl
theorem bt_230_7 : mm_at mt_P 230 7 = some ((7, 3, .sipush 2000, 0, 0, 0, 0), 6, 5, 1, 8, 1, 0, 0) := rfl
theorem bt_230_10 : mm_at mt_P 230 10 = some ((10, 3, .if_icmp .le 5, 0, 0, 0, 0), 6, 5, 1, 8, 1, 0, 0) := rfl
theorem bt_230_13 : mm_at mt_P 230 13 = some ((13, 1, .iconst (-1), 0, 0, 0, 0), 6, 5, 1, 8, 1, 0, 0) := rfl
theorem bt_230_14 : mm_at mt_P 230 14 = some ((14, 1, .ireturn, 0, 0, 0, 0), 6, 5, 1, 8, 1, 0, 0) := rfl
theorem bt_230_15 : mm_at mt_P 230 15 = some ((15, 1, .aload_n 0, 0, 0, 0, 0), 6, 5, 1, 8, 1, 0, 0) := rfl
theorem bt_230_16 : mm_at mt_P 230 16 = some ((16, 1, .iload_n 1, 0, 0, 0, 0), 6, 5, 1, 8, 1, 0, 0) := rfl
theorem bt_230_17 : mm_at mt_P 230 17 = some ((17, 3, .invokevirtual 79, 220, 0, 0, 470), 6, 5, 1, 8, 1, 0, 0) := rfl
theorem bt_230_20 : mm_at mt_P 230 20 = some ((20, 1, .aload_n 0, 0, 0, 0, 0), 6, 5, 1, 8, 1, 0, 0) := rfl
theorem bt_230_21 : mm_at mt_P 230 21 = some ((21, 1, .iload_n 2, 0, 0, 0, 0), 6, 5, 1, 8, 1, 0, 0) := rfl
theorem bt_230_22 : mm_at mt_P 230 22 = some ((22, 3, .invokevirtual 79, 220, 0, 0, 470), 6, 5, 1, 8, 1, 0, 0) := rfl
theorem bt_230_25 : mm_at mt_P 230 25 = some ((25, 1, .aload_n 0, 0, 0, 0, 0), 6, 5, 1, 8, 1, 0, 0) := rfl
theorem bt_230_26 : mm_at mt_P 230 26 = some ((26, 1, .iload_n 3, 0, 0, 0, 0), 6, 5, 1, 8, 1, 0, 0) := rfl
theorem bt_230_27 : mm_at mt_P 230 27 = some ((27, 3, .invokevirtual 79, 220, 0, 0, 470), 6, 5, 1, 8, 1, 0, 0) := rfl
theorem bt_230_30 : mm_at mt_P 230 30 = some ((30, 1, .aload_n 0, 0, 0, 0, 0), 6, 5, 1, 8, 1, 0, 0) := rfl
theorem bt_230_31 : mm_at mt_P 230 31 = some ((31, 2, .iload 4, 0, 0, 0, 0), 6, 5, 1, 8, 1, 0, 0) := rfl
theorem bt_230_33 : mm_at mt_P 230 33 = some ((33, 3, .invokevirtual 79, 220, 0, 0, 470), 6, 5, 1, 8, 1, 0, 0) := rfl
theorem bt_230_36 : mm_at mt_P 230 36 = some ((36, 1, .aload_n 0, 0, 0, 0, 0), 6, 5, 1, 8, 1, 0, 0) := rfl
theorem bt_230_37 : mm_at mt_P 230 37 = some ((37, 2, .iload 5, 0, 0, 0, 0), 6, 5, 1, 8, 1, 0, 0) := rfl
theorem bt_230_39 : mm_at mt_P 230 39 = some ((39, 3, .invokevirtual 79, 220, 0, 0, 470), 6, 5, 1, 8, 1, 0, 0) := rfl
theorem bt_230_42 : mm_at mt_P 230 42 = some ((42, 1, .aload_n 0, 0, 0, 0, 0), 6, 5, 1, 8, 1, 0, 0) := rfl
theorem bt_230_43 : mm_at mt_P 230 43 = some ((43, 3, .getfield 13, 8, 1, 0, 433), 6, 5, 1, 8, 1, 0, 0) := rfl
theorem bt_230_46 : mm_at mt_P 230 46 = some ((46, 1, .ireturn, 0, 0, 0, 0), 6, 5, 1, 8, 1, 0, 0) := rfl
section BX
variable {E : mm_E} {FIN : mm_C → Prop} {h0 h : mm_H} {s : Nat → Int32} {A : Nat → Nat → Int32} {L : Nat → Nat → Int64} {gs : List mm_F}
set_option maxHeartbeats 40000000 in
theorem wr_put {w : Int32} : ∀ N : Nat, ∀ (h : mm_H) (s : Nat → Int32) (A : Nat → Nat → Int32) (lv : mm_V) (o : Option Value) (k : Int32), bh_P bx_T E h0 h s A L → mm_get lv 0 = some (.ref (E.1 + 88)) → mm_get lv 1 = some (.int w) → mm_get lv 2 = some (.int k) → k.toInt = 8 * (N : Int) - 8 → 0 ≤ (s 2).toInt → (s 2).toInt + N ≤ 2000 → (∀ (h' : mm_H) (s' : Nat → Int32) (A' : Nat → Nat → Int32), bh_P bx_T E h0 h' s' A' L → (∀ j, j ≠ 2 → s' j = s j) → (∀ k j, k ≠ 89 → A' k j = A k j) → (s' 2).toInt = (s 2).toInt + N → bh_G E FIN (mm_back none gs h')) → bh_G E FIN ((76, 3, lv, [], 0, 0) :: gs, h, o) := by
  intro N
  induction N with
  | zero =>
    intro h s A lv o k hP g0 g1 g2 hk l0 l1 kk
    refine bh_ld (pc' := 4) bt_76_3 rfl rfl (fun _ _ _ => rfl) g2 rfl ?_
    refine bh_i0 (pc' := 7) (pt := 36) bt_76_4 rfl rfl (fun k4406 => ?_) (fun k4406 => ?_)
    · replace k4406 : (k).toInt < 0 := k4406
      refine bh_rv bt_76_36 ?_
      exact kk _ _ _ hP (fun j j2 => rfl) (fun _ _ _ => rfl) (by omega)
    · replace k4406 : ¬ ((k).toInt < 0) := k4406
      refine bh_ld (pc' := 8) bt_76_7 rfl rfl (fun _ _ _ => rfl) g0 rfl ?_
      refine bh_gr (pc' := 11) (c := 89) bt_76_8 rfl rfl (fun _ _ _ => rfl) hP bx_r1 ?_
      refine bh_ld (pc' := 12) bt_76_11 rfl rfl (fun _ _ _ => rfl) g0 rfl ?_
      refine bh_gi (pc' := 15) bt_76_12 rfl rfl (fun _ _ _ => rfl) hP bx_i2 rfl ?_
      refine bh_ld (pc' := 16) bt_76_15 rfl rfl (fun _ _ _ => rfl) g1 rfl ?_
      refine bh_ld (pc' := 17) bt_76_16 rfl rfl (fun _ _ _ => rfl) g2 rfl ?_
      refine bh_ishrA (pc' := 18) bt_76_17 rfl (fun v4407 => ?_)
      refine bh_i2bA (pc' := 19) bt_76_18 rfl (fun v4408 => ?_)
      refine bh_ias (pc' := 20) bt_76_19 rfl rfl (fun _ _ _ => rfl) hP bx_a89 (Or.inl rfl) (by omega) (by omega) (fun h4409 hP4410 => ?_)
      refine bh_ld (pc' := 21) bt_76_20 rfl rfl (fun _ _ _ => rfl) g0 rfl ?_
      refine bh_dup (pc' := 22) bt_76_21 rfl rfl ?_
      refine bh_gi (pc' := 25) bt_76_22 rfl rfl (fun _ _ _ => rfl) hP4410 bx_i2 rfl ?_
      refine bh_c (pc' := 26) (n := 1) bt_76_25 rfl rfl (fun _ _ _ => rfl) (by decide) (fun c4411 e4412 => ?_)
      refine bh_add (pc' := 27) bt_76_26 rfl (by omega) (by omega) (fun v4413 e4414 => ?_)
      refine bh_pf (pc' := 30) bt_76_27 rfl rfl (fun _ _ _ => rfl) hP4410 bx_i2 rfl (fun h4415 s4416 hP4417 e4418 f4419 => ?_)
      refine bh_inc (pc' := 33) bt_76_30 rfl (by decide) g2 (by decide) (by omega) (by omega) (fun lv4420 y4423 F4421 g4422 e4424 => ?_)
      have g4425 := F4421 0 (.ref (E.1 + 88)) g0 (by decide) (Or.inl rfl)
      have g4426 := F4421 1 (.int w) g1 (by decide) (Or.inl rfl)
      refine bh_go (pc' := 3) bt_76_33 rfl ?_
      exfalso
      omega
  | succ N ih =>
    intro h s A lv o k hP g0 g1 g2 hk l0 l1 kk
    refine bh_ld (pc' := 4) bt_76_3 rfl rfl (fun _ _ _ => rfl) g2 rfl ?_
    refine bh_i0 (pc' := 7) (pt := 36) bt_76_4 rfl rfl (fun k4427 => ?_) (fun k4427 => ?_)
    · replace k4427 : (k).toInt < 0 := k4427
      refine bh_rv bt_76_36 ?_
      exact kk _ _ _ hP (fun j j2 => rfl) (fun _ _ _ => rfl) (by omega)
    · replace k4427 : ¬ ((k).toInt < 0) := k4427
      refine bh_ld (pc' := 8) bt_76_7 rfl rfl (fun _ _ _ => rfl) g0 rfl ?_
      refine bh_gr (pc' := 11) (c := 89) bt_76_8 rfl rfl (fun _ _ _ => rfl) hP bx_r1 ?_
      refine bh_ld (pc' := 12) bt_76_11 rfl rfl (fun _ _ _ => rfl) g0 rfl ?_
      refine bh_gi (pc' := 15) bt_76_12 rfl rfl (fun _ _ _ => rfl) hP bx_i2 rfl ?_
      refine bh_ld (pc' := 16) bt_76_15 rfl rfl (fun _ _ _ => rfl) g1 rfl ?_
      refine bh_ld (pc' := 17) bt_76_16 rfl rfl (fun _ _ _ => rfl) g2 rfl ?_
      refine bh_ishrA (pc' := 18) bt_76_17 rfl (fun v4428 => ?_)
      refine bh_i2bA (pc' := 19) bt_76_18 rfl (fun v4429 => ?_)
      refine bh_ias (pc' := 20) bt_76_19 rfl rfl (fun _ _ _ => rfl) hP bx_a89 (Or.inl rfl) (by omega) (by omega) (fun h4430 hP4431 => ?_)
      refine bh_ld (pc' := 21) bt_76_20 rfl rfl (fun _ _ _ => rfl) g0 rfl ?_
      refine bh_dup (pc' := 22) bt_76_21 rfl rfl ?_
      refine bh_gi (pc' := 25) bt_76_22 rfl rfl (fun _ _ _ => rfl) hP4431 bx_i2 rfl ?_
      refine bh_c (pc' := 26) (n := 1) bt_76_25 rfl rfl (fun _ _ _ => rfl) (by decide) (fun c4432 e4433 => ?_)
      refine bh_add (pc' := 27) bt_76_26 rfl (by omega) (by omega) (fun v4434 e4435 => ?_)
      refine bh_pf (pc' := 30) bt_76_27 rfl rfl (fun _ _ _ => rfl) hP4431 bx_i2 rfl (fun h4436 s4437 hP4438 e4439 f4440 => ?_)
      refine bh_inc (pc' := 33) bt_76_30 rfl (by decide) g2 (by decide) (by omega) (by omega) (fun lv4441 y4444 F4442 g4443 e4445 => ?_)
      have g4446 := F4442 0 (.ref (E.1 + 88)) g0 (by decide) (Or.inl rfl)
      have g4447 := F4442 1 (.int w) g1 (by decide) (Or.inl rfl)
      refine bh_go (pc' := 3) bt_76_33 rfl ?_
      have z2 := congrArg Int32.toInt e4439
      exact ih _ _ _ _ _ _ hP4438 g4446 g4447 g4443 (by omega) (by omega) (by omega) (fun h' s' A' hP' f' a' z' => kk h' s' A' hP' (fun j j2 => (f' j j2).trans ((fun j j2 => (f4440 j j2)) j j2)) (fun k j u => (a' k j u).trans (bh_up_o (by omega))) (by omega))
theorem sp_76 {w : Int32} (hP : bh_P bx_T E h0 h s A L) (l0 : 0 ≤ (s 2).toInt) (l1 : (s 2).toInt + 4 ≤ 2000) (kk : (∀ (h' : mm_H) (s' : Nat → Int32) (A' : Nat → Nat → Int32), bh_P bx_T E h0 h' s' A' L → (∀ j, j ≠ 2 → s' j = s j) → (∀ k j, k ≠ 89 → A' k j = A k j) → (s' 2).toInt = (s 2).toInt + 4 → bh_G E FIN (mm_back none gs h'))) : bh_G E FIN ((76, 0, [(0, .ref (E.1 + 88)), (1, .int w)], [], 0, 0) :: gs, h, none) := by
  refine bh_c (pc' := 2) (n := 24) bt_76_0 rfl rfl (fun _ _ _ => rfl) (by decide) (fun c4448 e4449 => ?_)
  refine bh_st (pc' := 3) bt_76_2 rfl rfl (fun _ _ _ => rfl) rfl (by decide) (by decide) (fun lv4450 F4451 g4452 => ?_)
  have g4453 := F4451 0 (.ref (E.1 + 88)) rfl (by decide) (Or.inl rfl)
  have g4454 := F4451 1 (.int w) rfl (by decide) (Or.inl rfl)
  exact wr_put 4 _ _ _ _ _ _ hP g4453 g4454 g4452 (by omega) (by omega) (by omega) (fun h' s' A' hP' f' a' z' => kk h' s' A' hP' f' a' (by omega))
set_option maxHeartbeats 40000000 in
theorem sp_28 {a b c d e : Int32} (hP : bh_P bx_T E h0 h s A L) (hd : gs.length + 1 ≤ 999) (l0 : 0 ≤ (s 2).toInt) (l1 : (s 2).toInt ≤ 2000) (kk : (∀ (h' : mm_H) (s' : Nat → Int32) (A' : Nat → Nat → Int32) (r : Int32), bh_P bx_T E h0 h' s' A' L → (∀ j, j ≠ 2 → s' j = s j) → (∀ k j, k ≠ 89 → A' k j = A k j) → (((s 2).toInt + 20 ≤ 2000 ∧ (s' 2).toInt = (s 2).toInt + 20 ∧ r.toInt = (s 2).toInt + 20) ∨ (2000 < (s 2).toInt + 20 ∧ (s' 2).toInt = (s 2).toInt ∧ r.toInt = -1)) → bh_G E FIN (mm_back (some (.int r)) gs h'))) : bh_G E FIN ((28, 0, [(0, .ref (E.1 + 88)), (1, .int a), (2, .int b), (3, .int c), (4, .int d), (5, .int e)], [], 0, 0) :: gs, h, none) := by
  refine bh_ld (pc' := 1) bt_28_0 rfl rfl (fun _ _ _ => rfl) rfl rfl ?_
  refine bh_gi (pc' := 4) bt_28_1 rfl rfl (fun _ _ _ => rfl) hP bx_i2 rfl ?_
  refine bh_c (pc' := 6) (n := 20) bt_28_4 rfl rfl (fun _ _ _ => rfl) (by decide) (fun c4455 e4456 => ?_)
  refine bh_add (pc' := 7) bt_28_6 rfl (by omega) (by omega) (fun v4457 e4458 => ?_)
  refine bh_c (pc' := 10) (n := 2000) bt_28_7 rfl rfl (fun _ _ _ => rfl) (by decide) (fun c4459 e4460 => ?_)
  refine bh_ic (pc' := 13) (pt := 15) bt_28_10 rfl rfl (fun k4461 => ?_) (fun k4461 => ?_)
  · replace k4461 : (v4457).toInt ≤ (c4459).toInt := k4461
    refine bh_ld (pc' := 16) bt_28_15 rfl rfl (fun _ _ _ => rfl) rfl rfl ?_
    refine bh_ld (pc' := 17) bt_28_16 rfl rfl (fun _ _ _ => rfl) rfl rfl ?_
    refine bh_cv (pc' := 20) (st := []) (args := [.int a]) bt_28_17 rfl rfl (by decide) hP (by omega) rfl (Nat.le_of_ble_eq_true rfl) (Nat.le_of_ble_eq_true rfl) ?_
    refine sp_76 (w := a) hP (by omega) (by omega) (fun h4462 s4463 A4464 hP4465 f4466 a4467 z4468 => ?_)
    show bh_G E FIN ((28, 20, _, [], 0, 0) :: gs, _, none)
    refine bh_ld (pc' := 21) bt_28_20 rfl rfl (fun _ _ _ => rfl) rfl rfl ?_
    refine bh_ld (pc' := 22) bt_28_21 rfl rfl (fun _ _ _ => rfl) rfl rfl ?_
    refine bh_cv (pc' := 25) (st := []) (args := [.int b]) bt_28_22 rfl rfl (by decide) hP4465 (by omega) rfl (Nat.le_of_ble_eq_true rfl) (Nat.le_of_ble_eq_true rfl) ?_
    refine sp_76 (w := b) hP4465 (by omega) (by omega) (fun h4469 s4470 A4471 hP4472 f4473 a4474 z4475 => ?_)
    show bh_G E FIN ((28, 25, _, [], 0, 0) :: gs, _, none)
    refine bh_ld (pc' := 26) bt_28_25 rfl rfl (fun _ _ _ => rfl) rfl rfl ?_
    refine bh_ld (pc' := 27) bt_28_26 rfl rfl (fun _ _ _ => rfl) rfl rfl ?_
    refine bh_cv (pc' := 30) (st := []) (args := [.int c]) bt_28_27 rfl rfl (by decide) hP4472 (by omega) rfl (Nat.le_of_ble_eq_true rfl) (Nat.le_of_ble_eq_true rfl) ?_
    refine sp_76 (w := c) hP4472 (by omega) (by omega) (fun h4476 s4477 A4478 hP4479 f4480 a4481 z4482 => ?_)
    show bh_G E FIN ((28, 30, _, [], 0, 0) :: gs, _, none)
    refine bh_ld (pc' := 31) bt_28_30 rfl rfl (fun _ _ _ => rfl) rfl rfl ?_
    refine bh_ld (pc' := 33) bt_28_31 rfl rfl (fun _ _ _ => rfl) rfl rfl ?_
    refine bh_cv (pc' := 36) (st := []) (args := [.int d]) bt_28_33 rfl rfl (by decide) hP4479 (by omega) rfl (Nat.le_of_ble_eq_true rfl) (Nat.le_of_ble_eq_true rfl) ?_
    refine sp_76 (w := d) hP4479 (by omega) (by omega) (fun h4483 s4484 A4485 hP4486 f4487 a4488 z4489 => ?_)
    show bh_G E FIN ((28, 36, _, [], 0, 0) :: gs, _, none)
    refine bh_ld (pc' := 37) bt_28_36 rfl rfl (fun _ _ _ => rfl) rfl rfl ?_
    refine bh_ld (pc' := 39) bt_28_37 rfl rfl (fun _ _ _ => rfl) rfl rfl ?_
    refine bh_cv (pc' := 42) (st := []) (args := [.int e]) bt_28_39 rfl rfl (by decide) hP4486 (by omega) rfl (Nat.le_of_ble_eq_true rfl) (Nat.le_of_ble_eq_true rfl) ?_
    refine sp_76 (w := e) hP4486 (by omega) (by omega) (fun h4490 s4491 A4492 hP4493 f4494 a4495 z4496 => ?_)
    show bh_G E FIN ((28, 42, _, [], 0, 0) :: gs, _, none)
    refine bh_ld (pc' := 43) bt_28_42 rfl rfl (fun _ _ _ => rfl) rfl rfl ?_
    refine bh_gi (pc' := 46) bt_28_43 rfl rfl (fun _ _ _ => rfl) hP4493 bx_i2 rfl ?_
    refine bh_ri bt_28_46 ?_
    exact kk _ _ _ _ hP4493 (fun j j2 => ((f4494 j j2).trans ((f4487 j j2).trans ((f4480 j j2).trans ((f4473 j j2).trans (f4466 j j2)))))) (fun k j u => ((a4495 k j u).trans ((a4488 k j u).trans ((a4481 k j u).trans ((a4474 k j u).trans (a4467 k j u)))))) (by omega)
  · replace k4461 : ¬ ((v4457).toInt ≤ (c4459).toInt) := k4461
    refine bh_c (pc' := 14) (n := -1) bt_28_13 rfl rfl (fun _ _ _ => rfl) (by decide) (fun c4497 e4498 => ?_)
    refine bh_ri bt_28_14 ?_
    exact kk _ _ _ _ hP (fun j j2 => rfl) (fun k j u => rfl) (by omega)
set_option maxHeartbeats 40000000 in
theorem sp_5 {n : Int32} (hP : bh_P bx_T E h0 h s A L) (l0 : 0 ≤ (s 2).toInt) (l1 : (s 2).toInt ≤ 2000) (kk : (∀ (h' : mm_H) (s' : Nat → Int32) (A' : Nat → Nat → Int32) (r : Int32), bh_P bx_T E h0 h' s' A' L → (∀ j, j ≠ 2 → s' j = s j) → (∀ k j, k ≠ 89 → A' k j = A k j) → ((0 ≤ n.toInt ∧ n.toInt ≤ (s 2).toInt ∧ (s' 2).toInt = (s 2).toInt - n.toInt ∧ r.toInt = (s 2).toInt - n.toInt) ∨ ((n.toInt < 0 ∨ (s 2).toInt < n.toInt) ∧ (s' 2).toInt = (s 2).toInt ∧ r.toInt = -1)) → bh_G E FIN (mm_back (some (.int r)) gs h'))) : bh_G E FIN ((5, 0, [(0, .ref (E.1 + 88)), (1, .int n)], [], 0, 0) :: gs, h, none) := by
  refine bh_ld (pc' := 1) bt_5_0 rfl rfl (fun _ _ _ => rfl) rfl rfl ?_
  refine bh_i0 (pc' := 4) (pt := 12) bt_5_1 rfl rfl (fun k4499 => ?_) (fun k4499 => ?_)
  · replace k4499 : (n).toInt < 0 := k4499
    refine bh_c (pc' := 13) (n := -1) bt_5_12 rfl rfl (fun _ _ _ => rfl) (by decide) (fun c4500 e4501 => ?_)
    refine bh_ri bt_5_13 ?_
    exact kk _ _ _ _ hP (fun j j2 => rfl) (fun _ _ _ => rfl) (by omega)
  · replace k4499 : ¬ ((n).toInt < 0) := k4499
    refine bh_ld (pc' := 5) bt_5_4 rfl rfl (fun _ _ _ => rfl) rfl rfl ?_
    refine bh_ld (pc' := 6) bt_5_5 rfl rfl (fun _ _ _ => rfl) rfl rfl ?_
    refine bh_gi (pc' := 9) bt_5_6 rfl rfl (fun _ _ _ => rfl) hP bx_i2 rfl ?_
    refine bh_ic (pc' := 12) (pt := 14) bt_5_9 rfl rfl (fun k4502 => ?_) (fun k4502 => ?_)
    · replace k4502 : (n).toInt ≤ ((s 2)).toInt := k4502
      refine bh_ld (pc' := 15) bt_5_14 rfl rfl (fun _ _ _ => rfl) rfl rfl ?_
      refine bh_dup (pc' := 16) bt_5_15 rfl rfl ?_
      refine bh_gi (pc' := 19) bt_5_16 rfl rfl (fun _ _ _ => rfl) hP bx_i2 rfl ?_
      refine bh_ld (pc' := 20) bt_5_19 rfl rfl (fun _ _ _ => rfl) rfl rfl ?_
      refine bh_sub (pc' := 21) bt_5_20 rfl (by omega) (by omega) (fun v4503 e4504 => ?_)
      refine bh_pf (pc' := 24) bt_5_21 rfl rfl (fun _ _ _ => rfl) hP bx_i2 rfl (fun h4505 s4506 hP4507 e4508 f4509 => ?_)
      refine bh_ld (pc' := 25) bt_5_24 rfl rfl (fun _ _ _ => rfl) rfl rfl ?_
      refine bh_gi (pc' := 28) bt_5_25 rfl rfl (fun _ _ _ => rfl) hP4507 bx_i2 e4508 ?_
      refine bh_ri bt_5_28 ?_
      have z2 := congrArg Int32.toInt e4508
      exact kk _ _ _ _ hP4507 (fun j j2 => (f4509 j j2)) (fun _ _ _ => rfl) (by omega)
    · replace k4502 : ¬ ((n).toInt ≤ ((s 2)).toInt) := k4502
      refine bh_c (pc' := 13) (n := -1) bt_5_12 rfl rfl (fun _ _ _ => rfl) (by decide) (fun c4510 e4511 => ?_)
      refine bh_ri bt_5_13 ?_
      exact kk _ _ _ _ hP (fun j j2 => rfl) (fun _ _ _ => rfl) (by omega)
set_option maxHeartbeats 40000000 in
theorem wc_put {w : Int32} : ∀ N : Nat, ∀ (h : mm_H) (s : Nat → Int32) (A : Nat → Nat → Int32) (lv : mm_V) (o : Option Value) (k : Int32), bc_P bc_T E h0 h s A L → mm_get lv 0 = some (.ref (E.1 + 0)) → mm_get lv 1 = some (.int w) → mm_get lv 2 = some (.int k) → k.toInt = 8 * (N : Int) - 8 → 0 ≤ (s 1).toInt → (s 1).toInt + N ≤ 2000 → (∀ (h' : mm_H) (s' : Nat → Int32) (A' : Nat → Nat → Int32), bc_P bc_T E h0 h' s' A' L → (∀ j, j ≠ 1 → s' j = s j) → (∀ k j, k ≠ 1 → A' k j = A k j) → (s' 1).toInt = (s 1).toInt + N → bh_G E FIN (mm_back none gs h')) → bh_G E FIN ((220, 3, lv, [], 0, 0) :: gs, h, o) := by
  intro N
  induction N with
  | zero =>
    intro h s A lv o k hP g0 g1 g2 hk l0 l1 kk
    refine bh_ld (pc' := 4) bt_220_3 rfl rfl (fun _ _ _ => rfl) g2 rfl ?_
    refine bh_i0 (pc' := 7) (pt := 46) bt_220_4 rfl rfl (fun k4512 => ?_) (fun k4512 => ?_)
    · replace k4512 : (k).toInt < 0 := k4512
      refine bh_rv bt_220_46 ?_
      exact kk _ _ _ hP (fun j j1 => rfl) (fun _ _ _ => rfl) (by omega)
    · replace k4512 : ¬ ((k).toInt < 0) := k4512
      refine bh_ld (pc' := 8) bt_220_7 rfl rfl (fun _ _ _ => rfl) g0 rfl ?_
      refine bc_gi (pc' := 11) bt_220_8 rfl rfl (fun _ _ _ => rfl) hP bc_i1 rfl ?_
      refine bh_c (pc' := 14) (n := 2000) bt_220_11 rfl rfl (fun _ _ _ => rfl) (by decide) (fun c4513 e4514 => ?_)
      refine bh_ic (pc' := 17) (pt := 46) bt_220_14 rfl rfl (fun k4515 => ?_) (fun k4515 => ?_)
      · replace k4515 : (c4513).toInt ≤ ((s 1)).toInt := k4515
        refine bh_rv bt_220_46 ?_
        exact kk _ _ _ hP (fun j j1 => rfl) (fun _ _ _ => rfl) (by omega)
      · replace k4515 : ¬ ((c4513).toInt ≤ ((s 1)).toInt) := k4515
        refine bh_ld (pc' := 18) bt_220_17 rfl rfl (fun _ _ _ => rfl) g0 rfl ?_
        refine bc_gr (pc' := 21) (c := 1) bt_220_18 rfl rfl (fun _ _ _ => rfl) hP bc_r0 ?_
        refine bh_ld (pc' := 22) bt_220_21 rfl rfl (fun _ _ _ => rfl) g0 rfl ?_
        refine bc_gi (pc' := 25) bt_220_22 rfl rfl (fun _ _ _ => rfl) hP bc_i1 rfl ?_
        refine bh_ld (pc' := 26) bt_220_25 rfl rfl (fun _ _ _ => rfl) g1 rfl ?_
        refine bh_ld (pc' := 27) bt_220_26 rfl rfl (fun _ _ _ => rfl) g2 rfl ?_
        refine bh_iushrA (pc' := 28) bt_220_27 rfl (fun v4516 => ?_)
        refine bh_i2bA (pc' := 29) bt_220_28 rfl (fun v4517 => ?_)
        refine bc_ias (pc' := 30) bt_220_29 rfl rfl (fun _ _ _ => rfl) hP bc_a1 (Or.inl rfl) (by omega) (by omega) (fun h4518 hP4519 => ?_)
        refine bh_ld (pc' := 31) bt_220_30 rfl rfl (fun _ _ _ => rfl) g0 rfl ?_
        refine bh_dup (pc' := 32) bt_220_31 rfl rfl ?_
        refine bc_gi (pc' := 35) bt_220_32 rfl rfl (fun _ _ _ => rfl) hP4519 bc_i1 rfl ?_
        refine bh_c (pc' := 36) (n := 1) bt_220_35 rfl rfl (fun _ _ _ => rfl) (by decide) (fun c4520 e4521 => ?_)
        refine bh_add (pc' := 37) bt_220_36 rfl (by omega) (by omega) (fun v4522 e4523 => ?_)
        refine bc_pf (pc' := 40) bt_220_37 rfl rfl (fun _ _ _ => rfl) hP4519 bc_i1 rfl (fun h4524 s4525 hP4526 e4527 f4528 => ?_)
        refine bh_inc (pc' := 43) bt_220_40 rfl (by decide) g2 (by decide) (by omega) (by omega) (fun lv4529 y4532 F4530 g4531 e4533 => ?_)
        have g4534 := F4530 0 (.ref (E.1 + 0)) g0 (by decide) (Or.inl rfl)
        have g4535 := F4530 1 (.int w) g1 (by decide) (Or.inl rfl)
        refine bh_go (pc' := 3) bt_220_43 rfl ?_
        exfalso
        omega
  | succ N ih =>
    intro h s A lv o k hP g0 g1 g2 hk l0 l1 kk
    refine bh_ld (pc' := 4) bt_220_3 rfl rfl (fun _ _ _ => rfl) g2 rfl ?_
    refine bh_i0 (pc' := 7) (pt := 46) bt_220_4 rfl rfl (fun k4536 => ?_) (fun k4536 => ?_)
    · replace k4536 : (k).toInt < 0 := k4536
      refine bh_rv bt_220_46 ?_
      exact kk _ _ _ hP (fun j j1 => rfl) (fun _ _ _ => rfl) (by omega)
    · replace k4536 : ¬ ((k).toInt < 0) := k4536
      refine bh_ld (pc' := 8) bt_220_7 rfl rfl (fun _ _ _ => rfl) g0 rfl ?_
      refine bc_gi (pc' := 11) bt_220_8 rfl rfl (fun _ _ _ => rfl) hP bc_i1 rfl ?_
      refine bh_c (pc' := 14) (n := 2000) bt_220_11 rfl rfl (fun _ _ _ => rfl) (by decide) (fun c4537 e4538 => ?_)
      refine bh_ic (pc' := 17) (pt := 46) bt_220_14 rfl rfl (fun k4539 => ?_) (fun k4539 => ?_)
      · replace k4539 : (c4537).toInt ≤ ((s 1)).toInt := k4539
        refine bh_rv bt_220_46 ?_
        exact kk _ _ _ hP (fun j j1 => rfl) (fun _ _ _ => rfl) (by omega)
      · replace k4539 : ¬ ((c4537).toInt ≤ ((s 1)).toInt) := k4539
        refine bh_ld (pc' := 18) bt_220_17 rfl rfl (fun _ _ _ => rfl) g0 rfl ?_
        refine bc_gr (pc' := 21) (c := 1) bt_220_18 rfl rfl (fun _ _ _ => rfl) hP bc_r0 ?_
        refine bh_ld (pc' := 22) bt_220_21 rfl rfl (fun _ _ _ => rfl) g0 rfl ?_
        refine bc_gi (pc' := 25) bt_220_22 rfl rfl (fun _ _ _ => rfl) hP bc_i1 rfl ?_
        refine bh_ld (pc' := 26) bt_220_25 rfl rfl (fun _ _ _ => rfl) g1 rfl ?_
        refine bh_ld (pc' := 27) bt_220_26 rfl rfl (fun _ _ _ => rfl) g2 rfl ?_
        refine bh_iushrA (pc' := 28) bt_220_27 rfl (fun v4540 => ?_)
        refine bh_i2bA (pc' := 29) bt_220_28 rfl (fun v4541 => ?_)
        refine bc_ias (pc' := 30) bt_220_29 rfl rfl (fun _ _ _ => rfl) hP bc_a1 (Or.inl rfl) (by omega) (by omega) (fun h4542 hP4543 => ?_)
        refine bh_ld (pc' := 31) bt_220_30 rfl rfl (fun _ _ _ => rfl) g0 rfl ?_
        refine bh_dup (pc' := 32) bt_220_31 rfl rfl ?_
        refine bc_gi (pc' := 35) bt_220_32 rfl rfl (fun _ _ _ => rfl) hP4543 bc_i1 rfl ?_
        refine bh_c (pc' := 36) (n := 1) bt_220_35 rfl rfl (fun _ _ _ => rfl) (by decide) (fun c4544 e4545 => ?_)
        refine bh_add (pc' := 37) bt_220_36 rfl (by omega) (by omega) (fun v4546 e4547 => ?_)
        refine bc_pf (pc' := 40) bt_220_37 rfl rfl (fun _ _ _ => rfl) hP4543 bc_i1 rfl (fun h4548 s4549 hP4550 e4551 f4552 => ?_)
        refine bh_inc (pc' := 43) bt_220_40 rfl (by decide) g2 (by decide) (by omega) (by omega) (fun lv4553 y4556 F4554 g4555 e4557 => ?_)
        have g4558 := F4554 0 (.ref (E.1 + 0)) g0 (by decide) (Or.inl rfl)
        have g4559 := F4554 1 (.int w) g1 (by decide) (Or.inl rfl)
        refine bh_go (pc' := 3) bt_220_43 rfl ?_
        have z1 := congrArg Int32.toInt e4551
        exact ih _ _ _ _ _ _ hP4550 g4558 g4559 g4555 (by omega) (by omega) (by omega) (fun h' s' A' hP' f' a' z' => kk h' s' A' hP' (fun j j1 => (f' j j1).trans ((fun j j1 => (f4552 j j1)) j j1)) (fun k j u => (a' k j u).trans (bh_up_o (by omega))) (by omega))
theorem sp_220 {w : Int32} (hP : bc_P bc_T E h0 h s A L) (l0 : 0 ≤ (s 1).toInt) (l1 : (s 1).toInt + 4 ≤ 2000) (kk : (∀ (h' : mm_H) (s' : Nat → Int32) (A' : Nat → Nat → Int32), bc_P bc_T E h0 h' s' A' L → (∀ j, j ≠ 1 → s' j = s j) → (∀ k j, k ≠ 1 → A' k j = A k j) → (s' 1).toInt = (s 1).toInt + 4 → bh_G E FIN (mm_back none gs h'))) : bh_G E FIN ((220, 0, [(0, .ref (E.1 + 0)), (1, .int w)], [], 0, 0) :: gs, h, none) := by
  refine bh_c (pc' := 2) (n := 24) bt_220_0 rfl rfl (fun _ _ _ => rfl) (by decide) (fun c4560 e4561 => ?_)
  refine bh_st (pc' := 3) bt_220_2 rfl rfl (fun _ _ _ => rfl) rfl (by decide) (by decide) (fun lv4562 F4563 g4564 => ?_)
  have g4565 := F4563 0 (.ref (E.1 + 0)) rfl (by decide) (Or.inl rfl)
  have g4566 := F4563 1 (.int w) rfl (by decide) (Or.inl rfl)
  exact wc_put 4 _ _ _ _ _ _ hP g4565 g4566 g4564 (by omega) (by omega) (by omega) (fun h' s' A' hP' f' a' z' => kk h' s' A' hP' f' a' (by omega))
set_option maxHeartbeats 40000000 in
theorem sp_230 {a b c d e : Int32} (hP : bc_P bc_T E h0 h s A L) (hd : gs.length + 1 ≤ 999) (l0 : 0 ≤ (s 1).toInt) (l1 : (s 1).toInt ≤ 2000) (kk : (∀ (h' : mm_H) (s' : Nat → Int32) (A' : Nat → Nat → Int32) (r : Int32), bc_P bc_T E h0 h' s' A' L → (∀ j, j ≠ 1 → s' j = s j) → (∀ k j, k ≠ 1 → A' k j = A k j) → (((s 1).toInt + 20 ≤ 2000 ∧ (s' 1).toInt = (s 1).toInt + 20 ∧ r.toInt = (s 1).toInt + 20) ∨ (2000 < (s 1).toInt + 20 ∧ (s' 1).toInt = (s 1).toInt ∧ r.toInt = -1)) → bh_G E FIN (mm_back (some (.int r)) gs h'))) : bh_G E FIN ((230, 0, [(0, .ref (E.1 + 0)), (1, .int a), (2, .int b), (3, .int c), (4, .int d), (5, .int e)], [], 0, 0) :: gs, h, none) := by
  refine bh_ld (pc' := 1) bt_230_0 rfl rfl (fun _ _ _ => rfl) rfl rfl ?_
  refine bc_gi (pc' := 4) bt_230_1 rfl rfl (fun _ _ _ => rfl) hP bc_i1 rfl ?_
  refine bh_c (pc' := 6) (n := 20) bt_230_4 rfl rfl (fun _ _ _ => rfl) (by decide) (fun c4567 e4568 => ?_)
  refine bh_add (pc' := 7) bt_230_6 rfl (by omega) (by omega) (fun v4569 e4570 => ?_)
  refine bh_c (pc' := 10) (n := 2000) bt_230_7 rfl rfl (fun _ _ _ => rfl) (by decide) (fun c4571 e4572 => ?_)
  refine bh_ic (pc' := 13) (pt := 15) bt_230_10 rfl rfl (fun k4573 => ?_) (fun k4573 => ?_)
  · replace k4573 : (v4569).toInt ≤ (c4571).toInt := k4573
    refine bh_ld (pc' := 16) bt_230_15 rfl rfl (fun _ _ _ => rfl) rfl rfl ?_
    refine bh_ld (pc' := 17) bt_230_16 rfl rfl (fun _ _ _ => rfl) rfl rfl ?_
    refine bc_cv (pc' := 20) (st := []) (args := [.int a]) bt_230_17 rfl rfl (by decide) hP (by omega) rfl (Nat.le_of_ble_eq_true rfl) (Nat.le_of_ble_eq_true rfl) ?_
    refine sp_220 (w := a) hP (by omega) (by omega) (fun h4574 s4575 A4576 hP4577 f4578 a4579 z4580 => ?_)
    show bh_G E FIN ((230, 20, _, [], 0, 0) :: gs, _, none)
    refine bh_ld (pc' := 21) bt_230_20 rfl rfl (fun _ _ _ => rfl) rfl rfl ?_
    refine bh_ld (pc' := 22) bt_230_21 rfl rfl (fun _ _ _ => rfl) rfl rfl ?_
    refine bc_cv (pc' := 25) (st := []) (args := [.int b]) bt_230_22 rfl rfl (by decide) hP4577 (by omega) rfl (Nat.le_of_ble_eq_true rfl) (Nat.le_of_ble_eq_true rfl) ?_
    refine sp_220 (w := b) hP4577 (by omega) (by omega) (fun h4581 s4582 A4583 hP4584 f4585 a4586 z4587 => ?_)
    show bh_G E FIN ((230, 25, _, [], 0, 0) :: gs, _, none)
    refine bh_ld (pc' := 26) bt_230_25 rfl rfl (fun _ _ _ => rfl) rfl rfl ?_
    refine bh_ld (pc' := 27) bt_230_26 rfl rfl (fun _ _ _ => rfl) rfl rfl ?_
    refine bc_cv (pc' := 30) (st := []) (args := [.int c]) bt_230_27 rfl rfl (by decide) hP4584 (by omega) rfl (Nat.le_of_ble_eq_true rfl) (Nat.le_of_ble_eq_true rfl) ?_
    refine sp_220 (w := c) hP4584 (by omega) (by omega) (fun h4588 s4589 A4590 hP4591 f4592 a4593 z4594 => ?_)
    show bh_G E FIN ((230, 30, _, [], 0, 0) :: gs, _, none)
    refine bh_ld (pc' := 31) bt_230_30 rfl rfl (fun _ _ _ => rfl) rfl rfl ?_
    refine bh_ld (pc' := 33) bt_230_31 rfl rfl (fun _ _ _ => rfl) rfl rfl ?_
    refine bc_cv (pc' := 36) (st := []) (args := [.int d]) bt_230_33 rfl rfl (by decide) hP4591 (by omega) rfl (Nat.le_of_ble_eq_true rfl) (Nat.le_of_ble_eq_true rfl) ?_
    refine sp_220 (w := d) hP4591 (by omega) (by omega) (fun h4595 s4596 A4597 hP4598 f4599 a4600 z4601 => ?_)
    show bh_G E FIN ((230, 36, _, [], 0, 0) :: gs, _, none)
    refine bh_ld (pc' := 37) bt_230_36 rfl rfl (fun _ _ _ => rfl) rfl rfl ?_
    refine bh_ld (pc' := 39) bt_230_37 rfl rfl (fun _ _ _ => rfl) rfl rfl ?_
    refine bc_cv (pc' := 42) (st := []) (args := [.int e]) bt_230_39 rfl rfl (by decide) hP4598 (by omega) rfl (Nat.le_of_ble_eq_true rfl) (Nat.le_of_ble_eq_true rfl) ?_
    refine sp_220 (w := e) hP4598 (by omega) (by omega) (fun h4602 s4603 A4604 hP4605 f4606 a4607 z4608 => ?_)
    show bh_G E FIN ((230, 42, _, [], 0, 0) :: gs, _, none)
    refine bh_ld (pc' := 43) bt_230_42 rfl rfl (fun _ _ _ => rfl) rfl rfl ?_
    refine bc_gi (pc' := 46) bt_230_43 rfl rfl (fun _ _ _ => rfl) hP4605 bc_i1 rfl ?_
    refine bh_ri bt_230_46 ?_
    exact kk _ _ _ _ hP4605 (fun j j1 => ((f4606 j j1).trans ((f4599 j j1).trans ((f4592 j j1).trans ((f4585 j j1).trans (f4578 j j1)))))) (fun k j u => ((a4607 k j u).trans ((a4600 k j u).trans ((a4593 k j u).trans ((a4586 k j u).trans (a4579 k j u)))))) (by omega)
  · replace k4573 : ¬ ((v4569).toInt ≤ (c4571).toInt) := k4573
    refine bh_c (pc' := 14) (n := -1) bt_230_13 rfl rfl (fun _ _ _ => rfl) (by decide) (fun c4609 e4610 => ?_)
    refine bh_ri bt_230_14 ?_
    exact kk _ _ _ _ hP (fun j j1 => rfl) (fun k j u => rfl) (by omega)
set_option maxHeartbeats 40000000 in
theorem sp_221 {n : Int32} (hP : bc_P bc_T E h0 h s A L) (l0 : 0 ≤ (s 1).toInt) (l1 : (s 1).toInt ≤ 2000) (kk : (∀ (h' : mm_H) (s' : Nat → Int32) (A' : Nat → Nat → Int32) (r : Int32), bc_P bc_T E h0 h' s' A' L → (∀ j, j ≠ 1 → s' j = s j) → (∀ k j, k ≠ 1 → A' k j = A k j) → ((0 ≤ n.toInt ∧ n.toInt ≤ (s 1).toInt ∧ (s' 1).toInt = (s 1).toInt - n.toInt ∧ r.toInt = (s 1).toInt - n.toInt) ∨ ((n.toInt < 0 ∨ (s 1).toInt < n.toInt) ∧ (s' 1).toInt = (s 1).toInt ∧ r.toInt = -1)) → bh_G E FIN (mm_back (some (.int r)) gs h'))) : bh_G E FIN ((221, 0, [(0, .ref (E.1 + 0)), (1, .int n)], [], 0, 0) :: gs, h, none) := by
  refine bh_ld (pc' := 1) bt_221_0 rfl rfl (fun _ _ _ => rfl) rfl rfl ?_
  refine bh_i0 (pc' := 4) (pt := 12) bt_221_1 rfl rfl (fun k4611 => ?_) (fun k4611 => ?_)
  · replace k4611 : (n).toInt < 0 := k4611
    refine bh_c (pc' := 13) (n := -1) bt_221_12 rfl rfl (fun _ _ _ => rfl) (by decide) (fun c4612 e4613 => ?_)
    refine bh_ri bt_221_13 ?_
    exact kk _ _ _ _ hP (fun j j1 => rfl) (fun _ _ _ => rfl) (by omega)
  · replace k4611 : ¬ ((n).toInt < 0) := k4611
    refine bh_ld (pc' := 5) bt_221_4 rfl rfl (fun _ _ _ => rfl) rfl rfl ?_
    refine bh_ld (pc' := 6) bt_221_5 rfl rfl (fun _ _ _ => rfl) rfl rfl ?_
    refine bc_gi (pc' := 9) bt_221_6 rfl rfl (fun _ _ _ => rfl) hP bc_i1 rfl ?_
    refine bh_ic (pc' := 12) (pt := 14) bt_221_9 rfl rfl (fun k4614 => ?_) (fun k4614 => ?_)
    · replace k4614 : (n).toInt ≤ ((s 1)).toInt := k4614
      refine bh_ld (pc' := 15) bt_221_14 rfl rfl (fun _ _ _ => rfl) rfl rfl ?_
      refine bh_dup (pc' := 16) bt_221_15 rfl rfl ?_
      refine bc_gi (pc' := 19) bt_221_16 rfl rfl (fun _ _ _ => rfl) hP bc_i1 rfl ?_
      refine bh_ld (pc' := 20) bt_221_19 rfl rfl (fun _ _ _ => rfl) rfl rfl ?_
      refine bh_sub (pc' := 21) bt_221_20 rfl (by omega) (by omega) (fun v4615 e4616 => ?_)
      refine bc_pf (pc' := 24) bt_221_21 rfl rfl (fun _ _ _ => rfl) hP bc_i1 rfl (fun h4617 s4618 hP4619 e4620 f4621 => ?_)
      refine bh_ld (pc' := 25) bt_221_24 rfl rfl (fun _ _ _ => rfl) rfl rfl ?_
      refine bc_gi (pc' := 28) bt_221_25 rfl rfl (fun _ _ _ => rfl) hP4619 bc_i1 e4620 ?_
      refine bh_ri bt_221_28 ?_
      have z1 := congrArg Int32.toInt e4620
      exact kk _ _ _ _ hP4619 (fun j j1 => (f4621 j j1)) (fun _ _ _ => rfl) (by omega)
    · replace k4614 : ¬ ((n).toInt ≤ ((s 1)).toInt) := k4614
      refine bh_c (pc' := 13) (n := -1) bt_221_12 rfl rfl (fun _ _ _ => rfl) (by decide) (fun c4622 e4623 => ?_)
      refine bh_ri bt_221_13 ?_
      exact kk _ _ _ _ hP (fun j j1 => rfl) (fun _ _ _ => rfl) (by omega)
end BX
