/-! BY HAND OVER MANY OBJECTS: more steps, with what they give -/
section BS
variable {T : bm_T} {E : mm_E} {FIN : mm_C → Prop} {h0 h : mm_H} {s : Nat → Int32} {A : Nat → Nat → Int32} {L : Nat → Nat → Int64} {m pc pc' pc0 len a b wd nL : Nat} {dd : mm_M} {z : Int} {ins : Instr} {lv lv' : mm_V} {st st' r : List Value} {gs : List mm_F} {o : Option Value}
theorem bm_lcmp {x y : Int64} (hat : mm_at mt_P m pc = some ((pc0, len, .lcmp, a, b, z, wd), nL, dd)) (hp : pc + len = pc') (g : ∀ v : Int32, ((v.toInt = 1 ∧ y.toInt < x.toInt) ∨ (v.toInt = 0 ∧ x.toInt = y.toInt) ∨ (v.toInt = -1 ∧ x.toInt < y.toInt)) → bh_G E FIN ((m, pc', lv, .int v :: st, 0, 0) :: gs, h, none)) : bh_G E FIN ((m, pc, lv, .long y :: .long x :: st, 0, 0) :: gs, h, o) := by
  subst hp
  refine bh_lb (f := fun x y => .int (lg_cmp x y)) hat rfl rfl (fun _ _ _ => rfl) (g _ ?_)
  unfold lg_cmp
  simp only [gt_iff_lt, Int64.lt_iff_toInt_lt, ← Int64.toInt_inj]
  by_cases h1 : y.toInt < x.toInt
  · rw [if_pos h1]
    exact Or.inl ⟨by decide, h1⟩
  · rw [if_neg h1]
    by_cases h2 : x.toInt = y.toInt
    · rw [if_pos h2]
      exact Or.inr (Or.inl ⟨by decide, h2⟩)
    · rw [if_neg h2]
      exact Or.inr (Or.inr ⟨by decide, by omega⟩)
theorem bm_ladd {x y : Int64} (hat : mm_at mt_P m pc = some ((pc0, len, .ladd, a, b, z, wd), nL, dd)) (hp : pc + len = pc') (g : ∀ v : Int64, v = x + y → bh_G E FIN ((m, pc', lv, .long v :: st, 0, 0) :: gs, h, none)) : bh_G E FIN ((m, pc, lv, .long y :: .long x :: st, 0, 0) :: gs, h, o) := by
  subst hp
  exact bh_lb (f := fun x y => .long (x + y)) hat rfl rfl (fun _ _ _ => rfl) (g _ rfl)
theorem bm_lmul {x y : Int64} (hat : mm_at mt_P m pc = some ((pc0, len, .lmul, a, b, z, wd), nL, dd)) (hp : pc + len = pc') (g : ∀ v : Int64, v = x * y → bh_G E FIN ((m, pc', lv, .long v :: st, 0, 0) :: gs, h, none)) : bh_G E FIN ((m, pc, lv, .long y :: .long x :: st, 0, 0) :: gs, h, o) := by
  subst hp
  exact bh_lb (f := fun x y => .long (x * y)) hat rfl rfl (fun _ _ _ => rfl) (g _ rfl)
theorem bm_i2l {x : Int32} (hat : mm_at mt_P m pc = some ((pc0, len, .i2l, a, b, z, wd), nL, dd)) (hp : pc + len = pc') (g : ∀ v : Int64, v.toInt = x.toInt → bh_G E FIN ((m, pc', lv, .long v :: st, 0, 0) :: gs, h, none)) : bh_G E FIN ((m, pc, lv, .int x :: st, 0, 0) :: gs, h, o) := by
  subst hp
  exact bh_s1 hat rfl rfl rfl (g _ (Int32.toInt_toInt64 x))
theorem bm_l2i {x : Int64} (hat : mm_at mt_P m pc = some ((pc0, len, .l2i, a, b, z, wd), nL, dd)) (hp : pc + len = pc') (g : ∀ v : Int32, (-2147483648 ≤ x.toInt → x.toInt < 2147483648 → v.toInt = x.toInt) → bh_G E FIN ((m, pc', lv, .int v :: st, 0, 0) :: gs, h, none)) : bh_G E FIN ((m, pc, lv, .long x :: st, 0, 0) :: gs, h, o) := by
  subst hp
  refine bh_s1 hat rfl rfl rfl (g x.toInt32 (fun h1 h2 => ?_))
  rw [Int64.toInt_toInt32]
  exact Int.bmod_eq_of_le (by omega) (by omega)
theorem bm_cL {x : Int64} {n : Int} (hat : mm_at mt_P m pc = some ((pc0, len, ins, a, b, z, wd), nL, dd)) (hi : mm_inv ins = none) (hr : mm_rtn ins = none) (hl : ∀ (lv : mm_V) (st : List Value) (h : mm_H), mm_ex E mt_kds nL ins len a b z pc lv st 0 0 h = some (pc', lv, .long x :: st, 0, 0, h)) (hc : x.toInt = n) (g : ∀ v : Int64, v.toInt = n → bh_G E FIN ((m, pc', lv, .long v :: st, 0, 0) :: gs, h, none)) : bh_G E FIN ((m, pc, lv, st, 0, 0) :: gs, h, o) :=
  bh_s1 hat hi hr (hl lv st h) (g x hc)
theorem bm_orA {x y : Int32} (hat : mm_at mt_P m pc = some ((pc0, len, .ior, a, b, z, wd), nL, dd)) (hp : pc + len = pc') (g : ∀ v : Int32, bh_G E FIN ((m, pc', lv, .int v :: st, 0, 0) :: gs, h, none)) : bh_G E FIN ((m, pc, lv, .int y :: .int x :: st, 0, 0) :: gs, h, o) := by
  subst hp
  exact bh_bin (v := x ||| y) hat rfl rfl (fun _ _ _ => rfl) rfl (g _)
theorem bm_shlA {x y : Int32} (hat : mm_at mt_P m pc = some ((pc0, len, .ishl, a, b, z, wd), nL, dd)) (hp : pc + len = pc') (g : ∀ v : Int32, bh_G E FIN ((m, pc', lv, .int v :: st, 0, 0) :: gs, h, none)) : bh_G E FIN ((m, pc, lv, .int y :: .int x :: st, 0, 0) :: gs, h, o) := by
  subst hp
  exact bh_bin (v := x <<< (y &&& 31)) hat rfl rfl (fun _ _ _ => rfl) rfl (g _)
theorem bm_i2c {x : Int32} (hat : mm_at mt_P m pc = some ((pc0, len, .i2c, a, b, z, wd), nL, dd)) (hp : pc + len = pc') (h1 : 0 ≤ x.toInt) (h2 : x.toInt < 65536) (g : bh_G E FIN ((m, pc', lv, .int x :: st, 0, 0) :: gs, h, none)) : bh_G E FIN ((m, pc, lv, .int x :: st, 0, 0) :: gs, h, o) := by
  subst hp
  have e : (x.toUInt32 % 65536).toInt32 = x := by
    have e1 : x.toUInt32.toNat < 65536 := by
      have e3 : x.toInt = (x.toUInt32.toNat : Int) := by
        have e4 : x.toUInt32.toNat = x.toBitVec.toNat := rfl
        have e5 : x.toInt = x.toBitVec.toInt := rfl
        rw [e5] at h1 h2 ⊢
        rw [e4]
        rw [BitVec.toInt_eq_toNat_cond] at h1 h2 ⊢
        have e6 := x.toBitVec.isLt
        split at h1 <;> split <;> omega
      omega
    have e2 : x.toUInt32 % 65536 = x.toUInt32 := UInt32.toNat_inj.mp (by rw [UInt32.toNat_mod]; exact Nat.mod_eq_of_lt e1)
    rw [e2]
    rfl
  exact bh_s1 hat rfl rfl (h' := h) (lv' := lv) (st' := .int x :: st) (by simp only [mm_ex, mm_un, e]) g
theorem bm_al {c t n : Nat} (hat : mm_at mt_P m pc = some ((pc0, len, .arraylength, a, b, z, wd), nL, dd)) (hp : pc + len = pc') (hP : bm_P T E h0 h s A L) (hq : (c, t, n) ∈ T.2.2.2.2.1) (ht : t < 5) (hn : n ≤ 3072) (g : ∀ v : Int32, v.toInt = (n : Int) → bh_G E FIN ((m, pc', lv, .int v :: st, 0, 0) :: gs, h, none)) : bh_G E FIN ((m, pc, lv, .ref (E.1 + c) :: st, 0, 0) :: gs, h, o) := by
  subst hp
  refine bh_s1 hat rfl rfl ?_ (g (Int32.ofNat n) (Int32.toInt_ofNat_of_lt (by omega)))
  have e := hP.2.2.2.1 (c, t, n) hq
  simp only at e
  simp only [mm_ex, mm_alen, bh_cell, e, if_pos ht]
theorem bm_gs {x : Nat} {q : mm_S} (hat : mm_at mt_P m pc = some ((pc0, len, .getstatic x, a, b, z, wd), nL, dd)) (hp : pc + len = pc') (h8 : a ≠ 8) (h9 : a ≠ 9) (hq : E.2[a]? = some q) (g : bh_G E FIN ((m, pc', lv, .ref q.1 :: st, 0, 0) :: gs, h, none)) : bh_G E FIN ((m, pc, lv, st, 0, 0) :: gs, h, o) := by
  subst hp
  exact bh_s1 hat rfl rfl (h' := h) (lv' := lv) (st' := .ref q.1 :: st) (by simp only [mm_ex, if_neg h9, if_neg h8, hq]) g
theorem bm_sia {q q' : mm_S} {I : Int32} (hat : mm_at mt_P m pc = some ((pc0, len, .iaload, a, b, z, wd), nL, dd)) (hp : pc + len = pc') (hq : q.1 < E.1) (hs : mm_stat E q.1 = some q') (h1 : 0 ≤ I.toInt) (h2 : I.toInt < (q'.2.1 : Int)) (g : ∀ v : Int32, bh_G E FIN ((m, pc', lv, .int v :: st, 0, 0) :: gs, h, none)) : bh_G E FIN ((m, pc, lv, .int I :: .ref q.1 :: st, 0, 0) :: gs, h, o) := by
  subst hp
  obtain ⟨q0, n, f⟩ := q'
  refine bh_s1 hat rfl rfl ?_ (g (f I.toNatClampNeg))
  have ec : mm_cell E h q.1 = none := if_neg (Nat.not_le.mpr hq)
  simp only [mm_ex, mm_ald, ec, if_true, hs]
  rw [if_pos (bh_inr h1 h2)]
theorem bm_addx {x y : Int32} (hat : mm_at mt_P m pc = some ((pc0, len, .iadd, a, b, z, wd), nL, dd)) (hp : pc + len = pc') (g : ∀ v : Int32, (-2147483648 ≤ x.toInt + y.toInt → x.toInt + y.toInt < 2147483648 → v.toInt = x.toInt + y.toInt) → bh_G E FIN ((m, pc', lv, .int v :: st, 0, 0) :: gs, h, none)) : bh_G E FIN ((m, pc, lv, .int y :: .int x :: st, 0, 0) :: gs, h, o) := by
  subst hp
  refine bh_bin (v := x + y) hat rfl rfl (fun _ _ _ => rfl) rfl (g _ (fun h1 h2 => ?_))
  rw [Int32.toInt_add]
  exact Int.bmod_eq_of_le (by omega) (by omega)
theorem bm_subx {x y : Int32} (hat : mm_at mt_P m pc = some ((pc0, len, .isub, a, b, z, wd), nL, dd)) (hp : pc + len = pc') (g : ∀ v : Int32, (-2147483648 ≤ x.toInt - y.toInt → x.toInt - y.toInt < 2147483648 → v.toInt = x.toInt - y.toInt) → bh_G E FIN ((m, pc', lv, .int v :: st, 0, 0) :: gs, h, none)) : bh_G E FIN ((m, pc, lv, .int y :: .int x :: st, 0, 0) :: gs, h, o) := by
  subst hp
  refine bh_bin (v := x - y) hat rfl rfl (fun _ _ _ => rfl) rfl (g _ (fun h1 h2 => ?_))
  rw [Int32.toInt_sub]
  exact Int.bmod_eq_of_le (by omega) (by omega)
theorem bm_mulx {x y : Int32} (hat : mm_at mt_P m pc = some ((pc0, len, .imul, a, b, z, wd), nL, dd)) (hp : pc + len = pc') (g : ∀ v : Int32, (-2147483648 ≤ x.toInt * y.toInt → x.toInt * y.toInt < 2147483648 → v.toInt = x.toInt * y.toInt) → bh_G E FIN ((m, pc', lv, .int v :: st, 0, 0) :: gs, h, none)) : bh_G E FIN ((m, pc, lv, .int y :: .int x :: st, 0, 0) :: gs, h, o) := by
  subst hp
  refine bh_bin (v := x * y) hat rfl rfl (fun _ _ _ => rfl) rfl (g _ (fun h1 h2 => ?_))
  rw [Int32.toInt_mul]
  exact Int.bmod_eq_of_le (by omega) (by omega)
end BS
