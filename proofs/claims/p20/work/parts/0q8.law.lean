/-! THE LAW, STEP BY STEP (wip/p3/mkj5.py) -/
section BL
variable {E : mm_E} {FIN : mm_C → Prop} {h : mm_H} {m pc pc' pc0 len a b wd nL cb sb : Nat} {dd : mm_M} {z : Int} {ins : Instr} {lv lv' : mm_V} {st st' r : List Value} {gs : List mm_F} {o : Option Value}
/-- a simple step -/
theorem bl_s1 {h' : mm_H} (hat : mm_at mt_P m pc = some ((pc0, len, ins, a, b, z, wd), nL, dd)) (hi : mm_inv ins = none) (hr : mm_rtn ins = none) (hx : mm_ex E mt_kds nL ins len a b z pc lv st cb sb h = some (pc', lv', st', cb, sb, h')) (g : bh_G E FIN ((m, pc', lv', st', cb, sb) :: gs, h', none)) : bh_G E FIN ((m, pc, lv, st, cb, sb) :: gs, h, o) := by
  obtain ⟨np, kd, ci, rk, mc, ms⟩ := dd
  exact en_good_step (by simp only [mm_stp, hat, hi, hr, hx]) g
theorem bl_ld {kd i : Nat} {v : Value} (hat : mm_at mt_P m pc = some ((pc0, len, ins, a, b, z, wd), nL, dd)) (hi : mm_inv ins = none) (hr : mm_rtn ins = none) (hl : ∀ (lv : mm_V) (st : List Value) (h : mm_H), mm_ex E mt_kds nL ins len a b z pc lv st cb sb h = mm_load lv st cb sb h pc' kd i) (hv : mm_get lv i = some v) (hk : mm_kind v = kd) (g : bh_G E FIN ((m, pc', lv, v :: st, cb, sb) :: gs, h, none)) : bh_G E FIN ((m, pc, lv, st, cb, sb) :: gs, h, o) := by
  refine bl_s1 hat hi hr ?_ g
  rw [hl]
  unfold mm_load
  rw [hv]
  simp only []
  rw [if_pos hk]
theorem bl_inc {i : Nat} {n : Int} {x : Int32} (hat : mm_at mt_P m pc = some ((pc0, len, .iinc i n, a, b, z, wd), nL, dd)) (hp : pc + len = pc') (hil : i < nL) (hv : mm_get lv i = some (.int x)) (h1 : -2147483648 ≤ n ∧ n < 2147483648) (h2 : -2147483648 ≤ x.toInt + n) (h3 : x.toInt + n < 2147483648) (g : ∀ (lv' : mm_V) (y : Int32), (∀ (j : Nat) (w : Value), mm_get lv j = some w → j ≠ i → (w.category = 1 ∨ j + 1 ≠ i) → mm_get lv' j = some w) → mm_get lv' i = some (.int y) → y.toInt = x.toInt + n → bh_G E FIN ((m, pc', lv', st, cb, sb) :: gs, h, none)) : bh_G E FIN ((m, pc, lv, st, cb, sb) :: gs, h, o) := by
  refine bl_s1 hat rfl rfl (lv' := mm_p1 lv i (.int (x + Int32.ofInt n))) (st' := st) (h' := h) ?_ (g _ _ (fun j w h1 h2 h3 => bh_p1 h1 h2 h3) bh_h0 ?_)
  · simp only [mm_ex, hv, if_pos hil, hp]
  · have e1 : (Int32.ofInt n).toInt = n := Int32.toInt_ofInt_of_le (by omega) (by omega)
    rw [Int32.toInt_add, e1]
    exact Int.bmod_eq_of_le (by omega) (by omega)
theorem bl_c {c : Int32} {n : Int} (hat : mm_at mt_P m pc = some ((pc0, len, ins, a, b, z, wd), nL, dd)) (hi : mm_inv ins = none) (hr : mm_rtn ins = none) (hl : ∀ (lv : mm_V) (st : List Value) (h : mm_H), mm_ex E mt_kds nL ins len a b z pc lv st cb sb h = some (pc', lv, .int c :: st, cb, sb, h)) (hc : c.toInt = n) (g : ∀ v : Int32, v.toInt = n → bh_G E FIN ((m, pc', lv, .int v :: st, cb, sb) :: gs, h, none)) : bh_G E FIN ((m, pc, lv, st, cb, sb) :: gs, h, o) :=
  bl_s1 hat hi hr (hl lv st h) (g c hc)
theorem bl_bin {x y v : Int32} {f : Int32 → Int32 → Option Int32} (hat : mm_at mt_P m pc = some ((pc0, len, ins, a, b, z, wd), nL, dd)) (hi : mm_inv ins = none) (hr : mm_rtn ins = none) (hl : ∀ (lv : mm_V) (st : List Value) (h : mm_H), mm_ex E mt_kds nL ins len a b z pc lv st cb sb h = mm_bin lv st cb sb h pc' f) (hf : f x y = some v) (g : bh_G E FIN ((m, pc', lv, .int v :: st, cb, sb) :: gs, h, none)) : bh_G E FIN ((m, pc, lv, .int y :: .int x :: st, cb, sb) :: gs, h, o) := by
  refine bl_s1 hat hi hr ?_ g
  rw [hl]
  simp only [mm_bin, hf, Option.map_some]
theorem bl_add {x y : Int32} (hat : mm_at mt_P m pc = some ((pc0, len, .iadd, a, b, z, wd), nL, dd)) (hp : pc + len = pc') (h1 : -2147483648 ≤ x.toInt + y.toInt) (h2 : x.toInt + y.toInt < 2147483648) (g : ∀ v : Int32, v.toInt = x.toInt + y.toInt → bh_G E FIN ((m, pc', lv, .int v :: st, cb, sb) :: gs, h, none)) : bh_G E FIN ((m, pc, lv, .int y :: .int x :: st, cb, sb) :: gs, h, o) := by
  subst hp
  refine bl_bin (v := x + y) hat rfl rfl (fun _ _ _ => rfl) rfl (g _ ?_)
  rw [Int32.toInt_add]
  exact Int.bmod_eq_of_le (by omega) (by omega)
theorem bl_sub {x y : Int32} (hat : mm_at mt_P m pc = some ((pc0, len, .isub, a, b, z, wd), nL, dd)) (hp : pc + len = pc') (h1 : -2147483648 ≤ x.toInt - y.toInt) (h2 : x.toInt - y.toInt < 2147483648) (g : ∀ v : Int32, v.toInt = x.toInt - y.toInt → bh_G E FIN ((m, pc', lv, .int v :: st, cb, sb) :: gs, h, none)) : bh_G E FIN ((m, pc, lv, .int y :: .int x :: st, cb, sb) :: gs, h, o) := by
  subst hp
  refine bl_bin (v := x - y) hat rfl rfl (fun _ _ _ => rfl) rfl (g _ ?_)
  rw [Int32.toInt_sub]
  exact Int.bmod_eq_of_le (by omega) (by omega)
theorem bl_andA {x y : Int32} (hat : mm_at mt_P m pc = some ((pc0, len, .iand, a, b, z, wd), nL, dd)) (hp : pc + len = pc') (g : ∀ v : Int32, bh_G E FIN ((m, pc', lv, .int v :: st, cb, sb) :: gs, h, none)) : bh_G E FIN ((m, pc, lv, .int y :: .int x :: st, cb, sb) :: gs, h, o) := by
  subst hp
  exact bl_bin (v := x &&& y) hat rfl rfl (fun _ _ _ => rfl) rfl (g _)
theorem bl_jmp {off : Int} {lv : mm_V} {st : List Value} {h : mm_H} (hq : (pc : Int) + off = (pc' : Int)) : mm_jump lv st cb sb h pc off = some (pc', lv, st, cb, sb, h) := by
  unfold mm_jump
  rw [hq, if_pos (Int.natCast_nonneg _), Int.toNat_natCast]
theorem bl_go {off : Int} (hat : mm_at mt_P m pc = some ((pc0, len, .goto off, a, b, z, wd), nL, dd)) (hq : (pc : Int) + off = (pc' : Int)) (g : bh_G E FIN ((m, pc', lv, st, cb, sb) :: gs, h, none)) : bh_G E FIN ((m, pc, lv, st, cb, sb) :: gs, h, o) :=
  bl_s1 hat rfl rfl (bl_jmp hq) g
theorem bl_ic {k : Jvm.ClassFile.Cond} {off : Int} {x y : Int32} {pt : Nat} (hat : mm_at mt_P m pc = some ((pc0, len, .if_icmp k off, a, b, z, wd), nL, dd)) (hp : pc + len = pc') (hq : (pc : Int) + off = (pt : Int)) (g1 : bh_cd k x y → bh_G E FIN ((m, pt, lv, st, cb, sb) :: gs, h, none)) (g2 : ¬ bh_cd k x y → bh_G E FIN ((m, pc', lv, st, cb, sb) :: gs, h, none)) : bh_G E FIN ((m, pc, lv, .int y :: .int x :: st, cb, sb) :: gs, h, o) := by
  subst hp
  by_cases hc : mm_cond k x y = true
  · refine bl_s1 hat rfl rfl ?_ (g1 (bh_cd_iff.mp hc))
    simp only [mm_ex]
    rw [if_pos hc]
    exact bl_jmp hq
  · refine bl_s1 hat rfl rfl ?_ (g2 (fun e => hc (bh_cd_iff.mpr e)))
    simp only [mm_ex]
    rw [if_neg hc]
theorem bl_i0 {k : Jvm.ClassFile.Cond} {off : Int} {x : Int32} {pt : Nat} (hat : mm_at mt_P m pc = some ((pc0, len, .ifCond k off, a, b, z, wd), nL, dd)) (hp : pc + len = pc') (hq : (pc : Int) + off = (pt : Int)) (g1 : bh_cd k x 0 → bh_G E FIN ((m, pt, lv, st, cb, sb) :: gs, h, none)) (g2 : ¬ bh_cd k x 0 → bh_G E FIN ((m, pc', lv, st, cb, sb) :: gs, h, none)) : bh_G E FIN ((m, pc, lv, .int x :: st, cb, sb) :: gs, h, o) := by
  subst hp
  by_cases hc : mm_cond k x 0 = true
  · refine bl_s1 hat rfl rfl ?_ (g1 (bh_cd_iff.mp hc))
    simp only [mm_ex]
    rw [if_pos hc]
    exact bl_jmp hq
  · refine bl_s1 hat rfl rfl ?_ (g2 (fun e => hc (bh_cd_iff.mpr e)))
    simp only [mm_ex]
    rw [if_neg hc]
theorem bl_pop {v : Value} (hat : mm_at mt_P m pc = some ((pc0, len, .pop, a, b, z, wd), nL, dd)) (hp : pc + len = pc') (hv : v.category = 1) (g : bh_G E FIN ((m, pc', lv, st, cb, sb) :: gs, h, none)) : bh_G E FIN ((m, pc, lv, v :: st, cb, sb) :: gs, h, o) := by
  subst hp
  refine bl_s1 hat rfl rfl ?_ g
  simp only [mm_ex]
  rw [if_pos hv]
/-- the script's array -/
def bl_S (E : mm_E) (b n : Nat) (xs : Nat → Int32) : Prop := b < E.1 ∧ ∃ (q : Nat) (f : Nat → Int32), mm_stat E b = some (q, n, f) ∧ ∀ j, j < n → f j = xs j
theorem bl_sc {b n : Nat} {xs : Nat → Int32} {a9 b9 : Nat} {I : Int32} (hat : mm_at mt_P m pc = some ((pc0, len, .iaload, a9, b9, z, wd), nL, dd)) (hp : pc + len = pc') (hS : bl_S E b n xs) (h1 : 0 ≤ I.toInt) (h2 : I.toInt < (n : Int)) (g : bh_G E FIN ((m, pc', lv, .int (xs I.toInt.toNat) :: st, cb, sb) :: gs, h, none)) : bh_G E FIN ((m, pc, lv, .int I :: .ref b :: st, cb, sb) :: gs, h, o) := by
  subst hp
  obtain ⟨hb, q, f, e1, e2⟩ := hS
  refine bl_s1 hat rfl rfl ?_ g
  have ec : mm_cell E h b = none := if_neg (Nat.not_le.mpr hb)
  have ej : f I.toNatClampNeg = xs I.toInt.toNat := e2 I.toInt.toNat (by omega)
  simp only [mm_ex, mm_ald, ec, if_true, e1]
  rw [if_pos (bh_inr h1 h2), ej]
theorem bl_al {b n : Nat} {xs : Nat → Int32} {b9 : Nat} (hat : mm_at mt_P m pc = some ((pc0, len, .arraylength, 0, b9, z, wd), nL, dd)) (hp : pc + len = pc') (hS : bl_S E b n xs) (hn : n ≤ 3072) (g : ∀ v : Int32, v.toInt = (n : Int) → bh_G E FIN ((m, pc', lv, .int v :: st, cb, sb) :: gs, h, none)) : bh_G E FIN ((m, pc, lv, .ref b :: st, cb, sb) :: gs, h, o) := by
  subst hp
  obtain ⟨hb, q, f, e1, e2⟩ := hS
  refine bl_s1 hat rfl rfl ?_ (g (Int32.ofNat n) (Int32.toInt_ofNat_of_lt (by omega)))
  have ec : mm_cell E h b = none := if_neg (Nat.not_le.mpr hb)
  simp only [mm_ex, mm_alen, ec, if_true, e1]
theorem bl_cv {args : List Value} {x np nLk rk c ci a9 : Nat} {cs : List (List mm_I)} {K : Nat} (hat : mm_at mt_P m pc = some ((pc0, len, .invokevirtual x, K, a9, z, wd), nL, dd)) (hp : pc + len = pc') (hK : mt_P[K]? = some (cs, nLk, np, 1, ci, rk, 0, 0)) (hK2 : ¬ K < 2) (hO : ∃ fs : List Value, h[c]? = some (.inr (ci, fs))) (hci : ci ≠ 90) (hg : gs.length + 1 < 1000) (hn : args.length = np) (hc : (st.map fun v => v.category).sum ≤ 8) (hs : (lg_sl (.ref (E.1 + c) :: args.reverse)).length ≤ nLk) (g : bh_G E FIN ((K, 0, lv_args 0 (.ref (E.1 + c) :: args.reverse), [], 0, 0) :: (m, pc', lv, st, cb, sb) :: gs, h, none)) : bh_G E FIN ((m, pc, lv, args ++ .ref (E.1 + c) :: st, cb, sb) :: gs, h, o) := by
  subst hp
  subst hn
  obtain ⟨fs, a2⟩ := hO
  obtain ⟨np, kd, ci2, rk2, mc, ms⟩ := dd
  refine en_good_step (c' := ((K, 0, lv_args 0 (.ref (E.1 + c) :: args.reverse), [], 0, 0) :: (m, pc + len, lv, st, cb, sb) :: gs, h, none)) ?_ g
  have e1 : (args ++ .ref (E.1 + c) :: st).drop args.length = .ref (E.1 + c) :: st := List.drop_left
  have e2 : (args ++ .ref (E.1 + c) :: st).take args.length = args := List.take_left
  have e3 : args.length ≤ (args ++ Value.ref (E.1 + c) :: st).length := by
    rw [List.length_append]
    exact Nat.le_add_right _ _
  simp only [mm_stp, hat, mm_inv, if_neg hK2, mm_call, hK]
  rw [if_pos ⟨trivial, hg, Nat.zero_le _, Nat.zero_le _, e3⟩, e1, e2]
  have hr : mm_recv E h 1 ci (.ref (E.1 + c) :: st) = some ([.ref (E.1 + c)], st) := by
    have e0 : mm_cell E h (E.1 + c) = some (.inr (ci, fs)) := by rw [bh_cell, a2]
    generalize E.1 + c = r9 at e0
    simp [mm_recv, e0, hci]
  rw [hr]
  simp only []
  rw [if_pos ⟨hc, hs⟩]
  rfl
theorem bl_sw {x : Int32} {d lo hi : Int} {offs : Array Int} {off : Int} {a9 b9 : Nat} (hat : mm_at mt_P m pc = some ((pc0, len, .tableswitch d lo hi offs, a9, b9, z, wd), nL, dd)) (hx : (if x.toInt < lo ∨ hi < x.toInt then some d else offs[(x.toInt - lo).toNat]?) = some off) (hq : (pc : Int) + off = (pc' : Int)) (g : bh_G E FIN ((m, pc', lv, st, cb, sb) :: gs, h, none)) : bh_G E FIN ((m, pc, lv, .int x :: st, cb, sb) :: gs, h, o) := by
  refine bl_s1 hat rfl rfl ?_ g
  simp only [mm_ex, mm_sw]
  by_cases hc : x.toInt < lo ∨ hi < x.toInt
  · rw [if_pos hc] at hx
    rw [if_pos hc, Option.some.inj hx]
    exact bl_jmp hq
  · rw [if_neg hc] at hx
    rw [if_neg hc, hx]
    exact bl_jmp hq
end BL
theorem bt_291_18 : mm_at mt_P 291 18 = some ((18, 1, .iload_n 3, 0, 0, 0, 0), 4, 1, 0, 0, 2, 0, 0) := rfl
theorem bt_291_19 : mm_at mt_P 291 19 = some ((19, 1, .aload_n 0, 0, 0, 0, 0), 4, 1, 0, 0, 2, 0, 0) := rfl
theorem bt_291_20 : mm_at mt_P 291 20 = some ((20, 1, .arraylength, 0, 0, 0, 0), 4, 1, 0, 0, 2, 0, 0) := rfl
theorem bt_291_21 : mm_at mt_P 291 21 = some ((21, 2, .bipush 6, 0, 0, 0, 0), 4, 1, 0, 0, 2, 0, 0) := rfl
theorem bt_291_23 : mm_at mt_P 291 23 = some ((23, 1, .isub, 0, 0, 0, 0), 4, 1, 0, 0, 2, 0, 0) := rfl
theorem bt_291_24 : mm_at mt_P 291 24 = some ((24, 3, .if_icmp .gt 1434, 0, 0, 0, 0), 4, 1, 0, 0, 2, 0, 0) := rfl
theorem bt_291_27 : mm_at mt_P 291 27 = some ((27, 1, .aload_n 0, 0, 0, 0, 0), 4, 1, 0, 0, 2, 0, 0) := rfl
theorem bt_291_28 : mm_at mt_P 291 28 = some ((28, 1, .iload_n 3, 0, 0, 0, 0), 4, 1, 0, 0, 2, 0, 0) := rfl
theorem bt_291_29 : mm_at mt_P 291 29 = some ((29, 1, .iaload, 0, 0, 0, 0), 4, 1, 0, 0, 2, 0, 0) := rfl
theorem bt_291_30 : mm_at mt_P 291 30 = some ((30, 2, .bipush 63, 0, 0, 0, 0), 4, 1, 0, 0, 2, 0, 0) := rfl
theorem bt_291_32 : mm_at mt_P 291 32 = some ((32, 1, .iand, 0, 0, 0, 0), 4, 1, 0, 0, 2, 0, 0) := rfl
theorem bt_291_33 : mm_at mt_P 291 33 = some ((33, 167, .tableswitch 1419 0 37 #[167, 230, 253, 266, 279, 312, 335, 358, 407, 460, 483, 496, 555, 578, 637, 696, 755, 788, 837, 860, 883, 922, 955, 998, 1021, 1054, 1087, 1100, 1133, 1166, 1189, 1248, 1271, 1304, 1337, 1350, 1373, 1396], 0, 0, 0, 0), 4, 1, 0, 0, 2, 0, 0) := rfl
theorem bt_291_200 : mm_at mt_P 291 200 = some ((200, 1, .aload_n 1, 0, 0, 0, 0), 4, 1, 0, 0, 2, 0, 0) := rfl
theorem bt_291_201 : mm_at mt_P 291 201 = some ((201, 1, .aload_n 0, 0, 0, 0, 0), 4, 1, 0, 0, 2, 0, 0) := rfl
theorem bt_291_202 : mm_at mt_P 291 202 = some ((202, 1, .iload_n 3, 0, 0, 0, 0), 4, 1, 0, 0, 2, 0, 0) := rfl
theorem bt_291_203 : mm_at mt_P 291 203 = some ((203, 1, .iconst 1, 0, 0, 0, 0), 4, 1, 0, 0, 2, 0, 0) := rfl
theorem bt_291_204 : mm_at mt_P 291 204 = some ((204, 1, .iadd, 0, 0, 0, 0), 4, 1, 0, 0, 2, 0, 0) := rfl
theorem bt_291_205 : mm_at mt_P 291 205 = some ((205, 1, .iaload, 0, 0, 0, 0), 4, 1, 0, 0, 2, 0, 0) := rfl
theorem bt_291_206 : mm_at mt_P 291 206 = some ((206, 1, .aload_n 0, 0, 0, 0, 0), 4, 1, 0, 0, 2, 0, 0) := rfl
theorem bt_291_207 : mm_at mt_P 291 207 = some ((207, 1, .iload_n 3, 0, 0, 0, 0), 4, 1, 0, 0, 2, 0, 0) := rfl
theorem bt_291_208 : mm_at mt_P 291 208 = some ((208, 1, .iconst 2, 0, 0, 0, 0), 4, 1, 0, 0, 2, 0, 0) := rfl
theorem bt_291_209 : mm_at mt_P 291 209 = some ((209, 1, .iadd, 0, 0, 0, 0), 4, 1, 0, 0, 2, 0, 0) := rfl
theorem bt_291_210 : mm_at mt_P 291 210 = some ((210, 1, .iaload, 0, 0, 0, 0), 4, 1, 0, 0, 2, 0, 0) := rfl
theorem bt_291_211 : mm_at mt_P 291 211 = some ((211, 1, .aload_n 0, 0, 0, 0, 0), 4, 1, 0, 0, 2, 0, 0) := rfl
theorem bt_291_212 : mm_at mt_P 291 212 = some ((212, 1, .iload_n 3, 0, 0, 0, 0), 4, 1, 0, 0, 2, 0, 0) := rfl
theorem bt_291_213 : mm_at mt_P 291 213 = some ((213, 1, .iconst 3, 0, 0, 0, 0), 4, 1, 0, 0, 2, 0, 0) := rfl
theorem bt_291_214 : mm_at mt_P 291 214 = some ((214, 1, .iadd, 0, 0, 0, 0), 4, 1, 0, 0, 2, 0, 0) := rfl
theorem bt_291_215 : mm_at mt_P 291 215 = some ((215, 1, .iaload, 0, 0, 0, 0), 4, 1, 0, 0, 2, 0, 0) := rfl
theorem bt_291_216 : mm_at mt_P 291 216 = some ((216, 1, .aload_n 0, 0, 0, 0, 0), 4, 1, 0, 0, 2, 0, 0) := rfl
theorem bt_291_217 : mm_at mt_P 291 217 = some ((217, 1, .iload_n 3, 0, 0, 0, 0), 4, 1, 0, 0, 2, 0, 0) := rfl
theorem bt_291_218 : mm_at mt_P 291 218 = some ((218, 1, .iconst 4, 0, 0, 0, 0), 4, 1, 0, 0, 2, 0, 0) := rfl
theorem bt_291_219 : mm_at mt_P 291 219 = some ((219, 1, .iadd, 0, 0, 0, 0), 4, 1, 0, 0, 2, 0, 0) := rfl
theorem bt_291_220 : mm_at mt_P 291 220 = some ((220, 1, .iaload, 0, 0, 0, 0), 4, 1, 0, 0, 2, 0, 0) := rfl
theorem bt_291_221 : mm_at mt_P 291 221 = some ((221, 1, .aload_n 0, 0, 0, 0, 0), 4, 1, 0, 0, 2, 0, 0) := rfl
theorem bt_291_222 : mm_at mt_P 291 222 = some ((222, 1, .iload_n 3, 0, 0, 0, 0), 4, 1, 0, 0, 2, 0, 0) := rfl
theorem bt_291_223 : mm_at mt_P 291 223 = some ((223, 1, .iconst 5, 0, 0, 0, 0), 4, 1, 0, 0, 2, 0, 0) := rfl
theorem bt_291_224 : mm_at mt_P 291 224 = some ((224, 1, .iadd, 0, 0, 0, 0), 4, 1, 0, 0, 2, 0, 0) := rfl
theorem bt_291_225 : mm_at mt_P 291 225 = some ((225, 1, .iaload, 0, 0, 0, 0), 4, 1, 0, 0, 2, 0, 0) := rfl
theorem bt_291_226 : mm_at mt_P 291 226 = some ((226, 3, .invokevirtual 13, 230, 0, 0, 466), 4, 1, 0, 0, 2, 0, 0) := rfl
theorem bt_291_229 : mm_at mt_P 291 229 = some ((229, 1, .pop, 0, 0, 0, 0), 4, 1, 0, 0, 2, 0, 0) := rfl
theorem bt_291_230 : mm_at mt_P 291 230 = some ((230, 1, .aload_n 2, 0, 0, 0, 0), 4, 1, 0, 0, 2, 0, 0) := rfl
theorem bt_291_231 : mm_at mt_P 291 231 = some ((231, 1, .aload_n 0, 0, 0, 0, 0), 4, 1, 0, 0, 2, 0, 0) := rfl
theorem bt_291_232 : mm_at mt_P 291 232 = some ((232, 1, .iload_n 3, 0, 0, 0, 0), 4, 1, 0, 0, 2, 0, 0) := rfl
theorem bt_291_233 : mm_at mt_P 291 233 = some ((233, 1, .iconst 1, 0, 0, 0, 0), 4, 1, 0, 0, 2, 0, 0) := rfl
theorem bt_291_234 : mm_at mt_P 291 234 = some ((234, 1, .iadd, 0, 0, 0, 0), 4, 1, 0, 0, 2, 0, 0) := rfl
theorem bt_291_235 : mm_at mt_P 291 235 = some ((235, 1, .iaload, 0, 0, 0, 0), 4, 1, 0, 0, 2, 0, 0) := rfl
theorem bt_291_236 : mm_at mt_P 291 236 = some ((236, 1, .aload_n 0, 0, 0, 0, 0), 4, 1, 0, 0, 2, 0, 0) := rfl
theorem bt_291_237 : mm_at mt_P 291 237 = some ((237, 1, .iload_n 3, 0, 0, 0, 0), 4, 1, 0, 0, 2, 0, 0) := rfl
theorem bt_291_238 : mm_at mt_P 291 238 = some ((238, 1, .iconst 2, 0, 0, 0, 0), 4, 1, 0, 0, 2, 0, 0) := rfl
theorem bt_291_239 : mm_at mt_P 291 239 = some ((239, 1, .iadd, 0, 0, 0, 0), 4, 1, 0, 0, 2, 0, 0) := rfl
theorem bt_291_240 : mm_at mt_P 291 240 = some ((240, 1, .iaload, 0, 0, 0, 0), 4, 1, 0, 0, 2, 0, 0) := rfl
theorem bt_291_241 : mm_at mt_P 291 241 = some ((241, 1, .aload_n 0, 0, 0, 0, 0), 4, 1, 0, 0, 2, 0, 0) := rfl
theorem bt_291_242 : mm_at mt_P 291 242 = some ((242, 1, .iload_n 3, 0, 0, 0, 0), 4, 1, 0, 0, 2, 0, 0) := rfl
theorem bt_291_243 : mm_at mt_P 291 243 = some ((243, 1, .iconst 3, 0, 0, 0, 0), 4, 1, 0, 0, 2, 0, 0) := rfl
theorem bt_291_244 : mm_at mt_P 291 244 = some ((244, 1, .iadd, 0, 0, 0, 0), 4, 1, 0, 0, 2, 0, 0) := rfl
theorem bt_291_245 : mm_at mt_P 291 245 = some ((245, 1, .iaload, 0, 0, 0, 0), 4, 1, 0, 0, 2, 0, 0) := rfl
theorem bt_291_246 : mm_at mt_P 291 246 = some ((246, 1, .aload_n 0, 0, 0, 0, 0), 4, 1, 0, 0, 2, 0, 0) := rfl
theorem bt_291_247 : mm_at mt_P 291 247 = some ((247, 1, .iload_n 3, 0, 0, 0, 0), 4, 1, 0, 0, 2, 0, 0) := rfl
theorem bt_291_248 : mm_at mt_P 291 248 = some ((248, 1, .iconst 4, 0, 0, 0, 0), 4, 1, 0, 0, 2, 0, 0) := rfl
theorem bt_291_249 : mm_at mt_P 291 249 = some ((249, 1, .iadd, 0, 0, 0, 0), 4, 1, 0, 0, 2, 0, 0) := rfl
theorem bt_291_250 : mm_at mt_P 291 250 = some ((250, 1, .iaload, 0, 0, 0, 0), 4, 1, 0, 0, 2, 0, 0) := rfl
theorem bt_291_251 : mm_at mt_P 291 251 = some ((251, 1, .aload_n 0, 0, 0, 0, 0), 4, 1, 0, 0, 2, 0, 0) := rfl
theorem bt_291_252 : mm_at mt_P 291 252 = some ((252, 1, .iload_n 3, 0, 0, 0, 0), 4, 1, 0, 0, 2, 0, 0) := rfl
theorem bt_291_253 : mm_at mt_P 291 253 = some ((253, 1, .iconst 5, 0, 0, 0, 0), 4, 1, 0, 0, 2, 0, 0) := rfl
theorem bt_291_254 : mm_at mt_P 291 254 = some ((254, 1, .iadd, 0, 0, 0, 0), 4, 1, 0, 0, 2, 0, 0) := rfl
theorem bt_291_255 : mm_at mt_P 291 255 = some ((255, 1, .iaload, 0, 0, 0, 0), 4, 1, 0, 0, 2, 0, 0) := rfl
theorem bt_291_256 : mm_at mt_P 291 256 = some ((256, 3, .invokevirtual 17, 28, 0, 0, 1437), 4, 1, 0, 0, 2, 0, 0) := rfl
theorem bt_291_259 : mm_at mt_P 291 259 = some ((259, 1, .pop, 0, 0, 0, 0), 4, 1, 0, 0, 2, 0, 0) := rfl
theorem bt_291_260 : mm_at mt_P 291 260 = some ((260, 3, .goto 1192, 0, 0, 0, 0), 4, 1, 0, 0, 2, 0, 0) := rfl
theorem bt_291_263 : mm_at mt_P 291 263 = some ((263, 1, .aload_n 1, 0, 0, 0, 0), 4, 1, 0, 0, 2, 0, 0) := rfl
theorem bt_291_264 : mm_at mt_P 291 264 = some ((264, 1, .aload_n 0, 0, 0, 0, 0), 4, 1, 0, 0, 2, 0, 0) := rfl
theorem bt_291_265 : mm_at mt_P 291 265 = some ((265, 1, .iload_n 3, 0, 0, 0, 0), 4, 1, 0, 0, 2, 0, 0) := rfl
theorem bt_291_266 : mm_at mt_P 291 266 = some ((266, 1, .iconst 1, 0, 0, 0, 0), 4, 1, 0, 0, 2, 0, 0) := rfl
theorem bt_291_267 : mm_at mt_P 291 267 = some ((267, 1, .iadd, 0, 0, 0, 0), 4, 1, 0, 0, 2, 0, 0) := rfl
theorem bt_291_268 : mm_at mt_P 291 268 = some ((268, 1, .iaload, 0, 0, 0, 0), 4, 1, 0, 0, 2, 0, 0) := rfl
theorem bt_291_269 : mm_at mt_P 291 269 = some ((269, 3, .invokevirtual 18, 221, 0, 0, 474), 4, 1, 0, 0, 2, 0, 0) := rfl
theorem bt_291_272 : mm_at mt_P 291 272 = some ((272, 1, .pop, 0, 0, 0, 0), 4, 1, 0, 0, 2, 0, 0) := rfl
theorem bt_291_273 : mm_at mt_P 291 273 = some ((273, 1, .aload_n 2, 0, 0, 0, 0), 4, 1, 0, 0, 2, 0, 0) := rfl
theorem bt_291_274 : mm_at mt_P 291 274 = some ((274, 1, .aload_n 0, 0, 0, 0, 0), 4, 1, 0, 0, 2, 0, 0) := rfl
theorem bt_291_275 : mm_at mt_P 291 275 = some ((275, 1, .iload_n 3, 0, 0, 0, 0), 4, 1, 0, 0, 2, 0, 0) := rfl
theorem bt_291_276 : mm_at mt_P 291 276 = some ((276, 1, .iconst 1, 0, 0, 0, 0), 4, 1, 0, 0, 2, 0, 0) := rfl
theorem bt_291_277 : mm_at mt_P 291 277 = some ((277, 1, .iadd, 0, 0, 0, 0), 4, 1, 0, 0, 2, 0, 0) := rfl
theorem bt_291_278 : mm_at mt_P 291 278 = some ((278, 1, .iaload, 0, 0, 0, 0), 4, 1, 0, 0, 2, 0, 0) := rfl
theorem bt_291_279 : mm_at mt_P 291 279 = some ((279, 3, .invokevirtual 22, 5, 0, 0, 1445), 4, 1, 0, 0, 2, 0, 0) := rfl
theorem bt_291_282 : mm_at mt_P 291 282 = some ((282, 1, .pop, 0, 0, 0, 0), 4, 1, 0, 0, 2, 0, 0) := rfl
theorem bt_291_283 : mm_at mt_P 291 283 = some ((283, 3, .goto 1169, 0, 0, 0, 0), 4, 1, 0, 0, 2, 0, 0) := rfl
theorem bt_291_286 : mm_at mt_P 291 286 = some ((286, 1, .aload_n 1, 0, 0, 0, 0), 4, 1, 0, 0, 2, 0, 0) := rfl
theorem bt_291_287 : mm_at mt_P 291 287 = some ((287, 3, .invokevirtual 23, 253, 0, 0, 478), 4, 1, 0, 0, 2, 0, 0) := rfl
theorem bt_291_290 : mm_at mt_P 291 290 = some ((290, 1, .pop, 0, 0, 0, 0), 4, 1, 0, 0, 2, 0, 0) := rfl
theorem bt_291_291 : mm_at mt_P 291 291 = some ((291, 1, .aload_n 2, 0, 0, 0, 0), 4, 1, 0, 0, 2, 0, 0) := rfl
theorem bt_291_292 : mm_at mt_P 291 292 = some ((292, 3, .invokevirtual 27, 77, 0, 0, 1449), 4, 1, 0, 0, 2, 0, 0) := rfl
theorem bt_291_295 : mm_at mt_P 291 295 = some ((295, 1, .pop, 0, 0, 0, 0), 4, 1, 0, 0, 2, 0, 0) := rfl
theorem bt_291_296 : mm_at mt_P 291 296 = some ((296, 3, .goto 1156, 0, 0, 0, 0), 4, 1, 0, 0, 2, 0, 0) := rfl
theorem bt_291_299 : mm_at mt_P 291 299 = some ((299, 1, .aload_n 1, 0, 0, 0, 0), 4, 1, 0, 0, 2, 0, 0) := rfl
theorem bt_291_300 : mm_at mt_P 291 300 = some ((300, 3, .invokevirtual 28, 250, 0, 0, 754), 4, 1, 0, 0, 2, 0, 0) := rfl
theorem bt_291_303 : mm_at mt_P 291 303 = some ((303, 1, .pop, 0, 0, 0, 0), 4, 1, 0, 0, 2, 0, 0) := rfl
theorem bt_291_304 : mm_at mt_P 291 304 = some ((304, 1, .aload_n 2, 0, 0, 0, 0), 4, 1, 0, 0, 2, 0, 0) := rfl
theorem bt_291_305 : mm_at mt_P 291 305 = some ((305, 3, .invokevirtual 31, 71, 0, 0, 1531), 4, 1, 0, 0, 2, 0, 0) := rfl
theorem bt_291_308 : mm_at mt_P 291 308 = some ((308, 1, .pop, 0, 0, 0, 0), 4, 1, 0, 0, 2, 0, 0) := rfl
theorem bt_291_309 : mm_at mt_P 291 309 = some ((309, 3, .goto 1143, 0, 0, 0, 0), 4, 1, 0, 0, 2, 0, 0) := rfl
theorem bt_291_312 : mm_at mt_P 291 312 = some ((312, 1, .aload_n 1, 0, 0, 0, 0), 4, 1, 0, 0, 2, 0, 0) := rfl
theorem bt_291_313 : mm_at mt_P 291 313 = some ((313, 1, .aload_n 0, 0, 0, 0, 0), 4, 1, 0, 0, 2, 0, 0) := rfl
theorem bt_291_314 : mm_at mt_P 291 314 = some ((314, 1, .iload_n 3, 0, 0, 0, 0), 4, 1, 0, 0, 2, 0, 0) := rfl
theorem bt_291_315 : mm_at mt_P 291 315 = some ((315, 1, .iconst 1, 0, 0, 0, 0), 4, 1, 0, 0, 2, 0, 0) := rfl
theorem bt_291_316 : mm_at mt_P 291 316 = some ((316, 1, .iadd, 0, 0, 0, 0), 4, 1, 0, 0, 2, 0, 0) := rfl
theorem bt_291_317 : mm_at mt_P 291 317 = some ((317, 1, .iaload, 0, 0, 0, 0), 4, 1, 0, 0, 2, 0, 0) := rfl
theorem bt_291_318 : mm_at mt_P 291 318 = some ((318, 1, .aload_n 0, 0, 0, 0, 0), 4, 1, 0, 0, 2, 0, 0) := rfl
theorem bt_291_319 : mm_at mt_P 291 319 = some ((319, 1, .iload_n 3, 0, 0, 0, 0), 4, 1, 0, 0, 2, 0, 0) := rfl
theorem bt_291_320 : mm_at mt_P 291 320 = some ((320, 1, .iconst 2, 0, 0, 0, 0), 4, 1, 0, 0, 2, 0, 0) := rfl
theorem bt_291_321 : mm_at mt_P 291 321 = some ((321, 1, .iadd, 0, 0, 0, 0), 4, 1, 0, 0, 2, 0, 0) := rfl
theorem bt_291_322 : mm_at mt_P 291 322 = some ((322, 1, .iaload, 0, 0, 0, 0), 4, 1, 0, 0, 2, 0, 0) := rfl
theorem bt_291_323 : mm_at mt_P 291 323 = some ((323, 3, .invokevirtual 32, 244, 0, 0, 758), 4, 1, 0, 0, 2, 0, 0) := rfl
theorem bt_291_326 : mm_at mt_P 291 326 = some ((326, 1, .pop, 0, 0, 0, 0), 4, 1, 0, 0, 2, 0, 0) := rfl
theorem bt_291_327 : mm_at mt_P 291 327 = some ((327, 1, .aload_n 2, 0, 0, 0, 0), 4, 1, 0, 0, 2, 0, 0) := rfl
theorem bt_291_328 : mm_at mt_P 291 328 = some ((328, 1, .aload_n 0, 0, 0, 0, 0), 4, 1, 0, 0, 2, 0, 0) := rfl
theorem bt_291_329 : mm_at mt_P 291 329 = some ((329, 1, .iload_n 3, 0, 0, 0, 0), 4, 1, 0, 0, 2, 0, 0) := rfl
theorem bt_291_330 : mm_at mt_P 291 330 = some ((330, 1, .iconst 1, 0, 0, 0, 0), 4, 1, 0, 0, 2, 0, 0) := rfl
theorem bt_291_331 : mm_at mt_P 291 331 = some ((331, 1, .iadd, 0, 0, 0, 0), 4, 1, 0, 0, 2, 0, 0) := rfl
theorem bt_291_332 : mm_at mt_P 291 332 = some ((332, 1, .iaload, 0, 0, 0, 0), 4, 1, 0, 0, 2, 0, 0) := rfl
theorem bt_291_333 : mm_at mt_P 291 333 = some ((333, 1, .aload_n 0, 0, 0, 0, 0), 4, 1, 0, 0, 2, 0, 0) := rfl
theorem bt_291_334 : mm_at mt_P 291 334 = some ((334, 1, .iload_n 3, 0, 0, 0, 0), 4, 1, 0, 0, 2, 0, 0) := rfl
theorem bt_291_335 : mm_at mt_P 291 335 = some ((335, 1, .iconst 2, 0, 0, 0, 0), 4, 1, 0, 0, 2, 0, 0) := rfl
theorem bt_291_336 : mm_at mt_P 291 336 = some ((336, 1, .iadd, 0, 0, 0, 0), 4, 1, 0, 0, 2, 0, 0) := rfl
theorem bt_291_337 : mm_at mt_P 291 337 = some ((337, 1, .iaload, 0, 0, 0, 0), 4, 1, 0, 0, 2, 0, 0) := rfl
theorem bt_291_338 : mm_at mt_P 291 338 = some ((338, 3, .invokevirtual 36, 63, 0, 0, 1535), 4, 1, 0, 0, 2, 0, 0) := rfl
theorem bt_291_341 : mm_at mt_P 291 341 = some ((341, 1, .pop, 0, 0, 0, 0), 4, 1, 0, 0, 2, 0, 0) := rfl
theorem bt_291_342 : mm_at mt_P 291 342 = some ((342, 3, .goto 1110, 0, 0, 0, 0), 4, 1, 0, 0, 2, 0, 0) := rfl
theorem bt_291_345 : mm_at mt_P 291 345 = some ((345, 1, .aload_n 1, 0, 0, 0, 0), 4, 1, 0, 0, 2, 0, 0) := rfl
theorem bt_291_346 : mm_at mt_P 291 346 = some ((346, 1, .aload_n 0, 0, 0, 0, 0), 4, 1, 0, 0, 2, 0, 0) := rfl
theorem bt_291_347 : mm_at mt_P 291 347 = some ((347, 1, .iload_n 3, 0, 0, 0, 0), 4, 1, 0, 0, 2, 0, 0) := rfl
theorem bt_291_348 : mm_at mt_P 291 348 = some ((348, 1, .iconst 1, 0, 0, 0, 0), 4, 1, 0, 0, 2, 0, 0) := rfl
theorem bt_291_349 : mm_at mt_P 291 349 = some ((349, 1, .iadd, 0, 0, 0, 0), 4, 1, 0, 0, 2, 0, 0) := rfl
theorem bt_291_350 : mm_at mt_P 291 350 = some ((350, 1, .iaload, 0, 0, 0, 0), 4, 1, 0, 0, 2, 0, 0) := rfl
theorem bt_291_351 : mm_at mt_P 291 351 = some ((351, 3, .invokevirtual 37, 251, 0, 0, 782), 4, 1, 0, 0, 2, 0, 0) := rfl
theorem bt_291_354 : mm_at mt_P 291 354 = some ((354, 1, .pop, 0, 0, 0, 0), 4, 1, 0, 0, 2, 0, 0) := rfl
theorem bt_291_355 : mm_at mt_P 291 355 = some ((355, 1, .aload_n 2, 0, 0, 0, 0), 4, 1, 0, 0, 2, 0, 0) := rfl
theorem bt_291_356 : mm_at mt_P 291 356 = some ((356, 1, .aload_n 0, 0, 0, 0, 0), 4, 1, 0, 0, 2, 0, 0) := rfl
theorem bt_291_357 : mm_at mt_P 291 357 = some ((357, 1, .iload_n 3, 0, 0, 0, 0), 4, 1, 0, 0, 2, 0, 0) := rfl
theorem bt_291_358 : mm_at mt_P 291 358 = some ((358, 1, .iconst 1, 0, 0, 0, 0), 4, 1, 0, 0, 2, 0, 0) := rfl
theorem bt_291_359 : mm_at mt_P 291 359 = some ((359, 1, .iadd, 0, 0, 0, 0), 4, 1, 0, 0, 2, 0, 0) := rfl
theorem bt_291_360 : mm_at mt_P 291 360 = some ((360, 1, .iaload, 0, 0, 0, 0), 4, 1, 0, 0, 2, 0, 0) := rfl
theorem bt_291_361 : mm_at mt_P 291 361 = some ((361, 3, .invokevirtual 40, 73, 0, 0, 1558), 4, 1, 0, 0, 2, 0, 0) := rfl
theorem bt_291_364 : mm_at mt_P 291 364 = some ((364, 1, .pop, 0, 0, 0, 0), 4, 1, 0, 0, 2, 0, 0) := rfl
theorem bt_291_365 : mm_at mt_P 291 365 = some ((365, 3, .goto 1087, 0, 0, 0, 0), 4, 1, 0, 0, 2, 0, 0) := rfl
theorem bt_291_368 : mm_at mt_P 291 368 = some ((368, 1, .aload_n 1, 0, 0, 0, 0), 4, 1, 0, 0, 2, 0, 0) := rfl
theorem bt_291_369 : mm_at mt_P 291 369 = some ((369, 1, .aload_n 0, 0, 0, 0, 0), 4, 1, 0, 0, 2, 0, 0) := rfl
theorem bt_291_370 : mm_at mt_P 291 370 = some ((370, 1, .iload_n 3, 0, 0, 0, 0), 4, 1, 0, 0, 2, 0, 0) := rfl
theorem bt_291_371 : mm_at mt_P 291 371 = some ((371, 1, .iconst 1, 0, 0, 0, 0), 4, 1, 0, 0, 2, 0, 0) := rfl
theorem bt_291_372 : mm_at mt_P 291 372 = some ((372, 1, .iadd, 0, 0, 0, 0), 4, 1, 0, 0, 2, 0, 0) := rfl
theorem bt_291_373 : mm_at mt_P 291 373 = some ((373, 1, .iaload, 0, 0, 0, 0), 4, 1, 0, 0, 2, 0, 0) := rfl
theorem bt_291_374 : mm_at mt_P 291 374 = some ((374, 3, .invokevirtual 41, 260, 0, 0, 787), 4, 1, 0, 0, 2, 0, 0) := rfl
theorem bt_291_377 : mm_at mt_P 291 377 = some ((377, 1, .pop, 0, 0, 0, 0), 4, 1, 0, 0, 2, 0, 0) := rfl
theorem bt_291_378 : mm_at mt_P 291 378 = some ((378, 1, .aload_n 2, 0, 0, 0, 0), 4, 1, 0, 0, 2, 0, 0) := rfl
theorem bt_291_379 : mm_at mt_P 291 379 = some ((379, 1, .aload_n 0, 0, 0, 0, 0), 4, 1, 0, 0, 2, 0, 0) := rfl
theorem bt_291_380 : mm_at mt_P 291 380 = some ((380, 1, .iload_n 3, 0, 0, 0, 0), 4, 1, 0, 0, 2, 0, 0) := rfl
theorem bt_291_381 : mm_at mt_P 291 381 = some ((381, 1, .iconst 1, 0, 0, 0, 0), 4, 1, 0, 0, 2, 0, 0) := rfl
theorem bt_291_382 : mm_at mt_P 291 382 = some ((382, 1, .iadd, 0, 0, 0, 0), 4, 1, 0, 0, 2, 0, 0) := rfl
theorem bt_291_383 : mm_at mt_P 291 383 = some ((383, 1, .iaload, 0, 0, 0, 0), 4, 1, 0, 0, 2, 0, 0) := rfl
theorem bt_291_384 : mm_at mt_P 291 384 = some ((384, 3, .invokevirtual 44, 87, 0, 0, 1562), 4, 1, 0, 0, 2, 0, 0) := rfl
theorem bt_291_387 : mm_at mt_P 291 387 = some ((387, 1, .pop, 0, 0, 0, 0), 4, 1, 0, 0, 2, 0, 0) := rfl
theorem bt_291_388 : mm_at mt_P 291 388 = some ((388, 3, .goto 1064, 0, 0, 0, 0), 4, 1, 0, 0, 2, 0, 0) := rfl
theorem bt_291_391 : mm_at mt_P 291 391 = some ((391, 1, .aload_n 1, 0, 0, 0, 0), 4, 1, 0, 0, 2, 0, 0) := rfl
theorem bt_291_392 : mm_at mt_P 291 392 = some ((392, 1, .aload_n 0, 0, 0, 0, 0), 4, 1, 0, 0, 2, 0, 0) := rfl
theorem bt_291_393 : mm_at mt_P 291 393 = some ((393, 1, .iload_n 3, 0, 0, 0, 0), 4, 1, 0, 0, 2, 0, 0) := rfl
theorem bt_291_394 : mm_at mt_P 291 394 = some ((394, 1, .iconst 1, 0, 0, 0, 0), 4, 1, 0, 0, 2, 0, 0) := rfl
theorem bt_291_395 : mm_at mt_P 291 395 = some ((395, 1, .iadd, 0, 0, 0, 0), 4, 1, 0, 0, 2, 0, 0) := rfl
theorem bt_291_396 : mm_at mt_P 291 396 = some ((396, 1, .iaload, 0, 0, 0, 0), 4, 1, 0, 0, 2, 0, 0) := rfl
theorem bt_291_397 : mm_at mt_P 291 397 = some ((397, 1, .aload_n 0, 0, 0, 0, 0), 4, 1, 0, 0, 2, 0, 0) := rfl
theorem bt_291_398 : mm_at mt_P 291 398 = some ((398, 1, .iload_n 3, 0, 0, 0, 0), 4, 1, 0, 0, 2, 0, 0) := rfl
theorem bt_291_399 : mm_at mt_P 291 399 = some ((399, 1, .iconst 2, 0, 0, 0, 0), 4, 1, 0, 0, 2, 0, 0) := rfl
theorem bt_291_400 : mm_at mt_P 291 400 = some ((400, 1, .iadd, 0, 0, 0, 0), 4, 1, 0, 0, 2, 0, 0) := rfl
theorem bt_291_401 : mm_at mt_P 291 401 = some ((401, 1, .iaload, 0, 0, 0, 0), 4, 1, 0, 0, 2, 0, 0) := rfl
theorem bt_291_402 : mm_at mt_P 291 402 = some ((402, 3, .ifCond .eq 7, 0, 0, 0, 0), 4, 1, 0, 0, 2, 0, 0) := rfl
theorem bt_291_405 : mm_at mt_P 291 405 = some ((405, 1, .iconst 1, 0, 0, 0, 0), 4, 1, 0, 0, 2, 0, 0) := rfl
theorem bt_291_406 : mm_at mt_P 291 406 = some ((406, 3, .goto 4, 0, 0, 0, 0), 4, 1, 0, 0, 2, 0, 0) := rfl
theorem bt_291_409 : mm_at mt_P 291 409 = some ((409, 1, .iconst 0, 0, 0, 0, 0), 4, 1, 0, 0, 2, 0, 0) := rfl
theorem bt_291_410 : mm_at mt_P 291 410 = some ((410, 3, .invokevirtual 45, 235, 0, 0, 819), 4, 1, 0, 0, 2, 0, 0) := rfl
theorem bt_291_413 : mm_at mt_P 291 413 = some ((413, 1, .pop, 0, 0, 0, 0), 4, 1, 0, 0, 2, 0, 0) := rfl
theorem bt_291_414 : mm_at mt_P 291 414 = some ((414, 1, .aload_n 2, 0, 0, 0, 0), 4, 1, 0, 0, 2, 0, 0) := rfl
theorem bt_291_415 : mm_at mt_P 291 415 = some ((415, 1, .aload_n 0, 0, 0, 0, 0), 4, 1, 0, 0, 2, 0, 0) := rfl
theorem bt_291_416 : mm_at mt_P 291 416 = some ((416, 1, .iload_n 3, 0, 0, 0, 0), 4, 1, 0, 0, 2, 0, 0) := rfl
theorem bt_291_417 : mm_at mt_P 291 417 = some ((417, 1, .iconst 1, 0, 0, 0, 0), 4, 1, 0, 0, 2, 0, 0) := rfl
theorem bt_291_418 : mm_at mt_P 291 418 = some ((418, 1, .iadd, 0, 0, 0, 0), 4, 1, 0, 0, 2, 0, 0) := rfl
theorem bt_291_419 : mm_at mt_P 291 419 = some ((419, 1, .iaload, 0, 0, 0, 0), 4, 1, 0, 0, 2, 0, 0) := rfl
theorem bt_291_420 : mm_at mt_P 291 420 = some ((420, 1, .aload_n 0, 0, 0, 0, 0), 4, 1, 0, 0, 2, 0, 0) := rfl
theorem bt_291_421 : mm_at mt_P 291 421 = some ((421, 1, .iload_n 3, 0, 0, 0, 0), 4, 1, 0, 0, 2, 0, 0) := rfl
theorem bt_291_422 : mm_at mt_P 291 422 = some ((422, 1, .iconst 2, 0, 0, 0, 0), 4, 1, 0, 0, 2, 0, 0) := rfl
theorem bt_291_423 : mm_at mt_P 291 423 = some ((423, 1, .iadd, 0, 0, 0, 0), 4, 1, 0, 0, 2, 0, 0) := rfl
theorem bt_291_424 : mm_at mt_P 291 424 = some ((424, 1, .iaload, 0, 0, 0, 0), 4, 1, 0, 0, 2, 0, 0) := rfl
theorem bt_291_425 : mm_at mt_P 291 425 = some ((425, 3, .ifCond .eq 7, 0, 0, 0, 0), 4, 1, 0, 0, 2, 0, 0) := rfl
theorem bt_291_428 : mm_at mt_P 291 428 = some ((428, 1, .iconst 1, 0, 0, 0, 0), 4, 1, 0, 0, 2, 0, 0) := rfl
theorem bt_291_429 : mm_at mt_P 291 429 = some ((429, 3, .goto 4, 0, 0, 0, 0), 4, 1, 0, 0, 2, 0, 0) := rfl
theorem bt_291_432 : mm_at mt_P 291 432 = some ((432, 1, .iconst 0, 0, 0, 0, 0), 4, 1, 0, 0, 2, 0, 0) := rfl
theorem bt_291_433 : mm_at mt_P 291 433 = some ((433, 3, .invokevirtual 49, 40, 0, 0, 1594), 4, 1, 0, 0, 2, 0, 0) := rfl
theorem bt_291_436 : mm_at mt_P 291 436 = some ((436, 1, .pop, 0, 0, 0, 0), 4, 1, 0, 0, 2, 0, 0) := rfl
theorem bt_291_437 : mm_at mt_P 291 437 = some ((437, 3, .goto 1015, 0, 0, 0, 0), 4, 1, 0, 0, 2, 0, 0) := rfl
theorem bt_291_440 : mm_at mt_P 291 440 = some ((440, 1, .aload_n 1, 0, 0, 0, 0), 4, 1, 0, 0, 2, 0, 0) := rfl
theorem bt_291_441 : mm_at mt_P 291 441 = some ((441, 1, .aload_n 0, 0, 0, 0, 0), 4, 1, 0, 0, 2, 0, 0) := rfl
theorem bt_291_442 : mm_at mt_P 291 442 = some ((442, 1, .iload_n 3, 0, 0, 0, 0), 4, 1, 0, 0, 2, 0, 0) := rfl
theorem bt_291_443 : mm_at mt_P 291 443 = some ((443, 1, .iconst 1, 0, 0, 0, 0), 4, 1, 0, 0, 2, 0, 0) := rfl
theorem bt_291_444 : mm_at mt_P 291 444 = some ((444, 1, .iadd, 0, 0, 0, 0), 4, 1, 0, 0, 2, 0, 0) := rfl
theorem bt_291_445 : mm_at mt_P 291 445 = some ((445, 1, .iaload, 0, 0, 0, 0), 4, 1, 0, 0, 2, 0, 0) := rfl
theorem bt_291_446 : mm_at mt_P 291 446 = some ((446, 1, .aload_n 0, 0, 0, 0, 0), 4, 1, 0, 0, 2, 0, 0) := rfl
theorem bt_291_447 : mm_at mt_P 291 447 = some ((447, 1, .iload_n 3, 0, 0, 0, 0), 4, 1, 0, 0, 2, 0, 0) := rfl
theorem bt_291_448 : mm_at mt_P 291 448 = some ((448, 1, .iconst 2, 0, 0, 0, 0), 4, 1, 0, 0, 2, 0, 0) := rfl
theorem bt_291_449 : mm_at mt_P 291 449 = some ((449, 1, .iadd, 0, 0, 0, 0), 4, 1, 0, 0, 2, 0, 0) := rfl
theorem bt_291_450 : mm_at mt_P 291 450 = some ((450, 1, .iaload, 0, 0, 0, 0), 4, 1, 0, 0, 2, 0, 0) := rfl
theorem bt_291_451 : mm_at mt_P 291 451 = some ((451, 1, .aload_n 0, 0, 0, 0, 0), 4, 1, 0, 0, 2, 0, 0) := rfl
theorem bt_291_452 : mm_at mt_P 291 452 = some ((452, 1, .iload_n 3, 0, 0, 0, 0), 4, 1, 0, 0, 2, 0, 0) := rfl
theorem bt_291_453 : mm_at mt_P 291 453 = some ((453, 1, .iconst 3, 0, 0, 0, 0), 4, 1, 0, 0, 2, 0, 0) := rfl
theorem bt_291_454 : mm_at mt_P 291 454 = some ((454, 1, .iadd, 0, 0, 0, 0), 4, 1, 0, 0, 2, 0, 0) := rfl
theorem bt_291_455 : mm_at mt_P 291 455 = some ((455, 1, .iaload, 0, 0, 0, 0), 4, 1, 0, 0, 2, 0, 0) := rfl
theorem bt_291_456 : mm_at mt_P 291 456 = some ((456, 1, .aload_n 0, 0, 0, 0, 0), 4, 1, 0, 0, 2, 0, 0) := rfl
theorem bt_291_457 : mm_at mt_P 291 457 = some ((457, 1, .iload_n 3, 0, 0, 0, 0), 4, 1, 0, 0, 2, 0, 0) := rfl
theorem bt_291_458 : mm_at mt_P 291 458 = some ((458, 1, .iconst 4, 0, 0, 0, 0), 4, 1, 0, 0, 2, 0, 0) := rfl
theorem bt_291_459 : mm_at mt_P 291 459 = some ((459, 1, .iadd, 0, 0, 0, 0), 4, 1, 0, 0, 2, 0, 0) := rfl
theorem bt_291_460 : mm_at mt_P 291 460 = some ((460, 1, .iaload, 0, 0, 0, 0), 4, 1, 0, 0, 2, 0, 0) := rfl
theorem bt_291_461 : mm_at mt_P 291 461 = some ((461, 3, .invokevirtual 50, 262, 0, 0, 833), 4, 1, 0, 0, 2, 0, 0) := rfl
theorem bt_291_464 : mm_at mt_P 291 464 = some ((464, 1, .pop, 0, 0, 0, 0), 4, 1, 0, 0, 2, 0, 0) := rfl
theorem bt_291_465 : mm_at mt_P 291 465 = some ((465, 1, .aload_n 2, 0, 0, 0, 0), 4, 1, 0, 0, 2, 0, 0) := rfl
theorem bt_291_466 : mm_at mt_P 291 466 = some ((466, 1, .aload_n 0, 0, 0, 0, 0), 4, 1, 0, 0, 2, 0, 0) := rfl
theorem bt_291_467 : mm_at mt_P 291 467 = some ((467, 1, .iload_n 3, 0, 0, 0, 0), 4, 1, 0, 0, 2, 0, 0) := rfl
theorem bt_291_468 : mm_at mt_P 291 468 = some ((468, 1, .iconst 1, 0, 0, 0, 0), 4, 1, 0, 0, 2, 0, 0) := rfl
theorem bt_291_469 : mm_at mt_P 291 469 = some ((469, 1, .iadd, 0, 0, 0, 0), 4, 1, 0, 0, 2, 0, 0) := rfl
theorem bt_291_470 : mm_at mt_P 291 470 = some ((470, 1, .iaload, 0, 0, 0, 0), 4, 1, 0, 0, 2, 0, 0) := rfl
theorem bt_291_471 : mm_at mt_P 291 471 = some ((471, 1, .aload_n 0, 0, 0, 0, 0), 4, 1, 0, 0, 2, 0, 0) := rfl
theorem bt_291_472 : mm_at mt_P 291 472 = some ((472, 1, .iload_n 3, 0, 0, 0, 0), 4, 1, 0, 0, 2, 0, 0) := rfl
theorem bt_291_473 : mm_at mt_P 291 473 = some ((473, 1, .iconst 2, 0, 0, 0, 0), 4, 1, 0, 0, 2, 0, 0) := rfl
theorem bt_291_474 : mm_at mt_P 291 474 = some ((474, 1, .iadd, 0, 0, 0, 0), 4, 1, 0, 0, 2, 0, 0) := rfl
theorem bt_291_475 : mm_at mt_P 291 475 = some ((475, 1, .iaload, 0, 0, 0, 0), 4, 1, 0, 0, 2, 0, 0) := rfl
theorem bt_291_476 : mm_at mt_P 291 476 = some ((476, 1, .aload_n 0, 0, 0, 0, 0), 4, 1, 0, 0, 2, 0, 0) := rfl
theorem bt_291_477 : mm_at mt_P 291 477 = some ((477, 1, .iload_n 3, 0, 0, 0, 0), 4, 1, 0, 0, 2, 0, 0) := rfl
theorem bt_291_478 : mm_at mt_P 291 478 = some ((478, 1, .iconst 3, 0, 0, 0, 0), 4, 1, 0, 0, 2, 0, 0) := rfl
theorem bt_291_479 : mm_at mt_P 291 479 = some ((479, 1, .iadd, 0, 0, 0, 0), 4, 1, 0, 0, 2, 0, 0) := rfl
theorem bt_291_480 : mm_at mt_P 291 480 = some ((480, 1, .iaload, 0, 0, 0, 0), 4, 1, 0, 0, 2, 0, 0) := rfl
theorem bt_291_481 : mm_at mt_P 291 481 = some ((481, 1, .aload_n 0, 0, 0, 0, 0), 4, 1, 0, 0, 2, 0, 0) := rfl
theorem bt_291_482 : mm_at mt_P 291 482 = some ((482, 1, .iload_n 3, 0, 0, 0, 0), 4, 1, 0, 0, 2, 0, 0) := rfl
theorem bt_291_483 : mm_at mt_P 291 483 = some ((483, 1, .iconst 4, 0, 0, 0, 0), 4, 1, 0, 0, 2, 0, 0) := rfl
theorem bt_291_484 : mm_at mt_P 291 484 = some ((484, 1, .iadd, 0, 0, 0, 0), 4, 1, 0, 0, 2, 0, 0) := rfl
theorem bt_291_485 : mm_at mt_P 291 485 = some ((485, 1, .iaload, 0, 0, 0, 0), 4, 1, 0, 0, 2, 0, 0) := rfl
theorem bt_291_486 : mm_at mt_P 291 486 = some ((486, 3, .invokevirtual 54, 93, 0, 0, 1602), 4, 1, 0, 0, 2, 0, 0) := rfl
theorem bt_291_489 : mm_at mt_P 291 489 = some ((489, 1, .pop, 0, 0, 0, 0), 4, 1, 0, 0, 2, 0, 0) := rfl
theorem bt_291_490 : mm_at mt_P 291 490 = some ((490, 3, .goto 962, 0, 0, 0, 0), 4, 1, 0, 0, 2, 0, 0) := rfl
theorem bt_291_493 : mm_at mt_P 291 493 = some ((493, 1, .aload_n 1, 0, 0, 0, 0), 4, 1, 0, 0, 2, 0, 0) := rfl
theorem bt_291_494 : mm_at mt_P 291 494 = some ((494, 1, .aload_n 0, 0, 0, 0, 0), 4, 1, 0, 0, 2, 0, 0) := rfl
theorem bt_291_495 : mm_at mt_P 291 495 = some ((495, 1, .iload_n 3, 0, 0, 0, 0), 4, 1, 0, 0, 2, 0, 0) := rfl
theorem bt_291_496 : mm_at mt_P 291 496 = some ((496, 1, .iconst 1, 0, 0, 0, 0), 4, 1, 0, 0, 2, 0, 0) := rfl
theorem bt_291_497 : mm_at mt_P 291 497 = some ((497, 1, .iadd, 0, 0, 0, 0), 4, 1, 0, 0, 2, 0, 0) := rfl
theorem bt_291_498 : mm_at mt_P 291 498 = some ((498, 1, .iaload, 0, 0, 0, 0), 4, 1, 0, 0, 2, 0, 0) := rfl
theorem bt_291_499 : mm_at mt_P 291 499 = some ((499, 3, .invokevirtual 55, 271, 0, 0, 870), 4, 1, 0, 0, 2, 0, 0) := rfl
theorem bt_291_502 : mm_at mt_P 291 502 = some ((502, 1, .pop, 0, 0, 0, 0), 4, 1, 0, 0, 2, 0, 0) := rfl
theorem bt_291_503 : mm_at mt_P 291 503 = some ((503, 1, .aload_n 2, 0, 0, 0, 0), 4, 1, 0, 0, 2, 0, 0) := rfl
theorem bt_291_504 : mm_at mt_P 291 504 = some ((504, 1, .aload_n 0, 0, 0, 0, 0), 4, 1, 0, 0, 2, 0, 0) := rfl
theorem bt_291_505 : mm_at mt_P 291 505 = some ((505, 1, .iload_n 3, 0, 0, 0, 0), 4, 1, 0, 0, 2, 0, 0) := rfl
theorem bt_291_506 : mm_at mt_P 291 506 = some ((506, 1, .iconst 1, 0, 0, 0, 0), 4, 1, 0, 0, 2, 0, 0) := rfl
theorem bt_291_507 : mm_at mt_P 291 507 = some ((507, 1, .iadd, 0, 0, 0, 0), 4, 1, 0, 0, 2, 0, 0) := rfl
theorem bt_291_508 : mm_at mt_P 291 508 = some ((508, 1, .iaload, 0, 0, 0, 0), 4, 1, 0, 0, 2, 0, 0) := rfl
theorem bt_291_509 : mm_at mt_P 291 509 = some ((509, 3, .invokevirtual 58, 107, 0, 0, 1634), 4, 1, 0, 0, 2, 0, 0) := rfl
theorem bt_291_512 : mm_at mt_P 291 512 = some ((512, 1, .pop, 0, 0, 0, 0), 4, 1, 0, 0, 2, 0, 0) := rfl
theorem bt_291_513 : mm_at mt_P 291 513 = some ((513, 3, .goto 939, 0, 0, 0, 0), 4, 1, 0, 0, 2, 0, 0) := rfl
theorem bt_291_516 : mm_at mt_P 291 516 = some ((516, 1, .aload_n 1, 0, 0, 0, 0), 4, 1, 0, 0, 2, 0, 0) := rfl
theorem bt_291_517 : mm_at mt_P 291 517 = some ((517, 3, .invokevirtual 59, 269, 0, 0, 897), 4, 1, 0, 0, 2, 0, 0) := rfl
theorem bt_291_520 : mm_at mt_P 291 520 = some ((520, 1, .pop, 0, 0, 0, 0), 4, 1, 0, 0, 2, 0, 0) := rfl
theorem bt_291_521 : mm_at mt_P 291 521 = some ((521, 1, .aload_n 2, 0, 0, 0, 0), 4, 1, 0, 0, 2, 0, 0) := rfl
theorem bt_291_522 : mm_at mt_P 291 522 = some ((522, 3, .invokevirtual 63, 104, 0, 0, 1654), 4, 1, 0, 0, 2, 0, 0) := rfl
theorem bt_291_525 : mm_at mt_P 291 525 = some ((525, 1, .pop, 0, 0, 0, 0), 4, 1, 0, 0, 2, 0, 0) := rfl
theorem bt_291_526 : mm_at mt_P 291 526 = some ((526, 3, .goto 926, 0, 0, 0, 0), 4, 1, 0, 0, 2, 0, 0) := rfl
theorem bt_291_529 : mm_at mt_P 291 529 = some ((529, 1, .aload_n 1, 0, 0, 0, 0), 4, 1, 0, 0, 2, 0, 0) := rfl
theorem bt_291_530 : mm_at mt_P 291 530 = some ((530, 1, .aload_n 0, 0, 0, 0, 0), 4, 1, 0, 0, 2, 0, 0) := rfl
theorem bt_291_531 : mm_at mt_P 291 531 = some ((531, 1, .iload_n 3, 0, 0, 0, 0), 4, 1, 0, 0, 2, 0, 0) := rfl
theorem bt_291_532 : mm_at mt_P 291 532 = some ((532, 1, .iconst 1, 0, 0, 0, 0), 4, 1, 0, 0, 2, 0, 0) := rfl
theorem bt_291_533 : mm_at mt_P 291 533 = some ((533, 1, .iadd, 0, 0, 0, 0), 4, 1, 0, 0, 2, 0, 0) := rfl
theorem bt_291_534 : mm_at mt_P 291 534 = some ((534, 1, .iaload, 0, 0, 0, 0), 4, 1, 0, 0, 2, 0, 0) := rfl
theorem bt_291_535 : mm_at mt_P 291 535 = some ((535, 1, .aload_n 0, 0, 0, 0, 0), 4, 1, 0, 0, 2, 0, 0) := rfl
theorem bt_291_536 : mm_at mt_P 291 536 = some ((536, 1, .iload_n 3, 0, 0, 0, 0), 4, 1, 0, 0, 2, 0, 0) := rfl
theorem bt_291_537 : mm_at mt_P 291 537 = some ((537, 1, .iconst 2, 0, 0, 0, 0), 4, 1, 0, 0, 2, 0, 0) := rfl
theorem bt_291_538 : mm_at mt_P 291 538 = some ((538, 1, .iadd, 0, 0, 0, 0), 4, 1, 0, 0, 2, 0, 0) := rfl
theorem bt_291_539 : mm_at mt_P 291 539 = some ((539, 1, .iaload, 0, 0, 0, 0), 4, 1, 0, 0, 2, 0, 0) := rfl
theorem bt_291_540 : mm_at mt_P 291 540 = some ((540, 1, .aload_n 0, 0, 0, 0, 0), 4, 1, 0, 0, 2, 0, 0) := rfl
theorem bt_291_541 : mm_at mt_P 291 541 = some ((541, 1, .iload_n 3, 0, 0, 0, 0), 4, 1, 0, 0, 2, 0, 0) := rfl
theorem bt_291_542 : mm_at mt_P 291 542 = some ((542, 1, .iconst 3, 0, 0, 0, 0), 4, 1, 0, 0, 2, 0, 0) := rfl
theorem bt_291_543 : mm_at mt_P 291 543 = some ((543, 1, .iadd, 0, 0, 0, 0), 4, 1, 0, 0, 2, 0, 0) := rfl
theorem bt_291_544 : mm_at mt_P 291 544 = some ((544, 1, .iaload, 0, 0, 0, 0), 4, 1, 0, 0, 2, 0, 0) := rfl
theorem bt_291_545 : mm_at mt_P 291 545 = some ((545, 3, .ifCond .eq 7, 0, 0, 0, 0), 4, 1, 0, 0, 2, 0, 0) := rfl
theorem bt_291_548 : mm_at mt_P 291 548 = some ((548, 1, .iconst 1, 0, 0, 0, 0), 4, 1, 0, 0, 2, 0, 0) := rfl
theorem bt_291_549 : mm_at mt_P 291 549 = some ((549, 3, .goto 4, 0, 0, 0, 0), 4, 1, 0, 0, 2, 0, 0) := rfl
theorem bt_291_552 : mm_at mt_P 291 552 = some ((552, 1, .iconst 0, 0, 0, 0, 0), 4, 1, 0, 0, 2, 0, 0) := rfl
theorem bt_291_553 : mm_at mt_P 291 553 = some ((553, 3, .invokevirtual 64, 242, 0, 0, 905), 4, 1, 0, 0, 2, 0, 0) := rfl
theorem bt_291_556 : mm_at mt_P 291 556 = some ((556, 1, .pop, 0, 0, 0, 0), 4, 1, 0, 0, 2, 0, 0) := rfl
theorem bt_291_557 : mm_at mt_P 291 557 = some ((557, 1, .aload_n 2, 0, 0, 0, 0), 4, 1, 0, 0, 2, 0, 0) := rfl
theorem bt_291_558 : mm_at mt_P 291 558 = some ((558, 1, .aload_n 0, 0, 0, 0, 0), 4, 1, 0, 0, 2, 0, 0) := rfl
theorem bt_291_559 : mm_at mt_P 291 559 = some ((559, 1, .iload_n 3, 0, 0, 0, 0), 4, 1, 0, 0, 2, 0, 0) := rfl
theorem bt_291_560 : mm_at mt_P 291 560 = some ((560, 1, .iconst 1, 0, 0, 0, 0), 4, 1, 0, 0, 2, 0, 0) := rfl
theorem bt_291_561 : mm_at mt_P 291 561 = some ((561, 1, .iadd, 0, 0, 0, 0), 4, 1, 0, 0, 2, 0, 0) := rfl
theorem bt_291_562 : mm_at mt_P 291 562 = some ((562, 1, .iaload, 0, 0, 0, 0), 4, 1, 0, 0, 2, 0, 0) := rfl
theorem bt_291_563 : mm_at mt_P 291 563 = some ((563, 1, .aload_n 0, 0, 0, 0, 0), 4, 1, 0, 0, 2, 0, 0) := rfl
theorem bt_291_564 : mm_at mt_P 291 564 = some ((564, 1, .iload_n 3, 0, 0, 0, 0), 4, 1, 0, 0, 2, 0, 0) := rfl
theorem bt_291_565 : mm_at mt_P 291 565 = some ((565, 1, .iconst 2, 0, 0, 0, 0), 4, 1, 0, 0, 2, 0, 0) := rfl
theorem bt_291_566 : mm_at mt_P 291 566 = some ((566, 1, .iadd, 0, 0, 0, 0), 4, 1, 0, 0, 2, 0, 0) := rfl
theorem bt_291_567 : mm_at mt_P 291 567 = some ((567, 1, .iaload, 0, 0, 0, 0), 4, 1, 0, 0, 2, 0, 0) := rfl
theorem bt_291_568 : mm_at mt_P 291 568 = some ((568, 1, .aload_n 0, 0, 0, 0, 0), 4, 1, 0, 0, 2, 0, 0) := rfl
theorem bt_291_569 : mm_at mt_P 291 569 = some ((569, 1, .iload_n 3, 0, 0, 0, 0), 4, 1, 0, 0, 2, 0, 0) := rfl
theorem bt_291_570 : mm_at mt_P 291 570 = some ((570, 1, .iconst 3, 0, 0, 0, 0), 4, 1, 0, 0, 2, 0, 0) := rfl
theorem bt_291_571 : mm_at mt_P 291 571 = some ((571, 1, .iadd, 0, 0, 0, 0), 4, 1, 0, 0, 2, 0, 0) := rfl
theorem bt_291_572 : mm_at mt_P 291 572 = some ((572, 1, .iaload, 0, 0, 0, 0), 4, 1, 0, 0, 2, 0, 0) := rfl
theorem bt_291_573 : mm_at mt_P 291 573 = some ((573, 3, .ifCond .eq 7, 0, 0, 0, 0), 4, 1, 0, 0, 2, 0, 0) := rfl
theorem bt_291_576 : mm_at mt_P 291 576 = some ((576, 1, .iconst 1, 0, 0, 0, 0), 4, 1, 0, 0, 2, 0, 0) := rfl
theorem bt_291_577 : mm_at mt_P 291 577 = some ((577, 3, .goto 4, 0, 0, 0, 0), 4, 1, 0, 0, 2, 0, 0) := rfl
theorem bt_291_580 : mm_at mt_P 291 580 = some ((580, 1, .iconst 0, 0, 0, 0, 0), 4, 1, 0, 0, 2, 0, 0) := rfl
theorem bt_291_581 : mm_at mt_P 291 581 = some ((581, 3, .invokevirtual 68, 58, 0, 0, 1658), 4, 1, 0, 0, 2, 0, 0) := rfl
theorem bt_291_584 : mm_at mt_P 291 584 = some ((584, 1, .pop, 0, 0, 0, 0), 4, 1, 0, 0, 2, 0, 0) := rfl
theorem bt_291_585 : mm_at mt_P 291 585 = some ((585, 3, .goto 867, 0, 0, 0, 0), 4, 1, 0, 0, 2, 0, 0) := rfl
theorem bt_291_588 : mm_at mt_P 291 588 = some ((588, 1, .aload_n 1, 0, 0, 0, 0), 4, 1, 0, 0, 2, 0, 0) := rfl
theorem bt_291_589 : mm_at mt_P 291 589 = some ((589, 1, .aload_n 0, 0, 0, 0, 0), 4, 1, 0, 0, 2, 0, 0) := rfl
theorem bt_291_590 : mm_at mt_P 291 590 = some ((590, 1, .iload_n 3, 0, 0, 0, 0), 4, 1, 0, 0, 2, 0, 0) := rfl
theorem bt_291_591 : mm_at mt_P 291 591 = some ((591, 1, .iconst 1, 0, 0, 0, 0), 4, 1, 0, 0, 2, 0, 0) := rfl
theorem bt_291_592 : mm_at mt_P 291 592 = some ((592, 1, .iadd, 0, 0, 0, 0), 4, 1, 0, 0, 2, 0, 0) := rfl
theorem bt_291_593 : mm_at mt_P 291 593 = some ((593, 1, .iaload, 0, 0, 0, 0), 4, 1, 0, 0, 2, 0, 0) := rfl
theorem bt_291_594 : mm_at mt_P 291 594 = some ((594, 3, .invokevirtual 69, 249, 0, 0, 918), 4, 1, 0, 0, 2, 0, 0) := rfl
theorem bt_291_597 : mm_at mt_P 291 597 = some ((597, 1, .pop, 0, 0, 0, 0), 4, 1, 0, 0, 2, 0, 0) := rfl
theorem bt_291_598 : mm_at mt_P 291 598 = some ((598, 1, .aload_n 2, 0, 0, 0, 0), 4, 1, 0, 0, 2, 0, 0) := rfl
theorem bt_291_599 : mm_at mt_P 291 599 = some ((599, 1, .aload_n 0, 0, 0, 0, 0), 4, 1, 0, 0, 2, 0, 0) := rfl
theorem bt_291_600 : mm_at mt_P 291 600 = some ((600, 1, .iload_n 3, 0, 0, 0, 0), 4, 1, 0, 0, 2, 0, 0) := rfl
theorem bt_291_601 : mm_at mt_P 291 601 = some ((601, 1, .iconst 1, 0, 0, 0, 0), 4, 1, 0, 0, 2, 0, 0) := rfl
theorem bt_291_602 : mm_at mt_P 291 602 = some ((602, 1, .iadd, 0, 0, 0, 0), 4, 1, 0, 0, 2, 0, 0) := rfl
theorem bt_291_603 : mm_at mt_P 291 603 = some ((603, 1, .iaload, 0, 0, 0, 0), 4, 1, 0, 0, 2, 0, 0) := rfl
theorem bt_291_604 : mm_at mt_P 291 604 = some ((604, 3, .invokevirtual 72, 69, 0, 0, 1668), 4, 1, 0, 0, 2, 0, 0) := rfl
theorem bt_291_607 : mm_at mt_P 291 607 = some ((607, 1, .pop, 0, 0, 0, 0), 4, 1, 0, 0, 2, 0, 0) := rfl
theorem bt_291_608 : mm_at mt_P 291 608 = some ((608, 3, .goto 844, 0, 0, 0, 0), 4, 1, 0, 0, 2, 0, 0) := rfl
theorem bt_291_611 : mm_at mt_P 291 611 = some ((611, 1, .aload_n 1, 0, 0, 0, 0), 4, 1, 0, 0, 2, 0, 0) := rfl
theorem bt_291_612 : mm_at mt_P 291 612 = some ((612, 1, .aload_n 0, 0, 0, 0, 0), 4, 1, 0, 0, 2, 0, 0) := rfl
theorem bt_291_613 : mm_at mt_P 291 613 = some ((613, 1, .iload_n 3, 0, 0, 0, 0), 4, 1, 0, 0, 2, 0, 0) := rfl
theorem bt_291_614 : mm_at mt_P 291 614 = some ((614, 1, .iconst 1, 0, 0, 0, 0), 4, 1, 0, 0, 2, 0, 0) := rfl
theorem bt_291_615 : mm_at mt_P 291 615 = some ((615, 1, .iadd, 0, 0, 0, 0), 4, 1, 0, 0, 2, 0, 0) := rfl
theorem bt_291_616 : mm_at mt_P 291 616 = some ((616, 1, .iaload, 0, 0, 0, 0), 4, 1, 0, 0, 2, 0, 0) := rfl
theorem bt_291_617 : mm_at mt_P 291 617 = some ((617, 1, .aload_n 0, 0, 0, 0, 0), 4, 1, 0, 0, 2, 0, 0) := rfl
theorem bt_291_618 : mm_at mt_P 291 618 = some ((618, 1, .iload_n 3, 0, 0, 0, 0), 4, 1, 0, 0, 2, 0, 0) := rfl
theorem bt_291_619 : mm_at mt_P 291 619 = some ((619, 1, .iconst 2, 0, 0, 0, 0), 4, 1, 0, 0, 2, 0, 0) := rfl
theorem bt_291_620 : mm_at mt_P 291 620 = some ((620, 1, .iadd, 0, 0, 0, 0), 4, 1, 0, 0, 2, 0, 0) := rfl
theorem bt_291_621 : mm_at mt_P 291 621 = some ((621, 1, .iaload, 0, 0, 0, 0), 4, 1, 0, 0, 2, 0, 0) := rfl
theorem bt_291_622 : mm_at mt_P 291 622 = some ((622, 1, .aload_n 0, 0, 0, 0, 0), 4, 1, 0, 0, 2, 0, 0) := rfl
theorem bt_291_623 : mm_at mt_P 291 623 = some ((623, 1, .iload_n 3, 0, 0, 0, 0), 4, 1, 0, 0, 2, 0, 0) := rfl
theorem bt_291_624 : mm_at mt_P 291 624 = some ((624, 1, .iconst 3, 0, 0, 0, 0), 4, 1, 0, 0, 2, 0, 0) := rfl
theorem bt_291_625 : mm_at mt_P 291 625 = some ((625, 1, .iadd, 0, 0, 0, 0), 4, 1, 0, 0, 2, 0, 0) := rfl
theorem bt_291_626 : mm_at mt_P 291 626 = some ((626, 1, .iaload, 0, 0, 0, 0), 4, 1, 0, 0, 2, 0, 0) := rfl
theorem bt_291_627 : mm_at mt_P 291 627 = some ((627, 3, .ifCond .eq 7, 0, 0, 0, 0), 4, 1, 0, 0, 2, 0, 0) := rfl
theorem bt_291_630 : mm_at mt_P 291 630 = some ((630, 1, .iconst 1, 0, 0, 0, 0), 4, 1, 0, 0, 2, 0, 0) := rfl
theorem bt_291_631 : mm_at mt_P 291 631 = some ((631, 3, .goto 4, 0, 0, 0, 0), 4, 1, 0, 0, 2, 0, 0) := rfl
theorem bt_291_634 : mm_at mt_P 291 634 = some ((634, 1, .iconst 0, 0, 0, 0, 0), 4, 1, 0, 0, 2, 0, 0) := rfl
theorem bt_291_635 : mm_at mt_P 291 635 = some ((635, 3, .invokevirtual 73, 246, 0, 0, 927), 4, 1, 0, 0, 2, 0, 0) := rfl
theorem bt_291_638 : mm_at mt_P 291 638 = some ((638, 1, .pop, 0, 0, 0, 0), 4, 1, 0, 0, 2, 0, 0) := rfl
theorem bt_291_639 : mm_at mt_P 291 639 = some ((639, 1, .aload_n 2, 0, 0, 0, 0), 4, 1, 0, 0, 2, 0, 0) := rfl
theorem bt_291_640 : mm_at mt_P 291 640 = some ((640, 1, .aload_n 0, 0, 0, 0, 0), 4, 1, 0, 0, 2, 0, 0) := rfl
theorem bt_291_641 : mm_at mt_P 291 641 = some ((641, 1, .iload_n 3, 0, 0, 0, 0), 4, 1, 0, 0, 2, 0, 0) := rfl
theorem bt_291_642 : mm_at mt_P 291 642 = some ((642, 1, .iconst 1, 0, 0, 0, 0), 4, 1, 0, 0, 2, 0, 0) := rfl
theorem bt_291_643 : mm_at mt_P 291 643 = some ((643, 1, .iadd, 0, 0, 0, 0), 4, 1, 0, 0, 2, 0, 0) := rfl
theorem bt_291_644 : mm_at mt_P 291 644 = some ((644, 1, .iaload, 0, 0, 0, 0), 4, 1, 0, 0, 2, 0, 0) := rfl
theorem bt_291_645 : mm_at mt_P 291 645 = some ((645, 1, .aload_n 0, 0, 0, 0, 0), 4, 1, 0, 0, 2, 0, 0) := rfl
theorem bt_291_646 : mm_at mt_P 291 646 = some ((646, 1, .iload_n 3, 0, 0, 0, 0), 4, 1, 0, 0, 2, 0, 0) := rfl
theorem bt_291_647 : mm_at mt_P 291 647 = some ((647, 1, .iconst 2, 0, 0, 0, 0), 4, 1, 0, 0, 2, 0, 0) := rfl
theorem bt_291_648 : mm_at mt_P 291 648 = some ((648, 1, .iadd, 0, 0, 0, 0), 4, 1, 0, 0, 2, 0, 0) := rfl
theorem bt_291_649 : mm_at mt_P 291 649 = some ((649, 1, .iaload, 0, 0, 0, 0), 4, 1, 0, 0, 2, 0, 0) := rfl
theorem bt_291_650 : mm_at mt_P 291 650 = some ((650, 1, .aload_n 0, 0, 0, 0, 0), 4, 1, 0, 0, 2, 0, 0) := rfl
theorem bt_291_651 : mm_at mt_P 291 651 = some ((651, 1, .iload_n 3, 0, 0, 0, 0), 4, 1, 0, 0, 2, 0, 0) := rfl
theorem bt_291_652 : mm_at mt_P 291 652 = some ((652, 1, .iconst 3, 0, 0, 0, 0), 4, 1, 0, 0, 2, 0, 0) := rfl
theorem bt_291_653 : mm_at mt_P 291 653 = some ((653, 1, .iadd, 0, 0, 0, 0), 4, 1, 0, 0, 2, 0, 0) := rfl
theorem bt_291_654 : mm_at mt_P 291 654 = some ((654, 1, .iaload, 0, 0, 0, 0), 4, 1, 0, 0, 2, 0, 0) := rfl
theorem bt_291_655 : mm_at mt_P 291 655 = some ((655, 3, .ifCond .eq 7, 0, 0, 0, 0), 4, 1, 0, 0, 2, 0, 0) := rfl
theorem bt_291_658 : mm_at mt_P 291 658 = some ((658, 1, .iconst 1, 0, 0, 0, 0), 4, 1, 0, 0, 2, 0, 0) := rfl
theorem bt_291_659 : mm_at mt_P 291 659 = some ((659, 3, .goto 4, 0, 0, 0, 0), 4, 1, 0, 0, 2, 0, 0) := rfl
theorem bt_291_662 : mm_at mt_P 291 662 = some ((662, 1, .iconst 0, 0, 0, 0, 0), 4, 1, 0, 0, 2, 0, 0) := rfl
theorem bt_291_663 : mm_at mt_P 291 663 = some ((663, 3, .invokevirtual 76, 64, 0, 0, 1672), 4, 1, 0, 0, 2, 0, 0) := rfl
theorem bt_291_666 : mm_at mt_P 291 666 = some ((666, 1, .pop, 0, 0, 0, 0), 4, 1, 0, 0, 2, 0, 0) := rfl
theorem bt_291_667 : mm_at mt_P 291 667 = some ((667, 3, .goto 785, 0, 0, 0, 0), 4, 1, 0, 0, 2, 0, 0) := rfl
theorem bt_291_670 : mm_at mt_P 291 670 = some ((670, 1, .aload_n 1, 0, 0, 0, 0), 4, 1, 0, 0, 2, 0, 0) := rfl
theorem bt_291_671 : mm_at mt_P 291 671 = some ((671, 1, .aload_n 0, 0, 0, 0, 0), 4, 1, 0, 0, 2, 0, 0) := rfl
theorem bt_291_672 : mm_at mt_P 291 672 = some ((672, 1, .iload_n 3, 0, 0, 0, 0), 4, 1, 0, 0, 2, 0, 0) := rfl
theorem bt_291_673 : mm_at mt_P 291 673 = some ((673, 1, .iconst 1, 0, 0, 0, 0), 4, 1, 0, 0, 2, 0, 0) := rfl
theorem bt_291_674 : mm_at mt_P 291 674 = some ((674, 1, .iadd, 0, 0, 0, 0), 4, 1, 0, 0, 2, 0, 0) := rfl
theorem bt_291_675 : mm_at mt_P 291 675 = some ((675, 1, .iaload, 0, 0, 0, 0), 4, 1, 0, 0, 2, 0, 0) := rfl
theorem bt_291_676 : mm_at mt_P 291 676 = some ((676, 1, .aload_n 0, 0, 0, 0, 0), 4, 1, 0, 0, 2, 0, 0) := rfl
theorem bt_291_677 : mm_at mt_P 291 677 = some ((677, 1, .iload_n 3, 0, 0, 0, 0), 4, 1, 0, 0, 2, 0, 0) := rfl
theorem bt_291_678 : mm_at mt_P 291 678 = some ((678, 1, .iconst 2, 0, 0, 0, 0), 4, 1, 0, 0, 2, 0, 0) := rfl
theorem bt_291_679 : mm_at mt_P 291 679 = some ((679, 1, .iadd, 0, 0, 0, 0), 4, 1, 0, 0, 2, 0, 0) := rfl
theorem bt_291_680 : mm_at mt_P 291 680 = some ((680, 1, .iaload, 0, 0, 0, 0), 4, 1, 0, 0, 2, 0, 0) := rfl
theorem bt_291_681 : mm_at mt_P 291 681 = some ((681, 1, .aload_n 0, 0, 0, 0, 0), 4, 1, 0, 0, 2, 0, 0) := rfl
theorem bt_291_682 : mm_at mt_P 291 682 = some ((682, 1, .iload_n 3, 0, 0, 0, 0), 4, 1, 0, 0, 2, 0, 0) := rfl
theorem bt_291_683 : mm_at mt_P 291 683 = some ((683, 1, .iconst 3, 0, 0, 0, 0), 4, 1, 0, 0, 2, 0, 0) := rfl
theorem bt_291_684 : mm_at mt_P 291 684 = some ((684, 1, .iadd, 0, 0, 0, 0), 4, 1, 0, 0, 2, 0, 0) := rfl
theorem bt_291_685 : mm_at mt_P 291 685 = some ((685, 1, .iaload, 0, 0, 0, 0), 4, 1, 0, 0, 2, 0, 0) := rfl
theorem bt_291_686 : mm_at mt_P 291 686 = some ((686, 3, .ifCond .eq 7, 0, 0, 0, 0), 4, 1, 0, 0, 2, 0, 0) := rfl
theorem bt_291_689 : mm_at mt_P 291 689 = some ((689, 1, .iconst 1, 0, 0, 0, 0), 4, 1, 0, 0, 2, 0, 0) := rfl
theorem bt_291_690 : mm_at mt_P 291 690 = some ((690, 3, .goto 4, 0, 0, 0, 0), 4, 1, 0, 0, 2, 0, 0) := rfl
theorem bt_291_693 : mm_at mt_P 291 693 = some ((693, 1, .iconst 0, 0, 0, 0, 0), 4, 1, 0, 0, 2, 0, 0) := rfl
theorem bt_291_694 : mm_at mt_P 291 694 = some ((694, 3, .invokevirtual 77, 247, 0, 0, 951), 4, 1, 0, 0, 2, 0, 0) := rfl
theorem bt_291_697 : mm_at mt_P 291 697 = some ((697, 1, .pop, 0, 0, 0, 0), 4, 1, 0, 0, 2, 0, 0) := rfl
theorem bt_291_698 : mm_at mt_P 291 698 = some ((698, 1, .aload_n 2, 0, 0, 0, 0), 4, 1, 0, 0, 2, 0, 0) := rfl
theorem bt_291_699 : mm_at mt_P 291 699 = some ((699, 1, .aload_n 0, 0, 0, 0, 0), 4, 1, 0, 0, 2, 0, 0) := rfl
theorem bt_291_700 : mm_at mt_P 291 700 = some ((700, 1, .iload_n 3, 0, 0, 0, 0), 4, 1, 0, 0, 2, 0, 0) := rfl
theorem bt_291_701 : mm_at mt_P 291 701 = some ((701, 1, .iconst 1, 0, 0, 0, 0), 4, 1, 0, 0, 2, 0, 0) := rfl
theorem bt_291_702 : mm_at mt_P 291 702 = some ((702, 1, .iadd, 0, 0, 0, 0), 4, 1, 0, 0, 2, 0, 0) := rfl
theorem bt_291_703 : mm_at mt_P 291 703 = some ((703, 1, .iaload, 0, 0, 0, 0), 4, 1, 0, 0, 2, 0, 0) := rfl
theorem bt_291_704 : mm_at mt_P 291 704 = some ((704, 1, .aload_n 0, 0, 0, 0, 0), 4, 1, 0, 0, 2, 0, 0) := rfl
theorem bt_291_705 : mm_at mt_P 291 705 = some ((705, 1, .iload_n 3, 0, 0, 0, 0), 4, 1, 0, 0, 2, 0, 0) := rfl
theorem bt_291_706 : mm_at mt_P 291 706 = some ((706, 1, .iconst 2, 0, 0, 0, 0), 4, 1, 0, 0, 2, 0, 0) := rfl
theorem bt_291_707 : mm_at mt_P 291 707 = some ((707, 1, .iadd, 0, 0, 0, 0), 4, 1, 0, 0, 2, 0, 0) := rfl
theorem bt_291_708 : mm_at mt_P 291 708 = some ((708, 1, .iaload, 0, 0, 0, 0), 4, 1, 0, 0, 2, 0, 0) := rfl
theorem bt_291_709 : mm_at mt_P 291 709 = some ((709, 1, .aload_n 0, 0, 0, 0, 0), 4, 1, 0, 0, 2, 0, 0) := rfl
theorem bt_291_710 : mm_at mt_P 291 710 = some ((710, 1, .iload_n 3, 0, 0, 0, 0), 4, 1, 0, 0, 2, 0, 0) := rfl
theorem bt_291_711 : mm_at mt_P 291 711 = some ((711, 1, .iconst 3, 0, 0, 0, 0), 4, 1, 0, 0, 2, 0, 0) := rfl
theorem bt_291_712 : mm_at mt_P 291 712 = some ((712, 1, .iadd, 0, 0, 0, 0), 4, 1, 0, 0, 2, 0, 0) := rfl
theorem bt_291_713 : mm_at mt_P 291 713 = some ((713, 1, .iaload, 0, 0, 0, 0), 4, 1, 0, 0, 2, 0, 0) := rfl
theorem bt_291_714 : mm_at mt_P 291 714 = some ((714, 3, .ifCond .eq 7, 0, 0, 0, 0), 4, 1, 0, 0, 2, 0, 0) := rfl
theorem bt_291_717 : mm_at mt_P 291 717 = some ((717, 1, .iconst 1, 0, 0, 0, 0), 4, 1, 0, 0, 2, 0, 0) := rfl
theorem bt_291_718 : mm_at mt_P 291 718 = some ((718, 3, .goto 4, 0, 0, 0, 0), 4, 1, 0, 0, 2, 0, 0) := rfl
theorem bt_291_721 : mm_at mt_P 291 721 = some ((721, 1, .iconst 0, 0, 0, 0, 0), 4, 1, 0, 0, 2, 0, 0) := rfl
theorem bt_291_722 : mm_at mt_P 291 722 = some ((722, 3, .invokevirtual 80, 66, 0, 0, 1699), 4, 1, 0, 0, 2, 0, 0) := rfl
theorem bt_291_725 : mm_at mt_P 291 725 = some ((725, 1, .pop, 0, 0, 0, 0), 4, 1, 0, 0, 2, 0, 0) := rfl
theorem bt_291_726 : mm_at mt_P 291 726 = some ((726, 3, .goto 726, 0, 0, 0, 0), 4, 1, 0, 0, 2, 0, 0) := rfl
theorem bt_291_729 : mm_at mt_P 291 729 = some ((729, 1, .aload_n 1, 0, 0, 0, 0), 4, 1, 0, 0, 2, 0, 0) := rfl
theorem bt_291_730 : mm_at mt_P 291 730 = some ((730, 1, .aload_n 0, 0, 0, 0, 0), 4, 1, 0, 0, 2, 0, 0) := rfl
theorem bt_291_731 : mm_at mt_P 291 731 = some ((731, 1, .iload_n 3, 0, 0, 0, 0), 4, 1, 0, 0, 2, 0, 0) := rfl
theorem bt_291_732 : mm_at mt_P 291 732 = some ((732, 1, .iconst 1, 0, 0, 0, 0), 4, 1, 0, 0, 2, 0, 0) := rfl
theorem bt_291_733 : mm_at mt_P 291 733 = some ((733, 1, .iadd, 0, 0, 0, 0), 4, 1, 0, 0, 2, 0, 0) := rfl
theorem bt_291_734 : mm_at mt_P 291 734 = some ((734, 1, .iaload, 0, 0, 0, 0), 4, 1, 0, 0, 2, 0, 0) := rfl
theorem bt_291_735 : mm_at mt_P 291 735 = some ((735, 1, .aload_n 0, 0, 0, 0, 0), 4, 1, 0, 0, 2, 0, 0) := rfl
theorem bt_291_736 : mm_at mt_P 291 736 = some ((736, 1, .iload_n 3, 0, 0, 0, 0), 4, 1, 0, 0, 2, 0, 0) := rfl
theorem bt_291_737 : mm_at mt_P 291 737 = some ((737, 1, .iconst 2, 0, 0, 0, 0), 4, 1, 0, 0, 2, 0, 0) := rfl
theorem bt_291_738 : mm_at mt_P 291 738 = some ((738, 1, .iadd, 0, 0, 0, 0), 4, 1, 0, 0, 2, 0, 0) := rfl
theorem bt_291_739 : mm_at mt_P 291 739 = some ((739, 1, .iaload, 0, 0, 0, 0), 4, 1, 0, 0, 2, 0, 0) := rfl
theorem bt_291_740 : mm_at mt_P 291 740 = some ((740, 1, .aload_n 0, 0, 0, 0, 0), 4, 1, 0, 0, 2, 0, 0) := rfl
theorem bt_291_741 : mm_at mt_P 291 741 = some ((741, 1, .iload_n 3, 0, 0, 0, 0), 4, 1, 0, 0, 2, 0, 0) := rfl
theorem bt_291_742 : mm_at mt_P 291 742 = some ((742, 1, .iconst 3, 0, 0, 0, 0), 4, 1, 0, 0, 2, 0, 0) := rfl
theorem bt_291_743 : mm_at mt_P 291 743 = some ((743, 1, .iadd, 0, 0, 0, 0), 4, 1, 0, 0, 2, 0, 0) := rfl
theorem bt_291_744 : mm_at mt_P 291 744 = some ((744, 1, .iaload, 0, 0, 0, 0), 4, 1, 0, 0, 2, 0, 0) := rfl
theorem bt_291_745 : mm_at mt_P 291 745 = some ((745, 3, .ifCond .eq 7, 0, 0, 0, 0), 4, 1, 0, 0, 2, 0, 0) := rfl
theorem bt_291_748 : mm_at mt_P 291 748 = some ((748, 1, .iconst 1, 0, 0, 0, 0), 4, 1, 0, 0, 2, 0, 0) := rfl
theorem bt_291_749 : mm_at mt_P 291 749 = some ((749, 3, .goto 4, 0, 0, 0, 0), 4, 1, 0, 0, 2, 0, 0) := rfl
theorem bt_291_752 : mm_at mt_P 291 752 = some ((752, 1, .iconst 0, 0, 0, 0, 0), 4, 1, 0, 0, 2, 0, 0) := rfl
theorem bt_291_753 : mm_at mt_P 291 753 = some ((753, 3, .invokevirtual 81, 255, 0, 0, 960), 4, 1, 0, 0, 2, 0, 0) := rfl
theorem bt_291_756 : mm_at mt_P 291 756 = some ((756, 1, .pop, 0, 0, 0, 0), 4, 1, 0, 0, 2, 0, 0) := rfl
theorem bt_291_757 : mm_at mt_P 291 757 = some ((757, 1, .aload_n 2, 0, 0, 0, 0), 4, 1, 0, 0, 2, 0, 0) := rfl
theorem bt_291_758 : mm_at mt_P 291 758 = some ((758, 1, .aload_n 0, 0, 0, 0, 0), 4, 1, 0, 0, 2, 0, 0) := rfl
theorem bt_291_759 : mm_at mt_P 291 759 = some ((759, 1, .iload_n 3, 0, 0, 0, 0), 4, 1, 0, 0, 2, 0, 0) := rfl
theorem bt_291_760 : mm_at mt_P 291 760 = some ((760, 1, .iconst 1, 0, 0, 0, 0), 4, 1, 0, 0, 2, 0, 0) := rfl
theorem bt_291_761 : mm_at mt_P 291 761 = some ((761, 1, .iadd, 0, 0, 0, 0), 4, 1, 0, 0, 2, 0, 0) := rfl
theorem bt_291_762 : mm_at mt_P 291 762 = some ((762, 1, .iaload, 0, 0, 0, 0), 4, 1, 0, 0, 2, 0, 0) := rfl
theorem bt_291_763 : mm_at mt_P 291 763 = some ((763, 1, .aload_n 0, 0, 0, 0, 0), 4, 1, 0, 0, 2, 0, 0) := rfl
theorem bt_291_764 : mm_at mt_P 291 764 = some ((764, 1, .iload_n 3, 0, 0, 0, 0), 4, 1, 0, 0, 2, 0, 0) := rfl
theorem bt_291_765 : mm_at mt_P 291 765 = some ((765, 1, .iconst 2, 0, 0, 0, 0), 4, 1, 0, 0, 2, 0, 0) := rfl
theorem bt_291_766 : mm_at mt_P 291 766 = some ((766, 1, .iadd, 0, 0, 0, 0), 4, 1, 0, 0, 2, 0, 0) := rfl
theorem bt_291_767 : mm_at mt_P 291 767 = some ((767, 1, .iaload, 0, 0, 0, 0), 4, 1, 0, 0, 2, 0, 0) := rfl
theorem bt_291_768 : mm_at mt_P 291 768 = some ((768, 1, .aload_n 0, 0, 0, 0, 0), 4, 1, 0, 0, 2, 0, 0) := rfl
theorem bt_291_769 : mm_at mt_P 291 769 = some ((769, 1, .iload_n 3, 0, 0, 0, 0), 4, 1, 0, 0, 2, 0, 0) := rfl
theorem bt_291_770 : mm_at mt_P 291 770 = some ((770, 1, .iconst 3, 0, 0, 0, 0), 4, 1, 0, 0, 2, 0, 0) := rfl
theorem bt_291_771 : mm_at mt_P 291 771 = some ((771, 1, .iadd, 0, 0, 0, 0), 4, 1, 0, 0, 2, 0, 0) := rfl
theorem bt_291_772 : mm_at mt_P 291 772 = some ((772, 1, .iaload, 0, 0, 0, 0), 4, 1, 0, 0, 2, 0, 0) := rfl
theorem bt_291_773 : mm_at mt_P 291 773 = some ((773, 3, .ifCond .eq 7, 0, 0, 0, 0), 4, 1, 0, 0, 2, 0, 0) := rfl
theorem bt_291_776 : mm_at mt_P 291 776 = some ((776, 1, .iconst 1, 0, 0, 0, 0), 4, 1, 0, 0, 2, 0, 0) := rfl
theorem bt_291_777 : mm_at mt_P 291 777 = some ((777, 3, .goto 4, 0, 0, 0, 0), 4, 1, 0, 0, 2, 0, 0) := rfl
theorem bt_291_780 : mm_at mt_P 291 780 = some ((780, 1, .iconst 0, 0, 0, 0, 0), 4, 1, 0, 0, 2, 0, 0) := rfl
theorem bt_291_781 : mm_at mt_P 291 781 = some ((781, 3, .invokevirtual 84, 79, 0, 0, 1703), 4, 1, 0, 0, 2, 0, 0) := rfl
theorem bt_291_784 : mm_at mt_P 291 784 = some ((784, 1, .pop, 0, 0, 0, 0), 4, 1, 0, 0, 2, 0, 0) := rfl
theorem bt_291_785 : mm_at mt_P 291 785 = some ((785, 3, .goto 667, 0, 0, 0, 0), 4, 1, 0, 0, 2, 0, 0) := rfl
theorem bt_291_788 : mm_at mt_P 291 788 = some ((788, 1, .aload_n 1, 0, 0, 0, 0), 4, 1, 0, 0, 2, 0, 0) := rfl
theorem bt_291_789 : mm_at mt_P 291 789 = some ((789, 1, .aload_n 0, 0, 0, 0, 0), 4, 1, 0, 0, 2, 0, 0) := rfl
theorem bt_291_790 : mm_at mt_P 291 790 = some ((790, 1, .iload_n 3, 0, 0, 0, 0), 4, 1, 0, 0, 2, 0, 0) := rfl
theorem bt_291_791 : mm_at mt_P 291 791 = some ((791, 1, .iconst 1, 0, 0, 0, 0), 4, 1, 0, 0, 2, 0, 0) := rfl
theorem bt_291_792 : mm_at mt_P 291 792 = some ((792, 1, .iadd, 0, 0, 0, 0), 4, 1, 0, 0, 2, 0, 0) := rfl
theorem bt_291_793 : mm_at mt_P 291 793 = some ((793, 1, .iaload, 0, 0, 0, 0), 4, 1, 0, 0, 2, 0, 0) := rfl
theorem bt_291_794 : mm_at mt_P 291 794 = some ((794, 1, .aload_n 0, 0, 0, 0, 0), 4, 1, 0, 0, 2, 0, 0) := rfl
theorem bt_291_795 : mm_at mt_P 291 795 = some ((795, 1, .iload_n 3, 0, 0, 0, 0), 4, 1, 0, 0, 2, 0, 0) := rfl
theorem bt_291_796 : mm_at mt_P 291 796 = some ((796, 1, .iconst 2, 0, 0, 0, 0), 4, 1, 0, 0, 2, 0, 0) := rfl
theorem bt_291_797 : mm_at mt_P 291 797 = some ((797, 1, .iadd, 0, 0, 0, 0), 4, 1, 0, 0, 2, 0, 0) := rfl
theorem bt_291_798 : mm_at mt_P 291 798 = some ((798, 1, .iaload, 0, 0, 0, 0), 4, 1, 0, 0, 2, 0, 0) := rfl
theorem bt_291_799 : mm_at mt_P 291 799 = some ((799, 3, .invokevirtual 85, 258, 0, 0, 974), 4, 1, 0, 0, 2, 0, 0) := rfl
theorem bt_291_802 : mm_at mt_P 291 802 = some ((802, 1, .pop, 0, 0, 0, 0), 4, 1, 0, 0, 2, 0, 0) := rfl
theorem bt_291_803 : mm_at mt_P 291 803 = some ((803, 1, .aload_n 2, 0, 0, 0, 0), 4, 1, 0, 0, 2, 0, 0) := rfl
theorem bt_291_804 : mm_at mt_P 291 804 = some ((804, 1, .aload_n 0, 0, 0, 0, 0), 4, 1, 0, 0, 2, 0, 0) := rfl
theorem bt_291_805 : mm_at mt_P 291 805 = some ((805, 1, .iload_n 3, 0, 0, 0, 0), 4, 1, 0, 0, 2, 0, 0) := rfl
theorem bt_291_806 : mm_at mt_P 291 806 = some ((806, 1, .iconst 1, 0, 0, 0, 0), 4, 1, 0, 0, 2, 0, 0) := rfl
theorem bt_291_807 : mm_at mt_P 291 807 = some ((807, 1, .iadd, 0, 0, 0, 0), 4, 1, 0, 0, 2, 0, 0) := rfl
theorem bt_291_808 : mm_at mt_P 291 808 = some ((808, 1, .iaload, 0, 0, 0, 0), 4, 1, 0, 0, 2, 0, 0) := rfl
theorem bt_291_809 : mm_at mt_P 291 809 = some ((809, 1, .aload_n 0, 0, 0, 0, 0), 4, 1, 0, 0, 2, 0, 0) := rfl
theorem bt_291_810 : mm_at mt_P 291 810 = some ((810, 1, .iload_n 3, 0, 0, 0, 0), 4, 1, 0, 0, 2, 0, 0) := rfl
theorem bt_291_811 : mm_at mt_P 291 811 = some ((811, 1, .iconst 2, 0, 0, 0, 0), 4, 1, 0, 0, 2, 0, 0) := rfl
theorem bt_291_812 : mm_at mt_P 291 812 = some ((812, 1, .iadd, 0, 0, 0, 0), 4, 1, 0, 0, 2, 0, 0) := rfl
theorem bt_291_813 : mm_at mt_P 291 813 = some ((813, 1, .iaload, 0, 0, 0, 0), 4, 1, 0, 0, 2, 0, 0) := rfl
theorem bt_291_814 : mm_at mt_P 291 814 = some ((814, 3, .invokevirtual 88, 84, 0, 0, 1707), 4, 1, 0, 0, 2, 0, 0) := rfl
theorem bt_291_817 : mm_at mt_P 291 817 = some ((817, 1, .pop, 0, 0, 0, 0), 4, 1, 0, 0, 2, 0, 0) := rfl
theorem bt_291_818 : mm_at mt_P 291 818 = some ((818, 3, .goto 634, 0, 0, 0, 0), 4, 1, 0, 0, 2, 0, 0) := rfl
theorem bt_291_821 : mm_at mt_P 291 821 = some ((821, 1, .aload_n 1, 0, 0, 0, 0), 4, 1, 0, 0, 2, 0, 0) := rfl
theorem bt_291_822 : mm_at mt_P 291 822 = some ((822, 1, .aload_n 0, 0, 0, 0, 0), 4, 1, 0, 0, 2, 0, 0) := rfl
theorem bt_291_823 : mm_at mt_P 291 823 = some ((823, 1, .iload_n 3, 0, 0, 0, 0), 4, 1, 0, 0, 2, 0, 0) := rfl
theorem bt_291_824 : mm_at mt_P 291 824 = some ((824, 1, .iconst 1, 0, 0, 0, 0), 4, 1, 0, 0, 2, 0, 0) := rfl
theorem bt_291_825 : mm_at mt_P 291 825 = some ((825, 1, .iadd, 0, 0, 0, 0), 4, 1, 0, 0, 2, 0, 0) := rfl
theorem bt_291_826 : mm_at mt_P 291 826 = some ((826, 1, .iaload, 0, 0, 0, 0), 4, 1, 0, 0, 2, 0, 0) := rfl
theorem bt_291_827 : mm_at mt_P 291 827 = some ((827, 1, .aload_n 0, 0, 0, 0, 0), 4, 1, 0, 0, 2, 0, 0) := rfl
theorem bt_291_828 : mm_at mt_P 291 828 = some ((828, 1, .iload_n 3, 0, 0, 0, 0), 4, 1, 0, 0, 2, 0, 0) := rfl
theorem bt_291_829 : mm_at mt_P 291 829 = some ((829, 1, .iconst 2, 0, 0, 0, 0), 4, 1, 0, 0, 2, 0, 0) := rfl
theorem bt_291_830 : mm_at mt_P 291 830 = some ((830, 1, .iadd, 0, 0, 0, 0), 4, 1, 0, 0, 2, 0, 0) := rfl
theorem bt_291_831 : mm_at mt_P 291 831 = some ((831, 1, .iaload, 0, 0, 0, 0), 4, 1, 0, 0, 2, 0, 0) := rfl
theorem bt_291_832 : mm_at mt_P 291 832 = some ((832, 3, .ifCond .eq 7, 0, 0, 0, 0), 4, 1, 0, 0, 2, 0, 0) := rfl
theorem bt_291_835 : mm_at mt_P 291 835 = some ((835, 1, .iconst 1, 0, 0, 0, 0), 4, 1, 0, 0, 2, 0, 0) := rfl
theorem bt_291_836 : mm_at mt_P 291 836 = some ((836, 3, .goto 4, 0, 0, 0, 0), 4, 1, 0, 0, 2, 0, 0) := rfl
theorem bt_291_839 : mm_at mt_P 291 839 = some ((839, 1, .iconst 0, 0, 0, 0, 0), 4, 1, 0, 0, 2, 0, 0) := rfl
theorem bt_291_840 : mm_at mt_P 291 840 = some ((840, 3, .invokevirtual 89, 257, 0, 0, 1005), 4, 1, 0, 0, 2, 0, 0) := rfl
theorem bt_291_843 : mm_at mt_P 291 843 = some ((843, 1, .pop, 0, 0, 0, 0), 4, 1, 0, 0, 2, 0, 0) := rfl
theorem bt_291_844 : mm_at mt_P 291 844 = some ((844, 1, .aload_n 2, 0, 0, 0, 0), 4, 1, 0, 0, 2, 0, 0) := rfl
theorem bt_291_845 : mm_at mt_P 291 845 = some ((845, 1, .aload_n 0, 0, 0, 0, 0), 4, 1, 0, 0, 2, 0, 0) := rfl
theorem bt_291_846 : mm_at mt_P 291 846 = some ((846, 1, .iload_n 3, 0, 0, 0, 0), 4, 1, 0, 0, 2, 0, 0) := rfl
theorem bt_291_847 : mm_at mt_P 291 847 = some ((847, 1, .iconst 1, 0, 0, 0, 0), 4, 1, 0, 0, 2, 0, 0) := rfl
theorem bt_291_848 : mm_at mt_P 291 848 = some ((848, 1, .iadd, 0, 0, 0, 0), 4, 1, 0, 0, 2, 0, 0) := rfl
theorem bt_291_849 : mm_at mt_P 291 849 = some ((849, 1, .iaload, 0, 0, 0, 0), 4, 1, 0, 0, 2, 0, 0) := rfl
theorem bt_291_850 : mm_at mt_P 291 850 = some ((850, 1, .aload_n 0, 0, 0, 0, 0), 4, 1, 0, 0, 2, 0, 0) := rfl
theorem bt_291_851 : mm_at mt_P 291 851 = some ((851, 1, .iload_n 3, 0, 0, 0, 0), 4, 1, 0, 0, 2, 0, 0) := rfl
theorem bt_291_852 : mm_at mt_P 291 852 = some ((852, 1, .iconst 2, 0, 0, 0, 0), 4, 1, 0, 0, 2, 0, 0) := rfl
theorem bt_291_853 : mm_at mt_P 291 853 = some ((853, 1, .iadd, 0, 0, 0, 0), 4, 1, 0, 0, 2, 0, 0) := rfl
theorem bt_291_854 : mm_at mt_P 291 854 = some ((854, 1, .iaload, 0, 0, 0, 0), 4, 1, 0, 0, 2, 0, 0) := rfl
theorem bt_291_855 : mm_at mt_P 291 855 = some ((855, 3, .ifCond .eq 7, 0, 0, 0, 0), 4, 1, 0, 0, 2, 0, 0) := rfl
theorem bt_291_858 : mm_at mt_P 291 858 = some ((858, 1, .iconst 1, 0, 0, 0, 0), 4, 1, 0, 0, 2, 0, 0) := rfl
theorem bt_291_859 : mm_at mt_P 291 859 = some ((859, 3, .goto 4, 0, 0, 0, 0), 4, 1, 0, 0, 2, 0, 0) := rfl
theorem bt_291_862 : mm_at mt_P 291 862 = some ((862, 1, .iconst 0, 0, 0, 0, 0), 4, 1, 0, 0, 2, 0, 0) := rfl
theorem bt_291_863 : mm_at mt_P 291 863 = some ((863, 3, .invokevirtual 93, 81, 0, 0, 1731), 4, 1, 0, 0, 2, 0, 0) := rfl
theorem bt_291_866 : mm_at mt_P 291 866 = some ((866, 1, .pop, 0, 0, 0, 0), 4, 1, 0, 0, 2, 0, 0) := rfl
theorem bt_291_867 : mm_at mt_P 291 867 = some ((867, 3, .goto 585, 0, 0, 0, 0), 4, 1, 0, 0, 2, 0, 0) := rfl
theorem bt_291_870 : mm_at mt_P 291 870 = some ((870, 1, .aload_n 1, 0, 0, 0, 0), 4, 1, 0, 0, 2, 0, 0) := rfl
theorem bt_291_871 : mm_at mt_P 291 871 = some ((871, 1, .aload_n 0, 0, 0, 0, 0), 4, 1, 0, 0, 2, 0, 0) := rfl
theorem bt_291_872 : mm_at mt_P 291 872 = some ((872, 1, .iload_n 3, 0, 0, 0, 0), 4, 1, 0, 0, 2, 0, 0) := rfl
theorem bt_291_873 : mm_at mt_P 291 873 = some ((873, 1, .iconst 1, 0, 0, 0, 0), 4, 1, 0, 0, 2, 0, 0) := rfl
theorem bt_291_874 : mm_at mt_P 291 874 = some ((874, 1, .iadd, 0, 0, 0, 0), 4, 1, 0, 0, 2, 0, 0) := rfl
theorem bt_291_875 : mm_at mt_P 291 875 = some ((875, 1, .iaload, 0, 0, 0, 0), 4, 1, 0, 0, 2, 0, 0) := rfl
theorem bt_291_876 : mm_at mt_P 291 876 = some ((876, 3, .invokevirtual 94, 256, 0, 0, 1013), 4, 1, 0, 0, 2, 0, 0) := rfl
theorem bt_291_879 : mm_at mt_P 291 879 = some ((879, 1, .aload_n 2, 0, 0, 0, 0), 4, 1, 0, 0, 2, 0, 0) := rfl
theorem bt_291_880 : mm_at mt_P 291 880 = some ((880, 1, .aload_n 0, 0, 0, 0, 0), 4, 1, 0, 0, 2, 0, 0) := rfl
theorem bt_291_881 : mm_at mt_P 291 881 = some ((881, 1, .iload_n 3, 0, 0, 0, 0), 4, 1, 0, 0, 2, 0, 0) := rfl
theorem bt_291_882 : mm_at mt_P 291 882 = some ((882, 1, .iconst 1, 0, 0, 0, 0), 4, 1, 0, 0, 2, 0, 0) := rfl
theorem bt_291_883 : mm_at mt_P 291 883 = some ((883, 1, .iadd, 0, 0, 0, 0), 4, 1, 0, 0, 2, 0, 0) := rfl
theorem bt_291_884 : mm_at mt_P 291 884 = some ((884, 1, .iaload, 0, 0, 0, 0), 4, 1, 0, 0, 2, 0, 0) := rfl
theorem bt_291_885 : mm_at mt_P 291 885 = some ((885, 3, .invokevirtual 97, 80, 0, 0, 1735), 4, 1, 0, 0, 2, 0, 0) := rfl
theorem bt_291_888 : mm_at mt_P 291 888 = some ((888, 3, .if_icmp .eq 564, 0, 0, 0, 0), 4, 1, 0, 0, 2, 0, 0) := rfl
theorem bt_291_893 : mm_at mt_P 291 893 = some ((893, 1, .aload_n 1, 0, 0, 0, 0), 4, 1, 0, 0, 2, 0, 0) := rfl
theorem bt_291_894 : mm_at mt_P 291 894 = some ((894, 1, .aload_n 0, 0, 0, 0, 0), 4, 1, 0, 0, 2, 0, 0) := rfl
theorem bt_291_895 : mm_at mt_P 291 895 = some ((895, 1, .iload_n 3, 0, 0, 0, 0), 4, 1, 0, 0, 2, 0, 0) := rfl
theorem bt_291_896 : mm_at mt_P 291 896 = some ((896, 1, .iconst 1, 0, 0, 0, 0), 4, 1, 0, 0, 2, 0, 0) := rfl
theorem bt_291_897 : mm_at mt_P 291 897 = some ((897, 1, .iadd, 0, 0, 0, 0), 4, 1, 0, 0, 2, 0, 0) := rfl
theorem bt_291_898 : mm_at mt_P 291 898 = some ((898, 1, .iaload, 0, 0, 0, 0), 4, 1, 0, 0, 2, 0, 0) := rfl
theorem bt_291_899 : mm_at mt_P 291 899 = some ((899, 3, .invokevirtual 98, 234, 0, 0, 1033), 4, 1, 0, 0, 2, 0, 0) := rfl
theorem bt_291_902 : mm_at mt_P 291 902 = some ((902, 1, .pop, 0, 0, 0, 0), 4, 1, 0, 0, 2, 0, 0) := rfl
theorem bt_291_903 : mm_at mt_P 291 903 = some ((903, 1, .aload_n 2, 0, 0, 0, 0), 4, 1, 0, 0, 2, 0, 0) := rfl
theorem bt_291_904 : mm_at mt_P 291 904 = some ((904, 1, .aload_n 0, 0, 0, 0, 0), 4, 1, 0, 0, 2, 0, 0) := rfl
theorem bt_291_905 : mm_at mt_P 291 905 = some ((905, 1, .iload_n 3, 0, 0, 0, 0), 4, 1, 0, 0, 2, 0, 0) := rfl
theorem bt_291_906 : mm_at mt_P 291 906 = some ((906, 1, .iconst 1, 0, 0, 0, 0), 4, 1, 0, 0, 2, 0, 0) := rfl
theorem bt_291_907 : mm_at mt_P 291 907 = some ((907, 1, .iadd, 0, 0, 0, 0), 4, 1, 0, 0, 2, 0, 0) := rfl
theorem bt_291_908 : mm_at mt_P 291 908 = some ((908, 1, .iaload, 0, 0, 0, 0), 4, 1, 0, 0, 2, 0, 0) := rfl
theorem bt_291_909 : mm_at mt_P 291 909 = some ((909, 3, .invokevirtual 101, 38, 0, 0, 1747), 4, 1, 0, 0, 2, 0, 0) := rfl
theorem bt_291_912 : mm_at mt_P 291 912 = some ((912, 1, .pop, 0, 0, 0, 0), 4, 1, 0, 0, 2, 0, 0) := rfl
theorem bt_291_913 : mm_at mt_P 291 913 = some ((913, 3, .goto 539, 0, 0, 0, 0), 4, 1, 0, 0, 2, 0, 0) := rfl
theorem bt_291_916 : mm_at mt_P 291 916 = some ((916, 1, .aload_n 1, 0, 0, 0, 0), 4, 1, 0, 0, 2, 0, 0) := rfl
theorem bt_291_917 : mm_at mt_P 291 917 = some ((917, 1, .aload_n 0, 0, 0, 0, 0), 4, 1, 0, 0, 2, 0, 0) := rfl
theorem bt_291_918 : mm_at mt_P 291 918 = some ((918, 1, .iload_n 3, 0, 0, 0, 0), 4, 1, 0, 0, 2, 0, 0) := rfl
theorem bt_291_919 : mm_at mt_P 291 919 = some ((919, 1, .iconst 1, 0, 0, 0, 0), 4, 1, 0, 0, 2, 0, 0) := rfl
theorem bt_291_920 : mm_at mt_P 291 920 = some ((920, 1, .iadd, 0, 0, 0, 0), 4, 1, 0, 0, 2, 0, 0) := rfl
theorem bt_291_921 : mm_at mt_P 291 921 = some ((921, 1, .iaload, 0, 0, 0, 0), 4, 1, 0, 0, 2, 0, 0) := rfl
theorem bt_291_922 : mm_at mt_P 291 922 = some ((922, 3, .ifCond .eq 7, 0, 0, 0, 0), 4, 1, 0, 0, 2, 0, 0) := rfl
theorem bt_291_925 : mm_at mt_P 291 925 = some ((925, 1, .iconst 1, 0, 0, 0, 0), 4, 1, 0, 0, 2, 0, 0) := rfl
theorem bt_291_926 : mm_at mt_P 291 926 = some ((926, 3, .goto 4, 0, 0, 0, 0), 4, 1, 0, 0, 2, 0, 0) := rfl
theorem bt_291_929 : mm_at mt_P 291 929 = some ((929, 1, .iconst 0, 0, 0, 0, 0), 4, 1, 0, 0, 2, 0, 0) := rfl
theorem bt_291_930 : mm_at mt_P 291 930 = some ((930, 3, .invokevirtual 102, 223, 0, 0, 1037), 4, 1, 0, 0, 2, 0, 0) := rfl
theorem bt_291_933 : mm_at mt_P 291 933 = some ((933, 1, .pop, 0, 0, 0, 0), 4, 1, 0, 0, 2, 0, 0) := rfl
theorem bt_291_934 : mm_at mt_P 291 934 = some ((934, 1, .aload_n 2, 0, 0, 0, 0), 4, 1, 0, 0, 2, 0, 0) := rfl
theorem bt_291_935 : mm_at mt_P 291 935 = some ((935, 1, .aload_n 0, 0, 0, 0, 0), 4, 1, 0, 0, 2, 0, 0) := rfl
theorem bt_291_936 : mm_at mt_P 291 936 = some ((936, 1, .iload_n 3, 0, 0, 0, 0), 4, 1, 0, 0, 2, 0, 0) := rfl
theorem bt_291_937 : mm_at mt_P 291 937 = some ((937, 1, .iconst 1, 0, 0, 0, 0), 4, 1, 0, 0, 2, 0, 0) := rfl
theorem bt_291_938 : mm_at mt_P 291 938 = some ((938, 1, .iadd, 0, 0, 0, 0), 4, 1, 0, 0, 2, 0, 0) := rfl
theorem bt_291_939 : mm_at mt_P 291 939 = some ((939, 1, .iaload, 0, 0, 0, 0), 4, 1, 0, 0, 2, 0, 0) := rfl
theorem bt_291_940 : mm_at mt_P 291 940 = some ((940, 3, .ifCond .eq 7, 0, 0, 0, 0), 4, 1, 0, 0, 2, 0, 0) := rfl
theorem bt_291_943 : mm_at mt_P 291 943 = some ((943, 1, .iconst 1, 0, 0, 0, 0), 4, 1, 0, 0, 2, 0, 0) := rfl
theorem bt_291_944 : mm_at mt_P 291 944 = some ((944, 3, .goto 4, 0, 0, 0, 0), 4, 1, 0, 0, 2, 0, 0) := rfl
theorem bt_291_947 : mm_at mt_P 291 947 = some ((947, 1, .iconst 0, 0, 0, 0, 0), 4, 1, 0, 0, 2, 0, 0) := rfl
theorem bt_291_948 : mm_at mt_P 291 948 = some ((948, 3, .invokevirtual 106, 9, 0, 0, 1751), 4, 1, 0, 0, 2, 0, 0) := rfl
theorem bt_291_951 : mm_at mt_P 291 951 = some ((951, 1, .pop, 0, 0, 0, 0), 4, 1, 0, 0, 2, 0, 0) := rfl
theorem bt_291_952 : mm_at mt_P 291 952 = some ((952, 3, .goto 500, 0, 0, 0, 0), 4, 1, 0, 0, 2, 0, 0) := rfl
theorem bt_291_955 : mm_at mt_P 291 955 = some ((955, 1, .aload_n 1, 0, 0, 0, 0), 4, 1, 0, 0, 2, 0, 0) := rfl
theorem bt_291_956 : mm_at mt_P 291 956 = some ((956, 1, .aload_n 0, 0, 0, 0, 0), 4, 1, 0, 0, 2, 0, 0) := rfl
theorem bt_291_957 : mm_at mt_P 291 957 = some ((957, 1, .iload_n 3, 0, 0, 0, 0), 4, 1, 0, 0, 2, 0, 0) := rfl
theorem bt_291_958 : mm_at mt_P 291 958 = some ((958, 1, .iconst 1, 0, 0, 0, 0), 4, 1, 0, 0, 2, 0, 0) := rfl
theorem bt_291_959 : mm_at mt_P 291 959 = some ((959, 1, .iadd, 0, 0, 0, 0), 4, 1, 0, 0, 2, 0, 0) := rfl
theorem bt_291_960 : mm_at mt_P 291 960 = some ((960, 1, .iaload, 0, 0, 0, 0), 4, 1, 0, 0, 2, 0, 0) := rfl
theorem bt_291_961 : mm_at mt_P 291 961 = some ((961, 1, .aload_n 0, 0, 0, 0, 0), 4, 1, 0, 0, 2, 0, 0) := rfl
theorem bt_291_962 : mm_at mt_P 291 962 = some ((962, 1, .iload_n 3, 0, 0, 0, 0), 4, 1, 0, 0, 2, 0, 0) := rfl
theorem bt_291_963 : mm_at mt_P 291 963 = some ((963, 1, .iconst 2, 0, 0, 0, 0), 4, 1, 0, 0, 2, 0, 0) := rfl
theorem bt_291_964 : mm_at mt_P 291 964 = some ((964, 1, .iadd, 0, 0, 0, 0), 4, 1, 0, 0, 2, 0, 0) := rfl
theorem bt_291_965 : mm_at mt_P 291 965 = some ((965, 1, .iaload, 0, 0, 0, 0), 4, 1, 0, 0, 2, 0, 0) := rfl
theorem bt_291_966 : mm_at mt_P 291 966 = some ((966, 3, .invokevirtual 107, 267, 0, 0, 1041), 4, 1, 0, 0, 2, 0, 0) := rfl
theorem bt_291_969 : mm_at mt_P 291 969 = some ((969, 1, .pop, 0, 0, 0, 0), 4, 1, 0, 0, 2, 0, 0) := rfl
theorem bt_291_970 : mm_at mt_P 291 970 = some ((970, 1, .aload_n 2, 0, 0, 0, 0), 4, 1, 0, 0, 2, 0, 0) := rfl
theorem bt_291_971 : mm_at mt_P 291 971 = some ((971, 1, .aload_n 0, 0, 0, 0, 0), 4, 1, 0, 0, 2, 0, 0) := rfl
theorem bt_291_972 : mm_at mt_P 291 972 = some ((972, 1, .iload_n 3, 0, 0, 0, 0), 4, 1, 0, 0, 2, 0, 0) := rfl
theorem bt_291_973 : mm_at mt_P 291 973 = some ((973, 1, .iconst 1, 0, 0, 0, 0), 4, 1, 0, 0, 2, 0, 0) := rfl
theorem bt_291_974 : mm_at mt_P 291 974 = some ((974, 1, .iadd, 0, 0, 0, 0), 4, 1, 0, 0, 2, 0, 0) := rfl
theorem bt_291_975 : mm_at mt_P 291 975 = some ((975, 1, .iaload, 0, 0, 0, 0), 4, 1, 0, 0, 2, 0, 0) := rfl
theorem bt_291_976 : mm_at mt_P 291 976 = some ((976, 1, .aload_n 0, 0, 0, 0, 0), 4, 1, 0, 0, 2, 0, 0) := rfl
theorem bt_291_977 : mm_at mt_P 291 977 = some ((977, 1, .iload_n 3, 0, 0, 0, 0), 4, 1, 0, 0, 2, 0, 0) := rfl
theorem bt_291_978 : mm_at mt_P 291 978 = some ((978, 1, .iconst 2, 0, 0, 0, 0), 4, 1, 0, 0, 2, 0, 0) := rfl
theorem bt_291_979 : mm_at mt_P 291 979 = some ((979, 1, .iadd, 0, 0, 0, 0), 4, 1, 0, 0, 2, 0, 0) := rfl
theorem bt_291_980 : mm_at mt_P 291 980 = some ((980, 1, .iaload, 0, 0, 0, 0), 4, 1, 0, 0, 2, 0, 0) := rfl
theorem bt_291_981 : mm_at mt_P 291 981 = some ((981, 3, .invokevirtual 110, 102, 0, 0, 1755), 4, 1, 0, 0, 2, 0, 0) := rfl
theorem bt_291_984 : mm_at mt_P 291 984 = some ((984, 1, .pop, 0, 0, 0, 0), 4, 1, 0, 0, 2, 0, 0) := rfl
theorem bt_291_985 : mm_at mt_P 291 985 = some ((985, 3, .goto 467, 0, 0, 0, 0), 4, 1, 0, 0, 2, 0, 0) := rfl
theorem bt_291_988 : mm_at mt_P 291 988 = some ((988, 1, .aload_n 1, 0, 0, 0, 0), 4, 1, 0, 0, 2, 0, 0) := rfl
theorem bt_291_989 : mm_at mt_P 291 989 = some ((989, 1, .aload_n 0, 0, 0, 0, 0), 4, 1, 0, 0, 2, 0, 0) := rfl
theorem bt_291_990 : mm_at mt_P 291 990 = some ((990, 1, .iload_n 3, 0, 0, 0, 0), 4, 1, 0, 0, 2, 0, 0) := rfl
theorem bt_291_991 : mm_at mt_P 291 991 = some ((991, 1, .iconst 1, 0, 0, 0, 0), 4, 1, 0, 0, 2, 0, 0) := rfl
theorem bt_291_992 : mm_at mt_P 291 992 = some ((992, 1, .iadd, 0, 0, 0, 0), 4, 1, 0, 0, 2, 0, 0) := rfl
theorem bt_291_993 : mm_at mt_P 291 993 = some ((993, 1, .iaload, 0, 0, 0, 0), 4, 1, 0, 0, 2, 0, 0) := rfl
theorem bt_291_994 : mm_at mt_P 291 994 = some ((994, 1, .aload_n 0, 0, 0, 0, 0), 4, 1, 0, 0, 2, 0, 0) := rfl
theorem bt_291_995 : mm_at mt_P 291 995 = some ((995, 1, .iload_n 3, 0, 0, 0, 0), 4, 1, 0, 0, 2, 0, 0) := rfl
theorem bt_291_996 : mm_at mt_P 291 996 = some ((996, 1, .iconst 2, 0, 0, 0, 0), 4, 1, 0, 0, 2, 0, 0) := rfl
theorem bt_291_997 : mm_at mt_P 291 997 = some ((997, 1, .iadd, 0, 0, 0, 0), 4, 1, 0, 0, 2, 0, 0) := rfl
theorem bt_291_998 : mm_at mt_P 291 998 = some ((998, 1, .iaload, 0, 0, 0, 0), 4, 1, 0, 0, 2, 0, 0) := rfl
theorem bt_291_999 : mm_at mt_P 291 999 = some ((999, 1, .aload_n 0, 0, 0, 0, 0), 4, 1, 0, 0, 2, 0, 0) := rfl
theorem bt_291_1000 : mm_at mt_P 291 1000 = some ((1000, 1, .iload_n 3, 0, 0, 0, 0), 4, 1, 0, 0, 2, 0, 0) := rfl
theorem bt_291_1001 : mm_at mt_P 291 1001 = some ((1001, 1, .iconst 3, 0, 0, 0, 0), 4, 1, 0, 0, 2, 0, 0) := rfl
theorem bt_291_1002 : mm_at mt_P 291 1002 = some ((1002, 1, .iadd, 0, 0, 0, 0), 4, 1, 0, 0, 2, 0, 0) := rfl
theorem bt_291_1003 : mm_at mt_P 291 1003 = some ((1003, 1, .iaload, 0, 0, 0, 0), 4, 1, 0, 0, 2, 0, 0) := rfl
theorem bt_291_1004 : mm_at mt_P 291 1004 = some ((1004, 3, .invokevirtual 111, 248, 0, 0, 1050), 4, 1, 0, 0, 2, 0, 0) := rfl
theorem bt_291_1007 : mm_at mt_P 291 1007 = some ((1007, 1, .pop, 0, 0, 0, 0), 4, 1, 0, 0, 2, 0, 0) := rfl
theorem bt_291_1008 : mm_at mt_P 291 1008 = some ((1008, 1, .aload_n 2, 0, 0, 0, 0), 4, 1, 0, 0, 2, 0, 0) := rfl
theorem bt_291_1009 : mm_at mt_P 291 1009 = some ((1009, 1, .aload_n 0, 0, 0, 0, 0), 4, 1, 0, 0, 2, 0, 0) := rfl
theorem bt_291_1010 : mm_at mt_P 291 1010 = some ((1010, 1, .iload_n 3, 0, 0, 0, 0), 4, 1, 0, 0, 2, 0, 0) := rfl
theorem bt_291_1011 : mm_at mt_P 291 1011 = some ((1011, 1, .iconst 1, 0, 0, 0, 0), 4, 1, 0, 0, 2, 0, 0) := rfl
theorem bt_291_1012 : mm_at mt_P 291 1012 = some ((1012, 1, .iadd, 0, 0, 0, 0), 4, 1, 0, 0, 2, 0, 0) := rfl
theorem bt_291_1013 : mm_at mt_P 291 1013 = some ((1013, 1, .iaload, 0, 0, 0, 0), 4, 1, 0, 0, 2, 0, 0) := rfl
theorem bt_291_1014 : mm_at mt_P 291 1014 = some ((1014, 1, .aload_n 0, 0, 0, 0, 0), 4, 1, 0, 0, 2, 0, 0) := rfl
theorem bt_291_1015 : mm_at mt_P 291 1015 = some ((1015, 1, .iload_n 3, 0, 0, 0, 0), 4, 1, 0, 0, 2, 0, 0) := rfl
theorem bt_291_1016 : mm_at mt_P 291 1016 = some ((1016, 1, .iconst 2, 0, 0, 0, 0), 4, 1, 0, 0, 2, 0, 0) := rfl
theorem bt_291_1017 : mm_at mt_P 291 1017 = some ((1017, 1, .iadd, 0, 0, 0, 0), 4, 1, 0, 0, 2, 0, 0) := rfl
theorem bt_291_1018 : mm_at mt_P 291 1018 = some ((1018, 1, .iaload, 0, 0, 0, 0), 4, 1, 0, 0, 2, 0, 0) := rfl
theorem bt_291_1019 : mm_at mt_P 291 1019 = some ((1019, 1, .aload_n 0, 0, 0, 0, 0), 4, 1, 0, 0, 2, 0, 0) := rfl
theorem bt_291_1020 : mm_at mt_P 291 1020 = some ((1020, 1, .iload_n 3, 0, 0, 0, 0), 4, 1, 0, 0, 2, 0, 0) := rfl
theorem bt_291_1021 : mm_at mt_P 291 1021 = some ((1021, 1, .iconst 3, 0, 0, 0, 0), 4, 1, 0, 0, 2, 0, 0) := rfl
theorem bt_291_1022 : mm_at mt_P 291 1022 = some ((1022, 1, .iadd, 0, 0, 0, 0), 4, 1, 0, 0, 2, 0, 0) := rfl
theorem bt_291_1023 : mm_at mt_P 291 1023 = some ((1023, 1, .iaload, 0, 0, 0, 0), 4, 1, 0, 0, 2, 0, 0) := rfl
theorem bt_291_1024 : mm_at mt_P 291 1024 = some ((1024, 3, .invokevirtual 115, 68, 0, 0, 1766), 4, 1, 0, 0, 2, 0, 0) := rfl
theorem bt_291_1027 : mm_at mt_P 291 1027 = some ((1027, 1, .pop, 0, 0, 0, 0), 4, 1, 0, 0, 2, 0, 0) := rfl
theorem bt_291_1028 : mm_at mt_P 291 1028 = some ((1028, 3, .goto 424, 0, 0, 0, 0), 4, 1, 0, 0, 2, 0, 0) := rfl
theorem bt_291_1031 : mm_at mt_P 291 1031 = some ((1031, 1, .aload_n 1, 0, 0, 0, 0), 4, 1, 0, 0, 2, 0, 0) := rfl
theorem bt_291_1032 : mm_at mt_P 291 1032 = some ((1032, 1, .aload_n 0, 0, 0, 0, 0), 4, 1, 0, 0, 2, 0, 0) := rfl
theorem bt_291_1033 : mm_at mt_P 291 1033 = some ((1033, 1, .iload_n 3, 0, 0, 0, 0), 4, 1, 0, 0, 2, 0, 0) := rfl
theorem bt_291_1034 : mm_at mt_P 291 1034 = some ((1034, 1, .iconst 1, 0, 0, 0, 0), 4, 1, 0, 0, 2, 0, 0) := rfl
theorem bt_291_1035 : mm_at mt_P 291 1035 = some ((1035, 1, .iadd, 0, 0, 0, 0), 4, 1, 0, 0, 2, 0, 0) := rfl
theorem bt_291_1036 : mm_at mt_P 291 1036 = some ((1036, 1, .iaload, 0, 0, 0, 0), 4, 1, 0, 0, 2, 0, 0) := rfl
theorem bt_291_1037 : mm_at mt_P 291 1037 = some ((1037, 3, .invokevirtual 116, 229, 0, 0, 1054), 4, 1, 0, 0, 2, 0, 0) := rfl
theorem bt_291_1040 : mm_at mt_P 291 1040 = some ((1040, 1, .pop, 0, 0, 0, 0), 4, 1, 0, 0, 2, 0, 0) := rfl
theorem bt_291_1041 : mm_at mt_P 291 1041 = some ((1041, 1, .aload_n 2, 0, 0, 0, 0), 4, 1, 0, 0, 2, 0, 0) := rfl
theorem bt_291_1042 : mm_at mt_P 291 1042 = some ((1042, 1, .aload_n 0, 0, 0, 0, 0), 4, 1, 0, 0, 2, 0, 0) := rfl
theorem bt_291_1043 : mm_at mt_P 291 1043 = some ((1043, 1, .iload_n 3, 0, 0, 0, 0), 4, 1, 0, 0, 2, 0, 0) := rfl
theorem bt_291_1044 : mm_at mt_P 291 1044 = some ((1044, 1, .iconst 1, 0, 0, 0, 0), 4, 1, 0, 0, 2, 0, 0) := rfl
theorem bt_291_1045 : mm_at mt_P 291 1045 = some ((1045, 1, .iadd, 0, 0, 0, 0), 4, 1, 0, 0, 2, 0, 0) := rfl
theorem bt_291_1046 : mm_at mt_P 291 1046 = some ((1046, 1, .iaload, 0, 0, 0, 0), 4, 1, 0, 0, 2, 0, 0) := rfl
theorem bt_291_1047 : mm_at mt_P 291 1047 = some ((1047, 3, .invokevirtual 119, 24, 0, 0, 1770), 4, 1, 0, 0, 2, 0, 0) := rfl
theorem bt_291_1050 : mm_at mt_P 291 1050 = some ((1050, 1, .pop, 0, 0, 0, 0), 4, 1, 0, 0, 2, 0, 0) := rfl
theorem bt_291_1051 : mm_at mt_P 291 1051 = some ((1051, 3, .goto 401, 0, 0, 0, 0), 4, 1, 0, 0, 2, 0, 0) := rfl
theorem bt_291_1054 : mm_at mt_P 291 1054 = some ((1054, 1, .aload_n 1, 0, 0, 0, 0), 4, 1, 0, 0, 2, 0, 0) := rfl
theorem bt_291_1055 : mm_at mt_P 291 1055 = some ((1055, 1, .aload_n 0, 0, 0, 0, 0), 4, 1, 0, 0, 2, 0, 0) := rfl
theorem bt_291_1056 : mm_at mt_P 291 1056 = some ((1056, 1, .iload_n 3, 0, 0, 0, 0), 4, 1, 0, 0, 2, 0, 0) := rfl
theorem bt_291_1057 : mm_at mt_P 291 1057 = some ((1057, 1, .iconst 1, 0, 0, 0, 0), 4, 1, 0, 0, 2, 0, 0) := rfl
theorem bt_291_1058 : mm_at mt_P 291 1058 = some ((1058, 1, .iadd, 0, 0, 0, 0), 4, 1, 0, 0, 2, 0, 0) := rfl
theorem bt_291_1059 : mm_at mt_P 291 1059 = some ((1059, 1, .iaload, 0, 0, 0, 0), 4, 1, 0, 0, 2, 0, 0) := rfl
theorem bt_291_1060 : mm_at mt_P 291 1060 = some ((1060, 1, .aload_n 0, 0, 0, 0, 0), 4, 1, 0, 0, 2, 0, 0) := rfl
theorem bt_291_1061 : mm_at mt_P 291 1061 = some ((1061, 1, .iload_n 3, 0, 0, 0, 0), 4, 1, 0, 0, 2, 0, 0) := rfl
theorem bt_291_1062 : mm_at mt_P 291 1062 = some ((1062, 1, .iconst 2, 0, 0, 0, 0), 4, 1, 0, 0, 2, 0, 0) := rfl
theorem bt_291_1063 : mm_at mt_P 291 1063 = some ((1063, 1, .iadd, 0, 0, 0, 0), 4, 1, 0, 0, 2, 0, 0) := rfl
theorem bt_291_1064 : mm_at mt_P 291 1064 = some ((1064, 1, .iaload, 0, 0, 0, 0), 4, 1, 0, 0, 2, 0, 0) := rfl
theorem bt_291_1065 : mm_at mt_P 291 1065 = some ((1065, 3, .invokevirtual 120, 263, 0, 0, 1062), 4, 1, 0, 0, 2, 0, 0) := rfl
theorem bt_291_1068 : mm_at mt_P 291 1068 = some ((1068, 1, .pop, 0, 0, 0, 0), 4, 1, 0, 0, 2, 0, 0) := rfl
theorem bt_291_1069 : mm_at mt_P 291 1069 = some ((1069, 1, .aload_n 2, 0, 0, 0, 0), 4, 1, 0, 0, 2, 0, 0) := rfl
theorem bt_291_1070 : mm_at mt_P 291 1070 = some ((1070, 1, .aload_n 0, 0, 0, 0, 0), 4, 1, 0, 0, 2, 0, 0) := rfl
theorem bt_291_1071 : mm_at mt_P 291 1071 = some ((1071, 1, .iload_n 3, 0, 0, 0, 0), 4, 1, 0, 0, 2, 0, 0) := rfl
theorem bt_291_1072 : mm_at mt_P 291 1072 = some ((1072, 1, .iconst 1, 0, 0, 0, 0), 4, 1, 0, 0, 2, 0, 0) := rfl
theorem bt_291_1073 : mm_at mt_P 291 1073 = some ((1073, 1, .iadd, 0, 0, 0, 0), 4, 1, 0, 0, 2, 0, 0) := rfl
theorem bt_291_1074 : mm_at mt_P 291 1074 = some ((1074, 1, .iaload, 0, 0, 0, 0), 4, 1, 0, 0, 2, 0, 0) := rfl
theorem bt_291_1075 : mm_at mt_P 291 1075 = some ((1075, 1, .aload_n 0, 0, 0, 0, 0), 4, 1, 0, 0, 2, 0, 0) := rfl
theorem bt_291_1076 : mm_at mt_P 291 1076 = some ((1076, 1, .iload_n 3, 0, 0, 0, 0), 4, 1, 0, 0, 2, 0, 0) := rfl
theorem bt_291_1077 : mm_at mt_P 291 1077 = some ((1077, 1, .iconst 2, 0, 0, 0, 0), 4, 1, 0, 0, 2, 0, 0) := rfl
theorem bt_291_1078 : mm_at mt_P 291 1078 = some ((1078, 1, .iadd, 0, 0, 0, 0), 4, 1, 0, 0, 2, 0, 0) := rfl
theorem bt_291_1079 : mm_at mt_P 291 1079 = some ((1079, 1, .iaload, 0, 0, 0, 0), 4, 1, 0, 0, 2, 0, 0) := rfl
theorem bt_291_1080 : mm_at mt_P 291 1080 = some ((1080, 3, .invokevirtual 123, 94, 0, 0, 1778), 4, 1, 0, 0, 2, 0, 0) := rfl
theorem bt_291_1083 : mm_at mt_P 291 1083 = some ((1083, 1, .pop, 0, 0, 0, 0), 4, 1, 0, 0, 2, 0, 0) := rfl
theorem bt_291_1084 : mm_at mt_P 291 1084 = some ((1084, 3, .goto 368, 0, 0, 0, 0), 4, 1, 0, 0, 2, 0, 0) := rfl
theorem bt_291_1087 : mm_at mt_P 291 1087 = some ((1087, 1, .aload_n 1, 0, 0, 0, 0), 4, 1, 0, 0, 2, 0, 0) := rfl
theorem bt_291_1088 : mm_at mt_P 291 1088 = some ((1088, 1, .aload_n 0, 0, 0, 0, 0), 4, 1, 0, 0, 2, 0, 0) := rfl
theorem bt_291_1089 : mm_at mt_P 291 1089 = some ((1089, 1, .iload_n 3, 0, 0, 0, 0), 4, 1, 0, 0, 2, 0, 0) := rfl
theorem bt_291_1090 : mm_at mt_P 291 1090 = some ((1090, 1, .iconst 1, 0, 0, 0, 0), 4, 1, 0, 0, 2, 0, 0) := rfl
theorem bt_291_1091 : mm_at mt_P 291 1091 = some ((1091, 1, .iadd, 0, 0, 0, 0), 4, 1, 0, 0, 2, 0, 0) := rfl
theorem bt_291_1092 : mm_at mt_P 291 1092 = some ((1092, 1, .iaload, 0, 0, 0, 0), 4, 1, 0, 0, 2, 0, 0) := rfl
theorem bt_291_1093 : mm_at mt_P 291 1093 = some ((1093, 1, .aload_n 0, 0, 0, 0, 0), 4, 1, 0, 0, 2, 0, 0) := rfl
theorem bt_291_1094 : mm_at mt_P 291 1094 = some ((1094, 1, .iload_n 3, 0, 0, 0, 0), 4, 1, 0, 0, 2, 0, 0) := rfl
theorem bt_291_1095 : mm_at mt_P 291 1095 = some ((1095, 1, .iconst 2, 0, 0, 0, 0), 4, 1, 0, 0, 2, 0, 0) := rfl
theorem bt_291_1096 : mm_at mt_P 291 1096 = some ((1096, 1, .iadd, 0, 0, 0, 0), 4, 1, 0, 0, 2, 0, 0) := rfl
theorem bt_291_1097 : mm_at mt_P 291 1097 = some ((1097, 1, .iaload, 0, 0, 0, 0), 4, 1, 0, 0, 2, 0, 0) := rfl
theorem bt_291_1098 : mm_at mt_P 291 1098 = some ((1098, 3, .invokevirtual 124, 261, 0, 0, 1070), 4, 1, 0, 0, 2, 0, 0) := rfl
theorem bt_291_1101 : mm_at mt_P 291 1101 = some ((1101, 1, .pop, 0, 0, 0, 0), 4, 1, 0, 0, 2, 0, 0) := rfl
theorem bt_291_1102 : mm_at mt_P 291 1102 = some ((1102, 1, .aload_n 2, 0, 0, 0, 0), 4, 1, 0, 0, 2, 0, 0) := rfl
theorem bt_291_1103 : mm_at mt_P 291 1103 = some ((1103, 1, .aload_n 0, 0, 0, 0, 0), 4, 1, 0, 0, 2, 0, 0) := rfl
theorem bt_291_1104 : mm_at mt_P 291 1104 = some ((1104, 1, .iload_n 3, 0, 0, 0, 0), 4, 1, 0, 0, 2, 0, 0) := rfl
theorem bt_291_1105 : mm_at mt_P 291 1105 = some ((1105, 1, .iconst 1, 0, 0, 0, 0), 4, 1, 0, 0, 2, 0, 0) := rfl
theorem bt_291_1106 : mm_at mt_P 291 1106 = some ((1106, 1, .iadd, 0, 0, 0, 0), 4, 1, 0, 0, 2, 0, 0) := rfl
theorem bt_291_1107 : mm_at mt_P 291 1107 = some ((1107, 1, .iaload, 0, 0, 0, 0), 4, 1, 0, 0, 2, 0, 0) := rfl
theorem bt_291_1108 : mm_at mt_P 291 1108 = some ((1108, 1, .aload_n 0, 0, 0, 0, 0), 4, 1, 0, 0, 2, 0, 0) := rfl
theorem bt_291_1109 : mm_at mt_P 291 1109 = some ((1109, 1, .iload_n 3, 0, 0, 0, 0), 4, 1, 0, 0, 2, 0, 0) := rfl
theorem bt_291_1110 : mm_at mt_P 291 1110 = some ((1110, 1, .iconst 2, 0, 0, 0, 0), 4, 1, 0, 0, 2, 0, 0) := rfl
theorem bt_291_1111 : mm_at mt_P 291 1111 = some ((1111, 1, .iadd, 0, 0, 0, 0), 4, 1, 0, 0, 2, 0, 0) := rfl
theorem bt_291_1112 : mm_at mt_P 291 1112 = some ((1112, 1, .iaload, 0, 0, 0, 0), 4, 1, 0, 0, 2, 0, 0) := rfl
theorem bt_291_1113 : mm_at mt_P 291 1113 = some ((1113, 3, .invokevirtual 127, 92, 0, 0, 1782), 4, 1, 0, 0, 2, 0, 0) := rfl
theorem bt_291_1116 : mm_at mt_P 291 1116 = some ((1116, 1, .pop, 0, 0, 0, 0), 4, 1, 0, 0, 2, 0, 0) := rfl
theorem bt_291_1117 : mm_at mt_P 291 1117 = some ((1117, 3, .goto 335, 0, 0, 0, 0), 4, 1, 0, 0, 2, 0, 0) := rfl
theorem bt_291_1120 : mm_at mt_P 291 1120 = some ((1120, 1, .aload_n 1, 0, 0, 0, 0), 4, 1, 0, 0, 2, 0, 0) := rfl
theorem bt_291_1121 : mm_at mt_P 291 1121 = some ((1121, 3, .invokevirtual 128, 224, 0, 0, 1078), 4, 1, 0, 0, 2, 0, 0) := rfl
theorem bt_291_1124 : mm_at mt_P 291 1124 = some ((1124, 1, .pop, 0, 0, 0, 0), 4, 1, 0, 0, 2, 0, 0) := rfl
theorem bt_291_1125 : mm_at mt_P 291 1125 = some ((1125, 1, .aload_n 2, 0, 0, 0, 0), 4, 1, 0, 0, 2, 0, 0) := rfl
theorem bt_291_1126 : mm_at mt_P 291 1126 = some ((1126, 3, .invokevirtual 131, 11, 0, 0, 1790), 4, 1, 0, 0, 2, 0, 0) := rfl
theorem bt_291_1129 : mm_at mt_P 291 1129 = some ((1129, 1, .pop, 0, 0, 0, 0), 4, 1, 0, 0, 2, 0, 0) := rfl
theorem bt_291_1130 : mm_at mt_P 291 1130 = some ((1130, 3, .goto 322, 0, 0, 0, 0), 4, 1, 0, 0, 2, 0, 0) := rfl
theorem bt_291_1133 : mm_at mt_P 291 1133 = some ((1133, 1, .aload_n 1, 0, 0, 0, 0), 4, 1, 0, 0, 2, 0, 0) := rfl
theorem bt_291_1134 : mm_at mt_P 291 1134 = some ((1134, 1, .aload_n 0, 0, 0, 0, 0), 4, 1, 0, 0, 2, 0, 0) := rfl
theorem bt_291_1135 : mm_at mt_P 291 1135 = some ((1135, 1, .iload_n 3, 0, 0, 0, 0), 4, 1, 0, 0, 2, 0, 0) := rfl
theorem bt_291_1136 : mm_at mt_P 291 1136 = some ((1136, 1, .iconst 1, 0, 0, 0, 0), 4, 1, 0, 0, 2, 0, 0) := rfl
theorem bt_291_1137 : mm_at mt_P 291 1137 = some ((1137, 1, .iadd, 0, 0, 0, 0), 4, 1, 0, 0, 2, 0, 0) := rfl
theorem bt_291_1138 : mm_at mt_P 291 1138 = some ((1138, 1, .iaload, 0, 0, 0, 0), 4, 1, 0, 0, 2, 0, 0) := rfl
theorem bt_291_1139 : mm_at mt_P 291 1139 = some ((1139, 1, .aload_n 0, 0, 0, 0, 0), 4, 1, 0, 0, 2, 0, 0) := rfl
theorem bt_291_1140 : mm_at mt_P 291 1140 = some ((1140, 1, .iload_n 3, 0, 0, 0, 0), 4, 1, 0, 0, 2, 0, 0) := rfl
theorem bt_291_1141 : mm_at mt_P 291 1141 = some ((1141, 1, .iconst 2, 0, 0, 0, 0), 4, 1, 0, 0, 2, 0, 0) := rfl
theorem bt_291_1142 : mm_at mt_P 291 1142 = some ((1142, 1, .iadd, 0, 0, 0, 0), 4, 1, 0, 0, 2, 0, 0) := rfl
theorem bt_291_1143 : mm_at mt_P 291 1143 = some ((1143, 1, .iaload, 0, 0, 0, 0), 4, 1, 0, 0, 2, 0, 0) := rfl
theorem bt_291_1144 : mm_at mt_P 291 1144 = some ((1144, 3, .invokevirtual 132, 274, 0, 0, 1082), 4, 1, 0, 0, 2, 0, 0) := rfl
theorem bt_291_1147 : mm_at mt_P 291 1147 = some ((1147, 1, .pop, 0, 0, 0, 0), 4, 1, 0, 0, 2, 0, 0) := rfl
theorem bt_291_1148 : mm_at mt_P 291 1148 = some ((1148, 1, .aload_n 2, 0, 0, 0, 0), 4, 1, 0, 0, 2, 0, 0) := rfl
theorem bt_291_1149 : mm_at mt_P 291 1149 = some ((1149, 1, .aload_n 0, 0, 0, 0, 0), 4, 1, 0, 0, 2, 0, 0) := rfl
theorem bt_291_1150 : mm_at mt_P 291 1150 = some ((1150, 1, .iload_n 3, 0, 0, 0, 0), 4, 1, 0, 0, 2, 0, 0) := rfl
theorem bt_291_1151 : mm_at mt_P 291 1151 = some ((1151, 1, .iconst 1, 0, 0, 0, 0), 4, 1, 0, 0, 2, 0, 0) := rfl
theorem bt_291_1152 : mm_at mt_P 291 1152 = some ((1152, 1, .iadd, 0, 0, 0, 0), 4, 1, 0, 0, 2, 0, 0) := rfl
theorem bt_291_1153 : mm_at mt_P 291 1153 = some ((1153, 1, .iaload, 0, 0, 0, 0), 4, 1, 0, 0, 2, 0, 0) := rfl
theorem bt_291_1154 : mm_at mt_P 291 1154 = some ((1154, 1, .aload_n 0, 0, 0, 0, 0), 4, 1, 0, 0, 2, 0, 0) := rfl
theorem bt_291_1155 : mm_at mt_P 291 1155 = some ((1155, 1, .iload_n 3, 0, 0, 0, 0), 4, 1, 0, 0, 2, 0, 0) := rfl
theorem bt_291_1156 : mm_at mt_P 291 1156 = some ((1156, 1, .iconst 2, 0, 0, 0, 0), 4, 1, 0, 0, 2, 0, 0) := rfl
theorem bt_291_1157 : mm_at mt_P 291 1157 = some ((1157, 1, .iadd, 0, 0, 0, 0), 4, 1, 0, 0, 2, 0, 0) := rfl
theorem bt_291_1158 : mm_at mt_P 291 1158 = some ((1158, 1, .iaload, 0, 0, 0, 0), 4, 1, 0, 0, 2, 0, 0) := rfl
theorem bt_291_1159 : mm_at mt_P 291 1159 = some ((1159, 3, .invokevirtual 135, 113, 0, 0, 1794), 4, 1, 0, 0, 2, 0, 0) := rfl
theorem bt_291_1162 : mm_at mt_P 291 1162 = some ((1162, 1, .pop, 0, 0, 0, 0), 4, 1, 0, 0, 2, 0, 0) := rfl
theorem bt_291_1163 : mm_at mt_P 291 1163 = some ((1163, 3, .goto 289, 0, 0, 0, 0), 4, 1, 0, 0, 2, 0, 0) := rfl
theorem bt_291_1166 : mm_at mt_P 291 1166 = some ((1166, 1, .aload_n 1, 0, 0, 0, 0), 4, 1, 0, 0, 2, 0, 0) := rfl
theorem bt_291_1167 : mm_at mt_P 291 1167 = some ((1167, 1, .aload_n 0, 0, 0, 0, 0), 4, 1, 0, 0, 2, 0, 0) := rfl
theorem bt_291_1168 : mm_at mt_P 291 1168 = some ((1168, 1, .iload_n 3, 0, 0, 0, 0), 4, 1, 0, 0, 2, 0, 0) := rfl
theorem bt_291_1169 : mm_at mt_P 291 1169 = some ((1169, 1, .iconst 1, 0, 0, 0, 0), 4, 1, 0, 0, 2, 0, 0) := rfl
theorem bt_291_1170 : mm_at mt_P 291 1170 = some ((1170, 1, .iadd, 0, 0, 0, 0), 4, 1, 0, 0, 2, 0, 0) := rfl
theorem bt_291_1171 : mm_at mt_P 291 1171 = some ((1171, 1, .iaload, 0, 0, 0, 0), 4, 1, 0, 0, 2, 0, 0) := rfl
theorem bt_291_1172 : mm_at mt_P 291 1172 = some ((1172, 1, .aload_n 0, 0, 0, 0, 0), 4, 1, 0, 0, 2, 0, 0) := rfl
theorem bt_291_1173 : mm_at mt_P 291 1173 = some ((1173, 1, .iload_n 3, 0, 0, 0, 0), 4, 1, 0, 0, 2, 0, 0) := rfl
theorem bt_291_1174 : mm_at mt_P 291 1174 = some ((1174, 1, .iconst 2, 0, 0, 0, 0), 4, 1, 0, 0, 2, 0, 0) := rfl
theorem bt_291_1175 : mm_at mt_P 291 1175 = some ((1175, 1, .iadd, 0, 0, 0, 0), 4, 1, 0, 0, 2, 0, 0) := rfl
theorem bt_291_1176 : mm_at mt_P 291 1176 = some ((1176, 1, .iaload, 0, 0, 0, 0), 4, 1, 0, 0, 2, 0, 0) := rfl
theorem bt_291_1177 : mm_at mt_P 291 1177 = some ((1177, 3, .invokevirtual 136, 272, 0, 0, 1094), 4, 1, 0, 0, 2, 0, 0) := rfl
theorem bt_291_1180 : mm_at mt_P 291 1180 = some ((1180, 1, .pop, 0, 0, 0, 0), 4, 1, 0, 0, 2, 0, 0) := rfl
theorem bt_291_1181 : mm_at mt_P 291 1181 = some ((1181, 1, .aload_n 2, 0, 0, 0, 0), 4, 1, 0, 0, 2, 0, 0) := rfl
theorem bt_291_1182 : mm_at mt_P 291 1182 = some ((1182, 1, .aload_n 0, 0, 0, 0, 0), 4, 1, 0, 0, 2, 0, 0) := rfl
theorem bt_291_1183 : mm_at mt_P 291 1183 = some ((1183, 1, .iload_n 3, 0, 0, 0, 0), 4, 1, 0, 0, 2, 0, 0) := rfl
theorem bt_291_1184 : mm_at mt_P 291 1184 = some ((1184, 1, .iconst 1, 0, 0, 0, 0), 4, 1, 0, 0, 2, 0, 0) := rfl
theorem bt_291_1185 : mm_at mt_P 291 1185 = some ((1185, 1, .iadd, 0, 0, 0, 0), 4, 1, 0, 0, 2, 0, 0) := rfl
theorem bt_291_1186 : mm_at mt_P 291 1186 = some ((1186, 1, .iaload, 0, 0, 0, 0), 4, 1, 0, 0, 2, 0, 0) := rfl
theorem bt_291_1187 : mm_at mt_P 291 1187 = some ((1187, 1, .aload_n 0, 0, 0, 0, 0), 4, 1, 0, 0, 2, 0, 0) := rfl
theorem bt_291_1188 : mm_at mt_P 291 1188 = some ((1188, 1, .iload_n 3, 0, 0, 0, 0), 4, 1, 0, 0, 2, 0, 0) := rfl
theorem bt_291_1189 : mm_at mt_P 291 1189 = some ((1189, 1, .iconst 2, 0, 0, 0, 0), 4, 1, 0, 0, 2, 0, 0) := rfl
theorem bt_291_1190 : mm_at mt_P 291 1190 = some ((1190, 1, .iadd, 0, 0, 0, 0), 4, 1, 0, 0, 2, 0, 0) := rfl
theorem bt_291_1191 : mm_at mt_P 291 1191 = some ((1191, 1, .iaload, 0, 0, 0, 0), 4, 1, 0, 0, 2, 0, 0) := rfl
theorem bt_291_1192 : mm_at mt_P 291 1192 = some ((1192, 3, .invokevirtual 139, 109, 0, 0, 1798), 4, 1, 0, 0, 2, 0, 0) := rfl
theorem bt_291_1195 : mm_at mt_P 291 1195 = some ((1195, 1, .pop, 0, 0, 0, 0), 4, 1, 0, 0, 2, 0, 0) := rfl
theorem bt_291_1196 : mm_at mt_P 291 1196 = some ((1196, 3, .goto 256, 0, 0, 0, 0), 4, 1, 0, 0, 2, 0, 0) := rfl
theorem bt_291_1199 : mm_at mt_P 291 1199 = some ((1199, 1, .aload_n 1, 0, 0, 0, 0), 4, 1, 0, 0, 2, 0, 0) := rfl
theorem bt_291_1200 : mm_at mt_P 291 1200 = some ((1200, 1, .aload_n 0, 0, 0, 0, 0), 4, 1, 0, 0, 2, 0, 0) := rfl
theorem bt_291_1201 : mm_at mt_P 291 1201 = some ((1201, 1, .iload_n 3, 0, 0, 0, 0), 4, 1, 0, 0, 2, 0, 0) := rfl
theorem bt_291_1202 : mm_at mt_P 291 1202 = some ((1202, 1, .iconst 1, 0, 0, 0, 0), 4, 1, 0, 0, 2, 0, 0) := rfl
theorem bt_291_1203 : mm_at mt_P 291 1203 = some ((1203, 1, .iadd, 0, 0, 0, 0), 4, 1, 0, 0, 2, 0, 0) := rfl
theorem bt_291_1204 : mm_at mt_P 291 1204 = some ((1204, 1, .iaload, 0, 0, 0, 0), 4, 1, 0, 0, 2, 0, 0) := rfl
theorem bt_291_1205 : mm_at mt_P 291 1205 = some ((1205, 3, .invokevirtual 140, 266, 0, 0, 1098), 4, 1, 0, 0, 2, 0, 0) := rfl
theorem bt_291_1208 : mm_at mt_P 291 1208 = some ((1208, 1, .pop, 0, 0, 0, 0), 4, 1, 0, 0, 2, 0, 0) := rfl
theorem bt_291_1209 : mm_at mt_P 291 1209 = some ((1209, 1, .aload_n 2, 0, 0, 0, 0), 4, 1, 0, 0, 2, 0, 0) := rfl
theorem bt_291_1210 : mm_at mt_P 291 1210 = some ((1210, 1, .aload_n 0, 0, 0, 0, 0), 4, 1, 0, 0, 2, 0, 0) := rfl
theorem bt_291_1211 : mm_at mt_P 291 1211 = some ((1211, 1, .iload_n 3, 0, 0, 0, 0), 4, 1, 0, 0, 2, 0, 0) := rfl
theorem bt_291_1212 : mm_at mt_P 291 1212 = some ((1212, 1, .iconst 1, 0, 0, 0, 0), 4, 1, 0, 0, 2, 0, 0) := rfl
theorem bt_291_1213 : mm_at mt_P 291 1213 = some ((1213, 1, .iadd, 0, 0, 0, 0), 4, 1, 0, 0, 2, 0, 0) := rfl
theorem bt_291_1214 : mm_at mt_P 291 1214 = some ((1214, 1, .iaload, 0, 0, 0, 0), 4, 1, 0, 0, 2, 0, 0) := rfl
theorem bt_291_1215 : mm_at mt_P 291 1215 = some ((1215, 3, .invokevirtual 143, 96, 0, 0, 1802), 4, 1, 0, 0, 2, 0, 0) := rfl
theorem bt_291_1218 : mm_at mt_P 291 1218 = some ((1218, 1, .pop, 0, 0, 0, 0), 4, 1, 0, 0, 2, 0, 0) := rfl
theorem bt_291_1219 : mm_at mt_P 291 1219 = some ((1219, 3, .goto 233, 0, 0, 0, 0), 4, 1, 0, 0, 2, 0, 0) := rfl
theorem bt_291_1222 : mm_at mt_P 291 1222 = some ((1222, 1, .aload_n 1, 0, 0, 0, 0), 4, 1, 0, 0, 2, 0, 0) := rfl
theorem bt_291_1223 : mm_at mt_P 291 1223 = some ((1223, 1, .aload_n 0, 0, 0, 0, 0), 4, 1, 0, 0, 2, 0, 0) := rfl
theorem bt_291_1224 : mm_at mt_P 291 1224 = some ((1224, 1, .iload_n 3, 0, 0, 0, 0), 4, 1, 0, 0, 2, 0, 0) := rfl
theorem bt_291_1225 : mm_at mt_P 291 1225 = some ((1225, 1, .iconst 1, 0, 0, 0, 0), 4, 1, 0, 0, 2, 0, 0) := rfl
theorem bt_291_1226 : mm_at mt_P 291 1226 = some ((1226, 1, .iadd, 0, 0, 0, 0), 4, 1, 0, 0, 2, 0, 0) := rfl
theorem bt_291_1227 : mm_at mt_P 291 1227 = some ((1227, 1, .iaload, 0, 0, 0, 0), 4, 1, 0, 0, 2, 0, 0) := rfl
theorem bt_291_1228 : mm_at mt_P 291 1228 = some ((1228, 1, .aload_n 0, 0, 0, 0, 0), 4, 1, 0, 0, 2, 0, 0) := rfl
theorem bt_291_1229 : mm_at mt_P 291 1229 = some ((1229, 1, .iload_n 3, 0, 0, 0, 0), 4, 1, 0, 0, 2, 0, 0) := rfl
theorem bt_291_1230 : mm_at mt_P 291 1230 = some ((1230, 1, .iconst 2, 0, 0, 0, 0), 4, 1, 0, 0, 2, 0, 0) := rfl
theorem bt_291_1231 : mm_at mt_P 291 1231 = some ((1231, 1, .iadd, 0, 0, 0, 0), 4, 1, 0, 0, 2, 0, 0) := rfl
theorem bt_291_1232 : mm_at mt_P 291 1232 = some ((1232, 1, .iaload, 0, 0, 0, 0), 4, 1, 0, 0, 2, 0, 0) := rfl
theorem bt_291_1233 : mm_at mt_P 291 1233 = some ((1233, 1, .aload_n 0, 0, 0, 0, 0), 4, 1, 0, 0, 2, 0, 0) := rfl
theorem bt_291_1234 : mm_at mt_P 291 1234 = some ((1234, 1, .iload_n 3, 0, 0, 0, 0), 4, 1, 0, 0, 2, 0, 0) := rfl
theorem bt_291_1235 : mm_at mt_P 291 1235 = some ((1235, 1, .iconst 3, 0, 0, 0, 0), 4, 1, 0, 0, 2, 0, 0) := rfl
theorem bt_291_1236 : mm_at mt_P 291 1236 = some ((1236, 1, .iadd, 0, 0, 0, 0), 4, 1, 0, 0, 2, 0, 0) := rfl
theorem bt_291_1237 : mm_at mt_P 291 1237 = some ((1237, 1, .iaload, 0, 0, 0, 0), 4, 1, 0, 0, 2, 0, 0) := rfl
theorem bt_291_1238 : mm_at mt_P 291 1238 = some ((1238, 3, .ifCond .eq 7, 0, 0, 0, 0), 4, 1, 0, 0, 2, 0, 0) := rfl
theorem bt_291_1241 : mm_at mt_P 291 1241 = some ((1241, 1, .iconst 1, 0, 0, 0, 0), 4, 1, 0, 0, 2, 0, 0) := rfl
theorem bt_291_1242 : mm_at mt_P 291 1242 = some ((1242, 3, .goto 4, 0, 0, 0, 0), 4, 1, 0, 0, 2, 0, 0) := rfl
theorem bt_291_1245 : mm_at mt_P 291 1245 = some ((1245, 1, .iconst 0, 0, 0, 0, 0), 4, 1, 0, 0, 2, 0, 0) := rfl
theorem bt_291_1246 : mm_at mt_P 291 1246 = some ((1246, 3, .invokevirtual 144, 225, 0, 0, 1106), 4, 1, 0, 0, 2, 0, 0) := rfl
theorem bt_291_1249 : mm_at mt_P 291 1249 = some ((1249, 1, .pop, 0, 0, 0, 0), 4, 1, 0, 0, 2, 0, 0) := rfl
theorem bt_291_1250 : mm_at mt_P 291 1250 = some ((1250, 1, .aload_n 2, 0, 0, 0, 0), 4, 1, 0, 0, 2, 0, 0) := rfl
theorem bt_291_1251 : mm_at mt_P 291 1251 = some ((1251, 1, .aload_n 0, 0, 0, 0, 0), 4, 1, 0, 0, 2, 0, 0) := rfl
theorem bt_291_1252 : mm_at mt_P 291 1252 = some ((1252, 1, .iload_n 3, 0, 0, 0, 0), 4, 1, 0, 0, 2, 0, 0) := rfl
theorem bt_291_1253 : mm_at mt_P 291 1253 = some ((1253, 1, .iconst 1, 0, 0, 0, 0), 4, 1, 0, 0, 2, 0, 0) := rfl
theorem bt_291_1254 : mm_at mt_P 291 1254 = some ((1254, 1, .iadd, 0, 0, 0, 0), 4, 1, 0, 0, 2, 0, 0) := rfl
theorem bt_291_1255 : mm_at mt_P 291 1255 = some ((1255, 1, .iaload, 0, 0, 0, 0), 4, 1, 0, 0, 2, 0, 0) := rfl
theorem bt_291_1256 : mm_at mt_P 291 1256 = some ((1256, 1, .aload_n 0, 0, 0, 0, 0), 4, 1, 0, 0, 2, 0, 0) := rfl
theorem bt_291_1257 : mm_at mt_P 291 1257 = some ((1257, 1, .iload_n 3, 0, 0, 0, 0), 4, 1, 0, 0, 2, 0, 0) := rfl
theorem bt_291_1258 : mm_at mt_P 291 1258 = some ((1258, 1, .iconst 2, 0, 0, 0, 0), 4, 1, 0, 0, 2, 0, 0) := rfl
theorem bt_291_1259 : mm_at mt_P 291 1259 = some ((1259, 1, .iadd, 0, 0, 0, 0), 4, 1, 0, 0, 2, 0, 0) := rfl
theorem bt_291_1260 : mm_at mt_P 291 1260 = some ((1260, 1, .iaload, 0, 0, 0, 0), 4, 1, 0, 0, 2, 0, 0) := rfl
theorem bt_291_1261 : mm_at mt_P 291 1261 = some ((1261, 1, .aload_n 0, 0, 0, 0, 0), 4, 1, 0, 0, 2, 0, 0) := rfl
theorem bt_291_1262 : mm_at mt_P 291 1262 = some ((1262, 1, .iload_n 3, 0, 0, 0, 0), 4, 1, 0, 0, 2, 0, 0) := rfl
theorem bt_291_1263 : mm_at mt_P 291 1263 = some ((1263, 1, .iconst 3, 0, 0, 0, 0), 4, 1, 0, 0, 2, 0, 0) := rfl
theorem bt_291_1264 : mm_at mt_P 291 1264 = some ((1264, 1, .iadd, 0, 0, 0, 0), 4, 1, 0, 0, 2, 0, 0) := rfl
theorem bt_291_1265 : mm_at mt_P 291 1265 = some ((1265, 1, .iaload, 0, 0, 0, 0), 4, 1, 0, 0, 2, 0, 0) := rfl
theorem bt_291_1266 : mm_at mt_P 291 1266 = some ((1266, 3, .ifCond .eq 7, 0, 0, 0, 0), 4, 1, 0, 0, 2, 0, 0) := rfl
theorem bt_291_1269 : mm_at mt_P 291 1269 = some ((1269, 1, .iconst 1, 0, 0, 0, 0), 4, 1, 0, 0, 2, 0, 0) := rfl
theorem bt_291_1270 : mm_at mt_P 291 1270 = some ((1270, 3, .goto 4, 0, 0, 0, 0), 4, 1, 0, 0, 2, 0, 0) := rfl
theorem bt_291_1273 : mm_at mt_P 291 1273 = some ((1273, 1, .iconst 0, 0, 0, 0, 0), 4, 1, 0, 0, 2, 0, 0) := rfl
theorem bt_291_1274 : mm_at mt_P 291 1274 = some ((1274, 3, .invokevirtual 147, 14, 0, 0, 1806), 4, 1, 0, 0, 2, 0, 0) := rfl
theorem bt_291_1277 : mm_at mt_P 291 1277 = some ((1277, 1, .pop, 0, 0, 0, 0), 4, 1, 0, 0, 2, 0, 0) := rfl
theorem bt_291_1278 : mm_at mt_P 291 1278 = some ((1278, 3, .goto 174, 0, 0, 0, 0), 4, 1, 0, 0, 2, 0, 0) := rfl
theorem bt_291_1281 : mm_at mt_P 291 1281 = some ((1281, 1, .aload_n 1, 0, 0, 0, 0), 4, 1, 0, 0, 2, 0, 0) := rfl
theorem bt_291_1282 : mm_at mt_P 291 1282 = some ((1282, 1, .aload_n 0, 0, 0, 0, 0), 4, 1, 0, 0, 2, 0, 0) := rfl
theorem bt_291_1283 : mm_at mt_P 291 1283 = some ((1283, 1, .iload_n 3, 0, 0, 0, 0), 4, 1, 0, 0, 2, 0, 0) := rfl
theorem bt_291_1284 : mm_at mt_P 291 1284 = some ((1284, 1, .iconst 1, 0, 0, 0, 0), 4, 1, 0, 0, 2, 0, 0) := rfl
theorem bt_291_1285 : mm_at mt_P 291 1285 = some ((1285, 1, .iadd, 0, 0, 0, 0), 4, 1, 0, 0, 2, 0, 0) := rfl
theorem bt_291_1286 : mm_at mt_P 291 1286 = some ((1286, 1, .iaload, 0, 0, 0, 0), 4, 1, 0, 0, 2, 0, 0) := rfl
theorem bt_291_1287 : mm_at mt_P 291 1287 = some ((1287, 3, .invokevirtual 148, 264, 0, 0, 1117), 4, 1, 0, 0, 2, 0, 0) := rfl
theorem bt_291_1290 : mm_at mt_P 291 1290 = some ((1290, 1, .pop, 0, 0, 0, 0), 4, 1, 0, 0, 2, 0, 0) := rfl
theorem bt_291_1291 : mm_at mt_P 291 1291 = some ((1291, 1, .aload_n 2, 0, 0, 0, 0), 4, 1, 0, 0, 2, 0, 0) := rfl
theorem bt_291_1292 : mm_at mt_P 291 1292 = some ((1292, 1, .aload_n 0, 0, 0, 0, 0), 4, 1, 0, 0, 2, 0, 0) := rfl
theorem bt_291_1293 : mm_at mt_P 291 1293 = some ((1293, 1, .iload_n 3, 0, 0, 0, 0), 4, 1, 0, 0, 2, 0, 0) := rfl
theorem bt_291_1294 : mm_at mt_P 291 1294 = some ((1294, 1, .iconst 1, 0, 0, 0, 0), 4, 1, 0, 0, 2, 0, 0) := rfl
theorem bt_291_1295 : mm_at mt_P 291 1295 = some ((1295, 1, .iadd, 0, 0, 0, 0), 4, 1, 0, 0, 2, 0, 0) := rfl
theorem bt_291_1296 : mm_at mt_P 291 1296 = some ((1296, 1, .iaload, 0, 0, 0, 0), 4, 1, 0, 0, 2, 0, 0) := rfl
theorem bt_291_1297 : mm_at mt_P 291 1297 = some ((1297, 3, .invokevirtual 151, 95, 0, 0, 1813), 4, 1, 0, 0, 2, 0, 0) := rfl
theorem bt_291_1300 : mm_at mt_P 291 1300 = some ((1300, 1, .pop, 0, 0, 0, 0), 4, 1, 0, 0, 2, 0, 0) := rfl
theorem bt_291_1301 : mm_at mt_P 291 1301 = some ((1301, 3, .goto 151, 0, 0, 0, 0), 4, 1, 0, 0, 2, 0, 0) := rfl
theorem bt_291_1304 : mm_at mt_P 291 1304 = some ((1304, 1, .aload_n 1, 0, 0, 0, 0), 4, 1, 0, 0, 2, 0, 0) := rfl
theorem bt_291_1305 : mm_at mt_P 291 1305 = some ((1305, 1, .aload_n 0, 0, 0, 0, 0), 4, 1, 0, 0, 2, 0, 0) := rfl
theorem bt_291_1306 : mm_at mt_P 291 1306 = some ((1306, 1, .iload_n 3, 0, 0, 0, 0), 4, 1, 0, 0, 2, 0, 0) := rfl
theorem bt_291_1307 : mm_at mt_P 291 1307 = some ((1307, 1, .iconst 1, 0, 0, 0, 0), 4, 1, 0, 0, 2, 0, 0) := rfl
theorem bt_291_1308 : mm_at mt_P 291 1308 = some ((1308, 1, .iadd, 0, 0, 0, 0), 4, 1, 0, 0, 2, 0, 0) := rfl
theorem bt_291_1309 : mm_at mt_P 291 1309 = some ((1309, 1, .iaload, 0, 0, 0, 0), 4, 1, 0, 0, 2, 0, 0) := rfl
theorem bt_291_1310 : mm_at mt_P 291 1310 = some ((1310, 1, .aload_n 0, 0, 0, 0, 0), 4, 1, 0, 0, 2, 0, 0) := rfl
theorem bt_291_1311 : mm_at mt_P 291 1311 = some ((1311, 1, .iload_n 3, 0, 0, 0, 0), 4, 1, 0, 0, 2, 0, 0) := rfl
theorem bt_291_1312 : mm_at mt_P 291 1312 = some ((1312, 1, .iconst 2, 0, 0, 0, 0), 4, 1, 0, 0, 2, 0, 0) := rfl
theorem bt_291_1313 : mm_at mt_P 291 1313 = some ((1313, 1, .iadd, 0, 0, 0, 0), 4, 1, 0, 0, 2, 0, 0) := rfl
theorem bt_291_1314 : mm_at mt_P 291 1314 = some ((1314, 1, .iaload, 0, 0, 0, 0), 4, 1, 0, 0, 2, 0, 0) := rfl
theorem bt_291_1315 : mm_at mt_P 291 1315 = some ((1315, 3, .invokevirtual 152, 243, 0, 0, 1122), 4, 1, 0, 0, 2, 0, 0) := rfl
theorem bt_291_1318 : mm_at mt_P 291 1318 = some ((1318, 1, .pop, 0, 0, 0, 0), 4, 1, 0, 0, 2, 0, 0) := rfl
theorem bt_291_1319 : mm_at mt_P 291 1319 = some ((1319, 1, .aload_n 2, 0, 0, 0, 0), 4, 1, 0, 0, 2, 0, 0) := rfl
theorem bt_291_1320 : mm_at mt_P 291 1320 = some ((1320, 1, .aload_n 0, 0, 0, 0, 0), 4, 1, 0, 0, 2, 0, 0) := rfl
theorem bt_291_1321 : mm_at mt_P 291 1321 = some ((1321, 1, .iload_n 3, 0, 0, 0, 0), 4, 1, 0, 0, 2, 0, 0) := rfl
theorem bt_291_1322 : mm_at mt_P 291 1322 = some ((1322, 1, .iconst 1, 0, 0, 0, 0), 4, 1, 0, 0, 2, 0, 0) := rfl
theorem bt_291_1323 : mm_at mt_P 291 1323 = some ((1323, 1, .iadd, 0, 0, 0, 0), 4, 1, 0, 0, 2, 0, 0) := rfl
theorem bt_291_1324 : mm_at mt_P 291 1324 = some ((1324, 1, .iaload, 0, 0, 0, 0), 4, 1, 0, 0, 2, 0, 0) := rfl
theorem bt_291_1325 : mm_at mt_P 291 1325 = some ((1325, 1, .aload_n 0, 0, 0, 0, 0), 4, 1, 0, 0, 2, 0, 0) := rfl
theorem bt_291_1326 : mm_at mt_P 291 1326 = some ((1326, 1, .iload_n 3, 0, 0, 0, 0), 4, 1, 0, 0, 2, 0, 0) := rfl
theorem bt_291_1327 : mm_at mt_P 291 1327 = some ((1327, 1, .iconst 2, 0, 0, 0, 0), 4, 1, 0, 0, 2, 0, 0) := rfl
theorem bt_291_1328 : mm_at mt_P 291 1328 = some ((1328, 1, .iadd, 0, 0, 0, 0), 4, 1, 0, 0, 2, 0, 0) := rfl
theorem bt_291_1329 : mm_at mt_P 291 1329 = some ((1329, 1, .iaload, 0, 0, 0, 0), 4, 1, 0, 0, 2, 0, 0) := rfl
theorem bt_291_1330 : mm_at mt_P 291 1330 = some ((1330, 3, .invokevirtual 155, 60, 0, 0, 1818), 4, 1, 0, 0, 2, 0, 0) := rfl
theorem bt_291_1333 : mm_at mt_P 291 1333 = some ((1333, 1, .pop, 0, 0, 0, 0), 4, 1, 0, 0, 2, 0, 0) := rfl
theorem bt_291_1334 : mm_at mt_P 291 1334 = some ((1334, 3, .goto 118, 0, 0, 0, 0), 4, 1, 0, 0, 2, 0, 0) := rfl
theorem bt_291_1337 : mm_at mt_P 291 1337 = some ((1337, 1, .aload_n 1, 0, 0, 0, 0), 4, 1, 0, 0, 2, 0, 0) := rfl
theorem bt_291_1338 : mm_at mt_P 291 1338 = some ((1338, 1, .aload_n 0, 0, 0, 0, 0), 4, 1, 0, 0, 2, 0, 0) := rfl
theorem bt_291_1339 : mm_at mt_P 291 1339 = some ((1339, 1, .iload_n 3, 0, 0, 0, 0), 4, 1, 0, 0, 2, 0, 0) := rfl
theorem bt_291_1340 : mm_at mt_P 291 1340 = some ((1340, 1, .iconst 1, 0, 0, 0, 0), 4, 1, 0, 0, 2, 0, 0) := rfl
theorem bt_291_1341 : mm_at mt_P 291 1341 = some ((1341, 1, .iadd, 0, 0, 0, 0), 4, 1, 0, 0, 2, 0, 0) := rfl
theorem bt_291_1342 : mm_at mt_P 291 1342 = some ((1342, 1, .iaload, 0, 0, 0, 0), 4, 1, 0, 0, 2, 0, 0) := rfl
theorem bt_291_1343 : mm_at mt_P 291 1343 = some ((1343, 1, .aload_n 0, 0, 0, 0, 0), 4, 1, 0, 0, 2, 0, 0) := rfl
theorem bt_291_1344 : mm_at mt_P 291 1344 = some ((1344, 1, .iload_n 3, 0, 0, 0, 0), 4, 1, 0, 0, 2, 0, 0) := rfl
theorem bt_291_1345 : mm_at mt_P 291 1345 = some ((1345, 1, .iconst 2, 0, 0, 0, 0), 4, 1, 0, 0, 2, 0, 0) := rfl
theorem bt_291_1346 : mm_at mt_P 291 1346 = some ((1346, 1, .iadd, 0, 0, 0, 0), 4, 1, 0, 0, 2, 0, 0) := rfl
theorem bt_291_1347 : mm_at mt_P 291 1347 = some ((1347, 1, .iaload, 0, 0, 0, 0), 4, 1, 0, 0, 2, 0, 0) := rfl
theorem bt_291_1348 : mm_at mt_P 291 1348 = some ((1348, 3, .invokevirtual 156, 222, 0, 0, 1130), 4, 1, 0, 0, 2, 0, 0) := rfl
theorem bt_291_1351 : mm_at mt_P 291 1351 = some ((1351, 1, .pop, 0, 0, 0, 0), 4, 1, 0, 0, 2, 0, 0) := rfl
theorem bt_291_1352 : mm_at mt_P 291 1352 = some ((1352, 1, .aload_n 2, 0, 0, 0, 0), 4, 1, 0, 0, 2, 0, 0) := rfl
theorem bt_291_1353 : mm_at mt_P 291 1353 = some ((1353, 1, .aload_n 0, 0, 0, 0, 0), 4, 1, 0, 0, 2, 0, 0) := rfl
theorem bt_291_1354 : mm_at mt_P 291 1354 = some ((1354, 1, .iload_n 3, 0, 0, 0, 0), 4, 1, 0, 0, 2, 0, 0) := rfl
theorem bt_291_1355 : mm_at mt_P 291 1355 = some ((1355, 1, .iconst 1, 0, 0, 0, 0), 4, 1, 0, 0, 2, 0, 0) := rfl
theorem bt_291_1356 : mm_at mt_P 291 1356 = some ((1356, 1, .iadd, 0, 0, 0, 0), 4, 1, 0, 0, 2, 0, 0) := rfl
theorem bt_291_1357 : mm_at mt_P 291 1357 = some ((1357, 1, .iaload, 0, 0, 0, 0), 4, 1, 0, 0, 2, 0, 0) := rfl
theorem bt_291_1358 : mm_at mt_P 291 1358 = some ((1358, 1, .aload_n 0, 0, 0, 0, 0), 4, 1, 0, 0, 2, 0, 0) := rfl
theorem bt_291_1359 : mm_at mt_P 291 1359 = some ((1359, 1, .iload_n 3, 0, 0, 0, 0), 4, 1, 0, 0, 2, 0, 0) := rfl
theorem bt_291_1360 : mm_at mt_P 291 1360 = some ((1360, 1, .iconst 2, 0, 0, 0, 0), 4, 1, 0, 0, 2, 0, 0) := rfl
theorem bt_291_1361 : mm_at mt_P 291 1361 = some ((1361, 1, .iadd, 0, 0, 0, 0), 4, 1, 0, 0, 2, 0, 0) := rfl
theorem bt_291_1362 : mm_at mt_P 291 1362 = some ((1362, 1, .iaload, 0, 0, 0, 0), 4, 1, 0, 0, 2, 0, 0) := rfl
theorem bt_291_1363 : mm_at mt_P 291 1363 = some ((1363, 3, .invokevirtual 159, 6, 0, 0, 1822), 4, 1, 0, 0, 2, 0, 0) := rfl
theorem bt_291_1366 : mm_at mt_P 291 1366 = some ((1366, 1, .pop, 0, 0, 0, 0), 4, 1, 0, 0, 2, 0, 0) := rfl
theorem bt_291_1367 : mm_at mt_P 291 1367 = some ((1367, 3, .goto 85, 0, 0, 0, 0), 4, 1, 0, 0, 2, 0, 0) := rfl
theorem bt_291_1370 : mm_at mt_P 291 1370 = some ((1370, 1, .aload_n 1, 0, 0, 0, 0), 4, 1, 0, 0, 2, 0, 0) := rfl
theorem bt_291_1371 : mm_at mt_P 291 1371 = some ((1371, 3, .invokevirtual 160, 232, 0, 0, 1148), 4, 1, 0, 0, 2, 0, 0) := rfl
theorem bt_291_1374 : mm_at mt_P 291 1374 = some ((1374, 1, .pop, 0, 0, 0, 0), 4, 1, 0, 0, 2, 0, 0) := rfl
theorem bt_291_1375 : mm_at mt_P 291 1375 = some ((1375, 1, .aload_n 2, 0, 0, 0, 0), 4, 1, 0, 0, 2, 0, 0) := rfl
theorem bt_291_1376 : mm_at mt_P 291 1376 = some ((1376, 3, .invokevirtual 163, 35, 0, 0, 1830), 4, 1, 0, 0, 2, 0, 0) := rfl
theorem bt_291_1379 : mm_at mt_P 291 1379 = some ((1379, 1, .pop, 0, 0, 0, 0), 4, 1, 0, 0, 2, 0, 0) := rfl
theorem bt_291_1380 : mm_at mt_P 291 1380 = some ((1380, 3, .goto 72, 0, 0, 0, 0), 4, 1, 0, 0, 2, 0, 0) := rfl
theorem bt_291_1383 : mm_at mt_P 291 1383 = some ((1383, 1, .aload_n 1, 0, 0, 0, 0), 4, 1, 0, 0, 2, 0, 0) := rfl
theorem bt_291_1384 : mm_at mt_P 291 1384 = some ((1384, 1, .aload_n 0, 0, 0, 0, 0), 4, 1, 0, 0, 2, 0, 0) := rfl
theorem bt_291_1385 : mm_at mt_P 291 1385 = some ((1385, 1, .iload_n 3, 0, 0, 0, 0), 4, 1, 0, 0, 2, 0, 0) := rfl
theorem bt_291_1386 : mm_at mt_P 291 1386 = some ((1386, 1, .iconst 1, 0, 0, 0, 0), 4, 1, 0, 0, 2, 0, 0) := rfl
theorem bt_291_1387 : mm_at mt_P 291 1387 = some ((1387, 1, .iadd, 0, 0, 0, 0), 4, 1, 0, 0, 2, 0, 0) := rfl
theorem bt_291_1388 : mm_at mt_P 291 1388 = some ((1388, 1, .iaload, 0, 0, 0, 0), 4, 1, 0, 0, 2, 0, 0) := rfl
theorem bt_291_1389 : mm_at mt_P 291 1389 = some ((1389, 3, .invokevirtual 164, 236, 0, 0, 1156), 4, 1, 0, 0, 2, 0, 0) := rfl
theorem bt_291_1392 : mm_at mt_P 291 1392 = some ((1392, 1, .pop, 0, 0, 0, 0), 4, 1, 0, 0, 2, 0, 0) := rfl
theorem bt_291_1393 : mm_at mt_P 291 1393 = some ((1393, 1, .aload_n 2, 0, 0, 0, 0), 4, 1, 0, 0, 2, 0, 0) := rfl
theorem bt_291_1394 : mm_at mt_P 291 1394 = some ((1394, 1, .aload_n 0, 0, 0, 0, 0), 4, 1, 0, 0, 2, 0, 0) := rfl
theorem bt_291_1395 : mm_at mt_P 291 1395 = some ((1395, 1, .iload_n 3, 0, 0, 0, 0), 4, 1, 0, 0, 2, 0, 0) := rfl
theorem bt_291_1396 : mm_at mt_P 291 1396 = some ((1396, 1, .iconst 1, 0, 0, 0, 0), 4, 1, 0, 0, 2, 0, 0) := rfl
theorem bt_291_1397 : mm_at mt_P 291 1397 = some ((1397, 1, .iadd, 0, 0, 0, 0), 4, 1, 0, 0, 2, 0, 0) := rfl
theorem bt_291_1398 : mm_at mt_P 291 1398 = some ((1398, 1, .iaload, 0, 0, 0, 0), 4, 1, 0, 0, 2, 0, 0) := rfl
theorem bt_291_1399 : mm_at mt_P 291 1399 = some ((1399, 3, .invokevirtual 168, 41, 0, 0, 1834), 4, 1, 0, 0, 2, 0, 0) := rfl
theorem bt_291_1402 : mm_at mt_P 291 1402 = some ((1402, 1, .pop, 0, 0, 0, 0), 4, 1, 0, 0, 2, 0, 0) := rfl
theorem bt_291_1403 : mm_at mt_P 291 1403 = some ((1403, 3, .goto 49, 0, 0, 0, 0), 4, 1, 0, 0, 2, 0, 0) := rfl
theorem bt_291_1406 : mm_at mt_P 291 1406 = some ((1406, 1, .aload_n 1, 0, 0, 0, 0), 4, 1, 0, 0, 2, 0, 0) := rfl
theorem bt_291_1407 : mm_at mt_P 291 1407 = some ((1407, 1, .aload_n 0, 0, 0, 0, 0), 4, 1, 0, 0, 2, 0, 0) := rfl
theorem bt_291_1408 : mm_at mt_P 291 1408 = some ((1408, 1, .iload_n 3, 0, 0, 0, 0), 4, 1, 0, 0, 2, 0, 0) := rfl
theorem bt_291_1409 : mm_at mt_P 291 1409 = some ((1409, 1, .iconst 1, 0, 0, 0, 0), 4, 1, 0, 0, 2, 0, 0) := rfl
theorem bt_291_1410 : mm_at mt_P 291 1410 = some ((1410, 1, .iadd, 0, 0, 0, 0), 4, 1, 0, 0, 2, 0, 0) := rfl
theorem bt_291_1411 : mm_at mt_P 291 1411 = some ((1411, 1, .iaload, 0, 0, 0, 0), 4, 1, 0, 0, 2, 0, 0) := rfl
theorem bt_291_1412 : mm_at mt_P 291 1412 = some ((1412, 3, .invokevirtual 169, 254, 0, 0, 1164), 4, 1, 0, 0, 2, 0, 0) := rfl
theorem bt_291_1415 : mm_at mt_P 291 1415 = some ((1415, 1, .pop, 0, 0, 0, 0), 4, 1, 0, 0, 2, 0, 0) := rfl
theorem bt_291_1416 : mm_at mt_P 291 1416 = some ((1416, 1, .aload_n 2, 0, 0, 0, 0), 4, 1, 0, 0, 2, 0, 0) := rfl
theorem bt_291_1417 : mm_at mt_P 291 1417 = some ((1417, 1, .aload_n 0, 0, 0, 0, 0), 4, 1, 0, 0, 2, 0, 0) := rfl
theorem bt_291_1418 : mm_at mt_P 291 1418 = some ((1418, 1, .iload_n 3, 0, 0, 0, 0), 4, 1, 0, 0, 2, 0, 0) := rfl
theorem bt_291_1419 : mm_at mt_P 291 1419 = some ((1419, 1, .iconst 1, 0, 0, 0, 0), 4, 1, 0, 0, 2, 0, 0) := rfl
theorem bt_291_1420 : mm_at mt_P 291 1420 = some ((1420, 1, .iadd, 0, 0, 0, 0), 4, 1, 0, 0, 2, 0, 0) := rfl
theorem bt_291_1421 : mm_at mt_P 291 1421 = some ((1421, 1, .iaload, 0, 0, 0, 0), 4, 1, 0, 0, 2, 0, 0) := rfl
theorem bt_291_1422 : mm_at mt_P 291 1422 = some ((1422, 3, .invokevirtual 172, 78, 0, 0, 1838), 4, 1, 0, 0, 2, 0, 0) := rfl
theorem bt_291_1425 : mm_at mt_P 291 1425 = some ((1425, 1, .pop, 0, 0, 0, 0), 4, 1, 0, 0, 2, 0, 0) := rfl
theorem bt_291_1426 : mm_at mt_P 291 1426 = some ((1426, 3, .goto 26, 0, 0, 0, 0), 4, 1, 0, 0, 2, 0, 0) := rfl
theorem bt_291_1429 : mm_at mt_P 291 1429 = some ((1429, 1, .aload_n 1, 0, 0, 0, 0), 4, 1, 0, 0, 2, 0, 0) := rfl
theorem bt_291_1430 : mm_at mt_P 291 1430 = some ((1430, 1, .aload_n 0, 0, 0, 0, 0), 4, 1, 0, 0, 2, 0, 0) := rfl
theorem bt_291_1431 : mm_at mt_P 291 1431 = some ((1431, 1, .iload_n 3, 0, 0, 0, 0), 4, 1, 0, 0, 2, 0, 0) := rfl
theorem bt_291_1432 : mm_at mt_P 291 1432 = some ((1432, 1, .iconst 1, 0, 0, 0, 0), 4, 1, 0, 0, 2, 0, 0) := rfl
theorem bt_291_1433 : mm_at mt_P 291 1433 = some ((1433, 1, .iadd, 0, 0, 0, 0), 4, 1, 0, 0, 2, 0, 0) := rfl
theorem bt_291_1434 : mm_at mt_P 291 1434 = some ((1434, 1, .iaload, 0, 0, 0, 0), 4, 1, 0, 0, 2, 0, 0) := rfl
theorem bt_291_1435 : mm_at mt_P 291 1435 = some ((1435, 3, .invokevirtual 173, 227, 0, 0, 1173), 4, 1, 0, 0, 2, 0, 0) := rfl
theorem bt_291_1438 : mm_at mt_P 291 1438 = some ((1438, 1, .pop, 0, 0, 0, 0), 4, 1, 0, 0, 2, 0, 0) := rfl
theorem bt_291_1439 : mm_at mt_P 291 1439 = some ((1439, 1, .aload_n 2, 0, 0, 0, 0), 4, 1, 0, 0, 2, 0, 0) := rfl
theorem bt_291_1440 : mm_at mt_P 291 1440 = some ((1440, 1, .aload_n 0, 0, 0, 0, 0), 4, 1, 0, 0, 2, 0, 0) := rfl
theorem bt_291_1441 : mm_at mt_P 291 1441 = some ((1441, 1, .iload_n 3, 0, 0, 0, 0), 4, 1, 0, 0, 2, 0, 0) := rfl
theorem bt_291_1442 : mm_at mt_P 291 1442 = some ((1442, 1, .iconst 1, 0, 0, 0, 0), 4, 1, 0, 0, 2, 0, 0) := rfl
theorem bt_291_1443 : mm_at mt_P 291 1443 = some ((1443, 1, .iadd, 0, 0, 0, 0), 4, 1, 0, 0, 2, 0, 0) := rfl
theorem bt_291_1444 : mm_at mt_P 291 1444 = some ((1444, 1, .iaload, 0, 0, 0, 0), 4, 1, 0, 0, 2, 0, 0) := rfl
theorem bt_291_1445 : mm_at mt_P 291 1445 = some ((1445, 3, .invokevirtual 176, 18, 0, 0, 1842), 4, 1, 0, 0, 2, 0, 0) := rfl
theorem bt_291_1448 : mm_at mt_P 291 1448 = some ((1448, 1, .pop, 0, 0, 0, 0), 4, 1, 0, 0, 2, 0, 0) := rfl
theorem bt_291_1449 : mm_at mt_P 291 1449 = some ((1449, 3, .goto 3, 0, 0, 0, 0), 4, 1, 0, 0, 2, 0, 0) := rfl
theorem bt_291_1452 : mm_at mt_P 291 1452 = some ((1452, 3, .iinc 3 6, 0, 0, 0, 0), 4, 1, 0, 0, 2, 0, 0) := rfl
theorem bt_291_1455 : mm_at mt_P 291 1455 = some ((1455, 3, .goto (-1437), 0, 0, 0, 0), 4, 1, 0, 0, 2, 0, 0) := rfl
theorem bt_291_1458 : mm_at mt_P 291 1458 = some ((1458, 1, .iconst 1, 0, 0, 0, 0), 4, 1, 0, 0, 2, 0, 0) := rfl
theorem bt_291_1459 : mm_at mt_P 291 1459 = some ((1459, 1, .ireturn, 0, 0, 0, 0), 4, 1, 0, 0, 2, 0, 0) := rfl
section BLL
variable {E : mm_E} {b n cb sb : Nat} {xs : Nat → Int32}
set_option maxHeartbeats 40000000 in
theorem wl_k_0 {i x : Int32} {lv : mm_V} {h : mm_H} {o : Option Value} (hST : wt_ST E) (hSA : ∀ {x y : Int32} (ρ : Nat → Int32), en_SA E ρ (wl_o x y) mt_SB) (h8 : ∃ q, E.2[8]? = some q) (hS : bl_S E b n xs) (hn : n ≤ 3072) (g0 : mm_get lv 0 = some (.ref b)) (g1 : mm_get lv 1 = some (.ref (E.1 + 0))) (g2 : mm_get lv 2 = some (.ref (E.1 + 88))) (g3 : mm_get lv 3 = some (.int i)) (hi0 : 0 ≤ i.toInt) (hi5 : i.toInt + 6 ≤ (n : Int)) (hL : wl_W E wl_H x x h) (hR : wt_R x x h) (hQ : rb_R h) (kk : ∀ (h' : mm_H) (x' : Int32) (o' : Option Value), wl_W E wl_H x' x' h' → wt_R x' x' h' → rb_R h' → bh_G E st_FIN ((291, 1452, lv, [], cb, sb) :: [], h', o')) : bh_G E st_FIN ((291, 200, lv, [], cb, sb) :: [], h, o) := by
  refine bl_ld (pc' := 201) bt_291_200 rfl rfl (fun _ _ _ => rfl) g1 rfl ?_
  refine bl_ld (pc' := 202) bt_291_201 rfl rfl (fun _ _ _ => rfl) g0 rfl ?_
  refine bl_ld (pc' := 203) bt_291_202 rfl rfl (fun _ _ _ => rfl) g3 rfl ?_
  refine bl_c (pc' := 204) (n := 1) bt_291_203 rfl rfl (fun _ _ _ => rfl) (by decide) (fun c1 e2 => ?_)
  refine bl_add (pc' := 205) bt_291_204 rfl (by omega) (by omega) (fun v3 e4 => ?_)
  refine bl_sc (pc' := 206) bt_291_205 rfl hS (by omega) (by omega) ?_
  refine bl_ld (pc' := 207) bt_291_206 rfl rfl (fun _ _ _ => rfl) g0 rfl ?_
  refine bl_ld (pc' := 208) bt_291_207 rfl rfl (fun _ _ _ => rfl) g3 rfl ?_
  refine bl_c (pc' := 209) (n := 2) bt_291_208 rfl rfl (fun _ _ _ => rfl) (by decide) (fun c5 e6 => ?_)
  refine bl_add (pc' := 210) bt_291_209 rfl (by omega) (by omega) (fun v7 e8 => ?_)
  refine bl_sc (pc' := 211) bt_291_210 rfl hS (by omega) (by omega) ?_
  refine bl_ld (pc' := 212) bt_291_211 rfl rfl (fun _ _ _ => rfl) g0 rfl ?_
  refine bl_ld (pc' := 213) bt_291_212 rfl rfl (fun _ _ _ => rfl) g3 rfl ?_
  refine bl_c (pc' := 214) (n := 3) bt_291_213 rfl rfl (fun _ _ _ => rfl) (by decide) (fun c9 e10 => ?_)
  refine bl_add (pc' := 215) bt_291_214 rfl (by omega) (by omega) (fun v11 e12 => ?_)
  refine bl_sc (pc' := 216) bt_291_215 rfl hS (by omega) (by omega) ?_
  refine bl_ld (pc' := 217) bt_291_216 rfl rfl (fun _ _ _ => rfl) g0 rfl ?_
  refine bl_ld (pc' := 218) bt_291_217 rfl rfl (fun _ _ _ => rfl) g3 rfl ?_
  refine bl_c (pc' := 219) (n := 4) bt_291_218 rfl rfl (fun _ _ _ => rfl) (by decide) (fun c13 e14 => ?_)
  refine bl_add (pc' := 220) bt_291_219 rfl (by omega) (by omega) (fun v15 e16 => ?_)
  refine bl_sc (pc' := 221) bt_291_220 rfl hS (by omega) (by omega) ?_
  refine bl_ld (pc' := 222) bt_291_221 rfl rfl (fun _ _ _ => rfl) g0 rfl ?_
  refine bl_ld (pc' := 223) bt_291_222 rfl rfl (fun _ _ _ => rfl) g3 rfl ?_
  refine bl_c (pc' := 224) (n := 5) bt_291_223 rfl rfl (fun _ _ _ => rfl) (by decide) (fun c17 e18 => ?_)
  refine bl_add (pc' := 225) bt_291_224 rfl (by omega) (by omega) (fun v19 e20 => ?_)
  refine bl_sc (pc' := 226) bt_291_225 rfl hS (by omega) (by omega) ?_
  refine bl_cv (pc' := 229) (st := []) (args := [.int (xs (v19).toInt.toNat), .int (xs (v15).toInt.toNat), .int (xs (v11).toInt.toNat), .int (xs (v7).toInt.toNat), .int (xs (v3).toInt.toNat)]) (c := 0) (ci := 8) bt_291_226 rfl rfl (by decide) (wl_o0 hL) (by decide) (Nat.succ_lt_succ (Nat.zero_lt_succ _)) rfl (Nat.le_of_ble_eq_true rfl) (Nat.le_of_ble_eq_true rfl) ?_
  refine wq_j (m := 230) (FIN := st_FIN) (g := (291, 229, lv, [], cb, sb)) (t := []) (A := fun h' r => ∃ v : Int32, wl_W E wl_H v x h' ∧ ((x.toInt + 20 ≤ 2000 ∧ v.toInt = x.toInt + 20 ∧ r.toInt = x.toInt + 20) ∨ (2000 < x.toInt + 20 ∧ v.toInt = x.toInt ∧ r.toInt = -1)) ∧ wt_F 1 89 ((xs (v3).toInt.toNat)) ((xs (v7).toInt.toNat)) ((xs (v11).toInt.toNat)) ((xs (v15).toInt.toNat)) ((xs (v19).toInt.toNat)) x h h') q0_k q0_a q0_h rfl (by decide) (ka_lc (ka_no (by decide)) (ka_lc ka_ti (ka_lc ka_ti (ka_lc ka_ti (ka_lc ka_ti (ka_lc ka_ti ka_ln)))))) hL (fun F9 k1 => wk_c_feed (FIN := F9) (g := bp_mf) (t := []) hL (Nat.le_of_ble_eq_true rfl) (fun h r v a b c => k1 _ _ ⟨v, a, b, c⟩)) (fun h21 r22 ⟨v26, hL23, z27, K28⟩ F24 Ka25 => ?_)
  have hQ29 := rb_q0 hL hQ F24 Ka25
  show bh_G E st_FIN ((291, 229, lv, [.int r22], cb, sb) :: [], h21, none)
  refine bl_pop (pc' := 230) bt_291_229 rfl rfl ?_
  refine bl_ld (pc' := 231) bt_291_230 rfl rfl (fun _ _ _ => rfl) g2 rfl ?_
  refine bl_ld (pc' := 232) bt_291_231 rfl rfl (fun _ _ _ => rfl) g0 rfl ?_
  refine bl_ld (pc' := 233) bt_291_232 rfl rfl (fun _ _ _ => rfl) g3 rfl ?_
  refine bl_c (pc' := 234) (n := 1) bt_291_233 rfl rfl (fun _ _ _ => rfl) (by decide) (fun c30 e31 => ?_)
  refine bl_add (pc' := 235) bt_291_234 rfl (by omega) (by omega) (fun v32 e33 => ?_)
  refine bl_sc (pc' := 236) bt_291_235 rfl hS (by omega) (by omega) ?_
  refine bl_ld (pc' := 237) bt_291_236 rfl rfl (fun _ _ _ => rfl) g0 rfl ?_
  refine bl_ld (pc' := 238) bt_291_237 rfl rfl (fun _ _ _ => rfl) g3 rfl ?_
  refine bl_c (pc' := 239) (n := 2) bt_291_238 rfl rfl (fun _ _ _ => rfl) (by decide) (fun c34 e35 => ?_)
  refine bl_add (pc' := 240) bt_291_239 rfl (by omega) (by omega) (fun v36 e37 => ?_)
  refine bl_sc (pc' := 241) bt_291_240 rfl hS (by omega) (by omega) ?_
  refine bl_ld (pc' := 242) bt_291_241 rfl rfl (fun _ _ _ => rfl) g0 rfl ?_
  refine bl_ld (pc' := 243) bt_291_242 rfl rfl (fun _ _ _ => rfl) g3 rfl ?_
  refine bl_c (pc' := 244) (n := 3) bt_291_243 rfl rfl (fun _ _ _ => rfl) (by decide) (fun c38 e39 => ?_)
  refine bl_add (pc' := 245) bt_291_244 rfl (by omega) (by omega) (fun v40 e41 => ?_)
  refine bl_sc (pc' := 246) bt_291_245 rfl hS (by omega) (by omega) ?_
  refine bl_ld (pc' := 247) bt_291_246 rfl rfl (fun _ _ _ => rfl) g0 rfl ?_
  refine bl_ld (pc' := 248) bt_291_247 rfl rfl (fun _ _ _ => rfl) g3 rfl ?_
  refine bl_c (pc' := 249) (n := 4) bt_291_248 rfl rfl (fun _ _ _ => rfl) (by decide) (fun c42 e43 => ?_)
  refine bl_add (pc' := 250) bt_291_249 rfl (by omega) (by omega) (fun v44 e45 => ?_)
  refine bl_sc (pc' := 251) bt_291_250 rfl hS (by omega) (by omega) ?_
  refine bl_ld (pc' := 252) bt_291_251 rfl rfl (fun _ _ _ => rfl) g0 rfl ?_
  refine bl_ld (pc' := 253) bt_291_252 rfl rfl (fun _ _ _ => rfl) g3 rfl ?_
  refine bl_c (pc' := 254) (n := 5) bt_291_253 rfl rfl (fun _ _ _ => rfl) (by decide) (fun c46 e47 => ?_)
  refine bl_add (pc' := 255) bt_291_254 rfl (by omega) (by omega) (fun v48 e49 => ?_)
  refine bl_sc (pc' := 256) bt_291_255 rfl hS (by omega) (by omega) ?_
  refine bl_cv (pc' := 259) (st := []) (args := [.int (xs (v48).toInt.toNat), .int (xs (v44).toInt.toNat), .int (xs (v40).toInt.toNat), .int (xs (v36).toInt.toNat), .int (xs (v32).toInt.toNat)]) (c := 88) (ci := 9) bt_291_256 rfl rfl (by decide) (wl_o88 hL23) (by decide) (Nat.succ_lt_succ (Nat.zero_lt_succ _)) rfl (Nat.le_of_ble_eq_true rfl) (Nat.le_of_ble_eq_true rfl) ?_
  refine wq_j (m := 28) (FIN := st_FIN) (g := (291, 259, lv, [], cb, sb)) (t := []) (A := fun h' r => ∃ v : Int32, wl_W E wl_H v26 v h' ∧ ((x.toInt + 20 ≤ 2000 ∧ v.toInt = x.toInt + 20 ∧ r.toInt = x.toInt + 20) ∨ (2000 < x.toInt + 20 ∧ v.toInt = x.toInt ∧ r.toInt = -1)) ∧ wt_F 89 1 ((xs (v32).toInt.toNat)) ((xs (v36).toInt.toNat)) ((xs (v40).toInt.toNat)) ((xs (v44).toInt.toNat)) ((xs (v48).toInt.toNat)) x h21 h') q0_k q0_a q0_h rfl (by decide) (ka_lc (ka_no (by decide)) (ka_lc ka_ti (ka_lc ka_ti (ka_lc ka_ti (ka_lc ka_ti (ka_lc ka_ti ka_ln)))))) hL23 (fun F9 k1 => wk_m_feed (FIN := F9) (g := bp_mf) (t := []) hL23 (Nat.le_of_ble_eq_true rfl) (fun h r v a b c => k1 _ _ ⟨v, a, b, c⟩)) (fun h50 r51 ⟨v55, hL52, z56, K57⟩ F53 Ka54 => ?_)
  have ev0 : v32 = v3 := Int32.toInt_inj.mp (by omega)
  try rw [ev0] at K57
  have ev1 : v36 = v7 := Int32.toInt_inj.mp (by omega)
  try rw [ev1] at K57
  have ev2 : v40 = v11 := Int32.toInt_inj.mp (by omega)
  try rw [ev2] at K57
  have ev3 : v44 = v15 := Int32.toInt_inj.mp (by omega)
  try rw [ev3] at K57
  have ev4 : v48 = v19 := Int32.toInt_inj.mp (by omega)
  try rw [ev4] at K57
  have hR58 := wt_fd hL.2.2.1 hR z27 z56 K28 K57
  have hQ59 := rb_q0 hL23 hQ29 F53 Ka54
  show bh_G E st_FIN ((291, 259, lv, [.int r51], cb, sb) :: [], h50, none)
  refine bl_pop (pc' := 260) bt_291_259 rfl rfl ?_
  refine bl_go (pc' := 1452) bt_291_260 rfl ?_
  have hxy : v55 = v26 := Int32.toInt_inj.mp (by omega)
  rw [hxy] at hL52 hR58
  exact kk _ _ _ hL52 hR58 hQ59
set_option maxHeartbeats 40000000 in
theorem wl_k_1 {i x : Int32} {lv : mm_V} {h : mm_H} {o : Option Value} (hST : wt_ST E) (hSA : ∀ {x y : Int32} (ρ : Nat → Int32), en_SA E ρ (wl_o x y) mt_SB) (h8 : ∃ q, E.2[8]? = some q) (hS : bl_S E b n xs) (hn : n ≤ 3072) (g0 : mm_get lv 0 = some (.ref b)) (g1 : mm_get lv 1 = some (.ref (E.1 + 0))) (g2 : mm_get lv 2 = some (.ref (E.1 + 88))) (g3 : mm_get lv 3 = some (.int i)) (hi0 : 0 ≤ i.toInt) (hi5 : i.toInt + 6 ≤ (n : Int)) (hL : wl_W E wl_H x x h) (hR : wt_R x x h) (hQ : rb_R h) (kk : ∀ (h' : mm_H) (x' : Int32) (o' : Option Value), wl_W E wl_H x' x' h' → wt_R x' x' h' → rb_R h' → bh_G E st_FIN ((291, 1452, lv, [], cb, sb) :: [], h', o')) : bh_G E st_FIN ((291, 263, lv, [], cb, sb) :: [], h, o) := by
  refine bl_ld (pc' := 264) bt_291_263 rfl rfl (fun _ _ _ => rfl) g1 rfl ?_
  refine bl_ld (pc' := 265) bt_291_264 rfl rfl (fun _ _ _ => rfl) g0 rfl ?_
  refine bl_ld (pc' := 266) bt_291_265 rfl rfl (fun _ _ _ => rfl) g3 rfl ?_
  refine bl_c (pc' := 267) (n := 1) bt_291_266 rfl rfl (fun _ _ _ => rfl) (by decide) (fun c60 e61 => ?_)
  refine bl_add (pc' := 268) bt_291_267 rfl (by omega) (by omega) (fun v62 e63 => ?_)
  refine bl_sc (pc' := 269) bt_291_268 rfl hS (by omega) (by omega) ?_
  refine bl_cv (pc' := 272) (st := []) (args := [.int (xs (v62).toInt.toNat)]) (c := 0) (ci := 8) bt_291_269 rfl rfl (by decide) (wl_o0 hL) (by decide) (Nat.succ_lt_succ (Nat.zero_lt_succ _)) rfl (Nat.le_of_ble_eq_true rfl) (Nat.le_of_ble_eq_true rfl) ?_
  refine wq_j (m := 221) (FIN := st_FIN) (g := (291, 272, lv, [], cb, sb)) (t := []) (A := fun h' r => ∃ v : Int32, wl_W E wl_H v x h' ∧ ((0 ≤ ((xs (v62).toInt.toNat)).toInt ∧ ((xs (v62).toInt.toNat)).toInt ≤ x.toInt ∧ v.toInt = x.toInt - ((xs (v62).toInt.toNat)).toInt ∧ r.toInt = x.toInt - ((xs (v62).toInt.toNat)).toInt) ∨ ((((xs (v62).toInt.toNat)).toInt < 0 ∨ x.toInt < ((xs (v62).toInt.toNat)).toInt) ∧ v.toInt = x.toInt ∧ r.toInt = -1)) ∧ wt_K h h') q0_k q0_a q0_h rfl (by decide) (ka_lc (ka_no (by decide)) (ka_lc ka_ti ka_ln)) hL (fun F9 k1 => wk_c_back (FIN := F9) (g := bp_mf) (t := []) hL (fun h r v a b c => k1 _ _ ⟨v, a, b, c⟩)) (fun h64 r65 ⟨v69, hL66, z70, K71⟩ F67 Ka68 => ?_)
  have hQ72 := rb_q0 hL hQ F67 Ka68
  show bh_G E st_FIN ((291, 272, lv, [.int r65], cb, sb) :: [], h64, none)
  refine bl_pop (pc' := 273) bt_291_272 rfl rfl ?_
  refine bl_ld (pc' := 274) bt_291_273 rfl rfl (fun _ _ _ => rfl) g2 rfl ?_
  refine bl_ld (pc' := 275) bt_291_274 rfl rfl (fun _ _ _ => rfl) g0 rfl ?_
  refine bl_ld (pc' := 276) bt_291_275 rfl rfl (fun _ _ _ => rfl) g3 rfl ?_
  refine bl_c (pc' := 277) (n := 1) bt_291_276 rfl rfl (fun _ _ _ => rfl) (by decide) (fun c73 e74 => ?_)
  refine bl_add (pc' := 278) bt_291_277 rfl (by omega) (by omega) (fun v75 e76 => ?_)
  refine bl_sc (pc' := 279) bt_291_278 rfl hS (by omega) (by omega) ?_
  refine bl_cv (pc' := 282) (st := []) (args := [.int (xs (v75).toInt.toNat)]) (c := 88) (ci := 9) bt_291_279 rfl rfl (by decide) (wl_o88 hL66) (by decide) (Nat.succ_lt_succ (Nat.zero_lt_succ _)) rfl (Nat.le_of_ble_eq_true rfl) (Nat.le_of_ble_eq_true rfl) ?_
  refine wq_j (m := 5) (FIN := st_FIN) (g := (291, 282, lv, [], cb, sb)) (t := []) (A := fun h' r => ∃ v : Int32, wl_W E wl_H v69 v h' ∧ ((0 ≤ ((xs (v75).toInt.toNat)).toInt ∧ ((xs (v75).toInt.toNat)).toInt ≤ x.toInt ∧ v.toInt = x.toInt - ((xs (v75).toInt.toNat)).toInt ∧ r.toInt = x.toInt - ((xs (v75).toInt.toNat)).toInt) ∨ ((((xs (v75).toInt.toNat)).toInt < 0 ∨ x.toInt < ((xs (v75).toInt.toNat)).toInt) ∧ v.toInt = x.toInt ∧ r.toInt = -1)) ∧ wt_K h64 h') q0_k q0_a q0_h rfl (by decide) (ka_lc (ka_no (by decide)) (ka_lc ka_ti ka_ln)) hL66 (fun F9 k1 => wk_m_back (FIN := F9) (g := bp_mf) (t := []) hL66 (fun h r v a b c => k1 _ _ ⟨v, a, b, c⟩)) (fun h77 r78 ⟨v82, hL79, z83, K84⟩ F80 Ka81 => ?_)
  have hR85 := wt_bk (v := v69) (v' := v82) hR (by omega) (by omega) K71 K84
  have hQ86 := rb_q0 hL66 hQ72 F80 Ka81
  show bh_G E st_FIN ((291, 282, lv, [.int r78], cb, sb) :: [], h77, none)
  refine bl_pop (pc' := 283) bt_291_282 rfl rfl ?_
  refine bl_go (pc' := 1452) bt_291_283 rfl ?_
  have ev : v75 = v62 := Int32.toInt_inj.mp (by omega)
  rw [ev] at z83
  have hxy : v82 = v69 := Int32.toInt_inj.mp (by omega)
  rw [hxy] at hL79 hR85
  exact kk _ _ _ hL79 hR85 hQ86
set_option maxHeartbeats 40000000 in
theorem wl_k_2 {i x : Int32} {lv : mm_V} {h : mm_H} {o : Option Value} (hST : wt_ST E) (hSA : ∀ {x y : Int32} (ρ : Nat → Int32), en_SA E ρ (wl_o x y) mt_SB) (h8 : ∃ q, E.2[8]? = some q) (hS : bl_S E b n xs) (hn : n ≤ 3072) (g0 : mm_get lv 0 = some (.ref b)) (g1 : mm_get lv 1 = some (.ref (E.1 + 0))) (g2 : mm_get lv 2 = some (.ref (E.1 + 88))) (g3 : mm_get lv 3 = some (.int i)) (hi0 : 0 ≤ i.toInt) (hi5 : i.toInt + 6 ≤ (n : Int)) (hL : wl_W E wl_H x x h) (hR : wt_R x x h) (hQ : rb_R h) (kk : ∀ (h' : mm_H) (x' : Int32) (o' : Option Value), wl_W E wl_H x' x' h' → wt_R x' x' h' → rb_R h' → bh_G E st_FIN ((291, 1452, lv, [], cb, sb) :: [], h', o')) : bh_G E st_FIN ((291, 286, lv, [], cb, sb) :: [], h, o) := by
  refine bl_ld (pc' := 287) bt_291_286 rfl rfl (fun _ _ _ => rfl) g1 rfl ?_
  refine bl_cv (pc' := 290) (st := []) (args := []) (c := 0) (ci := 8) bt_291_287 rfl rfl (by decide) (wl_o0 hL) (by decide) (Nat.succ_lt_succ (Nat.zero_lt_succ _)) rfl (Nat.le_of_ble_eq_true rfl) (Nat.le_of_ble_eq_true rfl) ?_
  refine wk_c_read (FIN := st_FIN) (g := (291, 290, lv, [], cb, sb)) (t := []) hSA h8 hST hL hR rfl rfl (Nat.le_of_ble_eq_true rfl) (fun h87 r88 hL89 K96 e92 p93 z94 z95 => ?_)
  show bh_G E st_FIN ((291, 290, lv, [.int r88], cb, sb) :: [], h87, none)
  refine bl_pop (pc' := 291) bt_291_290 rfl rfl ?_
  refine bl_ld (pc' := 292) bt_291_291 rfl rfl (fun _ _ _ => rfl) g2 rfl ?_
  refine bl_cv (pc' := 295) (st := []) (args := []) (c := 88) (ci := 9) bt_291_292 rfl rfl (by decide) (wl_o88 hL89) (by decide) (Nat.succ_lt_succ (Nat.zero_lt_succ _)) rfl (Nat.le_of_ble_eq_true rfl) (Nat.le_of_ble_eq_true rfl) ?_
  refine wk_m_read (FIN := st_FIN) (g := (291, 295, lv, [], cb, sb)) (t := []) (X := br_A h 1) (n := x.toInt.toNat) hSA hL89 (by rw [wt_eL (K96 95 (by omega))]; exact hR.2) (fun j hj => by rw [wt_eA (K96 89 (by omega))]; exact (hR.1 j hj).2 hj) rfl (Nat.le_of_ble_eq_true rfl) (fun h97 r98 hL99 K106 e102 p103 k107 z104 z105 => ?_)
  have hR108 := wt_rd hR (K106.trans (wt_eL (K96 95 (by omega))))
  have hQ109 := rb_read hL hQ e92 (e92.trans e102.symm) K96 k107 z94 z95 z104 z105
  show bh_G E st_FIN ((291, 295, lv, [.int r98], cb, sb) :: [], h97, none)
  refine bl_pop (pc' := 296) bt_291_295 rfl rfl ?_
  refine bl_go (pc' := 1452) bt_291_296 rfl ?_
  exact kk _ _ _ hL99 hR108 hQ109
set_option maxHeartbeats 40000000 in
theorem wl_k_3 {i x : Int32} {lv : mm_V} {h : mm_H} {o : Option Value} (hST : wt_ST E) (hSA : ∀ {x y : Int32} (ρ : Nat → Int32), en_SA E ρ (wl_o x y) mt_SB) (h8 : ∃ q, E.2[8]? = some q) (hS : bl_S E b n xs) (hn : n ≤ 3072) (g0 : mm_get lv 0 = some (.ref b)) (g1 : mm_get lv 1 = some (.ref (E.1 + 0))) (g2 : mm_get lv 2 = some (.ref (E.1 + 88))) (g3 : mm_get lv 3 = some (.int i)) (hi0 : 0 ≤ i.toInt) (hi5 : i.toInt + 6 ≤ (n : Int)) (hL : wl_W E wl_H x x h) (hR : wt_R x x h) (hQ : rb_R h) (kk : ∀ (h' : mm_H) (x' : Int32) (o' : Option Value), wl_W E wl_H x' x' h' → wt_R x' x' h' → rb_R h' → bh_G E st_FIN ((291, 1452, lv, [], cb, sb) :: [], h', o')) : bh_G E st_FIN ((291, 299, lv, [], cb, sb) :: [], h, o) := by
  refine bl_ld (pc' := 300) bt_291_299 rfl rfl (fun _ _ _ => rfl) g1 rfl ?_
  refine bl_cv (pc' := 303) (st := []) (args := []) (c := 0) (ci := 8) bt_291_300 rfl rfl (by decide) (wl_o0 hL) (by decide) (Nat.succ_lt_succ (Nat.zero_lt_succ _)) rfl (Nat.le_of_ble_eq_true rfl) (Nat.le_of_ble_eq_true rfl) ?_
  refine wq_j (m := 250) (FIN := st_FIN) (g := (291, 303, lv, [], cb, sb)) (t := []) (A := fun h' r => wl_W E wl_H x x h' ∧ wt_K h h') q0_k q0_a q0_h rfl (by decide) (ka_lc (ka_no (by decide)) ka_ln) hL (fun F9 k1 => wk_c_place (FIN := F9) (gs := [bp_mf]) hSA h8 hL (Nat.le_of_ble_eq_true rfl) (fun h r a b => k1 _ _ ⟨a, b⟩)) (fun h110 r111 ⟨hL112, K115⟩ F113 Ka114 => ?_)
  have hR116 := wt_RK hR K115
  have hQ117 := rb_q0 hL hQ F113 Ka114
  show bh_G E st_FIN ((291, 303, lv, [.int r111], cb, sb) :: [], h110, none)
  refine bl_pop (pc' := 304) bt_291_303 rfl rfl ?_
  refine bl_ld (pc' := 305) bt_291_304 rfl rfl (fun _ _ _ => rfl) g2 rfl ?_
  refine bl_cv (pc' := 308) (st := []) (args := []) (c := 88) (ci := 9) bt_291_305 rfl rfl (by decide) (wl_o88 hL112) (by decide) (Nat.succ_lt_succ (Nat.zero_lt_succ _)) rfl (Nat.le_of_ble_eq_true rfl) (Nat.le_of_ble_eq_true rfl) ?_
  refine wq_j (m := 71) (FIN := st_FIN) (g := (291, 308, lv, [], cb, sb)) (t := []) (A := fun h' r => wl_W E wl_H x x h' ∧ wt_K h110 h') q0_k q0_a q0_h rfl (by decide) (ka_lc (ka_no (by decide)) ka_ln) hL112 (fun F9 k1 => wk_m_place (FIN := F9) (gs := [bp_mf]) hSA hL112 (Nat.le_of_ble_eq_true rfl) (fun h r a b => k1 _ _ ⟨a, b⟩)) (fun h118 r119 ⟨hL120, K123⟩ F121 Ka122 => ?_)
  have hR124 := wt_RK hR116 K123
  have hQ125 := rb_q0 hL112 hQ117 F121 Ka122
  show bh_G E st_FIN ((291, 308, lv, [.int r119], cb, sb) :: [], h118, none)
  refine bl_pop (pc' := 309) bt_291_308 rfl rfl ?_
  refine bl_go (pc' := 1452) bt_291_309 rfl ?_
  exact kk _ _ _ hL120 hR124 hQ125
set_option maxHeartbeats 40000000 in
theorem wl_k_4 {i x : Int32} {lv : mm_V} {h : mm_H} {o : Option Value} (hST : wt_ST E) (hSA : ∀ {x y : Int32} (ρ : Nat → Int32), en_SA E ρ (wl_o x y) mt_SB) (h8 : ∃ q, E.2[8]? = some q) (hS : bl_S E b n xs) (hn : n ≤ 3072) (g0 : mm_get lv 0 = some (.ref b)) (g1 : mm_get lv 1 = some (.ref (E.1 + 0))) (g2 : mm_get lv 2 = some (.ref (E.1 + 88))) (g3 : mm_get lv 3 = some (.int i)) (hi0 : 0 ≤ i.toInt) (hi5 : i.toInt + 6 ≤ (n : Int)) (hL : wl_W E wl_H x x h) (hR : wt_R x x h) (hQ : rb_R h) (kk : ∀ (h' : mm_H) (x' : Int32) (o' : Option Value), wl_W E wl_H x' x' h' → wt_R x' x' h' → rb_R h' → bh_G E st_FIN ((291, 1452, lv, [], cb, sb) :: [], h', o')) : bh_G E st_FIN ((291, 312, lv, [], cb, sb) :: [], h, o) := by
  refine bl_ld (pc' := 313) bt_291_312 rfl rfl (fun _ _ _ => rfl) g1 rfl ?_
  refine bl_ld (pc' := 314) bt_291_313 rfl rfl (fun _ _ _ => rfl) g0 rfl ?_
  refine bl_ld (pc' := 315) bt_291_314 rfl rfl (fun _ _ _ => rfl) g3 rfl ?_
  refine bl_c (pc' := 316) (n := 1) bt_291_315 rfl rfl (fun _ _ _ => rfl) (by decide) (fun c126 e127 => ?_)
  refine bl_add (pc' := 317) bt_291_316 rfl (by omega) (by omega) (fun v128 e129 => ?_)
  refine bl_sc (pc' := 318) bt_291_317 rfl hS (by omega) (by omega) ?_
  refine bl_ld (pc' := 319) bt_291_318 rfl rfl (fun _ _ _ => rfl) g0 rfl ?_
  refine bl_ld (pc' := 320) bt_291_319 rfl rfl (fun _ _ _ => rfl) g3 rfl ?_
  refine bl_c (pc' := 321) (n := 2) bt_291_320 rfl rfl (fun _ _ _ => rfl) (by decide) (fun c130 e131 => ?_)
  refine bl_add (pc' := 322) bt_291_321 rfl (by omega) (by omega) (fun v132 e133 => ?_)
  refine bl_sc (pc' := 323) bt_291_322 rfl hS (by omega) (by omega) ?_
  refine bl_cv (pc' := 326) (st := []) (args := [.int (xs (v132).toInt.toNat), .int (xs (v128).toInt.toNat)]) (c := 0) (ci := 8) bt_291_323 rfl rfl (by decide) (wl_o0 hL) (by decide) (Nat.succ_lt_succ (Nat.zero_lt_succ _)) rfl (Nat.le_of_ble_eq_true rfl) (Nat.le_of_ble_eq_true rfl) ?_
  refine wq_j (m := 244) (FIN := st_FIN) (g := (291, 326, lv, [], cb, sb)) (t := []) (A := fun h' r => wl_W E wl_H x x h' ∧ wt_K h h') q0_k q0_a q0_h rfl (by decide) (ka_lc (ka_no (by decide)) (ka_lc ka_ti (ka_lc ka_ti ka_ln))) hL (fun F9 k1 => wk_c_man (FIN := F9) (gs := [bp_mf]) hSA h8 hL (Nat.le_of_ble_eq_true rfl) (fun h r a b => k1 _ _ ⟨a, b⟩)) (fun h134 r135 ⟨hL136, K139⟩ F137 Ka138 => ?_)
  have hR140 := wt_RK hR K139
  have hQ141 := rb_q0 hL hQ F137 Ka138
  show bh_G E st_FIN ((291, 326, lv, [.int r135], cb, sb) :: [], h134, none)
  refine bl_pop (pc' := 327) bt_291_326 rfl rfl ?_
  refine bl_ld (pc' := 328) bt_291_327 rfl rfl (fun _ _ _ => rfl) g2 rfl ?_
  refine bl_ld (pc' := 329) bt_291_328 rfl rfl (fun _ _ _ => rfl) g0 rfl ?_
  refine bl_ld (pc' := 330) bt_291_329 rfl rfl (fun _ _ _ => rfl) g3 rfl ?_
  refine bl_c (pc' := 331) (n := 1) bt_291_330 rfl rfl (fun _ _ _ => rfl) (by decide) (fun c142 e143 => ?_)
  refine bl_add (pc' := 332) bt_291_331 rfl (by omega) (by omega) (fun v144 e145 => ?_)
  refine bl_sc (pc' := 333) bt_291_332 rfl hS (by omega) (by omega) ?_
  refine bl_ld (pc' := 334) bt_291_333 rfl rfl (fun _ _ _ => rfl) g0 rfl ?_
  refine bl_ld (pc' := 335) bt_291_334 rfl rfl (fun _ _ _ => rfl) g3 rfl ?_
  refine bl_c (pc' := 336) (n := 2) bt_291_335 rfl rfl (fun _ _ _ => rfl) (by decide) (fun c146 e147 => ?_)
  refine bl_add (pc' := 337) bt_291_336 rfl (by omega) (by omega) (fun v148 e149 => ?_)
  refine bl_sc (pc' := 338) bt_291_337 rfl hS (by omega) (by omega) ?_
  refine bl_cv (pc' := 341) (st := []) (args := [.int (xs (v148).toInt.toNat), .int (xs (v144).toInt.toNat)]) (c := 88) (ci := 9) bt_291_338 rfl rfl (by decide) (wl_o88 hL136) (by decide) (Nat.succ_lt_succ (Nat.zero_lt_succ _)) rfl (Nat.le_of_ble_eq_true rfl) (Nat.le_of_ble_eq_true rfl) ?_
  refine wq_j (m := 63) (FIN := st_FIN) (g := (291, 341, lv, [], cb, sb)) (t := []) (A := fun h' r => wl_W E wl_H x x h' ∧ wt_K h134 h') q0_k q0_a q0_h rfl (by decide) (ka_lc (ka_no (by decide)) (ka_lc ka_ti (ka_lc ka_ti ka_ln))) hL136 (fun F9 k1 => wk_m_man (FIN := F9) (gs := [bp_mf]) hSA hL136 (Nat.le_of_ble_eq_true rfl) (fun h r a b => k1 _ _ ⟨a, b⟩)) (fun h150 r151 ⟨hL152, K155⟩ F153 Ka154 => ?_)
  have hR156 := wt_RK hR140 K155
  have hQ157 := rb_q0 hL136 hQ141 F153 Ka154
  show bh_G E st_FIN ((291, 341, lv, [.int r151], cb, sb) :: [], h150, none)
  refine bl_pop (pc' := 342) bt_291_341 rfl rfl ?_
  refine bl_go (pc' := 1452) bt_291_342 rfl ?_
  exact kk _ _ _ hL152 hR156 hQ157
set_option maxHeartbeats 40000000 in
theorem wl_k_5 {i x : Int32} {lv : mm_V} {h : mm_H} {o : Option Value} (hST : wt_ST E) (hSA : ∀ {x y : Int32} (ρ : Nat → Int32), en_SA E ρ (wl_o x y) mt_SB) (h8 : ∃ q, E.2[8]? = some q) (hS : bl_S E b n xs) (hn : n ≤ 3072) (g0 : mm_get lv 0 = some (.ref b)) (g1 : mm_get lv 1 = some (.ref (E.1 + 0))) (g2 : mm_get lv 2 = some (.ref (E.1 + 88))) (g3 : mm_get lv 3 = some (.int i)) (hi0 : 0 ≤ i.toInt) (hi5 : i.toInt + 6 ≤ (n : Int)) (hL : wl_W E wl_H x x h) (hR : wt_R x x h) (hQ : rb_R h) (kk : ∀ (h' : mm_H) (x' : Int32) (o' : Option Value), wl_W E wl_H x' x' h' → wt_R x' x' h' → rb_R h' → bh_G E st_FIN ((291, 1452, lv, [], cb, sb) :: [], h', o')) : bh_G E st_FIN ((291, 345, lv, [], cb, sb) :: [], h, o) := by
  refine bl_ld (pc' := 346) bt_291_345 rfl rfl (fun _ _ _ => rfl) g1 rfl ?_
  refine bl_ld (pc' := 347) bt_291_346 rfl rfl (fun _ _ _ => rfl) g0 rfl ?_
  refine bl_ld (pc' := 348) bt_291_347 rfl rfl (fun _ _ _ => rfl) g3 rfl ?_
  refine bl_c (pc' := 349) (n := 1) bt_291_348 rfl rfl (fun _ _ _ => rfl) (by decide) (fun c158 e159 => ?_)
  refine bl_add (pc' := 350) bt_291_349 rfl (by omega) (by omega) (fun v160 e161 => ?_)
  refine bl_sc (pc' := 351) bt_291_350 rfl hS (by omega) (by omega) ?_
  refine bl_cv (pc' := 354) (st := []) (args := [.int (xs (v160).toInt.toNat)]) (c := 0) (ci := 8) bt_291_351 rfl rfl (by decide) (wl_o0 hL) (by decide) (Nat.succ_lt_succ (Nat.zero_lt_succ _)) rfl (Nat.le_of_ble_eq_true rfl) (Nat.le_of_ble_eq_true rfl) ?_
  refine wq_j (m := 251) (FIN := st_FIN) (g := (291, 354, lv, [], cb, sb)) (t := []) (A := fun h' r => wl_W E wl_H x x h' ∧ wt_K h h') q0_k q0_a q0_h rfl (by decide) (ka_lc (ka_no (by decide)) (ka_lc ka_ti ka_ln)) hL (fun F9 k1 => wk_c_post (FIN := F9) (gs := [bp_mf]) hSA h8 hL (Nat.le_of_ble_eq_true rfl) (fun h r a b => k1 _ _ ⟨a, b⟩)) (fun h162 r163 ⟨hL164, K167⟩ F165 Ka166 => ?_)
  have hR168 := wt_RK hR K167
  have hQ169 := rb_q0 hL hQ F165 Ka166
  show bh_G E st_FIN ((291, 354, lv, [.int r163], cb, sb) :: [], h162, none)
  refine bl_pop (pc' := 355) bt_291_354 rfl rfl ?_
  refine bl_ld (pc' := 356) bt_291_355 rfl rfl (fun _ _ _ => rfl) g2 rfl ?_
  refine bl_ld (pc' := 357) bt_291_356 rfl rfl (fun _ _ _ => rfl) g0 rfl ?_
  refine bl_ld (pc' := 358) bt_291_357 rfl rfl (fun _ _ _ => rfl) g3 rfl ?_
  refine bl_c (pc' := 359) (n := 1) bt_291_358 rfl rfl (fun _ _ _ => rfl) (by decide) (fun c170 e171 => ?_)
  refine bl_add (pc' := 360) bt_291_359 rfl (by omega) (by omega) (fun v172 e173 => ?_)
  refine bl_sc (pc' := 361) bt_291_360 rfl hS (by omega) (by omega) ?_
  refine bl_cv (pc' := 364) (st := []) (args := [.int (xs (v172).toInt.toNat)]) (c := 88) (ci := 9) bt_291_361 rfl rfl (by decide) (wl_o88 hL164) (by decide) (Nat.succ_lt_succ (Nat.zero_lt_succ _)) rfl (Nat.le_of_ble_eq_true rfl) (Nat.le_of_ble_eq_true rfl) ?_
  refine wq_j (m := 73) (FIN := st_FIN) (g := (291, 364, lv, [], cb, sb)) (t := []) (A := fun h' r => wl_W E wl_H x x h' ∧ wt_K h162 h') q0_k q0_a q0_h rfl (by decide) (ka_lc (ka_no (by decide)) (ka_lc ka_ti ka_ln)) hL164 (fun F9 k1 => wk_m_post (FIN := F9) (gs := [bp_mf]) hSA hL164 (Nat.le_of_ble_eq_true rfl) (fun h r a b => k1 _ _ ⟨a, b⟩)) (fun h174 r175 ⟨hL176, K179⟩ F177 Ka178 => ?_)
  have hR180 := wt_RK hR168 K179
  have hQ181 := rb_q0 hL164 hQ169 F177 Ka178
  show bh_G E st_FIN ((291, 364, lv, [.int r175], cb, sb) :: [], h174, none)
  refine bl_pop (pc' := 365) bt_291_364 rfl rfl ?_
  refine bl_go (pc' := 1452) bt_291_365 rfl ?_
  exact kk _ _ _ hL176 hR180 hQ181
set_option maxHeartbeats 40000000 in
theorem wl_k_6 {i x : Int32} {lv : mm_V} {h : mm_H} {o : Option Value} (hST : wt_ST E) (hSA : ∀ {x y : Int32} (ρ : Nat → Int32), en_SA E ρ (wl_o x y) mt_SB) (h8 : ∃ q, E.2[8]? = some q) (hS : bl_S E b n xs) (hn : n ≤ 3072) (g0 : mm_get lv 0 = some (.ref b)) (g1 : mm_get lv 1 = some (.ref (E.1 + 0))) (g2 : mm_get lv 2 = some (.ref (E.1 + 88))) (g3 : mm_get lv 3 = some (.int i)) (hi0 : 0 ≤ i.toInt) (hi5 : i.toInt + 6 ≤ (n : Int)) (hL : wl_W E wl_H x x h) (hR : wt_R x x h) (hQ : rb_R h) (kk : ∀ (h' : mm_H) (x' : Int32) (o' : Option Value), wl_W E wl_H x' x' h' → wt_R x' x' h' → rb_R h' → bh_G E st_FIN ((291, 1452, lv, [], cb, sb) :: [], h', o')) : bh_G E st_FIN ((291, 368, lv, [], cb, sb) :: [], h, o) := by
  refine bl_ld (pc' := 369) bt_291_368 rfl rfl (fun _ _ _ => rfl) g1 rfl ?_
  refine bl_ld (pc' := 370) bt_291_369 rfl rfl (fun _ _ _ => rfl) g0 rfl ?_
  refine bl_ld (pc' := 371) bt_291_370 rfl rfl (fun _ _ _ => rfl) g3 rfl ?_
  refine bl_c (pc' := 372) (n := 1) bt_291_371 rfl rfl (fun _ _ _ => rfl) (by decide) (fun c182 e183 => ?_)
  refine bl_add (pc' := 373) bt_291_372 rfl (by omega) (by omega) (fun v184 e185 => ?_)
  refine bl_sc (pc' := 374) bt_291_373 rfl hS (by omega) (by omega) ?_
  refine bl_cv (pc' := 377) (st := []) (args := [.int (xs (v184).toInt.toNat)]) (c := 0) (ci := 8) bt_291_374 rfl rfl (by decide) (wl_o0 hL) (by decide) (Nat.succ_lt_succ (Nat.zero_lt_succ _)) rfl (Nat.le_of_ble_eq_true rfl) (Nat.le_of_ble_eq_true rfl) ?_
  refine wq_j (m := 260) (FIN := st_FIN) (g := (291, 377, lv, [], cb, sb)) (t := []) (A := fun h' r => wl_W E wl_H x x h' ∧ wt_K h h') q0_k q0_a q0_h rfl (by decide) (ka_lc (ka_no (by decide)) (ka_lc ka_ti ka_ln)) hL (fun F9 k1 => wk_c_ship (FIN := F9) (gs := [bp_mf]) hSA h8 hL (Nat.le_of_ble_eq_true rfl) (fun h r a b => k1 _ _ ⟨a, b⟩)) (fun h186 r187 ⟨hL188, K191⟩ F189 Ka190 => ?_)
  have hR192 := wt_RK hR K191
  have hQ193 := rb_q0 hL hQ F189 Ka190
  show bh_G E st_FIN ((291, 377, lv, [.int r187], cb, sb) :: [], h186, none)
  refine bl_pop (pc' := 378) bt_291_377 rfl rfl ?_
  refine bl_ld (pc' := 379) bt_291_378 rfl rfl (fun _ _ _ => rfl) g2 rfl ?_
  refine bl_ld (pc' := 380) bt_291_379 rfl rfl (fun _ _ _ => rfl) g0 rfl ?_
  refine bl_ld (pc' := 381) bt_291_380 rfl rfl (fun _ _ _ => rfl) g3 rfl ?_
  refine bl_c (pc' := 382) (n := 1) bt_291_381 rfl rfl (fun _ _ _ => rfl) (by decide) (fun c194 e195 => ?_)
  refine bl_add (pc' := 383) bt_291_382 rfl (by omega) (by omega) (fun v196 e197 => ?_)
  refine bl_sc (pc' := 384) bt_291_383 rfl hS (by omega) (by omega) ?_
  refine bl_cv (pc' := 387) (st := []) (args := [.int (xs (v196).toInt.toNat)]) (c := 88) (ci := 9) bt_291_384 rfl rfl (by decide) (wl_o88 hL188) (by decide) (Nat.succ_lt_succ (Nat.zero_lt_succ _)) rfl (Nat.le_of_ble_eq_true rfl) (Nat.le_of_ble_eq_true rfl) ?_
  refine wq_j (m := 87) (FIN := st_FIN) (g := (291, 387, lv, [], cb, sb)) (t := []) (A := fun h' r => wl_W E wl_H x x h' ∧ wt_K h186 h') q0_k q0_a q0_h rfl (by decide) (ka_lc (ka_no (by decide)) (ka_lc ka_ti ka_ln)) hL188 (fun F9 k1 => wk_m_ship (FIN := F9) (gs := [bp_mf]) hSA hL188 (Nat.le_of_ble_eq_true rfl) (fun h r a b => k1 _ _ ⟨a, b⟩)) (fun h198 r199 ⟨hL200, K203⟩ F201 Ka202 => ?_)
  have hR204 := wt_RK hR192 K203
  have hQ205 := rb_q0 hL188 hQ193 F201 Ka202
  show bh_G E st_FIN ((291, 387, lv, [.int r199], cb, sb) :: [], h198, none)
  refine bl_pop (pc' := 388) bt_291_387 rfl rfl ?_
  refine bl_go (pc' := 1452) bt_291_388 rfl ?_
  exact kk _ _ _ hL200 hR204 hQ205
set_option maxHeartbeats 40000000 in
theorem wl_k_7 {i x : Int32} {lv : mm_V} {h : mm_H} {o : Option Value} (hST : wt_ST E) (hSA : ∀ {x y : Int32} (ρ : Nat → Int32), en_SA E ρ (wl_o x y) mt_SB) (h8 : ∃ q, E.2[8]? = some q) (hS : bl_S E b n xs) (hn : n ≤ 3072) (g0 : mm_get lv 0 = some (.ref b)) (g1 : mm_get lv 1 = some (.ref (E.1 + 0))) (g2 : mm_get lv 2 = some (.ref (E.1 + 88))) (g3 : mm_get lv 3 = some (.int i)) (hi0 : 0 ≤ i.toInt) (hi5 : i.toInt + 6 ≤ (n : Int)) (hL : wl_W E wl_H x x h) (hR : wt_R x x h) (hQ : rb_R h) (kk : ∀ (h' : mm_H) (x' : Int32) (o' : Option Value), wl_W E wl_H x' x' h' → wt_R x' x' h' → rb_R h' → bh_G E st_FIN ((291, 1452, lv, [], cb, sb) :: [], h', o')) : bh_G E st_FIN ((291, 391, lv, [], cb, sb) :: [], h, o) := by
  refine bl_ld (pc' := 392) bt_291_391 rfl rfl (fun _ _ _ => rfl) g1 rfl ?_
  refine bl_ld (pc' := 393) bt_291_392 rfl rfl (fun _ _ _ => rfl) g0 rfl ?_
  refine bl_ld (pc' := 394) bt_291_393 rfl rfl (fun _ _ _ => rfl) g3 rfl ?_
  refine bl_c (pc' := 395) (n := 1) bt_291_394 rfl rfl (fun _ _ _ => rfl) (by decide) (fun c206 e207 => ?_)
  refine bl_add (pc' := 396) bt_291_395 rfl (by omega) (by omega) (fun v208 e209 => ?_)
  refine bl_sc (pc' := 397) bt_291_396 rfl hS (by omega) (by omega) ?_
  refine bl_ld (pc' := 398) bt_291_397 rfl rfl (fun _ _ _ => rfl) g0 rfl ?_
  refine bl_ld (pc' := 399) bt_291_398 rfl rfl (fun _ _ _ => rfl) g3 rfl ?_
  refine bl_c (pc' := 400) (n := 2) bt_291_399 rfl rfl (fun _ _ _ => rfl) (by decide) (fun c210 e211 => ?_)
  refine bl_add (pc' := 401) bt_291_400 rfl (by omega) (by omega) (fun v212 e213 => ?_)
  refine bl_sc (pc' := 402) bt_291_401 rfl hS (by omega) (by omega) ?_
  refine bl_i0 (pc' := 405) (pt := 409) bt_291_402 rfl rfl (fun k214 => ?_) (fun k214 => ?_)
  · replace k214 : ((xs (v212).toInt.toNat)).toInt = 0 := k214
    refine bl_c (pc' := 410) (n := 0) bt_291_409 rfl rfl (fun _ _ _ => rfl) (by decide) (fun c215 e216 => ?_)
    refine bl_cv (pc' := 413) (st := []) (args := [.int c215, .int (xs (v208).toInt.toNat)]) (c := 0) (ci := 8) bt_291_410 rfl rfl (by decide) (wl_o0 hL) (by decide) (Nat.succ_lt_succ (Nat.zero_lt_succ _)) rfl (Nat.le_of_ble_eq_true rfl) (Nat.le_of_ble_eq_true rfl) ?_
    refine wq_j (m := 235) (FIN := st_FIN) (g := (291, 413, lv, [], cb, sb)) (t := []) (A := fun h' r => wl_W E wl_H x x h' ∧ wt_K h h') q0_k q0_a q0_h rfl (by decide) (ka_lc (ka_no (by decide)) (ka_lc ka_ti (ka_lc ka_ti ka_ln))) hL (fun F9 k1 => wk_c_hide (FIN := F9) (gs := [bp_mf]) (by omega) hSA h8 hL (Nat.le_of_ble_eq_true rfl) (fun h r a b => k1 _ _ ⟨a, b⟩)) (fun h217 r218 ⟨hL219, K222⟩ F220 Ka221 => ?_)
    have hR223 := wt_RK hR K222
    have hQ224 := rb_q0 hL hQ F220 Ka221
    show bh_G E st_FIN ((291, 413, lv, [.int r218], cb, sb) :: [], h217, none)
    refine bl_pop (pc' := 414) bt_291_413 rfl rfl ?_
    refine bl_ld (pc' := 415) bt_291_414 rfl rfl (fun _ _ _ => rfl) g2 rfl ?_
    refine bl_ld (pc' := 416) bt_291_415 rfl rfl (fun _ _ _ => rfl) g0 rfl ?_
    refine bl_ld (pc' := 417) bt_291_416 rfl rfl (fun _ _ _ => rfl) g3 rfl ?_
    refine bl_c (pc' := 418) (n := 1) bt_291_417 rfl rfl (fun _ _ _ => rfl) (by decide) (fun c225 e226 => ?_)
    refine bl_add (pc' := 419) bt_291_418 rfl (by omega) (by omega) (fun v227 e228 => ?_)
    refine bl_sc (pc' := 420) bt_291_419 rfl hS (by omega) (by omega) ?_
    refine bl_ld (pc' := 421) bt_291_420 rfl rfl (fun _ _ _ => rfl) g0 rfl ?_
    refine bl_ld (pc' := 422) bt_291_421 rfl rfl (fun _ _ _ => rfl) g3 rfl ?_
    refine bl_c (pc' := 423) (n := 2) bt_291_422 rfl rfl (fun _ _ _ => rfl) (by decide) (fun c229 e230 => ?_)
    refine bl_add (pc' := 424) bt_291_423 rfl (by omega) (by omega) (fun v231 e232 => ?_)
    refine bl_sc (pc' := 425) bt_291_424 rfl hS (by omega) (by omega) ?_
    refine bl_i0 (pc' := 428) (pt := 432) bt_291_425 rfl rfl (fun k233 => ?_) (fun k233 => ?_)
    · replace k233 : ((xs (v231).toInt.toNat)).toInt = 0 := k233
      refine bl_c (pc' := 433) (n := 0) bt_291_432 rfl rfl (fun _ _ _ => rfl) (by decide) (fun c234 e235 => ?_)
      refine bl_cv (pc' := 436) (st := []) (args := [.int c234, .int (xs (v227).toInt.toNat)]) (c := 88) (ci := 9) bt_291_433 rfl rfl (by decide) (wl_o88 hL219) (by decide) (Nat.succ_lt_succ (Nat.zero_lt_succ _)) rfl (Nat.le_of_ble_eq_true rfl) (Nat.le_of_ble_eq_true rfl) ?_
      refine wq_j (m := 40) (FIN := st_FIN) (g := (291, 436, lv, [], cb, sb)) (t := []) (A := fun h' r => wl_W E wl_H x x h' ∧ wt_K h217 h') q0_k q0_a q0_h rfl (by decide) (ka_lc (ka_no (by decide)) (ka_lc ka_ti (ka_lc ka_ti ka_ln))) hL219 (fun F9 k1 => wk_m_hide (FIN := F9) (gs := [bp_mf]) (by omega) hSA hL219 (Nat.le_of_ble_eq_true rfl) (fun h r a b => k1 _ _ ⟨a, b⟩)) (fun h236 r237 ⟨hL238, K241⟩ F239 Ka240 => ?_)
      have hR242 := wt_RK hR223 K241
      have hQ243 := rb_q0 hL219 hQ224 F239 Ka240
      show bh_G E st_FIN ((291, 436, lv, [.int r237], cb, sb) :: [], h236, none)
      refine bl_pop (pc' := 437) bt_291_436 rfl rfl ?_
      refine bl_go (pc' := 1452) bt_291_437 rfl ?_
      exact kk _ _ _ hL238 hR242 hQ243
    · replace k233 : ¬ (((xs (v231).toInt.toNat)).toInt = 0) := k233
      refine bl_c (pc' := 429) (n := 1) bt_291_428 rfl rfl (fun _ _ _ => rfl) (by decide) (fun c244 e245 => ?_)
      refine bl_go (pc' := 433) bt_291_429 rfl ?_
      refine bl_cv (pc' := 436) (st := []) (args := [.int c244, .int (xs (v227).toInt.toNat)]) (c := 88) (ci := 9) bt_291_433 rfl rfl (by decide) (wl_o88 hL219) (by decide) (Nat.succ_lt_succ (Nat.zero_lt_succ _)) rfl (Nat.le_of_ble_eq_true rfl) (Nat.le_of_ble_eq_true rfl) ?_
      refine wq_j (m := 40) (FIN := st_FIN) (g := (291, 436, lv, [], cb, sb)) (t := []) (A := fun h' r => wl_W E wl_H x x h' ∧ wt_K h217 h') q0_k q0_a q0_h rfl (by decide) (ka_lc (ka_no (by decide)) (ka_lc ka_ti (ka_lc ka_ti ka_ln))) hL219 (fun F9 k1 => wk_m_hide (FIN := F9) (gs := [bp_mf]) (by omega) hSA hL219 (Nat.le_of_ble_eq_true rfl) (fun h r a b => k1 _ _ ⟨a, b⟩)) (fun h246 r247 ⟨hL248, K251⟩ F249 Ka250 => ?_)
      have hR252 := wt_RK hR223 K251
      have hQ253 := rb_q0 hL219 hQ224 F249 Ka250
      show bh_G E st_FIN ((291, 436, lv, [.int r247], cb, sb) :: [], h246, none)
      refine bl_pop (pc' := 437) bt_291_436 rfl rfl ?_
      refine bl_go (pc' := 1452) bt_291_437 rfl ?_
      exact kk _ _ _ hL248 hR252 hQ253
  · replace k214 : ¬ (((xs (v212).toInt.toNat)).toInt = 0) := k214
    refine bl_c (pc' := 406) (n := 1) bt_291_405 rfl rfl (fun _ _ _ => rfl) (by decide) (fun c254 e255 => ?_)
    refine bl_go (pc' := 410) bt_291_406 rfl ?_
    refine bl_cv (pc' := 413) (st := []) (args := [.int c254, .int (xs (v208).toInt.toNat)]) (c := 0) (ci := 8) bt_291_410 rfl rfl (by decide) (wl_o0 hL) (by decide) (Nat.succ_lt_succ (Nat.zero_lt_succ _)) rfl (Nat.le_of_ble_eq_true rfl) (Nat.le_of_ble_eq_true rfl) ?_
    refine wq_j (m := 235) (FIN := st_FIN) (g := (291, 413, lv, [], cb, sb)) (t := []) (A := fun h' r => wl_W E wl_H x x h' ∧ wt_K h h') q0_k q0_a q0_h rfl (by decide) (ka_lc (ka_no (by decide)) (ka_lc ka_ti (ka_lc ka_ti ka_ln))) hL (fun F9 k1 => wk_c_hide (FIN := F9) (gs := [bp_mf]) (by omega) hSA h8 hL (Nat.le_of_ble_eq_true rfl) (fun h r a b => k1 _ _ ⟨a, b⟩)) (fun h256 r257 ⟨hL258, K261⟩ F259 Ka260 => ?_)
    have hR262 := wt_RK hR K261
    have hQ263 := rb_q0 hL hQ F259 Ka260
    show bh_G E st_FIN ((291, 413, lv, [.int r257], cb, sb) :: [], h256, none)
    refine bl_pop (pc' := 414) bt_291_413 rfl rfl ?_
    refine bl_ld (pc' := 415) bt_291_414 rfl rfl (fun _ _ _ => rfl) g2 rfl ?_
    refine bl_ld (pc' := 416) bt_291_415 rfl rfl (fun _ _ _ => rfl) g0 rfl ?_
    refine bl_ld (pc' := 417) bt_291_416 rfl rfl (fun _ _ _ => rfl) g3 rfl ?_
    refine bl_c (pc' := 418) (n := 1) bt_291_417 rfl rfl (fun _ _ _ => rfl) (by decide) (fun c264 e265 => ?_)
    refine bl_add (pc' := 419) bt_291_418 rfl (by omega) (by omega) (fun v266 e267 => ?_)
    refine bl_sc (pc' := 420) bt_291_419 rfl hS (by omega) (by omega) ?_
    refine bl_ld (pc' := 421) bt_291_420 rfl rfl (fun _ _ _ => rfl) g0 rfl ?_
    refine bl_ld (pc' := 422) bt_291_421 rfl rfl (fun _ _ _ => rfl) g3 rfl ?_
    refine bl_c (pc' := 423) (n := 2) bt_291_422 rfl rfl (fun _ _ _ => rfl) (by decide) (fun c268 e269 => ?_)
    refine bl_add (pc' := 424) bt_291_423 rfl (by omega) (by omega) (fun v270 e271 => ?_)
    refine bl_sc (pc' := 425) bt_291_424 rfl hS (by omega) (by omega) ?_
    refine bl_i0 (pc' := 428) (pt := 432) bt_291_425 rfl rfl (fun k272 => ?_) (fun k272 => ?_)
    · replace k272 : ((xs (v270).toInt.toNat)).toInt = 0 := k272
      refine bl_c (pc' := 433) (n := 0) bt_291_432 rfl rfl (fun _ _ _ => rfl) (by decide) (fun c273 e274 => ?_)
      refine bl_cv (pc' := 436) (st := []) (args := [.int c273, .int (xs (v266).toInt.toNat)]) (c := 88) (ci := 9) bt_291_433 rfl rfl (by decide) (wl_o88 hL258) (by decide) (Nat.succ_lt_succ (Nat.zero_lt_succ _)) rfl (Nat.le_of_ble_eq_true rfl) (Nat.le_of_ble_eq_true rfl) ?_
      refine wq_j (m := 40) (FIN := st_FIN) (g := (291, 436, lv, [], cb, sb)) (t := []) (A := fun h' r => wl_W E wl_H x x h' ∧ wt_K h256 h') q0_k q0_a q0_h rfl (by decide) (ka_lc (ka_no (by decide)) (ka_lc ka_ti (ka_lc ka_ti ka_ln))) hL258 (fun F9 k1 => wk_m_hide (FIN := F9) (gs := [bp_mf]) (by omega) hSA hL258 (Nat.le_of_ble_eq_true rfl) (fun h r a b => k1 _ _ ⟨a, b⟩)) (fun h275 r276 ⟨hL277, K280⟩ F278 Ka279 => ?_)
      have hR281 := wt_RK hR262 K280
      have hQ282 := rb_q0 hL258 hQ263 F278 Ka279
      show bh_G E st_FIN ((291, 436, lv, [.int r276], cb, sb) :: [], h275, none)
      refine bl_pop (pc' := 437) bt_291_436 rfl rfl ?_
      refine bl_go (pc' := 1452) bt_291_437 rfl ?_
      exact kk _ _ _ hL277 hR281 hQ282
    · replace k272 : ¬ (((xs (v270).toInt.toNat)).toInt = 0) := k272
      refine bl_c (pc' := 429) (n := 1) bt_291_428 rfl rfl (fun _ _ _ => rfl) (by decide) (fun c283 e284 => ?_)
      refine bl_go (pc' := 433) bt_291_429 rfl ?_
      refine bl_cv (pc' := 436) (st := []) (args := [.int c283, .int (xs (v266).toInt.toNat)]) (c := 88) (ci := 9) bt_291_433 rfl rfl (by decide) (wl_o88 hL258) (by decide) (Nat.succ_lt_succ (Nat.zero_lt_succ _)) rfl (Nat.le_of_ble_eq_true rfl) (Nat.le_of_ble_eq_true rfl) ?_
      refine wq_j (m := 40) (FIN := st_FIN) (g := (291, 436, lv, [], cb, sb)) (t := []) (A := fun h' r => wl_W E wl_H x x h' ∧ wt_K h256 h') q0_k q0_a q0_h rfl (by decide) (ka_lc (ka_no (by decide)) (ka_lc ka_ti (ka_lc ka_ti ka_ln))) hL258 (fun F9 k1 => wk_m_hide (FIN := F9) (gs := [bp_mf]) (by omega) hSA hL258 (Nat.le_of_ble_eq_true rfl) (fun h r a b => k1 _ _ ⟨a, b⟩)) (fun h285 r286 ⟨hL287, K290⟩ F288 Ka289 => ?_)
      have hR291 := wt_RK hR262 K290
      have hQ292 := rb_q0 hL258 hQ263 F288 Ka289
      show bh_G E st_FIN ((291, 436, lv, [.int r286], cb, sb) :: [], h285, none)
      refine bl_pop (pc' := 437) bt_291_436 rfl rfl ?_
      refine bl_go (pc' := 1452) bt_291_437 rfl ?_
      exact kk _ _ _ hL287 hR291 hQ292
set_option maxHeartbeats 40000000 in
theorem wl_k_8 {i x : Int32} {lv : mm_V} {h : mm_H} {o : Option Value} (hST : wt_ST E) (hSA : ∀ {x y : Int32} (ρ : Nat → Int32), en_SA E ρ (wl_o x y) mt_SB) (h8 : ∃ q, E.2[8]? = some q) (hS : bl_S E b n xs) (hn : n ≤ 3072) (g0 : mm_get lv 0 = some (.ref b)) (g1 : mm_get lv 1 = some (.ref (E.1 + 0))) (g2 : mm_get lv 2 = some (.ref (E.1 + 88))) (g3 : mm_get lv 3 = some (.int i)) (hi0 : 0 ≤ i.toInt) (hi5 : i.toInt + 6 ≤ (n : Int)) (hL : wl_W E wl_H x x h) (hR : wt_R x x h) (hQ : rb_R h) (kk : ∀ (h' : mm_H) (x' : Int32) (o' : Option Value), wl_W E wl_H x' x' h' → wt_R x' x' h' → rb_R h' → bh_G E st_FIN ((291, 1452, lv, [], cb, sb) :: [], h', o')) : bh_G E st_FIN ((291, 440, lv, [], cb, sb) :: [], h, o) := by
  refine bl_ld (pc' := 441) bt_291_440 rfl rfl (fun _ _ _ => rfl) g1 rfl ?_
  refine bl_ld (pc' := 442) bt_291_441 rfl rfl (fun _ _ _ => rfl) g0 rfl ?_
  refine bl_ld (pc' := 443) bt_291_442 rfl rfl (fun _ _ _ => rfl) g3 rfl ?_
  refine bl_c (pc' := 444) (n := 1) bt_291_443 rfl rfl (fun _ _ _ => rfl) (by decide) (fun c293 e294 => ?_)
  refine bl_add (pc' := 445) bt_291_444 rfl (by omega) (by omega) (fun v295 e296 => ?_)
  refine bl_sc (pc' := 446) bt_291_445 rfl hS (by omega) (by omega) ?_
  refine bl_ld (pc' := 447) bt_291_446 rfl rfl (fun _ _ _ => rfl) g0 rfl ?_
  refine bl_ld (pc' := 448) bt_291_447 rfl rfl (fun _ _ _ => rfl) g3 rfl ?_
  refine bl_c (pc' := 449) (n := 2) bt_291_448 rfl rfl (fun _ _ _ => rfl) (by decide) (fun c297 e298 => ?_)
  refine bl_add (pc' := 450) bt_291_449 rfl (by omega) (by omega) (fun v299 e300 => ?_)
  refine bl_sc (pc' := 451) bt_291_450 rfl hS (by omega) (by omega) ?_
  refine bl_ld (pc' := 452) bt_291_451 rfl rfl (fun _ _ _ => rfl) g0 rfl ?_
  refine bl_ld (pc' := 453) bt_291_452 rfl rfl (fun _ _ _ => rfl) g3 rfl ?_
  refine bl_c (pc' := 454) (n := 3) bt_291_453 rfl rfl (fun _ _ _ => rfl) (by decide) (fun c301 e302 => ?_)
  refine bl_add (pc' := 455) bt_291_454 rfl (by omega) (by omega) (fun v303 e304 => ?_)
  refine bl_sc (pc' := 456) bt_291_455 rfl hS (by omega) (by omega) ?_
  refine bl_ld (pc' := 457) bt_291_456 rfl rfl (fun _ _ _ => rfl) g0 rfl ?_
  refine bl_ld (pc' := 458) bt_291_457 rfl rfl (fun _ _ _ => rfl) g3 rfl ?_
  refine bl_c (pc' := 459) (n := 4) bt_291_458 rfl rfl (fun _ _ _ => rfl) (by decide) (fun c305 e306 => ?_)
  refine bl_add (pc' := 460) bt_291_459 rfl (by omega) (by omega) (fun v307 e308 => ?_)
  refine bl_sc (pc' := 461) bt_291_460 rfl hS (by omega) (by omega) ?_
  refine bl_cv (pc' := 464) (st := []) (args := [.int (xs (v307).toInt.toNat), .int (xs (v303).toInt.toNat), .int (xs (v299).toInt.toNat), .int (xs (v295).toInt.toNat)]) (c := 0) (ci := 8) bt_291_461 rfl rfl (by decide) (wl_o0 hL) (by decide) (Nat.succ_lt_succ (Nat.zero_lt_succ _)) rfl (Nat.le_of_ble_eq_true rfl) (Nat.le_of_ble_eq_true rfl) ?_
  refine wq_j (m := 262) (FIN := st_FIN) (g := (291, 464, lv, [], cb, sb)) (t := []) (A := fun h' r => wl_W E wl_H x x h' ∧ wt_K h h') q0_k q0_a q0_h rfl (by decide) (ka_lc (ka_no (by decide)) (ka_lc ka_ti (ka_lc ka_ti (ka_lc ka_ti (ka_lc ka_ti ka_ln))))) hL (fun F9 k1 => wk_c_stand (FIN := F9) (gs := [bp_mf]) hSA h8 hL (Nat.le_of_ble_eq_true rfl) (fun h r a b => k1 _ _ ⟨a, b⟩)) (fun h309 r310 ⟨hL311, K314⟩ F312 Ka313 => ?_)
  have hR315 := wt_RK hR K314
  have hQ316 := rb_q0 hL hQ F312 Ka313
  show bh_G E st_FIN ((291, 464, lv, [.int r310], cb, sb) :: [], h309, none)
  refine bl_pop (pc' := 465) bt_291_464 rfl rfl ?_
  refine bl_ld (pc' := 466) bt_291_465 rfl rfl (fun _ _ _ => rfl) g2 rfl ?_
  refine bl_ld (pc' := 467) bt_291_466 rfl rfl (fun _ _ _ => rfl) g0 rfl ?_
  refine bl_ld (pc' := 468) bt_291_467 rfl rfl (fun _ _ _ => rfl) g3 rfl ?_
  refine bl_c (pc' := 469) (n := 1) bt_291_468 rfl rfl (fun _ _ _ => rfl) (by decide) (fun c317 e318 => ?_)
  refine bl_add (pc' := 470) bt_291_469 rfl (by omega) (by omega) (fun v319 e320 => ?_)
  refine bl_sc (pc' := 471) bt_291_470 rfl hS (by omega) (by omega) ?_
  refine bl_ld (pc' := 472) bt_291_471 rfl rfl (fun _ _ _ => rfl) g0 rfl ?_
  refine bl_ld (pc' := 473) bt_291_472 rfl rfl (fun _ _ _ => rfl) g3 rfl ?_
  refine bl_c (pc' := 474) (n := 2) bt_291_473 rfl rfl (fun _ _ _ => rfl) (by decide) (fun c321 e322 => ?_)
  refine bl_add (pc' := 475) bt_291_474 rfl (by omega) (by omega) (fun v323 e324 => ?_)
  refine bl_sc (pc' := 476) bt_291_475 rfl hS (by omega) (by omega) ?_
  refine bl_ld (pc' := 477) bt_291_476 rfl rfl (fun _ _ _ => rfl) g0 rfl ?_
  refine bl_ld (pc' := 478) bt_291_477 rfl rfl (fun _ _ _ => rfl) g3 rfl ?_
  refine bl_c (pc' := 479) (n := 3) bt_291_478 rfl rfl (fun _ _ _ => rfl) (by decide) (fun c325 e326 => ?_)
  refine bl_add (pc' := 480) bt_291_479 rfl (by omega) (by omega) (fun v327 e328 => ?_)
  refine bl_sc (pc' := 481) bt_291_480 rfl hS (by omega) (by omega) ?_
  refine bl_ld (pc' := 482) bt_291_481 rfl rfl (fun _ _ _ => rfl) g0 rfl ?_
  refine bl_ld (pc' := 483) bt_291_482 rfl rfl (fun _ _ _ => rfl) g3 rfl ?_
  refine bl_c (pc' := 484) (n := 4) bt_291_483 rfl rfl (fun _ _ _ => rfl) (by decide) (fun c329 e330 => ?_)
  refine bl_add (pc' := 485) bt_291_484 rfl (by omega) (by omega) (fun v331 e332 => ?_)
  refine bl_sc (pc' := 486) bt_291_485 rfl hS (by omega) (by omega) ?_
  refine bl_cv (pc' := 489) (st := []) (args := [.int (xs (v331).toInt.toNat), .int (xs (v327).toInt.toNat), .int (xs (v323).toInt.toNat), .int (xs (v319).toInt.toNat)]) (c := 88) (ci := 9) bt_291_486 rfl rfl (by decide) (wl_o88 hL311) (by decide) (Nat.succ_lt_succ (Nat.zero_lt_succ _)) rfl (Nat.le_of_ble_eq_true rfl) (Nat.le_of_ble_eq_true rfl) ?_
  refine wq_j (m := 93) (FIN := st_FIN) (g := (291, 489, lv, [], cb, sb)) (t := []) (A := fun h' r => wl_W E wl_H x x h' ∧ wt_K h309 h') q0_k q0_a q0_h rfl (by decide) (ka_lc (ka_no (by decide)) (ka_lc ka_ti (ka_lc ka_ti (ka_lc ka_ti (ka_lc ka_ti ka_ln))))) hL311 (fun F9 k1 => wk_m_stand (FIN := F9) (gs := [bp_mf]) hSA hL311 (Nat.le_of_ble_eq_true rfl) (fun h r a b => k1 _ _ ⟨a, b⟩)) (fun h333 r334 ⟨hL335, K338⟩ F336 Ka337 => ?_)
  have hR339 := wt_RK hR315 K338
  have hQ340 := rb_q0 hL311 hQ316 F336 Ka337
  show bh_G E st_FIN ((291, 489, lv, [.int r334], cb, sb) :: [], h333, none)
  refine bl_pop (pc' := 490) bt_291_489 rfl rfl ?_
  refine bl_go (pc' := 1452) bt_291_490 rfl ?_
  exact kk _ _ _ hL335 hR339 hQ340
set_option maxHeartbeats 40000000 in
theorem wl_k_9 {i x : Int32} {lv : mm_V} {h : mm_H} {o : Option Value} (hST : wt_ST E) (hSA : ∀ {x y : Int32} (ρ : Nat → Int32), en_SA E ρ (wl_o x y) mt_SB) (h8 : ∃ q, E.2[8]? = some q) (hS : bl_S E b n xs) (hn : n ≤ 3072) (g0 : mm_get lv 0 = some (.ref b)) (g1 : mm_get lv 1 = some (.ref (E.1 + 0))) (g2 : mm_get lv 2 = some (.ref (E.1 + 88))) (g3 : mm_get lv 3 = some (.int i)) (hi0 : 0 ≤ i.toInt) (hi5 : i.toInt + 6 ≤ (n : Int)) (hL : wl_W E wl_H x x h) (hR : wt_R x x h) (hQ : rb_R h) (kk : ∀ (h' : mm_H) (x' : Int32) (o' : Option Value), wl_W E wl_H x' x' h' → wt_R x' x' h' → rb_R h' → bh_G E st_FIN ((291, 1452, lv, [], cb, sb) :: [], h', o')) : bh_G E st_FIN ((291, 493, lv, [], cb, sb) :: [], h, o) := by
  refine bl_ld (pc' := 494) bt_291_493 rfl rfl (fun _ _ _ => rfl) g1 rfl ?_
  refine bl_ld (pc' := 495) bt_291_494 rfl rfl (fun _ _ _ => rfl) g0 rfl ?_
  refine bl_ld (pc' := 496) bt_291_495 rfl rfl (fun _ _ _ => rfl) g3 rfl ?_
  refine bl_c (pc' := 497) (n := 1) bt_291_496 rfl rfl (fun _ _ _ => rfl) (by decide) (fun c341 e342 => ?_)
  refine bl_add (pc' := 498) bt_291_497 rfl (by omega) (by omega) (fun v343 e344 => ?_)
  refine bl_sc (pc' := 499) bt_291_498 rfl hS (by omega) (by omega) ?_
  refine bl_cv (pc' := 502) (st := []) (args := [.int (xs (v343).toInt.toNat)]) (c := 0) (ci := 8) bt_291_499 rfl rfl (by decide) (wl_o0 hL) (by decide) (Nat.succ_lt_succ (Nat.zero_lt_succ _)) rfl (Nat.le_of_ble_eq_true rfl) (Nat.le_of_ble_eq_true rfl) ?_
  refine wq_j (m := 271) (FIN := st_FIN) (g := (291, 502, lv, [], cb, sb)) (t := []) (A := fun h' r => wl_W E wl_H x x h' ∧ wt_K h h') q0_k q0_a q0_h rfl (by decide) (ka_lc (ka_no (by decide)) (ka_lc ka_ti ka_ln)) hL (fun F9 k1 => wk_c_watches (FIN := F9) (gs := [bp_mf]) hSA h8 hL (Nat.le_of_ble_eq_true rfl) (fun h r a b => k1 _ _ ⟨a, b⟩)) (fun h345 r346 ⟨hL347, K350⟩ F348 Ka349 => ?_)
  have hR351 := wt_RK hR K350
  have hQ352 := rb_q0 hL hQ F348 Ka349
  show bh_G E st_FIN ((291, 502, lv, [.int r346], cb, sb) :: [], h345, none)
  refine bl_pop (pc' := 503) bt_291_502 rfl rfl ?_
  refine bl_ld (pc' := 504) bt_291_503 rfl rfl (fun _ _ _ => rfl) g2 rfl ?_
  refine bl_ld (pc' := 505) bt_291_504 rfl rfl (fun _ _ _ => rfl) g0 rfl ?_
  refine bl_ld (pc' := 506) bt_291_505 rfl rfl (fun _ _ _ => rfl) g3 rfl ?_
  refine bl_c (pc' := 507) (n := 1) bt_291_506 rfl rfl (fun _ _ _ => rfl) (by decide) (fun c353 e354 => ?_)
  refine bl_add (pc' := 508) bt_291_507 rfl (by omega) (by omega) (fun v355 e356 => ?_)
  refine bl_sc (pc' := 509) bt_291_508 rfl hS (by omega) (by omega) ?_
  refine bl_cv (pc' := 512) (st := []) (args := [.int (xs (v355).toInt.toNat)]) (c := 88) (ci := 9) bt_291_509 rfl rfl (by decide) (wl_o88 hL347) (by decide) (Nat.succ_lt_succ (Nat.zero_lt_succ _)) rfl (Nat.le_of_ble_eq_true rfl) (Nat.le_of_ble_eq_true rfl) ?_
  refine wq_j (m := 107) (FIN := st_FIN) (g := (291, 512, lv, [], cb, sb)) (t := []) (A := fun h' r => wl_W E wl_H x x h' ∧ wt_K h345 h') q0_k q0_a q0_h rfl (by decide) (ka_lc (ka_no (by decide)) (ka_lc ka_ti ka_ln)) hL347 (fun F9 k1 => wk_m_watches (FIN := F9) (gs := [bp_mf]) hSA hL347 (Nat.le_of_ble_eq_true rfl) (fun h r a b => k1 _ _ ⟨a, b⟩)) (fun h357 r358 ⟨hL359, K362⟩ F360 Ka361 => ?_)
  have hR363 := wt_RK hR351 K362
  have hQ364 := rb_q0 hL347 hQ352 F360 Ka361
  show bh_G E st_FIN ((291, 512, lv, [.int r358], cb, sb) :: [], h357, none)
  refine bl_pop (pc' := 513) bt_291_512 rfl rfl ?_
  refine bl_go (pc' := 1452) bt_291_513 rfl ?_
  exact kk _ _ _ hL359 hR363 hQ364
set_option maxHeartbeats 40000000 in
theorem wl_k_10 {i x : Int32} {lv : mm_V} {h : mm_H} {o : Option Value} (hST : wt_ST E) (hSA : ∀ {x y : Int32} (ρ : Nat → Int32), en_SA E ρ (wl_o x y) mt_SB) (h8 : ∃ q, E.2[8]? = some q) (hS : bl_S E b n xs) (hn : n ≤ 3072) (g0 : mm_get lv 0 = some (.ref b)) (g1 : mm_get lv 1 = some (.ref (E.1 + 0))) (g2 : mm_get lv 2 = some (.ref (E.1 + 88))) (g3 : mm_get lv 3 = some (.int i)) (hi0 : 0 ≤ i.toInt) (hi5 : i.toInt + 6 ≤ (n : Int)) (hL : wl_W E wl_H x x h) (hR : wt_R x x h) (hQ : rb_R h) (kk : ∀ (h' : mm_H) (x' : Int32) (o' : Option Value), wl_W E wl_H x' x' h' → wt_R x' x' h' → rb_R h' → bh_G E st_FIN ((291, 1452, lv, [], cb, sb) :: [], h', o')) : bh_G E st_FIN ((291, 516, lv, [], cb, sb) :: [], h, o) := by
  refine bl_ld (pc' := 517) bt_291_516 rfl rfl (fun _ _ _ => rfl) g1 rfl ?_
  refine bl_cv (pc' := 520) (st := []) (args := []) (c := 0) (ci := 8) bt_291_517 rfl rfl (by decide) (wl_o0 hL) (by decide) (Nat.succ_lt_succ (Nat.zero_lt_succ _)) rfl (Nat.le_of_ble_eq_true rfl) (Nat.le_of_ble_eq_true rfl) ?_
  refine wq_j (m := 269) (FIN := st_FIN) (g := (291, 520, lv, [], cb, sb)) (t := []) (A := fun h' r => wl_W E wl_H x x h' ∧ wt_K h h') q0_k q0_a q0_h rfl (by decide) (ka_lc (ka_no (by decide)) ka_ln) hL (fun F9 k1 => wk_c_undo (FIN := F9) (gs := [bp_mf]) hSA h8 hL (Nat.le_of_ble_eq_true rfl) (fun h r a b => k1 _ _ ⟨a, b⟩)) (fun h365 r366 ⟨hL367, K370⟩ F368 Ka369 => ?_)
  have hR371 := wt_RK hR K370
  have hQ372 := rb_q0 hL hQ F368 Ka369
  show bh_G E st_FIN ((291, 520, lv, [.int r366], cb, sb) :: [], h365, none)
  refine bl_pop (pc' := 521) bt_291_520 rfl rfl ?_
  refine bl_ld (pc' := 522) bt_291_521 rfl rfl (fun _ _ _ => rfl) g2 rfl ?_
  refine bl_cv (pc' := 525) (st := []) (args := []) (c := 88) (ci := 9) bt_291_522 rfl rfl (by decide) (wl_o88 hL367) (by decide) (Nat.succ_lt_succ (Nat.zero_lt_succ _)) rfl (Nat.le_of_ble_eq_true rfl) (Nat.le_of_ble_eq_true rfl) ?_
  refine wq_j (m := 104) (FIN := st_FIN) (g := (291, 525, lv, [], cb, sb)) (t := []) (A := fun h' r => wl_W E wl_H x x h' ∧ wt_K h365 h') q0_k q0_a q0_h rfl (by decide) (ka_lc (ka_no (by decide)) ka_ln) hL367 (fun F9 k1 => wk_m_undo (FIN := F9) (gs := [bp_mf]) hSA hL367 (Nat.le_of_ble_eq_true rfl) (fun h r a b => k1 _ _ ⟨a, b⟩)) (fun h373 r374 ⟨hL375, K378⟩ F376 Ka377 => ?_)
  have hR379 := wt_RK hR371 K378
  have hQ380 := rb_q0 hL367 hQ372 F376 Ka377
  show bh_G E st_FIN ((291, 525, lv, [.int r374], cb, sb) :: [], h373, none)
  refine bl_pop (pc' := 526) bt_291_525 rfl rfl ?_
  refine bl_go (pc' := 1452) bt_291_526 rfl ?_
  exact kk _ _ _ hL375 hR379 hQ380
set_option maxHeartbeats 40000000 in
theorem wl_k_11 {i x : Int32} {lv : mm_V} {h : mm_H} {o : Option Value} (hST : wt_ST E) (hSA : ∀ {x y : Int32} (ρ : Nat → Int32), en_SA E ρ (wl_o x y) mt_SB) (h8 : ∃ q, E.2[8]? = some q) (hS : bl_S E b n xs) (hn : n ≤ 3072) (g0 : mm_get lv 0 = some (.ref b)) (g1 : mm_get lv 1 = some (.ref (E.1 + 0))) (g2 : mm_get lv 2 = some (.ref (E.1 + 88))) (g3 : mm_get lv 3 = some (.int i)) (hi0 : 0 ≤ i.toInt) (hi5 : i.toInt + 6 ≤ (n : Int)) (hL : wl_W E wl_H x x h) (hR : wt_R x x h) (hQ : rb_R h) (kk : ∀ (h' : mm_H) (x' : Int32) (o' : Option Value), wl_W E wl_H x' x' h' → wt_R x' x' h' → rb_R h' → bh_G E st_FIN ((291, 1452, lv, [], cb, sb) :: [], h', o')) : bh_G E st_FIN ((291, 529, lv, [], cb, sb) :: [], h, o) := by
  refine bl_ld (pc' := 530) bt_291_529 rfl rfl (fun _ _ _ => rfl) g1 rfl ?_
  refine bl_ld (pc' := 531) bt_291_530 rfl rfl (fun _ _ _ => rfl) g0 rfl ?_
  refine bl_ld (pc' := 532) bt_291_531 rfl rfl (fun _ _ _ => rfl) g3 rfl ?_
  refine bl_c (pc' := 533) (n := 1) bt_291_532 rfl rfl (fun _ _ _ => rfl) (by decide) (fun c381 e382 => ?_)
  refine bl_add (pc' := 534) bt_291_533 rfl (by omega) (by omega) (fun v383 e384 => ?_)
  refine bl_sc (pc' := 535) bt_291_534 rfl hS (by omega) (by omega) ?_
  refine bl_ld (pc' := 536) bt_291_535 rfl rfl (fun _ _ _ => rfl) g0 rfl ?_
  refine bl_ld (pc' := 537) bt_291_536 rfl rfl (fun _ _ _ => rfl) g3 rfl ?_
  refine bl_c (pc' := 538) (n := 2) bt_291_537 rfl rfl (fun _ _ _ => rfl) (by decide) (fun c385 e386 => ?_)
  refine bl_add (pc' := 539) bt_291_538 rfl (by omega) (by omega) (fun v387 e388 => ?_)
  refine bl_sc (pc' := 540) bt_291_539 rfl hS (by omega) (by omega) ?_
  refine bl_ld (pc' := 541) bt_291_540 rfl rfl (fun _ _ _ => rfl) g0 rfl ?_
  refine bl_ld (pc' := 542) bt_291_541 rfl rfl (fun _ _ _ => rfl) g3 rfl ?_
  refine bl_c (pc' := 543) (n := 3) bt_291_542 rfl rfl (fun _ _ _ => rfl) (by decide) (fun c389 e390 => ?_)
  refine bl_add (pc' := 544) bt_291_543 rfl (by omega) (by omega) (fun v391 e392 => ?_)
  refine bl_sc (pc' := 545) bt_291_544 rfl hS (by omega) (by omega) ?_
  refine bl_i0 (pc' := 548) (pt := 552) bt_291_545 rfl rfl (fun k393 => ?_) (fun k393 => ?_)
  · replace k393 : ((xs (v391).toInt.toNat)).toInt = 0 := k393
    refine bl_c (pc' := 553) (n := 0) bt_291_552 rfl rfl (fun _ _ _ => rfl) (by decide) (fun c394 e395 => ?_)
    refine bl_cv (pc' := 556) (st := []) (args := [.int c394, .int (xs (v387).toInt.toNat), .int (xs (v383).toInt.toNat)]) (c := 0) (ci := 8) bt_291_553 rfl rfl (by decide) (wl_o0 hL) (by decide) (Nat.succ_lt_succ (Nat.zero_lt_succ _)) rfl (Nat.le_of_ble_eq_true rfl) (Nat.le_of_ble_eq_true rfl) ?_
    refine wq_c_likely (FIN := st_FIN) (g := (291, 556, lv, [], cb, sb)) (t := []) (by omega) hSA h8 hL (Nat.le_of_ble_eq_true rfl) (fun h396 r397 hL398 K401 F399 Ka400 B402 => ?_)
    have hR403 := wt_RK hR K401
    have hQ404 := rb_q0 hL hQ F399 Ka400
    show bh_G E st_FIN ((291, 556, lv, [.int r397], cb, sb) :: [], h396, none)
    refine bl_pop (pc' := 557) bt_291_556 rfl rfl ?_
    refine bl_ld (pc' := 558) bt_291_557 rfl rfl (fun _ _ _ => rfl) g2 rfl ?_
    refine bl_ld (pc' := 559) bt_291_558 rfl rfl (fun _ _ _ => rfl) g0 rfl ?_
    refine bl_ld (pc' := 560) bt_291_559 rfl rfl (fun _ _ _ => rfl) g3 rfl ?_
    refine bl_c (pc' := 561) (n := 1) bt_291_560 rfl rfl (fun _ _ _ => rfl) (by decide) (fun c405 e406 => ?_)
    refine bl_add (pc' := 562) bt_291_561 rfl (by omega) (by omega) (fun v407 e408 => ?_)
    refine bl_sc (pc' := 563) bt_291_562 rfl hS (by omega) (by omega) ?_
    refine bl_ld (pc' := 564) bt_291_563 rfl rfl (fun _ _ _ => rfl) g0 rfl ?_
    refine bl_ld (pc' := 565) bt_291_564 rfl rfl (fun _ _ _ => rfl) g3 rfl ?_
    refine bl_c (pc' := 566) (n := 2) bt_291_565 rfl rfl (fun _ _ _ => rfl) (by decide) (fun c409 e410 => ?_)
    refine bl_add (pc' := 567) bt_291_566 rfl (by omega) (by omega) (fun v411 e412 => ?_)
    refine bl_sc (pc' := 568) bt_291_567 rfl hS (by omega) (by omega) ?_
    refine bl_ld (pc' := 569) bt_291_568 rfl rfl (fun _ _ _ => rfl) g0 rfl ?_
    refine bl_ld (pc' := 570) bt_291_569 rfl rfl (fun _ _ _ => rfl) g3 rfl ?_
    refine bl_c (pc' := 571) (n := 3) bt_291_570 rfl rfl (fun _ _ _ => rfl) (by decide) (fun c413 e414 => ?_)
    refine bl_add (pc' := 572) bt_291_571 rfl (by omega) (by omega) (fun v415 e416 => ?_)
    refine bl_sc (pc' := 573) bt_291_572 rfl hS (by omega) (by omega) ?_
    refine bl_i0 (pc' := 576) (pt := 580) bt_291_573 rfl rfl (fun k417 => ?_) (fun k417 => ?_)
    · replace k417 : ((xs (v415).toInt.toNat)).toInt = 0 := k417
      refine bl_c (pc' := 581) (n := 0) bt_291_580 rfl rfl (fun _ _ _ => rfl) (by decide) (fun c418 e419 => ?_)
      refine bl_cv (pc' := 584) (st := []) (args := [.int c418, .int (xs (v411).toInt.toNat), .int (xs (v407).toInt.toNat)]) (c := 88) (ci := 9) bt_291_581 rfl rfl (by decide) (wl_o88 hL398) (by decide) (Nat.succ_lt_succ (Nat.zero_lt_succ _)) rfl (Nat.le_of_ble_eq_true rfl) (Nat.le_of_ble_eq_true rfl) ?_
      refine wq_m_likely (FIN := st_FIN) (g := (291, 584, lv, [], cb, sb)) (t := []) (by omega) hSA hL398 (Nat.le_of_ble_eq_true rfl) (fun h420 r421 hL422 K425 F423 Ka424 B426 => ?_)
      have hR427 := wt_RK hR403 K425
      have ev0 : v407 = v383 := Int32.toInt_inj.mp (by omega)
      try rw [ev0] at k417
      try rw [ev0] at B426
      have ev1 : v411 = v387 := Int32.toInt_inj.mp (by omega)
      try rw [ev1] at k417
      try rw [ev1] at B426
      have ev2 : v415 = v391 := Int32.toInt_inj.mp (by omega)
      try rw [ev2] at k417
      try rw [ev2] at B426
      have eb : c418 = c394 := Int32.toInt_inj.mp (by omega)
      rw [eb] at B426
      have zq := rb_likely hL hQ404 F399 Ka400 B402 B426
      have hQ429 := rb_q0 hL398 hQ404 F423 Ka424
      show bh_G E st_FIN ((291, 584, lv, [.int r421], cb, sb) :: [], h420, none)
      refine bl_pop (pc' := 585) bt_291_584 rfl rfl ?_
      refine bl_go (pc' := 1452) bt_291_585 rfl ?_
      exact kk _ _ _ hL422 hR427 hQ429
    · replace k417 : ¬ (((xs (v415).toInt.toNat)).toInt = 0) := k417
      refine bl_c (pc' := 577) (n := 1) bt_291_576 rfl rfl (fun _ _ _ => rfl) (by decide) (fun c430 e431 => ?_)
      refine bl_go (pc' := 581) bt_291_577 rfl ?_
      refine bl_cv (pc' := 584) (st := []) (args := [.int c430, .int (xs (v411).toInt.toNat), .int (xs (v407).toInt.toNat)]) (c := 88) (ci := 9) bt_291_581 rfl rfl (by decide) (wl_o88 hL398) (by decide) (Nat.succ_lt_succ (Nat.zero_lt_succ _)) rfl (Nat.le_of_ble_eq_true rfl) (Nat.le_of_ble_eq_true rfl) ?_
      refine wq_m_likely (FIN := st_FIN) (g := (291, 584, lv, [], cb, sb)) (t := []) (by omega) hSA hL398 (Nat.le_of_ble_eq_true rfl) (fun h432 r433 hL434 K437 F435 Ka436 B438 => ?_)
      have ev0 : v407 = v383 := Int32.toInt_inj.mp (by omega)
      try rw [ev0] at k417
      have ev1 : v411 = v387 := Int32.toInt_inj.mp (by omega)
      try rw [ev1] at k417
      have ev2 : v415 = v391 := Int32.toInt_inj.mp (by omega)
      try rw [ev2] at k417
      exfalso
      omega
  · replace k393 : ¬ (((xs (v391).toInt.toNat)).toInt = 0) := k393
    refine bl_c (pc' := 549) (n := 1) bt_291_548 rfl rfl (fun _ _ _ => rfl) (by decide) (fun c440 e441 => ?_)
    refine bl_go (pc' := 553) bt_291_549 rfl ?_
    refine bl_cv (pc' := 556) (st := []) (args := [.int c440, .int (xs (v387).toInt.toNat), .int (xs (v383).toInt.toNat)]) (c := 0) (ci := 8) bt_291_553 rfl rfl (by decide) (wl_o0 hL) (by decide) (Nat.succ_lt_succ (Nat.zero_lt_succ _)) rfl (Nat.le_of_ble_eq_true rfl) (Nat.le_of_ble_eq_true rfl) ?_
    refine wq_c_likely (FIN := st_FIN) (g := (291, 556, lv, [], cb, sb)) (t := []) (by omega) hSA h8 hL (Nat.le_of_ble_eq_true rfl) (fun h442 r443 hL444 K447 F445 Ka446 B448 => ?_)
    have hR449 := wt_RK hR K447
    have hQ450 := rb_q0 hL hQ F445 Ka446
    show bh_G E st_FIN ((291, 556, lv, [.int r443], cb, sb) :: [], h442, none)
    refine bl_pop (pc' := 557) bt_291_556 rfl rfl ?_
    refine bl_ld (pc' := 558) bt_291_557 rfl rfl (fun _ _ _ => rfl) g2 rfl ?_
    refine bl_ld (pc' := 559) bt_291_558 rfl rfl (fun _ _ _ => rfl) g0 rfl ?_
    refine bl_ld (pc' := 560) bt_291_559 rfl rfl (fun _ _ _ => rfl) g3 rfl ?_
    refine bl_c (pc' := 561) (n := 1) bt_291_560 rfl rfl (fun _ _ _ => rfl) (by decide) (fun c451 e452 => ?_)
    refine bl_add (pc' := 562) bt_291_561 rfl (by omega) (by omega) (fun v453 e454 => ?_)
    refine bl_sc (pc' := 563) bt_291_562 rfl hS (by omega) (by omega) ?_
    refine bl_ld (pc' := 564) bt_291_563 rfl rfl (fun _ _ _ => rfl) g0 rfl ?_
    refine bl_ld (pc' := 565) bt_291_564 rfl rfl (fun _ _ _ => rfl) g3 rfl ?_
    refine bl_c (pc' := 566) (n := 2) bt_291_565 rfl rfl (fun _ _ _ => rfl) (by decide) (fun c455 e456 => ?_)
    refine bl_add (pc' := 567) bt_291_566 rfl (by omega) (by omega) (fun v457 e458 => ?_)
    refine bl_sc (pc' := 568) bt_291_567 rfl hS (by omega) (by omega) ?_
    refine bl_ld (pc' := 569) bt_291_568 rfl rfl (fun _ _ _ => rfl) g0 rfl ?_
    refine bl_ld (pc' := 570) bt_291_569 rfl rfl (fun _ _ _ => rfl) g3 rfl ?_
    refine bl_c (pc' := 571) (n := 3) bt_291_570 rfl rfl (fun _ _ _ => rfl) (by decide) (fun c459 e460 => ?_)
    refine bl_add (pc' := 572) bt_291_571 rfl (by omega) (by omega) (fun v461 e462 => ?_)
    refine bl_sc (pc' := 573) bt_291_572 rfl hS (by omega) (by omega) ?_
    refine bl_i0 (pc' := 576) (pt := 580) bt_291_573 rfl rfl (fun k463 => ?_) (fun k463 => ?_)
    · replace k463 : ((xs (v461).toInt.toNat)).toInt = 0 := k463
      refine bl_c (pc' := 581) (n := 0) bt_291_580 rfl rfl (fun _ _ _ => rfl) (by decide) (fun c464 e465 => ?_)
      refine bl_cv (pc' := 584) (st := []) (args := [.int c464, .int (xs (v457).toInt.toNat), .int (xs (v453).toInt.toNat)]) (c := 88) (ci := 9) bt_291_581 rfl rfl (by decide) (wl_o88 hL444) (by decide) (Nat.succ_lt_succ (Nat.zero_lt_succ _)) rfl (Nat.le_of_ble_eq_true rfl) (Nat.le_of_ble_eq_true rfl) ?_
      refine wq_m_likely (FIN := st_FIN) (g := (291, 584, lv, [], cb, sb)) (t := []) (by omega) hSA hL444 (Nat.le_of_ble_eq_true rfl) (fun h466 r467 hL468 K471 F469 Ka470 B472 => ?_)
      have ev0 : v453 = v383 := Int32.toInt_inj.mp (by omega)
      try rw [ev0] at k463
      have ev1 : v457 = v387 := Int32.toInt_inj.mp (by omega)
      try rw [ev1] at k463
      have ev2 : v461 = v391 := Int32.toInt_inj.mp (by omega)
      try rw [ev2] at k463
      exfalso
      omega
    · replace k463 : ¬ (((xs (v461).toInt.toNat)).toInt = 0) := k463
      refine bl_c (pc' := 577) (n := 1) bt_291_576 rfl rfl (fun _ _ _ => rfl) (by decide) (fun c474 e475 => ?_)
      refine bl_go (pc' := 581) bt_291_577 rfl ?_
      refine bl_cv (pc' := 584) (st := []) (args := [.int c474, .int (xs (v457).toInt.toNat), .int (xs (v453).toInt.toNat)]) (c := 88) (ci := 9) bt_291_581 rfl rfl (by decide) (wl_o88 hL444) (by decide) (Nat.succ_lt_succ (Nat.zero_lt_succ _)) rfl (Nat.le_of_ble_eq_true rfl) (Nat.le_of_ble_eq_true rfl) ?_
      refine wq_m_likely (FIN := st_FIN) (g := (291, 584, lv, [], cb, sb)) (t := []) (by omega) hSA hL444 (Nat.le_of_ble_eq_true rfl) (fun h476 r477 hL478 K481 F479 Ka480 B482 => ?_)
      have hR483 := wt_RK hR449 K481
      have ev0 : v453 = v383 := Int32.toInt_inj.mp (by omega)
      try rw [ev0] at k463
      try rw [ev0] at B482
      have ev1 : v457 = v387 := Int32.toInt_inj.mp (by omega)
      try rw [ev1] at k463
      try rw [ev1] at B482
      have ev2 : v461 = v391 := Int32.toInt_inj.mp (by omega)
      try rw [ev2] at k463
      try rw [ev2] at B482
      have eb : c474 = c440 := Int32.toInt_inj.mp (by omega)
      rw [eb] at B482
      have zq := rb_likely hL hQ450 F445 Ka446 B448 B482
      have hQ485 := rb_q0 hL444 hQ450 F479 Ka480
      show bh_G E st_FIN ((291, 584, lv, [.int r477], cb, sb) :: [], h476, none)
      refine bl_pop (pc' := 585) bt_291_584 rfl rfl ?_
      refine bl_go (pc' := 1452) bt_291_585 rfl ?_
      exact kk _ _ _ hL478 hR483 hQ485
set_option maxHeartbeats 40000000 in
theorem wl_k_12 {i x : Int32} {lv : mm_V} {h : mm_H} {o : Option Value} (hST : wt_ST E) (hSA : ∀ {x y : Int32} (ρ : Nat → Int32), en_SA E ρ (wl_o x y) mt_SB) (h8 : ∃ q, E.2[8]? = some q) (hS : bl_S E b n xs) (hn : n ≤ 3072) (g0 : mm_get lv 0 = some (.ref b)) (g1 : mm_get lv 1 = some (.ref (E.1 + 0))) (g2 : mm_get lv 2 = some (.ref (E.1 + 88))) (g3 : mm_get lv 3 = some (.int i)) (hi0 : 0 ≤ i.toInt) (hi5 : i.toInt + 6 ≤ (n : Int)) (hL : wl_W E wl_H x x h) (hR : wt_R x x h) (hQ : rb_R h) (kk : ∀ (h' : mm_H) (x' : Int32) (o' : Option Value), wl_W E wl_H x' x' h' → wt_R x' x' h' → rb_R h' → bh_G E st_FIN ((291, 1452, lv, [], cb, sb) :: [], h', o')) : bh_G E st_FIN ((291, 588, lv, [], cb, sb) :: [], h, o) := by
  refine bl_ld (pc' := 589) bt_291_588 rfl rfl (fun _ _ _ => rfl) g1 rfl ?_
  refine bl_ld (pc' := 590) bt_291_589 rfl rfl (fun _ _ _ => rfl) g0 rfl ?_
  refine bl_ld (pc' := 591) bt_291_590 rfl rfl (fun _ _ _ => rfl) g3 rfl ?_
  refine bl_c (pc' := 592) (n := 1) bt_291_591 rfl rfl (fun _ _ _ => rfl) (by decide) (fun c486 e487 => ?_)
  refine bl_add (pc' := 593) bt_291_592 rfl (by omega) (by omega) (fun v488 e489 => ?_)
  refine bl_sc (pc' := 594) bt_291_593 rfl hS (by omega) (by omega) ?_
  refine bl_cv (pc' := 597) (st := []) (args := [.int (xs (v488).toInt.toNat)]) (c := 0) (ci := 8) bt_291_594 rfl rfl (by decide) (wl_o0 hL) (by decide) (Nat.succ_lt_succ (Nat.zero_lt_succ _)) rfl (Nat.le_of_ble_eq_true rfl) (Nat.le_of_ble_eq_true rfl) ?_
  refine wq_j (m := 249) (FIN := st_FIN) (g := (291, 597, lv, [], cb, sb)) (t := []) (A := fun h' r => wl_W E wl_H x x h' ∧ wt_K h h') q0_k q0_a q0_h rfl (by decide) (ka_lc (ka_no (by decide)) (ka_lc ka_ti ka_ln)) hL (fun F9 k1 => wk_c_orders (FIN := F9) (gs := [bp_mf]) hSA h8 hL (Nat.le_of_ble_eq_true rfl) (fun h r a b => k1 _ _ ⟨a, b⟩)) (fun h490 r491 ⟨hL492, K495⟩ F493 Ka494 => ?_)
  have hR496 := wt_RK hR K495
  have hQ497 := rb_q0 hL hQ F493 Ka494
  show bh_G E st_FIN ((291, 597, lv, [.int r491], cb, sb) :: [], h490, none)
  refine bl_pop (pc' := 598) bt_291_597 rfl rfl ?_
  refine bl_ld (pc' := 599) bt_291_598 rfl rfl (fun _ _ _ => rfl) g2 rfl ?_
  refine bl_ld (pc' := 600) bt_291_599 rfl rfl (fun _ _ _ => rfl) g0 rfl ?_
  refine bl_ld (pc' := 601) bt_291_600 rfl rfl (fun _ _ _ => rfl) g3 rfl ?_
  refine bl_c (pc' := 602) (n := 1) bt_291_601 rfl rfl (fun _ _ _ => rfl) (by decide) (fun c498 e499 => ?_)
  refine bl_add (pc' := 603) bt_291_602 rfl (by omega) (by omega) (fun v500 e501 => ?_)
  refine bl_sc (pc' := 604) bt_291_603 rfl hS (by omega) (by omega) ?_
  refine bl_cv (pc' := 607) (st := []) (args := [.int (xs (v500).toInt.toNat)]) (c := 88) (ci := 9) bt_291_604 rfl rfl (by decide) (wl_o88 hL492) (by decide) (Nat.succ_lt_succ (Nat.zero_lt_succ _)) rfl (Nat.le_of_ble_eq_true rfl) (Nat.le_of_ble_eq_true rfl) ?_
  refine wq_j (m := 69) (FIN := st_FIN) (g := (291, 607, lv, [], cb, sb)) (t := []) (A := fun h' r => wl_W E wl_H x x h' ∧ wt_K h490 h') q0_k q0_a q0_h rfl (by decide) (ka_lc (ka_no (by decide)) (ka_lc ka_ti ka_ln)) hL492 (fun F9 k1 => wk_m_orders (FIN := F9) (gs := [bp_mf]) hSA hL492 (Nat.le_of_ble_eq_true rfl) (fun h r a b => k1 _ _ ⟨a, b⟩)) (fun h502 r503 ⟨hL504, K507⟩ F505 Ka506 => ?_)
  have hR508 := wt_RK hR496 K507
  have hQ509 := rb_q0 hL492 hQ497 F505 Ka506
  show bh_G E st_FIN ((291, 607, lv, [.int r503], cb, sb) :: [], h502, none)
  refine bl_pop (pc' := 608) bt_291_607 rfl rfl ?_
  refine bl_go (pc' := 1452) bt_291_608 rfl ?_
  exact kk _ _ _ hL504 hR508 hQ509
set_option maxHeartbeats 40000000 in
theorem wl_k_13 {i x : Int32} {lv : mm_V} {h : mm_H} {o : Option Value} (hST : wt_ST E) (hSA : ∀ {x y : Int32} (ρ : Nat → Int32), en_SA E ρ (wl_o x y) mt_SB) (h8 : ∃ q, E.2[8]? = some q) (hS : bl_S E b n xs) (hn : n ≤ 3072) (g0 : mm_get lv 0 = some (.ref b)) (g1 : mm_get lv 1 = some (.ref (E.1 + 0))) (g2 : mm_get lv 2 = some (.ref (E.1 + 88))) (g3 : mm_get lv 3 = some (.int i)) (hi0 : 0 ≤ i.toInt) (hi5 : i.toInt + 6 ≤ (n : Int)) (hL : wl_W E wl_H x x h) (hR : wt_R x x h) (hQ : rb_R h) (kk : ∀ (h' : mm_H) (x' : Int32) (o' : Option Value), wl_W E wl_H x' x' h' → wt_R x' x' h' → rb_R h' → bh_G E st_FIN ((291, 1452, lv, [], cb, sb) :: [], h', o')) : bh_G E st_FIN ((291, 611, lv, [], cb, sb) :: [], h, o) := by
  refine bl_ld (pc' := 612) bt_291_611 rfl rfl (fun _ _ _ => rfl) g1 rfl ?_
  refine bl_ld (pc' := 613) bt_291_612 rfl rfl (fun _ _ _ => rfl) g0 rfl ?_
  refine bl_ld (pc' := 614) bt_291_613 rfl rfl (fun _ _ _ => rfl) g3 rfl ?_
  refine bl_c (pc' := 615) (n := 1) bt_291_614 rfl rfl (fun _ _ _ => rfl) (by decide) (fun c510 e511 => ?_)
  refine bl_add (pc' := 616) bt_291_615 rfl (by omega) (by omega) (fun v512 e513 => ?_)
  refine bl_sc (pc' := 617) bt_291_616 rfl hS (by omega) (by omega) ?_
  refine bl_ld (pc' := 618) bt_291_617 rfl rfl (fun _ _ _ => rfl) g0 rfl ?_
  refine bl_ld (pc' := 619) bt_291_618 rfl rfl (fun _ _ _ => rfl) g3 rfl ?_
  refine bl_c (pc' := 620) (n := 2) bt_291_619 rfl rfl (fun _ _ _ => rfl) (by decide) (fun c514 e515 => ?_)
  refine bl_add (pc' := 621) bt_291_620 rfl (by omega) (by omega) (fun v516 e517 => ?_)
  refine bl_sc (pc' := 622) bt_291_621 rfl hS (by omega) (by omega) ?_
  refine bl_ld (pc' := 623) bt_291_622 rfl rfl (fun _ _ _ => rfl) g0 rfl ?_
  refine bl_ld (pc' := 624) bt_291_623 rfl rfl (fun _ _ _ => rfl) g3 rfl ?_
  refine bl_c (pc' := 625) (n := 3) bt_291_624 rfl rfl (fun _ _ _ => rfl) (by decide) (fun c518 e519 => ?_)
  refine bl_add (pc' := 626) bt_291_625 rfl (by omega) (by omega) (fun v520 e521 => ?_)
  refine bl_sc (pc' := 627) bt_291_626 rfl hS (by omega) (by omega) ?_
  refine bl_i0 (pc' := 630) (pt := 634) bt_291_627 rfl rfl (fun k522 => ?_) (fun k522 => ?_)
  · replace k522 : ((xs (v520).toInt.toNat)).toInt = 0 := k522
    refine bl_c (pc' := 635) (n := 0) bt_291_634 rfl rfl (fun _ _ _ => rfl) (by decide) (fun c523 e524 => ?_)
    refine bl_cv (pc' := 638) (st := []) (args := [.int c523, .int (xs (v516).toInt.toNat), .int (xs (v512).toInt.toNat)]) (c := 0) (ci := 8) bt_291_635 rfl rfl (by decide) (wl_o0 hL) (by decide) (Nat.succ_lt_succ (Nat.zero_lt_succ _)) rfl (Nat.le_of_ble_eq_true rfl) (Nat.le_of_ble_eq_true rfl) ?_
    refine wq_j (m := 246) (FIN := st_FIN) (g := (291, 638, lv, [], cb, sb)) (t := []) (A := fun h' r => wl_W E wl_H x x h' ∧ wt_K h h') q0_k q0_a q0_h rfl (by decide) (ka_lc (ka_no (by decide)) (ka_lc ka_ti (ka_lc ka_ti (ka_lc ka_ti ka_ln)))) hL (fun F9 k1 => wk_c_mean (FIN := F9) (gs := [bp_mf]) (by omega) hSA h8 hL (Nat.le_of_ble_eq_true rfl) (fun h r a b => k1 _ _ ⟨a, b⟩)) (fun h525 r526 ⟨hL527, K530⟩ F528 Ka529 => ?_)
    have hR531 := wt_RK hR K530
    have hQ532 := rb_q0 hL hQ F528 Ka529
    show bh_G E st_FIN ((291, 638, lv, [.int r526], cb, sb) :: [], h525, none)
    refine bl_pop (pc' := 639) bt_291_638 rfl rfl ?_
    refine bl_ld (pc' := 640) bt_291_639 rfl rfl (fun _ _ _ => rfl) g2 rfl ?_
    refine bl_ld (pc' := 641) bt_291_640 rfl rfl (fun _ _ _ => rfl) g0 rfl ?_
    refine bl_ld (pc' := 642) bt_291_641 rfl rfl (fun _ _ _ => rfl) g3 rfl ?_
    refine bl_c (pc' := 643) (n := 1) bt_291_642 rfl rfl (fun _ _ _ => rfl) (by decide) (fun c533 e534 => ?_)
    refine bl_add (pc' := 644) bt_291_643 rfl (by omega) (by omega) (fun v535 e536 => ?_)
    refine bl_sc (pc' := 645) bt_291_644 rfl hS (by omega) (by omega) ?_
    refine bl_ld (pc' := 646) bt_291_645 rfl rfl (fun _ _ _ => rfl) g0 rfl ?_
    refine bl_ld (pc' := 647) bt_291_646 rfl rfl (fun _ _ _ => rfl) g3 rfl ?_
    refine bl_c (pc' := 648) (n := 2) bt_291_647 rfl rfl (fun _ _ _ => rfl) (by decide) (fun c537 e538 => ?_)
    refine bl_add (pc' := 649) bt_291_648 rfl (by omega) (by omega) (fun v539 e540 => ?_)
    refine bl_sc (pc' := 650) bt_291_649 rfl hS (by omega) (by omega) ?_
    refine bl_ld (pc' := 651) bt_291_650 rfl rfl (fun _ _ _ => rfl) g0 rfl ?_
    refine bl_ld (pc' := 652) bt_291_651 rfl rfl (fun _ _ _ => rfl) g3 rfl ?_
    refine bl_c (pc' := 653) (n := 3) bt_291_652 rfl rfl (fun _ _ _ => rfl) (by decide) (fun c541 e542 => ?_)
    refine bl_add (pc' := 654) bt_291_653 rfl (by omega) (by omega) (fun v543 e544 => ?_)
    refine bl_sc (pc' := 655) bt_291_654 rfl hS (by omega) (by omega) ?_
    refine bl_i0 (pc' := 658) (pt := 662) bt_291_655 rfl rfl (fun k545 => ?_) (fun k545 => ?_)
    · replace k545 : ((xs (v543).toInt.toNat)).toInt = 0 := k545
      refine bl_c (pc' := 663) (n := 0) bt_291_662 rfl rfl (fun _ _ _ => rfl) (by decide) (fun c546 e547 => ?_)
      refine bl_cv (pc' := 666) (st := []) (args := [.int c546, .int (xs (v539).toInt.toNat), .int (xs (v535).toInt.toNat)]) (c := 88) (ci := 9) bt_291_663 rfl rfl (by decide) (wl_o88 hL527) (by decide) (Nat.succ_lt_succ (Nat.zero_lt_succ _)) rfl (Nat.le_of_ble_eq_true rfl) (Nat.le_of_ble_eq_true rfl) ?_
      refine wq_j (m := 64) (FIN := st_FIN) (g := (291, 666, lv, [], cb, sb)) (t := []) (A := fun h' r => wl_W E wl_H x x h' ∧ wt_K h525 h') q0_k q0_a q0_h rfl (by decide) (ka_lc (ka_no (by decide)) (ka_lc ka_ti (ka_lc ka_ti (ka_lc ka_ti ka_ln)))) hL527 (fun F9 k1 => wk_m_mean (FIN := F9) (gs := [bp_mf]) (by omega) hSA hL527 (Nat.le_of_ble_eq_true rfl) (fun h r a b => k1 _ _ ⟨a, b⟩)) (fun h548 r549 ⟨hL550, K553⟩ F551 Ka552 => ?_)
      have hR554 := wt_RK hR531 K553
      have hQ555 := rb_q0 hL527 hQ532 F551 Ka552
      show bh_G E st_FIN ((291, 666, lv, [.int r549], cb, sb) :: [], h548, none)
      refine bl_pop (pc' := 667) bt_291_666 rfl rfl ?_
      refine bl_go (pc' := 1452) bt_291_667 rfl ?_
      exact kk _ _ _ hL550 hR554 hQ555
    · replace k545 : ¬ (((xs (v543).toInt.toNat)).toInt = 0) := k545
      refine bl_c (pc' := 659) (n := 1) bt_291_658 rfl rfl (fun _ _ _ => rfl) (by decide) (fun c556 e557 => ?_)
      refine bl_go (pc' := 663) bt_291_659 rfl ?_
      refine bl_cv (pc' := 666) (st := []) (args := [.int c556, .int (xs (v539).toInt.toNat), .int (xs (v535).toInt.toNat)]) (c := 88) (ci := 9) bt_291_663 rfl rfl (by decide) (wl_o88 hL527) (by decide) (Nat.succ_lt_succ (Nat.zero_lt_succ _)) rfl (Nat.le_of_ble_eq_true rfl) (Nat.le_of_ble_eq_true rfl) ?_
      refine wq_j (m := 64) (FIN := st_FIN) (g := (291, 666, lv, [], cb, sb)) (t := []) (A := fun h' r => wl_W E wl_H x x h' ∧ wt_K h525 h') q0_k q0_a q0_h rfl (by decide) (ka_lc (ka_no (by decide)) (ka_lc ka_ti (ka_lc ka_ti (ka_lc ka_ti ka_ln)))) hL527 (fun F9 k1 => wk_m_mean (FIN := F9) (gs := [bp_mf]) (by omega) hSA hL527 (Nat.le_of_ble_eq_true rfl) (fun h r a b => k1 _ _ ⟨a, b⟩)) (fun h558 r559 ⟨hL560, K563⟩ F561 Ka562 => ?_)
      have hR564 := wt_RK hR531 K563
      have hQ565 := rb_q0 hL527 hQ532 F561 Ka562
      show bh_G E st_FIN ((291, 666, lv, [.int r559], cb, sb) :: [], h558, none)
      refine bl_pop (pc' := 667) bt_291_666 rfl rfl ?_
      refine bl_go (pc' := 1452) bt_291_667 rfl ?_
      exact kk _ _ _ hL560 hR564 hQ565
  · replace k522 : ¬ (((xs (v520).toInt.toNat)).toInt = 0) := k522
    refine bl_c (pc' := 631) (n := 1) bt_291_630 rfl rfl (fun _ _ _ => rfl) (by decide) (fun c566 e567 => ?_)
    refine bl_go (pc' := 635) bt_291_631 rfl ?_
    refine bl_cv (pc' := 638) (st := []) (args := [.int c566, .int (xs (v516).toInt.toNat), .int (xs (v512).toInt.toNat)]) (c := 0) (ci := 8) bt_291_635 rfl rfl (by decide) (wl_o0 hL) (by decide) (Nat.succ_lt_succ (Nat.zero_lt_succ _)) rfl (Nat.le_of_ble_eq_true rfl) (Nat.le_of_ble_eq_true rfl) ?_
    refine wq_j (m := 246) (FIN := st_FIN) (g := (291, 638, lv, [], cb, sb)) (t := []) (A := fun h' r => wl_W E wl_H x x h' ∧ wt_K h h') q0_k q0_a q0_h rfl (by decide) (ka_lc (ka_no (by decide)) (ka_lc ka_ti (ka_lc ka_ti (ka_lc ka_ti ka_ln)))) hL (fun F9 k1 => wk_c_mean (FIN := F9) (gs := [bp_mf]) (by omega) hSA h8 hL (Nat.le_of_ble_eq_true rfl) (fun h r a b => k1 _ _ ⟨a, b⟩)) (fun h568 r569 ⟨hL570, K573⟩ F571 Ka572 => ?_)
    have hR574 := wt_RK hR K573
    have hQ575 := rb_q0 hL hQ F571 Ka572
    show bh_G E st_FIN ((291, 638, lv, [.int r569], cb, sb) :: [], h568, none)
    refine bl_pop (pc' := 639) bt_291_638 rfl rfl ?_
    refine bl_ld (pc' := 640) bt_291_639 rfl rfl (fun _ _ _ => rfl) g2 rfl ?_
    refine bl_ld (pc' := 641) bt_291_640 rfl rfl (fun _ _ _ => rfl) g0 rfl ?_
    refine bl_ld (pc' := 642) bt_291_641 rfl rfl (fun _ _ _ => rfl) g3 rfl ?_
    refine bl_c (pc' := 643) (n := 1) bt_291_642 rfl rfl (fun _ _ _ => rfl) (by decide) (fun c576 e577 => ?_)
    refine bl_add (pc' := 644) bt_291_643 rfl (by omega) (by omega) (fun v578 e579 => ?_)
    refine bl_sc (pc' := 645) bt_291_644 rfl hS (by omega) (by omega) ?_
    refine bl_ld (pc' := 646) bt_291_645 rfl rfl (fun _ _ _ => rfl) g0 rfl ?_
    refine bl_ld (pc' := 647) bt_291_646 rfl rfl (fun _ _ _ => rfl) g3 rfl ?_
    refine bl_c (pc' := 648) (n := 2) bt_291_647 rfl rfl (fun _ _ _ => rfl) (by decide) (fun c580 e581 => ?_)
    refine bl_add (pc' := 649) bt_291_648 rfl (by omega) (by omega) (fun v582 e583 => ?_)
    refine bl_sc (pc' := 650) bt_291_649 rfl hS (by omega) (by omega) ?_
    refine bl_ld (pc' := 651) bt_291_650 rfl rfl (fun _ _ _ => rfl) g0 rfl ?_
    refine bl_ld (pc' := 652) bt_291_651 rfl rfl (fun _ _ _ => rfl) g3 rfl ?_
    refine bl_c (pc' := 653) (n := 3) bt_291_652 rfl rfl (fun _ _ _ => rfl) (by decide) (fun c584 e585 => ?_)
    refine bl_add (pc' := 654) bt_291_653 rfl (by omega) (by omega) (fun v586 e587 => ?_)
    refine bl_sc (pc' := 655) bt_291_654 rfl hS (by omega) (by omega) ?_
    refine bl_i0 (pc' := 658) (pt := 662) bt_291_655 rfl rfl (fun k588 => ?_) (fun k588 => ?_)
    · replace k588 : ((xs (v586).toInt.toNat)).toInt = 0 := k588
      refine bl_c (pc' := 663) (n := 0) bt_291_662 rfl rfl (fun _ _ _ => rfl) (by decide) (fun c589 e590 => ?_)
      refine bl_cv (pc' := 666) (st := []) (args := [.int c589, .int (xs (v582).toInt.toNat), .int (xs (v578).toInt.toNat)]) (c := 88) (ci := 9) bt_291_663 rfl rfl (by decide) (wl_o88 hL570) (by decide) (Nat.succ_lt_succ (Nat.zero_lt_succ _)) rfl (Nat.le_of_ble_eq_true rfl) (Nat.le_of_ble_eq_true rfl) ?_
      refine wq_j (m := 64) (FIN := st_FIN) (g := (291, 666, lv, [], cb, sb)) (t := []) (A := fun h' r => wl_W E wl_H x x h' ∧ wt_K h568 h') q0_k q0_a q0_h rfl (by decide) (ka_lc (ka_no (by decide)) (ka_lc ka_ti (ka_lc ka_ti (ka_lc ka_ti ka_ln)))) hL570 (fun F9 k1 => wk_m_mean (FIN := F9) (gs := [bp_mf]) (by omega) hSA hL570 (Nat.le_of_ble_eq_true rfl) (fun h r a b => k1 _ _ ⟨a, b⟩)) (fun h591 r592 ⟨hL593, K596⟩ F594 Ka595 => ?_)
      have hR597 := wt_RK hR574 K596
      have hQ598 := rb_q0 hL570 hQ575 F594 Ka595
      show bh_G E st_FIN ((291, 666, lv, [.int r592], cb, sb) :: [], h591, none)
      refine bl_pop (pc' := 667) bt_291_666 rfl rfl ?_
      refine bl_go (pc' := 1452) bt_291_667 rfl ?_
      exact kk _ _ _ hL593 hR597 hQ598
    · replace k588 : ¬ (((xs (v586).toInt.toNat)).toInt = 0) := k588
      refine bl_c (pc' := 659) (n := 1) bt_291_658 rfl rfl (fun _ _ _ => rfl) (by decide) (fun c599 e600 => ?_)
      refine bl_go (pc' := 663) bt_291_659 rfl ?_
      refine bl_cv (pc' := 666) (st := []) (args := [.int c599, .int (xs (v582).toInt.toNat), .int (xs (v578).toInt.toNat)]) (c := 88) (ci := 9) bt_291_663 rfl rfl (by decide) (wl_o88 hL570) (by decide) (Nat.succ_lt_succ (Nat.zero_lt_succ _)) rfl (Nat.le_of_ble_eq_true rfl) (Nat.le_of_ble_eq_true rfl) ?_
      refine wq_j (m := 64) (FIN := st_FIN) (g := (291, 666, lv, [], cb, sb)) (t := []) (A := fun h' r => wl_W E wl_H x x h' ∧ wt_K h568 h') q0_k q0_a q0_h rfl (by decide) (ka_lc (ka_no (by decide)) (ka_lc ka_ti (ka_lc ka_ti (ka_lc ka_ti ka_ln)))) hL570 (fun F9 k1 => wk_m_mean (FIN := F9) (gs := [bp_mf]) (by omega) hSA hL570 (Nat.le_of_ble_eq_true rfl) (fun h r a b => k1 _ _ ⟨a, b⟩)) (fun h601 r602 ⟨hL603, K606⟩ F604 Ka605 => ?_)
      have hR607 := wt_RK hR574 K606
      have hQ608 := rb_q0 hL570 hQ575 F604 Ka605
      show bh_G E st_FIN ((291, 666, lv, [.int r602], cb, sb) :: [], h601, none)
      refine bl_pop (pc' := 667) bt_291_666 rfl rfl ?_
      refine bl_go (pc' := 1452) bt_291_667 rfl ?_
      exact kk _ _ _ hL603 hR607 hQ608
set_option maxHeartbeats 40000000 in
theorem wl_k_14 {i x : Int32} {lv : mm_V} {h : mm_H} {o : Option Value} (hST : wt_ST E) (hSA : ∀ {x y : Int32} (ρ : Nat → Int32), en_SA E ρ (wl_o x y) mt_SB) (h8 : ∃ q, E.2[8]? = some q) (hS : bl_S E b n xs) (hn : n ≤ 3072) (g0 : mm_get lv 0 = some (.ref b)) (g1 : mm_get lv 1 = some (.ref (E.1 + 0))) (g2 : mm_get lv 2 = some (.ref (E.1 + 88))) (g3 : mm_get lv 3 = some (.int i)) (hi0 : 0 ≤ i.toInt) (hi5 : i.toInt + 6 ≤ (n : Int)) (hL : wl_W E wl_H x x h) (hR : wt_R x x h) (hQ : rb_R h) (kk : ∀ (h' : mm_H) (x' : Int32) (o' : Option Value), wl_W E wl_H x' x' h' → wt_R x' x' h' → rb_R h' → bh_G E st_FIN ((291, 1452, lv, [], cb, sb) :: [], h', o')) : bh_G E st_FIN ((291, 670, lv, [], cb, sb) :: [], h, o) := by
  refine bl_ld (pc' := 671) bt_291_670 rfl rfl (fun _ _ _ => rfl) g1 rfl ?_
  refine bl_ld (pc' := 672) bt_291_671 rfl rfl (fun _ _ _ => rfl) g0 rfl ?_
  refine bl_ld (pc' := 673) bt_291_672 rfl rfl (fun _ _ _ => rfl) g3 rfl ?_
  refine bl_c (pc' := 674) (n := 1) bt_291_673 rfl rfl (fun _ _ _ => rfl) (by decide) (fun c609 e610 => ?_)
  refine bl_add (pc' := 675) bt_291_674 rfl (by omega) (by omega) (fun v611 e612 => ?_)
  refine bl_sc (pc' := 676) bt_291_675 rfl hS (by omega) (by omega) ?_
  refine bl_ld (pc' := 677) bt_291_676 rfl rfl (fun _ _ _ => rfl) g0 rfl ?_
  refine bl_ld (pc' := 678) bt_291_677 rfl rfl (fun _ _ _ => rfl) g3 rfl ?_
  refine bl_c (pc' := 679) (n := 2) bt_291_678 rfl rfl (fun _ _ _ => rfl) (by decide) (fun c613 e614 => ?_)
  refine bl_add (pc' := 680) bt_291_679 rfl (by omega) (by omega) (fun v615 e616 => ?_)
  refine bl_sc (pc' := 681) bt_291_680 rfl hS (by omega) (by omega) ?_
  refine bl_ld (pc' := 682) bt_291_681 rfl rfl (fun _ _ _ => rfl) g0 rfl ?_
  refine bl_ld (pc' := 683) bt_291_682 rfl rfl (fun _ _ _ => rfl) g3 rfl ?_
  refine bl_c (pc' := 684) (n := 3) bt_291_683 rfl rfl (fun _ _ _ => rfl) (by decide) (fun c617 e618 => ?_)
  refine bl_add (pc' := 685) bt_291_684 rfl (by omega) (by omega) (fun v619 e620 => ?_)
  refine bl_sc (pc' := 686) bt_291_685 rfl hS (by omega) (by omega) ?_
  refine bl_i0 (pc' := 689) (pt := 693) bt_291_686 rfl rfl (fun k621 => ?_) (fun k621 => ?_)
  · replace k621 : ((xs (v619).toInt.toNat)).toInt = 0 := k621
    refine bl_c (pc' := 694) (n := 0) bt_291_693 rfl rfl (fun _ _ _ => rfl) (by decide) (fun c622 e623 => ?_)
    refine bl_cv (pc' := 697) (st := []) (args := [.int c622, .int (xs (v615).toInt.toNat), .int (xs (v611).toInt.toNat)]) (c := 0) (ci := 8) bt_291_694 rfl rfl (by decide) (wl_o0 hL) (by decide) (Nat.succ_lt_succ (Nat.zero_lt_succ _)) rfl (Nat.le_of_ble_eq_true rfl) (Nat.le_of_ble_eq_true rfl) ?_
    refine wq_j (m := 247) (FIN := st_FIN) (g := (291, 697, lv, [], cb, sb)) (t := []) (A := fun h' r => wl_W E wl_H x x h' ∧ wt_K h h') q0_k q0_a q0_h rfl (by decide) (ka_lc (ka_no (by decide)) (ka_lc ka_ti (ka_lc ka_ti (ka_lc ka_ti ka_ln)))) hL (fun F9 k1 => wk_c_most (FIN := F9) (gs := [bp_mf]) (by omega) hSA h8 hL (Nat.le_of_ble_eq_true rfl) (fun h r a b => k1 _ _ ⟨a, b⟩)) (fun h624 r625 ⟨hL626, K629⟩ F627 Ka628 => ?_)
    have hR630 := wt_RK hR K629
    have hQ631 := rb_q0 hL hQ F627 Ka628
    show bh_G E st_FIN ((291, 697, lv, [.int r625], cb, sb) :: [], h624, none)
    refine bl_pop (pc' := 698) bt_291_697 rfl rfl ?_
    refine bl_ld (pc' := 699) bt_291_698 rfl rfl (fun _ _ _ => rfl) g2 rfl ?_
    refine bl_ld (pc' := 700) bt_291_699 rfl rfl (fun _ _ _ => rfl) g0 rfl ?_
    refine bl_ld (pc' := 701) bt_291_700 rfl rfl (fun _ _ _ => rfl) g3 rfl ?_
    refine bl_c (pc' := 702) (n := 1) bt_291_701 rfl rfl (fun _ _ _ => rfl) (by decide) (fun c632 e633 => ?_)
    refine bl_add (pc' := 703) bt_291_702 rfl (by omega) (by omega) (fun v634 e635 => ?_)
    refine bl_sc (pc' := 704) bt_291_703 rfl hS (by omega) (by omega) ?_
    refine bl_ld (pc' := 705) bt_291_704 rfl rfl (fun _ _ _ => rfl) g0 rfl ?_
    refine bl_ld (pc' := 706) bt_291_705 rfl rfl (fun _ _ _ => rfl) g3 rfl ?_
    refine bl_c (pc' := 707) (n := 2) bt_291_706 rfl rfl (fun _ _ _ => rfl) (by decide) (fun c636 e637 => ?_)
    refine bl_add (pc' := 708) bt_291_707 rfl (by omega) (by omega) (fun v638 e639 => ?_)
    refine bl_sc (pc' := 709) bt_291_708 rfl hS (by omega) (by omega) ?_
    refine bl_ld (pc' := 710) bt_291_709 rfl rfl (fun _ _ _ => rfl) g0 rfl ?_
    refine bl_ld (pc' := 711) bt_291_710 rfl rfl (fun _ _ _ => rfl) g3 rfl ?_
    refine bl_c (pc' := 712) (n := 3) bt_291_711 rfl rfl (fun _ _ _ => rfl) (by decide) (fun c640 e641 => ?_)
    refine bl_add (pc' := 713) bt_291_712 rfl (by omega) (by omega) (fun v642 e643 => ?_)
    refine bl_sc (pc' := 714) bt_291_713 rfl hS (by omega) (by omega) ?_
    refine bl_i0 (pc' := 717) (pt := 721) bt_291_714 rfl rfl (fun k644 => ?_) (fun k644 => ?_)
    · replace k644 : ((xs (v642).toInt.toNat)).toInt = 0 := k644
      refine bl_c (pc' := 722) (n := 0) bt_291_721 rfl rfl (fun _ _ _ => rfl) (by decide) (fun c645 e646 => ?_)
      refine bl_cv (pc' := 725) (st := []) (args := [.int c645, .int (xs (v638).toInt.toNat), .int (xs (v634).toInt.toNat)]) (c := 88) (ci := 9) bt_291_722 rfl rfl (by decide) (wl_o88 hL626) (by decide) (Nat.succ_lt_succ (Nat.zero_lt_succ _)) rfl (Nat.le_of_ble_eq_true rfl) (Nat.le_of_ble_eq_true rfl) ?_
      refine wq_j (m := 66) (FIN := st_FIN) (g := (291, 725, lv, [], cb, sb)) (t := []) (A := fun h' r => wl_W E wl_H x x h' ∧ wt_K h624 h') q0_k q0_a q0_h rfl (by decide) (ka_lc (ka_no (by decide)) (ka_lc ka_ti (ka_lc ka_ti (ka_lc ka_ti ka_ln)))) hL626 (fun F9 k1 => wk_m_most (FIN := F9) (gs := [bp_mf]) (by omega) hSA hL626 (Nat.le_of_ble_eq_true rfl) (fun h r a b => k1 _ _ ⟨a, b⟩)) (fun h647 r648 ⟨hL649, K652⟩ F650 Ka651 => ?_)
      have hR653 := wt_RK hR630 K652
      have hQ654 := rb_q0 hL626 hQ631 F650 Ka651
      show bh_G E st_FIN ((291, 725, lv, [.int r648], cb, sb) :: [], h647, none)
      refine bl_pop (pc' := 726) bt_291_725 rfl rfl ?_
      refine bl_go (pc' := 1452) bt_291_726 rfl ?_
      exact kk _ _ _ hL649 hR653 hQ654
    · replace k644 : ¬ (((xs (v642).toInt.toNat)).toInt = 0) := k644
      refine bl_c (pc' := 718) (n := 1) bt_291_717 rfl rfl (fun _ _ _ => rfl) (by decide) (fun c655 e656 => ?_)
      refine bl_go (pc' := 722) bt_291_718 rfl ?_
      refine bl_cv (pc' := 725) (st := []) (args := [.int c655, .int (xs (v638).toInt.toNat), .int (xs (v634).toInt.toNat)]) (c := 88) (ci := 9) bt_291_722 rfl rfl (by decide) (wl_o88 hL626) (by decide) (Nat.succ_lt_succ (Nat.zero_lt_succ _)) rfl (Nat.le_of_ble_eq_true rfl) (Nat.le_of_ble_eq_true rfl) ?_
      refine wq_j (m := 66) (FIN := st_FIN) (g := (291, 725, lv, [], cb, sb)) (t := []) (A := fun h' r => wl_W E wl_H x x h' ∧ wt_K h624 h') q0_k q0_a q0_h rfl (by decide) (ka_lc (ka_no (by decide)) (ka_lc ka_ti (ka_lc ka_ti (ka_lc ka_ti ka_ln)))) hL626 (fun F9 k1 => wk_m_most (FIN := F9) (gs := [bp_mf]) (by omega) hSA hL626 (Nat.le_of_ble_eq_true rfl) (fun h r a b => k1 _ _ ⟨a, b⟩)) (fun h657 r658 ⟨hL659, K662⟩ F660 Ka661 => ?_)
      have hR663 := wt_RK hR630 K662
      have hQ664 := rb_q0 hL626 hQ631 F660 Ka661
      show bh_G E st_FIN ((291, 725, lv, [.int r658], cb, sb) :: [], h657, none)
      refine bl_pop (pc' := 726) bt_291_725 rfl rfl ?_
      refine bl_go (pc' := 1452) bt_291_726 rfl ?_
      exact kk _ _ _ hL659 hR663 hQ664
  · replace k621 : ¬ (((xs (v619).toInt.toNat)).toInt = 0) := k621
    refine bl_c (pc' := 690) (n := 1) bt_291_689 rfl rfl (fun _ _ _ => rfl) (by decide) (fun c665 e666 => ?_)
    refine bl_go (pc' := 694) bt_291_690 rfl ?_
    refine bl_cv (pc' := 697) (st := []) (args := [.int c665, .int (xs (v615).toInt.toNat), .int (xs (v611).toInt.toNat)]) (c := 0) (ci := 8) bt_291_694 rfl rfl (by decide) (wl_o0 hL) (by decide) (Nat.succ_lt_succ (Nat.zero_lt_succ _)) rfl (Nat.le_of_ble_eq_true rfl) (Nat.le_of_ble_eq_true rfl) ?_
    refine wq_j (m := 247) (FIN := st_FIN) (g := (291, 697, lv, [], cb, sb)) (t := []) (A := fun h' r => wl_W E wl_H x x h' ∧ wt_K h h') q0_k q0_a q0_h rfl (by decide) (ka_lc (ka_no (by decide)) (ka_lc ka_ti (ka_lc ka_ti (ka_lc ka_ti ka_ln)))) hL (fun F9 k1 => wk_c_most (FIN := F9) (gs := [bp_mf]) (by omega) hSA h8 hL (Nat.le_of_ble_eq_true rfl) (fun h r a b => k1 _ _ ⟨a, b⟩)) (fun h667 r668 ⟨hL669, K672⟩ F670 Ka671 => ?_)
    have hR673 := wt_RK hR K672
    have hQ674 := rb_q0 hL hQ F670 Ka671
    show bh_G E st_FIN ((291, 697, lv, [.int r668], cb, sb) :: [], h667, none)
    refine bl_pop (pc' := 698) bt_291_697 rfl rfl ?_
    refine bl_ld (pc' := 699) bt_291_698 rfl rfl (fun _ _ _ => rfl) g2 rfl ?_
    refine bl_ld (pc' := 700) bt_291_699 rfl rfl (fun _ _ _ => rfl) g0 rfl ?_
    refine bl_ld (pc' := 701) bt_291_700 rfl rfl (fun _ _ _ => rfl) g3 rfl ?_
    refine bl_c (pc' := 702) (n := 1) bt_291_701 rfl rfl (fun _ _ _ => rfl) (by decide) (fun c675 e676 => ?_)
    refine bl_add (pc' := 703) bt_291_702 rfl (by omega) (by omega) (fun v677 e678 => ?_)
    refine bl_sc (pc' := 704) bt_291_703 rfl hS (by omega) (by omega) ?_
    refine bl_ld (pc' := 705) bt_291_704 rfl rfl (fun _ _ _ => rfl) g0 rfl ?_
    refine bl_ld (pc' := 706) bt_291_705 rfl rfl (fun _ _ _ => rfl) g3 rfl ?_
    refine bl_c (pc' := 707) (n := 2) bt_291_706 rfl rfl (fun _ _ _ => rfl) (by decide) (fun c679 e680 => ?_)
    refine bl_add (pc' := 708) bt_291_707 rfl (by omega) (by omega) (fun v681 e682 => ?_)
    refine bl_sc (pc' := 709) bt_291_708 rfl hS (by omega) (by omega) ?_
    refine bl_ld (pc' := 710) bt_291_709 rfl rfl (fun _ _ _ => rfl) g0 rfl ?_
    refine bl_ld (pc' := 711) bt_291_710 rfl rfl (fun _ _ _ => rfl) g3 rfl ?_
    refine bl_c (pc' := 712) (n := 3) bt_291_711 rfl rfl (fun _ _ _ => rfl) (by decide) (fun c683 e684 => ?_)
    refine bl_add (pc' := 713) bt_291_712 rfl (by omega) (by omega) (fun v685 e686 => ?_)
    refine bl_sc (pc' := 714) bt_291_713 rfl hS (by omega) (by omega) ?_
    refine bl_i0 (pc' := 717) (pt := 721) bt_291_714 rfl rfl (fun k687 => ?_) (fun k687 => ?_)
    · replace k687 : ((xs (v685).toInt.toNat)).toInt = 0 := k687
      refine bl_c (pc' := 722) (n := 0) bt_291_721 rfl rfl (fun _ _ _ => rfl) (by decide) (fun c688 e689 => ?_)
      refine bl_cv (pc' := 725) (st := []) (args := [.int c688, .int (xs (v681).toInt.toNat), .int (xs (v677).toInt.toNat)]) (c := 88) (ci := 9) bt_291_722 rfl rfl (by decide) (wl_o88 hL669) (by decide) (Nat.succ_lt_succ (Nat.zero_lt_succ _)) rfl (Nat.le_of_ble_eq_true rfl) (Nat.le_of_ble_eq_true rfl) ?_
      refine wq_j (m := 66) (FIN := st_FIN) (g := (291, 725, lv, [], cb, sb)) (t := []) (A := fun h' r => wl_W E wl_H x x h' ∧ wt_K h667 h') q0_k q0_a q0_h rfl (by decide) (ka_lc (ka_no (by decide)) (ka_lc ka_ti (ka_lc ka_ti (ka_lc ka_ti ka_ln)))) hL669 (fun F9 k1 => wk_m_most (FIN := F9) (gs := [bp_mf]) (by omega) hSA hL669 (Nat.le_of_ble_eq_true rfl) (fun h r a b => k1 _ _ ⟨a, b⟩)) (fun h690 r691 ⟨hL692, K695⟩ F693 Ka694 => ?_)
      have hR696 := wt_RK hR673 K695
      have hQ697 := rb_q0 hL669 hQ674 F693 Ka694
      show bh_G E st_FIN ((291, 725, lv, [.int r691], cb, sb) :: [], h690, none)
      refine bl_pop (pc' := 726) bt_291_725 rfl rfl ?_
      refine bl_go (pc' := 1452) bt_291_726 rfl ?_
      exact kk _ _ _ hL692 hR696 hQ697
    · replace k687 : ¬ (((xs (v685).toInt.toNat)).toInt = 0) := k687
      refine bl_c (pc' := 718) (n := 1) bt_291_717 rfl rfl (fun _ _ _ => rfl) (by decide) (fun c698 e699 => ?_)
      refine bl_go (pc' := 722) bt_291_718 rfl ?_
      refine bl_cv (pc' := 725) (st := []) (args := [.int c698, .int (xs (v681).toInt.toNat), .int (xs (v677).toInt.toNat)]) (c := 88) (ci := 9) bt_291_722 rfl rfl (by decide) (wl_o88 hL669) (by decide) (Nat.succ_lt_succ (Nat.zero_lt_succ _)) rfl (Nat.le_of_ble_eq_true rfl) (Nat.le_of_ble_eq_true rfl) ?_
      refine wq_j (m := 66) (FIN := st_FIN) (g := (291, 725, lv, [], cb, sb)) (t := []) (A := fun h' r => wl_W E wl_H x x h' ∧ wt_K h667 h') q0_k q0_a q0_h rfl (by decide) (ka_lc (ka_no (by decide)) (ka_lc ka_ti (ka_lc ka_ti (ka_lc ka_ti ka_ln)))) hL669 (fun F9 k1 => wk_m_most (FIN := F9) (gs := [bp_mf]) (by omega) hSA hL669 (Nat.le_of_ble_eq_true rfl) (fun h r a b => k1 _ _ ⟨a, b⟩)) (fun h700 r701 ⟨hL702, K705⟩ F703 Ka704 => ?_)
      have hR706 := wt_RK hR673 K705
      have hQ707 := rb_q0 hL669 hQ674 F703 Ka704
      show bh_G E st_FIN ((291, 725, lv, [.int r701], cb, sb) :: [], h700, none)
      refine bl_pop (pc' := 726) bt_291_725 rfl rfl ?_
      refine bl_go (pc' := 1452) bt_291_726 rfl ?_
      exact kk _ _ _ hL702 hR706 hQ707
set_option maxHeartbeats 40000000 in
theorem wl_k_15 {i x : Int32} {lv : mm_V} {h : mm_H} {o : Option Value} (hST : wt_ST E) (hSA : ∀ {x y : Int32} (ρ : Nat → Int32), en_SA E ρ (wl_o x y) mt_SB) (h8 : ∃ q, E.2[8]? = some q) (hS : bl_S E b n xs) (hn : n ≤ 3072) (g0 : mm_get lv 0 = some (.ref b)) (g1 : mm_get lv 1 = some (.ref (E.1 + 0))) (g2 : mm_get lv 2 = some (.ref (E.1 + 88))) (g3 : mm_get lv 3 = some (.int i)) (hi0 : 0 ≤ i.toInt) (hi5 : i.toInt + 6 ≤ (n : Int)) (hL : wl_W E wl_H x x h) (hR : wt_R x x h) (hQ : rb_R h) (kk : ∀ (h' : mm_H) (x' : Int32) (o' : Option Value), wl_W E wl_H x' x' h' → wt_R x' x' h' → rb_R h' → bh_G E st_FIN ((291, 1452, lv, [], cb, sb) :: [], h', o')) : bh_G E st_FIN ((291, 729, lv, [], cb, sb) :: [], h, o) := by
  refine bl_ld (pc' := 730) bt_291_729 rfl rfl (fun _ _ _ => rfl) g1 rfl ?_
  refine bl_ld (pc' := 731) bt_291_730 rfl rfl (fun _ _ _ => rfl) g0 rfl ?_
  refine bl_ld (pc' := 732) bt_291_731 rfl rfl (fun _ _ _ => rfl) g3 rfl ?_
  refine bl_c (pc' := 733) (n := 1) bt_291_732 rfl rfl (fun _ _ _ => rfl) (by decide) (fun c708 e709 => ?_)
  refine bl_add (pc' := 734) bt_291_733 rfl (by omega) (by omega) (fun v710 e711 => ?_)
  refine bl_sc (pc' := 735) bt_291_734 rfl hS (by omega) (by omega) ?_
  refine bl_ld (pc' := 736) bt_291_735 rfl rfl (fun _ _ _ => rfl) g0 rfl ?_
  refine bl_ld (pc' := 737) bt_291_736 rfl rfl (fun _ _ _ => rfl) g3 rfl ?_
  refine bl_c (pc' := 738) (n := 2) bt_291_737 rfl rfl (fun _ _ _ => rfl) (by decide) (fun c712 e713 => ?_)
  refine bl_add (pc' := 739) bt_291_738 rfl (by omega) (by omega) (fun v714 e715 => ?_)
  refine bl_sc (pc' := 740) bt_291_739 rfl hS (by omega) (by omega) ?_
  refine bl_ld (pc' := 741) bt_291_740 rfl rfl (fun _ _ _ => rfl) g0 rfl ?_
  refine bl_ld (pc' := 742) bt_291_741 rfl rfl (fun _ _ _ => rfl) g3 rfl ?_
  refine bl_c (pc' := 743) (n := 3) bt_291_742 rfl rfl (fun _ _ _ => rfl) (by decide) (fun c716 e717 => ?_)
  refine bl_add (pc' := 744) bt_291_743 rfl (by omega) (by omega) (fun v718 e719 => ?_)
  refine bl_sc (pc' := 745) bt_291_744 rfl hS (by omega) (by omega) ?_
  refine bl_i0 (pc' := 748) (pt := 752) bt_291_745 rfl rfl (fun k720 => ?_) (fun k720 => ?_)
  · replace k720 : ((xs (v718).toInt.toNat)).toInt = 0 := k720
    refine bl_c (pc' := 753) (n := 0) bt_291_752 rfl rfl (fun _ _ _ => rfl) (by decide) (fun c721 e722 => ?_)
    refine bl_cv (pc' := 756) (st := []) (args := [.int c721, .int (xs (v714).toInt.toNat), .int (xs (v710).toInt.toNat)]) (c := 0) (ci := 8) bt_291_753 rfl rfl (by decide) (wl_o0 hL) (by decide) (Nat.succ_lt_succ (Nat.zero_lt_succ _)) rfl (Nat.le_of_ble_eq_true rfl) (Nat.le_of_ble_eq_true rfl) ?_
    refine wq_j (m := 255) (FIN := st_FIN) (g := (291, 756, lv, [], cb, sb)) (t := []) (A := fun h' r => wl_W E wl_H x x h' ∧ wt_K h h') q0_k q0_a q0_h rfl (by decide) (ka_lc (ka_no (by decide)) (ka_lc ka_ti (ka_lc ka_ti (ka_lc ka_ti ka_ln)))) hL (fun F9 k1 => wk_c_risk (FIN := F9) (gs := [bp_mf]) (by omega) hSA h8 hL (Nat.le_of_ble_eq_true rfl) (fun h r a b => k1 _ _ ⟨a, b⟩)) (fun h723 r724 ⟨hL725, K728⟩ F726 Ka727 => ?_)
    have hR729 := wt_RK hR K728
    have hQ730 := rb_q0 hL hQ F726 Ka727
    show bh_G E st_FIN ((291, 756, lv, [.int r724], cb, sb) :: [], h723, none)
    refine bl_pop (pc' := 757) bt_291_756 rfl rfl ?_
    refine bl_ld (pc' := 758) bt_291_757 rfl rfl (fun _ _ _ => rfl) g2 rfl ?_
    refine bl_ld (pc' := 759) bt_291_758 rfl rfl (fun _ _ _ => rfl) g0 rfl ?_
    refine bl_ld (pc' := 760) bt_291_759 rfl rfl (fun _ _ _ => rfl) g3 rfl ?_
    refine bl_c (pc' := 761) (n := 1) bt_291_760 rfl rfl (fun _ _ _ => rfl) (by decide) (fun c731 e732 => ?_)
    refine bl_add (pc' := 762) bt_291_761 rfl (by omega) (by omega) (fun v733 e734 => ?_)
    refine bl_sc (pc' := 763) bt_291_762 rfl hS (by omega) (by omega) ?_
    refine bl_ld (pc' := 764) bt_291_763 rfl rfl (fun _ _ _ => rfl) g0 rfl ?_
    refine bl_ld (pc' := 765) bt_291_764 rfl rfl (fun _ _ _ => rfl) g3 rfl ?_
    refine bl_c (pc' := 766) (n := 2) bt_291_765 rfl rfl (fun _ _ _ => rfl) (by decide) (fun c735 e736 => ?_)
    refine bl_add (pc' := 767) bt_291_766 rfl (by omega) (by omega) (fun v737 e738 => ?_)
    refine bl_sc (pc' := 768) bt_291_767 rfl hS (by omega) (by omega) ?_
    refine bl_ld (pc' := 769) bt_291_768 rfl rfl (fun _ _ _ => rfl) g0 rfl ?_
    refine bl_ld (pc' := 770) bt_291_769 rfl rfl (fun _ _ _ => rfl) g3 rfl ?_
    refine bl_c (pc' := 771) (n := 3) bt_291_770 rfl rfl (fun _ _ _ => rfl) (by decide) (fun c739 e740 => ?_)
    refine bl_add (pc' := 772) bt_291_771 rfl (by omega) (by omega) (fun v741 e742 => ?_)
    refine bl_sc (pc' := 773) bt_291_772 rfl hS (by omega) (by omega) ?_
    refine bl_i0 (pc' := 776) (pt := 780) bt_291_773 rfl rfl (fun k743 => ?_) (fun k743 => ?_)
    · replace k743 : ((xs (v741).toInt.toNat)).toInt = 0 := k743
      refine bl_c (pc' := 781) (n := 0) bt_291_780 rfl rfl (fun _ _ _ => rfl) (by decide) (fun c744 e745 => ?_)
      refine bl_cv (pc' := 784) (st := []) (args := [.int c744, .int (xs (v737).toInt.toNat), .int (xs (v733).toInt.toNat)]) (c := 88) (ci := 9) bt_291_781 rfl rfl (by decide) (wl_o88 hL725) (by decide) (Nat.succ_lt_succ (Nat.zero_lt_succ _)) rfl (Nat.le_of_ble_eq_true rfl) (Nat.le_of_ble_eq_true rfl) ?_
      refine wq_j (m := 79) (FIN := st_FIN) (g := (291, 784, lv, [], cb, sb)) (t := []) (A := fun h' r => wl_W E wl_H x x h' ∧ wt_K h723 h') q0_k q0_a q0_h rfl (by decide) (ka_lc (ka_no (by decide)) (ka_lc ka_ti (ka_lc ka_ti (ka_lc ka_ti ka_ln)))) hL725 (fun F9 k1 => wk_m_risk (FIN := F9) (gs := [bp_mf]) (by omega) hSA hL725 (Nat.le_of_ble_eq_true rfl) (fun h r a b => k1 _ _ ⟨a, b⟩)) (fun h746 r747 ⟨hL748, K751⟩ F749 Ka750 => ?_)
      have hR752 := wt_RK hR729 K751
      have hQ753 := rb_q0 hL725 hQ730 F749 Ka750
      show bh_G E st_FIN ((291, 784, lv, [.int r747], cb, sb) :: [], h746, none)
      refine bl_pop (pc' := 785) bt_291_784 rfl rfl ?_
      refine bl_go (pc' := 1452) bt_291_785 rfl ?_
      exact kk _ _ _ hL748 hR752 hQ753
    · replace k743 : ¬ (((xs (v741).toInt.toNat)).toInt = 0) := k743
      refine bl_c (pc' := 777) (n := 1) bt_291_776 rfl rfl (fun _ _ _ => rfl) (by decide) (fun c754 e755 => ?_)
      refine bl_go (pc' := 781) bt_291_777 rfl ?_
      refine bl_cv (pc' := 784) (st := []) (args := [.int c754, .int (xs (v737).toInt.toNat), .int (xs (v733).toInt.toNat)]) (c := 88) (ci := 9) bt_291_781 rfl rfl (by decide) (wl_o88 hL725) (by decide) (Nat.succ_lt_succ (Nat.zero_lt_succ _)) rfl (Nat.le_of_ble_eq_true rfl) (Nat.le_of_ble_eq_true rfl) ?_
      refine wq_j (m := 79) (FIN := st_FIN) (g := (291, 784, lv, [], cb, sb)) (t := []) (A := fun h' r => wl_W E wl_H x x h' ∧ wt_K h723 h') q0_k q0_a q0_h rfl (by decide) (ka_lc (ka_no (by decide)) (ka_lc ka_ti (ka_lc ka_ti (ka_lc ka_ti ka_ln)))) hL725 (fun F9 k1 => wk_m_risk (FIN := F9) (gs := [bp_mf]) (by omega) hSA hL725 (Nat.le_of_ble_eq_true rfl) (fun h r a b => k1 _ _ ⟨a, b⟩)) (fun h756 r757 ⟨hL758, K761⟩ F759 Ka760 => ?_)
      have hR762 := wt_RK hR729 K761
      have hQ763 := rb_q0 hL725 hQ730 F759 Ka760
      show bh_G E st_FIN ((291, 784, lv, [.int r757], cb, sb) :: [], h756, none)
      refine bl_pop (pc' := 785) bt_291_784 rfl rfl ?_
      refine bl_go (pc' := 1452) bt_291_785 rfl ?_
      exact kk _ _ _ hL758 hR762 hQ763
  · replace k720 : ¬ (((xs (v718).toInt.toNat)).toInt = 0) := k720
    refine bl_c (pc' := 749) (n := 1) bt_291_748 rfl rfl (fun _ _ _ => rfl) (by decide) (fun c764 e765 => ?_)
    refine bl_go (pc' := 753) bt_291_749 rfl ?_
    refine bl_cv (pc' := 756) (st := []) (args := [.int c764, .int (xs (v714).toInt.toNat), .int (xs (v710).toInt.toNat)]) (c := 0) (ci := 8) bt_291_753 rfl rfl (by decide) (wl_o0 hL) (by decide) (Nat.succ_lt_succ (Nat.zero_lt_succ _)) rfl (Nat.le_of_ble_eq_true rfl) (Nat.le_of_ble_eq_true rfl) ?_
    refine wq_j (m := 255) (FIN := st_FIN) (g := (291, 756, lv, [], cb, sb)) (t := []) (A := fun h' r => wl_W E wl_H x x h' ∧ wt_K h h') q0_k q0_a q0_h rfl (by decide) (ka_lc (ka_no (by decide)) (ka_lc ka_ti (ka_lc ka_ti (ka_lc ka_ti ka_ln)))) hL (fun F9 k1 => wk_c_risk (FIN := F9) (gs := [bp_mf]) (by omega) hSA h8 hL (Nat.le_of_ble_eq_true rfl) (fun h r a b => k1 _ _ ⟨a, b⟩)) (fun h766 r767 ⟨hL768, K771⟩ F769 Ka770 => ?_)
    have hR772 := wt_RK hR K771
    have hQ773 := rb_q0 hL hQ F769 Ka770
    show bh_G E st_FIN ((291, 756, lv, [.int r767], cb, sb) :: [], h766, none)
    refine bl_pop (pc' := 757) bt_291_756 rfl rfl ?_
    refine bl_ld (pc' := 758) bt_291_757 rfl rfl (fun _ _ _ => rfl) g2 rfl ?_
    refine bl_ld (pc' := 759) bt_291_758 rfl rfl (fun _ _ _ => rfl) g0 rfl ?_
    refine bl_ld (pc' := 760) bt_291_759 rfl rfl (fun _ _ _ => rfl) g3 rfl ?_
    refine bl_c (pc' := 761) (n := 1) bt_291_760 rfl rfl (fun _ _ _ => rfl) (by decide) (fun c774 e775 => ?_)
    refine bl_add (pc' := 762) bt_291_761 rfl (by omega) (by omega) (fun v776 e777 => ?_)
    refine bl_sc (pc' := 763) bt_291_762 rfl hS (by omega) (by omega) ?_
    refine bl_ld (pc' := 764) bt_291_763 rfl rfl (fun _ _ _ => rfl) g0 rfl ?_
    refine bl_ld (pc' := 765) bt_291_764 rfl rfl (fun _ _ _ => rfl) g3 rfl ?_
    refine bl_c (pc' := 766) (n := 2) bt_291_765 rfl rfl (fun _ _ _ => rfl) (by decide) (fun c778 e779 => ?_)
    refine bl_add (pc' := 767) bt_291_766 rfl (by omega) (by omega) (fun v780 e781 => ?_)
    refine bl_sc (pc' := 768) bt_291_767 rfl hS (by omega) (by omega) ?_
    refine bl_ld (pc' := 769) bt_291_768 rfl rfl (fun _ _ _ => rfl) g0 rfl ?_
    refine bl_ld (pc' := 770) bt_291_769 rfl rfl (fun _ _ _ => rfl) g3 rfl ?_
    refine bl_c (pc' := 771) (n := 3) bt_291_770 rfl rfl (fun _ _ _ => rfl) (by decide) (fun c782 e783 => ?_)
    refine bl_add (pc' := 772) bt_291_771 rfl (by omega) (by omega) (fun v784 e785 => ?_)
    refine bl_sc (pc' := 773) bt_291_772 rfl hS (by omega) (by omega) ?_
    refine bl_i0 (pc' := 776) (pt := 780) bt_291_773 rfl rfl (fun k786 => ?_) (fun k786 => ?_)
    · replace k786 : ((xs (v784).toInt.toNat)).toInt = 0 := k786
      refine bl_c (pc' := 781) (n := 0) bt_291_780 rfl rfl (fun _ _ _ => rfl) (by decide) (fun c787 e788 => ?_)
      refine bl_cv (pc' := 784) (st := []) (args := [.int c787, .int (xs (v780).toInt.toNat), .int (xs (v776).toInt.toNat)]) (c := 88) (ci := 9) bt_291_781 rfl rfl (by decide) (wl_o88 hL768) (by decide) (Nat.succ_lt_succ (Nat.zero_lt_succ _)) rfl (Nat.le_of_ble_eq_true rfl) (Nat.le_of_ble_eq_true rfl) ?_
      refine wq_j (m := 79) (FIN := st_FIN) (g := (291, 784, lv, [], cb, sb)) (t := []) (A := fun h' r => wl_W E wl_H x x h' ∧ wt_K h766 h') q0_k q0_a q0_h rfl (by decide) (ka_lc (ka_no (by decide)) (ka_lc ka_ti (ka_lc ka_ti (ka_lc ka_ti ka_ln)))) hL768 (fun F9 k1 => wk_m_risk (FIN := F9) (gs := [bp_mf]) (by omega) hSA hL768 (Nat.le_of_ble_eq_true rfl) (fun h r a b => k1 _ _ ⟨a, b⟩)) (fun h789 r790 ⟨hL791, K794⟩ F792 Ka793 => ?_)
      have hR795 := wt_RK hR772 K794
      have hQ796 := rb_q0 hL768 hQ773 F792 Ka793
      show bh_G E st_FIN ((291, 784, lv, [.int r790], cb, sb) :: [], h789, none)
      refine bl_pop (pc' := 785) bt_291_784 rfl rfl ?_
      refine bl_go (pc' := 1452) bt_291_785 rfl ?_
      exact kk _ _ _ hL791 hR795 hQ796
    · replace k786 : ¬ (((xs (v784).toInt.toNat)).toInt = 0) := k786
      refine bl_c (pc' := 777) (n := 1) bt_291_776 rfl rfl (fun _ _ _ => rfl) (by decide) (fun c797 e798 => ?_)
      refine bl_go (pc' := 781) bt_291_777 rfl ?_
      refine bl_cv (pc' := 784) (st := []) (args := [.int c797, .int (xs (v780).toInt.toNat), .int (xs (v776).toInt.toNat)]) (c := 88) (ci := 9) bt_291_781 rfl rfl (by decide) (wl_o88 hL768) (by decide) (Nat.succ_lt_succ (Nat.zero_lt_succ _)) rfl (Nat.le_of_ble_eq_true rfl) (Nat.le_of_ble_eq_true rfl) ?_
      refine wq_j (m := 79) (FIN := st_FIN) (g := (291, 784, lv, [], cb, sb)) (t := []) (A := fun h' r => wl_W E wl_H x x h' ∧ wt_K h766 h') q0_k q0_a q0_h rfl (by decide) (ka_lc (ka_no (by decide)) (ka_lc ka_ti (ka_lc ka_ti (ka_lc ka_ti ka_ln)))) hL768 (fun F9 k1 => wk_m_risk (FIN := F9) (gs := [bp_mf]) (by omega) hSA hL768 (Nat.le_of_ble_eq_true rfl) (fun h r a b => k1 _ _ ⟨a, b⟩)) (fun h799 r800 ⟨hL801, K804⟩ F802 Ka803 => ?_)
      have hR805 := wt_RK hR772 K804
      have hQ806 := rb_q0 hL768 hQ773 F802 Ka803
      show bh_G E st_FIN ((291, 784, lv, [.int r800], cb, sb) :: [], h799, none)
      refine bl_pop (pc' := 785) bt_291_784 rfl rfl ?_
      refine bl_go (pc' := 1452) bt_291_785 rfl ?_
      exact kk _ _ _ hL801 hR805 hQ806
set_option maxHeartbeats 40000000 in
theorem wl_k_16 {i x : Int32} {lv : mm_V} {h : mm_H} {o : Option Value} (hST : wt_ST E) (hSA : ∀ {x y : Int32} (ρ : Nat → Int32), en_SA E ρ (wl_o x y) mt_SB) (h8 : ∃ q, E.2[8]? = some q) (hS : bl_S E b n xs) (hn : n ≤ 3072) (g0 : mm_get lv 0 = some (.ref b)) (g1 : mm_get lv 1 = some (.ref (E.1 + 0))) (g2 : mm_get lv 2 = some (.ref (E.1 + 88))) (g3 : mm_get lv 3 = some (.int i)) (hi0 : 0 ≤ i.toInt) (hi5 : i.toInt + 6 ≤ (n : Int)) (hL : wl_W E wl_H x x h) (hR : wt_R x x h) (hQ : rb_R h) (kk : ∀ (h' : mm_H) (x' : Int32) (o' : Option Value), wl_W E wl_H x' x' h' → wt_R x' x' h' → rb_R h' → bh_G E st_FIN ((291, 1452, lv, [], cb, sb) :: [], h', o')) : bh_G E st_FIN ((291, 788, lv, [], cb, sb) :: [], h, o) := by
  refine bl_ld (pc' := 789) bt_291_788 rfl rfl (fun _ _ _ => rfl) g1 rfl ?_
  refine bl_ld (pc' := 790) bt_291_789 rfl rfl (fun _ _ _ => rfl) g0 rfl ?_
  refine bl_ld (pc' := 791) bt_291_790 rfl rfl (fun _ _ _ => rfl) g3 rfl ?_
  refine bl_c (pc' := 792) (n := 1) bt_291_791 rfl rfl (fun _ _ _ => rfl) (by decide) (fun c807 e808 => ?_)
  refine bl_add (pc' := 793) bt_291_792 rfl (by omega) (by omega) (fun v809 e810 => ?_)
  refine bl_sc (pc' := 794) bt_291_793 rfl hS (by omega) (by omega) ?_
  refine bl_ld (pc' := 795) bt_291_794 rfl rfl (fun _ _ _ => rfl) g0 rfl ?_
  refine bl_ld (pc' := 796) bt_291_795 rfl rfl (fun _ _ _ => rfl) g3 rfl ?_
  refine bl_c (pc' := 797) (n := 2) bt_291_796 rfl rfl (fun _ _ _ => rfl) (by decide) (fun c811 e812 => ?_)
  refine bl_add (pc' := 798) bt_291_797 rfl (by omega) (by omega) (fun v813 e814 => ?_)
  refine bl_sc (pc' := 799) bt_291_798 rfl hS (by omega) (by omega) ?_
  refine bl_cv (pc' := 802) (st := []) (args := [.int (xs (v813).toInt.toNat), .int (xs (v809).toInt.toNat)]) (c := 0) (ci := 8) bt_291_799 rfl rfl (by decide) (wl_o0 hL) (by decide) (Nat.succ_lt_succ (Nat.zero_lt_succ _)) rfl (Nat.le_of_ble_eq_true rfl) (Nat.le_of_ble_eq_true rfl) ?_
  refine wq_j (m := 258) (FIN := st_FIN) (g := (291, 802, lv, [], cb, sb)) (t := []) (A := fun h' r => wl_W E wl_H x x h' ∧ wt_K h h') q0_k q0_a q0_h rfl (by decide) (ka_lc (ka_no (by decide)) (ka_lc ka_ti (ka_lc ka_ti ka_ln))) hL (fun F9 k1 => wk_c_safest (FIN := F9) (gs := [bp_mf]) hSA h8 hL (Nat.le_of_ble_eq_true rfl) (fun h r a b => k1 _ _ ⟨a, b⟩)) (fun h815 r816 ⟨hL817, K820⟩ F818 Ka819 => ?_)
  have hR821 := wt_RK hR K820
  have hQ822 := rb_q0 hL hQ F818 Ka819
  show bh_G E st_FIN ((291, 802, lv, [.int r816], cb, sb) :: [], h815, none)
  refine bl_pop (pc' := 803) bt_291_802 rfl rfl ?_
  refine bl_ld (pc' := 804) bt_291_803 rfl rfl (fun _ _ _ => rfl) g2 rfl ?_
  refine bl_ld (pc' := 805) bt_291_804 rfl rfl (fun _ _ _ => rfl) g0 rfl ?_
  refine bl_ld (pc' := 806) bt_291_805 rfl rfl (fun _ _ _ => rfl) g3 rfl ?_
  refine bl_c (pc' := 807) (n := 1) bt_291_806 rfl rfl (fun _ _ _ => rfl) (by decide) (fun c823 e824 => ?_)
  refine bl_add (pc' := 808) bt_291_807 rfl (by omega) (by omega) (fun v825 e826 => ?_)
  refine bl_sc (pc' := 809) bt_291_808 rfl hS (by omega) (by omega) ?_
  refine bl_ld (pc' := 810) bt_291_809 rfl rfl (fun _ _ _ => rfl) g0 rfl ?_
  refine bl_ld (pc' := 811) bt_291_810 rfl rfl (fun _ _ _ => rfl) g3 rfl ?_
  refine bl_c (pc' := 812) (n := 2) bt_291_811 rfl rfl (fun _ _ _ => rfl) (by decide) (fun c827 e828 => ?_)
  refine bl_add (pc' := 813) bt_291_812 rfl (by omega) (by omega) (fun v829 e830 => ?_)
  refine bl_sc (pc' := 814) bt_291_813 rfl hS (by omega) (by omega) ?_
  refine bl_cv (pc' := 817) (st := []) (args := [.int (xs (v829).toInt.toNat), .int (xs (v825).toInt.toNat)]) (c := 88) (ci := 9) bt_291_814 rfl rfl (by decide) (wl_o88 hL817) (by decide) (Nat.succ_lt_succ (Nat.zero_lt_succ _)) rfl (Nat.le_of_ble_eq_true rfl) (Nat.le_of_ble_eq_true rfl) ?_
  refine wq_j (m := 84) (FIN := st_FIN) (g := (291, 817, lv, [], cb, sb)) (t := []) (A := fun h' r => wl_W E wl_H x x h' ∧ wt_K h815 h') q0_k q0_a q0_h rfl (by decide) (ka_lc (ka_no (by decide)) (ka_lc ka_ti (ka_lc ka_ti ka_ln))) hL817 (fun F9 k1 => wk_m_safest (FIN := F9) (gs := [bp_mf]) hSA hL817 (Nat.le_of_ble_eq_true rfl) (fun h r a b => k1 _ _ ⟨a, b⟩)) (fun h831 r832 ⟨hL833, K836⟩ F834 Ka835 => ?_)
  have hR837 := wt_RK hR821 K836
  have hQ838 := rb_q0 hL817 hQ822 F834 Ka835
  show bh_G E st_FIN ((291, 817, lv, [.int r832], cb, sb) :: [], h831, none)
  refine bl_pop (pc' := 818) bt_291_817 rfl rfl ?_
  refine bl_go (pc' := 1452) bt_291_818 rfl ?_
  exact kk _ _ _ hL833 hR837 hQ838
set_option maxHeartbeats 40000000 in
theorem wl_k_17 {i x : Int32} {lv : mm_V} {h : mm_H} {o : Option Value} (hST : wt_ST E) (hSA : ∀ {x y : Int32} (ρ : Nat → Int32), en_SA E ρ (wl_o x y) mt_SB) (h8 : ∃ q, E.2[8]? = some q) (hS : bl_S E b n xs) (hn : n ≤ 3072) (g0 : mm_get lv 0 = some (.ref b)) (g1 : mm_get lv 1 = some (.ref (E.1 + 0))) (g2 : mm_get lv 2 = some (.ref (E.1 + 88))) (g3 : mm_get lv 3 = some (.int i)) (hi0 : 0 ≤ i.toInt) (hi5 : i.toInt + 6 ≤ (n : Int)) (hL : wl_W E wl_H x x h) (hR : wt_R x x h) (hQ : rb_R h) (kk : ∀ (h' : mm_H) (x' : Int32) (o' : Option Value), wl_W E wl_H x' x' h' → wt_R x' x' h' → rb_R h' → bh_G E st_FIN ((291, 1452, lv, [], cb, sb) :: [], h', o')) : bh_G E st_FIN ((291, 821, lv, [], cb, sb) :: [], h, o) := by
  refine bl_ld (pc' := 822) bt_291_821 rfl rfl (fun _ _ _ => rfl) g1 rfl ?_
  refine bl_ld (pc' := 823) bt_291_822 rfl rfl (fun _ _ _ => rfl) g0 rfl ?_
  refine bl_ld (pc' := 824) bt_291_823 rfl rfl (fun _ _ _ => rfl) g3 rfl ?_
  refine bl_c (pc' := 825) (n := 1) bt_291_824 rfl rfl (fun _ _ _ => rfl) (by decide) (fun c839 e840 => ?_)
  refine bl_add (pc' := 826) bt_291_825 rfl (by omega) (by omega) (fun v841 e842 => ?_)
  refine bl_sc (pc' := 827) bt_291_826 rfl hS (by omega) (by omega) ?_
  refine bl_ld (pc' := 828) bt_291_827 rfl rfl (fun _ _ _ => rfl) g0 rfl ?_
  refine bl_ld (pc' := 829) bt_291_828 rfl rfl (fun _ _ _ => rfl) g3 rfl ?_
  refine bl_c (pc' := 830) (n := 2) bt_291_829 rfl rfl (fun _ _ _ => rfl) (by decide) (fun c843 e844 => ?_)
  refine bl_add (pc' := 831) bt_291_830 rfl (by omega) (by omega) (fun v845 e846 => ?_)
  refine bl_sc (pc' := 832) bt_291_831 rfl hS (by omega) (by omega) ?_
  refine bl_i0 (pc' := 835) (pt := 839) bt_291_832 rfl rfl (fun k847 => ?_) (fun k847 => ?_)
  · replace k847 : ((xs (v845).toInt.toNat)).toInt = 0 := k847
    refine bl_c (pc' := 840) (n := 0) bt_291_839 rfl rfl (fun _ _ _ => rfl) (by decide) (fun c848 e849 => ?_)
    refine bl_cv (pc' := 843) (st := []) (args := [.int c848, .int (xs (v841).toInt.toNat)]) (c := 0) (ci := 8) bt_291_840 rfl rfl (by decide) (wl_o0 hL) (by decide) (Nat.succ_lt_succ (Nat.zero_lt_succ _)) rfl (Nat.le_of_ble_eq_true rfl) (Nat.le_of_ble_eq_true rfl) ?_
    refine wq_j (m := 257) (FIN := st_FIN) (g := (291, 843, lv, [], cb, sb)) (t := []) (A := fun h' r => wl_W E wl_H x x h' ∧ wt_K h h') q0_k q0_a q0_h rfl (by decide) (ka_lc (ka_no (by decide)) (ka_lc ka_ti (ka_lc ka_ti ka_ln))) hL (fun F9 k1 => wk_c_safe (FIN := F9) (gs := [bp_mf]) (by omega) hSA h8 hL (Nat.le_of_ble_eq_true rfl) (fun h r a b => k1 _ _ ⟨a, b⟩)) (fun h850 r851 ⟨hL852, K855⟩ F853 Ka854 => ?_)
    have hR856 := wt_RK hR K855
    have hQ857 := rb_q0 hL hQ F853 Ka854
    show bh_G E st_FIN ((291, 843, lv, [.int r851], cb, sb) :: [], h850, none)
    refine bl_pop (pc' := 844) bt_291_843 rfl rfl ?_
    refine bl_ld (pc' := 845) bt_291_844 rfl rfl (fun _ _ _ => rfl) g2 rfl ?_
    refine bl_ld (pc' := 846) bt_291_845 rfl rfl (fun _ _ _ => rfl) g0 rfl ?_
    refine bl_ld (pc' := 847) bt_291_846 rfl rfl (fun _ _ _ => rfl) g3 rfl ?_
    refine bl_c (pc' := 848) (n := 1) bt_291_847 rfl rfl (fun _ _ _ => rfl) (by decide) (fun c858 e859 => ?_)
    refine bl_add (pc' := 849) bt_291_848 rfl (by omega) (by omega) (fun v860 e861 => ?_)
    refine bl_sc (pc' := 850) bt_291_849 rfl hS (by omega) (by omega) ?_
    refine bl_ld (pc' := 851) bt_291_850 rfl rfl (fun _ _ _ => rfl) g0 rfl ?_
    refine bl_ld (pc' := 852) bt_291_851 rfl rfl (fun _ _ _ => rfl) g3 rfl ?_
    refine bl_c (pc' := 853) (n := 2) bt_291_852 rfl rfl (fun _ _ _ => rfl) (by decide) (fun c862 e863 => ?_)
    refine bl_add (pc' := 854) bt_291_853 rfl (by omega) (by omega) (fun v864 e865 => ?_)
    refine bl_sc (pc' := 855) bt_291_854 rfl hS (by omega) (by omega) ?_
    refine bl_i0 (pc' := 858) (pt := 862) bt_291_855 rfl rfl (fun k866 => ?_) (fun k866 => ?_)
    · replace k866 : ((xs (v864).toInt.toNat)).toInt = 0 := k866
      refine bl_c (pc' := 863) (n := 0) bt_291_862 rfl rfl (fun _ _ _ => rfl) (by decide) (fun c867 e868 => ?_)
      refine bl_cv (pc' := 866) (st := []) (args := [.int c867, .int (xs (v860).toInt.toNat)]) (c := 88) (ci := 9) bt_291_863 rfl rfl (by decide) (wl_o88 hL852) (by decide) (Nat.succ_lt_succ (Nat.zero_lt_succ _)) rfl (Nat.le_of_ble_eq_true rfl) (Nat.le_of_ble_eq_true rfl) ?_
      refine wq_j (m := 81) (FIN := st_FIN) (g := (291, 866, lv, [], cb, sb)) (t := []) (A := fun h' r => wl_W E wl_H x x h' ∧ wt_K h850 h') q0_k q0_a q0_h rfl (by decide) (ka_lc (ka_no (by decide)) (ka_lc ka_ti (ka_lc ka_ti ka_ln))) hL852 (fun F9 k1 => wk_m_safe (FIN := F9) (gs := [bp_mf]) (by omega) hSA hL852 (Nat.le_of_ble_eq_true rfl) (fun h r a b => k1 _ _ ⟨a, b⟩)) (fun h869 r870 ⟨hL871, K874⟩ F872 Ka873 => ?_)
      have hR875 := wt_RK hR856 K874
      have hQ876 := rb_q0 hL852 hQ857 F872 Ka873
      show bh_G E st_FIN ((291, 866, lv, [.int r870], cb, sb) :: [], h869, none)
      refine bl_pop (pc' := 867) bt_291_866 rfl rfl ?_
      refine bl_go (pc' := 1452) bt_291_867 rfl ?_
      exact kk _ _ _ hL871 hR875 hQ876
    · replace k866 : ¬ (((xs (v864).toInt.toNat)).toInt = 0) := k866
      refine bl_c (pc' := 859) (n := 1) bt_291_858 rfl rfl (fun _ _ _ => rfl) (by decide) (fun c877 e878 => ?_)
      refine bl_go (pc' := 863) bt_291_859 rfl ?_
      refine bl_cv (pc' := 866) (st := []) (args := [.int c877, .int (xs (v860).toInt.toNat)]) (c := 88) (ci := 9) bt_291_863 rfl rfl (by decide) (wl_o88 hL852) (by decide) (Nat.succ_lt_succ (Nat.zero_lt_succ _)) rfl (Nat.le_of_ble_eq_true rfl) (Nat.le_of_ble_eq_true rfl) ?_
      refine wq_j (m := 81) (FIN := st_FIN) (g := (291, 866, lv, [], cb, sb)) (t := []) (A := fun h' r => wl_W E wl_H x x h' ∧ wt_K h850 h') q0_k q0_a q0_h rfl (by decide) (ka_lc (ka_no (by decide)) (ka_lc ka_ti (ka_lc ka_ti ka_ln))) hL852 (fun F9 k1 => wk_m_safe (FIN := F9) (gs := [bp_mf]) (by omega) hSA hL852 (Nat.le_of_ble_eq_true rfl) (fun h r a b => k1 _ _ ⟨a, b⟩)) (fun h879 r880 ⟨hL881, K884⟩ F882 Ka883 => ?_)
      have hR885 := wt_RK hR856 K884
      have hQ886 := rb_q0 hL852 hQ857 F882 Ka883
      show bh_G E st_FIN ((291, 866, lv, [.int r880], cb, sb) :: [], h879, none)
      refine bl_pop (pc' := 867) bt_291_866 rfl rfl ?_
      refine bl_go (pc' := 1452) bt_291_867 rfl ?_
      exact kk _ _ _ hL881 hR885 hQ886
  · replace k847 : ¬ (((xs (v845).toInt.toNat)).toInt = 0) := k847
    refine bl_c (pc' := 836) (n := 1) bt_291_835 rfl rfl (fun _ _ _ => rfl) (by decide) (fun c887 e888 => ?_)
    refine bl_go (pc' := 840) bt_291_836 rfl ?_
    refine bl_cv (pc' := 843) (st := []) (args := [.int c887, .int (xs (v841).toInt.toNat)]) (c := 0) (ci := 8) bt_291_840 rfl rfl (by decide) (wl_o0 hL) (by decide) (Nat.succ_lt_succ (Nat.zero_lt_succ _)) rfl (Nat.le_of_ble_eq_true rfl) (Nat.le_of_ble_eq_true rfl) ?_
    refine wq_j (m := 257) (FIN := st_FIN) (g := (291, 843, lv, [], cb, sb)) (t := []) (A := fun h' r => wl_W E wl_H x x h' ∧ wt_K h h') q0_k q0_a q0_h rfl (by decide) (ka_lc (ka_no (by decide)) (ka_lc ka_ti (ka_lc ka_ti ka_ln))) hL (fun F9 k1 => wk_c_safe (FIN := F9) (gs := [bp_mf]) (by omega) hSA h8 hL (Nat.le_of_ble_eq_true rfl) (fun h r a b => k1 _ _ ⟨a, b⟩)) (fun h889 r890 ⟨hL891, K894⟩ F892 Ka893 => ?_)
    have hR895 := wt_RK hR K894
    have hQ896 := rb_q0 hL hQ F892 Ka893
    show bh_G E st_FIN ((291, 843, lv, [.int r890], cb, sb) :: [], h889, none)
    refine bl_pop (pc' := 844) bt_291_843 rfl rfl ?_
    refine bl_ld (pc' := 845) bt_291_844 rfl rfl (fun _ _ _ => rfl) g2 rfl ?_
    refine bl_ld (pc' := 846) bt_291_845 rfl rfl (fun _ _ _ => rfl) g0 rfl ?_
    refine bl_ld (pc' := 847) bt_291_846 rfl rfl (fun _ _ _ => rfl) g3 rfl ?_
    refine bl_c (pc' := 848) (n := 1) bt_291_847 rfl rfl (fun _ _ _ => rfl) (by decide) (fun c897 e898 => ?_)
    refine bl_add (pc' := 849) bt_291_848 rfl (by omega) (by omega) (fun v899 e900 => ?_)
    refine bl_sc (pc' := 850) bt_291_849 rfl hS (by omega) (by omega) ?_
    refine bl_ld (pc' := 851) bt_291_850 rfl rfl (fun _ _ _ => rfl) g0 rfl ?_
    refine bl_ld (pc' := 852) bt_291_851 rfl rfl (fun _ _ _ => rfl) g3 rfl ?_
    refine bl_c (pc' := 853) (n := 2) bt_291_852 rfl rfl (fun _ _ _ => rfl) (by decide) (fun c901 e902 => ?_)
    refine bl_add (pc' := 854) bt_291_853 rfl (by omega) (by omega) (fun v903 e904 => ?_)
    refine bl_sc (pc' := 855) bt_291_854 rfl hS (by omega) (by omega) ?_
    refine bl_i0 (pc' := 858) (pt := 862) bt_291_855 rfl rfl (fun k905 => ?_) (fun k905 => ?_)
    · replace k905 : ((xs (v903).toInt.toNat)).toInt = 0 := k905
      refine bl_c (pc' := 863) (n := 0) bt_291_862 rfl rfl (fun _ _ _ => rfl) (by decide) (fun c906 e907 => ?_)
      refine bl_cv (pc' := 866) (st := []) (args := [.int c906, .int (xs (v899).toInt.toNat)]) (c := 88) (ci := 9) bt_291_863 rfl rfl (by decide) (wl_o88 hL891) (by decide) (Nat.succ_lt_succ (Nat.zero_lt_succ _)) rfl (Nat.le_of_ble_eq_true rfl) (Nat.le_of_ble_eq_true rfl) ?_
      refine wq_j (m := 81) (FIN := st_FIN) (g := (291, 866, lv, [], cb, sb)) (t := []) (A := fun h' r => wl_W E wl_H x x h' ∧ wt_K h889 h') q0_k q0_a q0_h rfl (by decide) (ka_lc (ka_no (by decide)) (ka_lc ka_ti (ka_lc ka_ti ka_ln))) hL891 (fun F9 k1 => wk_m_safe (FIN := F9) (gs := [bp_mf]) (by omega) hSA hL891 (Nat.le_of_ble_eq_true rfl) (fun h r a b => k1 _ _ ⟨a, b⟩)) (fun h908 r909 ⟨hL910, K913⟩ F911 Ka912 => ?_)
      have hR914 := wt_RK hR895 K913
      have hQ915 := rb_q0 hL891 hQ896 F911 Ka912
      show bh_G E st_FIN ((291, 866, lv, [.int r909], cb, sb) :: [], h908, none)
      refine bl_pop (pc' := 867) bt_291_866 rfl rfl ?_
      refine bl_go (pc' := 1452) bt_291_867 rfl ?_
      exact kk _ _ _ hL910 hR914 hQ915
    · replace k905 : ¬ (((xs (v903).toInt.toNat)).toInt = 0) := k905
      refine bl_c (pc' := 859) (n := 1) bt_291_858 rfl rfl (fun _ _ _ => rfl) (by decide) (fun c916 e917 => ?_)
      refine bl_go (pc' := 863) bt_291_859 rfl ?_
      refine bl_cv (pc' := 866) (st := []) (args := [.int c916, .int (xs (v899).toInt.toNat)]) (c := 88) (ci := 9) bt_291_863 rfl rfl (by decide) (wl_o88 hL891) (by decide) (Nat.succ_lt_succ (Nat.zero_lt_succ _)) rfl (Nat.le_of_ble_eq_true rfl) (Nat.le_of_ble_eq_true rfl) ?_
      refine wq_j (m := 81) (FIN := st_FIN) (g := (291, 866, lv, [], cb, sb)) (t := []) (A := fun h' r => wl_W E wl_H x x h' ∧ wt_K h889 h') q0_k q0_a q0_h rfl (by decide) (ka_lc (ka_no (by decide)) (ka_lc ka_ti (ka_lc ka_ti ka_ln))) hL891 (fun F9 k1 => wk_m_safe (FIN := F9) (gs := [bp_mf]) (by omega) hSA hL891 (Nat.le_of_ble_eq_true rfl) (fun h r a b => k1 _ _ ⟨a, b⟩)) (fun h918 r919 ⟨hL920, K923⟩ F921 Ka922 => ?_)
      have hR924 := wt_RK hR895 K923
      have hQ925 := rb_q0 hL891 hQ896 F921 Ka922
      show bh_G E st_FIN ((291, 866, lv, [.int r919], cb, sb) :: [], h918, none)
      refine bl_pop (pc' := 867) bt_291_866 rfl rfl ?_
      refine bl_go (pc' := 1452) bt_291_867 rfl ?_
      exact kk _ _ _ hL920 hR924 hQ925
set_option maxHeartbeats 40000000 in
theorem wl_k_18 {i x : Int32} {lv : mm_V} {h : mm_H} {o : Option Value} (hST : wt_ST E) (hSA : ∀ {x y : Int32} (ρ : Nat → Int32), en_SA E ρ (wl_o x y) mt_SB) (h8 : ∃ q, E.2[8]? = some q) (hS : bl_S E b n xs) (hn : n ≤ 3072) (g0 : mm_get lv 0 = some (.ref b)) (g1 : mm_get lv 1 = some (.ref (E.1 + 0))) (g2 : mm_get lv 2 = some (.ref (E.1 + 88))) (g3 : mm_get lv 3 = some (.int i)) (hi0 : 0 ≤ i.toInt) (hi5 : i.toInt + 6 ≤ (n : Int)) (hL : wl_W E wl_H x x h) (hR : wt_R x x h) (hQ : rb_R h) (kk : ∀ (h' : mm_H) (x' : Int32) (o' : Option Value), wl_W E wl_H x' x' h' → wt_R x' x' h' → rb_R h' → bh_G E st_FIN ((291, 1452, lv, [], cb, sb) :: [], h', o')) : bh_G E st_FIN ((291, 870, lv, [], cb, sb) :: [], h, o) := by
  refine bl_ld (pc' := 871) bt_291_870 rfl rfl (fun _ _ _ => rfl) g1 rfl ?_
  refine bl_ld (pc' := 872) bt_291_871 rfl rfl (fun _ _ _ => rfl) g0 rfl ?_
  refine bl_ld (pc' := 873) bt_291_872 rfl rfl (fun _ _ _ => rfl) g3 rfl ?_
  refine bl_c (pc' := 874) (n := 1) bt_291_873 rfl rfl (fun _ _ _ => rfl) (by decide) (fun c926 e927 => ?_)
  refine bl_add (pc' := 875) bt_291_874 rfl (by omega) (by omega) (fun v928 e929 => ?_)
  refine bl_sc (pc' := 876) bt_291_875 rfl hS (by omega) (by omega) ?_
  refine bl_cv (pc' := 879) (st := []) (args := [.int (xs (v928).toInt.toNat)]) (c := 0) (ci := 8) bt_291_876 rfl rfl (by decide) (wl_o0 hL) (by decide) (Nat.succ_lt_succ (Nat.zero_lt_succ _)) rfl (Nat.le_of_ble_eq_true rfl) (Nat.le_of_ble_eq_true rfl) ?_
  refine wq_c_roster (FIN := st_FIN) (g := (291, 879, lv, [], cb, sb)) (t := []) hSA h8 hL hQ (Nat.le_of_ble_eq_true rfl) (fun h930 r931 hL932 K935 F933 Ka934 B936 => ?_)
  have hR937 := wt_RK hR K935
  have hQ938 := rb_q0 hL hQ F933 Ka934
  show bh_G E st_FIN ((291, 879, lv, [.int r931], cb, sb) :: [], h930, none)
  refine bl_ld (pc' := 880) bt_291_879 rfl rfl (fun _ _ _ => rfl) g2 rfl ?_
  refine bl_ld (pc' := 881) bt_291_880 rfl rfl (fun _ _ _ => rfl) g0 rfl ?_
  refine bl_ld (pc' := 882) bt_291_881 rfl rfl (fun _ _ _ => rfl) g3 rfl ?_
  refine bl_c (pc' := 883) (n := 1) bt_291_882 rfl rfl (fun _ _ _ => rfl) (by decide) (fun c939 e940 => ?_)
  refine bl_add (pc' := 884) bt_291_883 rfl (by omega) (by omega) (fun v941 e942 => ?_)
  refine bl_sc (pc' := 885) bt_291_884 rfl hS (by omega) (by omega) ?_
  refine bl_cv (pc' := 888) (st := [.int r931]) (args := [.int (xs (v941).toInt.toNat)]) (c := 88) (ci := 9) bt_291_885 rfl rfl (by decide) (wl_o88 hL932) (by decide) (Nat.succ_lt_succ (Nat.zero_lt_succ _)) rfl (Nat.le_of_ble_eq_true rfl) (Nat.le_of_ble_eq_true rfl) ?_
  refine wq_m_roster (FIN := st_FIN) (g := (291, 888, lv, [.int r931], cb, sb)) (t := []) hSA hL932 hQ938 (Nat.le_of_ble_eq_true rfl) (fun h943 r944 hL945 K948 F946 Ka947 B949 => ?_)
  have hR950 := wt_RK hR937 K948
  have ev0 : v941 = v928 := Int32.toInt_inj.mp (by omega)
  try rw [ev0] at B949
  have zq := rb_roster hL hQ938 F933 Ka934 B936 B949
  have hQ952 := rb_q0 hL932 hQ938 F946 Ka947
  have zp := congrArg Int32.toInt zq
  show bh_G E st_FIN ((291, 888, lv, [.int r944, .int r931], cb, sb) :: [], h943, none)
  refine bl_ic (pc' := 891) (pt := 1452) bt_291_888 rfl rfl (fun k953 => ?_) (fun k953 => ?_)
  · replace k953 : (r931).toInt = (r944).toInt := k953
    exact kk _ _ _ hL945 hR950 hQ952
  · replace k953 : ¬ ((r931).toInt = (r944).toInt) := k953
    omega
set_option maxHeartbeats 40000000 in
theorem wl_k_19 {i x : Int32} {lv : mm_V} {h : mm_H} {o : Option Value} (hST : wt_ST E) (hSA : ∀ {x y : Int32} (ρ : Nat → Int32), en_SA E ρ (wl_o x y) mt_SB) (h8 : ∃ q, E.2[8]? = some q) (hS : bl_S E b n xs) (hn : n ≤ 3072) (g0 : mm_get lv 0 = some (.ref b)) (g1 : mm_get lv 1 = some (.ref (E.1 + 0))) (g2 : mm_get lv 2 = some (.ref (E.1 + 88))) (g3 : mm_get lv 3 = some (.int i)) (hi0 : 0 ≤ i.toInt) (hi5 : i.toInt + 6 ≤ (n : Int)) (hL : wl_W E wl_H x x h) (hR : wt_R x x h) (hQ : rb_R h) (kk : ∀ (h' : mm_H) (x' : Int32) (o' : Option Value), wl_W E wl_H x' x' h' → wt_R x' x' h' → rb_R h' → bh_G E st_FIN ((291, 1452, lv, [], cb, sb) :: [], h', o')) : bh_G E st_FIN ((291, 893, lv, [], cb, sb) :: [], h, o) := by
  refine bl_ld (pc' := 894) bt_291_893 rfl rfl (fun _ _ _ => rfl) g1 rfl ?_
  refine bl_ld (pc' := 895) bt_291_894 rfl rfl (fun _ _ _ => rfl) g0 rfl ?_
  refine bl_ld (pc' := 896) bt_291_895 rfl rfl (fun _ _ _ => rfl) g3 rfl ?_
  refine bl_c (pc' := 897) (n := 1) bt_291_896 rfl rfl (fun _ _ _ => rfl) (by decide) (fun c954 e955 => ?_)
  refine bl_add (pc' := 898) bt_291_897 rfl (by omega) (by omega) (fun v956 e957 => ?_)
  refine bl_sc (pc' := 899) bt_291_898 rfl hS (by omega) (by omega) ?_
  refine bl_cv (pc' := 902) (st := []) (args := [.int (xs (v956).toInt.toNat)]) (c := 0) (ci := 8) bt_291_899 rfl rfl (by decide) (wl_o0 hL) (by decide) (Nat.succ_lt_succ (Nat.zero_lt_succ _)) rfl (Nat.le_of_ble_eq_true rfl) (Nat.le_of_ble_eq_true rfl) ?_
  refine wq_c_handy (FIN := st_FIN) (g := (291, 902, lv, [], cb, sb)) (t := []) hSA h8 hL hQ (Nat.le_of_ble_eq_true rfl) (fun h958 r959 hL960 K963 F961 Ka962 B964 => ?_)
  have hR965 := wt_RK hR K963
  have hQ966 := rb_q0 hL hQ F961 Ka962
  show bh_G E st_FIN ((291, 902, lv, [.int r959], cb, sb) :: [], h958, none)
  refine bl_pop (pc' := 903) bt_291_902 rfl rfl ?_
  refine bl_ld (pc' := 904) bt_291_903 rfl rfl (fun _ _ _ => rfl) g2 rfl ?_
  refine bl_ld (pc' := 905) bt_291_904 rfl rfl (fun _ _ _ => rfl) g0 rfl ?_
  refine bl_ld (pc' := 906) bt_291_905 rfl rfl (fun _ _ _ => rfl) g3 rfl ?_
  refine bl_c (pc' := 907) (n := 1) bt_291_906 rfl rfl (fun _ _ _ => rfl) (by decide) (fun c967 e968 => ?_)
  refine bl_add (pc' := 908) bt_291_907 rfl (by omega) (by omega) (fun v969 e970 => ?_)
  refine bl_sc (pc' := 909) bt_291_908 rfl hS (by omega) (by omega) ?_
  refine bl_cv (pc' := 912) (st := []) (args := [.int (xs (v969).toInt.toNat)]) (c := 88) (ci := 9) bt_291_909 rfl rfl (by decide) (wl_o88 hL960) (by decide) (Nat.succ_lt_succ (Nat.zero_lt_succ _)) rfl (Nat.le_of_ble_eq_true rfl) (Nat.le_of_ble_eq_true rfl) ?_
  refine wq_m_handy (FIN := st_FIN) (g := (291, 912, lv, [], cb, sb)) (t := []) hSA hL960 hQ966 (Nat.le_of_ble_eq_true rfl) (fun h971 r972 hL973 K976 F974 Ka975 B977 => ?_)
  have hR978 := wt_RK hR965 K976
  have ev0 : v969 = v956 := Int32.toInt_inj.mp (by omega)
  try rw [ev0] at B977
  have zq := rb_handy hL hQ966 F961 Ka962 B964 B977
  have hQ980 := rb_q0 hL960 hQ966 F974 Ka975
  show bh_G E st_FIN ((291, 912, lv, [.int r972], cb, sb) :: [], h971, none)
  refine bl_pop (pc' := 913) bt_291_912 rfl rfl ?_
  refine bl_go (pc' := 1452) bt_291_913 rfl ?_
  exact kk _ _ _ hL973 hR978 hQ980
set_option maxHeartbeats 40000000 in
theorem wl_k_20 {i x : Int32} {lv : mm_V} {h : mm_H} {o : Option Value} (hST : wt_ST E) (hSA : ∀ {x y : Int32} (ρ : Nat → Int32), en_SA E ρ (wl_o x y) mt_SB) (h8 : ∃ q, E.2[8]? = some q) (hS : bl_S E b n xs) (hn : n ≤ 3072) (g0 : mm_get lv 0 = some (.ref b)) (g1 : mm_get lv 1 = some (.ref (E.1 + 0))) (g2 : mm_get lv 2 = some (.ref (E.1 + 88))) (g3 : mm_get lv 3 = some (.int i)) (hi0 : 0 ≤ i.toInt) (hi5 : i.toInt + 6 ≤ (n : Int)) (hL : wl_W E wl_H x x h) (hR : wt_R x x h) (hQ : rb_R h) (kk : ∀ (h' : mm_H) (x' : Int32) (o' : Option Value), wl_W E wl_H x' x' h' → wt_R x' x' h' → rb_R h' → bh_G E st_FIN ((291, 1452, lv, [], cb, sb) :: [], h', o')) : bh_G E st_FIN ((291, 916, lv, [], cb, sb) :: [], h, o) := by
  refine bl_ld (pc' := 917) bt_291_916 rfl rfl (fun _ _ _ => rfl) g1 rfl ?_
  refine bl_ld (pc' := 918) bt_291_917 rfl rfl (fun _ _ _ => rfl) g0 rfl ?_
  refine bl_ld (pc' := 919) bt_291_918 rfl rfl (fun _ _ _ => rfl) g3 rfl ?_
  refine bl_c (pc' := 920) (n := 1) bt_291_919 rfl rfl (fun _ _ _ => rfl) (by decide) (fun c981 e982 => ?_)
  refine bl_add (pc' := 921) bt_291_920 rfl (by omega) (by omega) (fun v983 e984 => ?_)
  refine bl_sc (pc' := 922) bt_291_921 rfl hS (by omega) (by omega) ?_
  refine bl_i0 (pc' := 925) (pt := 929) bt_291_922 rfl rfl (fun k985 => ?_) (fun k985 => ?_)
  · replace k985 : ((xs (v983).toInt.toNat)).toInt = 0 := k985
    refine bl_c (pc' := 930) (n := 0) bt_291_929 rfl rfl (fun _ _ _ => rfl) (by decide) (fun c986 e987 => ?_)
    refine bl_cv (pc' := 933) (st := []) (args := [.int c986]) (c := 0) (ci := 8) bt_291_930 rfl rfl (by decide) (wl_o0 hL) (by decide) (Nat.succ_lt_succ (Nat.zero_lt_succ _)) rfl (Nat.le_of_ble_eq_true rfl) (Nat.le_of_ble_eq_true rfl) ?_
    refine wq_c_better (FIN := st_FIN) (g := (291, 933, lv, [], cb, sb)) (t := []) (by omega) hSA h8 hL hQ (Nat.le_of_ble_eq_true rfl) (fun h988 r989 hL990 K993 F991 Ka992 B994 => ?_)
    have hR995 := wt_RK hR K993
    have hQ996 := rb_q0 hL hQ F991 Ka992
    show bh_G E st_FIN ((291, 933, lv, [.int r989], cb, sb) :: [], h988, none)
    refine bl_pop (pc' := 934) bt_291_933 rfl rfl ?_
    refine bl_ld (pc' := 935) bt_291_934 rfl rfl (fun _ _ _ => rfl) g2 rfl ?_
    refine bl_ld (pc' := 936) bt_291_935 rfl rfl (fun _ _ _ => rfl) g0 rfl ?_
    refine bl_ld (pc' := 937) bt_291_936 rfl rfl (fun _ _ _ => rfl) g3 rfl ?_
    refine bl_c (pc' := 938) (n := 1) bt_291_937 rfl rfl (fun _ _ _ => rfl) (by decide) (fun c997 e998 => ?_)
    refine bl_add (pc' := 939) bt_291_938 rfl (by omega) (by omega) (fun v999 e1000 => ?_)
    refine bl_sc (pc' := 940) bt_291_939 rfl hS (by omega) (by omega) ?_
    refine bl_i0 (pc' := 943) (pt := 947) bt_291_940 rfl rfl (fun k1001 => ?_) (fun k1001 => ?_)
    · replace k1001 : ((xs (v999).toInt.toNat)).toInt = 0 := k1001
      refine bl_c (pc' := 948) (n := 0) bt_291_947 rfl rfl (fun _ _ _ => rfl) (by decide) (fun c1002 e1003 => ?_)
      refine bl_cv (pc' := 951) (st := []) (args := [.int c1002]) (c := 88) (ci := 9) bt_291_948 rfl rfl (by decide) (wl_o88 hL990) (by decide) (Nat.succ_lt_succ (Nat.zero_lt_succ _)) rfl (Nat.le_of_ble_eq_true rfl) (Nat.le_of_ble_eq_true rfl) ?_
      refine wq_m_better (FIN := st_FIN) (g := (291, 951, lv, [], cb, sb)) (t := []) (by omega) hSA hL990 hQ996 (Nat.le_of_ble_eq_true rfl) (fun h1004 r1005 hL1006 K1009 F1007 Ka1008 B1010 => ?_)
      have hR1011 := wt_RK hR995 K1009
      have ev0 : v999 = v983 := Int32.toInt_inj.mp (by omega)
      try rw [ev0] at k1001
      try rw [ev0] at B1010
      have eb : c1002 = c986 := Int32.toInt_inj.mp (by omega)
      rw [eb] at B1010
      have zq := rb_better hL hQ996 F991 Ka992 B994 B1010
      have hQ1013 := rb_q0 hL990 hQ996 F1007 Ka1008
      show bh_G E st_FIN ((291, 951, lv, [.int r1005], cb, sb) :: [], h1004, none)
      refine bl_pop (pc' := 952) bt_291_951 rfl rfl ?_
      refine bl_go (pc' := 1452) bt_291_952 rfl ?_
      exact kk _ _ _ hL1006 hR1011 hQ1013
    · replace k1001 : ¬ (((xs (v999).toInt.toNat)).toInt = 0) := k1001
      refine bl_c (pc' := 944) (n := 1) bt_291_943 rfl rfl (fun _ _ _ => rfl) (by decide) (fun c1014 e1015 => ?_)
      refine bl_go (pc' := 948) bt_291_944 rfl ?_
      refine bl_cv (pc' := 951) (st := []) (args := [.int c1014]) (c := 88) (ci := 9) bt_291_948 rfl rfl (by decide) (wl_o88 hL990) (by decide) (Nat.succ_lt_succ (Nat.zero_lt_succ _)) rfl (Nat.le_of_ble_eq_true rfl) (Nat.le_of_ble_eq_true rfl) ?_
      refine wq_m_better (FIN := st_FIN) (g := (291, 951, lv, [], cb, sb)) (t := []) (by omega) hSA hL990 hQ996 (Nat.le_of_ble_eq_true rfl) (fun h1016 r1017 hL1018 K1021 F1019 Ka1020 B1022 => ?_)
      have ev0 : v999 = v983 := Int32.toInt_inj.mp (by omega)
      try rw [ev0] at k1001
      exfalso
      omega
  · replace k985 : ¬ (((xs (v983).toInt.toNat)).toInt = 0) := k985
    refine bl_c (pc' := 926) (n := 1) bt_291_925 rfl rfl (fun _ _ _ => rfl) (by decide) (fun c1024 e1025 => ?_)
    refine bl_go (pc' := 930) bt_291_926 rfl ?_
    refine bl_cv (pc' := 933) (st := []) (args := [.int c1024]) (c := 0) (ci := 8) bt_291_930 rfl rfl (by decide) (wl_o0 hL) (by decide) (Nat.succ_lt_succ (Nat.zero_lt_succ _)) rfl (Nat.le_of_ble_eq_true rfl) (Nat.le_of_ble_eq_true rfl) ?_
    refine wq_c_better (FIN := st_FIN) (g := (291, 933, lv, [], cb, sb)) (t := []) (by omega) hSA h8 hL hQ (Nat.le_of_ble_eq_true rfl) (fun h1026 r1027 hL1028 K1031 F1029 Ka1030 B1032 => ?_)
    have hR1033 := wt_RK hR K1031
    have hQ1034 := rb_q0 hL hQ F1029 Ka1030
    show bh_G E st_FIN ((291, 933, lv, [.int r1027], cb, sb) :: [], h1026, none)
    refine bl_pop (pc' := 934) bt_291_933 rfl rfl ?_
    refine bl_ld (pc' := 935) bt_291_934 rfl rfl (fun _ _ _ => rfl) g2 rfl ?_
    refine bl_ld (pc' := 936) bt_291_935 rfl rfl (fun _ _ _ => rfl) g0 rfl ?_
    refine bl_ld (pc' := 937) bt_291_936 rfl rfl (fun _ _ _ => rfl) g3 rfl ?_
    refine bl_c (pc' := 938) (n := 1) bt_291_937 rfl rfl (fun _ _ _ => rfl) (by decide) (fun c1035 e1036 => ?_)
    refine bl_add (pc' := 939) bt_291_938 rfl (by omega) (by omega) (fun v1037 e1038 => ?_)
    refine bl_sc (pc' := 940) bt_291_939 rfl hS (by omega) (by omega) ?_
    refine bl_i0 (pc' := 943) (pt := 947) bt_291_940 rfl rfl (fun k1039 => ?_) (fun k1039 => ?_)
    · replace k1039 : ((xs (v1037).toInt.toNat)).toInt = 0 := k1039
      refine bl_c (pc' := 948) (n := 0) bt_291_947 rfl rfl (fun _ _ _ => rfl) (by decide) (fun c1040 e1041 => ?_)
      refine bl_cv (pc' := 951) (st := []) (args := [.int c1040]) (c := 88) (ci := 9) bt_291_948 rfl rfl (by decide) (wl_o88 hL1028) (by decide) (Nat.succ_lt_succ (Nat.zero_lt_succ _)) rfl (Nat.le_of_ble_eq_true rfl) (Nat.le_of_ble_eq_true rfl) ?_
      refine wq_m_better (FIN := st_FIN) (g := (291, 951, lv, [], cb, sb)) (t := []) (by omega) hSA hL1028 hQ1034 (Nat.le_of_ble_eq_true rfl) (fun h1042 r1043 hL1044 K1047 F1045 Ka1046 B1048 => ?_)
      have ev0 : v1037 = v983 := Int32.toInt_inj.mp (by omega)
      try rw [ev0] at k1039
      exfalso
      omega
    · replace k1039 : ¬ (((xs (v1037).toInt.toNat)).toInt = 0) := k1039
      refine bl_c (pc' := 944) (n := 1) bt_291_943 rfl rfl (fun _ _ _ => rfl) (by decide) (fun c1050 e1051 => ?_)
      refine bl_go (pc' := 948) bt_291_944 rfl ?_
      refine bl_cv (pc' := 951) (st := []) (args := [.int c1050]) (c := 88) (ci := 9) bt_291_948 rfl rfl (by decide) (wl_o88 hL1028) (by decide) (Nat.succ_lt_succ (Nat.zero_lt_succ _)) rfl (Nat.le_of_ble_eq_true rfl) (Nat.le_of_ble_eq_true rfl) ?_
      refine wq_m_better (FIN := st_FIN) (g := (291, 951, lv, [], cb, sb)) (t := []) (by omega) hSA hL1028 hQ1034 (Nat.le_of_ble_eq_true rfl) (fun h1052 r1053 hL1054 K1057 F1055 Ka1056 B1058 => ?_)
      have hR1059 := wt_RK hR1033 K1057
      have ev0 : v1037 = v983 := Int32.toInt_inj.mp (by omega)
      try rw [ev0] at k1039
      try rw [ev0] at B1058
      have eb : c1050 = c1024 := Int32.toInt_inj.mp (by omega)
      rw [eb] at B1058
      have zq := rb_better hL hQ1034 F1029 Ka1030 B1032 B1058
      have hQ1061 := rb_q0 hL1028 hQ1034 F1055 Ka1056
      show bh_G E st_FIN ((291, 951, lv, [.int r1053], cb, sb) :: [], h1052, none)
      refine bl_pop (pc' := 952) bt_291_951 rfl rfl ?_
      refine bl_go (pc' := 1452) bt_291_952 rfl ?_
      exact kk _ _ _ hL1054 hR1059 hQ1061
set_option maxHeartbeats 40000000 in
theorem wl_k_21 {i x : Int32} {lv : mm_V} {h : mm_H} {o : Option Value} (hST : wt_ST E) (hSA : ∀ {x y : Int32} (ρ : Nat → Int32), en_SA E ρ (wl_o x y) mt_SB) (h8 : ∃ q, E.2[8]? = some q) (hS : bl_S E b n xs) (hn : n ≤ 3072) (g0 : mm_get lv 0 = some (.ref b)) (g1 : mm_get lv 1 = some (.ref (E.1 + 0))) (g2 : mm_get lv 2 = some (.ref (E.1 + 88))) (g3 : mm_get lv 3 = some (.int i)) (hi0 : 0 ≤ i.toInt) (hi5 : i.toInt + 6 ≤ (n : Int)) (hL : wl_W E wl_H x x h) (hR : wt_R x x h) (hQ : rb_R h) (kk : ∀ (h' : mm_H) (x' : Int32) (o' : Option Value), wl_W E wl_H x' x' h' → wt_R x' x' h' → rb_R h' → bh_G E st_FIN ((291, 1452, lv, [], cb, sb) :: [], h', o')) : bh_G E st_FIN ((291, 955, lv, [], cb, sb) :: [], h, o) := by
  refine bl_ld (pc' := 956) bt_291_955 rfl rfl (fun _ _ _ => rfl) g1 rfl ?_
  refine bl_ld (pc' := 957) bt_291_956 rfl rfl (fun _ _ _ => rfl) g0 rfl ?_
  refine bl_ld (pc' := 958) bt_291_957 rfl rfl (fun _ _ _ => rfl) g3 rfl ?_
  refine bl_c (pc' := 959) (n := 1) bt_291_958 rfl rfl (fun _ _ _ => rfl) (by decide) (fun c1062 e1063 => ?_)
  refine bl_add (pc' := 960) bt_291_959 rfl (by omega) (by omega) (fun v1064 e1065 => ?_)
  refine bl_sc (pc' := 961) bt_291_960 rfl hS (by omega) (by omega) ?_
  refine bl_ld (pc' := 962) bt_291_961 rfl rfl (fun _ _ _ => rfl) g0 rfl ?_
  refine bl_ld (pc' := 963) bt_291_962 rfl rfl (fun _ _ _ => rfl) g3 rfl ?_
  refine bl_c (pc' := 964) (n := 2) bt_291_963 rfl rfl (fun _ _ _ => rfl) (by decide) (fun c1066 e1067 => ?_)
  refine bl_add (pc' := 965) bt_291_964 rfl (by omega) (by omega) (fun v1068 e1069 => ?_)
  refine bl_sc (pc' := 966) bt_291_965 rfl hS (by omega) (by omega) ?_
  refine bl_cv (pc' := 969) (st := []) (args := [.int (xs (v1068).toInt.toNat), .int (xs (v1064).toInt.toNat)]) (c := 0) (ci := 8) bt_291_966 rfl rfl (by decide) (wl_o0 hL) (by decide) (Nat.succ_lt_succ (Nat.zero_lt_succ _)) rfl (Nat.le_of_ble_eq_true rfl) (Nat.le_of_ble_eq_true rfl) ?_
  refine wq_j (m := 267) (FIN := st_FIN) (g := (291, 969, lv, [], cb, sb)) (t := []) (A := fun h' r => wl_W E wl_H x x h' ∧ wt_K h h') q0_k q0_a q0_h rfl (by decide) (ka_lc (ka_no (by decide)) (ka_lc ka_ti (ka_lc ka_ti ka_ln))) hL (fun F9 k1 => wk_c_then (FIN := F9) (gs := [bp_mf]) hSA h8 hL (Nat.le_of_ble_eq_true rfl) (fun h r a b => k1 _ _ ⟨a, b⟩)) (fun h1070 r1071 ⟨hL1072, K1075⟩ F1073 Ka1074 => ?_)
  have hR1076 := wt_RK hR K1075
  have hQ1077 := rb_q0 hL hQ F1073 Ka1074
  show bh_G E st_FIN ((291, 969, lv, [.int r1071], cb, sb) :: [], h1070, none)
  refine bl_pop (pc' := 970) bt_291_969 rfl rfl ?_
  refine bl_ld (pc' := 971) bt_291_970 rfl rfl (fun _ _ _ => rfl) g2 rfl ?_
  refine bl_ld (pc' := 972) bt_291_971 rfl rfl (fun _ _ _ => rfl) g0 rfl ?_
  refine bl_ld (pc' := 973) bt_291_972 rfl rfl (fun _ _ _ => rfl) g3 rfl ?_
  refine bl_c (pc' := 974) (n := 1) bt_291_973 rfl rfl (fun _ _ _ => rfl) (by decide) (fun c1078 e1079 => ?_)
  refine bl_add (pc' := 975) bt_291_974 rfl (by omega) (by omega) (fun v1080 e1081 => ?_)
  refine bl_sc (pc' := 976) bt_291_975 rfl hS (by omega) (by omega) ?_
  refine bl_ld (pc' := 977) bt_291_976 rfl rfl (fun _ _ _ => rfl) g0 rfl ?_
  refine bl_ld (pc' := 978) bt_291_977 rfl rfl (fun _ _ _ => rfl) g3 rfl ?_
  refine bl_c (pc' := 979) (n := 2) bt_291_978 rfl rfl (fun _ _ _ => rfl) (by decide) (fun c1082 e1083 => ?_)
  refine bl_add (pc' := 980) bt_291_979 rfl (by omega) (by omega) (fun v1084 e1085 => ?_)
  refine bl_sc (pc' := 981) bt_291_980 rfl hS (by omega) (by omega) ?_
  refine bl_cv (pc' := 984) (st := []) (args := [.int (xs (v1084).toInt.toNat), .int (xs (v1080).toInt.toNat)]) (c := 88) (ci := 9) bt_291_981 rfl rfl (by decide) (wl_o88 hL1072) (by decide) (Nat.succ_lt_succ (Nat.zero_lt_succ _)) rfl (Nat.le_of_ble_eq_true rfl) (Nat.le_of_ble_eq_true rfl) ?_
  refine wq_j (m := 102) (FIN := st_FIN) (g := (291, 984, lv, [], cb, sb)) (t := []) (A := fun h' r => wl_W E wl_H x x h' ∧ wt_K h1070 h') q0_k q0_a q0_h rfl (by decide) (ka_lc (ka_no (by decide)) (ka_lc ka_ti (ka_lc ka_ti ka_ln))) hL1072 (fun F9 k1 => wk_m_then (FIN := F9) (gs := [bp_mf]) hSA hL1072 (Nat.le_of_ble_eq_true rfl) (fun h r a b => k1 _ _ ⟨a, b⟩)) (fun h1086 r1087 ⟨hL1088, K1091⟩ F1089 Ka1090 => ?_)
  have hR1092 := wt_RK hR1076 K1091
  have hQ1093 := rb_q0 hL1072 hQ1077 F1089 Ka1090
  show bh_G E st_FIN ((291, 984, lv, [.int r1087], cb, sb) :: [], h1086, none)
  refine bl_pop (pc' := 985) bt_291_984 rfl rfl ?_
  refine bl_go (pc' := 1452) bt_291_985 rfl ?_
  exact kk _ _ _ hL1088 hR1092 hQ1093
set_option maxHeartbeats 40000000 in
theorem wl_k_22 {i x : Int32} {lv : mm_V} {h : mm_H} {o : Option Value} (hST : wt_ST E) (hSA : ∀ {x y : Int32} (ρ : Nat → Int32), en_SA E ρ (wl_o x y) mt_SB) (h8 : ∃ q, E.2[8]? = some q) (hS : bl_S E b n xs) (hn : n ≤ 3072) (g0 : mm_get lv 0 = some (.ref b)) (g1 : mm_get lv 1 = some (.ref (E.1 + 0))) (g2 : mm_get lv 2 = some (.ref (E.1 + 88))) (g3 : mm_get lv 3 = some (.int i)) (hi0 : 0 ≤ i.toInt) (hi5 : i.toInt + 6 ≤ (n : Int)) (hL : wl_W E wl_H x x h) (hR : wt_R x x h) (hQ : rb_R h) (kk : ∀ (h' : mm_H) (x' : Int32) (o' : Option Value), wl_W E wl_H x' x' h' → wt_R x' x' h' → rb_R h' → bh_G E st_FIN ((291, 1452, lv, [], cb, sb) :: [], h', o')) : bh_G E st_FIN ((291, 988, lv, [], cb, sb) :: [], h, o) := by
  refine bl_ld (pc' := 989) bt_291_988 rfl rfl (fun _ _ _ => rfl) g1 rfl ?_
  refine bl_ld (pc' := 990) bt_291_989 rfl rfl (fun _ _ _ => rfl) g0 rfl ?_
  refine bl_ld (pc' := 991) bt_291_990 rfl rfl (fun _ _ _ => rfl) g3 rfl ?_
  refine bl_c (pc' := 992) (n := 1) bt_291_991 rfl rfl (fun _ _ _ => rfl) (by decide) (fun c1094 e1095 => ?_)
  refine bl_add (pc' := 993) bt_291_992 rfl (by omega) (by omega) (fun v1096 e1097 => ?_)
  refine bl_sc (pc' := 994) bt_291_993 rfl hS (by omega) (by omega) ?_
  refine bl_ld (pc' := 995) bt_291_994 rfl rfl (fun _ _ _ => rfl) g0 rfl ?_
  refine bl_ld (pc' := 996) bt_291_995 rfl rfl (fun _ _ _ => rfl) g3 rfl ?_
  refine bl_c (pc' := 997) (n := 2) bt_291_996 rfl rfl (fun _ _ _ => rfl) (by decide) (fun c1098 e1099 => ?_)
  refine bl_add (pc' := 998) bt_291_997 rfl (by omega) (by omega) (fun v1100 e1101 => ?_)
  refine bl_sc (pc' := 999) bt_291_998 rfl hS (by omega) (by omega) ?_
  refine bl_ld (pc' := 1000) bt_291_999 rfl rfl (fun _ _ _ => rfl) g0 rfl ?_
  refine bl_ld (pc' := 1001) bt_291_1000 rfl rfl (fun _ _ _ => rfl) g3 rfl ?_
  refine bl_c (pc' := 1002) (n := 3) bt_291_1001 rfl rfl (fun _ _ _ => rfl) (by decide) (fun c1102 e1103 => ?_)
  refine bl_add (pc' := 1003) bt_291_1002 rfl (by omega) (by omega) (fun v1104 e1105 => ?_)
  refine bl_sc (pc' := 1004) bt_291_1003 rfl hS (by omega) (by omega) ?_
  refine bl_cv (pc' := 1007) (st := []) (args := [.int (xs (v1104).toInt.toNat), .int (xs (v1100).toInt.toNat), .int (xs (v1096).toInt.toNat)]) (c := 0) (ci := 8) bt_291_1004 rfl rfl (by decide) (wl_o0 hL) (by decide) (Nat.succ_lt_succ (Nat.zero_lt_succ _)) rfl (Nat.le_of_ble_eq_true rfl) (Nat.le_of_ble_eq_true rfl) ?_
  refine wq_j (m := 248) (FIN := st_FIN) (g := (291, 1007, lv, [], cb, sb)) (t := []) (A := fun h' r => wl_W E wl_H x x h' ∧ wt_K h h') q0_k q0_a q0_h rfl (by decide) (ka_lc (ka_no (by decide)) (ka_lc ka_ti (ka_lc ka_ti (ka_lc ka_ti ka_ln)))) hL (fun F9 k1 => wk_c_often (FIN := F9) (gs := [bp_mf]) hSA h8 hL (Nat.le_of_ble_eq_true rfl) (fun h r a b => k1 _ _ ⟨a, b⟩)) (fun h1106 r1107 ⟨hL1108, K1111⟩ F1109 Ka1110 => ?_)
  have hR1112 := wt_RK hR K1111
  have hQ1113 := rb_q0 hL hQ F1109 Ka1110
  show bh_G E st_FIN ((291, 1007, lv, [.int r1107], cb, sb) :: [], h1106, none)
  refine bl_pop (pc' := 1008) bt_291_1007 rfl rfl ?_
  refine bl_ld (pc' := 1009) bt_291_1008 rfl rfl (fun _ _ _ => rfl) g2 rfl ?_
  refine bl_ld (pc' := 1010) bt_291_1009 rfl rfl (fun _ _ _ => rfl) g0 rfl ?_
  refine bl_ld (pc' := 1011) bt_291_1010 rfl rfl (fun _ _ _ => rfl) g3 rfl ?_
  refine bl_c (pc' := 1012) (n := 1) bt_291_1011 rfl rfl (fun _ _ _ => rfl) (by decide) (fun c1114 e1115 => ?_)
  refine bl_add (pc' := 1013) bt_291_1012 rfl (by omega) (by omega) (fun v1116 e1117 => ?_)
  refine bl_sc (pc' := 1014) bt_291_1013 rfl hS (by omega) (by omega) ?_
  refine bl_ld (pc' := 1015) bt_291_1014 rfl rfl (fun _ _ _ => rfl) g0 rfl ?_
  refine bl_ld (pc' := 1016) bt_291_1015 rfl rfl (fun _ _ _ => rfl) g3 rfl ?_
  refine bl_c (pc' := 1017) (n := 2) bt_291_1016 rfl rfl (fun _ _ _ => rfl) (by decide) (fun c1118 e1119 => ?_)
  refine bl_add (pc' := 1018) bt_291_1017 rfl (by omega) (by omega) (fun v1120 e1121 => ?_)
  refine bl_sc (pc' := 1019) bt_291_1018 rfl hS (by omega) (by omega) ?_
  refine bl_ld (pc' := 1020) bt_291_1019 rfl rfl (fun _ _ _ => rfl) g0 rfl ?_
  refine bl_ld (pc' := 1021) bt_291_1020 rfl rfl (fun _ _ _ => rfl) g3 rfl ?_
  refine bl_c (pc' := 1022) (n := 3) bt_291_1021 rfl rfl (fun _ _ _ => rfl) (by decide) (fun c1122 e1123 => ?_)
  refine bl_add (pc' := 1023) bt_291_1022 rfl (by omega) (by omega) (fun v1124 e1125 => ?_)
  refine bl_sc (pc' := 1024) bt_291_1023 rfl hS (by omega) (by omega) ?_
  refine bl_cv (pc' := 1027) (st := []) (args := [.int (xs (v1124).toInt.toNat), .int (xs (v1120).toInt.toNat), .int (xs (v1116).toInt.toNat)]) (c := 88) (ci := 9) bt_291_1024 rfl rfl (by decide) (wl_o88 hL1108) (by decide) (Nat.succ_lt_succ (Nat.zero_lt_succ _)) rfl (Nat.le_of_ble_eq_true rfl) (Nat.le_of_ble_eq_true rfl) ?_
  refine wq_j (m := 68) (FIN := st_FIN) (g := (291, 1027, lv, [], cb, sb)) (t := []) (A := fun h' r => wl_W E wl_H x x h' ∧ wt_K h1106 h') q0_k q0_a q0_h rfl (by decide) (ka_lc (ka_no (by decide)) (ka_lc ka_ti (ka_lc ka_ti (ka_lc ka_ti ka_ln)))) hL1108 (fun F9 k1 => wk_m_often (FIN := F9) (gs := [bp_mf]) hSA hL1108 (Nat.le_of_ble_eq_true rfl) (fun h r a b => k1 _ _ ⟨a, b⟩)) (fun h1126 r1127 ⟨hL1128, K1131⟩ F1129 Ka1130 => ?_)
  have hR1132 := wt_RK hR1112 K1131
  have hQ1133 := rb_q0 hL1108 hQ1113 F1129 Ka1130
  show bh_G E st_FIN ((291, 1027, lv, [.int r1127], cb, sb) :: [], h1126, none)
  refine bl_pop (pc' := 1028) bt_291_1027 rfl rfl ?_
  refine bl_go (pc' := 1452) bt_291_1028 rfl ?_
  exact kk _ _ _ hL1128 hR1132 hQ1133
set_option maxHeartbeats 40000000 in
theorem wl_k_23 {i x : Int32} {lv : mm_V} {h : mm_H} {o : Option Value} (hST : wt_ST E) (hSA : ∀ {x y : Int32} (ρ : Nat → Int32), en_SA E ρ (wl_o x y) mt_SB) (h8 : ∃ q, E.2[8]? = some q) (hS : bl_S E b n xs) (hn : n ≤ 3072) (g0 : mm_get lv 0 = some (.ref b)) (g1 : mm_get lv 1 = some (.ref (E.1 + 0))) (g2 : mm_get lv 2 = some (.ref (E.1 + 88))) (g3 : mm_get lv 3 = some (.int i)) (hi0 : 0 ≤ i.toInt) (hi5 : i.toInt + 6 ≤ (n : Int)) (hL : wl_W E wl_H x x h) (hR : wt_R x x h) (hQ : rb_R h) (kk : ∀ (h' : mm_H) (x' : Int32) (o' : Option Value), wl_W E wl_H x' x' h' → wt_R x' x' h' → rb_R h' → bh_G E st_FIN ((291, 1452, lv, [], cb, sb) :: [], h', o')) : bh_G E st_FIN ((291, 1031, lv, [], cb, sb) :: [], h, o) := by
  refine bl_ld (pc' := 1032) bt_291_1031 rfl rfl (fun _ _ _ => rfl) g1 rfl ?_
  refine bl_ld (pc' := 1033) bt_291_1032 rfl rfl (fun _ _ _ => rfl) g0 rfl ?_
  refine bl_ld (pc' := 1034) bt_291_1033 rfl rfl (fun _ _ _ => rfl) g3 rfl ?_
  refine bl_c (pc' := 1035) (n := 1) bt_291_1034 rfl rfl (fun _ _ _ => rfl) (by decide) (fun c1134 e1135 => ?_)
  refine bl_add (pc' := 1036) bt_291_1035 rfl (by omega) (by omega) (fun v1136 e1137 => ?_)
  refine bl_sc (pc' := 1037) bt_291_1036 rfl hS (by omega) (by omega) ?_
  refine bl_cv (pc' := 1040) (st := []) (args := [.int (xs (v1136).toInt.toNat)]) (c := 0) (ci := 8) bt_291_1037 rfl rfl (by decide) (wl_o0 hL) (by decide) (Nat.succ_lt_succ (Nat.zero_lt_succ _)) rfl (Nat.le_of_ble_eq_true rfl) (Nat.le_of_ble_eq_true rfl) ?_
  refine wq_j (m := 229) (FIN := st_FIN) (g := (291, 1040, lv, [], cb, sb)) (t := []) (A := fun h' r => wl_W E wl_H x x h' ∧ wt_K h h') q0_k q0_a q0_h rfl (by decide) (ka_lc (ka_no (by decide)) (ka_lc ka_ti ka_ln)) hL (fun F9 k1 => wk_c_ends (FIN := F9) (gs := [bp_mf]) hSA h8 hL (Nat.le_of_ble_eq_true rfl) (fun h r a b => k1 _ _ ⟨a, b⟩)) (fun h1138 r1139 ⟨hL1140, K1143⟩ F1141 Ka1142 => ?_)
  have hR1144 := wt_RK hR K1143
  have hQ1145 := rb_q0 hL hQ F1141 Ka1142
  show bh_G E st_FIN ((291, 1040, lv, [.int r1139], cb, sb) :: [], h1138, none)
  refine bl_pop (pc' := 1041) bt_291_1040 rfl rfl ?_
  refine bl_ld (pc' := 1042) bt_291_1041 rfl rfl (fun _ _ _ => rfl) g2 rfl ?_
  refine bl_ld (pc' := 1043) bt_291_1042 rfl rfl (fun _ _ _ => rfl) g0 rfl ?_
  refine bl_ld (pc' := 1044) bt_291_1043 rfl rfl (fun _ _ _ => rfl) g3 rfl ?_
  refine bl_c (pc' := 1045) (n := 1) bt_291_1044 rfl rfl (fun _ _ _ => rfl) (by decide) (fun c1146 e1147 => ?_)
  refine bl_add (pc' := 1046) bt_291_1045 rfl (by omega) (by omega) (fun v1148 e1149 => ?_)
  refine bl_sc (pc' := 1047) bt_291_1046 rfl hS (by omega) (by omega) ?_
  refine bl_cv (pc' := 1050) (st := []) (args := [.int (xs (v1148).toInt.toNat)]) (c := 88) (ci := 9) bt_291_1047 rfl rfl (by decide) (wl_o88 hL1140) (by decide) (Nat.succ_lt_succ (Nat.zero_lt_succ _)) rfl (Nat.le_of_ble_eq_true rfl) (Nat.le_of_ble_eq_true rfl) ?_
  refine wq_j (m := 24) (FIN := st_FIN) (g := (291, 1050, lv, [], cb, sb)) (t := []) (A := fun h' r => wl_W E wl_H x x h' ∧ wt_K h1138 h') q0_k q0_a q0_h rfl (by decide) (ka_lc (ka_no (by decide)) (ka_lc ka_ti ka_ln)) hL1140 (fun F9 k1 => wk_m_ends (FIN := F9) (gs := [bp_mf]) hSA hL1140 (Nat.le_of_ble_eq_true rfl) (fun h r a b => k1 _ _ ⟨a, b⟩)) (fun h1150 r1151 ⟨hL1152, K1155⟩ F1153 Ka1154 => ?_)
  have hR1156 := wt_RK hR1144 K1155
  have hQ1157 := rb_q0 hL1140 hQ1145 F1153 Ka1154
  show bh_G E st_FIN ((291, 1050, lv, [.int r1151], cb, sb) :: [], h1150, none)
  refine bl_pop (pc' := 1051) bt_291_1050 rfl rfl ?_
  refine bl_go (pc' := 1452) bt_291_1051 rfl ?_
  exact kk _ _ _ hL1152 hR1156 hQ1157
set_option maxHeartbeats 40000000 in
theorem wl_k_24 {i x : Int32} {lv : mm_V} {h : mm_H} {o : Option Value} (hST : wt_ST E) (hSA : ∀ {x y : Int32} (ρ : Nat → Int32), en_SA E ρ (wl_o x y) mt_SB) (h8 : ∃ q, E.2[8]? = some q) (hS : bl_S E b n xs) (hn : n ≤ 3072) (g0 : mm_get lv 0 = some (.ref b)) (g1 : mm_get lv 1 = some (.ref (E.1 + 0))) (g2 : mm_get lv 2 = some (.ref (E.1 + 88))) (g3 : mm_get lv 3 = some (.int i)) (hi0 : 0 ≤ i.toInt) (hi5 : i.toInt + 6 ≤ (n : Int)) (hL : wl_W E wl_H x x h) (hR : wt_R x x h) (hQ : rb_R h) (kk : ∀ (h' : mm_H) (x' : Int32) (o' : Option Value), wl_W E wl_H x' x' h' → wt_R x' x' h' → rb_R h' → bh_G E st_FIN ((291, 1452, lv, [], cb, sb) :: [], h', o')) : bh_G E st_FIN ((291, 1054, lv, [], cb, sb) :: [], h, o) := by
  refine bl_ld (pc' := 1055) bt_291_1054 rfl rfl (fun _ _ _ => rfl) g1 rfl ?_
  refine bl_ld (pc' := 1056) bt_291_1055 rfl rfl (fun _ _ _ => rfl) g0 rfl ?_
  refine bl_ld (pc' := 1057) bt_291_1056 rfl rfl (fun _ _ _ => rfl) g3 rfl ?_
  refine bl_c (pc' := 1058) (n := 1) bt_291_1057 rfl rfl (fun _ _ _ => rfl) (by decide) (fun c1158 e1159 => ?_)
  refine bl_add (pc' := 1059) bt_291_1058 rfl (by omega) (by omega) (fun v1160 e1161 => ?_)
  refine bl_sc (pc' := 1060) bt_291_1059 rfl hS (by omega) (by omega) ?_
  refine bl_ld (pc' := 1061) bt_291_1060 rfl rfl (fun _ _ _ => rfl) g0 rfl ?_
  refine bl_ld (pc' := 1062) bt_291_1061 rfl rfl (fun _ _ _ => rfl) g3 rfl ?_
  refine bl_c (pc' := 1063) (n := 2) bt_291_1062 rfl rfl (fun _ _ _ => rfl) (by decide) (fun c1162 e1163 => ?_)
  refine bl_add (pc' := 1064) bt_291_1063 rfl (by omega) (by omega) (fun v1164 e1165 => ?_)
  refine bl_sc (pc' := 1065) bt_291_1064 rfl hS (by omega) (by omega) ?_
  refine bl_cv (pc' := 1068) (st := []) (args := [.int (xs (v1164).toInt.toNat), .int (xs (v1160).toInt.toNat)]) (c := 0) (ci := 8) bt_291_1065 rfl rfl (by decide) (wl_o0 hL) (by decide) (Nat.succ_lt_succ (Nat.zero_lt_succ _)) rfl (Nat.le_of_ble_eq_true rfl) (Nat.le_of_ble_eq_true rfl) ?_
  refine wq_j (m := 263) (FIN := st_FIN) (g := (291, 1068, lv, [], cb, sb)) (t := []) (A := fun h' r => wl_W E wl_H x x h' ∧ wt_K h h') q0_k q0_a q0_h rfl (by decide) (ka_lc (ka_no (by decide)) (ka_lc ka_ti (ka_lc ka_ti ka_ln))) hL (fun F9 k1 => wk_c_steady (FIN := F9) (gs := [bp_mf]) hSA h8 hL (Nat.le_of_ble_eq_true rfl) (fun h r a b => k1 _ _ ⟨a, b⟩)) (fun h1166 r1167 ⟨hL1168, K1171⟩ F1169 Ka1170 => ?_)
  have hR1172 := wt_RK hR K1171
  have hQ1173 := rb_q0 hL hQ F1169 Ka1170
  show bh_G E st_FIN ((291, 1068, lv, [.int r1167], cb, sb) :: [], h1166, none)
  refine bl_pop (pc' := 1069) bt_291_1068 rfl rfl ?_
  refine bl_ld (pc' := 1070) bt_291_1069 rfl rfl (fun _ _ _ => rfl) g2 rfl ?_
  refine bl_ld (pc' := 1071) bt_291_1070 rfl rfl (fun _ _ _ => rfl) g0 rfl ?_
  refine bl_ld (pc' := 1072) bt_291_1071 rfl rfl (fun _ _ _ => rfl) g3 rfl ?_
  refine bl_c (pc' := 1073) (n := 1) bt_291_1072 rfl rfl (fun _ _ _ => rfl) (by decide) (fun c1174 e1175 => ?_)
  refine bl_add (pc' := 1074) bt_291_1073 rfl (by omega) (by omega) (fun v1176 e1177 => ?_)
  refine bl_sc (pc' := 1075) bt_291_1074 rfl hS (by omega) (by omega) ?_
  refine bl_ld (pc' := 1076) bt_291_1075 rfl rfl (fun _ _ _ => rfl) g0 rfl ?_
  refine bl_ld (pc' := 1077) bt_291_1076 rfl rfl (fun _ _ _ => rfl) g3 rfl ?_
  refine bl_c (pc' := 1078) (n := 2) bt_291_1077 rfl rfl (fun _ _ _ => rfl) (by decide) (fun c1178 e1179 => ?_)
  refine bl_add (pc' := 1079) bt_291_1078 rfl (by omega) (by omega) (fun v1180 e1181 => ?_)
  refine bl_sc (pc' := 1080) bt_291_1079 rfl hS (by omega) (by omega) ?_
  refine bl_cv (pc' := 1083) (st := []) (args := [.int (xs (v1180).toInt.toNat), .int (xs (v1176).toInt.toNat)]) (c := 88) (ci := 9) bt_291_1080 rfl rfl (by decide) (wl_o88 hL1168) (by decide) (Nat.succ_lt_succ (Nat.zero_lt_succ _)) rfl (Nat.le_of_ble_eq_true rfl) (Nat.le_of_ble_eq_true rfl) ?_
  refine wq_j (m := 94) (FIN := st_FIN) (g := (291, 1083, lv, [], cb, sb)) (t := []) (A := fun h' r => wl_W E wl_H x x h' ∧ wt_K h1166 h') q0_k q0_a q0_h rfl (by decide) (ka_lc (ka_no (by decide)) (ka_lc ka_ti (ka_lc ka_ti ka_ln))) hL1168 (fun F9 k1 => wk_m_steady (FIN := F9) (gs := [bp_mf]) hSA hL1168 (Nat.le_of_ble_eq_true rfl) (fun h r a b => k1 _ _ ⟨a, b⟩)) (fun h1182 r1183 ⟨hL1184, K1187⟩ F1185 Ka1186 => ?_)
  have hR1188 := wt_RK hR1172 K1187
  have hQ1189 := rb_q0 hL1168 hQ1173 F1185 Ka1186
  show bh_G E st_FIN ((291, 1083, lv, [.int r1183], cb, sb) :: [], h1182, none)
  refine bl_pop (pc' := 1084) bt_291_1083 rfl rfl ?_
  refine bl_go (pc' := 1452) bt_291_1084 rfl ?_
  exact kk _ _ _ hL1184 hR1188 hQ1189
set_option maxHeartbeats 40000000 in
theorem wl_k_25 {i x : Int32} {lv : mm_V} {h : mm_H} {o : Option Value} (hST : wt_ST E) (hSA : ∀ {x y : Int32} (ρ : Nat → Int32), en_SA E ρ (wl_o x y) mt_SB) (h8 : ∃ q, E.2[8]? = some q) (hS : bl_S E b n xs) (hn : n ≤ 3072) (g0 : mm_get lv 0 = some (.ref b)) (g1 : mm_get lv 1 = some (.ref (E.1 + 0))) (g2 : mm_get lv 2 = some (.ref (E.1 + 88))) (g3 : mm_get lv 3 = some (.int i)) (hi0 : 0 ≤ i.toInt) (hi5 : i.toInt + 6 ≤ (n : Int)) (hL : wl_W E wl_H x x h) (hR : wt_R x x h) (hQ : rb_R h) (kk : ∀ (h' : mm_H) (x' : Int32) (o' : Option Value), wl_W E wl_H x' x' h' → wt_R x' x' h' → rb_R h' → bh_G E st_FIN ((291, 1452, lv, [], cb, sb) :: [], h', o')) : bh_G E st_FIN ((291, 1087, lv, [], cb, sb) :: [], h, o) := by
  refine bl_ld (pc' := 1088) bt_291_1087 rfl rfl (fun _ _ _ => rfl) g1 rfl ?_
  refine bl_ld (pc' := 1089) bt_291_1088 rfl rfl (fun _ _ _ => rfl) g0 rfl ?_
  refine bl_ld (pc' := 1090) bt_291_1089 rfl rfl (fun _ _ _ => rfl) g3 rfl ?_
  refine bl_c (pc' := 1091) (n := 1) bt_291_1090 rfl rfl (fun _ _ _ => rfl) (by decide) (fun c1190 e1191 => ?_)
  refine bl_add (pc' := 1092) bt_291_1091 rfl (by omega) (by omega) (fun v1192 e1193 => ?_)
  refine bl_sc (pc' := 1093) bt_291_1092 rfl hS (by omega) (by omega) ?_
  refine bl_ld (pc' := 1094) bt_291_1093 rfl rfl (fun _ _ _ => rfl) g0 rfl ?_
  refine bl_ld (pc' := 1095) bt_291_1094 rfl rfl (fun _ _ _ => rfl) g3 rfl ?_
  refine bl_c (pc' := 1096) (n := 2) bt_291_1095 rfl rfl (fun _ _ _ => rfl) (by decide) (fun c1194 e1195 => ?_)
  refine bl_add (pc' := 1097) bt_291_1096 rfl (by omega) (by omega) (fun v1196 e1197 => ?_)
  refine bl_sc (pc' := 1098) bt_291_1097 rfl hS (by omega) (by omega) ?_
  refine bl_cv (pc' := 1101) (st := []) (args := [.int (xs (v1196).toInt.toNat), .int (xs (v1192).toInt.toNat)]) (c := 0) (ci := 8) bt_291_1098 rfl rfl (by decide) (wl_o0 hL) (by decide) (Nat.succ_lt_succ (Nat.zero_lt_succ _)) rfl (Nat.le_of_ble_eq_true rfl) (Nat.le_of_ble_eq_true rfl) ?_
  refine wq_j (m := 261) (FIN := st_FIN) (g := (291, 1101, lv, [], cb, sb)) (t := []) (A := fun h' r => wl_W E wl_H x x h' ∧ wt_K h h') q0_k q0_a q0_h rfl (by decide) (ka_lc (ka_no (by decide)) (ka_lc ka_ti (ka_lc ka_ti ka_ln))) hL (fun F9 k1 => wk_c_spared (FIN := F9) (gs := [bp_mf]) hSA h8 hL (Nat.le_of_ble_eq_true rfl) (fun h r a b => k1 _ _ ⟨a, b⟩)) (fun h1198 r1199 ⟨hL1200, K1203⟩ F1201 Ka1202 => ?_)
  have hR1204 := wt_RK hR K1203
  have hQ1205 := rb_q0 hL hQ F1201 Ka1202
  show bh_G E st_FIN ((291, 1101, lv, [.int r1199], cb, sb) :: [], h1198, none)
  refine bl_pop (pc' := 1102) bt_291_1101 rfl rfl ?_
  refine bl_ld (pc' := 1103) bt_291_1102 rfl rfl (fun _ _ _ => rfl) g2 rfl ?_
  refine bl_ld (pc' := 1104) bt_291_1103 rfl rfl (fun _ _ _ => rfl) g0 rfl ?_
  refine bl_ld (pc' := 1105) bt_291_1104 rfl rfl (fun _ _ _ => rfl) g3 rfl ?_
  refine bl_c (pc' := 1106) (n := 1) bt_291_1105 rfl rfl (fun _ _ _ => rfl) (by decide) (fun c1206 e1207 => ?_)
  refine bl_add (pc' := 1107) bt_291_1106 rfl (by omega) (by omega) (fun v1208 e1209 => ?_)
  refine bl_sc (pc' := 1108) bt_291_1107 rfl hS (by omega) (by omega) ?_
  refine bl_ld (pc' := 1109) bt_291_1108 rfl rfl (fun _ _ _ => rfl) g0 rfl ?_
  refine bl_ld (pc' := 1110) bt_291_1109 rfl rfl (fun _ _ _ => rfl) g3 rfl ?_
  refine bl_c (pc' := 1111) (n := 2) bt_291_1110 rfl rfl (fun _ _ _ => rfl) (by decide) (fun c1210 e1211 => ?_)
  refine bl_add (pc' := 1112) bt_291_1111 rfl (by omega) (by omega) (fun v1212 e1213 => ?_)
  refine bl_sc (pc' := 1113) bt_291_1112 rfl hS (by omega) (by omega) ?_
  refine bl_cv (pc' := 1116) (st := []) (args := [.int (xs (v1212).toInt.toNat), .int (xs (v1208).toInt.toNat)]) (c := 88) (ci := 9) bt_291_1113 rfl rfl (by decide) (wl_o88 hL1200) (by decide) (Nat.succ_lt_succ (Nat.zero_lt_succ _)) rfl (Nat.le_of_ble_eq_true rfl) (Nat.le_of_ble_eq_true rfl) ?_
  refine wq_j (m := 92) (FIN := st_FIN) (g := (291, 1116, lv, [], cb, sb)) (t := []) (A := fun h' r => wl_W E wl_H x x h' ∧ wt_K h1198 h') q0_k q0_a q0_h rfl (by decide) (ka_lc (ka_no (by decide)) (ka_lc ka_ti (ka_lc ka_ti ka_ln))) hL1200 (fun F9 k1 => wk_m_spared (FIN := F9) (gs := [bp_mf]) hSA hL1200 (Nat.le_of_ble_eq_true rfl) (fun h r a b => k1 _ _ ⟨a, b⟩)) (fun h1214 r1215 ⟨hL1216, K1219⟩ F1217 Ka1218 => ?_)
  have hR1220 := wt_RK hR1204 K1219
  have hQ1221 := rb_q0 hL1200 hQ1205 F1217 Ka1218
  show bh_G E st_FIN ((291, 1116, lv, [.int r1215], cb, sb) :: [], h1214, none)
  refine bl_pop (pc' := 1117) bt_291_1116 rfl rfl ?_
  refine bl_go (pc' := 1452) bt_291_1117 rfl ?_
  exact kk _ _ _ hL1216 hR1220 hQ1221
set_option maxHeartbeats 40000000 in
theorem wl_k_26 {i x : Int32} {lv : mm_V} {h : mm_H} {o : Option Value} (hST : wt_ST E) (hSA : ∀ {x y : Int32} (ρ : Nat → Int32), en_SA E ρ (wl_o x y) mt_SB) (h8 : ∃ q, E.2[8]? = some q) (hS : bl_S E b n xs) (hn : n ≤ 3072) (g0 : mm_get lv 0 = some (.ref b)) (g1 : mm_get lv 1 = some (.ref (E.1 + 0))) (g2 : mm_get lv 2 = some (.ref (E.1 + 88))) (g3 : mm_get lv 3 = some (.int i)) (hi0 : 0 ≤ i.toInt) (hi5 : i.toInt + 6 ≤ (n : Int)) (hL : wl_W E wl_H x x h) (hR : wt_R x x h) (hQ : rb_R h) (kk : ∀ (h' : mm_H) (x' : Int32) (o' : Option Value), wl_W E wl_H x' x' h' → wt_R x' x' h' → rb_R h' → bh_G E st_FIN ((291, 1452, lv, [], cb, sb) :: [], h', o')) : bh_G E st_FIN ((291, 1120, lv, [], cb, sb) :: [], h, o) := by
  refine bl_ld (pc' := 1121) bt_291_1120 rfl rfl (fun _ _ _ => rfl) g1 rfl ?_
  refine bl_cv (pc' := 1124) (st := []) (args := []) (c := 0) (ci := 8) bt_291_1121 rfl rfl (by decide) (wl_o0 hL) (by decide) (Nat.succ_lt_succ (Nat.zero_lt_succ _)) rfl (Nat.le_of_ble_eq_true rfl) (Nat.le_of_ble_eq_true rfl) ?_
  refine wq_j (m := 224) (FIN := st_FIN) (g := (291, 1124, lv, [], cb, sb)) (t := []) (A := fun h' r => wl_W E wl_H x x h' ∧ wt_K h h') q0_k q0_a q0_h rfl (by decide) (ka_lc (ka_no (by decide)) ka_ln) hL (fun F9 k1 => wk_c_broom (FIN := F9) (gs := [bp_mf]) hSA h8 hL (Nat.le_of_ble_eq_true rfl) (fun h r a b => k1 _ _ ⟨a, b⟩)) (fun h1222 r1223 ⟨hL1224, K1227⟩ F1225 Ka1226 => ?_)
  have hR1228 := wt_RK hR K1227
  have hQ1229 := rb_q0 hL hQ F1225 Ka1226
  show bh_G E st_FIN ((291, 1124, lv, [.int r1223], cb, sb) :: [], h1222, none)
  refine bl_pop (pc' := 1125) bt_291_1124 rfl rfl ?_
  refine bl_ld (pc' := 1126) bt_291_1125 rfl rfl (fun _ _ _ => rfl) g2 rfl ?_
  refine bl_cv (pc' := 1129) (st := []) (args := []) (c := 88) (ci := 9) bt_291_1126 rfl rfl (by decide) (wl_o88 hL1224) (by decide) (Nat.succ_lt_succ (Nat.zero_lt_succ _)) rfl (Nat.le_of_ble_eq_true rfl) (Nat.le_of_ble_eq_true rfl) ?_
  refine wq_j (m := 11) (FIN := st_FIN) (g := (291, 1129, lv, [], cb, sb)) (t := []) (A := fun h' r => wl_W E wl_H x x h' ∧ wt_K h1222 h') q0_k q0_a q0_h rfl (by decide) (ka_lc (ka_no (by decide)) ka_ln) hL1224 (fun F9 k1 => wk_m_broom (FIN := F9) (gs := [bp_mf]) hSA hL1224 (Nat.le_of_ble_eq_true rfl) (fun h r a b => k1 _ _ ⟨a, b⟩)) (fun h1230 r1231 ⟨hL1232, K1235⟩ F1233 Ka1234 => ?_)
  have hR1236 := wt_RK hR1228 K1235
  have hQ1237 := rb_q0 hL1224 hQ1229 F1233 Ka1234
  show bh_G E st_FIN ((291, 1129, lv, [.int r1231], cb, sb) :: [], h1230, none)
  refine bl_pop (pc' := 1130) bt_291_1129 rfl rfl ?_
  refine bl_go (pc' := 1452) bt_291_1130 rfl ?_
  exact kk _ _ _ hL1232 hR1236 hQ1237
set_option maxHeartbeats 40000000 in
theorem wl_k_27 {i x : Int32} {lv : mm_V} {h : mm_H} {o : Option Value} (hST : wt_ST E) (hSA : ∀ {x y : Int32} (ρ : Nat → Int32), en_SA E ρ (wl_o x y) mt_SB) (h8 : ∃ q, E.2[8]? = some q) (hS : bl_S E b n xs) (hn : n ≤ 3072) (g0 : mm_get lv 0 = some (.ref b)) (g1 : mm_get lv 1 = some (.ref (E.1 + 0))) (g2 : mm_get lv 2 = some (.ref (E.1 + 88))) (g3 : mm_get lv 3 = some (.int i)) (hi0 : 0 ≤ i.toInt) (hi5 : i.toInt + 6 ≤ (n : Int)) (hL : wl_W E wl_H x x h) (hR : wt_R x x h) (hQ : rb_R h) (kk : ∀ (h' : mm_H) (x' : Int32) (o' : Option Value), wl_W E wl_H x' x' h' → wt_R x' x' h' → rb_R h' → bh_G E st_FIN ((291, 1452, lv, [], cb, sb) :: [], h', o')) : bh_G E st_FIN ((291, 1133, lv, [], cb, sb) :: [], h, o) := by
  refine bl_ld (pc' := 1134) bt_291_1133 rfl rfl (fun _ _ _ => rfl) g1 rfl ?_
  refine bl_ld (pc' := 1135) bt_291_1134 rfl rfl (fun _ _ _ => rfl) g0 rfl ?_
  refine bl_ld (pc' := 1136) bt_291_1135 rfl rfl (fun _ _ _ => rfl) g3 rfl ?_
  refine bl_c (pc' := 1137) (n := 1) bt_291_1136 rfl rfl (fun _ _ _ => rfl) (by decide) (fun c1238 e1239 => ?_)
  refine bl_add (pc' := 1138) bt_291_1137 rfl (by omega) (by omega) (fun v1240 e1241 => ?_)
  refine bl_sc (pc' := 1139) bt_291_1138 rfl hS (by omega) (by omega) ?_
  refine bl_ld (pc' := 1140) bt_291_1139 rfl rfl (fun _ _ _ => rfl) g0 rfl ?_
  refine bl_ld (pc' := 1141) bt_291_1140 rfl rfl (fun _ _ _ => rfl) g3 rfl ?_
  refine bl_c (pc' := 1142) (n := 2) bt_291_1141 rfl rfl (fun _ _ _ => rfl) (by decide) (fun c1242 e1243 => ?_)
  refine bl_add (pc' := 1143) bt_291_1142 rfl (by omega) (by omega) (fun v1244 e1245 => ?_)
  refine bl_sc (pc' := 1144) bt_291_1143 rfl hS (by omega) (by omega) ?_
  refine bl_cv (pc' := 1147) (st := []) (args := [.int (xs (v1244).toInt.toNat), .int (xs (v1240).toInt.toNat)]) (c := 0) (ci := 8) bt_291_1144 rfl rfl (by decide) (wl_o0 hL) (by decide) (Nat.succ_lt_succ (Nat.zero_lt_succ _)) rfl (Nat.le_of_ble_eq_true rfl) (Nat.le_of_ble_eq_true rfl) ?_
  refine wq_j (m := 274) (FIN := st_FIN) (g := (291, 1147, lv, [], cb, sb)) (t := []) (A := fun h' r => wl_W E wl_H x x h' ∧ wt_K h h') q0_k q0_a q0_h rfl (by decide) (ka_lc (ka_no (by decide)) (ka_lc ka_ti (ka_lc ka_ti ka_ln))) hL (fun F9 k1 => wk_c_year (FIN := F9) (gs := [bp_mf]) hSA h8 hL (Nat.le_of_ble_eq_true rfl) (fun h r a b => k1 _ _ ⟨a, b⟩)) (fun h1246 r1247 ⟨hL1248, K1251⟩ F1249 Ka1250 => ?_)
  have hR1252 := wt_RK hR K1251
  have hQ1253 := rb_q0 hL hQ F1249 Ka1250
  show bh_G E st_FIN ((291, 1147, lv, [.int r1247], cb, sb) :: [], h1246, none)
  refine bl_pop (pc' := 1148) bt_291_1147 rfl rfl ?_
  refine bl_ld (pc' := 1149) bt_291_1148 rfl rfl (fun _ _ _ => rfl) g2 rfl ?_
  refine bl_ld (pc' := 1150) bt_291_1149 rfl rfl (fun _ _ _ => rfl) g0 rfl ?_
  refine bl_ld (pc' := 1151) bt_291_1150 rfl rfl (fun _ _ _ => rfl) g3 rfl ?_
  refine bl_c (pc' := 1152) (n := 1) bt_291_1151 rfl rfl (fun _ _ _ => rfl) (by decide) (fun c1254 e1255 => ?_)
  refine bl_add (pc' := 1153) bt_291_1152 rfl (by omega) (by omega) (fun v1256 e1257 => ?_)
  refine bl_sc (pc' := 1154) bt_291_1153 rfl hS (by omega) (by omega) ?_
  refine bl_ld (pc' := 1155) bt_291_1154 rfl rfl (fun _ _ _ => rfl) g0 rfl ?_
  refine bl_ld (pc' := 1156) bt_291_1155 rfl rfl (fun _ _ _ => rfl) g3 rfl ?_
  refine bl_c (pc' := 1157) (n := 2) bt_291_1156 rfl rfl (fun _ _ _ => rfl) (by decide) (fun c1258 e1259 => ?_)
  refine bl_add (pc' := 1158) bt_291_1157 rfl (by omega) (by omega) (fun v1260 e1261 => ?_)
  refine bl_sc (pc' := 1159) bt_291_1158 rfl hS (by omega) (by omega) ?_
  refine bl_cv (pc' := 1162) (st := []) (args := [.int (xs (v1260).toInt.toNat), .int (xs (v1256).toInt.toNat)]) (c := 88) (ci := 9) bt_291_1159 rfl rfl (by decide) (wl_o88 hL1248) (by decide) (Nat.succ_lt_succ (Nat.zero_lt_succ _)) rfl (Nat.le_of_ble_eq_true rfl) (Nat.le_of_ble_eq_true rfl) ?_
  refine wq_j (m := 113) (FIN := st_FIN) (g := (291, 1162, lv, [], cb, sb)) (t := []) (A := fun h' r => wl_W E wl_H x x h' ∧ wt_K h1246 h') q0_k q0_a q0_h rfl (by decide) (ka_lc (ka_no (by decide)) (ka_lc ka_ti (ka_lc ka_ti ka_ln))) hL1248 (fun F9 k1 => wk_m_year (FIN := F9) (gs := [bp_mf]) hSA hL1248 (Nat.le_of_ble_eq_true rfl) (fun h r a b => k1 _ _ ⟨a, b⟩)) (fun h1262 r1263 ⟨hL1264, K1267⟩ F1265 Ka1266 => ?_)
  have hR1268 := wt_RK hR1252 K1267
  have hQ1269 := rb_q0 hL1248 hQ1253 F1265 Ka1266
  show bh_G E st_FIN ((291, 1162, lv, [.int r1263], cb, sb) :: [], h1262, none)
  refine bl_pop (pc' := 1163) bt_291_1162 rfl rfl ?_
  refine bl_go (pc' := 1452) bt_291_1163 rfl ?_
  exact kk _ _ _ hL1264 hR1268 hQ1269
set_option maxHeartbeats 40000000 in
theorem wl_k_28 {i x : Int32} {lv : mm_V} {h : mm_H} {o : Option Value} (hST : wt_ST E) (hSA : ∀ {x y : Int32} (ρ : Nat → Int32), en_SA E ρ (wl_o x y) mt_SB) (h8 : ∃ q, E.2[8]? = some q) (hS : bl_S E b n xs) (hn : n ≤ 3072) (g0 : mm_get lv 0 = some (.ref b)) (g1 : mm_get lv 1 = some (.ref (E.1 + 0))) (g2 : mm_get lv 2 = some (.ref (E.1 + 88))) (g3 : mm_get lv 3 = some (.int i)) (hi0 : 0 ≤ i.toInt) (hi5 : i.toInt + 6 ≤ (n : Int)) (hL : wl_W E wl_H x x h) (hR : wt_R x x h) (hQ : rb_R h) (kk : ∀ (h' : mm_H) (x' : Int32) (o' : Option Value), wl_W E wl_H x' x' h' → wt_R x' x' h' → rb_R h' → bh_G E st_FIN ((291, 1452, lv, [], cb, sb) :: [], h', o')) : bh_G E st_FIN ((291, 1166, lv, [], cb, sb) :: [], h, o) := by
  refine bl_ld (pc' := 1167) bt_291_1166 rfl rfl (fun _ _ _ => rfl) g1 rfl ?_
  refine bl_ld (pc' := 1168) bt_291_1167 rfl rfl (fun _ _ _ => rfl) g0 rfl ?_
  refine bl_ld (pc' := 1169) bt_291_1168 rfl rfl (fun _ _ _ => rfl) g3 rfl ?_
  refine bl_c (pc' := 1170) (n := 1) bt_291_1169 rfl rfl (fun _ _ _ => rfl) (by decide) (fun c1270 e1271 => ?_)
  refine bl_add (pc' := 1171) bt_291_1170 rfl (by omega) (by omega) (fun v1272 e1273 => ?_)
  refine bl_sc (pc' := 1172) bt_291_1171 rfl hS (by omega) (by omega) ?_
  refine bl_ld (pc' := 1173) bt_291_1172 rfl rfl (fun _ _ _ => rfl) g0 rfl ?_
  refine bl_ld (pc' := 1174) bt_291_1173 rfl rfl (fun _ _ _ => rfl) g3 rfl ?_
  refine bl_c (pc' := 1175) (n := 2) bt_291_1174 rfl rfl (fun _ _ _ => rfl) (by decide) (fun c1274 e1275 => ?_)
  refine bl_add (pc' := 1176) bt_291_1175 rfl (by omega) (by omega) (fun v1276 e1277 => ?_)
  refine bl_sc (pc' := 1177) bt_291_1176 rfl hS (by omega) (by omega) ?_
  refine bl_cv (pc' := 1180) (st := []) (args := [.int (xs (v1276).toInt.toNat), .int (xs (v1272).toInt.toNat)]) (c := 0) (ci := 8) bt_291_1177 rfl rfl (by decide) (wl_o0 hL) (by decide) (Nat.succ_lt_succ (Nat.zero_lt_succ _)) rfl (Nat.le_of_ble_eq_true rfl) (Nat.le_of_ble_eq_true rfl) ?_
  refine wq_j (m := 272) (FIN := st_FIN) (g := (291, 1180, lv, [], cb, sb)) (t := []) (A := fun h' r => wl_W E wl_H x x h' ∧ wt_K h h') q0_k q0_a q0_h rfl (by decide) (ka_lc (ka_no (by decide)) (ka_lc ka_ti (ka_lc ka_ti ka_ln))) hL (fun F9 k1 => wk_c_weds (FIN := F9) (gs := [bp_mf]) hSA h8 hL (Nat.le_of_ble_eq_true rfl) (fun h r a b => k1 _ _ ⟨a, b⟩)) (fun h1278 r1279 ⟨hL1280, K1283⟩ F1281 Ka1282 => ?_)
  have hR1284 := wt_RK hR K1283
  have hQ1285 := rb_q0 hL hQ F1281 Ka1282
  show bh_G E st_FIN ((291, 1180, lv, [.int r1279], cb, sb) :: [], h1278, none)
  refine bl_pop (pc' := 1181) bt_291_1180 rfl rfl ?_
  refine bl_ld (pc' := 1182) bt_291_1181 rfl rfl (fun _ _ _ => rfl) g2 rfl ?_
  refine bl_ld (pc' := 1183) bt_291_1182 rfl rfl (fun _ _ _ => rfl) g0 rfl ?_
  refine bl_ld (pc' := 1184) bt_291_1183 rfl rfl (fun _ _ _ => rfl) g3 rfl ?_
  refine bl_c (pc' := 1185) (n := 1) bt_291_1184 rfl rfl (fun _ _ _ => rfl) (by decide) (fun c1286 e1287 => ?_)
  refine bl_add (pc' := 1186) bt_291_1185 rfl (by omega) (by omega) (fun v1288 e1289 => ?_)
  refine bl_sc (pc' := 1187) bt_291_1186 rfl hS (by omega) (by omega) ?_
  refine bl_ld (pc' := 1188) bt_291_1187 rfl rfl (fun _ _ _ => rfl) g0 rfl ?_
  refine bl_ld (pc' := 1189) bt_291_1188 rfl rfl (fun _ _ _ => rfl) g3 rfl ?_
  refine bl_c (pc' := 1190) (n := 2) bt_291_1189 rfl rfl (fun _ _ _ => rfl) (by decide) (fun c1290 e1291 => ?_)
  refine bl_add (pc' := 1191) bt_291_1190 rfl (by omega) (by omega) (fun v1292 e1293 => ?_)
  refine bl_sc (pc' := 1192) bt_291_1191 rfl hS (by omega) (by omega) ?_
  refine bl_cv (pc' := 1195) (st := []) (args := [.int (xs (v1292).toInt.toNat), .int (xs (v1288).toInt.toNat)]) (c := 88) (ci := 9) bt_291_1192 rfl rfl (by decide) (wl_o88 hL1280) (by decide) (Nat.succ_lt_succ (Nat.zero_lt_succ _)) rfl (Nat.le_of_ble_eq_true rfl) (Nat.le_of_ble_eq_true rfl) ?_
  refine wq_j (m := 109) (FIN := st_FIN) (g := (291, 1195, lv, [], cb, sb)) (t := []) (A := fun h' r => wl_W E wl_H x x h' ∧ wt_K h1278 h') q0_k q0_a q0_h rfl (by decide) (ka_lc (ka_no (by decide)) (ka_lc ka_ti (ka_lc ka_ti ka_ln))) hL1280 (fun F9 k1 => wk_m_weds (FIN := F9) (gs := [bp_mf]) hSA hL1280 (Nat.le_of_ble_eq_true rfl) (fun h r a b => k1 _ _ ⟨a, b⟩)) (fun h1294 r1295 ⟨hL1296, K1299⟩ F1297 Ka1298 => ?_)
  have hR1300 := wt_RK hR1284 K1299
  have hQ1301 := rb_q0 hL1280 hQ1285 F1297 Ka1298
  show bh_G E st_FIN ((291, 1195, lv, [.int r1295], cb, sb) :: [], h1294, none)
  refine bl_pop (pc' := 1196) bt_291_1195 rfl rfl ?_
  refine bl_go (pc' := 1452) bt_291_1196 rfl ?_
  exact kk _ _ _ hL1296 hR1300 hQ1301
set_option maxHeartbeats 40000000 in
theorem wl_k_29 {i x : Int32} {lv : mm_V} {h : mm_H} {o : Option Value} (hST : wt_ST E) (hSA : ∀ {x y : Int32} (ρ : Nat → Int32), en_SA E ρ (wl_o x y) mt_SB) (h8 : ∃ q, E.2[8]? = some q) (hS : bl_S E b n xs) (hn : n ≤ 3072) (g0 : mm_get lv 0 = some (.ref b)) (g1 : mm_get lv 1 = some (.ref (E.1 + 0))) (g2 : mm_get lv 2 = some (.ref (E.1 + 88))) (g3 : mm_get lv 3 = some (.int i)) (hi0 : 0 ≤ i.toInt) (hi5 : i.toInt + 6 ≤ (n : Int)) (hL : wl_W E wl_H x x h) (hR : wt_R x x h) (hQ : rb_R h) (kk : ∀ (h' : mm_H) (x' : Int32) (o' : Option Value), wl_W E wl_H x' x' h' → wt_R x' x' h' → rb_R h' → bh_G E st_FIN ((291, 1452, lv, [], cb, sb) :: [], h', o')) : bh_G E st_FIN ((291, 1199, lv, [], cb, sb) :: [], h, o) := by
  refine bl_ld (pc' := 1200) bt_291_1199 rfl rfl (fun _ _ _ => rfl) g1 rfl ?_
  refine bl_ld (pc' := 1201) bt_291_1200 rfl rfl (fun _ _ _ => rfl) g0 rfl ?_
  refine bl_ld (pc' := 1202) bt_291_1201 rfl rfl (fun _ _ _ => rfl) g3 rfl ?_
  refine bl_c (pc' := 1203) (n := 1) bt_291_1202 rfl rfl (fun _ _ _ => rfl) (by decide) (fun c1302 e1303 => ?_)
  refine bl_add (pc' := 1204) bt_291_1203 rfl (by omega) (by omega) (fun v1304 e1305 => ?_)
  refine bl_sc (pc' := 1205) bt_291_1204 rfl hS (by omega) (by omega) ?_
  refine bl_cv (pc' := 1208) (st := []) (args := [.int (xs (v1304).toInt.toNat)]) (c := 0) (ci := 8) bt_291_1205 rfl rfl (by decide) (wl_o0 hL) (by decide) (Nat.succ_lt_succ (Nat.zero_lt_succ _)) rfl (Nat.le_of_ble_eq_true rfl) (Nat.le_of_ble_eq_true rfl) ?_
  refine wq_c_tell (FIN := st_FIN) (g := (291, 1208, lv, [], cb, sb)) (t := []) hSA h8 hL (Nat.le_of_ble_eq_true rfl) (fun h1306 r1307 hL1308 K1311 F1309 Ka1310 B1312 => ?_)
  have hR1313 := wt_RK hR K1311
  show bh_G E st_FIN ((291, 1208, lv, [.int r1307], cb, sb) :: [], h1306, none)
  refine bl_pop (pc' := 1209) bt_291_1208 rfl rfl ?_
  refine bl_ld (pc' := 1210) bt_291_1209 rfl rfl (fun _ _ _ => rfl) g2 rfl ?_
  refine bl_ld (pc' := 1211) bt_291_1210 rfl rfl (fun _ _ _ => rfl) g0 rfl ?_
  refine bl_ld (pc' := 1212) bt_291_1211 rfl rfl (fun _ _ _ => rfl) g3 rfl ?_
  refine bl_c (pc' := 1213) (n := 1) bt_291_1212 rfl rfl (fun _ _ _ => rfl) (by decide) (fun c1314 e1315 => ?_)
  refine bl_add (pc' := 1214) bt_291_1213 rfl (by omega) (by omega) (fun v1316 e1317 => ?_)
  refine bl_sc (pc' := 1215) bt_291_1214 rfl hS (by omega) (by omega) ?_
  refine bl_cv (pc' := 1218) (st := []) (args := [.int (xs (v1316).toInt.toNat)]) (c := 88) (ci := 9) bt_291_1215 rfl rfl (by decide) (wl_o88 hL1308) (by decide) (Nat.succ_lt_succ (Nat.zero_lt_succ _)) rfl (Nat.le_of_ble_eq_true rfl) (Nat.le_of_ble_eq_true rfl) ?_
  refine wq_m_tell (FIN := st_FIN) (g := (291, 1218, lv, [], cb, sb)) (t := []) hSA hL1308 (Nat.le_of_ble_eq_true rfl) (fun h1318 r1319 hL1320 K1323 F1321 Ka1322 B1324 => ?_)
  have hR1325 := wt_RK hR1313 K1323
  have ev0 : v1316 = v1304 := Int32.toInt_inj.mp (by omega)
  try rw [ev0] at B1324
  obtain ⟨zq, hQ1326⟩ := rb_tell hL hL1308 hQ F1309 Ka1310 B1312 F1321 Ka1322 B1324
  show bh_G E st_FIN ((291, 1218, lv, [.int r1319], cb, sb) :: [], h1318, none)
  refine bl_pop (pc' := 1219) bt_291_1218 rfl rfl ?_
  refine bl_go (pc' := 1452) bt_291_1219 rfl ?_
  exact kk _ _ _ hL1320 hR1325 hQ1326
set_option maxHeartbeats 40000000 in
theorem wl_k_30 {i x : Int32} {lv : mm_V} {h : mm_H} {o : Option Value} (hST : wt_ST E) (hSA : ∀ {x y : Int32} (ρ : Nat → Int32), en_SA E ρ (wl_o x y) mt_SB) (h8 : ∃ q, E.2[8]? = some q) (hS : bl_S E b n xs) (hn : n ≤ 3072) (g0 : mm_get lv 0 = some (.ref b)) (g1 : mm_get lv 1 = some (.ref (E.1 + 0))) (g2 : mm_get lv 2 = some (.ref (E.1 + 88))) (g3 : mm_get lv 3 = some (.int i)) (hi0 : 0 ≤ i.toInt) (hi5 : i.toInt + 6 ≤ (n : Int)) (hL : wl_W E wl_H x x h) (hR : wt_R x x h) (hQ : rb_R h) (kk : ∀ (h' : mm_H) (x' : Int32) (o' : Option Value), wl_W E wl_H x' x' h' → wt_R x' x' h' → rb_R h' → bh_G E st_FIN ((291, 1452, lv, [], cb, sb) :: [], h', o')) : bh_G E st_FIN ((291, 1222, lv, [], cb, sb) :: [], h, o) := by
  refine bl_ld (pc' := 1223) bt_291_1222 rfl rfl (fun _ _ _ => rfl) g1 rfl ?_
  refine bl_ld (pc' := 1224) bt_291_1223 rfl rfl (fun _ _ _ => rfl) g0 rfl ?_
  refine bl_ld (pc' := 1225) bt_291_1224 rfl rfl (fun _ _ _ => rfl) g3 rfl ?_
  refine bl_c (pc' := 1226) (n := 1) bt_291_1225 rfl rfl (fun _ _ _ => rfl) (by decide) (fun c1327 e1328 => ?_)
  refine bl_add (pc' := 1227) bt_291_1226 rfl (by omega) (by omega) (fun v1329 e1330 => ?_)
  refine bl_sc (pc' := 1228) bt_291_1227 rfl hS (by omega) (by omega) ?_
  refine bl_ld (pc' := 1229) bt_291_1228 rfl rfl (fun _ _ _ => rfl) g0 rfl ?_
  refine bl_ld (pc' := 1230) bt_291_1229 rfl rfl (fun _ _ _ => rfl) g3 rfl ?_
  refine bl_c (pc' := 1231) (n := 2) bt_291_1230 rfl rfl (fun _ _ _ => rfl) (by decide) (fun c1331 e1332 => ?_)
  refine bl_add (pc' := 1232) bt_291_1231 rfl (by omega) (by omega) (fun v1333 e1334 => ?_)
  refine bl_sc (pc' := 1233) bt_291_1232 rfl hS (by omega) (by omega) ?_
  refine bl_ld (pc' := 1234) bt_291_1233 rfl rfl (fun _ _ _ => rfl) g0 rfl ?_
  refine bl_ld (pc' := 1235) bt_291_1234 rfl rfl (fun _ _ _ => rfl) g3 rfl ?_
  refine bl_c (pc' := 1236) (n := 3) bt_291_1235 rfl rfl (fun _ _ _ => rfl) (by decide) (fun c1335 e1336 => ?_)
  refine bl_add (pc' := 1237) bt_291_1236 rfl (by omega) (by omega) (fun v1337 e1338 => ?_)
  refine bl_sc (pc' := 1238) bt_291_1237 rfl hS (by omega) (by omega) ?_
  refine bl_i0 (pc' := 1241) (pt := 1245) bt_291_1238 rfl rfl (fun k1339 => ?_) (fun k1339 => ?_)
  · replace k1339 : ((xs (v1337).toInt.toNat)).toInt = 0 := k1339
    refine bl_c (pc' := 1246) (n := 0) bt_291_1245 rfl rfl (fun _ _ _ => rfl) (by decide) (fun c1340 e1341 => ?_)
    refine bl_cv (pc' := 1249) (st := []) (args := [.int c1340, .int (xs (v1333).toInt.toNat), .int (xs (v1329).toInt.toNat)]) (c := 0) (ci := 8) bt_291_1246 rfl rfl (by decide) (wl_o0 hL) (by decide) (Nat.succ_lt_succ (Nat.zero_lt_succ _)) rfl (Nat.le_of_ble_eq_true rfl) (Nat.le_of_ble_eq_true rfl) ?_
    refine wq_c_cheats (FIN := st_FIN) (g := (291, 1249, lv, [], cb, sb)) (t := []) (by omega) hSA h8 hL (Nat.le_of_ble_eq_true rfl) (fun h1342 r1343 hL1344 K1347 F1345 Ka1346 B1348 => ?_)
    have hR1349 := wt_RK hR K1347
    have hQ1350 := rb_q0 hL hQ F1345 Ka1346
    show bh_G E st_FIN ((291, 1249, lv, [.int r1343], cb, sb) :: [], h1342, none)
    refine bl_pop (pc' := 1250) bt_291_1249 rfl rfl ?_
    refine bl_ld (pc' := 1251) bt_291_1250 rfl rfl (fun _ _ _ => rfl) g2 rfl ?_
    refine bl_ld (pc' := 1252) bt_291_1251 rfl rfl (fun _ _ _ => rfl) g0 rfl ?_
    refine bl_ld (pc' := 1253) bt_291_1252 rfl rfl (fun _ _ _ => rfl) g3 rfl ?_
    refine bl_c (pc' := 1254) (n := 1) bt_291_1253 rfl rfl (fun _ _ _ => rfl) (by decide) (fun c1351 e1352 => ?_)
    refine bl_add (pc' := 1255) bt_291_1254 rfl (by omega) (by omega) (fun v1353 e1354 => ?_)
    refine bl_sc (pc' := 1256) bt_291_1255 rfl hS (by omega) (by omega) ?_
    refine bl_ld (pc' := 1257) bt_291_1256 rfl rfl (fun _ _ _ => rfl) g0 rfl ?_
    refine bl_ld (pc' := 1258) bt_291_1257 rfl rfl (fun _ _ _ => rfl) g3 rfl ?_
    refine bl_c (pc' := 1259) (n := 2) bt_291_1258 rfl rfl (fun _ _ _ => rfl) (by decide) (fun c1355 e1356 => ?_)
    refine bl_add (pc' := 1260) bt_291_1259 rfl (by omega) (by omega) (fun v1357 e1358 => ?_)
    refine bl_sc (pc' := 1261) bt_291_1260 rfl hS (by omega) (by omega) ?_
    refine bl_ld (pc' := 1262) bt_291_1261 rfl rfl (fun _ _ _ => rfl) g0 rfl ?_
    refine bl_ld (pc' := 1263) bt_291_1262 rfl rfl (fun _ _ _ => rfl) g3 rfl ?_
    refine bl_c (pc' := 1264) (n := 3) bt_291_1263 rfl rfl (fun _ _ _ => rfl) (by decide) (fun c1359 e1360 => ?_)
    refine bl_add (pc' := 1265) bt_291_1264 rfl (by omega) (by omega) (fun v1361 e1362 => ?_)
    refine bl_sc (pc' := 1266) bt_291_1265 rfl hS (by omega) (by omega) ?_
    refine bl_i0 (pc' := 1269) (pt := 1273) bt_291_1266 rfl rfl (fun k1363 => ?_) (fun k1363 => ?_)
    · replace k1363 : ((xs (v1361).toInt.toNat)).toInt = 0 := k1363
      refine bl_c (pc' := 1274) (n := 0) bt_291_1273 rfl rfl (fun _ _ _ => rfl) (by decide) (fun c1364 e1365 => ?_)
      refine bl_cv (pc' := 1277) (st := []) (args := [.int c1364, .int (xs (v1357).toInt.toNat), .int (xs (v1353).toInt.toNat)]) (c := 88) (ci := 9) bt_291_1274 rfl rfl (by decide) (wl_o88 hL1344) (by decide) (Nat.succ_lt_succ (Nat.zero_lt_succ _)) rfl (Nat.le_of_ble_eq_true rfl) (Nat.le_of_ble_eq_true rfl) ?_
      refine wq_m_cheats (FIN := st_FIN) (g := (291, 1277, lv, [], cb, sb)) (t := []) (by omega) hSA hL1344 (Nat.le_of_ble_eq_true rfl) (fun h1366 r1367 hL1368 K1371 F1369 Ka1370 B1372 => ?_)
      have hR1373 := wt_RK hR1349 K1371
      have ev0 : v1353 = v1329 := Int32.toInt_inj.mp (by omega)
      try rw [ev0] at k1363
      try rw [ev0] at B1372
      have ev1 : v1357 = v1333 := Int32.toInt_inj.mp (by omega)
      try rw [ev1] at k1363
      try rw [ev1] at B1372
      have ev2 : v1361 = v1337 := Int32.toInt_inj.mp (by omega)
      try rw [ev2] at k1363
      try rw [ev2] at B1372
      have eb : c1364 = c1340 := Int32.toInt_inj.mp (by omega)
      rw [eb] at B1372
      have zq := rb_cheats hL hQ1350 F1345 Ka1346 B1348 B1372
      have hQ1375 := rb_q0 hL1344 hQ1350 F1369 Ka1370
      show bh_G E st_FIN ((291, 1277, lv, [.int r1367], cb, sb) :: [], h1366, none)
      refine bl_pop (pc' := 1278) bt_291_1277 rfl rfl ?_
      refine bl_go (pc' := 1452) bt_291_1278 rfl ?_
      exact kk _ _ _ hL1368 hR1373 hQ1375
    · replace k1363 : ¬ (((xs (v1361).toInt.toNat)).toInt = 0) := k1363
      refine bl_c (pc' := 1270) (n := 1) bt_291_1269 rfl rfl (fun _ _ _ => rfl) (by decide) (fun c1376 e1377 => ?_)
      refine bl_go (pc' := 1274) bt_291_1270 rfl ?_
      refine bl_cv (pc' := 1277) (st := []) (args := [.int c1376, .int (xs (v1357).toInt.toNat), .int (xs (v1353).toInt.toNat)]) (c := 88) (ci := 9) bt_291_1274 rfl rfl (by decide) (wl_o88 hL1344) (by decide) (Nat.succ_lt_succ (Nat.zero_lt_succ _)) rfl (Nat.le_of_ble_eq_true rfl) (Nat.le_of_ble_eq_true rfl) ?_
      refine wq_m_cheats (FIN := st_FIN) (g := (291, 1277, lv, [], cb, sb)) (t := []) (by omega) hSA hL1344 (Nat.le_of_ble_eq_true rfl) (fun h1378 r1379 hL1380 K1383 F1381 Ka1382 B1384 => ?_)
      have ev0 : v1353 = v1329 := Int32.toInt_inj.mp (by omega)
      try rw [ev0] at k1363
      have ev1 : v1357 = v1333 := Int32.toInt_inj.mp (by omega)
      try rw [ev1] at k1363
      have ev2 : v1361 = v1337 := Int32.toInt_inj.mp (by omega)
      try rw [ev2] at k1363
      exfalso
      omega
  · replace k1339 : ¬ (((xs (v1337).toInt.toNat)).toInt = 0) := k1339
    refine bl_c (pc' := 1242) (n := 1) bt_291_1241 rfl rfl (fun _ _ _ => rfl) (by decide) (fun c1386 e1387 => ?_)
    refine bl_go (pc' := 1246) bt_291_1242 rfl ?_
    refine bl_cv (pc' := 1249) (st := []) (args := [.int c1386, .int (xs (v1333).toInt.toNat), .int (xs (v1329).toInt.toNat)]) (c := 0) (ci := 8) bt_291_1246 rfl rfl (by decide) (wl_o0 hL) (by decide) (Nat.succ_lt_succ (Nat.zero_lt_succ _)) rfl (Nat.le_of_ble_eq_true rfl) (Nat.le_of_ble_eq_true rfl) ?_
    refine wq_c_cheats (FIN := st_FIN) (g := (291, 1249, lv, [], cb, sb)) (t := []) (by omega) hSA h8 hL (Nat.le_of_ble_eq_true rfl) (fun h1388 r1389 hL1390 K1393 F1391 Ka1392 B1394 => ?_)
    have hR1395 := wt_RK hR K1393
    have hQ1396 := rb_q0 hL hQ F1391 Ka1392
    show bh_G E st_FIN ((291, 1249, lv, [.int r1389], cb, sb) :: [], h1388, none)
    refine bl_pop (pc' := 1250) bt_291_1249 rfl rfl ?_
    refine bl_ld (pc' := 1251) bt_291_1250 rfl rfl (fun _ _ _ => rfl) g2 rfl ?_
    refine bl_ld (pc' := 1252) bt_291_1251 rfl rfl (fun _ _ _ => rfl) g0 rfl ?_
    refine bl_ld (pc' := 1253) bt_291_1252 rfl rfl (fun _ _ _ => rfl) g3 rfl ?_
    refine bl_c (pc' := 1254) (n := 1) bt_291_1253 rfl rfl (fun _ _ _ => rfl) (by decide) (fun c1397 e1398 => ?_)
    refine bl_add (pc' := 1255) bt_291_1254 rfl (by omega) (by omega) (fun v1399 e1400 => ?_)
    refine bl_sc (pc' := 1256) bt_291_1255 rfl hS (by omega) (by omega) ?_
    refine bl_ld (pc' := 1257) bt_291_1256 rfl rfl (fun _ _ _ => rfl) g0 rfl ?_
    refine bl_ld (pc' := 1258) bt_291_1257 rfl rfl (fun _ _ _ => rfl) g3 rfl ?_
    refine bl_c (pc' := 1259) (n := 2) bt_291_1258 rfl rfl (fun _ _ _ => rfl) (by decide) (fun c1401 e1402 => ?_)
    refine bl_add (pc' := 1260) bt_291_1259 rfl (by omega) (by omega) (fun v1403 e1404 => ?_)
    refine bl_sc (pc' := 1261) bt_291_1260 rfl hS (by omega) (by omega) ?_
    refine bl_ld (pc' := 1262) bt_291_1261 rfl rfl (fun _ _ _ => rfl) g0 rfl ?_
    refine bl_ld (pc' := 1263) bt_291_1262 rfl rfl (fun _ _ _ => rfl) g3 rfl ?_
    refine bl_c (pc' := 1264) (n := 3) bt_291_1263 rfl rfl (fun _ _ _ => rfl) (by decide) (fun c1405 e1406 => ?_)
    refine bl_add (pc' := 1265) bt_291_1264 rfl (by omega) (by omega) (fun v1407 e1408 => ?_)
    refine bl_sc (pc' := 1266) bt_291_1265 rfl hS (by omega) (by omega) ?_
    refine bl_i0 (pc' := 1269) (pt := 1273) bt_291_1266 rfl rfl (fun k1409 => ?_) (fun k1409 => ?_)
    · replace k1409 : ((xs (v1407).toInt.toNat)).toInt = 0 := k1409
      refine bl_c (pc' := 1274) (n := 0) bt_291_1273 rfl rfl (fun _ _ _ => rfl) (by decide) (fun c1410 e1411 => ?_)
      refine bl_cv (pc' := 1277) (st := []) (args := [.int c1410, .int (xs (v1403).toInt.toNat), .int (xs (v1399).toInt.toNat)]) (c := 88) (ci := 9) bt_291_1274 rfl rfl (by decide) (wl_o88 hL1390) (by decide) (Nat.succ_lt_succ (Nat.zero_lt_succ _)) rfl (Nat.le_of_ble_eq_true rfl) (Nat.le_of_ble_eq_true rfl) ?_
      refine wq_m_cheats (FIN := st_FIN) (g := (291, 1277, lv, [], cb, sb)) (t := []) (by omega) hSA hL1390 (Nat.le_of_ble_eq_true rfl) (fun h1412 r1413 hL1414 K1417 F1415 Ka1416 B1418 => ?_)
      have ev0 : v1399 = v1329 := Int32.toInt_inj.mp (by omega)
      try rw [ev0] at k1409
      have ev1 : v1403 = v1333 := Int32.toInt_inj.mp (by omega)
      try rw [ev1] at k1409
      have ev2 : v1407 = v1337 := Int32.toInt_inj.mp (by omega)
      try rw [ev2] at k1409
      exfalso
      omega
    · replace k1409 : ¬ (((xs (v1407).toInt.toNat)).toInt = 0) := k1409
      refine bl_c (pc' := 1270) (n := 1) bt_291_1269 rfl rfl (fun _ _ _ => rfl) (by decide) (fun c1420 e1421 => ?_)
      refine bl_go (pc' := 1274) bt_291_1270 rfl ?_
      refine bl_cv (pc' := 1277) (st := []) (args := [.int c1420, .int (xs (v1403).toInt.toNat), .int (xs (v1399).toInt.toNat)]) (c := 88) (ci := 9) bt_291_1274 rfl rfl (by decide) (wl_o88 hL1390) (by decide) (Nat.succ_lt_succ (Nat.zero_lt_succ _)) rfl (Nat.le_of_ble_eq_true rfl) (Nat.le_of_ble_eq_true rfl) ?_
      refine wq_m_cheats (FIN := st_FIN) (g := (291, 1277, lv, [], cb, sb)) (t := []) (by omega) hSA hL1390 (Nat.le_of_ble_eq_true rfl) (fun h1422 r1423 hL1424 K1427 F1425 Ka1426 B1428 => ?_)
      have hR1429 := wt_RK hR1395 K1427
      have ev0 : v1399 = v1329 := Int32.toInt_inj.mp (by omega)
      try rw [ev0] at k1409
      try rw [ev0] at B1428
      have ev1 : v1403 = v1333 := Int32.toInt_inj.mp (by omega)
      try rw [ev1] at k1409
      try rw [ev1] at B1428
      have ev2 : v1407 = v1337 := Int32.toInt_inj.mp (by omega)
      try rw [ev2] at k1409
      try rw [ev2] at B1428
      have eb : c1420 = c1386 := Int32.toInt_inj.mp (by omega)
      rw [eb] at B1428
      have zq := rb_cheats hL hQ1396 F1391 Ka1392 B1394 B1428
      have hQ1431 := rb_q0 hL1390 hQ1396 F1425 Ka1426
      show bh_G E st_FIN ((291, 1277, lv, [.int r1423], cb, sb) :: [], h1422, none)
      refine bl_pop (pc' := 1278) bt_291_1277 rfl rfl ?_
      refine bl_go (pc' := 1452) bt_291_1278 rfl ?_
      exact kk _ _ _ hL1424 hR1429 hQ1431
set_option maxHeartbeats 40000000 in
theorem wl_k_31 {i x : Int32} {lv : mm_V} {h : mm_H} {o : Option Value} (hST : wt_ST E) (hSA : ∀ {x y : Int32} (ρ : Nat → Int32), en_SA E ρ (wl_o x y) mt_SB) (h8 : ∃ q, E.2[8]? = some q) (hS : bl_S E b n xs) (hn : n ≤ 3072) (g0 : mm_get lv 0 = some (.ref b)) (g1 : mm_get lv 1 = some (.ref (E.1 + 0))) (g2 : mm_get lv 2 = some (.ref (E.1 + 88))) (g3 : mm_get lv 3 = some (.int i)) (hi0 : 0 ≤ i.toInt) (hi5 : i.toInt + 6 ≤ (n : Int)) (hL : wl_W E wl_H x x h) (hR : wt_R x x h) (hQ : rb_R h) (kk : ∀ (h' : mm_H) (x' : Int32) (o' : Option Value), wl_W E wl_H x' x' h' → wt_R x' x' h' → rb_R h' → bh_G E st_FIN ((291, 1452, lv, [], cb, sb) :: [], h', o')) : bh_G E st_FIN ((291, 1281, lv, [], cb, sb) :: [], h, o) := by
  refine bl_ld (pc' := 1282) bt_291_1281 rfl rfl (fun _ _ _ => rfl) g1 rfl ?_
  refine bl_ld (pc' := 1283) bt_291_1282 rfl rfl (fun _ _ _ => rfl) g0 rfl ?_
  refine bl_ld (pc' := 1284) bt_291_1283 rfl rfl (fun _ _ _ => rfl) g3 rfl ?_
  refine bl_c (pc' := 1285) (n := 1) bt_291_1284 rfl rfl (fun _ _ _ => rfl) (by decide) (fun c1432 e1433 => ?_)
  refine bl_add (pc' := 1286) bt_291_1285 rfl (by omega) (by omega) (fun v1434 e1435 => ?_)
  refine bl_sc (pc' := 1287) bt_291_1286 rfl hS (by omega) (by omega) ?_
  refine bl_cv (pc' := 1290) (st := []) (args := [.int (xs (v1434).toInt.toNat)]) (c := 0) (ci := 8) bt_291_1287 rfl rfl (by decide) (wl_o0 hL) (by decide) (Nat.succ_lt_succ (Nat.zero_lt_succ _)) rfl (Nat.le_of_ble_eq_true rfl) (Nat.le_of_ble_eq_true rfl) ?_
  refine wq_c_surely (FIN := st_FIN) (g := (291, 1290, lv, [], cb, sb)) (t := []) hSA h8 hL (Nat.le_of_ble_eq_true rfl) (fun h1436 r1437 hL1438 K1441 F1439 Ka1440 B1442 => ?_)
  have hR1443 := wt_RK hR K1441
  have hQ1444 := rb_q0 hL hQ F1439 Ka1440
  show bh_G E st_FIN ((291, 1290, lv, [.int r1437], cb, sb) :: [], h1436, none)
  refine bl_pop (pc' := 1291) bt_291_1290 rfl rfl ?_
  refine bl_ld (pc' := 1292) bt_291_1291 rfl rfl (fun _ _ _ => rfl) g2 rfl ?_
  refine bl_ld (pc' := 1293) bt_291_1292 rfl rfl (fun _ _ _ => rfl) g0 rfl ?_
  refine bl_ld (pc' := 1294) bt_291_1293 rfl rfl (fun _ _ _ => rfl) g3 rfl ?_
  refine bl_c (pc' := 1295) (n := 1) bt_291_1294 rfl rfl (fun _ _ _ => rfl) (by decide) (fun c1445 e1446 => ?_)
  refine bl_add (pc' := 1296) bt_291_1295 rfl (by omega) (by omega) (fun v1447 e1448 => ?_)
  refine bl_sc (pc' := 1297) bt_291_1296 rfl hS (by omega) (by omega) ?_
  refine bl_cv (pc' := 1300) (st := []) (args := [.int (xs (v1447).toInt.toNat)]) (c := 88) (ci := 9) bt_291_1297 rfl rfl (by decide) (wl_o88 hL1438) (by decide) (Nat.succ_lt_succ (Nat.zero_lt_succ _)) rfl (Nat.le_of_ble_eq_true rfl) (Nat.le_of_ble_eq_true rfl) ?_
  refine wq_m_surely (FIN := st_FIN) (g := (291, 1300, lv, [], cb, sb)) (t := []) hSA hL1438 (Nat.le_of_ble_eq_true rfl) (fun h1449 r1450 hL1451 K1454 F1452 Ka1453 B1455 => ?_)
  have hR1456 := wt_RK hR1443 K1454
  have ev0 : v1447 = v1434 := Int32.toInt_inj.mp (by omega)
  try rw [ev0] at B1455
  have zq := rb_surely hL hQ1444 F1439 Ka1440 B1442 B1455
  have hQ1458 := rb_q0 hL1438 hQ1444 F1452 Ka1453
  show bh_G E st_FIN ((291, 1300, lv, [.int r1450], cb, sb) :: [], h1449, none)
  refine bl_pop (pc' := 1301) bt_291_1300 rfl rfl ?_
  refine bl_go (pc' := 1452) bt_291_1301 rfl ?_
  exact kk _ _ _ hL1451 hR1456 hQ1458
set_option maxHeartbeats 40000000 in
theorem wl_k_32 {i x : Int32} {lv : mm_V} {h : mm_H} {o : Option Value} (hST : wt_ST E) (hSA : ∀ {x y : Int32} (ρ : Nat → Int32), en_SA E ρ (wl_o x y) mt_SB) (h8 : ∃ q, E.2[8]? = some q) (hS : bl_S E b n xs) (hn : n ≤ 3072) (g0 : mm_get lv 0 = some (.ref b)) (g1 : mm_get lv 1 = some (.ref (E.1 + 0))) (g2 : mm_get lv 2 = some (.ref (E.1 + 88))) (g3 : mm_get lv 3 = some (.int i)) (hi0 : 0 ≤ i.toInt) (hi5 : i.toInt + 6 ≤ (n : Int)) (hL : wl_W E wl_H x x h) (hR : wt_R x x h) (hQ : rb_R h) (kk : ∀ (h' : mm_H) (x' : Int32) (o' : Option Value), wl_W E wl_H x' x' h' → wt_R x' x' h' → rb_R h' → bh_G E st_FIN ((291, 1452, lv, [], cb, sb) :: [], h', o')) : bh_G E st_FIN ((291, 1304, lv, [], cb, sb) :: [], h, o) := by
  refine bl_ld (pc' := 1305) bt_291_1304 rfl rfl (fun _ _ _ => rfl) g1 rfl ?_
  refine bl_ld (pc' := 1306) bt_291_1305 rfl rfl (fun _ _ _ => rfl) g0 rfl ?_
  refine bl_ld (pc' := 1307) bt_291_1306 rfl rfl (fun _ _ _ => rfl) g3 rfl ?_
  refine bl_c (pc' := 1308) (n := 1) bt_291_1307 rfl rfl (fun _ _ _ => rfl) (by decide) (fun c1459 e1460 => ?_)
  refine bl_add (pc' := 1309) bt_291_1308 rfl (by omega) (by omega) (fun v1461 e1462 => ?_)
  refine bl_sc (pc' := 1310) bt_291_1309 rfl hS (by omega) (by omega) ?_
  refine bl_ld (pc' := 1311) bt_291_1310 rfl rfl (fun _ _ _ => rfl) g0 rfl ?_
  refine bl_ld (pc' := 1312) bt_291_1311 rfl rfl (fun _ _ _ => rfl) g3 rfl ?_
  refine bl_c (pc' := 1313) (n := 2) bt_291_1312 rfl rfl (fun _ _ _ => rfl) (by decide) (fun c1463 e1464 => ?_)
  refine bl_add (pc' := 1314) bt_291_1313 rfl (by omega) (by omega) (fun v1465 e1466 => ?_)
  refine bl_sc (pc' := 1315) bt_291_1314 rfl hS (by omega) (by omega) ?_
  refine bl_cv (pc' := 1318) (st := []) (args := [.int (xs (v1465).toInt.toNat), .int (xs (v1461).toInt.toNat)]) (c := 0) (ci := 8) bt_291_1315 rfl rfl (by decide) (wl_o0 hL) (by decide) (Nat.succ_lt_succ (Nat.zero_lt_succ _)) rfl (Nat.le_of_ble_eq_true rfl) (Nat.le_of_ble_eq_true rfl) ?_
  refine wq_j (m := 243) (FIN := st_FIN) (g := (291, 1318, lv, [], cb, sb)) (t := []) (A := fun h' r => wl_W E wl_H x x h' ∧ wt_K h h') q0_k q0_a q0_h rfl (by decide) (ka_lc (ka_no (by decide)) (ka_lc ka_ti (ka_lc ka_ti ka_ln))) hL (fun F9 k1 => wk_c_log (FIN := F9) (gs := [bp_mf]) hSA h8 hL (Nat.le_of_ble_eq_true rfl) (fun h r a b => k1 _ _ ⟨a, b⟩)) (fun h1467 r1468 ⟨hL1469, K1472⟩ F1470 Ka1471 => ?_)
  have hR1473 := wt_RK hR K1472
  have hQ1474 := rb_q0 hL hQ F1470 Ka1471
  show bh_G E st_FIN ((291, 1318, lv, [.int r1468], cb, sb) :: [], h1467, none)
  refine bl_pop (pc' := 1319) bt_291_1318 rfl rfl ?_
  refine bl_ld (pc' := 1320) bt_291_1319 rfl rfl (fun _ _ _ => rfl) g2 rfl ?_
  refine bl_ld (pc' := 1321) bt_291_1320 rfl rfl (fun _ _ _ => rfl) g0 rfl ?_
  refine bl_ld (pc' := 1322) bt_291_1321 rfl rfl (fun _ _ _ => rfl) g3 rfl ?_
  refine bl_c (pc' := 1323) (n := 1) bt_291_1322 rfl rfl (fun _ _ _ => rfl) (by decide) (fun c1475 e1476 => ?_)
  refine bl_add (pc' := 1324) bt_291_1323 rfl (by omega) (by omega) (fun v1477 e1478 => ?_)
  refine bl_sc (pc' := 1325) bt_291_1324 rfl hS (by omega) (by omega) ?_
  refine bl_ld (pc' := 1326) bt_291_1325 rfl rfl (fun _ _ _ => rfl) g0 rfl ?_
  refine bl_ld (pc' := 1327) bt_291_1326 rfl rfl (fun _ _ _ => rfl) g3 rfl ?_
  refine bl_c (pc' := 1328) (n := 2) bt_291_1327 rfl rfl (fun _ _ _ => rfl) (by decide) (fun c1479 e1480 => ?_)
  refine bl_add (pc' := 1329) bt_291_1328 rfl (by omega) (by omega) (fun v1481 e1482 => ?_)
  refine bl_sc (pc' := 1330) bt_291_1329 rfl hS (by omega) (by omega) ?_
  refine bl_cv (pc' := 1333) (st := []) (args := [.int (xs (v1481).toInt.toNat), .int (xs (v1477).toInt.toNat)]) (c := 88) (ci := 9) bt_291_1330 rfl rfl (by decide) (wl_o88 hL1469) (by decide) (Nat.succ_lt_succ (Nat.zero_lt_succ _)) rfl (Nat.le_of_ble_eq_true rfl) (Nat.le_of_ble_eq_true rfl) ?_
  refine wq_j (m := 60) (FIN := st_FIN) (g := (291, 1333, lv, [], cb, sb)) (t := []) (A := fun h' r => wl_W E wl_H x x h' ∧ wt_K h1467 h') q0_k q0_a q0_h rfl (by decide) (ka_lc (ka_no (by decide)) (ka_lc ka_ti (ka_lc ka_ti ka_ln))) hL1469 (fun F9 k1 => wk_m_log (FIN := F9) (gs := [bp_mf]) hSA hL1469 (Nat.le_of_ble_eq_true rfl) (fun h r a b => k1 _ _ ⟨a, b⟩)) (fun h1483 r1484 ⟨hL1485, K1488⟩ F1486 Ka1487 => ?_)
  have hR1489 := wt_RK hR1473 K1488
  have hQ1490 := rb_q0 hL1469 hQ1474 F1486 Ka1487
  show bh_G E st_FIN ((291, 1333, lv, [.int r1484], cb, sb) :: [], h1483, none)
  refine bl_pop (pc' := 1334) bt_291_1333 rfl rfl ?_
  refine bl_go (pc' := 1452) bt_291_1334 rfl ?_
  exact kk _ _ _ hL1485 hR1489 hQ1490
set_option maxHeartbeats 40000000 in
theorem wl_k_33 {i x : Int32} {lv : mm_V} {h : mm_H} {o : Option Value} (hST : wt_ST E) (hSA : ∀ {x y : Int32} (ρ : Nat → Int32), en_SA E ρ (wl_o x y) mt_SB) (h8 : ∃ q, E.2[8]? = some q) (hS : bl_S E b n xs) (hn : n ≤ 3072) (g0 : mm_get lv 0 = some (.ref b)) (g1 : mm_get lv 1 = some (.ref (E.1 + 0))) (g2 : mm_get lv 2 = some (.ref (E.1 + 88))) (g3 : mm_get lv 3 = some (.int i)) (hi0 : 0 ≤ i.toInt) (hi5 : i.toInt + 6 ≤ (n : Int)) (hL : wl_W E wl_H x x h) (hR : wt_R x x h) (hQ : rb_R h) (kk : ∀ (h' : mm_H) (x' : Int32) (o' : Option Value), wl_W E wl_H x' x' h' → wt_R x' x' h' → rb_R h' → bh_G E st_FIN ((291, 1452, lv, [], cb, sb) :: [], h', o')) : bh_G E st_FIN ((291, 1337, lv, [], cb, sb) :: [], h, o) := by
  refine bl_ld (pc' := 1338) bt_291_1337 rfl rfl (fun _ _ _ => rfl) g1 rfl ?_
  refine bl_ld (pc' := 1339) bt_291_1338 rfl rfl (fun _ _ _ => rfl) g0 rfl ?_
  refine bl_ld (pc' := 1340) bt_291_1339 rfl rfl (fun _ _ _ => rfl) g3 rfl ?_
  refine bl_c (pc' := 1341) (n := 1) bt_291_1340 rfl rfl (fun _ _ _ => rfl) (by decide) (fun c1491 e1492 => ?_)
  refine bl_add (pc' := 1342) bt_291_1341 rfl (by omega) (by omega) (fun v1493 e1494 => ?_)
  refine bl_sc (pc' := 1343) bt_291_1342 rfl hS (by omega) (by omega) ?_
  refine bl_ld (pc' := 1344) bt_291_1343 rfl rfl (fun _ _ _ => rfl) g0 rfl ?_
  refine bl_ld (pc' := 1345) bt_291_1344 rfl rfl (fun _ _ _ => rfl) g3 rfl ?_
  refine bl_c (pc' := 1346) (n := 2) bt_291_1345 rfl rfl (fun _ _ _ => rfl) (by decide) (fun c1495 e1496 => ?_)
  refine bl_add (pc' := 1347) bt_291_1346 rfl (by omega) (by omega) (fun v1497 e1498 => ?_)
  refine bl_sc (pc' := 1348) bt_291_1347 rfl hS (by omega) (by omega) ?_
  refine bl_cv (pc' := 1351) (st := []) (args := [.int (xs (v1497).toInt.toNat), .int (xs (v1493).toInt.toNat)]) (c := 0) (ci := 8) bt_291_1348 rfl rfl (by decide) (wl_o0 hL) (by decide) (Nat.succ_lt_succ (Nat.zero_lt_succ _)) rfl (Nat.le_of_ble_eq_true rfl) (Nat.le_of_ble_eq_true rfl) ?_
  refine wq_j (m := 222) (FIN := st_FIN) (g := (291, 1351, lv, [], cb, sb)) (t := []) (A := fun h' r => wl_W E wl_H x x h' ∧ wt_K h h') q0_k q0_a q0_h rfl (by decide) (ka_lc (ka_no (by decide)) (ka_lc ka_ti (ka_lc ka_ti ka_ln))) hL (fun F9 k1 => wk_c_began (FIN := F9) (gs := [bp_mf]) hSA h8 hL (Nat.le_of_ble_eq_true rfl) (fun h r a b => k1 _ _ ⟨a, b⟩)) (fun h1499 r1500 ⟨hL1501, K1504⟩ F1502 Ka1503 => ?_)
  have hR1505 := wt_RK hR K1504
  have hQ1506 := rb_q0 hL hQ F1502 Ka1503
  show bh_G E st_FIN ((291, 1351, lv, [.int r1500], cb, sb) :: [], h1499, none)
  refine bl_pop (pc' := 1352) bt_291_1351 rfl rfl ?_
  refine bl_ld (pc' := 1353) bt_291_1352 rfl rfl (fun _ _ _ => rfl) g2 rfl ?_
  refine bl_ld (pc' := 1354) bt_291_1353 rfl rfl (fun _ _ _ => rfl) g0 rfl ?_
  refine bl_ld (pc' := 1355) bt_291_1354 rfl rfl (fun _ _ _ => rfl) g3 rfl ?_
  refine bl_c (pc' := 1356) (n := 1) bt_291_1355 rfl rfl (fun _ _ _ => rfl) (by decide) (fun c1507 e1508 => ?_)
  refine bl_add (pc' := 1357) bt_291_1356 rfl (by omega) (by omega) (fun v1509 e1510 => ?_)
  refine bl_sc (pc' := 1358) bt_291_1357 rfl hS (by omega) (by omega) ?_
  refine bl_ld (pc' := 1359) bt_291_1358 rfl rfl (fun _ _ _ => rfl) g0 rfl ?_
  refine bl_ld (pc' := 1360) bt_291_1359 rfl rfl (fun _ _ _ => rfl) g3 rfl ?_
  refine bl_c (pc' := 1361) (n := 2) bt_291_1360 rfl rfl (fun _ _ _ => rfl) (by decide) (fun c1511 e1512 => ?_)
  refine bl_add (pc' := 1362) bt_291_1361 rfl (by omega) (by omega) (fun v1513 e1514 => ?_)
  refine bl_sc (pc' := 1363) bt_291_1362 rfl hS (by omega) (by omega) ?_
  refine bl_cv (pc' := 1366) (st := []) (args := [.int (xs (v1513).toInt.toNat), .int (xs (v1509).toInt.toNat)]) (c := 88) (ci := 9) bt_291_1363 rfl rfl (by decide) (wl_o88 hL1501) (by decide) (Nat.succ_lt_succ (Nat.zero_lt_succ _)) rfl (Nat.le_of_ble_eq_true rfl) (Nat.le_of_ble_eq_true rfl) ?_
  refine wq_j (m := 6) (FIN := st_FIN) (g := (291, 1366, lv, [], cb, sb)) (t := []) (A := fun h' r => wl_W E wl_H x x h' ∧ wt_K h1499 h') q0_k q0_a q0_h rfl (by decide) (ka_lc (ka_no (by decide)) (ka_lc ka_ti (ka_lc ka_ti ka_ln))) hL1501 (fun F9 k1 => wk_m_began (FIN := F9) (gs := [bp_mf]) hSA hL1501 (Nat.le_of_ble_eq_true rfl) (fun h r a b => k1 _ _ ⟨a, b⟩)) (fun h1515 r1516 ⟨hL1517, K1520⟩ F1518 Ka1519 => ?_)
  have hR1521 := wt_RK hR1505 K1520
  have hQ1522 := rb_q0 hL1501 hQ1506 F1518 Ka1519
  show bh_G E st_FIN ((291, 1366, lv, [.int r1516], cb, sb) :: [], h1515, none)
  refine bl_pop (pc' := 1367) bt_291_1366 rfl rfl ?_
  refine bl_go (pc' := 1452) bt_291_1367 rfl ?_
  exact kk _ _ _ hL1517 hR1521 hQ1522
set_option maxHeartbeats 40000000 in
theorem wl_k_34 {i x : Int32} {lv : mm_V} {h : mm_H} {o : Option Value} (hST : wt_ST E) (hSA : ∀ {x y : Int32} (ρ : Nat → Int32), en_SA E ρ (wl_o x y) mt_SB) (h8 : ∃ q, E.2[8]? = some q) (hS : bl_S E b n xs) (hn : n ≤ 3072) (g0 : mm_get lv 0 = some (.ref b)) (g1 : mm_get lv 1 = some (.ref (E.1 + 0))) (g2 : mm_get lv 2 = some (.ref (E.1 + 88))) (g3 : mm_get lv 3 = some (.int i)) (hi0 : 0 ≤ i.toInt) (hi5 : i.toInt + 6 ≤ (n : Int)) (hL : wl_W E wl_H x x h) (hR : wt_R x x h) (hQ : rb_R h) (kk : ∀ (h' : mm_H) (x' : Int32) (o' : Option Value), wl_W E wl_H x' x' h' → wt_R x' x' h' → rb_R h' → bh_G E st_FIN ((291, 1452, lv, [], cb, sb) :: [], h', o')) : bh_G E st_FIN ((291, 1370, lv, [], cb, sb) :: [], h, o) := by
  refine bl_ld (pc' := 1371) bt_291_1370 rfl rfl (fun _ _ _ => rfl) g1 rfl ?_
  refine bl_cv (pc' := 1374) (st := []) (args := []) (c := 0) (ci := 8) bt_291_1371 rfl rfl (by decide) (wl_o0 hL) (by decide) (Nat.succ_lt_succ (Nat.zero_lt_succ _)) rfl (Nat.le_of_ble_eq_true rfl) (Nat.le_of_ble_eq_true rfl) ?_
  refine wq_c_forget (FIN := st_FIN) (g := (291, 1374, lv, [], cb, sb)) (t := []) hSA h8 hL (Nat.le_of_ble_eq_true rfl) (fun h1523 r1524 hL1525 K1528 F1526 Ka1527 B1529 => ?_)
  have hR1530 := wt_RK hR K1528
  show bh_G E st_FIN ((291, 1374, lv, [.int r1524], cb, sb) :: [], h1523, none)
  refine bl_pop (pc' := 1375) bt_291_1374 rfl rfl ?_
  refine bl_ld (pc' := 1376) bt_291_1375 rfl rfl (fun _ _ _ => rfl) g2 rfl ?_
  refine bl_cv (pc' := 1379) (st := []) (args := []) (c := 88) (ci := 9) bt_291_1376 rfl rfl (by decide) (wl_o88 hL1525) (by decide) (Nat.succ_lt_succ (Nat.zero_lt_succ _)) rfl (Nat.le_of_ble_eq_true rfl) (Nat.le_of_ble_eq_true rfl) ?_
  refine wq_m_forget (FIN := st_FIN) (g := (291, 1379, lv, [], cb, sb)) (t := []) hSA hL1525 (Nat.le_of_ble_eq_true rfl) (fun h1531 r1532 hL1533 K1536 F1534 Ka1535 B1537 => ?_)
  have hR1538 := wt_RK hR1530 K1536
  have hQ1539 := rb_forget hL hL1525 hQ F1526 Ka1527 B1529 F1534 Ka1535 B1537
  show bh_G E st_FIN ((291, 1379, lv, [.int r1532], cb, sb) :: [], h1531, none)
  refine bl_pop (pc' := 1380) bt_291_1379 rfl rfl ?_
  refine bl_go (pc' := 1452) bt_291_1380 rfl ?_
  exact kk _ _ _ hL1533 hR1538 hQ1539
set_option maxHeartbeats 40000000 in
theorem wl_k_35 {i x : Int32} {lv : mm_V} {h : mm_H} {o : Option Value} (hST : wt_ST E) (hSA : ∀ {x y : Int32} (ρ : Nat → Int32), en_SA E ρ (wl_o x y) mt_SB) (h8 : ∃ q, E.2[8]? = some q) (hS : bl_S E b n xs) (hn : n ≤ 3072) (g0 : mm_get lv 0 = some (.ref b)) (g1 : mm_get lv 1 = some (.ref (E.1 + 0))) (g2 : mm_get lv 2 = some (.ref (E.1 + 88))) (g3 : mm_get lv 3 = some (.int i)) (hi0 : 0 ≤ i.toInt) (hi5 : i.toInt + 6 ≤ (n : Int)) (hL : wl_W E wl_H x x h) (hR : wt_R x x h) (hQ : rb_R h) (kk : ∀ (h' : mm_H) (x' : Int32) (o' : Option Value), wl_W E wl_H x' x' h' → wt_R x' x' h' → rb_R h' → bh_G E st_FIN ((291, 1452, lv, [], cb, sb) :: [], h', o')) : bh_G E st_FIN ((291, 1383, lv, [], cb, sb) :: [], h, o) := by
  refine bl_ld (pc' := 1384) bt_291_1383 rfl rfl (fun _ _ _ => rfl) g1 rfl ?_
  refine bl_ld (pc' := 1385) bt_291_1384 rfl rfl (fun _ _ _ => rfl) g0 rfl ?_
  refine bl_ld (pc' := 1386) bt_291_1385 rfl rfl (fun _ _ _ => rfl) g3 rfl ?_
  refine bl_c (pc' := 1387) (n := 1) bt_291_1386 rfl rfl (fun _ _ _ => rfl) (by decide) (fun c1540 e1541 => ?_)
  refine bl_add (pc' := 1388) bt_291_1387 rfl (by omega) (by omega) (fun v1542 e1543 => ?_)
  refine bl_sc (pc' := 1389) bt_291_1388 rfl hS (by omega) (by omega) ?_
  refine bl_cv (pc' := 1392) (st := []) (args := [.int (xs (v1542).toInt.toNat)]) (c := 0) (ci := 8) bt_291_1389 rfl rfl (by decide) (wl_o0 hL) (by decide) (Nat.succ_lt_succ (Nat.zero_lt_succ _)) rfl (Nat.le_of_ble_eq_true rfl) (Nat.le_of_ble_eq_true rfl) ?_
  refine wq_c_hold (FIN := st_FIN) (g := (291, 1392, lv, [], cb, sb)) (t := []) hSA h8 hL (Nat.le_of_ble_eq_true rfl) (fun h1544 r1545 hL1546 K1549 F1547 Ka1548 B1550 => ?_)
  have hR1551 := wt_RK hR K1549
  show bh_G E st_FIN ((291, 1392, lv, [.int r1545], cb, sb) :: [], h1544, none)
  refine bl_pop (pc' := 1393) bt_291_1392 rfl rfl ?_
  refine bl_ld (pc' := 1394) bt_291_1393 rfl rfl (fun _ _ _ => rfl) g2 rfl ?_
  refine bl_ld (pc' := 1395) bt_291_1394 rfl rfl (fun _ _ _ => rfl) g0 rfl ?_
  refine bl_ld (pc' := 1396) bt_291_1395 rfl rfl (fun _ _ _ => rfl) g3 rfl ?_
  refine bl_c (pc' := 1397) (n := 1) bt_291_1396 rfl rfl (fun _ _ _ => rfl) (by decide) (fun c1552 e1553 => ?_)
  refine bl_add (pc' := 1398) bt_291_1397 rfl (by omega) (by omega) (fun v1554 e1555 => ?_)
  refine bl_sc (pc' := 1399) bt_291_1398 rfl hS (by omega) (by omega) ?_
  refine bl_cv (pc' := 1402) (st := []) (args := [.int (xs (v1554).toInt.toNat)]) (c := 88) (ci := 9) bt_291_1399 rfl rfl (by decide) (wl_o88 hL1546) (by decide) (Nat.succ_lt_succ (Nat.zero_lt_succ _)) rfl (Nat.le_of_ble_eq_true rfl) (Nat.le_of_ble_eq_true rfl) ?_
  refine wq_m_hold (FIN := st_FIN) (g := (291, 1402, lv, [], cb, sb)) (t := []) hSA hL1546 (Nat.le_of_ble_eq_true rfl) (fun h1556 r1557 hL1558 K1561 F1559 Ka1560 B1562 => ?_)
  have hR1563 := wt_RK hR1551 K1561
  have ev0 : v1554 = v1542 := Int32.toInt_inj.mp (by omega)
  try rw [ev0] at B1562
  have hQ1564 := rb_hold hL hL1546 hQ F1547 Ka1548 B1550 F1559 Ka1560 B1562
  show bh_G E st_FIN ((291, 1402, lv, [.int r1557], cb, sb) :: [], h1556, none)
  refine bl_pop (pc' := 1403) bt_291_1402 rfl rfl ?_
  refine bl_go (pc' := 1452) bt_291_1403 rfl ?_
  exact kk _ _ _ hL1558 hR1563 hQ1564
set_option maxHeartbeats 40000000 in
theorem wl_k_36 {i x : Int32} {lv : mm_V} {h : mm_H} {o : Option Value} (hST : wt_ST E) (hSA : ∀ {x y : Int32} (ρ : Nat → Int32), en_SA E ρ (wl_o x y) mt_SB) (h8 : ∃ q, E.2[8]? = some q) (hS : bl_S E b n xs) (hn : n ≤ 3072) (g0 : mm_get lv 0 = some (.ref b)) (g1 : mm_get lv 1 = some (.ref (E.1 + 0))) (g2 : mm_get lv 2 = some (.ref (E.1 + 88))) (g3 : mm_get lv 3 = some (.int i)) (hi0 : 0 ≤ i.toInt) (hi5 : i.toInt + 6 ≤ (n : Int)) (hL : wl_W E wl_H x x h) (hR : wt_R x x h) (hQ : rb_R h) (kk : ∀ (h' : mm_H) (x' : Int32) (o' : Option Value), wl_W E wl_H x' x' h' → wt_R x' x' h' → rb_R h' → bh_G E st_FIN ((291, 1452, lv, [], cb, sb) :: [], h', o')) : bh_G E st_FIN ((291, 1406, lv, [], cb, sb) :: [], h, o) := by
  refine bl_ld (pc' := 1407) bt_291_1406 rfl rfl (fun _ _ _ => rfl) g1 rfl ?_
  refine bl_ld (pc' := 1408) bt_291_1407 rfl rfl (fun _ _ _ => rfl) g0 rfl ?_
  refine bl_ld (pc' := 1409) bt_291_1408 rfl rfl (fun _ _ _ => rfl) g3 rfl ?_
  refine bl_c (pc' := 1410) (n := 1) bt_291_1409 rfl rfl (fun _ _ _ => rfl) (by decide) (fun c1565 e1566 => ?_)
  refine bl_add (pc' := 1411) bt_291_1410 rfl (by omega) (by omega) (fun v1567 e1568 => ?_)
  refine bl_sc (pc' := 1412) bt_291_1411 rfl hS (by omega) (by omega) ?_
  refine bl_cv (pc' := 1415) (st := []) (args := [.int (xs (v1567).toInt.toNat)]) (c := 0) (ci := 8) bt_291_1412 rfl rfl (by decide) (wl_o0 hL) (by decide) (Nat.succ_lt_succ (Nat.zero_lt_succ _)) rfl (Nat.le_of_ble_eq_true rfl) (Nat.le_of_ble_eq_true rfl) ?_
  refine wq_c_restore (FIN := st_FIN) (g := (291, 1415, lv, [], cb, sb)) (t := []) hSA h8 hL (Nat.le_of_ble_eq_true rfl) (fun h1569 r1570 hL1571 K1574 F1572 Ka1573 B1575 => ?_)
  have hR1576 := wt_RK hR K1574
  have hQ1577 := rb_q0 hL hQ F1572 Ka1573
  show bh_G E st_FIN ((291, 1415, lv, [.int r1570], cb, sb) :: [], h1569, none)
  refine bl_pop (pc' := 1416) bt_291_1415 rfl rfl ?_
  refine bl_ld (pc' := 1417) bt_291_1416 rfl rfl (fun _ _ _ => rfl) g2 rfl ?_
  refine bl_ld (pc' := 1418) bt_291_1417 rfl rfl (fun _ _ _ => rfl) g0 rfl ?_
  refine bl_ld (pc' := 1419) bt_291_1418 rfl rfl (fun _ _ _ => rfl) g3 rfl ?_
  refine bl_c (pc' := 1420) (n := 1) bt_291_1419 rfl rfl (fun _ _ _ => rfl) (by decide) (fun c1578 e1579 => ?_)
  refine bl_add (pc' := 1421) bt_291_1420 rfl (by omega) (by omega) (fun v1580 e1581 => ?_)
  refine bl_sc (pc' := 1422) bt_291_1421 rfl hS (by omega) (by omega) ?_
  refine bl_cv (pc' := 1425) (st := []) (args := [.int (xs (v1580).toInt.toNat)]) (c := 88) (ci := 9) bt_291_1422 rfl rfl (by decide) (wl_o88 hL1571) (by decide) (Nat.succ_lt_succ (Nat.zero_lt_succ _)) rfl (Nat.le_of_ble_eq_true rfl) (Nat.le_of_ble_eq_true rfl) ?_
  refine wq_m_restore (FIN := st_FIN) (g := (291, 1425, lv, [], cb, sb)) (t := []) hSA hL1571 (Nat.le_of_ble_eq_true rfl) (fun h1582 r1583 hL1584 K1587 F1585 Ka1586 B1588 => ?_)
  have hR1589 := wt_RK hR1576 K1587
  have ev0 : v1580 = v1567 := Int32.toInt_inj.mp (by omega)
  try rw [ev0] at B1588
  have zq := rb_restore hL hQ1577 F1572 Ka1573 B1575 B1588
  have hQ1591 := rb_q0 hL1571 hQ1577 F1585 Ka1586
  show bh_G E st_FIN ((291, 1425, lv, [.int r1583], cb, sb) :: [], h1582, none)
  refine bl_pop (pc' := 1426) bt_291_1425 rfl rfl ?_
  refine bl_go (pc' := 1452) bt_291_1426 rfl ?_
  exact kk _ _ _ hL1584 hR1589 hQ1591
set_option maxHeartbeats 40000000 in
theorem wl_k_37 {i x : Int32} {lv : mm_V} {h : mm_H} {o : Option Value} (hST : wt_ST E) (hSA : ∀ {x y : Int32} (ρ : Nat → Int32), en_SA E ρ (wl_o x y) mt_SB) (h8 : ∃ q, E.2[8]? = some q) (hS : bl_S E b n xs) (hn : n ≤ 3072) (g0 : mm_get lv 0 = some (.ref b)) (g1 : mm_get lv 1 = some (.ref (E.1 + 0))) (g2 : mm_get lv 2 = some (.ref (E.1 + 88))) (g3 : mm_get lv 3 = some (.int i)) (hi0 : 0 ≤ i.toInt) (hi5 : i.toInt + 6 ≤ (n : Int)) (hL : wl_W E wl_H x x h) (hR : wt_R x x h) (hQ : rb_R h) (kk : ∀ (h' : mm_H) (x' : Int32) (o' : Option Value), wl_W E wl_H x' x' h' → wt_R x' x' h' → rb_R h' → bh_G E st_FIN ((291, 1452, lv, [], cb, sb) :: [], h', o')) : bh_G E st_FIN ((291, 1429, lv, [], cb, sb) :: [], h, o) := by
  refine bl_ld (pc' := 1430) bt_291_1429 rfl rfl (fun _ _ _ => rfl) g1 rfl ?_
  refine bl_ld (pc' := 1431) bt_291_1430 rfl rfl (fun _ _ _ => rfl) g0 rfl ?_
  refine bl_ld (pc' := 1432) bt_291_1431 rfl rfl (fun _ _ _ => rfl) g3 rfl ?_
  refine bl_c (pc' := 1433) (n := 1) bt_291_1432 rfl rfl (fun _ _ _ => rfl) (by decide) (fun c1592 e1593 => ?_)
  refine bl_add (pc' := 1434) bt_291_1433 rfl (by omega) (by omega) (fun v1594 e1595 => ?_)
  refine bl_sc (pc' := 1435) bt_291_1434 rfl hS (by omega) (by omega) ?_
  refine bl_cv (pc' := 1438) (st := []) (args := [.int (xs (v1594).toInt.toNat)]) (c := 0) (ci := 8) bt_291_1435 rfl rfl (by decide) (wl_o0 hL) (by decide) (Nat.succ_lt_succ (Nat.zero_lt_succ _)) rfl (Nat.le_of_ble_eq_true rfl) (Nat.le_of_ble_eq_true rfl) ?_
  refine wq_j (m := 227) (FIN := st_FIN) (g := (291, 1438, lv, [], cb, sb)) (t := []) (A := fun h' r => wl_W E wl_H x x h' ∧ wt_K h h') q0_k q0_a q0_h rfl (by decide) (ka_lc (ka_no (by decide)) (ka_lc ka_ti ka_ln)) hL (fun F9 k1 => wk_c_count (FIN := F9) (gs := [bp_mf]) hSA h8 hL (Nat.le_of_ble_eq_true rfl) (fun h r a b => k1 _ _ ⟨a, b⟩)) (fun h1596 r1597 ⟨hL1598, K1601⟩ F1599 Ka1600 => ?_)
  have hR1602 := wt_RK hR K1601
  have hQ1603 := rb_q0 hL hQ F1599 Ka1600
  show bh_G E st_FIN ((291, 1438, lv, [.int r1597], cb, sb) :: [], h1596, none)
  refine bl_pop (pc' := 1439) bt_291_1438 rfl rfl ?_
  refine bl_ld (pc' := 1440) bt_291_1439 rfl rfl (fun _ _ _ => rfl) g2 rfl ?_
  refine bl_ld (pc' := 1441) bt_291_1440 rfl rfl (fun _ _ _ => rfl) g0 rfl ?_
  refine bl_ld (pc' := 1442) bt_291_1441 rfl rfl (fun _ _ _ => rfl) g3 rfl ?_
  refine bl_c (pc' := 1443) (n := 1) bt_291_1442 rfl rfl (fun _ _ _ => rfl) (by decide) (fun c1604 e1605 => ?_)
  refine bl_add (pc' := 1444) bt_291_1443 rfl (by omega) (by omega) (fun v1606 e1607 => ?_)
  refine bl_sc (pc' := 1445) bt_291_1444 rfl hS (by omega) (by omega) ?_
  refine bl_cv (pc' := 1448) (st := []) (args := [.int (xs (v1606).toInt.toNat)]) (c := 88) (ci := 9) bt_291_1445 rfl rfl (by decide) (wl_o88 hL1598) (by decide) (Nat.succ_lt_succ (Nat.zero_lt_succ _)) rfl (Nat.le_of_ble_eq_true rfl) (Nat.le_of_ble_eq_true rfl) ?_
  refine wq_j (m := 18) (FIN := st_FIN) (g := (291, 1448, lv, [], cb, sb)) (t := []) (A := fun h' r => wl_W E wl_H x x h' ∧ wt_K h1596 h') q0_k q0_a q0_h rfl (by decide) (ka_lc (ka_no (by decide)) (ka_lc ka_ti ka_ln)) hL1598 (fun F9 k1 => wk_m_count (FIN := F9) (gs := [bp_mf]) hSA hL1598 (Nat.le_of_ble_eq_true rfl) (fun h r a b => k1 _ _ ⟨a, b⟩)) (fun h1608 r1609 ⟨hL1610, K1613⟩ F1611 Ka1612 => ?_)
  have hR1614 := wt_RK hR1602 K1613
  have hQ1615 := rb_q0 hL1598 hQ1603 F1611 Ka1612
  show bh_G E st_FIN ((291, 1448, lv, [.int r1609], cb, sb) :: [], h1608, none)
  refine bl_pop (pc' := 1449) bt_291_1448 rfl rfl ?_
  refine bl_go (pc' := 1452) bt_291_1449 rfl ?_
  exact kk _ _ _ hL1610 hR1614 hQ1615
set_option maxHeartbeats 40000000 in
theorem wl_loop (hST : wt_ST E) (hSA : ∀ {x y : Int32} (ρ : Nat → Int32), en_SA E ρ (wl_o x y) mt_SB) (h8 : ∃ q, E.2[8]? = some q) (hS : bl_S E b n xs) (hn : n ≤ 3072) : ∀ N : Nat, ∀ (h : mm_H) (x : Int32) (lv : mm_V) (o : Option Value) (i : Int32), mm_get lv 0 = some (.ref b) → mm_get lv 1 = some (.ref (E.1 + 0)) → mm_get lv 2 = some (.ref (E.1 + 88)) → mm_get lv 3 = some (.int i) → 0 ≤ i.toInt → (n : Int) - i.toInt < N → wl_W E wl_H x x h → wt_R x x h → rb_R h → bh_G E st_FIN ((291, 18, lv, [], cb, sb) :: [], h, o) := by
  intro N
  induction N with
  | zero =>
    intro h x lv o i g0 g1 g2 g3 hi0 hN hL hR hQ
    refine bl_ld (pc' := 19) bt_291_18 rfl rfl (fun _ _ _ => rfl) g3 rfl ?_
    refine bl_ld (pc' := 20) bt_291_19 rfl rfl (fun _ _ _ => rfl) g0 rfl ?_
    refine bl_al (pc' := 21) bt_291_20 rfl hS hn (fun v1616 e1617 => ?_)
    refine bl_c (pc' := 23) (n := 6) bt_291_21 rfl rfl (fun _ _ _ => rfl) (by decide) (fun c1618 e1619 => ?_)
    refine bl_sub (pc' := 24) bt_291_23 rfl (by omega) (by omega) (fun v1620 e1621 => ?_)
    refine bl_ic (pc' := 27) (pt := 1458) bt_291_24 rfl rfl (fun k1622 => ?_) (fun k1622 => ?_)
    · replace k1622 : (v1620).toInt < (i).toInt := k1622
      refine bl_c (pc' := 1459) (n := 1) bt_291_1458 rfl rfl (fun _ _ _ => rfl) (by decide) (fun c e => ?_)
      have ec : c = 1 := Int32.toInt_inj.mp (by rw [e]; rfl)
      subst ec
      refine en_good_step (c' := ([], h, some (.int 1))) ?_ ⟨0, _, rfl, h, rfl⟩
      have e9 : mm_ans 2 1 [.int (1 : Int32)] = some (some (.int 1)) := by
        unfold mm_ans
        simp
      simp only [mm_stp, bt_291_1459, mm_inv, mm_rtn, e9]
      rfl
    · replace k1622 : ¬ ((v1620).toInt < (i).toInt) := k1622
      refine bl_ld (pc' := 28) bt_291_27 rfl rfl (fun _ _ _ => rfl) g0 rfl ?_
      refine bl_ld (pc' := 29) bt_291_28 rfl rfl (fun _ _ _ => rfl) g3 rfl ?_
      refine bl_sc (pc' := 30) bt_291_29 rfl hS (by omega) (by omega) ?_
      refine bl_c (pc' := 32) (n := 63) bt_291_30 rfl rfl (fun _ _ _ => rfl) (by decide) (fun c1623 e1624 => ?_)
      refine bl_andA (pc' := 33) bt_291_32 rfl (fun v1625 => ?_)
      exfalso
      omega
  | succ N ih =>
    intro h x lv o i g0 g1 g2 g3 hi0 hN hL hR hQ
    refine bl_ld (pc' := 19) bt_291_18 rfl rfl (fun _ _ _ => rfl) g3 rfl ?_
    refine bl_ld (pc' := 20) bt_291_19 rfl rfl (fun _ _ _ => rfl) g0 rfl ?_
    refine bl_al (pc' := 21) bt_291_20 rfl hS hn (fun v1616 e1617 => ?_)
    refine bl_c (pc' := 23) (n := 6) bt_291_21 rfl rfl (fun _ _ _ => rfl) (by decide) (fun c1618 e1619 => ?_)
    refine bl_sub (pc' := 24) bt_291_23 rfl (by omega) (by omega) (fun v1620 e1621 => ?_)
    refine bl_ic (pc' := 27) (pt := 1458) bt_291_24 rfl rfl (fun k1622 => ?_) (fun k1622 => ?_)
    · replace k1622 : (v1620).toInt < (i).toInt := k1622
      refine bl_c (pc' := 1459) (n := 1) bt_291_1458 rfl rfl (fun _ _ _ => rfl) (by decide) (fun c e => ?_)
      have ec : c = 1 := Int32.toInt_inj.mp (by rw [e]; rfl)
      subst ec
      refine en_good_step (c' := ([], h, some (.int 1))) ?_ ⟨0, _, rfl, h, rfl⟩
      have e9 : mm_ans 2 1 [.int (1 : Int32)] = some (some (.int 1)) := by
        unfold mm_ans
        simp
      simp only [mm_stp, bt_291_1459, mm_inv, mm_rtn, e9]
      rfl
    · replace k1622 : ¬ ((v1620).toInt < (i).toInt) := k1622
      refine bl_ld (pc' := 28) bt_291_27 rfl rfl (fun _ _ _ => rfl) g0 rfl ?_
      refine bl_ld (pc' := 29) bt_291_28 rfl rfl (fun _ _ _ => rfl) g3 rfl ?_
      refine bl_sc (pc' := 30) bt_291_29 rfl hS (by omega) (by omega) ?_
      refine bl_c (pc' := 32) (n := 63) bt_291_30 rfl rfl (fun _ _ _ => rfl) (by decide) (fun c1623 e1624 => ?_)
      refine bl_andA (pc' := 33) bt_291_32 rfl (fun v1625 => ?_)
      have kk : ∀ (h' : mm_H) (x2 : Int32) (o' : Option Value), wl_W E wl_H x2 x2 h' → wt_R x2 x2 h' → rb_R h' → bh_G E st_FIN ((291, 1452, lv, [], cb, sb) :: [], h', o') := by
        intro h2 x2 o2 hL2 hR2 hQ2
        refine bl_inc (pc' := 1455) bt_291_1452 rfl (by decide) g3 (by decide) (by omega) (by omega) (fun lv2 i2 F gg e2 => ?_)
        have gg0 := F 0 (.ref b) g0 (by decide) (Or.inl rfl)
        have gg1 := F 1 (.ref (E.1 + 0)) g1 (by decide) (Or.inl rfl)
        have gg2 := F 2 (.ref (E.1 + 88)) g2 (by decide) (Or.inl rfl)
        refine bl_go (pc' := 18) bt_291_1455 rfl ?_
        exact ih _ _ _ _ _ gg0 gg1 gg2 gg (by omega) (by omega) hL2 hR2 hQ2
      by_cases k_0 : (v1625).toInt = 0
      · exact bl_sw (pc' := 200) (off := 167) bt_291_33 (by rw [k_0]; rfl) rfl (wl_k_0 hST hSA h8 hS hn g0 g1 g2 g3 (by omega) (by omega) hL hR hQ kk)
      by_cases k_1 : (v1625).toInt = 1
      · exact bl_sw (pc' := 263) (off := 230) bt_291_33 (by rw [k_1]; rfl) rfl (wl_k_1 hST hSA h8 hS hn g0 g1 g2 g3 (by omega) (by omega) hL hR hQ kk)
      by_cases k_2 : (v1625).toInt = 2
      · exact bl_sw (pc' := 286) (off := 253) bt_291_33 (by rw [k_2]; rfl) rfl (wl_k_2 hST hSA h8 hS hn g0 g1 g2 g3 (by omega) (by omega) hL hR hQ kk)
      by_cases k_3 : (v1625).toInt = 3
      · exact bl_sw (pc' := 299) (off := 266) bt_291_33 (by rw [k_3]; rfl) rfl (wl_k_3 hST hSA h8 hS hn g0 g1 g2 g3 (by omega) (by omega) hL hR hQ kk)
      by_cases k_4 : (v1625).toInt = 4
      · exact bl_sw (pc' := 312) (off := 279) bt_291_33 (by rw [k_4]; rfl) rfl (wl_k_4 hST hSA h8 hS hn g0 g1 g2 g3 (by omega) (by omega) hL hR hQ kk)
      by_cases k_5 : (v1625).toInt = 5
      · exact bl_sw (pc' := 345) (off := 312) bt_291_33 (by rw [k_5]; rfl) rfl (wl_k_5 hST hSA h8 hS hn g0 g1 g2 g3 (by omega) (by omega) hL hR hQ kk)
      by_cases k_6 : (v1625).toInt = 6
      · exact bl_sw (pc' := 368) (off := 335) bt_291_33 (by rw [k_6]; rfl) rfl (wl_k_6 hST hSA h8 hS hn g0 g1 g2 g3 (by omega) (by omega) hL hR hQ kk)
      by_cases k_7 : (v1625).toInt = 7
      · exact bl_sw (pc' := 391) (off := 358) bt_291_33 (by rw [k_7]; rfl) rfl (wl_k_7 hST hSA h8 hS hn g0 g1 g2 g3 (by omega) (by omega) hL hR hQ kk)
      by_cases k_8 : (v1625).toInt = 8
      · exact bl_sw (pc' := 440) (off := 407) bt_291_33 (by rw [k_8]; rfl) rfl (wl_k_8 hST hSA h8 hS hn g0 g1 g2 g3 (by omega) (by omega) hL hR hQ kk)
      by_cases k_9 : (v1625).toInt = 9
      · exact bl_sw (pc' := 493) (off := 460) bt_291_33 (by rw [k_9]; rfl) rfl (wl_k_9 hST hSA h8 hS hn g0 g1 g2 g3 (by omega) (by omega) hL hR hQ kk)
      by_cases k_10 : (v1625).toInt = 10
      · exact bl_sw (pc' := 516) (off := 483) bt_291_33 (by rw [k_10]; rfl) rfl (wl_k_10 hST hSA h8 hS hn g0 g1 g2 g3 (by omega) (by omega) hL hR hQ kk)
      by_cases k_11 : (v1625).toInt = 11
      · exact bl_sw (pc' := 529) (off := 496) bt_291_33 (by rw [k_11]; rfl) rfl (wl_k_11 hST hSA h8 hS hn g0 g1 g2 g3 (by omega) (by omega) hL hR hQ kk)
      by_cases k_12 : (v1625).toInt = 12
      · exact bl_sw (pc' := 588) (off := 555) bt_291_33 (by rw [k_12]; rfl) rfl (wl_k_12 hST hSA h8 hS hn g0 g1 g2 g3 (by omega) (by omega) hL hR hQ kk)
      by_cases k_13 : (v1625).toInt = 13
      · exact bl_sw (pc' := 611) (off := 578) bt_291_33 (by rw [k_13]; rfl) rfl (wl_k_13 hST hSA h8 hS hn g0 g1 g2 g3 (by omega) (by omega) hL hR hQ kk)
      by_cases k_14 : (v1625).toInt = 14
      · exact bl_sw (pc' := 670) (off := 637) bt_291_33 (by rw [k_14]; rfl) rfl (wl_k_14 hST hSA h8 hS hn g0 g1 g2 g3 (by omega) (by omega) hL hR hQ kk)
      by_cases k_15 : (v1625).toInt = 15
      · exact bl_sw (pc' := 729) (off := 696) bt_291_33 (by rw [k_15]; rfl) rfl (wl_k_15 hST hSA h8 hS hn g0 g1 g2 g3 (by omega) (by omega) hL hR hQ kk)
      by_cases k_16 : (v1625).toInt = 16
      · exact bl_sw (pc' := 788) (off := 755) bt_291_33 (by rw [k_16]; rfl) rfl (wl_k_16 hST hSA h8 hS hn g0 g1 g2 g3 (by omega) (by omega) hL hR hQ kk)
      by_cases k_17 : (v1625).toInt = 17
      · exact bl_sw (pc' := 821) (off := 788) bt_291_33 (by rw [k_17]; rfl) rfl (wl_k_17 hST hSA h8 hS hn g0 g1 g2 g3 (by omega) (by omega) hL hR hQ kk)
      by_cases k_18 : (v1625).toInt = 18
      · exact bl_sw (pc' := 870) (off := 837) bt_291_33 (by rw [k_18]; rfl) rfl (wl_k_18 hST hSA h8 hS hn g0 g1 g2 g3 (by omega) (by omega) hL hR hQ kk)
      by_cases k_19 : (v1625).toInt = 19
      · exact bl_sw (pc' := 893) (off := 860) bt_291_33 (by rw [k_19]; rfl) rfl (wl_k_19 hST hSA h8 hS hn g0 g1 g2 g3 (by omega) (by omega) hL hR hQ kk)
      by_cases k_20 : (v1625).toInt = 20
      · exact bl_sw (pc' := 916) (off := 883) bt_291_33 (by rw [k_20]; rfl) rfl (wl_k_20 hST hSA h8 hS hn g0 g1 g2 g3 (by omega) (by omega) hL hR hQ kk)
      by_cases k_21 : (v1625).toInt = 21
      · exact bl_sw (pc' := 955) (off := 922) bt_291_33 (by rw [k_21]; rfl) rfl (wl_k_21 hST hSA h8 hS hn g0 g1 g2 g3 (by omega) (by omega) hL hR hQ kk)
      by_cases k_22 : (v1625).toInt = 22
      · exact bl_sw (pc' := 988) (off := 955) bt_291_33 (by rw [k_22]; rfl) rfl (wl_k_22 hST hSA h8 hS hn g0 g1 g2 g3 (by omega) (by omega) hL hR hQ kk)
      by_cases k_23 : (v1625).toInt = 23
      · exact bl_sw (pc' := 1031) (off := 998) bt_291_33 (by rw [k_23]; rfl) rfl (wl_k_23 hST hSA h8 hS hn g0 g1 g2 g3 (by omega) (by omega) hL hR hQ kk)
      by_cases k_24 : (v1625).toInt = 24
      · exact bl_sw (pc' := 1054) (off := 1021) bt_291_33 (by rw [k_24]; rfl) rfl (wl_k_24 hST hSA h8 hS hn g0 g1 g2 g3 (by omega) (by omega) hL hR hQ kk)
      by_cases k_25 : (v1625).toInt = 25
      · exact bl_sw (pc' := 1087) (off := 1054) bt_291_33 (by rw [k_25]; rfl) rfl (wl_k_25 hST hSA h8 hS hn g0 g1 g2 g3 (by omega) (by omega) hL hR hQ kk)
      by_cases k_26 : (v1625).toInt = 26
      · exact bl_sw (pc' := 1120) (off := 1087) bt_291_33 (by rw [k_26]; rfl) rfl (wl_k_26 hST hSA h8 hS hn g0 g1 g2 g3 (by omega) (by omega) hL hR hQ kk)
      by_cases k_27 : (v1625).toInt = 27
      · exact bl_sw (pc' := 1133) (off := 1100) bt_291_33 (by rw [k_27]; rfl) rfl (wl_k_27 hST hSA h8 hS hn g0 g1 g2 g3 (by omega) (by omega) hL hR hQ kk)
      by_cases k_28 : (v1625).toInt = 28
      · exact bl_sw (pc' := 1166) (off := 1133) bt_291_33 (by rw [k_28]; rfl) rfl (wl_k_28 hST hSA h8 hS hn g0 g1 g2 g3 (by omega) (by omega) hL hR hQ kk)
      by_cases k_29 : (v1625).toInt = 29
      · exact bl_sw (pc' := 1199) (off := 1166) bt_291_33 (by rw [k_29]; rfl) rfl (wl_k_29 hST hSA h8 hS hn g0 g1 g2 g3 (by omega) (by omega) hL hR hQ kk)
      by_cases k_30 : (v1625).toInt = 30
      · exact bl_sw (pc' := 1222) (off := 1189) bt_291_33 (by rw [k_30]; rfl) rfl (wl_k_30 hST hSA h8 hS hn g0 g1 g2 g3 (by omega) (by omega) hL hR hQ kk)
      by_cases k_31 : (v1625).toInt = 31
      · exact bl_sw (pc' := 1281) (off := 1248) bt_291_33 (by rw [k_31]; rfl) rfl (wl_k_31 hST hSA h8 hS hn g0 g1 g2 g3 (by omega) (by omega) hL hR hQ kk)
      by_cases k_32 : (v1625).toInt = 32
      · exact bl_sw (pc' := 1304) (off := 1271) bt_291_33 (by rw [k_32]; rfl) rfl (wl_k_32 hST hSA h8 hS hn g0 g1 g2 g3 (by omega) (by omega) hL hR hQ kk)
      by_cases k_33 : (v1625).toInt = 33
      · exact bl_sw (pc' := 1337) (off := 1304) bt_291_33 (by rw [k_33]; rfl) rfl (wl_k_33 hST hSA h8 hS hn g0 g1 g2 g3 (by omega) (by omega) hL hR hQ kk)
      by_cases k_34 : (v1625).toInt = 34
      · exact bl_sw (pc' := 1370) (off := 1337) bt_291_33 (by rw [k_34]; rfl) rfl (wl_k_34 hST hSA h8 hS hn g0 g1 g2 g3 (by omega) (by omega) hL hR hQ kk)
      by_cases k_35 : (v1625).toInt = 35
      · exact bl_sw (pc' := 1383) (off := 1350) bt_291_33 (by rw [k_35]; rfl) rfl (wl_k_35 hST hSA h8 hS hn g0 g1 g2 g3 (by omega) (by omega) hL hR hQ kk)
      by_cases k_36 : (v1625).toInt = 36
      · exact bl_sw (pc' := 1406) (off := 1373) bt_291_33 (by rw [k_36]; rfl) rfl (wl_k_36 hST hSA h8 hS hn g0 g1 g2 g3 (by omega) (by omega) hL hR hQ kk)
      by_cases k_37 : (v1625).toInt = 37
      · exact bl_sw (pc' := 1429) (off := 1396) bt_291_33 (by rw [k_37]; rfl) rfl (wl_k_37 hST hSA h8 hS hn g0 g1 g2 g3 (by omega) (by omega) hL hR hQ kk)
      refine bl_sw (pc' := 1452) (off := 1419) bt_291_33 (if_pos (by omega)) rfl ?_
      exact kk _ _ _ hL hR hQ
end BLL
