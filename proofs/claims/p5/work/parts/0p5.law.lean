/-! THE LAW, STEP BY STEP (wip/p3/mkj5.py) -/
section BL
variable {E : mm_E} {FIN : mm_C → Prop} {h : mm_H} {m pc pc' pc0 len a b wd nL cb sb : Nat} {dd : mm_M} {z : Int} {ins : Instr} {lv lv' : mm_V} {st st' r : List Value} {gs : List mm_F} {o : Option Value}
/-- a simple step -/
theorem bl_s1 {h' : mm_H} (hat : mm_at mt_P m pc = some ((pc0, len, ins, a, b, z, wd), nL, dd)) (hi : mm_inv ins = none) (hr : mm_rtn ins = none) (hx : mm_ex E mt_kds nL ins len a b z pc lv st cb sb h = some (pc', lv', st', cb, sb, h')) (g : bh_G E FIN ((m, pc', lv', st', cb, sb) :: gs, h', none)) : bh_G E FIN ((m, pc, lv, st, cb, sb) :: gs, h, o) := by
  obtain ⟨np, kd, ci, rk, mc, ms⟩ := dd
  exact en_good_step (by simp only [mm_stp, hat, hi, hr, hx]) g
theorem bl_ld {kd i : Nat} {v : Value} (hat : mm_at mt_P m pc = some ((pc0, len, ins, a, b, z, wd), nL, dd)) (hi : mm_inv ins = none) (hr : mm_rtn ins = none) (hl : ∀ (lv : mm_V) (st : List Value) (h : mm_H), mm_ex E mt_kds nL ins len a b z pc lv st cb sb h = mm_load lv st cb sb h pc' kd i) (hv : mm_get lv i = some v) (hk : mm_kind v = kd) (g : bh_G E FIN ((m, pc', lv, v :: st, cb, sb) :: gs, h, none)) : bh_G E FIN ((m, pc, lv, st, cb, sb) :: gs, h, o) := by
  refine bl_s1 hat hi hr ?_ g
  rw [hl]
  unfold mm_load
  rw [hv]
  simp only []
  rw [if_pos hk]
theorem bl_inc {i : Nat} {n : Int} {x : Int32} (hat : mm_at mt_P m pc = some ((pc0, len, .iinc i n, a, b, z, wd), nL, dd)) (hp : pc + len = pc') (hil : i < nL) (hv : mm_get lv i = some (.int x)) (h1 : -2147483648 ≤ n ∧ n < 2147483648) (h2 : -2147483648 ≤ x.toInt + n) (h3 : x.toInt + n < 2147483648) (g : ∀ (lv' : mm_V) (y : Int32), (∀ (j : Nat) (w : Value), mm_get lv j = some w → j ≠ i → (w.category = 1 ∨ j + 1 ≠ i) → mm_get lv' j = some w) → mm_get lv' i = some (.int y) → y.toInt = x.toInt + n → bh_G E FIN ((m, pc', lv', st, cb, sb) :: gs, h, none)) : bh_G E FIN ((m, pc, lv, st, cb, sb) :: gs, h, o) := by
  refine bl_s1 hat rfl rfl (lv' := mm_p1 lv i (.int (x + Int32.ofInt n))) (st' := st) (h' := h) ?_ (g _ _ (fun j w h1 h2 h3 => bh_p1 h1 h2 h3) bh_h0 ?_)
  · simp only [mm_ex, hv, if_pos hil, hp]
  · have e1 : (Int32.ofInt n).toInt = n := Int32.toInt_ofInt_of_le (by omega) (by omega)
    rw [Int32.toInt_add, e1]
    exact Int.bmod_eq_of_le (by omega) (by omega)
theorem bl_c {c : Int32} {n : Int} (hat : mm_at mt_P m pc = some ((pc0, len, ins, a, b, z, wd), nL, dd)) (hi : mm_inv ins = none) (hr : mm_rtn ins = none) (hl : ∀ (lv : mm_V) (st : List Value) (h : mm_H), mm_ex E mt_kds nL ins len a b z pc lv st cb sb h = some (pc', lv, .int c :: st, cb, sb, h)) (hc : c.toInt = n) (g : ∀ v : Int32, v.toInt = n → bh_G E FIN ((m, pc', lv, .int v :: st, cb, sb) :: gs, h, none)) : bh_G E FIN ((m, pc, lv, st, cb, sb) :: gs, h, o) :=
  bl_s1 hat hi hr (hl lv st h) (g c hc)
theorem bl_bin {x y v : Int32} {f : Int32 → Int32 → Option Int32} (hat : mm_at mt_P m pc = some ((pc0, len, ins, a, b, z, wd), nL, dd)) (hi : mm_inv ins = none) (hr : mm_rtn ins = none) (hl : ∀ (lv : mm_V) (st : List Value) (h : mm_H), mm_ex E mt_kds nL ins len a b z pc lv st cb sb h = mm_bin lv st cb sb h pc' f) (hf : f x y = some v) (g : bh_G E FIN ((m, pc', lv, .int v :: st, cb, sb) :: gs, h, none)) : bh_G E FIN ((m, pc, lv, .int y :: .int x :: st, cb, sb) :: gs, h, o) := by
  refine bl_s1 hat hi hr ?_ g
  rw [hl]
  simp only [mm_bin, hf, Option.map_some]
theorem bl_add {x y : Int32} (hat : mm_at mt_P m pc = some ((pc0, len, .iadd, a, b, z, wd), nL, dd)) (hp : pc + len = pc') (h1 : -2147483648 ≤ x.toInt + y.toInt) (h2 : x.toInt + y.toInt < 2147483648) (g : ∀ v : Int32, v.toInt = x.toInt + y.toInt → bh_G E FIN ((m, pc', lv, .int v :: st, cb, sb) :: gs, h, none)) : bh_G E FIN ((m, pc, lv, .int y :: .int x :: st, cb, sb) :: gs, h, o) := by
  subst hp
  refine bl_bin (v := x + y) hat rfl rfl (fun _ _ _ => rfl) rfl (g _ ?_)
  rw [Int32.toInt_add]
  exact Int.bmod_eq_of_le (by omega) (by omega)
theorem bl_sub {x y : Int32} (hat : mm_at mt_P m pc = some ((pc0, len, .isub, a, b, z, wd), nL, dd)) (hp : pc + len = pc') (h1 : -2147483648 ≤ x.toInt - y.toInt) (h2 : x.toInt - y.toInt < 2147483648) (g : ∀ v : Int32, v.toInt = x.toInt - y.toInt → bh_G E FIN ((m, pc', lv, .int v :: st, cb, sb) :: gs, h, none)) : bh_G E FIN ((m, pc, lv, .int y :: .int x :: st, cb, sb) :: gs, h, o) := by
  subst hp
  refine bl_bin (v := x - y) hat rfl rfl (fun _ _ _ => rfl) rfl (g _ ?_)
  rw [Int32.toInt_sub]
  exact Int.bmod_eq_of_le (by omega) (by omega)
theorem bl_andA {x y : Int32} (hat : mm_at mt_P m pc = some ((pc0, len, .iand, a, b, z, wd), nL, dd)) (hp : pc + len = pc') (g : ∀ v : Int32, bh_G E FIN ((m, pc', lv, .int v :: st, cb, sb) :: gs, h, none)) : bh_G E FIN ((m, pc, lv, .int y :: .int x :: st, cb, sb) :: gs, h, o) := by
  subst hp
  exact bl_bin (v := x &&& y) hat rfl rfl (fun _ _ _ => rfl) rfl (g _)
theorem bl_jmp {off : Int} {lv : mm_V} {st : List Value} {h : mm_H} (hq : (pc : Int) + off = (pc' : Int)) : mm_jump lv st cb sb h pc off = some (pc', lv, st, cb, sb, h) := by
  unfold mm_jump
  rw [hq, if_pos (Int.natCast_nonneg _), Int.toNat_natCast]
theorem bl_go {off : Int} (hat : mm_at mt_P m pc = some ((pc0, len, .goto off, a, b, z, wd), nL, dd)) (hq : (pc : Int) + off = (pc' : Int)) (g : bh_G E FIN ((m, pc', lv, st, cb, sb) :: gs, h, none)) : bh_G E FIN ((m, pc, lv, st, cb, sb) :: gs, h, o) :=
  bl_s1 hat rfl rfl (bl_jmp hq) g
theorem bl_ic {k : Jvm.ClassFile.Cond} {off : Int} {x y : Int32} {pt : Nat} (hat : mm_at mt_P m pc = some ((pc0, len, .if_icmp k off, a, b, z, wd), nL, dd)) (hp : pc + len = pc') (hq : (pc : Int) + off = (pt : Int)) (g1 : bh_cd k x y → bh_G E FIN ((m, pt, lv, st, cb, sb) :: gs, h, none)) (g2 : ¬ bh_cd k x y → bh_G E FIN ((m, pc', lv, st, cb, sb) :: gs, h, none)) : bh_G E FIN ((m, pc, lv, .int y :: .int x :: st, cb, sb) :: gs, h, o) := by
  subst hp
  by_cases hc : mm_cond k x y = true
  · refine bl_s1 hat rfl rfl ?_ (g1 (bh_cd_iff.mp hc))
    simp only [mm_ex]
    rw [if_pos hc]
    exact bl_jmp hq
  · refine bl_s1 hat rfl rfl ?_ (g2 (fun e => hc (bh_cd_iff.mpr e)))
    simp only [mm_ex]
    rw [if_neg hc]
theorem bl_i0 {k : Jvm.ClassFile.Cond} {off : Int} {x : Int32} {pt : Nat} (hat : mm_at mt_P m pc = some ((pc0, len, .ifCond k off, a, b, z, wd), nL, dd)) (hp : pc + len = pc') (hq : (pc : Int) + off = (pt : Int)) (g1 : bh_cd k x 0 → bh_G E FIN ((m, pt, lv, st, cb, sb) :: gs, h, none)) (g2 : ¬ bh_cd k x 0 → bh_G E FIN ((m, pc', lv, st, cb, sb) :: gs, h, none)) : bh_G E FIN ((m, pc, lv, .int x :: st, cb, sb) :: gs, h, o) := by
  subst hp
  by_cases hc : mm_cond k x 0 = true
  · refine bl_s1 hat rfl rfl ?_ (g1 (bh_cd_iff.mp hc))
    simp only [mm_ex]
    rw [if_pos hc]
    exact bl_jmp hq
  · refine bl_s1 hat rfl rfl ?_ (g2 (fun e => hc (bh_cd_iff.mpr e)))
    simp only [mm_ex]
    rw [if_neg hc]
theorem bl_pop {v : Value} (hat : mm_at mt_P m pc = some ((pc0, len, .pop, a, b, z, wd), nL, dd)) (hp : pc + len = pc') (hv : v.category = 1) (g : bh_G E FIN ((m, pc', lv, st, cb, sb) :: gs, h, none)) : bh_G E FIN ((m, pc, lv, v :: st, cb, sb) :: gs, h, o) := by
  subst hp
  refine bl_s1 hat rfl rfl ?_ g
  simp only [mm_ex]
  rw [if_pos hv]
/-- the script's array -/
def bl_S (E : mm_E) (b n : Nat) (xs : Nat → Int32) : Prop := b < E.1 ∧ ∃ (q : Nat) (f : Nat → Int32), mm_stat E b = some (q, n, f) ∧ ∀ j, j < n → f j = xs j
theorem bl_sc {b n : Nat} {xs : Nat → Int32} {a9 b9 : Nat} {I : Int32} (hat : mm_at mt_P m pc = some ((pc0, len, .iaload, a9, b9, z, wd), nL, dd)) (hp : pc + len = pc') (hS : bl_S E b n xs) (h1 : 0 ≤ I.toInt) (h2 : I.toInt < (n : Int)) (g : bh_G E FIN ((m, pc', lv, .int (xs I.toInt.toNat) :: st, cb, sb) :: gs, h, none)) : bh_G E FIN ((m, pc, lv, .int I :: .ref b :: st, cb, sb) :: gs, h, o) := by
  subst hp
  obtain ⟨hb, q, f, e1, e2⟩ := hS
  refine bl_s1 hat rfl rfl ?_ g
  have ec : mm_cell E h b = none := if_neg (Nat.not_le.mpr hb)
  have ej : f I.toNatClampNeg = xs I.toInt.toNat := e2 I.toInt.toNat (by omega)
  simp only [mm_ex, mm_ald, ec, if_true, e1]
  rw [if_pos (bh_inr h1 h2), ej]
theorem bl_al {b n : Nat} {xs : Nat → Int32} {b9 : Nat} (hat : mm_at mt_P m pc = some ((pc0, len, .arraylength, 0, b9, z, wd), nL, dd)) (hp : pc + len = pc') (hS : bl_S E b n xs) (hn : n ≤ 3072) (g : ∀ v : Int32, v.toInt = (n : Int) → bh_G E FIN ((m, pc', lv, .int v :: st, cb, sb) :: gs, h, none)) : bh_G E FIN ((m, pc, lv, .ref b :: st, cb, sb) :: gs, h, o) := by
  subst hp
  obtain ⟨hb, q, f, e1, e2⟩ := hS
  refine bl_s1 hat rfl rfl ?_ (g (Int32.ofNat n) (Int32.toInt_ofNat_of_lt (by omega)))
  have ec : mm_cell E h b = none := if_neg (Nat.not_le.mpr hb)
  simp only [mm_ex, mm_alen, ec, if_true, e1]
theorem bl_cv {args : List Value} {x np nLk rk c ci a9 : Nat} {cs : List (List mm_I)} {K : Nat} (hat : mm_at mt_P m pc = some ((pc0, len, .invokevirtual x, K, a9, z, wd), nL, dd)) (hp : pc + len = pc') (hK : mt_P[K]? = some (cs, nLk, np, 1, ci, rk, 0, 0)) (hK2 : ¬ K < 2) (hO : ∃ fs : List Value, h[c]? = some (.inr (ci, fs))) (hci : ci ≠ 90) (hg : gs.length + 1 < 1000) (hn : args.length = np) (hc : (st.map fun v => v.category).sum ≤ 8) (hs : (lg_sl (.ref (E.1 + c) :: args.reverse)).length ≤ nLk) (g : bh_G E FIN ((K, 0, lv_args 0 (.ref (E.1 + c) :: args.reverse), [], 0, 0) :: (m, pc', lv, st, cb, sb) :: gs, h, none)) : bh_G E FIN ((m, pc, lv, args ++ .ref (E.1 + c) :: st, cb, sb) :: gs, h, o) := by
  subst hp
  subst hn
  obtain ⟨fs, a2⟩ := hO
  obtain ⟨np, kd, ci2, rk2, mc, ms⟩ := dd
  refine en_good_step (c' := ((K, 0, lv_args 0 (.ref (E.1 + c) :: args.reverse), [], 0, 0) :: (m, pc + len, lv, st, cb, sb) :: gs, h, none)) ?_ g
  have e1 : (args ++ .ref (E.1 + c) :: st).drop args.length = .ref (E.1 + c) :: st := List.drop_left
  have e2 : (args ++ .ref (E.1 + c) :: st).take args.length = args := List.take_left
  have e3 : args.length ≤ (args ++ Value.ref (E.1 + c) :: st).length := by
    rw [List.length_append]
    exact Nat.le_add_right _ _
  simp only [mm_stp, hat, mm_inv, if_neg hK2, mm_call, hK]
  rw [if_pos ⟨trivial, hg, Nat.zero_le _, Nat.zero_le _, e3⟩, e1, e2]
  have hr : mm_recv E h 1 ci (.ref (E.1 + c) :: st) = some ([.ref (E.1 + c)], st) := by
    have e0 : mm_cell E h (E.1 + c) = some (.inr (ci, fs)) := by rw [bh_cell, a2]
    generalize E.1 + c = r9 at e0
    simp [mm_recv, e0, hci]
  rw [hr]
  simp only []
  rw [if_pos ⟨hc, hs⟩]
  rfl
theorem bl_sw {x : Int32} {d lo hi : Int} {offs : Array Int} {off : Int} {a9 b9 : Nat} (hat : mm_at mt_P m pc = some ((pc0, len, .tableswitch d lo hi offs, a9, b9, z, wd), nL, dd)) (hx : (if x.toInt < lo ∨ hi < x.toInt then some d else offs[(x.toInt - lo).toNat]?) = some off) (hq : (pc : Int) + off = (pc' : Int)) (g : bh_G E FIN ((m, pc', lv, st, cb, sb) :: gs, h, none)) : bh_G E FIN ((m, pc, lv, .int x :: st, cb, sb) :: gs, h, o) := by
  refine bl_s1 hat rfl rfl ?_ g
  simp only [mm_ex, mm_sw]
  by_cases hc : x.toInt < lo ∨ hi < x.toInt
  · rw [if_pos hc] at hx
    rw [if_pos hc, Option.some.inj hx]
    exact bl_jmp hq
  · rw [if_neg hc] at hx
    rw [if_neg hc, hx]
    exact bl_jmp hq
end BL
theorem bt_291_18 : mm_at mt_P 291 18 = some ((18, 1, .iload_n 3, 0, 0, 0, 0), 4, 1, 0, 0, 2, 0, 0) := rfl
theorem bt_291_19 : mm_at mt_P 291 19 = some ((19, 1, .aload_n 0, 0, 0, 0, 0), 4, 1, 0, 0, 2, 0, 0) := rfl
theorem bt_291_20 : mm_at mt_P 291 20 = some ((20, 1, .arraylength, 0, 0, 0, 0), 4, 1, 0, 0, 2, 0, 0) := rfl
theorem bt_291_21 : mm_at mt_P 291 21 = some ((21, 2, .bipush 6, 0, 0, 0, 0), 4, 1, 0, 0, 2, 0, 0) := rfl
theorem bt_291_23 : mm_at mt_P 291 23 = some ((23, 1, .isub, 0, 0, 0, 0), 4, 1, 0, 0, 2, 0, 0) := rfl
theorem bt_291_24 : mm_at mt_P 291 24 = some ((24, 3, .if_icmp .gt 1434, 0, 0, 0, 0), 4, 1, 0, 0, 2, 0, 0) := rfl
theorem bt_291_27 : mm_at mt_P 291 27 = some ((27, 1, .aload_n 0, 0, 0, 0, 0), 4, 1, 0, 0, 2, 0, 0) := rfl
theorem bt_291_28 : mm_at mt_P 291 28 = some ((28, 1, .iload_n 3, 0, 0, 0, 0), 4, 1, 0, 0, 2, 0, 0) := rfl
theorem bt_291_29 : mm_at mt_P 291 29 = some ((29, 1, .iaload, 0, 0, 0, 0), 4, 1, 0, 0, 2, 0, 0) := rfl
theorem bt_291_30 : mm_at mt_P 291 30 = some ((30, 2, .bipush 63, 0, 0, 0, 0), 4, 1, 0, 0, 2, 0, 0) := rfl
theorem bt_291_32 : mm_at mt_P 291 32 = some ((32, 1, .iand, 0, 0, 0, 0), 4, 1, 0, 0, 2, 0, 0) := rfl
theorem bt_291_33 : mm_at mt_P 291 33 = some ((33, 167, .tableswitch 1419 0 37 #[167, 230, 253, 266, 279, 312, 335, 358, 407, 460, 483, 496, 555, 578, 637, 696, 755, 788, 837, 860, 883, 922, 955, 998, 1021, 1054, 1087, 1100, 1133, 1166, 1189, 1248, 1271, 1304, 1337, 1350, 1373, 1396], 0, 0, 0, 0), 4, 1, 0, 0, 2, 0, 0) := rfl
theorem bt_291_200 : mm_at mt_P 291 200 = some ((200, 1, .aload_n 1, 0, 0, 0, 0), 4, 1, 0, 0, 2, 0, 0) := rfl
theorem bt_291_201 : mm_at mt_P 291 201 = some ((201, 1, .aload_n 0, 0, 0, 0, 0), 4, 1, 0, 0, 2, 0, 0) := rfl
theorem bt_291_202 : mm_at mt_P 291 202 = some ((202, 1, .iload_n 3, 0, 0, 0, 0), 4, 1, 0, 0, 2, 0, 0) := rfl
theorem bt_291_203 : mm_at mt_P 291 203 = some ((203, 1, .iconst 1, 0, 0, 0, 0), 4, 1, 0, 0, 2, 0, 0) := rfl
theorem bt_291_204 : mm_at mt_P 291 204 = some ((204, 1, .iadd, 0, 0, 0, 0), 4, 1, 0, 0, 2, 0, 0) := rfl
theorem bt_291_205 : mm_at mt_P 291 205 = some ((205, 1, .iaload, 0, 0, 0, 0), 4, 1, 0, 0, 2, 0, 0) := rfl
theorem bt_291_206 : mm_at mt_P 291 206 = some ((206, 1, .aload_n 0, 0, 0, 0, 0), 4, 1, 0, 0, 2, 0, 0) := rfl
theorem bt_291_207 : mm_at mt_P 291 207 = some ((207, 1, .iload_n 3, 0, 0, 0, 0), 4, 1, 0, 0, 2, 0, 0) := rfl
theorem bt_291_208 : mm_at mt_P 291 208 = some ((208, 1, .iconst 2, 0, 0, 0, 0), 4, 1, 0, 0, 2, 0, 0) := rfl
theorem bt_291_209 : mm_at mt_P 291 209 = some ((209, 1, .iadd, 0, 0, 0, 0), 4, 1, 0, 0, 2, 0, 0) := rfl
theorem bt_291_210 : mm_at mt_P 291 210 = some ((210, 1, .iaload, 0, 0, 0, 0), 4, 1, 0, 0, 2, 0, 0) := rfl
theorem bt_291_211 : mm_at mt_P 291 211 = some ((211, 1, .aload_n 0, 0, 0, 0, 0), 4, 1, 0, 0, 2, 0, 0) := rfl
theorem bt_291_212 : mm_at mt_P 291 212 = some ((212, 1, .iload_n 3, 0, 0, 0, 0), 4, 1, 0, 0, 2, 0, 0) := rfl
theorem bt_291_213 : mm_at mt_P 291 213 = some ((213, 1, .iconst 3, 0, 0, 0, 0), 4, 1, 0, 0, 2, 0, 0) := rfl
theorem bt_291_214 : mm_at mt_P 291 214 = some ((214, 1, .iadd, 0, 0, 0, 0), 4, 1, 0, 0, 2, 0, 0) := rfl
theorem bt_291_215 : mm_at mt_P 291 215 = some ((215, 1, .iaload, 0, 0, 0, 0), 4, 1, 0, 0, 2, 0, 0) := rfl
theorem bt_291_216 : mm_at mt_P 291 216 = some ((216, 1, .aload_n 0, 0, 0, 0, 0), 4, 1, 0, 0, 2, 0, 0) := rfl
theorem bt_291_217 : mm_at mt_P 291 217 = some ((217, 1, .iload_n 3, 0, 0, 0, 0), 4, 1, 0, 0, 2, 0, 0) := rfl
theorem bt_291_218 : mm_at mt_P 291 218 = some ((218, 1, .iconst 4, 0, 0, 0, 0), 4, 1, 0, 0, 2, 0, 0) := rfl
theorem bt_291_219 : mm_at mt_P 291 219 = some ((219, 1, .iadd, 0, 0, 0, 0), 4, 1, 0, 0, 2, 0, 0) := rfl
theorem bt_291_220 : mm_at mt_P 291 220 = some ((220, 1, .iaload, 0, 0, 0, 0), 4, 1, 0, 0, 2, 0, 0) := rfl
theorem bt_291_221 : mm_at mt_P 291 221 = some ((221, 1, .aload_n 0, 0, 0, 0, 0), 4, 1, 0, 0, 2, 0, 0) := rfl
theorem bt_291_222 : mm_at mt_P 291 222 = some ((222, 1, .iload_n 3, 0, 0, 0, 0), 4, 1, 0, 0, 2, 0, 0) := rfl
theorem bt_291_223 : mm_at mt_P 291 223 = some ((223, 1, .iconst 5, 0, 0, 0, 0), 4, 1, 0, 0, 2, 0, 0) := rfl
theorem bt_291_224 : mm_at mt_P 291 224 = some ((224, 1, .iadd, 0, 0, 0, 0), 4, 1, 0, 0, 2, 0, 0) := rfl
theorem bt_291_225 : mm_at mt_P 291 225 = some ((225, 1, .iaload, 0, 0, 0, 0), 4, 1, 0, 0, 2, 0, 0) := rfl
theorem bt_291_226 : mm_at mt_P 291 226 = some ((226, 3, .invokevirtual 13, 230, 0, 0, 466), 4, 1, 0, 0, 2, 0, 0) := rfl
theorem bt_291_229 : mm_at mt_P 291 229 = some ((229, 1, .pop, 0, 0, 0, 0), 4, 1, 0, 0, 2, 0, 0) := rfl
theorem bt_291_230 : mm_at mt_P 291 230 = some ((230, 1, .aload_n 2, 0, 0, 0, 0), 4, 1, 0, 0, 2, 0, 0) := rfl
theorem bt_291_231 : mm_at mt_P 291 231 = some ((231, 1, .aload_n 0, 0, 0, 0, 0), 4, 1, 0, 0, 2, 0, 0) := rfl
theorem bt_291_232 : mm_at mt_P 291 232 = some ((232, 1, .iload_n 3, 0, 0, 0, 0), 4, 1, 0, 0, 2, 0, 0) := rfl
theorem bt_291_233 : mm_at mt_P 291 233 = some ((233, 1, .iconst 1, 0, 0, 0, 0), 4, 1, 0, 0, 2, 0, 0) := rfl
theorem bt_291_234 : mm_at mt_P 291 234 = some ((234, 1, .iadd, 0, 0, 0, 0), 4, 1, 0, 0, 2, 0, 0) := rfl
theorem bt_291_235 : mm_at mt_P 291 235 = some ((235, 1, .iaload, 0, 0, 0, 0), 4, 1, 0, 0, 2, 0, 0) := rfl
theorem bt_291_236 : mm_at mt_P 291 236 = some ((236, 1, .aload_n 0, 0, 0, 0, 0), 4, 1, 0, 0, 2, 0, 0) := rfl
theorem bt_291_237 : mm_at mt_P 291 237 = some ((237, 1, .iload_n 3, 0, 0, 0, 0), 4, 1, 0, 0, 2, 0, 0) := rfl
theorem bt_291_238 : mm_at mt_P 291 238 = some ((238, 1, .iconst 2, 0, 0, 0, 0), 4, 1, 0, 0, 2, 0, 0) := rfl
theorem bt_291_239 : mm_at mt_P 291 239 = some ((239, 1, .iadd, 0, 0, 0, 0), 4, 1, 0, 0, 2, 0, 0) := rfl
theorem bt_291_240 : mm_at mt_P 291 240 = some ((240, 1, .iaload, 0, 0, 0, 0), 4, 1, 0, 0, 2, 0, 0) := rfl
theorem bt_291_241 : mm_at mt_P 291 241 = some ((241, 1, .aload_n 0, 0, 0, 0, 0), 4, 1, 0, 0, 2, 0, 0) := rfl
theorem bt_291_242 : mm_at mt_P 291 242 = some ((242, 1, .iload_n 3, 0, 0, 0, 0), 4, 1, 0, 0, 2, 0, 0) := rfl
theorem bt_291_243 : mm_at mt_P 291 243 = some ((243, 1, .iconst 3, 0, 0, 0, 0), 4, 1, 0, 0, 2, 0, 0) := rfl
theorem bt_291_244 : mm_at mt_P 291 244 = some ((244, 1, .iadd, 0, 0, 0, 0), 4, 1, 0, 0, 2, 0, 0) := rfl
theorem bt_291_245 : mm_at mt_P 291 245 = some ((245, 1, .iaload, 0, 0, 0, 0), 4, 1, 0, 0, 2, 0, 0) := rfl
theorem bt_291_246 : mm_at mt_P 291 246 = some ((246, 1, .aload_n 0, 0, 0, 0, 0), 4, 1, 0, 0, 2, 0, 0) := rfl
theorem bt_291_247 : mm_at mt_P 291 247 = some ((247, 1, .iload_n 3, 0, 0, 0, 0), 4, 1, 0, 0, 2, 0, 0) := rfl
theorem bt_291_248 : mm_at mt_P 291 248 = some ((248, 1, .iconst 4, 0, 0, 0, 0), 4, 1, 0, 0, 2, 0, 0) := rfl
theorem bt_291_249 : mm_at mt_P 291 249 = some ((249, 1, .iadd, 0, 0, 0, 0), 4, 1, 0, 0, 2, 0, 0) := rfl
theorem bt_291_250 : mm_at mt_P 291 250 = some ((250, 1, .iaload, 0, 0, 0, 0), 4, 1, 0, 0, 2, 0, 0) := rfl
theorem bt_291_251 : mm_at mt_P 291 251 = some ((251, 1, .aload_n 0, 0, 0, 0, 0), 4, 1, 0, 0, 2, 0, 0) := rfl
theorem bt_291_252 : mm_at mt_P 291 252 = some ((252, 1, .iload_n 3, 0, 0, 0, 0), 4, 1, 0, 0, 2, 0, 0) := rfl
theorem bt_291_253 : mm_at mt_P 291 253 = some ((253, 1, .iconst 5, 0, 0, 0, 0), 4, 1, 0, 0, 2, 0, 0) := rfl
theorem bt_291_254 : mm_at mt_P 291 254 = some ((254, 1, .iadd, 0, 0, 0, 0), 4, 1, 0, 0, 2, 0, 0) := rfl
theorem bt_291_255 : mm_at mt_P 291 255 = some ((255, 1, .iaload, 0, 0, 0, 0), 4, 1, 0, 0, 2, 0, 0) := rfl
theorem bt_291_256 : mm_at mt_P 291 256 = some ((256, 3, .invokevirtual 17, 28, 0, 0, 1437), 4, 1, 0, 0, 2, 0, 0) := rfl
theorem bt_291_259 : mm_at mt_P 291 259 = some ((259, 1, .pop, 0, 0, 0, 0), 4, 1, 0, 0, 2, 0, 0) := rfl
theorem bt_291_260 : mm_at mt_P 291 260 = some ((260, 3, .goto 1192, 0, 0, 0, 0), 4, 1, 0, 0, 2, 0, 0) := rfl
theorem bt_291_263 : mm_at mt_P 291 263 = some ((263, 1, .aload_n 1, 0, 0, 0, 0), 4, 1, 0, 0, 2, 0, 0) := rfl
theorem bt_291_264 : mm_at mt_P 291 264 = some ((264, 1, .aload_n 0, 0, 0, 0, 0), 4, 1, 0, 0, 2, 0, 0) := rfl
theorem bt_291_265 : mm_at mt_P 291 265 = some ((265, 1, .iload_n 3, 0, 0, 0, 0), 4, 1, 0, 0, 2, 0, 0) := rfl
theorem bt_291_266 : mm_at mt_P 291 266 = some ((266, 1, .iconst 1, 0, 0, 0, 0), 4, 1, 0, 0, 2, 0, 0) := rfl
theorem bt_291_267 : mm_at mt_P 291 267 = some ((267, 1, .iadd, 0, 0, 0, 0), 4, 1, 0, 0, 2, 0, 0) := rfl
theorem bt_291_268 : mm_at mt_P 291 268 = some ((268, 1, .iaload, 0, 0, 0, 0), 4, 1, 0, 0, 2, 0, 0) := rfl
theorem bt_291_269 : mm_at mt_P 291 269 = some ((269, 3, .invokevirtual 18, 221, 0, 0, 474), 4, 1, 0, 0, 2, 0, 0) := rfl
theorem bt_291_272 : mm_at mt_P 291 272 = some ((272, 1, .pop, 0, 0, 0, 0), 4, 1, 0, 0, 2, 0, 0) := rfl
theorem bt_291_273 : mm_at mt_P 291 273 = some ((273, 1, .aload_n 2, 0, 0, 0, 0), 4, 1, 0, 0, 2, 0, 0) := rfl
theorem bt_291_274 : mm_at mt_P 291 274 = some ((274, 1, .aload_n 0, 0, 0, 0, 0), 4, 1, 0, 0, 2, 0, 0) := rfl
theorem bt_291_275 : mm_at mt_P 291 275 = some ((275, 1, .iload_n 3, 0, 0, 0, 0), 4, 1, 0, 0, 2, 0, 0) := rfl
theorem bt_291_276 : mm_at mt_P 291 276 = some ((276, 1, .iconst 1, 0, 0, 0, 0), 4, 1, 0, 0, 2, 0, 0) := rfl
theorem bt_291_277 : mm_at mt_P 291 277 = some ((277, 1, .iadd, 0, 0, 0, 0), 4, 1, 0, 0, 2, 0, 0) := rfl
theorem bt_291_278 : mm_at mt_P 291 278 = some ((278, 1, .iaload, 0, 0, 0, 0), 4, 1, 0, 0, 2, 0, 0) := rfl
theorem bt_291_279 : mm_at mt_P 291 279 = some ((279, 3, .invokevirtual 22, 5, 0, 0, 1445), 4, 1, 0, 0, 2, 0, 0) := rfl
theorem bt_291_282 : mm_at mt_P 291 282 = some ((282, 1, .pop, 0, 0, 0, 0), 4, 1, 0, 0, 2, 0, 0) := rfl
theorem bt_291_283 : mm_at mt_P 291 283 = some ((283, 3, .goto 1169, 0, 0, 0, 0), 4, 1, 0, 0, 2, 0, 0) := rfl
theorem bt_291_286 : mm_at mt_P 291 286 = some ((286, 1, .aload_n 1, 0, 0, 0, 0), 4, 1, 0, 0, 2, 0, 0) := rfl
theorem bt_291_287 : mm_at mt_P 291 287 = some ((287, 3, .invokevirtual 23, 253, 0, 0, 478), 4, 1, 0, 0, 2, 0, 0) := rfl
theorem bt_291_290 : mm_at mt_P 291 290 = some ((290, 1, .pop, 0, 0, 0, 0), 4, 1, 0, 0, 2, 0, 0) := rfl
theorem bt_291_291 : mm_at mt_P 291 291 = some ((291, 1, .aload_n 2, 0, 0, 0, 0), 4, 1, 0, 0, 2, 0, 0) := rfl
theorem bt_291_292 : mm_at mt_P 291 292 = some ((292, 3, .invokevirtual 27, 77, 0, 0, 1449), 4, 1, 0, 0, 2, 0, 0) := rfl
theorem bt_291_295 : mm_at mt_P 291 295 = some ((295, 1, .pop, 0, 0, 0, 0), 4, 1, 0, 0, 2, 0, 0) := rfl
theorem bt_291_296 : mm_at mt_P 291 296 = some ((296, 3, .goto 1156, 0, 0, 0, 0), 4, 1, 0, 0, 2, 0, 0) := rfl
theorem bt_291_299 : mm_at mt_P 291 299 = some ((299, 1, .aload_n 1, 0, 0, 0, 0), 4, 1, 0, 0, 2, 0, 0) := rfl
theorem bt_291_300 : mm_at mt_P 291 300 = some ((300, 3, .invokevirtual 28, 250, 0, 0, 754), 4, 1, 0, 0, 2, 0, 0) := rfl
theorem bt_291_303 : mm_at mt_P 291 303 = some ((303, 1, .aload_n 2, 0, 0, 0, 0), 4, 1, 0, 0, 2, 0, 0) := rfl
theorem bt_291_304 : mm_at mt_P 291 304 = some ((304, 3, .invokevirtual 31, 71, 0, 0, 1531), 4, 1, 0, 0, 2, 0, 0) := rfl
theorem bt_291_307 : mm_at mt_P 291 307 = some ((307, 3, .if_icmp .eq 1145, 0, 0, 0, 0), 4, 1, 0, 0, 2, 0, 0) := rfl
theorem bt_291_312 : mm_at mt_P 291 312 = some ((312, 1, .aload_n 1, 0, 0, 0, 0), 4, 1, 0, 0, 2, 0, 0) := rfl
theorem bt_291_313 : mm_at mt_P 291 313 = some ((313, 1, .aload_n 0, 0, 0, 0, 0), 4, 1, 0, 0, 2, 0, 0) := rfl
theorem bt_291_314 : mm_at mt_P 291 314 = some ((314, 1, .iload_n 3, 0, 0, 0, 0), 4, 1, 0, 0, 2, 0, 0) := rfl
theorem bt_291_315 : mm_at mt_P 291 315 = some ((315, 1, .iconst 1, 0, 0, 0, 0), 4, 1, 0, 0, 2, 0, 0) := rfl
theorem bt_291_316 : mm_at mt_P 291 316 = some ((316, 1, .iadd, 0, 0, 0, 0), 4, 1, 0, 0, 2, 0, 0) := rfl
theorem bt_291_317 : mm_at mt_P 291 317 = some ((317, 1, .iaload, 0, 0, 0, 0), 4, 1, 0, 0, 2, 0, 0) := rfl
theorem bt_291_318 : mm_at mt_P 291 318 = some ((318, 1, .aload_n 0, 0, 0, 0, 0), 4, 1, 0, 0, 2, 0, 0) := rfl
theorem bt_291_319 : mm_at mt_P 291 319 = some ((319, 1, .iload_n 3, 0, 0, 0, 0), 4, 1, 0, 0, 2, 0, 0) := rfl
theorem bt_291_320 : mm_at mt_P 291 320 = some ((320, 1, .iconst 2, 0, 0, 0, 0), 4, 1, 0, 0, 2, 0, 0) := rfl
theorem bt_291_321 : mm_at mt_P 291 321 = some ((321, 1, .iadd, 0, 0, 0, 0), 4, 1, 0, 0, 2, 0, 0) := rfl
theorem bt_291_322 : mm_at mt_P 291 322 = some ((322, 1, .iaload, 0, 0, 0, 0), 4, 1, 0, 0, 2, 0, 0) := rfl
theorem bt_291_323 : mm_at mt_P 291 323 = some ((323, 3, .invokevirtual 32, 244, 0, 0, 758), 4, 1, 0, 0, 2, 0, 0) := rfl
theorem bt_291_326 : mm_at mt_P 291 326 = some ((326, 1, .pop, 0, 0, 0, 0), 4, 1, 0, 0, 2, 0, 0) := rfl
theorem bt_291_327 : mm_at mt_P 291 327 = some ((327, 1, .aload_n 2, 0, 0, 0, 0), 4, 1, 0, 0, 2, 0, 0) := rfl
theorem bt_291_328 : mm_at mt_P 291 328 = some ((328, 1, .aload_n 0, 0, 0, 0, 0), 4, 1, 0, 0, 2, 0, 0) := rfl
theorem bt_291_329 : mm_at mt_P 291 329 = some ((329, 1, .iload_n 3, 0, 0, 0, 0), 4, 1, 0, 0, 2, 0, 0) := rfl
theorem bt_291_330 : mm_at mt_P 291 330 = some ((330, 1, .iconst 1, 0, 0, 0, 0), 4, 1, 0, 0, 2, 0, 0) := rfl
theorem bt_291_331 : mm_at mt_P 291 331 = some ((331, 1, .iadd, 0, 0, 0, 0), 4, 1, 0, 0, 2, 0, 0) := rfl
theorem bt_291_332 : mm_at mt_P 291 332 = some ((332, 1, .iaload, 0, 0, 0, 0), 4, 1, 0, 0, 2, 0, 0) := rfl
theorem bt_291_333 : mm_at mt_P 291 333 = some ((333, 1, .aload_n 0, 0, 0, 0, 0), 4, 1, 0, 0, 2, 0, 0) := rfl
theorem bt_291_334 : mm_at mt_P 291 334 = some ((334, 1, .iload_n 3, 0, 0, 0, 0), 4, 1, 0, 0, 2, 0, 0) := rfl
theorem bt_291_335 : mm_at mt_P 291 335 = some ((335, 1, .iconst 2, 0, 0, 0, 0), 4, 1, 0, 0, 2, 0, 0) := rfl
theorem bt_291_336 : mm_at mt_P 291 336 = some ((336, 1, .iadd, 0, 0, 0, 0), 4, 1, 0, 0, 2, 0, 0) := rfl
theorem bt_291_337 : mm_at mt_P 291 337 = some ((337, 1, .iaload, 0, 0, 0, 0), 4, 1, 0, 0, 2, 0, 0) := rfl
theorem bt_291_338 : mm_at mt_P 291 338 = some ((338, 3, .invokevirtual 36, 63, 0, 0, 1535), 4, 1, 0, 0, 2, 0, 0) := rfl
theorem bt_291_341 : mm_at mt_P 291 341 = some ((341, 1, .pop, 0, 0, 0, 0), 4, 1, 0, 0, 2, 0, 0) := rfl
theorem bt_291_342 : mm_at mt_P 291 342 = some ((342, 3, .goto 1110, 0, 0, 0, 0), 4, 1, 0, 0, 2, 0, 0) := rfl
theorem bt_291_345 : mm_at mt_P 291 345 = some ((345, 1, .aload_n 1, 0, 0, 0, 0), 4, 1, 0, 0, 2, 0, 0) := rfl
theorem bt_291_346 : mm_at mt_P 291 346 = some ((346, 1, .aload_n 0, 0, 0, 0, 0), 4, 1, 0, 0, 2, 0, 0) := rfl
theorem bt_291_347 : mm_at mt_P 291 347 = some ((347, 1, .iload_n 3, 0, 0, 0, 0), 4, 1, 0, 0, 2, 0, 0) := rfl
theorem bt_291_348 : mm_at mt_P 291 348 = some ((348, 1, .iconst 1, 0, 0, 0, 0), 4, 1, 0, 0, 2, 0, 0) := rfl
theorem bt_291_349 : mm_at mt_P 291 349 = some ((349, 1, .iadd, 0, 0, 0, 0), 4, 1, 0, 0, 2, 0, 0) := rfl
theorem bt_291_350 : mm_at mt_P 291 350 = some ((350, 1, .iaload, 0, 0, 0, 0), 4, 1, 0, 0, 2, 0, 0) := rfl
theorem bt_291_351 : mm_at mt_P 291 351 = some ((351, 3, .invokevirtual 37, 251, 0, 0, 782), 4, 1, 0, 0, 2, 0, 0) := rfl
theorem bt_291_354 : mm_at mt_P 291 354 = some ((354, 1, .pop, 0, 0, 0, 0), 4, 1, 0, 0, 2, 0, 0) := rfl
theorem bt_291_355 : mm_at mt_P 291 355 = some ((355, 1, .aload_n 2, 0, 0, 0, 0), 4, 1, 0, 0, 2, 0, 0) := rfl
theorem bt_291_356 : mm_at mt_P 291 356 = some ((356, 1, .aload_n 0, 0, 0, 0, 0), 4, 1, 0, 0, 2, 0, 0) := rfl
theorem bt_291_357 : mm_at mt_P 291 357 = some ((357, 1, .iload_n 3, 0, 0, 0, 0), 4, 1, 0, 0, 2, 0, 0) := rfl
theorem bt_291_358 : mm_at mt_P 291 358 = some ((358, 1, .iconst 1, 0, 0, 0, 0), 4, 1, 0, 0, 2, 0, 0) := rfl
theorem bt_291_359 : mm_at mt_P 291 359 = some ((359, 1, .iadd, 0, 0, 0, 0), 4, 1, 0, 0, 2, 0, 0) := rfl
theorem bt_291_360 : mm_at mt_P 291 360 = some ((360, 1, .iaload, 0, 0, 0, 0), 4, 1, 0, 0, 2, 0, 0) := rfl
theorem bt_291_361 : mm_at mt_P 291 361 = some ((361, 3, .invokevirtual 40, 73, 0, 0, 1558), 4, 1, 0, 0, 2, 0, 0) := rfl
theorem bt_291_364 : mm_at mt_P 291 364 = some ((364, 1, .pop, 0, 0, 0, 0), 4, 1, 0, 0, 2, 0, 0) := rfl
theorem bt_291_365 : mm_at mt_P 291 365 = some ((365, 3, .goto 1087, 0, 0, 0, 0), 4, 1, 0, 0, 2, 0, 0) := rfl
theorem bt_291_368 : mm_at mt_P 291 368 = some ((368, 1, .aload_n 1, 0, 0, 0, 0), 4, 1, 0, 0, 2, 0, 0) := rfl
theorem bt_291_369 : mm_at mt_P 291 369 = some ((369, 1, .aload_n 0, 0, 0, 0, 0), 4, 1, 0, 0, 2, 0, 0) := rfl
theorem bt_291_370 : mm_at mt_P 291 370 = some ((370, 1, .iload_n 3, 0, 0, 0, 0), 4, 1, 0, 0, 2, 0, 0) := rfl
theorem bt_291_371 : mm_at mt_P 291 371 = some ((371, 1, .iconst 1, 0, 0, 0, 0), 4, 1, 0, 0, 2, 0, 0) := rfl
theorem bt_291_372 : mm_at mt_P 291 372 = some ((372, 1, .iadd, 0, 0, 0, 0), 4, 1, 0, 0, 2, 0, 0) := rfl
theorem bt_291_373 : mm_at mt_P 291 373 = some ((373, 1, .iaload, 0, 0, 0, 0), 4, 1, 0, 0, 2, 0, 0) := rfl
theorem bt_291_374 : mm_at mt_P 291 374 = some ((374, 3, .invokevirtual 41, 260, 0, 0, 787), 4, 1, 0, 0, 2, 0, 0) := rfl
theorem bt_291_377 : mm_at mt_P 291 377 = some ((377, 1, .pop, 0, 0, 0, 0), 4, 1, 0, 0, 2, 0, 0) := rfl
theorem bt_291_378 : mm_at mt_P 291 378 = some ((378, 1, .aload_n 2, 0, 0, 0, 0), 4, 1, 0, 0, 2, 0, 0) := rfl
theorem bt_291_379 : mm_at mt_P 291 379 = some ((379, 1, .aload_n 0, 0, 0, 0, 0), 4, 1, 0, 0, 2, 0, 0) := rfl
theorem bt_291_380 : mm_at mt_P 291 380 = some ((380, 1, .iload_n 3, 0, 0, 0, 0), 4, 1, 0, 0, 2, 0, 0) := rfl
theorem bt_291_381 : mm_at mt_P 291 381 = some ((381, 1, .iconst 1, 0, 0, 0, 0), 4, 1, 0, 0, 2, 0, 0) := rfl
theorem bt_291_382 : mm_at mt_P 291 382 = some ((382, 1, .iadd, 0, 0, 0, 0), 4, 1, 0, 0, 2, 0, 0) := rfl
theorem bt_291_383 : mm_at mt_P 291 383 = some ((383, 1, .iaload, 0, 0, 0, 0), 4, 1, 0, 0, 2, 0, 0) := rfl
theorem bt_291_384 : mm_at mt_P 291 384 = some ((384, 3, .invokevirtual 44, 87, 0, 0, 1562), 4, 1, 0, 0, 2, 0, 0) := rfl
theorem bt_291_387 : mm_at mt_P 291 387 = some ((387, 1, .pop, 0, 0, 0, 0), 4, 1, 0, 0, 2, 0, 0) := rfl
theorem bt_291_388 : mm_at mt_P 291 388 = some ((388, 3, .goto 1064, 0, 0, 0, 0), 4, 1, 0, 0, 2, 0, 0) := rfl
theorem bt_291_391 : mm_at mt_P 291 391 = some ((391, 1, .aload_n 1, 0, 0, 0, 0), 4, 1, 0, 0, 2, 0, 0) := rfl
theorem bt_291_392 : mm_at mt_P 291 392 = some ((392, 1, .aload_n 0, 0, 0, 0, 0), 4, 1, 0, 0, 2, 0, 0) := rfl
theorem bt_291_393 : mm_at mt_P 291 393 = some ((393, 1, .iload_n 3, 0, 0, 0, 0), 4, 1, 0, 0, 2, 0, 0) := rfl
theorem bt_291_394 : mm_at mt_P 291 394 = some ((394, 1, .iconst 1, 0, 0, 0, 0), 4, 1, 0, 0, 2, 0, 0) := rfl
theorem bt_291_395 : mm_at mt_P 291 395 = some ((395, 1, .iadd, 0, 0, 0, 0), 4, 1, 0, 0, 2, 0, 0) := rfl
theorem bt_291_396 : mm_at mt_P 291 396 = some ((396, 1, .iaload, 0, 0, 0, 0), 4, 1, 0, 0, 2, 0, 0) := rfl
theorem bt_291_397 : mm_at mt_P 291 397 = some ((397, 1, .aload_n 0, 0, 0, 0, 0), 4, 1, 0, 0, 2, 0, 0) := rfl
theorem bt_291_398 : mm_at mt_P 291 398 = some ((398, 1, .iload_n 3, 0, 0, 0, 0), 4, 1, 0, 0, 2, 0, 0) := rfl
theorem bt_291_399 : mm_at mt_P 291 399 = some ((399, 1, .iconst 2, 0, 0, 0, 0), 4, 1, 0, 0, 2, 0, 0) := rfl
theorem bt_291_400 : mm_at mt_P 291 400 = some ((400, 1, .iadd, 0, 0, 0, 0), 4, 1, 0, 0, 2, 0, 0) := rfl
theorem bt_291_401 : mm_at mt_P 291 401 = some ((401, 1, .iaload, 0, 0, 0, 0), 4, 1, 0, 0, 2, 0, 0) := rfl
theorem bt_291_402 : mm_at mt_P 291 402 = some ((402, 3, .ifCond .eq 7, 0, 0, 0, 0), 4, 1, 0, 0, 2, 0, 0) := rfl
theorem bt_291_405 : mm_at mt_P 291 405 = some ((405, 1, .iconst 1, 0, 0, 0, 0), 4, 1, 0, 0, 2, 0, 0) := rfl
theorem bt_291_406 : mm_at mt_P 291 406 = some ((406, 3, .goto 4, 0, 0, 0, 0), 4, 1, 0, 0, 2, 0, 0) := rfl
theorem bt_291_409 : mm_at mt_P 291 409 = some ((409, 1, .iconst 0, 0, 0, 0, 0), 4, 1, 0, 0, 2, 0, 0) := rfl
theorem bt_291_410 : mm_at mt_P 291 410 = some ((410, 3, .invokevirtual 45, 235, 0, 0, 819), 4, 1, 0, 0, 2, 0, 0) := rfl
theorem bt_291_413 : mm_at mt_P 291 413 = some ((413, 1, .pop, 0, 0, 0, 0), 4, 1, 0, 0, 2, 0, 0) := rfl
theorem bt_291_414 : mm_at mt_P 291 414 = some ((414, 1, .aload_n 2, 0, 0, 0, 0), 4, 1, 0, 0, 2, 0, 0) := rfl
theorem bt_291_415 : mm_at mt_P 291 415 = some ((415, 1, .aload_n 0, 0, 0, 0, 0), 4, 1, 0, 0, 2, 0, 0) := rfl
theorem bt_291_416 : mm_at mt_P 291 416 = some ((416, 1, .iload_n 3, 0, 0, 0, 0), 4, 1, 0, 0, 2, 0, 0) := rfl
theorem bt_291_417 : mm_at mt_P 291 417 = some ((417, 1, .iconst 1, 0, 0, 0, 0), 4, 1, 0, 0, 2, 0, 0) := rfl
theorem bt_291_418 : mm_at mt_P 291 418 = some ((418, 1, .iadd, 0, 0, 0, 0), 4, 1, 0, 0, 2, 0, 0) := rfl
theorem bt_291_419 : mm_at mt_P 291 419 = some ((419, 1, .iaload, 0, 0, 0, 0), 4, 1, 0, 0, 2, 0, 0) := rfl
theorem bt_291_420 : mm_at mt_P 291 420 = some ((420, 1, .aload_n 0, 0, 0, 0, 0), 4, 1, 0, 0, 2, 0, 0) := rfl
theorem bt_291_421 : mm_at mt_P 291 421 = some ((421, 1, .iload_n 3, 0, 0, 0, 0), 4, 1, 0, 0, 2, 0, 0) := rfl
theorem bt_291_422 : mm_at mt_P 291 422 = some ((422, 1, .iconst 2, 0, 0, 0, 0), 4, 1, 0, 0, 2, 0, 0) := rfl
theorem bt_291_423 : mm_at mt_P 291 423 = some ((423, 1, .iadd, 0, 0, 0, 0), 4, 1, 0, 0, 2, 0, 0) := rfl
theorem bt_291_424 : mm_at mt_P 291 424 = some ((424, 1, .iaload, 0, 0, 0, 0), 4, 1, 0, 0, 2, 0, 0) := rfl
theorem bt_291_425 : mm_at mt_P 291 425 = some ((425, 3, .ifCond .eq 7, 0, 0, 0, 0), 4, 1, 0, 0, 2, 0, 0) := rfl
theorem bt_291_428 : mm_at mt_P 291 428 = some ((428, 1, .iconst 1, 0, 0, 0, 0), 4, 1, 0, 0, 2, 0, 0) := rfl
theorem bt_291_429 : mm_at mt_P 291 429 = some ((429, 3, .goto 4, 0, 0, 0, 0), 4, 1, 0, 0, 2, 0, 0) := rfl
theorem bt_291_432 : mm_at mt_P 291 432 = some ((432, 1, .iconst 0, 0, 0, 0, 0), 4, 1, 0, 0, 2, 0, 0) := rfl
theorem bt_291_433 : mm_at mt_P 291 433 = some ((433, 3, .invokevirtual 49, 40, 0, 0, 1594), 4, 1, 0, 0, 2, 0, 0) := rfl
theorem bt_291_436 : mm_at mt_P 291 436 = some ((436, 1, .pop, 0, 0, 0, 0), 4, 1, 0, 0, 2, 0, 0) := rfl
theorem bt_291_437 : mm_at mt_P 291 437 = some ((437, 3, .goto 1015, 0, 0, 0, 0), 4, 1, 0, 0, 2, 0, 0) := rfl
theorem bt_291_440 : mm_at mt_P 291 440 = some ((440, 1, .aload_n 1, 0, 0, 0, 0), 4, 1, 0, 0, 2, 0, 0) := rfl
theorem bt_291_441 : mm_at mt_P 291 441 = some ((441, 1, .aload_n 0, 0, 0, 0, 0), 4, 1, 0, 0, 2, 0, 0) := rfl
theorem bt_291_442 : mm_at mt_P 291 442 = some ((442, 1, .iload_n 3, 0, 0, 0, 0), 4, 1, 0, 0, 2, 0, 0) := rfl
theorem bt_291_443 : mm_at mt_P 291 443 = some ((443, 1, .iconst 1, 0, 0, 0, 0), 4, 1, 0, 0, 2, 0, 0) := rfl
theorem bt_291_444 : mm_at mt_P 291 444 = some ((444, 1, .iadd, 0, 0, 0, 0), 4, 1, 0, 0, 2, 0, 0) := rfl
theorem bt_291_445 : mm_at mt_P 291 445 = some ((445, 1, .iaload, 0, 0, 0, 0), 4, 1, 0, 0, 2, 0, 0) := rfl
theorem bt_291_446 : mm_at mt_P 291 446 = some ((446, 1, .aload_n 0, 0, 0, 0, 0), 4, 1, 0, 0, 2, 0, 0) := rfl
theorem bt_291_447 : mm_at mt_P 291 447 = some ((447, 1, .iload_n 3, 0, 0, 0, 0), 4, 1, 0, 0, 2, 0, 0) := rfl
theorem bt_291_448 : mm_at mt_P 291 448 = some ((448, 1, .iconst 2, 0, 0, 0, 0), 4, 1, 0, 0, 2, 0, 0) := rfl
theorem bt_291_449 : mm_at mt_P 291 449 = some ((449, 1, .iadd, 0, 0, 0, 0), 4, 1, 0, 0, 2, 0, 0) := rfl
theorem bt_291_450 : mm_at mt_P 291 450 = some ((450, 1, .iaload, 0, 0, 0, 0), 4, 1, 0, 0, 2, 0, 0) := rfl
theorem bt_291_451 : mm_at mt_P 291 451 = some ((451, 1, .aload_n 0, 0, 0, 0, 0), 4, 1, 0, 0, 2, 0, 0) := rfl
theorem bt_291_452 : mm_at mt_P 291 452 = some ((452, 1, .iload_n 3, 0, 0, 0, 0), 4, 1, 0, 0, 2, 0, 0) := rfl
theorem bt_291_453 : mm_at mt_P 291 453 = some ((453, 1, .iconst 3, 0, 0, 0, 0), 4, 1, 0, 0, 2, 0, 0) := rfl
theorem bt_291_454 : mm_at mt_P 291 454 = some ((454, 1, .iadd, 0, 0, 0, 0), 4, 1, 0, 0, 2, 0, 0) := rfl
theorem bt_291_455 : mm_at mt_P 291 455 = some ((455, 1, .iaload, 0, 0, 0, 0), 4, 1, 0, 0, 2, 0, 0) := rfl
theorem bt_291_456 : mm_at mt_P 291 456 = some ((456, 1, .aload_n 0, 0, 0, 0, 0), 4, 1, 0, 0, 2, 0, 0) := rfl
theorem bt_291_457 : mm_at mt_P 291 457 = some ((457, 1, .iload_n 3, 0, 0, 0, 0), 4, 1, 0, 0, 2, 0, 0) := rfl
theorem bt_291_458 : mm_at mt_P 291 458 = some ((458, 1, .iconst 4, 0, 0, 0, 0), 4, 1, 0, 0, 2, 0, 0) := rfl
theorem bt_291_459 : mm_at mt_P 291 459 = some ((459, 1, .iadd, 0, 0, 0, 0), 4, 1, 0, 0, 2, 0, 0) := rfl
theorem bt_291_460 : mm_at mt_P 291 460 = some ((460, 1, .iaload, 0, 0, 0, 0), 4, 1, 0, 0, 2, 0, 0) := rfl
theorem bt_291_461 : mm_at mt_P 291 461 = some ((461, 3, .invokevirtual 50, 262, 0, 0, 833), 4, 1, 0, 0, 2, 0, 0) := rfl
theorem bt_291_464 : mm_at mt_P 291 464 = some ((464, 1, .pop, 0, 0, 0, 0), 4, 1, 0, 0, 2, 0, 0) := rfl
theorem bt_291_465 : mm_at mt_P 291 465 = some ((465, 1, .aload_n 2, 0, 0, 0, 0), 4, 1, 0, 0, 2, 0, 0) := rfl
theorem bt_291_466 : mm_at mt_P 291 466 = some ((466, 1, .aload_n 0, 0, 0, 0, 0), 4, 1, 0, 0, 2, 0, 0) := rfl
theorem bt_291_467 : mm_at mt_P 291 467 = some ((467, 1, .iload_n 3, 0, 0, 0, 0), 4, 1, 0, 0, 2, 0, 0) := rfl
theorem bt_291_468 : mm_at mt_P 291 468 = some ((468, 1, .iconst 1, 0, 0, 0, 0), 4, 1, 0, 0, 2, 0, 0) := rfl
theorem bt_291_469 : mm_at mt_P 291 469 = some ((469, 1, .iadd, 0, 0, 0, 0), 4, 1, 0, 0, 2, 0, 0) := rfl
theorem bt_291_470 : mm_at mt_P 291 470 = some ((470, 1, .iaload, 0, 0, 0, 0), 4, 1, 0, 0, 2, 0, 0) := rfl
theorem bt_291_471 : mm_at mt_P 291 471 = some ((471, 1, .aload_n 0, 0, 0, 0, 0), 4, 1, 0, 0, 2, 0, 0) := rfl
theorem bt_291_472 : mm_at mt_P 291 472 = some ((472, 1, .iload_n 3, 0, 0, 0, 0), 4, 1, 0, 0, 2, 0, 0) := rfl
theorem bt_291_473 : mm_at mt_P 291 473 = some ((473, 1, .iconst 2, 0, 0, 0, 0), 4, 1, 0, 0, 2, 0, 0) := rfl
theorem bt_291_474 : mm_at mt_P 291 474 = some ((474, 1, .iadd, 0, 0, 0, 0), 4, 1, 0, 0, 2, 0, 0) := rfl
theorem bt_291_475 : mm_at mt_P 291 475 = some ((475, 1, .iaload, 0, 0, 0, 0), 4, 1, 0, 0, 2, 0, 0) := rfl
theorem bt_291_476 : mm_at mt_P 291 476 = some ((476, 1, .aload_n 0, 0, 0, 0, 0), 4, 1, 0, 0, 2, 0, 0) := rfl
theorem bt_291_477 : mm_at mt_P 291 477 = some ((477, 1, .iload_n 3, 0, 0, 0, 0), 4, 1, 0, 0, 2, 0, 0) := rfl
theorem bt_291_478 : mm_at mt_P 291 478 = some ((478, 1, .iconst 3, 0, 0, 0, 0), 4, 1, 0, 0, 2, 0, 0) := rfl
theorem bt_291_479 : mm_at mt_P 291 479 = some ((479, 1, .iadd, 0, 0, 0, 0), 4, 1, 0, 0, 2, 0, 0) := rfl
theorem bt_291_480 : mm_at mt_P 291 480 = some ((480, 1, .iaload, 0, 0, 0, 0), 4, 1, 0, 0, 2, 0, 0) := rfl
theorem bt_291_481 : mm_at mt_P 291 481 = some ((481, 1, .aload_n 0, 0, 0, 0, 0), 4, 1, 0, 0, 2, 0, 0) := rfl
theorem bt_291_482 : mm_at mt_P 291 482 = some ((482, 1, .iload_n 3, 0, 0, 0, 0), 4, 1, 0, 0, 2, 0, 0) := rfl
theorem bt_291_483 : mm_at mt_P 291 483 = some ((483, 1, .iconst 4, 0, 0, 0, 0), 4, 1, 0, 0, 2, 0, 0) := rfl
theorem bt_291_484 : mm_at mt_P 291 484 = some ((484, 1, .iadd, 0, 0, 0, 0), 4, 1, 0, 0, 2, 0, 0) := rfl
theorem bt_291_485 : mm_at mt_P 291 485 = some ((485, 1, .iaload, 0, 0, 0, 0), 4, 1, 0, 0, 2, 0, 0) := rfl
theorem bt_291_486 : mm_at mt_P 291 486 = some ((486, 3, .invokevirtual 54, 93, 0, 0, 1602), 4, 1, 0, 0, 2, 0, 0) := rfl
theorem bt_291_489 : mm_at mt_P 291 489 = some ((489, 1, .pop, 0, 0, 0, 0), 4, 1, 0, 0, 2, 0, 0) := rfl
theorem bt_291_490 : mm_at mt_P 291 490 = some ((490, 3, .goto 962, 0, 0, 0, 0), 4, 1, 0, 0, 2, 0, 0) := rfl
theorem bt_291_493 : mm_at mt_P 291 493 = some ((493, 1, .aload_n 1, 0, 0, 0, 0), 4, 1, 0, 0, 2, 0, 0) := rfl
theorem bt_291_494 : mm_at mt_P 291 494 = some ((494, 1, .aload_n 0, 0, 0, 0, 0), 4, 1, 0, 0, 2, 0, 0) := rfl
theorem bt_291_495 : mm_at mt_P 291 495 = some ((495, 1, .iload_n 3, 0, 0, 0, 0), 4, 1, 0, 0, 2, 0, 0) := rfl
theorem bt_291_496 : mm_at mt_P 291 496 = some ((496, 1, .iconst 1, 0, 0, 0, 0), 4, 1, 0, 0, 2, 0, 0) := rfl
theorem bt_291_497 : mm_at mt_P 291 497 = some ((497, 1, .iadd, 0, 0, 0, 0), 4, 1, 0, 0, 2, 0, 0) := rfl
theorem bt_291_498 : mm_at mt_P 291 498 = some ((498, 1, .iaload, 0, 0, 0, 0), 4, 1, 0, 0, 2, 0, 0) := rfl
theorem bt_291_499 : mm_at mt_P 291 499 = some ((499, 3, .invokevirtual 55, 271, 0, 0, 870), 4, 1, 0, 0, 2, 0, 0) := rfl
theorem bt_291_502 : mm_at mt_P 291 502 = some ((502, 1, .pop, 0, 0, 0, 0), 4, 1, 0, 0, 2, 0, 0) := rfl
theorem bt_291_503 : mm_at mt_P 291 503 = some ((503, 1, .aload_n 2, 0, 0, 0, 0), 4, 1, 0, 0, 2, 0, 0) := rfl
theorem bt_291_504 : mm_at mt_P 291 504 = some ((504, 1, .aload_n 0, 0, 0, 0, 0), 4, 1, 0, 0, 2, 0, 0) := rfl
theorem bt_291_505 : mm_at mt_P 291 505 = some ((505, 1, .iload_n 3, 0, 0, 0, 0), 4, 1, 0, 0, 2, 0, 0) := rfl
theorem bt_291_506 : mm_at mt_P 291 506 = some ((506, 1, .iconst 1, 0, 0, 0, 0), 4, 1, 0, 0, 2, 0, 0) := rfl
theorem bt_291_507 : mm_at mt_P 291 507 = some ((507, 1, .iadd, 0, 0, 0, 0), 4, 1, 0, 0, 2, 0, 0) := rfl
theorem bt_291_508 : mm_at mt_P 291 508 = some ((508, 1, .iaload, 0, 0, 0, 0), 4, 1, 0, 0, 2, 0, 0) := rfl
theorem bt_291_509 : mm_at mt_P 291 509 = some ((509, 3, .invokevirtual 58, 107, 0, 0, 1634), 4, 1, 0, 0, 2, 0, 0) := rfl
theorem bt_291_512 : mm_at mt_P 291 512 = some ((512, 1, .pop, 0, 0, 0, 0), 4, 1, 0, 0, 2, 0, 0) := rfl
theorem bt_291_513 : mm_at mt_P 291 513 = some ((513, 3, .goto 939, 0, 0, 0, 0), 4, 1, 0, 0, 2, 0, 0) := rfl
theorem bt_291_516 : mm_at mt_P 291 516 = some ((516, 1, .aload_n 1, 0, 0, 0, 0), 4, 1, 0, 0, 2, 0, 0) := rfl
theorem bt_291_517 : mm_at mt_P 291 517 = some ((517, 3, .invokevirtual 59, 269, 0, 0, 897), 4, 1, 0, 0, 2, 0, 0) := rfl
theorem bt_291_520 : mm_at mt_P 291 520 = some ((520, 1, .pop, 0, 0, 0, 0), 4, 1, 0, 0, 2, 0, 0) := rfl
theorem bt_291_521 : mm_at mt_P 291 521 = some ((521, 1, .aload_n 2, 0, 0, 0, 0), 4, 1, 0, 0, 2, 0, 0) := rfl
theorem bt_291_522 : mm_at mt_P 291 522 = some ((522, 3, .invokevirtual 63, 104, 0, 0, 1654), 4, 1, 0, 0, 2, 0, 0) := rfl
theorem bt_291_525 : mm_at mt_P 291 525 = some ((525, 1, .pop, 0, 0, 0, 0), 4, 1, 0, 0, 2, 0, 0) := rfl
theorem bt_291_526 : mm_at mt_P 291 526 = some ((526, 3, .goto 926, 0, 0, 0, 0), 4, 1, 0, 0, 2, 0, 0) := rfl
theorem bt_291_529 : mm_at mt_P 291 529 = some ((529, 1, .aload_n 1, 0, 0, 0, 0), 4, 1, 0, 0, 2, 0, 0) := rfl
theorem bt_291_530 : mm_at mt_P 291 530 = some ((530, 1, .aload_n 0, 0, 0, 0, 0), 4, 1, 0, 0, 2, 0, 0) := rfl
theorem bt_291_531 : mm_at mt_P 291 531 = some ((531, 1, .iload_n 3, 0, 0, 0, 0), 4, 1, 0, 0, 2, 0, 0) := rfl
theorem bt_291_532 : mm_at mt_P 291 532 = some ((532, 1, .iconst 1, 0, 0, 0, 0), 4, 1, 0, 0, 2, 0, 0) := rfl
theorem bt_291_533 : mm_at mt_P 291 533 = some ((533, 1, .iadd, 0, 0, 0, 0), 4, 1, 0, 0, 2, 0, 0) := rfl
theorem bt_291_534 : mm_at mt_P 291 534 = some ((534, 1, .iaload, 0, 0, 0, 0), 4, 1, 0, 0, 2, 0, 0) := rfl
theorem bt_291_535 : mm_at mt_P 291 535 = some ((535, 1, .aload_n 0, 0, 0, 0, 0), 4, 1, 0, 0, 2, 0, 0) := rfl
theorem bt_291_536 : mm_at mt_P 291 536 = some ((536, 1, .iload_n 3, 0, 0, 0, 0), 4, 1, 0, 0, 2, 0, 0) := rfl
theorem bt_291_537 : mm_at mt_P 291 537 = some ((537, 1, .iconst 2, 0, 0, 0, 0), 4, 1, 0, 0, 2, 0, 0) := rfl
theorem bt_291_538 : mm_at mt_P 291 538 = some ((538, 1, .iadd, 0, 0, 0, 0), 4, 1, 0, 0, 2, 0, 0) := rfl
theorem bt_291_539 : mm_at mt_P 291 539 = some ((539, 1, .iaload, 0, 0, 0, 0), 4, 1, 0, 0, 2, 0, 0) := rfl
theorem bt_291_540 : mm_at mt_P 291 540 = some ((540, 1, .aload_n 0, 0, 0, 0, 0), 4, 1, 0, 0, 2, 0, 0) := rfl
theorem bt_291_541 : mm_at mt_P 291 541 = some ((541, 1, .iload_n 3, 0, 0, 0, 0), 4, 1, 0, 0, 2, 0, 0) := rfl
theorem bt_291_542 : mm_at mt_P 291 542 = some ((542, 1, .iconst 3, 0, 0, 0, 0), 4, 1, 0, 0, 2, 0, 0) := rfl
theorem bt_291_543 : mm_at mt_P 291 543 = some ((543, 1, .iadd, 0, 0, 0, 0), 4, 1, 0, 0, 2, 0, 0) := rfl
theorem bt_291_544 : mm_at mt_P 291 544 = some ((544, 1, .iaload, 0, 0, 0, 0), 4, 1, 0, 0, 2, 0, 0) := rfl
theorem bt_291_545 : mm_at mt_P 291 545 = some ((545, 3, .ifCond .eq 7, 0, 0, 0, 0), 4, 1, 0, 0, 2, 0, 0) := rfl
theorem bt_291_548 : mm_at mt_P 291 548 = some ((548, 1, .iconst 1, 0, 0, 0, 0), 4, 1, 0, 0, 2, 0, 0) := rfl
theorem bt_291_549 : mm_at mt_P 291 549 = some ((549, 3, .goto 4, 0, 0, 0, 0), 4, 1, 0, 0, 2, 0, 0) := rfl
theorem bt_291_552 : mm_at mt_P 291 552 = some ((552, 1, .iconst 0, 0, 0, 0, 0), 4, 1, 0, 0, 2, 0, 0) := rfl
theorem bt_291_553 : mm_at mt_P 291 553 = some ((553, 3, .invokevirtual 64, 242, 0, 0, 905), 4, 1, 0, 0, 2, 0, 0) := rfl
theorem bt_291_556 : mm_at mt_P 291 556 = some ((556, 1, .pop, 0, 0, 0, 0), 4, 1, 0, 0, 2, 0, 0) := rfl
theorem bt_291_557 : mm_at mt_P 291 557 = some ((557, 1, .aload_n 2, 0, 0, 0, 0), 4, 1, 0, 0, 2, 0, 0) := rfl
theorem bt_291_558 : mm_at mt_P 291 558 = some ((558, 1, .aload_n 0, 0, 0, 0, 0), 4, 1, 0, 0, 2, 0, 0) := rfl
theorem bt_291_559 : mm_at mt_P 291 559 = some ((559, 1, .iload_n 3, 0, 0, 0, 0), 4, 1, 0, 0, 2, 0, 0) := rfl
theorem bt_291_560 : mm_at mt_P 291 560 = some ((560, 1, .iconst 1, 0, 0, 0, 0), 4, 1, 0, 0, 2, 0, 0) := rfl
theorem bt_291_561 : mm_at mt_P 291 561 = some ((561, 1, .iadd, 0, 0, 0, 0), 4, 1, 0, 0, 2, 0, 0) := rfl
theorem bt_291_562 : mm_at mt_P 291 562 = some ((562, 1, .iaload, 0, 0, 0, 0), 4, 1, 0, 0, 2, 0, 0) := rfl
theorem bt_291_563 : mm_at mt_P 291 563 = some ((563, 1, .aload_n 0, 0, 0, 0, 0), 4, 1, 0, 0, 2, 0, 0) := rfl
theorem bt_291_564 : mm_at mt_P 291 564 = some ((564, 1, .iload_n 3, 0, 0, 0, 0), 4, 1, 0, 0, 2, 0, 0) := rfl
theorem bt_291_565 : mm_at mt_P 291 565 = some ((565, 1, .iconst 2, 0, 0, 0, 0), 4, 1, 0, 0, 2, 0, 0) := rfl
theorem bt_291_566 : mm_at mt_P 291 566 = some ((566, 1, .iadd, 0, 0, 0, 0), 4, 1, 0, 0, 2, 0, 0) := rfl
theorem bt_291_567 : mm_at mt_P 291 567 = some ((567, 1, .iaload, 0, 0, 0, 0), 4, 1, 0, 0, 2, 0, 0) := rfl
theorem bt_291_568 : mm_at mt_P 291 568 = some ((568, 1, .aload_n 0, 0, 0, 0, 0), 4, 1, 0, 0, 2, 0, 0) := rfl
theorem bt_291_569 : mm_at mt_P 291 569 = some ((569, 1, .iload_n 3, 0, 0, 0, 0), 4, 1, 0, 0, 2, 0, 0) := rfl
theorem bt_291_570 : mm_at mt_P 291 570 = some ((570, 1, .iconst 3, 0, 0, 0, 0), 4, 1, 0, 0, 2, 0, 0) := rfl
theorem bt_291_571 : mm_at mt_P 291 571 = some ((571, 1, .iadd, 0, 0, 0, 0), 4, 1, 0, 0, 2, 0, 0) := rfl
theorem bt_291_572 : mm_at mt_P 291 572 = some ((572, 1, .iaload, 0, 0, 0, 0), 4, 1, 0, 0, 2, 0, 0) := rfl
theorem bt_291_573 : mm_at mt_P 291 573 = some ((573, 3, .ifCond .eq 7, 0, 0, 0, 0), 4, 1, 0, 0, 2, 0, 0) := rfl
theorem bt_291_576 : mm_at mt_P 291 576 = some ((576, 1, .iconst 1, 0, 0, 0, 0), 4, 1, 0, 0, 2, 0, 0) := rfl
theorem bt_291_577 : mm_at mt_P 291 577 = some ((577, 3, .goto 4, 0, 0, 0, 0), 4, 1, 0, 0, 2, 0, 0) := rfl
theorem bt_291_580 : mm_at mt_P 291 580 = some ((580, 1, .iconst 0, 0, 0, 0, 0), 4, 1, 0, 0, 2, 0, 0) := rfl
theorem bt_291_581 : mm_at mt_P 291 581 = some ((581, 3, .invokevirtual 68, 58, 0, 0, 1658), 4, 1, 0, 0, 2, 0, 0) := rfl
theorem bt_291_584 : mm_at mt_P 291 584 = some ((584, 1, .pop, 0, 0, 0, 0), 4, 1, 0, 0, 2, 0, 0) := rfl
theorem bt_291_585 : mm_at mt_P 291 585 = some ((585, 3, .goto 867, 0, 0, 0, 0), 4, 1, 0, 0, 2, 0, 0) := rfl
theorem bt_291_588 : mm_at mt_P 291 588 = some ((588, 1, .aload_n 1, 0, 0, 0, 0), 4, 1, 0, 0, 2, 0, 0) := rfl
theorem bt_291_589 : mm_at mt_P 291 589 = some ((589, 1, .aload_n 0, 0, 0, 0, 0), 4, 1, 0, 0, 2, 0, 0) := rfl
theorem bt_291_590 : mm_at mt_P 291 590 = some ((590, 1, .iload_n 3, 0, 0, 0, 0), 4, 1, 0, 0, 2, 0, 0) := rfl
theorem bt_291_591 : mm_at mt_P 291 591 = some ((591, 1, .iconst 1, 0, 0, 0, 0), 4, 1, 0, 0, 2, 0, 0) := rfl
theorem bt_291_592 : mm_at mt_P 291 592 = some ((592, 1, .iadd, 0, 0, 0, 0), 4, 1, 0, 0, 2, 0, 0) := rfl
theorem bt_291_593 : mm_at mt_P 291 593 = some ((593, 1, .iaload, 0, 0, 0, 0), 4, 1, 0, 0, 2, 0, 0) := rfl
theorem bt_291_594 : mm_at mt_P 291 594 = some ((594, 3, .invokevirtual 69, 249, 0, 0, 918), 4, 1, 0, 0, 2, 0, 0) := rfl
theorem bt_291_597 : mm_at mt_P 291 597 = some ((597, 1, .pop, 0, 0, 0, 0), 4, 1, 0, 0, 2, 0, 0) := rfl
theorem bt_291_598 : mm_at mt_P 291 598 = some ((598, 1, .aload_n 2, 0, 0, 0, 0), 4, 1, 0, 0, 2, 0, 0) := rfl
theorem bt_291_599 : mm_at mt_P 291 599 = some ((599, 1, .aload_n 0, 0, 0, 0, 0), 4, 1, 0, 0, 2, 0, 0) := rfl
theorem bt_291_600 : mm_at mt_P 291 600 = some ((600, 1, .iload_n 3, 0, 0, 0, 0), 4, 1, 0, 0, 2, 0, 0) := rfl
theorem bt_291_601 : mm_at mt_P 291 601 = some ((601, 1, .iconst 1, 0, 0, 0, 0), 4, 1, 0, 0, 2, 0, 0) := rfl
theorem bt_291_602 : mm_at mt_P 291 602 = some ((602, 1, .iadd, 0, 0, 0, 0), 4, 1, 0, 0, 2, 0, 0) := rfl
theorem bt_291_603 : mm_at mt_P 291 603 = some ((603, 1, .iaload, 0, 0, 0, 0), 4, 1, 0, 0, 2, 0, 0) := rfl
theorem bt_291_604 : mm_at mt_P 291 604 = some ((604, 3, .invokevirtual 72, 69, 0, 0, 1668), 4, 1, 0, 0, 2, 0, 0) := rfl
theorem bt_291_607 : mm_at mt_P 291 607 = some ((607, 1, .pop, 0, 0, 0, 0), 4, 1, 0, 0, 2, 0, 0) := rfl
theorem bt_291_608 : mm_at mt_P 291 608 = some ((608, 3, .goto 844, 0, 0, 0, 0), 4, 1, 0, 0, 2, 0, 0) := rfl
theorem bt_291_611 : mm_at mt_P 291 611 = some ((611, 1, .aload_n 1, 0, 0, 0, 0), 4, 1, 0, 0, 2, 0, 0) := rfl
theorem bt_291_612 : mm_at mt_P 291 612 = some ((612, 1, .aload_n 0, 0, 0, 0, 0), 4, 1, 0, 0, 2, 0, 0) := rfl
theorem bt_291_613 : mm_at mt_P 291 613 = some ((613, 1, .iload_n 3, 0, 0, 0, 0), 4, 1, 0, 0, 2, 0, 0) := rfl
theorem bt_291_614 : mm_at mt_P 291 614 = some ((614, 1, .iconst 1, 0, 0, 0, 0), 4, 1, 0, 0, 2, 0, 0) := rfl
theorem bt_291_615 : mm_at mt_P 291 615 = some ((615, 1, .iadd, 0, 0, 0, 0), 4, 1, 0, 0, 2, 0, 0) := rfl
theorem bt_291_616 : mm_at mt_P 291 616 = some ((616, 1, .iaload, 0, 0, 0, 0), 4, 1, 0, 0, 2, 0, 0) := rfl
theorem bt_291_617 : mm_at mt_P 291 617 = some ((617, 1, .aload_n 0, 0, 0, 0, 0), 4, 1, 0, 0, 2, 0, 0) := rfl
theorem bt_291_618 : mm_at mt_P 291 618 = some ((618, 1, .iload_n 3, 0, 0, 0, 0), 4, 1, 0, 0, 2, 0, 0) := rfl
theorem bt_291_619 : mm_at mt_P 291 619 = some ((619, 1, .iconst 2, 0, 0, 0, 0), 4, 1, 0, 0, 2, 0, 0) := rfl
theorem bt_291_620 : mm_at mt_P 291 620 = some ((620, 1, .iadd, 0, 0, 0, 0), 4, 1, 0, 0, 2, 0, 0) := rfl
theorem bt_291_621 : mm_at mt_P 291 621 = some ((621, 1, .iaload, 0, 0, 0, 0), 4, 1, 0, 0, 2, 0, 0) := rfl
theorem bt_291_622 : mm_at mt_P 291 622 = some ((622, 1, .aload_n 0, 0, 0, 0, 0), 4, 1, 0, 0, 2, 0, 0) := rfl
theorem bt_291_623 : mm_at mt_P 291 623 = some ((623, 1, .iload_n 3, 0, 0, 0, 0), 4, 1, 0, 0, 2, 0, 0) := rfl
theorem bt_291_624 : mm_at mt_P 291 624 = some ((624, 1, .iconst 3, 0, 0, 0, 0), 4, 1, 0, 0, 2, 0, 0) := rfl
theorem bt_291_625 : mm_at mt_P 291 625 = some ((625, 1, .iadd, 0, 0, 0, 0), 4, 1, 0, 0, 2, 0, 0) := rfl
theorem bt_291_626 : mm_at mt_P 291 626 = some ((626, 1, .iaload, 0, 0, 0, 0), 4, 1, 0, 0, 2, 0, 0) := rfl
theorem bt_291_627 : mm_at mt_P 291 627 = some ((627, 3, .ifCond .eq 7, 0, 0, 0, 0), 4, 1, 0, 0, 2, 0, 0) := rfl
theorem bt_291_630 : mm_at mt_P 291 630 = some ((630, 1, .iconst 1, 0, 0, 0, 0), 4, 1, 0, 0, 2, 0, 0) := rfl
theorem bt_291_631 : mm_at mt_P 291 631 = some ((631, 3, .goto 4, 0, 0, 0, 0), 4, 1, 0, 0, 2, 0, 0) := rfl
theorem bt_291_634 : mm_at mt_P 291 634 = some ((634, 1, .iconst 0, 0, 0, 0, 0), 4, 1, 0, 0, 2, 0, 0) := rfl
theorem bt_291_635 : mm_at mt_P 291 635 = some ((635, 3, .invokevirtual 73, 246, 0, 0, 927), 4, 1, 0, 0, 2, 0, 0) := rfl
theorem bt_291_638 : mm_at mt_P 291 638 = some ((638, 1, .pop, 0, 0, 0, 0), 4, 1, 0, 0, 2, 0, 0) := rfl
theorem bt_291_639 : mm_at mt_P 291 639 = some ((639, 1, .aload_n 2, 0, 0, 0, 0), 4, 1, 0, 0, 2, 0, 0) := rfl
theorem bt_291_640 : mm_at mt_P 291 640 = some ((640, 1, .aload_n 0, 0, 0, 0, 0), 4, 1, 0, 0, 2, 0, 0) := rfl
theorem bt_291_641 : mm_at mt_P 291 641 = some ((641, 1, .iload_n 3, 0, 0, 0, 0), 4, 1, 0, 0, 2, 0, 0) := rfl
theorem bt_291_642 : mm_at mt_P 291 642 = some ((642, 1, .iconst 1, 0, 0, 0, 0), 4, 1, 0, 0, 2, 0, 0) := rfl
theorem bt_291_643 : mm_at mt_P 291 643 = some ((643, 1, .iadd, 0, 0, 0, 0), 4, 1, 0, 0, 2, 0, 0) := rfl
theorem bt_291_644 : mm_at mt_P 291 644 = some ((644, 1, .iaload, 0, 0, 0, 0), 4, 1, 0, 0, 2, 0, 0) := rfl
theorem bt_291_645 : mm_at mt_P 291 645 = some ((645, 1, .aload_n 0, 0, 0, 0, 0), 4, 1, 0, 0, 2, 0, 0) := rfl
theorem bt_291_646 : mm_at mt_P 291 646 = some ((646, 1, .iload_n 3, 0, 0, 0, 0), 4, 1, 0, 0, 2, 0, 0) := rfl
theorem bt_291_647 : mm_at mt_P 291 647 = some ((647, 1, .iconst 2, 0, 0, 0, 0), 4, 1, 0, 0, 2, 0, 0) := rfl
theorem bt_291_648 : mm_at mt_P 291 648 = some ((648, 1, .iadd, 0, 0, 0, 0), 4, 1, 0, 0, 2, 0, 0) := rfl
theorem bt_291_649 : mm_at mt_P 291 649 = some ((649, 1, .iaload, 0, 0, 0, 0), 4, 1, 0, 0, 2, 0, 0) := rfl
theorem bt_291_650 : mm_at mt_P 291 650 = some ((650, 1, .aload_n 0, 0, 0, 0, 0), 4, 1, 0, 0, 2, 0, 0) := rfl
theorem bt_291_651 : mm_at mt_P 291 651 = some ((651, 1, .iload_n 3, 0, 0, 0, 0), 4, 1, 0, 0, 2, 0, 0) := rfl
theorem bt_291_652 : mm_at mt_P 291 652 = some ((652, 1, .iconst 3, 0, 0, 0, 0), 4, 1, 0, 0, 2, 0, 0) := rfl
theorem bt_291_653 : mm_at mt_P 291 653 = some ((653, 1, .iadd, 0, 0, 0, 0), 4, 1, 0, 0, 2, 0, 0) := rfl
theorem bt_291_654 : mm_at mt_P 291 654 = some ((654, 1, .iaload, 0, 0, 0, 0), 4, 1, 0, 0, 2, 0, 0) := rfl
theorem bt_291_655 : mm_at mt_P 291 655 = some ((655, 3, .ifCond .eq 7, 0, 0, 0, 0), 4, 1, 0, 0, 2, 0, 0) := rfl
theorem bt_291_658 : mm_at mt_P 291 658 = some ((658, 1, .iconst 1, 0, 0, 0, 0), 4, 1, 0, 0, 2, 0, 0) := rfl
theorem bt_291_659 : mm_at mt_P 291 659 = some ((659, 3, .goto 4, 0, 0, 0, 0), 4, 1, 0, 0, 2, 0, 0) := rfl
theorem bt_291_662 : mm_at mt_P 291 662 = some ((662, 1, .iconst 0, 0, 0, 0, 0), 4, 1, 0, 0, 2, 0, 0) := rfl
theorem bt_291_663 : mm_at mt_P 291 663 = some ((663, 3, .invokevirtual 76, 64, 0, 0, 1672), 4, 1, 0, 0, 2, 0, 0) := rfl
theorem bt_291_666 : mm_at mt_P 291 666 = some ((666, 1, .pop, 0, 0, 0, 0), 4, 1, 0, 0, 2, 0, 0) := rfl
theorem bt_291_667 : mm_at mt_P 291 667 = some ((667, 3, .goto 785, 0, 0, 0, 0), 4, 1, 0, 0, 2, 0, 0) := rfl
theorem bt_291_670 : mm_at mt_P 291 670 = some ((670, 1, .aload_n 1, 0, 0, 0, 0), 4, 1, 0, 0, 2, 0, 0) := rfl
theorem bt_291_671 : mm_at mt_P 291 671 = some ((671, 1, .aload_n 0, 0, 0, 0, 0), 4, 1, 0, 0, 2, 0, 0) := rfl
theorem bt_291_672 : mm_at mt_P 291 672 = some ((672, 1, .iload_n 3, 0, 0, 0, 0), 4, 1, 0, 0, 2, 0, 0) := rfl
theorem bt_291_673 : mm_at mt_P 291 673 = some ((673, 1, .iconst 1, 0, 0, 0, 0), 4, 1, 0, 0, 2, 0, 0) := rfl
theorem bt_291_674 : mm_at mt_P 291 674 = some ((674, 1, .iadd, 0, 0, 0, 0), 4, 1, 0, 0, 2, 0, 0) := rfl
theorem bt_291_675 : mm_at mt_P 291 675 = some ((675, 1, .iaload, 0, 0, 0, 0), 4, 1, 0, 0, 2, 0, 0) := rfl
theorem bt_291_676 : mm_at mt_P 291 676 = some ((676, 1, .aload_n 0, 0, 0, 0, 0), 4, 1, 0, 0, 2, 0, 0) := rfl
theorem bt_291_677 : mm_at mt_P 291 677 = some ((677, 1, .iload_n 3, 0, 0, 0, 0), 4, 1, 0, 0, 2, 0, 0) := rfl
theorem bt_291_678 : mm_at mt_P 291 678 = some ((678, 1, .iconst 2, 0, 0, 0, 0), 4, 1, 0, 0, 2, 0, 0) := rfl
theorem bt_291_679 : mm_at mt_P 291 679 = some ((679, 1, .iadd, 0, 0, 0, 0), 4, 1, 0, 0, 2, 0, 0) := rfl
theorem bt_291_680 : mm_at mt_P 291 680 = some ((680, 1, .iaload, 0, 0, 0, 0), 4, 1, 0, 0, 2, 0, 0) := rfl
theorem bt_291_681 : mm_at mt_P 291 681 = some ((681, 1, .aload_n 0, 0, 0, 0, 0), 4, 1, 0, 0, 2, 0, 0) := rfl
theorem bt_291_682 : mm_at mt_P 291 682 = some ((682, 1, .iload_n 3, 0, 0, 0, 0), 4, 1, 0, 0, 2, 0, 0) := rfl
theorem bt_291_683 : mm_at mt_P 291 683 = some ((683, 1, .iconst 3, 0, 0, 0, 0), 4, 1, 0, 0, 2, 0, 0) := rfl
theorem bt_291_684 : mm_at mt_P 291 684 = some ((684, 1, .iadd, 0, 0, 0, 0), 4, 1, 0, 0, 2, 0, 0) := rfl
theorem bt_291_685 : mm_at mt_P 291 685 = some ((685, 1, .iaload, 0, 0, 0, 0), 4, 1, 0, 0, 2, 0, 0) := rfl
theorem bt_291_686 : mm_at mt_P 291 686 = some ((686, 3, .ifCond .eq 7, 0, 0, 0, 0), 4, 1, 0, 0, 2, 0, 0) := rfl
theorem bt_291_689 : mm_at mt_P 291 689 = some ((689, 1, .iconst 1, 0, 0, 0, 0), 4, 1, 0, 0, 2, 0, 0) := rfl
theorem bt_291_690 : mm_at mt_P 291 690 = some ((690, 3, .goto 4, 0, 0, 0, 0), 4, 1, 0, 0, 2, 0, 0) := rfl
theorem bt_291_693 : mm_at mt_P 291 693 = some ((693, 1, .iconst 0, 0, 0, 0, 0), 4, 1, 0, 0, 2, 0, 0) := rfl
theorem bt_291_694 : mm_at mt_P 291 694 = some ((694, 3, .invokevirtual 77, 247, 0, 0, 951), 4, 1, 0, 0, 2, 0, 0) := rfl
theorem bt_291_697 : mm_at mt_P 291 697 = some ((697, 1, .pop, 0, 0, 0, 0), 4, 1, 0, 0, 2, 0, 0) := rfl
theorem bt_291_698 : mm_at mt_P 291 698 = some ((698, 1, .aload_n 2, 0, 0, 0, 0), 4, 1, 0, 0, 2, 0, 0) := rfl
theorem bt_291_699 : mm_at mt_P 291 699 = some ((699, 1, .aload_n 0, 0, 0, 0, 0), 4, 1, 0, 0, 2, 0, 0) := rfl
theorem bt_291_700 : mm_at mt_P 291 700 = some ((700, 1, .iload_n 3, 0, 0, 0, 0), 4, 1, 0, 0, 2, 0, 0) := rfl
theorem bt_291_701 : mm_at mt_P 291 701 = some ((701, 1, .iconst 1, 0, 0, 0, 0), 4, 1, 0, 0, 2, 0, 0) := rfl
theorem bt_291_702 : mm_at mt_P 291 702 = some ((702, 1, .iadd, 0, 0, 0, 0), 4, 1, 0, 0, 2, 0, 0) := rfl
theorem bt_291_703 : mm_at mt_P 291 703 = some ((703, 1, .iaload, 0, 0, 0, 0), 4, 1, 0, 0, 2, 0, 0) := rfl
theorem bt_291_704 : mm_at mt_P 291 704 = some ((704, 1, .aload_n 0, 0, 0, 0, 0), 4, 1, 0, 0, 2, 0, 0) := rfl
theorem bt_291_705 : mm_at mt_P 291 705 = some ((705, 1, .iload_n 3, 0, 0, 0, 0), 4, 1, 0, 0, 2, 0, 0) := rfl
theorem bt_291_706 : mm_at mt_P 291 706 = some ((706, 1, .iconst 2, 0, 0, 0, 0), 4, 1, 0, 0, 2, 0, 0) := rfl
theorem bt_291_707 : mm_at mt_P 291 707 = some ((707, 1, .iadd, 0, 0, 0, 0), 4, 1, 0, 0, 2, 0, 0) := rfl
theorem bt_291_708 : mm_at mt_P 291 708 = some ((708, 1, .iaload, 0, 0, 0, 0), 4, 1, 0, 0, 2, 0, 0) := rfl
theorem bt_291_709 : mm_at mt_P 291 709 = some ((709, 1, .aload_n 0, 0, 0, 0, 0), 4, 1, 0, 0, 2, 0, 0) := rfl
theorem bt_291_710 : mm_at mt_P 291 710 = some ((710, 1, .iload_n 3, 0, 0, 0, 0), 4, 1, 0, 0, 2, 0, 0) := rfl
theorem bt_291_711 : mm_at mt_P 291 711 = some ((711, 1, .iconst 3, 0, 0, 0, 0), 4, 1, 0, 0, 2, 0, 0) := rfl
theorem bt_291_712 : mm_at mt_P 291 712 = some ((712, 1, .iadd, 0, 0, 0, 0), 4, 1, 0, 0, 2, 0, 0) := rfl
theorem bt_291_713 : mm_at mt_P 291 713 = some ((713, 1, .iaload, 0, 0, 0, 0), 4, 1, 0, 0, 2, 0, 0) := rfl
theorem bt_291_714 : mm_at mt_P 291 714 = some ((714, 3, .ifCond .eq 7, 0, 0, 0, 0), 4, 1, 0, 0, 2, 0, 0) := rfl
theorem bt_291_717 : mm_at mt_P 291 717 = some ((717, 1, .iconst 1, 0, 0, 0, 0), 4, 1, 0, 0, 2, 0, 0) := rfl
theorem bt_291_718 : mm_at mt_P 291 718 = some ((718, 3, .goto 4, 0, 0, 0, 0), 4, 1, 0, 0, 2, 0, 0) := rfl
theorem bt_291_721 : mm_at mt_P 291 721 = some ((721, 1, .iconst 0, 0, 0, 0, 0), 4, 1, 0, 0, 2, 0, 0) := rfl
theorem bt_291_722 : mm_at mt_P 291 722 = some ((722, 3, .invokevirtual 80, 66, 0, 0, 1699), 4, 1, 0, 0, 2, 0, 0) := rfl
theorem bt_291_725 : mm_at mt_P 291 725 = some ((725, 1, .pop, 0, 0, 0, 0), 4, 1, 0, 0, 2, 0, 0) := rfl
theorem bt_291_726 : mm_at mt_P 291 726 = some ((726, 3, .goto 726, 0, 0, 0, 0), 4, 1, 0, 0, 2, 0, 0) := rfl
theorem bt_291_729 : mm_at mt_P 291 729 = some ((729, 1, .aload_n 1, 0, 0, 0, 0), 4, 1, 0, 0, 2, 0, 0) := rfl
theorem bt_291_730 : mm_at mt_P 291 730 = some ((730, 1, .aload_n 0, 0, 0, 0, 0), 4, 1, 0, 0, 2, 0, 0) := rfl
theorem bt_291_731 : mm_at mt_P 291 731 = some ((731, 1, .iload_n 3, 0, 0, 0, 0), 4, 1, 0, 0, 2, 0, 0) := rfl
theorem bt_291_732 : mm_at mt_P 291 732 = some ((732, 1, .iconst 1, 0, 0, 0, 0), 4, 1, 0, 0, 2, 0, 0) := rfl
theorem bt_291_733 : mm_at mt_P 291 733 = some ((733, 1, .iadd, 0, 0, 0, 0), 4, 1, 0, 0, 2, 0, 0) := rfl
theorem bt_291_734 : mm_at mt_P 291 734 = some ((734, 1, .iaload, 0, 0, 0, 0), 4, 1, 0, 0, 2, 0, 0) := rfl
theorem bt_291_735 : mm_at mt_P 291 735 = some ((735, 1, .aload_n 0, 0, 0, 0, 0), 4, 1, 0, 0, 2, 0, 0) := rfl
theorem bt_291_736 : mm_at mt_P 291 736 = some ((736, 1, .iload_n 3, 0, 0, 0, 0), 4, 1, 0, 0, 2, 0, 0) := rfl
theorem bt_291_737 : mm_at mt_P 291 737 = some ((737, 1, .iconst 2, 0, 0, 0, 0), 4, 1, 0, 0, 2, 0, 0) := rfl
theorem bt_291_738 : mm_at mt_P 291 738 = some ((738, 1, .iadd, 0, 0, 0, 0), 4, 1, 0, 0, 2, 0, 0) := rfl
theorem bt_291_739 : mm_at mt_P 291 739 = some ((739, 1, .iaload, 0, 0, 0, 0), 4, 1, 0, 0, 2, 0, 0) := rfl
theorem bt_291_740 : mm_at mt_P 291 740 = some ((740, 1, .aload_n 0, 0, 0, 0, 0), 4, 1, 0, 0, 2, 0, 0) := rfl
theorem bt_291_741 : mm_at mt_P 291 741 = some ((741, 1, .iload_n 3, 0, 0, 0, 0), 4, 1, 0, 0, 2, 0, 0) := rfl
theorem bt_291_742 : mm_at mt_P 291 742 = some ((742, 1, .iconst 3, 0, 0, 0, 0), 4, 1, 0, 0, 2, 0, 0) := rfl
theorem bt_291_743 : mm_at mt_P 291 743 = some ((743, 1, .iadd, 0, 0, 0, 0), 4, 1, 0, 0, 2, 0, 0) := rfl
theorem bt_291_744 : mm_at mt_P 291 744 = some ((744, 1, .iaload, 0, 0, 0, 0), 4, 1, 0, 0, 2, 0, 0) := rfl
theorem bt_291_745 : mm_at mt_P 291 745 = some ((745, 3, .ifCond .eq 7, 0, 0, 0, 0), 4, 1, 0, 0, 2, 0, 0) := rfl
theorem bt_291_748 : mm_at mt_P 291 748 = some ((748, 1, .iconst 1, 0, 0, 0, 0), 4, 1, 0, 0, 2, 0, 0) := rfl
theorem bt_291_749 : mm_at mt_P 291 749 = some ((749, 3, .goto 4, 0, 0, 0, 0), 4, 1, 0, 0, 2, 0, 0) := rfl
theorem bt_291_752 : mm_at mt_P 291 752 = some ((752, 1, .iconst 0, 0, 0, 0, 0), 4, 1, 0, 0, 2, 0, 0) := rfl
theorem bt_291_753 : mm_at mt_P 291 753 = some ((753, 3, .invokevirtual 81, 255, 0, 0, 960), 4, 1, 0, 0, 2, 0, 0) := rfl
theorem bt_291_756 : mm_at mt_P 291 756 = some ((756, 1, .pop, 0, 0, 0, 0), 4, 1, 0, 0, 2, 0, 0) := rfl
theorem bt_291_757 : mm_at mt_P 291 757 = some ((757, 1, .aload_n 2, 0, 0, 0, 0), 4, 1, 0, 0, 2, 0, 0) := rfl
theorem bt_291_758 : mm_at mt_P 291 758 = some ((758, 1, .aload_n 0, 0, 0, 0, 0), 4, 1, 0, 0, 2, 0, 0) := rfl
theorem bt_291_759 : mm_at mt_P 291 759 = some ((759, 1, .iload_n 3, 0, 0, 0, 0), 4, 1, 0, 0, 2, 0, 0) := rfl
theorem bt_291_760 : mm_at mt_P 291 760 = some ((760, 1, .iconst 1, 0, 0, 0, 0), 4, 1, 0, 0, 2, 0, 0) := rfl
theorem bt_291_761 : mm_at mt_P 291 761 = some ((761, 1, .iadd, 0, 0, 0, 0), 4, 1, 0, 0, 2, 0, 0) := rfl
theorem bt_291_762 : mm_at mt_P 291 762 = some ((762, 1, .iaload, 0, 0, 0, 0), 4, 1, 0, 0, 2, 0, 0) := rfl
theorem bt_291_763 : mm_at mt_P 291 763 = some ((763, 1, .aload_n 0, 0, 0, 0, 0), 4, 1, 0, 0, 2, 0, 0) := rfl
theorem bt_291_764 : mm_at mt_P 291 764 = some ((764, 1, .iload_n 3, 0, 0, 0, 0), 4, 1, 0, 0, 2, 0, 0) := rfl
theorem bt_291_765 : mm_at mt_P 291 765 = some ((765, 1, .iconst 2, 0, 0, 0, 0), 4, 1, 0, 0, 2, 0, 0) := rfl
theorem bt_291_766 : mm_at mt_P 291 766 = some ((766, 1, .iadd, 0, 0, 0, 0), 4, 1, 0, 0, 2, 0, 0) := rfl
theorem bt_291_767 : mm_at mt_P 291 767 = some ((767, 1, .iaload, 0, 0, 0, 0), 4, 1, 0, 0, 2, 0, 0) := rfl
theorem bt_291_768 : mm_at mt_P 291 768 = some ((768, 1, .aload_n 0, 0, 0, 0, 0), 4, 1, 0, 0, 2, 0, 0) := rfl
theorem bt_291_769 : mm_at mt_P 291 769 = some ((769, 1, .iload_n 3, 0, 0, 0, 0), 4, 1, 0, 0, 2, 0, 0) := rfl
theorem bt_291_770 : mm_at mt_P 291 770 = some ((770, 1, .iconst 3, 0, 0, 0, 0), 4, 1, 0, 0, 2, 0, 0) := rfl
theorem bt_291_771 : mm_at mt_P 291 771 = some ((771, 1, .iadd, 0, 0, 0, 0), 4, 1, 0, 0, 2, 0, 0) := rfl
theorem bt_291_772 : mm_at mt_P 291 772 = some ((772, 1, .iaload, 0, 0, 0, 0), 4, 1, 0, 0, 2, 0, 0) := rfl
theorem bt_291_773 : mm_at mt_P 291 773 = some ((773, 3, .ifCond .eq 7, 0, 0, 0, 0), 4, 1, 0, 0, 2, 0, 0) := rfl
theorem bt_291_776 : mm_at mt_P 291 776 = some ((776, 1, .iconst 1, 0, 0, 0, 0), 4, 1, 0, 0, 2, 0, 0) := rfl
theorem bt_291_777 : mm_at mt_P 291 777 = some ((777, 3, .goto 4, 0, 0, 0, 0), 4, 1, 0, 0, 2, 0, 0) := rfl
theorem bt_291_780 : mm_at mt_P 291 780 = some ((780, 1, .iconst 0, 0, 0, 0, 0), 4, 1, 0, 0, 2, 0, 0) := rfl
theorem bt_291_781 : mm_at mt_P 291 781 = some ((781, 3, .invokevirtual 84, 79, 0, 0, 1703), 4, 1, 0, 0, 2, 0, 0) := rfl
theorem bt_291_784 : mm_at mt_P 291 784 = some ((784, 1, .pop, 0, 0, 0, 0), 4, 1, 0, 0, 2, 0, 0) := rfl
theorem bt_291_785 : mm_at mt_P 291 785 = some ((785, 3, .goto 667, 0, 0, 0, 0), 4, 1, 0, 0, 2, 0, 0) := rfl
theorem bt_291_788 : mm_at mt_P 291 788 = some ((788, 1, .aload_n 1, 0, 0, 0, 0), 4, 1, 0, 0, 2, 0, 0) := rfl
theorem bt_291_789 : mm_at mt_P 291 789 = some ((789, 1, .aload_n 0, 0, 0, 0, 0), 4, 1, 0, 0, 2, 0, 0) := rfl
theorem bt_291_790 : mm_at mt_P 291 790 = some ((790, 1, .iload_n 3, 0, 0, 0, 0), 4, 1, 0, 0, 2, 0, 0) := rfl
theorem bt_291_791 : mm_at mt_P 291 791 = some ((791, 1, .iconst 1, 0, 0, 0, 0), 4, 1, 0, 0, 2, 0, 0) := rfl
theorem bt_291_792 : mm_at mt_P 291 792 = some ((792, 1, .iadd, 0, 0, 0, 0), 4, 1, 0, 0, 2, 0, 0) := rfl
theorem bt_291_793 : mm_at mt_P 291 793 = some ((793, 1, .iaload, 0, 0, 0, 0), 4, 1, 0, 0, 2, 0, 0) := rfl
theorem bt_291_794 : mm_at mt_P 291 794 = some ((794, 1, .aload_n 0, 0, 0, 0, 0), 4, 1, 0, 0, 2, 0, 0) := rfl
theorem bt_291_795 : mm_at mt_P 291 795 = some ((795, 1, .iload_n 3, 0, 0, 0, 0), 4, 1, 0, 0, 2, 0, 0) := rfl
theorem bt_291_796 : mm_at mt_P 291 796 = some ((796, 1, .iconst 2, 0, 0, 0, 0), 4, 1, 0, 0, 2, 0, 0) := rfl
theorem bt_291_797 : mm_at mt_P 291 797 = some ((797, 1, .iadd, 0, 0, 0, 0), 4, 1, 0, 0, 2, 0, 0) := rfl
theorem bt_291_798 : mm_at mt_P 291 798 = some ((798, 1, .iaload, 0, 0, 0, 0), 4, 1, 0, 0, 2, 0, 0) := rfl
theorem bt_291_799 : mm_at mt_P 291 799 = some ((799, 3, .invokevirtual 85, 258, 0, 0, 974), 4, 1, 0, 0, 2, 0, 0) := rfl
theorem bt_291_802 : mm_at mt_P 291 802 = some ((802, 1, .pop, 0, 0, 0, 0), 4, 1, 0, 0, 2, 0, 0) := rfl
theorem bt_291_803 : mm_at mt_P 291 803 = some ((803, 1, .aload_n 2, 0, 0, 0, 0), 4, 1, 0, 0, 2, 0, 0) := rfl
theorem bt_291_804 : mm_at mt_P 291 804 = some ((804, 1, .aload_n 0, 0, 0, 0, 0), 4, 1, 0, 0, 2, 0, 0) := rfl
theorem bt_291_805 : mm_at mt_P 291 805 = some ((805, 1, .iload_n 3, 0, 0, 0, 0), 4, 1, 0, 0, 2, 0, 0) := rfl
theorem bt_291_806 : mm_at mt_P 291 806 = some ((806, 1, .iconst 1, 0, 0, 0, 0), 4, 1, 0, 0, 2, 0, 0) := rfl
theorem bt_291_807 : mm_at mt_P 291 807 = some ((807, 1, .iadd, 0, 0, 0, 0), 4, 1, 0, 0, 2, 0, 0) := rfl
theorem bt_291_808 : mm_at mt_P 291 808 = some ((808, 1, .iaload, 0, 0, 0, 0), 4, 1, 0, 0, 2, 0, 0) := rfl
theorem bt_291_809 : mm_at mt_P 291 809 = some ((809, 1, .aload_n 0, 0, 0, 0, 0), 4, 1, 0, 0, 2, 0, 0) := rfl
theorem bt_291_810 : mm_at mt_P 291 810 = some ((810, 1, .iload_n 3, 0, 0, 0, 0), 4, 1, 0, 0, 2, 0, 0) := rfl
theorem bt_291_811 : mm_at mt_P 291 811 = some ((811, 1, .iconst 2, 0, 0, 0, 0), 4, 1, 0, 0, 2, 0, 0) := rfl
theorem bt_291_812 : mm_at mt_P 291 812 = some ((812, 1, .iadd, 0, 0, 0, 0), 4, 1, 0, 0, 2, 0, 0) := rfl
theorem bt_291_813 : mm_at mt_P 291 813 = some ((813, 1, .iaload, 0, 0, 0, 0), 4, 1, 0, 0, 2, 0, 0) := rfl
theorem bt_291_814 : mm_at mt_P 291 814 = some ((814, 3, .invokevirtual 88, 84, 0, 0, 1707), 4, 1, 0, 0, 2, 0, 0) := rfl
theorem bt_291_817 : mm_at mt_P 291 817 = some ((817, 1, .pop, 0, 0, 0, 0), 4, 1, 0, 0, 2, 0, 0) := rfl
theorem bt_291_818 : mm_at mt_P 291 818 = some ((818, 3, .goto 634, 0, 0, 0, 0), 4, 1, 0, 0, 2, 0, 0) := rfl
theorem bt_291_821 : mm_at mt_P 291 821 = some ((821, 1, .aload_n 1, 0, 0, 0, 0), 4, 1, 0, 0, 2, 0, 0) := rfl
theorem bt_291_822 : mm_at mt_P 291 822 = some ((822, 1, .aload_n 0, 0, 0, 0, 0), 4, 1, 0, 0, 2, 0, 0) := rfl
theorem bt_291_823 : mm_at mt_P 291 823 = some ((823, 1, .iload_n 3, 0, 0, 0, 0), 4, 1, 0, 0, 2, 0, 0) := rfl
theorem bt_291_824 : mm_at mt_P 291 824 = some ((824, 1, .iconst 1, 0, 0, 0, 0), 4, 1, 0, 0, 2, 0, 0) := rfl
theorem bt_291_825 : mm_at mt_P 291 825 = some ((825, 1, .iadd, 0, 0, 0, 0), 4, 1, 0, 0, 2, 0, 0) := rfl
theorem bt_291_826 : mm_at mt_P 291 826 = some ((826, 1, .iaload, 0, 0, 0, 0), 4, 1, 0, 0, 2, 0, 0) := rfl
theorem bt_291_827 : mm_at mt_P 291 827 = some ((827, 1, .aload_n 0, 0, 0, 0, 0), 4, 1, 0, 0, 2, 0, 0) := rfl
theorem bt_291_828 : mm_at mt_P 291 828 = some ((828, 1, .iload_n 3, 0, 0, 0, 0), 4, 1, 0, 0, 2, 0, 0) := rfl
theorem bt_291_829 : mm_at mt_P 291 829 = some ((829, 1, .iconst 2, 0, 0, 0, 0), 4, 1, 0, 0, 2, 0, 0) := rfl
theorem bt_291_830 : mm_at mt_P 291 830 = some ((830, 1, .iadd, 0, 0, 0, 0), 4, 1, 0, 0, 2, 0, 0) := rfl
theorem bt_291_831 : mm_at mt_P 291 831 = some ((831, 1, .iaload, 0, 0, 0, 0), 4, 1, 0, 0, 2, 0, 0) := rfl
theorem bt_291_832 : mm_at mt_P 291 832 = some ((832, 3, .ifCond .eq 7, 0, 0, 0, 0), 4, 1, 0, 0, 2, 0, 0) := rfl
theorem bt_291_835 : mm_at mt_P 291 835 = some ((835, 1, .iconst 1, 0, 0, 0, 0), 4, 1, 0, 0, 2, 0, 0) := rfl
theorem bt_291_836 : mm_at mt_P 291 836 = some ((836, 3, .goto 4, 0, 0, 0, 0), 4, 1, 0, 0, 2, 0, 0) := rfl
theorem bt_291_839 : mm_at mt_P 291 839 = some ((839, 1, .iconst 0, 0, 0, 0, 0), 4, 1, 0, 0, 2, 0, 0) := rfl
theorem bt_291_840 : mm_at mt_P 291 840 = some ((840, 3, .invokevirtual 89, 257, 0, 0, 1005), 4, 1, 0, 0, 2, 0, 0) := rfl
theorem bt_291_843 : mm_at mt_P 291 843 = some ((843, 1, .pop, 0, 0, 0, 0), 4, 1, 0, 0, 2, 0, 0) := rfl
theorem bt_291_844 : mm_at mt_P 291 844 = some ((844, 1, .aload_n 2, 0, 0, 0, 0), 4, 1, 0, 0, 2, 0, 0) := rfl
theorem bt_291_845 : mm_at mt_P 291 845 = some ((845, 1, .aload_n 0, 0, 0, 0, 0), 4, 1, 0, 0, 2, 0, 0) := rfl
theorem bt_291_846 : mm_at mt_P 291 846 = some ((846, 1, .iload_n 3, 0, 0, 0, 0), 4, 1, 0, 0, 2, 0, 0) := rfl
theorem bt_291_847 : mm_at mt_P 291 847 = some ((847, 1, .iconst 1, 0, 0, 0, 0), 4, 1, 0, 0, 2, 0, 0) := rfl
theorem bt_291_848 : mm_at mt_P 291 848 = some ((848, 1, .iadd, 0, 0, 0, 0), 4, 1, 0, 0, 2, 0, 0) := rfl
theorem bt_291_849 : mm_at mt_P 291 849 = some ((849, 1, .iaload, 0, 0, 0, 0), 4, 1, 0, 0, 2, 0, 0) := rfl
theorem bt_291_850 : mm_at mt_P 291 850 = some ((850, 1, .aload_n 0, 0, 0, 0, 0), 4, 1, 0, 0, 2, 0, 0) := rfl
theorem bt_291_851 : mm_at mt_P 291 851 = some ((851, 1, .iload_n 3, 0, 0, 0, 0), 4, 1, 0, 0, 2, 0, 0) := rfl
theorem bt_291_852 : mm_at mt_P 291 852 = some ((852, 1, .iconst 2, 0, 0, 0, 0), 4, 1, 0, 0, 2, 0, 0) := rfl
theorem bt_291_853 : mm_at mt_P 291 853 = some ((853, 1, .iadd, 0, 0, 0, 0), 4, 1, 0, 0, 2, 0, 0) := rfl
theorem bt_291_854 : mm_at mt_P 291 854 = some ((854, 1, .iaload, 0, 0, 0, 0), 4, 1, 0, 0, 2, 0, 0) := rfl
theorem bt_291_855 : mm_at mt_P 291 855 = some ((855, 3, .ifCond .eq 7, 0, 0, 0, 0), 4, 1, 0, 0, 2, 0, 0) := rfl
theorem bt_291_858 : mm_at mt_P 291 858 = some ((858, 1, .iconst 1, 0, 0, 0, 0), 4, 1, 0, 0, 2, 0, 0) := rfl
theorem bt_291_859 : mm_at mt_P 291 859 = some ((859, 3, .goto 4, 0, 0, 0, 0), 4, 1, 0, 0, 2, 0, 0) := rfl
theorem bt_291_862 : mm_at mt_P 291 862 = some ((862, 1, .iconst 0, 0, 0, 0, 0), 4, 1, 0, 0, 2, 0, 0) := rfl
theorem bt_291_863 : mm_at mt_P 291 863 = some ((863, 3, .invokevirtual 93, 81, 0, 0, 1731), 4, 1, 0, 0, 2, 0, 0) := rfl
theorem bt_291_866 : mm_at mt_P 291 866 = some ((866, 1, .pop, 0, 0, 0, 0), 4, 1, 0, 0, 2, 0, 0) := rfl
theorem bt_291_867 : mm_at mt_P 291 867 = some ((867, 3, .goto 585, 0, 0, 0, 0), 4, 1, 0, 0, 2, 0, 0) := rfl
theorem bt_291_870 : mm_at mt_P 291 870 = some ((870, 1, .aload_n 1, 0, 0, 0, 0), 4, 1, 0, 0, 2, 0, 0) := rfl
theorem bt_291_871 : mm_at mt_P 291 871 = some ((871, 1, .aload_n 0, 0, 0, 0, 0), 4, 1, 0, 0, 2, 0, 0) := rfl
theorem bt_291_872 : mm_at mt_P 291 872 = some ((872, 1, .iload_n 3, 0, 0, 0, 0), 4, 1, 0, 0, 2, 0, 0) := rfl
theorem bt_291_873 : mm_at mt_P 291 873 = some ((873, 1, .iconst 1, 0, 0, 0, 0), 4, 1, 0, 0, 2, 0, 0) := rfl
theorem bt_291_874 : mm_at mt_P 291 874 = some ((874, 1, .iadd, 0, 0, 0, 0), 4, 1, 0, 0, 2, 0, 0) := rfl
theorem bt_291_875 : mm_at mt_P 291 875 = some ((875, 1, .iaload, 0, 0, 0, 0), 4, 1, 0, 0, 2, 0, 0) := rfl
theorem bt_291_876 : mm_at mt_P 291 876 = some ((876, 3, .invokevirtual 94, 256, 0, 0, 1013), 4, 1, 0, 0, 2, 0, 0) := rfl
theorem bt_291_879 : mm_at mt_P 291 879 = some ((879, 1, .pop, 0, 0, 0, 0), 4, 1, 0, 0, 2, 0, 0) := rfl
theorem bt_291_880 : mm_at mt_P 291 880 = some ((880, 1, .aload_n 2, 0, 0, 0, 0), 4, 1, 0, 0, 2, 0, 0) := rfl
theorem bt_291_881 : mm_at mt_P 291 881 = some ((881, 1, .aload_n 0, 0, 0, 0, 0), 4, 1, 0, 0, 2, 0, 0) := rfl
theorem bt_291_882 : mm_at mt_P 291 882 = some ((882, 1, .iload_n 3, 0, 0, 0, 0), 4, 1, 0, 0, 2, 0, 0) := rfl
theorem bt_291_883 : mm_at mt_P 291 883 = some ((883, 1, .iconst 1, 0, 0, 0, 0), 4, 1, 0, 0, 2, 0, 0) := rfl
theorem bt_291_884 : mm_at mt_P 291 884 = some ((884, 1, .iadd, 0, 0, 0, 0), 4, 1, 0, 0, 2, 0, 0) := rfl
theorem bt_291_885 : mm_at mt_P 291 885 = some ((885, 1, .iaload, 0, 0, 0, 0), 4, 1, 0, 0, 2, 0, 0) := rfl
theorem bt_291_886 : mm_at mt_P 291 886 = some ((886, 3, .invokevirtual 97, 80, 0, 0, 1735), 4, 1, 0, 0, 2, 0, 0) := rfl
theorem bt_291_889 : mm_at mt_P 291 889 = some ((889, 1, .pop, 0, 0, 0, 0), 4, 1, 0, 0, 2, 0, 0) := rfl
theorem bt_291_890 : mm_at mt_P 291 890 = some ((890, 3, .goto 562, 0, 0, 0, 0), 4, 1, 0, 0, 2, 0, 0) := rfl
theorem bt_291_893 : mm_at mt_P 291 893 = some ((893, 1, .aload_n 1, 0, 0, 0, 0), 4, 1, 0, 0, 2, 0, 0) := rfl
theorem bt_291_894 : mm_at mt_P 291 894 = some ((894, 1, .aload_n 0, 0, 0, 0, 0), 4, 1, 0, 0, 2, 0, 0) := rfl
theorem bt_291_895 : mm_at mt_P 291 895 = some ((895, 1, .iload_n 3, 0, 0, 0, 0), 4, 1, 0, 0, 2, 0, 0) := rfl
theorem bt_291_896 : mm_at mt_P 291 896 = some ((896, 1, .iconst 1, 0, 0, 0, 0), 4, 1, 0, 0, 2, 0, 0) := rfl
theorem bt_291_897 : mm_at mt_P 291 897 = some ((897, 1, .iadd, 0, 0, 0, 0), 4, 1, 0, 0, 2, 0, 0) := rfl
theorem bt_291_898 : mm_at mt_P 291 898 = some ((898, 1, .iaload, 0, 0, 0, 0), 4, 1, 0, 0, 2, 0, 0) := rfl
theorem bt_291_899 : mm_at mt_P 291 899 = some ((899, 3, .invokevirtual 98, 234, 0, 0, 1033), 4, 1, 0, 0, 2, 0, 0) := rfl
theorem bt_291_902 : mm_at mt_P 291 902 = some ((902, 1, .pop, 0, 0, 0, 0), 4, 1, 0, 0, 2, 0, 0) := rfl
theorem bt_291_903 : mm_at mt_P 291 903 = some ((903, 1, .aload_n 2, 0, 0, 0, 0), 4, 1, 0, 0, 2, 0, 0) := rfl
theorem bt_291_904 : mm_at mt_P 291 904 = some ((904, 1, .aload_n 0, 0, 0, 0, 0), 4, 1, 0, 0, 2, 0, 0) := rfl
theorem bt_291_905 : mm_at mt_P 291 905 = some ((905, 1, .iload_n 3, 0, 0, 0, 0), 4, 1, 0, 0, 2, 0, 0) := rfl
theorem bt_291_906 : mm_at mt_P 291 906 = some ((906, 1, .iconst 1, 0, 0, 0, 0), 4, 1, 0, 0, 2, 0, 0) := rfl
theorem bt_291_907 : mm_at mt_P 291 907 = some ((907, 1, .iadd, 0, 0, 0, 0), 4, 1, 0, 0, 2, 0, 0) := rfl
theorem bt_291_908 : mm_at mt_P 291 908 = some ((908, 1, .iaload, 0, 0, 0, 0), 4, 1, 0, 0, 2, 0, 0) := rfl
theorem bt_291_909 : mm_at mt_P 291 909 = some ((909, 3, .invokevirtual 101, 38, 0, 0, 1747), 4, 1, 0, 0, 2, 0, 0) := rfl
theorem bt_291_912 : mm_at mt_P 291 912 = some ((912, 1, .pop, 0, 0, 0, 0), 4, 1, 0, 0, 2, 0, 0) := rfl
theorem bt_291_913 : mm_at mt_P 291 913 = some ((913, 3, .goto 539, 0, 0, 0, 0), 4, 1, 0, 0, 2, 0, 0) := rfl
theorem bt_291_916 : mm_at mt_P 291 916 = some ((916, 1, .aload_n 1, 0, 0, 0, 0), 4, 1, 0, 0, 2, 0, 0) := rfl
theorem bt_291_917 : mm_at mt_P 291 917 = some ((917, 1, .aload_n 0, 0, 0, 0, 0), 4, 1, 0, 0, 2, 0, 0) := rfl
theorem bt_291_918 : mm_at mt_P 291 918 = some ((918, 1, .iload_n 3, 0, 0, 0, 0), 4, 1, 0, 0, 2, 0, 0) := rfl
theorem bt_291_919 : mm_at mt_P 291 919 = some ((919, 1, .iconst 1, 0, 0, 0, 0), 4, 1, 0, 0, 2, 0, 0) := rfl
theorem bt_291_920 : mm_at mt_P 291 920 = some ((920, 1, .iadd, 0, 0, 0, 0), 4, 1, 0, 0, 2, 0, 0) := rfl
theorem bt_291_921 : mm_at mt_P 291 921 = some ((921, 1, .iaload, 0, 0, 0, 0), 4, 1, 0, 0, 2, 0, 0) := rfl
theorem bt_291_922 : mm_at mt_P 291 922 = some ((922, 3, .ifCond .eq 7, 0, 0, 0, 0), 4, 1, 0, 0, 2, 0, 0) := rfl
theorem bt_291_925 : mm_at mt_P 291 925 = some ((925, 1, .iconst 1, 0, 0, 0, 0), 4, 1, 0, 0, 2, 0, 0) := rfl
theorem bt_291_926 : mm_at mt_P 291 926 = some ((926, 3, .goto 4, 0, 0, 0, 0), 4, 1, 0, 0, 2, 0, 0) := rfl
theorem bt_291_929 : mm_at mt_P 291 929 = some ((929, 1, .iconst 0, 0, 0, 0, 0), 4, 1, 0, 0, 2, 0, 0) := rfl
theorem bt_291_930 : mm_at mt_P 291 930 = some ((930, 3, .invokevirtual 102, 223, 0, 0, 1037), 4, 1, 0, 0, 2, 0, 0) := rfl
theorem bt_291_933 : mm_at mt_P 291 933 = some ((933, 1, .pop, 0, 0, 0, 0), 4, 1, 0, 0, 2, 0, 0) := rfl
theorem bt_291_934 : mm_at mt_P 291 934 = some ((934, 1, .aload_n 2, 0, 0, 0, 0), 4, 1, 0, 0, 2, 0, 0) := rfl
theorem bt_291_935 : mm_at mt_P 291 935 = some ((935, 1, .aload_n 0, 0, 0, 0, 0), 4, 1, 0, 0, 2, 0, 0) := rfl
theorem bt_291_936 : mm_at mt_P 291 936 = some ((936, 1, .iload_n 3, 0, 0, 0, 0), 4, 1, 0, 0, 2, 0, 0) := rfl
theorem bt_291_937 : mm_at mt_P 291 937 = some ((937, 1, .iconst 1, 0, 0, 0, 0), 4, 1, 0, 0, 2, 0, 0) := rfl
theorem bt_291_938 : mm_at mt_P 291 938 = some ((938, 1, .iadd, 0, 0, 0, 0), 4, 1, 0, 0, 2, 0, 0) := rfl
theorem bt_291_939 : mm_at mt_P 291 939 = some ((939, 1, .iaload, 0, 0, 0, 0), 4, 1, 0, 0, 2, 0, 0) := rfl
theorem bt_291_940 : mm_at mt_P 291 940 = some ((940, 3, .ifCond .eq 7, 0, 0, 0, 0), 4, 1, 0, 0, 2, 0, 0) := rfl
theorem bt_291_943 : mm_at mt_P 291 943 = some ((943, 1, .iconst 1, 0, 0, 0, 0), 4, 1, 0, 0, 2, 0, 0) := rfl
theorem bt_291_944 : mm_at mt_P 291 944 = some ((944, 3, .goto 4, 0, 0, 0, 0), 4, 1, 0, 0, 2, 0, 0) := rfl
theorem bt_291_947 : mm_at mt_P 291 947 = some ((947, 1, .iconst 0, 0, 0, 0, 0), 4, 1, 0, 0, 2, 0, 0) := rfl
theorem bt_291_948 : mm_at mt_P 291 948 = some ((948, 3, .invokevirtual 106, 9, 0, 0, 1751), 4, 1, 0, 0, 2, 0, 0) := rfl
theorem bt_291_951 : mm_at mt_P 291 951 = some ((951, 1, .pop, 0, 0, 0, 0), 4, 1, 0, 0, 2, 0, 0) := rfl
theorem bt_291_952 : mm_at mt_P 291 952 = some ((952, 3, .goto 500, 0, 0, 0, 0), 4, 1, 0, 0, 2, 0, 0) := rfl
theorem bt_291_955 : mm_at mt_P 291 955 = some ((955, 1, .aload_n 1, 0, 0, 0, 0), 4, 1, 0, 0, 2, 0, 0) := rfl
theorem bt_291_956 : mm_at mt_P 291 956 = some ((956, 1, .aload_n 0, 0, 0, 0, 0), 4, 1, 0, 0, 2, 0, 0) := rfl
theorem bt_291_957 : mm_at mt_P 291 957 = some ((957, 1, .iload_n 3, 0, 0, 0, 0), 4, 1, 0, 0, 2, 0, 0) := rfl
theorem bt_291_958 : mm_at mt_P 291 958 = some ((958, 1, .iconst 1, 0, 0, 0, 0), 4, 1, 0, 0, 2, 0, 0) := rfl
theorem bt_291_959 : mm_at mt_P 291 959 = some ((959, 1, .iadd, 0, 0, 0, 0), 4, 1, 0, 0, 2, 0, 0) := rfl
theorem bt_291_960 : mm_at mt_P 291 960 = some ((960, 1, .iaload, 0, 0, 0, 0), 4, 1, 0, 0, 2, 0, 0) := rfl
theorem bt_291_961 : mm_at mt_P 291 961 = some ((961, 1, .aload_n 0, 0, 0, 0, 0), 4, 1, 0, 0, 2, 0, 0) := rfl
theorem bt_291_962 : mm_at mt_P 291 962 = some ((962, 1, .iload_n 3, 0, 0, 0, 0), 4, 1, 0, 0, 2, 0, 0) := rfl
theorem bt_291_963 : mm_at mt_P 291 963 = some ((963, 1, .iconst 2, 0, 0, 0, 0), 4, 1, 0, 0, 2, 0, 0) := rfl
theorem bt_291_964 : mm_at mt_P 291 964 = some ((964, 1, .iadd, 0, 0, 0, 0), 4, 1, 0, 0, 2, 0, 0) := rfl
theorem bt_291_965 : mm_at mt_P 291 965 = some ((965, 1, .iaload, 0, 0, 0, 0), 4, 1, 0, 0, 2, 0, 0) := rfl
theorem bt_291_966 : mm_at mt_P 291 966 = some ((966, 3, .invokevirtual 107, 267, 0, 0, 1041), 4, 1, 0, 0, 2, 0, 0) := rfl
theorem bt_291_969 : mm_at mt_P 291 969 = some ((969, 1, .pop, 0, 0, 0, 0), 4, 1, 0, 0, 2, 0, 0) := rfl
theorem bt_291_970 : mm_at mt_P 291 970 = some ((970, 1, .aload_n 2, 0, 0, 0, 0), 4, 1, 0, 0, 2, 0, 0) := rfl
theorem bt_291_971 : mm_at mt_P 291 971 = some ((971, 1, .aload_n 0, 0, 0, 0, 0), 4, 1, 0, 0, 2, 0, 0) := rfl
theorem bt_291_972 : mm_at mt_P 291 972 = some ((972, 1, .iload_n 3, 0, 0, 0, 0), 4, 1, 0, 0, 2, 0, 0) := rfl
theorem bt_291_973 : mm_at mt_P 291 973 = some ((973, 1, .iconst 1, 0, 0, 0, 0), 4, 1, 0, 0, 2, 0, 0) := rfl
theorem bt_291_974 : mm_at mt_P 291 974 = some ((974, 1, .iadd, 0, 0, 0, 0), 4, 1, 0, 0, 2, 0, 0) := rfl
theorem bt_291_975 : mm_at mt_P 291 975 = some ((975, 1, .iaload, 0, 0, 0, 0), 4, 1, 0, 0, 2, 0, 0) := rfl
theorem bt_291_976 : mm_at mt_P 291 976 = some ((976, 1, .aload_n 0, 0, 0, 0, 0), 4, 1, 0, 0, 2, 0, 0) := rfl
theorem bt_291_977 : mm_at mt_P 291 977 = some ((977, 1, .iload_n 3, 0, 0, 0, 0), 4, 1, 0, 0, 2, 0, 0) := rfl
theorem bt_291_978 : mm_at mt_P 291 978 = some ((978, 1, .iconst 2, 0, 0, 0, 0), 4, 1, 0, 0, 2, 0, 0) := rfl
theorem bt_291_979 : mm_at mt_P 291 979 = some ((979, 1, .iadd, 0, 0, 0, 0), 4, 1, 0, 0, 2, 0, 0) := rfl
theorem bt_291_980 : mm_at mt_P 291 980 = some ((980, 1, .iaload, 0, 0, 0, 0), 4, 1, 0, 0, 2, 0, 0) := rfl
theorem bt_291_981 : mm_at mt_P 291 981 = some ((981, 3, .invokevirtual 110, 102, 0, 0, 1755), 4, 1, 0, 0, 2, 0, 0) := rfl
theorem bt_291_984 : mm_at mt_P 291 984 = some ((984, 1, .pop, 0, 0, 0, 0), 4, 1, 0, 0, 2, 0, 0) := rfl
theorem bt_291_985 : mm_at mt_P 291 985 = some ((985, 3, .goto 467, 0, 0, 0, 0), 4, 1, 0, 0, 2, 0, 0) := rfl
theorem bt_291_988 : mm_at mt_P 291 988 = some ((988, 1, .aload_n 1, 0, 0, 0, 0), 4, 1, 0, 0, 2, 0, 0) := rfl
theorem bt_291_989 : mm_at mt_P 291 989 = some ((989, 1, .aload_n 0, 0, 0, 0, 0), 4, 1, 0, 0, 2, 0, 0) := rfl
theorem bt_291_990 : mm_at mt_P 291 990 = some ((990, 1, .iload_n 3, 0, 0, 0, 0), 4, 1, 0, 0, 2, 0, 0) := rfl
theorem bt_291_991 : mm_at mt_P 291 991 = some ((991, 1, .iconst 1, 0, 0, 0, 0), 4, 1, 0, 0, 2, 0, 0) := rfl
theorem bt_291_992 : mm_at mt_P 291 992 = some ((992, 1, .iadd, 0, 0, 0, 0), 4, 1, 0, 0, 2, 0, 0) := rfl
theorem bt_291_993 : mm_at mt_P 291 993 = some ((993, 1, .iaload, 0, 0, 0, 0), 4, 1, 0, 0, 2, 0, 0) := rfl
theorem bt_291_994 : mm_at mt_P 291 994 = some ((994, 1, .aload_n 0, 0, 0, 0, 0), 4, 1, 0, 0, 2, 0, 0) := rfl
theorem bt_291_995 : mm_at mt_P 291 995 = some ((995, 1, .iload_n 3, 0, 0, 0, 0), 4, 1, 0, 0, 2, 0, 0) := rfl
theorem bt_291_996 : mm_at mt_P 291 996 = some ((996, 1, .iconst 2, 0, 0, 0, 0), 4, 1, 0, 0, 2, 0, 0) := rfl
theorem bt_291_997 : mm_at mt_P 291 997 = some ((997, 1, .iadd, 0, 0, 0, 0), 4, 1, 0, 0, 2, 0, 0) := rfl
theorem bt_291_998 : mm_at mt_P 291 998 = some ((998, 1, .iaload, 0, 0, 0, 0), 4, 1, 0, 0, 2, 0, 0) := rfl
theorem bt_291_999 : mm_at mt_P 291 999 = some ((999, 1, .aload_n 0, 0, 0, 0, 0), 4, 1, 0, 0, 2, 0, 0) := rfl
theorem bt_291_1000 : mm_at mt_P 291 1000 = some ((1000, 1, .iload_n 3, 0, 0, 0, 0), 4, 1, 0, 0, 2, 0, 0) := rfl
theorem bt_291_1001 : mm_at mt_P 291 1001 = some ((1001, 1, .iconst 3, 0, 0, 0, 0), 4, 1, 0, 0, 2, 0, 0) := rfl
theorem bt_291_1002 : mm_at mt_P 291 1002 = some ((1002, 1, .iadd, 0, 0, 0, 0), 4, 1, 0, 0, 2, 0, 0) := rfl
theorem bt_291_1003 : mm_at mt_P 291 1003 = some ((1003, 1, .iaload, 0, 0, 0, 0), 4, 1, 0, 0, 2, 0, 0) := rfl
theorem bt_291_1004 : mm_at mt_P 291 1004 = some ((1004, 3, .invokevirtual 111, 248, 0, 0, 1050), 4, 1, 0, 0, 2, 0, 0) := rfl
theorem bt_291_1007 : mm_at mt_P 291 1007 = some ((1007, 1, .pop, 0, 0, 0, 0), 4, 1, 0, 0, 2, 0, 0) := rfl
theorem bt_291_1008 : mm_at mt_P 291 1008 = some ((1008, 1, .aload_n 2, 0, 0, 0, 0), 4, 1, 0, 0, 2, 0, 0) := rfl
theorem bt_291_1009 : mm_at mt_P 291 1009 = some ((1009, 1, .aload_n 0, 0, 0, 0, 0), 4, 1, 0, 0, 2, 0, 0) := rfl
theorem bt_291_1010 : mm_at mt_P 291 1010 = some ((1010, 1, .iload_n 3, 0, 0, 0, 0), 4, 1, 0, 0, 2, 0, 0) := rfl
theorem bt_291_1011 : mm_at mt_P 291 1011 = some ((1011, 1, .iconst 1, 0, 0, 0, 0), 4, 1, 0, 0, 2, 0, 0) := rfl
theorem bt_291_1012 : mm_at mt_P 291 1012 = some ((1012, 1, .iadd, 0, 0, 0, 0), 4, 1, 0, 0, 2, 0, 0) := rfl
theorem bt_291_1013 : mm_at mt_P 291 1013 = some ((1013, 1, .iaload, 0, 0, 0, 0), 4, 1, 0, 0, 2, 0, 0) := rfl
theorem bt_291_1014 : mm_at mt_P 291 1014 = some ((1014, 1, .aload_n 0, 0, 0, 0, 0), 4, 1, 0, 0, 2, 0, 0) := rfl
theorem bt_291_1015 : mm_at mt_P 291 1015 = some ((1015, 1, .iload_n 3, 0, 0, 0, 0), 4, 1, 0, 0, 2, 0, 0) := rfl
theorem bt_291_1016 : mm_at mt_P 291 1016 = some ((1016, 1, .iconst 2, 0, 0, 0, 0), 4, 1, 0, 0, 2, 0, 0) := rfl
theorem bt_291_1017 : mm_at mt_P 291 1017 = some ((1017, 1, .iadd, 0, 0, 0, 0), 4, 1, 0, 0, 2, 0, 0) := rfl
theorem bt_291_1018 : mm_at mt_P 291 1018 = some ((1018, 1, .iaload, 0, 0, 0, 0), 4, 1, 0, 0, 2, 0, 0) := rfl
theorem bt_291_1019 : mm_at mt_P 291 1019 = some ((1019, 1, .aload_n 0, 0, 0, 0, 0), 4, 1, 0, 0, 2, 0, 0) := rfl
theorem bt_291_1020 : mm_at mt_P 291 1020 = some ((1020, 1, .iload_n 3, 0, 0, 0, 0), 4, 1, 0, 0, 2, 0, 0) := rfl
theorem bt_291_1021 : mm_at mt_P 291 1021 = some ((1021, 1, .iconst 3, 0, 0, 0, 0), 4, 1, 0, 0, 2, 0, 0) := rfl
theorem bt_291_1022 : mm_at mt_P 291 1022 = some ((1022, 1, .iadd, 0, 0, 0, 0), 4, 1, 0, 0, 2, 0, 0) := rfl
theorem bt_291_1023 : mm_at mt_P 291 1023 = some ((1023, 1, .iaload, 0, 0, 0, 0), 4, 1, 0, 0, 2, 0, 0) := rfl
theorem bt_291_1024 : mm_at mt_P 291 1024 = some ((1024, 3, .invokevirtual 115, 68, 0, 0, 1766), 4, 1, 0, 0, 2, 0, 0) := rfl
theorem bt_291_1027 : mm_at mt_P 291 1027 = some ((1027, 1, .pop, 0, 0, 0, 0), 4, 1, 0, 0, 2, 0, 0) := rfl
theorem bt_291_1028 : mm_at mt_P 291 1028 = some ((1028, 3, .goto 424, 0, 0, 0, 0), 4, 1, 0, 0, 2, 0, 0) := rfl
theorem bt_291_1031 : mm_at mt_P 291 1031 = some ((1031, 1, .aload_n 1, 0, 0, 0, 0), 4, 1, 0, 0, 2, 0, 0) := rfl
theorem bt_291_1032 : mm_at mt_P 291 1032 = some ((1032, 1, .aload_n 0, 0, 0, 0, 0), 4, 1, 0, 0, 2, 0, 0) := rfl
theorem bt_291_1033 : mm_at mt_P 291 1033 = some ((1033, 1, .iload_n 3, 0, 0, 0, 0), 4, 1, 0, 0, 2, 0, 0) := rfl
theorem bt_291_1034 : mm_at mt_P 291 1034 = some ((1034, 1, .iconst 1, 0, 0, 0, 0), 4, 1, 0, 0, 2, 0, 0) := rfl
theorem bt_291_1035 : mm_at mt_P 291 1035 = some ((1035, 1, .iadd, 0, 0, 0, 0), 4, 1, 0, 0, 2, 0, 0) := rfl
theorem bt_291_1036 : mm_at mt_P 291 1036 = some ((1036, 1, .iaload, 0, 0, 0, 0), 4, 1, 0, 0, 2, 0, 0) := rfl
theorem bt_291_1037 : mm_at mt_P 291 1037 = some ((1037, 3, .invokevirtual 116, 229, 0, 0, 1054), 4, 1, 0, 0, 2, 0, 0) := rfl
theorem bt_291_1040 : mm_at mt_P 291 1040 = some ((1040, 1, .pop, 0, 0, 0, 0), 4, 1, 0, 0, 2, 0, 0) := rfl
theorem bt_291_1041 : mm_at mt_P 291 1041 = some ((1041, 1, .aload_n 2, 0, 0, 0, 0), 4, 1, 0, 0, 2, 0, 0) := rfl
theorem bt_291_1042 : mm_at mt_P 291 1042 = some ((1042, 1, .aload_n 0, 0, 0, 0, 0), 4, 1, 0, 0, 2, 0, 0) := rfl
theorem bt_291_1043 : mm_at mt_P 291 1043 = some ((1043, 1, .iload_n 3, 0, 0, 0, 0), 4, 1, 0, 0, 2, 0, 0) := rfl
theorem bt_291_1044 : mm_at mt_P 291 1044 = some ((1044, 1, .iconst 1, 0, 0, 0, 0), 4, 1, 0, 0, 2, 0, 0) := rfl
theorem bt_291_1045 : mm_at mt_P 291 1045 = some ((1045, 1, .iadd, 0, 0, 0, 0), 4, 1, 0, 0, 2, 0, 0) := rfl
theorem bt_291_1046 : mm_at mt_P 291 1046 = some ((1046, 1, .iaload, 0, 0, 0, 0), 4, 1, 0, 0, 2, 0, 0) := rfl
theorem bt_291_1047 : mm_at mt_P 291 1047 = some ((1047, 3, .invokevirtual 119, 24, 0, 0, 1770), 4, 1, 0, 0, 2, 0, 0) := rfl
theorem bt_291_1050 : mm_at mt_P 291 1050 = some ((1050, 1, .pop, 0, 0, 0, 0), 4, 1, 0, 0, 2, 0, 0) := rfl
theorem bt_291_1051 : mm_at mt_P 291 1051 = some ((1051, 3, .goto 401, 0, 0, 0, 0), 4, 1, 0, 0, 2, 0, 0) := rfl
theorem bt_291_1054 : mm_at mt_P 291 1054 = some ((1054, 1, .aload_n 1, 0, 0, 0, 0), 4, 1, 0, 0, 2, 0, 0) := rfl
theorem bt_291_1055 : mm_at mt_P 291 1055 = some ((1055, 1, .aload_n 0, 0, 0, 0, 0), 4, 1, 0, 0, 2, 0, 0) := rfl
theorem bt_291_1056 : mm_at mt_P 291 1056 = some ((1056, 1, .iload_n 3, 0, 0, 0, 0), 4, 1, 0, 0, 2, 0, 0) := rfl
theorem bt_291_1057 : mm_at mt_P 291 1057 = some ((1057, 1, .iconst 1, 0, 0, 0, 0), 4, 1, 0, 0, 2, 0, 0) := rfl
theorem bt_291_1058 : mm_at mt_P 291 1058 = some ((1058, 1, .iadd, 0, 0, 0, 0), 4, 1, 0, 0, 2, 0, 0) := rfl
theorem bt_291_1059 : mm_at mt_P 291 1059 = some ((1059, 1, .iaload, 0, 0, 0, 0), 4, 1, 0, 0, 2, 0, 0) := rfl
theorem bt_291_1060 : mm_at mt_P 291 1060 = some ((1060, 1, .aload_n 0, 0, 0, 0, 0), 4, 1, 0, 0, 2, 0, 0) := rfl
theorem bt_291_1061 : mm_at mt_P 291 1061 = some ((1061, 1, .iload_n 3, 0, 0, 0, 0), 4, 1, 0, 0, 2, 0, 0) := rfl
theorem bt_291_1062 : mm_at mt_P 291 1062 = some ((1062, 1, .iconst 2, 0, 0, 0, 0), 4, 1, 0, 0, 2, 0, 0) := rfl
theorem bt_291_1063 : mm_at mt_P 291 1063 = some ((1063, 1, .iadd, 0, 0, 0, 0), 4, 1, 0, 0, 2, 0, 0) := rfl
theorem bt_291_1064 : mm_at mt_P 291 1064 = some ((1064, 1, .iaload, 0, 0, 0, 0), 4, 1, 0, 0, 2, 0, 0) := rfl
theorem bt_291_1065 : mm_at mt_P 291 1065 = some ((1065, 3, .invokevirtual 120, 263, 0, 0, 1062), 4, 1, 0, 0, 2, 0, 0) := rfl
theorem bt_291_1068 : mm_at mt_P 291 1068 = some ((1068, 1, .pop, 0, 0, 0, 0), 4, 1, 0, 0, 2, 0, 0) := rfl
theorem bt_291_1069 : mm_at mt_P 291 1069 = some ((1069, 1, .aload_n 2, 0, 0, 0, 0), 4, 1, 0, 0, 2, 0, 0) := rfl
theorem bt_291_1070 : mm_at mt_P 291 1070 = some ((1070, 1, .aload_n 0, 0, 0, 0, 0), 4, 1, 0, 0, 2, 0, 0) := rfl
theorem bt_291_1071 : mm_at mt_P 291 1071 = some ((1071, 1, .iload_n 3, 0, 0, 0, 0), 4, 1, 0, 0, 2, 0, 0) := rfl
theorem bt_291_1072 : mm_at mt_P 291 1072 = some ((1072, 1, .iconst 1, 0, 0, 0, 0), 4, 1, 0, 0, 2, 0, 0) := rfl
theorem bt_291_1073 : mm_at mt_P 291 1073 = some ((1073, 1, .iadd, 0, 0, 0, 0), 4, 1, 0, 0, 2, 0, 0) := rfl
theorem bt_291_1074 : mm_at mt_P 291 1074 = some ((1074, 1, .iaload, 0, 0, 0, 0), 4, 1, 0, 0, 2, 0, 0) := rfl
theorem bt_291_1075 : mm_at mt_P 291 1075 = some ((1075, 1, .aload_n 0, 0, 0, 0, 0), 4, 1, 0, 0, 2, 0, 0) := rfl
theorem bt_291_1076 : mm_at mt_P 291 1076 = some ((1076, 1, .iload_n 3, 0, 0, 0, 0), 4, 1, 0, 0, 2, 0, 0) := rfl
theorem bt_291_1077 : mm_at mt_P 291 1077 = some ((1077, 1, .iconst 2, 0, 0, 0, 0), 4, 1, 0, 0, 2, 0, 0) := rfl
theorem bt_291_1078 : mm_at mt_P 291 1078 = some ((1078, 1, .iadd, 0, 0, 0, 0), 4, 1, 0, 0, 2, 0, 0) := rfl
theorem bt_291_1079 : mm_at mt_P 291 1079 = some ((1079, 1, .iaload, 0, 0, 0, 0), 4, 1, 0, 0, 2, 0, 0) := rfl
theorem bt_291_1080 : mm_at mt_P 291 1080 = some ((1080, 3, .invokevirtual 123, 94, 0, 0, 1778), 4, 1, 0, 0, 2, 0, 0) := rfl
theorem bt_291_1083 : mm_at mt_P 291 1083 = some ((1083, 1, .pop, 0, 0, 0, 0), 4, 1, 0, 0, 2, 0, 0) := rfl
theorem bt_291_1084 : mm_at mt_P 291 1084 = some ((1084, 3, .goto 368, 0, 0, 0, 0), 4, 1, 0, 0, 2, 0, 0) := rfl
theorem bt_291_1087 : mm_at mt_P 291 1087 = some ((1087, 1, .aload_n 1, 0, 0, 0, 0), 4, 1, 0, 0, 2, 0, 0) := rfl
theorem bt_291_1088 : mm_at mt_P 291 1088 = some ((1088, 1, .aload_n 0, 0, 0, 0, 0), 4, 1, 0, 0, 2, 0, 0) := rfl
theorem bt_291_1089 : mm_at mt_P 291 1089 = some ((1089, 1, .iload_n 3, 0, 0, 0, 0), 4, 1, 0, 0, 2, 0, 0) := rfl
theorem bt_291_1090 : mm_at mt_P 291 1090 = some ((1090, 1, .iconst 1, 0, 0, 0, 0), 4, 1, 0, 0, 2, 0, 0) := rfl
theorem bt_291_1091 : mm_at mt_P 291 1091 = some ((1091, 1, .iadd, 0, 0, 0, 0), 4, 1, 0, 0, 2, 0, 0) := rfl
theorem bt_291_1092 : mm_at mt_P 291 1092 = some ((1092, 1, .iaload, 0, 0, 0, 0), 4, 1, 0, 0, 2, 0, 0) := rfl
theorem bt_291_1093 : mm_at mt_P 291 1093 = some ((1093, 1, .aload_n 0, 0, 0, 0, 0), 4, 1, 0, 0, 2, 0, 0) := rfl
theorem bt_291_1094 : mm_at mt_P 291 1094 = some ((1094, 1, .iload_n 3, 0, 0, 0, 0), 4, 1, 0, 0, 2, 0, 0) := rfl
theorem bt_291_1095 : mm_at mt_P 291 1095 = some ((1095, 1, .iconst 2, 0, 0, 0, 0), 4, 1, 0, 0, 2, 0, 0) := rfl
theorem bt_291_1096 : mm_at mt_P 291 1096 = some ((1096, 1, .iadd, 0, 0, 0, 0), 4, 1, 0, 0, 2, 0, 0) := rfl
theorem bt_291_1097 : mm_at mt_P 291 1097 = some ((1097, 1, .iaload, 0, 0, 0, 0), 4, 1, 0, 0, 2, 0, 0) := rfl
theorem bt_291_1098 : mm_at mt_P 291 1098 = some ((1098, 3, .invokevirtual 124, 261, 0, 0, 1070), 4, 1, 0, 0, 2, 0, 0) := rfl
theorem bt_291_1101 : mm_at mt_P 291 1101 = some ((1101, 1, .pop, 0, 0, 0, 0), 4, 1, 0, 0, 2, 0, 0) := rfl
theorem bt_291_1102 : mm_at mt_P 291 1102 = some ((1102, 1, .aload_n 2, 0, 0, 0, 0), 4, 1, 0, 0, 2, 0, 0) := rfl
theorem bt_291_1103 : mm_at mt_P 291 1103 = some ((1103, 1, .aload_n 0, 0, 0, 0, 0), 4, 1, 0, 0, 2, 0, 0) := rfl
theorem bt_291_1104 : mm_at mt_P 291 1104 = some ((1104, 1, .iload_n 3, 0, 0, 0, 0), 4, 1, 0, 0, 2, 0, 0) := rfl
theorem bt_291_1105 : mm_at mt_P 291 1105 = some ((1105, 1, .iconst 1, 0, 0, 0, 0), 4, 1, 0, 0, 2, 0, 0) := rfl
theorem bt_291_1106 : mm_at mt_P 291 1106 = some ((1106, 1, .iadd, 0, 0, 0, 0), 4, 1, 0, 0, 2, 0, 0) := rfl
theorem bt_291_1107 : mm_at mt_P 291 1107 = some ((1107, 1, .iaload, 0, 0, 0, 0), 4, 1, 0, 0, 2, 0, 0) := rfl
theorem bt_291_1108 : mm_at mt_P 291 1108 = some ((1108, 1, .aload_n 0, 0, 0, 0, 0), 4, 1, 0, 0, 2, 0, 0) := rfl
theorem bt_291_1109 : mm_at mt_P 291 1109 = some ((1109, 1, .iload_n 3, 0, 0, 0, 0), 4, 1, 0, 0, 2, 0, 0) := rfl
theorem bt_291_1110 : mm_at mt_P 291 1110 = some ((1110, 1, .iconst 2, 0, 0, 0, 0), 4, 1, 0, 0, 2, 0, 0) := rfl
theorem bt_291_1111 : mm_at mt_P 291 1111 = some ((1111, 1, .iadd, 0, 0, 0, 0), 4, 1, 0, 0, 2, 0, 0) := rfl
theorem bt_291_1112 : mm_at mt_P 291 1112 = some ((1112, 1, .iaload, 0, 0, 0, 0), 4, 1, 0, 0, 2, 0, 0) := rfl
theorem bt_291_1113 : mm_at mt_P 291 1113 = some ((1113, 3, .invokevirtual 127, 92, 0, 0, 1782), 4, 1, 0, 0, 2, 0, 0) := rfl
theorem bt_291_1116 : mm_at mt_P 291 1116 = some ((1116, 1, .pop, 0, 0, 0, 0), 4, 1, 0, 0, 2, 0, 0) := rfl
theorem bt_291_1117 : mm_at mt_P 291 1117 = some ((1117, 3, .goto 335, 0, 0, 0, 0), 4, 1, 0, 0, 2, 0, 0) := rfl
theorem bt_291_1120 : mm_at mt_P 291 1120 = some ((1120, 1, .aload_n 1, 0, 0, 0, 0), 4, 1, 0, 0, 2, 0, 0) := rfl
theorem bt_291_1121 : mm_at mt_P 291 1121 = some ((1121, 3, .invokevirtual 128, 224, 0, 0, 1078), 4, 1, 0, 0, 2, 0, 0) := rfl
theorem bt_291_1124 : mm_at mt_P 291 1124 = some ((1124, 1, .pop, 0, 0, 0, 0), 4, 1, 0, 0, 2, 0, 0) := rfl
theorem bt_291_1125 : mm_at mt_P 291 1125 = some ((1125, 1, .aload_n 2, 0, 0, 0, 0), 4, 1, 0, 0, 2, 0, 0) := rfl
theorem bt_291_1126 : mm_at mt_P 291 1126 = some ((1126, 3, .invokevirtual 131, 11, 0, 0, 1790), 4, 1, 0, 0, 2, 0, 0) := rfl
theorem bt_291_1129 : mm_at mt_P 291 1129 = some ((1129, 1, .pop, 0, 0, 0, 0), 4, 1, 0, 0, 2, 0, 0) := rfl
theorem bt_291_1130 : mm_at mt_P 291 1130 = some ((1130, 3, .goto 322, 0, 0, 0, 0), 4, 1, 0, 0, 2, 0, 0) := rfl
theorem bt_291_1133 : mm_at mt_P 291 1133 = some ((1133, 1, .aload_n 1, 0, 0, 0, 0), 4, 1, 0, 0, 2, 0, 0) := rfl
theorem bt_291_1134 : mm_at mt_P 291 1134 = some ((1134, 1, .aload_n 0, 0, 0, 0, 0), 4, 1, 0, 0, 2, 0, 0) := rfl
theorem bt_291_1135 : mm_at mt_P 291 1135 = some ((1135, 1, .iload_n 3, 0, 0, 0, 0), 4, 1, 0, 0, 2, 0, 0) := rfl
theorem bt_291_1136 : mm_at mt_P 291 1136 = some ((1136, 1, .iconst 1, 0, 0, 0, 0), 4, 1, 0, 0, 2, 0, 0) := rfl
theorem bt_291_1137 : mm_at mt_P 291 1137 = some ((1137, 1, .iadd, 0, 0, 0, 0), 4, 1, 0, 0, 2, 0, 0) := rfl
theorem bt_291_1138 : mm_at mt_P 291 1138 = some ((1138, 1, .iaload, 0, 0, 0, 0), 4, 1, 0, 0, 2, 0, 0) := rfl
theorem bt_291_1139 : mm_at mt_P 291 1139 = some ((1139, 1, .aload_n 0, 0, 0, 0, 0), 4, 1, 0, 0, 2, 0, 0) := rfl
theorem bt_291_1140 : mm_at mt_P 291 1140 = some ((1140, 1, .iload_n 3, 0, 0, 0, 0), 4, 1, 0, 0, 2, 0, 0) := rfl
theorem bt_291_1141 : mm_at mt_P 291 1141 = some ((1141, 1, .iconst 2, 0, 0, 0, 0), 4, 1, 0, 0, 2, 0, 0) := rfl
theorem bt_291_1142 : mm_at mt_P 291 1142 = some ((1142, 1, .iadd, 0, 0, 0, 0), 4, 1, 0, 0, 2, 0, 0) := rfl
theorem bt_291_1143 : mm_at mt_P 291 1143 = some ((1143, 1, .iaload, 0, 0, 0, 0), 4, 1, 0, 0, 2, 0, 0) := rfl
theorem bt_291_1144 : mm_at mt_P 291 1144 = some ((1144, 3, .invokevirtual 132, 274, 0, 0, 1082), 4, 1, 0, 0, 2, 0, 0) := rfl
theorem bt_291_1147 : mm_at mt_P 291 1147 = some ((1147, 1, .pop, 0, 0, 0, 0), 4, 1, 0, 0, 2, 0, 0) := rfl
theorem bt_291_1148 : mm_at mt_P 291 1148 = some ((1148, 1, .aload_n 2, 0, 0, 0, 0), 4, 1, 0, 0, 2, 0, 0) := rfl
theorem bt_291_1149 : mm_at mt_P 291 1149 = some ((1149, 1, .aload_n 0, 0, 0, 0, 0), 4, 1, 0, 0, 2, 0, 0) := rfl
theorem bt_291_1150 : mm_at mt_P 291 1150 = some ((1150, 1, .iload_n 3, 0, 0, 0, 0), 4, 1, 0, 0, 2, 0, 0) := rfl
theorem bt_291_1151 : mm_at mt_P 291 1151 = some ((1151, 1, .iconst 1, 0, 0, 0, 0), 4, 1, 0, 0, 2, 0, 0) := rfl
theorem bt_291_1152 : mm_at mt_P 291 1152 = some ((1152, 1, .iadd, 0, 0, 0, 0), 4, 1, 0, 0, 2, 0, 0) := rfl
theorem bt_291_1153 : mm_at mt_P 291 1153 = some ((1153, 1, .iaload, 0, 0, 0, 0), 4, 1, 0, 0, 2, 0, 0) := rfl
theorem bt_291_1154 : mm_at mt_P 291 1154 = some ((1154, 1, .aload_n 0, 0, 0, 0, 0), 4, 1, 0, 0, 2, 0, 0) := rfl
theorem bt_291_1155 : mm_at mt_P 291 1155 = some ((1155, 1, .iload_n 3, 0, 0, 0, 0), 4, 1, 0, 0, 2, 0, 0) := rfl
theorem bt_291_1156 : mm_at mt_P 291 1156 = some ((1156, 1, .iconst 2, 0, 0, 0, 0), 4, 1, 0, 0, 2, 0, 0) := rfl
theorem bt_291_1157 : mm_at mt_P 291 1157 = some ((1157, 1, .iadd, 0, 0, 0, 0), 4, 1, 0, 0, 2, 0, 0) := rfl
theorem bt_291_1158 : mm_at mt_P 291 1158 = some ((1158, 1, .iaload, 0, 0, 0, 0), 4, 1, 0, 0, 2, 0, 0) := rfl
theorem bt_291_1159 : mm_at mt_P 291 1159 = some ((1159, 3, .invokevirtual 135, 113, 0, 0, 1794), 4, 1, 0, 0, 2, 0, 0) := rfl
theorem bt_291_1162 : mm_at mt_P 291 1162 = some ((1162, 1, .pop, 0, 0, 0, 0), 4, 1, 0, 0, 2, 0, 0) := rfl
theorem bt_291_1163 : mm_at mt_P 291 1163 = some ((1163, 3, .goto 289, 0, 0, 0, 0), 4, 1, 0, 0, 2, 0, 0) := rfl
theorem bt_291_1166 : mm_at mt_P 291 1166 = some ((1166, 1, .aload_n 1, 0, 0, 0, 0), 4, 1, 0, 0, 2, 0, 0) := rfl
theorem bt_291_1167 : mm_at mt_P 291 1167 = some ((1167, 1, .aload_n 0, 0, 0, 0, 0), 4, 1, 0, 0, 2, 0, 0) := rfl
theorem bt_291_1168 : mm_at mt_P 291 1168 = some ((1168, 1, .iload_n 3, 0, 0, 0, 0), 4, 1, 0, 0, 2, 0, 0) := rfl
theorem bt_291_1169 : mm_at mt_P 291 1169 = some ((1169, 1, .iconst 1, 0, 0, 0, 0), 4, 1, 0, 0, 2, 0, 0) := rfl
theorem bt_291_1170 : mm_at mt_P 291 1170 = some ((1170, 1, .iadd, 0, 0, 0, 0), 4, 1, 0, 0, 2, 0, 0) := rfl
theorem bt_291_1171 : mm_at mt_P 291 1171 = some ((1171, 1, .iaload, 0, 0, 0, 0), 4, 1, 0, 0, 2, 0, 0) := rfl
theorem bt_291_1172 : mm_at mt_P 291 1172 = some ((1172, 1, .aload_n 0, 0, 0, 0, 0), 4, 1, 0, 0, 2, 0, 0) := rfl
theorem bt_291_1173 : mm_at mt_P 291 1173 = some ((1173, 1, .iload_n 3, 0, 0, 0, 0), 4, 1, 0, 0, 2, 0, 0) := rfl
theorem bt_291_1174 : mm_at mt_P 291 1174 = some ((1174, 1, .iconst 2, 0, 0, 0, 0), 4, 1, 0, 0, 2, 0, 0) := rfl
theorem bt_291_1175 : mm_at mt_P 291 1175 = some ((1175, 1, .iadd, 0, 0, 0, 0), 4, 1, 0, 0, 2, 0, 0) := rfl
theorem bt_291_1176 : mm_at mt_P 291 1176 = some ((1176, 1, .iaload, 0, 0, 0, 0), 4, 1, 0, 0, 2, 0, 0) := rfl
theorem bt_291_1177 : mm_at mt_P 291 1177 = some ((1177, 3, .invokevirtual 136, 272, 0, 0, 1094), 4, 1, 0, 0, 2, 0, 0) := rfl
theorem bt_291_1180 : mm_at mt_P 291 1180 = some ((1180, 1, .pop, 0, 0, 0, 0), 4, 1, 0, 0, 2, 0, 0) := rfl
theorem bt_291_1181 : mm_at mt_P 291 1181 = some ((1181, 1, .aload_n 2, 0, 0, 0, 0), 4, 1, 0, 0, 2, 0, 0) := rfl
theorem bt_291_1182 : mm_at mt_P 291 1182 = some ((1182, 1, .aload_n 0, 0, 0, 0, 0), 4, 1, 0, 0, 2, 0, 0) := rfl
theorem bt_291_1183 : mm_at mt_P 291 1183 = some ((1183, 1, .iload_n 3, 0, 0, 0, 0), 4, 1, 0, 0, 2, 0, 0) := rfl
theorem bt_291_1184 : mm_at mt_P 291 1184 = some ((1184, 1, .iconst 1, 0, 0, 0, 0), 4, 1, 0, 0, 2, 0, 0) := rfl
theorem bt_291_1185 : mm_at mt_P 291 1185 = some ((1185, 1, .iadd, 0, 0, 0, 0), 4, 1, 0, 0, 2, 0, 0) := rfl
theorem bt_291_1186 : mm_at mt_P 291 1186 = some ((1186, 1, .iaload, 0, 0, 0, 0), 4, 1, 0, 0, 2, 0, 0) := rfl
theorem bt_291_1187 : mm_at mt_P 291 1187 = some ((1187, 1, .aload_n 0, 0, 0, 0, 0), 4, 1, 0, 0, 2, 0, 0) := rfl
theorem bt_291_1188 : mm_at mt_P 291 1188 = some ((1188, 1, .iload_n 3, 0, 0, 0, 0), 4, 1, 0, 0, 2, 0, 0) := rfl
theorem bt_291_1189 : mm_at mt_P 291 1189 = some ((1189, 1, .iconst 2, 0, 0, 0, 0), 4, 1, 0, 0, 2, 0, 0) := rfl
theorem bt_291_1190 : mm_at mt_P 291 1190 = some ((1190, 1, .iadd, 0, 0, 0, 0), 4, 1, 0, 0, 2, 0, 0) := rfl
theorem bt_291_1191 : mm_at mt_P 291 1191 = some ((1191, 1, .iaload, 0, 0, 0, 0), 4, 1, 0, 0, 2, 0, 0) := rfl
theorem bt_291_1192 : mm_at mt_P 291 1192 = some ((1192, 3, .invokevirtual 139, 109, 0, 0, 1798), 4, 1, 0, 0, 2, 0, 0) := rfl
theorem bt_291_1195 : mm_at mt_P 291 1195 = some ((1195, 1, .pop, 0, 0, 0, 0), 4, 1, 0, 0, 2, 0, 0) := rfl
theorem bt_291_1196 : mm_at mt_P 291 1196 = some ((1196, 3, .goto 256, 0, 0, 0, 0), 4, 1, 0, 0, 2, 0, 0) := rfl
theorem bt_291_1199 : mm_at mt_P 291 1199 = some ((1199, 1, .aload_n 1, 0, 0, 0, 0), 4, 1, 0, 0, 2, 0, 0) := rfl
theorem bt_291_1200 : mm_at mt_P 291 1200 = some ((1200, 1, .aload_n 0, 0, 0, 0, 0), 4, 1, 0, 0, 2, 0, 0) := rfl
theorem bt_291_1201 : mm_at mt_P 291 1201 = some ((1201, 1, .iload_n 3, 0, 0, 0, 0), 4, 1, 0, 0, 2, 0, 0) := rfl
theorem bt_291_1202 : mm_at mt_P 291 1202 = some ((1202, 1, .iconst 1, 0, 0, 0, 0), 4, 1, 0, 0, 2, 0, 0) := rfl
theorem bt_291_1203 : mm_at mt_P 291 1203 = some ((1203, 1, .iadd, 0, 0, 0, 0), 4, 1, 0, 0, 2, 0, 0) := rfl
theorem bt_291_1204 : mm_at mt_P 291 1204 = some ((1204, 1, .iaload, 0, 0, 0, 0), 4, 1, 0, 0, 2, 0, 0) := rfl
theorem bt_291_1205 : mm_at mt_P 291 1205 = some ((1205, 3, .invokevirtual 140, 266, 0, 0, 1098), 4, 1, 0, 0, 2, 0, 0) := rfl
theorem bt_291_1208 : mm_at mt_P 291 1208 = some ((1208, 1, .pop, 0, 0, 0, 0), 4, 1, 0, 0, 2, 0, 0) := rfl
theorem bt_291_1209 : mm_at mt_P 291 1209 = some ((1209, 1, .aload_n 2, 0, 0, 0, 0), 4, 1, 0, 0, 2, 0, 0) := rfl
theorem bt_291_1210 : mm_at mt_P 291 1210 = some ((1210, 1, .aload_n 0, 0, 0, 0, 0), 4, 1, 0, 0, 2, 0, 0) := rfl
theorem bt_291_1211 : mm_at mt_P 291 1211 = some ((1211, 1, .iload_n 3, 0, 0, 0, 0), 4, 1, 0, 0, 2, 0, 0) := rfl
theorem bt_291_1212 : mm_at mt_P 291 1212 = some ((1212, 1, .iconst 1, 0, 0, 0, 0), 4, 1, 0, 0, 2, 0, 0) := rfl
theorem bt_291_1213 : mm_at mt_P 291 1213 = some ((1213, 1, .iadd, 0, 0, 0, 0), 4, 1, 0, 0, 2, 0, 0) := rfl
theorem bt_291_1214 : mm_at mt_P 291 1214 = some ((1214, 1, .iaload, 0, 0, 0, 0), 4, 1, 0, 0, 2, 0, 0) := rfl
theorem bt_291_1215 : mm_at mt_P 291 1215 = some ((1215, 3, .invokevirtual 143, 96, 0, 0, 1802), 4, 1, 0, 0, 2, 0, 0) := rfl
theorem bt_291_1218 : mm_at mt_P 291 1218 = some ((1218, 1, .pop, 0, 0, 0, 0), 4, 1, 0, 0, 2, 0, 0) := rfl
theorem bt_291_1219 : mm_at mt_P 291 1219 = some ((1219, 3, .goto 233, 0, 0, 0, 0), 4, 1, 0, 0, 2, 0, 0) := rfl
theorem bt_291_1222 : mm_at mt_P 291 1222 = some ((1222, 1, .aload_n 1, 0, 0, 0, 0), 4, 1, 0, 0, 2, 0, 0) := rfl
theorem bt_291_1223 : mm_at mt_P 291 1223 = some ((1223, 1, .aload_n 0, 0, 0, 0, 0), 4, 1, 0, 0, 2, 0, 0) := rfl
theorem bt_291_1224 : mm_at mt_P 291 1224 = some ((1224, 1, .iload_n 3, 0, 0, 0, 0), 4, 1, 0, 0, 2, 0, 0) := rfl
theorem bt_291_1225 : mm_at mt_P 291 1225 = some ((1225, 1, .iconst 1, 0, 0, 0, 0), 4, 1, 0, 0, 2, 0, 0) := rfl
theorem bt_291_1226 : mm_at mt_P 291 1226 = some ((1226, 1, .iadd, 0, 0, 0, 0), 4, 1, 0, 0, 2, 0, 0) := rfl
theorem bt_291_1227 : mm_at mt_P 291 1227 = some ((1227, 1, .iaload, 0, 0, 0, 0), 4, 1, 0, 0, 2, 0, 0) := rfl
theorem bt_291_1228 : mm_at mt_P 291 1228 = some ((1228, 1, .aload_n 0, 0, 0, 0, 0), 4, 1, 0, 0, 2, 0, 0) := rfl
theorem bt_291_1229 : mm_at mt_P 291 1229 = some ((1229, 1, .iload_n 3, 0, 0, 0, 0), 4, 1, 0, 0, 2, 0, 0) := rfl
theorem bt_291_1230 : mm_at mt_P 291 1230 = some ((1230, 1, .iconst 2, 0, 0, 0, 0), 4, 1, 0, 0, 2, 0, 0) := rfl
theorem bt_291_1231 : mm_at mt_P 291 1231 = some ((1231, 1, .iadd, 0, 0, 0, 0), 4, 1, 0, 0, 2, 0, 0) := rfl
theorem bt_291_1232 : mm_at mt_P 291 1232 = some ((1232, 1, .iaload, 0, 0, 0, 0), 4, 1, 0, 0, 2, 0, 0) := rfl
theorem bt_291_1233 : mm_at mt_P 291 1233 = some ((1233, 1, .aload_n 0, 0, 0, 0, 0), 4, 1, 0, 0, 2, 0, 0) := rfl
theorem bt_291_1234 : mm_at mt_P 291 1234 = some ((1234, 1, .iload_n 3, 0, 0, 0, 0), 4, 1, 0, 0, 2, 0, 0) := rfl
theorem bt_291_1235 : mm_at mt_P 291 1235 = some ((1235, 1, .iconst 3, 0, 0, 0, 0), 4, 1, 0, 0, 2, 0, 0) := rfl
theorem bt_291_1236 : mm_at mt_P 291 1236 = some ((1236, 1, .iadd, 0, 0, 0, 0), 4, 1, 0, 0, 2, 0, 0) := rfl
theorem bt_291_1237 : mm_at mt_P 291 1237 = some ((1237, 1, .iaload, 0, 0, 0, 0), 4, 1, 0, 0, 2, 0, 0) := rfl
theorem bt_291_1238 : mm_at mt_P 291 1238 = some ((1238, 3, .ifCond .eq 7, 0, 0, 0, 0), 4, 1, 0, 0, 2, 0, 0) := rfl
theorem bt_291_1241 : mm_at mt_P 291 1241 = some ((1241, 1, .iconst 1, 0, 0, 0, 0), 4, 1, 0, 0, 2, 0, 0) := rfl
theorem bt_291_1242 : mm_at mt_P 291 1242 = some ((1242, 3, .goto 4, 0, 0, 0, 0), 4, 1, 0, 0, 2, 0, 0) := rfl
theorem bt_291_1245 : mm_at mt_P 291 1245 = some ((1245, 1, .iconst 0, 0, 0, 0, 0), 4, 1, 0, 0, 2, 0, 0) := rfl
theorem bt_291_1246 : mm_at mt_P 291 1246 = some ((1246, 3, .invokevirtual 144, 225, 0, 0, 1106), 4, 1, 0, 0, 2, 0, 0) := rfl
theorem bt_291_1249 : mm_at mt_P 291 1249 = some ((1249, 1, .pop, 0, 0, 0, 0), 4, 1, 0, 0, 2, 0, 0) := rfl
theorem bt_291_1250 : mm_at mt_P 291 1250 = some ((1250, 1, .aload_n 2, 0, 0, 0, 0), 4, 1, 0, 0, 2, 0, 0) := rfl
theorem bt_291_1251 : mm_at mt_P 291 1251 = some ((1251, 1, .aload_n 0, 0, 0, 0, 0), 4, 1, 0, 0, 2, 0, 0) := rfl
theorem bt_291_1252 : mm_at mt_P 291 1252 = some ((1252, 1, .iload_n 3, 0, 0, 0, 0), 4, 1, 0, 0, 2, 0, 0) := rfl
theorem bt_291_1253 : mm_at mt_P 291 1253 = some ((1253, 1, .iconst 1, 0, 0, 0, 0), 4, 1, 0, 0, 2, 0, 0) := rfl
theorem bt_291_1254 : mm_at mt_P 291 1254 = some ((1254, 1, .iadd, 0, 0, 0, 0), 4, 1, 0, 0, 2, 0, 0) := rfl
theorem bt_291_1255 : mm_at mt_P 291 1255 = some ((1255, 1, .iaload, 0, 0, 0, 0), 4, 1, 0, 0, 2, 0, 0) := rfl
theorem bt_291_1256 : mm_at mt_P 291 1256 = some ((1256, 1, .aload_n 0, 0, 0, 0, 0), 4, 1, 0, 0, 2, 0, 0) := rfl
theorem bt_291_1257 : mm_at mt_P 291 1257 = some ((1257, 1, .iload_n 3, 0, 0, 0, 0), 4, 1, 0, 0, 2, 0, 0) := rfl
theorem bt_291_1258 : mm_at mt_P 291 1258 = some ((1258, 1, .iconst 2, 0, 0, 0, 0), 4, 1, 0, 0, 2, 0, 0) := rfl
theorem bt_291_1259 : mm_at mt_P 291 1259 = some ((1259, 1, .iadd, 0, 0, 0, 0), 4, 1, 0, 0, 2, 0, 0) := rfl
theorem bt_291_1260 : mm_at mt_P 291 1260 = some ((1260, 1, .iaload, 0, 0, 0, 0), 4, 1, 0, 0, 2, 0, 0) := rfl
theorem bt_291_1261 : mm_at mt_P 291 1261 = some ((1261, 1, .aload_n 0, 0, 0, 0, 0), 4, 1, 0, 0, 2, 0, 0) := rfl
theorem bt_291_1262 : mm_at mt_P 291 1262 = some ((1262, 1, .iload_n 3, 0, 0, 0, 0), 4, 1, 0, 0, 2, 0, 0) := rfl
theorem bt_291_1263 : mm_at mt_P 291 1263 = some ((1263, 1, .iconst 3, 0, 0, 0, 0), 4, 1, 0, 0, 2, 0, 0) := rfl
theorem bt_291_1264 : mm_at mt_P 291 1264 = some ((1264, 1, .iadd, 0, 0, 0, 0), 4, 1, 0, 0, 2, 0, 0) := rfl
theorem bt_291_1265 : mm_at mt_P 291 1265 = some ((1265, 1, .iaload, 0, 0, 0, 0), 4, 1, 0, 0, 2, 0, 0) := rfl
theorem bt_291_1266 : mm_at mt_P 291 1266 = some ((1266, 3, .ifCond .eq 7, 0, 0, 0, 0), 4, 1, 0, 0, 2, 0, 0) := rfl
theorem bt_291_1269 : mm_at mt_P 291 1269 = some ((1269, 1, .iconst 1, 0, 0, 0, 0), 4, 1, 0, 0, 2, 0, 0) := rfl
theorem bt_291_1270 : mm_at mt_P 291 1270 = some ((1270, 3, .goto 4, 0, 0, 0, 0), 4, 1, 0, 0, 2, 0, 0) := rfl
theorem bt_291_1273 : mm_at mt_P 291 1273 = some ((1273, 1, .iconst 0, 0, 0, 0, 0), 4, 1, 0, 0, 2, 0, 0) := rfl
theorem bt_291_1274 : mm_at mt_P 291 1274 = some ((1274, 3, .invokevirtual 147, 14, 0, 0, 1806), 4, 1, 0, 0, 2, 0, 0) := rfl
theorem bt_291_1277 : mm_at mt_P 291 1277 = some ((1277, 1, .pop, 0, 0, 0, 0), 4, 1, 0, 0, 2, 0, 0) := rfl
theorem bt_291_1278 : mm_at mt_P 291 1278 = some ((1278, 3, .goto 174, 0, 0, 0, 0), 4, 1, 0, 0, 2, 0, 0) := rfl
theorem bt_291_1281 : mm_at mt_P 291 1281 = some ((1281, 1, .aload_n 1, 0, 0, 0, 0), 4, 1, 0, 0, 2, 0, 0) := rfl
theorem bt_291_1282 : mm_at mt_P 291 1282 = some ((1282, 1, .aload_n 0, 0, 0, 0, 0), 4, 1, 0, 0, 2, 0, 0) := rfl
theorem bt_291_1283 : mm_at mt_P 291 1283 = some ((1283, 1, .iload_n 3, 0, 0, 0, 0), 4, 1, 0, 0, 2, 0, 0) := rfl
theorem bt_291_1284 : mm_at mt_P 291 1284 = some ((1284, 1, .iconst 1, 0, 0, 0, 0), 4, 1, 0, 0, 2, 0, 0) := rfl
theorem bt_291_1285 : mm_at mt_P 291 1285 = some ((1285, 1, .iadd, 0, 0, 0, 0), 4, 1, 0, 0, 2, 0, 0) := rfl
theorem bt_291_1286 : mm_at mt_P 291 1286 = some ((1286, 1, .iaload, 0, 0, 0, 0), 4, 1, 0, 0, 2, 0, 0) := rfl
theorem bt_291_1287 : mm_at mt_P 291 1287 = some ((1287, 3, .invokevirtual 148, 264, 0, 0, 1117), 4, 1, 0, 0, 2, 0, 0) := rfl
theorem bt_291_1290 : mm_at mt_P 291 1290 = some ((1290, 1, .pop, 0, 0, 0, 0), 4, 1, 0, 0, 2, 0, 0) := rfl
theorem bt_291_1291 : mm_at mt_P 291 1291 = some ((1291, 1, .aload_n 2, 0, 0, 0, 0), 4, 1, 0, 0, 2, 0, 0) := rfl
theorem bt_291_1292 : mm_at mt_P 291 1292 = some ((1292, 1, .aload_n 0, 0, 0, 0, 0), 4, 1, 0, 0, 2, 0, 0) := rfl
theorem bt_291_1293 : mm_at mt_P 291 1293 = some ((1293, 1, .iload_n 3, 0, 0, 0, 0), 4, 1, 0, 0, 2, 0, 0) := rfl
theorem bt_291_1294 : mm_at mt_P 291 1294 = some ((1294, 1, .iconst 1, 0, 0, 0, 0), 4, 1, 0, 0, 2, 0, 0) := rfl
theorem bt_291_1295 : mm_at mt_P 291 1295 = some ((1295, 1, .iadd, 0, 0, 0, 0), 4, 1, 0, 0, 2, 0, 0) := rfl
theorem bt_291_1296 : mm_at mt_P 291 1296 = some ((1296, 1, .iaload, 0, 0, 0, 0), 4, 1, 0, 0, 2, 0, 0) := rfl
theorem bt_291_1297 : mm_at mt_P 291 1297 = some ((1297, 3, .invokevirtual 151, 95, 0, 0, 1813), 4, 1, 0, 0, 2, 0, 0) := rfl
theorem bt_291_1300 : mm_at mt_P 291 1300 = some ((1300, 1, .pop, 0, 0, 0, 0), 4, 1, 0, 0, 2, 0, 0) := rfl
theorem bt_291_1301 : mm_at mt_P 291 1301 = some ((1301, 3, .goto 151, 0, 0, 0, 0), 4, 1, 0, 0, 2, 0, 0) := rfl
theorem bt_291_1304 : mm_at mt_P 291 1304 = some ((1304, 1, .aload_n 1, 0, 0, 0, 0), 4, 1, 0, 0, 2, 0, 0) := rfl
theorem bt_291_1305 : mm_at mt_P 291 1305 = some ((1305, 1, .aload_n 0, 0, 0, 0, 0), 4, 1, 0, 0, 2, 0, 0) := rfl
theorem bt_291_1306 : mm_at mt_P 291 1306 = some ((1306, 1, .iload_n 3, 0, 0, 0, 0), 4, 1, 0, 0, 2, 0, 0) := rfl
theorem bt_291_1307 : mm_at mt_P 291 1307 = some ((1307, 1, .iconst 1, 0, 0, 0, 0), 4, 1, 0, 0, 2, 0, 0) := rfl
theorem bt_291_1308 : mm_at mt_P 291 1308 = some ((1308, 1, .iadd, 0, 0, 0, 0), 4, 1, 0, 0, 2, 0, 0) := rfl
theorem bt_291_1309 : mm_at mt_P 291 1309 = some ((1309, 1, .iaload, 0, 0, 0, 0), 4, 1, 0, 0, 2, 0, 0) := rfl
theorem bt_291_1310 : mm_at mt_P 291 1310 = some ((1310, 1, .aload_n 0, 0, 0, 0, 0), 4, 1, 0, 0, 2, 0, 0) := rfl
theorem bt_291_1311 : mm_at mt_P 291 1311 = some ((1311, 1, .iload_n 3, 0, 0, 0, 0), 4, 1, 0, 0, 2, 0, 0) := rfl
theorem bt_291_1312 : mm_at mt_P 291 1312 = some ((1312, 1, .iconst 2, 0, 0, 0, 0), 4, 1, 0, 0, 2, 0, 0) := rfl
theorem bt_291_1313 : mm_at mt_P 291 1313 = some ((1313, 1, .iadd, 0, 0, 0, 0), 4, 1, 0, 0, 2, 0, 0) := rfl
theorem bt_291_1314 : mm_at mt_P 291 1314 = some ((1314, 1, .iaload, 0, 0, 0, 0), 4, 1, 0, 0, 2, 0, 0) := rfl
theorem bt_291_1315 : mm_at mt_P 291 1315 = some ((1315, 3, .invokevirtual 152, 243, 0, 0, 1122), 4, 1, 0, 0, 2, 0, 0) := rfl
theorem bt_291_1318 : mm_at mt_P 291 1318 = some ((1318, 1, .pop, 0, 0, 0, 0), 4, 1, 0, 0, 2, 0, 0) := rfl
theorem bt_291_1319 : mm_at mt_P 291 1319 = some ((1319, 1, .aload_n 2, 0, 0, 0, 0), 4, 1, 0, 0, 2, 0, 0) := rfl
theorem bt_291_1320 : mm_at mt_P 291 1320 = some ((1320, 1, .aload_n 0, 0, 0, 0, 0), 4, 1, 0, 0, 2, 0, 0) := rfl
theorem bt_291_1321 : mm_at mt_P 291 1321 = some ((1321, 1, .iload_n 3, 0, 0, 0, 0), 4, 1, 0, 0, 2, 0, 0) := rfl
theorem bt_291_1322 : mm_at mt_P 291 1322 = some ((1322, 1, .iconst 1, 0, 0, 0, 0), 4, 1, 0, 0, 2, 0, 0) := rfl
theorem bt_291_1323 : mm_at mt_P 291 1323 = some ((1323, 1, .iadd, 0, 0, 0, 0), 4, 1, 0, 0, 2, 0, 0) := rfl
theorem bt_291_1324 : mm_at mt_P 291 1324 = some ((1324, 1, .iaload, 0, 0, 0, 0), 4, 1, 0, 0, 2, 0, 0) := rfl
theorem bt_291_1325 : mm_at mt_P 291 1325 = some ((1325, 1, .aload_n 0, 0, 0, 0, 0), 4, 1, 0, 0, 2, 0, 0) := rfl
theorem bt_291_1326 : mm_at mt_P 291 1326 = some ((1326, 1, .iload_n 3, 0, 0, 0, 0), 4, 1, 0, 0, 2, 0, 0) := rfl
theorem bt_291_1327 : mm_at mt_P 291 1327 = some ((1327, 1, .iconst 2, 0, 0, 0, 0), 4, 1, 0, 0, 2, 0, 0) := rfl
theorem bt_291_1328 : mm_at mt_P 291 1328 = some ((1328, 1, .iadd, 0, 0, 0, 0), 4, 1, 0, 0, 2, 0, 0) := rfl
theorem bt_291_1329 : mm_at mt_P 291 1329 = some ((1329, 1, .iaload, 0, 0, 0, 0), 4, 1, 0, 0, 2, 0, 0) := rfl
theorem bt_291_1330 : mm_at mt_P 291 1330 = some ((1330, 3, .invokevirtual 155, 60, 0, 0, 1818), 4, 1, 0, 0, 2, 0, 0) := rfl
theorem bt_291_1333 : mm_at mt_P 291 1333 = some ((1333, 1, .pop, 0, 0, 0, 0), 4, 1, 0, 0, 2, 0, 0) := rfl
theorem bt_291_1334 : mm_at mt_P 291 1334 = some ((1334, 3, .goto 118, 0, 0, 0, 0), 4, 1, 0, 0, 2, 0, 0) := rfl
theorem bt_291_1337 : mm_at mt_P 291 1337 = some ((1337, 1, .aload_n 1, 0, 0, 0, 0), 4, 1, 0, 0, 2, 0, 0) := rfl
theorem bt_291_1338 : mm_at mt_P 291 1338 = some ((1338, 1, .aload_n 0, 0, 0, 0, 0), 4, 1, 0, 0, 2, 0, 0) := rfl
theorem bt_291_1339 : mm_at mt_P 291 1339 = some ((1339, 1, .iload_n 3, 0, 0, 0, 0), 4, 1, 0, 0, 2, 0, 0) := rfl
theorem bt_291_1340 : mm_at mt_P 291 1340 = some ((1340, 1, .iconst 1, 0, 0, 0, 0), 4, 1, 0, 0, 2, 0, 0) := rfl
theorem bt_291_1341 : mm_at mt_P 291 1341 = some ((1341, 1, .iadd, 0, 0, 0, 0), 4, 1, 0, 0, 2, 0, 0) := rfl
theorem bt_291_1342 : mm_at mt_P 291 1342 = some ((1342, 1, .iaload, 0, 0, 0, 0), 4, 1, 0, 0, 2, 0, 0) := rfl
theorem bt_291_1343 : mm_at mt_P 291 1343 = some ((1343, 1, .aload_n 0, 0, 0, 0, 0), 4, 1, 0, 0, 2, 0, 0) := rfl
theorem bt_291_1344 : mm_at mt_P 291 1344 = some ((1344, 1, .iload_n 3, 0, 0, 0, 0), 4, 1, 0, 0, 2, 0, 0) := rfl
theorem bt_291_1345 : mm_at mt_P 291 1345 = some ((1345, 1, .iconst 2, 0, 0, 0, 0), 4, 1, 0, 0, 2, 0, 0) := rfl
theorem bt_291_1346 : mm_at mt_P 291 1346 = some ((1346, 1, .iadd, 0, 0, 0, 0), 4, 1, 0, 0, 2, 0, 0) := rfl
theorem bt_291_1347 : mm_at mt_P 291 1347 = some ((1347, 1, .iaload, 0, 0, 0, 0), 4, 1, 0, 0, 2, 0, 0) := rfl
theorem bt_291_1348 : mm_at mt_P 291 1348 = some ((1348, 3, .invokevirtual 156, 222, 0, 0, 1130), 4, 1, 0, 0, 2, 0, 0) := rfl
theorem bt_291_1351 : mm_at mt_P 291 1351 = some ((1351, 1, .pop, 0, 0, 0, 0), 4, 1, 0, 0, 2, 0, 0) := rfl
theorem bt_291_1352 : mm_at mt_P 291 1352 = some ((1352, 1, .aload_n 2, 0, 0, 0, 0), 4, 1, 0, 0, 2, 0, 0) := rfl
theorem bt_291_1353 : mm_at mt_P 291 1353 = some ((1353, 1, .aload_n 0, 0, 0, 0, 0), 4, 1, 0, 0, 2, 0, 0) := rfl
theorem bt_291_1354 : mm_at mt_P 291 1354 = some ((1354, 1, .iload_n 3, 0, 0, 0, 0), 4, 1, 0, 0, 2, 0, 0) := rfl
theorem bt_291_1355 : mm_at mt_P 291 1355 = some ((1355, 1, .iconst 1, 0, 0, 0, 0), 4, 1, 0, 0, 2, 0, 0) := rfl
theorem bt_291_1356 : mm_at mt_P 291 1356 = some ((1356, 1, .iadd, 0, 0, 0, 0), 4, 1, 0, 0, 2, 0, 0) := rfl
theorem bt_291_1357 : mm_at mt_P 291 1357 = some ((1357, 1, .iaload, 0, 0, 0, 0), 4, 1, 0, 0, 2, 0, 0) := rfl
theorem bt_291_1358 : mm_at mt_P 291 1358 = some ((1358, 1, .aload_n 0, 0, 0, 0, 0), 4, 1, 0, 0, 2, 0, 0) := rfl
theorem bt_291_1359 : mm_at mt_P 291 1359 = some ((1359, 1, .iload_n 3, 0, 0, 0, 0), 4, 1, 0, 0, 2, 0, 0) := rfl
theorem bt_291_1360 : mm_at mt_P 291 1360 = some ((1360, 1, .iconst 2, 0, 0, 0, 0), 4, 1, 0, 0, 2, 0, 0) := rfl
theorem bt_291_1361 : mm_at mt_P 291 1361 = some ((1361, 1, .iadd, 0, 0, 0, 0), 4, 1, 0, 0, 2, 0, 0) := rfl
theorem bt_291_1362 : mm_at mt_P 291 1362 = some ((1362, 1, .iaload, 0, 0, 0, 0), 4, 1, 0, 0, 2, 0, 0) := rfl
theorem bt_291_1363 : mm_at mt_P 291 1363 = some ((1363, 3, .invokevirtual 159, 6, 0, 0, 1822), 4, 1, 0, 0, 2, 0, 0) := rfl
theorem bt_291_1366 : mm_at mt_P 291 1366 = some ((1366, 1, .pop, 0, 0, 0, 0), 4, 1, 0, 0, 2, 0, 0) := rfl
theorem bt_291_1367 : mm_at mt_P 291 1367 = some ((1367, 3, .goto 85, 0, 0, 0, 0), 4, 1, 0, 0, 2, 0, 0) := rfl
theorem bt_291_1370 : mm_at mt_P 291 1370 = some ((1370, 1, .aload_n 1, 0, 0, 0, 0), 4, 1, 0, 0, 2, 0, 0) := rfl
theorem bt_291_1371 : mm_at mt_P 291 1371 = some ((1371, 3, .invokevirtual 160, 232, 0, 0, 1148), 4, 1, 0, 0, 2, 0, 0) := rfl
theorem bt_291_1374 : mm_at mt_P 291 1374 = some ((1374, 1, .pop, 0, 0, 0, 0), 4, 1, 0, 0, 2, 0, 0) := rfl
theorem bt_291_1375 : mm_at mt_P 291 1375 = some ((1375, 1, .aload_n 2, 0, 0, 0, 0), 4, 1, 0, 0, 2, 0, 0) := rfl
theorem bt_291_1376 : mm_at mt_P 291 1376 = some ((1376, 3, .invokevirtual 163, 35, 0, 0, 1830), 4, 1, 0, 0, 2, 0, 0) := rfl
theorem bt_291_1379 : mm_at mt_P 291 1379 = some ((1379, 1, .pop, 0, 0, 0, 0), 4, 1, 0, 0, 2, 0, 0) := rfl
theorem bt_291_1380 : mm_at mt_P 291 1380 = some ((1380, 3, .goto 72, 0, 0, 0, 0), 4, 1, 0, 0, 2, 0, 0) := rfl
theorem bt_291_1383 : mm_at mt_P 291 1383 = some ((1383, 1, .aload_n 1, 0, 0, 0, 0), 4, 1, 0, 0, 2, 0, 0) := rfl
theorem bt_291_1384 : mm_at mt_P 291 1384 = some ((1384, 1, .aload_n 0, 0, 0, 0, 0), 4, 1, 0, 0, 2, 0, 0) := rfl
theorem bt_291_1385 : mm_at mt_P 291 1385 = some ((1385, 1, .iload_n 3, 0, 0, 0, 0), 4, 1, 0, 0, 2, 0, 0) := rfl
theorem bt_291_1386 : mm_at mt_P 291 1386 = some ((1386, 1, .iconst 1, 0, 0, 0, 0), 4, 1, 0, 0, 2, 0, 0) := rfl
theorem bt_291_1387 : mm_at mt_P 291 1387 = some ((1387, 1, .iadd, 0, 0, 0, 0), 4, 1, 0, 0, 2, 0, 0) := rfl
theorem bt_291_1388 : mm_at mt_P 291 1388 = some ((1388, 1, .iaload, 0, 0, 0, 0), 4, 1, 0, 0, 2, 0, 0) := rfl
theorem bt_291_1389 : mm_at mt_P 291 1389 = some ((1389, 3, .invokevirtual 164, 236, 0, 0, 1156), 4, 1, 0, 0, 2, 0, 0) := rfl
theorem bt_291_1392 : mm_at mt_P 291 1392 = some ((1392, 1, .pop, 0, 0, 0, 0), 4, 1, 0, 0, 2, 0, 0) := rfl
theorem bt_291_1393 : mm_at mt_P 291 1393 = some ((1393, 1, .aload_n 2, 0, 0, 0, 0), 4, 1, 0, 0, 2, 0, 0) := rfl
theorem bt_291_1394 : mm_at mt_P 291 1394 = some ((1394, 1, .aload_n 0, 0, 0, 0, 0), 4, 1, 0, 0, 2, 0, 0) := rfl
theorem bt_291_1395 : mm_at mt_P 291 1395 = some ((1395, 1, .iload_n 3, 0, 0, 0, 0), 4, 1, 0, 0, 2, 0, 0) := rfl
theorem bt_291_1396 : mm_at mt_P 291 1396 = some ((1396, 1, .iconst 1, 0, 0, 0, 0), 4, 1, 0, 0, 2, 0, 0) := rfl
theorem bt_291_1397 : mm_at mt_P 291 1397 = some ((1397, 1, .iadd, 0, 0, 0, 0), 4, 1, 0, 0, 2, 0, 0) := rfl
theorem bt_291_1398 : mm_at mt_P 291 1398 = some ((1398, 1, .iaload, 0, 0, 0, 0), 4, 1, 0, 0, 2, 0, 0) := rfl
theorem bt_291_1399 : mm_at mt_P 291 1399 = some ((1399, 3, .invokevirtual 168, 41, 0, 0, 1834), 4, 1, 0, 0, 2, 0, 0) := rfl
theorem bt_291_1402 : mm_at mt_P 291 1402 = some ((1402, 1, .pop, 0, 0, 0, 0), 4, 1, 0, 0, 2, 0, 0) := rfl
theorem bt_291_1403 : mm_at mt_P 291 1403 = some ((1403, 3, .goto 49, 0, 0, 0, 0), 4, 1, 0, 0, 2, 0, 0) := rfl
theorem bt_291_1406 : mm_at mt_P 291 1406 = some ((1406, 1, .aload_n 1, 0, 0, 0, 0), 4, 1, 0, 0, 2, 0, 0) := rfl
theorem bt_291_1407 : mm_at mt_P 291 1407 = some ((1407, 1, .aload_n 0, 0, 0, 0, 0), 4, 1, 0, 0, 2, 0, 0) := rfl
theorem bt_291_1408 : mm_at mt_P 291 1408 = some ((1408, 1, .iload_n 3, 0, 0, 0, 0), 4, 1, 0, 0, 2, 0, 0) := rfl
theorem bt_291_1409 : mm_at mt_P 291 1409 = some ((1409, 1, .iconst 1, 0, 0, 0, 0), 4, 1, 0, 0, 2, 0, 0) := rfl
theorem bt_291_1410 : mm_at mt_P 291 1410 = some ((1410, 1, .iadd, 0, 0, 0, 0), 4, 1, 0, 0, 2, 0, 0) := rfl
theorem bt_291_1411 : mm_at mt_P 291 1411 = some ((1411, 1, .iaload, 0, 0, 0, 0), 4, 1, 0, 0, 2, 0, 0) := rfl
theorem bt_291_1412 : mm_at mt_P 291 1412 = some ((1412, 3, .invokevirtual 169, 254, 0, 0, 1164), 4, 1, 0, 0, 2, 0, 0) := rfl
theorem bt_291_1415 : mm_at mt_P 291 1415 = some ((1415, 1, .pop, 0, 0, 0, 0), 4, 1, 0, 0, 2, 0, 0) := rfl
theorem bt_291_1416 : mm_at mt_P 291 1416 = some ((1416, 1, .aload_n 2, 0, 0, 0, 0), 4, 1, 0, 0, 2, 0, 0) := rfl
theorem bt_291_1417 : mm_at mt_P 291 1417 = some ((1417, 1, .aload_n 0, 0, 0, 0, 0), 4, 1, 0, 0, 2, 0, 0) := rfl
theorem bt_291_1418 : mm_at mt_P 291 1418 = some ((1418, 1, .iload_n 3, 0, 0, 0, 0), 4, 1, 0, 0, 2, 0, 0) := rfl
theorem bt_291_1419 : mm_at mt_P 291 1419 = some ((1419, 1, .iconst 1, 0, 0, 0, 0), 4, 1, 0, 0, 2, 0, 0) := rfl
theorem bt_291_1420 : mm_at mt_P 291 1420 = some ((1420, 1, .iadd, 0, 0, 0, 0), 4, 1, 0, 0, 2, 0, 0) := rfl
theorem bt_291_1421 : mm_at mt_P 291 1421 = some ((1421, 1, .iaload, 0, 0, 0, 0), 4, 1, 0, 0, 2, 0, 0) := rfl
theorem bt_291_1422 : mm_at mt_P 291 1422 = some ((1422, 3, .invokevirtual 172, 78, 0, 0, 1838), 4, 1, 0, 0, 2, 0, 0) := rfl
theorem bt_291_1425 : mm_at mt_P 291 1425 = some ((1425, 1, .pop, 0, 0, 0, 0), 4, 1, 0, 0, 2, 0, 0) := rfl
theorem bt_291_1426 : mm_at mt_P 291 1426 = some ((1426, 3, .goto 26, 0, 0, 0, 0), 4, 1, 0, 0, 2, 0, 0) := rfl
theorem bt_291_1429 : mm_at mt_P 291 1429 = some ((1429, 1, .aload_n 1, 0, 0, 0, 0), 4, 1, 0, 0, 2, 0, 0) := rfl
theorem bt_291_1430 : mm_at mt_P 291 1430 = some ((1430, 1, .aload_n 0, 0, 0, 0, 0), 4, 1, 0, 0, 2, 0, 0) := rfl
theorem bt_291_1431 : mm_at mt_P 291 1431 = some ((1431, 1, .iload_n 3, 0, 0, 0, 0), 4, 1, 0, 0, 2, 0, 0) := rfl
theorem bt_291_1432 : mm_at mt_P 291 1432 = some ((1432, 1, .iconst 1, 0, 0, 0, 0), 4, 1, 0, 0, 2, 0, 0) := rfl
theorem bt_291_1433 : mm_at mt_P 291 1433 = some ((1433, 1, .iadd, 0, 0, 0, 0), 4, 1, 0, 0, 2, 0, 0) := rfl
theorem bt_291_1434 : mm_at mt_P 291 1434 = some ((1434, 1, .iaload, 0, 0, 0, 0), 4, 1, 0, 0, 2, 0, 0) := rfl
theorem bt_291_1435 : mm_at mt_P 291 1435 = some ((1435, 3, .invokevirtual 173, 227, 0, 0, 1173), 4, 1, 0, 0, 2, 0, 0) := rfl
theorem bt_291_1438 : mm_at mt_P 291 1438 = some ((1438, 1, .pop, 0, 0, 0, 0), 4, 1, 0, 0, 2, 0, 0) := rfl
theorem bt_291_1439 : mm_at mt_P 291 1439 = some ((1439, 1, .aload_n 2, 0, 0, 0, 0), 4, 1, 0, 0, 2, 0, 0) := rfl
theorem bt_291_1440 : mm_at mt_P 291 1440 = some ((1440, 1, .aload_n 0, 0, 0, 0, 0), 4, 1, 0, 0, 2, 0, 0) := rfl
theorem bt_291_1441 : mm_at mt_P 291 1441 = some ((1441, 1, .iload_n 3, 0, 0, 0, 0), 4, 1, 0, 0, 2, 0, 0) := rfl
theorem bt_291_1442 : mm_at mt_P 291 1442 = some ((1442, 1, .iconst 1, 0, 0, 0, 0), 4, 1, 0, 0, 2, 0, 0) := rfl
theorem bt_291_1443 : mm_at mt_P 291 1443 = some ((1443, 1, .iadd, 0, 0, 0, 0), 4, 1, 0, 0, 2, 0, 0) := rfl
theorem bt_291_1444 : mm_at mt_P 291 1444 = some ((1444, 1, .iaload, 0, 0, 0, 0), 4, 1, 0, 0, 2, 0, 0) := rfl
theorem bt_291_1445 : mm_at mt_P 291 1445 = some ((1445, 3, .invokevirtual 176, 18, 0, 0, 1842), 4, 1, 0, 0, 2, 0, 0) := rfl
theorem bt_291_1448 : mm_at mt_P 291 1448 = some ((1448, 1, .pop, 0, 0, 0, 0), 4, 1, 0, 0, 2, 0, 0) := rfl
theorem bt_291_1449 : mm_at mt_P 291 1449 = some ((1449, 3, .goto 3, 0, 0, 0, 0), 4, 1, 0, 0, 2, 0, 0) := rfl
theorem bt_291_1452 : mm_at mt_P 291 1452 = some ((1452, 3, .iinc 3 6, 0, 0, 0, 0), 4, 1, 0, 0, 2, 0, 0) := rfl
theorem bt_291_1455 : mm_at mt_P 291 1455 = some ((1455, 3, .goto (-1437), 0, 0, 0, 0), 4, 1, 0, 0, 2, 0, 0) := rfl
theorem bt_291_1458 : mm_at mt_P 291 1458 = some ((1458, 1, .iconst 1, 0, 0, 0, 0), 4, 1, 0, 0, 2, 0, 0) := rfl
theorem bt_291_1459 : mm_at mt_P 291 1459 = some ((1459, 1, .ireturn, 0, 0, 0, 0), 4, 1, 0, 0, 2, 0, 0) := rfl
section BLL
variable {E : mm_E} {b n cb sb : Nat} {xs : Nat → Int32}
set_option maxHeartbeats 40000000 in
theorem wl_k_0 {i x : Int32} {lv : mm_V} {h : mm_H} {o : Option Value} (hST : wt_ST E) (hSA : ∀ {x y : Int32} (ρ : Nat → Int32), en_SA E ρ (wl_o x y) mt_SB) (h8 : ∃ q, E.2[8]? = some q) (hS : bl_S E b n xs) (hn : n ≤ 3072) (g0 : mm_get lv 0 = some (.ref b)) (g1 : mm_get lv 1 = some (.ref (E.1 + 0))) (g2 : mm_get lv 2 = some (.ref (E.1 + 88))) (g3 : mm_get lv 3 = some (.int i)) (hi0 : 0 ≤ i.toInt) (hi5 : i.toInt + 6 ≤ (n : Int)) (hL : wl_W E wl_H x x h) (hR : wt_R x x h) (hQ : wt_s h 2 = wt_s h 8817) (kk : ∀ (h' : mm_H) (x' : Int32) (o' : Option Value), wl_W E wl_H x' x' h' → wt_R x' x' h' → wt_s h' 2 = wt_s h' 8817 → bh_G E st_FIN ((291, 1452, lv, [], cb, sb) :: [], h', o')) : bh_G E st_FIN ((291, 200, lv, [], cb, sb) :: [], h, o) := by
  refine bl_ld (pc' := 201) bt_291_200 rfl rfl (fun _ _ _ => rfl) g1 rfl ?_
  refine bl_ld (pc' := 202) bt_291_201 rfl rfl (fun _ _ _ => rfl) g0 rfl ?_
  refine bl_ld (pc' := 203) bt_291_202 rfl rfl (fun _ _ _ => rfl) g3 rfl ?_
  refine bl_c (pc' := 204) (n := 1) bt_291_203 rfl rfl (fun _ _ _ => rfl) (by decide) (fun c1 e2 => ?_)
  refine bl_add (pc' := 205) bt_291_204 rfl (by omega) (by omega) (fun v3 e4 => ?_)
  refine bl_sc (pc' := 206) bt_291_205 rfl hS (by omega) (by omega) ?_
  refine bl_ld (pc' := 207) bt_291_206 rfl rfl (fun _ _ _ => rfl) g0 rfl ?_
  refine bl_ld (pc' := 208) bt_291_207 rfl rfl (fun _ _ _ => rfl) g3 rfl ?_
  refine bl_c (pc' := 209) (n := 2) bt_291_208 rfl rfl (fun _ _ _ => rfl) (by decide) (fun c5 e6 => ?_)
  refine bl_add (pc' := 210) bt_291_209 rfl (by omega) (by omega) (fun v7 e8 => ?_)
  refine bl_sc (pc' := 211) bt_291_210 rfl hS (by omega) (by omega) ?_
  refine bl_ld (pc' := 212) bt_291_211 rfl rfl (fun _ _ _ => rfl) g0 rfl ?_
  refine bl_ld (pc' := 213) bt_291_212 rfl rfl (fun _ _ _ => rfl) g3 rfl ?_
  refine bl_c (pc' := 214) (n := 3) bt_291_213 rfl rfl (fun _ _ _ => rfl) (by decide) (fun c9 e10 => ?_)
  refine bl_add (pc' := 215) bt_291_214 rfl (by omega) (by omega) (fun v11 e12 => ?_)
  refine bl_sc (pc' := 216) bt_291_215 rfl hS (by omega) (by omega) ?_
  refine bl_ld (pc' := 217) bt_291_216 rfl rfl (fun _ _ _ => rfl) g0 rfl ?_
  refine bl_ld (pc' := 218) bt_291_217 rfl rfl (fun _ _ _ => rfl) g3 rfl ?_
  refine bl_c (pc' := 219) (n := 4) bt_291_218 rfl rfl (fun _ _ _ => rfl) (by decide) (fun c13 e14 => ?_)
  refine bl_add (pc' := 220) bt_291_219 rfl (by omega) (by omega) (fun v15 e16 => ?_)
  refine bl_sc (pc' := 221) bt_291_220 rfl hS (by omega) (by omega) ?_
  refine bl_ld (pc' := 222) bt_291_221 rfl rfl (fun _ _ _ => rfl) g0 rfl ?_
  refine bl_ld (pc' := 223) bt_291_222 rfl rfl (fun _ _ _ => rfl) g3 rfl ?_
  refine bl_c (pc' := 224) (n := 5) bt_291_223 rfl rfl (fun _ _ _ => rfl) (by decide) (fun c17 e18 => ?_)
  refine bl_add (pc' := 225) bt_291_224 rfl (by omega) (by omega) (fun v19 e20 => ?_)
  refine bl_sc (pc' := 226) bt_291_225 rfl hS (by omega) (by omega) ?_
  refine bl_cv (pc' := 229) (st := []) (args := [.int (xs (v19).toInt.toNat), .int (xs (v15).toInt.toNat), .int (xs (v11).toInt.toNat), .int (xs (v7).toInt.toNat), .int (xs (v3).toInt.toNat)]) (c := 0) (ci := 8) bt_291_226 rfl rfl (by decide) (wl_o0 hL) (by decide) (Nat.succ_lt_succ (Nat.zero_lt_succ _)) rfl (Nat.le_of_ble_eq_true rfl) (Nat.le_of_ble_eq_true rfl) ?_
  refine wj_b (K := 230) (FIN := st_FIN) (g := (291, 229, lv, [], cb, sb)) (t := []) (A := fun h' r => ∃ v : Int32, wl_W E wl_H v x h' ∧ ((x.toInt + 20 ≤ 2000 ∧ v.toInt = x.toInt + 20 ∧ r.toInt = x.toInt + 20) ∨ (2000 < x.toInt + 20 ∧ v.toInt = x.toInt ∧ r.toInt = -1)) ∧ wt_F 1 89 ((xs (v3).toInt.toNat)) ((xs (v7).toInt.toNat)) ((xs (v11).toInt.toNat)) ((xs (v15).toInt.toNat)) ((xs (v19).toInt.toNat)) x h h') rfl (by decide) (by decide) hL (fun F9 k1 => wk_c_feed (FIN := F9) (g := bp_mf) (t := []) hL (Nat.le_of_ble_eq_true rfl) (fun h r v a b c => k1 _ _ ⟨v, a, b, c⟩)) (fun h21 r22 ⟨v25, hL23, z26, K27⟩ q24 => ?_)
  have hQ28 := wt_q hQ q24
  show bh_G E st_FIN ((291, 229, lv, [.int r22], cb, sb) :: [], h21, none)
  refine bl_pop (pc' := 230) bt_291_229 rfl rfl ?_
  refine bl_ld (pc' := 231) bt_291_230 rfl rfl (fun _ _ _ => rfl) g2 rfl ?_
  refine bl_ld (pc' := 232) bt_291_231 rfl rfl (fun _ _ _ => rfl) g0 rfl ?_
  refine bl_ld (pc' := 233) bt_291_232 rfl rfl (fun _ _ _ => rfl) g3 rfl ?_
  refine bl_c (pc' := 234) (n := 1) bt_291_233 rfl rfl (fun _ _ _ => rfl) (by decide) (fun c29 e30 => ?_)
  refine bl_add (pc' := 235) bt_291_234 rfl (by omega) (by omega) (fun v31 e32 => ?_)
  refine bl_sc (pc' := 236) bt_291_235 rfl hS (by omega) (by omega) ?_
  refine bl_ld (pc' := 237) bt_291_236 rfl rfl (fun _ _ _ => rfl) g0 rfl ?_
  refine bl_ld (pc' := 238) bt_291_237 rfl rfl (fun _ _ _ => rfl) g3 rfl ?_
  refine bl_c (pc' := 239) (n := 2) bt_291_238 rfl rfl (fun _ _ _ => rfl) (by decide) (fun c33 e34 => ?_)
  refine bl_add (pc' := 240) bt_291_239 rfl (by omega) (by omega) (fun v35 e36 => ?_)
  refine bl_sc (pc' := 241) bt_291_240 rfl hS (by omega) (by omega) ?_
  refine bl_ld (pc' := 242) bt_291_241 rfl rfl (fun _ _ _ => rfl) g0 rfl ?_
  refine bl_ld (pc' := 243) bt_291_242 rfl rfl (fun _ _ _ => rfl) g3 rfl ?_
  refine bl_c (pc' := 244) (n := 3) bt_291_243 rfl rfl (fun _ _ _ => rfl) (by decide) (fun c37 e38 => ?_)
  refine bl_add (pc' := 245) bt_291_244 rfl (by omega) (by omega) (fun v39 e40 => ?_)
  refine bl_sc (pc' := 246) bt_291_245 rfl hS (by omega) (by omega) ?_
  refine bl_ld (pc' := 247) bt_291_246 rfl rfl (fun _ _ _ => rfl) g0 rfl ?_
  refine bl_ld (pc' := 248) bt_291_247 rfl rfl (fun _ _ _ => rfl) g3 rfl ?_
  refine bl_c (pc' := 249) (n := 4) bt_291_248 rfl rfl (fun _ _ _ => rfl) (by decide) (fun c41 e42 => ?_)
  refine bl_add (pc' := 250) bt_291_249 rfl (by omega) (by omega) (fun v43 e44 => ?_)
  refine bl_sc (pc' := 251) bt_291_250 rfl hS (by omega) (by omega) ?_
  refine bl_ld (pc' := 252) bt_291_251 rfl rfl (fun _ _ _ => rfl) g0 rfl ?_
  refine bl_ld (pc' := 253) bt_291_252 rfl rfl (fun _ _ _ => rfl) g3 rfl ?_
  refine bl_c (pc' := 254) (n := 5) bt_291_253 rfl rfl (fun _ _ _ => rfl) (by decide) (fun c45 e46 => ?_)
  refine bl_add (pc' := 255) bt_291_254 rfl (by omega) (by omega) (fun v47 e48 => ?_)
  refine bl_sc (pc' := 256) bt_291_255 rfl hS (by omega) (by omega) ?_
  refine bl_cv (pc' := 259) (st := []) (args := [.int (xs (v47).toInt.toNat), .int (xs (v43).toInt.toNat), .int (xs (v39).toInt.toNat), .int (xs (v35).toInt.toNat), .int (xs (v31).toInt.toNat)]) (c := 88) (ci := 9) bt_291_256 rfl rfl (by decide) (wl_o88 hL23) (by decide) (Nat.succ_lt_succ (Nat.zero_lt_succ _)) rfl (Nat.le_of_ble_eq_true rfl) (Nat.le_of_ble_eq_true rfl) ?_
  refine wj_b (K := 28) (FIN := st_FIN) (g := (291, 259, lv, [], cb, sb)) (t := []) (A := fun h' r => ∃ v : Int32, wl_W E wl_H v25 v h' ∧ ((x.toInt + 20 ≤ 2000 ∧ v.toInt = x.toInt + 20 ∧ r.toInt = x.toInt + 20) ∨ (2000 < x.toInt + 20 ∧ v.toInt = x.toInt ∧ r.toInt = -1)) ∧ wt_F 89 1 ((xs (v31).toInt.toNat)) ((xs (v35).toInt.toNat)) ((xs (v39).toInt.toNat)) ((xs (v43).toInt.toNat)) ((xs (v47).toInt.toNat)) x h21 h') rfl (by decide) (by decide) hL23 (fun F9 k1 => wk_m_feed (FIN := F9) (g := bp_mf) (t := []) hL23 (Nat.le_of_ble_eq_true rfl) (fun h r v a b c => k1 _ _ ⟨v, a, b, c⟩)) (fun h49 r50 ⟨v53, hL51, z54, K55⟩ q52 => ?_)
  have ev0 : v31 = v3 := Int32.toInt_inj.mp (by omega)
  rw [ev0] at K55
  have ev1 : v35 = v7 := Int32.toInt_inj.mp (by omega)
  rw [ev1] at K55
  have ev2 : v39 = v11 := Int32.toInt_inj.mp (by omega)
  rw [ev2] at K55
  have ev3 : v43 = v15 := Int32.toInt_inj.mp (by omega)
  rw [ev3] at K55
  have ev4 : v47 = v19 := Int32.toInt_inj.mp (by omega)
  rw [ev4] at K55
  have hR56 := wt_fd hL.2.2.1 hR z26 z54 K27 K55
  have hQ57 := wt_q hQ28 q52
  show bh_G E st_FIN ((291, 259, lv, [.int r50], cb, sb) :: [], h49, none)
  refine bl_pop (pc' := 260) bt_291_259 rfl rfl ?_
  refine bl_go (pc' := 1452) bt_291_260 rfl ?_
  have hxy : v53 = v25 := Int32.toInt_inj.mp (by omega)
  rw [hxy] at hL51 hR56
  exact kk _ _ _ hL51 hR56 hQ57
set_option maxHeartbeats 40000000 in
theorem wl_k_1 {i x : Int32} {lv : mm_V} {h : mm_H} {o : Option Value} (hST : wt_ST E) (hSA : ∀ {x y : Int32} (ρ : Nat → Int32), en_SA E ρ (wl_o x y) mt_SB) (h8 : ∃ q, E.2[8]? = some q) (hS : bl_S E b n xs) (hn : n ≤ 3072) (g0 : mm_get lv 0 = some (.ref b)) (g1 : mm_get lv 1 = some (.ref (E.1 + 0))) (g2 : mm_get lv 2 = some (.ref (E.1 + 88))) (g3 : mm_get lv 3 = some (.int i)) (hi0 : 0 ≤ i.toInt) (hi5 : i.toInt + 6 ≤ (n : Int)) (hL : wl_W E wl_H x x h) (hR : wt_R x x h) (hQ : wt_s h 2 = wt_s h 8817) (kk : ∀ (h' : mm_H) (x' : Int32) (o' : Option Value), wl_W E wl_H x' x' h' → wt_R x' x' h' → wt_s h' 2 = wt_s h' 8817 → bh_G E st_FIN ((291, 1452, lv, [], cb, sb) :: [], h', o')) : bh_G E st_FIN ((291, 263, lv, [], cb, sb) :: [], h, o) := by
  refine bl_ld (pc' := 264) bt_291_263 rfl rfl (fun _ _ _ => rfl) g1 rfl ?_
  refine bl_ld (pc' := 265) bt_291_264 rfl rfl (fun _ _ _ => rfl) g0 rfl ?_
  refine bl_ld (pc' := 266) bt_291_265 rfl rfl (fun _ _ _ => rfl) g3 rfl ?_
  refine bl_c (pc' := 267) (n := 1) bt_291_266 rfl rfl (fun _ _ _ => rfl) (by decide) (fun c58 e59 => ?_)
  refine bl_add (pc' := 268) bt_291_267 rfl (by omega) (by omega) (fun v60 e61 => ?_)
  refine bl_sc (pc' := 269) bt_291_268 rfl hS (by omega) (by omega) ?_
  refine bl_cv (pc' := 272) (st := []) (args := [.int (xs (v60).toInt.toNat)]) (c := 0) (ci := 8) bt_291_269 rfl rfl (by decide) (wl_o0 hL) (by decide) (Nat.succ_lt_succ (Nat.zero_lt_succ _)) rfl (Nat.le_of_ble_eq_true rfl) (Nat.le_of_ble_eq_true rfl) ?_
  refine wj_b (K := 221) (FIN := st_FIN) (g := (291, 272, lv, [], cb, sb)) (t := []) (A := fun h' r => ∃ v : Int32, wl_W E wl_H v x h' ∧ ((0 ≤ ((xs (v60).toInt.toNat)).toInt ∧ ((xs (v60).toInt.toNat)).toInt ≤ x.toInt ∧ v.toInt = x.toInt - ((xs (v60).toInt.toNat)).toInt ∧ r.toInt = x.toInt - ((xs (v60).toInt.toNat)).toInt) ∨ ((((xs (v60).toInt.toNat)).toInt < 0 ∨ x.toInt < ((xs (v60).toInt.toNat)).toInt) ∧ v.toInt = x.toInt ∧ r.toInt = -1)) ∧ wt_K h h') rfl (by decide) (by decide) hL (fun F9 k1 => wk_c_back (FIN := F9) (g := bp_mf) (t := []) hL (fun h r v a b c => k1 _ _ ⟨v, a, b, c⟩)) (fun h62 r63 ⟨v66, hL64, z67, K68⟩ q65 => ?_)
  have hQ69 := wt_q hQ q65
  show bh_G E st_FIN ((291, 272, lv, [.int r63], cb, sb) :: [], h62, none)
  refine bl_pop (pc' := 273) bt_291_272 rfl rfl ?_
  refine bl_ld (pc' := 274) bt_291_273 rfl rfl (fun _ _ _ => rfl) g2 rfl ?_
  refine bl_ld (pc' := 275) bt_291_274 rfl rfl (fun _ _ _ => rfl) g0 rfl ?_
  refine bl_ld (pc' := 276) bt_291_275 rfl rfl (fun _ _ _ => rfl) g3 rfl ?_
  refine bl_c (pc' := 277) (n := 1) bt_291_276 rfl rfl (fun _ _ _ => rfl) (by decide) (fun c70 e71 => ?_)
  refine bl_add (pc' := 278) bt_291_277 rfl (by omega) (by omega) (fun v72 e73 => ?_)
  refine bl_sc (pc' := 279) bt_291_278 rfl hS (by omega) (by omega) ?_
  refine bl_cv (pc' := 282) (st := []) (args := [.int (xs (v72).toInt.toNat)]) (c := 88) (ci := 9) bt_291_279 rfl rfl (by decide) (wl_o88 hL64) (by decide) (Nat.succ_lt_succ (Nat.zero_lt_succ _)) rfl (Nat.le_of_ble_eq_true rfl) (Nat.le_of_ble_eq_true rfl) ?_
  refine wj_b (K := 5) (FIN := st_FIN) (g := (291, 282, lv, [], cb, sb)) (t := []) (A := fun h' r => ∃ v : Int32, wl_W E wl_H v66 v h' ∧ ((0 ≤ ((xs (v72).toInt.toNat)).toInt ∧ ((xs (v72).toInt.toNat)).toInt ≤ x.toInt ∧ v.toInt = x.toInt - ((xs (v72).toInt.toNat)).toInt ∧ r.toInt = x.toInt - ((xs (v72).toInt.toNat)).toInt) ∨ ((((xs (v72).toInt.toNat)).toInt < 0 ∨ x.toInt < ((xs (v72).toInt.toNat)).toInt) ∧ v.toInt = x.toInt ∧ r.toInt = -1)) ∧ wt_K h62 h') rfl (by decide) (by decide) hL64 (fun F9 k1 => wk_m_back (FIN := F9) (g := bp_mf) (t := []) hL64 (fun h r v a b c => k1 _ _ ⟨v, a, b, c⟩)) (fun h74 r75 ⟨v78, hL76, z79, K80⟩ q77 => ?_)
  have hR81 := wt_bk (v := v66) (v' := v78) hR (by omega) (by omega) K68 K80
  have hQ82 := wt_q hQ69 q77
  show bh_G E st_FIN ((291, 282, lv, [.int r75], cb, sb) :: [], h74, none)
  refine bl_pop (pc' := 283) bt_291_282 rfl rfl ?_
  refine bl_go (pc' := 1452) bt_291_283 rfl ?_
  have ev : v72 = v60 := Int32.toInt_inj.mp (by omega)
  rw [ev] at z79
  have hxy : v78 = v66 := Int32.toInt_inj.mp (by omega)
  rw [hxy] at hL76 hR81
  exact kk _ _ _ hL76 hR81 hQ82
set_option maxHeartbeats 40000000 in
theorem wl_k_2 {i x : Int32} {lv : mm_V} {h : mm_H} {o : Option Value} (hST : wt_ST E) (hSA : ∀ {x y : Int32} (ρ : Nat → Int32), en_SA E ρ (wl_o x y) mt_SB) (h8 : ∃ q, E.2[8]? = some q) (hS : bl_S E b n xs) (hn : n ≤ 3072) (g0 : mm_get lv 0 = some (.ref b)) (g1 : mm_get lv 1 = some (.ref (E.1 + 0))) (g2 : mm_get lv 2 = some (.ref (E.1 + 88))) (g3 : mm_get lv 3 = some (.int i)) (hi0 : 0 ≤ i.toInt) (hi5 : i.toInt + 6 ≤ (n : Int)) (hL : wl_W E wl_H x x h) (hR : wt_R x x h) (hQ : wt_s h 2 = wt_s h 8817) (kk : ∀ (h' : mm_H) (x' : Int32) (o' : Option Value), wl_W E wl_H x' x' h' → wt_R x' x' h' → wt_s h' 2 = wt_s h' 8817 → bh_G E st_FIN ((291, 1452, lv, [], cb, sb) :: [], h', o')) : bh_G E st_FIN ((291, 286, lv, [], cb, sb) :: [], h, o) := by
  refine bl_ld (pc' := 287) bt_291_286 rfl rfl (fun _ _ _ => rfl) g1 rfl ?_
  refine bl_cv (pc' := 290) (st := []) (args := []) (c := 0) (ci := 8) bt_291_287 rfl rfl (by decide) (wl_o0 hL) (by decide) (Nat.succ_lt_succ (Nat.zero_lt_succ _)) rfl (Nat.le_of_ble_eq_true rfl) (Nat.le_of_ble_eq_true rfl) ?_
  refine wk_c_read (FIN := st_FIN) (g := (291, 290, lv, [], cb, sb)) (t := []) hSA h8 hST hL hR rfl rfl (Nat.le_of_ble_eq_true rfl) (fun h83 r84 hL85 K87 e88 p89 => ?_)
  show bh_G E st_FIN ((291, 290, lv, [.int r84], cb, sb) :: [], h83, none)
  refine bl_pop (pc' := 291) bt_291_290 rfl rfl ?_
  refine bl_ld (pc' := 292) bt_291_291 rfl rfl (fun _ _ _ => rfl) g2 rfl ?_
  refine bl_cv (pc' := 295) (st := []) (args := []) (c := 88) (ci := 9) bt_291_292 rfl rfl (by decide) (wl_o88 hL85) (by decide) (Nat.succ_lt_succ (Nat.zero_lt_succ _)) rfl (Nat.le_of_ble_eq_true rfl) (Nat.le_of_ble_eq_true rfl) ?_
  refine wj_c (K := 77) (FIN := st_FIN) (g := (291, 295, lv, [], cb, sb)) (t := []) (A := fun h' r => wl_W E wl_H 0 0 h' ∧ wt_L h' 95 = wt_L h83 95 ∧ (wt_s h' 8817).toInt = wt_PL (br_A h 1) x.toInt.toNat) rfl (by decide) hL85 (fun F9 k1 => wk_m_read (FIN := F9) (g := bp_mf) (t := []) (X := br_A h 1) (n := x.toInt.toNat) hSA hL85 (by rw [K87.2]; exact hR.2) (fun j hj => by rw [K87.1]; exact (hR.1 j hj).2 hj) rfl (Nat.le_of_ble_eq_true rfl) (fun h r a b _ d => k1 _ _ ⟨a, b, d⟩)) (fun h90 r91 ⟨hL92, K94, p96⟩ q93 => ?_)
  have hR97 := wt_rd hR (K94.trans K87.2)
  have hQ98 : wt_s h90 2 = wt_s h90 8817 := q93.trans (Int32.toInt_inj.mp (p89.trans p96.symm))
  show bh_G E st_FIN ((291, 295, lv, [.int r91], cb, sb) :: [], h90, none)
  refine bl_pop (pc' := 296) bt_291_295 rfl rfl ?_
  refine bl_go (pc' := 1452) bt_291_296 rfl ?_
  exact kk _ _ _ hL92 hR97 hQ98
set_option maxHeartbeats 40000000 in
theorem wl_k_3 {i x : Int32} {lv : mm_V} {h : mm_H} {o : Option Value} (hST : wt_ST E) (hSA : ∀ {x y : Int32} (ρ : Nat → Int32), en_SA E ρ (wl_o x y) mt_SB) (h8 : ∃ q, E.2[8]? = some q) (hS : bl_S E b n xs) (hn : n ≤ 3072) (g0 : mm_get lv 0 = some (.ref b)) (g1 : mm_get lv 1 = some (.ref (E.1 + 0))) (g2 : mm_get lv 2 = some (.ref (E.1 + 88))) (g3 : mm_get lv 3 = some (.int i)) (hi0 : 0 ≤ i.toInt) (hi5 : i.toInt + 6 ≤ (n : Int)) (hL : wl_W E wl_H x x h) (hR : wt_R x x h) (hQ : wt_s h 2 = wt_s h 8817) (kk : ∀ (h' : mm_H) (x' : Int32) (o' : Option Value), wl_W E wl_H x' x' h' → wt_R x' x' h' → wt_s h' 2 = wt_s h' 8817 → bh_G E st_FIN ((291, 1452, lv, [], cb, sb) :: [], h', o')) : bh_G E st_FIN ((291, 299, lv, [], cb, sb) :: [], h, o) := by
  refine bl_ld (pc' := 300) bt_291_299 rfl rfl (fun _ _ _ => rfl) g1 rfl ?_
  refine bl_cv (pc' := 303) (st := []) (args := []) (c := 0) (ci := 8) bt_291_300 rfl rfl (by decide) (wl_o0 hL) (by decide) (Nat.succ_lt_succ (Nat.zero_lt_succ _)) rfl (Nat.le_of_ble_eq_true rfl) (Nat.le_of_ble_eq_true rfl) ?_
  refine wk_c_place5 (FIN := st_FIN) (g := (291, 303, lv, [], cb, sb)) (t := []) hSA h8 hL (Nat.le_of_ble_eq_true rfl) (fun h99 r100 hL101 K103 e104 e105 => ?_)
  have hR106 := wt_RK hR K103
  have hQ107 : wt_s h99 2 = wt_s h99 8817 := by rw [e105]; exact hQ
  show bh_G E st_FIN ((291, 303, lv, [.int r100], cb, sb) :: [], h99, none)
  refine bl_ld (pc' := 304) bt_291_303 rfl rfl (fun _ _ _ => rfl) g2 rfl ?_
  refine bl_cv (pc' := 307) (st := [.int r100]) (args := []) (c := 88) (ci := 9) bt_291_304 rfl rfl (by decide) (wl_o88 hL101) (by decide) (Nat.succ_lt_succ (Nat.zero_lt_succ _)) rfl (Nat.le_of_ble_eq_true rfl) (Nat.le_of_ble_eq_true rfl) ?_
  refine wk_m_place5 (FIN := st_FIN) (g := (291, 307, lv, [.int r100], cb, sb)) (t := []) hSA hL101 (Nat.le_of_ble_eq_true rfl) (fun h108 r109 hL110 K112 e113 e114 => ?_)
  have hR115 := wt_RK hR106 K112
  have hQ116 : wt_s h108 2 = wt_s h108 8817 := by rw [e114]; exact hQ107
  have zp := congrArg Int32.toInt (e104.trans (hQ.trans (e113.trans (congrArg (fun z => wt_s z 8817) e105)).symm))
  show bh_G E st_FIN ((291, 307, lv, [.int r109, .int r100], cb, sb) :: [], h108, none)
  refine bl_ic (pc' := 310) (pt := 1452) bt_291_307 rfl rfl (fun k117 => ?_) (fun k117 => ?_)
  · replace k117 : (r100).toInt = (r109).toInt := k117
    exact kk _ _ _ hL110 hR115 hQ116
  · replace k117 : ¬ ((r100).toInt = (r109).toInt) := k117
    omega
set_option maxHeartbeats 40000000 in
theorem wl_k_4 {i x : Int32} {lv : mm_V} {h : mm_H} {o : Option Value} (hST : wt_ST E) (hSA : ∀ {x y : Int32} (ρ : Nat → Int32), en_SA E ρ (wl_o x y) mt_SB) (h8 : ∃ q, E.2[8]? = some q) (hS : bl_S E b n xs) (hn : n ≤ 3072) (g0 : mm_get lv 0 = some (.ref b)) (g1 : mm_get lv 1 = some (.ref (E.1 + 0))) (g2 : mm_get lv 2 = some (.ref (E.1 + 88))) (g3 : mm_get lv 3 = some (.int i)) (hi0 : 0 ≤ i.toInt) (hi5 : i.toInt + 6 ≤ (n : Int)) (hL : wl_W E wl_H x x h) (hR : wt_R x x h) (hQ : wt_s h 2 = wt_s h 8817) (kk : ∀ (h' : mm_H) (x' : Int32) (o' : Option Value), wl_W E wl_H x' x' h' → wt_R x' x' h' → wt_s h' 2 = wt_s h' 8817 → bh_G E st_FIN ((291, 1452, lv, [], cb, sb) :: [], h', o')) : bh_G E st_FIN ((291, 312, lv, [], cb, sb) :: [], h, o) := by
  refine bl_ld (pc' := 313) bt_291_312 rfl rfl (fun _ _ _ => rfl) g1 rfl ?_
  refine bl_ld (pc' := 314) bt_291_313 rfl rfl (fun _ _ _ => rfl) g0 rfl ?_
  refine bl_ld (pc' := 315) bt_291_314 rfl rfl (fun _ _ _ => rfl) g3 rfl ?_
  refine bl_c (pc' := 316) (n := 1) bt_291_315 rfl rfl (fun _ _ _ => rfl) (by decide) (fun c118 e119 => ?_)
  refine bl_add (pc' := 317) bt_291_316 rfl (by omega) (by omega) (fun v120 e121 => ?_)
  refine bl_sc (pc' := 318) bt_291_317 rfl hS (by omega) (by omega) ?_
  refine bl_ld (pc' := 319) bt_291_318 rfl rfl (fun _ _ _ => rfl) g0 rfl ?_
  refine bl_ld (pc' := 320) bt_291_319 rfl rfl (fun _ _ _ => rfl) g3 rfl ?_
  refine bl_c (pc' := 321) (n := 2) bt_291_320 rfl rfl (fun _ _ _ => rfl) (by decide) (fun c122 e123 => ?_)
  refine bl_add (pc' := 322) bt_291_321 rfl (by omega) (by omega) (fun v124 e125 => ?_)
  refine bl_sc (pc' := 323) bt_291_322 rfl hS (by omega) (by omega) ?_
  refine bl_cv (pc' := 326) (st := []) (args := [.int (xs (v124).toInt.toNat), .int (xs (v120).toInt.toNat)]) (c := 0) (ci := 8) bt_291_323 rfl rfl (by decide) (wl_o0 hL) (by decide) (Nat.succ_lt_succ (Nat.zero_lt_succ _)) rfl (Nat.le_of_ble_eq_true rfl) (Nat.le_of_ble_eq_true rfl) ?_
  refine wj_b (K := 244) (FIN := st_FIN) (g := (291, 326, lv, [], cb, sb)) (t := []) (A := fun h' r => wl_W E wl_H x x h' ∧ wt_K h h') rfl (by decide) (by decide) hL (fun F9 k1 => wk_c_man (FIN := F9) (gs := [bp_mf]) hSA h8 hL (Nat.le_of_ble_eq_true rfl) (fun h r a b => k1 _ _ ⟨a, b⟩)) (fun h126 r127 ⟨hL128, K130⟩ q129 => ?_)
  have hR131 := wt_RK hR K130
  have hQ132 := wt_q hQ q129
  show bh_G E st_FIN ((291, 326, lv, [.int r127], cb, sb) :: [], h126, none)
  refine bl_pop (pc' := 327) bt_291_326 rfl rfl ?_
  refine bl_ld (pc' := 328) bt_291_327 rfl rfl (fun _ _ _ => rfl) g2 rfl ?_
  refine bl_ld (pc' := 329) bt_291_328 rfl rfl (fun _ _ _ => rfl) g0 rfl ?_
  refine bl_ld (pc' := 330) bt_291_329 rfl rfl (fun _ _ _ => rfl) g3 rfl ?_
  refine bl_c (pc' := 331) (n := 1) bt_291_330 rfl rfl (fun _ _ _ => rfl) (by decide) (fun c133 e134 => ?_)
  refine bl_add (pc' := 332) bt_291_331 rfl (by omega) (by omega) (fun v135 e136 => ?_)
  refine bl_sc (pc' := 333) bt_291_332 rfl hS (by omega) (by omega) ?_
  refine bl_ld (pc' := 334) bt_291_333 rfl rfl (fun _ _ _ => rfl) g0 rfl ?_
  refine bl_ld (pc' := 335) bt_291_334 rfl rfl (fun _ _ _ => rfl) g3 rfl ?_
  refine bl_c (pc' := 336) (n := 2) bt_291_335 rfl rfl (fun _ _ _ => rfl) (by decide) (fun c137 e138 => ?_)
  refine bl_add (pc' := 337) bt_291_336 rfl (by omega) (by omega) (fun v139 e140 => ?_)
  refine bl_sc (pc' := 338) bt_291_337 rfl hS (by omega) (by omega) ?_
  refine bl_cv (pc' := 341) (st := []) (args := [.int (xs (v139).toInt.toNat), .int (xs (v135).toInt.toNat)]) (c := 88) (ci := 9) bt_291_338 rfl rfl (by decide) (wl_o88 hL128) (by decide) (Nat.succ_lt_succ (Nat.zero_lt_succ _)) rfl (Nat.le_of_ble_eq_true rfl) (Nat.le_of_ble_eq_true rfl) ?_
  refine wj_b (K := 63) (FIN := st_FIN) (g := (291, 341, lv, [], cb, sb)) (t := []) (A := fun h' r => wl_W E wl_H x x h' ∧ wt_K h126 h') rfl (by decide) (by decide) hL128 (fun F9 k1 => wk_m_man (FIN := F9) (gs := [bp_mf]) hSA hL128 (Nat.le_of_ble_eq_true rfl) (fun h r a b => k1 _ _ ⟨a, b⟩)) (fun h141 r142 ⟨hL143, K145⟩ q144 => ?_)
  have hR146 := wt_RK hR131 K145
  have hQ147 := wt_q hQ132 q144
  show bh_G E st_FIN ((291, 341, lv, [.int r142], cb, sb) :: [], h141, none)
  refine bl_pop (pc' := 342) bt_291_341 rfl rfl ?_
  refine bl_go (pc' := 1452) bt_291_342 rfl ?_
  exact kk _ _ _ hL143 hR146 hQ147
set_option maxHeartbeats 40000000 in
theorem wl_k_5 {i x : Int32} {lv : mm_V} {h : mm_H} {o : Option Value} (hST : wt_ST E) (hSA : ∀ {x y : Int32} (ρ : Nat → Int32), en_SA E ρ (wl_o x y) mt_SB) (h8 : ∃ q, E.2[8]? = some q) (hS : bl_S E b n xs) (hn : n ≤ 3072) (g0 : mm_get lv 0 = some (.ref b)) (g1 : mm_get lv 1 = some (.ref (E.1 + 0))) (g2 : mm_get lv 2 = some (.ref (E.1 + 88))) (g3 : mm_get lv 3 = some (.int i)) (hi0 : 0 ≤ i.toInt) (hi5 : i.toInt + 6 ≤ (n : Int)) (hL : wl_W E wl_H x x h) (hR : wt_R x x h) (hQ : wt_s h 2 = wt_s h 8817) (kk : ∀ (h' : mm_H) (x' : Int32) (o' : Option Value), wl_W E wl_H x' x' h' → wt_R x' x' h' → wt_s h' 2 = wt_s h' 8817 → bh_G E st_FIN ((291, 1452, lv, [], cb, sb) :: [], h', o')) : bh_G E st_FIN ((291, 345, lv, [], cb, sb) :: [], h, o) := by
  refine bl_ld (pc' := 346) bt_291_345 rfl rfl (fun _ _ _ => rfl) g1 rfl ?_
  refine bl_ld (pc' := 347) bt_291_346 rfl rfl (fun _ _ _ => rfl) g0 rfl ?_
  refine bl_ld (pc' := 348) bt_291_347 rfl rfl (fun _ _ _ => rfl) g3 rfl ?_
  refine bl_c (pc' := 349) (n := 1) bt_291_348 rfl rfl (fun _ _ _ => rfl) (by decide) (fun c148 e149 => ?_)
  refine bl_add (pc' := 350) bt_291_349 rfl (by omega) (by omega) (fun v150 e151 => ?_)
  refine bl_sc (pc' := 351) bt_291_350 rfl hS (by omega) (by omega) ?_
  refine bl_cv (pc' := 354) (st := []) (args := [.int (xs (v150).toInt.toNat)]) (c := 0) (ci := 8) bt_291_351 rfl rfl (by decide) (wl_o0 hL) (by decide) (Nat.succ_lt_succ (Nat.zero_lt_succ _)) rfl (Nat.le_of_ble_eq_true rfl) (Nat.le_of_ble_eq_true rfl) ?_
  refine wj_b (K := 251) (FIN := st_FIN) (g := (291, 354, lv, [], cb, sb)) (t := []) (A := fun h' r => wl_W E wl_H x x h' ∧ wt_K h h') rfl (by decide) (by decide) hL (fun F9 k1 => wk_c_post (FIN := F9) (gs := [bp_mf]) hSA h8 hL (Nat.le_of_ble_eq_true rfl) (fun h r a b => k1 _ _ ⟨a, b⟩)) (fun h152 r153 ⟨hL154, K156⟩ q155 => ?_)
  have hR157 := wt_RK hR K156
  have hQ158 := wt_q hQ q155
  show bh_G E st_FIN ((291, 354, lv, [.int r153], cb, sb) :: [], h152, none)
  refine bl_pop (pc' := 355) bt_291_354 rfl rfl ?_
  refine bl_ld (pc' := 356) bt_291_355 rfl rfl (fun _ _ _ => rfl) g2 rfl ?_
  refine bl_ld (pc' := 357) bt_291_356 rfl rfl (fun _ _ _ => rfl) g0 rfl ?_
  refine bl_ld (pc' := 358) bt_291_357 rfl rfl (fun _ _ _ => rfl) g3 rfl ?_
  refine bl_c (pc' := 359) (n := 1) bt_291_358 rfl rfl (fun _ _ _ => rfl) (by decide) (fun c159 e160 => ?_)
  refine bl_add (pc' := 360) bt_291_359 rfl (by omega) (by omega) (fun v161 e162 => ?_)
  refine bl_sc (pc' := 361) bt_291_360 rfl hS (by omega) (by omega) ?_
  refine bl_cv (pc' := 364) (st := []) (args := [.int (xs (v161).toInt.toNat)]) (c := 88) (ci := 9) bt_291_361 rfl rfl (by decide) (wl_o88 hL154) (by decide) (Nat.succ_lt_succ (Nat.zero_lt_succ _)) rfl (Nat.le_of_ble_eq_true rfl) (Nat.le_of_ble_eq_true rfl) ?_
  refine wj_b (K := 73) (FIN := st_FIN) (g := (291, 364, lv, [], cb, sb)) (t := []) (A := fun h' r => wl_W E wl_H x x h' ∧ wt_K h152 h') rfl (by decide) (by decide) hL154 (fun F9 k1 => wk_m_post (FIN := F9) (gs := [bp_mf]) hSA hL154 (Nat.le_of_ble_eq_true rfl) (fun h r a b => k1 _ _ ⟨a, b⟩)) (fun h163 r164 ⟨hL165, K167⟩ q166 => ?_)
  have hR168 := wt_RK hR157 K167
  have hQ169 := wt_q hQ158 q166
  show bh_G E st_FIN ((291, 364, lv, [.int r164], cb, sb) :: [], h163, none)
  refine bl_pop (pc' := 365) bt_291_364 rfl rfl ?_
  refine bl_go (pc' := 1452) bt_291_365 rfl ?_
  exact kk _ _ _ hL165 hR168 hQ169
set_option maxHeartbeats 40000000 in
theorem wl_k_6 {i x : Int32} {lv : mm_V} {h : mm_H} {o : Option Value} (hST : wt_ST E) (hSA : ∀ {x y : Int32} (ρ : Nat → Int32), en_SA E ρ (wl_o x y) mt_SB) (h8 : ∃ q, E.2[8]? = some q) (hS : bl_S E b n xs) (hn : n ≤ 3072) (g0 : mm_get lv 0 = some (.ref b)) (g1 : mm_get lv 1 = some (.ref (E.1 + 0))) (g2 : mm_get lv 2 = some (.ref (E.1 + 88))) (g3 : mm_get lv 3 = some (.int i)) (hi0 : 0 ≤ i.toInt) (hi5 : i.toInt + 6 ≤ (n : Int)) (hL : wl_W E wl_H x x h) (hR : wt_R x x h) (hQ : wt_s h 2 = wt_s h 8817) (kk : ∀ (h' : mm_H) (x' : Int32) (o' : Option Value), wl_W E wl_H x' x' h' → wt_R x' x' h' → wt_s h' 2 = wt_s h' 8817 → bh_G E st_FIN ((291, 1452, lv, [], cb, sb) :: [], h', o')) : bh_G E st_FIN ((291, 368, lv, [], cb, sb) :: [], h, o) := by
  refine bl_ld (pc' := 369) bt_291_368 rfl rfl (fun _ _ _ => rfl) g1 rfl ?_
  refine bl_ld (pc' := 370) bt_291_369 rfl rfl (fun _ _ _ => rfl) g0 rfl ?_
  refine bl_ld (pc' := 371) bt_291_370 rfl rfl (fun _ _ _ => rfl) g3 rfl ?_
  refine bl_c (pc' := 372) (n := 1) bt_291_371 rfl rfl (fun _ _ _ => rfl) (by decide) (fun c170 e171 => ?_)
  refine bl_add (pc' := 373) bt_291_372 rfl (by omega) (by omega) (fun v172 e173 => ?_)
  refine bl_sc (pc' := 374) bt_291_373 rfl hS (by omega) (by omega) ?_
  refine bl_cv (pc' := 377) (st := []) (args := [.int (xs (v172).toInt.toNat)]) (c := 0) (ci := 8) bt_291_374 rfl rfl (by decide) (wl_o0 hL) (by decide) (Nat.succ_lt_succ (Nat.zero_lt_succ _)) rfl (Nat.le_of_ble_eq_true rfl) (Nat.le_of_ble_eq_true rfl) ?_
  refine wj_b (K := 260) (FIN := st_FIN) (g := (291, 377, lv, [], cb, sb)) (t := []) (A := fun h' r => wl_W E wl_H x x h' ∧ wt_K h h') rfl (by decide) (by decide) hL (fun F9 k1 => wk_c_ship (FIN := F9) (gs := [bp_mf]) hSA h8 hL (Nat.le_of_ble_eq_true rfl) (fun h r a b => k1 _ _ ⟨a, b⟩)) (fun h174 r175 ⟨hL176, K178⟩ q177 => ?_)
  have hR179 := wt_RK hR K178
  have hQ180 := wt_q hQ q177
  show bh_G E st_FIN ((291, 377, lv, [.int r175], cb, sb) :: [], h174, none)
  refine bl_pop (pc' := 378) bt_291_377 rfl rfl ?_
  refine bl_ld (pc' := 379) bt_291_378 rfl rfl (fun _ _ _ => rfl) g2 rfl ?_
  refine bl_ld (pc' := 380) bt_291_379 rfl rfl (fun _ _ _ => rfl) g0 rfl ?_
  refine bl_ld (pc' := 381) bt_291_380 rfl rfl (fun _ _ _ => rfl) g3 rfl ?_
  refine bl_c (pc' := 382) (n := 1) bt_291_381 rfl rfl (fun _ _ _ => rfl) (by decide) (fun c181 e182 => ?_)
  refine bl_add (pc' := 383) bt_291_382 rfl (by omega) (by omega) (fun v183 e184 => ?_)
  refine bl_sc (pc' := 384) bt_291_383 rfl hS (by omega) (by omega) ?_
  refine bl_cv (pc' := 387) (st := []) (args := [.int (xs (v183).toInt.toNat)]) (c := 88) (ci := 9) bt_291_384 rfl rfl (by decide) (wl_o88 hL176) (by decide) (Nat.succ_lt_succ (Nat.zero_lt_succ _)) rfl (Nat.le_of_ble_eq_true rfl) (Nat.le_of_ble_eq_true rfl) ?_
  refine wj_b (K := 87) (FIN := st_FIN) (g := (291, 387, lv, [], cb, sb)) (t := []) (A := fun h' r => wl_W E wl_H x x h' ∧ wt_K h174 h') rfl (by decide) (by decide) hL176 (fun F9 k1 => wk_m_ship (FIN := F9) (gs := [bp_mf]) hSA hL176 (Nat.le_of_ble_eq_true rfl) (fun h r a b => k1 _ _ ⟨a, b⟩)) (fun h185 r186 ⟨hL187, K189⟩ q188 => ?_)
  have hR190 := wt_RK hR179 K189
  have hQ191 := wt_q hQ180 q188
  show bh_G E st_FIN ((291, 387, lv, [.int r186], cb, sb) :: [], h185, none)
  refine bl_pop (pc' := 388) bt_291_387 rfl rfl ?_
  refine bl_go (pc' := 1452) bt_291_388 rfl ?_
  exact kk _ _ _ hL187 hR190 hQ191
set_option maxHeartbeats 40000000 in
theorem wl_k_7 {i x : Int32} {lv : mm_V} {h : mm_H} {o : Option Value} (hST : wt_ST E) (hSA : ∀ {x y : Int32} (ρ : Nat → Int32), en_SA E ρ (wl_o x y) mt_SB) (h8 : ∃ q, E.2[8]? = some q) (hS : bl_S E b n xs) (hn : n ≤ 3072) (g0 : mm_get lv 0 = some (.ref b)) (g1 : mm_get lv 1 = some (.ref (E.1 + 0))) (g2 : mm_get lv 2 = some (.ref (E.1 + 88))) (g3 : mm_get lv 3 = some (.int i)) (hi0 : 0 ≤ i.toInt) (hi5 : i.toInt + 6 ≤ (n : Int)) (hL : wl_W E wl_H x x h) (hR : wt_R x x h) (hQ : wt_s h 2 = wt_s h 8817) (kk : ∀ (h' : mm_H) (x' : Int32) (o' : Option Value), wl_W E wl_H x' x' h' → wt_R x' x' h' → wt_s h' 2 = wt_s h' 8817 → bh_G E st_FIN ((291, 1452, lv, [], cb, sb) :: [], h', o')) : bh_G E st_FIN ((291, 391, lv, [], cb, sb) :: [], h, o) := by
  refine bl_ld (pc' := 392) bt_291_391 rfl rfl (fun _ _ _ => rfl) g1 rfl ?_
  refine bl_ld (pc' := 393) bt_291_392 rfl rfl (fun _ _ _ => rfl) g0 rfl ?_
  refine bl_ld (pc' := 394) bt_291_393 rfl rfl (fun _ _ _ => rfl) g3 rfl ?_
  refine bl_c (pc' := 395) (n := 1) bt_291_394 rfl rfl (fun _ _ _ => rfl) (by decide) (fun c192 e193 => ?_)
  refine bl_add (pc' := 396) bt_291_395 rfl (by omega) (by omega) (fun v194 e195 => ?_)
  refine bl_sc (pc' := 397) bt_291_396 rfl hS (by omega) (by omega) ?_
  refine bl_ld (pc' := 398) bt_291_397 rfl rfl (fun _ _ _ => rfl) g0 rfl ?_
  refine bl_ld (pc' := 399) bt_291_398 rfl rfl (fun _ _ _ => rfl) g3 rfl ?_
  refine bl_c (pc' := 400) (n := 2) bt_291_399 rfl rfl (fun _ _ _ => rfl) (by decide) (fun c196 e197 => ?_)
  refine bl_add (pc' := 401) bt_291_400 rfl (by omega) (by omega) (fun v198 e199 => ?_)
  refine bl_sc (pc' := 402) bt_291_401 rfl hS (by omega) (by omega) ?_
  refine bl_i0 (pc' := 405) (pt := 409) bt_291_402 rfl rfl (fun k200 => ?_) (fun k200 => ?_)
  · replace k200 : ((xs (v198).toInt.toNat)).toInt = 0 := k200
    refine bl_c (pc' := 410) (n := 0) bt_291_409 rfl rfl (fun _ _ _ => rfl) (by decide) (fun c201 e202 => ?_)
    refine bl_cv (pc' := 413) (st := []) (args := [.int c201, .int (xs (v194).toInt.toNat)]) (c := 0) (ci := 8) bt_291_410 rfl rfl (by decide) (wl_o0 hL) (by decide) (Nat.succ_lt_succ (Nat.zero_lt_succ _)) rfl (Nat.le_of_ble_eq_true rfl) (Nat.le_of_ble_eq_true rfl) ?_
    refine wj_b (K := 235) (FIN := st_FIN) (g := (291, 413, lv, [], cb, sb)) (t := []) (A := fun h' r => wl_W E wl_H x x h' ∧ wt_K h h') rfl (by decide) (by decide) hL (fun F9 k1 => wk_c_hide (FIN := F9) (gs := [bp_mf]) (by omega) hSA h8 hL (Nat.le_of_ble_eq_true rfl) (fun h r a b => k1 _ _ ⟨a, b⟩)) (fun h203 r204 ⟨hL205, K207⟩ q206 => ?_)
    have hR208 := wt_RK hR K207
    have hQ209 := wt_q hQ q206
    show bh_G E st_FIN ((291, 413, lv, [.int r204], cb, sb) :: [], h203, none)
    refine bl_pop (pc' := 414) bt_291_413 rfl rfl ?_
    refine bl_ld (pc' := 415) bt_291_414 rfl rfl (fun _ _ _ => rfl) g2 rfl ?_
    refine bl_ld (pc' := 416) bt_291_415 rfl rfl (fun _ _ _ => rfl) g0 rfl ?_
    refine bl_ld (pc' := 417) bt_291_416 rfl rfl (fun _ _ _ => rfl) g3 rfl ?_
    refine bl_c (pc' := 418) (n := 1) bt_291_417 rfl rfl (fun _ _ _ => rfl) (by decide) (fun c210 e211 => ?_)
    refine bl_add (pc' := 419) bt_291_418 rfl (by omega) (by omega) (fun v212 e213 => ?_)
    refine bl_sc (pc' := 420) bt_291_419 rfl hS (by omega) (by omega) ?_
    refine bl_ld (pc' := 421) bt_291_420 rfl rfl (fun _ _ _ => rfl) g0 rfl ?_
    refine bl_ld (pc' := 422) bt_291_421 rfl rfl (fun _ _ _ => rfl) g3 rfl ?_
    refine bl_c (pc' := 423) (n := 2) bt_291_422 rfl rfl (fun _ _ _ => rfl) (by decide) (fun c214 e215 => ?_)
    refine bl_add (pc' := 424) bt_291_423 rfl (by omega) (by omega) (fun v216 e217 => ?_)
    refine bl_sc (pc' := 425) bt_291_424 rfl hS (by omega) (by omega) ?_
    refine bl_i0 (pc' := 428) (pt := 432) bt_291_425 rfl rfl (fun k218 => ?_) (fun k218 => ?_)
    · replace k218 : ((xs (v216).toInt.toNat)).toInt = 0 := k218
      refine bl_c (pc' := 433) (n := 0) bt_291_432 rfl rfl (fun _ _ _ => rfl) (by decide) (fun c219 e220 => ?_)
      refine bl_cv (pc' := 436) (st := []) (args := [.int c219, .int (xs (v212).toInt.toNat)]) (c := 88) (ci := 9) bt_291_433 rfl rfl (by decide) (wl_o88 hL205) (by decide) (Nat.succ_lt_succ (Nat.zero_lt_succ _)) rfl (Nat.le_of_ble_eq_true rfl) (Nat.le_of_ble_eq_true rfl) ?_
      refine wj_b (K := 40) (FIN := st_FIN) (g := (291, 436, lv, [], cb, sb)) (t := []) (A := fun h' r => wl_W E wl_H x x h' ∧ wt_K h203 h') rfl (by decide) (by decide) hL205 (fun F9 k1 => wk_m_hide (FIN := F9) (gs := [bp_mf]) (by omega) hSA hL205 (Nat.le_of_ble_eq_true rfl) (fun h r a b => k1 _ _ ⟨a, b⟩)) (fun h221 r222 ⟨hL223, K225⟩ q224 => ?_)
      have hR226 := wt_RK hR208 K225
      have hQ227 := wt_q hQ209 q224
      show bh_G E st_FIN ((291, 436, lv, [.int r222], cb, sb) :: [], h221, none)
      refine bl_pop (pc' := 437) bt_291_436 rfl rfl ?_
      refine bl_go (pc' := 1452) bt_291_437 rfl ?_
      exact kk _ _ _ hL223 hR226 hQ227
    · replace k218 : ¬ (((xs (v216).toInt.toNat)).toInt = 0) := k218
      refine bl_c (pc' := 429) (n := 1) bt_291_428 rfl rfl (fun _ _ _ => rfl) (by decide) (fun c228 e229 => ?_)
      refine bl_go (pc' := 433) bt_291_429 rfl ?_
      refine bl_cv (pc' := 436) (st := []) (args := [.int c228, .int (xs (v212).toInt.toNat)]) (c := 88) (ci := 9) bt_291_433 rfl rfl (by decide) (wl_o88 hL205) (by decide) (Nat.succ_lt_succ (Nat.zero_lt_succ _)) rfl (Nat.le_of_ble_eq_true rfl) (Nat.le_of_ble_eq_true rfl) ?_
      refine wj_b (K := 40) (FIN := st_FIN) (g := (291, 436, lv, [], cb, sb)) (t := []) (A := fun h' r => wl_W E wl_H x x h' ∧ wt_K h203 h') rfl (by decide) (by decide) hL205 (fun F9 k1 => wk_m_hide (FIN := F9) (gs := [bp_mf]) (by omega) hSA hL205 (Nat.le_of_ble_eq_true rfl) (fun h r a b => k1 _ _ ⟨a, b⟩)) (fun h230 r231 ⟨hL232, K234⟩ q233 => ?_)
      have hR235 := wt_RK hR208 K234
      have hQ236 := wt_q hQ209 q233
      show bh_G E st_FIN ((291, 436, lv, [.int r231], cb, sb) :: [], h230, none)
      refine bl_pop (pc' := 437) bt_291_436 rfl rfl ?_
      refine bl_go (pc' := 1452) bt_291_437 rfl ?_
      exact kk _ _ _ hL232 hR235 hQ236
  · replace k200 : ¬ (((xs (v198).toInt.toNat)).toInt = 0) := k200
    refine bl_c (pc' := 406) (n := 1) bt_291_405 rfl rfl (fun _ _ _ => rfl) (by decide) (fun c237 e238 => ?_)
    refine bl_go (pc' := 410) bt_291_406 rfl ?_
    refine bl_cv (pc' := 413) (st := []) (args := [.int c237, .int (xs (v194).toInt.toNat)]) (c := 0) (ci := 8) bt_291_410 rfl rfl (by decide) (wl_o0 hL) (by decide) (Nat.succ_lt_succ (Nat.zero_lt_succ _)) rfl (Nat.le_of_ble_eq_true rfl) (Nat.le_of_ble_eq_true rfl) ?_
    refine wj_b (K := 235) (FIN := st_FIN) (g := (291, 413, lv, [], cb, sb)) (t := []) (A := fun h' r => wl_W E wl_H x x h' ∧ wt_K h h') rfl (by decide) (by decide) hL (fun F9 k1 => wk_c_hide (FIN := F9) (gs := [bp_mf]) (by omega) hSA h8 hL (Nat.le_of_ble_eq_true rfl) (fun h r a b => k1 _ _ ⟨a, b⟩)) (fun h239 r240 ⟨hL241, K243⟩ q242 => ?_)
    have hR244 := wt_RK hR K243
    have hQ245 := wt_q hQ q242
    show bh_G E st_FIN ((291, 413, lv, [.int r240], cb, sb) :: [], h239, none)
    refine bl_pop (pc' := 414) bt_291_413 rfl rfl ?_
    refine bl_ld (pc' := 415) bt_291_414 rfl rfl (fun _ _ _ => rfl) g2 rfl ?_
    refine bl_ld (pc' := 416) bt_291_415 rfl rfl (fun _ _ _ => rfl) g0 rfl ?_
    refine bl_ld (pc' := 417) bt_291_416 rfl rfl (fun _ _ _ => rfl) g3 rfl ?_
    refine bl_c (pc' := 418) (n := 1) bt_291_417 rfl rfl (fun _ _ _ => rfl) (by decide) (fun c246 e247 => ?_)
    refine bl_add (pc' := 419) bt_291_418 rfl (by omega) (by omega) (fun v248 e249 => ?_)
    refine bl_sc (pc' := 420) bt_291_419 rfl hS (by omega) (by omega) ?_
    refine bl_ld (pc' := 421) bt_291_420 rfl rfl (fun _ _ _ => rfl) g0 rfl ?_
    refine bl_ld (pc' := 422) bt_291_421 rfl rfl (fun _ _ _ => rfl) g3 rfl ?_
    refine bl_c (pc' := 423) (n := 2) bt_291_422 rfl rfl (fun _ _ _ => rfl) (by decide) (fun c250 e251 => ?_)
    refine bl_add (pc' := 424) bt_291_423 rfl (by omega) (by omega) (fun v252 e253 => ?_)
    refine bl_sc (pc' := 425) bt_291_424 rfl hS (by omega) (by omega) ?_
    refine bl_i0 (pc' := 428) (pt := 432) bt_291_425 rfl rfl (fun k254 => ?_) (fun k254 => ?_)
    · replace k254 : ((xs (v252).toInt.toNat)).toInt = 0 := k254
      refine bl_c (pc' := 433) (n := 0) bt_291_432 rfl rfl (fun _ _ _ => rfl) (by decide) (fun c255 e256 => ?_)
      refine bl_cv (pc' := 436) (st := []) (args := [.int c255, .int (xs (v248).toInt.toNat)]) (c := 88) (ci := 9) bt_291_433 rfl rfl (by decide) (wl_o88 hL241) (by decide) (Nat.succ_lt_succ (Nat.zero_lt_succ _)) rfl (Nat.le_of_ble_eq_true rfl) (Nat.le_of_ble_eq_true rfl) ?_
      refine wj_b (K := 40) (FIN := st_FIN) (g := (291, 436, lv, [], cb, sb)) (t := []) (A := fun h' r => wl_W E wl_H x x h' ∧ wt_K h239 h') rfl (by decide) (by decide) hL241 (fun F9 k1 => wk_m_hide (FIN := F9) (gs := [bp_mf]) (by omega) hSA hL241 (Nat.le_of_ble_eq_true rfl) (fun h r a b => k1 _ _ ⟨a, b⟩)) (fun h257 r258 ⟨hL259, K261⟩ q260 => ?_)
      have hR262 := wt_RK hR244 K261
      have hQ263 := wt_q hQ245 q260
      show bh_G E st_FIN ((291, 436, lv, [.int r258], cb, sb) :: [], h257, none)
      refine bl_pop (pc' := 437) bt_291_436 rfl rfl ?_
      refine bl_go (pc' := 1452) bt_291_437 rfl ?_
      exact kk _ _ _ hL259 hR262 hQ263
    · replace k254 : ¬ (((xs (v252).toInt.toNat)).toInt = 0) := k254
      refine bl_c (pc' := 429) (n := 1) bt_291_428 rfl rfl (fun _ _ _ => rfl) (by decide) (fun c264 e265 => ?_)
      refine bl_go (pc' := 433) bt_291_429 rfl ?_
      refine bl_cv (pc' := 436) (st := []) (args := [.int c264, .int (xs (v248).toInt.toNat)]) (c := 88) (ci := 9) bt_291_433 rfl rfl (by decide) (wl_o88 hL241) (by decide) (Nat.succ_lt_succ (Nat.zero_lt_succ _)) rfl (Nat.le_of_ble_eq_true rfl) (Nat.le_of_ble_eq_true rfl) ?_
      refine wj_b (K := 40) (FIN := st_FIN) (g := (291, 436, lv, [], cb, sb)) (t := []) (A := fun h' r => wl_W E wl_H x x h' ∧ wt_K h239 h') rfl (by decide) (by decide) hL241 (fun F9 k1 => wk_m_hide (FIN := F9) (gs := [bp_mf]) (by omega) hSA hL241 (Nat.le_of_ble_eq_true rfl) (fun h r a b => k1 _ _ ⟨a, b⟩)) (fun h266 r267 ⟨hL268, K270⟩ q269 => ?_)
      have hR271 := wt_RK hR244 K270
      have hQ272 := wt_q hQ245 q269
      show bh_G E st_FIN ((291, 436, lv, [.int r267], cb, sb) :: [], h266, none)
      refine bl_pop (pc' := 437) bt_291_436 rfl rfl ?_
      refine bl_go (pc' := 1452) bt_291_437 rfl ?_
      exact kk _ _ _ hL268 hR271 hQ272
set_option maxHeartbeats 40000000 in
theorem wl_k_8 {i x : Int32} {lv : mm_V} {h : mm_H} {o : Option Value} (hST : wt_ST E) (hSA : ∀ {x y : Int32} (ρ : Nat → Int32), en_SA E ρ (wl_o x y) mt_SB) (h8 : ∃ q, E.2[8]? = some q) (hS : bl_S E b n xs) (hn : n ≤ 3072) (g0 : mm_get lv 0 = some (.ref b)) (g1 : mm_get lv 1 = some (.ref (E.1 + 0))) (g2 : mm_get lv 2 = some (.ref (E.1 + 88))) (g3 : mm_get lv 3 = some (.int i)) (hi0 : 0 ≤ i.toInt) (hi5 : i.toInt + 6 ≤ (n : Int)) (hL : wl_W E wl_H x x h) (hR : wt_R x x h) (hQ : wt_s h 2 = wt_s h 8817) (kk : ∀ (h' : mm_H) (x' : Int32) (o' : Option Value), wl_W E wl_H x' x' h' → wt_R x' x' h' → wt_s h' 2 = wt_s h' 8817 → bh_G E st_FIN ((291, 1452, lv, [], cb, sb) :: [], h', o')) : bh_G E st_FIN ((291, 440, lv, [], cb, sb) :: [], h, o) := by
  refine bl_ld (pc' := 441) bt_291_440 rfl rfl (fun _ _ _ => rfl) g1 rfl ?_
  refine bl_ld (pc' := 442) bt_291_441 rfl rfl (fun _ _ _ => rfl) g0 rfl ?_
  refine bl_ld (pc' := 443) bt_291_442 rfl rfl (fun _ _ _ => rfl) g3 rfl ?_
  refine bl_c (pc' := 444) (n := 1) bt_291_443 rfl rfl (fun _ _ _ => rfl) (by decide) (fun c273 e274 => ?_)
  refine bl_add (pc' := 445) bt_291_444 rfl (by omega) (by omega) (fun v275 e276 => ?_)
  refine bl_sc (pc' := 446) bt_291_445 rfl hS (by omega) (by omega) ?_
  refine bl_ld (pc' := 447) bt_291_446 rfl rfl (fun _ _ _ => rfl) g0 rfl ?_
  refine bl_ld (pc' := 448) bt_291_447 rfl rfl (fun _ _ _ => rfl) g3 rfl ?_
  refine bl_c (pc' := 449) (n := 2) bt_291_448 rfl rfl (fun _ _ _ => rfl) (by decide) (fun c277 e278 => ?_)
  refine bl_add (pc' := 450) bt_291_449 rfl (by omega) (by omega) (fun v279 e280 => ?_)
  refine bl_sc (pc' := 451) bt_291_450 rfl hS (by omega) (by omega) ?_
  refine bl_ld (pc' := 452) bt_291_451 rfl rfl (fun _ _ _ => rfl) g0 rfl ?_
  refine bl_ld (pc' := 453) bt_291_452 rfl rfl (fun _ _ _ => rfl) g3 rfl ?_
  refine bl_c (pc' := 454) (n := 3) bt_291_453 rfl rfl (fun _ _ _ => rfl) (by decide) (fun c281 e282 => ?_)
  refine bl_add (pc' := 455) bt_291_454 rfl (by omega) (by omega) (fun v283 e284 => ?_)
  refine bl_sc (pc' := 456) bt_291_455 rfl hS (by omega) (by omega) ?_
  refine bl_ld (pc' := 457) bt_291_456 rfl rfl (fun _ _ _ => rfl) g0 rfl ?_
  refine bl_ld (pc' := 458) bt_291_457 rfl rfl (fun _ _ _ => rfl) g3 rfl ?_
  refine bl_c (pc' := 459) (n := 4) bt_291_458 rfl rfl (fun _ _ _ => rfl) (by decide) (fun c285 e286 => ?_)
  refine bl_add (pc' := 460) bt_291_459 rfl (by omega) (by omega) (fun v287 e288 => ?_)
  refine bl_sc (pc' := 461) bt_291_460 rfl hS (by omega) (by omega) ?_
  refine bl_cv (pc' := 464) (st := []) (args := [.int (xs (v287).toInt.toNat), .int (xs (v283).toInt.toNat), .int (xs (v279).toInt.toNat), .int (xs (v275).toInt.toNat)]) (c := 0) (ci := 8) bt_291_461 rfl rfl (by decide) (wl_o0 hL) (by decide) (Nat.succ_lt_succ (Nat.zero_lt_succ _)) rfl (Nat.le_of_ble_eq_true rfl) (Nat.le_of_ble_eq_true rfl) ?_
  refine wj_b (K := 262) (FIN := st_FIN) (g := (291, 464, lv, [], cb, sb)) (t := []) (A := fun h' r => wl_W E wl_H x x h' ∧ wt_K h h') rfl (by decide) (by decide) hL (fun F9 k1 => wk_c_stand (FIN := F9) (gs := [bp_mf]) hSA h8 hL (Nat.le_of_ble_eq_true rfl) (fun h r a b => k1 _ _ ⟨a, b⟩)) (fun h289 r290 ⟨hL291, K293⟩ q292 => ?_)
  have hR294 := wt_RK hR K293
  have hQ295 := wt_q hQ q292
  show bh_G E st_FIN ((291, 464, lv, [.int r290], cb, sb) :: [], h289, none)
  refine bl_pop (pc' := 465) bt_291_464 rfl rfl ?_
  refine bl_ld (pc' := 466) bt_291_465 rfl rfl (fun _ _ _ => rfl) g2 rfl ?_
  refine bl_ld (pc' := 467) bt_291_466 rfl rfl (fun _ _ _ => rfl) g0 rfl ?_
  refine bl_ld (pc' := 468) bt_291_467 rfl rfl (fun _ _ _ => rfl) g3 rfl ?_
  refine bl_c (pc' := 469) (n := 1) bt_291_468 rfl rfl (fun _ _ _ => rfl) (by decide) (fun c296 e297 => ?_)
  refine bl_add (pc' := 470) bt_291_469 rfl (by omega) (by omega) (fun v298 e299 => ?_)
  refine bl_sc (pc' := 471) bt_291_470 rfl hS (by omega) (by omega) ?_
  refine bl_ld (pc' := 472) bt_291_471 rfl rfl (fun _ _ _ => rfl) g0 rfl ?_
  refine bl_ld (pc' := 473) bt_291_472 rfl rfl (fun _ _ _ => rfl) g3 rfl ?_
  refine bl_c (pc' := 474) (n := 2) bt_291_473 rfl rfl (fun _ _ _ => rfl) (by decide) (fun c300 e301 => ?_)
  refine bl_add (pc' := 475) bt_291_474 rfl (by omega) (by omega) (fun v302 e303 => ?_)
  refine bl_sc (pc' := 476) bt_291_475 rfl hS (by omega) (by omega) ?_
  refine bl_ld (pc' := 477) bt_291_476 rfl rfl (fun _ _ _ => rfl) g0 rfl ?_
  refine bl_ld (pc' := 478) bt_291_477 rfl rfl (fun _ _ _ => rfl) g3 rfl ?_
  refine bl_c (pc' := 479) (n := 3) bt_291_478 rfl rfl (fun _ _ _ => rfl) (by decide) (fun c304 e305 => ?_)
  refine bl_add (pc' := 480) bt_291_479 rfl (by omega) (by omega) (fun v306 e307 => ?_)
  refine bl_sc (pc' := 481) bt_291_480 rfl hS (by omega) (by omega) ?_
  refine bl_ld (pc' := 482) bt_291_481 rfl rfl (fun _ _ _ => rfl) g0 rfl ?_
  refine bl_ld (pc' := 483) bt_291_482 rfl rfl (fun _ _ _ => rfl) g3 rfl ?_
  refine bl_c (pc' := 484) (n := 4) bt_291_483 rfl rfl (fun _ _ _ => rfl) (by decide) (fun c308 e309 => ?_)
  refine bl_add (pc' := 485) bt_291_484 rfl (by omega) (by omega) (fun v310 e311 => ?_)
  refine bl_sc (pc' := 486) bt_291_485 rfl hS (by omega) (by omega) ?_
  refine bl_cv (pc' := 489) (st := []) (args := [.int (xs (v310).toInt.toNat), .int (xs (v306).toInt.toNat), .int (xs (v302).toInt.toNat), .int (xs (v298).toInt.toNat)]) (c := 88) (ci := 9) bt_291_486 rfl rfl (by decide) (wl_o88 hL291) (by decide) (Nat.succ_lt_succ (Nat.zero_lt_succ _)) rfl (Nat.le_of_ble_eq_true rfl) (Nat.le_of_ble_eq_true rfl) ?_
  refine wj_b (K := 93) (FIN := st_FIN) (g := (291, 489, lv, [], cb, sb)) (t := []) (A := fun h' r => wl_W E wl_H x x h' ∧ wt_K h289 h') rfl (by decide) (by decide) hL291 (fun F9 k1 => wk_m_stand (FIN := F9) (gs := [bp_mf]) hSA hL291 (Nat.le_of_ble_eq_true rfl) (fun h r a b => k1 _ _ ⟨a, b⟩)) (fun h312 r313 ⟨hL314, K316⟩ q315 => ?_)
  have hR317 := wt_RK hR294 K316
  have hQ318 := wt_q hQ295 q315
  show bh_G E st_FIN ((291, 489, lv, [.int r313], cb, sb) :: [], h312, none)
  refine bl_pop (pc' := 490) bt_291_489 rfl rfl ?_
  refine bl_go (pc' := 1452) bt_291_490 rfl ?_
  exact kk _ _ _ hL314 hR317 hQ318
set_option maxHeartbeats 40000000 in
theorem wl_k_9 {i x : Int32} {lv : mm_V} {h : mm_H} {o : Option Value} (hST : wt_ST E) (hSA : ∀ {x y : Int32} (ρ : Nat → Int32), en_SA E ρ (wl_o x y) mt_SB) (h8 : ∃ q, E.2[8]? = some q) (hS : bl_S E b n xs) (hn : n ≤ 3072) (g0 : mm_get lv 0 = some (.ref b)) (g1 : mm_get lv 1 = some (.ref (E.1 + 0))) (g2 : mm_get lv 2 = some (.ref (E.1 + 88))) (g3 : mm_get lv 3 = some (.int i)) (hi0 : 0 ≤ i.toInt) (hi5 : i.toInt + 6 ≤ (n : Int)) (hL : wl_W E wl_H x x h) (hR : wt_R x x h) (hQ : wt_s h 2 = wt_s h 8817) (kk : ∀ (h' : mm_H) (x' : Int32) (o' : Option Value), wl_W E wl_H x' x' h' → wt_R x' x' h' → wt_s h' 2 = wt_s h' 8817 → bh_G E st_FIN ((291, 1452, lv, [], cb, sb) :: [], h', o')) : bh_G E st_FIN ((291, 493, lv, [], cb, sb) :: [], h, o) := by
  refine bl_ld (pc' := 494) bt_291_493 rfl rfl (fun _ _ _ => rfl) g1 rfl ?_
  refine bl_ld (pc' := 495) bt_291_494 rfl rfl (fun _ _ _ => rfl) g0 rfl ?_
  refine bl_ld (pc' := 496) bt_291_495 rfl rfl (fun _ _ _ => rfl) g3 rfl ?_
  refine bl_c (pc' := 497) (n := 1) bt_291_496 rfl rfl (fun _ _ _ => rfl) (by decide) (fun c319 e320 => ?_)
  refine bl_add (pc' := 498) bt_291_497 rfl (by omega) (by omega) (fun v321 e322 => ?_)
  refine bl_sc (pc' := 499) bt_291_498 rfl hS (by omega) (by omega) ?_
  refine bl_cv (pc' := 502) (st := []) (args := [.int (xs (v321).toInt.toNat)]) (c := 0) (ci := 8) bt_291_499 rfl rfl (by decide) (wl_o0 hL) (by decide) (Nat.succ_lt_succ (Nat.zero_lt_succ _)) rfl (Nat.le_of_ble_eq_true rfl) (Nat.le_of_ble_eq_true rfl) ?_
  refine wj_b (K := 271) (FIN := st_FIN) (g := (291, 502, lv, [], cb, sb)) (t := []) (A := fun h' r => wl_W E wl_H x x h' ∧ wt_K h h') rfl (by decide) (by decide) hL (fun F9 k1 => wk_c_watches (FIN := F9) (gs := [bp_mf]) hSA h8 hL (Nat.le_of_ble_eq_true rfl) (fun h r a b => k1 _ _ ⟨a, b⟩)) (fun h323 r324 ⟨hL325, K327⟩ q326 => ?_)
  have hR328 := wt_RK hR K327
  have hQ329 := wt_q hQ q326
  show bh_G E st_FIN ((291, 502, lv, [.int r324], cb, sb) :: [], h323, none)
  refine bl_pop (pc' := 503) bt_291_502 rfl rfl ?_
  refine bl_ld (pc' := 504) bt_291_503 rfl rfl (fun _ _ _ => rfl) g2 rfl ?_
  refine bl_ld (pc' := 505) bt_291_504 rfl rfl (fun _ _ _ => rfl) g0 rfl ?_
  refine bl_ld (pc' := 506) bt_291_505 rfl rfl (fun _ _ _ => rfl) g3 rfl ?_
  refine bl_c (pc' := 507) (n := 1) bt_291_506 rfl rfl (fun _ _ _ => rfl) (by decide) (fun c330 e331 => ?_)
  refine bl_add (pc' := 508) bt_291_507 rfl (by omega) (by omega) (fun v332 e333 => ?_)
  refine bl_sc (pc' := 509) bt_291_508 rfl hS (by omega) (by omega) ?_
  refine bl_cv (pc' := 512) (st := []) (args := [.int (xs (v332).toInt.toNat)]) (c := 88) (ci := 9) bt_291_509 rfl rfl (by decide) (wl_o88 hL325) (by decide) (Nat.succ_lt_succ (Nat.zero_lt_succ _)) rfl (Nat.le_of_ble_eq_true rfl) (Nat.le_of_ble_eq_true rfl) ?_
  refine wj_b (K := 107) (FIN := st_FIN) (g := (291, 512, lv, [], cb, sb)) (t := []) (A := fun h' r => wl_W E wl_H x x h' ∧ wt_K h323 h') rfl (by decide) (by decide) hL325 (fun F9 k1 => wk_m_watches (FIN := F9) (gs := [bp_mf]) hSA hL325 (Nat.le_of_ble_eq_true rfl) (fun h r a b => k1 _ _ ⟨a, b⟩)) (fun h334 r335 ⟨hL336, K338⟩ q337 => ?_)
  have hR339 := wt_RK hR328 K338
  have hQ340 := wt_q hQ329 q337
  show bh_G E st_FIN ((291, 512, lv, [.int r335], cb, sb) :: [], h334, none)
  refine bl_pop (pc' := 513) bt_291_512 rfl rfl ?_
  refine bl_go (pc' := 1452) bt_291_513 rfl ?_
  exact kk _ _ _ hL336 hR339 hQ340
set_option maxHeartbeats 40000000 in
theorem wl_k_10 {i x : Int32} {lv : mm_V} {h : mm_H} {o : Option Value} (hST : wt_ST E) (hSA : ∀ {x y : Int32} (ρ : Nat → Int32), en_SA E ρ (wl_o x y) mt_SB) (h8 : ∃ q, E.2[8]? = some q) (hS : bl_S E b n xs) (hn : n ≤ 3072) (g0 : mm_get lv 0 = some (.ref b)) (g1 : mm_get lv 1 = some (.ref (E.1 + 0))) (g2 : mm_get lv 2 = some (.ref (E.1 + 88))) (g3 : mm_get lv 3 = some (.int i)) (hi0 : 0 ≤ i.toInt) (hi5 : i.toInt + 6 ≤ (n : Int)) (hL : wl_W E wl_H x x h) (hR : wt_R x x h) (hQ : wt_s h 2 = wt_s h 8817) (kk : ∀ (h' : mm_H) (x' : Int32) (o' : Option Value), wl_W E wl_H x' x' h' → wt_R x' x' h' → wt_s h' 2 = wt_s h' 8817 → bh_G E st_FIN ((291, 1452, lv, [], cb, sb) :: [], h', o')) : bh_G E st_FIN ((291, 516, lv, [], cb, sb) :: [], h, o) := by
  refine bl_ld (pc' := 517) bt_291_516 rfl rfl (fun _ _ _ => rfl) g1 rfl ?_
  refine bl_cv (pc' := 520) (st := []) (args := []) (c := 0) (ci := 8) bt_291_517 rfl rfl (by decide) (wl_o0 hL) (by decide) (Nat.succ_lt_succ (Nat.zero_lt_succ _)) rfl (Nat.le_of_ble_eq_true rfl) (Nat.le_of_ble_eq_true rfl) ?_
  refine wj_b (K := 269) (FIN := st_FIN) (g := (291, 520, lv, [], cb, sb)) (t := []) (A := fun h' r => wl_W E wl_H x x h' ∧ wt_K h h') rfl (by decide) (by decide) hL (fun F9 k1 => wk_c_undo (FIN := F9) (gs := [bp_mf]) hSA h8 hL (Nat.le_of_ble_eq_true rfl) (fun h r a b => k1 _ _ ⟨a, b⟩)) (fun h341 r342 ⟨hL343, K345⟩ q344 => ?_)
  have hR346 := wt_RK hR K345
  have hQ347 := wt_q hQ q344
  show bh_G E st_FIN ((291, 520, lv, [.int r342], cb, sb) :: [], h341, none)
  refine bl_pop (pc' := 521) bt_291_520 rfl rfl ?_
  refine bl_ld (pc' := 522) bt_291_521 rfl rfl (fun _ _ _ => rfl) g2 rfl ?_
  refine bl_cv (pc' := 525) (st := []) (args := []) (c := 88) (ci := 9) bt_291_522 rfl rfl (by decide) (wl_o88 hL343) (by decide) (Nat.succ_lt_succ (Nat.zero_lt_succ _)) rfl (Nat.le_of_ble_eq_true rfl) (Nat.le_of_ble_eq_true rfl) ?_
  refine wj_b (K := 104) (FIN := st_FIN) (g := (291, 525, lv, [], cb, sb)) (t := []) (A := fun h' r => wl_W E wl_H x x h' ∧ wt_K h341 h') rfl (by decide) (by decide) hL343 (fun F9 k1 => wk_m_undo (FIN := F9) (gs := [bp_mf]) hSA hL343 (Nat.le_of_ble_eq_true rfl) (fun h r a b => k1 _ _ ⟨a, b⟩)) (fun h348 r349 ⟨hL350, K352⟩ q351 => ?_)
  have hR353 := wt_RK hR346 K352
  have hQ354 := wt_q hQ347 q351
  show bh_G E st_FIN ((291, 525, lv, [.int r349], cb, sb) :: [], h348, none)
  refine bl_pop (pc' := 526) bt_291_525 rfl rfl ?_
  refine bl_go (pc' := 1452) bt_291_526 rfl ?_
  exact kk _ _ _ hL350 hR353 hQ354
set_option maxHeartbeats 40000000 in
theorem wl_k_11 {i x : Int32} {lv : mm_V} {h : mm_H} {o : Option Value} (hST : wt_ST E) (hSA : ∀ {x y : Int32} (ρ : Nat → Int32), en_SA E ρ (wl_o x y) mt_SB) (h8 : ∃ q, E.2[8]? = some q) (hS : bl_S E b n xs) (hn : n ≤ 3072) (g0 : mm_get lv 0 = some (.ref b)) (g1 : mm_get lv 1 = some (.ref (E.1 + 0))) (g2 : mm_get lv 2 = some (.ref (E.1 + 88))) (g3 : mm_get lv 3 = some (.int i)) (hi0 : 0 ≤ i.toInt) (hi5 : i.toInt + 6 ≤ (n : Int)) (hL : wl_W E wl_H x x h) (hR : wt_R x x h) (hQ : wt_s h 2 = wt_s h 8817) (kk : ∀ (h' : mm_H) (x' : Int32) (o' : Option Value), wl_W E wl_H x' x' h' → wt_R x' x' h' → wt_s h' 2 = wt_s h' 8817 → bh_G E st_FIN ((291, 1452, lv, [], cb, sb) :: [], h', o')) : bh_G E st_FIN ((291, 529, lv, [], cb, sb) :: [], h, o) := by
  refine bl_ld (pc' := 530) bt_291_529 rfl rfl (fun _ _ _ => rfl) g1 rfl ?_
  refine bl_ld (pc' := 531) bt_291_530 rfl rfl (fun _ _ _ => rfl) g0 rfl ?_
  refine bl_ld (pc' := 532) bt_291_531 rfl rfl (fun _ _ _ => rfl) g3 rfl ?_
  refine bl_c (pc' := 533) (n := 1) bt_291_532 rfl rfl (fun _ _ _ => rfl) (by decide) (fun c355 e356 => ?_)
  refine bl_add (pc' := 534) bt_291_533 rfl (by omega) (by omega) (fun v357 e358 => ?_)
  refine bl_sc (pc' := 535) bt_291_534 rfl hS (by omega) (by omega) ?_
  refine bl_ld (pc' := 536) bt_291_535 rfl rfl (fun _ _ _ => rfl) g0 rfl ?_
  refine bl_ld (pc' := 537) bt_291_536 rfl rfl (fun _ _ _ => rfl) g3 rfl ?_
  refine bl_c (pc' := 538) (n := 2) bt_291_537 rfl rfl (fun _ _ _ => rfl) (by decide) (fun c359 e360 => ?_)
  refine bl_add (pc' := 539) bt_291_538 rfl (by omega) (by omega) (fun v361 e362 => ?_)
  refine bl_sc (pc' := 540) bt_291_539 rfl hS (by omega) (by omega) ?_
  refine bl_ld (pc' := 541) bt_291_540 rfl rfl (fun _ _ _ => rfl) g0 rfl ?_
  refine bl_ld (pc' := 542) bt_291_541 rfl rfl (fun _ _ _ => rfl) g3 rfl ?_
  refine bl_c (pc' := 543) (n := 3) bt_291_542 rfl rfl (fun _ _ _ => rfl) (by decide) (fun c363 e364 => ?_)
  refine bl_add (pc' := 544) bt_291_543 rfl (by omega) (by omega) (fun v365 e366 => ?_)
  refine bl_sc (pc' := 545) bt_291_544 rfl hS (by omega) (by omega) ?_
  refine bl_i0 (pc' := 548) (pt := 552) bt_291_545 rfl rfl (fun k367 => ?_) (fun k367 => ?_)
  · replace k367 : ((xs (v365).toInt.toNat)).toInt = 0 := k367
    refine bl_c (pc' := 553) (n := 0) bt_291_552 rfl rfl (fun _ _ _ => rfl) (by decide) (fun c368 e369 => ?_)
    refine bl_cv (pc' := 556) (st := []) (args := [.int c368, .int (xs (v361).toInt.toNat), .int (xs (v357).toInt.toNat)]) (c := 0) (ci := 8) bt_291_553 rfl rfl (by decide) (wl_o0 hL) (by decide) (Nat.succ_lt_succ (Nat.zero_lt_succ _)) rfl (Nat.le_of_ble_eq_true rfl) (Nat.le_of_ble_eq_true rfl) ?_
    refine wj_b (K := 242) (FIN := st_FIN) (g := (291, 556, lv, [], cb, sb)) (t := []) (A := fun h' r => wl_W E wl_H x x h' ∧ wt_K h h') rfl (by decide) (by decide) hL (fun F9 k1 => wk_c_likely (FIN := F9) (gs := [bp_mf]) (by omega) hSA h8 hL (Nat.le_of_ble_eq_true rfl) (fun h r a b => k1 _ _ ⟨a, b⟩)) (fun h370 r371 ⟨hL372, K374⟩ q373 => ?_)
    have hR375 := wt_RK hR K374
    have hQ376 := wt_q hQ q373
    show bh_G E st_FIN ((291, 556, lv, [.int r371], cb, sb) :: [], h370, none)
    refine bl_pop (pc' := 557) bt_291_556 rfl rfl ?_
    refine bl_ld (pc' := 558) bt_291_557 rfl rfl (fun _ _ _ => rfl) g2 rfl ?_
    refine bl_ld (pc' := 559) bt_291_558 rfl rfl (fun _ _ _ => rfl) g0 rfl ?_
    refine bl_ld (pc' := 560) bt_291_559 rfl rfl (fun _ _ _ => rfl) g3 rfl ?_
    refine bl_c (pc' := 561) (n := 1) bt_291_560 rfl rfl (fun _ _ _ => rfl) (by decide) (fun c377 e378 => ?_)
    refine bl_add (pc' := 562) bt_291_561 rfl (by omega) (by omega) (fun v379 e380 => ?_)
    refine bl_sc (pc' := 563) bt_291_562 rfl hS (by omega) (by omega) ?_
    refine bl_ld (pc' := 564) bt_291_563 rfl rfl (fun _ _ _ => rfl) g0 rfl ?_
    refine bl_ld (pc' := 565) bt_291_564 rfl rfl (fun _ _ _ => rfl) g3 rfl ?_
    refine bl_c (pc' := 566) (n := 2) bt_291_565 rfl rfl (fun _ _ _ => rfl) (by decide) (fun c381 e382 => ?_)
    refine bl_add (pc' := 567) bt_291_566 rfl (by omega) (by omega) (fun v383 e384 => ?_)
    refine bl_sc (pc' := 568) bt_291_567 rfl hS (by omega) (by omega) ?_
    refine bl_ld (pc' := 569) bt_291_568 rfl rfl (fun _ _ _ => rfl) g0 rfl ?_
    refine bl_ld (pc' := 570) bt_291_569 rfl rfl (fun _ _ _ => rfl) g3 rfl ?_
    refine bl_c (pc' := 571) (n := 3) bt_291_570 rfl rfl (fun _ _ _ => rfl) (by decide) (fun c385 e386 => ?_)
    refine bl_add (pc' := 572) bt_291_571 rfl (by omega) (by omega) (fun v387 e388 => ?_)
    refine bl_sc (pc' := 573) bt_291_572 rfl hS (by omega) (by omega) ?_
    refine bl_i0 (pc' := 576) (pt := 580) bt_291_573 rfl rfl (fun k389 => ?_) (fun k389 => ?_)
    · replace k389 : ((xs (v387).toInt.toNat)).toInt = 0 := k389
      refine bl_c (pc' := 581) (n := 0) bt_291_580 rfl rfl (fun _ _ _ => rfl) (by decide) (fun c390 e391 => ?_)
      refine bl_cv (pc' := 584) (st := []) (args := [.int c390, .int (xs (v383).toInt.toNat), .int (xs (v379).toInt.toNat)]) (c := 88) (ci := 9) bt_291_581 rfl rfl (by decide) (wl_o88 hL372) (by decide) (Nat.succ_lt_succ (Nat.zero_lt_succ _)) rfl (Nat.le_of_ble_eq_true rfl) (Nat.le_of_ble_eq_true rfl) ?_
      refine wj_b (K := 58) (FIN := st_FIN) (g := (291, 584, lv, [], cb, sb)) (t := []) (A := fun h' r => wl_W E wl_H x x h' ∧ wt_K h370 h') rfl (by decide) (by decide) hL372 (fun F9 k1 => wk_m_likely (FIN := F9) (gs := [bp_mf]) (by omega) hSA hL372 (Nat.le_of_ble_eq_true rfl) (fun h r a b => k1 _ _ ⟨a, b⟩)) (fun h392 r393 ⟨hL394, K396⟩ q395 => ?_)
      have hR397 := wt_RK hR375 K396
      have hQ398 := wt_q hQ376 q395
      show bh_G E st_FIN ((291, 584, lv, [.int r393], cb, sb) :: [], h392, none)
      refine bl_pop (pc' := 585) bt_291_584 rfl rfl ?_
      refine bl_go (pc' := 1452) bt_291_585 rfl ?_
      exact kk _ _ _ hL394 hR397 hQ398
    · replace k389 : ¬ (((xs (v387).toInt.toNat)).toInt = 0) := k389
      refine bl_c (pc' := 577) (n := 1) bt_291_576 rfl rfl (fun _ _ _ => rfl) (by decide) (fun c399 e400 => ?_)
      refine bl_go (pc' := 581) bt_291_577 rfl ?_
      refine bl_cv (pc' := 584) (st := []) (args := [.int c399, .int (xs (v383).toInt.toNat), .int (xs (v379).toInt.toNat)]) (c := 88) (ci := 9) bt_291_581 rfl rfl (by decide) (wl_o88 hL372) (by decide) (Nat.succ_lt_succ (Nat.zero_lt_succ _)) rfl (Nat.le_of_ble_eq_true rfl) (Nat.le_of_ble_eq_true rfl) ?_
      refine wj_b (K := 58) (FIN := st_FIN) (g := (291, 584, lv, [], cb, sb)) (t := []) (A := fun h' r => wl_W E wl_H x x h' ∧ wt_K h370 h') rfl (by decide) (by decide) hL372 (fun F9 k1 => wk_m_likely (FIN := F9) (gs := [bp_mf]) (by omega) hSA hL372 (Nat.le_of_ble_eq_true rfl) (fun h r a b => k1 _ _ ⟨a, b⟩)) (fun h401 r402 ⟨hL403, K405⟩ q404 => ?_)
      have hR406 := wt_RK hR375 K405
      have hQ407 := wt_q hQ376 q404
      show bh_G E st_FIN ((291, 584, lv, [.int r402], cb, sb) :: [], h401, none)
      refine bl_pop (pc' := 585) bt_291_584 rfl rfl ?_
      refine bl_go (pc' := 1452) bt_291_585 rfl ?_
      exact kk _ _ _ hL403 hR406 hQ407
  · replace k367 : ¬ (((xs (v365).toInt.toNat)).toInt = 0) := k367
    refine bl_c (pc' := 549) (n := 1) bt_291_548 rfl rfl (fun _ _ _ => rfl) (by decide) (fun c408 e409 => ?_)
    refine bl_go (pc' := 553) bt_291_549 rfl ?_
    refine bl_cv (pc' := 556) (st := []) (args := [.int c408, .int (xs (v361).toInt.toNat), .int (xs (v357).toInt.toNat)]) (c := 0) (ci := 8) bt_291_553 rfl rfl (by decide) (wl_o0 hL) (by decide) (Nat.succ_lt_succ (Nat.zero_lt_succ _)) rfl (Nat.le_of_ble_eq_true rfl) (Nat.le_of_ble_eq_true rfl) ?_
    refine wj_b (K := 242) (FIN := st_FIN) (g := (291, 556, lv, [], cb, sb)) (t := []) (A := fun h' r => wl_W E wl_H x x h' ∧ wt_K h h') rfl (by decide) (by decide) hL (fun F9 k1 => wk_c_likely (FIN := F9) (gs := [bp_mf]) (by omega) hSA h8 hL (Nat.le_of_ble_eq_true rfl) (fun h r a b => k1 _ _ ⟨a, b⟩)) (fun h410 r411 ⟨hL412, K414⟩ q413 => ?_)
    have hR415 := wt_RK hR K414
    have hQ416 := wt_q hQ q413
    show bh_G E st_FIN ((291, 556, lv, [.int r411], cb, sb) :: [], h410, none)
    refine bl_pop (pc' := 557) bt_291_556 rfl rfl ?_
    refine bl_ld (pc' := 558) bt_291_557 rfl rfl (fun _ _ _ => rfl) g2 rfl ?_
    refine bl_ld (pc' := 559) bt_291_558 rfl rfl (fun _ _ _ => rfl) g0 rfl ?_
    refine bl_ld (pc' := 560) bt_291_559 rfl rfl (fun _ _ _ => rfl) g3 rfl ?_
    refine bl_c (pc' := 561) (n := 1) bt_291_560 rfl rfl (fun _ _ _ => rfl) (by decide) (fun c417 e418 => ?_)
    refine bl_add (pc' := 562) bt_291_561 rfl (by omega) (by omega) (fun v419 e420 => ?_)
    refine bl_sc (pc' := 563) bt_291_562 rfl hS (by omega) (by omega) ?_
    refine bl_ld (pc' := 564) bt_291_563 rfl rfl (fun _ _ _ => rfl) g0 rfl ?_
    refine bl_ld (pc' := 565) bt_291_564 rfl rfl (fun _ _ _ => rfl) g3 rfl ?_
    refine bl_c (pc' := 566) (n := 2) bt_291_565 rfl rfl (fun _ _ _ => rfl) (by decide) (fun c421 e422 => ?_)
    refine bl_add (pc' := 567) bt_291_566 rfl (by omega) (by omega) (fun v423 e424 => ?_)
    refine bl_sc (pc' := 568) bt_291_567 rfl hS (by omega) (by omega) ?_
    refine bl_ld (pc' := 569) bt_291_568 rfl rfl (fun _ _ _ => rfl) g0 rfl ?_
    refine bl_ld (pc' := 570) bt_291_569 rfl rfl (fun _ _ _ => rfl) g3 rfl ?_
    refine bl_c (pc' := 571) (n := 3) bt_291_570 rfl rfl (fun _ _ _ => rfl) (by decide) (fun c425 e426 => ?_)
    refine bl_add (pc' := 572) bt_291_571 rfl (by omega) (by omega) (fun v427 e428 => ?_)
    refine bl_sc (pc' := 573) bt_291_572 rfl hS (by omega) (by omega) ?_
    refine bl_i0 (pc' := 576) (pt := 580) bt_291_573 rfl rfl (fun k429 => ?_) (fun k429 => ?_)
    · replace k429 : ((xs (v427).toInt.toNat)).toInt = 0 := k429
      refine bl_c (pc' := 581) (n := 0) bt_291_580 rfl rfl (fun _ _ _ => rfl) (by decide) (fun c430 e431 => ?_)
      refine bl_cv (pc' := 584) (st := []) (args := [.int c430, .int (xs (v423).toInt.toNat), .int (xs (v419).toInt.toNat)]) (c := 88) (ci := 9) bt_291_581 rfl rfl (by decide) (wl_o88 hL412) (by decide) (Nat.succ_lt_succ (Nat.zero_lt_succ _)) rfl (Nat.le_of_ble_eq_true rfl) (Nat.le_of_ble_eq_true rfl) ?_
      refine wj_b (K := 58) (FIN := st_FIN) (g := (291, 584, lv, [], cb, sb)) (t := []) (A := fun h' r => wl_W E wl_H x x h' ∧ wt_K h410 h') rfl (by decide) (by decide) hL412 (fun F9 k1 => wk_m_likely (FIN := F9) (gs := [bp_mf]) (by omega) hSA hL412 (Nat.le_of_ble_eq_true rfl) (fun h r a b => k1 _ _ ⟨a, b⟩)) (fun h432 r433 ⟨hL434, K436⟩ q435 => ?_)
      have hR437 := wt_RK hR415 K436
      have hQ438 := wt_q hQ416 q435
      show bh_G E st_FIN ((291, 584, lv, [.int r433], cb, sb) :: [], h432, none)
      refine bl_pop (pc' := 585) bt_291_584 rfl rfl ?_
      refine bl_go (pc' := 1452) bt_291_585 rfl ?_
      exact kk _ _ _ hL434 hR437 hQ438
    · replace k429 : ¬ (((xs (v427).toInt.toNat)).toInt = 0) := k429
      refine bl_c (pc' := 577) (n := 1) bt_291_576 rfl rfl (fun _ _ _ => rfl) (by decide) (fun c439 e440 => ?_)
      refine bl_go (pc' := 581) bt_291_577 rfl ?_
      refine bl_cv (pc' := 584) (st := []) (args := [.int c439, .int (xs (v423).toInt.toNat), .int (xs (v419).toInt.toNat)]) (c := 88) (ci := 9) bt_291_581 rfl rfl (by decide) (wl_o88 hL412) (by decide) (Nat.succ_lt_succ (Nat.zero_lt_succ _)) rfl (Nat.le_of_ble_eq_true rfl) (Nat.le_of_ble_eq_true rfl) ?_
      refine wj_b (K := 58) (FIN := st_FIN) (g := (291, 584, lv, [], cb, sb)) (t := []) (A := fun h' r => wl_W E wl_H x x h' ∧ wt_K h410 h') rfl (by decide) (by decide) hL412 (fun F9 k1 => wk_m_likely (FIN := F9) (gs := [bp_mf]) (by omega) hSA hL412 (Nat.le_of_ble_eq_true rfl) (fun h r a b => k1 _ _ ⟨a, b⟩)) (fun h441 r442 ⟨hL443, K445⟩ q444 => ?_)
      have hR446 := wt_RK hR415 K445
      have hQ447 := wt_q hQ416 q444
      show bh_G E st_FIN ((291, 584, lv, [.int r442], cb, sb) :: [], h441, none)
      refine bl_pop (pc' := 585) bt_291_584 rfl rfl ?_
      refine bl_go (pc' := 1452) bt_291_585 rfl ?_
      exact kk _ _ _ hL443 hR446 hQ447
set_option maxHeartbeats 40000000 in
theorem wl_k_12 {i x : Int32} {lv : mm_V} {h : mm_H} {o : Option Value} (hST : wt_ST E) (hSA : ∀ {x y : Int32} (ρ : Nat → Int32), en_SA E ρ (wl_o x y) mt_SB) (h8 : ∃ q, E.2[8]? = some q) (hS : bl_S E b n xs) (hn : n ≤ 3072) (g0 : mm_get lv 0 = some (.ref b)) (g1 : mm_get lv 1 = some (.ref (E.1 + 0))) (g2 : mm_get lv 2 = some (.ref (E.1 + 88))) (g3 : mm_get lv 3 = some (.int i)) (hi0 : 0 ≤ i.toInt) (hi5 : i.toInt + 6 ≤ (n : Int)) (hL : wl_W E wl_H x x h) (hR : wt_R x x h) (hQ : wt_s h 2 = wt_s h 8817) (kk : ∀ (h' : mm_H) (x' : Int32) (o' : Option Value), wl_W E wl_H x' x' h' → wt_R x' x' h' → wt_s h' 2 = wt_s h' 8817 → bh_G E st_FIN ((291, 1452, lv, [], cb, sb) :: [], h', o')) : bh_G E st_FIN ((291, 588, lv, [], cb, sb) :: [], h, o) := by
  refine bl_ld (pc' := 589) bt_291_588 rfl rfl (fun _ _ _ => rfl) g1 rfl ?_
  refine bl_ld (pc' := 590) bt_291_589 rfl rfl (fun _ _ _ => rfl) g0 rfl ?_
  refine bl_ld (pc' := 591) bt_291_590 rfl rfl (fun _ _ _ => rfl) g3 rfl ?_
  refine bl_c (pc' := 592) (n := 1) bt_291_591 rfl rfl (fun _ _ _ => rfl) (by decide) (fun c448 e449 => ?_)
  refine bl_add (pc' := 593) bt_291_592 rfl (by omega) (by omega) (fun v450 e451 => ?_)
  refine bl_sc (pc' := 594) bt_291_593 rfl hS (by omega) (by omega) ?_
  refine bl_cv (pc' := 597) (st := []) (args := [.int (xs (v450).toInt.toNat)]) (c := 0) (ci := 8) bt_291_594 rfl rfl (by decide) (wl_o0 hL) (by decide) (Nat.succ_lt_succ (Nat.zero_lt_succ _)) rfl (Nat.le_of_ble_eq_true rfl) (Nat.le_of_ble_eq_true rfl) ?_
  refine wj_b (K := 249) (FIN := st_FIN) (g := (291, 597, lv, [], cb, sb)) (t := []) (A := fun h' r => wl_W E wl_H x x h' ∧ wt_K h h') rfl (by decide) (by decide) hL (fun F9 k1 => wk_c_orders (FIN := F9) (gs := [bp_mf]) hSA h8 hL (Nat.le_of_ble_eq_true rfl) (fun h r a b => k1 _ _ ⟨a, b⟩)) (fun h452 r453 ⟨hL454, K456⟩ q455 => ?_)
  have hR457 := wt_RK hR K456
  have hQ458 := wt_q hQ q455
  show bh_G E st_FIN ((291, 597, lv, [.int r453], cb, sb) :: [], h452, none)
  refine bl_pop (pc' := 598) bt_291_597 rfl rfl ?_
  refine bl_ld (pc' := 599) bt_291_598 rfl rfl (fun _ _ _ => rfl) g2 rfl ?_
  refine bl_ld (pc' := 600) bt_291_599 rfl rfl (fun _ _ _ => rfl) g0 rfl ?_
  refine bl_ld (pc' := 601) bt_291_600 rfl rfl (fun _ _ _ => rfl) g3 rfl ?_
  refine bl_c (pc' := 602) (n := 1) bt_291_601 rfl rfl (fun _ _ _ => rfl) (by decide) (fun c459 e460 => ?_)
  refine bl_add (pc' := 603) bt_291_602 rfl (by omega) (by omega) (fun v461 e462 => ?_)
  refine bl_sc (pc' := 604) bt_291_603 rfl hS (by omega) (by omega) ?_
  refine bl_cv (pc' := 607) (st := []) (args := [.int (xs (v461).toInt.toNat)]) (c := 88) (ci := 9) bt_291_604 rfl rfl (by decide) (wl_o88 hL454) (by decide) (Nat.succ_lt_succ (Nat.zero_lt_succ _)) rfl (Nat.le_of_ble_eq_true rfl) (Nat.le_of_ble_eq_true rfl) ?_
  refine wj_b (K := 69) (FIN := st_FIN) (g := (291, 607, lv, [], cb, sb)) (t := []) (A := fun h' r => wl_W E wl_H x x h' ∧ wt_K h452 h') rfl (by decide) (by decide) hL454 (fun F9 k1 => wk_m_orders (FIN := F9) (gs := [bp_mf]) hSA hL454 (Nat.le_of_ble_eq_true rfl) (fun h r a b => k1 _ _ ⟨a, b⟩)) (fun h463 r464 ⟨hL465, K467⟩ q466 => ?_)
  have hR468 := wt_RK hR457 K467
  have hQ469 := wt_q hQ458 q466
  show bh_G E st_FIN ((291, 607, lv, [.int r464], cb, sb) :: [], h463, none)
  refine bl_pop (pc' := 608) bt_291_607 rfl rfl ?_
  refine bl_go (pc' := 1452) bt_291_608 rfl ?_
  exact kk _ _ _ hL465 hR468 hQ469
set_option maxHeartbeats 40000000 in
theorem wl_k_13 {i x : Int32} {lv : mm_V} {h : mm_H} {o : Option Value} (hST : wt_ST E) (hSA : ∀ {x y : Int32} (ρ : Nat → Int32), en_SA E ρ (wl_o x y) mt_SB) (h8 : ∃ q, E.2[8]? = some q) (hS : bl_S E b n xs) (hn : n ≤ 3072) (g0 : mm_get lv 0 = some (.ref b)) (g1 : mm_get lv 1 = some (.ref (E.1 + 0))) (g2 : mm_get lv 2 = some (.ref (E.1 + 88))) (g3 : mm_get lv 3 = some (.int i)) (hi0 : 0 ≤ i.toInt) (hi5 : i.toInt + 6 ≤ (n : Int)) (hL : wl_W E wl_H x x h) (hR : wt_R x x h) (hQ : wt_s h 2 = wt_s h 8817) (kk : ∀ (h' : mm_H) (x' : Int32) (o' : Option Value), wl_W E wl_H x' x' h' → wt_R x' x' h' → wt_s h' 2 = wt_s h' 8817 → bh_G E st_FIN ((291, 1452, lv, [], cb, sb) :: [], h', o')) : bh_G E st_FIN ((291, 611, lv, [], cb, sb) :: [], h, o) := by
  refine bl_ld (pc' := 612) bt_291_611 rfl rfl (fun _ _ _ => rfl) g1 rfl ?_
  refine bl_ld (pc' := 613) bt_291_612 rfl rfl (fun _ _ _ => rfl) g0 rfl ?_
  refine bl_ld (pc' := 614) bt_291_613 rfl rfl (fun _ _ _ => rfl) g3 rfl ?_
  refine bl_c (pc' := 615) (n := 1) bt_291_614 rfl rfl (fun _ _ _ => rfl) (by decide) (fun c470 e471 => ?_)
  refine bl_add (pc' := 616) bt_291_615 rfl (by omega) (by omega) (fun v472 e473 => ?_)
  refine bl_sc (pc' := 617) bt_291_616 rfl hS (by omega) (by omega) ?_
  refine bl_ld (pc' := 618) bt_291_617 rfl rfl (fun _ _ _ => rfl) g0 rfl ?_
  refine bl_ld (pc' := 619) bt_291_618 rfl rfl (fun _ _ _ => rfl) g3 rfl ?_
  refine bl_c (pc' := 620) (n := 2) bt_291_619 rfl rfl (fun _ _ _ => rfl) (by decide) (fun c474 e475 => ?_)
  refine bl_add (pc' := 621) bt_291_620 rfl (by omega) (by omega) (fun v476 e477 => ?_)
  refine bl_sc (pc' := 622) bt_291_621 rfl hS (by omega) (by omega) ?_
  refine bl_ld (pc' := 623) bt_291_622 rfl rfl (fun _ _ _ => rfl) g0 rfl ?_
  refine bl_ld (pc' := 624) bt_291_623 rfl rfl (fun _ _ _ => rfl) g3 rfl ?_
  refine bl_c (pc' := 625) (n := 3) bt_291_624 rfl rfl (fun _ _ _ => rfl) (by decide) (fun c478 e479 => ?_)
  refine bl_add (pc' := 626) bt_291_625 rfl (by omega) (by omega) (fun v480 e481 => ?_)
  refine bl_sc (pc' := 627) bt_291_626 rfl hS (by omega) (by omega) ?_
  refine bl_i0 (pc' := 630) (pt := 634) bt_291_627 rfl rfl (fun k482 => ?_) (fun k482 => ?_)
  · replace k482 : ((xs (v480).toInt.toNat)).toInt = 0 := k482
    refine bl_c (pc' := 635) (n := 0) bt_291_634 rfl rfl (fun _ _ _ => rfl) (by decide) (fun c483 e484 => ?_)
    refine bl_cv (pc' := 638) (st := []) (args := [.int c483, .int (xs (v476).toInt.toNat), .int (xs (v472).toInt.toNat)]) (c := 0) (ci := 8) bt_291_635 rfl rfl (by decide) (wl_o0 hL) (by decide) (Nat.succ_lt_succ (Nat.zero_lt_succ _)) rfl (Nat.le_of_ble_eq_true rfl) (Nat.le_of_ble_eq_true rfl) ?_
    refine wj_b (K := 246) (FIN := st_FIN) (g := (291, 638, lv, [], cb, sb)) (t := []) (A := fun h' r => wl_W E wl_H x x h' ∧ wt_K h h') rfl (by decide) (by decide) hL (fun F9 k1 => wk_c_mean (FIN := F9) (gs := [bp_mf]) (by omega) hSA h8 hL (Nat.le_of_ble_eq_true rfl) (fun h r a b => k1 _ _ ⟨a, b⟩)) (fun h485 r486 ⟨hL487, K489⟩ q488 => ?_)
    have hR490 := wt_RK hR K489
    have hQ491 := wt_q hQ q488
    show bh_G E st_FIN ((291, 638, lv, [.int r486], cb, sb) :: [], h485, none)
    refine bl_pop (pc' := 639) bt_291_638 rfl rfl ?_
    refine bl_ld (pc' := 640) bt_291_639 rfl rfl (fun _ _ _ => rfl) g2 rfl ?_
    refine bl_ld (pc' := 641) bt_291_640 rfl rfl (fun _ _ _ => rfl) g0 rfl ?_
    refine bl_ld (pc' := 642) bt_291_641 rfl rfl (fun _ _ _ => rfl) g3 rfl ?_
    refine bl_c (pc' := 643) (n := 1) bt_291_642 rfl rfl (fun _ _ _ => rfl) (by decide) (fun c492 e493 => ?_)
    refine bl_add (pc' := 644) bt_291_643 rfl (by omega) (by omega) (fun v494 e495 => ?_)
    refine bl_sc (pc' := 645) bt_291_644 rfl hS (by omega) (by omega) ?_
    refine bl_ld (pc' := 646) bt_291_645 rfl rfl (fun _ _ _ => rfl) g0 rfl ?_
    refine bl_ld (pc' := 647) bt_291_646 rfl rfl (fun _ _ _ => rfl) g3 rfl ?_
    refine bl_c (pc' := 648) (n := 2) bt_291_647 rfl rfl (fun _ _ _ => rfl) (by decide) (fun c496 e497 => ?_)
    refine bl_add (pc' := 649) bt_291_648 rfl (by omega) (by omega) (fun v498 e499 => ?_)
    refine bl_sc (pc' := 650) bt_291_649 rfl hS (by omega) (by omega) ?_
    refine bl_ld (pc' := 651) bt_291_650 rfl rfl (fun _ _ _ => rfl) g0 rfl ?_
    refine bl_ld (pc' := 652) bt_291_651 rfl rfl (fun _ _ _ => rfl) g3 rfl ?_
    refine bl_c (pc' := 653) (n := 3) bt_291_652 rfl rfl (fun _ _ _ => rfl) (by decide) (fun c500 e501 => ?_)
    refine bl_add (pc' := 654) bt_291_653 rfl (by omega) (by omega) (fun v502 e503 => ?_)
    refine bl_sc (pc' := 655) bt_291_654 rfl hS (by omega) (by omega) ?_
    refine bl_i0 (pc' := 658) (pt := 662) bt_291_655 rfl rfl (fun k504 => ?_) (fun k504 => ?_)
    · replace k504 : ((xs (v502).toInt.toNat)).toInt = 0 := k504
      refine bl_c (pc' := 663) (n := 0) bt_291_662 rfl rfl (fun _ _ _ => rfl) (by decide) (fun c505 e506 => ?_)
      refine bl_cv (pc' := 666) (st := []) (args := [.int c505, .int (xs (v498).toInt.toNat), .int (xs (v494).toInt.toNat)]) (c := 88) (ci := 9) bt_291_663 rfl rfl (by decide) (wl_o88 hL487) (by decide) (Nat.succ_lt_succ (Nat.zero_lt_succ _)) rfl (Nat.le_of_ble_eq_true rfl) (Nat.le_of_ble_eq_true rfl) ?_
      refine wj_b (K := 64) (FIN := st_FIN) (g := (291, 666, lv, [], cb, sb)) (t := []) (A := fun h' r => wl_W E wl_H x x h' ∧ wt_K h485 h') rfl (by decide) (by decide) hL487 (fun F9 k1 => wk_m_mean (FIN := F9) (gs := [bp_mf]) (by omega) hSA hL487 (Nat.le_of_ble_eq_true rfl) (fun h r a b => k1 _ _ ⟨a, b⟩)) (fun h507 r508 ⟨hL509, K511⟩ q510 => ?_)
      have hR512 := wt_RK hR490 K511
      have hQ513 := wt_q hQ491 q510
      show bh_G E st_FIN ((291, 666, lv, [.int r508], cb, sb) :: [], h507, none)
      refine bl_pop (pc' := 667) bt_291_666 rfl rfl ?_
      refine bl_go (pc' := 1452) bt_291_667 rfl ?_
      exact kk _ _ _ hL509 hR512 hQ513
    · replace k504 : ¬ (((xs (v502).toInt.toNat)).toInt = 0) := k504
      refine bl_c (pc' := 659) (n := 1) bt_291_658 rfl rfl (fun _ _ _ => rfl) (by decide) (fun c514 e515 => ?_)
      refine bl_go (pc' := 663) bt_291_659 rfl ?_
      refine bl_cv (pc' := 666) (st := []) (args := [.int c514, .int (xs (v498).toInt.toNat), .int (xs (v494).toInt.toNat)]) (c := 88) (ci := 9) bt_291_663 rfl rfl (by decide) (wl_o88 hL487) (by decide) (Nat.succ_lt_succ (Nat.zero_lt_succ _)) rfl (Nat.le_of_ble_eq_true rfl) (Nat.le_of_ble_eq_true rfl) ?_
      refine wj_b (K := 64) (FIN := st_FIN) (g := (291, 666, lv, [], cb, sb)) (t := []) (A := fun h' r => wl_W E wl_H x x h' ∧ wt_K h485 h') rfl (by decide) (by decide) hL487 (fun F9 k1 => wk_m_mean (FIN := F9) (gs := [bp_mf]) (by omega) hSA hL487 (Nat.le_of_ble_eq_true rfl) (fun h r a b => k1 _ _ ⟨a, b⟩)) (fun h516 r517 ⟨hL518, K520⟩ q519 => ?_)
      have hR521 := wt_RK hR490 K520
      have hQ522 := wt_q hQ491 q519
      show bh_G E st_FIN ((291, 666, lv, [.int r517], cb, sb) :: [], h516, none)
      refine bl_pop (pc' := 667) bt_291_666 rfl rfl ?_
      refine bl_go (pc' := 1452) bt_291_667 rfl ?_
      exact kk _ _ _ hL518 hR521 hQ522
  · replace k482 : ¬ (((xs (v480).toInt.toNat)).toInt = 0) := k482
    refine bl_c (pc' := 631) (n := 1) bt_291_630 rfl rfl (fun _ _ _ => rfl) (by decide) (fun c523 e524 => ?_)
    refine bl_go (pc' := 635) bt_291_631 rfl ?_
    refine bl_cv (pc' := 638) (st := []) (args := [.int c523, .int (xs (v476).toInt.toNat), .int (xs (v472).toInt.toNat)]) (c := 0) (ci := 8) bt_291_635 rfl rfl (by decide) (wl_o0 hL) (by decide) (Nat.succ_lt_succ (Nat.zero_lt_succ _)) rfl (Nat.le_of_ble_eq_true rfl) (Nat.le_of_ble_eq_true rfl) ?_
    refine wj_b (K := 246) (FIN := st_FIN) (g := (291, 638, lv, [], cb, sb)) (t := []) (A := fun h' r => wl_W E wl_H x x h' ∧ wt_K h h') rfl (by decide) (by decide) hL (fun F9 k1 => wk_c_mean (FIN := F9) (gs := [bp_mf]) (by omega) hSA h8 hL (Nat.le_of_ble_eq_true rfl) (fun h r a b => k1 _ _ ⟨a, b⟩)) (fun h525 r526 ⟨hL527, K529⟩ q528 => ?_)
    have hR530 := wt_RK hR K529
    have hQ531 := wt_q hQ q528
    show bh_G E st_FIN ((291, 638, lv, [.int r526], cb, sb) :: [], h525, none)
    refine bl_pop (pc' := 639) bt_291_638 rfl rfl ?_
    refine bl_ld (pc' := 640) bt_291_639 rfl rfl (fun _ _ _ => rfl) g2 rfl ?_
    refine bl_ld (pc' := 641) bt_291_640 rfl rfl (fun _ _ _ => rfl) g0 rfl ?_
    refine bl_ld (pc' := 642) bt_291_641 rfl rfl (fun _ _ _ => rfl) g3 rfl ?_
    refine bl_c (pc' := 643) (n := 1) bt_291_642 rfl rfl (fun _ _ _ => rfl) (by decide) (fun c532 e533 => ?_)
    refine bl_add (pc' := 644) bt_291_643 rfl (by omega) (by omega) (fun v534 e535 => ?_)
    refine bl_sc (pc' := 645) bt_291_644 rfl hS (by omega) (by omega) ?_
    refine bl_ld (pc' := 646) bt_291_645 rfl rfl (fun _ _ _ => rfl) g0 rfl ?_
    refine bl_ld (pc' := 647) bt_291_646 rfl rfl (fun _ _ _ => rfl) g3 rfl ?_
    refine bl_c (pc' := 648) (n := 2) bt_291_647 rfl rfl (fun _ _ _ => rfl) (by decide) (fun c536 e537 => ?_)
    refine bl_add (pc' := 649) bt_291_648 rfl (by omega) (by omega) (fun v538 e539 => ?_)
    refine bl_sc (pc' := 650) bt_291_649 rfl hS (by omega) (by omega) ?_
    refine bl_ld (pc' := 651) bt_291_650 rfl rfl (fun _ _ _ => rfl) g0 rfl ?_
    refine bl_ld (pc' := 652) bt_291_651 rfl rfl (fun _ _ _ => rfl) g3 rfl ?_
    refine bl_c (pc' := 653) (n := 3) bt_291_652 rfl rfl (fun _ _ _ => rfl) (by decide) (fun c540 e541 => ?_)
    refine bl_add (pc' := 654) bt_291_653 rfl (by omega) (by omega) (fun v542 e543 => ?_)
    refine bl_sc (pc' := 655) bt_291_654 rfl hS (by omega) (by omega) ?_
    refine bl_i0 (pc' := 658) (pt := 662) bt_291_655 rfl rfl (fun k544 => ?_) (fun k544 => ?_)
    · replace k544 : ((xs (v542).toInt.toNat)).toInt = 0 := k544
      refine bl_c (pc' := 663) (n := 0) bt_291_662 rfl rfl (fun _ _ _ => rfl) (by decide) (fun c545 e546 => ?_)
      refine bl_cv (pc' := 666) (st := []) (args := [.int c545, .int (xs (v538).toInt.toNat), .int (xs (v534).toInt.toNat)]) (c := 88) (ci := 9) bt_291_663 rfl rfl (by decide) (wl_o88 hL527) (by decide) (Nat.succ_lt_succ (Nat.zero_lt_succ _)) rfl (Nat.le_of_ble_eq_true rfl) (Nat.le_of_ble_eq_true rfl) ?_
      refine wj_b (K := 64) (FIN := st_FIN) (g := (291, 666, lv, [], cb, sb)) (t := []) (A := fun h' r => wl_W E wl_H x x h' ∧ wt_K h525 h') rfl (by decide) (by decide) hL527 (fun F9 k1 => wk_m_mean (FIN := F9) (gs := [bp_mf]) (by omega) hSA hL527 (Nat.le_of_ble_eq_true rfl) (fun h r a b => k1 _ _ ⟨a, b⟩)) (fun h547 r548 ⟨hL549, K551⟩ q550 => ?_)
      have hR552 := wt_RK hR530 K551
      have hQ553 := wt_q hQ531 q550
      show bh_G E st_FIN ((291, 666, lv, [.int r548], cb, sb) :: [], h547, none)
      refine bl_pop (pc' := 667) bt_291_666 rfl rfl ?_
      refine bl_go (pc' := 1452) bt_291_667 rfl ?_
      exact kk _ _ _ hL549 hR552 hQ553
    · replace k544 : ¬ (((xs (v542).toInt.toNat)).toInt = 0) := k544
      refine bl_c (pc' := 659) (n := 1) bt_291_658 rfl rfl (fun _ _ _ => rfl) (by decide) (fun c554 e555 => ?_)
      refine bl_go (pc' := 663) bt_291_659 rfl ?_
      refine bl_cv (pc' := 666) (st := []) (args := [.int c554, .int (xs (v538).toInt.toNat), .int (xs (v534).toInt.toNat)]) (c := 88) (ci := 9) bt_291_663 rfl rfl (by decide) (wl_o88 hL527) (by decide) (Nat.succ_lt_succ (Nat.zero_lt_succ _)) rfl (Nat.le_of_ble_eq_true rfl) (Nat.le_of_ble_eq_true rfl) ?_
      refine wj_b (K := 64) (FIN := st_FIN) (g := (291, 666, lv, [], cb, sb)) (t := []) (A := fun h' r => wl_W E wl_H x x h' ∧ wt_K h525 h') rfl (by decide) (by decide) hL527 (fun F9 k1 => wk_m_mean (FIN := F9) (gs := [bp_mf]) (by omega) hSA hL527 (Nat.le_of_ble_eq_true rfl) (fun h r a b => k1 _ _ ⟨a, b⟩)) (fun h556 r557 ⟨hL558, K560⟩ q559 => ?_)
      have hR561 := wt_RK hR530 K560
      have hQ562 := wt_q hQ531 q559
      show bh_G E st_FIN ((291, 666, lv, [.int r557], cb, sb) :: [], h556, none)
      refine bl_pop (pc' := 667) bt_291_666 rfl rfl ?_
      refine bl_go (pc' := 1452) bt_291_667 rfl ?_
      exact kk _ _ _ hL558 hR561 hQ562
set_option maxHeartbeats 40000000 in
theorem wl_k_14 {i x : Int32} {lv : mm_V} {h : mm_H} {o : Option Value} (hST : wt_ST E) (hSA : ∀ {x y : Int32} (ρ : Nat → Int32), en_SA E ρ (wl_o x y) mt_SB) (h8 : ∃ q, E.2[8]? = some q) (hS : bl_S E b n xs) (hn : n ≤ 3072) (g0 : mm_get lv 0 = some (.ref b)) (g1 : mm_get lv 1 = some (.ref (E.1 + 0))) (g2 : mm_get lv 2 = some (.ref (E.1 + 88))) (g3 : mm_get lv 3 = some (.int i)) (hi0 : 0 ≤ i.toInt) (hi5 : i.toInt + 6 ≤ (n : Int)) (hL : wl_W E wl_H x x h) (hR : wt_R x x h) (hQ : wt_s h 2 = wt_s h 8817) (kk : ∀ (h' : mm_H) (x' : Int32) (o' : Option Value), wl_W E wl_H x' x' h' → wt_R x' x' h' → wt_s h' 2 = wt_s h' 8817 → bh_G E st_FIN ((291, 1452, lv, [], cb, sb) :: [], h', o')) : bh_G E st_FIN ((291, 670, lv, [], cb, sb) :: [], h, o) := by
  refine bl_ld (pc' := 671) bt_291_670 rfl rfl (fun _ _ _ => rfl) g1 rfl ?_
  refine bl_ld (pc' := 672) bt_291_671 rfl rfl (fun _ _ _ => rfl) g0 rfl ?_
  refine bl_ld (pc' := 673) bt_291_672 rfl rfl (fun _ _ _ => rfl) g3 rfl ?_
  refine bl_c (pc' := 674) (n := 1) bt_291_673 rfl rfl (fun _ _ _ => rfl) (by decide) (fun c563 e564 => ?_)
  refine bl_add (pc' := 675) bt_291_674 rfl (by omega) (by omega) (fun v565 e566 => ?_)
  refine bl_sc (pc' := 676) bt_291_675 rfl hS (by omega) (by omega) ?_
  refine bl_ld (pc' := 677) bt_291_676 rfl rfl (fun _ _ _ => rfl) g0 rfl ?_
  refine bl_ld (pc' := 678) bt_291_677 rfl rfl (fun _ _ _ => rfl) g3 rfl ?_
  refine bl_c (pc' := 679) (n := 2) bt_291_678 rfl rfl (fun _ _ _ => rfl) (by decide) (fun c567 e568 => ?_)
  refine bl_add (pc' := 680) bt_291_679 rfl (by omega) (by omega) (fun v569 e570 => ?_)
  refine bl_sc (pc' := 681) bt_291_680 rfl hS (by omega) (by omega) ?_
  refine bl_ld (pc' := 682) bt_291_681 rfl rfl (fun _ _ _ => rfl) g0 rfl ?_
  refine bl_ld (pc' := 683) bt_291_682 rfl rfl (fun _ _ _ => rfl) g3 rfl ?_
  refine bl_c (pc' := 684) (n := 3) bt_291_683 rfl rfl (fun _ _ _ => rfl) (by decide) (fun c571 e572 => ?_)
  refine bl_add (pc' := 685) bt_291_684 rfl (by omega) (by omega) (fun v573 e574 => ?_)
  refine bl_sc (pc' := 686) bt_291_685 rfl hS (by omega) (by omega) ?_
  refine bl_i0 (pc' := 689) (pt := 693) bt_291_686 rfl rfl (fun k575 => ?_) (fun k575 => ?_)
  · replace k575 : ((xs (v573).toInt.toNat)).toInt = 0 := k575
    refine bl_c (pc' := 694) (n := 0) bt_291_693 rfl rfl (fun _ _ _ => rfl) (by decide) (fun c576 e577 => ?_)
    refine bl_cv (pc' := 697) (st := []) (args := [.int c576, .int (xs (v569).toInt.toNat), .int (xs (v565).toInt.toNat)]) (c := 0) (ci := 8) bt_291_694 rfl rfl (by decide) (wl_o0 hL) (by decide) (Nat.succ_lt_succ (Nat.zero_lt_succ _)) rfl (Nat.le_of_ble_eq_true rfl) (Nat.le_of_ble_eq_true rfl) ?_
    refine wj_b (K := 247) (FIN := st_FIN) (g := (291, 697, lv, [], cb, sb)) (t := []) (A := fun h' r => wl_W E wl_H x x h' ∧ wt_K h h') rfl (by decide) (by decide) hL (fun F9 k1 => wk_c_most (FIN := F9) (gs := [bp_mf]) (by omega) hSA h8 hL (Nat.le_of_ble_eq_true rfl) (fun h r a b => k1 _ _ ⟨a, b⟩)) (fun h578 r579 ⟨hL580, K582⟩ q581 => ?_)
    have hR583 := wt_RK hR K582
    have hQ584 := wt_q hQ q581
    show bh_G E st_FIN ((291, 697, lv, [.int r579], cb, sb) :: [], h578, none)
    refine bl_pop (pc' := 698) bt_291_697 rfl rfl ?_
    refine bl_ld (pc' := 699) bt_291_698 rfl rfl (fun _ _ _ => rfl) g2 rfl ?_
    refine bl_ld (pc' := 700) bt_291_699 rfl rfl (fun _ _ _ => rfl) g0 rfl ?_
    refine bl_ld (pc' := 701) bt_291_700 rfl rfl (fun _ _ _ => rfl) g3 rfl ?_
    refine bl_c (pc' := 702) (n := 1) bt_291_701 rfl rfl (fun _ _ _ => rfl) (by decide) (fun c585 e586 => ?_)
    refine bl_add (pc' := 703) bt_291_702 rfl (by omega) (by omega) (fun v587 e588 => ?_)
    refine bl_sc (pc' := 704) bt_291_703 rfl hS (by omega) (by omega) ?_
    refine bl_ld (pc' := 705) bt_291_704 rfl rfl (fun _ _ _ => rfl) g0 rfl ?_
    refine bl_ld (pc' := 706) bt_291_705 rfl rfl (fun _ _ _ => rfl) g3 rfl ?_
    refine bl_c (pc' := 707) (n := 2) bt_291_706 rfl rfl (fun _ _ _ => rfl) (by decide) (fun c589 e590 => ?_)
    refine bl_add (pc' := 708) bt_291_707 rfl (by omega) (by omega) (fun v591 e592 => ?_)
    refine bl_sc (pc' := 709) bt_291_708 rfl hS (by omega) (by omega) ?_
    refine bl_ld (pc' := 710) bt_291_709 rfl rfl (fun _ _ _ => rfl) g0 rfl ?_
    refine bl_ld (pc' := 711) bt_291_710 rfl rfl (fun _ _ _ => rfl) g3 rfl ?_
    refine bl_c (pc' := 712) (n := 3) bt_291_711 rfl rfl (fun _ _ _ => rfl) (by decide) (fun c593 e594 => ?_)
    refine bl_add (pc' := 713) bt_291_712 rfl (by omega) (by omega) (fun v595 e596 => ?_)
    refine bl_sc (pc' := 714) bt_291_713 rfl hS (by omega) (by omega) ?_
    refine bl_i0 (pc' := 717) (pt := 721) bt_291_714 rfl rfl (fun k597 => ?_) (fun k597 => ?_)
    · replace k597 : ((xs (v595).toInt.toNat)).toInt = 0 := k597
      refine bl_c (pc' := 722) (n := 0) bt_291_721 rfl rfl (fun _ _ _ => rfl) (by decide) (fun c598 e599 => ?_)
      refine bl_cv (pc' := 725) (st := []) (args := [.int c598, .int (xs (v591).toInt.toNat), .int (xs (v587).toInt.toNat)]) (c := 88) (ci := 9) bt_291_722 rfl rfl (by decide) (wl_o88 hL580) (by decide) (Nat.succ_lt_succ (Nat.zero_lt_succ _)) rfl (Nat.le_of_ble_eq_true rfl) (Nat.le_of_ble_eq_true rfl) ?_
      refine wj_b (K := 66) (FIN := st_FIN) (g := (291, 725, lv, [], cb, sb)) (t := []) (A := fun h' r => wl_W E wl_H x x h' ∧ wt_K h578 h') rfl (by decide) (by decide) hL580 (fun F9 k1 => wk_m_most (FIN := F9) (gs := [bp_mf]) (by omega) hSA hL580 (Nat.le_of_ble_eq_true rfl) (fun h r a b => k1 _ _ ⟨a, b⟩)) (fun h600 r601 ⟨hL602, K604⟩ q603 => ?_)
      have hR605 := wt_RK hR583 K604
      have hQ606 := wt_q hQ584 q603
      show bh_G E st_FIN ((291, 725, lv, [.int r601], cb, sb) :: [], h600, none)
      refine bl_pop (pc' := 726) bt_291_725 rfl rfl ?_
      refine bl_go (pc' := 1452) bt_291_726 rfl ?_
      exact kk _ _ _ hL602 hR605 hQ606
    · replace k597 : ¬ (((xs (v595).toInt.toNat)).toInt = 0) := k597
      refine bl_c (pc' := 718) (n := 1) bt_291_717 rfl rfl (fun _ _ _ => rfl) (by decide) (fun c607 e608 => ?_)
      refine bl_go (pc' := 722) bt_291_718 rfl ?_
      refine bl_cv (pc' := 725) (st := []) (args := [.int c607, .int (xs (v591).toInt.toNat), .int (xs (v587).toInt.toNat)]) (c := 88) (ci := 9) bt_291_722 rfl rfl (by decide) (wl_o88 hL580) (by decide) (Nat.succ_lt_succ (Nat.zero_lt_succ _)) rfl (Nat.le_of_ble_eq_true rfl) (Nat.le_of_ble_eq_true rfl) ?_
      refine wj_b (K := 66) (FIN := st_FIN) (g := (291, 725, lv, [], cb, sb)) (t := []) (A := fun h' r => wl_W E wl_H x x h' ∧ wt_K h578 h') rfl (by decide) (by decide) hL580 (fun F9 k1 => wk_m_most (FIN := F9) (gs := [bp_mf]) (by omega) hSA hL580 (Nat.le_of_ble_eq_true rfl) (fun h r a b => k1 _ _ ⟨a, b⟩)) (fun h609 r610 ⟨hL611, K613⟩ q612 => ?_)
      have hR614 := wt_RK hR583 K613
      have hQ615 := wt_q hQ584 q612
      show bh_G E st_FIN ((291, 725, lv, [.int r610], cb, sb) :: [], h609, none)
      refine bl_pop (pc' := 726) bt_291_725 rfl rfl ?_
      refine bl_go (pc' := 1452) bt_291_726 rfl ?_
      exact kk _ _ _ hL611 hR614 hQ615
  · replace k575 : ¬ (((xs (v573).toInt.toNat)).toInt = 0) := k575
    refine bl_c (pc' := 690) (n := 1) bt_291_689 rfl rfl (fun _ _ _ => rfl) (by decide) (fun c616 e617 => ?_)
    refine bl_go (pc' := 694) bt_291_690 rfl ?_
    refine bl_cv (pc' := 697) (st := []) (args := [.int c616, .int (xs (v569).toInt.toNat), .int (xs (v565).toInt.toNat)]) (c := 0) (ci := 8) bt_291_694 rfl rfl (by decide) (wl_o0 hL) (by decide) (Nat.succ_lt_succ (Nat.zero_lt_succ _)) rfl (Nat.le_of_ble_eq_true rfl) (Nat.le_of_ble_eq_true rfl) ?_
    refine wj_b (K := 247) (FIN := st_FIN) (g := (291, 697, lv, [], cb, sb)) (t := []) (A := fun h' r => wl_W E wl_H x x h' ∧ wt_K h h') rfl (by decide) (by decide) hL (fun F9 k1 => wk_c_most (FIN := F9) (gs := [bp_mf]) (by omega) hSA h8 hL (Nat.le_of_ble_eq_true rfl) (fun h r a b => k1 _ _ ⟨a, b⟩)) (fun h618 r619 ⟨hL620, K622⟩ q621 => ?_)
    have hR623 := wt_RK hR K622
    have hQ624 := wt_q hQ q621
    show bh_G E st_FIN ((291, 697, lv, [.int r619], cb, sb) :: [], h618, none)
    refine bl_pop (pc' := 698) bt_291_697 rfl rfl ?_
    refine bl_ld (pc' := 699) bt_291_698 rfl rfl (fun _ _ _ => rfl) g2 rfl ?_
    refine bl_ld (pc' := 700) bt_291_699 rfl rfl (fun _ _ _ => rfl) g0 rfl ?_
    refine bl_ld (pc' := 701) bt_291_700 rfl rfl (fun _ _ _ => rfl) g3 rfl ?_
    refine bl_c (pc' := 702) (n := 1) bt_291_701 rfl rfl (fun _ _ _ => rfl) (by decide) (fun c625 e626 => ?_)
    refine bl_add (pc' := 703) bt_291_702 rfl (by omega) (by omega) (fun v627 e628 => ?_)
    refine bl_sc (pc' := 704) bt_291_703 rfl hS (by omega) (by omega) ?_
    refine bl_ld (pc' := 705) bt_291_704 rfl rfl (fun _ _ _ => rfl) g0 rfl ?_
    refine bl_ld (pc' := 706) bt_291_705 rfl rfl (fun _ _ _ => rfl) g3 rfl ?_
    refine bl_c (pc' := 707) (n := 2) bt_291_706 rfl rfl (fun _ _ _ => rfl) (by decide) (fun c629 e630 => ?_)
    refine bl_add (pc' := 708) bt_291_707 rfl (by omega) (by omega) (fun v631 e632 => ?_)
    refine bl_sc (pc' := 709) bt_291_708 rfl hS (by omega) (by omega) ?_
    refine bl_ld (pc' := 710) bt_291_709 rfl rfl (fun _ _ _ => rfl) g0 rfl ?_
    refine bl_ld (pc' := 711) bt_291_710 rfl rfl (fun _ _ _ => rfl) g3 rfl ?_
    refine bl_c (pc' := 712) (n := 3) bt_291_711 rfl rfl (fun _ _ _ => rfl) (by decide) (fun c633 e634 => ?_)
    refine bl_add (pc' := 713) bt_291_712 rfl (by omega) (by omega) (fun v635 e636 => ?_)
    refine bl_sc (pc' := 714) bt_291_713 rfl hS (by omega) (by omega) ?_
    refine bl_i0 (pc' := 717) (pt := 721) bt_291_714 rfl rfl (fun k637 => ?_) (fun k637 => ?_)
    · replace k637 : ((xs (v635).toInt.toNat)).toInt = 0 := k637
      refine bl_c (pc' := 722) (n := 0) bt_291_721 rfl rfl (fun _ _ _ => rfl) (by decide) (fun c638 e639 => ?_)
      refine bl_cv (pc' := 725) (st := []) (args := [.int c638, .int (xs (v631).toInt.toNat), .int (xs (v627).toInt.toNat)]) (c := 88) (ci := 9) bt_291_722 rfl rfl (by decide) (wl_o88 hL620) (by decide) (Nat.succ_lt_succ (Nat.zero_lt_succ _)) rfl (Nat.le_of_ble_eq_true rfl) (Nat.le_of_ble_eq_true rfl) ?_
      refine wj_b (K := 66) (FIN := st_FIN) (g := (291, 725, lv, [], cb, sb)) (t := []) (A := fun h' r => wl_W E wl_H x x h' ∧ wt_K h618 h') rfl (by decide) (by decide) hL620 (fun F9 k1 => wk_m_most (FIN := F9) (gs := [bp_mf]) (by omega) hSA hL620 (Nat.le_of_ble_eq_true rfl) (fun h r a b => k1 _ _ ⟨a, b⟩)) (fun h640 r641 ⟨hL642, K644⟩ q643 => ?_)
      have hR645 := wt_RK hR623 K644
      have hQ646 := wt_q hQ624 q643
      show bh_G E st_FIN ((291, 725, lv, [.int r641], cb, sb) :: [], h640, none)
      refine bl_pop (pc' := 726) bt_291_725 rfl rfl ?_
      refine bl_go (pc' := 1452) bt_291_726 rfl ?_
      exact kk _ _ _ hL642 hR645 hQ646
    · replace k637 : ¬ (((xs (v635).toInt.toNat)).toInt = 0) := k637
      refine bl_c (pc' := 718) (n := 1) bt_291_717 rfl rfl (fun _ _ _ => rfl) (by decide) (fun c647 e648 => ?_)
      refine bl_go (pc' := 722) bt_291_718 rfl ?_
      refine bl_cv (pc' := 725) (st := []) (args := [.int c647, .int (xs (v631).toInt.toNat), .int (xs (v627).toInt.toNat)]) (c := 88) (ci := 9) bt_291_722 rfl rfl (by decide) (wl_o88 hL620) (by decide) (Nat.succ_lt_succ (Nat.zero_lt_succ _)) rfl (Nat.le_of_ble_eq_true rfl) (Nat.le_of_ble_eq_true rfl) ?_
      refine wj_b (K := 66) (FIN := st_FIN) (g := (291, 725, lv, [], cb, sb)) (t := []) (A := fun h' r => wl_W E wl_H x x h' ∧ wt_K h618 h') rfl (by decide) (by decide) hL620 (fun F9 k1 => wk_m_most (FIN := F9) (gs := [bp_mf]) (by omega) hSA hL620 (Nat.le_of_ble_eq_true rfl) (fun h r a b => k1 _ _ ⟨a, b⟩)) (fun h649 r650 ⟨hL651, K653⟩ q652 => ?_)
      have hR654 := wt_RK hR623 K653
      have hQ655 := wt_q hQ624 q652
      show bh_G E st_FIN ((291, 725, lv, [.int r650], cb, sb) :: [], h649, none)
      refine bl_pop (pc' := 726) bt_291_725 rfl rfl ?_
      refine bl_go (pc' := 1452) bt_291_726 rfl ?_
      exact kk _ _ _ hL651 hR654 hQ655
set_option maxHeartbeats 40000000 in
theorem wl_k_15 {i x : Int32} {lv : mm_V} {h : mm_H} {o : Option Value} (hST : wt_ST E) (hSA : ∀ {x y : Int32} (ρ : Nat → Int32), en_SA E ρ (wl_o x y) mt_SB) (h8 : ∃ q, E.2[8]? = some q) (hS : bl_S E b n xs) (hn : n ≤ 3072) (g0 : mm_get lv 0 = some (.ref b)) (g1 : mm_get lv 1 = some (.ref (E.1 + 0))) (g2 : mm_get lv 2 = some (.ref (E.1 + 88))) (g3 : mm_get lv 3 = some (.int i)) (hi0 : 0 ≤ i.toInt) (hi5 : i.toInt + 6 ≤ (n : Int)) (hL : wl_W E wl_H x x h) (hR : wt_R x x h) (hQ : wt_s h 2 = wt_s h 8817) (kk : ∀ (h' : mm_H) (x' : Int32) (o' : Option Value), wl_W E wl_H x' x' h' → wt_R x' x' h' → wt_s h' 2 = wt_s h' 8817 → bh_G E st_FIN ((291, 1452, lv, [], cb, sb) :: [], h', o')) : bh_G E st_FIN ((291, 729, lv, [], cb, sb) :: [], h, o) := by
  refine bl_ld (pc' := 730) bt_291_729 rfl rfl (fun _ _ _ => rfl) g1 rfl ?_
  refine bl_ld (pc' := 731) bt_291_730 rfl rfl (fun _ _ _ => rfl) g0 rfl ?_
  refine bl_ld (pc' := 732) bt_291_731 rfl rfl (fun _ _ _ => rfl) g3 rfl ?_
  refine bl_c (pc' := 733) (n := 1) bt_291_732 rfl rfl (fun _ _ _ => rfl) (by decide) (fun c656 e657 => ?_)
  refine bl_add (pc' := 734) bt_291_733 rfl (by omega) (by omega) (fun v658 e659 => ?_)
  refine bl_sc (pc' := 735) bt_291_734 rfl hS (by omega) (by omega) ?_
  refine bl_ld (pc' := 736) bt_291_735 rfl rfl (fun _ _ _ => rfl) g0 rfl ?_
  refine bl_ld (pc' := 737) bt_291_736 rfl rfl (fun _ _ _ => rfl) g3 rfl ?_
  refine bl_c (pc' := 738) (n := 2) bt_291_737 rfl rfl (fun _ _ _ => rfl) (by decide) (fun c660 e661 => ?_)
  refine bl_add (pc' := 739) bt_291_738 rfl (by omega) (by omega) (fun v662 e663 => ?_)
  refine bl_sc (pc' := 740) bt_291_739 rfl hS (by omega) (by omega) ?_
  refine bl_ld (pc' := 741) bt_291_740 rfl rfl (fun _ _ _ => rfl) g0 rfl ?_
  refine bl_ld (pc' := 742) bt_291_741 rfl rfl (fun _ _ _ => rfl) g3 rfl ?_
  refine bl_c (pc' := 743) (n := 3) bt_291_742 rfl rfl (fun _ _ _ => rfl) (by decide) (fun c664 e665 => ?_)
  refine bl_add (pc' := 744) bt_291_743 rfl (by omega) (by omega) (fun v666 e667 => ?_)
  refine bl_sc (pc' := 745) bt_291_744 rfl hS (by omega) (by omega) ?_
  refine bl_i0 (pc' := 748) (pt := 752) bt_291_745 rfl rfl (fun k668 => ?_) (fun k668 => ?_)
  · replace k668 : ((xs (v666).toInt.toNat)).toInt = 0 := k668
    refine bl_c (pc' := 753) (n := 0) bt_291_752 rfl rfl (fun _ _ _ => rfl) (by decide) (fun c669 e670 => ?_)
    refine bl_cv (pc' := 756) (st := []) (args := [.int c669, .int (xs (v662).toInt.toNat), .int (xs (v658).toInt.toNat)]) (c := 0) (ci := 8) bt_291_753 rfl rfl (by decide) (wl_o0 hL) (by decide) (Nat.succ_lt_succ (Nat.zero_lt_succ _)) rfl (Nat.le_of_ble_eq_true rfl) (Nat.le_of_ble_eq_true rfl) ?_
    refine wj_b (K := 255) (FIN := st_FIN) (g := (291, 756, lv, [], cb, sb)) (t := []) (A := fun h' r => wl_W E wl_H x x h' ∧ wt_K h h') rfl (by decide) (by decide) hL (fun F9 k1 => wk_c_risk (FIN := F9) (gs := [bp_mf]) (by omega) hSA h8 hL (Nat.le_of_ble_eq_true rfl) (fun h r a b => k1 _ _ ⟨a, b⟩)) (fun h671 r672 ⟨hL673, K675⟩ q674 => ?_)
    have hR676 := wt_RK hR K675
    have hQ677 := wt_q hQ q674
    show bh_G E st_FIN ((291, 756, lv, [.int r672], cb, sb) :: [], h671, none)
    refine bl_pop (pc' := 757) bt_291_756 rfl rfl ?_
    refine bl_ld (pc' := 758) bt_291_757 rfl rfl (fun _ _ _ => rfl) g2 rfl ?_
    refine bl_ld (pc' := 759) bt_291_758 rfl rfl (fun _ _ _ => rfl) g0 rfl ?_
    refine bl_ld (pc' := 760) bt_291_759 rfl rfl (fun _ _ _ => rfl) g3 rfl ?_
    refine bl_c (pc' := 761) (n := 1) bt_291_760 rfl rfl (fun _ _ _ => rfl) (by decide) (fun c678 e679 => ?_)
    refine bl_add (pc' := 762) bt_291_761 rfl (by omega) (by omega) (fun v680 e681 => ?_)
    refine bl_sc (pc' := 763) bt_291_762 rfl hS (by omega) (by omega) ?_
    refine bl_ld (pc' := 764) bt_291_763 rfl rfl (fun _ _ _ => rfl) g0 rfl ?_
    refine bl_ld (pc' := 765) bt_291_764 rfl rfl (fun _ _ _ => rfl) g3 rfl ?_
    refine bl_c (pc' := 766) (n := 2) bt_291_765 rfl rfl (fun _ _ _ => rfl) (by decide) (fun c682 e683 => ?_)
    refine bl_add (pc' := 767) bt_291_766 rfl (by omega) (by omega) (fun v684 e685 => ?_)
    refine bl_sc (pc' := 768) bt_291_767 rfl hS (by omega) (by omega) ?_
    refine bl_ld (pc' := 769) bt_291_768 rfl rfl (fun _ _ _ => rfl) g0 rfl ?_
    refine bl_ld (pc' := 770) bt_291_769 rfl rfl (fun _ _ _ => rfl) g3 rfl ?_
    refine bl_c (pc' := 771) (n := 3) bt_291_770 rfl rfl (fun _ _ _ => rfl) (by decide) (fun c686 e687 => ?_)
    refine bl_add (pc' := 772) bt_291_771 rfl (by omega) (by omega) (fun v688 e689 => ?_)
    refine bl_sc (pc' := 773) bt_291_772 rfl hS (by omega) (by omega) ?_
    refine bl_i0 (pc' := 776) (pt := 780) bt_291_773 rfl rfl (fun k690 => ?_) (fun k690 => ?_)
    · replace k690 : ((xs (v688).toInt.toNat)).toInt = 0 := k690
      refine bl_c (pc' := 781) (n := 0) bt_291_780 rfl rfl (fun _ _ _ => rfl) (by decide) (fun c691 e692 => ?_)
      refine bl_cv (pc' := 784) (st := []) (args := [.int c691, .int (xs (v684).toInt.toNat), .int (xs (v680).toInt.toNat)]) (c := 88) (ci := 9) bt_291_781 rfl rfl (by decide) (wl_o88 hL673) (by decide) (Nat.succ_lt_succ (Nat.zero_lt_succ _)) rfl (Nat.le_of_ble_eq_true rfl) (Nat.le_of_ble_eq_true rfl) ?_
      refine wj_b (K := 79) (FIN := st_FIN) (g := (291, 784, lv, [], cb, sb)) (t := []) (A := fun h' r => wl_W E wl_H x x h' ∧ wt_K h671 h') rfl (by decide) (by decide) hL673 (fun F9 k1 => wk_m_risk (FIN := F9) (gs := [bp_mf]) (by omega) hSA hL673 (Nat.le_of_ble_eq_true rfl) (fun h r a b => k1 _ _ ⟨a, b⟩)) (fun h693 r694 ⟨hL695, K697⟩ q696 => ?_)
      have hR698 := wt_RK hR676 K697
      have hQ699 := wt_q hQ677 q696
      show bh_G E st_FIN ((291, 784, lv, [.int r694], cb, sb) :: [], h693, none)
      refine bl_pop (pc' := 785) bt_291_784 rfl rfl ?_
      refine bl_go (pc' := 1452) bt_291_785 rfl ?_
      exact kk _ _ _ hL695 hR698 hQ699
    · replace k690 : ¬ (((xs (v688).toInt.toNat)).toInt = 0) := k690
      refine bl_c (pc' := 777) (n := 1) bt_291_776 rfl rfl (fun _ _ _ => rfl) (by decide) (fun c700 e701 => ?_)
      refine bl_go (pc' := 781) bt_291_777 rfl ?_
      refine bl_cv (pc' := 784) (st := []) (args := [.int c700, .int (xs (v684).toInt.toNat), .int (xs (v680).toInt.toNat)]) (c := 88) (ci := 9) bt_291_781 rfl rfl (by decide) (wl_o88 hL673) (by decide) (Nat.succ_lt_succ (Nat.zero_lt_succ _)) rfl (Nat.le_of_ble_eq_true rfl) (Nat.le_of_ble_eq_true rfl) ?_
      refine wj_b (K := 79) (FIN := st_FIN) (g := (291, 784, lv, [], cb, sb)) (t := []) (A := fun h' r => wl_W E wl_H x x h' ∧ wt_K h671 h') rfl (by decide) (by decide) hL673 (fun F9 k1 => wk_m_risk (FIN := F9) (gs := [bp_mf]) (by omega) hSA hL673 (Nat.le_of_ble_eq_true rfl) (fun h r a b => k1 _ _ ⟨a, b⟩)) (fun h702 r703 ⟨hL704, K706⟩ q705 => ?_)
      have hR707 := wt_RK hR676 K706
      have hQ708 := wt_q hQ677 q705
      show bh_G E st_FIN ((291, 784, lv, [.int r703], cb, sb) :: [], h702, none)
      refine bl_pop (pc' := 785) bt_291_784 rfl rfl ?_
      refine bl_go (pc' := 1452) bt_291_785 rfl ?_
      exact kk _ _ _ hL704 hR707 hQ708
  · replace k668 : ¬ (((xs (v666).toInt.toNat)).toInt = 0) := k668
    refine bl_c (pc' := 749) (n := 1) bt_291_748 rfl rfl (fun _ _ _ => rfl) (by decide) (fun c709 e710 => ?_)
    refine bl_go (pc' := 753) bt_291_749 rfl ?_
    refine bl_cv (pc' := 756) (st := []) (args := [.int c709, .int (xs (v662).toInt.toNat), .int (xs (v658).toInt.toNat)]) (c := 0) (ci := 8) bt_291_753 rfl rfl (by decide) (wl_o0 hL) (by decide) (Nat.succ_lt_succ (Nat.zero_lt_succ _)) rfl (Nat.le_of_ble_eq_true rfl) (Nat.le_of_ble_eq_true rfl) ?_
    refine wj_b (K := 255) (FIN := st_FIN) (g := (291, 756, lv, [], cb, sb)) (t := []) (A := fun h' r => wl_W E wl_H x x h' ∧ wt_K h h') rfl (by decide) (by decide) hL (fun F9 k1 => wk_c_risk (FIN := F9) (gs := [bp_mf]) (by omega) hSA h8 hL (Nat.le_of_ble_eq_true rfl) (fun h r a b => k1 _ _ ⟨a, b⟩)) (fun h711 r712 ⟨hL713, K715⟩ q714 => ?_)
    have hR716 := wt_RK hR K715
    have hQ717 := wt_q hQ q714
    show bh_G E st_FIN ((291, 756, lv, [.int r712], cb, sb) :: [], h711, none)
    refine bl_pop (pc' := 757) bt_291_756 rfl rfl ?_
    refine bl_ld (pc' := 758) bt_291_757 rfl rfl (fun _ _ _ => rfl) g2 rfl ?_
    refine bl_ld (pc' := 759) bt_291_758 rfl rfl (fun _ _ _ => rfl) g0 rfl ?_
    refine bl_ld (pc' := 760) bt_291_759 rfl rfl (fun _ _ _ => rfl) g3 rfl ?_
    refine bl_c (pc' := 761) (n := 1) bt_291_760 rfl rfl (fun _ _ _ => rfl) (by decide) (fun c718 e719 => ?_)
    refine bl_add (pc' := 762) bt_291_761 rfl (by omega) (by omega) (fun v720 e721 => ?_)
    refine bl_sc (pc' := 763) bt_291_762 rfl hS (by omega) (by omega) ?_
    refine bl_ld (pc' := 764) bt_291_763 rfl rfl (fun _ _ _ => rfl) g0 rfl ?_
    refine bl_ld (pc' := 765) bt_291_764 rfl rfl (fun _ _ _ => rfl) g3 rfl ?_
    refine bl_c (pc' := 766) (n := 2) bt_291_765 rfl rfl (fun _ _ _ => rfl) (by decide) (fun c722 e723 => ?_)
    refine bl_add (pc' := 767) bt_291_766 rfl (by omega) (by omega) (fun v724 e725 => ?_)
    refine bl_sc (pc' := 768) bt_291_767 rfl hS (by omega) (by omega) ?_
    refine bl_ld (pc' := 769) bt_291_768 rfl rfl (fun _ _ _ => rfl) g0 rfl ?_
    refine bl_ld (pc' := 770) bt_291_769 rfl rfl (fun _ _ _ => rfl) g3 rfl ?_
    refine bl_c (pc' := 771) (n := 3) bt_291_770 rfl rfl (fun _ _ _ => rfl) (by decide) (fun c726 e727 => ?_)
    refine bl_add (pc' := 772) bt_291_771 rfl (by omega) (by omega) (fun v728 e729 => ?_)
    refine bl_sc (pc' := 773) bt_291_772 rfl hS (by omega) (by omega) ?_
    refine bl_i0 (pc' := 776) (pt := 780) bt_291_773 rfl rfl (fun k730 => ?_) (fun k730 => ?_)
    · replace k730 : ((xs (v728).toInt.toNat)).toInt = 0 := k730
      refine bl_c (pc' := 781) (n := 0) bt_291_780 rfl rfl (fun _ _ _ => rfl) (by decide) (fun c731 e732 => ?_)
      refine bl_cv (pc' := 784) (st := []) (args := [.int c731, .int (xs (v724).toInt.toNat), .int (xs (v720).toInt.toNat)]) (c := 88) (ci := 9) bt_291_781 rfl rfl (by decide) (wl_o88 hL713) (by decide) (Nat.succ_lt_succ (Nat.zero_lt_succ _)) rfl (Nat.le_of_ble_eq_true rfl) (Nat.le_of_ble_eq_true rfl) ?_
      refine wj_b (K := 79) (FIN := st_FIN) (g := (291, 784, lv, [], cb, sb)) (t := []) (A := fun h' r => wl_W E wl_H x x h' ∧ wt_K h711 h') rfl (by decide) (by decide) hL713 (fun F9 k1 => wk_m_risk (FIN := F9) (gs := [bp_mf]) (by omega) hSA hL713 (Nat.le_of_ble_eq_true rfl) (fun h r a b => k1 _ _ ⟨a, b⟩)) (fun h733 r734 ⟨hL735, K737⟩ q736 => ?_)
      have hR738 := wt_RK hR716 K737
      have hQ739 := wt_q hQ717 q736
      show bh_G E st_FIN ((291, 784, lv, [.int r734], cb, sb) :: [], h733, none)
      refine bl_pop (pc' := 785) bt_291_784 rfl rfl ?_
      refine bl_go (pc' := 1452) bt_291_785 rfl ?_
      exact kk _ _ _ hL735 hR738 hQ739
    · replace k730 : ¬ (((xs (v728).toInt.toNat)).toInt = 0) := k730
      refine bl_c (pc' := 777) (n := 1) bt_291_776 rfl rfl (fun _ _ _ => rfl) (by decide) (fun c740 e741 => ?_)
      refine bl_go (pc' := 781) bt_291_777 rfl ?_
      refine bl_cv (pc' := 784) (st := []) (args := [.int c740, .int (xs (v724).toInt.toNat), .int (xs (v720).toInt.toNat)]) (c := 88) (ci := 9) bt_291_781 rfl rfl (by decide) (wl_o88 hL713) (by decide) (Nat.succ_lt_succ (Nat.zero_lt_succ _)) rfl (Nat.le_of_ble_eq_true rfl) (Nat.le_of_ble_eq_true rfl) ?_
      refine wj_b (K := 79) (FIN := st_FIN) (g := (291, 784, lv, [], cb, sb)) (t := []) (A := fun h' r => wl_W E wl_H x x h' ∧ wt_K h711 h') rfl (by decide) (by decide) hL713 (fun F9 k1 => wk_m_risk (FIN := F9) (gs := [bp_mf]) (by omega) hSA hL713 (Nat.le_of_ble_eq_true rfl) (fun h r a b => k1 _ _ ⟨a, b⟩)) (fun h742 r743 ⟨hL744, K746⟩ q745 => ?_)
      have hR747 := wt_RK hR716 K746
      have hQ748 := wt_q hQ717 q745
      show bh_G E st_FIN ((291, 784, lv, [.int r743], cb, sb) :: [], h742, none)
      refine bl_pop (pc' := 785) bt_291_784 rfl rfl ?_
      refine bl_go (pc' := 1452) bt_291_785 rfl ?_
      exact kk _ _ _ hL744 hR747 hQ748
set_option maxHeartbeats 40000000 in
theorem wl_k_16 {i x : Int32} {lv : mm_V} {h : mm_H} {o : Option Value} (hST : wt_ST E) (hSA : ∀ {x y : Int32} (ρ : Nat → Int32), en_SA E ρ (wl_o x y) mt_SB) (h8 : ∃ q, E.2[8]? = some q) (hS : bl_S E b n xs) (hn : n ≤ 3072) (g0 : mm_get lv 0 = some (.ref b)) (g1 : mm_get lv 1 = some (.ref (E.1 + 0))) (g2 : mm_get lv 2 = some (.ref (E.1 + 88))) (g3 : mm_get lv 3 = some (.int i)) (hi0 : 0 ≤ i.toInt) (hi5 : i.toInt + 6 ≤ (n : Int)) (hL : wl_W E wl_H x x h) (hR : wt_R x x h) (hQ : wt_s h 2 = wt_s h 8817) (kk : ∀ (h' : mm_H) (x' : Int32) (o' : Option Value), wl_W E wl_H x' x' h' → wt_R x' x' h' → wt_s h' 2 = wt_s h' 8817 → bh_G E st_FIN ((291, 1452, lv, [], cb, sb) :: [], h', o')) : bh_G E st_FIN ((291, 788, lv, [], cb, sb) :: [], h, o) := by
  refine bl_ld (pc' := 789) bt_291_788 rfl rfl (fun _ _ _ => rfl) g1 rfl ?_
  refine bl_ld (pc' := 790) bt_291_789 rfl rfl (fun _ _ _ => rfl) g0 rfl ?_
  refine bl_ld (pc' := 791) bt_291_790 rfl rfl (fun _ _ _ => rfl) g3 rfl ?_
  refine bl_c (pc' := 792) (n := 1) bt_291_791 rfl rfl (fun _ _ _ => rfl) (by decide) (fun c749 e750 => ?_)
  refine bl_add (pc' := 793) bt_291_792 rfl (by omega) (by omega) (fun v751 e752 => ?_)
  refine bl_sc (pc' := 794) bt_291_793 rfl hS (by omega) (by omega) ?_
  refine bl_ld (pc' := 795) bt_291_794 rfl rfl (fun _ _ _ => rfl) g0 rfl ?_
  refine bl_ld (pc' := 796) bt_291_795 rfl rfl (fun _ _ _ => rfl) g3 rfl ?_
  refine bl_c (pc' := 797) (n := 2) bt_291_796 rfl rfl (fun _ _ _ => rfl) (by decide) (fun c753 e754 => ?_)
  refine bl_add (pc' := 798) bt_291_797 rfl (by omega) (by omega) (fun v755 e756 => ?_)
  refine bl_sc (pc' := 799) bt_291_798 rfl hS (by omega) (by omega) ?_
  refine bl_cv (pc' := 802) (st := []) (args := [.int (xs (v755).toInt.toNat), .int (xs (v751).toInt.toNat)]) (c := 0) (ci := 8) bt_291_799 rfl rfl (by decide) (wl_o0 hL) (by decide) (Nat.succ_lt_succ (Nat.zero_lt_succ _)) rfl (Nat.le_of_ble_eq_true rfl) (Nat.le_of_ble_eq_true rfl) ?_
  refine wj_b (K := 258) (FIN := st_FIN) (g := (291, 802, lv, [], cb, sb)) (t := []) (A := fun h' r => wl_W E wl_H x x h' ∧ wt_K h h') rfl (by decide) (by decide) hL (fun F9 k1 => wk_c_safest (FIN := F9) (gs := [bp_mf]) hSA h8 hL (Nat.le_of_ble_eq_true rfl) (fun h r a b => k1 _ _ ⟨a, b⟩)) (fun h757 r758 ⟨hL759, K761⟩ q760 => ?_)
  have hR762 := wt_RK hR K761
  have hQ763 := wt_q hQ q760
  show bh_G E st_FIN ((291, 802, lv, [.int r758], cb, sb) :: [], h757, none)
  refine bl_pop (pc' := 803) bt_291_802 rfl rfl ?_
  refine bl_ld (pc' := 804) bt_291_803 rfl rfl (fun _ _ _ => rfl) g2 rfl ?_
  refine bl_ld (pc' := 805) bt_291_804 rfl rfl (fun _ _ _ => rfl) g0 rfl ?_
  refine bl_ld (pc' := 806) bt_291_805 rfl rfl (fun _ _ _ => rfl) g3 rfl ?_
  refine bl_c (pc' := 807) (n := 1) bt_291_806 rfl rfl (fun _ _ _ => rfl) (by decide) (fun c764 e765 => ?_)
  refine bl_add (pc' := 808) bt_291_807 rfl (by omega) (by omega) (fun v766 e767 => ?_)
  refine bl_sc (pc' := 809) bt_291_808 rfl hS (by omega) (by omega) ?_
  refine bl_ld (pc' := 810) bt_291_809 rfl rfl (fun _ _ _ => rfl) g0 rfl ?_
  refine bl_ld (pc' := 811) bt_291_810 rfl rfl (fun _ _ _ => rfl) g3 rfl ?_
  refine bl_c (pc' := 812) (n := 2) bt_291_811 rfl rfl (fun _ _ _ => rfl) (by decide) (fun c768 e769 => ?_)
  refine bl_add (pc' := 813) bt_291_812 rfl (by omega) (by omega) (fun v770 e771 => ?_)
  refine bl_sc (pc' := 814) bt_291_813 rfl hS (by omega) (by omega) ?_
  refine bl_cv (pc' := 817) (st := []) (args := [.int (xs (v770).toInt.toNat), .int (xs (v766).toInt.toNat)]) (c := 88) (ci := 9) bt_291_814 rfl rfl (by decide) (wl_o88 hL759) (by decide) (Nat.succ_lt_succ (Nat.zero_lt_succ _)) rfl (Nat.le_of_ble_eq_true rfl) (Nat.le_of_ble_eq_true rfl) ?_
  refine wj_b (K := 84) (FIN := st_FIN) (g := (291, 817, lv, [], cb, sb)) (t := []) (A := fun h' r => wl_W E wl_H x x h' ∧ wt_K h757 h') rfl (by decide) (by decide) hL759 (fun F9 k1 => wk_m_safest (FIN := F9) (gs := [bp_mf]) hSA hL759 (Nat.le_of_ble_eq_true rfl) (fun h r a b => k1 _ _ ⟨a, b⟩)) (fun h772 r773 ⟨hL774, K776⟩ q775 => ?_)
  have hR777 := wt_RK hR762 K776
  have hQ778 := wt_q hQ763 q775
  show bh_G E st_FIN ((291, 817, lv, [.int r773], cb, sb) :: [], h772, none)
  refine bl_pop (pc' := 818) bt_291_817 rfl rfl ?_
  refine bl_go (pc' := 1452) bt_291_818 rfl ?_
  exact kk _ _ _ hL774 hR777 hQ778
set_option maxHeartbeats 40000000 in
theorem wl_k_17 {i x : Int32} {lv : mm_V} {h : mm_H} {o : Option Value} (hST : wt_ST E) (hSA : ∀ {x y : Int32} (ρ : Nat → Int32), en_SA E ρ (wl_o x y) mt_SB) (h8 : ∃ q, E.2[8]? = some q) (hS : bl_S E b n xs) (hn : n ≤ 3072) (g0 : mm_get lv 0 = some (.ref b)) (g1 : mm_get lv 1 = some (.ref (E.1 + 0))) (g2 : mm_get lv 2 = some (.ref (E.1 + 88))) (g3 : mm_get lv 3 = some (.int i)) (hi0 : 0 ≤ i.toInt) (hi5 : i.toInt + 6 ≤ (n : Int)) (hL : wl_W E wl_H x x h) (hR : wt_R x x h) (hQ : wt_s h 2 = wt_s h 8817) (kk : ∀ (h' : mm_H) (x' : Int32) (o' : Option Value), wl_W E wl_H x' x' h' → wt_R x' x' h' → wt_s h' 2 = wt_s h' 8817 → bh_G E st_FIN ((291, 1452, lv, [], cb, sb) :: [], h', o')) : bh_G E st_FIN ((291, 821, lv, [], cb, sb) :: [], h, o) := by
  refine bl_ld (pc' := 822) bt_291_821 rfl rfl (fun _ _ _ => rfl) g1 rfl ?_
  refine bl_ld (pc' := 823) bt_291_822 rfl rfl (fun _ _ _ => rfl) g0 rfl ?_
  refine bl_ld (pc' := 824) bt_291_823 rfl rfl (fun _ _ _ => rfl) g3 rfl ?_
  refine bl_c (pc' := 825) (n := 1) bt_291_824 rfl rfl (fun _ _ _ => rfl) (by decide) (fun c779 e780 => ?_)
  refine bl_add (pc' := 826) bt_291_825 rfl (by omega) (by omega) (fun v781 e782 => ?_)
  refine bl_sc (pc' := 827) bt_291_826 rfl hS (by omega) (by omega) ?_
  refine bl_ld (pc' := 828) bt_291_827 rfl rfl (fun _ _ _ => rfl) g0 rfl ?_
  refine bl_ld (pc' := 829) bt_291_828 rfl rfl (fun _ _ _ => rfl) g3 rfl ?_
  refine bl_c (pc' := 830) (n := 2) bt_291_829 rfl rfl (fun _ _ _ => rfl) (by decide) (fun c783 e784 => ?_)
  refine bl_add (pc' := 831) bt_291_830 rfl (by omega) (by omega) (fun v785 e786 => ?_)
  refine bl_sc (pc' := 832) bt_291_831 rfl hS (by omega) (by omega) ?_
  refine bl_i0 (pc' := 835) (pt := 839) bt_291_832 rfl rfl (fun k787 => ?_) (fun k787 => ?_)
  · replace k787 : ((xs (v785).toInt.toNat)).toInt = 0 := k787
    refine bl_c (pc' := 840) (n := 0) bt_291_839 rfl rfl (fun _ _ _ => rfl) (by decide) (fun c788 e789 => ?_)
    refine bl_cv (pc' := 843) (st := []) (args := [.int c788, .int (xs (v781).toInt.toNat)]) (c := 0) (ci := 8) bt_291_840 rfl rfl (by decide) (wl_o0 hL) (by decide) (Nat.succ_lt_succ (Nat.zero_lt_succ _)) rfl (Nat.le_of_ble_eq_true rfl) (Nat.le_of_ble_eq_true rfl) ?_
    refine wj_b (K := 257) (FIN := st_FIN) (g := (291, 843, lv, [], cb, sb)) (t := []) (A := fun h' r => wl_W E wl_H x x h' ∧ wt_K h h') rfl (by decide) (by decide) hL (fun F9 k1 => wk_c_safe (FIN := F9) (gs := [bp_mf]) (by omega) hSA h8 hL (Nat.le_of_ble_eq_true rfl) (fun h r a b => k1 _ _ ⟨a, b⟩)) (fun h790 r791 ⟨hL792, K794⟩ q793 => ?_)
    have hR795 := wt_RK hR K794
    have hQ796 := wt_q hQ q793
    show bh_G E st_FIN ((291, 843, lv, [.int r791], cb, sb) :: [], h790, none)
    refine bl_pop (pc' := 844) bt_291_843 rfl rfl ?_
    refine bl_ld (pc' := 845) bt_291_844 rfl rfl (fun _ _ _ => rfl) g2 rfl ?_
    refine bl_ld (pc' := 846) bt_291_845 rfl rfl (fun _ _ _ => rfl) g0 rfl ?_
    refine bl_ld (pc' := 847) bt_291_846 rfl rfl (fun _ _ _ => rfl) g3 rfl ?_
    refine bl_c (pc' := 848) (n := 1) bt_291_847 rfl rfl (fun _ _ _ => rfl) (by decide) (fun c797 e798 => ?_)
    refine bl_add (pc' := 849) bt_291_848 rfl (by omega) (by omega) (fun v799 e800 => ?_)
    refine bl_sc (pc' := 850) bt_291_849 rfl hS (by omega) (by omega) ?_
    refine bl_ld (pc' := 851) bt_291_850 rfl rfl (fun _ _ _ => rfl) g0 rfl ?_
    refine bl_ld (pc' := 852) bt_291_851 rfl rfl (fun _ _ _ => rfl) g3 rfl ?_
    refine bl_c (pc' := 853) (n := 2) bt_291_852 rfl rfl (fun _ _ _ => rfl) (by decide) (fun c801 e802 => ?_)
    refine bl_add (pc' := 854) bt_291_853 rfl (by omega) (by omega) (fun v803 e804 => ?_)
    refine bl_sc (pc' := 855) bt_291_854 rfl hS (by omega) (by omega) ?_
    refine bl_i0 (pc' := 858) (pt := 862) bt_291_855 rfl rfl (fun k805 => ?_) (fun k805 => ?_)
    · replace k805 : ((xs (v803).toInt.toNat)).toInt = 0 := k805
      refine bl_c (pc' := 863) (n := 0) bt_291_862 rfl rfl (fun _ _ _ => rfl) (by decide) (fun c806 e807 => ?_)
      refine bl_cv (pc' := 866) (st := []) (args := [.int c806, .int (xs (v799).toInt.toNat)]) (c := 88) (ci := 9) bt_291_863 rfl rfl (by decide) (wl_o88 hL792) (by decide) (Nat.succ_lt_succ (Nat.zero_lt_succ _)) rfl (Nat.le_of_ble_eq_true rfl) (Nat.le_of_ble_eq_true rfl) ?_
      refine wj_b (K := 81) (FIN := st_FIN) (g := (291, 866, lv, [], cb, sb)) (t := []) (A := fun h' r => wl_W E wl_H x x h' ∧ wt_K h790 h') rfl (by decide) (by decide) hL792 (fun F9 k1 => wk_m_safe (FIN := F9) (gs := [bp_mf]) (by omega) hSA hL792 (Nat.le_of_ble_eq_true rfl) (fun h r a b => k1 _ _ ⟨a, b⟩)) (fun h808 r809 ⟨hL810, K812⟩ q811 => ?_)
      have hR813 := wt_RK hR795 K812
      have hQ814 := wt_q hQ796 q811
      show bh_G E st_FIN ((291, 866, lv, [.int r809], cb, sb) :: [], h808, none)
      refine bl_pop (pc' := 867) bt_291_866 rfl rfl ?_
      refine bl_go (pc' := 1452) bt_291_867 rfl ?_
      exact kk _ _ _ hL810 hR813 hQ814
    · replace k805 : ¬ (((xs (v803).toInt.toNat)).toInt = 0) := k805
      refine bl_c (pc' := 859) (n := 1) bt_291_858 rfl rfl (fun _ _ _ => rfl) (by decide) (fun c815 e816 => ?_)
      refine bl_go (pc' := 863) bt_291_859 rfl ?_
      refine bl_cv (pc' := 866) (st := []) (args := [.int c815, .int (xs (v799).toInt.toNat)]) (c := 88) (ci := 9) bt_291_863 rfl rfl (by decide) (wl_o88 hL792) (by decide) (Nat.succ_lt_succ (Nat.zero_lt_succ _)) rfl (Nat.le_of_ble_eq_true rfl) (Nat.le_of_ble_eq_true rfl) ?_
      refine wj_b (K := 81) (FIN := st_FIN) (g := (291, 866, lv, [], cb, sb)) (t := []) (A := fun h' r => wl_W E wl_H x x h' ∧ wt_K h790 h') rfl (by decide) (by decide) hL792 (fun F9 k1 => wk_m_safe (FIN := F9) (gs := [bp_mf]) (by omega) hSA hL792 (Nat.le_of_ble_eq_true rfl) (fun h r a b => k1 _ _ ⟨a, b⟩)) (fun h817 r818 ⟨hL819, K821⟩ q820 => ?_)
      have hR822 := wt_RK hR795 K821
      have hQ823 := wt_q hQ796 q820
      show bh_G E st_FIN ((291, 866, lv, [.int r818], cb, sb) :: [], h817, none)
      refine bl_pop (pc' := 867) bt_291_866 rfl rfl ?_
      refine bl_go (pc' := 1452) bt_291_867 rfl ?_
      exact kk _ _ _ hL819 hR822 hQ823
  · replace k787 : ¬ (((xs (v785).toInt.toNat)).toInt = 0) := k787
    refine bl_c (pc' := 836) (n := 1) bt_291_835 rfl rfl (fun _ _ _ => rfl) (by decide) (fun c824 e825 => ?_)
    refine bl_go (pc' := 840) bt_291_836 rfl ?_
    refine bl_cv (pc' := 843) (st := []) (args := [.int c824, .int (xs (v781).toInt.toNat)]) (c := 0) (ci := 8) bt_291_840 rfl rfl (by decide) (wl_o0 hL) (by decide) (Nat.succ_lt_succ (Nat.zero_lt_succ _)) rfl (Nat.le_of_ble_eq_true rfl) (Nat.le_of_ble_eq_true rfl) ?_
    refine wj_b (K := 257) (FIN := st_FIN) (g := (291, 843, lv, [], cb, sb)) (t := []) (A := fun h' r => wl_W E wl_H x x h' ∧ wt_K h h') rfl (by decide) (by decide) hL (fun F9 k1 => wk_c_safe (FIN := F9) (gs := [bp_mf]) (by omega) hSA h8 hL (Nat.le_of_ble_eq_true rfl) (fun h r a b => k1 _ _ ⟨a, b⟩)) (fun h826 r827 ⟨hL828, K830⟩ q829 => ?_)
    have hR831 := wt_RK hR K830
    have hQ832 := wt_q hQ q829
    show bh_G E st_FIN ((291, 843, lv, [.int r827], cb, sb) :: [], h826, none)
    refine bl_pop (pc' := 844) bt_291_843 rfl rfl ?_
    refine bl_ld (pc' := 845) bt_291_844 rfl rfl (fun _ _ _ => rfl) g2 rfl ?_
    refine bl_ld (pc' := 846) bt_291_845 rfl rfl (fun _ _ _ => rfl) g0 rfl ?_
    refine bl_ld (pc' := 847) bt_291_846 rfl rfl (fun _ _ _ => rfl) g3 rfl ?_
    refine bl_c (pc' := 848) (n := 1) bt_291_847 rfl rfl (fun _ _ _ => rfl) (by decide) (fun c833 e834 => ?_)
    refine bl_add (pc' := 849) bt_291_848 rfl (by omega) (by omega) (fun v835 e836 => ?_)
    refine bl_sc (pc' := 850) bt_291_849 rfl hS (by omega) (by omega) ?_
    refine bl_ld (pc' := 851) bt_291_850 rfl rfl (fun _ _ _ => rfl) g0 rfl ?_
    refine bl_ld (pc' := 852) bt_291_851 rfl rfl (fun _ _ _ => rfl) g3 rfl ?_
    refine bl_c (pc' := 853) (n := 2) bt_291_852 rfl rfl (fun _ _ _ => rfl) (by decide) (fun c837 e838 => ?_)
    refine bl_add (pc' := 854) bt_291_853 rfl (by omega) (by omega) (fun v839 e840 => ?_)
    refine bl_sc (pc' := 855) bt_291_854 rfl hS (by omega) (by omega) ?_
    refine bl_i0 (pc' := 858) (pt := 862) bt_291_855 rfl rfl (fun k841 => ?_) (fun k841 => ?_)
    · replace k841 : ((xs (v839).toInt.toNat)).toInt = 0 := k841
      refine bl_c (pc' := 863) (n := 0) bt_291_862 rfl rfl (fun _ _ _ => rfl) (by decide) (fun c842 e843 => ?_)
      refine bl_cv (pc' := 866) (st := []) (args := [.int c842, .int (xs (v835).toInt.toNat)]) (c := 88) (ci := 9) bt_291_863 rfl rfl (by decide) (wl_o88 hL828) (by decide) (Nat.succ_lt_succ (Nat.zero_lt_succ _)) rfl (Nat.le_of_ble_eq_true rfl) (Nat.le_of_ble_eq_true rfl) ?_
      refine wj_b (K := 81) (FIN := st_FIN) (g := (291, 866, lv, [], cb, sb)) (t := []) (A := fun h' r => wl_W E wl_H x x h' ∧ wt_K h826 h') rfl (by decide) (by decide) hL828 (fun F9 k1 => wk_m_safe (FIN := F9) (gs := [bp_mf]) (by omega) hSA hL828 (Nat.le_of_ble_eq_true rfl) (fun h r a b => k1 _ _ ⟨a, b⟩)) (fun h844 r845 ⟨hL846, K848⟩ q847 => ?_)
      have hR849 := wt_RK hR831 K848
      have hQ850 := wt_q hQ832 q847
      show bh_G E st_FIN ((291, 866, lv, [.int r845], cb, sb) :: [], h844, none)
      refine bl_pop (pc' := 867) bt_291_866 rfl rfl ?_
      refine bl_go (pc' := 1452) bt_291_867 rfl ?_
      exact kk _ _ _ hL846 hR849 hQ850
    · replace k841 : ¬ (((xs (v839).toInt.toNat)).toInt = 0) := k841
      refine bl_c (pc' := 859) (n := 1) bt_291_858 rfl rfl (fun _ _ _ => rfl) (by decide) (fun c851 e852 => ?_)
      refine bl_go (pc' := 863) bt_291_859 rfl ?_
      refine bl_cv (pc' := 866) (st := []) (args := [.int c851, .int (xs (v835).toInt.toNat)]) (c := 88) (ci := 9) bt_291_863 rfl rfl (by decide) (wl_o88 hL828) (by decide) (Nat.succ_lt_succ (Nat.zero_lt_succ _)) rfl (Nat.le_of_ble_eq_true rfl) (Nat.le_of_ble_eq_true rfl) ?_
      refine wj_b (K := 81) (FIN := st_FIN) (g := (291, 866, lv, [], cb, sb)) (t := []) (A := fun h' r => wl_W E wl_H x x h' ∧ wt_K h826 h') rfl (by decide) (by decide) hL828 (fun F9 k1 => wk_m_safe (FIN := F9) (gs := [bp_mf]) (by omega) hSA hL828 (Nat.le_of_ble_eq_true rfl) (fun h r a b => k1 _ _ ⟨a, b⟩)) (fun h853 r854 ⟨hL855, K857⟩ q856 => ?_)
      have hR858 := wt_RK hR831 K857
      have hQ859 := wt_q hQ832 q856
      show bh_G E st_FIN ((291, 866, lv, [.int r854], cb, sb) :: [], h853, none)
      refine bl_pop (pc' := 867) bt_291_866 rfl rfl ?_
      refine bl_go (pc' := 1452) bt_291_867 rfl ?_
      exact kk _ _ _ hL855 hR858 hQ859
set_option maxHeartbeats 40000000 in
theorem wl_k_18 {i x : Int32} {lv : mm_V} {h : mm_H} {o : Option Value} (hST : wt_ST E) (hSA : ∀ {x y : Int32} (ρ : Nat → Int32), en_SA E ρ (wl_o x y) mt_SB) (h8 : ∃ q, E.2[8]? = some q) (hS : bl_S E b n xs) (hn : n ≤ 3072) (g0 : mm_get lv 0 = some (.ref b)) (g1 : mm_get lv 1 = some (.ref (E.1 + 0))) (g2 : mm_get lv 2 = some (.ref (E.1 + 88))) (g3 : mm_get lv 3 = some (.int i)) (hi0 : 0 ≤ i.toInt) (hi5 : i.toInt + 6 ≤ (n : Int)) (hL : wl_W E wl_H x x h) (hR : wt_R x x h) (hQ : wt_s h 2 = wt_s h 8817) (kk : ∀ (h' : mm_H) (x' : Int32) (o' : Option Value), wl_W E wl_H x' x' h' → wt_R x' x' h' → wt_s h' 2 = wt_s h' 8817 → bh_G E st_FIN ((291, 1452, lv, [], cb, sb) :: [], h', o')) : bh_G E st_FIN ((291, 870, lv, [], cb, sb) :: [], h, o) := by
  refine bl_ld (pc' := 871) bt_291_870 rfl rfl (fun _ _ _ => rfl) g1 rfl ?_
  refine bl_ld (pc' := 872) bt_291_871 rfl rfl (fun _ _ _ => rfl) g0 rfl ?_
  refine bl_ld (pc' := 873) bt_291_872 rfl rfl (fun _ _ _ => rfl) g3 rfl ?_
  refine bl_c (pc' := 874) (n := 1) bt_291_873 rfl rfl (fun _ _ _ => rfl) (by decide) (fun c860 e861 => ?_)
  refine bl_add (pc' := 875) bt_291_874 rfl (by omega) (by omega) (fun v862 e863 => ?_)
  refine bl_sc (pc' := 876) bt_291_875 rfl hS (by omega) (by omega) ?_
  refine bl_cv (pc' := 879) (st := []) (args := [.int (xs (v862).toInt.toNat)]) (c := 0) (ci := 8) bt_291_876 rfl rfl (by decide) (wl_o0 hL) (by decide) (Nat.succ_lt_succ (Nat.zero_lt_succ _)) rfl (Nat.le_of_ble_eq_true rfl) (Nat.le_of_ble_eq_true rfl) ?_
  refine wj_b (K := 256) (FIN := st_FIN) (g := (291, 879, lv, [], cb, sb)) (t := []) (A := fun h' r => wl_W E wl_H x x h' ∧ wt_K h h') rfl (by decide) (by decide) hL (fun F9 k1 => wk_c_roster (FIN := F9) (gs := [bp_mf]) hSA h8 hL (Nat.le_of_ble_eq_true rfl) (fun h r a b => k1 _ _ ⟨a, b⟩)) (fun h864 r865 ⟨hL866, K868⟩ q867 => ?_)
  have hR869 := wt_RK hR K868
  have hQ870 := wt_q hQ q867
  show bh_G E st_FIN ((291, 879, lv, [.int r865], cb, sb) :: [], h864, none)
  refine bl_pop (pc' := 880) bt_291_879 rfl rfl ?_
  refine bl_ld (pc' := 881) bt_291_880 rfl rfl (fun _ _ _ => rfl) g2 rfl ?_
  refine bl_ld (pc' := 882) bt_291_881 rfl rfl (fun _ _ _ => rfl) g0 rfl ?_
  refine bl_ld (pc' := 883) bt_291_882 rfl rfl (fun _ _ _ => rfl) g3 rfl ?_
  refine bl_c (pc' := 884) (n := 1) bt_291_883 rfl rfl (fun _ _ _ => rfl) (by decide) (fun c871 e872 => ?_)
  refine bl_add (pc' := 885) bt_291_884 rfl (by omega) (by omega) (fun v873 e874 => ?_)
  refine bl_sc (pc' := 886) bt_291_885 rfl hS (by omega) (by omega) ?_
  refine bl_cv (pc' := 889) (st := []) (args := [.int (xs (v873).toInt.toNat)]) (c := 88) (ci := 9) bt_291_886 rfl rfl (by decide) (wl_o88 hL866) (by decide) (Nat.succ_lt_succ (Nat.zero_lt_succ _)) rfl (Nat.le_of_ble_eq_true rfl) (Nat.le_of_ble_eq_true rfl) ?_
  refine wj_b (K := 80) (FIN := st_FIN) (g := (291, 889, lv, [], cb, sb)) (t := []) (A := fun h' r => wl_W E wl_H x x h' ∧ wt_K h864 h') rfl (by decide) (by decide) hL866 (fun F9 k1 => wk_m_roster (FIN := F9) (gs := [bp_mf]) hSA hL866 (Nat.le_of_ble_eq_true rfl) (fun h r a b => k1 _ _ ⟨a, b⟩)) (fun h875 r876 ⟨hL877, K879⟩ q878 => ?_)
  have hR880 := wt_RK hR869 K879
  have hQ881 := wt_q hQ870 q878
  show bh_G E st_FIN ((291, 889, lv, [.int r876], cb, sb) :: [], h875, none)
  refine bl_pop (pc' := 890) bt_291_889 rfl rfl ?_
  refine bl_go (pc' := 1452) bt_291_890 rfl ?_
  exact kk _ _ _ hL877 hR880 hQ881
set_option maxHeartbeats 40000000 in
theorem wl_k_19 {i x : Int32} {lv : mm_V} {h : mm_H} {o : Option Value} (hST : wt_ST E) (hSA : ∀ {x y : Int32} (ρ : Nat → Int32), en_SA E ρ (wl_o x y) mt_SB) (h8 : ∃ q, E.2[8]? = some q) (hS : bl_S E b n xs) (hn : n ≤ 3072) (g0 : mm_get lv 0 = some (.ref b)) (g1 : mm_get lv 1 = some (.ref (E.1 + 0))) (g2 : mm_get lv 2 = some (.ref (E.1 + 88))) (g3 : mm_get lv 3 = some (.int i)) (hi0 : 0 ≤ i.toInt) (hi5 : i.toInt + 6 ≤ (n : Int)) (hL : wl_W E wl_H x x h) (hR : wt_R x x h) (hQ : wt_s h 2 = wt_s h 8817) (kk : ∀ (h' : mm_H) (x' : Int32) (o' : Option Value), wl_W E wl_H x' x' h' → wt_R x' x' h' → wt_s h' 2 = wt_s h' 8817 → bh_G E st_FIN ((291, 1452, lv, [], cb, sb) :: [], h', o')) : bh_G E st_FIN ((291, 893, lv, [], cb, sb) :: [], h, o) := by
  refine bl_ld (pc' := 894) bt_291_893 rfl rfl (fun _ _ _ => rfl) g1 rfl ?_
  refine bl_ld (pc' := 895) bt_291_894 rfl rfl (fun _ _ _ => rfl) g0 rfl ?_
  refine bl_ld (pc' := 896) bt_291_895 rfl rfl (fun _ _ _ => rfl) g3 rfl ?_
  refine bl_c (pc' := 897) (n := 1) bt_291_896 rfl rfl (fun _ _ _ => rfl) (by decide) (fun c882 e883 => ?_)
  refine bl_add (pc' := 898) bt_291_897 rfl (by omega) (by omega) (fun v884 e885 => ?_)
  refine bl_sc (pc' := 899) bt_291_898 rfl hS (by omega) (by omega) ?_
  refine bl_cv (pc' := 902) (st := []) (args := [.int (xs (v884).toInt.toNat)]) (c := 0) (ci := 8) bt_291_899 rfl rfl (by decide) (wl_o0 hL) (by decide) (Nat.succ_lt_succ (Nat.zero_lt_succ _)) rfl (Nat.le_of_ble_eq_true rfl) (Nat.le_of_ble_eq_true rfl) ?_
  refine wj_b (K := 234) (FIN := st_FIN) (g := (291, 902, lv, [], cb, sb)) (t := []) (A := fun h' r => wl_W E wl_H x x h' ∧ wt_K h h') rfl (by decide) (by decide) hL (fun F9 k1 => wk_c_handy (FIN := F9) (gs := [bp_mf]) hSA h8 hL (Nat.le_of_ble_eq_true rfl) (fun h r a b => k1 _ _ ⟨a, b⟩)) (fun h886 r887 ⟨hL888, K890⟩ q889 => ?_)
  have hR891 := wt_RK hR K890
  have hQ892 := wt_q hQ q889
  show bh_G E st_FIN ((291, 902, lv, [.int r887], cb, sb) :: [], h886, none)
  refine bl_pop (pc' := 903) bt_291_902 rfl rfl ?_
  refine bl_ld (pc' := 904) bt_291_903 rfl rfl (fun _ _ _ => rfl) g2 rfl ?_
  refine bl_ld (pc' := 905) bt_291_904 rfl rfl (fun _ _ _ => rfl) g0 rfl ?_
  refine bl_ld (pc' := 906) bt_291_905 rfl rfl (fun _ _ _ => rfl) g3 rfl ?_
  refine bl_c (pc' := 907) (n := 1) bt_291_906 rfl rfl (fun _ _ _ => rfl) (by decide) (fun c893 e894 => ?_)
  refine bl_add (pc' := 908) bt_291_907 rfl (by omega) (by omega) (fun v895 e896 => ?_)
  refine bl_sc (pc' := 909) bt_291_908 rfl hS (by omega) (by omega) ?_
  refine bl_cv (pc' := 912) (st := []) (args := [.int (xs (v895).toInt.toNat)]) (c := 88) (ci := 9) bt_291_909 rfl rfl (by decide) (wl_o88 hL888) (by decide) (Nat.succ_lt_succ (Nat.zero_lt_succ _)) rfl (Nat.le_of_ble_eq_true rfl) (Nat.le_of_ble_eq_true rfl) ?_
  refine wj_b (K := 38) (FIN := st_FIN) (g := (291, 912, lv, [], cb, sb)) (t := []) (A := fun h' r => wl_W E wl_H x x h' ∧ wt_K h886 h') rfl (by decide) (by decide) hL888 (fun F9 k1 => wk_m_handy (FIN := F9) (gs := [bp_mf]) hSA hL888 (Nat.le_of_ble_eq_true rfl) (fun h r a b => k1 _ _ ⟨a, b⟩)) (fun h897 r898 ⟨hL899, K901⟩ q900 => ?_)
  have hR902 := wt_RK hR891 K901
  have hQ903 := wt_q hQ892 q900
  show bh_G E st_FIN ((291, 912, lv, [.int r898], cb, sb) :: [], h897, none)
  refine bl_pop (pc' := 913) bt_291_912 rfl rfl ?_
  refine bl_go (pc' := 1452) bt_291_913 rfl ?_
  exact kk _ _ _ hL899 hR902 hQ903
set_option maxHeartbeats 40000000 in
theorem wl_k_20 {i x : Int32} {lv : mm_V} {h : mm_H} {o : Option Value} (hST : wt_ST E) (hSA : ∀ {x y : Int32} (ρ : Nat → Int32), en_SA E ρ (wl_o x y) mt_SB) (h8 : ∃ q, E.2[8]? = some q) (hS : bl_S E b n xs) (hn : n ≤ 3072) (g0 : mm_get lv 0 = some (.ref b)) (g1 : mm_get lv 1 = some (.ref (E.1 + 0))) (g2 : mm_get lv 2 = some (.ref (E.1 + 88))) (g3 : mm_get lv 3 = some (.int i)) (hi0 : 0 ≤ i.toInt) (hi5 : i.toInt + 6 ≤ (n : Int)) (hL : wl_W E wl_H x x h) (hR : wt_R x x h) (hQ : wt_s h 2 = wt_s h 8817) (kk : ∀ (h' : mm_H) (x' : Int32) (o' : Option Value), wl_W E wl_H x' x' h' → wt_R x' x' h' → wt_s h' 2 = wt_s h' 8817 → bh_G E st_FIN ((291, 1452, lv, [], cb, sb) :: [], h', o')) : bh_G E st_FIN ((291, 916, lv, [], cb, sb) :: [], h, o) := by
  refine bl_ld (pc' := 917) bt_291_916 rfl rfl (fun _ _ _ => rfl) g1 rfl ?_
  refine bl_ld (pc' := 918) bt_291_917 rfl rfl (fun _ _ _ => rfl) g0 rfl ?_
  refine bl_ld (pc' := 919) bt_291_918 rfl rfl (fun _ _ _ => rfl) g3 rfl ?_
  refine bl_c (pc' := 920) (n := 1) bt_291_919 rfl rfl (fun _ _ _ => rfl) (by decide) (fun c904 e905 => ?_)
  refine bl_add (pc' := 921) bt_291_920 rfl (by omega) (by omega) (fun v906 e907 => ?_)
  refine bl_sc (pc' := 922) bt_291_921 rfl hS (by omega) (by omega) ?_
  refine bl_i0 (pc' := 925) (pt := 929) bt_291_922 rfl rfl (fun k908 => ?_) (fun k908 => ?_)
  · replace k908 : ((xs (v906).toInt.toNat)).toInt = 0 := k908
    refine bl_c (pc' := 930) (n := 0) bt_291_929 rfl rfl (fun _ _ _ => rfl) (by decide) (fun c909 e910 => ?_)
    refine bl_cv (pc' := 933) (st := []) (args := [.int c909]) (c := 0) (ci := 8) bt_291_930 rfl rfl (by decide) (wl_o0 hL) (by decide) (Nat.succ_lt_succ (Nat.zero_lt_succ _)) rfl (Nat.le_of_ble_eq_true rfl) (Nat.le_of_ble_eq_true rfl) ?_
    refine wj_b (K := 223) (FIN := st_FIN) (g := (291, 933, lv, [], cb, sb)) (t := []) (A := fun h' r => wl_W E wl_H x x h' ∧ wt_K h h') rfl (by decide) (by decide) hL (fun F9 k1 => wk_c_better (FIN := F9) (gs := [bp_mf]) (by omega) hSA h8 hL (Nat.le_of_ble_eq_true rfl) (fun h r a b => k1 _ _ ⟨a, b⟩)) (fun h911 r912 ⟨hL913, K915⟩ q914 => ?_)
    have hR916 := wt_RK hR K915
    have hQ917 := wt_q hQ q914
    show bh_G E st_FIN ((291, 933, lv, [.int r912], cb, sb) :: [], h911, none)
    refine bl_pop (pc' := 934) bt_291_933 rfl rfl ?_
    refine bl_ld (pc' := 935) bt_291_934 rfl rfl (fun _ _ _ => rfl) g2 rfl ?_
    refine bl_ld (pc' := 936) bt_291_935 rfl rfl (fun _ _ _ => rfl) g0 rfl ?_
    refine bl_ld (pc' := 937) bt_291_936 rfl rfl (fun _ _ _ => rfl) g3 rfl ?_
    refine bl_c (pc' := 938) (n := 1) bt_291_937 rfl rfl (fun _ _ _ => rfl) (by decide) (fun c918 e919 => ?_)
    refine bl_add (pc' := 939) bt_291_938 rfl (by omega) (by omega) (fun v920 e921 => ?_)
    refine bl_sc (pc' := 940) bt_291_939 rfl hS (by omega) (by omega) ?_
    refine bl_i0 (pc' := 943) (pt := 947) bt_291_940 rfl rfl (fun k922 => ?_) (fun k922 => ?_)
    · replace k922 : ((xs (v920).toInt.toNat)).toInt = 0 := k922
      refine bl_c (pc' := 948) (n := 0) bt_291_947 rfl rfl (fun _ _ _ => rfl) (by decide) (fun c923 e924 => ?_)
      refine bl_cv (pc' := 951) (st := []) (args := [.int c923]) (c := 88) (ci := 9) bt_291_948 rfl rfl (by decide) (wl_o88 hL913) (by decide) (Nat.succ_lt_succ (Nat.zero_lt_succ _)) rfl (Nat.le_of_ble_eq_true rfl) (Nat.le_of_ble_eq_true rfl) ?_
      refine wj_b (K := 9) (FIN := st_FIN) (g := (291, 951, lv, [], cb, sb)) (t := []) (A := fun h' r => wl_W E wl_H x x h' ∧ wt_K h911 h') rfl (by decide) (by decide) hL913 (fun F9 k1 => wk_m_better (FIN := F9) (gs := [bp_mf]) (by omega) hSA hL913 (Nat.le_of_ble_eq_true rfl) (fun h r a b => k1 _ _ ⟨a, b⟩)) (fun h925 r926 ⟨hL927, K929⟩ q928 => ?_)
      have hR930 := wt_RK hR916 K929
      have hQ931 := wt_q hQ917 q928
      show bh_G E st_FIN ((291, 951, lv, [.int r926], cb, sb) :: [], h925, none)
      refine bl_pop (pc' := 952) bt_291_951 rfl rfl ?_
      refine bl_go (pc' := 1452) bt_291_952 rfl ?_
      exact kk _ _ _ hL927 hR930 hQ931
    · replace k922 : ¬ (((xs (v920).toInt.toNat)).toInt = 0) := k922
      refine bl_c (pc' := 944) (n := 1) bt_291_943 rfl rfl (fun _ _ _ => rfl) (by decide) (fun c932 e933 => ?_)
      refine bl_go (pc' := 948) bt_291_944 rfl ?_
      refine bl_cv (pc' := 951) (st := []) (args := [.int c932]) (c := 88) (ci := 9) bt_291_948 rfl rfl (by decide) (wl_o88 hL913) (by decide) (Nat.succ_lt_succ (Nat.zero_lt_succ _)) rfl (Nat.le_of_ble_eq_true rfl) (Nat.le_of_ble_eq_true rfl) ?_
      refine wj_b (K := 9) (FIN := st_FIN) (g := (291, 951, lv, [], cb, sb)) (t := []) (A := fun h' r => wl_W E wl_H x x h' ∧ wt_K h911 h') rfl (by decide) (by decide) hL913 (fun F9 k1 => wk_m_better (FIN := F9) (gs := [bp_mf]) (by omega) hSA hL913 (Nat.le_of_ble_eq_true rfl) (fun h r a b => k1 _ _ ⟨a, b⟩)) (fun h934 r935 ⟨hL936, K938⟩ q937 => ?_)
      have hR939 := wt_RK hR916 K938
      have hQ940 := wt_q hQ917 q937
      show bh_G E st_FIN ((291, 951, lv, [.int r935], cb, sb) :: [], h934, none)
      refine bl_pop (pc' := 952) bt_291_951 rfl rfl ?_
      refine bl_go (pc' := 1452) bt_291_952 rfl ?_
      exact kk _ _ _ hL936 hR939 hQ940
  · replace k908 : ¬ (((xs (v906).toInt.toNat)).toInt = 0) := k908
    refine bl_c (pc' := 926) (n := 1) bt_291_925 rfl rfl (fun _ _ _ => rfl) (by decide) (fun c941 e942 => ?_)
    refine bl_go (pc' := 930) bt_291_926 rfl ?_
    refine bl_cv (pc' := 933) (st := []) (args := [.int c941]) (c := 0) (ci := 8) bt_291_930 rfl rfl (by decide) (wl_o0 hL) (by decide) (Nat.succ_lt_succ (Nat.zero_lt_succ _)) rfl (Nat.le_of_ble_eq_true rfl) (Nat.le_of_ble_eq_true rfl) ?_
    refine wj_b (K := 223) (FIN := st_FIN) (g := (291, 933, lv, [], cb, sb)) (t := []) (A := fun h' r => wl_W E wl_H x x h' ∧ wt_K h h') rfl (by decide) (by decide) hL (fun F9 k1 => wk_c_better (FIN := F9) (gs := [bp_mf]) (by omega) hSA h8 hL (Nat.le_of_ble_eq_true rfl) (fun h r a b => k1 _ _ ⟨a, b⟩)) (fun h943 r944 ⟨hL945, K947⟩ q946 => ?_)
    have hR948 := wt_RK hR K947
    have hQ949 := wt_q hQ q946
    show bh_G E st_FIN ((291, 933, lv, [.int r944], cb, sb) :: [], h943, none)
    refine bl_pop (pc' := 934) bt_291_933 rfl rfl ?_
    refine bl_ld (pc' := 935) bt_291_934 rfl rfl (fun _ _ _ => rfl) g2 rfl ?_
    refine bl_ld (pc' := 936) bt_291_935 rfl rfl (fun _ _ _ => rfl) g0 rfl ?_
    refine bl_ld (pc' := 937) bt_291_936 rfl rfl (fun _ _ _ => rfl) g3 rfl ?_
    refine bl_c (pc' := 938) (n := 1) bt_291_937 rfl rfl (fun _ _ _ => rfl) (by decide) (fun c950 e951 => ?_)
    refine bl_add (pc' := 939) bt_291_938 rfl (by omega) (by omega) (fun v952 e953 => ?_)
    refine bl_sc (pc' := 940) bt_291_939 rfl hS (by omega) (by omega) ?_
    refine bl_i0 (pc' := 943) (pt := 947) bt_291_940 rfl rfl (fun k954 => ?_) (fun k954 => ?_)
    · replace k954 : ((xs (v952).toInt.toNat)).toInt = 0 := k954
      refine bl_c (pc' := 948) (n := 0) bt_291_947 rfl rfl (fun _ _ _ => rfl) (by decide) (fun c955 e956 => ?_)
      refine bl_cv (pc' := 951) (st := []) (args := [.int c955]) (c := 88) (ci := 9) bt_291_948 rfl rfl (by decide) (wl_o88 hL945) (by decide) (Nat.succ_lt_succ (Nat.zero_lt_succ _)) rfl (Nat.le_of_ble_eq_true rfl) (Nat.le_of_ble_eq_true rfl) ?_
      refine wj_b (K := 9) (FIN := st_FIN) (g := (291, 951, lv, [], cb, sb)) (t := []) (A := fun h' r => wl_W E wl_H x x h' ∧ wt_K h943 h') rfl (by decide) (by decide) hL945 (fun F9 k1 => wk_m_better (FIN := F9) (gs := [bp_mf]) (by omega) hSA hL945 (Nat.le_of_ble_eq_true rfl) (fun h r a b => k1 _ _ ⟨a, b⟩)) (fun h957 r958 ⟨hL959, K961⟩ q960 => ?_)
      have hR962 := wt_RK hR948 K961
      have hQ963 := wt_q hQ949 q960
      show bh_G E st_FIN ((291, 951, lv, [.int r958], cb, sb) :: [], h957, none)
      refine bl_pop (pc' := 952) bt_291_951 rfl rfl ?_
      refine bl_go (pc' := 1452) bt_291_952 rfl ?_
      exact kk _ _ _ hL959 hR962 hQ963
    · replace k954 : ¬ (((xs (v952).toInt.toNat)).toInt = 0) := k954
      refine bl_c (pc' := 944) (n := 1) bt_291_943 rfl rfl (fun _ _ _ => rfl) (by decide) (fun c964 e965 => ?_)
      refine bl_go (pc' := 948) bt_291_944 rfl ?_
      refine bl_cv (pc' := 951) (st := []) (args := [.int c964]) (c := 88) (ci := 9) bt_291_948 rfl rfl (by decide) (wl_o88 hL945) (by decide) (Nat.succ_lt_succ (Nat.zero_lt_succ _)) rfl (Nat.le_of_ble_eq_true rfl) (Nat.le_of_ble_eq_true rfl) ?_
      refine wj_b (K := 9) (FIN := st_FIN) (g := (291, 951, lv, [], cb, sb)) (t := []) (A := fun h' r => wl_W E wl_H x x h' ∧ wt_K h943 h') rfl (by decide) (by decide) hL945 (fun F9 k1 => wk_m_better (FIN := F9) (gs := [bp_mf]) (by omega) hSA hL945 (Nat.le_of_ble_eq_true rfl) (fun h r a b => k1 _ _ ⟨a, b⟩)) (fun h966 r967 ⟨hL968, K970⟩ q969 => ?_)
      have hR971 := wt_RK hR948 K970
      have hQ972 := wt_q hQ949 q969
      show bh_G E st_FIN ((291, 951, lv, [.int r967], cb, sb) :: [], h966, none)
      refine bl_pop (pc' := 952) bt_291_951 rfl rfl ?_
      refine bl_go (pc' := 1452) bt_291_952 rfl ?_
      exact kk _ _ _ hL968 hR971 hQ972
set_option maxHeartbeats 40000000 in
theorem wl_k_21 {i x : Int32} {lv : mm_V} {h : mm_H} {o : Option Value} (hST : wt_ST E) (hSA : ∀ {x y : Int32} (ρ : Nat → Int32), en_SA E ρ (wl_o x y) mt_SB) (h8 : ∃ q, E.2[8]? = some q) (hS : bl_S E b n xs) (hn : n ≤ 3072) (g0 : mm_get lv 0 = some (.ref b)) (g1 : mm_get lv 1 = some (.ref (E.1 + 0))) (g2 : mm_get lv 2 = some (.ref (E.1 + 88))) (g3 : mm_get lv 3 = some (.int i)) (hi0 : 0 ≤ i.toInt) (hi5 : i.toInt + 6 ≤ (n : Int)) (hL : wl_W E wl_H x x h) (hR : wt_R x x h) (hQ : wt_s h 2 = wt_s h 8817) (kk : ∀ (h' : mm_H) (x' : Int32) (o' : Option Value), wl_W E wl_H x' x' h' → wt_R x' x' h' → wt_s h' 2 = wt_s h' 8817 → bh_G E st_FIN ((291, 1452, lv, [], cb, sb) :: [], h', o')) : bh_G E st_FIN ((291, 955, lv, [], cb, sb) :: [], h, o) := by
  refine bl_ld (pc' := 956) bt_291_955 rfl rfl (fun _ _ _ => rfl) g1 rfl ?_
  refine bl_ld (pc' := 957) bt_291_956 rfl rfl (fun _ _ _ => rfl) g0 rfl ?_
  refine bl_ld (pc' := 958) bt_291_957 rfl rfl (fun _ _ _ => rfl) g3 rfl ?_
  refine bl_c (pc' := 959) (n := 1) bt_291_958 rfl rfl (fun _ _ _ => rfl) (by decide) (fun c973 e974 => ?_)
  refine bl_add (pc' := 960) bt_291_959 rfl (by omega) (by omega) (fun v975 e976 => ?_)
  refine bl_sc (pc' := 961) bt_291_960 rfl hS (by omega) (by omega) ?_
  refine bl_ld (pc' := 962) bt_291_961 rfl rfl (fun _ _ _ => rfl) g0 rfl ?_
  refine bl_ld (pc' := 963) bt_291_962 rfl rfl (fun _ _ _ => rfl) g3 rfl ?_
  refine bl_c (pc' := 964) (n := 2) bt_291_963 rfl rfl (fun _ _ _ => rfl) (by decide) (fun c977 e978 => ?_)
  refine bl_add (pc' := 965) bt_291_964 rfl (by omega) (by omega) (fun v979 e980 => ?_)
  refine bl_sc (pc' := 966) bt_291_965 rfl hS (by omega) (by omega) ?_
  refine bl_cv (pc' := 969) (st := []) (args := [.int (xs (v979).toInt.toNat), .int (xs (v975).toInt.toNat)]) (c := 0) (ci := 8) bt_291_966 rfl rfl (by decide) (wl_o0 hL) (by decide) (Nat.succ_lt_succ (Nat.zero_lt_succ _)) rfl (Nat.le_of_ble_eq_true rfl) (Nat.le_of_ble_eq_true rfl) ?_
  refine wj_b (K := 267) (FIN := st_FIN) (g := (291, 969, lv, [], cb, sb)) (t := []) (A := fun h' r => wl_W E wl_H x x h' ∧ wt_K h h') rfl (by decide) (by decide) hL (fun F9 k1 => wk_c_then (FIN := F9) (gs := [bp_mf]) hSA h8 hL (Nat.le_of_ble_eq_true rfl) (fun h r a b => k1 _ _ ⟨a, b⟩)) (fun h981 r982 ⟨hL983, K985⟩ q984 => ?_)
  have hR986 := wt_RK hR K985
  have hQ987 := wt_q hQ q984
  show bh_G E st_FIN ((291, 969, lv, [.int r982], cb, sb) :: [], h981, none)
  refine bl_pop (pc' := 970) bt_291_969 rfl rfl ?_
  refine bl_ld (pc' := 971) bt_291_970 rfl rfl (fun _ _ _ => rfl) g2 rfl ?_
  refine bl_ld (pc' := 972) bt_291_971 rfl rfl (fun _ _ _ => rfl) g0 rfl ?_
  refine bl_ld (pc' := 973) bt_291_972 rfl rfl (fun _ _ _ => rfl) g3 rfl ?_
  refine bl_c (pc' := 974) (n := 1) bt_291_973 rfl rfl (fun _ _ _ => rfl) (by decide) (fun c988 e989 => ?_)
  refine bl_add (pc' := 975) bt_291_974 rfl (by omega) (by omega) (fun v990 e991 => ?_)
  refine bl_sc (pc' := 976) bt_291_975 rfl hS (by omega) (by omega) ?_
  refine bl_ld (pc' := 977) bt_291_976 rfl rfl (fun _ _ _ => rfl) g0 rfl ?_
  refine bl_ld (pc' := 978) bt_291_977 rfl rfl (fun _ _ _ => rfl) g3 rfl ?_
  refine bl_c (pc' := 979) (n := 2) bt_291_978 rfl rfl (fun _ _ _ => rfl) (by decide) (fun c992 e993 => ?_)
  refine bl_add (pc' := 980) bt_291_979 rfl (by omega) (by omega) (fun v994 e995 => ?_)
  refine bl_sc (pc' := 981) bt_291_980 rfl hS (by omega) (by omega) ?_
  refine bl_cv (pc' := 984) (st := []) (args := [.int (xs (v994).toInt.toNat), .int (xs (v990).toInt.toNat)]) (c := 88) (ci := 9) bt_291_981 rfl rfl (by decide) (wl_o88 hL983) (by decide) (Nat.succ_lt_succ (Nat.zero_lt_succ _)) rfl (Nat.le_of_ble_eq_true rfl) (Nat.le_of_ble_eq_true rfl) ?_
  refine wj_b (K := 102) (FIN := st_FIN) (g := (291, 984, lv, [], cb, sb)) (t := []) (A := fun h' r => wl_W E wl_H x x h' ∧ wt_K h981 h') rfl (by decide) (by decide) hL983 (fun F9 k1 => wk_m_then (FIN := F9) (gs := [bp_mf]) hSA hL983 (Nat.le_of_ble_eq_true rfl) (fun h r a b => k1 _ _ ⟨a, b⟩)) (fun h996 r997 ⟨hL998, K1000⟩ q999 => ?_)
  have hR1001 := wt_RK hR986 K1000
  have hQ1002 := wt_q hQ987 q999
  show bh_G E st_FIN ((291, 984, lv, [.int r997], cb, sb) :: [], h996, none)
  refine bl_pop (pc' := 985) bt_291_984 rfl rfl ?_
  refine bl_go (pc' := 1452) bt_291_985 rfl ?_
  exact kk _ _ _ hL998 hR1001 hQ1002
set_option maxHeartbeats 40000000 in
theorem wl_k_22 {i x : Int32} {lv : mm_V} {h : mm_H} {o : Option Value} (hST : wt_ST E) (hSA : ∀ {x y : Int32} (ρ : Nat → Int32), en_SA E ρ (wl_o x y) mt_SB) (h8 : ∃ q, E.2[8]? = some q) (hS : bl_S E b n xs) (hn : n ≤ 3072) (g0 : mm_get lv 0 = some (.ref b)) (g1 : mm_get lv 1 = some (.ref (E.1 + 0))) (g2 : mm_get lv 2 = some (.ref (E.1 + 88))) (g3 : mm_get lv 3 = some (.int i)) (hi0 : 0 ≤ i.toInt) (hi5 : i.toInt + 6 ≤ (n : Int)) (hL : wl_W E wl_H x x h) (hR : wt_R x x h) (hQ : wt_s h 2 = wt_s h 8817) (kk : ∀ (h' : mm_H) (x' : Int32) (o' : Option Value), wl_W E wl_H x' x' h' → wt_R x' x' h' → wt_s h' 2 = wt_s h' 8817 → bh_G E st_FIN ((291, 1452, lv, [], cb, sb) :: [], h', o')) : bh_G E st_FIN ((291, 988, lv, [], cb, sb) :: [], h, o) := by
  refine bl_ld (pc' := 989) bt_291_988 rfl rfl (fun _ _ _ => rfl) g1 rfl ?_
  refine bl_ld (pc' := 990) bt_291_989 rfl rfl (fun _ _ _ => rfl) g0 rfl ?_
  refine bl_ld (pc' := 991) bt_291_990 rfl rfl (fun _ _ _ => rfl) g3 rfl ?_
  refine bl_c (pc' := 992) (n := 1) bt_291_991 rfl rfl (fun _ _ _ => rfl) (by decide) (fun c1003 e1004 => ?_)
  refine bl_add (pc' := 993) bt_291_992 rfl (by omega) (by omega) (fun v1005 e1006 => ?_)
  refine bl_sc (pc' := 994) bt_291_993 rfl hS (by omega) (by omega) ?_
  refine bl_ld (pc' := 995) bt_291_994 rfl rfl (fun _ _ _ => rfl) g0 rfl ?_
  refine bl_ld (pc' := 996) bt_291_995 rfl rfl (fun _ _ _ => rfl) g3 rfl ?_
  refine bl_c (pc' := 997) (n := 2) bt_291_996 rfl rfl (fun _ _ _ => rfl) (by decide) (fun c1007 e1008 => ?_)
  refine bl_add (pc' := 998) bt_291_997 rfl (by omega) (by omega) (fun v1009 e1010 => ?_)
  refine bl_sc (pc' := 999) bt_291_998 rfl hS (by omega) (by omega) ?_
  refine bl_ld (pc' := 1000) bt_291_999 rfl rfl (fun _ _ _ => rfl) g0 rfl ?_
  refine bl_ld (pc' := 1001) bt_291_1000 rfl rfl (fun _ _ _ => rfl) g3 rfl ?_
  refine bl_c (pc' := 1002) (n := 3) bt_291_1001 rfl rfl (fun _ _ _ => rfl) (by decide) (fun c1011 e1012 => ?_)
  refine bl_add (pc' := 1003) bt_291_1002 rfl (by omega) (by omega) (fun v1013 e1014 => ?_)
  refine bl_sc (pc' := 1004) bt_291_1003 rfl hS (by omega) (by omega) ?_
  refine bl_cv (pc' := 1007) (st := []) (args := [.int (xs (v1013).toInt.toNat), .int (xs (v1009).toInt.toNat), .int (xs (v1005).toInt.toNat)]) (c := 0) (ci := 8) bt_291_1004 rfl rfl (by decide) (wl_o0 hL) (by decide) (Nat.succ_lt_succ (Nat.zero_lt_succ _)) rfl (Nat.le_of_ble_eq_true rfl) (Nat.le_of_ble_eq_true rfl) ?_
  refine wj_b (K := 248) (FIN := st_FIN) (g := (291, 1007, lv, [], cb, sb)) (t := []) (A := fun h' r => wl_W E wl_H x x h' ∧ wt_K h h') rfl (by decide) (by decide) hL (fun F9 k1 => wk_c_often (FIN := F9) (gs := [bp_mf]) hSA h8 hL (Nat.le_of_ble_eq_true rfl) (fun h r a b => k1 _ _ ⟨a, b⟩)) (fun h1015 r1016 ⟨hL1017, K1019⟩ q1018 => ?_)
  have hR1020 := wt_RK hR K1019
  have hQ1021 := wt_q hQ q1018
  show bh_G E st_FIN ((291, 1007, lv, [.int r1016], cb, sb) :: [], h1015, none)
  refine bl_pop (pc' := 1008) bt_291_1007 rfl rfl ?_
  refine bl_ld (pc' := 1009) bt_291_1008 rfl rfl (fun _ _ _ => rfl) g2 rfl ?_
  refine bl_ld (pc' := 1010) bt_291_1009 rfl rfl (fun _ _ _ => rfl) g0 rfl ?_
  refine bl_ld (pc' := 1011) bt_291_1010 rfl rfl (fun _ _ _ => rfl) g3 rfl ?_
  refine bl_c (pc' := 1012) (n := 1) bt_291_1011 rfl rfl (fun _ _ _ => rfl) (by decide) (fun c1022 e1023 => ?_)
  refine bl_add (pc' := 1013) bt_291_1012 rfl (by omega) (by omega) (fun v1024 e1025 => ?_)
  refine bl_sc (pc' := 1014) bt_291_1013 rfl hS (by omega) (by omega) ?_
  refine bl_ld (pc' := 1015) bt_291_1014 rfl rfl (fun _ _ _ => rfl) g0 rfl ?_
  refine bl_ld (pc' := 1016) bt_291_1015 rfl rfl (fun _ _ _ => rfl) g3 rfl ?_
  refine bl_c (pc' := 1017) (n := 2) bt_291_1016 rfl rfl (fun _ _ _ => rfl) (by decide) (fun c1026 e1027 => ?_)
  refine bl_add (pc' := 1018) bt_291_1017 rfl (by omega) (by omega) (fun v1028 e1029 => ?_)
  refine bl_sc (pc' := 1019) bt_291_1018 rfl hS (by omega) (by omega) ?_
  refine bl_ld (pc' := 1020) bt_291_1019 rfl rfl (fun _ _ _ => rfl) g0 rfl ?_
  refine bl_ld (pc' := 1021) bt_291_1020 rfl rfl (fun _ _ _ => rfl) g3 rfl ?_
  refine bl_c (pc' := 1022) (n := 3) bt_291_1021 rfl rfl (fun _ _ _ => rfl) (by decide) (fun c1030 e1031 => ?_)
  refine bl_add (pc' := 1023) bt_291_1022 rfl (by omega) (by omega) (fun v1032 e1033 => ?_)
  refine bl_sc (pc' := 1024) bt_291_1023 rfl hS (by omega) (by omega) ?_
  refine bl_cv (pc' := 1027) (st := []) (args := [.int (xs (v1032).toInt.toNat), .int (xs (v1028).toInt.toNat), .int (xs (v1024).toInt.toNat)]) (c := 88) (ci := 9) bt_291_1024 rfl rfl (by decide) (wl_o88 hL1017) (by decide) (Nat.succ_lt_succ (Nat.zero_lt_succ _)) rfl (Nat.le_of_ble_eq_true rfl) (Nat.le_of_ble_eq_true rfl) ?_
  refine wj_b (K := 68) (FIN := st_FIN) (g := (291, 1027, lv, [], cb, sb)) (t := []) (A := fun h' r => wl_W E wl_H x x h' ∧ wt_K h1015 h') rfl (by decide) (by decide) hL1017 (fun F9 k1 => wk_m_often (FIN := F9) (gs := [bp_mf]) hSA hL1017 (Nat.le_of_ble_eq_true rfl) (fun h r a b => k1 _ _ ⟨a, b⟩)) (fun h1034 r1035 ⟨hL1036, K1038⟩ q1037 => ?_)
  have hR1039 := wt_RK hR1020 K1038
  have hQ1040 := wt_q hQ1021 q1037
  show bh_G E st_FIN ((291, 1027, lv, [.int r1035], cb, sb) :: [], h1034, none)
  refine bl_pop (pc' := 1028) bt_291_1027 rfl rfl ?_
  refine bl_go (pc' := 1452) bt_291_1028 rfl ?_
  exact kk _ _ _ hL1036 hR1039 hQ1040
set_option maxHeartbeats 40000000 in
theorem wl_k_23 {i x : Int32} {lv : mm_V} {h : mm_H} {o : Option Value} (hST : wt_ST E) (hSA : ∀ {x y : Int32} (ρ : Nat → Int32), en_SA E ρ (wl_o x y) mt_SB) (h8 : ∃ q, E.2[8]? = some q) (hS : bl_S E b n xs) (hn : n ≤ 3072) (g0 : mm_get lv 0 = some (.ref b)) (g1 : mm_get lv 1 = some (.ref (E.1 + 0))) (g2 : mm_get lv 2 = some (.ref (E.1 + 88))) (g3 : mm_get lv 3 = some (.int i)) (hi0 : 0 ≤ i.toInt) (hi5 : i.toInt + 6 ≤ (n : Int)) (hL : wl_W E wl_H x x h) (hR : wt_R x x h) (hQ : wt_s h 2 = wt_s h 8817) (kk : ∀ (h' : mm_H) (x' : Int32) (o' : Option Value), wl_W E wl_H x' x' h' → wt_R x' x' h' → wt_s h' 2 = wt_s h' 8817 → bh_G E st_FIN ((291, 1452, lv, [], cb, sb) :: [], h', o')) : bh_G E st_FIN ((291, 1031, lv, [], cb, sb) :: [], h, o) := by
  refine bl_ld (pc' := 1032) bt_291_1031 rfl rfl (fun _ _ _ => rfl) g1 rfl ?_
  refine bl_ld (pc' := 1033) bt_291_1032 rfl rfl (fun _ _ _ => rfl) g0 rfl ?_
  refine bl_ld (pc' := 1034) bt_291_1033 rfl rfl (fun _ _ _ => rfl) g3 rfl ?_
  refine bl_c (pc' := 1035) (n := 1) bt_291_1034 rfl rfl (fun _ _ _ => rfl) (by decide) (fun c1041 e1042 => ?_)
  refine bl_add (pc' := 1036) bt_291_1035 rfl (by omega) (by omega) (fun v1043 e1044 => ?_)
  refine bl_sc (pc' := 1037) bt_291_1036 rfl hS (by omega) (by omega) ?_
  refine bl_cv (pc' := 1040) (st := []) (args := [.int (xs (v1043).toInt.toNat)]) (c := 0) (ci := 8) bt_291_1037 rfl rfl (by decide) (wl_o0 hL) (by decide) (Nat.succ_lt_succ (Nat.zero_lt_succ _)) rfl (Nat.le_of_ble_eq_true rfl) (Nat.le_of_ble_eq_true rfl) ?_
  refine wj_b (K := 229) (FIN := st_FIN) (g := (291, 1040, lv, [], cb, sb)) (t := []) (A := fun h' r => wl_W E wl_H x x h' ∧ wt_K h h') rfl (by decide) (by decide) hL (fun F9 k1 => wk_c_ends (FIN := F9) (gs := [bp_mf]) hSA h8 hL (Nat.le_of_ble_eq_true rfl) (fun h r a b => k1 _ _ ⟨a, b⟩)) (fun h1045 r1046 ⟨hL1047, K1049⟩ q1048 => ?_)
  have hR1050 := wt_RK hR K1049
  have hQ1051 := wt_q hQ q1048
  show bh_G E st_FIN ((291, 1040, lv, [.int r1046], cb, sb) :: [], h1045, none)
  refine bl_pop (pc' := 1041) bt_291_1040 rfl rfl ?_
  refine bl_ld (pc' := 1042) bt_291_1041 rfl rfl (fun _ _ _ => rfl) g2 rfl ?_
  refine bl_ld (pc' := 1043) bt_291_1042 rfl rfl (fun _ _ _ => rfl) g0 rfl ?_
  refine bl_ld (pc' := 1044) bt_291_1043 rfl rfl (fun _ _ _ => rfl) g3 rfl ?_
  refine bl_c (pc' := 1045) (n := 1) bt_291_1044 rfl rfl (fun _ _ _ => rfl) (by decide) (fun c1052 e1053 => ?_)
  refine bl_add (pc' := 1046) bt_291_1045 rfl (by omega) (by omega) (fun v1054 e1055 => ?_)
  refine bl_sc (pc' := 1047) bt_291_1046 rfl hS (by omega) (by omega) ?_
  refine bl_cv (pc' := 1050) (st := []) (args := [.int (xs (v1054).toInt.toNat)]) (c := 88) (ci := 9) bt_291_1047 rfl rfl (by decide) (wl_o88 hL1047) (by decide) (Nat.succ_lt_succ (Nat.zero_lt_succ _)) rfl (Nat.le_of_ble_eq_true rfl) (Nat.le_of_ble_eq_true rfl) ?_
  refine wj_b (K := 24) (FIN := st_FIN) (g := (291, 1050, lv, [], cb, sb)) (t := []) (A := fun h' r => wl_W E wl_H x x h' ∧ wt_K h1045 h') rfl (by decide) (by decide) hL1047 (fun F9 k1 => wk_m_ends (FIN := F9) (gs := [bp_mf]) hSA hL1047 (Nat.le_of_ble_eq_true rfl) (fun h r a b => k1 _ _ ⟨a, b⟩)) (fun h1056 r1057 ⟨hL1058, K1060⟩ q1059 => ?_)
  have hR1061 := wt_RK hR1050 K1060
  have hQ1062 := wt_q hQ1051 q1059
  show bh_G E st_FIN ((291, 1050, lv, [.int r1057], cb, sb) :: [], h1056, none)
  refine bl_pop (pc' := 1051) bt_291_1050 rfl rfl ?_
  refine bl_go (pc' := 1452) bt_291_1051 rfl ?_
  exact kk _ _ _ hL1058 hR1061 hQ1062
set_option maxHeartbeats 40000000 in
theorem wl_k_24 {i x : Int32} {lv : mm_V} {h : mm_H} {o : Option Value} (hST : wt_ST E) (hSA : ∀ {x y : Int32} (ρ : Nat → Int32), en_SA E ρ (wl_o x y) mt_SB) (h8 : ∃ q, E.2[8]? = some q) (hS : bl_S E b n xs) (hn : n ≤ 3072) (g0 : mm_get lv 0 = some (.ref b)) (g1 : mm_get lv 1 = some (.ref (E.1 + 0))) (g2 : mm_get lv 2 = some (.ref (E.1 + 88))) (g3 : mm_get lv 3 = some (.int i)) (hi0 : 0 ≤ i.toInt) (hi5 : i.toInt + 6 ≤ (n : Int)) (hL : wl_W E wl_H x x h) (hR : wt_R x x h) (hQ : wt_s h 2 = wt_s h 8817) (kk : ∀ (h' : mm_H) (x' : Int32) (o' : Option Value), wl_W E wl_H x' x' h' → wt_R x' x' h' → wt_s h' 2 = wt_s h' 8817 → bh_G E st_FIN ((291, 1452, lv, [], cb, sb) :: [], h', o')) : bh_G E st_FIN ((291, 1054, lv, [], cb, sb) :: [], h, o) := by
  refine bl_ld (pc' := 1055) bt_291_1054 rfl rfl (fun _ _ _ => rfl) g1 rfl ?_
  refine bl_ld (pc' := 1056) bt_291_1055 rfl rfl (fun _ _ _ => rfl) g0 rfl ?_
  refine bl_ld (pc' := 1057) bt_291_1056 rfl rfl (fun _ _ _ => rfl) g3 rfl ?_
  refine bl_c (pc' := 1058) (n := 1) bt_291_1057 rfl rfl (fun _ _ _ => rfl) (by decide) (fun c1063 e1064 => ?_)
  refine bl_add (pc' := 1059) bt_291_1058 rfl (by omega) (by omega) (fun v1065 e1066 => ?_)
  refine bl_sc (pc' := 1060) bt_291_1059 rfl hS (by omega) (by omega) ?_
  refine bl_ld (pc' := 1061) bt_291_1060 rfl rfl (fun _ _ _ => rfl) g0 rfl ?_
  refine bl_ld (pc' := 1062) bt_291_1061 rfl rfl (fun _ _ _ => rfl) g3 rfl ?_
  refine bl_c (pc' := 1063) (n := 2) bt_291_1062 rfl rfl (fun _ _ _ => rfl) (by decide) (fun c1067 e1068 => ?_)
  refine bl_add (pc' := 1064) bt_291_1063 rfl (by omega) (by omega) (fun v1069 e1070 => ?_)
  refine bl_sc (pc' := 1065) bt_291_1064 rfl hS (by omega) (by omega) ?_
  refine bl_cv (pc' := 1068) (st := []) (args := [.int (xs (v1069).toInt.toNat), .int (xs (v1065).toInt.toNat)]) (c := 0) (ci := 8) bt_291_1065 rfl rfl (by decide) (wl_o0 hL) (by decide) (Nat.succ_lt_succ (Nat.zero_lt_succ _)) rfl (Nat.le_of_ble_eq_true rfl) (Nat.le_of_ble_eq_true rfl) ?_
  refine wj_b (K := 263) (FIN := st_FIN) (g := (291, 1068, lv, [], cb, sb)) (t := []) (A := fun h' r => wl_W E wl_H x x h' ∧ wt_K h h') rfl (by decide) (by decide) hL (fun F9 k1 => wk_c_steady (FIN := F9) (gs := [bp_mf]) hSA h8 hL (Nat.le_of_ble_eq_true rfl) (fun h r a b => k1 _ _ ⟨a, b⟩)) (fun h1071 r1072 ⟨hL1073, K1075⟩ q1074 => ?_)
  have hR1076 := wt_RK hR K1075
  have hQ1077 := wt_q hQ q1074
  show bh_G E st_FIN ((291, 1068, lv, [.int r1072], cb, sb) :: [], h1071, none)
  refine bl_pop (pc' := 1069) bt_291_1068 rfl rfl ?_
  refine bl_ld (pc' := 1070) bt_291_1069 rfl rfl (fun _ _ _ => rfl) g2 rfl ?_
  refine bl_ld (pc' := 1071) bt_291_1070 rfl rfl (fun _ _ _ => rfl) g0 rfl ?_
  refine bl_ld (pc' := 1072) bt_291_1071 rfl rfl (fun _ _ _ => rfl) g3 rfl ?_
  refine bl_c (pc' := 1073) (n := 1) bt_291_1072 rfl rfl (fun _ _ _ => rfl) (by decide) (fun c1078 e1079 => ?_)
  refine bl_add (pc' := 1074) bt_291_1073 rfl (by omega) (by omega) (fun v1080 e1081 => ?_)
  refine bl_sc (pc' := 1075) bt_291_1074 rfl hS (by omega) (by omega) ?_
  refine bl_ld (pc' := 1076) bt_291_1075 rfl rfl (fun _ _ _ => rfl) g0 rfl ?_
  refine bl_ld (pc' := 1077) bt_291_1076 rfl rfl (fun _ _ _ => rfl) g3 rfl ?_
  refine bl_c (pc' := 1078) (n := 2) bt_291_1077 rfl rfl (fun _ _ _ => rfl) (by decide) (fun c1082 e1083 => ?_)
  refine bl_add (pc' := 1079) bt_291_1078 rfl (by omega) (by omega) (fun v1084 e1085 => ?_)
  refine bl_sc (pc' := 1080) bt_291_1079 rfl hS (by omega) (by omega) ?_
  refine bl_cv (pc' := 1083) (st := []) (args := [.int (xs (v1084).toInt.toNat), .int (xs (v1080).toInt.toNat)]) (c := 88) (ci := 9) bt_291_1080 rfl rfl (by decide) (wl_o88 hL1073) (by decide) (Nat.succ_lt_succ (Nat.zero_lt_succ _)) rfl (Nat.le_of_ble_eq_true rfl) (Nat.le_of_ble_eq_true rfl) ?_
  refine wj_b (K := 94) (FIN := st_FIN) (g := (291, 1083, lv, [], cb, sb)) (t := []) (A := fun h' r => wl_W E wl_H x x h' ∧ wt_K h1071 h') rfl (by decide) (by decide) hL1073 (fun F9 k1 => wk_m_steady (FIN := F9) (gs := [bp_mf]) hSA hL1073 (Nat.le_of_ble_eq_true rfl) (fun h r a b => k1 _ _ ⟨a, b⟩)) (fun h1086 r1087 ⟨hL1088, K1090⟩ q1089 => ?_)
  have hR1091 := wt_RK hR1076 K1090
  have hQ1092 := wt_q hQ1077 q1089
  show bh_G E st_FIN ((291, 1083, lv, [.int r1087], cb, sb) :: [], h1086, none)
  refine bl_pop (pc' := 1084) bt_291_1083 rfl rfl ?_
  refine bl_go (pc' := 1452) bt_291_1084 rfl ?_
  exact kk _ _ _ hL1088 hR1091 hQ1092
set_option maxHeartbeats 40000000 in
theorem wl_k_25 {i x : Int32} {lv : mm_V} {h : mm_H} {o : Option Value} (hST : wt_ST E) (hSA : ∀ {x y : Int32} (ρ : Nat → Int32), en_SA E ρ (wl_o x y) mt_SB) (h8 : ∃ q, E.2[8]? = some q) (hS : bl_S E b n xs) (hn : n ≤ 3072) (g0 : mm_get lv 0 = some (.ref b)) (g1 : mm_get lv 1 = some (.ref (E.1 + 0))) (g2 : mm_get lv 2 = some (.ref (E.1 + 88))) (g3 : mm_get lv 3 = some (.int i)) (hi0 : 0 ≤ i.toInt) (hi5 : i.toInt + 6 ≤ (n : Int)) (hL : wl_W E wl_H x x h) (hR : wt_R x x h) (hQ : wt_s h 2 = wt_s h 8817) (kk : ∀ (h' : mm_H) (x' : Int32) (o' : Option Value), wl_W E wl_H x' x' h' → wt_R x' x' h' → wt_s h' 2 = wt_s h' 8817 → bh_G E st_FIN ((291, 1452, lv, [], cb, sb) :: [], h', o')) : bh_G E st_FIN ((291, 1087, lv, [], cb, sb) :: [], h, o) := by
  refine bl_ld (pc' := 1088) bt_291_1087 rfl rfl (fun _ _ _ => rfl) g1 rfl ?_
  refine bl_ld (pc' := 1089) bt_291_1088 rfl rfl (fun _ _ _ => rfl) g0 rfl ?_
  refine bl_ld (pc' := 1090) bt_291_1089 rfl rfl (fun _ _ _ => rfl) g3 rfl ?_
  refine bl_c (pc' := 1091) (n := 1) bt_291_1090 rfl rfl (fun _ _ _ => rfl) (by decide) (fun c1093 e1094 => ?_)
  refine bl_add (pc' := 1092) bt_291_1091 rfl (by omega) (by omega) (fun v1095 e1096 => ?_)
  refine bl_sc (pc' := 1093) bt_291_1092 rfl hS (by omega) (by omega) ?_
  refine bl_ld (pc' := 1094) bt_291_1093 rfl rfl (fun _ _ _ => rfl) g0 rfl ?_
  refine bl_ld (pc' := 1095) bt_291_1094 rfl rfl (fun _ _ _ => rfl) g3 rfl ?_
  refine bl_c (pc' := 1096) (n := 2) bt_291_1095 rfl rfl (fun _ _ _ => rfl) (by decide) (fun c1097 e1098 => ?_)
  refine bl_add (pc' := 1097) bt_291_1096 rfl (by omega) (by omega) (fun v1099 e1100 => ?_)
  refine bl_sc (pc' := 1098) bt_291_1097 rfl hS (by omega) (by omega) ?_
  refine bl_cv (pc' := 1101) (st := []) (args := [.int (xs (v1099).toInt.toNat), .int (xs (v1095).toInt.toNat)]) (c := 0) (ci := 8) bt_291_1098 rfl rfl (by decide) (wl_o0 hL) (by decide) (Nat.succ_lt_succ (Nat.zero_lt_succ _)) rfl (Nat.le_of_ble_eq_true rfl) (Nat.le_of_ble_eq_true rfl) ?_
  refine wj_b (K := 261) (FIN := st_FIN) (g := (291, 1101, lv, [], cb, sb)) (t := []) (A := fun h' r => wl_W E wl_H x x h' ∧ wt_K h h') rfl (by decide) (by decide) hL (fun F9 k1 => wk_c_spared (FIN := F9) (gs := [bp_mf]) hSA h8 hL (Nat.le_of_ble_eq_true rfl) (fun h r a b => k1 _ _ ⟨a, b⟩)) (fun h1101 r1102 ⟨hL1103, K1105⟩ q1104 => ?_)
  have hR1106 := wt_RK hR K1105
  have hQ1107 := wt_q hQ q1104
  show bh_G E st_FIN ((291, 1101, lv, [.int r1102], cb, sb) :: [], h1101, none)
  refine bl_pop (pc' := 1102) bt_291_1101 rfl rfl ?_
  refine bl_ld (pc' := 1103) bt_291_1102 rfl rfl (fun _ _ _ => rfl) g2 rfl ?_
  refine bl_ld (pc' := 1104) bt_291_1103 rfl rfl (fun _ _ _ => rfl) g0 rfl ?_
  refine bl_ld (pc' := 1105) bt_291_1104 rfl rfl (fun _ _ _ => rfl) g3 rfl ?_
  refine bl_c (pc' := 1106) (n := 1) bt_291_1105 rfl rfl (fun _ _ _ => rfl) (by decide) (fun c1108 e1109 => ?_)
  refine bl_add (pc' := 1107) bt_291_1106 rfl (by omega) (by omega) (fun v1110 e1111 => ?_)
  refine bl_sc (pc' := 1108) bt_291_1107 rfl hS (by omega) (by omega) ?_
  refine bl_ld (pc' := 1109) bt_291_1108 rfl rfl (fun _ _ _ => rfl) g0 rfl ?_
  refine bl_ld (pc' := 1110) bt_291_1109 rfl rfl (fun _ _ _ => rfl) g3 rfl ?_
  refine bl_c (pc' := 1111) (n := 2) bt_291_1110 rfl rfl (fun _ _ _ => rfl) (by decide) (fun c1112 e1113 => ?_)
  refine bl_add (pc' := 1112) bt_291_1111 rfl (by omega) (by omega) (fun v1114 e1115 => ?_)
  refine bl_sc (pc' := 1113) bt_291_1112 rfl hS (by omega) (by omega) ?_
  refine bl_cv (pc' := 1116) (st := []) (args := [.int (xs (v1114).toInt.toNat), .int (xs (v1110).toInt.toNat)]) (c := 88) (ci := 9) bt_291_1113 rfl rfl (by decide) (wl_o88 hL1103) (by decide) (Nat.succ_lt_succ (Nat.zero_lt_succ _)) rfl (Nat.le_of_ble_eq_true rfl) (Nat.le_of_ble_eq_true rfl) ?_
  refine wj_b (K := 92) (FIN := st_FIN) (g := (291, 1116, lv, [], cb, sb)) (t := []) (A := fun h' r => wl_W E wl_H x x h' ∧ wt_K h1101 h') rfl (by decide) (by decide) hL1103 (fun F9 k1 => wk_m_spared (FIN := F9) (gs := [bp_mf]) hSA hL1103 (Nat.le_of_ble_eq_true rfl) (fun h r a b => k1 _ _ ⟨a, b⟩)) (fun h1116 r1117 ⟨hL1118, K1120⟩ q1119 => ?_)
  have hR1121 := wt_RK hR1106 K1120
  have hQ1122 := wt_q hQ1107 q1119
  show bh_G E st_FIN ((291, 1116, lv, [.int r1117], cb, sb) :: [], h1116, none)
  refine bl_pop (pc' := 1117) bt_291_1116 rfl rfl ?_
  refine bl_go (pc' := 1452) bt_291_1117 rfl ?_
  exact kk _ _ _ hL1118 hR1121 hQ1122
set_option maxHeartbeats 40000000 in
theorem wl_k_26 {i x : Int32} {lv : mm_V} {h : mm_H} {o : Option Value} (hST : wt_ST E) (hSA : ∀ {x y : Int32} (ρ : Nat → Int32), en_SA E ρ (wl_o x y) mt_SB) (h8 : ∃ q, E.2[8]? = some q) (hS : bl_S E b n xs) (hn : n ≤ 3072) (g0 : mm_get lv 0 = some (.ref b)) (g1 : mm_get lv 1 = some (.ref (E.1 + 0))) (g2 : mm_get lv 2 = some (.ref (E.1 + 88))) (g3 : mm_get lv 3 = some (.int i)) (hi0 : 0 ≤ i.toInt) (hi5 : i.toInt + 6 ≤ (n : Int)) (hL : wl_W E wl_H x x h) (hR : wt_R x x h) (hQ : wt_s h 2 = wt_s h 8817) (kk : ∀ (h' : mm_H) (x' : Int32) (o' : Option Value), wl_W E wl_H x' x' h' → wt_R x' x' h' → wt_s h' 2 = wt_s h' 8817 → bh_G E st_FIN ((291, 1452, lv, [], cb, sb) :: [], h', o')) : bh_G E st_FIN ((291, 1120, lv, [], cb, sb) :: [], h, o) := by
  refine bl_ld (pc' := 1121) bt_291_1120 rfl rfl (fun _ _ _ => rfl) g1 rfl ?_
  refine bl_cv (pc' := 1124) (st := []) (args := []) (c := 0) (ci := 8) bt_291_1121 rfl rfl (by decide) (wl_o0 hL) (by decide) (Nat.succ_lt_succ (Nat.zero_lt_succ _)) rfl (Nat.le_of_ble_eq_true rfl) (Nat.le_of_ble_eq_true rfl) ?_
  refine wj_b (K := 224) (FIN := st_FIN) (g := (291, 1124, lv, [], cb, sb)) (t := []) (A := fun h' r => wl_W E wl_H x x h' ∧ wt_K h h') rfl (by decide) (by decide) hL (fun F9 k1 => wk_c_broom (FIN := F9) (gs := [bp_mf]) hSA h8 hL (Nat.le_of_ble_eq_true rfl) (fun h r a b => k1 _ _ ⟨a, b⟩)) (fun h1123 r1124 ⟨hL1125, K1127⟩ q1126 => ?_)
  have hR1128 := wt_RK hR K1127
  have hQ1129 := wt_q hQ q1126
  show bh_G E st_FIN ((291, 1124, lv, [.int r1124], cb, sb) :: [], h1123, none)
  refine bl_pop (pc' := 1125) bt_291_1124 rfl rfl ?_
  refine bl_ld (pc' := 1126) bt_291_1125 rfl rfl (fun _ _ _ => rfl) g2 rfl ?_
  refine bl_cv (pc' := 1129) (st := []) (args := []) (c := 88) (ci := 9) bt_291_1126 rfl rfl (by decide) (wl_o88 hL1125) (by decide) (Nat.succ_lt_succ (Nat.zero_lt_succ _)) rfl (Nat.le_of_ble_eq_true rfl) (Nat.le_of_ble_eq_true rfl) ?_
  refine wj_b (K := 11) (FIN := st_FIN) (g := (291, 1129, lv, [], cb, sb)) (t := []) (A := fun h' r => wl_W E wl_H x x h' ∧ wt_K h1123 h') rfl (by decide) (by decide) hL1125 (fun F9 k1 => wk_m_broom (FIN := F9) (gs := [bp_mf]) hSA hL1125 (Nat.le_of_ble_eq_true rfl) (fun h r a b => k1 _ _ ⟨a, b⟩)) (fun h1130 r1131 ⟨hL1132, K1134⟩ q1133 => ?_)
  have hR1135 := wt_RK hR1128 K1134
  have hQ1136 := wt_q hQ1129 q1133
  show bh_G E st_FIN ((291, 1129, lv, [.int r1131], cb, sb) :: [], h1130, none)
  refine bl_pop (pc' := 1130) bt_291_1129 rfl rfl ?_
  refine bl_go (pc' := 1452) bt_291_1130 rfl ?_
  exact kk _ _ _ hL1132 hR1135 hQ1136
set_option maxHeartbeats 40000000 in
theorem wl_k_27 {i x : Int32} {lv : mm_V} {h : mm_H} {o : Option Value} (hST : wt_ST E) (hSA : ∀ {x y : Int32} (ρ : Nat → Int32), en_SA E ρ (wl_o x y) mt_SB) (h8 : ∃ q, E.2[8]? = some q) (hS : bl_S E b n xs) (hn : n ≤ 3072) (g0 : mm_get lv 0 = some (.ref b)) (g1 : mm_get lv 1 = some (.ref (E.1 + 0))) (g2 : mm_get lv 2 = some (.ref (E.1 + 88))) (g3 : mm_get lv 3 = some (.int i)) (hi0 : 0 ≤ i.toInt) (hi5 : i.toInt + 6 ≤ (n : Int)) (hL : wl_W E wl_H x x h) (hR : wt_R x x h) (hQ : wt_s h 2 = wt_s h 8817) (kk : ∀ (h' : mm_H) (x' : Int32) (o' : Option Value), wl_W E wl_H x' x' h' → wt_R x' x' h' → wt_s h' 2 = wt_s h' 8817 → bh_G E st_FIN ((291, 1452, lv, [], cb, sb) :: [], h', o')) : bh_G E st_FIN ((291, 1133, lv, [], cb, sb) :: [], h, o) := by
  refine bl_ld (pc' := 1134) bt_291_1133 rfl rfl (fun _ _ _ => rfl) g1 rfl ?_
  refine bl_ld (pc' := 1135) bt_291_1134 rfl rfl (fun _ _ _ => rfl) g0 rfl ?_
  refine bl_ld (pc' := 1136) bt_291_1135 rfl rfl (fun _ _ _ => rfl) g3 rfl ?_
  refine bl_c (pc' := 1137) (n := 1) bt_291_1136 rfl rfl (fun _ _ _ => rfl) (by decide) (fun c1137 e1138 => ?_)
  refine bl_add (pc' := 1138) bt_291_1137 rfl (by omega) (by omega) (fun v1139 e1140 => ?_)
  refine bl_sc (pc' := 1139) bt_291_1138 rfl hS (by omega) (by omega) ?_
  refine bl_ld (pc' := 1140) bt_291_1139 rfl rfl (fun _ _ _ => rfl) g0 rfl ?_
  refine bl_ld (pc' := 1141) bt_291_1140 rfl rfl (fun _ _ _ => rfl) g3 rfl ?_
  refine bl_c (pc' := 1142) (n := 2) bt_291_1141 rfl rfl (fun _ _ _ => rfl) (by decide) (fun c1141 e1142 => ?_)
  refine bl_add (pc' := 1143) bt_291_1142 rfl (by omega) (by omega) (fun v1143 e1144 => ?_)
  refine bl_sc (pc' := 1144) bt_291_1143 rfl hS (by omega) (by omega) ?_
  refine bl_cv (pc' := 1147) (st := []) (args := [.int (xs (v1143).toInt.toNat), .int (xs (v1139).toInt.toNat)]) (c := 0) (ci := 8) bt_291_1144 rfl rfl (by decide) (wl_o0 hL) (by decide) (Nat.succ_lt_succ (Nat.zero_lt_succ _)) rfl (Nat.le_of_ble_eq_true rfl) (Nat.le_of_ble_eq_true rfl) ?_
  refine wj_b (K := 274) (FIN := st_FIN) (g := (291, 1147, lv, [], cb, sb)) (t := []) (A := fun h' r => wl_W E wl_H x x h' ∧ wt_K h h') rfl (by decide) (by decide) hL (fun F9 k1 => wk_c_year (FIN := F9) (gs := [bp_mf]) hSA h8 hL (Nat.le_of_ble_eq_true rfl) (fun h r a b => k1 _ _ ⟨a, b⟩)) (fun h1145 r1146 ⟨hL1147, K1149⟩ q1148 => ?_)
  have hR1150 := wt_RK hR K1149
  have hQ1151 := wt_q hQ q1148
  show bh_G E st_FIN ((291, 1147, lv, [.int r1146], cb, sb) :: [], h1145, none)
  refine bl_pop (pc' := 1148) bt_291_1147 rfl rfl ?_
  refine bl_ld (pc' := 1149) bt_291_1148 rfl rfl (fun _ _ _ => rfl) g2 rfl ?_
  refine bl_ld (pc' := 1150) bt_291_1149 rfl rfl (fun _ _ _ => rfl) g0 rfl ?_
  refine bl_ld (pc' := 1151) bt_291_1150 rfl rfl (fun _ _ _ => rfl) g3 rfl ?_
  refine bl_c (pc' := 1152) (n := 1) bt_291_1151 rfl rfl (fun _ _ _ => rfl) (by decide) (fun c1152 e1153 => ?_)
  refine bl_add (pc' := 1153) bt_291_1152 rfl (by omega) (by omega) (fun v1154 e1155 => ?_)
  refine bl_sc (pc' := 1154) bt_291_1153 rfl hS (by omega) (by omega) ?_
  refine bl_ld (pc' := 1155) bt_291_1154 rfl rfl (fun _ _ _ => rfl) g0 rfl ?_
  refine bl_ld (pc' := 1156) bt_291_1155 rfl rfl (fun _ _ _ => rfl) g3 rfl ?_
  refine bl_c (pc' := 1157) (n := 2) bt_291_1156 rfl rfl (fun _ _ _ => rfl) (by decide) (fun c1156 e1157 => ?_)
  refine bl_add (pc' := 1158) bt_291_1157 rfl (by omega) (by omega) (fun v1158 e1159 => ?_)
  refine bl_sc (pc' := 1159) bt_291_1158 rfl hS (by omega) (by omega) ?_
  refine bl_cv (pc' := 1162) (st := []) (args := [.int (xs (v1158).toInt.toNat), .int (xs (v1154).toInt.toNat)]) (c := 88) (ci := 9) bt_291_1159 rfl rfl (by decide) (wl_o88 hL1147) (by decide) (Nat.succ_lt_succ (Nat.zero_lt_succ _)) rfl (Nat.le_of_ble_eq_true rfl) (Nat.le_of_ble_eq_true rfl) ?_
  refine wj_b (K := 113) (FIN := st_FIN) (g := (291, 1162, lv, [], cb, sb)) (t := []) (A := fun h' r => wl_W E wl_H x x h' ∧ wt_K h1145 h') rfl (by decide) (by decide) hL1147 (fun F9 k1 => wk_m_year (FIN := F9) (gs := [bp_mf]) hSA hL1147 (Nat.le_of_ble_eq_true rfl) (fun h r a b => k1 _ _ ⟨a, b⟩)) (fun h1160 r1161 ⟨hL1162, K1164⟩ q1163 => ?_)
  have hR1165 := wt_RK hR1150 K1164
  have hQ1166 := wt_q hQ1151 q1163
  show bh_G E st_FIN ((291, 1162, lv, [.int r1161], cb, sb) :: [], h1160, none)
  refine bl_pop (pc' := 1163) bt_291_1162 rfl rfl ?_
  refine bl_go (pc' := 1452) bt_291_1163 rfl ?_
  exact kk _ _ _ hL1162 hR1165 hQ1166
set_option maxHeartbeats 40000000 in
theorem wl_k_28 {i x : Int32} {lv : mm_V} {h : mm_H} {o : Option Value} (hST : wt_ST E) (hSA : ∀ {x y : Int32} (ρ : Nat → Int32), en_SA E ρ (wl_o x y) mt_SB) (h8 : ∃ q, E.2[8]? = some q) (hS : bl_S E b n xs) (hn : n ≤ 3072) (g0 : mm_get lv 0 = some (.ref b)) (g1 : mm_get lv 1 = some (.ref (E.1 + 0))) (g2 : mm_get lv 2 = some (.ref (E.1 + 88))) (g3 : mm_get lv 3 = some (.int i)) (hi0 : 0 ≤ i.toInt) (hi5 : i.toInt + 6 ≤ (n : Int)) (hL : wl_W E wl_H x x h) (hR : wt_R x x h) (hQ : wt_s h 2 = wt_s h 8817) (kk : ∀ (h' : mm_H) (x' : Int32) (o' : Option Value), wl_W E wl_H x' x' h' → wt_R x' x' h' → wt_s h' 2 = wt_s h' 8817 → bh_G E st_FIN ((291, 1452, lv, [], cb, sb) :: [], h', o')) : bh_G E st_FIN ((291, 1166, lv, [], cb, sb) :: [], h, o) := by
  refine bl_ld (pc' := 1167) bt_291_1166 rfl rfl (fun _ _ _ => rfl) g1 rfl ?_
  refine bl_ld (pc' := 1168) bt_291_1167 rfl rfl (fun _ _ _ => rfl) g0 rfl ?_
  refine bl_ld (pc' := 1169) bt_291_1168 rfl rfl (fun _ _ _ => rfl) g3 rfl ?_
  refine bl_c (pc' := 1170) (n := 1) bt_291_1169 rfl rfl (fun _ _ _ => rfl) (by decide) (fun c1167 e1168 => ?_)
  refine bl_add (pc' := 1171) bt_291_1170 rfl (by omega) (by omega) (fun v1169 e1170 => ?_)
  refine bl_sc (pc' := 1172) bt_291_1171 rfl hS (by omega) (by omega) ?_
  refine bl_ld (pc' := 1173) bt_291_1172 rfl rfl (fun _ _ _ => rfl) g0 rfl ?_
  refine bl_ld (pc' := 1174) bt_291_1173 rfl rfl (fun _ _ _ => rfl) g3 rfl ?_
  refine bl_c (pc' := 1175) (n := 2) bt_291_1174 rfl rfl (fun _ _ _ => rfl) (by decide) (fun c1171 e1172 => ?_)
  refine bl_add (pc' := 1176) bt_291_1175 rfl (by omega) (by omega) (fun v1173 e1174 => ?_)
  refine bl_sc (pc' := 1177) bt_291_1176 rfl hS (by omega) (by omega) ?_
  refine bl_cv (pc' := 1180) (st := []) (args := [.int (xs (v1173).toInt.toNat), .int (xs (v1169).toInt.toNat)]) (c := 0) (ci := 8) bt_291_1177 rfl rfl (by decide) (wl_o0 hL) (by decide) (Nat.succ_lt_succ (Nat.zero_lt_succ _)) rfl (Nat.le_of_ble_eq_true rfl) (Nat.le_of_ble_eq_true rfl) ?_
  refine wj_b (K := 272) (FIN := st_FIN) (g := (291, 1180, lv, [], cb, sb)) (t := []) (A := fun h' r => wl_W E wl_H x x h' ∧ wt_K h h') rfl (by decide) (by decide) hL (fun F9 k1 => wk_c_weds (FIN := F9) (gs := [bp_mf]) hSA h8 hL (Nat.le_of_ble_eq_true rfl) (fun h r a b => k1 _ _ ⟨a, b⟩)) (fun h1175 r1176 ⟨hL1177, K1179⟩ q1178 => ?_)
  have hR1180 := wt_RK hR K1179
  have hQ1181 := wt_q hQ q1178
  show bh_G E st_FIN ((291, 1180, lv, [.int r1176], cb, sb) :: [], h1175, none)
  refine bl_pop (pc' := 1181) bt_291_1180 rfl rfl ?_
  refine bl_ld (pc' := 1182) bt_291_1181 rfl rfl (fun _ _ _ => rfl) g2 rfl ?_
  refine bl_ld (pc' := 1183) bt_291_1182 rfl rfl (fun _ _ _ => rfl) g0 rfl ?_
  refine bl_ld (pc' := 1184) bt_291_1183 rfl rfl (fun _ _ _ => rfl) g3 rfl ?_
  refine bl_c (pc' := 1185) (n := 1) bt_291_1184 rfl rfl (fun _ _ _ => rfl) (by decide) (fun c1182 e1183 => ?_)
  refine bl_add (pc' := 1186) bt_291_1185 rfl (by omega) (by omega) (fun v1184 e1185 => ?_)
  refine bl_sc (pc' := 1187) bt_291_1186 rfl hS (by omega) (by omega) ?_
  refine bl_ld (pc' := 1188) bt_291_1187 rfl rfl (fun _ _ _ => rfl) g0 rfl ?_
  refine bl_ld (pc' := 1189) bt_291_1188 rfl rfl (fun _ _ _ => rfl) g3 rfl ?_
  refine bl_c (pc' := 1190) (n := 2) bt_291_1189 rfl rfl (fun _ _ _ => rfl) (by decide) (fun c1186 e1187 => ?_)
  refine bl_add (pc' := 1191) bt_291_1190 rfl (by omega) (by omega) (fun v1188 e1189 => ?_)
  refine bl_sc (pc' := 1192) bt_291_1191 rfl hS (by omega) (by omega) ?_
  refine bl_cv (pc' := 1195) (st := []) (args := [.int (xs (v1188).toInt.toNat), .int (xs (v1184).toInt.toNat)]) (c := 88) (ci := 9) bt_291_1192 rfl rfl (by decide) (wl_o88 hL1177) (by decide) (Nat.succ_lt_succ (Nat.zero_lt_succ _)) rfl (Nat.le_of_ble_eq_true rfl) (Nat.le_of_ble_eq_true rfl) ?_
  refine wj_b (K := 109) (FIN := st_FIN) (g := (291, 1195, lv, [], cb, sb)) (t := []) (A := fun h' r => wl_W E wl_H x x h' ∧ wt_K h1175 h') rfl (by decide) (by decide) hL1177 (fun F9 k1 => wk_m_weds (FIN := F9) (gs := [bp_mf]) hSA hL1177 (Nat.le_of_ble_eq_true rfl) (fun h r a b => k1 _ _ ⟨a, b⟩)) (fun h1190 r1191 ⟨hL1192, K1194⟩ q1193 => ?_)
  have hR1195 := wt_RK hR1180 K1194
  have hQ1196 := wt_q hQ1181 q1193
  show bh_G E st_FIN ((291, 1195, lv, [.int r1191], cb, sb) :: [], h1190, none)
  refine bl_pop (pc' := 1196) bt_291_1195 rfl rfl ?_
  refine bl_go (pc' := 1452) bt_291_1196 rfl ?_
  exact kk _ _ _ hL1192 hR1195 hQ1196
set_option maxHeartbeats 40000000 in
theorem wl_k_29 {i x : Int32} {lv : mm_V} {h : mm_H} {o : Option Value} (hST : wt_ST E) (hSA : ∀ {x y : Int32} (ρ : Nat → Int32), en_SA E ρ (wl_o x y) mt_SB) (h8 : ∃ q, E.2[8]? = some q) (hS : bl_S E b n xs) (hn : n ≤ 3072) (g0 : mm_get lv 0 = some (.ref b)) (g1 : mm_get lv 1 = some (.ref (E.1 + 0))) (g2 : mm_get lv 2 = some (.ref (E.1 + 88))) (g3 : mm_get lv 3 = some (.int i)) (hi0 : 0 ≤ i.toInt) (hi5 : i.toInt + 6 ≤ (n : Int)) (hL : wl_W E wl_H x x h) (hR : wt_R x x h) (hQ : wt_s h 2 = wt_s h 8817) (kk : ∀ (h' : mm_H) (x' : Int32) (o' : Option Value), wl_W E wl_H x' x' h' → wt_R x' x' h' → wt_s h' 2 = wt_s h' 8817 → bh_G E st_FIN ((291, 1452, lv, [], cb, sb) :: [], h', o')) : bh_G E st_FIN ((291, 1199, lv, [], cb, sb) :: [], h, o) := by
  refine bl_ld (pc' := 1200) bt_291_1199 rfl rfl (fun _ _ _ => rfl) g1 rfl ?_
  refine bl_ld (pc' := 1201) bt_291_1200 rfl rfl (fun _ _ _ => rfl) g0 rfl ?_
  refine bl_ld (pc' := 1202) bt_291_1201 rfl rfl (fun _ _ _ => rfl) g3 rfl ?_
  refine bl_c (pc' := 1203) (n := 1) bt_291_1202 rfl rfl (fun _ _ _ => rfl) (by decide) (fun c1197 e1198 => ?_)
  refine bl_add (pc' := 1204) bt_291_1203 rfl (by omega) (by omega) (fun v1199 e1200 => ?_)
  refine bl_sc (pc' := 1205) bt_291_1204 rfl hS (by omega) (by omega) ?_
  refine bl_cv (pc' := 1208) (st := []) (args := [.int (xs (v1199).toInt.toNat)]) (c := 0) (ci := 8) bt_291_1205 rfl rfl (by decide) (wl_o0 hL) (by decide) (Nat.succ_lt_succ (Nat.zero_lt_succ _)) rfl (Nat.le_of_ble_eq_true rfl) (Nat.le_of_ble_eq_true rfl) ?_
  refine wj_b (K := 266) (FIN := st_FIN) (g := (291, 1208, lv, [], cb, sb)) (t := []) (A := fun h' r => wl_W E wl_H x x h' ∧ wt_K h h') rfl (by decide) (by decide) hL (fun F9 k1 => wk_c_tell (FIN := F9) (gs := [bp_mf]) hSA h8 hL (Nat.le_of_ble_eq_true rfl) (fun h r a b => k1 _ _ ⟨a, b⟩)) (fun h1201 r1202 ⟨hL1203, K1205⟩ q1204 => ?_)
  have hR1206 := wt_RK hR K1205
  have hQ1207 := wt_q hQ q1204
  show bh_G E st_FIN ((291, 1208, lv, [.int r1202], cb, sb) :: [], h1201, none)
  refine bl_pop (pc' := 1209) bt_291_1208 rfl rfl ?_
  refine bl_ld (pc' := 1210) bt_291_1209 rfl rfl (fun _ _ _ => rfl) g2 rfl ?_
  refine bl_ld (pc' := 1211) bt_291_1210 rfl rfl (fun _ _ _ => rfl) g0 rfl ?_
  refine bl_ld (pc' := 1212) bt_291_1211 rfl rfl (fun _ _ _ => rfl) g3 rfl ?_
  refine bl_c (pc' := 1213) (n := 1) bt_291_1212 rfl rfl (fun _ _ _ => rfl) (by decide) (fun c1208 e1209 => ?_)
  refine bl_add (pc' := 1214) bt_291_1213 rfl (by omega) (by omega) (fun v1210 e1211 => ?_)
  refine bl_sc (pc' := 1215) bt_291_1214 rfl hS (by omega) (by omega) ?_
  refine bl_cv (pc' := 1218) (st := []) (args := [.int (xs (v1210).toInt.toNat)]) (c := 88) (ci := 9) bt_291_1215 rfl rfl (by decide) (wl_o88 hL1203) (by decide) (Nat.succ_lt_succ (Nat.zero_lt_succ _)) rfl (Nat.le_of_ble_eq_true rfl) (Nat.le_of_ble_eq_true rfl) ?_
  refine wj_b (K := 96) (FIN := st_FIN) (g := (291, 1218, lv, [], cb, sb)) (t := []) (A := fun h' r => wl_W E wl_H x x h' ∧ wt_K h1201 h') rfl (by decide) (by decide) hL1203 (fun F9 k1 => wk_m_tell (FIN := F9) (gs := [bp_mf]) hSA hL1203 (Nat.le_of_ble_eq_true rfl) (fun h r a b => k1 _ _ ⟨a, b⟩)) (fun h1212 r1213 ⟨hL1214, K1216⟩ q1215 => ?_)
  have hR1217 := wt_RK hR1206 K1216
  have hQ1218 := wt_q hQ1207 q1215
  show bh_G E st_FIN ((291, 1218, lv, [.int r1213], cb, sb) :: [], h1212, none)
  refine bl_pop (pc' := 1219) bt_291_1218 rfl rfl ?_
  refine bl_go (pc' := 1452) bt_291_1219 rfl ?_
  exact kk _ _ _ hL1214 hR1217 hQ1218
set_option maxHeartbeats 40000000 in
theorem wl_k_30 {i x : Int32} {lv : mm_V} {h : mm_H} {o : Option Value} (hST : wt_ST E) (hSA : ∀ {x y : Int32} (ρ : Nat → Int32), en_SA E ρ (wl_o x y) mt_SB) (h8 : ∃ q, E.2[8]? = some q) (hS : bl_S E b n xs) (hn : n ≤ 3072) (g0 : mm_get lv 0 = some (.ref b)) (g1 : mm_get lv 1 = some (.ref (E.1 + 0))) (g2 : mm_get lv 2 = some (.ref (E.1 + 88))) (g3 : mm_get lv 3 = some (.int i)) (hi0 : 0 ≤ i.toInt) (hi5 : i.toInt + 6 ≤ (n : Int)) (hL : wl_W E wl_H x x h) (hR : wt_R x x h) (hQ : wt_s h 2 = wt_s h 8817) (kk : ∀ (h' : mm_H) (x' : Int32) (o' : Option Value), wl_W E wl_H x' x' h' → wt_R x' x' h' → wt_s h' 2 = wt_s h' 8817 → bh_G E st_FIN ((291, 1452, lv, [], cb, sb) :: [], h', o')) : bh_G E st_FIN ((291, 1222, lv, [], cb, sb) :: [], h, o) := by
  refine bl_ld (pc' := 1223) bt_291_1222 rfl rfl (fun _ _ _ => rfl) g1 rfl ?_
  refine bl_ld (pc' := 1224) bt_291_1223 rfl rfl (fun _ _ _ => rfl) g0 rfl ?_
  refine bl_ld (pc' := 1225) bt_291_1224 rfl rfl (fun _ _ _ => rfl) g3 rfl ?_
  refine bl_c (pc' := 1226) (n := 1) bt_291_1225 rfl rfl (fun _ _ _ => rfl) (by decide) (fun c1219 e1220 => ?_)
  refine bl_add (pc' := 1227) bt_291_1226 rfl (by omega) (by omega) (fun v1221 e1222 => ?_)
  refine bl_sc (pc' := 1228) bt_291_1227 rfl hS (by omega) (by omega) ?_
  refine bl_ld (pc' := 1229) bt_291_1228 rfl rfl (fun _ _ _ => rfl) g0 rfl ?_
  refine bl_ld (pc' := 1230) bt_291_1229 rfl rfl (fun _ _ _ => rfl) g3 rfl ?_
  refine bl_c (pc' := 1231) (n := 2) bt_291_1230 rfl rfl (fun _ _ _ => rfl) (by decide) (fun c1223 e1224 => ?_)
  refine bl_add (pc' := 1232) bt_291_1231 rfl (by omega) (by omega) (fun v1225 e1226 => ?_)
  refine bl_sc (pc' := 1233) bt_291_1232 rfl hS (by omega) (by omega) ?_
  refine bl_ld (pc' := 1234) bt_291_1233 rfl rfl (fun _ _ _ => rfl) g0 rfl ?_
  refine bl_ld (pc' := 1235) bt_291_1234 rfl rfl (fun _ _ _ => rfl) g3 rfl ?_
  refine bl_c (pc' := 1236) (n := 3) bt_291_1235 rfl rfl (fun _ _ _ => rfl) (by decide) (fun c1227 e1228 => ?_)
  refine bl_add (pc' := 1237) bt_291_1236 rfl (by omega) (by omega) (fun v1229 e1230 => ?_)
  refine bl_sc (pc' := 1238) bt_291_1237 rfl hS (by omega) (by omega) ?_
  refine bl_i0 (pc' := 1241) (pt := 1245) bt_291_1238 rfl rfl (fun k1231 => ?_) (fun k1231 => ?_)
  · replace k1231 : ((xs (v1229).toInt.toNat)).toInt = 0 := k1231
    refine bl_c (pc' := 1246) (n := 0) bt_291_1245 rfl rfl (fun _ _ _ => rfl) (by decide) (fun c1232 e1233 => ?_)
    refine bl_cv (pc' := 1249) (st := []) (args := [.int c1232, .int (xs (v1225).toInt.toNat), .int (xs (v1221).toInt.toNat)]) (c := 0) (ci := 8) bt_291_1246 rfl rfl (by decide) (wl_o0 hL) (by decide) (Nat.succ_lt_succ (Nat.zero_lt_succ _)) rfl (Nat.le_of_ble_eq_true rfl) (Nat.le_of_ble_eq_true rfl) ?_
    refine wj_b (K := 225) (FIN := st_FIN) (g := (291, 1249, lv, [], cb, sb)) (t := []) (A := fun h' r => wl_W E wl_H x x h' ∧ wt_K h h') rfl (by decide) (by decide) hL (fun F9 k1 => wk_c_cheats (FIN := F9) (gs := [bp_mf]) (by omega) hSA h8 hL (Nat.le_of_ble_eq_true rfl) (fun h r a b => k1 _ _ ⟨a, b⟩)) (fun h1234 r1235 ⟨hL1236, K1238⟩ q1237 => ?_)
    have hR1239 := wt_RK hR K1238
    have hQ1240 := wt_q hQ q1237
    show bh_G E st_FIN ((291, 1249, lv, [.int r1235], cb, sb) :: [], h1234, none)
    refine bl_pop (pc' := 1250) bt_291_1249 rfl rfl ?_
    refine bl_ld (pc' := 1251) bt_291_1250 rfl rfl (fun _ _ _ => rfl) g2 rfl ?_
    refine bl_ld (pc' := 1252) bt_291_1251 rfl rfl (fun _ _ _ => rfl) g0 rfl ?_
    refine bl_ld (pc' := 1253) bt_291_1252 rfl rfl (fun _ _ _ => rfl) g3 rfl ?_
    refine bl_c (pc' := 1254) (n := 1) bt_291_1253 rfl rfl (fun _ _ _ => rfl) (by decide) (fun c1241 e1242 => ?_)
    refine bl_add (pc' := 1255) bt_291_1254 rfl (by omega) (by omega) (fun v1243 e1244 => ?_)
    refine bl_sc (pc' := 1256) bt_291_1255 rfl hS (by omega) (by omega) ?_
    refine bl_ld (pc' := 1257) bt_291_1256 rfl rfl (fun _ _ _ => rfl) g0 rfl ?_
    refine bl_ld (pc' := 1258) bt_291_1257 rfl rfl (fun _ _ _ => rfl) g3 rfl ?_
    refine bl_c (pc' := 1259) (n := 2) bt_291_1258 rfl rfl (fun _ _ _ => rfl) (by decide) (fun c1245 e1246 => ?_)
    refine bl_add (pc' := 1260) bt_291_1259 rfl (by omega) (by omega) (fun v1247 e1248 => ?_)
    refine bl_sc (pc' := 1261) bt_291_1260 rfl hS (by omega) (by omega) ?_
    refine bl_ld (pc' := 1262) bt_291_1261 rfl rfl (fun _ _ _ => rfl) g0 rfl ?_
    refine bl_ld (pc' := 1263) bt_291_1262 rfl rfl (fun _ _ _ => rfl) g3 rfl ?_
    refine bl_c (pc' := 1264) (n := 3) bt_291_1263 rfl rfl (fun _ _ _ => rfl) (by decide) (fun c1249 e1250 => ?_)
    refine bl_add (pc' := 1265) bt_291_1264 rfl (by omega) (by omega) (fun v1251 e1252 => ?_)
    refine bl_sc (pc' := 1266) bt_291_1265 rfl hS (by omega) (by omega) ?_
    refine bl_i0 (pc' := 1269) (pt := 1273) bt_291_1266 rfl rfl (fun k1253 => ?_) (fun k1253 => ?_)
    · replace k1253 : ((xs (v1251).toInt.toNat)).toInt = 0 := k1253
      refine bl_c (pc' := 1274) (n := 0) bt_291_1273 rfl rfl (fun _ _ _ => rfl) (by decide) (fun c1254 e1255 => ?_)
      refine bl_cv (pc' := 1277) (st := []) (args := [.int c1254, .int (xs (v1247).toInt.toNat), .int (xs (v1243).toInt.toNat)]) (c := 88) (ci := 9) bt_291_1274 rfl rfl (by decide) (wl_o88 hL1236) (by decide) (Nat.succ_lt_succ (Nat.zero_lt_succ _)) rfl (Nat.le_of_ble_eq_true rfl) (Nat.le_of_ble_eq_true rfl) ?_
      refine wj_b (K := 14) (FIN := st_FIN) (g := (291, 1277, lv, [], cb, sb)) (t := []) (A := fun h' r => wl_W E wl_H x x h' ∧ wt_K h1234 h') rfl (by decide) (by decide) hL1236 (fun F9 k1 => wk_m_cheats (FIN := F9) (gs := [bp_mf]) (by omega) hSA hL1236 (Nat.le_of_ble_eq_true rfl) (fun h r a b => k1 _ _ ⟨a, b⟩)) (fun h1256 r1257 ⟨hL1258, K1260⟩ q1259 => ?_)
      have hR1261 := wt_RK hR1239 K1260
      have hQ1262 := wt_q hQ1240 q1259
      show bh_G E st_FIN ((291, 1277, lv, [.int r1257], cb, sb) :: [], h1256, none)
      refine bl_pop (pc' := 1278) bt_291_1277 rfl rfl ?_
      refine bl_go (pc' := 1452) bt_291_1278 rfl ?_
      exact kk _ _ _ hL1258 hR1261 hQ1262
    · replace k1253 : ¬ (((xs (v1251).toInt.toNat)).toInt = 0) := k1253
      refine bl_c (pc' := 1270) (n := 1) bt_291_1269 rfl rfl (fun _ _ _ => rfl) (by decide) (fun c1263 e1264 => ?_)
      refine bl_go (pc' := 1274) bt_291_1270 rfl ?_
      refine bl_cv (pc' := 1277) (st := []) (args := [.int c1263, .int (xs (v1247).toInt.toNat), .int (xs (v1243).toInt.toNat)]) (c := 88) (ci := 9) bt_291_1274 rfl rfl (by decide) (wl_o88 hL1236) (by decide) (Nat.succ_lt_succ (Nat.zero_lt_succ _)) rfl (Nat.le_of_ble_eq_true rfl) (Nat.le_of_ble_eq_true rfl) ?_
      refine wj_b (K := 14) (FIN := st_FIN) (g := (291, 1277, lv, [], cb, sb)) (t := []) (A := fun h' r => wl_W E wl_H x x h' ∧ wt_K h1234 h') rfl (by decide) (by decide) hL1236 (fun F9 k1 => wk_m_cheats (FIN := F9) (gs := [bp_mf]) (by omega) hSA hL1236 (Nat.le_of_ble_eq_true rfl) (fun h r a b => k1 _ _ ⟨a, b⟩)) (fun h1265 r1266 ⟨hL1267, K1269⟩ q1268 => ?_)
      have hR1270 := wt_RK hR1239 K1269
      have hQ1271 := wt_q hQ1240 q1268
      show bh_G E st_FIN ((291, 1277, lv, [.int r1266], cb, sb) :: [], h1265, none)
      refine bl_pop (pc' := 1278) bt_291_1277 rfl rfl ?_
      refine bl_go (pc' := 1452) bt_291_1278 rfl ?_
      exact kk _ _ _ hL1267 hR1270 hQ1271
  · replace k1231 : ¬ (((xs (v1229).toInt.toNat)).toInt = 0) := k1231
    refine bl_c (pc' := 1242) (n := 1) bt_291_1241 rfl rfl (fun _ _ _ => rfl) (by decide) (fun c1272 e1273 => ?_)
    refine bl_go (pc' := 1246) bt_291_1242 rfl ?_
    refine bl_cv (pc' := 1249) (st := []) (args := [.int c1272, .int (xs (v1225).toInt.toNat), .int (xs (v1221).toInt.toNat)]) (c := 0) (ci := 8) bt_291_1246 rfl rfl (by decide) (wl_o0 hL) (by decide) (Nat.succ_lt_succ (Nat.zero_lt_succ _)) rfl (Nat.le_of_ble_eq_true rfl) (Nat.le_of_ble_eq_true rfl) ?_
    refine wj_b (K := 225) (FIN := st_FIN) (g := (291, 1249, lv, [], cb, sb)) (t := []) (A := fun h' r => wl_W E wl_H x x h' ∧ wt_K h h') rfl (by decide) (by decide) hL (fun F9 k1 => wk_c_cheats (FIN := F9) (gs := [bp_mf]) (by omega) hSA h8 hL (Nat.le_of_ble_eq_true rfl) (fun h r a b => k1 _ _ ⟨a, b⟩)) (fun h1274 r1275 ⟨hL1276, K1278⟩ q1277 => ?_)
    have hR1279 := wt_RK hR K1278
    have hQ1280 := wt_q hQ q1277
    show bh_G E st_FIN ((291, 1249, lv, [.int r1275], cb, sb) :: [], h1274, none)
    refine bl_pop (pc' := 1250) bt_291_1249 rfl rfl ?_
    refine bl_ld (pc' := 1251) bt_291_1250 rfl rfl (fun _ _ _ => rfl) g2 rfl ?_
    refine bl_ld (pc' := 1252) bt_291_1251 rfl rfl (fun _ _ _ => rfl) g0 rfl ?_
    refine bl_ld (pc' := 1253) bt_291_1252 rfl rfl (fun _ _ _ => rfl) g3 rfl ?_
    refine bl_c (pc' := 1254) (n := 1) bt_291_1253 rfl rfl (fun _ _ _ => rfl) (by decide) (fun c1281 e1282 => ?_)
    refine bl_add (pc' := 1255) bt_291_1254 rfl (by omega) (by omega) (fun v1283 e1284 => ?_)
    refine bl_sc (pc' := 1256) bt_291_1255 rfl hS (by omega) (by omega) ?_
    refine bl_ld (pc' := 1257) bt_291_1256 rfl rfl (fun _ _ _ => rfl) g0 rfl ?_
    refine bl_ld (pc' := 1258) bt_291_1257 rfl rfl (fun _ _ _ => rfl) g3 rfl ?_
    refine bl_c (pc' := 1259) (n := 2) bt_291_1258 rfl rfl (fun _ _ _ => rfl) (by decide) (fun c1285 e1286 => ?_)
    refine bl_add (pc' := 1260) bt_291_1259 rfl (by omega) (by omega) (fun v1287 e1288 => ?_)
    refine bl_sc (pc' := 1261) bt_291_1260 rfl hS (by omega) (by omega) ?_
    refine bl_ld (pc' := 1262) bt_291_1261 rfl rfl (fun _ _ _ => rfl) g0 rfl ?_
    refine bl_ld (pc' := 1263) bt_291_1262 rfl rfl (fun _ _ _ => rfl) g3 rfl ?_
    refine bl_c (pc' := 1264) (n := 3) bt_291_1263 rfl rfl (fun _ _ _ => rfl) (by decide) (fun c1289 e1290 => ?_)
    refine bl_add (pc' := 1265) bt_291_1264 rfl (by omega) (by omega) (fun v1291 e1292 => ?_)
    refine bl_sc (pc' := 1266) bt_291_1265 rfl hS (by omega) (by omega) ?_
    refine bl_i0 (pc' := 1269) (pt := 1273) bt_291_1266 rfl rfl (fun k1293 => ?_) (fun k1293 => ?_)
    · replace k1293 : ((xs (v1291).toInt.toNat)).toInt = 0 := k1293
      refine bl_c (pc' := 1274) (n := 0) bt_291_1273 rfl rfl (fun _ _ _ => rfl) (by decide) (fun c1294 e1295 => ?_)
      refine bl_cv (pc' := 1277) (st := []) (args := [.int c1294, .int (xs (v1287).toInt.toNat), .int (xs (v1283).toInt.toNat)]) (c := 88) (ci := 9) bt_291_1274 rfl rfl (by decide) (wl_o88 hL1276) (by decide) (Nat.succ_lt_succ (Nat.zero_lt_succ _)) rfl (Nat.le_of_ble_eq_true rfl) (Nat.le_of_ble_eq_true rfl) ?_
      refine wj_b (K := 14) (FIN := st_FIN) (g := (291, 1277, lv, [], cb, sb)) (t := []) (A := fun h' r => wl_W E wl_H x x h' ∧ wt_K h1274 h') rfl (by decide) (by decide) hL1276 (fun F9 k1 => wk_m_cheats (FIN := F9) (gs := [bp_mf]) (by omega) hSA hL1276 (Nat.le_of_ble_eq_true rfl) (fun h r a b => k1 _ _ ⟨a, b⟩)) (fun h1296 r1297 ⟨hL1298, K1300⟩ q1299 => ?_)
      have hR1301 := wt_RK hR1279 K1300
      have hQ1302 := wt_q hQ1280 q1299
      show bh_G E st_FIN ((291, 1277, lv, [.int r1297], cb, sb) :: [], h1296, none)
      refine bl_pop (pc' := 1278) bt_291_1277 rfl rfl ?_
      refine bl_go (pc' := 1452) bt_291_1278 rfl ?_
      exact kk _ _ _ hL1298 hR1301 hQ1302
    · replace k1293 : ¬ (((xs (v1291).toInt.toNat)).toInt = 0) := k1293
      refine bl_c (pc' := 1270) (n := 1) bt_291_1269 rfl rfl (fun _ _ _ => rfl) (by decide) (fun c1303 e1304 => ?_)
      refine bl_go (pc' := 1274) bt_291_1270 rfl ?_
      refine bl_cv (pc' := 1277) (st := []) (args := [.int c1303, .int (xs (v1287).toInt.toNat), .int (xs (v1283).toInt.toNat)]) (c := 88) (ci := 9) bt_291_1274 rfl rfl (by decide) (wl_o88 hL1276) (by decide) (Nat.succ_lt_succ (Nat.zero_lt_succ _)) rfl (Nat.le_of_ble_eq_true rfl) (Nat.le_of_ble_eq_true rfl) ?_
      refine wj_b (K := 14) (FIN := st_FIN) (g := (291, 1277, lv, [], cb, sb)) (t := []) (A := fun h' r => wl_W E wl_H x x h' ∧ wt_K h1274 h') rfl (by decide) (by decide) hL1276 (fun F9 k1 => wk_m_cheats (FIN := F9) (gs := [bp_mf]) (by omega) hSA hL1276 (Nat.le_of_ble_eq_true rfl) (fun h r a b => k1 _ _ ⟨a, b⟩)) (fun h1305 r1306 ⟨hL1307, K1309⟩ q1308 => ?_)
      have hR1310 := wt_RK hR1279 K1309
      have hQ1311 := wt_q hQ1280 q1308
      show bh_G E st_FIN ((291, 1277, lv, [.int r1306], cb, sb) :: [], h1305, none)
      refine bl_pop (pc' := 1278) bt_291_1277 rfl rfl ?_
      refine bl_go (pc' := 1452) bt_291_1278 rfl ?_
      exact kk _ _ _ hL1307 hR1310 hQ1311
set_option maxHeartbeats 40000000 in
theorem wl_k_31 {i x : Int32} {lv : mm_V} {h : mm_H} {o : Option Value} (hST : wt_ST E) (hSA : ∀ {x y : Int32} (ρ : Nat → Int32), en_SA E ρ (wl_o x y) mt_SB) (h8 : ∃ q, E.2[8]? = some q) (hS : bl_S E b n xs) (hn : n ≤ 3072) (g0 : mm_get lv 0 = some (.ref b)) (g1 : mm_get lv 1 = some (.ref (E.1 + 0))) (g2 : mm_get lv 2 = some (.ref (E.1 + 88))) (g3 : mm_get lv 3 = some (.int i)) (hi0 : 0 ≤ i.toInt) (hi5 : i.toInt + 6 ≤ (n : Int)) (hL : wl_W E wl_H x x h) (hR : wt_R x x h) (hQ : wt_s h 2 = wt_s h 8817) (kk : ∀ (h' : mm_H) (x' : Int32) (o' : Option Value), wl_W E wl_H x' x' h' → wt_R x' x' h' → wt_s h' 2 = wt_s h' 8817 → bh_G E st_FIN ((291, 1452, lv, [], cb, sb) :: [], h', o')) : bh_G E st_FIN ((291, 1281, lv, [], cb, sb) :: [], h, o) := by
  refine bl_ld (pc' := 1282) bt_291_1281 rfl rfl (fun _ _ _ => rfl) g1 rfl ?_
  refine bl_ld (pc' := 1283) bt_291_1282 rfl rfl (fun _ _ _ => rfl) g0 rfl ?_
  refine bl_ld (pc' := 1284) bt_291_1283 rfl rfl (fun _ _ _ => rfl) g3 rfl ?_
  refine bl_c (pc' := 1285) (n := 1) bt_291_1284 rfl rfl (fun _ _ _ => rfl) (by decide) (fun c1312 e1313 => ?_)
  refine bl_add (pc' := 1286) bt_291_1285 rfl (by omega) (by omega) (fun v1314 e1315 => ?_)
  refine bl_sc (pc' := 1287) bt_291_1286 rfl hS (by omega) (by omega) ?_
  refine bl_cv (pc' := 1290) (st := []) (args := [.int (xs (v1314).toInt.toNat)]) (c := 0) (ci := 8) bt_291_1287 rfl rfl (by decide) (wl_o0 hL) (by decide) (Nat.succ_lt_succ (Nat.zero_lt_succ _)) rfl (Nat.le_of_ble_eq_true rfl) (Nat.le_of_ble_eq_true rfl) ?_
  refine wj_b (K := 264) (FIN := st_FIN) (g := (291, 1290, lv, [], cb, sb)) (t := []) (A := fun h' r => wl_W E wl_H x x h' ∧ wt_K h h') rfl (by decide) (by decide) hL (fun F9 k1 => wk_c_surely (FIN := F9) (gs := [bp_mf]) hSA h8 hL (Nat.le_of_ble_eq_true rfl) (fun h r a b => k1 _ _ ⟨a, b⟩)) (fun h1316 r1317 ⟨hL1318, K1320⟩ q1319 => ?_)
  have hR1321 := wt_RK hR K1320
  have hQ1322 := wt_q hQ q1319
  show bh_G E st_FIN ((291, 1290, lv, [.int r1317], cb, sb) :: [], h1316, none)
  refine bl_pop (pc' := 1291) bt_291_1290 rfl rfl ?_
  refine bl_ld (pc' := 1292) bt_291_1291 rfl rfl (fun _ _ _ => rfl) g2 rfl ?_
  refine bl_ld (pc' := 1293) bt_291_1292 rfl rfl (fun _ _ _ => rfl) g0 rfl ?_
  refine bl_ld (pc' := 1294) bt_291_1293 rfl rfl (fun _ _ _ => rfl) g3 rfl ?_
  refine bl_c (pc' := 1295) (n := 1) bt_291_1294 rfl rfl (fun _ _ _ => rfl) (by decide) (fun c1323 e1324 => ?_)
  refine bl_add (pc' := 1296) bt_291_1295 rfl (by omega) (by omega) (fun v1325 e1326 => ?_)
  refine bl_sc (pc' := 1297) bt_291_1296 rfl hS (by omega) (by omega) ?_
  refine bl_cv (pc' := 1300) (st := []) (args := [.int (xs (v1325).toInt.toNat)]) (c := 88) (ci := 9) bt_291_1297 rfl rfl (by decide) (wl_o88 hL1318) (by decide) (Nat.succ_lt_succ (Nat.zero_lt_succ _)) rfl (Nat.le_of_ble_eq_true rfl) (Nat.le_of_ble_eq_true rfl) ?_
  refine wj_b (K := 95) (FIN := st_FIN) (g := (291, 1300, lv, [], cb, sb)) (t := []) (A := fun h' r => wl_W E wl_H x x h' ∧ wt_K h1316 h') rfl (by decide) (by decide) hL1318 (fun F9 k1 => wk_m_surely (FIN := F9) (gs := [bp_mf]) hSA hL1318 (Nat.le_of_ble_eq_true rfl) (fun h r a b => k1 _ _ ⟨a, b⟩)) (fun h1327 r1328 ⟨hL1329, K1331⟩ q1330 => ?_)
  have hR1332 := wt_RK hR1321 K1331
  have hQ1333 := wt_q hQ1322 q1330
  show bh_G E st_FIN ((291, 1300, lv, [.int r1328], cb, sb) :: [], h1327, none)
  refine bl_pop (pc' := 1301) bt_291_1300 rfl rfl ?_
  refine bl_go (pc' := 1452) bt_291_1301 rfl ?_
  exact kk _ _ _ hL1329 hR1332 hQ1333
set_option maxHeartbeats 40000000 in
theorem wl_k_32 {i x : Int32} {lv : mm_V} {h : mm_H} {o : Option Value} (hST : wt_ST E) (hSA : ∀ {x y : Int32} (ρ : Nat → Int32), en_SA E ρ (wl_o x y) mt_SB) (h8 : ∃ q, E.2[8]? = some q) (hS : bl_S E b n xs) (hn : n ≤ 3072) (g0 : mm_get lv 0 = some (.ref b)) (g1 : mm_get lv 1 = some (.ref (E.1 + 0))) (g2 : mm_get lv 2 = some (.ref (E.1 + 88))) (g3 : mm_get lv 3 = some (.int i)) (hi0 : 0 ≤ i.toInt) (hi5 : i.toInt + 6 ≤ (n : Int)) (hL : wl_W E wl_H x x h) (hR : wt_R x x h) (hQ : wt_s h 2 = wt_s h 8817) (kk : ∀ (h' : mm_H) (x' : Int32) (o' : Option Value), wl_W E wl_H x' x' h' → wt_R x' x' h' → wt_s h' 2 = wt_s h' 8817 → bh_G E st_FIN ((291, 1452, lv, [], cb, sb) :: [], h', o')) : bh_G E st_FIN ((291, 1304, lv, [], cb, sb) :: [], h, o) := by
  refine bl_ld (pc' := 1305) bt_291_1304 rfl rfl (fun _ _ _ => rfl) g1 rfl ?_
  refine bl_ld (pc' := 1306) bt_291_1305 rfl rfl (fun _ _ _ => rfl) g0 rfl ?_
  refine bl_ld (pc' := 1307) bt_291_1306 rfl rfl (fun _ _ _ => rfl) g3 rfl ?_
  refine bl_c (pc' := 1308) (n := 1) bt_291_1307 rfl rfl (fun _ _ _ => rfl) (by decide) (fun c1334 e1335 => ?_)
  refine bl_add (pc' := 1309) bt_291_1308 rfl (by omega) (by omega) (fun v1336 e1337 => ?_)
  refine bl_sc (pc' := 1310) bt_291_1309 rfl hS (by omega) (by omega) ?_
  refine bl_ld (pc' := 1311) bt_291_1310 rfl rfl (fun _ _ _ => rfl) g0 rfl ?_
  refine bl_ld (pc' := 1312) bt_291_1311 rfl rfl (fun _ _ _ => rfl) g3 rfl ?_
  refine bl_c (pc' := 1313) (n := 2) bt_291_1312 rfl rfl (fun _ _ _ => rfl) (by decide) (fun c1338 e1339 => ?_)
  refine bl_add (pc' := 1314) bt_291_1313 rfl (by omega) (by omega) (fun v1340 e1341 => ?_)
  refine bl_sc (pc' := 1315) bt_291_1314 rfl hS (by omega) (by omega) ?_
  refine bl_cv (pc' := 1318) (st := []) (args := [.int (xs (v1340).toInt.toNat), .int (xs (v1336).toInt.toNat)]) (c := 0) (ci := 8) bt_291_1315 rfl rfl (by decide) (wl_o0 hL) (by decide) (Nat.succ_lt_succ (Nat.zero_lt_succ _)) rfl (Nat.le_of_ble_eq_true rfl) (Nat.le_of_ble_eq_true rfl) ?_
  refine wj_b (K := 243) (FIN := st_FIN) (g := (291, 1318, lv, [], cb, sb)) (t := []) (A := fun h' r => wl_W E wl_H x x h' ∧ wt_K h h') rfl (by decide) (by decide) hL (fun F9 k1 => wk_c_log (FIN := F9) (gs := [bp_mf]) hSA h8 hL (Nat.le_of_ble_eq_true rfl) (fun h r a b => k1 _ _ ⟨a, b⟩)) (fun h1342 r1343 ⟨hL1344, K1346⟩ q1345 => ?_)
  have hR1347 := wt_RK hR K1346
  have hQ1348 := wt_q hQ q1345
  show bh_G E st_FIN ((291, 1318, lv, [.int r1343], cb, sb) :: [], h1342, none)
  refine bl_pop (pc' := 1319) bt_291_1318 rfl rfl ?_
  refine bl_ld (pc' := 1320) bt_291_1319 rfl rfl (fun _ _ _ => rfl) g2 rfl ?_
  refine bl_ld (pc' := 1321) bt_291_1320 rfl rfl (fun _ _ _ => rfl) g0 rfl ?_
  refine bl_ld (pc' := 1322) bt_291_1321 rfl rfl (fun _ _ _ => rfl) g3 rfl ?_
  refine bl_c (pc' := 1323) (n := 1) bt_291_1322 rfl rfl (fun _ _ _ => rfl) (by decide) (fun c1349 e1350 => ?_)
  refine bl_add (pc' := 1324) bt_291_1323 rfl (by omega) (by omega) (fun v1351 e1352 => ?_)
  refine bl_sc (pc' := 1325) bt_291_1324 rfl hS (by omega) (by omega) ?_
  refine bl_ld (pc' := 1326) bt_291_1325 rfl rfl (fun _ _ _ => rfl) g0 rfl ?_
  refine bl_ld (pc' := 1327) bt_291_1326 rfl rfl (fun _ _ _ => rfl) g3 rfl ?_
  refine bl_c (pc' := 1328) (n := 2) bt_291_1327 rfl rfl (fun _ _ _ => rfl) (by decide) (fun c1353 e1354 => ?_)
  refine bl_add (pc' := 1329) bt_291_1328 rfl (by omega) (by omega) (fun v1355 e1356 => ?_)
  refine bl_sc (pc' := 1330) bt_291_1329 rfl hS (by omega) (by omega) ?_
  refine bl_cv (pc' := 1333) (st := []) (args := [.int (xs (v1355).toInt.toNat), .int (xs (v1351).toInt.toNat)]) (c := 88) (ci := 9) bt_291_1330 rfl rfl (by decide) (wl_o88 hL1344) (by decide) (Nat.succ_lt_succ (Nat.zero_lt_succ _)) rfl (Nat.le_of_ble_eq_true rfl) (Nat.le_of_ble_eq_true rfl) ?_
  refine wj_b (K := 60) (FIN := st_FIN) (g := (291, 1333, lv, [], cb, sb)) (t := []) (A := fun h' r => wl_W E wl_H x x h' ∧ wt_K h1342 h') rfl (by decide) (by decide) hL1344 (fun F9 k1 => wk_m_log (FIN := F9) (gs := [bp_mf]) hSA hL1344 (Nat.le_of_ble_eq_true rfl) (fun h r a b => k1 _ _ ⟨a, b⟩)) (fun h1357 r1358 ⟨hL1359, K1361⟩ q1360 => ?_)
  have hR1362 := wt_RK hR1347 K1361
  have hQ1363 := wt_q hQ1348 q1360
  show bh_G E st_FIN ((291, 1333, lv, [.int r1358], cb, sb) :: [], h1357, none)
  refine bl_pop (pc' := 1334) bt_291_1333 rfl rfl ?_
  refine bl_go (pc' := 1452) bt_291_1334 rfl ?_
  exact kk _ _ _ hL1359 hR1362 hQ1363
set_option maxHeartbeats 40000000 in
theorem wl_k_33 {i x : Int32} {lv : mm_V} {h : mm_H} {o : Option Value} (hST : wt_ST E) (hSA : ∀ {x y : Int32} (ρ : Nat → Int32), en_SA E ρ (wl_o x y) mt_SB) (h8 : ∃ q, E.2[8]? = some q) (hS : bl_S E b n xs) (hn : n ≤ 3072) (g0 : mm_get lv 0 = some (.ref b)) (g1 : mm_get lv 1 = some (.ref (E.1 + 0))) (g2 : mm_get lv 2 = some (.ref (E.1 + 88))) (g3 : mm_get lv 3 = some (.int i)) (hi0 : 0 ≤ i.toInt) (hi5 : i.toInt + 6 ≤ (n : Int)) (hL : wl_W E wl_H x x h) (hR : wt_R x x h) (hQ : wt_s h 2 = wt_s h 8817) (kk : ∀ (h' : mm_H) (x' : Int32) (o' : Option Value), wl_W E wl_H x' x' h' → wt_R x' x' h' → wt_s h' 2 = wt_s h' 8817 → bh_G E st_FIN ((291, 1452, lv, [], cb, sb) :: [], h', o')) : bh_G E st_FIN ((291, 1337, lv, [], cb, sb) :: [], h, o) := by
  refine bl_ld (pc' := 1338) bt_291_1337 rfl rfl (fun _ _ _ => rfl) g1 rfl ?_
  refine bl_ld (pc' := 1339) bt_291_1338 rfl rfl (fun _ _ _ => rfl) g0 rfl ?_
  refine bl_ld (pc' := 1340) bt_291_1339 rfl rfl (fun _ _ _ => rfl) g3 rfl ?_
  refine bl_c (pc' := 1341) (n := 1) bt_291_1340 rfl rfl (fun _ _ _ => rfl) (by decide) (fun c1364 e1365 => ?_)
  refine bl_add (pc' := 1342) bt_291_1341 rfl (by omega) (by omega) (fun v1366 e1367 => ?_)
  refine bl_sc (pc' := 1343) bt_291_1342 rfl hS (by omega) (by omega) ?_
  refine bl_ld (pc' := 1344) bt_291_1343 rfl rfl (fun _ _ _ => rfl) g0 rfl ?_
  refine bl_ld (pc' := 1345) bt_291_1344 rfl rfl (fun _ _ _ => rfl) g3 rfl ?_
  refine bl_c (pc' := 1346) (n := 2) bt_291_1345 rfl rfl (fun _ _ _ => rfl) (by decide) (fun c1368 e1369 => ?_)
  refine bl_add (pc' := 1347) bt_291_1346 rfl (by omega) (by omega) (fun v1370 e1371 => ?_)
  refine bl_sc (pc' := 1348) bt_291_1347 rfl hS (by omega) (by omega) ?_
  refine bl_cv (pc' := 1351) (st := []) (args := [.int (xs (v1370).toInt.toNat), .int (xs (v1366).toInt.toNat)]) (c := 0) (ci := 8) bt_291_1348 rfl rfl (by decide) (wl_o0 hL) (by decide) (Nat.succ_lt_succ (Nat.zero_lt_succ _)) rfl (Nat.le_of_ble_eq_true rfl) (Nat.le_of_ble_eq_true rfl) ?_
  refine wj_b (K := 222) (FIN := st_FIN) (g := (291, 1351, lv, [], cb, sb)) (t := []) (A := fun h' r => wl_W E wl_H x x h' ∧ wt_K h h') rfl (by decide) (by decide) hL (fun F9 k1 => wk_c_began (FIN := F9) (gs := [bp_mf]) hSA h8 hL (Nat.le_of_ble_eq_true rfl) (fun h r a b => k1 _ _ ⟨a, b⟩)) (fun h1372 r1373 ⟨hL1374, K1376⟩ q1375 => ?_)
  have hR1377 := wt_RK hR K1376
  have hQ1378 := wt_q hQ q1375
  show bh_G E st_FIN ((291, 1351, lv, [.int r1373], cb, sb) :: [], h1372, none)
  refine bl_pop (pc' := 1352) bt_291_1351 rfl rfl ?_
  refine bl_ld (pc' := 1353) bt_291_1352 rfl rfl (fun _ _ _ => rfl) g2 rfl ?_
  refine bl_ld (pc' := 1354) bt_291_1353 rfl rfl (fun _ _ _ => rfl) g0 rfl ?_
  refine bl_ld (pc' := 1355) bt_291_1354 rfl rfl (fun _ _ _ => rfl) g3 rfl ?_
  refine bl_c (pc' := 1356) (n := 1) bt_291_1355 rfl rfl (fun _ _ _ => rfl) (by decide) (fun c1379 e1380 => ?_)
  refine bl_add (pc' := 1357) bt_291_1356 rfl (by omega) (by omega) (fun v1381 e1382 => ?_)
  refine bl_sc (pc' := 1358) bt_291_1357 rfl hS (by omega) (by omega) ?_
  refine bl_ld (pc' := 1359) bt_291_1358 rfl rfl (fun _ _ _ => rfl) g0 rfl ?_
  refine bl_ld (pc' := 1360) bt_291_1359 rfl rfl (fun _ _ _ => rfl) g3 rfl ?_
  refine bl_c (pc' := 1361) (n := 2) bt_291_1360 rfl rfl (fun _ _ _ => rfl) (by decide) (fun c1383 e1384 => ?_)
  refine bl_add (pc' := 1362) bt_291_1361 rfl (by omega) (by omega) (fun v1385 e1386 => ?_)
  refine bl_sc (pc' := 1363) bt_291_1362 rfl hS (by omega) (by omega) ?_
  refine bl_cv (pc' := 1366) (st := []) (args := [.int (xs (v1385).toInt.toNat), .int (xs (v1381).toInt.toNat)]) (c := 88) (ci := 9) bt_291_1363 rfl rfl (by decide) (wl_o88 hL1374) (by decide) (Nat.succ_lt_succ (Nat.zero_lt_succ _)) rfl (Nat.le_of_ble_eq_true rfl) (Nat.le_of_ble_eq_true rfl) ?_
  refine wj_b (K := 6) (FIN := st_FIN) (g := (291, 1366, lv, [], cb, sb)) (t := []) (A := fun h' r => wl_W E wl_H x x h' ∧ wt_K h1372 h') rfl (by decide) (by decide) hL1374 (fun F9 k1 => wk_m_began (FIN := F9) (gs := [bp_mf]) hSA hL1374 (Nat.le_of_ble_eq_true rfl) (fun h r a b => k1 _ _ ⟨a, b⟩)) (fun h1387 r1388 ⟨hL1389, K1391⟩ q1390 => ?_)
  have hR1392 := wt_RK hR1377 K1391
  have hQ1393 := wt_q hQ1378 q1390
  show bh_G E st_FIN ((291, 1366, lv, [.int r1388], cb, sb) :: [], h1387, none)
  refine bl_pop (pc' := 1367) bt_291_1366 rfl rfl ?_
  refine bl_go (pc' := 1452) bt_291_1367 rfl ?_
  exact kk _ _ _ hL1389 hR1392 hQ1393
set_option maxHeartbeats 40000000 in
theorem wl_k_34 {i x : Int32} {lv : mm_V} {h : mm_H} {o : Option Value} (hST : wt_ST E) (hSA : ∀ {x y : Int32} (ρ : Nat → Int32), en_SA E ρ (wl_o x y) mt_SB) (h8 : ∃ q, E.2[8]? = some q) (hS : bl_S E b n xs) (hn : n ≤ 3072) (g0 : mm_get lv 0 = some (.ref b)) (g1 : mm_get lv 1 = some (.ref (E.1 + 0))) (g2 : mm_get lv 2 = some (.ref (E.1 + 88))) (g3 : mm_get lv 3 = some (.int i)) (hi0 : 0 ≤ i.toInt) (hi5 : i.toInt + 6 ≤ (n : Int)) (hL : wl_W E wl_H x x h) (hR : wt_R x x h) (hQ : wt_s h 2 = wt_s h 8817) (kk : ∀ (h' : mm_H) (x' : Int32) (o' : Option Value), wl_W E wl_H x' x' h' → wt_R x' x' h' → wt_s h' 2 = wt_s h' 8817 → bh_G E st_FIN ((291, 1452, lv, [], cb, sb) :: [], h', o')) : bh_G E st_FIN ((291, 1370, lv, [], cb, sb) :: [], h, o) := by
  refine bl_ld (pc' := 1371) bt_291_1370 rfl rfl (fun _ _ _ => rfl) g1 rfl ?_
  refine bl_cv (pc' := 1374) (st := []) (args := []) (c := 0) (ci := 8) bt_291_1371 rfl rfl (by decide) (wl_o0 hL) (by decide) (Nat.succ_lt_succ (Nat.zero_lt_succ _)) rfl (Nat.le_of_ble_eq_true rfl) (Nat.le_of_ble_eq_true rfl) ?_
  refine wj_b (K := 232) (FIN := st_FIN) (g := (291, 1374, lv, [], cb, sb)) (t := []) (A := fun h' r => wl_W E wl_H x x h' ∧ wt_K h h') rfl (by decide) (by decide) hL (fun F9 k1 => wk_c_forget (FIN := F9) (gs := [bp_mf]) hSA h8 hL (Nat.le_of_ble_eq_true rfl) (fun h r a b => k1 _ _ ⟨a, b⟩)) (fun h1394 r1395 ⟨hL1396, K1398⟩ q1397 => ?_)
  have hR1399 := wt_RK hR K1398
  have hQ1400 := wt_q hQ q1397
  show bh_G E st_FIN ((291, 1374, lv, [.int r1395], cb, sb) :: [], h1394, none)
  refine bl_pop (pc' := 1375) bt_291_1374 rfl rfl ?_
  refine bl_ld (pc' := 1376) bt_291_1375 rfl rfl (fun _ _ _ => rfl) g2 rfl ?_
  refine bl_cv (pc' := 1379) (st := []) (args := []) (c := 88) (ci := 9) bt_291_1376 rfl rfl (by decide) (wl_o88 hL1396) (by decide) (Nat.succ_lt_succ (Nat.zero_lt_succ _)) rfl (Nat.le_of_ble_eq_true rfl) (Nat.le_of_ble_eq_true rfl) ?_
  refine wj_b (K := 35) (FIN := st_FIN) (g := (291, 1379, lv, [], cb, sb)) (t := []) (A := fun h' r => wl_W E wl_H x x h' ∧ wt_K h1394 h') rfl (by decide) (by decide) hL1396 (fun F9 k1 => wk_m_forget (FIN := F9) (gs := [bp_mf]) hSA hL1396 (Nat.le_of_ble_eq_true rfl) (fun h r a b => k1 _ _ ⟨a, b⟩)) (fun h1401 r1402 ⟨hL1403, K1405⟩ q1404 => ?_)
  have hR1406 := wt_RK hR1399 K1405
  have hQ1407 := wt_q hQ1400 q1404
  show bh_G E st_FIN ((291, 1379, lv, [.int r1402], cb, sb) :: [], h1401, none)
  refine bl_pop (pc' := 1380) bt_291_1379 rfl rfl ?_
  refine bl_go (pc' := 1452) bt_291_1380 rfl ?_
  exact kk _ _ _ hL1403 hR1406 hQ1407
set_option maxHeartbeats 40000000 in
theorem wl_k_35 {i x : Int32} {lv : mm_V} {h : mm_H} {o : Option Value} (hST : wt_ST E) (hSA : ∀ {x y : Int32} (ρ : Nat → Int32), en_SA E ρ (wl_o x y) mt_SB) (h8 : ∃ q, E.2[8]? = some q) (hS : bl_S E b n xs) (hn : n ≤ 3072) (g0 : mm_get lv 0 = some (.ref b)) (g1 : mm_get lv 1 = some (.ref (E.1 + 0))) (g2 : mm_get lv 2 = some (.ref (E.1 + 88))) (g3 : mm_get lv 3 = some (.int i)) (hi0 : 0 ≤ i.toInt) (hi5 : i.toInt + 6 ≤ (n : Int)) (hL : wl_W E wl_H x x h) (hR : wt_R x x h) (hQ : wt_s h 2 = wt_s h 8817) (kk : ∀ (h' : mm_H) (x' : Int32) (o' : Option Value), wl_W E wl_H x' x' h' → wt_R x' x' h' → wt_s h' 2 = wt_s h' 8817 → bh_G E st_FIN ((291, 1452, lv, [], cb, sb) :: [], h', o')) : bh_G E st_FIN ((291, 1383, lv, [], cb, sb) :: [], h, o) := by
  refine bl_ld (pc' := 1384) bt_291_1383 rfl rfl (fun _ _ _ => rfl) g1 rfl ?_
  refine bl_ld (pc' := 1385) bt_291_1384 rfl rfl (fun _ _ _ => rfl) g0 rfl ?_
  refine bl_ld (pc' := 1386) bt_291_1385 rfl rfl (fun _ _ _ => rfl) g3 rfl ?_
  refine bl_c (pc' := 1387) (n := 1) bt_291_1386 rfl rfl (fun _ _ _ => rfl) (by decide) (fun c1408 e1409 => ?_)
  refine bl_add (pc' := 1388) bt_291_1387 rfl (by omega) (by omega) (fun v1410 e1411 => ?_)
  refine bl_sc (pc' := 1389) bt_291_1388 rfl hS (by omega) (by omega) ?_
  refine bl_cv (pc' := 1392) (st := []) (args := [.int (xs (v1410).toInt.toNat)]) (c := 0) (ci := 8) bt_291_1389 rfl rfl (by decide) (wl_o0 hL) (by decide) (Nat.succ_lt_succ (Nat.zero_lt_succ _)) rfl (Nat.le_of_ble_eq_true rfl) (Nat.le_of_ble_eq_true rfl) ?_
  refine wj_b (K := 236) (FIN := st_FIN) (g := (291, 1392, lv, [], cb, sb)) (t := []) (A := fun h' r => wl_W E wl_H x x h' ∧ wt_K h h') rfl (by decide) (by decide) hL (fun F9 k1 => wk_c_hold (FIN := F9) (gs := [bp_mf]) hSA h8 hL (Nat.le_of_ble_eq_true rfl) (fun h r a b => k1 _ _ ⟨a, b⟩)) (fun h1412 r1413 ⟨hL1414, K1416⟩ q1415 => ?_)
  have hR1417 := wt_RK hR K1416
  have hQ1418 := wt_q hQ q1415
  show bh_G E st_FIN ((291, 1392, lv, [.int r1413], cb, sb) :: [], h1412, none)
  refine bl_pop (pc' := 1393) bt_291_1392 rfl rfl ?_
  refine bl_ld (pc' := 1394) bt_291_1393 rfl rfl (fun _ _ _ => rfl) g2 rfl ?_
  refine bl_ld (pc' := 1395) bt_291_1394 rfl rfl (fun _ _ _ => rfl) g0 rfl ?_
  refine bl_ld (pc' := 1396) bt_291_1395 rfl rfl (fun _ _ _ => rfl) g3 rfl ?_
  refine bl_c (pc' := 1397) (n := 1) bt_291_1396 rfl rfl (fun _ _ _ => rfl) (by decide) (fun c1419 e1420 => ?_)
  refine bl_add (pc' := 1398) bt_291_1397 rfl (by omega) (by omega) (fun v1421 e1422 => ?_)
  refine bl_sc (pc' := 1399) bt_291_1398 rfl hS (by omega) (by omega) ?_
  refine bl_cv (pc' := 1402) (st := []) (args := [.int (xs (v1421).toInt.toNat)]) (c := 88) (ci := 9) bt_291_1399 rfl rfl (by decide) (wl_o88 hL1414) (by decide) (Nat.succ_lt_succ (Nat.zero_lt_succ _)) rfl (Nat.le_of_ble_eq_true rfl) (Nat.le_of_ble_eq_true rfl) ?_
  refine wj_b (K := 41) (FIN := st_FIN) (g := (291, 1402, lv, [], cb, sb)) (t := []) (A := fun h' r => wl_W E wl_H x x h' ∧ wt_K h1412 h') rfl (by decide) (by decide) hL1414 (fun F9 k1 => wk_m_hold (FIN := F9) (gs := [bp_mf]) hSA hL1414 (Nat.le_of_ble_eq_true rfl) (fun h r a b => k1 _ _ ⟨a, b⟩)) (fun h1423 r1424 ⟨hL1425, K1427⟩ q1426 => ?_)
  have hR1428 := wt_RK hR1417 K1427
  have hQ1429 := wt_q hQ1418 q1426
  show bh_G E st_FIN ((291, 1402, lv, [.int r1424], cb, sb) :: [], h1423, none)
  refine bl_pop (pc' := 1403) bt_291_1402 rfl rfl ?_
  refine bl_go (pc' := 1452) bt_291_1403 rfl ?_
  exact kk _ _ _ hL1425 hR1428 hQ1429
set_option maxHeartbeats 40000000 in
theorem wl_k_36 {i x : Int32} {lv : mm_V} {h : mm_H} {o : Option Value} (hST : wt_ST E) (hSA : ∀ {x y : Int32} (ρ : Nat → Int32), en_SA E ρ (wl_o x y) mt_SB) (h8 : ∃ q, E.2[8]? = some q) (hS : bl_S E b n xs) (hn : n ≤ 3072) (g0 : mm_get lv 0 = some (.ref b)) (g1 : mm_get lv 1 = some (.ref (E.1 + 0))) (g2 : mm_get lv 2 = some (.ref (E.1 + 88))) (g3 : mm_get lv 3 = some (.int i)) (hi0 : 0 ≤ i.toInt) (hi5 : i.toInt + 6 ≤ (n : Int)) (hL : wl_W E wl_H x x h) (hR : wt_R x x h) (hQ : wt_s h 2 = wt_s h 8817) (kk : ∀ (h' : mm_H) (x' : Int32) (o' : Option Value), wl_W E wl_H x' x' h' → wt_R x' x' h' → wt_s h' 2 = wt_s h' 8817 → bh_G E st_FIN ((291, 1452, lv, [], cb, sb) :: [], h', o')) : bh_G E st_FIN ((291, 1406, lv, [], cb, sb) :: [], h, o) := by
  refine bl_ld (pc' := 1407) bt_291_1406 rfl rfl (fun _ _ _ => rfl) g1 rfl ?_
  refine bl_ld (pc' := 1408) bt_291_1407 rfl rfl (fun _ _ _ => rfl) g0 rfl ?_
  refine bl_ld (pc' := 1409) bt_291_1408 rfl rfl (fun _ _ _ => rfl) g3 rfl ?_
  refine bl_c (pc' := 1410) (n := 1) bt_291_1409 rfl rfl (fun _ _ _ => rfl) (by decide) (fun c1430 e1431 => ?_)
  refine bl_add (pc' := 1411) bt_291_1410 rfl (by omega) (by omega) (fun v1432 e1433 => ?_)
  refine bl_sc (pc' := 1412) bt_291_1411 rfl hS (by omega) (by omega) ?_
  refine bl_cv (pc' := 1415) (st := []) (args := [.int (xs (v1432).toInt.toNat)]) (c := 0) (ci := 8) bt_291_1412 rfl rfl (by decide) (wl_o0 hL) (by decide) (Nat.succ_lt_succ (Nat.zero_lt_succ _)) rfl (Nat.le_of_ble_eq_true rfl) (Nat.le_of_ble_eq_true rfl) ?_
  refine wj_b (K := 254) (FIN := st_FIN) (g := (291, 1415, lv, [], cb, sb)) (t := []) (A := fun h' r => wl_W E wl_H x x h' ∧ wt_K h h') rfl (by decide) (by decide) hL (fun F9 k1 => wk_c_restore (FIN := F9) (gs := [bp_mf]) hSA h8 hL (Nat.le_of_ble_eq_true rfl) (fun h r a b => k1 _ _ ⟨a, b⟩)) (fun h1434 r1435 ⟨hL1436, K1438⟩ q1437 => ?_)
  have hR1439 := wt_RK hR K1438
  have hQ1440 := wt_q hQ q1437
  show bh_G E st_FIN ((291, 1415, lv, [.int r1435], cb, sb) :: [], h1434, none)
  refine bl_pop (pc' := 1416) bt_291_1415 rfl rfl ?_
  refine bl_ld (pc' := 1417) bt_291_1416 rfl rfl (fun _ _ _ => rfl) g2 rfl ?_
  refine bl_ld (pc' := 1418) bt_291_1417 rfl rfl (fun _ _ _ => rfl) g0 rfl ?_
  refine bl_ld (pc' := 1419) bt_291_1418 rfl rfl (fun _ _ _ => rfl) g3 rfl ?_
  refine bl_c (pc' := 1420) (n := 1) bt_291_1419 rfl rfl (fun _ _ _ => rfl) (by decide) (fun c1441 e1442 => ?_)
  refine bl_add (pc' := 1421) bt_291_1420 rfl (by omega) (by omega) (fun v1443 e1444 => ?_)
  refine bl_sc (pc' := 1422) bt_291_1421 rfl hS (by omega) (by omega) ?_
  refine bl_cv (pc' := 1425) (st := []) (args := [.int (xs (v1443).toInt.toNat)]) (c := 88) (ci := 9) bt_291_1422 rfl rfl (by decide) (wl_o88 hL1436) (by decide) (Nat.succ_lt_succ (Nat.zero_lt_succ _)) rfl (Nat.le_of_ble_eq_true rfl) (Nat.le_of_ble_eq_true rfl) ?_
  refine wj_b (K := 78) (FIN := st_FIN) (g := (291, 1425, lv, [], cb, sb)) (t := []) (A := fun h' r => wl_W E wl_H x x h' ∧ wt_K h1434 h') rfl (by decide) (by decide) hL1436 (fun F9 k1 => wk_m_restore (FIN := F9) (gs := [bp_mf]) hSA hL1436 (Nat.le_of_ble_eq_true rfl) (fun h r a b => k1 _ _ ⟨a, b⟩)) (fun h1445 r1446 ⟨hL1447, K1449⟩ q1448 => ?_)
  have hR1450 := wt_RK hR1439 K1449
  have hQ1451 := wt_q hQ1440 q1448
  show bh_G E st_FIN ((291, 1425, lv, [.int r1446], cb, sb) :: [], h1445, none)
  refine bl_pop (pc' := 1426) bt_291_1425 rfl rfl ?_
  refine bl_go (pc' := 1452) bt_291_1426 rfl ?_
  exact kk _ _ _ hL1447 hR1450 hQ1451
set_option maxHeartbeats 40000000 in
theorem wl_k_37 {i x : Int32} {lv : mm_V} {h : mm_H} {o : Option Value} (hST : wt_ST E) (hSA : ∀ {x y : Int32} (ρ : Nat → Int32), en_SA E ρ (wl_o x y) mt_SB) (h8 : ∃ q, E.2[8]? = some q) (hS : bl_S E b n xs) (hn : n ≤ 3072) (g0 : mm_get lv 0 = some (.ref b)) (g1 : mm_get lv 1 = some (.ref (E.1 + 0))) (g2 : mm_get lv 2 = some (.ref (E.1 + 88))) (g3 : mm_get lv 3 = some (.int i)) (hi0 : 0 ≤ i.toInt) (hi5 : i.toInt + 6 ≤ (n : Int)) (hL : wl_W E wl_H x x h) (hR : wt_R x x h) (hQ : wt_s h 2 = wt_s h 8817) (kk : ∀ (h' : mm_H) (x' : Int32) (o' : Option Value), wl_W E wl_H x' x' h' → wt_R x' x' h' → wt_s h' 2 = wt_s h' 8817 → bh_G E st_FIN ((291, 1452, lv, [], cb, sb) :: [], h', o')) : bh_G E st_FIN ((291, 1429, lv, [], cb, sb) :: [], h, o) := by
  refine bl_ld (pc' := 1430) bt_291_1429 rfl rfl (fun _ _ _ => rfl) g1 rfl ?_
  refine bl_ld (pc' := 1431) bt_291_1430 rfl rfl (fun _ _ _ => rfl) g0 rfl ?_
  refine bl_ld (pc' := 1432) bt_291_1431 rfl rfl (fun _ _ _ => rfl) g3 rfl ?_
  refine bl_c (pc' := 1433) (n := 1) bt_291_1432 rfl rfl (fun _ _ _ => rfl) (by decide) (fun c1452 e1453 => ?_)
  refine bl_add (pc' := 1434) bt_291_1433 rfl (by omega) (by omega) (fun v1454 e1455 => ?_)
  refine bl_sc (pc' := 1435) bt_291_1434 rfl hS (by omega) (by omega) ?_
  refine bl_cv (pc' := 1438) (st := []) (args := [.int (xs (v1454).toInt.toNat)]) (c := 0) (ci := 8) bt_291_1435 rfl rfl (by decide) (wl_o0 hL) (by decide) (Nat.succ_lt_succ (Nat.zero_lt_succ _)) rfl (Nat.le_of_ble_eq_true rfl) (Nat.le_of_ble_eq_true rfl) ?_
  refine wj_b (K := 227) (FIN := st_FIN) (g := (291, 1438, lv, [], cb, sb)) (t := []) (A := fun h' r => wl_W E wl_H x x h' ∧ wt_K h h') rfl (by decide) (by decide) hL (fun F9 k1 => wk_c_count (FIN := F9) (gs := [bp_mf]) hSA h8 hL (Nat.le_of_ble_eq_true rfl) (fun h r a b => k1 _ _ ⟨a, b⟩)) (fun h1456 r1457 ⟨hL1458, K1460⟩ q1459 => ?_)
  have hR1461 := wt_RK hR K1460
  have hQ1462 := wt_q hQ q1459
  show bh_G E st_FIN ((291, 1438, lv, [.int r1457], cb, sb) :: [], h1456, none)
  refine bl_pop (pc' := 1439) bt_291_1438 rfl rfl ?_
  refine bl_ld (pc' := 1440) bt_291_1439 rfl rfl (fun _ _ _ => rfl) g2 rfl ?_
  refine bl_ld (pc' := 1441) bt_291_1440 rfl rfl (fun _ _ _ => rfl) g0 rfl ?_
  refine bl_ld (pc' := 1442) bt_291_1441 rfl rfl (fun _ _ _ => rfl) g3 rfl ?_
  refine bl_c (pc' := 1443) (n := 1) bt_291_1442 rfl rfl (fun _ _ _ => rfl) (by decide) (fun c1463 e1464 => ?_)
  refine bl_add (pc' := 1444) bt_291_1443 rfl (by omega) (by omega) (fun v1465 e1466 => ?_)
  refine bl_sc (pc' := 1445) bt_291_1444 rfl hS (by omega) (by omega) ?_
  refine bl_cv (pc' := 1448) (st := []) (args := [.int (xs (v1465).toInt.toNat)]) (c := 88) (ci := 9) bt_291_1445 rfl rfl (by decide) (wl_o88 hL1458) (by decide) (Nat.succ_lt_succ (Nat.zero_lt_succ _)) rfl (Nat.le_of_ble_eq_true rfl) (Nat.le_of_ble_eq_true rfl) ?_
  refine wj_b (K := 18) (FIN := st_FIN) (g := (291, 1448, lv, [], cb, sb)) (t := []) (A := fun h' r => wl_W E wl_H x x h' ∧ wt_K h1456 h') rfl (by decide) (by decide) hL1458 (fun F9 k1 => wk_m_count (FIN := F9) (gs := [bp_mf]) hSA hL1458 (Nat.le_of_ble_eq_true rfl) (fun h r a b => k1 _ _ ⟨a, b⟩)) (fun h1467 r1468 ⟨hL1469, K1471⟩ q1470 => ?_)
  have hR1472 := wt_RK hR1461 K1471
  have hQ1473 := wt_q hQ1462 q1470
  show bh_G E st_FIN ((291, 1448, lv, [.int r1468], cb, sb) :: [], h1467, none)
  refine bl_pop (pc' := 1449) bt_291_1448 rfl rfl ?_
  refine bl_go (pc' := 1452) bt_291_1449 rfl ?_
  exact kk _ _ _ hL1469 hR1472 hQ1473
set_option maxHeartbeats 40000000 in
theorem wl_loop (hST : wt_ST E) (hSA : ∀ {x y : Int32} (ρ : Nat → Int32), en_SA E ρ (wl_o x y) mt_SB) (h8 : ∃ q, E.2[8]? = some q) (hS : bl_S E b n xs) (hn : n ≤ 3072) : ∀ N : Nat, ∀ (h : mm_H) (x : Int32) (lv : mm_V) (o : Option Value) (i : Int32), mm_get lv 0 = some (.ref b) → mm_get lv 1 = some (.ref (E.1 + 0)) → mm_get lv 2 = some (.ref (E.1 + 88)) → mm_get lv 3 = some (.int i) → 0 ≤ i.toInt → (n : Int) - i.toInt < N → wl_W E wl_H x x h → wt_R x x h → wt_s h 2 = wt_s h 8817 → bh_G E st_FIN ((291, 18, lv, [], cb, sb) :: [], h, o) := by
  intro N
  induction N with
  | zero =>
    intro h x lv o i g0 g1 g2 g3 hi0 hN hL hR hQ
    refine bl_ld (pc' := 19) bt_291_18 rfl rfl (fun _ _ _ => rfl) g3 rfl ?_
    refine bl_ld (pc' := 20) bt_291_19 rfl rfl (fun _ _ _ => rfl) g0 rfl ?_
    refine bl_al (pc' := 21) bt_291_20 rfl hS hn (fun v1474 e1475 => ?_)
    refine bl_c (pc' := 23) (n := 6) bt_291_21 rfl rfl (fun _ _ _ => rfl) (by decide) (fun c1476 e1477 => ?_)
    refine bl_sub (pc' := 24) bt_291_23 rfl (by omega) (by omega) (fun v1478 e1479 => ?_)
    refine bl_ic (pc' := 27) (pt := 1458) bt_291_24 rfl rfl (fun k1480 => ?_) (fun k1480 => ?_)
    · replace k1480 : (v1478).toInt < (i).toInt := k1480
      refine bl_c (pc' := 1459) (n := 1) bt_291_1458 rfl rfl (fun _ _ _ => rfl) (by decide) (fun c e => ?_)
      have ec : c = 1 := Int32.toInt_inj.mp (by rw [e]; rfl)
      subst ec
      refine en_good_step (c' := ([], h, some (.int 1))) ?_ ⟨0, _, rfl, h, rfl⟩
      have e9 : mm_ans 2 1 [.int (1 : Int32)] = some (some (.int 1)) := by
        unfold mm_ans
        simp
      simp only [mm_stp, bt_291_1459, mm_inv, mm_rtn, e9]
      rfl
    · replace k1480 : ¬ ((v1478).toInt < (i).toInt) := k1480
      refine bl_ld (pc' := 28) bt_291_27 rfl rfl (fun _ _ _ => rfl) g0 rfl ?_
      refine bl_ld (pc' := 29) bt_291_28 rfl rfl (fun _ _ _ => rfl) g3 rfl ?_
      refine bl_sc (pc' := 30) bt_291_29 rfl hS (by omega) (by omega) ?_
      refine bl_c (pc' := 32) (n := 63) bt_291_30 rfl rfl (fun _ _ _ => rfl) (by decide) (fun c1481 e1482 => ?_)
      refine bl_andA (pc' := 33) bt_291_32 rfl (fun v1483 => ?_)
      exfalso
      omega
  | succ N ih =>
    intro h x lv o i g0 g1 g2 g3 hi0 hN hL hR hQ
    refine bl_ld (pc' := 19) bt_291_18 rfl rfl (fun _ _ _ => rfl) g3 rfl ?_
    refine bl_ld (pc' := 20) bt_291_19 rfl rfl (fun _ _ _ => rfl) g0 rfl ?_
    refine bl_al (pc' := 21) bt_291_20 rfl hS hn (fun v1474 e1475 => ?_)
    refine bl_c (pc' := 23) (n := 6) bt_291_21 rfl rfl (fun _ _ _ => rfl) (by decide) (fun c1476 e1477 => ?_)
    refine bl_sub (pc' := 24) bt_291_23 rfl (by omega) (by omega) (fun v1478 e1479 => ?_)
    refine bl_ic (pc' := 27) (pt := 1458) bt_291_24 rfl rfl (fun k1480 => ?_) (fun k1480 => ?_)
    · replace k1480 : (v1478).toInt < (i).toInt := k1480
      refine bl_c (pc' := 1459) (n := 1) bt_291_1458 rfl rfl (fun _ _ _ => rfl) (by decide) (fun c e => ?_)
      have ec : c = 1 := Int32.toInt_inj.mp (by rw [e]; rfl)
      subst ec
      refine en_good_step (c' := ([], h, some (.int 1))) ?_ ⟨0, _, rfl, h, rfl⟩
      have e9 : mm_ans 2 1 [.int (1 : Int32)] = some (some (.int 1)) := by
        unfold mm_ans
        simp
      simp only [mm_stp, bt_291_1459, mm_inv, mm_rtn, e9]
      rfl
    · replace k1480 : ¬ ((v1478).toInt < (i).toInt) := k1480
      refine bl_ld (pc' := 28) bt_291_27 rfl rfl (fun _ _ _ => rfl) g0 rfl ?_
      refine bl_ld (pc' := 29) bt_291_28 rfl rfl (fun _ _ _ => rfl) g3 rfl ?_
      refine bl_sc (pc' := 30) bt_291_29 rfl hS (by omega) (by omega) ?_
      refine bl_c (pc' := 32) (n := 63) bt_291_30 rfl rfl (fun _ _ _ => rfl) (by decide) (fun c1481 e1482 => ?_)
      refine bl_andA (pc' := 33) bt_291_32 rfl (fun v1483 => ?_)
      have kk : ∀ (h' : mm_H) (x2 : Int32) (o' : Option Value), wl_W E wl_H x2 x2 h' → wt_R x2 x2 h' → wt_s h' 2 = wt_s h' 8817 → bh_G E st_FIN ((291, 1452, lv, [], cb, sb) :: [], h', o') := by
        intro h2 x2 o2 hL2 hR2 hQ2
        refine bl_inc (pc' := 1455) bt_291_1452 rfl (by decide) g3 (by decide) (by omega) (by omega) (fun lv2 i2 F gg e2 => ?_)
        have gg0 := F 0 (.ref b) g0 (by decide) (Or.inl rfl)
        have gg1 := F 1 (.ref (E.1 + 0)) g1 (by decide) (Or.inl rfl)
        have gg2 := F 2 (.ref (E.1 + 88)) g2 (by decide) (Or.inl rfl)
        refine bl_go (pc' := 18) bt_291_1455 rfl ?_
        exact ih _ _ _ _ _ gg0 gg1 gg2 gg (by omega) (by omega) hL2 hR2 hQ2
      by_cases k_0 : (v1483).toInt = 0
      · exact bl_sw (pc' := 200) (off := 167) bt_291_33 (by rw [k_0]; rfl) rfl (wl_k_0 hST hSA h8 hS hn g0 g1 g2 g3 (by omega) (by omega) hL hR hQ kk)
      by_cases k_1 : (v1483).toInt = 1
      · exact bl_sw (pc' := 263) (off := 230) bt_291_33 (by rw [k_1]; rfl) rfl (wl_k_1 hST hSA h8 hS hn g0 g1 g2 g3 (by omega) (by omega) hL hR hQ kk)
      by_cases k_2 : (v1483).toInt = 2
      · exact bl_sw (pc' := 286) (off := 253) bt_291_33 (by rw [k_2]; rfl) rfl (wl_k_2 hST hSA h8 hS hn g0 g1 g2 g3 (by omega) (by omega) hL hR hQ kk)
      by_cases k_3 : (v1483).toInt = 3
      · exact bl_sw (pc' := 299) (off := 266) bt_291_33 (by rw [k_3]; rfl) rfl (wl_k_3 hST hSA h8 hS hn g0 g1 g2 g3 (by omega) (by omega) hL hR hQ kk)
      by_cases k_4 : (v1483).toInt = 4
      · exact bl_sw (pc' := 312) (off := 279) bt_291_33 (by rw [k_4]; rfl) rfl (wl_k_4 hST hSA h8 hS hn g0 g1 g2 g3 (by omega) (by omega) hL hR hQ kk)
      by_cases k_5 : (v1483).toInt = 5
      · exact bl_sw (pc' := 345) (off := 312) bt_291_33 (by rw [k_5]; rfl) rfl (wl_k_5 hST hSA h8 hS hn g0 g1 g2 g3 (by omega) (by omega) hL hR hQ kk)
      by_cases k_6 : (v1483).toInt = 6
      · exact bl_sw (pc' := 368) (off := 335) bt_291_33 (by rw [k_6]; rfl) rfl (wl_k_6 hST hSA h8 hS hn g0 g1 g2 g3 (by omega) (by omega) hL hR hQ kk)
      by_cases k_7 : (v1483).toInt = 7
      · exact bl_sw (pc' := 391) (off := 358) bt_291_33 (by rw [k_7]; rfl) rfl (wl_k_7 hST hSA h8 hS hn g0 g1 g2 g3 (by omega) (by omega) hL hR hQ kk)
      by_cases k_8 : (v1483).toInt = 8
      · exact bl_sw (pc' := 440) (off := 407) bt_291_33 (by rw [k_8]; rfl) rfl (wl_k_8 hST hSA h8 hS hn g0 g1 g2 g3 (by omega) (by omega) hL hR hQ kk)
      by_cases k_9 : (v1483).toInt = 9
      · exact bl_sw (pc' := 493) (off := 460) bt_291_33 (by rw [k_9]; rfl) rfl (wl_k_9 hST hSA h8 hS hn g0 g1 g2 g3 (by omega) (by omega) hL hR hQ kk)
      by_cases k_10 : (v1483).toInt = 10
      · exact bl_sw (pc' := 516) (off := 483) bt_291_33 (by rw [k_10]; rfl) rfl (wl_k_10 hST hSA h8 hS hn g0 g1 g2 g3 (by omega) (by omega) hL hR hQ kk)
      by_cases k_11 : (v1483).toInt = 11
      · exact bl_sw (pc' := 529) (off := 496) bt_291_33 (by rw [k_11]; rfl) rfl (wl_k_11 hST hSA h8 hS hn g0 g1 g2 g3 (by omega) (by omega) hL hR hQ kk)
      by_cases k_12 : (v1483).toInt = 12
      · exact bl_sw (pc' := 588) (off := 555) bt_291_33 (by rw [k_12]; rfl) rfl (wl_k_12 hST hSA h8 hS hn g0 g1 g2 g3 (by omega) (by omega) hL hR hQ kk)
      by_cases k_13 : (v1483).toInt = 13
      · exact bl_sw (pc' := 611) (off := 578) bt_291_33 (by rw [k_13]; rfl) rfl (wl_k_13 hST hSA h8 hS hn g0 g1 g2 g3 (by omega) (by omega) hL hR hQ kk)
      by_cases k_14 : (v1483).toInt = 14
      · exact bl_sw (pc' := 670) (off := 637) bt_291_33 (by rw [k_14]; rfl) rfl (wl_k_14 hST hSA h8 hS hn g0 g1 g2 g3 (by omega) (by omega) hL hR hQ kk)
      by_cases k_15 : (v1483).toInt = 15
      · exact bl_sw (pc' := 729) (off := 696) bt_291_33 (by rw [k_15]; rfl) rfl (wl_k_15 hST hSA h8 hS hn g0 g1 g2 g3 (by omega) (by omega) hL hR hQ kk)
      by_cases k_16 : (v1483).toInt = 16
      · exact bl_sw (pc' := 788) (off := 755) bt_291_33 (by rw [k_16]; rfl) rfl (wl_k_16 hST hSA h8 hS hn g0 g1 g2 g3 (by omega) (by omega) hL hR hQ kk)
      by_cases k_17 : (v1483).toInt = 17
      · exact bl_sw (pc' := 821) (off := 788) bt_291_33 (by rw [k_17]; rfl) rfl (wl_k_17 hST hSA h8 hS hn g0 g1 g2 g3 (by omega) (by omega) hL hR hQ kk)
      by_cases k_18 : (v1483).toInt = 18
      · exact bl_sw (pc' := 870) (off := 837) bt_291_33 (by rw [k_18]; rfl) rfl (wl_k_18 hST hSA h8 hS hn g0 g1 g2 g3 (by omega) (by omega) hL hR hQ kk)
      by_cases k_19 : (v1483).toInt = 19
      · exact bl_sw (pc' := 893) (off := 860) bt_291_33 (by rw [k_19]; rfl) rfl (wl_k_19 hST hSA h8 hS hn g0 g1 g2 g3 (by omega) (by omega) hL hR hQ kk)
      by_cases k_20 : (v1483).toInt = 20
      · exact bl_sw (pc' := 916) (off := 883) bt_291_33 (by rw [k_20]; rfl) rfl (wl_k_20 hST hSA h8 hS hn g0 g1 g2 g3 (by omega) (by omega) hL hR hQ kk)
      by_cases k_21 : (v1483).toInt = 21
      · exact bl_sw (pc' := 955) (off := 922) bt_291_33 (by rw [k_21]; rfl) rfl (wl_k_21 hST hSA h8 hS hn g0 g1 g2 g3 (by omega) (by omega) hL hR hQ kk)
      by_cases k_22 : (v1483).toInt = 22
      · exact bl_sw (pc' := 988) (off := 955) bt_291_33 (by rw [k_22]; rfl) rfl (wl_k_22 hST hSA h8 hS hn g0 g1 g2 g3 (by omega) (by omega) hL hR hQ kk)
      by_cases k_23 : (v1483).toInt = 23
      · exact bl_sw (pc' := 1031) (off := 998) bt_291_33 (by rw [k_23]; rfl) rfl (wl_k_23 hST hSA h8 hS hn g0 g1 g2 g3 (by omega) (by omega) hL hR hQ kk)
      by_cases k_24 : (v1483).toInt = 24
      · exact bl_sw (pc' := 1054) (off := 1021) bt_291_33 (by rw [k_24]; rfl) rfl (wl_k_24 hST hSA h8 hS hn g0 g1 g2 g3 (by omega) (by omega) hL hR hQ kk)
      by_cases k_25 : (v1483).toInt = 25
      · exact bl_sw (pc' := 1087) (off := 1054) bt_291_33 (by rw [k_25]; rfl) rfl (wl_k_25 hST hSA h8 hS hn g0 g1 g2 g3 (by omega) (by omega) hL hR hQ kk)
      by_cases k_26 : (v1483).toInt = 26
      · exact bl_sw (pc' := 1120) (off := 1087) bt_291_33 (by rw [k_26]; rfl) rfl (wl_k_26 hST hSA h8 hS hn g0 g1 g2 g3 (by omega) (by omega) hL hR hQ kk)
      by_cases k_27 : (v1483).toInt = 27
      · exact bl_sw (pc' := 1133) (off := 1100) bt_291_33 (by rw [k_27]; rfl) rfl (wl_k_27 hST hSA h8 hS hn g0 g1 g2 g3 (by omega) (by omega) hL hR hQ kk)
      by_cases k_28 : (v1483).toInt = 28
      · exact bl_sw (pc' := 1166) (off := 1133) bt_291_33 (by rw [k_28]; rfl) rfl (wl_k_28 hST hSA h8 hS hn g0 g1 g2 g3 (by omega) (by omega) hL hR hQ kk)
      by_cases k_29 : (v1483).toInt = 29
      · exact bl_sw (pc' := 1199) (off := 1166) bt_291_33 (by rw [k_29]; rfl) rfl (wl_k_29 hST hSA h8 hS hn g0 g1 g2 g3 (by omega) (by omega) hL hR hQ kk)
      by_cases k_30 : (v1483).toInt = 30
      · exact bl_sw (pc' := 1222) (off := 1189) bt_291_33 (by rw [k_30]; rfl) rfl (wl_k_30 hST hSA h8 hS hn g0 g1 g2 g3 (by omega) (by omega) hL hR hQ kk)
      by_cases k_31 : (v1483).toInt = 31
      · exact bl_sw (pc' := 1281) (off := 1248) bt_291_33 (by rw [k_31]; rfl) rfl (wl_k_31 hST hSA h8 hS hn g0 g1 g2 g3 (by omega) (by omega) hL hR hQ kk)
      by_cases k_32 : (v1483).toInt = 32
      · exact bl_sw (pc' := 1304) (off := 1271) bt_291_33 (by rw [k_32]; rfl) rfl (wl_k_32 hST hSA h8 hS hn g0 g1 g2 g3 (by omega) (by omega) hL hR hQ kk)
      by_cases k_33 : (v1483).toInt = 33
      · exact bl_sw (pc' := 1337) (off := 1304) bt_291_33 (by rw [k_33]; rfl) rfl (wl_k_33 hST hSA h8 hS hn g0 g1 g2 g3 (by omega) (by omega) hL hR hQ kk)
      by_cases k_34 : (v1483).toInt = 34
      · exact bl_sw (pc' := 1370) (off := 1337) bt_291_33 (by rw [k_34]; rfl) rfl (wl_k_34 hST hSA h8 hS hn g0 g1 g2 g3 (by omega) (by omega) hL hR hQ kk)
      by_cases k_35 : (v1483).toInt = 35
      · exact bl_sw (pc' := 1383) (off := 1350) bt_291_33 (by rw [k_35]; rfl) rfl (wl_k_35 hST hSA h8 hS hn g0 g1 g2 g3 (by omega) (by omega) hL hR hQ kk)
      by_cases k_36 : (v1483).toInt = 36
      · exact bl_sw (pc' := 1406) (off := 1373) bt_291_33 (by rw [k_36]; rfl) rfl (wl_k_36 hST hSA h8 hS hn g0 g1 g2 g3 (by omega) (by omega) hL hR hQ kk)
      by_cases k_37 : (v1483).toInt = 37
      · exact bl_sw (pc' := 1429) (off := 1396) bt_291_33 (by rw [k_37]; rfl) rfl (wl_k_37 hST hSA h8 hS hn g0 g1 g2 g3 (by omega) (by omega) hL hR hQ kk)
      refine bl_sw (pc' := 1452) (off := 1419) bt_291_33 (if_pos (by omega)) rfl ?_
      exact kk _ _ _ hL hR hQ
end BLL
