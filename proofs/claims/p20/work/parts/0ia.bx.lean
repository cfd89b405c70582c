/-! BY HAND: the reference's common divisor and its lines; what is asked and these as contracts (wip/p3/bhf.py) -/
theorem ln_rem {x y : Int32} (hy : y ≠ 0) : (x - x / y * y).toInt = x.toInt.tmod y.toInt := by
  have e1 : x / y = Int32.ofInt (x.toInt.tdiv y.toInt) := by
    apply Int32.toInt_inj.mp
    rw [Int32.toInt_div, Int32.toInt_ofInt]
  have e2 : x - x / y * y = Int32.ofInt (x.toInt - x.toInt.tdiv y.toInt * y.toInt) := by
    rw [Int32.ofInt_sub, Int32.ofInt_mul, Int32.ofInt_toInt, Int32.ofInt_toInt, ← e1]
  have e3 : x.toInt - x.toInt.tdiv y.toInt * y.toInt = x.toInt.tmod y.toInt := by
    rw [Int.tmod_def, Int.mul_comm]
  rw [e2, e3]
  have hy0 : y.toInt ≠ 0 := fun e => hy (Int32.toInt_inj.mp e)
  have h1 : (x.toInt.tmod y.toInt).natAbs = x.toInt.natAbs % y.toInt.natAbs := Int.natAbs_tmod _ _
  have h2 : x.toInt.natAbs % y.toInt.natAbs < y.toInt.natAbs := Nat.mod_lt _ (by omega)
  have h3 := en_z_int y
  have h4 := en_z_lt y
  exact Int32.toInt_ofInt_of_le (by omega) (by omega)
theorem ln_less {x y : Int32} (hy : y ≠ 0) : (x - x / y * y).toInt.natAbs < y.toInt.natAbs := by
  rw [ln_rem hy, Int.natAbs_tmod]
  have hy0 : y.toInt ≠ 0 := fun e => hy (Int32.toInt_inj.mp e)
  exact Nat.mod_lt _ (by omega)
theorem bh_rem {E : mm_E} {FIN : mm_C → Prop} {h : mm_H} {m pc pc' pc0 len a b wd nL : Nat} {dd : mm_M} {z : Int} {lv : mm_V} {st : List Value} {gs : List mm_F} {o : Option Value} {x y : Int32} (hat : mm_at mt_P m pc = some ((pc0, len, .irem, a, b, z, wd), nL, dd)) (hp : pc + len = pc') (hy : y.toInt ≠ 0) (g : ∀ v : Int32, v.toInt.natAbs < y.toInt.natAbs → bh_G E FIN ((m, pc', lv, .int v :: st, 0, 0) :: gs, h, none)) : bh_G E FIN ((m, pc, lv, .int y :: .int x :: st, 0, 0) :: gs, h, o) := by
  subst hp
  have hy2 : y ≠ 0 := fun e => hy (by rw [e]; rfl)
  refine bh_bin (v := x - x / y * y) (f := fun x y => if y = 0 then none else some (x - x / y * y)) hat rfl rfl (fun _ _ _ => rfl) ?_ (g _ (ln_less hy2))
  exact if_neg hy2
theorem bh_neg {E : mm_E} {FIN : mm_C → Prop} {h : mm_H} {m pc pc' pc0 len a b wd nL : Nat} {dd : mm_M} {z : Int} {lv : mm_V} {st : List Value} {gs : List mm_F} {o : Option Value} {x : Int32} (hat : mm_at mt_P m pc = some ((pc0, len, .ineg, a, b, z, wd), nL, dd)) (hp : pc + len = pc') (g : ∀ v : Int32, bh_G E FIN ((m, pc', lv, .int v :: st, 0, 0) :: gs, h, none)) : bh_G E FIN ((m, pc, lv, .int x :: st, 0, 0) :: gs, h, o) := by
  subst hp
  exact bh_s1 hat rfl rfl rfl (g _)
theorem bt_16_0 : mm_at mt_P 16 0 = some ((0, 1, .iload_n 0, 0, 0, 0, 0), 5, 2, 0, 9, 1, 0, 0) := rfl
theorem bt_16_1 : mm_at mt_P 16 1 = some ((1, 3, .ifCond .ge 8, 0, 0, 0, 0), 5, 2, 0, 9, 1, 0, 0) := rfl
theorem bt_16_4 : mm_at mt_P 16 4 = some ((4, 1, .iload_n 0, 0, 0, 0, 0), 5, 2, 0, 9, 1, 0, 0) := rfl
theorem bt_16_5 : mm_at mt_P 16 5 = some ((5, 1, .ineg, 0, 0, 0, 0), 5, 2, 0, 9, 1, 0, 0) := rfl
theorem bt_16_6 : mm_at mt_P 16 6 = some ((6, 3, .goto 4, 0, 0, 0, 0), 5, 2, 0, 9, 1, 0, 0) := rfl
theorem bt_16_9 : mm_at mt_P 16 9 = some ((9, 1, .iload_n 0, 0, 0, 0, 0), 5, 2, 0, 9, 1, 0, 0) := rfl
theorem bt_16_10 : mm_at mt_P 16 10 = some ((10, 1, .istore_n 2, 0, 0, 0, 0), 5, 2, 0, 9, 1, 0, 0) := rfl
theorem bt_16_11 : mm_at mt_P 16 11 = some ((11, 1, .iload_n 1, 0, 0, 0, 0), 5, 2, 0, 9, 1, 0, 0) := rfl
theorem bt_16_12 : mm_at mt_P 16 12 = some ((12, 1, .istore_n 3, 0, 0, 0, 0), 5, 2, 0, 9, 1, 0, 0) := rfl
theorem bt_16_13 : mm_at mt_P 16 13 = some ((13, 1, .iload_n 3, 0, 0, 0, 0), 5, 2, 0, 9, 1, 0, 0) := rfl
theorem bt_16_14 : mm_at mt_P 16 14 = some ((14, 3, .ifCond .eq 16, 0, 0, 0, 0), 5, 2, 0, 9, 1, 0, 0) := rfl
theorem bt_16_17 : mm_at mt_P 16 17 = some ((17, 1, .iload_n 2, 0, 0, 0, 0), 5, 2, 0, 9, 1, 0, 0) := rfl
theorem bt_16_18 : mm_at mt_P 16 18 = some ((18, 1, .iload_n 3, 0, 0, 0, 0), 5, 2, 0, 9, 1, 0, 0) := rfl
theorem bt_16_19 : mm_at mt_P 16 19 = some ((19, 1, .irem, 0, 0, 0, 0), 5, 2, 0, 9, 1, 0, 0) := rfl
theorem bt_16_20 : mm_at mt_P 16 20 = some ((20, 2, .istore 4, 0, 0, 0, 0), 5, 2, 0, 9, 1, 0, 0) := rfl
theorem bt_16_22 : mm_at mt_P 16 22 = some ((22, 1, .iload_n 3, 0, 0, 0, 0), 5, 2, 0, 9, 1, 0, 0) := rfl
theorem bt_16_23 : mm_at mt_P 16 23 = some ((23, 1, .istore_n 2, 0, 0, 0, 0), 5, 2, 0, 9, 1, 0, 0) := rfl
theorem bt_16_24 : mm_at mt_P 16 24 = some ((24, 2, .iload 4, 0, 0, 0, 0), 5, 2, 0, 9, 1, 0, 0) := rfl
theorem bt_16_26 : mm_at mt_P 16 26 = some ((26, 1, .istore_n 3, 0, 0, 0, 0), 5, 2, 0, 9, 1, 0, 0) := rfl
theorem bt_16_27 : mm_at mt_P 16 27 = some ((27, 3, .goto (-14), 0, 0, 0, 0), 5, 2, 0, 9, 1, 0, 0) := rfl
theorem bt_16_30 : mm_at mt_P 16 30 = some ((30, 1, .iload_n 2, 0, 0, 0, 0), 5, 2, 0, 9, 1, 0, 0) := rfl
theorem bt_16_31 : mm_at mt_P 16 31 = some ((31, 1, .ireturn, 0, 0, 0, 0), 5, 2, 0, 9, 1, 0, 0) := rfl
theorem bt_59_0 : mm_at mt_P 59 0 = some ((0, 1, .iload_n 0, 0, 0, 0, 0), 4, 3, 0, 9, 1, 0, 0) := rfl
theorem bt_59_1 : mm_at mt_P 59 1 = some ((1, 1, .iload_n 1, 0, 0, 0, 0), 4, 3, 0, 9, 1, 0, 0) := rfl
theorem bt_59_2 : mm_at mt_P 59 2 = some ((2, 3, .invokestatic 405, 16, 0, 0, 1665), 4, 3, 0, 9, 1, 0, 0) := rfl
theorem bt_59_5 : mm_at mt_P 59 5 = some ((5, 1, .istore_n 3, 0, 0, 0, 0), 4, 3, 0, 9, 1, 0, 0) := rfl
theorem bt_59_6 : mm_at mt_P 59 6 = some ((6, 1, .iload_n 2, 0, 0, 0, 0), 4, 3, 0, 9, 1, 0, 0) := rfl
theorem bt_59_7 : mm_at mt_P 59 7 = some ((7, 3, .ifCond .eq 7, 0, 0, 0, 0), 4, 3, 0, 9, 1, 0, 0) := rfl
theorem bt_59_10 : mm_at mt_P 59 10 = some ((10, 1, .iload_n 1, 0, 0, 0, 0), 4, 3, 0, 9, 1, 0, 0) := rfl
theorem bt_59_11 : mm_at mt_P 59 11 = some ((11, 3, .goto 4, 0, 0, 0, 0), 4, 3, 0, 9, 1, 0, 0) := rfl
theorem bt_59_14 : mm_at mt_P 59 14 = some ((14, 1, .iload_n 0, 0, 0, 0, 0), 4, 3, 0, 9, 1, 0, 0) := rfl
theorem bt_59_15 : mm_at mt_P 59 15 = some ((15, 1, .iload_n 3, 0, 0, 0, 0), 4, 3, 0, 9, 1, 0, 0) := rfl
theorem bt_59_16 : mm_at mt_P 59 16 = some ((16, 1, .idiv, 0, 0, 0, 0), 4, 3, 0, 9, 1, 0, 0) := rfl
theorem bt_59_17 : mm_at mt_P 59 17 = some ((17, 1, .ireturn, 0, 0, 0, 0), 4, 3, 0, 9, 1, 0, 0) := rfl
section BX
variable {E : mm_E} {FIN : mm_C → Prop} {h0 h : mm_H} {s : Nat → Int32} {A : Nat → Nat → Int32} {L : Nat → Nat → Int64} {gs : List mm_F}
theorem ln_loop : ∀ N : Nat, ∀ (lv : mm_V) (o : Option Value) (x y : Int32), mm_get lv 2 = some (.int x) → mm_get lv 3 = some (.int y) → (y.toInt ≠ 0 ∨ x.toInt ≠ 0) → y.toInt.natAbs < N → (∀ r : Int32, r.toInt ≠ 0 → bh_G E FIN (mm_back (some (.int r)) gs h)) → bh_G E FIN ((16, 13, lv, [], 0, 0) :: gs, h, o) := by
  intro N
  induction N with
  | zero =>
    intro lv o x y g2 g3 hn hN kk
    refine bh_ld (pc' := 14) bt_16_13 rfl rfl (fun _ _ _ => rfl) g3 rfl ?_
    refine bh_i0 (pc' := 17) (pt := 30) bt_16_14 rfl rfl (fun k4333 => ?_) (fun k4333 => ?_)
    · replace k4333 : (y).toInt = 0 := k4333
      refine bh_ld (pc' := 31) bt_16_30 rfl rfl (fun _ _ _ => rfl) g2 rfl ?_
      refine bh_ri bt_16_31 ?_
      exact kk _ (by omega)
    · replace k4333 : ¬ ((y).toInt = 0) := k4333
      refine bh_ld (pc' := 18) bt_16_17 rfl rfl (fun _ _ _ => rfl) g2 rfl ?_
      refine bh_ld (pc' := 19) bt_16_18 rfl rfl (fun _ _ _ => rfl) g3 rfl ?_
      refine bh_rem (pc' := 20) bt_16_19 rfl (by omega) (fun v4334 e4335 => ?_)
      refine bh_st (pc' := 22) bt_16_20 rfl rfl (fun _ _ _ => rfl) rfl (by decide) (by decide) (fun lv4336 F4337 g4338 => ?_)
      have g4339 := F4337 2 (.int x) g2 (by decide) (Or.inl rfl)
      have g4340 := F4337 3 (.int y) g3 (by decide) (Or.inl rfl)
      refine bh_ld (pc' := 23) bt_16_22 rfl rfl (fun _ _ _ => rfl) g4340 rfl ?_
      refine bh_st (pc' := 24) bt_16_23 rfl rfl (fun _ _ _ => rfl) rfl (by decide) (by decide) (fun lv4341 F4342 g4343 => ?_)
      have g4344 := F4342 3 (.int y) g4340 (by decide) (Or.inl rfl)
      have g4345 := F4342 4 (.int v4334) g4338 (by decide) (Or.inl rfl)
      refine bh_ld (pc' := 26) bt_16_24 rfl rfl (fun _ _ _ => rfl) g4345 rfl ?_
      refine bh_st (pc' := 27) bt_16_26 rfl rfl (fun _ _ _ => rfl) rfl (by decide) (by decide) (fun lv4346 F4347 g4348 => ?_)
      have g4349 := F4347 4 (.int v4334) g4345 (by decide) (Or.inl rfl)
      have g4350 := F4347 2 (.int y) g4343 (by decide) (Or.inl rfl)
      refine bh_go (pc' := 13) bt_16_27 rfl ?_
      exfalso
      omega
  | succ N ih =>
    intro lv o x y g2 g3 hn hN kk
    refine bh_ld (pc' := 14) bt_16_13 rfl rfl (fun _ _ _ => rfl) g3 rfl ?_
    refine bh_i0 (pc' := 17) (pt := 30) bt_16_14 rfl rfl (fun k4351 => ?_) (fun k4351 => ?_)
    · replace k4351 : (y).toInt = 0 := k4351
      refine bh_ld (pc' := 31) bt_16_30 rfl rfl (fun _ _ _ => rfl) g2 rfl ?_
      refine bh_ri bt_16_31 ?_
      exact kk _ (by omega)
    · replace k4351 : ¬ ((y).toInt = 0) := k4351
      refine bh_ld (pc' := 18) bt_16_17 rfl rfl (fun _ _ _ => rfl) g2 rfl ?_
      refine bh_ld (pc' := 19) bt_16_18 rfl rfl (fun _ _ _ => rfl) g3 rfl ?_
      refine bh_rem (pc' := 20) bt_16_19 rfl (by omega) (fun v4352 e4353 => ?_)
      refine bh_st (pc' := 22) bt_16_20 rfl rfl (fun _ _ _ => rfl) rfl (by decide) (by decide) (fun lv4354 F4355 g4356 => ?_)
      have g4357 := F4355 2 (.int x) g2 (by decide) (Or.inl rfl)
      have g4358 := F4355 3 (.int y) g3 (by decide) (Or.inl rfl)
      refine bh_ld (pc' := 23) bt_16_22 rfl rfl (fun _ _ _ => rfl) g4358 rfl ?_
      refine bh_st (pc' := 24) bt_16_23 rfl rfl (fun _ _ _ => rfl) rfl (by decide) (by decide) (fun lv4359 F4360 g4361 => ?_)
      have g4362 := F4360 3 (.int y) g4358 (by decide) (Or.inl rfl)
      have g4363 := F4360 4 (.int v4352) g4356 (by decide) (Or.inl rfl)
      refine bh_ld (pc' := 26) bt_16_24 rfl rfl (fun _ _ _ => rfl) g4363 rfl ?_
      refine bh_st (pc' := 27) bt_16_26 rfl rfl (fun _ _ _ => rfl) rfl (by decide) (by decide) (fun lv4364 F4365 g4366 => ?_)
      have g4367 := F4365 4 (.int v4352) g4363 (by decide) (Or.inl rfl)
      have g4368 := F4365 2 (.int y) g4361 (by decide) (Or.inl rfl)
      refine bh_go (pc' := 13) bt_16_27 rfl ?_
      exact ih _ _ _ _ g4368 g4366 (by omega) (by omega) kk
theorem sp_16 {a b : Int32} (hb : b.toInt ≠ 0) (kk : ∀ r : Int32, r.toInt ≠ 0 → bh_G E FIN (mm_back (some (.int r)) gs h)) : bh_G E FIN ((16, 0, [(0, .int a), (1, .int b)], [], 0, 0) :: gs, h, none) := by
  refine bh_ld (pc' := 1) bt_16_0 rfl rfl (fun _ _ _ => rfl) rfl rfl ?_
  refine bh_i0 (pc' := 4) (pt := 9) bt_16_1 rfl rfl (fun k4369 => ?_) (fun k4369 => ?_)
  · replace k4369 : 0 ≤ (a).toInt := k4369
    refine bh_ld (pc' := 10) bt_16_9 rfl rfl (fun _ _ _ => rfl) rfl rfl ?_
    refine bh_st (pc' := 11) bt_16_10 rfl rfl (fun _ _ _ => rfl) rfl (by decide) (by decide) (fun lv4370 F4371 g4372 => ?_)
    have g4373 := F4371 0 (.int a) rfl (by decide) (Or.inl rfl)
    have g4374 := F4371 1 (.int b) rfl (by decide) (Or.inl rfl)
    refine bh_ld (pc' := 12) bt_16_11 rfl rfl (fun _ _ _ => rfl) g4374 rfl ?_
    refine bh_st (pc' := 13) bt_16_12 rfl rfl (fun _ _ _ => rfl) rfl (by decide) (by decide) (fun lv4375 F4376 g4377 => ?_)
    have g4378 := F4376 0 (.int a) g4373 (by decide) (Or.inl rfl)
    have g4379 := F4376 1 (.int b) g4374 (by decide) (Or.inl rfl)
    have g4380 := F4376 2 (.int a) g4372 (by decide) (Or.inl rfl)
    exact ln_loop (b.toInt.natAbs + 1) _ _ _ _ g4380 g4377 (by omega) (by omega) kk
  · replace k4369 : ¬ (0 ≤ (a).toInt) := k4369
    refine bh_ld (pc' := 5) bt_16_4 rfl rfl (fun _ _ _ => rfl) rfl rfl ?_
    refine bh_neg (pc' := 6) bt_16_5 rfl (fun v4381 => ?_)
    refine bh_go (pc' := 10) bt_16_6 rfl ?_
    refine bh_st (pc' := 11) bt_16_10 rfl rfl (fun _ _ _ => rfl) rfl (by decide) (by decide) (fun lv4382 F4383 g4384 => ?_)
    have g4385 := F4383 0 (.int a) rfl (by decide) (Or.inl rfl)
    have g4386 := F4383 1 (.int b) rfl (by decide) (Or.inl rfl)
    refine bh_ld (pc' := 12) bt_16_11 rfl rfl (fun _ _ _ => rfl) g4386 rfl ?_
    refine bh_st (pc' := 13) bt_16_12 rfl rfl (fun _ _ _ => rfl) rfl (by decide) (by decide) (fun lv4387 F4388 g4389 => ?_)
    have g4390 := F4388 0 (.int a) g4385 (by decide) (Or.inl rfl)
    have g4391 := F4388 1 (.int b) g4386 (by decide) (Or.inl rfl)
    have g4392 := F4388 2 (.int v4381) g4384 (by decide) (Or.inl rfl)
    exact ln_loop (b.toInt.natAbs + 1) _ _ _ _ g4392 g4389 (by omega) (by omega) kk
theorem sp_59 {lv : mm_V} {o : Option Value} {a b z : Int32} (hd : gs.length + 1 ≤ 999) (g0 : mm_get lv 0 = some (.int a)) (g1 : mm_get lv 1 = some (.int b)) (g2 : mm_get lv 2 = some (.int z)) (hb : b.toInt ≠ 0) (kk : ∀ r : Int32, bh_G E FIN (mm_back (some (.int r)) gs h)) : bh_G E FIN ((59, 0, lv, [], 0, 0) :: gs, h, o) := by
  refine bh_ld (pc' := 1) bt_59_0 rfl rfl (fun _ _ _ => rfl) g0 rfl ?_
  refine bh_ld (pc' := 2) bt_59_1 rfl rfl (fun _ _ _ => rfl) g1 rfl ?_
  refine bh_cs (pc' := 5) (st := []) (args := [.int b, .int a]) bt_59_2 rfl rfl (by decide) (by omega) rfl (Nat.le_of_ble_eq_true rfl) (Nat.le_of_ble_eq_true rfl) ?_
  refine sp_16 (a := a) (b := b) (by omega) (fun r4393 p4394 => ?_)
  show bh_G E FIN ((59, 5, lv, [.int r4393], 0, 0) :: gs, _, none)
  refine bh_st (pc' := 6) bt_59_5 rfl rfl (fun _ _ _ => rfl) rfl (by decide) (by decide) (fun lv4395 F4396 g4397 => ?_)
  have g4398 := F4396 0 (.int a) g0 (by decide) (Or.inl rfl)
  have g4399 := F4396 1 (.int b) g1 (by decide) (Or.inl rfl)
  have g4400 := F4396 2 (.int z) g2 (by decide) (Or.inl rfl)
  refine bh_ld (pc' := 7) bt_59_6 rfl rfl (fun _ _ _ => rfl) g4400 rfl ?_
  refine bh_i0 (pc' := 10) (pt := 14) bt_59_7 rfl rfl (fun k4401 => ?_) (fun k4401 => ?_)
  · replace k4401 : (z).toInt = 0 := k4401
    refine bh_ld (pc' := 15) bt_59_14 rfl rfl (fun _ _ _ => rfl) g4398 rfl ?_
    refine bh_ld (pc' := 16) bt_59_15 rfl rfl (fun _ _ _ => rfl) g4397 rfl ?_
    refine bh_divA (pc' := 17) bt_59_16 rfl (by omega) (fun v4402 => ?_)
    refine bh_ri bt_59_17 ?_
    exact kk _
  · replace k4401 : ¬ ((z).toInt = 0) := k4401
    refine bh_ld (pc' := 11) bt_59_10 rfl rfl (fun _ _ _ => rfl) g4399 rfl ?_
    refine bh_go (pc' := 15) bt_59_11 rfl ?_
    refine bh_ld (pc' := 16) bt_59_15 rfl rfl (fun _ _ _ => rfl) g4397 rfl ?_
    refine bh_divA (pc' := 17) bt_59_16 rfl (by omega) (fun v4404 => ?_)
    refine bh_ri bt_59_17 ?_
    exact kk _
end BX

/-! what is held of the laws' cells -/
def rd_XT : List (Nat × Nat × Nat) := [(106, 0, 14), (107, 0, 14), (108, 2, 260), (109, 0, 260), (110, 0, 260), (111, 0, 260), (112, 0, 260), (113, 0, 840), (114, 0, 840)]
def rd_Jh (h : mm_H) : Prop := ∃ A : Nat → Nat → Int32, (∀ q ∈ rd_XT, h[q.1]? = some (.inl (q.2.1, q.2.2, .inl (A q.1)))) ∧ rd_J A
theorem rd_JX : sf_JX rd_Jh := by
  intro h h' hk ⟨A, h1, h2⟩
  have hm : ∀ q ∈ rd_XT, q.1 ∈ sf_X := by decide
  exact ⟨A, fun q hq => by rw [← hk q.1 (hm q hq)]; exact h1 q hq, h2⟩
section BR
variable {E : mm_E} {ω : Nat → Value} {h0 h : mm_H} {H : en_H}
def br_s (fs : List Value) (k : Nat) : Int32 := match fs[k]? with
  | some (.int x) => x
  | _ => 0
/-- a local out of the codes -/
theorem br_l {nL loc : Nat} {lv : mm_V} (hl : en_lr E (fun _ => 0) ω nL loc lv) {i : Nat} (hi : i < nL) (hu : Nat.beq (en_elt loc i) 12884901891 = false) : ∃ v, mm_get lv i = some v ∧ en_v E (fun _ => 0) ω (en_elt loc i) v := by
  rcases hl i hi with h1 | h1
  · rw [h1] at hu
    cases hu
  · exact h1
/-- an int between two numbers, out of its code -/
theorem br_i {c lo hi : Nat} {v : Value} (hI : en_isI c = true) (hc : en_iv (sf_w0 0 0) c (fun a b => en_if (Nat.ble lo a) (Nat.ble b hi) false) = true) (hv : en_v E (fun _ => 0) ω c v) : ∃ x : Int32, v = .int x ∧ (lo : Int) ≤ x.toInt + 2147483648 ∧ x.toInt + 2147483648 ≤ (hi : Int) := by
  obtain ⟨x, rfl⟩ := en_isI_int hI hv
  obtain ⟨a, b, g1, g2, g3, g4⟩ := en_iv_v (w := sf_w0 0 0) (sf_full_e (fun _ => 0) 40) hv
  rw [g4] at hc
  obtain ⟨l1, l2⟩ := en_if_and.mp hc
  have l1 := en_ble_t.mp l1
  have l2 := en_ble_t.mp l2
  have hz := en_z_int x
  exact ⟨x, rfl, by omega, by omega⟩
/-- the object's cell -/
theorem br_o {ρ : Nat → Int32} (hk : en_kind (en_get H 88) = 15) (hh : en_h E ρ ω h0 H h) : ∃ fs : List Value, h[88]? = some (.inr (9, fs)) ∧ fs.length = en_len (en_get H 88) ∧ ∀ (j : Nat) (v : Value), fs[j]? = some v → en_v E ρ ω (en_elt (en_get H 88) j) v := by
  rcases (hh 88).1 (by decide) (by rw [hk]; decide) with ⟨t, f, d1, d2, d3, d4⟩ | ⟨f, d1, d2, d3⟩ | ⟨f, d1, d2, d3⟩ | ⟨ci, fs, d1, d2, d3, d4⟩
  · omega
  · omega
  · omega
  · have e : ci = 9 := by rw [hk] at d1; omega
    subst e
    exact ⟨fs, d2, d3, d4⟩
/-- an int array's cell -/
theorem br_a {ρ : Nat → Int32} {k t n : Nat} (hk0 : k < 136) (hk : en_kind (en_get H k) = t + 1) (ht : t < 3) (hn : en_len (en_get H k) = n) (hh : en_h E ρ ω h0 H h) : ∃ f : Nat → Int32, h[k]? = some (.inl (t, n, .inl f)) ∧ ∀ j, j < n → en_v E ρ ω (en_elt (en_get H k) j) (.int (f j)) := by
  rcases (hh k).1 hk0 (by rw [hk]; omega) with ⟨t2, f, d1, d2, d3, d4⟩ | ⟨f, d1, d2, d3⟩ | ⟨f, d1, d2, d3⟩ | ⟨ci, fs, d1, d2, d3, d4⟩
  · have e : t2 = t := by omega
    subst e
    rw [hn] at d3 d4
    exact ⟨f, d3, d4⟩
  · omega
  · omega
  · omega
theorem br_ref {fs : List Value} {ρ : Nat → Int32} {N j c : Nat} (hl : j < fs.length) (hv : ∀ (j : Nat) (v : Value), fs[j]? = some v → en_v E ρ ω (en_elt N j) v) (hc : en_elt N j = 8589934592 + c) (hc2 : c < 136) : fs[j]? = some (.ref (E.1 + c)) := by
  have h1 : fs[j]? = some fs[j] := List.getElem?_eq_getElem hl
  have h2 := hv j _ h1
  rw [hc] at h2
  have h3 := (en_v_ref (by omega) (by omega)).mp h2
  rw [h1, h3]
  have e : 8589934592 + c - 8589934592 = c := by omega
  rw [e]
theorem br_int {fs : List Value} {N j lo hi : Nat} (hl : j < fs.length) (hv : ∀ (j : Nat) (v : Value), fs[j]? = some v → en_v E (fun _ => 0) ω (en_elt N j) v) (hI : en_isI (en_elt N j) = true) (hc : en_iv (sf_w0 0 0) (en_elt N j) (fun a b => en_if (Nat.ble lo a) (Nat.ble b hi) false) = true) : fs[j]? = some (.int (br_s fs j)) ∧ (lo : Int) ≤ (br_s fs j).toInt + 2147483648 ∧ (br_s fs j).toInt + 2147483648 ≤ (hi : Int) := by
  have h1 : fs[j]? = some fs[j] := List.getElem?_eq_getElem hl
  obtain ⟨x, hx, g1, g2⟩ := br_i hI hc (hv j _ h1)
  have e : br_s fs j = x := by
    unfold br_s
    rw [h1, hx]
  rw [e, h1, hx]
  exact ⟨rfl, g1, g2⟩
/-- what is asked, as a contract -/
theorem br_ask {M : sf_M} {lo3 hi3 lo4 hi4 : Nat} (e1 : M.1 = 196608) (eH : M.2.2.2.1 = M.2.2.1) (eC : M.2.2.2.2.1 = [88, 116, 117]) (hcov : sf_cov M.2.2.1 [88, 116, 117] 136 = true)
    (k0 : en_elt M.2.1 0 = 8589934680) (k1 : en_elt M.2.1 1 = 83010348333840465926) (k2 : en_elt M.2.1 2 = 73786976299133173759)
    (k3 : (en_isI (en_elt M.2.1 3) = true ∧ Nat.beq (en_elt M.2.1 3) 12884901891 = false) ∧ en_iv (sf_w0 0 0) (en_elt M.2.1 3) (fun a b => en_if (Nat.ble lo3 a) (Nat.ble b hi3) false) = true)
    (k4 : (en_isI (en_elt M.2.1 4) = true ∧ Nat.beq (en_elt M.2.1 4) 12884901891 = false) ∧ en_iv (sf_w0 0 0) (en_elt M.2.1 4) (fun a b => en_if (Nat.ble lo4 a) (Nat.ble b hi4) false) = true)
    (kr : M.2.2.2.2.2 = [en_mk lo3 hi4]) (kl : lo3 ≤ lo4 ∧ hi3 ≤ hi4 ∧ hi4 < 4294967296)
    (o1 : en_kind (en_get M.2.2.1 88) = 15) (o2 : en_len (en_get M.2.2.1 88) = 73) (o3 : ∀ p ∈ be_T.1, en_elt (en_get M.2.2.1 88) p.1 = 8589934592 + p.2 ∧ p.2 < 136)
    (o4 : en_isI (en_elt (en_get M.2.2.1 88) 18) = true ∧ en_iv (sf_w0 0 0) (en_elt (en_get M.2.2.1 88) 18) (fun a b => en_if (Nat.ble 2147483648 a) (Nat.ble b 2147483649) false) = true)
    (o5 : en_elt (en_get M.2.2.1 88) 46 = 83010348333840465921)
    (a1 : en_kind (en_get M.2.2.1 116) = 1 ∧ en_len (en_get M.2.2.1 116) = 9) (a2 : en_kind (en_get M.2.2.1 117) = 1 ∧ en_len (en_get M.2.2.1 117) = 400)
    (a3 : ∀ j, j < 400 → en_elt (en_get M.2.2.1 117) j = 73786976299133173759) : sf_K E ω rd_Jh 4 133 M := by
  intro h0 fsC FIN c hJ hR hp
  obtain ⟨lv, sv, gs, h, o, rfl, ⟨cs, nL, dd, hP, hl⟩, hs, hh, he, hx, hd, hf⟩ := hR (fun _ => 0)
  have hg : gs = fsC := hf
  subst hg
  have hs0 := en_sr_nil hs
  subst hs0
  have hx : h.length = 133 := hx
  have hd : gs.length + 0 + 1 + 4 ≤ 1000 := hd
  have hnl : nL = 6 := by
    have hP2 : mt_P[3]? = some (cs, nL, dd) := by
      rw [e1] at hP
      exact hP
    exact sf_nL (m := 3) (n := 6) (by decide +kernel) cs nL dd hP2
  subst hnl
  obtain ⟨A0, hA0, hJA⟩ := hJ
  have hco := sf_cov_t 136 hcov
  have hX : ∀ q ∈ rd_XT, h[q.1]? = some (.inl (q.2.1, q.2.2, .inl (A0 q.1))) := by
    intro q hq
    have hm : ∀ q ∈ rd_XT, q.1 < 136 ∧ q.1 ∉ [88, 116, 117] := by decide
    obtain ⟨m1, m2⟩ := hm q hq
    rw [(hh q.1).2 (fun g => m2 ((hco q.1 m1).mpr g.2))]
    exact hA0 q hq
  obtain ⟨fs, f1, f2, f3⟩ := br_o o1 hh
  rw [o2] at f2
  obtain ⟨w116, g116, -⟩ := br_a (k := 116) (t := 0) (n := 9) (by decide) a1.1 (by decide) a1.2 hh
  obtain ⟨w117, g117, -⟩ := br_a (k := 117) (t := 0) (n := 400) (by decide) a2.1 (by decide) a2.2 hh
  obtain ⟨i18, l18, u18⟩ := br_int (j := 18) (by rw [f2]; decide) f3 o4.1 o4.2
  obtain ⟨i46, l46, u46⟩ := br_int (j := 46) (lo := 2147483648) (hi := 2147483649) (by rw [f2]; decide) f3 (by rw [o5]; decide +kernel) (by rw [o5]; decide +kernel)
  have hPP : bh_P be_T E h h (br_s fs) (fun k => if k = 116 then w116 else if k = 117 then w117 else A0 k) (fun _ _ => 0) := by
    refine ⟨be_W, hx, ⟨fs, fs, f1, f1, rfl, fun _ _ => rfl, fun p hpp => ?_, fun k hk => ?_⟩, fun q hq => ?_, fun q hq => (by cases hq), fun _ _ _ _ => rfl⟩
    · obtain ⟨q1, q2⟩ := o3 p hpp
      have hm : ∀ p ∈ be_T.1, p.1 < 73 := by decide
      exact br_ref (by rw [f2]; exact hm p hpp) f3 q1 q2
    · rcases List.mem_cons.mp hk with rfl | hk
      · exact i18
      · rcases List.mem_cons.mp hk with rfl | hk
        · exact i46
        · cases hk
    · have hm : ∀ q ∈ be_T.2.2.1, (q.1 ≠ 116 ∧ q.1 ≠ 117 ∧ q ∈ rd_XT) ∨ q = (116, 0, 9) ∨ q = (117, 0, 400) := by decide
      rcases hm q hq with ⟨m1, m2, m3⟩ | rfl | rfl
      · simp only [if_neg m1, if_neg m2]
        exact hX q m3
      · exact g116
      · exact g117
  obtain ⟨v0, b0, c0⟩ := br_l hl (i := 0) (by decide) (by rw [k0]; decide)
  obtain ⟨v1, b1, c1⟩ := br_l hl (i := 1) (by decide) (by rw [k1]; decide)
  obtain ⟨v2, b2, c2⟩ := br_l hl (i := 2) (by decide) (by rw [k2]; decide)
  obtain ⟨v3, b3, c3⟩ := br_l hl (i := 3) (by decide) k3.1.2
  obtain ⟨v4, b4, c4⟩ := br_l hl (i := 4) (by decide) k4.1.2
  rw [k0] at c0
  have c0 := (en_v_ref (by decide) (by decide)).mp c0
  subst c0
  obtain ⟨x1, rfl, y1, z1⟩ := br_i (lo := 2147483648) (hi := 2147483654) (by rw [k1]; decide +kernel) (by rw [k1]; decide +kernel) c1
  obtain ⟨x2, rfl, y2, z2⟩ := br_i (lo := 0) (hi := 4294967295) (by rw [k2]; decide +kernel) (by rw [k2]; decide +kernel) c2
  obtain ⟨x3, rfl, y3, z3⟩ := br_i k3.1.1 k3.2 c3
  obtain ⟨x4, rfl, y4, z4⟩ := br_i k4.1.1 k4.2 c4
  have hJ2 : rd_J (fun k => if k = 116 then w116 else if k = 117 then w117 else A0 k) := by
    have key : ∀ σ bh hi, rd_S A0 σ bh hi → rd_S (fun k => if k = 116 then w116 else if k = 117 then w117 else A0 k) σ bh hi := fun σ bh hi hS => rd_S_congr (Nat.le_refl _) (Nat.le_refl _) (fun j _ _ => ⟨rfl, rfl⟩) (fun b _ _ k k1 k2 => by simp only [if_neg (show k ≠ 116 by omega), if_neg (show k ≠ 117 by omega)]) (fun k _ _ => ⟨rfl, rfl⟩) hS
    exact ⟨key _ _ _ hJA.1, key _ _ _ hJA.2⟩
  rw [e1]
  refine sp_3 (lv := lv) b0 b1 b2 b3 b4 hPP (by omega) (by omega) (by omega) (by omega) (by omega) hJ2 (by omega) (by omega) (fun h' s' A' r hP' fr r46 fA hr => ?_)
  obtain ⟨-, hlen, ⟨fs0, fs', p1, p2, p3, p4, p5, p6⟩, pA, -, pF⟩ := hP'
  have e9 : fs0 = fs := by
    have h9 := p1.symm.trans f1
    cases h9
    rfl
  subst e9
  have hkeep : ∀ k, k ∉ [88, 116, 117] → h'[k]? = h[k]? := by
    intro k hk
    by_cases hkX : ∃ q ∈ rd_XT, q.1 = k
    · obtain ⟨q, q1, q2⟩ := hkX
      have hm : ∀ q ∈ rd_XT, q ∈ be_T.2.2.1 := by decide
      have hm2 : ∀ q ∈ rd_XT, q.1 ≠ 117 ∧ q.1 ≠ 116 := by decide
      have g1 := pA q (hm q q1)
      have g2 := hPP.2.2.2.1 q (hm q q1)
      have g3 : A' q.1 = (fun k => if k = 116 then w116 else if k = 117 then w117 else A0 k) q.1 := funext (fun j => fA q.1 j (hm2 q q1).1)
      rw [g3] at g1
      rw [← q2, g1, g2]
    · refine pF k (fun e => hk (by rw [e]; decide)) (fun q hq e => ?_) (fun q hq => (by cases hq))
      have hm : ∀ q ∈ be_T.2.2.1, q ∈ rd_XT ∨ q.1 = 116 ∨ q.1 = 117 := by decide
      rcases hm q hq with m1 | m1 | m1
      · exact hkX ⟨q, m1, e⟩
      · exact hk (by rw [← e, m1]; decide)
      · exact hk (by rw [← e, m1]; decide)
  refine hp _ h' (fun ρ => ⟨?_, ?_⟩) hlen
  · rw [kr]
    refine Or.inr ⟨_, _, rfl, rfl, ?_⟩
    have hz := en_z_int r
    exact en_mk_v (by omega) (by omega) kl.2.2
  · obtain ⟨lv2, sv2, gs2, h2, o2', e2, -, -, hh2, -⟩ := hR ρ
    have e3 : h2 = h := by
      cases e2
      rfl
    subst e3
    rw [eH]
    intro k
    refine ⟨fun hk1 hk2 => ?_, fun hk => ?_⟩
    · have hmem := (hco k hk1).mpr hk2
      simp only [List.mem_cons, List.not_mem_nil, or_false] at hmem
      rcases hmem with rfl | rfl | rfl
      · obtain ⟨fsr, q1, q2, q3⟩ := br_o o1 hh2
        have e4 : fsr = fs0 := by
          have h9 := q1.symm.trans f1
          cases h9
          rfl
        subst e4
        refine Or.inr (Or.inr (Or.inr ⟨9, fs', o1, p2, by rw [p3, f2, o2], fun j v hv => ?_⟩))
        by_cases hj : j ∈ be_T.2.1
        · rcases List.mem_cons.mp hj with rfl | hj
          · have g1 := p6 18 (by decide)
            rw [fr 18 (by decide), ← i18] at g1
            rw [g1] at hv
            exact q3 18 v hv
          · rcases List.mem_cons.mp hj with rfl | hj
            · have g1 := p6 46 (by decide)
              rw [g1] at hv
              cases hv
              rw [o5]
              have hz := en_z_int (s' 46)
              exact (en_v_rng (by decide) (by decide)).mpr ⟨_, rfl, by omega, by omega⟩
            · cases hj
        · rw [p4 j hj] at hv
          exact q3 j v hv
      · have g1 := pA (116, 0, 9) (by decide)
        have g3 : A' 116 = w116 := funext (fun j => fA 116 j (by decide))
        simp only at g1
        rw [g3, ← g116] at g1
        rw [g1]
        exact (hh2 116).1 (by decide) hk2
      · have g1 := pA (117, 0, 400) (by decide)
        simp only at g1
        exact Or.inl ⟨0, A' 117, a2.1, by decide, by rw [a2.2]; exact g1, fun j hj => by rw [a3 j (by rw [a2.2] at hj; exact hj)]; exact en_any_v _⟩
    · rw [hkeep k (fun hm => hk ⟨(by simp only [List.mem_cons, List.not_mem_nil, or_false] at hm; omega), (hco k (by simp only [List.mem_cons, List.not_mem_nil, or_false] at hm; omega)).mp hm⟩)]
      exact (hh2 k).2 hk
/-- a line, as a contract -/
theorem br_line {M : sf_M} (e1 : M.1 = 3866624) (eH : M.2.2.2.1 = M.2.2.1) (k0 : en_elt M.2.1 0 = 73786976299133173759) (k1 : en_elt M.2.1 1 = 83010348340282916863) (k2 : en_elt M.2.1 2 = 83010348333840465921) (kr : M.2.2.2.2.2 = [73786976299133173759]) : sf_K E ω rd_Jh 4 133 M := by
  intro h0 fsC FIN c hJ hR hp
  obtain ⟨lv, sv, gs, h, o, rfl, ⟨cs, nL, dd, hP, hl⟩, hs, hh, he, hx, hd, hf⟩ := hR (fun _ => 0)
  have hg : gs = fsC := hf
  subst hg
  have hs0 := en_sr_nil hs
  subst hs0
  have hd : gs.length + 0 + 1 + 4 ≤ 1000 := hd
  have hnl : nL = 4 := by
    have hP2 : mt_P[59]? = some (cs, nL, dd) := by
      rw [e1] at hP
      exact hP
    exact sf_nL (m := 59) (n := 4) (by decide +kernel) cs nL dd hP2
  subst hnl
  obtain ⟨v0, b0, c0⟩ := br_l hl (i := 0) (by decide) (by rw [k0]; decide)
  obtain ⟨v1, b1, c1⟩ := br_l hl (i := 1) (by decide) (by rw [k1]; decide)
  obtain ⟨v2, b2, c2⟩ := br_l hl (i := 2) (by decide) (by rw [k2]; decide)
  obtain ⟨x0, rfl, y0, z0⟩ := br_i (lo := 0) (hi := 4294967295) (by rw [k0]; decide +kernel) (by rw [k0]; decide +kernel) c0
  obtain ⟨x1, rfl, y1, z1⟩ := br_i (lo := 2147483649) (hi := 4294967295) (by rw [k1]; decide +kernel) (by rw [k1]; decide +kernel) c1
  obtain ⟨x2, rfl, y2, z2⟩ := br_i (lo := 0) (hi := 4294967295) (by rw [k2]; decide +kernel) (by rw [k2]; decide +kernel) c2
  rw [e1]
  refine sp_59 (lv := lv) (by omega) b0 b1 b2 (by omega) (fun r => ?_)
  refine hp _ h (fun ρ => ⟨by rw [kr]; exact Or.inr ⟨_, _, rfl, rfl, en_any_v _⟩, ?_⟩) hx
  obtain ⟨lv2, sv2, gs2, h2, o2', e2, -, -, hh2, -⟩ := hR ρ
  cases e2
  rw [eH]
  exact hh2
end BR
theorem br_1zb_h0 : en_kind (en_get zb_h0 88) = 15 := by decide +kernel
theorem br_2zb_h0 : en_len (en_get zb_h0 88) = 73 := by decide +kernel
theorem br_3zb_h0 : ∀ p ∈ be_T.1, en_elt (en_get zb_h0 88) p.1 = 8589934592 + p.2 ∧ p.2 < 136 := by decide +kernel
theorem br_4zb_h0 : en_isI (en_elt (en_get zb_h0 88) 18) = true ∧ en_iv (sf_w0 0 0) (en_elt (en_get zb_h0 88) 18) (fun a b => en_if (Nat.ble 2147483648 a) (Nat.ble b 2147483649) false) = true := by decide +kernel
theorem br_5zb_h0 : en_elt (en_get zb_h0 88) 46 = 83010348333840465921 := by decide +kernel
theorem br_6zb_h0 : en_kind (en_get zb_h0 116) = 1 ∧ en_len (en_get zb_h0 116) = 9 := by decide +kernel
theorem br_7zb_h0 : en_kind (en_get zb_h0 117) = 1 ∧ en_len (en_get zb_h0 117) = 400 := by decide +kernel
theorem br_8zb_h0 : ∀ j, j < 400 → en_elt (en_get zb_h0 117) j = 73786976299133173759 := by decide +kernel
theorem br_9zb_h0 : sf_cov zb_h0 [88, 116, 117] 136 = true := by decide +kernel
theorem br_1zb_h2 : en_kind (en_get zb_h2 88) = 15 := by decide +kernel
theorem br_2zb_h2 : en_len (en_get zb_h2 88) = 73 := by decide +kernel
theorem br_3zb_h2 : ∀ p ∈ be_T.1, en_elt (en_get zb_h2 88) p.1 = 8589934592 + p.2 ∧ p.2 < 136 := by decide +kernel
theorem br_4zb_h2 : en_isI (en_elt (en_get zb_h2 88) 18) = true ∧ en_iv (sf_w0 0 0) (en_elt (en_get zb_h2 88) 18) (fun a b => en_if (Nat.ble 2147483648 a) (Nat.ble b 2147483649) false) = true := by decide +kernel
theorem br_5zb_h2 : en_elt (en_get zb_h2 88) 46 = 83010348333840465921 := by decide +kernel
theorem br_6zb_h2 : en_kind (en_get zb_h2 116) = 1 ∧ en_len (en_get zb_h2 116) = 9 := by decide +kernel
theorem br_7zb_h2 : en_kind (en_get zb_h2 117) = 1 ∧ en_len (en_get zb_h2 117) = 400 := by decide +kernel
theorem br_8zb_h2 : ∀ j, j < 400 → en_elt (en_get zb_h2 117) j = 73786976299133173759 := by decide +kernel
theorem br_9zb_h2 : sf_cov zb_h2 [88, 116, 117] 136 = true := by decide +kernel
theorem br_1zb_h3 : en_kind (en_get zb_h3 88) = 15 := by decide +kernel
theorem br_2zb_h3 : en_len (en_get zb_h3 88) = 73 := by decide +kernel
theorem br_3zb_h3 : ∀ p ∈ be_T.1, en_elt (en_get zb_h3 88) p.1 = 8589934592 + p.2 ∧ p.2 < 136 := by decide +kernel
theorem br_4zb_h3 : en_isI (en_elt (en_get zb_h3 88) 18) = true ∧ en_iv (sf_w0 0 0) (en_elt (en_get zb_h3 88) 18) (fun a b => en_if (Nat.ble 2147483648 a) (Nat.ble b 2147483649) false) = true := by decide +kernel
theorem br_5zb_h3 : en_elt (en_get zb_h3 88) 46 = 83010348333840465921 := by decide +kernel
theorem br_6zb_h3 : en_kind (en_get zb_h3 116) = 1 ∧ en_len (en_get zb_h3 116) = 9 := by decide +kernel
theorem br_7zb_h3 : en_kind (en_get zb_h3 117) = 1 ∧ en_len (en_get zb_h3 117) = 400 := by decide +kernel
theorem br_8zb_h3 : ∀ j, j < 400 → en_elt (en_get zb_h3 117) j = 73786976299133173759 := by decide +kernel
theorem br_9zb_h3 : sf_cov zb_h3 [88, 116, 117] 136 = true := by decide +kernel
section BM
variable {E : mm_E} {ω : Nat → Value}
theorem br_zb_m0 : sf_Kok E ω rd_Jh 6 4 133 zb_m0 := ⟨sf_nL (by decide +kernel), zb_h0_n, br_9zb_h0, br_9zb_h0, by decide, br_ask (lo3 := 2147483648) (hi3 := 2147483648) (lo4 := 2147483657) (hi4 := 2147483657) rfl rfl rfl (by decide +kernel) (by decide +kernel) (by decide +kernel) (by decide +kernel) (by decide +kernel) (by decide +kernel) (by decide +kernel) (by decide +kernel) br_1zb_h0 br_2zb_h0 br_3zb_h0 br_4zb_h0 br_5zb_h0 br_6zb_h0 br_7zb_h0 br_8zb_h0⟩
theorem br_zb_m1 : sf_Kok E ω rd_Jh 6 4 133 zb_m1 := ⟨sf_nL (by decide +kernel), zb_h0_n, br_9zb_h0, br_9zb_h0, by decide, br_ask (lo3 := 2147483648) (hi3 := 2147483648) (lo4 := 2147483747) (hi4 := 2147483747) rfl rfl rfl (by decide +kernel) (by decide +kernel) (by decide +kernel) (by decide +kernel) (by decide +kernel) (by decide +kernel) (by decide +kernel) (by decide +kernel) br_1zb_h0 br_2zb_h0 br_3zb_h0 br_4zb_h0 br_5zb_h0 br_6zb_h0 br_7zb_h0 br_8zb_h0⟩
theorem br_zb_m2 : sf_Kok E ω rd_Jh 6 4 133 zb_m2 := ⟨sf_nL (by decide +kernel), zb_h0_n, br_9zb_h0, br_9zb_h0, by decide, br_ask (lo3 := 2147483639) (hi3 := 2147483639) (lo4 := 2147483657) (hi4 := 2147483657) rfl rfl rfl (by decide +kernel) (by decide +kernel) (by decide +kernel) (by decide +kernel) (by decide +kernel) (by decide +kernel) (by decide +kernel) (by decide +kernel) br_1zb_h0 br_2zb_h0 br_3zb_h0 br_4zb_h0 br_5zb_h0 br_6zb_h0 br_7zb_h0 br_8zb_h0⟩
theorem br_zb_m3 : sf_Kok E ω rd_Jh 6 4 133 zb_m3 := ⟨sf_nL (by decide +kernel), zb_h0_n, br_9zb_h0, br_9zb_h0, by decide, br_ask (lo3 := 2147483639) (hi3 := 2147483639) (lo4 := 2147483667) (hi4 := 2147483667) rfl rfl rfl (by decide +kernel) (by decide +kernel) (by decide +kernel) (by decide +kernel) (by decide +kernel) (by decide +kernel) (by decide +kernel) (by decide +kernel) br_1zb_h0 br_2zb_h0 br_3zb_h0 br_4zb_h0 br_5zb_h0 br_6zb_h0 br_7zb_h0 br_8zb_h0⟩
theorem br_zb_m4 : sf_Kok E ω rd_Jh 6 4 133 zb_m4 := ⟨sf_nL (by decide +kernel), zb_h0_n, br_9zb_h0, br_9zb_h0, by decide, br_ask (lo3 := 1) (hi3 := 1) (lo4 := 4294967295) (hi4 := 4294967295) rfl rfl rfl (by decide +kernel) (by decide +kernel) (by decide +kernel) (by decide +kernel) (by decide +kernel) (by decide +kernel) (by decide +kernel) (by decide +kernel) br_1zb_h0 br_2zb_h0 br_3zb_h0 br_4zb_h0 br_5zb_h0 br_6zb_h0 br_7zb_h0 br_8zb_h0⟩
theorem br_zb_m5 : sf_Kok E ω rd_Jh 4 4 133 zb_m5 := ⟨sf_nL (by decide +kernel), zb_h1_n, by decide +kernel, by decide +kernel, by decide, br_line rfl rfl (by decide +kernel) (by decide +kernel) (by decide +kernel) rfl⟩
theorem br_zb_m6 : sf_Kok E ω rd_Jh 4 4 133 zb_m6 := ⟨sf_nL (by decide +kernel), zb_h1_n, by decide +kernel, by decide +kernel, by decide, br_line rfl rfl (by decide +kernel) (by decide +kernel) (by decide +kernel) rfl⟩
theorem br_zb_m7 : sf_Kok E ω rd_Jh 4 4 133 zb_m7 := ⟨sf_nL (by decide +kernel), zb_h1_n, by decide +kernel, by decide +kernel, by decide, br_line rfl rfl (by decide +kernel) (by decide +kernel) (by decide +kernel) rfl⟩
theorem br_zb_m8 : sf_Kok E ω rd_Jh 4 4 133 zb_m8 := ⟨sf_nL (by decide +kernel), zb_h1_n, by decide +kernel, by decide +kernel, by decide, br_line rfl rfl (by decide +kernel) (by decide +kernel) (by decide +kernel) rfl⟩
theorem br_zb_m9 : sf_Kok E ω rd_Jh 4 4 133 zb_m9 := ⟨sf_nL (by decide +kernel), zb_h1_n, by decide +kernel, by decide +kernel, by decide, br_line rfl rfl (by decide +kernel) (by decide +kernel) (by decide +kernel) rfl⟩
theorem br_zb_m10 : sf_Kok E ω rd_Jh 4 4 133 zb_m10 := ⟨sf_nL (by decide +kernel), zb_h1_n, by decide +kernel, by decide +kernel, by decide, br_line rfl rfl (by decide +kernel) (by decide +kernel) (by decide +kernel) rfl⟩
theorem br_zb_m11 : sf_Kok E ω rd_Jh 4 4 133 zb_m11 := ⟨sf_nL (by decide +kernel), zb_h1_n, by decide +kernel, by decide +kernel, by decide, br_line rfl rfl (by decide +kernel) (by decide +kernel) (by decide +kernel) rfl⟩
theorem br_zb_m12 : sf_Kok E ω rd_Jh 4 4 133 zb_m12 := ⟨sf_nL (by decide +kernel), zb_h1_n, by decide +kernel, by decide +kernel, by decide, br_line rfl rfl (by decide +kernel) (by decide +kernel) (by decide +kernel) rfl⟩
theorem br_zb_m13 : sf_Kok E ω rd_Jh 4 4 133 zb_m13 := ⟨sf_nL (by decide +kernel), zb_h1_n, by decide +kernel, by decide +kernel, by decide, br_line rfl rfl (by decide +kernel) (by decide +kernel) (by decide +kernel) rfl⟩
theorem br_zb_m14 : sf_Kok E ω rd_Jh 4 4 133 zb_m14 := ⟨sf_nL (by decide +kernel), zb_h1_n, by decide +kernel, by decide +kernel, by decide, br_line rfl rfl (by decide +kernel) (by decide +kernel) (by decide +kernel) rfl⟩
theorem br_zb_m15 : sf_Kok E ω rd_Jh 4 4 133 zb_m15 := ⟨sf_nL (by decide +kernel), zb_h1_n, by decide +kernel, by decide +kernel, by decide, br_line rfl rfl (by decide +kernel) (by decide +kernel) (by decide +kernel) rfl⟩
theorem br_zb_m16 : sf_Kok E ω rd_Jh 4 4 133 zb_m16 := ⟨sf_nL (by decide +kernel), zb_h1_n, by decide +kernel, by decide +kernel, by decide, br_line rfl rfl (by decide +kernel) (by decide +kernel) (by decide +kernel) rfl⟩
theorem br_zb_m17 : sf_Kok E ω rd_Jh 4 4 133 zb_m17 := ⟨sf_nL (by decide +kernel), zb_h1_n, by decide +kernel, by decide +kernel, by decide, br_line rfl rfl (by decide +kernel) (by decide +kernel) (by decide +kernel) rfl⟩
theorem br_zb_m18 : sf_Kok E ω rd_Jh 6 4 133 zb_m18 := ⟨sf_nL (by decide +kernel), zb_h2_n, br_9zb_h2, br_9zb_h2, by decide, br_ask (lo3 := 2147483648) (hi3 := 2147483648) (lo4 := 2147483657) (hi4 := 2147483657) rfl rfl rfl (by decide +kernel) (by decide +kernel) (by decide +kernel) (by decide +kernel) (by decide +kernel) (by decide +kernel) (by decide +kernel) (by decide +kernel) br_1zb_h2 br_2zb_h2 br_3zb_h2 br_4zb_h2 br_5zb_h2 br_6zb_h2 br_7zb_h2 br_8zb_h2⟩
theorem br_zb_m19 : sf_Kok E ω rd_Jh 6 4 133 zb_m19 := ⟨sf_nL (by decide +kernel), zb_h2_n, br_9zb_h2, br_9zb_h2, by decide, br_ask (lo3 := 2147483648) (hi3 := 2147483648) (lo4 := 2147483747) (hi4 := 2147483747) rfl rfl rfl (by decide +kernel) (by decide +kernel) (by decide +kernel) (by decide +kernel) (by decide +kernel) (by decide +kernel) (by decide +kernel) (by decide +kernel) br_1zb_h2 br_2zb_h2 br_3zb_h2 br_4zb_h2 br_5zb_h2 br_6zb_h2 br_7zb_h2 br_8zb_h2⟩
theorem br_zb_m20 : sf_Kok E ω rd_Jh 6 4 133 zb_m20 := ⟨sf_nL (by decide +kernel), zb_h2_n, br_9zb_h2, br_9zb_h2, by decide, br_ask (lo3 := 2147483639) (hi3 := 2147483639) (lo4 := 2147483657) (hi4 := 2147483657) rfl rfl rfl (by decide +kernel) (by decide +kernel) (by decide +kernel) (by decide +kernel) (by decide +kernel) (by decide +kernel) (by decide +kernel) (by decide +kernel) br_1zb_h2 br_2zb_h2 br_3zb_h2 br_4zb_h2 br_5zb_h2 br_6zb_h2 br_7zb_h2 br_8zb_h2⟩
theorem br_zb_m21 : sf_Kok E ω rd_Jh 6 4 133 zb_m21 := ⟨sf_nL (by decide +kernel), zb_h2_n, br_9zb_h2, br_9zb_h2, by decide, br_ask (lo3 := 2147483639) (hi3 := 2147483639) (lo4 := 2147483667) (hi4 := 2147483667) rfl rfl rfl (by decide +kernel) (by decide +kernel) (by decide +kernel) (by decide +kernel) (by decide +kernel) (by decide +kernel) (by decide +kernel) (by decide +kernel) br_1zb_h2 br_2zb_h2 br_3zb_h2 br_4zb_h2 br_5zb_h2 br_6zb_h2 br_7zb_h2 br_8zb_h2⟩
theorem br_zb_m22 : sf_Kok E ω rd_Jh 6 4 133 zb_m22 := ⟨sf_nL (by decide +kernel), zb_h2_n, br_9zb_h2, br_9zb_h2, by decide, br_ask (lo3 := 1) (hi3 := 1) (lo4 := 4294967295) (hi4 := 4294967295) rfl rfl rfl (by decide +kernel) (by decide +kernel) (by decide +kernel) (by decide +kernel) (by decide +kernel) (by decide +kernel) (by decide +kernel) (by decide +kernel) br_1zb_h2 br_2zb_h2 br_3zb_h2 br_4zb_h2 br_5zb_h2 br_6zb_h2 br_7zb_h2 br_8zb_h2⟩
theorem br_zb_m23 : sf_Kok E ω rd_Jh 6 4 133 zb_m23 := ⟨sf_nL (by decide +kernel), zb_h2_n, br_9zb_h2, br_9zb_h2, by decide, br_ask (lo3 := 2147483648) (hi3 := 2147483648) (lo4 := 2147483657) (hi4 := 2147483657) rfl rfl rfl (by decide +kernel) (by decide +kernel) (by decide +kernel) (by decide +kernel) (by decide +kernel) (by decide +kernel) (by decide +kernel) (by decide +kernel) br_1zb_h2 br_2zb_h2 br_3zb_h2 br_4zb_h2 br_5zb_h2 br_6zb_h2 br_7zb_h2 br_8zb_h2⟩
theorem br_zb_m24 : sf_Kok E ω rd_Jh 6 4 133 zb_m24 := ⟨sf_nL (by decide +kernel), zb_h2_n, br_9zb_h2, br_9zb_h2, by decide, br_ask (lo3 := 2147483648) (hi3 := 2147483648) (lo4 := 2147483747) (hi4 := 2147483747) rfl rfl rfl (by decide +kernel) (by decide +kernel) (by decide +kernel) (by decide +kernel) (by decide +kernel) (by decide +kernel) (by decide +kernel) (by decide +kernel) br_1zb_h2 br_2zb_h2 br_3zb_h2 br_4zb_h2 br_5zb_h2 br_6zb_h2 br_7zb_h2 br_8zb_h2⟩
theorem br_zb_m25 : sf_Kok E ω rd_Jh 6 4 133 zb_m25 := ⟨sf_nL (by decide +kernel), zb_h2_n, br_9zb_h2, br_9zb_h2, by decide, br_ask (lo3 := 2147483639) (hi3 := 2147483639) (lo4 := 2147483657) (hi4 := 2147483657) rfl rfl rfl (by decide +kernel) (by decide +kernel) (by decide +kernel) (by decide +kernel) (by decide +kernel) (by decide +kernel) (by decide +kernel) (by decide +kernel) br_1zb_h2 br_2zb_h2 br_3zb_h2 br_4zb_h2 br_5zb_h2 br_6zb_h2 br_7zb_h2 br_8zb_h2⟩
theorem br_zb_m26 : sf_Kok E ω rd_Jh 6 4 133 zb_m26 := ⟨sf_nL (by decide +kernel), zb_h2_n, br_9zb_h2, br_9zb_h2, by decide, br_ask (lo3 := 2147483639) (hi3 := 2147483639) (lo4 := 2147483667) (hi4 := 2147483667) rfl rfl rfl (by decide +kernel) (by decide +kernel) (by decide +kernel) (by decide +kernel) (by decide +kernel) (by decide +kernel) (by decide +kernel) (by decide +kernel) br_1zb_h2 br_2zb_h2 br_3zb_h2 br_4zb_h2 br_5zb_h2 br_6zb_h2 br_7zb_h2 br_8zb_h2⟩
theorem br_zb_m27 : sf_Kok E ω rd_Jh 6 4 133 zb_m27 := ⟨sf_nL (by decide +kernel), zb_h2_n, br_9zb_h2, br_9zb_h2, by decide, br_ask (lo3 := 1) (hi3 := 1) (lo4 := 4294967295) (hi4 := 4294967295) rfl rfl rfl (by decide +kernel) (by decide +kernel) (by decide +kernel) (by decide +kernel) (by decide +kernel) (by decide +kernel) (by decide +kernel) (by decide +kernel) br_1zb_h2 br_2zb_h2 br_3zb_h2 br_4zb_h2 br_5zb_h2 br_6zb_h2 br_7zb_h2 br_8zb_h2⟩
theorem br_zb_m28 : sf_Kok E ω rd_Jh 6 4 133 zb_m28 := ⟨sf_nL (by decide +kernel), zb_h2_n, br_9zb_h2, br_9zb_h2, by decide, br_ask (lo3 := 2147483648) (hi3 := 2147483648) (lo4 := 2147483657) (hi4 := 2147483657) rfl rfl rfl (by decide +kernel) (by decide +kernel) (by decide +kernel) (by decide +kernel) (by decide +kernel) (by decide +kernel) (by decide +kernel) (by decide +kernel) br_1zb_h2 br_2zb_h2 br_3zb_h2 br_4zb_h2 br_5zb_h2 br_6zb_h2 br_7zb_h2 br_8zb_h2⟩
theorem br_zb_m29 : sf_Kok E ω rd_Jh 6 4 133 zb_m29 := ⟨sf_nL (by decide +kernel), zb_h2_n, br_9zb_h2, br_9zb_h2, by decide, br_ask (lo3 := 2147483648) (hi3 := 2147483648) (lo4 := 2147483747) (hi4 := 2147483747) rfl rfl rfl (by decide +kernel) (by decide +kernel) (by decide +kernel) (by decide +kernel) (by decide +kernel) (by decide +kernel) (by decide +kernel) (by decide +kernel) br_1zb_h2 br_2zb_h2 br_3zb_h2 br_4zb_h2 br_5zb_h2 br_6zb_h2 br_7zb_h2 br_8zb_h2⟩
theorem br_zb_m30 : sf_Kok E ω rd_Jh 6 4 133 zb_m30 := ⟨sf_nL (by decide +kernel), zb_h2_n, br_9zb_h2, br_9zb_h2, by decide, br_ask (lo3 := 2147483639) (hi3 := 2147483639) (lo4 := 2147483657) (hi4 := 2147483657) rfl rfl rfl (by decide +kernel) (by decide +kernel) (by decide +kernel) (by decide +kernel) (by decide +kernel) (by decide +kernel) (by decide +kernel) (by decide +kernel) br_1zb_h2 br_2zb_h2 br_3zb_h2 br_4zb_h2 br_5zb_h2 br_6zb_h2 br_7zb_h2 br_8zb_h2⟩
theorem br_zb_m31 : sf_Kok E ω rd_Jh 6 4 133 zb_m31 := ⟨sf_nL (by decide +kernel), zb_h2_n, br_9zb_h2, br_9zb_h2, by decide, br_ask (lo3 := 2147483639) (hi3 := 2147483639) (lo4 := 2147483667) (hi4 := 2147483667) rfl rfl rfl (by decide +kernel) (by decide +kernel) (by decide +kernel) (by decide +kernel) (by decide +kernel) (by decide +kernel) (by decide +kernel) (by decide +kernel) br_1zb_h2 br_2zb_h2 br_3zb_h2 br_4zb_h2 br_5zb_h2 br_6zb_h2 br_7zb_h2 br_8zb_h2⟩
theorem br_zb_m32 : sf_Kok E ω rd_Jh 6 4 133 zb_m32 := ⟨sf_nL (by decide +kernel), zb_h2_n, br_9zb_h2, br_9zb_h2, by decide, br_ask (lo3 := 1) (hi3 := 1) (lo4 := 4294967295) (hi4 := 4294967295) rfl rfl rfl (by decide +kernel) (by decide +kernel) (by decide +kernel) (by decide +kernel) (by decide +kernel) (by decide +kernel) (by decide +kernel) (by decide +kernel) br_1zb_h2 br_2zb_h2 br_3zb_h2 br_4zb_h2 br_5zb_h2 br_6zb_h2 br_7zb_h2 br_8zb_h2⟩
theorem br_zb_m33 : sf_Kok E ω rd_Jh 6 4 133 zb_m33 := ⟨sf_nL (by decide +kernel), zb_h2_n, br_9zb_h2, br_9zb_h2, by decide, br_ask (lo3 := 2147483648) (hi3 := 2147483648) (lo4 := 2147483657) (hi4 := 2147483657) rfl rfl rfl (by decide +kernel) (by decide +kernel) (by decide +kernel) (by decide +kernel) (by decide +kernel) (by decide +kernel) (by decide +kernel) (by decide +kernel) br_1zb_h2 br_2zb_h2 br_3zb_h2 br_4zb_h2 br_5zb_h2 br_6zb_h2 br_7zb_h2 br_8zb_h2⟩
theorem br_zb_m34 : sf_Kok E ω rd_Jh 6 4 133 zb_m34 := ⟨sf_nL (by decide +kernel), zb_h2_n, br_9zb_h2, br_9zb_h2, by decide, br_ask (lo3 := 2147483648) (hi3 := 2147483648) (lo4 := 2147483747) (hi4 := 2147483747) rfl rfl rfl (by decide +kernel) (by decide +kernel) (by decide +kernel) (by decide +kernel) (by decide +kernel) (by decide +kernel) (by decide +kernel) (by decide +kernel) br_1zb_h2 br_2zb_h2 br_3zb_h2 br_4zb_h2 br_5zb_h2 br_6zb_h2 br_7zb_h2 br_8zb_h2⟩
theorem br_zb_m35 : sf_Kok E ω rd_Jh 6 4 133 zb_m35 := ⟨sf_nL (by decide +kernel), zb_h2_n, br_9zb_h2, br_9zb_h2, by decide, br_ask (lo3 := 2147483639) (hi3 := 2147483639) (lo4 := 2147483657) (hi4 := 2147483657) rfl rfl rfl (by decide +kernel) (by decide +kernel) (by decide +kernel) (by decide +kernel) (by decide +kernel) (by decide +kernel) (by decide +kernel) (by decide +kernel) br_1zb_h2 br_2zb_h2 br_3zb_h2 br_4zb_h2 br_5zb_h2 br_6zb_h2 br_7zb_h2 br_8zb_h2⟩
theorem br_zb_m36 : sf_Kok E ω rd_Jh 6 4 133 zb_m36 := ⟨sf_nL (by decide +kernel), zb_h2_n, br_9zb_h2, br_9zb_h2, by decide, br_ask (lo3 := 2147483639) (hi3 := 2147483639) (lo4 := 2147483667) (hi4 := 2147483667) rfl rfl rfl (by decide +kernel) (by decide +kernel) (by decide +kernel) (by decide +kernel) (by decide +kernel) (by decide +kernel) (by decide +kernel) (by decide +kernel) br_1zb_h2 br_2zb_h2 br_3zb_h2 br_4zb_h2 br_5zb_h2 br_6zb_h2 br_7zb_h2 br_8zb_h2⟩
theorem br_zb_m37 : sf_Kok E ω rd_Jh 6 4 133 zb_m37 := ⟨sf_nL (by decide +kernel), zb_h2_n, br_9zb_h2, br_9zb_h2, by decide, br_ask (lo3 := 1) (hi3 := 1) (lo4 := 4294967295) (hi4 := 4294967295) rfl rfl rfl (by decide +kernel) (by decide +kernel) (by decide +kernel) (by decide +kernel) (by decide +kernel) (by decide +kernel) (by decide +kernel) (by decide +kernel) br_1zb_h2 br_2zb_h2 br_3zb_h2 br_4zb_h2 br_5zb_h2 br_6zb_h2 br_7zb_h2 br_8zb_h2⟩
theorem br_zb_m38 : sf_Kok E ω rd_Jh 6 4 133 zb_m38 := ⟨sf_nL (by decide +kernel), zb_h2_n, br_9zb_h2, br_9zb_h2, by decide, br_ask (lo3 := 2147483648) (hi3 := 2147483648) (lo4 := 2147483657) (hi4 := 2147483657) rfl rfl rfl (by decide +kernel) (by decide +kernel) (by decide +kernel) (by decide +kernel) (by decide +kernel) (by decide +kernel) (by decide +kernel) (by decide +kernel) br_1zb_h2 br_2zb_h2 br_3zb_h2 br_4zb_h2 br_5zb_h2 br_6zb_h2 br_7zb_h2 br_8zb_h2⟩
theorem br_zb_m39 : sf_Kok E ω rd_Jh 6 4 133 zb_m39 := ⟨sf_nL (by decide +kernel), zb_h2_n, br_9zb_h2, br_9zb_h2, by decide, br_ask (lo3 := 2147483648) (hi3 := 2147483648) (lo4 := 2147483747) (hi4 := 2147483747) rfl rfl rfl (by decide +kernel) (by decide +kernel) (by decide +kernel) (by decide +kernel) (by decide +kernel) (by decide +kernel) (by decide +kernel) (by decide +kernel) br_1zb_h2 br_2zb_h2 br_3zb_h2 br_4zb_h2 br_5zb_h2 br_6zb_h2 br_7zb_h2 br_8zb_h2⟩
theorem br_zb_m40 : sf_Kok E ω rd_Jh 6 4 133 zb_m40 := ⟨sf_nL (by decide +kernel), zb_h2_n, br_9zb_h2, br_9zb_h2, by decide, br_ask (lo3 := 2147483639) (hi3 := 2147483639) (lo4 := 2147483657) (hi4 := 2147483657) rfl rfl rfl (by decide +kernel) (by decide +kernel) (by decide +kernel) (by decide +kernel) (by decide +kernel) (by decide +kernel) (by decide +kernel) (by decide +kernel) br_1zb_h2 br_2zb_h2 br_3zb_h2 br_4zb_h2 br_5zb_h2 br_6zb_h2 br_7zb_h2 br_8zb_h2⟩
theorem br_zb_m41 : sf_Kok E ω rd_Jh 6 4 133 zb_m41 := ⟨sf_nL (by decide +kernel), zb_h2_n, br_9zb_h2, br_9zb_h2, by decide, br_ask (lo3 := 2147483639) (hi3 := 2147483639) (lo4 := 2147483667) (hi4 := 2147483667) rfl rfl rfl (by decide +kernel) (by decide +kernel) (by decide +kernel) (by decide +kernel) (by decide +kernel) (by decide +kernel) (by decide +kernel) (by decide +kernel) br_1zb_h2 br_2zb_h2 br_3zb_h2 br_4zb_h2 br_5zb_h2 br_6zb_h2 br_7zb_h2 br_8zb_h2⟩
theorem br_zb_m42 : sf_Kok E ω rd_Jh 6 4 133 zb_m42 := ⟨sf_nL (by decide +kernel), zb_h2_n, br_9zb_h2, br_9zb_h2, by decide, br_ask (lo3 := 1) (hi3 := 1) (lo4 := 4294967295) (hi4 := 4294967295) rfl rfl rfl (by decide +kernel) (by decide +kernel) (by decide +kernel) (by decide +kernel) (by decide +kernel) (by decide +kernel) (by decide +kernel) (by decide +kernel) br_1zb_h2 br_2zb_h2 br_3zb_h2 br_4zb_h2 br_5zb_h2 br_6zb_h2 br_7zb_h2 br_8zb_h2⟩
theorem br_zb_m43 : sf_Kok E ω rd_Jh 6 4 133 zb_m43 := ⟨sf_nL (by decide +kernel), zb_h2_n, br_9zb_h2, br_9zb_h2, by decide, br_ask (lo3 := 2147483648) (hi3 := 2147483648) (lo4 := 2147483657) (hi4 := 2147483657) rfl rfl rfl (by decide +kernel) (by decide +kernel) (by decide +kernel) (by decide +kernel) (by decide +kernel) (by decide +kernel) (by decide +kernel) (by decide +kernel) br_1zb_h2 br_2zb_h2 br_3zb_h2 br_4zb_h2 br_5zb_h2 br_6zb_h2 br_7zb_h2 br_8zb_h2⟩
theorem br_zb_m44 : sf_Kok E ω rd_Jh 6 4 133 zb_m44 := ⟨sf_nL (by decide +kernel), zb_h2_n, br_9zb_h2, br_9zb_h2, by decide, br_ask (lo3 := 2147483648) (hi3 := 2147483648) (lo4 := 2147483747) (hi4 := 2147483747) rfl rfl rfl (by decide +kernel) (by decide +kernel) (by decide +kernel) (by decide +kernel) (by decide +kernel) (by decide +kernel) (by decide +kernel) (by decide +kernel) br_1zb_h2 br_2zb_h2 br_3zb_h2 br_4zb_h2 br_5zb_h2 br_6zb_h2 br_7zb_h2 br_8zb_h2⟩
theorem br_zb_m45 : sf_Kok E ω rd_Jh 6 4 133 zb_m45 := ⟨sf_nL (by decide +kernel), zb_h2_n, br_9zb_h2, br_9zb_h2, by decide, br_ask (lo3 := 2147483639) (hi3 := 2147483639) (lo4 := 2147483657) (hi4 := 2147483657) rfl rfl rfl (by decide +kernel) (by decide +kernel) (by decide +kernel) (by decide +kernel) (by decide +kernel) (by decide +kernel) (by decide +kernel) (by decide +kernel) br_1zb_h2 br_2zb_h2 br_3zb_h2 br_4zb_h2 br_5zb_h2 br_6zb_h2 br_7zb_h2 br_8zb_h2⟩
theorem br_zb_m46 : sf_Kok E ω rd_Jh 6 4 133 zb_m46 := ⟨sf_nL (by decide +kernel), zb_h2_n, br_9zb_h2, br_9zb_h2, by decide, br_ask (lo3 := 2147483639) (hi3 := 2147483639) (lo4 := 2147483667) (hi4 := 2147483667) rfl rfl rfl (by decide +kernel) (by decide +kernel) (by decide +kernel) (by decide +kernel) (by decide +kernel) (by decide +kernel) (by decide +kernel) (by decide +kernel) br_1zb_h2 br_2zb_h2 br_3zb_h2 br_4zb_h2 br_5zb_h2 br_6zb_h2 br_7zb_h2 br_8zb_h2⟩
theorem br_zb_m47 : sf_Kok E ω rd_Jh 6 4 133 zb_m47 := ⟨sf_nL (by decide +kernel), zb_h2_n, br_9zb_h2, br_9zb_h2, by decide, br_ask (lo3 := 1) (hi3 := 1) (lo4 := 4294967295) (hi4 := 4294967295) rfl rfl rfl (by decide +kernel) (by decide +kernel) (by decide +kernel) (by decide +kernel) (by decide +kernel) (by decide +kernel) (by decide +kernel) (by decide +kernel) br_1zb_h2 br_2zb_h2 br_3zb_h2 br_4zb_h2 br_5zb_h2 br_6zb_h2 br_7zb_h2 br_8zb_h2⟩
theorem br_zb_m48 : sf_Kok E ω rd_Jh 6 4 133 zb_m48 := ⟨sf_nL (by decide +kernel), zb_h2_n, br_9zb_h2, br_9zb_h2, by decide, br_ask (lo3 := 2147483648) (hi3 := 2147483648) (lo4 := 2147483657) (hi4 := 2147483657) rfl rfl rfl (by decide +kernel) (by decide +kernel) (by decide +kernel) (by decide +kernel) (by decide +kernel) (by decide +kernel) (by decide +kernel) (by decide +kernel) br_1zb_h2 br_2zb_h2 br_3zb_h2 br_4zb_h2 br_5zb_h2 br_6zb_h2 br_7zb_h2 br_8zb_h2⟩
theorem br_zb_m49 : sf_Kok E ω rd_Jh 6 4 133 zb_m49 := ⟨sf_nL (by decide +kernel), zb_h2_n, br_9zb_h2, br_9zb_h2, by decide, br_ask (lo3 := 2147483648) (hi3 := 2147483648) (lo4 := 2147483747) (hi4 := 2147483747) rfl rfl rfl (by decide +kernel) (by decide +kernel) (by decide +kernel) (by decide +kernel) (by decide +kernel) (by decide +kernel) (by decide +kernel) (by decide +kernel) br_1zb_h2 br_2zb_h2 br_3zb_h2 br_4zb_h2 br_5zb_h2 br_6zb_h2 br_7zb_h2 br_8zb_h2⟩
theorem br_zb_m50 : sf_Kok E ω rd_Jh 6 4 133 zb_m50 := ⟨sf_nL (by decide +kernel), zb_h2_n, br_9zb_h2, br_9zb_h2, by decide, br_ask (lo3 := 2147483639) (hi3 := 2147483639) (lo4 := 2147483657) (hi4 := 2147483657) rfl rfl rfl (by decide +kernel) (by decide +kernel) (by decide +kernel) (by decide +kernel) (by decide +kernel) (by decide +kernel) (by decide +kernel) (by decide +kernel) br_1zb_h2 br_2zb_h2 br_3zb_h2 br_4zb_h2 br_5zb_h2 br_6zb_h2 br_7zb_h2 br_8zb_h2⟩
theorem br_zb_m51 : sf_Kok E ω rd_Jh 6 4 133 zb_m51 := ⟨sf_nL (by decide +kernel), zb_h2_n, br_9zb_h2, br_9zb_h2, by decide, br_ask (lo3 := 2147483639) (hi3 := 2147483639) (lo4 := 2147483667) (hi4 := 2147483667) rfl rfl rfl (by decide +kernel) (by decide +kernel) (by decide +kernel) (by decide +kernel) (by decide +kernel) (by decide +kernel) (by decide +kernel) (by decide +kernel) br_1zb_h2 br_2zb_h2 br_3zb_h2 br_4zb_h2 br_5zb_h2 br_6zb_h2 br_7zb_h2 br_8zb_h2⟩
theorem br_zb_m52 : sf_Kok E ω rd_Jh 6 4 133 zb_m52 := ⟨sf_nL (by decide +kernel), zb_h2_n, br_9zb_h2, br_9zb_h2, by decide, br_ask (lo3 := 1) (hi3 := 1) (lo4 := 4294967295) (hi4 := 4294967295) rfl rfl rfl (by decide +kernel) (by decide +kernel) (by decide +kernel) (by decide +kernel) (by decide +kernel) (by decide +kernel) (by decide +kernel) (by decide +kernel) br_1zb_h2 br_2zb_h2 br_3zb_h2 br_4zb_h2 br_5zb_h2 br_6zb_h2 br_7zb_h2 br_8zb_h2⟩
theorem br_zb_m53 : sf_Kok E ω rd_Jh 6 4 133 zb_m53 := ⟨sf_nL (by decide +kernel), zb_h3_n, br_9zb_h3, br_9zb_h3, by decide, br_ask (lo3 := 2147483648) (hi3 := 2147483648) (lo4 := 2147483657) (hi4 := 2147483657) rfl rfl rfl (by decide +kernel) (by decide +kernel) (by decide +kernel) (by decide +kernel) (by decide +kernel) (by decide +kernel) (by decide +kernel) (by decide +kernel) br_1zb_h3 br_2zb_h3 br_3zb_h3 br_4zb_h3 br_5zb_h3 br_6zb_h3 br_7zb_h3 br_8zb_h3⟩
theorem br_zb_m54 : sf_Kok E ω rd_Jh 6 4 133 zb_m54 := ⟨sf_nL (by decide +kernel), zb_h3_n, br_9zb_h3, br_9zb_h3, by decide, br_ask (lo3 := 2147483648) (hi3 := 2147483648) (lo4 := 2147483747) (hi4 := 2147483747) rfl rfl rfl (by decide +kernel) (by decide +kernel) (by decide +kernel) (by decide +kernel) (by decide +kernel) (by decide +kernel) (by decide +kernel) (by decide +kernel) br_1zb_h3 br_2zb_h3 br_3zb_h3 br_4zb_h3 br_5zb_h3 br_6zb_h3 br_7zb_h3 br_8zb_h3⟩
theorem br_zb_m55 : sf_Kok E ω rd_Jh 6 4 133 zb_m55 := ⟨sf_nL (by decide +kernel), zb_h3_n, br_9zb_h3, br_9zb_h3, by decide, br_ask (lo3 := 2147483639) (hi3 := 2147483639) (lo4 := 2147483657) (hi4 := 2147483657) rfl rfl rfl (by decide +kernel) (by decide +kernel) (by decide +kernel) (by decide +kernel) (by decide +kernel) (by decide +kernel) (by decide +kernel) (by decide +kernel) br_1zb_h3 br_2zb_h3 br_3zb_h3 br_4zb_h3 br_5zb_h3 br_6zb_h3 br_7zb_h3 br_8zb_h3⟩
theorem br_zb_m56 : sf_Kok E ω rd_Jh 6 4 133 zb_m56 := ⟨sf_nL (by decide +kernel), zb_h3_n, br_9zb_h3, br_9zb_h3, by decide, br_ask (lo3 := 2147483639) (hi3 := 2147483639) (lo4 := 2147483667) (hi4 := 2147483667) rfl rfl rfl (by decide +kernel) (by decide +kernel) (by decide +kernel) (by decide +kernel) (by decide +kernel) (by decide +kernel) (by decide +kernel) (by decide +kernel) br_1zb_h3 br_2zb_h3 br_3zb_h3 br_4zb_h3 br_5zb_h3 br_6zb_h3 br_7zb_h3 br_8zb_h3⟩
theorem br_zb_m57 : sf_Kok E ω rd_Jh 6 4 133 zb_m57 := ⟨sf_nL (by decide +kernel), zb_h3_n, br_9zb_h3, br_9zb_h3, by decide, br_ask (lo3 := 1) (hi3 := 1) (lo4 := 4294967295) (hi4 := 4294967295) rfl rfl rfl (by decide +kernel) (by decide +kernel) (by decide +kernel) (by decide +kernel) (by decide +kernel) (by decide +kernel) (by decide +kernel) (by decide +kernel) br_1zb_h3 br_2zb_h3 br_3zb_h3 br_4zb_h3 br_5zb_h3 br_6zb_h3 br_7zb_h3 br_8zb_h3⟩
theorem br_zb_m58 : sf_Kok E ω rd_Jh 6 4 133 zb_m58 := ⟨sf_nL (by decide +kernel), zb_h3_n, br_9zb_h3, br_9zb_h3, by decide, br_ask (lo3 := 2147483648) (hi3 := 2147483648) (lo4 := 2147483657) (hi4 := 2147483657) rfl rfl rfl (by decide +kernel) (by decide +kernel) (by decide +kernel) (by decide +kernel) (by decide +kernel) (by decide +kernel) (by decide +kernel) (by decide +kernel) br_1zb_h3 br_2zb_h3 br_3zb_h3 br_4zb_h3 br_5zb_h3 br_6zb_h3 br_7zb_h3 br_8zb_h3⟩
theorem br_zb_m59 : sf_Kok E ω rd_Jh 6 4 133 zb_m59 := ⟨sf_nL (by decide +kernel), zb_h3_n, br_9zb_h3, br_9zb_h3, by decide, br_ask (lo3 := 2147483648) (hi3 := 2147483648) (lo4 := 2147483747) (hi4 := 2147483747) rfl rfl rfl (by decide +kernel) (by decide +kernel) (by decide +kernel) (by decide +kernel) (by decide +kernel) (by decide +kernel) (by decide +kernel) (by decide +kernel) br_1zb_h3 br_2zb_h3 br_3zb_h3 br_4zb_h3 br_5zb_h3 br_6zb_h3 br_7zb_h3 br_8zb_h3⟩
theorem br_zb_m60 : sf_Kok E ω rd_Jh 6 4 133 zb_m60 := ⟨sf_nL (by decide +kernel), zb_h3_n, br_9zb_h3, br_9zb_h3, by decide, br_ask (lo3 := 2147483639) (hi3 := 2147483639) (lo4 := 2147483657) (hi4 := 2147483657) rfl rfl rfl (by decide +kernel) (by decide +kernel) (by decide +kernel) (by decide +kernel) (by decide +kernel) (by decide +kernel) (by decide +kernel) (by decide +kernel) br_1zb_h3 br_2zb_h3 br_3zb_h3 br_4zb_h3 br_5zb_h3 br_6zb_h3 br_7zb_h3 br_8zb_h3⟩
theorem br_zb_m61 : sf_Kok E ω rd_Jh 6 4 133 zb_m61 := ⟨sf_nL (by decide +kernel), zb_h3_n, br_9zb_h3, br_9zb_h3, by decide, br_ask (lo3 := 2147483639) (hi3 := 2147483639) (lo4 := 2147483667) (hi4 := 2147483667) rfl rfl rfl (by decide +kernel) (by decide +kernel) (by decide +kernel) (by decide +kernel) (by decide +kernel) (by decide +kernel) (by decide +kernel) (by decide +kernel) br_1zb_h3 br_2zb_h3 br_3zb_h3 br_4zb_h3 br_5zb_h3 br_6zb_h3 br_7zb_h3 br_8zb_h3⟩
theorem br_zb_m62 : sf_Kok E ω rd_Jh 6 4 133 zb_m62 := ⟨sf_nL (by decide +kernel), zb_h3_n, br_9zb_h3, br_9zb_h3, by decide, br_ask (lo3 := 1) (hi3 := 1) (lo4 := 4294967295) (hi4 := 4294967295) rfl rfl rfl (by decide +kernel) (by decide +kernel) (by decide +kernel) (by decide +kernel) (by decide +kernel) (by decide +kernel) (by decide +kernel) (by decide +kernel) br_1zb_h3 br_2zb_h3 br_3zb_h3 br_4zb_h3 br_5zb_h3 br_6zb_h3 br_7zb_h3 br_8zb_h3⟩
theorem br_zb_m63 : sf_Kok E ω rd_Jh 6 4 133 zb_m63 := ⟨sf_nL (by decide +kernel), zb_h3_n, br_9zb_h3, br_9zb_h3, by decide, br_ask (lo3 := 2147483648) (hi3 := 2147483648) (lo4 := 2147483657) (hi4 := 2147483657) rfl rfl rfl (by decide +kernel) (by decide +kernel) (by decide +kernel) (by decide +kernel) (by decide +kernel) (by decide +kernel) (by decide +kernel) (by decide +kernel) br_1zb_h3 br_2zb_h3 br_3zb_h3 br_4zb_h3 br_5zb_h3 br_6zb_h3 br_7zb_h3 br_8zb_h3⟩
theorem br_zb_m64 : sf_Kok E ω rd_Jh 6 4 133 zb_m64 := ⟨sf_nL (by decide +kernel), zb_h3_n, br_9zb_h3, br_9zb_h3, by decide, br_ask (lo3 := 2147483648) (hi3 := 2147483648) (lo4 := 2147483747) (hi4 := 2147483747) rfl rfl rfl (by decide +kernel) (by decide +kernel) (by decide +kernel) (by decide +kernel) (by decide +kernel) (by decide +kernel) (by decide +kernel) (by decide +kernel) br_1zb_h3 br_2zb_h3 br_3zb_h3 br_4zb_h3 br_5zb_h3 br_6zb_h3 br_7zb_h3 br_8zb_h3⟩
theorem br_zb_m65 : sf_Kok E ω rd_Jh 6 4 133 zb_m65 := ⟨sf_nL (by decide +kernel), zb_h3_n, br_9zb_h3, br_9zb_h3, by decide, br_ask (lo3 := 2147483639) (hi3 := 2147483639) (lo4 := 2147483657) (hi4 := 2147483657) rfl rfl rfl (by decide +kernel) (by decide +kernel) (by decide +kernel) (by decide +kernel) (by decide +kernel) (by decide +kernel) (by decide +kernel) (by decide +kernel) br_1zb_h3 br_2zb_h3 br_3zb_h3 br_4zb_h3 br_5zb_h3 br_6zb_h3 br_7zb_h3 br_8zb_h3⟩
theorem br_zb_m66 : sf_Kok E ω rd_Jh 6 4 133 zb_m66 := ⟨sf_nL (by decide +kernel), zb_h3_n, br_9zb_h3, br_9zb_h3, by decide, br_ask (lo3 := 2147483639) (hi3 := 2147483639) (lo4 := 2147483667) (hi4 := 2147483667) rfl rfl rfl (by decide +kernel) (by decide +kernel) (by decide +kernel) (by decide +kernel) (by decide +kernel) (by decide +kernel) (by decide +kernel) (by decide +kernel) br_1zb_h3 br_2zb_h3 br_3zb_h3 br_4zb_h3 br_5zb_h3 br_6zb_h3 br_7zb_h3 br_8zb_h3⟩
theorem br_zb_m67 : sf_Kok E ω rd_Jh 6 4 133 zb_m67 := ⟨sf_nL (by decide +kernel), zb_h3_n, br_9zb_h3, br_9zb_h3, by decide, br_ask (lo3 := 1) (hi3 := 1) (lo4 := 4294967295) (hi4 := 4294967295) rfl rfl rfl (by decide +kernel) (by decide +kernel) (by decide +kernel) (by decide +kernel) (by decide +kernel) (by decide +kernel) (by decide +kernel) (by decide +kernel) br_1zb_h3 br_2zb_h3 br_3zb_h3 br_4zb_h3 br_5zb_h3 br_6zb_h3 br_7zb_h3 br_8zb_h3⟩
theorem br_zb_m68 : sf_Kok E ω rd_Jh 6 4 133 zb_m68 := ⟨sf_nL (by decide +kernel), zb_h3_n, br_9zb_h3, br_9zb_h3, by decide, br_ask (lo3 := 2147483648) (hi3 := 2147483648) (lo4 := 2147483657) (hi4 := 2147483657) rfl rfl rfl (by decide +kernel) (by decide +kernel) (by decide +kernel) (by decide +kernel) (by decide +kernel) (by decide +kernel) (by decide +kernel) (by decide +kernel) br_1zb_h3 br_2zb_h3 br_3zb_h3 br_4zb_h3 br_5zb_h3 br_6zb_h3 br_7zb_h3 br_8zb_h3⟩
theorem br_zb_m69 : sf_Kok E ω rd_Jh 6 4 133 zb_m69 := ⟨sf_nL (by decide +kernel), zb_h3_n, br_9zb_h3, br_9zb_h3, by decide, br_ask (lo3 := 2147483648) (hi3 := 2147483648) (lo4 := 2147483747) (hi4 := 2147483747) rfl rfl rfl (by decide +kernel) (by decide +kernel) (by decide +kernel) (by decide +kernel) (by decide +kernel) (by decide +kernel) (by decide +kernel) (by decide +kernel) br_1zb_h3 br_2zb_h3 br_3zb_h3 br_4zb_h3 br_5zb_h3 br_6zb_h3 br_7zb_h3 br_8zb_h3⟩
theorem br_zb_m70 : sf_Kok E ω rd_Jh 6 4 133 zb_m70 := ⟨sf_nL (by decide +kernel), zb_h3_n, br_9zb_h3, br_9zb_h3, by decide, br_ask (lo3 := 2147483639) (hi3 := 2147483639) (lo4 := 2147483657) (hi4 := 2147483657) rfl rfl rfl (by decide +kernel) (by decide +kernel) (by decide +kernel) (by decide +kernel) (by decide +kernel) (by decide +kernel) (by decide +kernel) (by decide +kernel) br_1zb_h3 br_2zb_h3 br_3zb_h3 br_4zb_h3 br_5zb_h3 br_6zb_h3 br_7zb_h3 br_8zb_h3⟩
theorem br_zb_m71 : sf_Kok E ω rd_Jh 6 4 133 zb_m71 := ⟨sf_nL (by decide +kernel), zb_h3_n, br_9zb_h3, br_9zb_h3, by decide, br_ask (lo3 := 2147483639) (hi3 := 2147483639) (lo4 := 2147483667) (hi4 := 2147483667) rfl rfl rfl (by decide +kernel) (by decide +kernel) (by decide +kernel) (by decide +kernel) (by decide +kernel) (by decide +kernel) (by decide +kernel) (by decide +kernel) br_1zb_h3 br_2zb_h3 br_3zb_h3 br_4zb_h3 br_5zb_h3 br_6zb_h3 br_7zb_h3 br_8zb_h3⟩
theorem br_zb_m72 : sf_Kok E ω rd_Jh 6 4 133 zb_m72 := ⟨sf_nL (by decide +kernel), zb_h3_n, br_9zb_h3, br_9zb_h3, by decide, br_ask (lo3 := 1) (hi3 := 1) (lo4 := 4294967295) (hi4 := 4294967295) rfl rfl rfl (by decide +kernel) (by decide +kernel) (by decide +kernel) (by decide +kernel) (by decide +kernel) (by decide +kernel) (by decide +kernel) (by decide +kernel) br_1zb_h3 br_2zb_h3 br_3zb_h3 br_4zb_h3 br_5zb_h3 br_6zb_h3 br_7zb_h3 br_8zb_h3⟩
theorem br_zb_m73 : sf_Kok E ω rd_Jh 6 4 133 zb_m73 := ⟨sf_nL (by decide +kernel), zb_h3_n, br_9zb_h3, br_9zb_h3, by decide, br_ask (lo3 := 2147483648) (hi3 := 2147483648) (lo4 := 2147483657) (hi4 := 2147483657) rfl rfl rfl (by decide +kernel) (by decide +kernel) (by decide +kernel) (by decide +kernel) (by decide +kernel) (by decide +kernel) (by decide +kernel) (by decide +kernel) br_1zb_h3 br_2zb_h3 br_3zb_h3 br_4zb_h3 br_5zb_h3 br_6zb_h3 br_7zb_h3 br_8zb_h3⟩
theorem br_zb_m74 : sf_Kok E ω rd_Jh 6 4 133 zb_m74 := ⟨sf_nL (by decide +kernel), zb_h3_n, br_9zb_h3, br_9zb_h3, by decide, br_ask (lo3 := 2147483648) (hi3 := 2147483648) (lo4 := 2147483747) (hi4 := 2147483747) rfl rfl rfl (by decide +kernel) (by decide +kernel) (by decide +kernel) (by decide +kernel) (by decide +kernel) (by decide +kernel) (by decide +kernel) (by decide +kernel) br_1zb_h3 br_2zb_h3 br_3zb_h3 br_4zb_h3 br_5zb_h3 br_6zb_h3 br_7zb_h3 br_8zb_h3⟩
theorem br_zb_m75 : sf_Kok E ω rd_Jh 6 4 133 zb_m75 := ⟨sf_nL (by decide +kernel), zb_h3_n, br_9zb_h3, br_9zb_h3, by decide, br_ask (lo3 := 2147483639) (hi3 := 2147483639) (lo4 := 2147483657) (hi4 := 2147483657) rfl rfl rfl (by decide +kernel) (by decide +kernel) (by decide +kernel) (by decide +kernel) (by decide +kernel) (by decide +kernel) (by decide +kernel) (by decide +kernel) br_1zb_h3 br_2zb_h3 br_3zb_h3 br_4zb_h3 br_5zb_h3 br_6zb_h3 br_7zb_h3 br_8zb_h3⟩
theorem br_zb_m76 : sf_Kok E ω rd_Jh 6 4 133 zb_m76 := ⟨sf_nL (by decide +kernel), zb_h3_n, br_9zb_h3, br_9zb_h3, by decide, br_ask (lo3 := 2147483639) (hi3 := 2147483639) (lo4 := 2147483667) (hi4 := 2147483667) rfl rfl rfl (by decide +kernel) (by decide +kernel) (by decide +kernel) (by decide +kernel) (by decide +kernel) (by decide +kernel) (by decide +kernel) (by decide +kernel) br_1zb_h3 br_2zb_h3 br_3zb_h3 br_4zb_h3 br_5zb_h3 br_6zb_h3 br_7zb_h3 br_8zb_h3⟩
theorem br_zb_m77 : sf_Kok E ω rd_Jh 6 4 133 zb_m77 := ⟨sf_nL (by decide +kernel), zb_h3_n, br_9zb_h3, br_9zb_h3, by decide, br_ask (lo3 := 1) (hi3 := 1) (lo4 := 4294967295) (hi4 := 4294967295) rfl rfl rfl (by decide +kernel) (by decide +kernel) (by decide +kernel) (by decide +kernel) (by decide +kernel) (by decide +kernel) (by decide +kernel) (by decide +kernel) br_1zb_h3 br_2zb_h3 br_3zb_h3 br_4zb_h3 br_5zb_h3 br_6zb_h3 br_7zb_h3 br_8zb_h3⟩
theorem br_zb_m78 : sf_Kok E ω rd_Jh 6 4 133 zb_m78 := ⟨sf_nL (by decide +kernel), zb_h3_n, br_9zb_h3, br_9zb_h3, by decide, br_ask (lo3 := 2147483648) (hi3 := 2147483648) (lo4 := 2147483657) (hi4 := 2147483657) rfl rfl rfl (by decide +kernel) (by decide +kernel) (by decide +kernel) (by decide +kernel) (by decide +kernel) (by decide +kernel) (by decide +kernel) (by decide +kernel) br_1zb_h3 br_2zb_h3 br_3zb_h3 br_4zb_h3 br_5zb_h3 br_6zb_h3 br_7zb_h3 br_8zb_h3⟩
theorem br_zb_m79 : sf_Kok E ω rd_Jh 6 4 133 zb_m79 := ⟨sf_nL (by decide +kernel), zb_h3_n, br_9zb_h3, br_9zb_h3, by decide, br_ask (lo3 := 2147483648) (hi3 := 2147483648) (lo4 := 2147483747) (hi4 := 2147483747) rfl rfl rfl (by decide +kernel) (by decide +kernel) (by decide +kernel) (by decide +kernel) (by decide +kernel) (by decide +kernel) (by decide +kernel) (by decide +kernel) br_1zb_h3 br_2zb_h3 br_3zb_h3 br_4zb_h3 br_5zb_h3 br_6zb_h3 br_7zb_h3 br_8zb_h3⟩
theorem br_zb_m80 : sf_Kok E ω rd_Jh 6 4 133 zb_m80 := ⟨sf_nL (by decide +kernel), zb_h3_n, br_9zb_h3, br_9zb_h3, by decide, br_ask (lo3 := 2147483639) (hi3 := 2147483639) (lo4 := 2147483657) (hi4 := 2147483657) rfl rfl rfl (by decide +kernel) (by decide +kernel) (by decide +kernel) (by decide +kernel) (by decide +kernel) (by decide +kernel) (by decide +kernel) (by decide +kernel) br_1zb_h3 br_2zb_h3 br_3zb_h3 br_4zb_h3 br_5zb_h3 br_6zb_h3 br_7zb_h3 br_8zb_h3⟩
theorem br_zb_m81 : sf_Kok E ω rd_Jh 6 4 133 zb_m81 := ⟨sf_nL (by decide +kernel), zb_h3_n, br_9zb_h3, br_9zb_h3, by decide, br_ask (lo3 := 2147483639) (hi3 := 2147483639) (lo4 := 2147483667) (hi4 := 2147483667) rfl rfl rfl (by decide +kernel) (by decide +kernel) (by decide +kernel) (by decide +kernel) (by decide +kernel) (by decide +kernel) (by decide +kernel) (by decide +kernel) br_1zb_h3 br_2zb_h3 br_3zb_h3 br_4zb_h3 br_5zb_h3 br_6zb_h3 br_7zb_h3 br_8zb_h3⟩
theorem br_zb_m82 : sf_Kok E ω rd_Jh 6 4 133 zb_m82 := ⟨sf_nL (by decide +kernel), zb_h3_n, br_9zb_h3, br_9zb_h3, by decide, br_ask (lo3 := 1) (hi3 := 1) (lo4 := 4294967295) (hi4 := 4294967295) rfl rfl rfl (by decide +kernel) (by decide +kernel) (by decide +kernel) (by decide +kernel) (by decide +kernel) (by decide +kernel) (by decide +kernel) (by decide +kernel) br_1zb_h3 br_2zb_h3 br_3zb_h3 br_4zb_h3 br_5zb_h3 br_6zb_h3 br_7zb_h3 br_8zb_h3⟩
theorem br_zb_m83 : sf_Kok E ω rd_Jh 6 4 133 zb_m83 := ⟨sf_nL (by decide +kernel), zb_h3_n, br_9zb_h3, br_9zb_h3, by decide, br_ask (lo3 := 2147483648) (hi3 := 2147483648) (lo4 := 2147483657) (hi4 := 2147483657) rfl rfl rfl (by decide +kernel) (by decide +kernel) (by decide +kernel) (by decide +kernel) (by decide +kernel) (by decide +kernel) (by decide +kernel) (by decide +kernel) br_1zb_h3 br_2zb_h3 br_3zb_h3 br_4zb_h3 br_5zb_h3 br_6zb_h3 br_7zb_h3 br_8zb_h3⟩
theorem br_zb_m84 : sf_Kok E ω rd_Jh 6 4 133 zb_m84 := ⟨sf_nL (by decide +kernel), zb_h3_n, br_9zb_h3, br_9zb_h3, by decide, br_ask (lo3 := 2147483648) (hi3 := 2147483648) (lo4 := 2147483747) (hi4 := 2147483747) rfl rfl rfl (by decide +kernel) (by decide +kernel) (by decide +kernel) (by decide +kernel) (by decide +kernel) (by decide +kernel) (by decide +kernel) (by decide +kernel) br_1zb_h3 br_2zb_h3 br_3zb_h3 br_4zb_h3 br_5zb_h3 br_6zb_h3 br_7zb_h3 br_8zb_h3⟩
theorem br_zb_m85 : sf_Kok E ω rd_Jh 6 4 133 zb_m85 := ⟨sf_nL (by decide +kernel), zb_h3_n, br_9zb_h3, br_9zb_h3, by decide, br_ask (lo3 := 2147483639) (hi3 := 2147483639) (lo4 := 2147483657) (hi4 := 2147483657) rfl rfl rfl (by decide +kernel) (by decide +kernel) (by decide +kernel) (by decide +kernel) (by decide +kernel) (by decide +kernel) (by decide +kernel) (by decide +kernel) br_1zb_h3 br_2zb_h3 br_3zb_h3 br_4zb_h3 br_5zb_h3 br_6zb_h3 br_7zb_h3 br_8zb_h3⟩
theorem br_zb_m86 : sf_Kok E ω rd_Jh 6 4 133 zb_m86 := ⟨sf_nL (by decide +kernel), zb_h3_n, br_9zb_h3, br_9zb_h3, by decide, br_ask (lo3 := 2147483639) (hi3 := 2147483639) (lo4 := 2147483667) (hi4 := 2147483667) rfl rfl rfl (by decide +kernel) (by decide +kernel) (by decide +kernel) (by decide +kernel) (by decide +kernel) (by decide +kernel) (by decide +kernel) (by decide +kernel) br_1zb_h3 br_2zb_h3 br_3zb_h3 br_4zb_h3 br_5zb_h3 br_6zb_h3 br_7zb_h3 br_8zb_h3⟩
theorem br_zb_m87 : sf_Kok E ω rd_Jh 6 4 133 zb_m87 := ⟨sf_nL (by decide +kernel), zb_h3_n, br_9zb_h3, br_9zb_h3, by decide, br_ask (lo3 := 1) (hi3 := 1) (lo4 := 4294967295) (hi4 := 4294967295) rfl rfl rfl (by decide +kernel) (by decide +kernel) (by decide +kernel) (by decide +kernel) (by decide +kernel) (by decide +kernel) (by decide +kernel) (by decide +kernel) br_1zb_h3 br_2zb_h3 br_3zb_h3 br_4zb_h3 br_5zb_h3 br_6zb_h3 br_7zb_h3 br_8zb_h3⟩
theorem rd_MnB : sf_MnB E ω rd_Jh := sf_fc br_zb_m0 (sf_fc br_zb_m1 (sf_fc br_zb_m2 (sf_fc br_zb_m3 (sf_fc br_zb_m4 (sf_fc br_zb_m5 (sf_fc br_zb_m6 (sf_fc br_zb_m7 (sf_fc br_zb_m8 (sf_fc br_zb_m9 (sf_fc br_zb_m10 (sf_fc br_zb_m11 (sf_fc br_zb_m12 (sf_fc br_zb_m13 (sf_fc br_zb_m14 (sf_fc br_zb_m15 (sf_fc br_zb_m16 (sf_fc br_zb_m17 (sf_fc br_zb_m18 (sf_fc br_zb_m19 (sf_fc br_zb_m20 (sf_fc br_zb_m21 (sf_fc br_zb_m22 (sf_fc br_zb_m23 (sf_fc br_zb_m24 (sf_fc br_zb_m25 (sf_fc br_zb_m26 (sf_fc br_zb_m27 (sf_fc br_zb_m28 (sf_fc br_zb_m29 (sf_fc br_zb_m30 (sf_fc br_zb_m31 (sf_fc br_zb_m32 (sf_fc br_zb_m33 (sf_fc br_zb_m34 (sf_fc br_zb_m35 (sf_fc br_zb_m36 (sf_fc br_zb_m37 (sf_fc br_zb_m38 (sf_fc br_zb_m39 (sf_fc br_zb_m40 (sf_fc br_zb_m41 (sf_fc br_zb_m42 (sf_fc br_zb_m43 (sf_fc br_zb_m44 (sf_fc br_zb_m45 (sf_fc br_zb_m46 (sf_fc br_zb_m47 (sf_fc br_zb_m48 (sf_fc br_zb_m49 (sf_fc br_zb_m50 (sf_fc br_zb_m51 (sf_fc br_zb_m52 (sf_fc br_zb_m53 (sf_fc br_zb_m54 (sf_fc br_zb_m55 (sf_fc br_zb_m56 (sf_fc br_zb_m57 (sf_fc br_zb_m58 (sf_fc br_zb_m59 (sf_fc br_zb_m60 (sf_fc br_zb_m61 (sf_fc br_zb_m62 (sf_fc br_zb_m63 (sf_fc br_zb_m64 (sf_fc br_zb_m65 (sf_fc br_zb_m66 (sf_fc br_zb_m67 (sf_fc br_zb_m68 (sf_fc br_zb_m69 (sf_fc br_zb_m70 (sf_fc br_zb_m71 (sf_fc br_zb_m72 (sf_fc br_zb_m73 (sf_fc br_zb_m74 (sf_fc br_zb_m75 (sf_fc br_zb_m76 (sf_fc br_zb_m77 (sf_fc br_zb_m78 (sf_fc br_zb_m79 (sf_fc br_zb_m80 (sf_fc br_zb_m81 (sf_fc br_zb_m82 (sf_fc br_zb_m83 (sf_fc br_zb_m84 (sf_fc br_zb_m85 (sf_fc br_zb_m86 (sf_fc br_zb_m87 (sf_fn))))))))))))))))))))))))))))))))))))))))))))))))))))))))))))))))))))))))))))))))))))))))
end BM
