/-- a String constant: the object q, its bytes q' -/
def bs_E (E : mm_E) (i : Nat) (q q' : mm_S) : Prop := mm_str E q.1 = some i ∧ E.2[5 + 2 * i]? = some q' ∧ q'.1 < E.1 ∧ mm_byt E q'.1 = some q'
section BSS
variable {E : mm_E} {PO : mm_C → Prop} {NN : Nat} {h : mm_H} {m pc pc' pc0 len a b wd nL i : Nat} {dd : mm_M} {z : Int} {ins : Instr} {lv : mm_V} {st : List Value} {gs : List mm_F} {o : Option Value} {q q' : mm_S}
theorem bs_ldc {x : Nat} (hat : mm_at mt_P m pc = some ((pc0, len, .ldc x, a, b, z, wd), nL, dd)) (hp : pc + len = pc') (ha : a ≠ 0) (hq : E.2[2 + 2 * a]? = some q) (g : bp_G E PO NN ((m, pc', lv, .ref q.1 :: st, 0, 0) :: gs, h, none)) : bp_G E PO NN ((m, pc, lv, st, 0, 0) :: gs, h, o) := by
  subst hp
  exact bp_s1 hat rfl rfl (h' := h) (lv' := lv) (st' := .ref q.1 :: st) (by simp only [mm_ex, if_neg ha, hq]) g
theorem bs_gf0 {x : Nat} (hat : mm_at mt_P m pc = some ((pc0, len, .getfield x, 90, 0, z, wd), nL, dd)) (hp : pc + len = pc') (hE : bs_E E i q q') (g : bp_G E PO NN ((m, pc', lv, .ref q'.1 :: st, 0, 0) :: gs, h, none)) : bp_G E PO NN ((m, pc, lv, .ref q.1 :: st, 0, 0) :: gs, h, o) := by
  subst hp
  obtain ⟨h1, h2, h3, h4⟩ := hE
  refine bp_s1 hat rfl rfl (h' := h) (lv' := lv) (st' := .ref q'.1 :: st) ?_ g
  simp only [mm_ex, if_true, mm_gets, h1, h2]
  rfl
theorem bs_gf1 {x : Nat} (hat : mm_at mt_P m pc = some ((pc0, len, .getfield x, 90, 1, z, wd), nL, dd)) (hp : pc + len = pc') (hE : bs_E E i q q') (g : ∀ v : Int32, v.toInt = 0 → bp_G E PO NN ((m, pc', lv, .int v :: st, 0, 0) :: gs, h, none)) : bp_G E PO NN ((m, pc, lv, .ref q.1 :: st, 0, 0) :: gs, h, o) := by
  subst hp
  obtain ⟨h1, h2, h3, h4⟩ := hE
  refine bp_s1 hat rfl rfl (h' := h) (lv' := lv) (st' := .int 0 :: st) ?_ (g 0 rfl)
  simp only [mm_ex, if_true, mm_gets, h1]
theorem bs_gs9 {x : Nat} (hat : mm_at mt_P m pc = some ((pc0, len, .getstatic x, 9, b, z, wd), nL, dd)) (hp : pc + len = pc') (g : ∀ v : Int32, v.toInt = 1 → bp_G E PO NN ((m, pc', lv, .int v :: st, 0, 0) :: gs, h, none)) : bp_G E PO NN ((m, pc, lv, st, 0, 0) :: gs, h, o) := by
  subst hp
  exact bp_s1 hat rfl rfl (h' := h) (lv' := lv) (st' := .int 1 :: st) (by simp only [mm_ex, if_true]) (g 1 rfl)
theorem bs_cell (hq : q'.1 < E.1) : mm_cell E h q'.1 = none := if_neg (Nat.not_le.mpr hq)
theorem bs_al (hat : mm_at mt_P m pc = some ((pc0, len, .arraylength, a, b, z, wd), nL, dd)) (hp : pc + len = pc') (ha : a ≠ 0) (hE : bs_E E i q q') (hn : q'.2.1 ≤ 3072) (g : ∀ v : Int32, v.toInt = (q'.2.1 : Int) → bp_G E PO NN ((m, pc', lv, .int v :: st, 0, 0) :: gs, h, none)) : bp_G E PO NN ((m, pc, lv, .ref q'.1 :: st, 0, 0) :: gs, h, o) := by
  subst hp
  obtain ⟨h1, h2, h3, h4⟩ := hE
  refine bp_s1 hat rfl rfl (h' := h) (lv' := lv) (st' := .int (Int32.ofNat q'.2.1) :: st) ?_ (g _ (Int32.toInt_ofNat_of_lt (by omega)))
  simp only [mm_ex, mm_alen, bs_cell h3, if_neg ha, h4]
theorem bs_ia {I : Int32} (hat : mm_at mt_P m pc = some ((pc0, len, .baload, a, b, z, wd), nL, dd)) (hp : pc + len = pc') (hE : bs_E E i q q') (g : 0 ≤ I.toInt → I.toInt < (q'.2.1 : Int) → bp_G E PO NN ((m, pc', lv, .int (q'.2.2 I.toInt.toNat) :: st, 0, 0) :: gs, h, none)) : bp_G E PO NN ((m, pc, lv, .int I :: .ref q'.1 :: st, 0, 0) :: gs, h, o) := by
  subst hp
  obtain ⟨h1, h2, h3, h4⟩ := hE
  by_cases hb : 0 ≤ I.toInt ∧ I.toInt < (q'.2.1 : Int)
  · refine bp_s1 hat rfl rfl (h' := h) (lv' := lv) (st' := .int (q'.2.2 I.toInt.toNat) :: st) ?_ (g hb.1 hb.2)
    simp only [mm_ex, mm_ald, bs_cell h3, h4]
    rw [if_neg (by decide)]
    simp only []
    rw [if_pos (bh_inr hb.1 hb.2)]
    rfl
  · refine bp_s0 hat rfl rfl ?_
    simp only [mm_ex, mm_ald, bs_cell h3, h4]
    rw [if_neg (by decide)]
    simp only []
    rw [if_neg (bp_inrF hb)]
theorem bs_cv {args : List Value} {np nLk rk x : Nat} {cs : List (List mm_I)} {K : Nat} (hat : mm_at mt_P m pc = some ((pc0, len, .invokevirtual x, K, b, z, wd), nL, dd)) (hp : pc + len = pc') (hK : mt_P[K]? = some (cs, nLk, np, 1, 90, rk, 0, 0)) (hK2 : ¬ K < 2) (hE : bs_E E i q q') (hn : args.length = np) (hc : (st.map fun v => v.category).sum ≤ 8) (hs : (lg_sl (.ref q.1 :: args.reverse)).length ≤ nLk) (g : bp_G E PO NN ((K, 0, lv_args 0 (.ref q.1 :: args.reverse), [], 0, 0) :: (m, pc', lv, st, 0, 0) :: gs, h, none)) : bp_G E PO NN ((m, pc, lv, args ++ .ref q.1 :: st, 0, 0) :: gs, h, o) := by
  subst hp
  subst hn
  obtain ⟨np, kd, ci2, rk2, mc, ms⟩ := dd
  have e1 : (args ++ .ref q.1 :: st).drop args.length = .ref q.1 :: st := List.drop_left
  have e2 : (args ++ .ref q.1 :: st).take args.length = args := List.take_left
  have e3 : args.length ≤ (args ++ Value.ref q.1 :: st).length := by
    rw [List.length_append]
    exact Nat.le_add_right _ _
  have hr : mm_recv E h 1 90 (.ref q.1 :: st) = some ([.ref q.1], st) := by
    simp [mm_recv, hE.1]
  by_cases hg : gs.length + 1 < 1000
  · refine bp_good_step (c' := ((K, 0, lv_args 0 (.ref q.1 :: args.reverse), [], 0, 0) :: (m, pc + len, lv, st, 0, 0) :: gs, h, none)) ?_ g
    simp only [mm_stp, hat, mm_inv, if_neg hK2, mm_call, hK]
    rw [if_pos ⟨trivial, hg, Nat.zero_le _, Nat.zero_le _, e3⟩, e1, e2, hr]
    simp only []
    rw [if_pos ⟨hc, hs⟩]
    rfl
  · refine bp_any (bp_nm2 hat) (fun c' hs2 => ?_)
    have e : mm_stp E mt_kds mt_P 1000 ((m, pc, lv, args ++ .ref q.1 :: st, 0, 0) :: gs, h, o) = none := by
      simp only [mm_stp, hat, mm_inv, if_neg hK2, mm_call, hK]
      rw [if_neg (fun q => hg q.2.1)]
    rw [e] at hs2
    cases hs2
/-- an answer that must fit: it does, or nothing comes back -/
theorem bs_rF {np kd ci rk mc ms : Nat} {v : Int32} (hat : mm_at mt_P m pc = some ((pc0, len, .ireturn, a, b, z, wd), nL, (np, kd, ci, rk, mc, ms))) (g : bp_G E PO NN (mm_back (some (.int v)) gs h)) : bp_G E PO NN ((m, pc, lv, [.int v], 0, 0) :: gs, h, o) := by
  cases ha : mm_ans rk 1 [.int v] with
  | none =>
    refine bp_any (bp_nm2 hat) (fun c' hs2 => ?_)
    have e : mm_stp E mt_kds mt_P 1000 ((m, pc, lv, [.int v], 0, 0) :: gs, h, o) = none := by simp only [mm_stp, hat, mm_inv, mm_rtn, ha]
    rw [e] at hs2
    cases hs2
  | some w =>
    have ew : w = some (.int v) := by
      have ha : (if (1 : Nat) = 1 ∧ (rk = 1 ∨ (rk = 2 ∧ (v = 0 ∨ v = 1)) ∨ (rk = 4 ∧ -128 ≤ v.toInt ∧ v.toInt ≤ 127) ∨ (rk = 5 ∧ 0 ≤ v.toInt ∧ v.toInt ≤ 65535)) then some (some (Value.int v)) else none) = some w := ha
      split at ha
      · cases ha
        rfl
      · cases ha
    subst ew
    exact bp_good_step (by simp only [mm_stp, hat, mm_inv, mm_rtn, ha]) g
theorem bs_i2c {x : Int32} (hat : mm_at mt_P m pc = some ((pc0, len, .i2c, a, b, z, wd), nL, dd)) (hp : pc + len = pc') (g : ∀ v : Int32, (0 ≤ x.toInt → x.toInt < 65536 → v = x) → bp_G E PO NN ((m, pc', lv, .int v :: st, 0, 0) :: gs, h, none)) : bp_G E PO NN ((m, pc, lv, .int x :: st, 0, 0) :: gs, h, o) := by
  subst hp
  refine bp_s1 hat rfl rfl (h' := h) (lv' := lv) (st' := .int (x.toUInt32 % 65536).toInt32 :: st) (by simp only [mm_ex, mm_un]) (g _ (fun h1 h2 => ?_))
  have e1 : x.toUInt32.toNat < 65536 := by
    have e3 : x.toInt = (x.toUInt32.toNat : Int) := by
      have e4 : x.toUInt32.toNat = x.toBitVec.toNat := rfl
      have e5 : x.toInt = x.toBitVec.toInt := rfl
      rw [e5] at h1 h2 ⊢
      rw [e4]
      rw [BitVec.toInt_eq_toNat_cond] at h1 h2 ⊢
      have e6 := x.toBitVec.isLt
      split at h1 <;> split <;> omega
    omega
  have e2 : x.toUInt32 % 65536 = x.toUInt32 := UInt32.toNat_inj.mp (by rw [UInt32.toNat_mod]; exact Nat.mod_eq_of_lt e1)
  rw [e2]
  rfl
theorem bs_shr0 {x y : Int32} (hat : mm_at mt_P m pc = some ((pc0, len, .ishr, a, b, z, wd), nL, dd)) (hp : pc + len = pc') (hy : y.toInt = 0) (g : bp_G E PO NN ((m, pc', lv, .int x :: st, 0, 0) :: gs, h, none)) : bp_G E PO NN ((m, pc, lv, .int y :: .int x :: st, 0, 0) :: gs, h, o) := by
  subst hp
  have ey : y = 0 := Int32.toInt_inj.mp hy
  subst ey
  have ex : x >>> ((0 : Int32) &&& 31) = x := by
    have e : ((0 : Int32) &&& 31) = 0 := by decide
    rw [e]
    exact Int32.shiftRight_zero
  refine bp_bin (f := fun x y => some (x >>> (y &&& 31))) (v := x) hat rfl rfl (fun _ _ _ => rfl) ?_ g
  simp only [ex]
theorem bp_noat (hat : mm_at mt_P m pc = none) (hm : m ≠ 999) : bp_G E PO NN ((m, pc, lv, st, 0, 0) :: gs, h, o) := by
  refine bp_any (fun hk => ?_) (fun c' hs => ?_)
  · obtain ⟨f, t, e, hf⟩ := hk
    have e : (m, pc, lv, st, 0, 0) :: gs = f :: t := e
    cases e
    exact hm hf
  · have e : mm_stp E mt_kds mt_P 1000 ((m, pc, lv, st, 0, 0) :: gs, h, o) = none := by simp only [mm_stp, hat]
    rw [e] at hs
    cases hs
theorem bp_ld0 {kd i : Nat} {v : Value} (hat : mm_at mt_P m pc = some ((pc0, len, ins, a, b, z, wd), nL, dd)) (hi : mm_inv ins = none) (hr : mm_rtn ins = none) (hl : ∀ (lv : mm_V) (st : List Value) (h : mm_H), mm_ex E mt_kds nL ins len a b z pc lv st 0 0 h = mm_load lv st 0 0 h pc' kd i) (hv : mm_get lv i = some v) (g : bp_G E PO NN ((m, pc', lv, v :: st, 0, 0) :: gs, h, none)) : bp_G E PO NN ((m, pc, lv, st, 0, 0) :: gs, h, o) := by
  by_cases hk : mm_kind v = kd
  · exact bp_ld hat hi hr hl hv hk g
  · refine bp_s0 hat hi hr ?_
    rw [hl]
    unfold mm_load
    rw [hv]
    simp only []
    rw [if_neg hk]
theorem bs_gs8 {x : Nat} (hat : mm_at mt_P m pc = some ((pc0, len, .getstatic x, 8, b, z, wd), nL, dd)) (hp : pc + len = pc') (g1 : bp_G E PO NN ((m, pc', lv, .null :: st, 0, 0) :: gs, h, none)) (g2 : ∀ x : Nat, bp_G E PO NN ((m, pc', lv, .ref x :: st, 0, 0) :: gs, h, none)) : bp_G E PO NN ((m, pc, lv, st, 0, 0) :: gs, h, o) := by
  subst hp
  cases hq : E.2[8]? with
  | none => exact bp_s0 hat rfl rfl (by simp only [mm_ex, hq]; rw [if_neg (by decide), if_pos trivial])
  | some q =>
    by_cases hc : q.2.1 = 0
    · exact bp_s1 hat rfl rfl (h' := h) (lv' := lv) (st' := .null :: st) (by simp only [mm_ex, hq, if_pos hc]; rw [if_neg (by decide), if_pos trivial]) g1
    · exact bp_s1 hat rfl rfl (h' := h) (lv' := lv) (st' := .ref q.1 :: st) (by simp only [mm_ex, hq, if_neg hc]; rw [if_neg (by decide), if_pos trivial]) (g2 q.1)
end BSS
theorem bu_275_0 : mm_at mt_P 275 0 = some ((0, 1, .aload_n 0, 0, 0, 0, 0), 2, 1, 1, 90, 5, 0, 0) := rfl
theorem bu_275_1 : mm_at mt_P 275 1 = some ((1, 3, .invokevirtual 492, 280, 0, 0, 536), 2, 1, 1, 90, 5, 0, 0) := rfl
theorem bu_275_4 : mm_at mt_P 275 4 = some ((4, 3, .ifCond .eq 12, 0, 0, 0, 0), 2, 1, 1, 90, 5, 0, 0) := rfl
theorem bu_275_7 : mm_at mt_P 275 7 = some ((7, 1, .aload_n 0, 0, 0, 0, 0), 2, 1, 1, 90, 5, 0, 0) := rfl
theorem bu_275_8 : mm_at mt_P 275 8 = some ((8, 3, .getfield 9, 90, 0, 0, 1846), 2, 1, 1, 90, 5, 0, 0) := rfl
theorem bu_275_11 : mm_at mt_P 275 11 = some ((11, 1, .iload_n 1, 0, 0, 0, 0), 2, 1, 1, 90, 5, 0, 0) := rfl
theorem bu_275_12 : mm_at mt_P 275 12 = some ((12, 3, .invokestatic 495, 283, 0, 0, 540), 2, 1, 1, 90, 5, 0, 0) := rfl
theorem bu_275_15 : mm_at mt_P 275 15 = some ((15, 1, .ireturn, 0, 0, 0, 0), 2, 1, 1, 90, 5, 0, 0) := rfl
theorem bu_276_0 : mm_at mt_P 276 0 = some ((0, 1, .iload_n 0, 0, 0, 0, 0), 2, 2, 0, 90, 0, 0, 0) := rfl
theorem bu_276_1 : mm_at mt_P 276 1 = some ((1, 1, .iload_n 1, 0, 0, 0, 0), 2, 2, 0, 90, 0, 0, 0) := rfl
theorem bu_276_2 : mm_at mt_P 276 2 = some ((2, 3, .getstatic 1053, 8, 0, 0, 546), 2, 2, 0, 90, 0, 0, 0) := rfl
theorem bu_276_5 : mm_at mt_P 276 5 = some ((5, 3, .invokestatic 1059, 286, 0, 0, 548), 2, 2, 0, 90, 0, 0, 0) := rfl
theorem bu_276_8 : mm_at mt_P 276 8 = some ((8, 1, .pop, 0, 0, 0, 0), 2, 2, 0, 90, 0, 0, 0) := rfl
theorem bu_276_9 : mm_at mt_P 276 9 = some ((9, 1, .return_, 0, 0, 0, 0), 2, 2, 0, 90, 0, 0, 0) := rfl
theorem bu_277_0 : mm_at mt_P 277 0 = some ((0, 3, .getstatic 38, 9, 0, 0, 530), 1, 0, 1, 90, 4, 0, 0) := rfl
theorem bu_277_3 : mm_at mt_P 277 3 = some ((3, 3, .ifCond .eq 10, 0, 0, 0, 0), 1, 0, 1, 90, 4, 0, 0) := rfl
theorem bu_277_6 : mm_at mt_P 277 6 = some ((6, 1, .aload_n 0, 0, 0, 0, 0), 1, 0, 1, 90, 4, 0, 0) := rfl
theorem bu_277_7 : mm_at mt_P 277 7 = some ((7, 3, .getfield 15, 90, 1, 0, 1847), 1, 0, 1, 90, 4, 0, 0) := rfl
theorem bu_277_10 : mm_at mt_P 277 10 = some ((10, 3, .goto 4, 0, 0, 0, 0), 1, 0, 1, 90, 4, 0, 0) := rfl
theorem bu_277_14 : mm_at mt_P 277 14 = some ((14, 1, .ireturn, 0, 0, 0, 0), 1, 0, 1, 90, 4, 0, 0) := rfl
theorem bu_278_0 : mm_at mt_P 278 0 = some ((0, 1, .aload_n 0, 0, 0, 0, 0), 2, 1, 1, 90, 1, 0, 0) := rfl
theorem bu_278_1 : mm_at mt_P 278 1 = some ((1, 1, .iload_n 1, 0, 0, 0, 0), 2, 1, 1, 90, 1, 0, 0) := rfl
theorem bu_278_2 : mm_at mt_P 278 2 = some ((2, 1, .iconst 0, 0, 0, 0, 0), 2, 1, 1, 90, 1, 0, 0) := rfl
theorem bu_278_3 : mm_at mt_P 278 3 = some ((3, 3, .invokevirtual 633, 279, 0, 0, 582), 2, 1, 1, 90, 1, 0, 0) := rfl
theorem bu_278_6 : mm_at mt_P 278 6 = some ((6, 1, .ireturn, 0, 0, 0, 0), 2, 1, 1, 90, 1, 0, 0) := rfl
theorem bu_279_0 : mm_at mt_P 279 0 = some ((0, 1, .aload_n 0, 0, 0, 0, 0), 3, 2, 1, 90, 1, 0, 0) := rfl
theorem bu_279_1 : mm_at mt_P 279 1 = some ((1, 3, .invokevirtual 492, 280, 0, 0, 536), 3, 2, 1, 90, 1, 0, 0) := rfl
theorem bu_279_4 : mm_at mt_P 279 4 = some ((4, 3, .ifCond .eq 19, 0, 0, 0, 0), 3, 2, 1, 90, 1, 0, 0) := rfl
theorem bu_279_7 : mm_at mt_P 279 7 = some ((7, 1, .aload_n 0, 0, 0, 0, 0), 3, 2, 1, 90, 1, 0, 0) := rfl
theorem bu_279_8 : mm_at mt_P 279 8 = some ((8, 3, .getfield 9, 90, 0, 0, 1846), 3, 2, 1, 90, 1, 0, 0) := rfl
theorem bu_279_11 : mm_at mt_P 279 11 = some ((11, 1, .iload_n 1, 0, 0, 0, 0), 3, 2, 1, 90, 1, 0, 0) := rfl
theorem bu_279_12 : mm_at mt_P 279 12 = some ((12, 1, .iload_n 2, 0, 0, 0, 0), 3, 2, 1, 90, 1, 0, 0) := rfl
theorem bu_279_13 : mm_at mt_P 279 13 = some ((13, 1, .aload_n 0, 0, 0, 0, 0), 3, 2, 1, 90, 1, 0, 0) := rfl
theorem bu_279_14 : mm_at mt_P 279 14 = some ((14, 3, .invokevirtual 505, 281, 0, 0, 586), 3, 2, 1, 90, 1, 0, 0) := rfl
theorem bu_279_17 : mm_at mt_P 279 17 = some ((17, 3, .invokestatic 637, 285, 0, 0, 587), 3, 2, 1, 90, 1, 0, 0) := rfl
theorem bu_279_20 : mm_at mt_P 279 20 = some ((20, 3, .goto 16, 0, 0, 0, 0), 3, 2, 1, 90, 1, 0, 0) := rfl
theorem bu_279_36 : mm_at mt_P 279 36 = some ((36, 1, .ireturn, 0, 0, 0, 0), 3, 2, 1, 90, 1, 0, 0) := rfl
theorem bu_280_0 : mm_at mt_P 280 0 = some ((0, 3, .getstatic 38, 9, 0, 0, 530), 1, 0, 1, 90, 2, 0, 0) := rfl
theorem bu_280_3 : mm_at mt_P 280 3 = some ((3, 3, .ifCond .eq 14, 0, 0, 0, 0), 1, 0, 1, 90, 2, 0, 0) := rfl
theorem bu_280_6 : mm_at mt_P 280 6 = some ((6, 1, .aload_n 0, 0, 0, 0, 0), 1, 0, 1, 90, 2, 0, 0) := rfl
theorem bu_280_7 : mm_at mt_P 280 7 = some ((7, 3, .getfield 15, 90, 1, 0, 1847), 1, 0, 1, 90, 2, 0, 0) := rfl
theorem bu_280_10 : mm_at mt_P 280 10 = some ((10, 3, .ifCond .ne 7, 0, 0, 0, 0), 1, 0, 1, 90, 2, 0, 0) := rfl
theorem bu_280_13 : mm_at mt_P 280 13 = some ((13, 1, .iconst 1, 0, 0, 0, 0), 1, 0, 1, 90, 2, 0, 0) := rfl
theorem bu_280_14 : mm_at mt_P 280 14 = some ((14, 3, .goto 4, 0, 0, 0, 0), 1, 0, 1, 90, 2, 0, 0) := rfl
theorem bu_280_18 : mm_at mt_P 280 18 = some ((18, 1, .ireturn, 0, 0, 0, 0), 1, 0, 1, 90, 2, 0, 0) := rfl
theorem bu_281_0 : mm_at mt_P 281 0 = some ((0, 1, .aload_n 0, 0, 0, 0, 0), 1, 0, 1, 90, 1, 0, 0) := rfl
theorem bu_281_1 : mm_at mt_P 281 1 = some ((1, 3, .getfield 9, 90, 0, 0, 1846), 1, 0, 1, 90, 1, 0, 0) := rfl
theorem bu_281_4 : mm_at mt_P 281 4 = some ((4, 1, .arraylength, 1, 0, 0, 0), 1, 0, 1, 90, 1, 0, 0) := rfl
theorem bu_281_5 : mm_at mt_P 281 5 = some ((5, 1, .aload_n 0, 0, 0, 0, 0), 1, 0, 1, 90, 1, 0, 0) := rfl
theorem bu_281_6 : mm_at mt_P 281 6 = some ((6, 3, .invokevirtual 335, 277, 0, 0, 526), 1, 0, 1, 90, 1, 0, 0) := rfl
theorem bu_281_9 : mm_at mt_P 281 9 = some ((9, 1, .ishr, 0, 0, 0, 0), 1, 0, 1, 90, 1, 0, 0) := rfl
theorem bu_281_10 : mm_at mt_P 281 10 = some ((10, 1, .ireturn, 0, 0, 0, 0), 1, 0, 1, 90, 1, 0, 0) := rfl
theorem bu_282_0 : mm_at mt_P 282 0 = some ((0, 1, .iload_n 0, 0, 0, 0, 0), 1, 1, 0, 0, 2, 0, 0) := rfl
theorem bu_282_1 : mm_at mt_P 282 1 = some ((1, 3, .ifCond .lt 14, 0, 0, 0, 0), 1, 1, 0, 0, 2, 0, 0) := rfl
theorem bu_282_4 : mm_at mt_P 282 4 = some ((4, 1, .iload_n 0, 0, 0, 0, 0), 1, 1, 0, 0, 2, 0, 0) := rfl
theorem bu_282_5 : mm_at mt_P 282 5 = some ((5, 3, .sipush 255, 0, 0, 0, 0), 1, 1, 0, 0, 2, 0, 0) := rfl
theorem bu_282_8 : mm_at mt_P 282 8 = some ((8, 3, .if_icmp .gt 7, 0, 0, 0, 0), 1, 1, 0, 0, 2, 0, 0) := rfl
theorem bu_282_11 : mm_at mt_P 282 11 = some ((11, 1, .iconst 1, 0, 0, 0, 0), 1, 1, 0, 0, 2, 0, 0) := rfl
theorem bu_282_12 : mm_at mt_P 282 12 = some ((12, 3, .goto 4, 0, 0, 0, 0), 1, 1, 0, 0, 2, 0, 0) := rfl
theorem bu_282_15 : mm_at mt_P 282 15 = some ((15, 1, .iconst 0, 0, 0, 0, 0), 1, 1, 0, 0, 2, 0, 0) := rfl
theorem bu_282_16 : mm_at mt_P 282 16 = some ((16, 1, .ireturn, 0, 0, 0, 0), 1, 1, 0, 0, 2, 0, 0) := rfl
theorem bu_283_0 : mm_at mt_P 283 0 = some ((0, 1, .iload_n 1, 0, 0, 0, 0), 2, 2, 0, 0, 5, 0, 0) := rfl
theorem bu_283_1 : mm_at mt_P 283 1 = some ((1, 1, .aload_n 0, 0, 0, 0, 0), 2, 2, 0, 0, 5, 0, 0) := rfl
theorem bu_283_2 : mm_at mt_P 283 2 = some ((2, 1, .arraylength, 1, 0, 0, 0), 2, 2, 0, 0, 5, 0, 0) := rfl
theorem bu_283_3 : mm_at mt_P 283 3 = some ((3, 3, .invokestatic 9, 276, 0, 0, 543), 2, 2, 0, 0, 5, 0, 0) := rfl
theorem bu_283_6 : mm_at mt_P 283 6 = some ((6, 1, .aload_n 0, 0, 0, 0, 0), 2, 2, 0, 0, 5, 0, 0) := rfl
theorem bu_283_7 : mm_at mt_P 283 7 = some ((7, 1, .iload_n 1, 0, 0, 0, 0), 2, 2, 0, 0, 5, 0, 0) := rfl
theorem bu_283_8 : mm_at mt_P 283 8 = some ((8, 1, .baload, 0, 0, 0, 0), 2, 2, 0, 0, 5, 0, 0) := rfl
theorem bu_283_9 : mm_at mt_P 283 9 = some ((9, 3, .sipush 255, 0, 0, 0, 0), 2, 2, 0, 0, 5, 0, 0) := rfl
theorem bu_283_12 : mm_at mt_P 283 12 = some ((12, 1, .iand, 0, 0, 0, 0), 2, 2, 0, 0, 5, 0, 0) := rfl
theorem bu_283_13 : mm_at mt_P 283 13 = some ((13, 1, .i2c, 0, 0, 0, 0), 2, 2, 0, 0, 5, 0, 0) := rfl
theorem bu_283_14 : mm_at mt_P 283 14 = some ((14, 1, .ireturn, 0, 0, 0, 0), 2, 2, 0, 0, 5, 0, 0) := rfl
theorem bu_284_0 : mm_at mt_P 284 0 = some ((0, 1, .iload_n 1, 0, 0, 0, 0), 6, 4, 0, 0, 1, 0, 0) := rfl
theorem bu_284_1 : mm_at mt_P 284 1 = some ((1, 1, .i2b, 0, 0, 0, 0), 6, 4, 0, 0, 1, 0, 0) := rfl
theorem bu_284_2 : mm_at mt_P 284 2 = some ((2, 2, .istore 4, 0, 0, 0, 0), 6, 4, 0, 0, 1, 0, 0) := rfl
theorem bu_284_4 : mm_at mt_P 284 4 = some ((4, 1, .iload_n 2, 0, 0, 0, 0), 6, 4, 0, 0, 1, 0, 0) := rfl
theorem bu_284_5 : mm_at mt_P 284 5 = some ((5, 2, .istore 5, 0, 0, 0, 0), 6, 4, 0, 0, 1, 0, 0) := rfl
theorem bu_284_7 : mm_at mt_P 284 7 = some ((7, 2, .iload 5, 0, 0, 0, 0), 6, 4, 0, 0, 1, 0, 0) := rfl
theorem bu_284_9 : mm_at mt_P 284 9 = some ((9, 1, .iload_n 3, 0, 0, 0, 0), 6, 4, 0, 0, 1, 0, 0) := rfl
theorem bu_284_10 : mm_at mt_P 284 10 = some ((10, 3, .if_icmp .ge 21, 0, 0, 0, 0), 6, 4, 0, 0, 1, 0, 0) := rfl
theorem bu_284_13 : mm_at mt_P 284 13 = some ((13, 1, .aload_n 0, 0, 0, 0, 0), 6, 4, 0, 0, 1, 0, 0) := rfl
theorem bu_284_14 : mm_at mt_P 284 14 = some ((14, 2, .iload 5, 0, 0, 0, 0), 6, 4, 0, 0, 1, 0, 0) := rfl
theorem bu_284_16 : mm_at mt_P 284 16 = some ((16, 1, .baload, 0, 0, 0, 0), 6, 4, 0, 0, 1, 0, 0) := rfl
theorem bu_284_17 : mm_at mt_P 284 17 = some ((17, 2, .iload 4, 0, 0, 0, 0), 6, 4, 0, 0, 1, 0, 0) := rfl
theorem bu_284_19 : mm_at mt_P 284 19 = some ((19, 3, .if_icmp .ne 6, 0, 0, 0, 0), 6, 4, 0, 0, 1, 0, 0) := rfl
theorem bu_284_22 : mm_at mt_P 284 22 = some ((22, 2, .iload 5, 0, 0, 0, 0), 6, 4, 0, 0, 1, 0, 0) := rfl
theorem bu_284_24 : mm_at mt_P 284 24 = some ((24, 1, .ireturn, 0, 0, 0, 0), 6, 4, 0, 0, 1, 0, 0) := rfl
theorem bu_284_25 : mm_at mt_P 284 25 = some ((25, 3, .iinc 5 1, 0, 0, 0, 0), 6, 4, 0, 0, 1, 0, 0) := rfl
theorem bu_284_28 : mm_at mt_P 284 28 = some ((28, 3, .goto (-21), 0, 0, 0, 0), 6, 4, 0, 0, 1, 0, 0) := rfl
theorem bu_284_31 : mm_at mt_P 284 31 = some ((31, 1, .iconst (-1), 0, 0, 0, 0), 6, 4, 0, 0, 1, 0, 0) := rfl
theorem bu_284_32 : mm_at mt_P 284 32 = some ((32, 1, .ireturn, 0, 0, 0, 0), 6, 4, 0, 0, 1, 0, 0) := rfl
theorem bu_285_0 : mm_at mt_P 285 0 = some ((0, 1, .iload_n 1, 0, 0, 0, 0), 4, 4, 0, 0, 1, 0, 0) := rfl
theorem bu_285_1 : mm_at mt_P 285 1 = some ((1, 3, .invokestatic 88, 282, 0, 0, 590), 4, 4, 0, 0, 1, 0, 0) := rfl
theorem bu_285_4 : mm_at mt_P 285 4 = some ((4, 3, .ifCond .ne 5, 0, 0, 0, 0), 4, 4, 0, 0, 1, 0, 0) := rfl
theorem bu_285_7 : mm_at mt_P 285 7 = some ((7, 1, .iconst (-1), 0, 0, 0, 0), 4, 4, 0, 0, 1, 0, 0) := rfl
theorem bu_285_8 : mm_at mt_P 285 8 = some ((8, 1, .ireturn, 0, 0, 0, 0), 4, 4, 0, 0, 1, 0, 0) := rfl
theorem bu_285_9 : mm_at mt_P 285 9 = some ((9, 1, .iload_n 2, 0, 0, 0, 0), 4, 4, 0, 0, 1, 0, 0) := rfl
theorem bu_285_10 : mm_at mt_P 285 10 = some ((10, 1, .iconst 0, 0, 0, 0, 0), 4, 4, 0, 0, 1, 0, 0) := rfl
theorem bu_285_11 : mm_at mt_P 285 11 = some ((11, 3, .invokestatic 92, 289, 0, 0, 593), 4, 4, 0, 0, 1, 0, 0) := rfl
theorem bu_285_14 : mm_at mt_P 285 14 = some ((14, 1, .istore_n 2, 0, 0, 0, 0), 4, 4, 0, 0, 1, 0, 0) := rfl
theorem bu_285_15 : mm_at mt_P 285 15 = some ((15, 1, .iload_n 3, 0, 0, 0, 0), 4, 4, 0, 0, 1, 0, 0) := rfl
theorem bu_285_16 : mm_at mt_P 285 16 = some ((16, 1, .aload_n 0, 0, 0, 0, 0), 4, 4, 0, 0, 1, 0, 0) := rfl
theorem bu_285_17 : mm_at mt_P 285 17 = some ((17, 1, .arraylength, 1, 0, 0, 0), 4, 4, 0, 0, 1, 0, 0) := rfl
theorem bu_285_18 : mm_at mt_P 285 18 = some ((18, 3, .invokestatic 38, 290, 0, 0, 594), 4, 4, 0, 0, 1, 0, 0) := rfl
theorem bu_285_21 : mm_at mt_P 285 21 = some ((21, 1, .istore_n 3, 0, 0, 0, 0), 4, 4, 0, 0, 1, 0, 0) := rfl
theorem bu_285_22 : mm_at mt_P 285 22 = some ((22, 1, .iload_n 2, 0, 0, 0, 0), 4, 4, 0, 0, 1, 0, 0) := rfl
theorem bu_285_23 : mm_at mt_P 285 23 = some ((23, 1, .iload_n 3, 0, 0, 0, 0), 4, 4, 0, 0, 1, 0, 0) := rfl
theorem bu_285_24 : mm_at mt_P 285 24 = some ((24, 3, .if_icmp .lt 5, 0, 0, 0, 0), 4, 4, 0, 0, 1, 0, 0) := rfl
theorem bu_285_27 : mm_at mt_P 285 27 = some ((27, 1, .iconst (-1), 0, 0, 0, 0), 4, 4, 0, 0, 1, 0, 0) := rfl
theorem bu_285_28 : mm_at mt_P 285 28 = some ((28, 1, .ireturn, 0, 0, 0, 0), 4, 4, 0, 0, 1, 0, 0) := rfl
theorem bu_285_29 : mm_at mt_P 285 29 = some ((29, 1, .aload_n 0, 0, 0, 0, 0), 4, 4, 0, 0, 1, 0, 0) := rfl
theorem bu_285_30 : mm_at mt_P 285 30 = some ((30, 1, .iload_n 1, 0, 0, 0, 0), 4, 4, 0, 0, 1, 0, 0) := rfl
theorem bu_285_31 : mm_at mt_P 285 31 = some ((31, 1, .iload_n 2, 0, 0, 0, 0), 4, 4, 0, 0, 1, 0, 0) := rfl
theorem bu_285_32 : mm_at mt_P 285 32 = some ((32, 1, .iload_n 3, 0, 0, 0, 0), 4, 4, 0, 0, 1, 0, 0) := rfl
theorem bu_285_33 : mm_at mt_P 285 33 = some ((33, 3, .invokestatic 95, 284, 0, 0, 595), 4, 4, 0, 0, 1, 0, 0) := rfl
theorem bu_285_36 : mm_at mt_P 285 36 = some ((36, 1, .ireturn, 0, 0, 0, 0), 4, 4, 0, 0, 1, 0, 0) := rfl
theorem bu_286_0 : mm_at mt_P 286 0 = some ((0, 1, .iload_n 0, 0, 0, 0, 0), 3, 3, 0, 0, 1, 0, 0) := rfl
theorem bu_286_1 : mm_at mt_P 286 1 = some ((1, 3, .ifCond .lt 8, 0, 0, 0, 0), 3, 3, 0, 0, 1, 0, 0) := rfl
theorem bu_286_4 : mm_at mt_P 286 4 = some ((4, 1, .iload_n 0, 0, 0, 0, 0), 3, 3, 0, 0, 1, 0, 0) := rfl
theorem bu_286_5 : mm_at mt_P 286 5 = some ((5, 1, .iload_n 1, 0, 0, 0, 0), 3, 3, 0, 0, 1, 0, 0) := rfl
theorem bu_286_6 : mm_at mt_P 286 6 = some ((6, 3, .if_icmp .lt 10, 0, 0, 0, 0), 3, 3, 0, 0, 1, 0, 0) := rfl
theorem bu_286_9 : mm_at mt_P 286 9 = some ((9, 1, .aload_n 2, 0, 0, 0, 0), 3, 3, 0, 0, 1, 0, 0) := rfl
theorem bu_286_10 : mm_at mt_P 286 10 = some ((10, 1, .iload_n 0, 0, 0, 0, 0), 3, 3, 0, 0, 1, 0, 0) := rfl
theorem bu_286_11 : mm_at mt_P 286 11 = some ((11, 1, .iload_n 1, 0, 0, 0, 0), 3, 3, 0, 0, 1, 0, 0) := rfl
theorem bu_286_16 : mm_at mt_P 286 16 = some ((16, 1, .iload_n 0, 0, 0, 0, 0), 3, 3, 0, 0, 1, 0, 0) := rfl
theorem bu_286_17 : mm_at mt_P 286 17 = some ((17, 1, .ireturn, 0, 0, 0, 0), 3, 3, 0, 0, 1, 0, 0) := rfl
theorem bu_289_0 : mm_at mt_P 289 0 = some ((0, 1, .iload_n 0, 0, 0, 0, 0), 2, 2, 0, 0, 1, 0, 0) := rfl
theorem bu_289_1 : mm_at mt_P 289 1 = some ((1, 1, .iload_n 1, 0, 0, 0, 0), 2, 2, 0, 0, 1, 0, 0) := rfl
theorem bu_289_2 : mm_at mt_P 289 2 = some ((2, 3, .if_icmp .lt 7, 0, 0, 0, 0), 2, 2, 0, 0, 1, 0, 0) := rfl
theorem bu_289_5 : mm_at mt_P 289 5 = some ((5, 1, .iload_n 0, 0, 0, 0, 0), 2, 2, 0, 0, 1, 0, 0) := rfl
theorem bu_289_6 : mm_at mt_P 289 6 = some ((6, 3, .goto 4, 0, 0, 0, 0), 2, 2, 0, 0, 1, 0, 0) := rfl
theorem bu_289_9 : mm_at mt_P 289 9 = some ((9, 1, .iload_n 1, 0, 0, 0, 0), 2, 2, 0, 0, 1, 0, 0) := rfl
theorem bu_289_10 : mm_at mt_P 289 10 = some ((10, 1, .ireturn, 0, 0, 0, 0), 2, 2, 0, 0, 1, 0, 0) := rfl
theorem bu_290_0 : mm_at mt_P 290 0 = some ((0, 1, .iload_n 0, 0, 0, 0, 0), 2, 2, 0, 0, 1, 0, 0) := rfl
theorem bu_290_1 : mm_at mt_P 290 1 = some ((1, 1, .iload_n 1, 0, 0, 0, 0), 2, 2, 0, 0, 1, 0, 0) := rfl
theorem bu_290_2 : mm_at mt_P 290 2 = some ((2, 3, .if_icmp .gt 7, 0, 0, 0, 0), 2, 2, 0, 0, 1, 0, 0) := rfl
theorem bu_290_5 : mm_at mt_P 290 5 = some ((5, 1, .iload_n 0, 0, 0, 0, 0), 2, 2, 0, 0, 1, 0, 0) := rfl
theorem bu_290_6 : mm_at mt_P 290 6 = some ((6, 3, .goto 4, 0, 0, 0, 0), 2, 2, 0, 0, 1, 0, 0) := rfl
theorem bu_290_9 : mm_at mt_P 290 9 = some ((9, 1, .iload_n 1, 0, 0, 0, 0), 2, 2, 0, 0, 1, 0, 0) := rfl
theorem bu_290_10 : mm_at mt_P 290 10 = some ((10, 1, .ireturn, 0, 0, 0, 0), 2, 2, 0, 0, 1, 0, 0) := rfl
section BSQ
variable {E : mm_E} {PO : mm_C → Prop} {NN : Nat} {h : mm_H} {gs : List mm_F}
theorem bq_280 {i : Nat} {q q' : mm_S} (hE : bs_E E i q q') (kk : ∀ r : Int32, r.toInt = 1 → bp_G E PO NN (mm_back (some (.int r)) gs h)) : bp_G E PO NN ((280, 0, [(0, .ref q.1)], [], 0, 0) :: gs, h, none) := by
  refine bs_gs9 (pc' := 3) bu_280_0 rfl (fun c4374 e4375 => ?_)
  refine bp_i0 (pc' := 6) (pt := 17) bu_280_3 rfl rfl (fun k4376 => ?_) (fun k4376 => ?_)
  · replace k4376 : (c4374).toInt = 0 := k4376
    omega
  · replace k4376 : ¬ ((c4374).toInt = 0) := k4376
    refine bp_ld (pc' := 7) bu_280_6 rfl rfl (fun _ _ _ => rfl) rfl rfl ?_
    refine bs_gf1 (pc' := 10) bu_280_7 rfl hE (fun c4377 e4378 => ?_)
    refine bp_i0 (pc' := 13) (pt := 17) bu_280_10 rfl rfl (fun k4379 => ?_) (fun k4379 => ?_)
    · replace k4379 : (c4377).toInt ≠ 0 := k4379
      omega
    · replace k4379 : ¬ ((c4377).toInt ≠ 0) := k4379
      refine bp_c (pc' := 14) (n := 1) bu_280_13 rfl rfl (fun _ _ _ => rfl) (by decide) (fun c4380 e4381 => ?_)
      refine bp_go (pc' := 18) bu_280_14 rfl ?_
      refine bp_rbF bu_280_18 (fun rb4382 => ?_)
      exact kk _ (by omega)
theorem bq_277 {i : Nat} {q q' : mm_S} (hE : bs_E E i q q') (kk : ∀ r : Int32, r.toInt = 0 → bp_G E PO NN (mm_back (some (.int r)) gs h)) : bp_G E PO NN ((277, 0, [(0, .ref q.1)], [], 0, 0) :: gs, h, none) := by
  refine bs_gs9 (pc' := 3) bu_277_0 rfl (fun c4383 e4384 => ?_)
  refine bp_i0 (pc' := 6) (pt := 13) bu_277_3 rfl rfl (fun k4385 => ?_) (fun k4385 => ?_)
  · replace k4385 : (c4383).toInt = 0 := k4385
    omega
  · replace k4385 : ¬ ((c4383).toInt = 0) := k4385
    refine bp_ld (pc' := 7) bu_277_6 rfl rfl (fun _ _ _ => rfl) rfl rfl ?_
    refine bs_gf1 (pc' := 10) bu_277_7 rfl hE (fun c4386 e4387 => ?_)
    refine bp_go (pc' := 14) bu_277_10 rfl ?_
    refine bs_rF bu_277_14 ?_
    exact kk _ (by omega)
theorem bq_281 {i : Nat} {q q' : mm_S} (hE : bs_E E i q q') (hsn : q'.2.1 ≤ 3072) (kk : ∀ r : Int32, r.toInt = (q'.2.1 : Int) → bp_G E PO NN (mm_back (some (.int r)) gs h)) : bp_G E PO NN ((281, 0, [(0, .ref q.1)], [], 0, 0) :: gs, h, none) := by
  refine bp_ld (pc' := 1) bu_281_0 rfl rfl (fun _ _ _ => rfl) rfl rfl ?_
  refine bs_gf0 (pc' := 4) bu_281_1 rfl hE ?_
  refine bs_al (pc' := 5) bu_281_4 rfl (by decide) hE hsn (fun v4388 e4389 => ?_)
  refine bp_ld (pc' := 6) bu_281_5 rfl rfl (fun _ _ _ => rfl) rfl rfl ?_
  refine bs_cv (pc' := 9) (st := [.int v4388]) (args := []) bu_281_6 rfl rfl (by decide) hE rfl (Nat.le_of_ble_eq_true rfl) (Nat.le_of_ble_eq_true rfl) ?_
  refine bq_277 hE (fun r4390 e4391 => ?_)
  show bp_G E PO NN ((281, 9, _, [.int r4390, .int v4388], 0, 0) :: gs, h, none)
  refine bs_shr0 (pc' := 10) bu_281_9 rfl (by omega) ?_
  refine bp_ri bu_281_10 ?_
  exact kk _ (by omega)
theorem bq_286 {k n : Int32} {w : Value} (kk : ∀ r : Int32, bp_G E PO NN (mm_back (some (.int r)) gs h)) : bp_G E PO NN ((286, 0, [(0, .int k), (1, .int n), (2, w)], [], 0, 0) :: gs, h, none) := by
  refine bp_ld (pc' := 1) bu_286_0 rfl rfl (fun _ _ _ => rfl) rfl rfl ?_
  refine bp_i0 (pc' := 4) (pt := 9) bu_286_1 rfl rfl (fun k4392 => ?_) (fun k4392 => ?_)
  · replace k4392 : (k).toInt < 0 := k4392
    refine bp_ld0 (pc' := 10) bu_286_9 rfl rfl (fun _ _ _ => rfl) rfl ?_
    refine bp_ld (pc' := 11) bu_286_10 rfl rfl (fun _ _ _ => rfl) rfl rfl ?_
    refine bp_ld (pc' := 12) bu_286_11 rfl rfl (fun _ _ _ => rfl) rfl rfl ?_
    exact bp_noat rfl (by decide)
  · replace k4392 : ¬ ((k).toInt < 0) := k4392
    refine bp_ld (pc' := 5) bu_286_4 rfl rfl (fun _ _ _ => rfl) rfl rfl ?_
    refine bp_ld (pc' := 6) bu_286_5 rfl rfl (fun _ _ _ => rfl) rfl rfl ?_
    refine bp_ic (pc' := 9) (pt := 16) bu_286_6 rfl rfl (fun k4393 => ?_) (fun k4393 => ?_)
    · replace k4393 : (k).toInt < (n).toInt := k4393
      refine bp_ld (pc' := 17) bu_286_16 rfl rfl (fun _ _ _ => rfl) rfl rfl ?_
      refine bp_ri bu_286_17 ?_
      exact kk _
    · replace k4393 : ¬ ((k).toInt < (n).toInt) := k4393
      refine bp_ld0 (pc' := 10) bu_286_9 rfl rfl (fun _ _ _ => rfl) rfl ?_
      refine bp_ld (pc' := 11) bu_286_10 rfl rfl (fun _ _ _ => rfl) rfl rfl ?_
      refine bp_ld (pc' := 12) bu_286_11 rfl rfl (fun _ _ _ => rfl) rfl rfl ?_
      exact bp_noat rfl (by decide)
theorem bq_276 {k n : Int32} (kk : bp_G E PO NN (mm_back none gs h)) : bp_G E PO NN ((276, 0, [(0, .int k), (1, .int n)], [], 0, 0) :: gs, h, none) := by
  refine bp_ld (pc' := 1) bu_276_0 rfl rfl (fun _ _ _ => rfl) rfl rfl ?_
  refine bp_ld (pc' := 2) bu_276_1 rfl rfl (fun _ _ _ => rfl) rfl rfl ?_
  refine bs_gs8 (pc' := 5) bu_276_2 rfl ?_ (fun x9 => ?_)
  · refine bp_csF (pc' := 8) (st := []) (args := [.null, .int n, .int k]) bu_276_5 rfl rfl (by decide) rfl (Nat.le_of_ble_eq_true rfl) (Nat.le_of_ble_eq_true rfl) ?_
    refine bq_286 (k := k) (n := n) (w := .null) (fun r => ?_)
    show bp_G E PO NN ((276, 8, _, [.int r], 0, 0) :: gs, h, none)
    refine bp_pop (pc' := 9) bu_276_8 rfl rfl ?_
    exact bp_rv bu_276_9 kk
  · refine bp_csF (pc' := 8) (st := []) (args := [.ref x9, .int n, .int k]) bu_276_5 rfl rfl (by decide) rfl (Nat.le_of_ble_eq_true rfl) (Nat.le_of_ble_eq_true rfl) ?_
    refine bq_286 (k := k) (n := n) (w := .ref x9) (fun r => ?_)
    show bp_G E PO NN ((276, 8, _, [.int r], 0, 0) :: gs, h, none)
    refine bp_pop (pc' := 9) bu_276_8 rfl rfl ?_
    exact bp_rv bu_276_9 kk
theorem bq_283 {k : Int32} {i : Nat} {q q' : mm_S} (hE : bs_E E i q q') (hsn : q'.2.1 ≤ 3072) (kk : ∀ (r : Int32), 0 ≤ k.toInt → k.toInt < (q'.2.1 : Int) → r.toInt = (q'.2.2 k.toInt.toNat).toInt % 256 → bp_G E PO NN (mm_back (some (.int r)) gs h)) : bp_G E PO NN ((283, 0, [(0, .ref q'.1), (1, .int k)], [], 0, 0) :: gs, h, none) := by
  refine bp_ld (pc' := 1) bu_283_0 rfl rfl (fun _ _ _ => rfl) rfl rfl ?_
  refine bp_ld (pc' := 2) bu_283_1 rfl rfl (fun _ _ _ => rfl) rfl rfl ?_
  refine bs_al (pc' := 3) bu_283_2 rfl (by decide) hE hsn (fun v4394 e4395 => ?_)
  refine bp_csF (pc' := 6) (st := []) (args := [.int v4394, .int k]) bu_283_3 rfl rfl (by decide) rfl (Nat.le_of_ble_eq_true rfl) (Nat.le_of_ble_eq_true rfl) ?_
  refine bq_276 ?_
  show bp_G E PO NN ((283, 6, _, [], 0, 0) :: gs, h, none)
  refine bp_ld (pc' := 7) bu_283_6 rfl rfl (fun _ _ _ => rfl) rfl rfl ?_
  refine bp_ld (pc' := 8) bu_283_7 rfl rfl (fun _ _ _ => rfl) rfl rfl ?_
  refine bs_ia (pc' := 9) bu_283_8 rfl hE (fun b4396 b4397 => ?_)
  refine bp_c (pc' := 12) (n := 255) bu_283_9 rfl rfl (fun _ _ _ => rfl) (by decide) (fun c4398 e4399 => ?_)
  refine bp_bin (pc' := 13) (v := (q'.2.2 (k).toInt.toNat) &&& c4398) bu_283_12 rfl rfl (fun _ _ _ => rfl) rfl ?_
  have ec9 : c4398 = 255 := Int32.toInt_inj.mp (by rw [e4399]; rfl)
  have hc9 : (((q'.2.2 (k).toInt.toNat) &&& c4398)).toInt = (q'.2.2 (k).toInt.toNat).toInt % 256 := by rw [ec9]; exact bp_and255 _
  refine bs_i2c (pc' := 14) bu_283_13 rfl (fun v4400 e4401 => ?_)
  refine bs_rF bu_283_14 ?_
  exact kk _ (by omega) (by omega) (by rw [e4401 (by omega) (by omega)]; exact hc9)
theorem bq_275 {k : Int32} {i : Nat} {q q' : mm_S} (hE : bs_E E i q q') (hsn : q'.2.1 ≤ 3072) (kk : ∀ (r : Int32), 0 ≤ k.toInt → k.toInt < (q'.2.1 : Int) → r.toInt = (q'.2.2 k.toInt.toNat).toInt % 256 → bp_G E PO NN (mm_back (some (.int r)) gs h)) : bp_G E PO NN ((275, 0, [(0, .ref q.1), (1, .int k)], [], 0, 0) :: gs, h, none) := by
  refine bp_ld (pc' := 1) bu_275_0 rfl rfl (fun _ _ _ => rfl) rfl rfl ?_
  refine bs_cv (pc' := 4) (st := []) (args := []) bu_275_1 rfl rfl (by decide) hE rfl (Nat.le_of_ble_eq_true rfl) (Nat.le_of_ble_eq_true rfl) ?_
  refine bq_280 hE (fun r4402 e4403 => ?_)
  show bp_G E PO NN ((275, 4, _, [.int r4402], 0, 0) :: gs, h, none)
  refine bp_i0 (pc' := 7) (pt := 16) bu_275_4 rfl rfl (fun k4404 => ?_) (fun k4404 => ?_)
  · replace k4404 : (r4402).toInt = 0 := k4404
    exfalso
    omega
  · replace k4404 : ¬ ((r4402).toInt = 0) := k4404
    refine bp_ld (pc' := 8) bu_275_7 rfl rfl (fun _ _ _ => rfl) rfl rfl ?_
    refine bs_gf0 (pc' := 11) bu_275_8 rfl hE ?_
    refine bp_ld (pc' := 12) bu_275_11 rfl rfl (fun _ _ _ => rfl) rfl rfl ?_
    refine bp_csF (pc' := 15) (st := []) (args := [.int k, .ref q'.1]) bu_275_12 rfl rfl (by decide) rfl (Nat.le_of_ble_eq_true rfl) (Nat.le_of_ble_eq_true rfl) ?_
    refine bq_283 hE hsn (fun r4405 a4406 b4407 e4408 => ?_)
    show bp_G E PO NN ((275, 15, _, [.int r4405], 0, 0) :: gs, h, none)
    refine bs_rF bu_275_15 ?_
    exact kk _ a4406 b4407 e4408
theorem bq_284l {b t : Int32} {i : Nat} {q q' : mm_S} (hE : bs_E E i q q') (hsn : q'.2.1 ≤ 3072) (ht : t.toInt = (q'.2.1 : Int)) : ∀ NN : Nat, (∀ r : Int32, ((0 ≤ r.toInt ∧ ∃ u : Nat, u < q'.2.1 ∧ (q'.2.2 u).toInt = b.toInt) ∨ (r.toInt < 0 ∧ ∀ u : Nat, u < q'.2.1 → (q'.2.2 u).toInt ≠ b.toInt)) → bp_G E PO NN (mm_back (some (.int r)) gs h)) → ∀ (lv : mm_V) (o : Option Value) (j : Int32), mm_get lv 0 = some (.ref q'.1) → mm_get lv 3 = some (.int t) → mm_get lv 4 = some (.int b) → mm_get lv 5 = some (.int j) → 0 ≤ j.toInt → (∀ u : Nat, (u : Int) < j.toInt → (q'.2.2 u).toInt ≠ b.toInt) → bp_G E PO NN ((284, 7, lv, [], 0, 0) :: gs, h, o) := by
  intro NN
  induction NN with
  | zero => intro kk lv o j g0 g3 g4 g5 j0 hu0; exact bp_zero bu_284_7
  | succ NN ih =>
    intro kk lv o j g0 g3 g4 g5 j0 hu0
    refine bp_ld (pc' := 9) bu_284_7 rfl rfl (fun _ _ _ => rfl) g5 rfl ?_
    refine bp_ld (pc' := 10) bu_284_9 rfl rfl (fun _ _ _ => rfl) g3 rfl ?_
    refine bp_ic (pc' := 13) (pt := 31) bu_284_10 rfl rfl (fun k4409 => ?_) (fun k4409 => ?_)
    · replace k4409 : (t).toInt ≤ (j).toInt := k4409
      refine bp_c (pc' := 32) (n := -1) bu_284_31 rfl rfl (fun _ _ _ => rfl) (by decide) (fun c4410 e4411 => ?_)
      refine bp_ri bu_284_32 ?_
      exact kk _ (Or.inr ⟨by omega, fun u hu => hu0 u (by omega)⟩)
    · replace k4409 : ¬ ((t).toInt ≤ (j).toInt) := k4409
      refine bp_ld (pc' := 14) bu_284_13 rfl rfl (fun _ _ _ => rfl) g0 rfl ?_
      refine bp_ld (pc' := 16) bu_284_14 rfl rfl (fun _ _ _ => rfl) g5 rfl ?_
      refine bs_ia (pc' := 17) bu_284_16 rfl hE (fun b4412 b4413 => ?_)
      refine bp_ld (pc' := 19) bu_284_17 rfl rfl (fun _ _ _ => rfl) g4 rfl ?_
      refine bp_ic (pc' := 22) (pt := 25) bu_284_19 rfl rfl (fun k4414 => ?_) (fun k4414 => ?_)
      · replace k4414 : ((q'.2.2 (j).toInt.toNat)).toInt ≠ (b).toInt := k4414
        refine bp_inc (pc' := 28) bu_284_25 rfl (by decide) g5 (by decide) (by omega) (by omega) (fun lv4415 y4418 F4416 g4417 e4419 => ?_)
        have g4420 := F4416 0 (.ref q'.1) g0 (by decide) (Or.inl rfl)
        have g4421 := F4416 3 (.int t) g3 (by decide) (Or.inl rfl)
        have g4422 := F4416 4 (.int b) g4 (by decide) (Or.inl rfl)
        refine bp_goD (pc' := 7) bu_284_28 rfl ?_
        exact ih (fun r a => bp_mono (Nat.le_succ NN) (kk r a)) _ _ _ g4420 g4421 g4422 g4417 (by omega) (fun u hu => by
          by_cases e : u = j.toInt.toNat
          · rw [e]
            omega
          · exact hu0 u (by omega))
      · replace k4414 : ¬ (((q'.2.2 (j).toInt.toNat)).toInt ≠ (b).toInt) := k4414
        refine bp_ld (pc' := 24) bu_284_22 rfl rfl (fun _ _ _ => rfl) g5 rfl ?_
        refine bp_ri bu_284_24 ?_
        exact kk _ (Or.inl ⟨j0, j.toInt.toNat, by omega, by omega⟩)
theorem bq_284 {c f t : Int32} {i : Nat} {q q' : mm_S} (hE : bs_E E i q q') (hsn : q'.2.1 ≤ 3072) (hf : f.toInt = 0) (ht : t.toInt = (q'.2.1 : Int)) (kk : ∀ r : Int32, ((0 ≤ r.toInt ∧ ∃ u : Nat, u < q'.2.1 ∧ (q'.2.2 u).toInt = (c.toInt8.toInt32).toInt) ∨ (r.toInt < 0 ∧ ∀ u : Nat, u < q'.2.1 → (q'.2.2 u).toInt ≠ (c.toInt8.toInt32).toInt)) → bp_G E PO NN (mm_back (some (.int r)) gs h)) : bp_G E PO NN ((284, 0, [(0, .ref q'.1), (1, .int c), (2, .int f), (3, .int t)], [], 0, 0) :: gs, h, none) := by
  refine bp_ld (pc' := 1) bu_284_0 rfl rfl (fun _ _ _ => rfl) rfl rfl ?_
  refine bp_i2b (pc' := 2) bu_284_1 rfl ?_
  refine bp_st (pc' := 4) bu_284_2 rfl rfl (fun _ _ _ => rfl) rfl (by decide) (by decide) (fun lv4423 F4424 g4425 => ?_)
  have g4426 := F4424 0 (.ref q'.1) rfl (by decide) (Or.inl rfl)
  have g4427 := F4424 1 (.int c) rfl (by decide) (Or.inl rfl)
  have g4428 := F4424 2 (.int f) rfl (by decide) (Or.inl rfl)
  have g4429 := F4424 3 (.int t) rfl (by decide) (Or.inl rfl)
  refine bp_ld (pc' := 5) bu_284_4 rfl rfl (fun _ _ _ => rfl) g4428 rfl ?_
  refine bp_st (pc' := 7) bu_284_5 rfl rfl (fun _ _ _ => rfl) rfl (by decide) (by decide) (fun lv4430 F4431 g4432 => ?_)
  have g4433 := F4431 0 (.ref q'.1) g4426 (by decide) (Or.inl rfl)
  have g4434 := F4431 1 (.int c) g4427 (by decide) (Or.inl rfl)
  have g4435 := F4431 2 (.int f) g4428 (by decide) (Or.inl rfl)
  have g4436 := F4431 3 (.int t) g4429 (by decide) (Or.inl rfl)
  have g4437 := F4431 4 (.int (c).toInt8.toInt32) g4425 (by decide) (Or.inl rfl)
  exact bq_284l hE hsn ht NN kk _ _ _ g4433 g4436 g4437 g4432 (by omega) (fun u hu => by omega)
theorem bq_282 {c : Int32} (kk : ∀ r : Int32, ((r.toInt = 1 ∧ 0 ≤ c.toInt ∧ c.toInt ≤ 255) ∨ (r.toInt = 0 ∧ ¬ (0 ≤ c.toInt ∧ c.toInt ≤ 255))) → bp_G E PO NN (mm_back (some (.int r)) gs h)) : bp_G E PO NN ((282, 0, [(0, .int c)], [], 0, 0) :: gs, h, none) := by
  refine bp_ld (pc' := 1) bu_282_0 rfl rfl (fun _ _ _ => rfl) rfl rfl ?_
  refine bp_i0 (pc' := 4) (pt := 15) bu_282_1 rfl rfl (fun k4438 => ?_) (fun k4438 => ?_)
  · replace k4438 : (c).toInt < 0 := k4438
    refine bp_c (pc' := 16) (n := 0) bu_282_15 rfl rfl (fun _ _ _ => rfl) (by decide) (fun c4439 e4440 => ?_)
    refine bp_rbF bu_282_16 (fun rb4441 => ?_)
    exact kk _ (by omega)
  · replace k4438 : ¬ ((c).toInt < 0) := k4438
    refine bp_ld (pc' := 5) bu_282_4 rfl rfl (fun _ _ _ => rfl) rfl rfl ?_
    refine bp_c (pc' := 8) (n := 255) bu_282_5 rfl rfl (fun _ _ _ => rfl) (by decide) (fun c4442 e4443 => ?_)
    refine bp_ic (pc' := 11) (pt := 15) bu_282_8 rfl rfl (fun k4444 => ?_) (fun k4444 => ?_)
    · replace k4444 : (c4442).toInt < (c).toInt := k4444
      refine bp_c (pc' := 16) (n := 0) bu_282_15 rfl rfl (fun _ _ _ => rfl) (by decide) (fun c4445 e4446 => ?_)
      refine bp_rbF bu_282_16 (fun rb4447 => ?_)
      exact kk _ (by omega)
    · replace k4444 : ¬ ((c4442).toInt < (c).toInt) := k4444
      refine bp_c (pc' := 12) (n := 1) bu_282_11 rfl rfl (fun _ _ _ => rfl) (by decide) (fun c4448 e4449 => ?_)
      refine bp_go (pc' := 16) bu_282_12 rfl ?_
      refine bp_rbF bu_282_16 (fun rb4450 => ?_)
      exact kk _ (by omega)
theorem bq_289 {x y : Int32} (kk : ∀ r : Int32, ((r.toInt = x.toInt ∧ y.toInt ≤ x.toInt) ∨ (r.toInt = y.toInt ∧ x.toInt ≤ y.toInt)) → bp_G E PO NN (mm_back (some (.int r)) gs h)) : bp_G E PO NN ((289, 0, [(0, .int x), (1, .int y)], [], 0, 0) :: gs, h, none) := by
  refine bp_ld (pc' := 1) bu_289_0 rfl rfl (fun _ _ _ => rfl) rfl rfl ?_
  refine bp_ld (pc' := 2) bu_289_1 rfl rfl (fun _ _ _ => rfl) rfl rfl ?_
  refine bp_ic (pc' := 5) (pt := 9) bu_289_2 rfl rfl (fun k4451 => ?_) (fun k4451 => ?_)
  · replace k4451 : (x).toInt < (y).toInt := k4451
    refine bp_ld (pc' := 10) bu_289_9 rfl rfl (fun _ _ _ => rfl) rfl rfl ?_
    refine bp_ri bu_289_10 ?_
    exact kk _ (by omega)
  · replace k4451 : ¬ ((x).toInt < (y).toInt) := k4451
    refine bp_ld (pc' := 6) bu_289_5 rfl rfl (fun _ _ _ => rfl) rfl rfl ?_
    refine bp_go (pc' := 10) bu_289_6 rfl ?_
    refine bp_ri bu_289_10 ?_
    exact kk _ (by omega)
theorem bq_290 {x y : Int32} (kk : ∀ r : Int32, ((r.toInt = x.toInt ∧ y.toInt ≥ x.toInt) ∨ (r.toInt = y.toInt ∧ x.toInt ≥ y.toInt)) → bp_G E PO NN (mm_back (some (.int r)) gs h)) : bp_G E PO NN ((290, 0, [(0, .int x), (1, .int y)], [], 0, 0) :: gs, h, none) := by
  refine bp_ld (pc' := 1) bu_290_0 rfl rfl (fun _ _ _ => rfl) rfl rfl ?_
  refine bp_ld (pc' := 2) bu_290_1 rfl rfl (fun _ _ _ => rfl) rfl rfl ?_
  refine bp_ic (pc' := 5) (pt := 9) bu_290_2 rfl rfl (fun k4452 => ?_) (fun k4452 => ?_)
  · replace k4452 : (y).toInt < (x).toInt := k4452
    refine bp_ld (pc' := 10) bu_290_9 rfl rfl (fun _ _ _ => rfl) rfl rfl ?_
    refine bp_ri bu_290_10 ?_
    exact kk _ (by omega)
  · replace k4452 : ¬ ((y).toInt < (x).toInt) := k4452
    refine bp_ld (pc' := 6) bu_290_5 rfl rfl (fun _ _ _ => rfl) rfl rfl ?_
    refine bp_go (pc' := 10) bu_290_6 rfl ?_
    refine bp_ri bu_290_10 ?_
    exact kk _ (by omega)
theorem bq_285 {c f t : Int32} {i : Nat} {q q' : mm_S} (hE : bs_E E i q q') (hsn : q'.2.1 ≤ 3072) (hc0 : 0 ≤ c.toInt) (hc1 : c.toInt ≤ 255) (hn0 : 0 < q'.2.1) (hf : f.toInt = 0) (ht : t.toInt = (q'.2.1 : Int)) (kk : ∀ r : Int32, ((0 ≤ r.toInt ∧ ∃ u : Nat, u < q'.2.1 ∧ (q'.2.2 u).toInt = (c.toInt8.toInt32).toInt) ∨ (r.toInt < 0 ∧ ∀ u : Nat, u < q'.2.1 → (q'.2.2 u).toInt ≠ (c.toInt8.toInt32).toInt)) → bp_G E PO NN (mm_back (some (.int r)) gs h)) : bp_G E PO NN ((285, 0, [(0, .ref q'.1), (1, .int c), (2, .int f), (3, .int t)], [], 0, 0) :: gs, h, none) := by
  refine bp_ld (pc' := 1) bu_285_0 rfl rfl (fun _ _ _ => rfl) rfl rfl ?_
  refine bp_csF (pc' := 4) (st := []) (args := [.int c]) bu_285_1 rfl rfl (by decide) rfl (Nat.le_of_ble_eq_true rfl) (Nat.le_of_ble_eq_true rfl) ?_
  refine bq_282 (fun r4453 p4454 => ?_)
  show bp_G E PO NN ((285, 4, _, [.int r4453], 0, 0) :: gs, h, none)
  refine bp_i0 (pc' := 7) (pt := 9) bu_285_4 rfl rfl (fun k4455 => ?_) (fun k4455 => ?_)
  · replace k4455 : (r4453).toInt ≠ 0 := k4455
    refine bp_ld (pc' := 10) bu_285_9 rfl rfl (fun _ _ _ => rfl) rfl rfl ?_
    refine bp_c (pc' := 11) (n := 0) bu_285_10 rfl rfl (fun _ _ _ => rfl) (by decide) (fun c4456 e4457 => ?_)
    refine bp_csF (pc' := 14) (st := []) (args := [.int c4456, .int f]) bu_285_11 rfl rfl (by decide) rfl (Nat.le_of_ble_eq_true rfl) (Nat.le_of_ble_eq_true rfl) ?_
    refine bq_289 (fun r4458 p4459 => ?_)
    show bp_G E PO NN ((285, 14, _, [.int r4458], 0, 0) :: gs, h, none)
    refine bp_st (pc' := 15) bu_285_14 rfl rfl (fun _ _ _ => rfl) rfl (by decide) (by decide) (fun lv4460 F4461 g4462 => ?_)
    have g4463 := F4461 0 (.ref q'.1) rfl (by decide) (Or.inl rfl)
    have g4464 := F4461 1 (.int c) rfl (by decide) (Or.inl rfl)
    have g4465 := F4461 3 (.int t) rfl (by decide) (Or.inl rfl)
    refine bp_ld (pc' := 16) bu_285_15 rfl rfl (fun _ _ _ => rfl) g4465 rfl ?_
    refine bp_ld (pc' := 17) bu_285_16 rfl rfl (fun _ _ _ => rfl) g4463 rfl ?_
    refine bs_al (pc' := 18) bu_285_17 rfl (by decide) hE hsn (fun v4466 e4467 => ?_)
    refine bp_csF (pc' := 21) (st := []) (args := [.int v4466, .int t]) bu_285_18 rfl rfl (by decide) rfl (Nat.le_of_ble_eq_true rfl) (Nat.le_of_ble_eq_true rfl) ?_
    refine bq_290 (fun r4468 p4469 => ?_)
    show bp_G E PO NN ((285, 21, lv4460, [.int r4468], 0, 0) :: gs, h, none)
    refine bp_st (pc' := 22) bu_285_21 rfl rfl (fun _ _ _ => rfl) rfl (by decide) (by decide) (fun lv4470 F4471 g4472 => ?_)
    have g4473 := F4471 0 (.ref q'.1) g4463 (by decide) (Or.inl rfl)
    have g4474 := F4471 1 (.int c) g4464 (by decide) (Or.inl rfl)
    have g4475 := F4471 2 (.int r4458) g4462 (by decide) (Or.inl rfl)
    refine bp_ld (pc' := 23) bu_285_22 rfl rfl (fun _ _ _ => rfl) g4475 rfl ?_
    refine bp_ld (pc' := 24) bu_285_23 rfl rfl (fun _ _ _ => rfl) g4472 rfl ?_
    refine bp_ic (pc' := 27) (pt := 29) bu_285_24 rfl rfl (fun k4476 => ?_) (fun k4476 => ?_)
    · replace k4476 : (r4458).toInt < (r4468).toInt := k4476
      refine bp_ld (pc' := 30) bu_285_29 rfl rfl (fun _ _ _ => rfl) g4473 rfl ?_
      refine bp_ld (pc' := 31) bu_285_30 rfl rfl (fun _ _ _ => rfl) g4474 rfl ?_
      refine bp_ld (pc' := 32) bu_285_31 rfl rfl (fun _ _ _ => rfl) g4475 rfl ?_
      refine bp_ld (pc' := 33) bu_285_32 rfl rfl (fun _ _ _ => rfl) g4472 rfl ?_
      refine bp_csF (pc' := 36) (st := []) (args := [.int r4468, .int r4458, .int c, .ref q'.1]) bu_285_33 rfl rfl (by decide) rfl (Nat.le_of_ble_eq_true rfl) (Nat.le_of_ble_eq_true rfl) ?_
      refine bq_284 hE hsn (by omega) (by omega) (fun r4477 p4478 => ?_)
      show bp_G E PO NN ((285, 36, lv4470, [.int r4477], 0, 0) :: gs, h, none)
      refine bp_ri bu_285_36 ?_
      exact kk _ p4478
    · replace k4476 : ¬ ((r4458).toInt < (r4468).toInt) := k4476
      refine bp_c (pc' := 28) (n := -1) bu_285_27 rfl rfl (fun _ _ _ => rfl) (by decide) (fun c4479 e4480 => ?_)
      refine bp_ri bu_285_28 ?_
      exfalso
      omega
  · replace k4455 : ¬ ((r4453).toInt ≠ 0) := k4455
    refine bp_c (pc' := 8) (n := -1) bu_285_7 rfl rfl (fun _ _ _ => rfl) (by decide) (fun c4481 e4482 => ?_)
    refine bp_ri bu_285_8 ?_
    exfalso
    omega
theorem bq_279 {c f : Int32} {i : Nat} {q q' : mm_S} (hE : bs_E E i q q') (hsn : q'.2.1 ≤ 3072) (hc0 : 0 ≤ c.toInt) (hc1 : c.toInt ≤ 255) (hn0 : 0 < q'.2.1) (hf : f.toInt = 0) (kk : ∀ r : Int32, ((0 ≤ r.toInt ∧ ∃ u : Nat, u < q'.2.1 ∧ (q'.2.2 u).toInt = (c.toInt8.toInt32).toInt) ∨ (r.toInt < 0 ∧ ∀ u : Nat, u < q'.2.1 → (q'.2.2 u).toInt ≠ (c.toInt8.toInt32).toInt)) → bp_G E PO NN (mm_back (some (.int r)) gs h)) : bp_G E PO NN ((279, 0, [(0, .ref q.1), (1, .int c), (2, .int f)], [], 0, 0) :: gs, h, none) := by
  refine bp_ld (pc' := 1) bu_279_0 rfl rfl (fun _ _ _ => rfl) rfl rfl ?_
  refine bs_cv (pc' := 4) (st := []) (args := []) bu_279_1 rfl rfl (by decide) hE rfl (Nat.le_of_ble_eq_true rfl) (Nat.le_of_ble_eq_true rfl) ?_
  refine bq_280 hE (fun r4483 e4484 => ?_)
  show bp_G E PO NN ((279, 4, _, [.int r4483], 0, 0) :: gs, h, none)
  refine bp_i0 (pc' := 7) (pt := 23) bu_279_4 rfl rfl (fun k4485 => ?_) (fun k4485 => ?_)
  · replace k4485 : (r4483).toInt = 0 := k4485
    exfalso
    omega
  · replace k4485 : ¬ ((r4483).toInt = 0) := k4485
    refine bp_ld (pc' := 8) bu_279_7 rfl rfl (fun _ _ _ => rfl) rfl rfl ?_
    refine bs_gf0 (pc' := 11) bu_279_8 rfl hE ?_
    refine bp_ld (pc' := 12) bu_279_11 rfl rfl (fun _ _ _ => rfl) rfl rfl ?_
    refine bp_ld (pc' := 13) bu_279_12 rfl rfl (fun _ _ _ => rfl) rfl rfl ?_
    refine bp_ld (pc' := 14) bu_279_13 rfl rfl (fun _ _ _ => rfl) rfl rfl ?_
    refine bs_cv (pc' := 17) (st := [.int f, .int c, .ref q'.1]) (args := []) bu_279_14 rfl rfl (by decide) hE rfl (Nat.le_of_ble_eq_true rfl) (Nat.le_of_ble_eq_true rfl) ?_
    refine bq_281 hE hsn (fun r4486 e4487 => ?_)
    show bp_G E PO NN ((279, 17, _, [.int r4486, .int f, .int c, .ref q'.1], 0, 0) :: gs, h, none)
    refine bp_csF (pc' := 20) (st := []) (args := [.int r4486, .int f, .int c, .ref q'.1]) bu_279_17 rfl rfl (by decide) rfl (Nat.le_of_ble_eq_true rfl) (Nat.le_of_ble_eq_true rfl) ?_
    refine bq_285 hE hsn hc0 hc1 hn0 (by omega) (by omega) (fun r4488 p4489 => ?_)
    show bp_G E PO NN ((279, 20, _, [.int r4488], 0, 0) :: gs, h, none)
    refine bp_go (pc' := 36) bu_279_20 rfl ?_
    refine bp_ri bu_279_36 ?_
    exact kk _ p4489
theorem bq_278 {c : Int32} {i : Nat} {q q' : mm_S} (hE : bs_E E i q q') (hsn : q'.2.1 ≤ 3072) (hc0 : 0 ≤ c.toInt) (hc1 : c.toInt ≤ 255) (hn0 : 0 < q'.2.1) (kk : ∀ r : Int32, ((0 ≤ r.toInt ∧ ∃ u : Nat, u < q'.2.1 ∧ (q'.2.2 u).toInt = (c.toInt8.toInt32).toInt) ∨ (r.toInt < 0 ∧ ∀ u : Nat, u < q'.2.1 → (q'.2.2 u).toInt ≠ (c.toInt8.toInt32).toInt)) → bp_G E PO NN (mm_back (some (.int r)) gs h)) : bp_G E PO NN ((278, 0, [(0, .ref q.1), (1, .int c)], [], 0, 0) :: gs, h, none) := by
  refine bp_ld (pc' := 1) bu_278_0 rfl rfl (fun _ _ _ => rfl) rfl rfl ?_
  refine bp_ld (pc' := 2) bu_278_1 rfl rfl (fun _ _ _ => rfl) rfl rfl ?_
  refine bp_c (pc' := 3) (n := 0) bu_278_2 rfl rfl (fun _ _ _ => rfl) (by decide) (fun c4490 e4491 => ?_)
  refine bs_cv (pc' := 6) (st := []) (args := [.int c4490, .int c]) bu_278_3 rfl rfl (by decide) hE rfl (Nat.le_of_ble_eq_true rfl) (Nat.le_of_ble_eq_true rfl) ?_
  refine bq_279 hE hsn hc0 hc1 hn0 (by omega) (fun r4492 p4493 => ?_)
  show bp_G E PO NN ((278, 6, _, [.int r4492], 0, 0) :: gs, h, none)
  refine bp_ri bu_278_6 ?_
  exact kk _ p4493
end BSQ
