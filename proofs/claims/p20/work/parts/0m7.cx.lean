/-! BY HAND: the class's Text (wip/p4/mkc4.py) -/
theorem bu_200_0 : mm_at mt_P 200 0 = some ((0, 1, .aload_n 0, 0, 0, 0, 0), 3, 1, 1, 6, 0, 0, 0) := rfl
theorem bu_200_1 : mm_at mt_P 200 1 = some ((1, 3, .getfield 32, 6, 4, 0, 186), 3, 1, 1, 6, 0, 0, 0) := rfl
theorem bu_200_4 : mm_at mt_P 200 4 = some ((4, 2, .bipush 6, 0, 0, 0, 0), 3, 1, 1, 6, 0, 0, 0) := rfl
theorem bu_200_6 : mm_at mt_P 200 6 = some ((6, 3, .if_icmp .ge 23, 0, 0, 0, 0), 3, 1, 1, 6, 0, 0, 0) := rfl
theorem bu_200_9 : mm_at mt_P 200 9 = some ((9, 1, .aload_n 0, 0, 0, 0, 0), 3, 1, 1, 6, 0, 0, 0) := rfl
theorem bu_200_10 : mm_at mt_P 200 10 = some ((10, 3, .getfield 25, 6, 3, 0, 185), 3, 1, 1, 6, 0, 0, 0) := rfl
theorem bu_200_13 : mm_at mt_P 200 13 = some ((13, 1, .aload_n 0, 0, 0, 0, 0), 3, 1, 1, 6, 0, 0, 0) := rfl
theorem bu_200_14 : mm_at mt_P 200 14 = some ((14, 3, .getfield 32, 6, 4, 0, 186), 3, 1, 1, 6, 0, 0, 0) := rfl
theorem bu_200_17 : mm_at mt_P 200 17 = some ((17, 1, .lload_n 1, 0, 0, 0, 0), 3, 1, 1, 6, 0, 0, 0) := rfl
theorem bu_200_18 : mm_at mt_P 200 18 = some ((18, 1, .lastore, 0, 0, 0, 0), 3, 1, 1, 6, 0, 0, 0) := rfl
theorem bu_200_19 : mm_at mt_P 200 19 = some ((19, 1, .aload_n 0, 0, 0, 0, 0), 3, 1, 1, 6, 0, 0, 0) := rfl
theorem bu_200_20 : mm_at mt_P 200 20 = some ((20, 1, .dup, 0, 0, 0, 0), 3, 1, 1, 6, 0, 0, 0) := rfl
theorem bu_200_21 : mm_at mt_P 200 21 = some ((21, 3, .getfield 32, 6, 4, 0, 186), 3, 1, 1, 6, 0, 0, 0) := rfl
theorem bu_200_24 : mm_at mt_P 200 24 = some ((24, 1, .iconst 1, 0, 0, 0, 0), 3, 1, 1, 6, 0, 0, 0) := rfl
theorem bu_200_25 : mm_at mt_P 200 25 = some ((25, 1, .iadd, 0, 0, 0, 0), 3, 1, 1, 6, 0, 0, 0) := rfl
theorem bu_200_26 : mm_at mt_P 200 26 = some ((26, 3, .putfield 32, 6, 4, 0, 186), 3, 1, 1, 6, 0, 0, 0) := rfl
theorem bu_200_29 : mm_at mt_P 200 29 = some ((29, 1, .return_, 0, 0, 0, 0), 3, 1, 1, 6, 0, 0, 0) := rfl
theorem bu_205_0 : mm_at mt_P 205 0 = some ((0, 1, .iconst 0, 0, 0, 0, 0), 4, 1, 1, 6, 2, 0, 0) := rfl
theorem bu_205_1 : mm_at mt_P 205 1 = some ((1, 1, .istore_n 3, 0, 0, 0, 0), 4, 1, 1, 6, 2, 0, 0) := rfl
theorem bu_205_2 : mm_at mt_P 205 2 = some ((2, 1, .iload_n 3, 0, 0, 0, 0), 4, 1, 1, 6, 2, 0, 0) := rfl
theorem bu_205_3 : mm_at mt_P 205 3 = some ((3, 1, .aload_n 0, 0, 0, 0, 0), 4, 1, 1, 6, 2, 0, 0) := rfl
theorem bu_205_4 : mm_at mt_P 205 4 = some ((4, 3, .getfield 32, 6, 4, 0, 186), 4, 1, 1, 6, 2, 0, 0) := rfl
theorem bu_205_7 : mm_at mt_P 205 7 = some ((7, 3, .if_icmp .ge 28, 0, 0, 0, 0), 4, 1, 1, 6, 2, 0, 0) := rfl
theorem bu_205_10 : mm_at mt_P 205 10 = some ((10, 1, .iload_n 3, 0, 0, 0, 0), 4, 1, 1, 6, 2, 0, 0) := rfl
theorem bu_205_11 : mm_at mt_P 205 11 = some ((11, 2, .bipush 6, 0, 0, 0, 0), 4, 1, 1, 6, 2, 0, 0) := rfl
theorem bu_205_13 : mm_at mt_P 205 13 = some ((13, 3, .if_icmp .ge 22, 0, 0, 0, 0), 4, 1, 1, 6, 2, 0, 0) := rfl
theorem bu_205_16 : mm_at mt_P 205 16 = some ((16, 1, .aload_n 0, 0, 0, 0, 0), 4, 1, 1, 6, 2, 0, 0) := rfl
theorem bu_205_17 : mm_at mt_P 205 17 = some ((17, 3, .getfield 25, 6, 3, 0, 185), 4, 1, 1, 6, 2, 0, 0) := rfl
theorem bu_205_20 : mm_at mt_P 205 20 = some ((20, 1, .iload_n 3, 0, 0, 0, 0), 4, 1, 1, 6, 2, 0, 0) := rfl
theorem bu_205_21 : mm_at mt_P 205 21 = some ((21, 1, .laload, 0, 0, 0, 0), 4, 1, 1, 6, 2, 0, 0) := rfl
theorem bu_205_22 : mm_at mt_P 205 22 = some ((22, 1, .lload_n 1, 0, 0, 0, 0), 4, 1, 1, 6, 2, 0, 0) := rfl
theorem bu_205_23 : mm_at mt_P 205 23 = some ((23, 1, .lcmp, 0, 0, 0, 0), 4, 1, 1, 6, 2, 0, 0) := rfl
theorem bu_205_24 : mm_at mt_P 205 24 = some ((24, 3, .ifCond .ne 5, 0, 0, 0, 0), 4, 1, 1, 6, 2, 0, 0) := rfl
theorem bu_205_27 : mm_at mt_P 205 27 = some ((27, 1, .iconst 1, 0, 0, 0, 0), 4, 1, 1, 6, 2, 0, 0) := rfl
theorem bu_205_28 : mm_at mt_P 205 28 = some ((28, 1, .ireturn, 0, 0, 0, 0), 4, 1, 1, 6, 2, 0, 0) := rfl
theorem bu_205_29 : mm_at mt_P 205 29 = some ((29, 3, .iinc 3 1, 0, 0, 0, 0), 4, 1, 1, 6, 2, 0, 0) := rfl
theorem bu_205_32 : mm_at mt_P 205 32 = some ((32, 3, .goto (-30), 0, 0, 0, 0), 4, 1, 1, 6, 2, 0, 0) := rfl
theorem bu_205_35 : mm_at mt_P 205 35 = some ((35, 1, .iconst 0, 0, 0, 0, 0), 4, 1, 1, 6, 2, 0, 0) := rfl
theorem bu_205_36 : mm_at mt_P 205 36 = some ((36, 1, .ireturn, 0, 0, 0, 0), 4, 1, 1, 6, 2, 0, 0) := rfl
theorem bu_207_0 : mm_at mt_P 207 0 = some ((0, 1, .aload_n 0, 0, 0, 0, 0), 4, 2, 1, 6, 0, 0, 0) := rfl
theorem bu_207_1 : mm_at mt_P 207 1 = some ((1, 3, .getfield 32, 6, 4, 0, 186), 4, 2, 1, 6, 0, 0, 0) := rfl
theorem bu_207_4 : mm_at mt_P 207 4 = some ((4, 1, .iconst 1, 0, 0, 0, 0), 4, 2, 1, 6, 0, 0, 0) := rfl
theorem bu_207_5 : mm_at mt_P 207 5 = some ((5, 1, .isub, 0, 0, 0, 0), 4, 2, 1, 6, 0, 0, 0) := rfl
theorem bu_207_6 : mm_at mt_P 207 6 = some ((6, 1, .istore_n 3, 0, 0, 0, 0), 4, 2, 1, 6, 0, 0, 0) := rfl
theorem bu_207_7 : mm_at mt_P 207 7 = some ((7, 1, .iload_n 3, 0, 0, 0, 0), 4, 2, 1, 6, 0, 0, 0) := rfl
theorem bu_207_8 : mm_at mt_P 207 8 = some ((8, 3, .ifCond .lt 12, 0, 0, 0, 0), 4, 2, 1, 6, 0, 0, 0) := rfl
theorem bu_207_11 : mm_at mt_P 207 11 = some ((11, 1, .iload_n 1, 0, 0, 0, 0), 4, 2, 1, 6, 0, 0, 0) := rfl
theorem bu_207_12 : mm_at mt_P 207 12 = some ((12, 3, .ifCond .lt 8, 0, 0, 0, 0), 4, 2, 1, 6, 0, 0, 0) := rfl
theorem bu_207_15 : mm_at mt_P 207 15 = some ((15, 1, .iload_n 1, 0, 0, 0, 0), 4, 2, 1, 6, 0, 0, 0) := rfl
theorem bu_207_16 : mm_at mt_P 207 16 = some ((16, 1, .iconst 4, 0, 0, 0, 0), 4, 2, 1, 6, 0, 0, 0) := rfl
theorem bu_207_17 : mm_at mt_P 207 17 = some ((17, 3, .if_icmp .le 4, 0, 0, 0, 0), 4, 2, 1, 6, 0, 0, 0) := rfl
theorem bu_207_20 : mm_at mt_P 207 20 = some ((20, 1, .return_, 0, 0, 0, 0), 4, 2, 1, 6, 0, 0, 0) := rfl
theorem bu_207_21 : mm_at mt_P 207 21 = some ((21, 1, .iload_n 1, 0, 0, 0, 0), 4, 2, 1, 6, 0, 0, 0) := rfl
theorem bu_207_22 : mm_at mt_P 207 22 = some ((22, 1, .iconst 4, 0, 0, 0, 0), 4, 2, 1, 6, 0, 0, 0) := rfl
theorem bu_207_23 : mm_at mt_P 207 23 = some ((23, 3, .if_icmp .ge 17, 0, 0, 0, 0), 4, 2, 1, 6, 0, 0, 0) := rfl
theorem bu_207_26 : mm_at mt_P 207 26 = some ((26, 1, .aload_n 0, 0, 0, 0, 0), 4, 2, 1, 6, 0, 0, 0) := rfl
theorem bu_207_27 : mm_at mt_P 207 27 = some ((27, 3, .getfield 18, 6, 1, 0, 182), 4, 2, 1, 6, 0, 0, 0) := rfl
theorem bu_207_30 : mm_at mt_P 207 30 = some ((30, 1, .iload_n 3, 0, 0, 0, 0), 4, 2, 1, 6, 0, 0, 0) := rfl
theorem bu_207_31 : mm_at mt_P 207 31 = some ((31, 1, .iconst 4, 0, 0, 0, 0), 4, 2, 1, 6, 0, 0, 0) := rfl
theorem bu_207_32 : mm_at mt_P 207 32 = some ((32, 1, .imul, 0, 0, 0, 0), 4, 2, 1, 6, 0, 0, 0) := rfl
theorem bu_207_33 : mm_at mt_P 207 33 = some ((33, 1, .iload_n 1, 0, 0, 0, 0), 4, 2, 1, 6, 0, 0, 0) := rfl
theorem bu_207_34 : mm_at mt_P 207 34 = some ((34, 1, .iadd, 0, 0, 0, 0), 4, 2, 1, 6, 0, 0, 0) := rfl
theorem bu_207_35 : mm_at mt_P 207 35 = some ((35, 1, .iload_n 2, 0, 0, 0, 0), 4, 2, 1, 6, 0, 0, 0) := rfl
theorem bu_207_36 : mm_at mt_P 207 36 = some ((36, 1, .iastore, 0, 0, 0, 0), 4, 2, 1, 6, 0, 0, 0) := rfl
theorem bu_207_37 : mm_at mt_P 207 37 = some ((37, 3, .goto 10, 0, 0, 0, 0), 4, 2, 1, 6, 0, 0, 0) := rfl
theorem bu_207_40 : mm_at mt_P 207 40 = some ((40, 1, .aload_n 0, 0, 0, 0, 0), 4, 2, 1, 6, 0, 0, 0) := rfl
theorem bu_207_41 : mm_at mt_P 207 41 = some ((41, 3, .getfield 22, 6, 2, 0, 183), 4, 2, 1, 6, 0, 0, 0) := rfl
theorem bu_207_44 : mm_at mt_P 207 44 = some ((44, 1, .iload_n 3, 0, 0, 0, 0), 4, 2, 1, 6, 0, 0, 0) := rfl
theorem bu_207_45 : mm_at mt_P 207 45 = some ((45, 1, .iload_n 2, 0, 0, 0, 0), 4, 2, 1, 6, 0, 0, 0) := rfl
theorem bu_207_46 : mm_at mt_P 207 46 = some ((46, 1, .iastore, 0, 0, 0, 0), 4, 2, 1, 6, 0, 0, 0) := rfl
theorem bu_207_47 : mm_at mt_P 207 47 = some ((47, 1, .return_, 0, 0, 0, 0), 4, 2, 1, 6, 0, 0, 0) := rfl
section CR
variable {K V P : Nat → Int} {σ : py_S} {N : Nat} {E : mm_E} {PO : mm_C → Prop} {NN : Nat} {h0 h : mm_H} {s : Nat → Int32} {A : Nat → Nat → Int32} {L : Nat → Nat → Int64} {gs : List mm_F}
theorem cx_205l {v : Int64} (hP : bm_P bq_T E h0 h s A L) (b0 : 0 ≤ (s 1104).toInt) (b1 : (s 1104).toInt ≤ 6) (kk : ∀ r : Int32, ((r.toInt = 1 ∧ ∃ j, j < (s 1104).toInt.toNat ∧ L 19 j = v) ∨ (r.toInt = 0 ∧ ∀ j, j < (s 1104).toInt.toNat → L 19 j ≠ v)) → bp_G E PO NN (mm_back (some (.int r)) gs h)) : ∀ n : Nat, ∀ (lv : mm_V) (o : Option Value) (i : Int32), mm_get lv 0 = some (.ref (E.1 + 11)) → mm_get lv 1 = some (.long v) → mm_get lv 3 = some (.int i) → 0 ≤ i.toInt → i.toInt ≤ 6 → 6 - i.toInt < (n : Int) → (∀ j, j < i.toInt.toNat → L 19 j ≠ v) → bp_G E PO NN ((205, 2, lv, [], 0, 0) :: gs, h, o) := by
  intro n
  induction n with
  | zero =>
    intro lv o i g0 g1 g3 i0 i6 hn hq
    omega
  | succ n ih =>
    intro lv o i g0 g1 g3 i0 i6 hn hq
    refine bp_ld (pc' := 3) bu_205_2 rfl rfl (fun _ _ _ => rfl) g3 rfl ?_
    refine bp_ld (pc' := 4) bu_205_3 rfl rfl (fun _ _ _ => rfl) g0 rfl ?_
    refine bn_gi (pc' := 7) (K := 1104) bu_205_4 rfl rfl (fun _ _ _ => rfl) hP bq_o11 bq_i11_4 rfl rfl ?_
    refine bp_ic (pc' := 10) (pt := 35) bu_205_7 rfl rfl (fun k1012 => ?_) (fun k1012 => ?_)
    · replace k1012 : ((s 1104)).toInt ≤ (i).toInt := k1012
      refine bp_c (pc' := 36) (n := 0) bu_205_35 rfl rfl (fun _ _ _ => rfl) (by decide) (fun c1013 e1014 => ?_)
      refine bp_rb bu_205_36 (by omega) ?_
      exact kk _ (Or.inr ⟨by omega, fun j hj => hq j (by omega)⟩)
    · replace k1012 : ¬ (((s 1104)).toInt ≤ (i).toInt) := k1012
      refine bp_ld (pc' := 11) bu_205_10 rfl rfl (fun _ _ _ => rfl) g3 rfl ?_
      refine bp_c (pc' := 13) (n := 6) bu_205_11 rfl rfl (fun _ _ _ => rfl) (by decide) (fun c1015 e1016 => ?_)
      refine bp_ic (pc' := 16) (pt := 35) bu_205_13 rfl rfl (fun k1017 => ?_) (fun k1017 => ?_)
      · replace k1017 : (c1015).toInt ≤ (i).toInt := k1017
        refine bp_c (pc' := 36) (n := 0) bu_205_35 rfl rfl (fun _ _ _ => rfl) (by decide) (fun c1018 e1019 => ?_)
        refine bp_rb bu_205_36 (by omega) ?_
        exact kk _ (Or.inr ⟨by omega, fun j hj => hq j (by omega)⟩)
      · replace k1017 : ¬ ((c1015).toInt ≤ (i).toInt) := k1017
        refine bp_ld (pc' := 17) bu_205_16 rfl rfl (fun _ _ _ => rfl) g0 rfl ?_
        refine bn_gr (pc' := 20) (t := 19) bu_205_17 rfl rfl (fun _ _ _ => rfl) hP bq_o11 bq_r11_3 ?_
        refine bp_ld (pc' := 21) bu_205_20 rfl rfl (fun _ _ _ => rfl) g3 rfl ?_
        refine bn_la (pc' := 22) bu_205_21 rfl rfl (fun _ _ _ => rfl) hP bq_l19 (by omega) (by omega) ?_
        refine bp_ld (pc' := 23) bu_205_22 rfl rfl (fun _ _ _ => rfl) g1 rfl ?_
        refine bn_lcmp (pc' := 24) bu_205_23 rfl (fun v1020 e1021 => ?_)
        refine bp_i0 (pc' := 27) (pt := 29) bu_205_24 rfl rfl (fun k1022 => ?_) (fun k1022 => ?_)
        · replace k1022 : (v1020).toInt ≠ 0 := k1022
          refine bp_inc (pc' := 32) bu_205_29 rfl (by decide) g3 (by decide) (by omega) (by omega) (fun lv1023 y1026 F1024 g1025 e1027 => ?_)
          have g1028 := F1024 0 (.ref (E.1 + 11)) g0 (by decide) (Or.inl rfl)
          have g1029 := F1024 1 (.long v) g1 (by decide) (Or.inr (by decide))
          refine bp_go (pc' := 2) bu_205_32 rfl ?_
          exact ih _ _ _ g1028 g1029 g1025 (by omega) (by omega) (by omega) (fun j hj => by
            by_cases e : j = i.toInt.toNat
            · subst e
              intro hh
              have hh := congrArg Int64.toInt hh
              omega
            · exact hq j (by omega))
        · replace k1022 : ¬ ((v1020).toInt ≠ 0) := k1022
          refine bp_c (pc' := 28) (n := 1) bu_205_27 rfl rfl (fun _ _ _ => rfl) (by decide) (fun c1030 e1031 => ?_)
          refine bp_rb bu_205_28 (by omega) ?_
          exact kk _ (Or.inl ⟨by omega, i.toInt.toNat, by omega, Int64.toInt_inj.mp (by omega)⟩)
theorem cx_205 {v : Int64} (hP : bm_P bq_T E h0 h s A L) (b0 : 0 ≤ (s 1104).toInt) (b1 : (s 1104).toInt ≤ 6) (kk : ∀ r : Int32, ((r.toInt = 1 ∧ ∃ j, j < (s 1104).toInt.toNat ∧ L 19 j = v) ∨ (r.toInt = 0 ∧ ∀ j, j < (s 1104).toInt.toNat → L 19 j ≠ v)) → bp_G E PO NN (mm_back (some (.int r)) gs h)) : bp_G E PO NN ((205, 0, [(0, .ref (E.1 + 11)), (1, .long v)], [], 0, 0) :: gs, h, none) := by
  refine bp_c (pc' := 1) (n := 0) bu_205_0 rfl rfl (fun _ _ _ => rfl) (by decide) (fun c1032 e1033 => ?_)
  refine bp_st (pc' := 2) bu_205_1 rfl rfl (fun _ _ _ => rfl) rfl (by decide) (by decide) (fun lv1034 F1035 g1036 => ?_)
  have g1037 := F1035 0 (.ref (E.1 + 11)) rfl (by decide) (Or.inl rfl)
  have g1038 := F1035 1 (.long v) rfl (by decide) (Or.inr (by decide))
  exact cx_205l hP b0 b1 kk 7 _ _ _ g1037 g1038 g1036 (by omega) (by omega) (by omega) (fun j hj => by omega)
theorem cx_200 {v : Int64} (hP : bm_P bq_T E h0 h s A L) (b0 : 0 ≤ (s 1104).toInt) (b1 : (s 1104).toInt < 6) (kk : ∀ (h' : mm_H) (s' : Nat → Int32), bm_P bq_T E h0 h' s' A (bh_upL L 19 (s 1104).toInt.toNat v) → (s' 1104).toInt = (s 1104).toInt + 1 → (∀ j, j ≠ 1104 → s' j = s j) → bp_G E PO NN (mm_back none gs h')) : bp_G E PO NN ((200, 0, [(0, .ref (E.1 + 11)), (1, .long v)], [], 0, 0) :: gs, h, none) := by
  refine bp_ld (pc' := 1) bu_200_0 rfl rfl (fun _ _ _ => rfl) rfl rfl ?_
  refine bn_gi (pc' := 4) (K := 1104) bu_200_1 rfl rfl (fun _ _ _ => rfl) hP bq_o11 bq_i11_4 rfl rfl ?_
  refine bp_c (pc' := 6) (n := 6) bu_200_4 rfl rfl (fun _ _ _ => rfl) (by decide) (fun c1039 e1040 => ?_)
  refine bp_ic (pc' := 9) (pt := 29) bu_200_6 rfl rfl (fun k1041 => ?_) (fun k1041 => ?_)
  · replace k1041 : (c1039).toInt ≤ ((s 1104)).toInt := k1041
    refine bp_rv bu_200_29 ?_
    exfalso
    omega
  · replace k1041 : ¬ ((c1039).toInt ≤ ((s 1104)).toInt) := k1041
    refine bp_ld (pc' := 10) bu_200_9 rfl rfl (fun _ _ _ => rfl) rfl rfl ?_
    refine bn_gr (pc' := 13) (t := 19) bu_200_10 rfl rfl (fun _ _ _ => rfl) hP bq_o11 bq_r11_3 ?_
    refine bp_ld (pc' := 14) bu_200_13 rfl rfl (fun _ _ _ => rfl) rfl rfl ?_
    refine bn_gi (pc' := 17) (K := 1104) bu_200_14 rfl rfl (fun _ _ _ => rfl) hP bq_o11 bq_i11_4 rfl rfl ?_
    refine bp_ld (pc' := 18) bu_200_17 rfl rfl (fun _ _ _ => rfl) rfl rfl ?_
    refine bn_las (pc' := 19) bu_200_18 rfl rfl (fun _ _ _ => rfl) hP bq_l19 (by omega) (by omega) (fun h1042 hP1043 => ?_)
    refine bp_ld (pc' := 20) bu_200_19 rfl rfl (fun _ _ _ => rfl) rfl rfl ?_
    refine bp_dup (pc' := 21) bu_200_20 rfl rfl ?_
    refine bn_gi (pc' := 24) (K := 1104) bu_200_21 rfl rfl (fun _ _ _ => rfl) hP1043 bq_o11 bq_i11_4 rfl rfl ?_
    refine bp_c (pc' := 25) (n := 1) bu_200_24 rfl rfl (fun _ _ _ => rfl) (by decide) (fun c1044 e1045 => ?_)
    refine bp_add (pc' := 26) bu_200_25 rfl (by omega) (by omega) (fun v1046 e1047 => ?_)
    refine bn_pf (pc' := 29) (K := 1104) bu_200_26 rfl rfl (fun _ _ _ => rfl) hP1043 bq_o11 bq_i11_4 rfl rfl (fun h1048 s1049 hP1050 e1051 f1052 => ?_)
    refine bp_rv bu_200_29 ?_
    have z1104 := congrArg Int32.toInt e1051
    exact kk _ _ hP1050 (by omega) (fun j u => (f1052 j (by omega)))
theorem cx_207 {k v : Int32} (hP : bm_P bq_T E h0 h s A L) (b0 : 0 ≤ (s 1104).toInt) (b1 : (s 1104).toInt ≤ 6) (kk : ∀ (h' : mm_H) (A' : Nat → Nat → Int32), bm_P bq_T E h0 h' s A' L → (∀ c, c ≠ 17 → c ≠ 18 → A' c = A c) → (1 ≤ (s 1104).toInt → (0 ≤ k.toInt → k.toInt < 4 → A' 17 = upd (A 17) (4 * ((s 1104).toInt.toNat - 1) + k.toInt.toNat) v ∧ A' 18 = A 18) ∧ (k.toInt = 4 → A' 18 = upd (A 18) ((s 1104).toInt.toNat - 1) v ∧ A' 17 = A 17)) → bp_G E PO NN (mm_back none gs h')) : bp_G E PO NN ((207, 0, [(0, .ref (E.1 + 11)), (1, .int k), (2, .int v)], [], 0, 0) :: gs, h, none) := by
  refine bp_ld (pc' := 1) bu_207_0 rfl rfl (fun _ _ _ => rfl) rfl rfl ?_
  refine bn_gi (pc' := 4) (K := 1104) bu_207_1 rfl rfl (fun _ _ _ => rfl) hP bq_o11 bq_i11_4 rfl rfl ?_
  refine bp_c (pc' := 5) (n := 1) bu_207_4 rfl rfl (fun _ _ _ => rfl) (by decide) (fun c1053 e1054 => ?_)
  refine bp_sub (pc' := 6) bu_207_5 rfl (by omega) (by omega) (fun v1055 e1056 => ?_)
  refine bp_st (pc' := 7) bu_207_6 rfl rfl (fun _ _ _ => rfl) rfl (by decide) (by decide) (fun lv1057 F1058 g1059 => ?_)
  have g1060 := F1058 0 (.ref (E.1 + 11)) rfl (by decide) (Or.inl rfl)
  have g1061 := F1058 1 (.int k) rfl (by decide) (Or.inl rfl)
  have g1062 := F1058 2 (.int v) rfl (by decide) (Or.inl rfl)
  refine bp_ld (pc' := 8) bu_207_7 rfl rfl (fun _ _ _ => rfl) g1059 rfl ?_
  refine bp_i0 (pc' := 11) (pt := 20) bu_207_8 rfl rfl (fun k1063 => ?_) (fun k1063 => ?_)
  · replace k1063 : (v1055).toInt < 0 := k1063
    refine bp_rv bu_207_20 ?_
    exact kk _ _ hP (fun _ _ _ => rfl) (fun hm => ⟨fun k0 k1 => by exfalso; omega, fun k4 => by exfalso; omega⟩)
  · replace k1063 : ¬ ((v1055).toInt < 0) := k1063
    refine bp_ld (pc' := 12) bu_207_11 rfl rfl (fun _ _ _ => rfl) g1061 rfl ?_
    refine bp_i0 (pc' := 15) (pt := 20) bu_207_12 rfl rfl (fun k1064 => ?_) (fun k1064 => ?_)
    · replace k1064 : (k).toInt < 0 := k1064
      refine bp_rv bu_207_20 ?_
      exact kk _ _ hP (fun _ _ _ => rfl) (fun hm => ⟨fun k0 k1 => by exfalso; omega, fun k4 => by exfalso; omega⟩)
    · replace k1064 : ¬ ((k).toInt < 0) := k1064
      refine bp_ld (pc' := 16) bu_207_15 rfl rfl (fun _ _ _ => rfl) g1061 rfl ?_
      refine bp_c (pc' := 17) (n := 4) bu_207_16 rfl rfl (fun _ _ _ => rfl) (by decide) (fun c1065 e1066 => ?_)
      refine bp_ic (pc' := 20) (pt := 21) bu_207_17 rfl rfl (fun k1067 => ?_) (fun k1067 => ?_)
      · replace k1067 : (k).toInt ≤ (c1065).toInt := k1067
        refine bp_ld (pc' := 22) bu_207_21 rfl rfl (fun _ _ _ => rfl) g1061 rfl ?_
        refine bp_c (pc' := 23) (n := 4) bu_207_22 rfl rfl (fun _ _ _ => rfl) (by decide) (fun c1068 e1069 => ?_)
        refine bp_ic (pc' := 26) (pt := 40) bu_207_23 rfl rfl (fun k1070 => ?_) (fun k1070 => ?_)
        · replace k1070 : (c1068).toInt ≤ (k).toInt := k1070
          refine bp_ld (pc' := 41) bu_207_40 rfl rfl (fun _ _ _ => rfl) g1060 rfl ?_
          refine bn_gr (pc' := 44) (t := 18) bu_207_41 rfl rfl (fun _ _ _ => rfl) hP bq_o11 bq_r11_2 ?_
          refine bp_ld (pc' := 45) bu_207_44 rfl rfl (fun _ _ _ => rfl) g1059 rfl ?_
          refine bp_ld (pc' := 46) bu_207_45 rfl rfl (fun _ _ _ => rfl) g1062 rfl ?_
          refine bn_ias (pc' := 47) bu_207_46 rfl rfl (fun _ _ _ => rfl) hP bq_a18 (Or.inl rfl) (by omega) (by omega) (fun h1071 hP1072 => ?_)
          refine bp_rv bu_207_47 ?_
          exact kk _ _ hP1072 (fun c u1 u2 => bh_up_ne u2) (fun hm => ⟨fun k0 k1 => by exfalso; omega, fun k4 => ⟨by rw [bh_up_eq, show (v1055).toInt.toNat = (s 1104).toInt.toNat - 1 by omega]; rfl, bh_up_ne (by decide)⟩⟩)
        · replace k1070 : ¬ ((c1068).toInt ≤ (k).toInt) := k1070
          refine bp_ld (pc' := 27) bu_207_26 rfl rfl (fun _ _ _ => rfl) g1060 rfl ?_
          refine bn_gr (pc' := 30) (t := 17) bu_207_27 rfl rfl (fun _ _ _ => rfl) hP bq_o11 bq_r11_1 ?_
          refine bp_ld (pc' := 31) bu_207_30 rfl rfl (fun _ _ _ => rfl) g1059 rfl ?_
          refine bp_c (pc' := 32) (n := 4) bu_207_31 rfl rfl (fun _ _ _ => rfl) (by decide) (fun c1073 e1074 => ?_)
          refine bp_mul (pc' := 33) bu_207_32 rfl (by rw [e1074]; omega) (by rw [e1074]; omega) (fun v1075 e1076 => ?_)
          rw [e1074] at e1076
          refine bp_ld (pc' := 34) bu_207_33 rfl rfl (fun _ _ _ => rfl) g1061 rfl ?_
          refine bp_add (pc' := 35) bu_207_34 rfl (by omega) (by omega) (fun v1077 e1078 => ?_)
          refine bp_ld (pc' := 36) bu_207_35 rfl rfl (fun _ _ _ => rfl) g1062 rfl ?_
          refine bn_ias (pc' := 37) bu_207_36 rfl rfl (fun _ _ _ => rfl) hP bq_a17 (Or.inl rfl) (by omega) (by omega) (fun h1079 hP1080 => ?_)
          refine bp_go (pc' := 47) bu_207_37 rfl ?_
          refine bp_rv bu_207_47 ?_
          exact kk _ _ hP1080 (fun c u1 u2 => bh_up_ne u1) (fun hm => ⟨fun k0 k1 => ⟨by rw [bh_up_eq, show (v1077).toInt.toNat = 4 * ((s 1104).toInt.toNat - 1) + k.toInt.toNat by omega]; rfl, bh_up_ne (by decide)⟩, fun k4 => by exfalso; omega⟩)
      · replace k1067 : ¬ ((k).toInt ≤ (c1065).toInt) := k1067
        refine bp_rv bu_207_20 ?_
        exact kk _ _ hP (fun _ _ _ => rfl) (fun hm => ⟨fun k0 k1 => by exfalso; omega, fun k4 => by exfalso; omega⟩)
end CR
