/-! BY HAND: the class's Reader, 5: men, tells (wip/p4/mkc7.py) -/
theorem py_go_n {σ : py_S} : (py_go σ).2.2.2.2 = σ.2.2.2.2 := by
  unfold py_go
  split
  · split
    · rfl
    · rfl
  · rfl
theorem bu_170_0 : mm_at mt_P 170 0 = some ((0, 1, .aload_n 0, 0, 0, 0, 0), 2, 0, 1, 4, 0, 0, 0) := rfl
theorem bu_170_1 : mm_at mt_P 170 1 = some ((1, 3, .getfield 9, 4, 1, 0, 275), 2, 0, 1, 4, 0, 0, 0) := rfl
theorem bu_170_4 : mm_at mt_P 170 4 = some ((4, 3, .getfield 100, 6, 4, 0, 189), 2, 0, 1, 4, 0, 0, 0) := rfl
theorem bu_170_7 : mm_at mt_P 170 7 = some ((7, 2, .bipush 6, 0, 0, 0, 0), 2, 0, 1, 4, 0, 0, 0) := rfl
theorem bu_170_9 : mm_at mt_P 170 9 = some ((9, 3, .if_icmp .lt 9, 0, 0, 0, 0), 2, 0, 1, 4, 0, 0, 0) := rfl
theorem bu_170_12 : mm_at mt_P 170 12 = some ((12, 1, .aload_n 0, 0, 0, 0, 0), 2, 0, 1, 4, 0, 0, 0) := rfl
theorem bu_170_13 : mm_at mt_P 170 13 = some ((13, 1, .iconst 2, 0, 0, 0, 0), 2, 0, 1, 4, 0, 0, 0) := rfl
theorem bu_170_14 : mm_at mt_P 170 14 = some ((14, 3, .invokevirtual 71, 176, 0, 0, 645), 2, 0, 1, 4, 0, 0, 0) := rfl
theorem bu_170_17 : mm_at mt_P 170 17 = some ((17, 1, .return_, 0, 0, 0, 0), 2, 0, 1, 4, 0, 0, 0) := rfl
theorem bu_170_18 : mm_at mt_P 170 18 = some ((18, 1, .aload_n 0, 0, 0, 0, 0), 2, 0, 1, 4, 0, 0, 0) := rfl
theorem bu_170_19 : mm_at mt_P 170 19 = some ((19, 3, .invokevirtual 49, 161, 0, 0, 633), 2, 0, 1, 4, 0, 0, 0) := rfl
theorem bu_170_22 : mm_at mt_P 170 22 = some ((22, 1, .aload_n 0, 0, 0, 0, 0), 2, 0, 1, 4, 0, 0, 0) := rfl
theorem bu_170_23 : mm_at mt_P 170 23 = some ((23, 3, .getfield 52, 4, 3, 0, 277), 2, 0, 1, 4, 0, 0, 0) := rfl
theorem bu_170_26 : mm_at mt_P 170 26 = some ((26, 1, .iconst 2, 0, 0, 0, 0), 2, 0, 1, 4, 0, 0, 0) := rfl
theorem bu_170_27 : mm_at mt_P 170 27 = some ((27, 3, .if_icmp .eq 9, 0, 0, 0, 0), 2, 0, 1, 4, 0, 0, 0) := rfl
theorem bu_170_30 : mm_at mt_P 170 30 = some ((30, 1, .aload_n 0, 0, 0, 0, 0), 2, 0, 1, 4, 0, 0, 0) := rfl
theorem bu_170_31 : mm_at mt_P 170 31 = some ((31, 1, .iconst 1, 0, 0, 0, 0), 2, 0, 1, 4, 0, 0, 0) := rfl
theorem bu_170_32 : mm_at mt_P 170 32 = some ((32, 3, .invokevirtual 71, 176, 0, 0, 645), 2, 0, 1, 4, 0, 0, 0) := rfl
theorem bu_170_35 : mm_at mt_P 170 35 = some ((35, 1, .return_, 0, 0, 0, 0), 2, 0, 1, 4, 0, 0, 0) := rfl
theorem bu_170_36 : mm_at mt_P 170 36 = some ((36, 1, .aload_n 0, 0, 0, 0, 0), 2, 0, 1, 4, 0, 0, 0) := rfl
theorem bu_170_37 : mm_at mt_P 170 37 = some ((37, 3, .getfield 9, 4, 1, 0, 275), 2, 0, 1, 4, 0, 0, 0) := rfl
theorem bu_170_40 : mm_at mt_P 170 40 = some ((40, 1, .aload_n 0, 0, 0, 0, 0), 2, 0, 1, 4, 0, 0, 0) := rfl
theorem bu_170_41 : mm_at mt_P 170 41 = some ((41, 3, .getfield 58, 4, 4, 0, 278), 2, 0, 1, 4, 0, 0, 0) := rfl
theorem bu_170_44 : mm_at mt_P 170 44 = some ((44, 3, .invokevirtual 103, 205, 0, 0, 649), 2, 0, 1, 4, 0, 0, 0) := rfl
theorem bu_170_47 : mm_at mt_P 170 47 = some ((47, 3, .ifCond .eq 8, 0, 0, 0, 0), 2, 0, 1, 4, 0, 0, 0) := rfl
theorem bu_170_50 : mm_at mt_P 170 50 = some ((50, 1, .aload_n 0, 0, 0, 0, 0), 2, 0, 1, 4, 0, 0, 0) := rfl
theorem bu_170_51 : mm_at mt_P 170 51 = some ((51, 1, .iconst 3, 0, 0, 0, 0), 2, 0, 1, 4, 0, 0, 0) := rfl
theorem bu_170_52 : mm_at mt_P 170 52 = some ((52, 3, .invokevirtual 107, 165, 0, 0, 653), 2, 0, 1, 4, 0, 0, 0) := rfl
theorem bu_170_55 : mm_at mt_P 170 55 = some ((55, 1, .aload_n 0, 0, 0, 0, 0), 2, 0, 1, 4, 0, 0, 0) := rfl
theorem bu_170_56 : mm_at mt_P 170 56 = some ((56, 3, .getfield 9, 4, 1, 0, 275), 2, 0, 1, 4, 0, 0, 0) := rfl
theorem bu_170_59 : mm_at mt_P 170 59 = some ((59, 1, .aload_n 0, 0, 0, 0, 0), 2, 0, 1, 4, 0, 0, 0) := rfl
theorem bu_170_60 : mm_at mt_P 170 60 = some ((60, 3, .getfield 58, 4, 4, 0, 278), 2, 0, 1, 4, 0, 0, 0) := rfl
theorem bu_170_63 : mm_at mt_P 170 63 = some ((63, 3, .invokevirtual 110, 200, 0, 0, 657), 2, 0, 1, 4, 0, 0, 0) := rfl
theorem bu_170_66 : mm_at mt_P 170 66 = some ((66, 1, .aload_n 0, 0, 0, 0, 0), 2, 0, 1, 4, 0, 0, 0) := rfl
theorem bu_170_67 : mm_at mt_P 170 67 = some ((67, 3, .invokevirtual 49, 161, 0, 0, 633), 2, 0, 1, 4, 0, 0, 0) := rfl
theorem bu_170_70 : mm_at mt_P 170 70 = some ((70, 1, .iconst 0, 0, 0, 0, 0), 2, 0, 1, 4, 0, 0, 0) := rfl
theorem bu_170_71 : mm_at mt_P 170 71 = some ((71, 1, .istore_n 1, 0, 0, 0, 0), 2, 0, 1, 4, 0, 0, 0) := rfl
theorem bu_170_72 : mm_at mt_P 170 72 = some ((72, 1, .iload_n 1, 0, 0, 0, 0), 2, 0, 1, 4, 0, 0, 0) := rfl
theorem bu_170_73 : mm_at mt_P 170 73 = some ((73, 1, .iconst 4, 0, 0, 0, 0), 2, 0, 1, 4, 0, 0, 0) := rfl
theorem bu_170_74 : mm_at mt_P 170 74 = some ((74, 3, .if_icmp .gt 24, 0, 0, 0, 0), 2, 0, 1, 4, 0, 0, 0) := rfl
theorem bu_170_77 : mm_at mt_P 170 77 = some ((77, 1, .aload_n 0, 0, 0, 0, 0), 2, 0, 1, 4, 0, 0, 0) := rfl
theorem bu_170_78 : mm_at mt_P 170 78 = some ((78, 3, .getfield 9, 4, 1, 0, 275), 2, 0, 1, 4, 0, 0, 0) := rfl
theorem bu_170_81 : mm_at mt_P 170 81 = some ((81, 1, .iload_n 1, 0, 0, 0, 0), 2, 0, 1, 4, 0, 0, 0) := rfl
theorem bu_170_82 : mm_at mt_P 170 82 = some ((82, 1, .aload_n 0, 0, 0, 0, 0), 2, 0, 1, 4, 0, 0, 0) := rfl
theorem bu_170_83 : mm_at mt_P 170 83 = some ((83, 1, .iconst 0, 0, 0, 0, 0), 2, 0, 1, 4, 0, 0, 0) := rfl
theorem bu_170_84 : mm_at mt_P 170 84 = some ((84, 2, .bipush 9, 0, 0, 0, 0), 2, 0, 1, 4, 0, 0, 0) := rfl
theorem bu_170_86 : mm_at mt_P 170 86 = some ((86, 3, .invokevirtual 74, 166, 0, 0, 661), 2, 0, 1, 4, 0, 0, 0) := rfl
theorem bu_170_89 : mm_at mt_P 170 89 = some ((89, 3, .invokevirtual 114, 207, 0, 0, 665), 2, 0, 1, 4, 0, 0, 0) := rfl
theorem bu_170_92 : mm_at mt_P 170 92 = some ((92, 3, .iinc 1 1, 0, 0, 0, 0), 2, 0, 1, 4, 0, 0, 0) := rfl
theorem bu_170_95 : mm_at mt_P 170 95 = some ((95, 3, .goto (-23), 0, 0, 0, 0), 2, 0, 1, 4, 0, 0, 0) := rfl
theorem bu_170_98 : mm_at mt_P 170 98 = some ((98, 1, .aload_n 0, 0, 0, 0, 0), 2, 0, 1, 4, 0, 0, 0) := rfl
theorem bu_170_99 : mm_at mt_P 170 99 = some ((99, 2, .bipush 59, 0, 0, 0, 0), 2, 0, 1, 4, 0, 0, 0) := rfl
theorem bu_170_101 : mm_at mt_P 170 101 = some ((101, 3, .invokevirtual 96, 177, 0, 0, 669), 2, 0, 1, 4, 0, 0, 0) := rfl
theorem bu_170_104 : mm_at mt_P 170 104 = some ((104, 1, .return_, 0, 0, 0, 0), 2, 0, 1, 4, 0, 0, 0) := rfl
theorem bu_174_0 : mm_at mt_P 174 0 = some ((0, 1, .aload_n 0, 0, 0, 0, 0), 2, 0, 1, 4, 0, 0, 0) := rfl
theorem bu_174_1 : mm_at mt_P 174 1 = some ((1, 3, .getfield 52, 4, 3, 0, 277), 2, 0, 1, 4, 0, 0, 0) := rfl
theorem bu_174_4 : mm_at mt_P 174 4 = some ((4, 1, .iconst 5, 0, 0, 0, 0), 2, 0, 1, 4, 0, 0, 0) := rfl
theorem bu_174_5 : mm_at mt_P 174 5 = some ((5, 3, .if_icmp .ne 11, 0, 0, 0, 0), 2, 0, 1, 4, 0, 0, 0) := rfl
theorem bu_174_8 : mm_at mt_P 174 8 = some ((8, 1, .aload_n 0, 0, 0, 0, 0), 2, 0, 1, 4, 0, 0, 0) := rfl
theorem bu_174_9 : mm_at mt_P 174 9 = some ((9, 3, .getfield 58, 4, 4, 0, 278), 2, 0, 1, 4, 0, 0, 0) := rfl
theorem bu_174_12 : mm_at mt_P 174 12 = some ((12, 1, .l2i, 0, 0, 0, 0), 2, 0, 1, 4, 0, 0, 0) := rfl
theorem bu_174_13 : mm_at mt_P 174 13 = some ((13, 3, .goto 4, 0, 0, 0, 0), 2, 0, 1, 4, 0, 0, 0) := rfl
theorem bu_174_16 : mm_at mt_P 174 16 = some ((16, 1, .iconst (-1), 0, 0, 0, 0), 2, 0, 1, 4, 0, 0, 0) := rfl
theorem bu_174_17 : mm_at mt_P 174 17 = some ((17, 1, .istore_n 1, 0, 0, 0, 0), 2, 0, 1, 4, 0, 0, 0) := rfl
theorem bu_174_18 : mm_at mt_P 174 18 = some ((18, 1, .iload_n 1, 0, 0, 0, 0), 2, 0, 1, 4, 0, 0, 0) := rfl
theorem bu_174_19 : mm_at mt_P 174 19 = some ((19, 3, .ifCond .ne 10, 0, 0, 0, 0), 2, 0, 1, 4, 0, 0, 0) := rfl
theorem bu_174_22 : mm_at mt_P 174 22 = some ((22, 1, .aload_n 0, 0, 0, 0, 0), 2, 0, 1, 4, 0, 0, 0) := rfl
theorem bu_174_23 : mm_at mt_P 174 23 = some ((23, 3, .invokevirtual 62, 170, 0, 0, 641), 2, 0, 1, 4, 0, 0, 0) := rfl
theorem bu_174_26 : mm_at mt_P 174 26 = some ((26, 3, .goto 49, 0, 0, 0, 0), 2, 0, 1, 4, 0, 0, 0) := rfl
theorem bu_174_29 : mm_at mt_P 174 29 = some ((29, 1, .iload_n 1, 0, 0, 0, 0), 2, 0, 1, 4, 0, 0, 0) := rfl
theorem bu_174_30 : mm_at mt_P 174 30 = some ((30, 1, .iconst 1, 0, 0, 0, 0), 2, 0, 1, 4, 0, 0, 0) := rfl
theorem bu_174_31 : mm_at mt_P 174 31 = some ((31, 3, .if_icmp .lt 19, 0, 0, 0, 0), 2, 0, 1, 4, 0, 0, 0) := rfl
theorem bu_174_34 : mm_at mt_P 174 34 = some ((34, 1, .iload_n 1, 0, 0, 0, 0), 2, 0, 1, 4, 0, 0, 0) := rfl
theorem bu_174_35 : mm_at mt_P 174 35 = some ((35, 2, .bipush 7, 0, 0, 0, 0), 2, 0, 1, 4, 0, 0, 0) := rfl
theorem bu_174_37 : mm_at mt_P 174 37 = some ((37, 3, .if_icmp .gt 13, 0, 0, 0, 0), 2, 0, 1, 4, 0, 0, 0) := rfl
theorem bu_174_40 : mm_at mt_P 174 40 = some ((40, 1, .aload_n 0, 0, 0, 0, 0), 2, 0, 1, 4, 0, 0, 0) := rfl
theorem bu_174_41 : mm_at mt_P 174 41 = some ((41, 1, .iload_n 1, 0, 0, 0, 0), 2, 0, 1, 4, 0, 0, 0) := rfl
theorem bu_174_42 : mm_at mt_P 174 42 = some ((42, 1, .iconst 1, 0, 0, 0, 0), 2, 0, 1, 4, 0, 0, 0) := rfl
theorem bu_174_43 : mm_at mt_P 174 43 = some ((43, 1, .isub, 0, 0, 0, 0), 2, 0, 1, 4, 0, 0, 0) := rfl
theorem bu_174_44 : mm_at mt_P 174 44 = some ((44, 3, .invokevirtual 65, 169, 0, 0, 677), 2, 0, 1, 4, 0, 0, 0) := rfl
theorem bu_174_47 : mm_at mt_P 174 47 = some ((47, 3, .goto 28, 0, 0, 0, 0), 2, 0, 1, 4, 0, 0, 0) := rfl
theorem bu_174_50 : mm_at mt_P 174 50 = some ((50, 1, .iload_n 1, 0, 0, 0, 0), 2, 0, 1, 4, 0, 0, 0) := rfl
theorem bu_174_51 : mm_at mt_P 174 51 = some ((51, 2, .bipush 8, 0, 0, 0, 0), 2, 0, 1, 4, 0, 0, 0) := rfl
theorem bu_174_53 : mm_at mt_P 174 53 = some ((53, 3, .if_icmp .lt 17, 0, 0, 0, 0), 2, 0, 1, 4, 0, 0, 0) := rfl
theorem bu_174_56 : mm_at mt_P 174 56 = some ((56, 1, .iload_n 1, 0, 0, 0, 0), 2, 0, 1, 4, 0, 0, 0) := rfl
theorem bu_174_57 : mm_at mt_P 174 57 = some ((57, 2, .bipush 11, 0, 0, 0, 0), 2, 0, 1, 4, 0, 0, 0) := rfl
theorem bu_174_59 : mm_at mt_P 174 59 = some ((59, 3, .if_icmp .gt 11, 0, 0, 0, 0), 2, 0, 1, 4, 0, 0, 0) := rfl
theorem bu_174_62 : mm_at mt_P 174 62 = some ((62, 1, .aload_n 0, 0, 0, 0, 0), 2, 0, 1, 4, 0, 0, 0) := rfl
theorem bu_174_63 : mm_at mt_P 174 63 = some ((63, 1, .iload_n 1, 0, 0, 0, 0), 2, 0, 1, 4, 0, 0, 0) := rfl
theorem bu_174_64 : mm_at mt_P 174 64 = some ((64, 3, .invokevirtual 68, 171, 0, 0, 722), 2, 0, 1, 4, 0, 0, 0) := rfl
theorem bu_174_67 : mm_at mt_P 174 67 = some ((67, 3, .goto 8, 0, 0, 0, 0), 2, 0, 1, 4, 0, 0, 0) := rfl
theorem bu_174_70 : mm_at mt_P 174 70 = some ((70, 1, .aload_n 0, 0, 0, 0, 0), 2, 0, 1, 4, 0, 0, 0) := rfl
theorem bu_174_71 : mm_at mt_P 174 71 = some ((71, 1, .iconst 1, 0, 0, 0, 0), 2, 0, 1, 4, 0, 0, 0) := rfl
theorem bu_174_72 : mm_at mt_P 174 72 = some ((72, 3, .invokevirtual 71, 176, 0, 0, 645), 2, 0, 1, 4, 0, 0, 0) := rfl
theorem bu_174_75 : mm_at mt_P 174 75 = some ((75, 1, .return_, 0, 0, 0, 0), 2, 0, 1, 4, 0, 0, 0) := rfl
section CR
variable {K V P : Nat → Int} {Q : Nat → Nat → Bool} {σ : py_S} {N : Nat} {E : mm_E} {PO : mm_C → Prop} {NN : Nat} {h0 h : mm_H} {s : Nat → Int32} {A : Nat → Nat → Int32} {L : Nat → Nat → Int64} {gs : List mm_F}
theorem cr_170 (hQ : ∀ i j, i < N → j < N → K i = 1 → K j = 1 → (Q i j = true ↔ L 24 i = L 24 j)) (hP : bm_P bq_T E h0 h s A L) (hd : gs.length + 40 ≤ 999) (hR : rc_R K V P N σ s L) (hT : rc_T K V P N s A L) (hc : 0 ≤ (s 1204).toInt ∧ (s 1204).toInt ≤ 432 ∧ 0 ≤ (s 1104).toInt ∧ (s 1104).toInt ≤ 6) (hf : σ.2.1 = 0) (hk : K σ.1 = 20) (kk : ∀ (h' : mm_H) (s' : Nat → Int32) (A' : Nat → Nat → Int32) (L' : Nat → Nat → Int64), bm_P bq_T E h0 h' s' A' L' → rc_F s A L s' A' L' → rc_R K V P N (py_man K V Q σ) s' L' → bp_G E PO NN (mm_back none gs h')) : bp_G E PO NN ((170, 0, [(0, .ref (E.1 + 20))], [], 0, 0) :: gs, h, none) := by
  have r2 := hR.2.1 hf
  have rl := r2.2.2.2.2.2.2
  refine bp_ld (pc' := 1) bu_170_0 rfl rfl (fun _ _ _ => rfl) rfl rfl ?_
  refine bn_gr (pc' := 4) (t := 11) bu_170_1 rfl rfl (fun _ _ _ => rfl) hP bq_o20 bq_r20_1 ?_
  refine bn_gi (pc' := 7) (K := 1104) bu_170_4 rfl rfl (fun _ _ _ => rfl) hP bq_o11 bq_i11_4 rfl rfl ?_
  refine bp_c (pc' := 9) (n := 6) bu_170_7 rfl rfl (fun _ _ _ => rfl) (by decide) (fun c1693 e1694 => ?_)
  refine bp_ic (pc' := 12) (pt := 18) bu_170_9 rfl rfl (fun k1695 => ?_) (fun k1695 => ?_)
  · replace k1695 : ((s 1104)).toInt < (c1693).toInt := k1695
    refine bp_ld (pc' := 19) bu_170_18 rfl rfl (fun _ _ _ => rfl) rfl rfl ?_
    refine bn_cv (pc' := 22) (st := []) (args := []) bu_170_19 rfl rfl rfl (by decide) hP bq_o20 (by decide) (by omega) rfl (Nat.le_of_ble_eq_true rfl) (Nat.le_of_ble_eq_true rfl) ?_
    refine cr_161 (σ := σ) hP hR hT hf (by omega) (by omega) (fun h1696 s1697 A1698 L1699 hP1700 F1701 R1702 => ?_)
    show bp_G E PO NN ((170, 22, _, [], 0, 0) :: gs, h1696, none)
    have p1 := R1702.1
    have p2 := fun e => (R1702.2.1 e).2.2.1
    have p3 := fun e => (R1702.2.2 e).1
    unfold rc_k at p2
    refine bp_ld (pc' := 23) bu_170_22 rfl rfl (fun _ _ _ => rfl) rfl rfl ?_
    refine bn_gi (pc' := 26) (K := 2003) bu_170_23 rfl rfl (fun _ _ _ => rfl) hP1700 bq_o20 bq_i20_3 rfl rfl ?_
    refine bp_c (pc' := 27) (n := 2) bu_170_26 rfl rfl (fun _ _ _ => rfl) (by decide) (fun c1703 e1704 => ?_)
    refine bp_ic (pc' := 30) (pt := 36) bu_170_27 rfl rfl (fun k1705 => ?_) (fun k1705 => ?_)
    · replace k1705 : ((s1697 2003)).toInt = (c1703).toInt := k1705
      have hf1 : (py_go σ).2.1 = 0 := by
        by_cases e : (py_go σ).2.1 = 0
        · exact e
        · have := p3 e
          omega
      have p2 := p2 hf1
      have hk1 : K (py_go σ).1 = 1 := by omega
      have hb := (F1701.2.2.2 hc)
      have p4 := R1702.2.1 hf1
      have hq1 := rc_kn (Q := Q) R1702 hf1 hk1 (by rw [F1701.2.2.1]; exact hQ)
      refine bp_ld (pc' := 37) bu_170_36 rfl rfl (fun _ _ _ => rfl) rfl rfl ?_
      refine bn_gr (pc' := 40) (t := 11) bu_170_37 rfl rfl (fun _ _ _ => rfl) hP1700 bq_o20 bq_r20_1 ?_
      refine bp_ld (pc' := 41) bu_170_40 rfl rfl (fun _ _ _ => rfl) rfl rfl ?_
      refine bn_gl (pc' := 44) bu_170_41 rfl rfl (fun _ _ _ => rfl) hP1700 bq_o20 bq_f20_4 ?_
      refine bn_cv (pc' := 47) (st := []) (args := [.long (L1699 20 4)]) bu_170_44 rfl rfl rfl (by decide) hP1700 bq_o11 (by decide) (by omega) rfl (Nat.le_of_ble_eq_true rfl) (Nat.le_of_ble_eq_true rfl) ?_
      refine cx_205 hP1700 (by omega) (by omega) (fun r1706 p1707 => ?_)
      show bp_G E PO NN ((170, 47, _, [.int r1706], 0, 0) :: gs, h1696, none)
      refine bp_i0 (pc' := 50) (pt := 55) bu_170_47 rfl rfl (fun k1708 => ?_) (fun k1708 => ?_)
      · replace k1708 : (r1706).toInt = 0 := k1708
        refine bp_ld (pc' := 56) bu_170_55 rfl rfl (fun _ _ _ => rfl) rfl rfl ?_
        refine bn_gr (pc' := 59) (t := 11) bu_170_56 rfl rfl (fun _ _ _ => rfl) hP1700 bq_o20 bq_r20_1 ?_
        refine bp_ld (pc' := 60) bu_170_59 rfl rfl (fun _ _ _ => rfl) rfl rfl ?_
        refine bn_gl (pc' := 63) bu_170_60 rfl rfl (fun _ _ _ => rfl) hP1700 bq_o20 bq_f20_4 ?_
        refine bn_cv (pc' := 66) (st := []) (args := [.long (L1699 20 4)]) bu_170_63 rfl rfl rfl (by decide) hP1700 bq_o11 (by decide) (by omega) rfl (Nat.le_of_ble_eq_true rfl) (Nat.le_of_ble_eq_true rfl) ?_
        have en : py_nm Q (py_go σ).1 (py_go σ) = (py_go σ) := if_neg (fun hh => by
          obtain ⟨j, hj, ej⟩ := hq1.mp hh
          rcases p1707 with u | u
          · omega
          · exact u.2 j hj ej)
        have w1 : (py_go σ).1 = (py_go σ).1 ∧ (py_go σ).2.1 = (py_go σ).2.1 ∧ (py_go σ).2.2.2.2 = (py_go σ).2.2.2.2 := ⟨rfl, rfl, rfl⟩
        have hf2 : (py_go σ).2.1 = 0 := w1.2.1.trans hf1
        have hk2 : K (py_go σ).1 = 1 := by rw [w1.1]; exact hk1
        have hb2 := (F1701.2.2.2 hc)
        have a1 := (R1702.2.1 hf2).2.2.2.2.2.2.1
        have a2 : (py_go σ).2.2.2.2.length = σ.2.2.2.2.length := by
          rw [w1.2.2, (py_go_n (σ := σ))]
        refine cx_200 hP1700 (by omega) (by omega) (fun h1709 s1710 hP1711 z1712 f1713 => ?_)
        have R1714 := rc_ad R1702 hf2 (by omega) hk2 z1712 f1713
        have F1715 : rc_F s1697 A1698 L1699 s1710 A1698 (bh_upL L1699 19 (s1697 1104).toInt.toNat (L1699 20 4)) := ⟨fun j u => f1713 j (by omega), fun _ _ => rfl, if_neg (by decide), fun hq => by rw [f1713 1204 (by decide)]; exact ⟨hq.1, hq.2.1, by omega, by omega⟩⟩
        show bp_G E PO NN ((170, 66, _, [], 0, 0) :: gs, h1709, none)
        refine bp_ld (pc' := 67) bu_170_66 rfl rfl (fun _ _ _ => rfl) rfl rfl ?_
        refine bn_cv (pc' := 70) (st := []) (args := []) bu_170_67 rfl rfl rfl (by decide) hP1711 bq_o20 (by decide) (by omega) rfl (Nat.le_of_ble_eq_true rfl) (Nat.le_of_ble_eq_true rfl) ?_
        refine cr_161 (σ := (py_ad (py_go σ).1 (py_go σ))) hP1711 R1714 (rc_T_F hT (rc_F_t F1701 F1715)) hf2 (by show K (py_go σ).1 ≠ 0; rw [hk2]; decide) (by show K (py_go σ).1 ≠ 3; rw [hk2]; decide) (fun h1716 s1717 A1718 L1719 hP1720 F1721 R1722 => ?_)
        show bp_G E PO NN ((170, 70, _, [], 0, 0) :: gs, h1716, none)
        refine bp_c (pc' := 71) (n := 0) bu_170_70 rfl rfl (fun _ _ _ => rfl) (by decide) (fun c1723 e1724 => ?_)
        refine bp_st (pc' := 72) bu_170_71 rfl rfl (fun _ _ _ => rfl) rfl (by decide) (by decide) (fun lv1725 F1726 g1727 => ?_)
        have g1728 := F1726 0 (.ref (E.1 + 20)) rfl (by decide) (Or.inl rfl)
        refine bp_ld (pc' := 73) bu_170_72 rfl rfl (fun _ _ _ => rfl) g1727 rfl ?_
        refine bp_c (pc' := 74) (n := 4) bu_170_73 rfl rfl (fun _ _ _ => rfl) (by decide) (fun c1729 e1730 => ?_)
        refine bp_ic (pc' := 77) (pt := 98) bu_170_74 rfl rfl (fun k1731 => ?_) (fun k1731 => ?_)
        · replace k1731 : (c1729).toInt < (c1723).toInt := k1731
          omega
        · replace k1731 : ¬ ((c1729).toInt < (c1723).toInt) := k1731
          refine bp_ld (pc' := 78) bu_170_77 rfl rfl (fun _ _ _ => rfl) g1728 rfl ?_
          refine bn_gr (pc' := 81) (t := 11) bu_170_78 rfl rfl (fun _ _ _ => rfl) hP1720 bq_o20 bq_r20_1 ?_
          refine bp_ld (pc' := 82) bu_170_81 rfl rfl (fun _ _ _ => rfl) g1727 rfl ?_
          refine bp_ld (pc' := 83) bu_170_82 rfl rfl (fun _ _ _ => rfl) g1728 rfl ?_
          refine bp_c (pc' := 84) (n := 0) bu_170_83 rfl rfl (fun _ _ _ => rfl) (by decide) (fun c1732 e1733 => ?_)
          refine bp_c (pc' := 86) (n := 9) bu_170_84 rfl rfl (fun _ _ _ => rfl) (by decide) (fun c1734 e1735 => ?_)
          refine bn_cv (pc' := 89) (st := [.int c1723, .ref (E.1 + 11)]) (args := [.int c1734, .int c1732]) bu_170_86 rfl rfl rfl (by decide) hP1720 bq_o20 (by decide) (by omega) rfl (Nat.le_of_ble_eq_true rfl) (Nat.le_of_ble_eq_true rfl) ?_
          refine cr_166 (σ := (py_go (py_ad (py_go σ).1 (py_go σ)))) hP1720 (by simp only [List.length_cons]; omega) R1722 (rc_T_F hT (rc_F_t (rc_F_t F1701 F1715) F1721)) (fun h1736 s1737 A1738 L1739 r1743 hP1740 F1741 R1742 v1744 => ?_)
          rw [show (c1732 : Int32).toInt = 0 from e1733, show (c1734 : Int32).toInt = 9 from e1735] at R1742
          show bp_G E PO NN ((170, 89, lv1725, [.int r1743, .int c1723, .ref (E.1 + 11)], 0, 0) :: gs, h1736, none)
          refine bn_cv (pc' := 92) (st := []) (args := [.int r1743, .int c1723]) bu_170_89 rfl rfl rfl (by decide) hP1740 bq_o11 (by decide) (by omega) rfl (Nat.le_of_ble_eq_true rfl) (Nat.le_of_ble_eq_true rfl) ?_
          have hb1749 := (F1741.2.2.2 (F1721.2.2.2 (F1715.2.2.2 (F1701.2.2.2 hc))))
          refine cx_207 hP1740 (by omega) (by omega) (fun h1745 A1746 hP1747 a1748 => ?_)
          have F1750 : rc_F s1737 A1738 L1739 s1737 A1746 L1739 := ⟨fun _ _ => rfl, fun c u => a1748 c (by omega) (by omega), rfl, id⟩
          show bp_G E PO NN ((170, 92, lv1725, [], 0, 0) :: gs, h1745, none)
          refine bp_inc (pc' := 95) bu_170_92 rfl (by decide) g1727 (by decide) (by omega) (by omega) (fun lv1751 y1754 F1752 g1753 e1755 => ?_)
          have g1756 := F1752 0 (.ref (E.1 + 20)) g1728 (by decide) (Or.inl rfl)
          have e1757 : y1754.toInt = 1 := by omega
          refine bp_go (pc' := 72) bu_170_95 rfl ?_
          refine bp_ld (pc' := 73) bu_170_72 rfl rfl (fun _ _ _ => rfl) g1753 rfl ?_
          refine bp_c (pc' := 74) (n := 4) bu_170_73 rfl rfl (fun _ _ _ => rfl) (by decide) (fun c1758 e1759 => ?_)
          refine bp_ic (pc' := 77) (pt := 98) bu_170_74 rfl rfl (fun k1760 => ?_) (fun k1760 => ?_)
          · replace k1760 : (c1758).toInt < (y1754).toInt := k1760
            omega
          · replace k1760 : ¬ ((c1758).toInt < (y1754).toInt) := k1760
            refine bp_ld (pc' := 78) bu_170_77 rfl rfl (fun _ _ _ => rfl) g1756 rfl ?_
            refine bn_gr (pc' := 81) (t := 11) bu_170_78 rfl rfl (fun _ _ _ => rfl) hP1747 bq_o20 bq_r20_1 ?_
            refine bp_ld (pc' := 82) bu_170_81 rfl rfl (fun _ _ _ => rfl) g1753 rfl ?_
            refine bp_ld (pc' := 83) bu_170_82 rfl rfl (fun _ _ _ => rfl) g1756 rfl ?_
            refine bp_c (pc' := 84) (n := 0) bu_170_83 rfl rfl (fun _ _ _ => rfl) (by decide) (fun c1761 e1762 => ?_)
            refine bp_c (pc' := 86) (n := 9) bu_170_84 rfl rfl (fun _ _ _ => rfl) (by decide) (fun c1763 e1764 => ?_)
            refine bn_cv (pc' := 89) (st := [.int y1754, .ref (E.1 + 11)]) (args := [.int c1763, .int c1761]) bu_170_86 rfl rfl rfl (by decide) hP1747 bq_o20 (by decide) (by omega) rfl (Nat.le_of_ble_eq_true rfl) (Nat.le_of_ble_eq_true rfl) ?_
            refine cr_166 (σ := (py_nu K V 0 9 (py_go (py_ad (py_go σ).1 (py_go σ))))) hP1747 (by simp only [List.length_cons]; omega) R1742 (rc_T_F hT (rc_F_t (rc_F_t (rc_F_t (rc_F_t F1701 F1715) F1721) F1741) F1750)) (fun h1765 s1766 A1767 L1768 r1772 hP1769 F1770 R1771 v1773 => ?_)
            rw [show (c1761 : Int32).toInt = 0 from e1762, show (c1763 : Int32).toInt = 9 from e1764] at R1771
            show bp_G E PO NN ((170, 89, lv1751, [.int r1772, .int y1754, .ref (E.1 + 11)], 0, 0) :: gs, h1765, none)
            refine bn_cv (pc' := 92) (st := []) (args := [.int r1772, .int y1754]) bu_170_89 rfl rfl rfl (by decide) hP1769 bq_o11 (by decide) (by omega) rfl (Nat.le_of_ble_eq_true rfl) (Nat.le_of_ble_eq_true rfl) ?_
            have hb1778 := (F1770.2.2.2 (F1741.2.2.2 (F1721.2.2.2 (F1715.2.2.2 (F1701.2.2.2 hc)))))
            refine cx_207 hP1769 (by omega) (by omega) (fun h1774 A1775 hP1776 a1777 => ?_)
            have F1779 : rc_F s1766 A1767 L1768 s1766 A1775 L1768 := ⟨fun _ _ => rfl, fun c u => a1777 c (by omega) (by omega), rfl, id⟩
            show bp_G E PO NN ((170, 92, lv1751, [], 0, 0) :: gs, h1774, none)
            refine bp_inc (pc' := 95) bu_170_92 rfl (by decide) g1753 (by decide) (by omega) (by omega) (fun lv1780 y1783 F1781 g1782 e1784 => ?_)
            have g1785 := F1781 0 (.ref (E.1 + 20)) g1756 (by decide) (Or.inl rfl)
            have e1786 : y1783.toInt = 2 := by omega
            refine bp_go (pc' := 72) bu_170_95 rfl ?_
            refine bp_ld (pc' := 73) bu_170_72 rfl rfl (fun _ _ _ => rfl) g1782 rfl ?_
            refine bp_c (pc' := 74) (n := 4) bu_170_73 rfl rfl (fun _ _ _ => rfl) (by decide) (fun c1787 e1788 => ?_)
            refine bp_ic (pc' := 77) (pt := 98) bu_170_74 rfl rfl (fun k1789 => ?_) (fun k1789 => ?_)
            · replace k1789 : (c1787).toInt < (y1783).toInt := k1789
              omega
            · replace k1789 : ¬ ((c1787).toInt < (y1783).toInt) := k1789
              refine bp_ld (pc' := 78) bu_170_77 rfl rfl (fun _ _ _ => rfl) g1785 rfl ?_
              refine bn_gr (pc' := 81) (t := 11) bu_170_78 rfl rfl (fun _ _ _ => rfl) hP1776 bq_o20 bq_r20_1 ?_
              refine bp_ld (pc' := 82) bu_170_81 rfl rfl (fun _ _ _ => rfl) g1782 rfl ?_
              refine bp_ld (pc' := 83) bu_170_82 rfl rfl (fun _ _ _ => rfl) g1785 rfl ?_
              refine bp_c (pc' := 84) (n := 0) bu_170_83 rfl rfl (fun _ _ _ => rfl) (by decide) (fun c1790 e1791 => ?_)
              refine bp_c (pc' := 86) (n := 9) bu_170_84 rfl rfl (fun _ _ _ => rfl) (by decide) (fun c1792 e1793 => ?_)
              refine bn_cv (pc' := 89) (st := [.int y1783, .ref (E.1 + 11)]) (args := [.int c1792, .int c1790]) bu_170_86 rfl rfl rfl (by decide) hP1776 bq_o20 (by decide) (by omega) rfl (Nat.le_of_ble_eq_true rfl) (Nat.le_of_ble_eq_true rfl) ?_
              refine cr_166 (σ := (py_nu K V 0 9 (py_nu K V 0 9 (py_go (py_ad (py_go σ).1 (py_go σ)))))) hP1776 (by simp only [List.length_cons]; omega) R1771 (rc_T_F hT (rc_F_t (rc_F_t (rc_F_t (rc_F_t (rc_F_t (rc_F_t F1701 F1715) F1721) F1741) F1750) F1770) F1779)) (fun h1794 s1795 A1796 L1797 r1801 hP1798 F1799 R1800 v1802 => ?_)
              rw [show (c1790 : Int32).toInt = 0 from e1791, show (c1792 : Int32).toInt = 9 from e1793] at R1800
              show bp_G E PO NN ((170, 89, lv1780, [.int r1801, .int y1783, .ref (E.1 + 11)], 0, 0) :: gs, h1794, none)
              refine bn_cv (pc' := 92) (st := []) (args := [.int r1801, .int y1783]) bu_170_89 rfl rfl rfl (by decide) hP1798 bq_o11 (by decide) (by omega) rfl (Nat.le_of_ble_eq_true rfl) (Nat.le_of_ble_eq_true rfl) ?_
              have hb1807 := (F1799.2.2.2 (F1770.2.2.2 (F1741.2.2.2 (F1721.2.2.2 (F1715.2.2.2 (F1701.2.2.2 hc))))))
              refine cx_207 hP1798 (by omega) (by omega) (fun h1803 A1804 hP1805 a1806 => ?_)
              have F1808 : rc_F s1795 A1796 L1797 s1795 A1804 L1797 := ⟨fun _ _ => rfl, fun c u => a1806 c (by omega) (by omega), rfl, id⟩
              show bp_G E PO NN ((170, 92, lv1780, [], 0, 0) :: gs, h1803, none)
              refine bp_inc (pc' := 95) bu_170_92 rfl (by decide) g1782 (by decide) (by omega) (by omega) (fun lv1809 y1812 F1810 g1811 e1813 => ?_)
              have g1814 := F1810 0 (.ref (E.1 + 20)) g1785 (by decide) (Or.inl rfl)
              have e1815 : y1812.toInt = 3 := by omega
              refine bp_go (pc' := 72) bu_170_95 rfl ?_
              refine bp_ld (pc' := 73) bu_170_72 rfl rfl (fun _ _ _ => rfl) g1811 rfl ?_
              refine bp_c (pc' := 74) (n := 4) bu_170_73 rfl rfl (fun _ _ _ => rfl) (by decide) (fun c1816 e1817 => ?_)
              refine bp_ic (pc' := 77) (pt := 98) bu_170_74 rfl rfl (fun k1818 => ?_) (fun k1818 => ?_)
              · replace k1818 : (c1816).toInt < (y1812).toInt := k1818
                omega
              · replace k1818 : ¬ ((c1816).toInt < (y1812).toInt) := k1818
                refine bp_ld (pc' := 78) bu_170_77 rfl rfl (fun _ _ _ => rfl) g1814 rfl ?_
                refine bn_gr (pc' := 81) (t := 11) bu_170_78 rfl rfl (fun _ _ _ => rfl) hP1805 bq_o20 bq_r20_1 ?_
                refine bp_ld (pc' := 82) bu_170_81 rfl rfl (fun _ _ _ => rfl) g1811 rfl ?_
                refine bp_ld (pc' := 83) bu_170_82 rfl rfl (fun _ _ _ => rfl) g1814 rfl ?_
                refine bp_c (pc' := 84) (n := 0) bu_170_83 rfl rfl (fun _ _ _ => rfl) (by decide) (fun c1819 e1820 => ?_)
                refine bp_c (pc' := 86) (n := 9) bu_170_84 rfl rfl (fun _ _ _ => rfl) (by decide) (fun c1821 e1822 => ?_)
                refine bn_cv (pc' := 89) (st := [.int y1812, .ref (E.1 + 11)]) (args := [.int c1821, .int c1819]) bu_170_86 rfl rfl rfl (by decide) hP1805 bq_o20 (by decide) (by omega) rfl (Nat.le_of_ble_eq_true rfl) (Nat.le_of_ble_eq_true rfl) ?_
                refine cr_166 (σ := (py_nu K V 0 9 (py_nu K V 0 9 (py_nu K V 0 9 (py_go (py_ad (py_go σ).1 (py_go σ))))))) hP1805 (by simp only [List.length_cons]; omega) R1800 (rc_T_F hT (rc_F_t (rc_F_t (rc_F_t (rc_F_t (rc_F_t (rc_F_t (rc_F_t (rc_F_t F1701 F1715) F1721) F1741) F1750) F1770) F1779) F1799) F1808)) (fun h1823 s1824 A1825 L1826 r1830 hP1827 F1828 R1829 v1831 => ?_)
                rw [show (c1819 : Int32).toInt = 0 from e1820, show (c1821 : Int32).toInt = 9 from e1822] at R1829
                show bp_G E PO NN ((170, 89, lv1809, [.int r1830, .int y1812, .ref (E.1 + 11)], 0, 0) :: gs, h1823, none)
                refine bn_cv (pc' := 92) (st := []) (args := [.int r1830, .int y1812]) bu_170_89 rfl rfl rfl (by decide) hP1827 bq_o11 (by decide) (by omega) rfl (Nat.le_of_ble_eq_true rfl) (Nat.le_of_ble_eq_true rfl) ?_
                have hb1836 := (F1828.2.2.2 (F1799.2.2.2 (F1770.2.2.2 (F1741.2.2.2 (F1721.2.2.2 (F1715.2.2.2 (F1701.2.2.2 hc)))))))
                refine cx_207 hP1827 (by omega) (by omega) (fun h1832 A1833 hP1834 a1835 => ?_)
                have F1837 : rc_F s1824 A1825 L1826 s1824 A1833 L1826 := ⟨fun _ _ => rfl, fun c u => a1835 c (by omega) (by omega), rfl, id⟩
                show bp_G E PO NN ((170, 92, lv1809, [], 0, 0) :: gs, h1832, none)
                refine bp_inc (pc' := 95) bu_170_92 rfl (by decide) g1811 (by decide) (by omega) (by omega) (fun lv1838 y1841 F1839 g1840 e1842 => ?_)
                have g1843 := F1839 0 (.ref (E.1 + 20)) g1814 (by decide) (Or.inl rfl)
                have e1844 : y1841.toInt = 4 := by omega
                refine bp_go (pc' := 72) bu_170_95 rfl ?_
                refine bp_ld (pc' := 73) bu_170_72 rfl rfl (fun _ _ _ => rfl) g1840 rfl ?_
                refine bp_c (pc' := 74) (n := 4) bu_170_73 rfl rfl (fun _ _ _ => rfl) (by decide) (fun c1845 e1846 => ?_)
                refine bp_ic (pc' := 77) (pt := 98) bu_170_74 rfl rfl (fun k1847 => ?_) (fun k1847 => ?_)
                · replace k1847 : (c1845).toInt < (y1841).toInt := k1847
                  omega
                · replace k1847 : ¬ ((c1845).toInt < (y1841).toInt) := k1847
                  refine bp_ld (pc' := 78) bu_170_77 rfl rfl (fun _ _ _ => rfl) g1843 rfl ?_
                  refine bn_gr (pc' := 81) (t := 11) bu_170_78 rfl rfl (fun _ _ _ => rfl) hP1834 bq_o20 bq_r20_1 ?_
                  refine bp_ld (pc' := 82) bu_170_81 rfl rfl (fun _ _ _ => rfl) g1840 rfl ?_
                  refine bp_ld (pc' := 83) bu_170_82 rfl rfl (fun _ _ _ => rfl) g1843 rfl ?_
                  refine bp_c (pc' := 84) (n := 0) bu_170_83 rfl rfl (fun _ _ _ => rfl) (by decide) (fun c1848 e1849 => ?_)
                  refine bp_c (pc' := 86) (n := 9) bu_170_84 rfl rfl (fun _ _ _ => rfl) (by decide) (fun c1850 e1851 => ?_)
                  refine bn_cv (pc' := 89) (st := [.int y1841, .ref (E.1 + 11)]) (args := [.int c1850, .int c1848]) bu_170_86 rfl rfl rfl (by decide) hP1834 bq_o20 (by decide) (by omega) rfl (Nat.le_of_ble_eq_true rfl) (Nat.le_of_ble_eq_true rfl) ?_
                  refine cr_166 (σ := (py_nu K V 0 9 (py_nu K V 0 9 (py_nu K V 0 9 (py_nu K V 0 9 (py_go (py_ad (py_go σ).1 (py_go σ)))))))) hP1834 (by simp only [List.length_cons]; omega) R1829 (rc_T_F hT (rc_F_t (rc_F_t (rc_F_t (rc_F_t (rc_F_t (rc_F_t (rc_F_t (rc_F_t (rc_F_t (rc_F_t F1701 F1715) F1721) F1741) F1750) F1770) F1779) F1799) F1808) F1828) F1837)) (fun h1852 s1853 A1854 L1855 r1859 hP1856 F1857 R1858 v1860 => ?_)
                  rw [show (c1848 : Int32).toInt = 0 from e1849, show (c1850 : Int32).toInt = 9 from e1851] at R1858
                  show bp_G E PO NN ((170, 89, lv1838, [.int r1859, .int y1841, .ref (E.1 + 11)], 0, 0) :: gs, h1852, none)
                  refine bn_cv (pc' := 92) (st := []) (args := [.int r1859, .int y1841]) bu_170_89 rfl rfl rfl (by decide) hP1856 bq_o11 (by decide) (by omega) rfl (Nat.le_of_ble_eq_true rfl) (Nat.le_of_ble_eq_true rfl) ?_
                  have hb1865 := (F1857.2.2.2 (F1828.2.2.2 (F1799.2.2.2 (F1770.2.2.2 (F1741.2.2.2 (F1721.2.2.2 (F1715.2.2.2 (F1701.2.2.2 hc))))))))
                  refine cx_207 hP1856 (by omega) (by omega) (fun h1861 A1862 hP1863 a1864 => ?_)
                  have F1866 : rc_F s1853 A1854 L1855 s1853 A1862 L1855 := ⟨fun _ _ => rfl, fun c u => a1864 c (by omega) (by omega), rfl, id⟩
                  show bp_G E PO NN ((170, 92, lv1838, [], 0, 0) :: gs, h1861, none)
                  refine bp_inc (pc' := 95) bu_170_92 rfl (by decide) g1840 (by decide) (by omega) (by omega) (fun lv1867 y1870 F1868 g1869 e1871 => ?_)
                  have g1872 := F1868 0 (.ref (E.1 + 20)) g1843 (by decide) (Or.inl rfl)
                  have e1873 : y1870.toInt = 5 := by omega
                  refine bp_go (pc' := 72) bu_170_95 rfl ?_
                  refine bp_ld (pc' := 73) bu_170_72 rfl rfl (fun _ _ _ => rfl) g1869 rfl ?_
                  refine bp_c (pc' := 74) (n := 4) bu_170_73 rfl rfl (fun _ _ _ => rfl) (by decide) (fun c1874 e1875 => ?_)
                  refine bp_ic (pc' := 77) (pt := 98) bu_170_74 rfl rfl (fun k1876 => ?_) (fun k1876 => ?_)
                  · replace k1876 : (c1874).toInt < (y1870).toInt := k1876
                    refine bp_ld (pc' := 99) bu_170_98 rfl rfl (fun _ _ _ => rfl) g1872 rfl ?_
                    refine bp_c (pc' := 101) (n := 59) bu_170_99 rfl rfl (fun _ _ _ => rfl) (by decide) (fun c1877 e1878 => ?_)
                    refine bn_cv (pc' := 104) (st := []) (args := [.int c1877]) bu_170_101 rfl rfl rfl (by decide) hP1863 bq_o20 (by decide) (by omega) rfl (Nat.le_of_ble_eq_true rfl) (Nat.le_of_ble_eq_true rfl) ?_
                    refine cr_177 (σ := (py_nu K V 0 9 (py_nu K V 0 9 (py_nu K V 0 9 (py_nu K V 0 9 (py_nu K V 0 9 (py_go (py_ad (py_go σ).1 (py_go σ))))))))) (kc := 4) (by omega) hP1863 (by simp only [List.length_cons]; omega) R1858 (rc_T_F hT (rc_F_t (rc_F_t (rc_F_t (rc_F_t (rc_F_t (rc_F_t (rc_F_t (rc_F_t (rc_F_t (rc_F_t (rc_F_t (rc_F_t F1701 F1715) F1721) F1741) F1750) F1770) F1779) F1799) F1808) F1828) F1837) F1857) F1866)) (fun h1879 s1880 A1881 L1882 hP1883 F1884 R1885 => ?_)
                    show bp_G E PO NN ((170, 104, lv1867, [], 0, 0) :: gs, h1879, none)
                    refine bp_rv bu_170_104 ?_
                    have ee : py_man K V Q σ = (py_mu K 4 (py_nu K V 0 9 (py_nu K V 0 9 (py_nu K V 0 9 (py_nu K V 0 9 (py_nu K V 0 9 (py_go (py_ad (py_go σ).1 (py_go σ))))))))) := by
                      unfold py_man py_five
                      rw [if_neg (by omega), if_pos ⟨hf1, hk1⟩, en]
                    exact kk _ _ _ _ hP1883 (rc_F_t (rc_F_t (rc_F_t (rc_F_t (rc_F_t (rc_F_t (rc_F_t (rc_F_t (rc_F_t (rc_F_t (rc_F_t (rc_F_t (rc_F_t F1701 F1715) F1721) F1741) F1750) F1770) F1779) F1799) F1808) F1828) F1837) F1857) F1866) F1884) (by rw [ee]; exact R1885)
                  · replace k1876 : ¬ ((c1874).toInt < (y1870).toInt) := k1876
                    omega
      · replace k1708 : ¬ ((r1706).toInt = 0) := k1708
        refine bp_ld (pc' := 51) bu_170_50 rfl rfl (fun _ _ _ => rfl) rfl rfl ?_
        refine bp_c (pc' := 52) (n := 3) bu_170_51 rfl rfl (fun _ _ _ => rfl) (by decide) (fun c1886 e1887 => ?_)
        refine bn_cv (pc' := 55) (st := []) (args := [.int c1886]) bu_170_52 rfl rfl rfl (by decide) hP1700 bq_o20 (by decide) (by omega) rfl (Nat.le_of_ble_eq_true rfl) (Nat.le_of_ble_eq_true rfl) ?_
        refine cr_165 (σ := (py_go σ)) (kn := 3) (by omega) (by decide) hP1700 R1702 hf1 (fun h1888 s1889 A1890 L1891 hP1892 F1893 R1894 => ?_)
        show bp_G E PO NN ((170, 55, _, [], 0, 0) :: gs, h1888, none)
        refine bp_ld (pc' := 56) bu_170_55 rfl rfl (fun _ _ _ => rfl) rfl rfl ?_
        refine bn_gr (pc' := 59) (t := 11) bu_170_56 rfl rfl (fun _ _ _ => rfl) hP1892 bq_o20 bq_r20_1 ?_
        refine bp_ld (pc' := 60) bu_170_59 rfl rfl (fun _ _ _ => rfl) rfl rfl ?_
        refine bn_gl (pc' := 63) bu_170_60 rfl rfl (fun _ _ _ => rfl) hP1892 bq_o20 bq_f20_4 ?_
        refine bn_cv (pc' := 66) (st := []) (args := [.long (L1891 20 4)]) bu_170_63 rfl rfl rfl (by decide) hP1892 bq_o11 (by decide) (by omega) rfl (Nat.le_of_ble_eq_true rfl) (Nat.le_of_ble_eq_true rfl) ?_
        have en : py_nm Q (py_go σ).1 (py_go σ) = (py_wr 3 (py_go σ).1 (py_go σ)) := if_pos (hq1.mpr (by rcases p1707 with u | u; exact u.2; exact absurd u.1 (by omega)))
        have w1 := (py_wr_t (σ := py_go σ) (k := 3) (t := (py_go σ).1))
        have hf2 : (py_wr 3 (py_go σ).1 (py_go σ)).2.1 = 0 := w1.2.1.trans hf1
        have hk2 : K (py_wr 3 (py_go σ).1 (py_go σ)).1 = 1 := by rw [w1.1]; exact hk1
        have hb2 := (F1893.2.2.2 (F1701.2.2.2 hc))
        have a1 := (R1894.2.1 hf2).2.2.2.2.2.2.1
        have a2 : (py_wr 3 (py_go σ).1 (py_go σ)).2.2.2.2.length = σ.2.2.2.2.length := by
          rw [w1.2.2, (py_go_n (σ := σ))]
        refine cx_200 hP1892 (by omega) (by omega) (fun h1895 s1896 hP1897 z1898 f1899 => ?_)
        have R1900 := rc_ad R1894 hf2 (by omega) hk2 z1898 f1899
        have F1901 : rc_F s1889 A1890 L1891 s1896 A1890 (bh_upL L1891 19 (s1889 1104).toInt.toNat (L1891 20 4)) := ⟨fun j u => f1899 j (by omega), fun _ _ => rfl, if_neg (by decide), fun hq => by rw [f1899 1204 (by decide)]; exact ⟨hq.1, hq.2.1, by omega, by omega⟩⟩
        show bp_G E PO NN ((170, 66, _, [], 0, 0) :: gs, h1895, none)
        refine bp_ld (pc' := 67) bu_170_66 rfl rfl (fun _ _ _ => rfl) rfl rfl ?_
        refine bn_cv (pc' := 70) (st := []) (args := []) bu_170_67 rfl rfl rfl (by decide) hP1897 bq_o20 (by decide) (by omega) rfl (Nat.le_of_ble_eq_true rfl) (Nat.le_of_ble_eq_true rfl) ?_
        refine cr_161 (σ := (py_ad (py_wr 3 (py_go σ).1 (py_go σ)).1 (py_wr 3 (py_go σ).1 (py_go σ)))) hP1897 R1900 (rc_T_F hT (rc_F_t (rc_F_t F1701 F1893) F1901)) hf2 (by show K (py_wr 3 (py_go σ).1 (py_go σ)).1 ≠ 0; rw [hk2]; decide) (by show K (py_wr 3 (py_go σ).1 (py_go σ)).1 ≠ 3; rw [hk2]; decide) (fun h1902 s1903 A1904 L1905 hP1906 F1907 R1908 => ?_)
        show bp_G E PO NN ((170, 70, _, [], 0, 0) :: gs, h1902, none)
        refine bp_c (pc' := 71) (n := 0) bu_170_70 rfl rfl (fun _ _ _ => rfl) (by decide) (fun c1909 e1910 => ?_)
        refine bp_st (pc' := 72) bu_170_71 rfl rfl (fun _ _ _ => rfl) rfl (by decide) (by decide) (fun lv1911 F1912 g1913 => ?_)
        have g1914 := F1912 0 (.ref (E.1 + 20)) rfl (by decide) (Or.inl rfl)
        refine bp_ld (pc' := 73) bu_170_72 rfl rfl (fun _ _ _ => rfl) g1913 rfl ?_
        refine bp_c (pc' := 74) (n := 4) bu_170_73 rfl rfl (fun _ _ _ => rfl) (by decide) (fun c1915 e1916 => ?_)
        refine bp_ic (pc' := 77) (pt := 98) bu_170_74 rfl rfl (fun k1917 => ?_) (fun k1917 => ?_)
        · replace k1917 : (c1915).toInt < (c1909).toInt := k1917
          omega
        · replace k1917 : ¬ ((c1915).toInt < (c1909).toInt) := k1917
          refine bp_ld (pc' := 78) bu_170_77 rfl rfl (fun _ _ _ => rfl) g1914 rfl ?_
          refine bn_gr (pc' := 81) (t := 11) bu_170_78 rfl rfl (fun _ _ _ => rfl) hP1906 bq_o20 bq_r20_1 ?_
          refine bp_ld (pc' := 82) bu_170_81 rfl rfl (fun _ _ _ => rfl) g1913 rfl ?_
          refine bp_ld (pc' := 83) bu_170_82 rfl rfl (fun _ _ _ => rfl) g1914 rfl ?_
          refine bp_c (pc' := 84) (n := 0) bu_170_83 rfl rfl (fun _ _ _ => rfl) (by decide) (fun c1918 e1919 => ?_)
          refine bp_c (pc' := 86) (n := 9) bu_170_84 rfl rfl (fun _ _ _ => rfl) (by decide) (fun c1920 e1921 => ?_)
          refine bn_cv (pc' := 89) (st := [.int c1909, .ref (E.1 + 11)]) (args := [.int c1920, .int c1918]) bu_170_86 rfl rfl rfl (by decide) hP1906 bq_o20 (by decide) (by omega) rfl (Nat.le_of_ble_eq_true rfl) (Nat.le_of_ble_eq_true rfl) ?_
          refine cr_166 (σ := (py_go (py_ad (py_wr 3 (py_go σ).1 (py_go σ)).1 (py_wr 3 (py_go σ).1 (py_go σ))))) hP1906 (by simp only [List.length_cons]; omega) R1908 (rc_T_F hT (rc_F_t (rc_F_t (rc_F_t F1701 F1893) F1901) F1907)) (fun h1922 s1923 A1924 L1925 r1929 hP1926 F1927 R1928 v1930 => ?_)
          rw [show (c1918 : Int32).toInt = 0 from e1919, show (c1920 : Int32).toInt = 9 from e1921] at R1928
          show bp_G E PO NN ((170, 89, lv1911, [.int r1929, .int c1909, .ref (E.1 + 11)], 0, 0) :: gs, h1922, none)
          refine bn_cv (pc' := 92) (st := []) (args := [.int r1929, .int c1909]) bu_170_89 rfl rfl rfl (by decide) hP1926 bq_o11 (by decide) (by omega) rfl (Nat.le_of_ble_eq_true rfl) (Nat.le_of_ble_eq_true rfl) ?_
          have hb1935 := (F1927.2.2.2 (F1907.2.2.2 (F1901.2.2.2 (F1893.2.2.2 (F1701.2.2.2 hc)))))
          refine cx_207 hP1926 (by omega) (by omega) (fun h1931 A1932 hP1933 a1934 => ?_)
          have F1936 : rc_F s1923 A1924 L1925 s1923 A1932 L1925 := ⟨fun _ _ => rfl, fun c u => a1934 c (by omega) (by omega), rfl, id⟩
          show bp_G E PO NN ((170, 92, lv1911, [], 0, 0) :: gs, h1931, none)
          refine bp_inc (pc' := 95) bu_170_92 rfl (by decide) g1913 (by decide) (by omega) (by omega) (fun lv1937 y1940 F1938 g1939 e1941 => ?_)
          have g1942 := F1938 0 (.ref (E.1 + 20)) g1914 (by decide) (Or.inl rfl)
          have e1943 : y1940.toInt = 1 := by omega
          refine bp_go (pc' := 72) bu_170_95 rfl ?_
          refine bp_ld (pc' := 73) bu_170_72 rfl rfl (fun _ _ _ => rfl) g1939 rfl ?_
          refine bp_c (pc' := 74) (n := 4) bu_170_73 rfl rfl (fun _ _ _ => rfl) (by decide) (fun c1944 e1945 => ?_)
          refine bp_ic (pc' := 77) (pt := 98) bu_170_74 rfl rfl (fun k1946 => ?_) (fun k1946 => ?_)
          · replace k1946 : (c1944).toInt < (y1940).toInt := k1946
            omega
          · replace k1946 : ¬ ((c1944).toInt < (y1940).toInt) := k1946
            refine bp_ld (pc' := 78) bu_170_77 rfl rfl (fun _ _ _ => rfl) g1942 rfl ?_
            refine bn_gr (pc' := 81) (t := 11) bu_170_78 rfl rfl (fun _ _ _ => rfl) hP1933 bq_o20 bq_r20_1 ?_
            refine bp_ld (pc' := 82) bu_170_81 rfl rfl (fun _ _ _ => rfl) g1939 rfl ?_
            refine bp_ld (pc' := 83) bu_170_82 rfl rfl (fun _ _ _ => rfl) g1942 rfl ?_
            refine bp_c (pc' := 84) (n := 0) bu_170_83 rfl rfl (fun _ _ _ => rfl) (by decide) (fun c1947 e1948 => ?_)
            refine bp_c (pc' := 86) (n := 9) bu_170_84 rfl rfl (fun _ _ _ => rfl) (by decide) (fun c1949 e1950 => ?_)
            refine bn_cv (pc' := 89) (st := [.int y1940, .ref (E.1 + 11)]) (args := [.int c1949, .int c1947]) bu_170_86 rfl rfl rfl (by decide) hP1933 bq_o20 (by decide) (by omega) rfl (Nat.le_of_ble_eq_true rfl) (Nat.le_of_ble_eq_true rfl) ?_
            refine cr_166 (σ := (py_nu K V 0 9 (py_go (py_ad (py_wr 3 (py_go σ).1 (py_go σ)).1 (py_wr 3 (py_go σ).1 (py_go σ)))))) hP1933 (by simp only [List.length_cons]; omega) R1928 (rc_T_F hT (rc_F_t (rc_F_t (rc_F_t (rc_F_t (rc_F_t F1701 F1893) F1901) F1907) F1927) F1936)) (fun h1951 s1952 A1953 L1954 r1958 hP1955 F1956 R1957 v1959 => ?_)
            rw [show (c1947 : Int32).toInt = 0 from e1948, show (c1949 : Int32).toInt = 9 from e1950] at R1957
            show bp_G E PO NN ((170, 89, lv1937, [.int r1958, .int y1940, .ref (E.1 + 11)], 0, 0) :: gs, h1951, none)
            refine bn_cv (pc' := 92) (st := []) (args := [.int r1958, .int y1940]) bu_170_89 rfl rfl rfl (by decide) hP1955 bq_o11 (by decide) (by omega) rfl (Nat.le_of_ble_eq_true rfl) (Nat.le_of_ble_eq_true rfl) ?_
            have hb1964 := (F1956.2.2.2 (F1927.2.2.2 (F1907.2.2.2 (F1901.2.2.2 (F1893.2.2.2 (F1701.2.2.2 hc))))))
            refine cx_207 hP1955 (by omega) (by omega) (fun h1960 A1961 hP1962 a1963 => ?_)
            have F1965 : rc_F s1952 A1953 L1954 s1952 A1961 L1954 := ⟨fun _ _ => rfl, fun c u => a1963 c (by omega) (by omega), rfl, id⟩
            show bp_G E PO NN ((170, 92, lv1937, [], 0, 0) :: gs, h1960, none)
            refine bp_inc (pc' := 95) bu_170_92 rfl (by decide) g1939 (by decide) (by omega) (by omega) (fun lv1966 y1969 F1967 g1968 e1970 => ?_)
            have g1971 := F1967 0 (.ref (E.1 + 20)) g1942 (by decide) (Or.inl rfl)
            have e1972 : y1969.toInt = 2 := by omega
            refine bp_go (pc' := 72) bu_170_95 rfl ?_
            refine bp_ld (pc' := 73) bu_170_72 rfl rfl (fun _ _ _ => rfl) g1968 rfl ?_
            refine bp_c (pc' := 74) (n := 4) bu_170_73 rfl rfl (fun _ _ _ => rfl) (by decide) (fun c1973 e1974 => ?_)
            refine bp_ic (pc' := 77) (pt := 98) bu_170_74 rfl rfl (fun k1975 => ?_) (fun k1975 => ?_)
            · replace k1975 : (c1973).toInt < (y1969).toInt := k1975
              omega
            · replace k1975 : ¬ ((c1973).toInt < (y1969).toInt) := k1975
              refine bp_ld (pc' := 78) bu_170_77 rfl rfl (fun _ _ _ => rfl) g1971 rfl ?_
              refine bn_gr (pc' := 81) (t := 11) bu_170_78 rfl rfl (fun _ _ _ => rfl) hP1962 bq_o20 bq_r20_1 ?_
              refine bp_ld (pc' := 82) bu_170_81 rfl rfl (fun _ _ _ => rfl) g1968 rfl ?_
              refine bp_ld (pc' := 83) bu_170_82 rfl rfl (fun _ _ _ => rfl) g1971 rfl ?_
              refine bp_c (pc' := 84) (n := 0) bu_170_83 rfl rfl (fun _ _ _ => rfl) (by decide) (fun c1976 e1977 => ?_)
              refine bp_c (pc' := 86) (n := 9) bu_170_84 rfl rfl (fun _ _ _ => rfl) (by decide) (fun c1978 e1979 => ?_)
              refine bn_cv (pc' := 89) (st := [.int y1969, .ref (E.1 + 11)]) (args := [.int c1978, .int c1976]) bu_170_86 rfl rfl rfl (by decide) hP1962 bq_o20 (by decide) (by omega) rfl (Nat.le_of_ble_eq_true rfl) (Nat.le_of_ble_eq_true rfl) ?_
              refine cr_166 (σ := (py_nu K V 0 9 (py_nu K V 0 9 (py_go (py_ad (py_wr 3 (py_go σ).1 (py_go σ)).1 (py_wr 3 (py_go σ).1 (py_go σ))))))) hP1962 (by simp only [List.length_cons]; omega) R1957 (rc_T_F hT (rc_F_t (rc_F_t (rc_F_t (rc_F_t (rc_F_t (rc_F_t (rc_F_t F1701 F1893) F1901) F1907) F1927) F1936) F1956) F1965)) (fun h1980 s1981 A1982 L1983 r1987 hP1984 F1985 R1986 v1988 => ?_)
              rw [show (c1976 : Int32).toInt = 0 from e1977, show (c1978 : Int32).toInt = 9 from e1979] at R1986
              show bp_G E PO NN ((170, 89, lv1966, [.int r1987, .int y1969, .ref (E.1 + 11)], 0, 0) :: gs, h1980, none)
              refine bn_cv (pc' := 92) (st := []) (args := [.int r1987, .int y1969]) bu_170_89 rfl rfl rfl (by decide) hP1984 bq_o11 (by decide) (by omega) rfl (Nat.le_of_ble_eq_true rfl) (Nat.le_of_ble_eq_true rfl) ?_
              have hb1993 := (F1985.2.2.2 (F1956.2.2.2 (F1927.2.2.2 (F1907.2.2.2 (F1901.2.2.2 (F1893.2.2.2 (F1701.2.2.2 hc)))))))
              refine cx_207 hP1984 (by omega) (by omega) (fun h1989 A1990 hP1991 a1992 => ?_)
              have F1994 : rc_F s1981 A1982 L1983 s1981 A1990 L1983 := ⟨fun _ _ => rfl, fun c u => a1992 c (by omega) (by omega), rfl, id⟩
              show bp_G E PO NN ((170, 92, lv1966, [], 0, 0) :: gs, h1989, none)
              refine bp_inc (pc' := 95) bu_170_92 rfl (by decide) g1968 (by decide) (by omega) (by omega) (fun lv1995 y1998 F1996 g1997 e1999 => ?_)
              have g2000 := F1996 0 (.ref (E.1 + 20)) g1971 (by decide) (Or.inl rfl)
              have e2001 : y1998.toInt = 3 := by omega
              refine bp_go (pc' := 72) bu_170_95 rfl ?_
              refine bp_ld (pc' := 73) bu_170_72 rfl rfl (fun _ _ _ => rfl) g1997 rfl ?_
              refine bp_c (pc' := 74) (n := 4) bu_170_73 rfl rfl (fun _ _ _ => rfl) (by decide) (fun c2002 e2003 => ?_)
              refine bp_ic (pc' := 77) (pt := 98) bu_170_74 rfl rfl (fun k2004 => ?_) (fun k2004 => ?_)
              · replace k2004 : (c2002).toInt < (y1998).toInt := k2004
                omega
              · replace k2004 : ¬ ((c2002).toInt < (y1998).toInt) := k2004
                refine bp_ld (pc' := 78) bu_170_77 rfl rfl (fun _ _ _ => rfl) g2000 rfl ?_
                refine bn_gr (pc' := 81) (t := 11) bu_170_78 rfl rfl (fun _ _ _ => rfl) hP1991 bq_o20 bq_r20_1 ?_
                refine bp_ld (pc' := 82) bu_170_81 rfl rfl (fun _ _ _ => rfl) g1997 rfl ?_
                refine bp_ld (pc' := 83) bu_170_82 rfl rfl (fun _ _ _ => rfl) g2000 rfl ?_
                refine bp_c (pc' := 84) (n := 0) bu_170_83 rfl rfl (fun _ _ _ => rfl) (by decide) (fun c2005 e2006 => ?_)
                refine bp_c (pc' := 86) (n := 9) bu_170_84 rfl rfl (fun _ _ _ => rfl) (by decide) (fun c2007 e2008 => ?_)
                refine bn_cv (pc' := 89) (st := [.int y1998, .ref (E.1 + 11)]) (args := [.int c2007, .int c2005]) bu_170_86 rfl rfl rfl (by decide) hP1991 bq_o20 (by decide) (by omega) rfl (Nat.le_of_ble_eq_true rfl) (Nat.le_of_ble_eq_true rfl) ?_
                refine cr_166 (σ := (py_nu K V 0 9 (py_nu K V 0 9 (py_nu K V 0 9 (py_go (py_ad (py_wr 3 (py_go σ).1 (py_go σ)).1 (py_wr 3 (py_go σ).1 (py_go σ)))))))) hP1991 (by simp only [List.length_cons]; omega) R1986 (rc_T_F hT (rc_F_t (rc_F_t (rc_F_t (rc_F_t (rc_F_t (rc_F_t (rc_F_t (rc_F_t (rc_F_t F1701 F1893) F1901) F1907) F1927) F1936) F1956) F1965) F1985) F1994)) (fun h2009 s2010 A2011 L2012 r2016 hP2013 F2014 R2015 v2017 => ?_)
                rw [show (c2005 : Int32).toInt = 0 from e2006, show (c2007 : Int32).toInt = 9 from e2008] at R2015
                show bp_G E PO NN ((170, 89, lv1995, [.int r2016, .int y1998, .ref (E.1 + 11)], 0, 0) :: gs, h2009, none)
                refine bn_cv (pc' := 92) (st := []) (args := [.int r2016, .int y1998]) bu_170_89 rfl rfl rfl (by decide) hP2013 bq_o11 (by decide) (by omega) rfl (Nat.le_of_ble_eq_true rfl) (Nat.le_of_ble_eq_true rfl) ?_
                have hb2022 := (F2014.2.2.2 (F1985.2.2.2 (F1956.2.2.2 (F1927.2.2.2 (F1907.2.2.2 (F1901.2.2.2 (F1893.2.2.2 (F1701.2.2.2 hc))))))))
                refine cx_207 hP2013 (by omega) (by omega) (fun h2018 A2019 hP2020 a2021 => ?_)
                have F2023 : rc_F s2010 A2011 L2012 s2010 A2019 L2012 := ⟨fun _ _ => rfl, fun c u => a2021 c (by omega) (by omega), rfl, id⟩
                show bp_G E PO NN ((170, 92, lv1995, [], 0, 0) :: gs, h2018, none)
                refine bp_inc (pc' := 95) bu_170_92 rfl (by decide) g1997 (by decide) (by omega) (by omega) (fun lv2024 y2027 F2025 g2026 e2028 => ?_)
                have g2029 := F2025 0 (.ref (E.1 + 20)) g2000 (by decide) (Or.inl rfl)
                have e2030 : y2027.toInt = 4 := by omega
                refine bp_go (pc' := 72) bu_170_95 rfl ?_
                refine bp_ld (pc' := 73) bu_170_72 rfl rfl (fun _ _ _ => rfl) g2026 rfl ?_
                refine bp_c (pc' := 74) (n := 4) bu_170_73 rfl rfl (fun _ _ _ => rfl) (by decide) (fun c2031 e2032 => ?_)
                refine bp_ic (pc' := 77) (pt := 98) bu_170_74 rfl rfl (fun k2033 => ?_) (fun k2033 => ?_)
                · replace k2033 : (c2031).toInt < (y2027).toInt := k2033
                  omega
                · replace k2033 : ¬ ((c2031).toInt < (y2027).toInt) := k2033
                  refine bp_ld (pc' := 78) bu_170_77 rfl rfl (fun _ _ _ => rfl) g2029 rfl ?_
                  refine bn_gr (pc' := 81) (t := 11) bu_170_78 rfl rfl (fun _ _ _ => rfl) hP2020 bq_o20 bq_r20_1 ?_
                  refine bp_ld (pc' := 82) bu_170_81 rfl rfl (fun _ _ _ => rfl) g2026 rfl ?_
                  refine bp_ld (pc' := 83) bu_170_82 rfl rfl (fun _ _ _ => rfl) g2029 rfl ?_
                  refine bp_c (pc' := 84) (n := 0) bu_170_83 rfl rfl (fun _ _ _ => rfl) (by decide) (fun c2034 e2035 => ?_)
                  refine bp_c (pc' := 86) (n := 9) bu_170_84 rfl rfl (fun _ _ _ => rfl) (by decide) (fun c2036 e2037 => ?_)
                  refine bn_cv (pc' := 89) (st := [.int y2027, .ref (E.1 + 11)]) (args := [.int c2036, .int c2034]) bu_170_86 rfl rfl rfl (by decide) hP2020 bq_o20 (by decide) (by omega) rfl (Nat.le_of_ble_eq_true rfl) (Nat.le_of_ble_eq_true rfl) ?_
                  refine cr_166 (σ := (py_nu K V 0 9 (py_nu K V 0 9 (py_nu K V 0 9 (py_nu K V 0 9 (py_go (py_ad (py_wr 3 (py_go σ).1 (py_go σ)).1 (py_wr 3 (py_go σ).1 (py_go σ))))))))) hP2020 (by simp only [List.length_cons]; omega) R2015 (rc_T_F hT (rc_F_t (rc_F_t (rc_F_t (rc_F_t (rc_F_t (rc_F_t (rc_F_t (rc_F_t (rc_F_t (rc_F_t (rc_F_t F1701 F1893) F1901) F1907) F1927) F1936) F1956) F1965) F1985) F1994) F2014) F2023)) (fun h2038 s2039 A2040 L2041 r2045 hP2042 F2043 R2044 v2046 => ?_)
                  rw [show (c2034 : Int32).toInt = 0 from e2035, show (c2036 : Int32).toInt = 9 from e2037] at R2044
                  show bp_G E PO NN ((170, 89, lv2024, [.int r2045, .int y2027, .ref (E.1 + 11)], 0, 0) :: gs, h2038, none)
                  refine bn_cv (pc' := 92) (st := []) (args := [.int r2045, .int y2027]) bu_170_89 rfl rfl rfl (by decide) hP2042 bq_o11 (by decide) (by omega) rfl (Nat.le_of_ble_eq_true rfl) (Nat.le_of_ble_eq_true rfl) ?_
                  have hb2051 := (F2043.2.2.2 (F2014.2.2.2 (F1985.2.2.2 (F1956.2.2.2 (F1927.2.2.2 (F1907.2.2.2 (F1901.2.2.2 (F1893.2.2.2 (F1701.2.2.2 hc)))))))))
                  refine cx_207 hP2042 (by omega) (by omega) (fun h2047 A2048 hP2049 a2050 => ?_)
                  have F2052 : rc_F s2039 A2040 L2041 s2039 A2048 L2041 := ⟨fun _ _ => rfl, fun c u => a2050 c (by omega) (by omega), rfl, id⟩
                  show bp_G E PO NN ((170, 92, lv2024, [], 0, 0) :: gs, h2047, none)
                  refine bp_inc (pc' := 95) bu_170_92 rfl (by decide) g2026 (by decide) (by omega) (by omega) (fun lv2053 y2056 F2054 g2055 e2057 => ?_)
                  have g2058 := F2054 0 (.ref (E.1 + 20)) g2029 (by decide) (Or.inl rfl)
                  have e2059 : y2056.toInt = 5 := by omega
                  refine bp_go (pc' := 72) bu_170_95 rfl ?_
                  refine bp_ld (pc' := 73) bu_170_72 rfl rfl (fun _ _ _ => rfl) g2055 rfl ?_
                  refine bp_c (pc' := 74) (n := 4) bu_170_73 rfl rfl (fun _ _ _ => rfl) (by decide) (fun c2060 e2061 => ?_)
                  refine bp_ic (pc' := 77) (pt := 98) bu_170_74 rfl rfl (fun k2062 => ?_) (fun k2062 => ?_)
                  · replace k2062 : (c2060).toInt < (y2056).toInt := k2062
                    refine bp_ld (pc' := 99) bu_170_98 rfl rfl (fun _ _ _ => rfl) g2058 rfl ?_
                    refine bp_c (pc' := 101) (n := 59) bu_170_99 rfl rfl (fun _ _ _ => rfl) (by decide) (fun c2063 e2064 => ?_)
                    refine bn_cv (pc' := 104) (st := []) (args := [.int c2063]) bu_170_101 rfl rfl rfl (by decide) hP2049 bq_o20 (by decide) (by omega) rfl (Nat.le_of_ble_eq_true rfl) (Nat.le_of_ble_eq_true rfl) ?_
                    refine cr_177 (σ := (py_nu K V 0 9 (py_nu K V 0 9 (py_nu K V 0 9 (py_nu K V 0 9 (py_nu K V 0 9 (py_go (py_ad (py_wr 3 (py_go σ).1 (py_go σ)).1 (py_wr 3 (py_go σ).1 (py_go σ)))))))))) (kc := 4) (by omega) hP2049 (by simp only [List.length_cons]; omega) R2044 (rc_T_F hT (rc_F_t (rc_F_t (rc_F_t (rc_F_t (rc_F_t (rc_F_t (rc_F_t (rc_F_t (rc_F_t (rc_F_t (rc_F_t (rc_F_t (rc_F_t F1701 F1893) F1901) F1907) F1927) F1936) F1956) F1965) F1985) F1994) F2014) F2023) F2043) F2052)) (fun h2065 s2066 A2067 L2068 hP2069 F2070 R2071 => ?_)
                    show bp_G E PO NN ((170, 104, lv2053, [], 0, 0) :: gs, h2065, none)
                    refine bp_rv bu_170_104 ?_
                    have ee : py_man K V Q σ = (py_mu K 4 (py_nu K V 0 9 (py_nu K V 0 9 (py_nu K V 0 9 (py_nu K V 0 9 (py_nu K V 0 9 (py_go (py_ad (py_wr 3 (py_go σ).1 (py_go σ)).1 (py_wr 3 (py_go σ).1 (py_go σ)))))))))) := by
                      unfold py_man py_five
                      rw [if_neg (by omega), if_pos ⟨hf1, hk1⟩, en, w1.1]
                    exact kk _ _ _ _ hP2069 (rc_F_t (rc_F_t (rc_F_t (rc_F_t (rc_F_t (rc_F_t (rc_F_t (rc_F_t (rc_F_t (rc_F_t (rc_F_t (rc_F_t (rc_F_t (rc_F_t F1701 F1893) F1901) F1907) F1927) F1936) F1956) F1965) F1985) F1994) F2014) F2023) F2043) F2052) F2070) (by rw [ee]; exact R2071)
                  · replace k2062 : ¬ ((c2060).toInt < (y2056).toInt) := k2062
                    omega
    · replace k1705 : ¬ (((s1697 2003)).toInt = (c1703).toInt) := k1705
      refine bp_ld (pc' := 31) bu_170_30 rfl rfl (fun _ _ _ => rfl) rfl rfl ?_
      refine bp_c (pc' := 32) (n := 1) bu_170_31 rfl rfl (fun _ _ _ => rfl) (by decide) (fun c2072 e2073 => ?_)
      refine bn_cv (pc' := 35) (st := []) (args := [.int c2072]) bu_170_32 rfl rfl rfl (by decide) hP1700 bq_o20 (by decide) (by omega) rfl (Nat.le_of_ble_eq_true rfl) (Nat.le_of_ble_eq_true rfl) ?_
      refine cr_176 (σ := (py_go σ)) (kn := 1) (by omega) (by decide) hP1700 R1702 (fun h2074 s2075 A2076 L2077 hP2078 F2079 R2080 => ?_)
      show bp_G E PO NN ((170, 35, _, [], 0, 0) :: gs, h2074, none)
      refine bp_rv bu_170_35 ?_
      have ee : py_man K V Q σ = py_fl 1 (py_go σ) := by
        unfold py_man
        rw [if_neg (by omega), if_neg (fun hh => by
          have p2 := p2 hh.1
          have p5 := hh.2
          omega)]
      exact kk _ _ _ _ hP2078 (rc_F_t F1701 F2079) (by rw [ee]; exact R2080)
  · replace k1695 : ¬ (((s 1104)).toInt < (c1693).toInt) := k1695
    refine bp_ld (pc' := 13) bu_170_12 rfl rfl (fun _ _ _ => rfl) rfl rfl ?_
    refine bp_c (pc' := 14) (n := 2) bu_170_13 rfl rfl (fun _ _ _ => rfl) (by decide) (fun c2081 e2082 => ?_)
    refine bn_cv (pc' := 17) (st := []) (args := [.int c2081]) bu_170_14 rfl rfl rfl (by decide) hP bq_o20 (by decide) (by omega) rfl (Nat.le_of_ble_eq_true rfl) (Nat.le_of_ble_eq_true rfl) ?_
    refine cr_176 (σ := σ) (kn := 2) (by omega) (by decide) hP hR (fun h2083 s2084 A2085 L2086 hP2087 F2088 R2089 => ?_)
    show bp_G E PO NN ((170, 17, _, [], 0, 0) :: gs, h2083, none)
    refine bp_rv bu_170_17 ?_
    have ee : py_man K V Q σ = py_fl 2 σ := if_pos (by omega)
    exact kk _ _ _ _ hP2087 F2088 (by rw [ee]; exact R2089)
theorem cr_174 {x9 y9 : Int32} (hS : ∀ ρ, en_SA E ρ (wl_o x9 y9) mt_SB) (hQ : ∀ i j, i < N → j < N → K i = 1 → K j = 1 → (Q i j = true ↔ L 24 i = L 24 j)) (hP : bm_P bq_T E h0 h s A L) (hd : gs.length + 50 ≤ 999) (hR : rc_R K V P N σ s L) (hT : rc_T K V P N s A L) (hc : 0 ≤ (s 1204).toInt ∧ (s 1204).toInt ≤ 432 ∧ 0 ≤ (s 1104).toInt ∧ (s 1104).toInt ≤ 6) (hf : σ.2.1 = 0) (kk : ∀ (h' : mm_H) (s' : Nat → Int32) (A' : Nat → Nat → Int32) (L' : Nat → Nat → Int64), bm_P bq_T E h0 h' s' A' L' → rc_F s A L s' A' L' → rc_R K V P N (py_tell K V Q σ) s' L' → bp_G E PO NN (mm_back none gs h')) : bp_G E PO NN ((174, 0, [(0, .ref (E.1 + 20))], [], 0, 0) :: gs, h, none) := by
  have q1 := hR.1
  have q2 := fun e => (hR.2.1 e).2.2.1
  have q3 := fun e => (hR.2.2 e).1
  unfold rc_k at q2
  have q2 := q2 hf
  refine bp_ld (pc' := 1) bu_174_0 rfl rfl (fun _ _ _ => rfl) rfl rfl ?_
  refine bn_gi (pc' := 4) (K := 2003) bu_174_1 rfl rfl (fun _ _ _ => rfl) hP bq_o20 bq_i20_3 rfl rfl ?_
  refine bp_c (pc' := 5) (n := 5) bu_174_4 rfl rfl (fun _ _ _ => rfl) (by decide) (fun c2090 e2091 => ?_)
  refine bp_ic (pc' := 8) (pt := 16) bu_174_5 rfl rfl (fun k2092 => ?_) (fun k2092 => ?_)
  · replace k2092 : ((s 2003)).toInt ≠ (c2090).toInt := k2092
    refine bp_c (pc' := 17) (n := -1) bu_174_16 rfl rfl (fun _ _ _ => rfl) (by decide) (fun c2093 e2094 => ?_)
    refine bp_st (pc' := 18) bu_174_17 rfl rfl (fun _ _ _ => rfl) rfl (by decide) (by decide) (fun lv2095 F2096 g2097 => ?_)
    have g2098 := F2096 0 (.ref (E.1 + 20)) rfl (by decide) (Or.inl rfl)
    refine bp_ld (pc' := 19) bu_174_18 rfl rfl (fun _ _ _ => rfl) g2097 rfl ?_
    refine bp_i0 (pc' := 22) (pt := 29) bu_174_19 rfl rfl (fun k2099 => ?_) (fun k2099 => ?_)
    · replace k2099 : (c2093).toInt ≠ 0 := k2099
      refine bp_ld (pc' := 30) bu_174_29 rfl rfl (fun _ _ _ => rfl) g2097 rfl ?_
      refine bp_c (pc' := 31) (n := 1) bu_174_30 rfl rfl (fun _ _ _ => rfl) (by decide) (fun c2100 e2101 => ?_)
      refine bp_ic (pc' := 34) (pt := 50) bu_174_31 rfl rfl (fun k2102 => ?_) (fun k2102 => ?_)
      · replace k2102 : (c2093).toInt < (c2100).toInt := k2102
        refine bp_ld (pc' := 51) bu_174_50 rfl rfl (fun _ _ _ => rfl) g2097 rfl ?_
        refine bp_c (pc' := 53) (n := 8) bu_174_51 rfl rfl (fun _ _ _ => rfl) (by decide) (fun c2103 e2104 => ?_)
        refine bp_ic (pc' := 56) (pt := 70) bu_174_53 rfl rfl (fun k2105 => ?_) (fun k2105 => ?_)
        · replace k2105 : (c2093).toInt < (c2103).toInt := k2105
          refine bp_ld (pc' := 71) bu_174_70 rfl rfl (fun _ _ _ => rfl) g2098 rfl ?_
          refine bp_c (pc' := 72) (n := 1) bu_174_71 rfl rfl (fun _ _ _ => rfl) (by decide) (fun c2106 e2107 => ?_)
          refine bn_cv (pc' := 75) (st := []) (args := [.int c2106]) bu_174_72 rfl rfl rfl (by decide) hP bq_o20 (by decide) (by omega) rfl (Nat.le_of_ble_eq_true rfl) (Nat.le_of_ble_eq_true rfl) ?_
          refine cr_176 (σ := σ) (kn := 1) (by omega) (by decide) hP hR (fun h2108 s2109 A2110 L2111 hP2112 F2113 R2114 => ?_)
          show bp_G E PO NN ((174, 75, lv2095, [], 0, 0) :: gs, h2108, none)
          refine bp_rv bu_174_75 ?_
          have ee : py_tell K V Q σ = py_fl 1 σ := by
            unfold py_tell
            rw [if_neg (not_not_intro hf), if_neg (by omega), if_neg (by omega), if_neg (by omega), if_neg (by omega), if_neg (by omega)]
          exact kk _ _ _ _ hP2112 F2113 (by rw [ee]; exact R2114)
        · replace k2105 : ¬ ((c2093).toInt < (c2103).toInt) := k2105
          omega
      · replace k2102 : ¬ ((c2093).toInt < (c2100).toInt) := k2102
        omega
    · replace k2099 : ¬ ((c2093).toInt ≠ 0) := k2099
      omega
  · replace k2092 : ¬ (((s 2003)).toInt ≠ (c2090).toInt) := k2092
    refine bp_ld (pc' := 9) bu_174_8 rfl rfl (fun _ _ _ => rfl) rfl rfl ?_
    refine bn_gl (pc' := 12) bu_174_9 rfl rfl (fun _ _ _ => rfl) hP bq_o20 bq_f20_4 ?_
    refine bn_l2i (pc' := 13) bu_174_12 rfl (fun x2115 e2116 => ?_)
    have w2117 := e2116 (by omega) (by omega)
    refine bp_go (pc' := 17) bu_174_13 rfl ?_
    refine bp_st (pc' := 18) bu_174_17 rfl rfl (fun _ _ _ => rfl) rfl (by decide) (by decide) (fun lv2118 F2119 g2120 => ?_)
    have g2121 := F2119 0 (.ref (E.1 + 20)) rfl (by decide) (Or.inl rfl)
    refine bp_ld (pc' := 19) bu_174_18 rfl rfl (fun _ _ _ => rfl) g2120 rfl ?_
    refine bp_i0 (pc' := 22) (pt := 29) bu_174_19 rfl rfl (fun k2122 => ?_) (fun k2122 => ?_)
    · replace k2122 : (x2115).toInt ≠ 0 := k2122
      refine bp_ld (pc' := 30) bu_174_29 rfl rfl (fun _ _ _ => rfl) g2120 rfl ?_
      refine bp_c (pc' := 31) (n := 1) bu_174_30 rfl rfl (fun _ _ _ => rfl) (by decide) (fun c2123 e2124 => ?_)
      refine bp_ic (pc' := 34) (pt := 50) bu_174_31 rfl rfl (fun k2125 => ?_) (fun k2125 => ?_)
      · replace k2125 : (x2115).toInt < (c2123).toInt := k2125
        refine bp_ld (pc' := 51) bu_174_50 rfl rfl (fun _ _ _ => rfl) g2120 rfl ?_
        refine bp_c (pc' := 53) (n := 8) bu_174_51 rfl rfl (fun _ _ _ => rfl) (by decide) (fun c2126 e2127 => ?_)
        refine bp_ic (pc' := 56) (pt := 70) bu_174_53 rfl rfl (fun k2128 => ?_) (fun k2128 => ?_)
        · replace k2128 : (x2115).toInt < (c2126).toInt := k2128
          refine bp_ld (pc' := 71) bu_174_70 rfl rfl (fun _ _ _ => rfl) g2121 rfl ?_
          refine bp_c (pc' := 72) (n := 1) bu_174_71 rfl rfl (fun _ _ _ => rfl) (by decide) (fun c2129 e2130 => ?_)
          refine bn_cv (pc' := 75) (st := []) (args := [.int c2129]) bu_174_72 rfl rfl rfl (by decide) hP bq_o20 (by decide) (by omega) rfl (Nat.le_of_ble_eq_true rfl) (Nat.le_of_ble_eq_true rfl) ?_
          refine cr_176 (σ := σ) (kn := 1) (by omega) (by decide) hP hR (fun h2131 s2132 A2133 L2134 hP2135 F2136 R2137 => ?_)
          show bp_G E PO NN ((174, 75, lv2118, [], 0, 0) :: gs, h2131, none)
          refine bp_rv bu_174_75 ?_
          have ee : py_tell K V Q σ = py_fl 1 σ := by
            unfold py_tell
            rw [if_neg (not_not_intro hf), if_neg (by omega), if_neg (by omega), if_neg (by omega), if_neg (by omega), if_neg (by omega)]
          exact kk _ _ _ _ hP2135 F2136 (by rw [ee]; exact R2137)
        · replace k2128 : ¬ ((x2115).toInt < (c2126).toInt) := k2128
          refine bp_ld (pc' := 57) bu_174_56 rfl rfl (fun _ _ _ => rfl) g2120 rfl ?_
          refine bp_c (pc' := 59) (n := 11) bu_174_57 rfl rfl (fun _ _ _ => rfl) (by decide) (fun c2138 e2139 => ?_)
          refine bp_ic (pc' := 62) (pt := 70) bu_174_59 rfl rfl (fun k2140 => ?_) (fun k2140 => ?_)
          · replace k2140 : (c2138).toInt < (x2115).toInt := k2140
            refine bp_ld (pc' := 71) bu_174_70 rfl rfl (fun _ _ _ => rfl) g2121 rfl ?_
            refine bp_c (pc' := 72) (n := 1) bu_174_71 rfl rfl (fun _ _ _ => rfl) (by decide) (fun c2141 e2142 => ?_)
            refine bn_cv (pc' := 75) (st := []) (args := [.int c2141]) bu_174_72 rfl rfl rfl (by decide) hP bq_o20 (by decide) (by omega) rfl (Nat.le_of_ble_eq_true rfl) (Nat.le_of_ble_eq_true rfl) ?_
            refine cr_176 (σ := σ) (kn := 1) (by omega) (by decide) hP hR (fun h2143 s2144 A2145 L2146 hP2147 F2148 R2149 => ?_)
            show bp_G E PO NN ((174, 75, lv2118, [], 0, 0) :: gs, h2143, none)
            refine bp_rv bu_174_75 ?_
            have ee : py_tell K V Q σ = py_fl 1 σ := by
              unfold py_tell
              rw [if_neg (not_not_intro hf), if_neg (by omega), if_neg (by omega), if_neg (by omega), if_neg (by omega), if_neg (by omega)]
            exact kk _ _ _ _ hP2147 F2148 (by rw [ee]; exact R2149)
          · replace k2140 : ¬ ((c2138).toInt < (x2115).toInt) := k2140
            refine bp_ld (pc' := 63) bu_174_62 rfl rfl (fun _ _ _ => rfl) g2121 rfl ?_
            refine bp_ld (pc' := 64) bu_174_63 rfl rfl (fun _ _ _ => rfl) g2120 rfl ?_
            refine bn_cv (pc' := 67) (st := []) (args := [.int x2115]) bu_174_64 rfl rfl rfl (by decide) hP bq_o20 (by decide) (by omega) rfl (Nat.le_of_ble_eq_true rfl) (Nat.le_of_ble_eq_true rfl) ?_
            refine cr_171 (by omega) hP (by simp only [List.length_cons]; omega) hf (by omega) hR hT hc (fun h2150 s2151 A2152 L2153 hP2154 F2155 R2156 => ?_)
            show bp_G E PO NN ((174, 67, lv2118, [], 0, 0) :: gs, h2150, none)
            refine bp_go (pc' := 75) bu_174_67 rfl ?_
            refine bp_rv bu_174_75 ?_
            have ee : py_tell K V Q σ = rc_nm K V (x2115).toInt σ := by
              unfold py_tell rc_nm
              rw [if_neg (not_not_intro hf), if_neg (by omega), if_neg (by omega)]
              by_cases e8 : (x2115).toInt = 8
              · rw [if_pos (by omega), if_pos e8]
              by_cases e9 : (x2115).toInt = 9
              · rw [if_neg (by omega), if_pos (by omega), if_neg e8, if_pos e9]
              · rw [if_neg (by omega), if_neg (by omega), if_pos (by omega), if_neg e8, if_neg e9]
            exact kk _ _ _ _ hP2154 F2155 (by rw [ee]; exact R2156)
      · replace k2125 : ¬ ((x2115).toInt < (c2123).toInt) := k2125
        refine bp_ld (pc' := 35) bu_174_34 rfl rfl (fun _ _ _ => rfl) g2120 rfl ?_
        refine bp_c (pc' := 37) (n := 7) bu_174_35 rfl rfl (fun _ _ _ => rfl) (by decide) (fun c2157 e2158 => ?_)
        refine bp_ic (pc' := 40) (pt := 50) bu_174_37 rfl rfl (fun k2159 => ?_) (fun k2159 => ?_)
        · replace k2159 : (c2157).toInt < (x2115).toInt := k2159
          refine bp_ld (pc' := 51) bu_174_50 rfl rfl (fun _ _ _ => rfl) g2120 rfl ?_
          refine bp_c (pc' := 53) (n := 8) bu_174_51 rfl rfl (fun _ _ _ => rfl) (by decide) (fun c2160 e2161 => ?_)
          refine bp_ic (pc' := 56) (pt := 70) bu_174_53 rfl rfl (fun k2162 => ?_) (fun k2162 => ?_)
          · replace k2162 : (x2115).toInt < (c2160).toInt := k2162
            refine bp_ld (pc' := 71) bu_174_70 rfl rfl (fun _ _ _ => rfl) g2121 rfl ?_
            refine bp_c (pc' := 72) (n := 1) bu_174_71 rfl rfl (fun _ _ _ => rfl) (by decide) (fun c2163 e2164 => ?_)
            refine bn_cv (pc' := 75) (st := []) (args := [.int c2163]) bu_174_72 rfl rfl rfl (by decide) hP bq_o20 (by decide) (by omega) rfl (Nat.le_of_ble_eq_true rfl) (Nat.le_of_ble_eq_true rfl) ?_
            refine cr_176 (σ := σ) (kn := 1) (by omega) (by decide) hP hR (fun h2165 s2166 A2167 L2168 hP2169 F2170 R2171 => ?_)
            show bp_G E PO NN ((174, 75, lv2118, [], 0, 0) :: gs, h2165, none)
            refine bp_rv bu_174_75 ?_
            have ee : py_tell K V Q σ = py_fl 1 σ := by
              unfold py_tell
              rw [if_neg (not_not_intro hf), if_neg (by omega), if_neg (by omega), if_neg (by omega), if_neg (by omega), if_neg (by omega)]
            exact kk _ _ _ _ hP2169 F2170 (by rw [ee]; exact R2171)
          · replace k2162 : ¬ ((x2115).toInt < (c2160).toInt) := k2162
            refine bp_ld (pc' := 57) bu_174_56 rfl rfl (fun _ _ _ => rfl) g2120 rfl ?_
            refine bp_c (pc' := 59) (n := 11) bu_174_57 rfl rfl (fun _ _ _ => rfl) (by decide) (fun c2172 e2173 => ?_)
            refine bp_ic (pc' := 62) (pt := 70) bu_174_59 rfl rfl (fun k2174 => ?_) (fun k2174 => ?_)
            · replace k2174 : (c2172).toInt < (x2115).toInt := k2174
              refine bp_ld (pc' := 71) bu_174_70 rfl rfl (fun _ _ _ => rfl) g2121 rfl ?_
              refine bp_c (pc' := 72) (n := 1) bu_174_71 rfl rfl (fun _ _ _ => rfl) (by decide) (fun c2175 e2176 => ?_)
              refine bn_cv (pc' := 75) (st := []) (args := [.int c2175]) bu_174_72 rfl rfl rfl (by decide) hP bq_o20 (by decide) (by omega) rfl (Nat.le_of_ble_eq_true rfl) (Nat.le_of_ble_eq_true rfl) ?_
              refine cr_176 (σ := σ) (kn := 1) (by omega) (by decide) hP hR (fun h2177 s2178 A2179 L2180 hP2181 F2182 R2183 => ?_)
              show bp_G E PO NN ((174, 75, lv2118, [], 0, 0) :: gs, h2177, none)
              refine bp_rv bu_174_75 ?_
              have ee : py_tell K V Q σ = py_fl 1 σ := by
                unfold py_tell
                rw [if_neg (not_not_intro hf), if_neg (by omega), if_neg (by omega), if_neg (by omega), if_neg (by omega), if_neg (by omega)]
              exact kk _ _ _ _ hP2181 F2182 (by rw [ee]; exact R2183)
            · replace k2174 : ¬ ((c2172).toInt < (x2115).toInt) := k2174
              refine bp_ld (pc' := 63) bu_174_62 rfl rfl (fun _ _ _ => rfl) g2121 rfl ?_
              refine bp_ld (pc' := 64) bu_174_63 rfl rfl (fun _ _ _ => rfl) g2120 rfl ?_
              refine bn_cv (pc' := 67) (st := []) (args := [.int x2115]) bu_174_64 rfl rfl rfl (by decide) hP bq_o20 (by decide) (by omega) rfl (Nat.le_of_ble_eq_true rfl) (Nat.le_of_ble_eq_true rfl) ?_
              refine cr_171 (by omega) hP (by simp only [List.length_cons]; omega) hf (by omega) hR hT hc (fun h2184 s2185 A2186 L2187 hP2188 F2189 R2190 => ?_)
              show bp_G E PO NN ((174, 67, lv2118, [], 0, 0) :: gs, h2184, none)
              refine bp_go (pc' := 75) bu_174_67 rfl ?_
              refine bp_rv bu_174_75 ?_
              have ee : py_tell K V Q σ = rc_nm K V (x2115).toInt σ := by
                unfold py_tell rc_nm
                rw [if_neg (not_not_intro hf), if_neg (by omega), if_neg (by omega)]
                by_cases e8 : (x2115).toInt = 8
                · rw [if_pos (by omega), if_pos e8]
                by_cases e9 : (x2115).toInt = 9
                · rw [if_neg (by omega), if_pos (by omega), if_neg e8, if_pos e9]
                · rw [if_neg (by omega), if_neg (by omega), if_pos (by omega), if_neg e8, if_neg e9]
              exact kk _ _ _ _ hP2188 F2189 (by rw [ee]; exact R2190)
        · replace k2159 : ¬ ((c2157).toInt < (x2115).toInt) := k2159
          refine bp_ld (pc' := 41) bu_174_40 rfl rfl (fun _ _ _ => rfl) g2121 rfl ?_
          refine bp_ld (pc' := 42) bu_174_41 rfl rfl (fun _ _ _ => rfl) g2120 rfl ?_
          refine bp_c (pc' := 43) (n := 1) bu_174_42 rfl rfl (fun _ _ _ => rfl) (by decide) (fun c2191 e2192 => ?_)
          refine bp_sub (pc' := 44) bu_174_43 rfl (by omega) (by omega) (fun v2193 e2194 => ?_)
          refine bn_cv (pc' := 47) (st := []) (args := [.int v2193]) bu_174_44 rfl rfl rfl (by decide) hP bq_o20 (by decide) (by omega) rfl (Nat.le_of_ble_eq_true rfl) (Nat.le_of_ble_eq_true rfl) ?_
          refine cr_169 hS hP (by simp only [List.length_cons]; omega) hR hT hc hf (by omega) (fun h2195 s2196 A2197 L2198 hP2199 F2200 R2201 => ?_)
          show bp_G E PO NN ((174, 47, lv2118, [], 0, 0) :: gs, h2195, none)
          refine bp_go (pc' := 75) bu_174_47 rfl ?_
          refine bp_rv bu_174_75 ?_
          have ee : py_tell K V Q σ = py_law K σ := by
            unfold py_tell
            rw [if_neg (not_not_intro hf), if_neg (by omega), if_pos (by omega)]
          exact kk _ _ _ _ hP2199 F2200 (by rw [ee]; exact R2201)
    · replace k2122 : ¬ ((x2115).toInt ≠ 0) := k2122
      refine bp_ld (pc' := 23) bu_174_22 rfl rfl (fun _ _ _ => rfl) g2121 rfl ?_
      refine bn_cv (pc' := 26) (st := []) (args := []) bu_174_23 rfl rfl rfl (by decide) hP bq_o20 (by decide) (by omega) rfl (Nat.le_of_ble_eq_true rfl) (Nat.le_of_ble_eq_true rfl) ?_
      refine cr_170 hQ hP (by simp only [List.length_cons]; omega) hR hT hc hf (by omega) (fun h2202 s2203 A2204 L2205 hP2206 F2207 R2208 => ?_)
      show bp_G E PO NN ((174, 26, lv2118, [], 0, 0) :: gs, h2202, none)
      refine bp_go (pc' := 75) bu_174_26 rfl ?_
      refine bp_rv bu_174_75 ?_
      have ee : py_tell K V Q σ = py_man K V Q σ := by
        unfold py_tell
        rw [if_neg (not_not_intro hf), if_pos (by omega)]
      exact kk _ _ _ _ hP2206 F2207 (by rw [ee]; exact R2208)
end CR
