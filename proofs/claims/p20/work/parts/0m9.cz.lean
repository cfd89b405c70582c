/-! BY HAND: the class's Reader, 4: laws, men, tells (wip/p4/mkc6.py) -/
theorem bu_169_0 : mm_at mt_P 169 0 = some ((0, 1, .aload_n 0, 0, 0, 0, 0), 6, 1, 1, 4, 0, 0, 0) := rfl
theorem bu_169_1 : mm_at mt_P 169 1 = some ((1, 3, .getfield 9, 4, 1, 0, 275), 6, 1, 1, 4, 0, 0, 0) := rfl
theorem bu_169_4 : mm_at mt_P 169 4 = some ((4, 3, .getfield 118, 6, 0, 0, 178), 6, 1, 1, 4, 0, 0, 0) := rfl
theorem bu_169_7 : mm_at mt_P 169 7 = some ((7, 1, .astore_n 2, 0, 0, 0, 0), 6, 1, 1, 4, 0, 0, 0) := rfl
theorem bu_169_8 : mm_at mt_P 169 8 = some ((8, 1, .aload_n 2, 0, 0, 0, 0), 6, 1, 1, 4, 0, 0, 0) := rfl
theorem bu_169_9 : mm_at mt_P 169 9 = some ((9, 3, .invokevirtual 122, 135, 0, 0, 681), 6, 1, 1, 4, 0, 0, 0) := rfl
theorem bu_169_12 : mm_at mt_P 169 12 = some ((12, 1, .istore_n 3, 0, 0, 0, 0), 6, 1, 1, 4, 0, 0, 0) := rfl
theorem bu_169_13 : mm_at mt_P 169 13 = some ((13, 1, .aload_n 0, 0, 0, 0, 0), 6, 1, 1, 4, 0, 0, 0) := rfl
theorem bu_169_14 : mm_at mt_P 169 14 = some ((14, 3, .invokevirtual 49, 161, 0, 0, 633), 6, 1, 1, 4, 0, 0, 0) := rfl
theorem bu_169_17 : mm_at mt_P 169 17 = some ((17, 1, .aload_n 0, 0, 0, 0, 0), 6, 1, 1, 4, 0, 0, 0) := rfl
theorem bu_169_18 : mm_at mt_P 169 18 = some ((18, 2, .bipush 61, 0, 0, 0, 0), 6, 1, 1, 4, 0, 0, 0) := rfl
theorem bu_169_20 : mm_at mt_P 169 20 = some ((20, 3, .invokevirtual 96, 177, 0, 0, 669), 6, 1, 1, 4, 0, 0, 0) := rfl
theorem bu_169_23 : mm_at mt_P 169 23 = some ((23, 1, .iconst 0, 0, 0, 0, 0), 6, 1, 1, 4, 0, 0, 0) := rfl
theorem bu_169_24 : mm_at mt_P 169 24 = some ((24, 2, .istore 4, 0, 0, 0, 0), 6, 1, 1, 4, 0, 0, 0) := rfl
theorem bu_169_26 : mm_at mt_P 169 26 = some ((26, 2, .iload 4, 0, 0, 0, 0), 6, 1, 1, 4, 0, 0, 0) := rfl
theorem bu_169_28 : mm_at mt_P 169 28 = some ((28, 1, .iconst 4, 0, 0, 0, 0), 6, 1, 1, 4, 0, 0, 0) := rfl
theorem bu_169_29 : mm_at mt_P 169 29 = some ((29, 3, .if_icmp .ge 82, 0, 0, 0, 0), 6, 1, 1, 4, 0, 0, 0) := rfl
theorem bu_169_32 : mm_at mt_P 169 32 = some ((32, 1, .aload_n 0, 0, 0, 0, 0), 6, 1, 1, 4, 0, 0, 0) := rfl
theorem bu_169_33 : mm_at mt_P 169 33 = some ((33, 2, .bipush 12, 0, 0, 0, 0), 6, 1, 1, 4, 0, 0, 0) := rfl
theorem bu_169_35 : mm_at mt_P 169 35 = some ((35, 3, .invokevirtual 128, 164, 0, 0, 685), 6, 1, 1, 4, 0, 0, 0) := rfl
theorem bu_169_38 : mm_at mt_P 169 38 = some ((38, 3, .ifCond .eq 73, 0, 0, 0, 0), 6, 1, 1, 4, 0, 0, 0) := rfl
theorem bu_169_41 : mm_at mt_P 169 41 = some ((41, 1, .aload_n 0, 0, 0, 0, 0), 6, 1, 1, 4, 0, 0, 0) := rfl
theorem bu_169_42 : mm_at mt_P 169 42 = some ((42, 3, .invokevirtual 49, 161, 0, 0, 633), 6, 1, 1, 4, 0, 0, 0) := rfl
theorem bu_169_45 : mm_at mt_P 169 45 = some ((45, 1, .aload_n 0, 0, 0, 0, 0), 6, 1, 1, 4, 0, 0, 0) := rfl
theorem bu_169_46 : mm_at mt_P 169 46 = some ((46, 1, .iload_n 1, 0, 0, 0, 0), 6, 1, 1, 4, 0, 0, 0) := rfl
theorem bu_169_47 : mm_at mt_P 169 47 = some ((47, 1, .iconst 0, 0, 0, 0, 0), 6, 1, 1, 4, 0, 0, 0) := rfl
theorem bu_169_48 : mm_at mt_P 169 48 = some ((48, 3, .invokevirtual 132, 172, 0, 0, 689), 6, 1, 1, 4, 0, 0, 0) := rfl
theorem bu_169_51 : mm_at mt_P 169 51 = some ((51, 1, .aload_n 0, 0, 0, 0, 0), 6, 1, 1, 4, 0, 0, 0) := rfl
theorem bu_169_52 : mm_at mt_P 169 52 = some ((52, 2, .bipush 60, 0, 0, 0, 0), 6, 1, 1, 4, 0, 0, 0) := rfl
theorem bu_169_54 : mm_at mt_P 169 54 = some ((54, 3, .invokevirtual 96, 177, 0, 0, 669), 6, 1, 1, 4, 0, 0, 0) := rfl
theorem bu_169_57 : mm_at mt_P 169 57 = some ((57, 1, .aload_n 0, 0, 0, 0, 0), 6, 1, 1, 4, 0, 0, 0) := rfl
theorem bu_169_58 : mm_at mt_P 169 58 = some ((58, 1, .iload_n 1, 0, 0, 0, 0), 6, 1, 1, 4, 0, 0, 0) := rfl
theorem bu_169_59 : mm_at mt_P 169 59 = some ((59, 1, .iconst 0, 0, 0, 0, 0), 6, 1, 1, 4, 0, 0, 0) := rfl
theorem bu_169_60 : mm_at mt_P 169 60 = some ((60, 3, .invokevirtual 132, 172, 0, 0, 689), 6, 1, 1, 4, 0, 0, 0) := rfl
theorem bu_169_63 : mm_at mt_P 169 63 = some ((63, 1, .aload_n 2, 0, 0, 0, 0), 6, 1, 1, 4, 0, 0, 0) := rfl
theorem bu_169_64 : mm_at mt_P 169 64 = some ((64, 3, .invokevirtual 122, 135, 0, 0, 681), 6, 1, 1, 4, 0, 0, 0) := rfl
theorem bu_169_67 : mm_at mt_P 169 67 = some ((67, 2, .istore 5, 0, 0, 0, 0), 6, 1, 1, 4, 0, 0, 0) := rfl
theorem bu_169_69 : mm_at mt_P 169 69 = some ((69, 1, .aload_n 2, 0, 0, 0, 0), 6, 1, 1, 4, 0, 0, 0) := rfl
theorem bu_169_70 : mm_at mt_P 169 70 = some ((70, 1, .iconst 3, 0, 0, 0, 0), 6, 1, 1, 4, 0, 0, 0) := rfl
theorem bu_169_71 : mm_at mt_P 169 71 = some ((71, 1, .iconst 0, 0, 0, 0, 0), 6, 1, 1, 4, 0, 0, 0) := rfl
theorem bu_169_72 : mm_at mt_P 169 72 = some ((72, 3, .invokevirtual 135, 136, 0, 0, 697), 6, 1, 1, 4, 0, 0, 0) := rfl
theorem bu_169_75 : mm_at mt_P 169 75 = some ((75, 1, .aload_n 0, 0, 0, 0, 0), 6, 1, 1, 4, 0, 0, 0) := rfl
theorem bu_169_76 : mm_at mt_P 169 76 = some ((76, 2, .bipush 13, 0, 0, 0, 0), 6, 1, 1, 4, 0, 0, 0) := rfl
theorem bu_169_78 : mm_at mt_P 169 78 = some ((78, 3, .invokevirtual 138, 178, 0, 0, 710), 6, 1, 1, 4, 0, 0, 0) := rfl
theorem bu_169_81 : mm_at mt_P 169 81 = some ((81, 1, .aload_n 0, 0, 0, 0, 0), 6, 1, 1, 4, 0, 0, 0) := rfl
theorem bu_169_82 : mm_at mt_P 169 82 = some ((82, 1, .iload_n 1, 0, 0, 0, 0), 6, 1, 1, 4, 0, 0, 0) := rfl
theorem bu_169_83 : mm_at mt_P 169 83 = some ((83, 1, .iconst 0, 0, 0, 0, 0), 6, 1, 1, 4, 0, 0, 0) := rfl
theorem bu_169_84 : mm_at mt_P 169 84 = some ((84, 3, .invokevirtual 132, 172, 0, 0, 689), 6, 1, 1, 4, 0, 0, 0) := rfl
theorem bu_169_87 : mm_at mt_P 169 87 = some ((87, 1, .aload_n 2, 0, 0, 0, 0), 6, 1, 1, 4, 0, 0, 0) := rfl
theorem bu_169_88 : mm_at mt_P 169 88 = some ((88, 1, .iconst 2, 0, 0, 0, 0), 6, 1, 1, 4, 0, 0, 0) := rfl
theorem bu_169_89 : mm_at mt_P 169 89 = some ((89, 1, .iconst 0, 0, 0, 0, 0), 6, 1, 1, 4, 0, 0, 0) := rfl
theorem bu_169_90 : mm_at mt_P 169 90 = some ((90, 3, .invokevirtual 135, 136, 0, 0, 697), 6, 1, 1, 4, 0, 0, 0) := rfl
theorem bu_169_93 : mm_at mt_P 169 93 = some ((93, 1, .aload_n 2, 0, 0, 0, 0), 6, 1, 1, 4, 0, 0, 0) := rfl
theorem bu_169_94 : mm_at mt_P 169 94 = some ((94, 2, .iload 5, 0, 0, 0, 0), 6, 1, 1, 4, 0, 0, 0) := rfl
theorem bu_169_96 : mm_at mt_P 169 96 = some ((96, 3, .invokevirtual 141, 132, 0, 0, 714), 6, 1, 1, 4, 0, 0, 0) := rfl
theorem bu_169_99 : mm_at mt_P 169 99 = some ((99, 1, .aload_n 0, 0, 0, 0, 0), 6, 1, 1, 4, 0, 0, 0) := rfl
theorem bu_169_100 : mm_at mt_P 169 100 = some ((100, 2, .bipush 14, 0, 0, 0, 0), 6, 1, 1, 4, 0, 0, 0) := rfl
theorem bu_169_102 : mm_at mt_P 169 102 = some ((102, 3, .invokevirtual 138, 178, 0, 0, 710), 6, 1, 1, 4, 0, 0, 0) := rfl
theorem bu_169_105 : mm_at mt_P 169 105 = some ((105, 3, .iinc 4 1, 0, 0, 0, 0), 6, 1, 1, 4, 0, 0, 0) := rfl
theorem bu_169_108 : mm_at mt_P 169 108 = some ((108, 3, .goto (-82), 0, 0, 0, 0), 6, 1, 1, 4, 0, 0, 0) := rfl
theorem bu_169_111 : mm_at mt_P 169 111 = some ((111, 1, .aload_n 0, 0, 0, 0, 0), 6, 1, 1, 4, 0, 0, 0) := rfl
theorem bu_169_112 : mm_at mt_P 169 112 = some ((112, 2, .bipush 12, 0, 0, 0, 0), 6, 1, 1, 4, 0, 0, 0) := rfl
theorem bu_169_114 : mm_at mt_P 169 114 = some ((114, 3, .invokevirtual 128, 164, 0, 0, 685), 6, 1, 1, 4, 0, 0, 0) := rfl
theorem bu_169_117 : mm_at mt_P 169 117 = some ((117, 3, .ifCond .eq 8, 0, 0, 0, 0), 6, 1, 1, 4, 0, 0, 0) := rfl
theorem bu_169_120 : mm_at mt_P 169 120 = some ((120, 1, .aload_n 0, 0, 0, 0, 0), 6, 1, 1, 4, 0, 0, 0) := rfl
theorem bu_169_121 : mm_at mt_P 169 121 = some ((121, 1, .iconst 2, 0, 0, 0, 0), 6, 1, 1, 4, 0, 0, 0) := rfl
theorem bu_169_122 : mm_at mt_P 169 122 = some ((122, 3, .invokevirtual 71, 176, 0, 0, 645), 6, 1, 1, 4, 0, 0, 0) := rfl
theorem bu_169_125 : mm_at mt_P 169 125 = some ((125, 1, .aload_n 0, 0, 0, 0, 0), 6, 1, 1, 4, 0, 0, 0) := rfl
theorem bu_169_126 : mm_at mt_P 169 126 = some ((126, 1, .iload_n 1, 0, 0, 0, 0), 6, 1, 1, 4, 0, 0, 0) := rfl
theorem bu_169_127 : mm_at mt_P 169 127 = some ((127, 1, .iconst 0, 0, 0, 0, 0), 6, 1, 1, 4, 0, 0, 0) := rfl
theorem bu_169_128 : mm_at mt_P 169 128 = some ((128, 3, .invokevirtual 132, 172, 0, 0, 689), 6, 1, 1, 4, 0, 0, 0) := rfl
theorem bu_169_131 : mm_at mt_P 169 131 = some ((131, 1, .aload_n 2, 0, 0, 0, 0), 6, 1, 1, 4, 0, 0, 0) := rfl
theorem bu_169_132 : mm_at mt_P 169 132 = some ((132, 1, .iconst 2, 0, 0, 0, 0), 6, 1, 1, 4, 0, 0, 0) := rfl
theorem bu_169_133 : mm_at mt_P 169 133 = some ((133, 1, .iconst 0, 0, 0, 0, 0), 6, 1, 1, 4, 0, 0, 0) := rfl
theorem bu_169_134 : mm_at mt_P 169 134 = some ((134, 3, .invokevirtual 135, 136, 0, 0, 697), 6, 1, 1, 4, 0, 0, 0) := rfl
theorem bu_169_137 : mm_at mt_P 169 137 = some ((137, 1, .aload_n 2, 0, 0, 0, 0), 6, 1, 1, 4, 0, 0, 0) := rfl
theorem bu_169_138 : mm_at mt_P 169 138 = some ((138, 1, .iload_n 1, 0, 0, 0, 0), 6, 1, 1, 4, 0, 0, 0) := rfl
theorem bu_169_139 : mm_at mt_P 169 139 = some ((139, 1, .iload_n 3, 0, 0, 0, 0), 6, 1, 1, 4, 0, 0, 0) := rfl
theorem bu_169_140 : mm_at mt_P 169 140 = some ((140, 3, .invokevirtual 144, 144, 0, 0, 718), 6, 1, 1, 4, 0, 0, 0) := rfl
theorem bu_169_143 : mm_at mt_P 169 143 = some ((143, 1, .aload_n 0, 0, 0, 0, 0), 6, 1, 1, 4, 0, 0, 0) := rfl
theorem bu_169_144 : mm_at mt_P 169 144 = some ((144, 2, .bipush 59, 0, 0, 0, 0), 6, 1, 1, 4, 0, 0, 0) := rfl
theorem bu_169_146 : mm_at mt_P 169 146 = some ((146, 3, .invokevirtual 96, 177, 0, 0, 669), 6, 1, 1, 4, 0, 0, 0) := rfl
theorem bu_169_149 : mm_at mt_P 169 149 = some ((149, 1, .return_, 0, 0, 0, 0), 6, 1, 1, 4, 0, 0, 0) := rfl
section CR
variable {K V P : Nat → Int} {σ : py_S} {N : Nat} {E : mm_E} {PO : mm_C → Prop} {NN : Nat} {h0 h : mm_H} {s : Nat → Int32} {A : Nat → Nat → Int32} {L : Nat → Nat → Int64} {gs : List mm_F}
set_option maxHeartbeats 4000000 in
theorem cr_169l {x9 y9 l f9 : Int32} (hS : ∀ ρ, en_SA E ρ (wl_o x9 y9) mt_SB) {s0 : Nat → Int32} {A0 : Nat → Nat → Int32} {L0 : Nat → Nat → Int64} (hT : rc_T K V P N s0 A0 L0) (hd : gs.length + 40 ≤ 999) : ∀ (c : Nat) (h : mm_H) (s : Nat → Int32) (A : Nat → Nat → Int32) (L : Nat → Nat → Int64) (σ : py_S) (lv : mm_V) (o : Option Value) (i : Int32), bm_P bq_T E h0 h s A L → rc_F s0 A0 L0 s A L → rc_R K V P N σ s L → (0 ≤ (s 1204).toInt ∧ (s 1204).toInt ≤ 432 ∧ 0 ≤ (s 1104).toInt ∧ (s 1104).toInt ≤ 6) → mm_get lv 0 = some (.ref (E.1 + 20)) → mm_get lv 1 = some (.int l) → mm_get lv 2 = some (.ref (E.1 + 12)) → mm_get lv 3 = some (.int f9) → mm_get lv 4 = some (.int i) → i.toInt = 4 - (c : Int) → 0 ≤ i.toInt → (∀ (h' : mm_H) (s' : Nat → Int32) (A' : Nat → Nat → Int32) (L' : Nat → Nat → Int64), bm_P bq_T E h0 h' s' A' L' → rc_F s0 A0 L0 s' A' L' → rc_R K V P N (py_mu K 4 (py_x K true 0 (py_ifs K c σ))) s' L' → bp_G E PO NN (mm_back none gs h')) → bp_G E PO NN ((169, 26, lv, [], 0, 0) :: gs, h, o) := by
  intro c
  induction c with
  | zero =>
    intro h s A L σ lv o i hP hF hR hc g0 g1 g2 g3 g4 hi i0 kk
    have q1 := hR.1
    have q2 := fun e => (hR.2.1 e).2.2.1
    have q3 := fun e => (hR.2.2 e).1
    unfold rc_k at q2
    refine bp_ld (pc' := 28) bu_169_26 rfl rfl (fun _ _ _ => rfl) g4 rfl ?_
    refine bp_c (pc' := 29) (n := 4) bu_169_28 rfl rfl (fun _ _ _ => rfl) (by decide) (fun c1406 e1407 => ?_)
    refine bp_ic (pc' := 32) (pt := 111) bu_169_29 rfl rfl (fun k1408 => ?_) (fun k1408 => ?_)
    · replace k1408 : (c1406).toInt ≤ (i).toInt := k1408
      refine bp_ld (pc' := 112) bu_169_111 rfl rfl (fun _ _ _ => rfl) g0 rfl ?_
      refine bp_c (pc' := 114) (n := 12) bu_169_112 rfl rfl (fun _ _ _ => rfl) (by decide) (fun c1409 e1410 => ?_)
      refine bn_cv (pc' := 117) (st := []) (args := [.int c1409]) bu_169_114 rfl rfl rfl (by decide) hP bq_o20 (by decide) (by omega) rfl (Nat.le_of_ble_eq_true rfl) (Nat.le_of_ble_eq_true rfl) ?_
      refine cr_164 (c := c1409) hP (fun r1411 p1412 => ?_)
      show bp_G E PO NN ((169, 117, lv, [.int r1411], 0, 0) :: gs, h, none)
      refine bp_i0 (pc' := 120) (pt := 125) bu_169_117 rfl rfl (fun k1413 => ?_) (fun k1413 => ?_)
      · replace k1413 : (r1411).toInt = 0 := k1413
        refine bp_ld (pc' := 126) bu_169_125 rfl rfl (fun _ _ _ => rfl) g0 rfl ?_
        refine bp_ld (pc' := 127) bu_169_126 rfl rfl (fun _ _ _ => rfl) g1 rfl ?_
        refine bp_c (pc' := 128) (n := 0) bu_169_127 rfl rfl (fun _ _ _ => rfl) (by decide) (fun c1414 e1415 => ?_)
        refine bn_cv (pc' := 131) (st := []) (args := [.int c1414, .int l]) bu_169_128 rfl rfl rfl (by decide) hP bq_o20 (by decide) (by omega) rfl (Nat.le_of_ble_eq_true rfl) (Nat.le_of_ble_eq_true rfl) ?_
        refine cr_sum hS 6 0 rfl σ _ _ _ _ _ _ _ (by omega) (by simp only [List.length_cons]; omega) hP hR (rc_T_F hT hF) hc (fun h1416 s1417 A1418 L1419 σ1423 hP1420 F1421 R1422 Y1424 => ?_)
        have e1425 : py_x K true 0 σ = σ1423 := Y1424.1.trans (py_x_z (fun u => ⟨(R1422.2.1 u).2.1.1, (Y1424.2 u).2.2 rfl⟩))
        subst e1425
        show bp_G E PO NN ((169, 131, lv, [], 0, 0) :: gs, h1416, none)
        refine bp_ld (pc' := 132) bu_169_131 rfl rfl (fun _ _ _ => rfl) g2 rfl ?_
        refine bp_c (pc' := 133) (n := 2) bu_169_132 rfl rfl (fun _ _ _ => rfl) (by decide) (fun c1426 e1427 => ?_)
        refine bp_c (pc' := 134) (n := 0) bu_169_133 rfl rfl (fun _ _ _ => rfl) (by decide) (fun c1428 e1429 => ?_)
        refine bn_cv (pc' := 137) (st := []) (args := [.int c1428, .int c1426]) bu_169_134 rfl rfl rfl (by decide) hP1420 bq_o12 (by decide) (by omega) rfl (Nat.le_of_ble_eq_true rfl) (Nat.le_of_ble_eq_true rfl) ?_
        refine cr_136 hP1420 (F1421.2.2.2 hc) (fun h1430 s1431 A1432 hP1433 f1434 a1435 z1436 => ?_)
        show bp_G E PO NN ((169, 137, lv, [], 0, 0) :: gs, h1430, none)
        refine bp_ld (pc' := 138) bu_169_137 rfl rfl (fun _ _ _ => rfl) g2 rfl ?_
        refine bp_ld (pc' := 139) bu_169_138 rfl rfl (fun _ _ _ => rfl) g1 rfl ?_
        refine bp_ld (pc' := 140) bu_169_139 rfl rfl (fun _ _ _ => rfl) g3 rfl ?_
        refine bn_cv (pc' := 143) (st := []) (args := [.int f9, .int l]) bu_169_140 rfl rfl rfl (by decide) hP1433 bq_o12 (by decide) (by omega) rfl (Nat.le_of_ble_eq_true rfl) (Nat.le_of_ble_eq_true rfl) ?_
        refine cr_144 hP1433 z1436 (fun h1437 s1438 A1439 hP1440 f1441 a1442 z1443 => ?_)
        show bp_G E PO NN ((169, 143, lv, [], 0, 0) :: gs, h1437, none)
        refine bp_ld (pc' := 144) bu_169_143 rfl rfl (fun _ _ _ => rfl) g0 rfl ?_
        refine bp_c (pc' := 146) (n := 59) bu_169_144 rfl rfl (fun _ _ _ => rfl) (by decide) (fun c1444 e1445 => ?_)
        refine bn_cv (pc' := 149) (st := []) (args := [.int c1444]) bu_169_146 rfl rfl rfl (by decide) hP1440 bq_o20 (by decide) (by omega) rfl (Nat.le_of_ble_eq_true rfl) (Nat.le_of_ble_eq_true rfl) ?_
        refine cr_177 (σ := (py_x K true 0 σ)) (kc := 4) (by omega) hP1440 (by simp only [List.length_cons]; omega) (rc_R_e (rc_R_e R1422 f1434) f1441) (rc_T_F hT (rc_F_t (rc_F_t (rc_F_t hF F1421) (rc_F_e f1434 a1435 z1436)) (rc_F_e f1441 a1442 z1443))) (fun h1446 s1447 A1448 L1449 hP1450 F1451 R1452 => ?_)
        show bp_G E PO NN ((169, 149, lv, [], 0, 0) :: gs, h1446, none)
        refine bp_rv bu_169_149 ?_
        have ee : py_ifs K 0 σ = σ := if_neg (fun hh => by
          have q2 := q2 hh.1
          have q4 := hh.2
          omega)
        exact kk _ _ _ _ hP1450 (rc_F_t (rc_F_t (rc_F_t (rc_F_t hF F1421) (rc_F_e f1434 a1435 z1436)) (rc_F_e f1441 a1442 z1443)) F1451) (by rw [ee]; exact R1452)
      · replace k1413 : ¬ ((r1411).toInt = 0) := k1413
        have hf : σ.2.1 = 0 := by
          by_cases e : σ.2.1 = 0
          · exact e
          · have := q3 e
            omega
        have q2' := q2 hf
        have hk : K σ.1 = 32 := by omega
        refine bp_ld (pc' := 121) bu_169_120 rfl rfl (fun _ _ _ => rfl) g0 rfl ?_
        refine bp_c (pc' := 122) (n := 2) bu_169_121 rfl rfl (fun _ _ _ => rfl) (by decide) (fun c1453 e1454 => ?_)
        refine bn_cv (pc' := 125) (st := []) (args := [.int c1453]) bu_169_122 rfl rfl rfl (by decide) hP bq_o20 (by decide) (by omega) rfl (Nat.le_of_ble_eq_true rfl) (Nat.le_of_ble_eq_true rfl) ?_
        refine cr_176 (σ := σ) (kn := 2) (by omega) (by decide) hP hR (fun h1455 s1456 A1457 L1458 hP1459 F1460 R1461 => ?_)
        show bp_G E PO NN ((169, 125, lv, [], 0, 0) :: gs, h1455, none)
        refine bp_ld (pc' := 126) bu_169_125 rfl rfl (fun _ _ _ => rfl) g0 rfl ?_
        refine bp_ld (pc' := 127) bu_169_126 rfl rfl (fun _ _ _ => rfl) g1 rfl ?_
        refine bp_c (pc' := 128) (n := 0) bu_169_127 rfl rfl (fun _ _ _ => rfl) (by decide) (fun c1462 e1463 => ?_)
        refine bn_cv (pc' := 131) (st := []) (args := [.int c1462, .int l]) bu_169_128 rfl rfl rfl (by decide) hP1459 bq_o20 (by decide) (by omega) rfl (Nat.le_of_ble_eq_true rfl) (Nat.le_of_ble_eq_true rfl) ?_
        refine cr_sum hS 6 0 rfl (py_fl 2 σ) _ _ _ _ _ _ _ (by omega) (by simp only [List.length_cons]; omega) hP1459 R1461 (rc_T_F hT (rc_F_t hF F1460)) (F1460.2.2.2 hc) (fun h1464 s1465 A1466 L1467 σ1471 hP1468 F1469 R1470 Y1472 => ?_)
        have e1473 : py_x K true 0 (py_fl 2 σ) = σ1471 := Y1472.1.trans (py_x_z (fun u => ⟨(R1470.2.1 u).2.1.1, (Y1472.2 u).2.2 rfl⟩))
        subst e1473
        show bp_G E PO NN ((169, 131, lv, [], 0, 0) :: gs, h1464, none)
        refine bp_ld (pc' := 132) bu_169_131 rfl rfl (fun _ _ _ => rfl) g2 rfl ?_
        refine bp_c (pc' := 133) (n := 2) bu_169_132 rfl rfl (fun _ _ _ => rfl) (by decide) (fun c1474 e1475 => ?_)
        refine bp_c (pc' := 134) (n := 0) bu_169_133 rfl rfl (fun _ _ _ => rfl) (by decide) (fun c1476 e1477 => ?_)
        refine bn_cv (pc' := 137) (st := []) (args := [.int c1476, .int c1474]) bu_169_134 rfl rfl rfl (by decide) hP1468 bq_o12 (by decide) (by omega) rfl (Nat.le_of_ble_eq_true rfl) (Nat.le_of_ble_eq_true rfl) ?_
        refine cr_136 hP1468 (F1469.2.2.2 (F1460.2.2.2 hc)) (fun h1478 s1479 A1480 hP1481 f1482 a1483 z1484 => ?_)
        show bp_G E PO NN ((169, 137, lv, [], 0, 0) :: gs, h1478, none)
        refine bp_ld (pc' := 138) bu_169_137 rfl rfl (fun _ _ _ => rfl) g2 rfl ?_
        refine bp_ld (pc' := 139) bu_169_138 rfl rfl (fun _ _ _ => rfl) g1 rfl ?_
        refine bp_ld (pc' := 140) bu_169_139 rfl rfl (fun _ _ _ => rfl) g3 rfl ?_
        refine bn_cv (pc' := 143) (st := []) (args := [.int f9, .int l]) bu_169_140 rfl rfl rfl (by decide) hP1481 bq_o12 (by decide) (by omega) rfl (Nat.le_of_ble_eq_true rfl) (Nat.le_of_ble_eq_true rfl) ?_
        refine cr_144 hP1481 z1484 (fun h1485 s1486 A1487 hP1488 f1489 a1490 z1491 => ?_)
        show bp_G E PO NN ((169, 143, lv, [], 0, 0) :: gs, h1485, none)
        refine bp_ld (pc' := 144) bu_169_143 rfl rfl (fun _ _ _ => rfl) g0 rfl ?_
        refine bp_c (pc' := 146) (n := 59) bu_169_144 rfl rfl (fun _ _ _ => rfl) (by decide) (fun c1492 e1493 => ?_)
        refine bn_cv (pc' := 149) (st := []) (args := [.int c1492]) bu_169_146 rfl rfl rfl (by decide) hP1488 bq_o20 (by decide) (by omega) rfl (Nat.le_of_ble_eq_true rfl) (Nat.le_of_ble_eq_true rfl) ?_
        refine cr_177 (σ := (py_x K true 0 (py_fl 2 σ))) (kc := 4) (by omega) hP1488 (by simp only [List.length_cons]; omega) (rc_R_e (rc_R_e R1470 f1482) f1489) (rc_T_F hT (rc_F_t (rc_F_t (rc_F_t (rc_F_t hF F1460) F1469) (rc_F_e f1482 a1483 z1484)) (rc_F_e f1489 a1490 z1491))) (fun h1494 s1495 A1496 L1497 hP1498 F1499 R1500 => ?_)
        show bp_G E PO NN ((169, 149, lv, [], 0, 0) :: gs, h1494, none)
        refine bp_rv bu_169_149 ?_
        have ee : py_ifs K 0 σ = py_fl 2 σ := if_pos ⟨hf, hk⟩
        exact kk _ _ _ _ hP1498 (rc_F_t (rc_F_t (rc_F_t (rc_F_t (rc_F_t hF F1460) F1469) (rc_F_e f1482 a1483 z1484)) (rc_F_e f1489 a1490 z1491)) F1499) (by rw [ee]; exact R1500)
    · replace k1408 : ¬ ((c1406).toInt ≤ (i).toInt) := k1408
      exfalso
      omega
  | succ c ih =>
    intro h s A L σ lv o i hP hF hR hc g0 g1 g2 g3 g4 hi i0 kk
    have q1 := hR.1
    have q2 := fun e => (hR.2.1 e).2.2.1
    have q3 := fun e => (hR.2.2 e).1
    unfold rc_k at q2
    refine bp_ld (pc' := 28) bu_169_26 rfl rfl (fun _ _ _ => rfl) g4 rfl ?_
    refine bp_c (pc' := 29) (n := 4) bu_169_28 rfl rfl (fun _ _ _ => rfl) (by decide) (fun c1501 e1502 => ?_)
    refine bp_ic (pc' := 32) (pt := 111) bu_169_29 rfl rfl (fun k1503 => ?_) (fun k1503 => ?_)
    · replace k1503 : (c1501).toInt ≤ (i).toInt := k1503
      refine bp_ld (pc' := 112) bu_169_111 rfl rfl (fun _ _ _ => rfl) g0 rfl ?_
      refine bp_c (pc' := 114) (n := 12) bu_169_112 rfl rfl (fun _ _ _ => rfl) (by decide) (fun c1504 e1505 => ?_)
      refine bn_cv (pc' := 117) (st := []) (args := [.int c1504]) bu_169_114 rfl rfl rfl (by decide) hP bq_o20 (by decide) (by omega) rfl (Nat.le_of_ble_eq_true rfl) (Nat.le_of_ble_eq_true rfl) ?_
      refine cr_164 (c := c1504) hP (fun r1506 p1507 => ?_)
      show bp_G E PO NN ((169, 117, lv, [.int r1506], 0, 0) :: gs, h, none)
      refine bp_i0 (pc' := 120) (pt := 125) bu_169_117 rfl rfl (fun k1508 => ?_) (fun k1508 => ?_)
      · replace k1508 : (r1506).toInt = 0 := k1508
        refine bp_ld (pc' := 126) bu_169_125 rfl rfl (fun _ _ _ => rfl) g0 rfl ?_
        refine bp_ld (pc' := 127) bu_169_126 rfl rfl (fun _ _ _ => rfl) g1 rfl ?_
        refine bp_c (pc' := 128) (n := 0) bu_169_127 rfl rfl (fun _ _ _ => rfl) (by decide) (fun c1509 e1510 => ?_)
        refine bn_cv (pc' := 131) (st := []) (args := [.int c1509, .int l]) bu_169_128 rfl rfl rfl (by decide) hP bq_o20 (by decide) (by omega) rfl (Nat.le_of_ble_eq_true rfl) (Nat.le_of_ble_eq_true rfl) ?_
        refine cr_sum hS 6 0 rfl σ _ _ _ _ _ _ _ (by omega) (by simp only [List.length_cons]; omega) hP hR (rc_T_F hT hF) hc (fun h1511 s1512 A1513 L1514 σ1518 hP1515 F1516 R1517 Y1519 => ?_)
        have e1520 : py_x K true 0 σ = σ1518 := Y1519.1.trans (py_x_z (fun u => ⟨(R1517.2.1 u).2.1.1, (Y1519.2 u).2.2 rfl⟩))
        subst e1520
        show bp_G E PO NN ((169, 131, lv, [], 0, 0) :: gs, h1511, none)
        refine bp_ld (pc' := 132) bu_169_131 rfl rfl (fun _ _ _ => rfl) g2 rfl ?_
        refine bp_c (pc' := 133) (n := 2) bu_169_132 rfl rfl (fun _ _ _ => rfl) (by decide) (fun c1521 e1522 => ?_)
        refine bp_c (pc' := 134) (n := 0) bu_169_133 rfl rfl (fun _ _ _ => rfl) (by decide) (fun c1523 e1524 => ?_)
        refine bn_cv (pc' := 137) (st := []) (args := [.int c1523, .int c1521]) bu_169_134 rfl rfl rfl (by decide) hP1515 bq_o12 (by decide) (by omega) rfl (Nat.le_of_ble_eq_true rfl) (Nat.le_of_ble_eq_true rfl) ?_
        refine cr_136 hP1515 (F1516.2.2.2 hc) (fun h1525 s1526 A1527 hP1528 f1529 a1530 z1531 => ?_)
        show bp_G E PO NN ((169, 137, lv, [], 0, 0) :: gs, h1525, none)
        refine bp_ld (pc' := 138) bu_169_137 rfl rfl (fun _ _ _ => rfl) g2 rfl ?_
        refine bp_ld (pc' := 139) bu_169_138 rfl rfl (fun _ _ _ => rfl) g1 rfl ?_
        refine bp_ld (pc' := 140) bu_169_139 rfl rfl (fun _ _ _ => rfl) g3 rfl ?_
        refine bn_cv (pc' := 143) (st := []) (args := [.int f9, .int l]) bu_169_140 rfl rfl rfl (by decide) hP1528 bq_o12 (by decide) (by omega) rfl (Nat.le_of_ble_eq_true rfl) (Nat.le_of_ble_eq_true rfl) ?_
        refine cr_144 hP1528 z1531 (fun h1532 s1533 A1534 hP1535 f1536 a1537 z1538 => ?_)
        show bp_G E PO NN ((169, 143, lv, [], 0, 0) :: gs, h1532, none)
        refine bp_ld (pc' := 144) bu_169_143 rfl rfl (fun _ _ _ => rfl) g0 rfl ?_
        refine bp_c (pc' := 146) (n := 59) bu_169_144 rfl rfl (fun _ _ _ => rfl) (by decide) (fun c1539 e1540 => ?_)
        refine bn_cv (pc' := 149) (st := []) (args := [.int c1539]) bu_169_146 rfl rfl rfl (by decide) hP1535 bq_o20 (by decide) (by omega) rfl (Nat.le_of_ble_eq_true rfl) (Nat.le_of_ble_eq_true rfl) ?_
        refine cr_177 (σ := (py_x K true 0 σ)) (kc := 4) (by omega) hP1535 (by simp only [List.length_cons]; omega) (rc_R_e (rc_R_e R1517 f1529) f1536) (rc_T_F hT (rc_F_t (rc_F_t (rc_F_t hF F1516) (rc_F_e f1529 a1530 z1531)) (rc_F_e f1536 a1537 z1538))) (fun h1541 s1542 A1543 L1544 hP1545 F1546 R1547 => ?_)
        show bp_G E PO NN ((169, 149, lv, [], 0, 0) :: gs, h1541, none)
        refine bp_rv bu_169_149 ?_
        have ee : py_ifs K (c + 1) σ = σ := if_neg (fun hh => by
          have q2 := q2 hh.1
          have q4 := hh.2
          omega)
        exact kk _ _ _ _ hP1545 (rc_F_t (rc_F_t (rc_F_t (rc_F_t hF F1516) (rc_F_e f1529 a1530 z1531)) (rc_F_e f1536 a1537 z1538)) F1546) (by rw [ee]; exact R1547)
      · replace k1508 : ¬ ((r1506).toInt = 0) := k1508
        refine bp_ld (pc' := 121) bu_169_120 rfl rfl (fun _ _ _ => rfl) g0 rfl ?_
        refine bp_c (pc' := 122) (n := 2) bu_169_121 rfl rfl (fun _ _ _ => rfl) (by decide) (fun c1548 e1549 => ?_)
        refine bn_cv (pc' := 125) (st := []) (args := [.int c1548]) bu_169_122 rfl rfl rfl (by decide) hP bq_o20 (by decide) (by omega) rfl (Nat.le_of_ble_eq_true rfl) (Nat.le_of_ble_eq_true rfl) ?_
        refine cr_176 (σ := σ) (kn := 2) (by omega) (by decide) hP hR (fun h1550 s1551 A1552 L1553 hP1554 F1555 R1556 => ?_)
        show bp_G E PO NN ((169, 125, lv, [], 0, 0) :: gs, h1550, none)
        refine bp_ld (pc' := 126) bu_169_125 rfl rfl (fun _ _ _ => rfl) g0 rfl ?_
        refine bp_ld (pc' := 127) bu_169_126 rfl rfl (fun _ _ _ => rfl) g1 rfl ?_
        refine bp_c (pc' := 128) (n := 0) bu_169_127 rfl rfl (fun _ _ _ => rfl) (by decide) (fun c1557 e1558 => ?_)
        refine bn_cv (pc' := 131) (st := []) (args := [.int c1557, .int l]) bu_169_128 rfl rfl rfl (by decide) hP1554 bq_o20 (by decide) (by omega) rfl (Nat.le_of_ble_eq_true rfl) (Nat.le_of_ble_eq_true rfl) ?_
        refine cr_sum hS 6 0 rfl (py_fl 2 σ) _ _ _ _ _ _ _ (by omega) (by simp only [List.length_cons]; omega) hP1554 R1556 (rc_T_F hT (rc_F_t hF F1555)) (F1555.2.2.2 hc) (fun h1559 s1560 A1561 L1562 σ1566 hP1563 F1564 R1565 Y1567 => ?_)
        have e1568 : py_x K true 0 (py_fl 2 σ) = σ1566 := Y1567.1.trans (py_x_z (fun u => ⟨(R1565.2.1 u).2.1.1, (Y1567.2 u).2.2 rfl⟩))
        subst e1568
        show bp_G E PO NN ((169, 131, lv, [], 0, 0) :: gs, h1559, none)
        refine bp_ld (pc' := 132) bu_169_131 rfl rfl (fun _ _ _ => rfl) g2 rfl ?_
        refine bp_c (pc' := 133) (n := 2) bu_169_132 rfl rfl (fun _ _ _ => rfl) (by decide) (fun c1569 e1570 => ?_)
        refine bp_c (pc' := 134) (n := 0) bu_169_133 rfl rfl (fun _ _ _ => rfl) (by decide) (fun c1571 e1572 => ?_)
        refine bn_cv (pc' := 137) (st := []) (args := [.int c1571, .int c1569]) bu_169_134 rfl rfl rfl (by decide) hP1563 bq_o12 (by decide) (by omega) rfl (Nat.le_of_ble_eq_true rfl) (Nat.le_of_ble_eq_true rfl) ?_
        refine cr_136 hP1563 (F1564.2.2.2 (F1555.2.2.2 hc)) (fun h1573 s1574 A1575 hP1576 f1577 a1578 z1579 => ?_)
        show bp_G E PO NN ((169, 137, lv, [], 0, 0) :: gs, h1573, none)
        refine bp_ld (pc' := 138) bu_169_137 rfl rfl (fun _ _ _ => rfl) g2 rfl ?_
        refine bp_ld (pc' := 139) bu_169_138 rfl rfl (fun _ _ _ => rfl) g1 rfl ?_
        refine bp_ld (pc' := 140) bu_169_139 rfl rfl (fun _ _ _ => rfl) g3 rfl ?_
        refine bn_cv (pc' := 143) (st := []) (args := [.int f9, .int l]) bu_169_140 rfl rfl rfl (by decide) hP1576 bq_o12 (by decide) (by omega) rfl (Nat.le_of_ble_eq_true rfl) (Nat.le_of_ble_eq_true rfl) ?_
        refine cr_144 hP1576 z1579 (fun h1580 s1581 A1582 hP1583 f1584 a1585 z1586 => ?_)
        show bp_G E PO NN ((169, 143, lv, [], 0, 0) :: gs, h1580, none)
        refine bp_ld (pc' := 144) bu_169_143 rfl rfl (fun _ _ _ => rfl) g0 rfl ?_
        refine bp_c (pc' := 146) (n := 59) bu_169_144 rfl rfl (fun _ _ _ => rfl) (by decide) (fun c1587 e1588 => ?_)
        refine bn_cv (pc' := 149) (st := []) (args := [.int c1587]) bu_169_146 rfl rfl rfl (by decide) hP1583 bq_o20 (by decide) (by omega) rfl (Nat.le_of_ble_eq_true rfl) (Nat.le_of_ble_eq_true rfl) ?_
        refine cr_177 (σ := (py_x K true 0 (py_fl 2 σ))) (kc := 4) (by omega) hP1583 (by simp only [List.length_cons]; omega) (rc_R_e (rc_R_e R1565 f1577) f1584) (rc_T_F hT (rc_F_t (rc_F_t (rc_F_t (rc_F_t hF F1555) F1564) (rc_F_e f1577 a1578 z1579)) (rc_F_e f1584 a1585 z1586))) (fun h1589 s1590 A1591 L1592 hP1593 F1594 R1595 => ?_)
        show bp_G E PO NN ((169, 149, lv, [], 0, 0) :: gs, h1589, none)
        refine bp_rv bu_169_149 ?_
        exfalso
        omega
    · replace k1503 : ¬ ((c1501).toInt ≤ (i).toInt) := k1503
      refine bp_ld (pc' := 33) bu_169_32 rfl rfl (fun _ _ _ => rfl) g0 rfl ?_
      refine bp_c (pc' := 35) (n := 12) bu_169_33 rfl rfl (fun _ _ _ => rfl) (by decide) (fun c1596 e1597 => ?_)
      refine bn_cv (pc' := 38) (st := []) (args := [.int c1596]) bu_169_35 rfl rfl rfl (by decide) hP bq_o20 (by decide) (by omega) rfl (Nat.le_of_ble_eq_true rfl) (Nat.le_of_ble_eq_true rfl) ?_
      refine cr_164 (c := c1596) hP (fun r1598 p1599 => ?_)
      show bp_G E PO NN ((169, 38, lv, [.int r1598], 0, 0) :: gs, h, none)
      refine bp_i0 (pc' := 41) (pt := 111) bu_169_38 rfl rfl (fun k1600 => ?_) (fun k1600 => ?_)
      · replace k1600 : (r1598).toInt = 0 := k1600
        refine bp_ld (pc' := 112) bu_169_111 rfl rfl (fun _ _ _ => rfl) g0 rfl ?_
        refine bp_c (pc' := 114) (n := 12) bu_169_112 rfl rfl (fun _ _ _ => rfl) (by decide) (fun c1601 e1602 => ?_)
        refine bn_cv (pc' := 117) (st := []) (args := [.int c1601]) bu_169_114 rfl rfl rfl (by decide) hP bq_o20 (by decide) (by omega) rfl (Nat.le_of_ble_eq_true rfl) (Nat.le_of_ble_eq_true rfl) ?_
        refine cr_164 (c := c1601) hP (fun r1603 p1604 => ?_)
        show bp_G E PO NN ((169, 117, lv, [.int r1603], 0, 0) :: gs, h, none)
        refine bp_i0 (pc' := 120) (pt := 125) bu_169_117 rfl rfl (fun k1605 => ?_) (fun k1605 => ?_)
        · replace k1605 : (r1603).toInt = 0 := k1605
          refine bp_ld (pc' := 126) bu_169_125 rfl rfl (fun _ _ _ => rfl) g0 rfl ?_
          refine bp_ld (pc' := 127) bu_169_126 rfl rfl (fun _ _ _ => rfl) g1 rfl ?_
          refine bp_c (pc' := 128) (n := 0) bu_169_127 rfl rfl (fun _ _ _ => rfl) (by decide) (fun c1606 e1607 => ?_)
          refine bn_cv (pc' := 131) (st := []) (args := [.int c1606, .int l]) bu_169_128 rfl rfl rfl (by decide) hP bq_o20 (by decide) (by omega) rfl (Nat.le_of_ble_eq_true rfl) (Nat.le_of_ble_eq_true rfl) ?_
          refine cr_sum hS 6 0 rfl σ _ _ _ _ _ _ _ (by omega) (by simp only [List.length_cons]; omega) hP hR (rc_T_F hT hF) hc (fun h1608 s1609 A1610 L1611 σ1615 hP1612 F1613 R1614 Y1616 => ?_)
          have e1617 : py_x K true 0 σ = σ1615 := Y1616.1.trans (py_x_z (fun u => ⟨(R1614.2.1 u).2.1.1, (Y1616.2 u).2.2 rfl⟩))
          subst e1617
          show bp_G E PO NN ((169, 131, lv, [], 0, 0) :: gs, h1608, none)
          refine bp_ld (pc' := 132) bu_169_131 rfl rfl (fun _ _ _ => rfl) g2 rfl ?_
          refine bp_c (pc' := 133) (n := 2) bu_169_132 rfl rfl (fun _ _ _ => rfl) (by decide) (fun c1618 e1619 => ?_)
          refine bp_c (pc' := 134) (n := 0) bu_169_133 rfl rfl (fun _ _ _ => rfl) (by decide) (fun c1620 e1621 => ?_)
          refine bn_cv (pc' := 137) (st := []) (args := [.int c1620, .int c1618]) bu_169_134 rfl rfl rfl (by decide) hP1612 bq_o12 (by decide) (by omega) rfl (Nat.le_of_ble_eq_true rfl) (Nat.le_of_ble_eq_true rfl) ?_
          refine cr_136 hP1612 (F1613.2.2.2 hc) (fun h1622 s1623 A1624 hP1625 f1626 a1627 z1628 => ?_)
          show bp_G E PO NN ((169, 137, lv, [], 0, 0) :: gs, h1622, none)
          refine bp_ld (pc' := 138) bu_169_137 rfl rfl (fun _ _ _ => rfl) g2 rfl ?_
          refine bp_ld (pc' := 139) bu_169_138 rfl rfl (fun _ _ _ => rfl) g1 rfl ?_
          refine bp_ld (pc' := 140) bu_169_139 rfl rfl (fun _ _ _ => rfl) g3 rfl ?_
          refine bn_cv (pc' := 143) (st := []) (args := [.int f9, .int l]) bu_169_140 rfl rfl rfl (by decide) hP1625 bq_o12 (by decide) (by omega) rfl (Nat.le_of_ble_eq_true rfl) (Nat.le_of_ble_eq_true rfl) ?_
          refine cr_144 hP1625 z1628 (fun h1629 s1630 A1631 hP1632 f1633 a1634 z1635 => ?_)
          show bp_G E PO NN ((169, 143, lv, [], 0, 0) :: gs, h1629, none)
          refine bp_ld (pc' := 144) bu_169_143 rfl rfl (fun _ _ _ => rfl) g0 rfl ?_
          refine bp_c (pc' := 146) (n := 59) bu_169_144 rfl rfl (fun _ _ _ => rfl) (by decide) (fun c1636 e1637 => ?_)
          refine bn_cv (pc' := 149) (st := []) (args := [.int c1636]) bu_169_146 rfl rfl rfl (by decide) hP1632 bq_o20 (by decide) (by omega) rfl (Nat.le_of_ble_eq_true rfl) (Nat.le_of_ble_eq_true rfl) ?_
          refine cr_177 (σ := (py_x K true 0 σ)) (kc := 4) (by omega) hP1632 (by simp only [List.length_cons]; omega) (rc_R_e (rc_R_e R1614 f1626) f1633) (rc_T_F hT (rc_F_t (rc_F_t (rc_F_t hF F1613) (rc_F_e f1626 a1627 z1628)) (rc_F_e f1633 a1634 z1635))) (fun h1638 s1639 A1640 L1641 hP1642 F1643 R1644 => ?_)
          show bp_G E PO NN ((169, 149, lv, [], 0, 0) :: gs, h1638, none)
          refine bp_rv bu_169_149 ?_
          have ee : py_ifs K (c + 1) σ = σ := if_neg (fun hh => by
            have q2 := q2 hh.1
            have q4 := hh.2
            omega)
          exact kk _ _ _ _ hP1642 (rc_F_t (rc_F_t (rc_F_t (rc_F_t hF F1613) (rc_F_e f1626 a1627 z1628)) (rc_F_e f1633 a1634 z1635)) F1643) (by rw [ee]; exact R1644)
        · replace k1605 : ¬ ((r1603).toInt = 0) := k1605
          refine bp_ld (pc' := 121) bu_169_120 rfl rfl (fun _ _ _ => rfl) g0 rfl ?_
          refine bp_c (pc' := 122) (n := 2) bu_169_121 rfl rfl (fun _ _ _ => rfl) (by decide) (fun c1645 e1646 => ?_)
          refine bn_cv (pc' := 125) (st := []) (args := [.int c1645]) bu_169_122 rfl rfl rfl (by decide) hP bq_o20 (by decide) (by omega) rfl (Nat.le_of_ble_eq_true rfl) (Nat.le_of_ble_eq_true rfl) ?_
          refine cr_176 (σ := σ) (kn := 2) (by omega) (by decide) hP hR (fun h1647 s1648 A1649 L1650 hP1651 F1652 R1653 => ?_)
          show bp_G E PO NN ((169, 125, lv, [], 0, 0) :: gs, h1647, none)
          refine bp_ld (pc' := 126) bu_169_125 rfl rfl (fun _ _ _ => rfl) g0 rfl ?_
          refine bp_ld (pc' := 127) bu_169_126 rfl rfl (fun _ _ _ => rfl) g1 rfl ?_
          refine bp_c (pc' := 128) (n := 0) bu_169_127 rfl rfl (fun _ _ _ => rfl) (by decide) (fun c1654 e1655 => ?_)
          refine bn_cv (pc' := 131) (st := []) (args := [.int c1654, .int l]) bu_169_128 rfl rfl rfl (by decide) hP1651 bq_o20 (by decide) (by omega) rfl (Nat.le_of_ble_eq_true rfl) (Nat.le_of_ble_eq_true rfl) ?_
          refine cr_sum hS 6 0 rfl (py_fl 2 σ) _ _ _ _ _ _ _ (by omega) (by simp only [List.length_cons]; omega) hP1651 R1653 (rc_T_F hT (rc_F_t hF F1652)) (F1652.2.2.2 hc) (fun h1656 s1657 A1658 L1659 σ1663 hP1660 F1661 R1662 Y1664 => ?_)
          have e1665 : py_x K true 0 (py_fl 2 σ) = σ1663 := Y1664.1.trans (py_x_z (fun u => ⟨(R1662.2.1 u).2.1.1, (Y1664.2 u).2.2 rfl⟩))
          subst e1665
          show bp_G E PO NN ((169, 131, lv, [], 0, 0) :: gs, h1656, none)
          refine bp_ld (pc' := 132) bu_169_131 rfl rfl (fun _ _ _ => rfl) g2 rfl ?_
          refine bp_c (pc' := 133) (n := 2) bu_169_132 rfl rfl (fun _ _ _ => rfl) (by decide) (fun c1666 e1667 => ?_)
          refine bp_c (pc' := 134) (n := 0) bu_169_133 rfl rfl (fun _ _ _ => rfl) (by decide) (fun c1668 e1669 => ?_)
          refine bn_cv (pc' := 137) (st := []) (args := [.int c1668, .int c1666]) bu_169_134 rfl rfl rfl (by decide) hP1660 bq_o12 (by decide) (by omega) rfl (Nat.le_of_ble_eq_true rfl) (Nat.le_of_ble_eq_true rfl) ?_
          refine cr_136 hP1660 (F1661.2.2.2 (F1652.2.2.2 hc)) (fun h1670 s1671 A1672 hP1673 f1674 a1675 z1676 => ?_)
          show bp_G E PO NN ((169, 137, lv, [], 0, 0) :: gs, h1670, none)
          refine bp_ld (pc' := 138) bu_169_137 rfl rfl (fun _ _ _ => rfl) g2 rfl ?_
          refine bp_ld (pc' := 139) bu_169_138 rfl rfl (fun _ _ _ => rfl) g1 rfl ?_
          refine bp_ld (pc' := 140) bu_169_139 rfl rfl (fun _ _ _ => rfl) g3 rfl ?_
          refine bn_cv (pc' := 143) (st := []) (args := [.int f9, .int l]) bu_169_140 rfl rfl rfl (by decide) hP1673 bq_o12 (by decide) (by omega) rfl (Nat.le_of_ble_eq_true rfl) (Nat.le_of_ble_eq_true rfl) ?_
          refine cr_144 hP1673 z1676 (fun h1677 s1678 A1679 hP1680 f1681 a1682 z1683 => ?_)
          show bp_G E PO NN ((169, 143, lv, [], 0, 0) :: gs, h1677, none)
          refine bp_ld (pc' := 144) bu_169_143 rfl rfl (fun _ _ _ => rfl) g0 rfl ?_
          refine bp_c (pc' := 146) (n := 59) bu_169_144 rfl rfl (fun _ _ _ => rfl) (by decide) (fun c1684 e1685 => ?_)
          refine bn_cv (pc' := 149) (st := []) (args := [.int c1684]) bu_169_146 rfl rfl rfl (by decide) hP1680 bq_o20 (by decide) (by omega) rfl (Nat.le_of_ble_eq_true rfl) (Nat.le_of_ble_eq_true rfl) ?_
          refine cr_177 (σ := (py_x K true 0 (py_fl 2 σ))) (kc := 4) (by omega) hP1680 (by simp only [List.length_cons]; omega) (rc_R_e (rc_R_e R1662 f1674) f1681) (rc_T_F hT (rc_F_t (rc_F_t (rc_F_t (rc_F_t hF F1652) F1661) (rc_F_e f1674 a1675 z1676)) (rc_F_e f1681 a1682 z1683))) (fun h1686 s1687 A1688 L1689 hP1690 F1691 R1692 => ?_)
          show bp_G E PO NN ((169, 149, lv, [], 0, 0) :: gs, h1686, none)
          refine bp_rv bu_169_149 ?_
          exfalso
          omega
      · replace k1600 : ¬ ((r1598).toInt = 0) := k1600
        have hf : σ.2.1 = 0 := by
          by_cases e : σ.2.1 = 0
          · exact e
          · have := q3 e
            omega
        have q2' := q2 hf
        have hk : K σ.1 = 32 := by omega
        refine bp_ld (pc' := 42) bu_169_41 rfl rfl (fun _ _ _ => rfl) g0 rfl ?_
        refine bn_cv (pc' := 45) (st := []) (args := []) bu_169_42 rfl rfl rfl (by decide) hP bq_o20 (by decide) (by omega) rfl (Nat.le_of_ble_eq_true rfl) (Nat.le_of_ble_eq_true rfl) ?_
        refine cr_161 (σ := σ) hP hR (rc_T_F hT hF) hf (by rw [hk]; decide) (by rw [hk]; decide) (fun h1693 s1694 A1695 L1696 hP1697 F1698 R1699 => ?_)
        show bp_G E PO NN ((169, 45, lv, [], 0, 0) :: gs, h1693, none)
        refine bp_ld (pc' := 46) bu_169_45 rfl rfl (fun _ _ _ => rfl) g0 rfl ?_
        refine bp_ld (pc' := 47) bu_169_46 rfl rfl (fun _ _ _ => rfl) g1 rfl ?_
        refine bp_c (pc' := 48) (n := 0) bu_169_47 rfl rfl (fun _ _ _ => rfl) (by decide) (fun c1700 e1701 => ?_)
        refine bn_cv (pc' := 51) (st := []) (args := [.int c1700, .int l]) bu_169_48 rfl rfl rfl (by decide) hP1697 bq_o20 (by decide) (by omega) rfl (Nat.le_of_ble_eq_true rfl) (Nat.le_of_ble_eq_true rfl) ?_
        refine cr_sum hS 6 0 rfl (py_go σ) _ _ _ _ _ _ _ (by omega) (by simp only [List.length_cons]; omega) hP1697 R1699 (rc_T_F hT (rc_F_t hF F1698)) (F1698.2.2.2 hc) (fun h1702 s1703 A1704 L1705 σ1709 hP1706 F1707 R1708 Y1710 => ?_)
        have e1711 : py_x K true 0 (py_go σ) = σ1709 := Y1710.1.trans (py_x_z (fun u => ⟨(R1708.2.1 u).2.1.1, (Y1710.2 u).2.2 rfl⟩))
        subst e1711
        show bp_G E PO NN ((169, 51, lv, [], 0, 0) :: gs, h1702, none)
        refine bp_ld (pc' := 52) bu_169_51 rfl rfl (fun _ _ _ => rfl) g0 rfl ?_
        refine bp_c (pc' := 54) (n := 60) bu_169_52 rfl rfl (fun _ _ _ => rfl) (by decide) (fun c1712 e1713 => ?_)
        refine bn_cv (pc' := 57) (st := []) (args := [.int c1712]) bu_169_54 rfl rfl rfl (by decide) hP1706 bq_o20 (by decide) (by omega) rfl (Nat.le_of_ble_eq_true rfl) (Nat.le_of_ble_eq_true rfl) ?_
        refine cr_177 (σ := (py_x K true 0 (py_go σ))) (kc := 13) (by omega) hP1706 (by simp only [List.length_cons]; omega) R1708 (rc_T_F hT (rc_F_t (rc_F_t hF F1698) F1707)) (fun h1714 s1715 A1716 L1717 hP1718 F1719 R1720 => ?_)
        show bp_G E PO NN ((169, 57, lv, [], 0, 0) :: gs, h1714, none)
        refine bp_ld (pc' := 58) bu_169_57 rfl rfl (fun _ _ _ => rfl) g0 rfl ?_
        refine bp_ld (pc' := 59) bu_169_58 rfl rfl (fun _ _ _ => rfl) g1 rfl ?_
        refine bp_c (pc' := 60) (n := 0) bu_169_59 rfl rfl (fun _ _ _ => rfl) (by decide) (fun c1721 e1722 => ?_)
        refine bn_cv (pc' := 63) (st := []) (args := [.int c1721, .int l]) bu_169_60 rfl rfl rfl (by decide) hP1718 bq_o20 (by decide) (by omega) rfl (Nat.le_of_ble_eq_true rfl) (Nat.le_of_ble_eq_true rfl) ?_
        refine cr_sum hS 6 0 rfl (py_mu K 13 (py_x K true 0 (py_go σ))) _ _ _ _ _ _ _ (by omega) (by simp only [List.length_cons]; omega) hP1718 R1720 (rc_T_F hT (rc_F_t (rc_F_t (rc_F_t hF F1698) F1707) F1719)) (F1719.2.2.2 (F1707.2.2.2 (F1698.2.2.2 hc))) (fun h1723 s1724 A1725 L1726 σ1730 hP1727 F1728 R1729 Y1731 => ?_)
        have e1732 : py_x K true 0 (py_mu K 13 (py_x K true 0 (py_go σ))) = σ1730 := Y1731.1.trans (py_x_z (fun u => ⟨(R1729.2.1 u).2.1.1, (Y1731.2 u).2.2 rfl⟩))
        subst e1732
        show bp_G E PO NN ((169, 63, lv, [], 0, 0) :: gs, h1723, none)
        refine bp_ld (pc' := 64) bu_169_63 rfl rfl (fun _ _ _ => rfl) g2 rfl ?_
        refine bn_cv (pc' := 67) (st := []) (args := []) bu_169_64 rfl rfl rfl (by decide) hP1727 bq_o12 (by decide) (by omega) rfl (Nat.le_of_ble_eq_true rfl) (Nat.le_of_ble_eq_true rfl) ?_
        refine cr_135 hP1727 ?_
        show bp_G E PO NN ((169, 67, lv, [.int (s1724 1204)], 0, 0) :: gs, h1723, none)
        refine bp_st (pc' := 69) bu_169_67 rfl rfl (fun _ _ _ => rfl) rfl (by decide) (by decide) (fun lv1733 F1734 g1735 => ?_)
        have g1736 := F1734 0 (.ref (E.1 + 20)) g0 (by decide) (Or.inl rfl)
        have g1737 := F1734 1 (.int l) g1 (by decide) (Or.inl rfl)
        have g1738 := F1734 2 (.ref (E.1 + 12)) g2 (by decide) (Or.inl rfl)
        have g1739 := F1734 3 (.int f9) g3 (by decide) (Or.inl rfl)
        have g1740 := F1734 4 (.int i) g4 (by decide) (Or.inl rfl)
        refine bp_ld (pc' := 70) bu_169_69 rfl rfl (fun _ _ _ => rfl) g1738 rfl ?_
        refine bp_c (pc' := 71) (n := 3) bu_169_70 rfl rfl (fun _ _ _ => rfl) (by decide) (fun c1741 e1742 => ?_)
        refine bp_c (pc' := 72) (n := 0) bu_169_71 rfl rfl (fun _ _ _ => rfl) (by decide) (fun c1743 e1744 => ?_)
        refine bn_cv (pc' := 75) (st := []) (args := [.int c1743, .int c1741]) bu_169_72 rfl rfl rfl (by decide) hP1727 bq_o12 (by decide) (by omega) rfl (Nat.le_of_ble_eq_true rfl) (Nat.le_of_ble_eq_true rfl) ?_
        refine cr_136 hP1727 (F1728.2.2.2 (F1719.2.2.2 (F1707.2.2.2 (F1698.2.2.2 hc)))) (fun h1745 s1746 A1747 hP1748 f1749 a1750 z1751 => ?_)
        show bp_G E PO NN ((169, 75, lv1733, [], 0, 0) :: gs, h1745, none)
        refine bp_ld (pc' := 76) bu_169_75 rfl rfl (fun _ _ _ => rfl) g1736 rfl ?_
        refine bp_c (pc' := 78) (n := 13) bu_169_76 rfl rfl (fun _ _ _ => rfl) (by decide) (fun c1752 e1753 => ?_)
        refine bn_cv (pc' := 81) (st := []) (args := [.int c1752]) bu_169_78 rfl rfl rfl (by decide) hP1748 bq_o20 (by decide) (by omega) rfl (Nat.le_of_ble_eq_true rfl) (Nat.le_of_ble_eq_true rfl) ?_
        refine cr_178 (σ := (py_x K true 0 (py_mu K 13 (py_x K true 0 (py_go σ))))) (kc := 33) (by omega) hP1748 (by simp only [List.length_cons]; omega) (rc_R_e R1729 f1749) (rc_T_F hT (rc_F_t (rc_F_t (rc_F_t (rc_F_t (rc_F_t hF F1698) F1707) F1719) F1728) (rc_F_e f1749 a1750 z1751))) (fun h1754 s1755 A1756 L1757 hP1758 F1759 R1760 => ?_)
        show bp_G E PO NN ((169, 81, lv1733, [], 0, 0) :: gs, h1754, none)
        refine bp_ld (pc' := 82) bu_169_81 rfl rfl (fun _ _ _ => rfl) g1736 rfl ?_
        refine bp_ld (pc' := 83) bu_169_82 rfl rfl (fun _ _ _ => rfl) g1737 rfl ?_
        refine bp_c (pc' := 84) (n := 0) bu_169_83 rfl rfl (fun _ _ _ => rfl) (by decide) (fun c1761 e1762 => ?_)
        refine bn_cv (pc' := 87) (st := []) (args := [.int c1761, .int l]) bu_169_84 rfl rfl rfl (by decide) hP1758 bq_o20 (by decide) (by omega) rfl (Nat.le_of_ble_eq_true rfl) (Nat.le_of_ble_eq_true rfl) ?_
        refine cr_sum hS 6 0 rfl (py_mu K 33 (py_x K true 0 (py_mu K 13 (py_x K true 0 (py_go σ))))) _ _ _ _ _ _ _ (by omega) (by simp only [List.length_cons]; omega) hP1758 R1760 (rc_T_F hT (rc_F_t (rc_F_t (rc_F_t (rc_F_t (rc_F_t (rc_F_t hF F1698) F1707) F1719) F1728) (rc_F_e f1749 a1750 z1751)) F1759)) (F1759.2.2.2 z1751) (fun h1763 s1764 A1765 L1766 σ1770 hP1767 F1768 R1769 Y1771 => ?_)
        have e1772 : py_x K true 0 (py_mu K 33 (py_x K true 0 (py_mu K 13 (py_x K true 0 (py_go σ))))) = σ1770 := Y1771.1.trans (py_x_z (fun u => ⟨(R1769.2.1 u).2.1.1, (Y1771.2 u).2.2 rfl⟩))
        subst e1772
        show bp_G E PO NN ((169, 87, lv1733, [], 0, 0) :: gs, h1763, none)
        refine bp_ld (pc' := 88) bu_169_87 rfl rfl (fun _ _ _ => rfl) g1738 rfl ?_
        refine bp_c (pc' := 89) (n := 2) bu_169_88 rfl rfl (fun _ _ _ => rfl) (by decide) (fun c1773 e1774 => ?_)
        refine bp_c (pc' := 90) (n := 0) bu_169_89 rfl rfl (fun _ _ _ => rfl) (by decide) (fun c1775 e1776 => ?_)
        refine bn_cv (pc' := 93) (st := []) (args := [.int c1775, .int c1773]) bu_169_90 rfl rfl rfl (by decide) hP1767 bq_o12 (by decide) (by omega) rfl (Nat.le_of_ble_eq_true rfl) (Nat.le_of_ble_eq_true rfl) ?_
        refine cr_136 hP1767 (F1768.2.2.2 (F1759.2.2.2 z1751)) (fun h1777 s1778 A1779 hP1780 f1781 a1782 z1783 => ?_)
        show bp_G E PO NN ((169, 93, lv1733, [], 0, 0) :: gs, h1777, none)
        refine bp_ld (pc' := 94) bu_169_93 rfl rfl (fun _ _ _ => rfl) g1738 rfl ?_
        refine bp_ld (pc' := 96) bu_169_94 rfl rfl (fun _ _ _ => rfl) g1735 rfl ?_
        refine bn_cv (pc' := 99) (st := []) (args := [.int (s1724 1204)]) bu_169_96 rfl rfl rfl (by decide) hP1780 bq_o12 (by decide) (by omega) rfl (Nat.le_of_ble_eq_true rfl) (Nat.le_of_ble_eq_true rfl) ?_
        refine cr_132 hP1780 z1783 (fun h1784 s1785 A1786 hP1787 f1788 a1789 z1790 => ?_)
        show bp_G E PO NN ((169, 99, lv1733, [], 0, 0) :: gs, h1784, none)
        refine bp_ld (pc' := 100) bu_169_99 rfl rfl (fun _ _ _ => rfl) g1736 rfl ?_
        refine bp_c (pc' := 102) (n := 14) bu_169_100 rfl rfl (fun _ _ _ => rfl) (by decide) (fun c1791 e1792 => ?_)
        refine bn_cv (pc' := 105) (st := []) (args := [.int c1791]) bu_169_102 rfl rfl rfl (by decide) hP1787 bq_o20 (by decide) (by omega) rfl (Nat.le_of_ble_eq_true rfl) (Nat.le_of_ble_eq_true rfl) ?_
        refine cr_178 (σ := (py_x K true 0 (py_mu K 33 (py_x K true 0 (py_mu K 13 (py_x K true 0 (py_go σ))))))) (kc := 34) (by omega) hP1787 (by simp only [List.length_cons]; omega) (rc_R_e (rc_R_e R1769 f1781) f1788) (rc_T_F hT (rc_F_t (rc_F_t (rc_F_t (rc_F_t (rc_F_t (rc_F_t (rc_F_t (rc_F_t (rc_F_t hF F1698) F1707) F1719) F1728) (rc_F_e f1749 a1750 z1751)) F1759) F1768) (rc_F_e f1781 a1782 z1783)) (rc_F_e f1788 a1789 z1790))) (fun h1793 s1794 A1795 L1796 hP1797 F1798 R1799 => ?_)
        show bp_G E PO NN ((169, 105, lv1733, [], 0, 0) :: gs, h1793, none)
        refine bp_inc (pc' := 108) bu_169_105 rfl (by decide) g1740 (by decide) (by omega) (by omega) (fun lv1800 y1803 F1801 g1802 e1804 => ?_)
        have g1805 := F1801 0 (.ref (E.1 + 20)) g1736 (by decide) (Or.inl rfl)
        have g1806 := F1801 1 (.int l) g1737 (by decide) (Or.inl rfl)
        have g1807 := F1801 2 (.ref (E.1 + 12)) g1738 (by decide) (Or.inl rfl)
        have g1808 := F1801 3 (.int f9) g1739 (by decide) (Or.inl rfl)
        have g1809 := F1801 5 (.int (s1724 1204)) g1735 (by decide) (Or.inl rfl)
        refine bp_go (pc' := 26) bu_169_108 rfl ?_
        have ee : py_ifs K (c + 1) σ = py_ifs K c (py_mu K 34 (py_x K true 0 (py_mu K 33 (py_x K true 0 (py_mu K 13 (py_x K true 0 (py_go σ))))))) := if_pos ⟨hf, hk⟩
        rw [ee] at kk
        exact ih _ _ _ _ _ _ _ _ hP1797 (rc_F_t (rc_F_t (rc_F_t (rc_F_t (rc_F_t (rc_F_t (rc_F_t (rc_F_t (rc_F_t (rc_F_t hF F1698) F1707) F1719) F1728) (rc_F_e f1749 a1750 z1751)) F1759) F1768) (rc_F_e f1781 a1782 z1783)) (rc_F_e f1788 a1789 z1790)) F1798) R1799 (F1798.2.2.2 z1790) g1805 g1806 g1807 g1808 g1802 (by omega) (by omega) kk
theorem cr_169 {x9 y9 l : Int32} (hS : ∀ ρ, en_SA E ρ (wl_o x9 y9) mt_SB) (hP : bm_P bq_T E h0 h s A L) (hd : gs.length + 40 ≤ 999) (hR : rc_R K V P N σ s L) (hT : rc_T K V P N s A L) (hc : 0 ≤ (s 1204).toInt ∧ (s 1204).toInt ≤ 432 ∧ 0 ≤ (s 1104).toInt ∧ (s 1104).toInt ≤ 6) (hf : σ.2.1 = 0) (hk : 21 ≤ K σ.1) (kk : ∀ (h' : mm_H) (s' : Nat → Int32) (A' : Nat → Nat → Int32) (L' : Nat → Nat → Int64), bm_P bq_T E h0 h' s' A' L' → rc_F s A L s' A' L' → rc_R K V P N (py_law K σ) s' L' → bp_G E PO NN (mm_back none gs h')) : bp_G E PO NN ((169, 0, [(0, .ref (E.1 + 20)), (1, .int l)], [], 0, 0) :: gs, h, none) := by
  refine bp_ld (pc' := 1) bu_169_0 rfl rfl (fun _ _ _ => rfl) rfl rfl ?_
  refine bn_gr (pc' := 4) (t := 11) bu_169_1 rfl rfl (fun _ _ _ => rfl) hP bq_o20 bq_r20_1 ?_
  refine bn_gr (pc' := 7) (t := 12) bu_169_4 rfl rfl (fun _ _ _ => rfl) hP bq_o11 bq_r11_0 ?_
  refine bp_st (pc' := 8) bu_169_7 rfl rfl (fun _ _ _ => rfl) rfl (by decide) (by decide) (fun lv1810 F1811 g1812 => ?_)
  have g1813 := F1811 0 (.ref (E.1 + 20)) rfl (by decide) (Or.inl rfl)
  have g1814 := F1811 1 (.int l) rfl (by decide) (Or.inl rfl)
  refine bp_ld (pc' := 9) bu_169_8 rfl rfl (fun _ _ _ => rfl) g1812 rfl ?_
  refine bn_cv (pc' := 12) (st := []) (args := []) bu_169_9 rfl rfl rfl (by decide) hP bq_o12 (by decide) (by omega) rfl (Nat.le_of_ble_eq_true rfl) (Nat.le_of_ble_eq_true rfl) ?_
  refine cr_135 hP ?_
  show bp_G E PO NN ((169, 12, lv1810, [.int (s 1204)], 0, 0) :: gs, h, none)
  refine bp_st (pc' := 13) bu_169_12 rfl rfl (fun _ _ _ => rfl) rfl (by decide) (by decide) (fun lv1815 F1816 g1817 => ?_)
  have g1818 := F1816 0 (.ref (E.1 + 20)) g1813 (by decide) (Or.inl rfl)
  have g1819 := F1816 1 (.int l) g1814 (by decide) (Or.inl rfl)
  have g1820 := F1816 2 (.ref (E.1 + 12)) g1812 (by decide) (Or.inl rfl)
  refine bp_ld (pc' := 14) bu_169_13 rfl rfl (fun _ _ _ => rfl) g1818 rfl ?_
  refine bn_cv (pc' := 17) (st := []) (args := []) bu_169_14 rfl rfl rfl (by decide) hP bq_o20 (by decide) (by omega) rfl (Nat.le_of_ble_eq_true rfl) (Nat.le_of_ble_eq_true rfl) ?_
  refine cr_161 (σ := σ) hP hR hT hf (by omega) (by omega) (fun h1821 s1822 A1823 L1824 hP1825 F1826 R1827 => ?_)
  show bp_G E PO NN ((169, 17, lv1815, [], 0, 0) :: gs, h1821, none)
  refine bp_ld (pc' := 18) bu_169_17 rfl rfl (fun _ _ _ => rfl) g1818 rfl ?_
  refine bp_c (pc' := 20) (n := 61) bu_169_18 rfl rfl (fun _ _ _ => rfl) (by decide) (fun c1828 e1829 => ?_)
  refine bn_cv (pc' := 23) (st := []) (args := [.int c1828]) bu_169_20 rfl rfl rfl (by decide) hP1825 bq_o20 (by decide) (by omega) rfl (Nat.le_of_ble_eq_true rfl) (Nat.le_of_ble_eq_true rfl) ?_
  refine cr_177 (σ := (py_go σ)) (kc := 5) (by omega) hP1825 (by simp only [List.length_cons]; omega) R1827 (rc_T_F hT F1826) (fun h1830 s1831 A1832 L1833 hP1834 F1835 R1836 => ?_)
  show bp_G E PO NN ((169, 23, lv1815, [], 0, 0) :: gs, h1830, none)
  refine bp_c (pc' := 24) (n := 0) bu_169_23 rfl rfl (fun _ _ _ => rfl) (by decide) (fun c1837 e1838 => ?_)
  refine bp_st (pc' := 26) bu_169_24 rfl rfl (fun _ _ _ => rfl) rfl (by decide) (by decide) (fun lv1839 F1840 g1841 => ?_)
  have g1842 := F1840 0 (.ref (E.1 + 20)) g1818 (by decide) (Or.inl rfl)
  have g1843 := F1840 1 (.int l) g1819 (by decide) (Or.inl rfl)
  have g1844 := F1840 2 (.ref (E.1 + 12)) g1820 (by decide) (Or.inl rfl)
  have g1845 := F1840 3 (.int (s 1204)) g1817 (by decide) (Or.inl rfl)
  exact cr_169l hS hT hd 4 _ _ _ _ _ _ _ _ hP1834 (rc_F_t F1826 F1835) R1836 (F1835.2.2.2 (F1826.2.2.2 hc)) g1842 g1843 g1844 g1845 g1841 (by omega) (by omega) kk
end CR
