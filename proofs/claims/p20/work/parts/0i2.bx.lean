/-! BY HAND: the reference's reader, 1 (wip/p3/bh1.py) -/
def bx_T : bh_T := ([(1, 89), (3, 90), (5, 91), (6, 92), (7, 93), (8, 94), (9, 95), (21, 96), (22, 97), (23, 98), (24, 99), (25, 100), (26, 101), (27, 102), (28, 103), (29, 104), (30, 105), (31, 106), (32, 107), (34, 108), (35, 109), (36, 110), (37, 111), (38, 112), (40, 113), (41, 114), (42, 115)], [2, 4, 10, 11, 12, 13, 14, 15, 16, 17, 18, 19, 20, 33, 39, 43], [(89, 1, 2000), (90, 1, 2000), (91, 0, 403), (92, 0, 403), (93, 0, 403), (97, 0, 2), (98, 0, 48), (99, 0, 12), (100, 0, 2), (101, 0, 2), (102, 0, 2), (103, 0, 2), (104, 0, 2), (105, 0, 2), (106, 0, 14), (107, 0, 14), (108, 2, 260), (109, 0, 260), (110, 0, 260), (111, 0, 260), (112, 0, 260), (113, 0, 840), (114, 0, 840), (115, 0, 64)], [(94, 403), (95, 24), (96, 6)])
theorem bx_i2 : 2 ∈ bx_T.2.1 := by decide
theorem bx_i4 : 4 ∈ bx_T.2.1 := by decide
theorem bx_i10 : 10 ∈ bx_T.2.1 := by decide
theorem bx_i11 : 11 ∈ bx_T.2.1 := by decide
theorem bx_i12 : 12 ∈ bx_T.2.1 := by decide
theorem bx_i13 : 13 ∈ bx_T.2.1 := by decide
theorem bx_i14 : 14 ∈ bx_T.2.1 := by decide
theorem bx_i15 : 15 ∈ bx_T.2.1 := by decide
theorem bx_i16 : 16 ∈ bx_T.2.1 := by decide
theorem bx_i17 : 17 ∈ bx_T.2.1 := by decide
theorem bx_i18 : 18 ∈ bx_T.2.1 := by decide
theorem bx_i19 : 19 ∈ bx_T.2.1 := by decide
theorem bx_i20 : 20 ∈ bx_T.2.1 := by decide
theorem bx_i33 : 33 ∈ bx_T.2.1 := by decide
theorem bx_i39 : 39 ∈ bx_T.2.1 := by decide
theorem bx_i43 : 43 ∈ bx_T.2.1 := by decide
theorem bx_r1 : (1, 89) ∈ bx_T.1 := by decide
theorem bx_r3 : (3, 90) ∈ bx_T.1 := by decide
theorem bx_r5 : (5, 91) ∈ bx_T.1 := by decide
theorem bx_r6 : (6, 92) ∈ bx_T.1 := by decide
theorem bx_r7 : (7, 93) ∈ bx_T.1 := by decide
theorem bx_r8 : (8, 94) ∈ bx_T.1 := by decide
theorem bx_r9 : (9, 95) ∈ bx_T.1 := by decide
theorem bx_r21 : (21, 96) ∈ bx_T.1 := by decide
theorem bx_r22 : (22, 97) ∈ bx_T.1 := by decide
theorem bx_r23 : (23, 98) ∈ bx_T.1 := by decide
theorem bx_r24 : (24, 99) ∈ bx_T.1 := by decide
theorem bx_r25 : (25, 100) ∈ bx_T.1 := by decide
theorem bx_r26 : (26, 101) ∈ bx_T.1 := by decide
theorem bx_r27 : (27, 102) ∈ bx_T.1 := by decide
theorem bx_r28 : (28, 103) ∈ bx_T.1 := by decide
theorem bx_r29 : (29, 104) ∈ bx_T.1 := by decide
theorem bx_r30 : (30, 105) ∈ bx_T.1 := by decide
theorem bx_r31 : (31, 106) ∈ bx_T.1 := by decide
theorem bx_r32 : (32, 107) ∈ bx_T.1 := by decide
theorem bx_r34 : (34, 108) ∈ bx_T.1 := by decide
theorem bx_r35 : (35, 109) ∈ bx_T.1 := by decide
theorem bx_r36 : (36, 110) ∈ bx_T.1 := by decide
theorem bx_r37 : (37, 111) ∈ bx_T.1 := by decide
theorem bx_r38 : (38, 112) ∈ bx_T.1 := by decide
theorem bx_r40 : (40, 113) ∈ bx_T.1 := by decide
theorem bx_r41 : (41, 114) ∈ bx_T.1 := by decide
theorem bx_r42 : (42, 115) ∈ bx_T.1 := by decide
theorem bx_a89 : (89, 1, 2000) ∈ bx_T.2.2.1 := by decide
theorem bx_a90 : (90, 1, 2000) ∈ bx_T.2.2.1 := by decide
theorem bx_a91 : (91, 0, 403) ∈ bx_T.2.2.1 := by decide
theorem bx_a92 : (92, 0, 403) ∈ bx_T.2.2.1 := by decide
theorem bx_a93 : (93, 0, 403) ∈ bx_T.2.2.1 := by decide
theorem bx_a97 : (97, 0, 2) ∈ bx_T.2.2.1 := by decide
theorem bx_a98 : (98, 0, 48) ∈ bx_T.2.2.1 := by decide
theorem bx_a99 : (99, 0, 12) ∈ bx_T.2.2.1 := by decide
theorem bx_a100 : (100, 0, 2) ∈ bx_T.2.2.1 := by decide
theorem bx_a101 : (101, 0, 2) ∈ bx_T.2.2.1 := by decide
theorem bx_a102 : (102, 0, 2) ∈ bx_T.2.2.1 := by decide
theorem bx_a103 : (103, 0, 2) ∈ bx_T.2.2.1 := by decide
theorem bx_a104 : (104, 0, 2) ∈ bx_T.2.2.1 := by decide
theorem bx_a105 : (105, 0, 2) ∈ bx_T.2.2.1 := by decide
theorem bx_a106 : (106, 0, 14) ∈ bx_T.2.2.1 := by decide
theorem bx_a107 : (107, 0, 14) ∈ bx_T.2.2.1 := by decide
theorem bx_a108 : (108, 2, 260) ∈ bx_T.2.2.1 := by decide
theorem bx_a109 : (109, 0, 260) ∈ bx_T.2.2.1 := by decide
theorem bx_a110 : (110, 0, 260) ∈ bx_T.2.2.1 := by decide
theorem bx_a111 : (111, 0, 260) ∈ bx_T.2.2.1 := by decide
theorem bx_a112 : (112, 0, 260) ∈ bx_T.2.2.1 := by decide
theorem bx_a113 : (113, 0, 840) ∈ bx_T.2.2.1 := by decide
theorem bx_a114 : (114, 0, 840) ∈ bx_T.2.2.1 := by decide
theorem bx_a115 : (115, 0, 64) ∈ bx_T.2.2.1 := by decide
theorem bx_l94 : (94, 403) ∈ bx_T.2.2.2 := by decide
theorem bx_l95 : (95, 24) ∈ bx_T.2.2.2 := by decide
theorem bx_l96 : (96, 6) ∈ bx_T.2.2.2 := by decide
theorem bx_W : bh_W bx_T := by unfold bh_W; decide
theorem bt_23_0 : mm_at mt_P 23 0 = some ((0, 1, .aload_n 0, 0, 0, 0, 0), 3, 2, 1, 9, 0, 0, 0) := rfl
theorem bt_23_1 : mm_at mt_P 23 1 = some ((1, 3, .getfield 92, 9, 40, 0, 1257), 3, 2, 1, 9, 0, 0, 0) := rfl
theorem bt_23_4 : mm_at mt_P 23 4 = some ((4, 1, .aload_n 0, 0, 0, 0, 0), 3, 2, 1, 9, 0, 0, 0) := rfl
theorem bt_23_5 : mm_at mt_P 23 5 = some ((5, 3, .getfield 245, 9, 39, 0, 1256), 3, 2, 1, 9, 0, 0, 0) := rfl
theorem bt_23_8 : mm_at mt_P 23 8 = some ((8, 1, .iload_n 1, 0, 0, 0, 0), 3, 2, 1, 9, 0, 0, 0) := rfl
theorem bt_23_9 : mm_at mt_P 23 9 = some ((9, 1, .iastore, 0, 0, 0, 0), 3, 2, 1, 9, 0, 0, 0) := rfl
theorem bt_23_10 : mm_at mt_P 23 10 = some ((10, 1, .aload_n 0, 0, 0, 0, 0), 3, 2, 1, 9, 0, 0, 0) := rfl
theorem bt_23_11 : mm_at mt_P 23 11 = some ((11, 3, .getfield 95, 9, 41, 0, 1258), 3, 2, 1, 9, 0, 0, 0) := rfl
theorem bt_23_14 : mm_at mt_P 23 14 = some ((14, 1, .aload_n 0, 0, 0, 0, 0), 3, 2, 1, 9, 0, 0, 0) := rfl
theorem bt_23_15 : mm_at mt_P 23 15 = some ((15, 3, .getfield 245, 9, 39, 0, 1256), 3, 2, 1, 9, 0, 0, 0) := rfl
theorem bt_23_18 : mm_at mt_P 23 18 = some ((18, 1, .iload_n 2, 0, 0, 0, 0), 3, 2, 1, 9, 0, 0, 0) := rfl
theorem bt_23_19 : mm_at mt_P 23 19 = some ((19, 1, .iastore, 0, 0, 0, 0), 3, 2, 1, 9, 0, 0, 0) := rfl
theorem bt_23_20 : mm_at mt_P 23 20 = some ((20, 1, .aload_n 0, 0, 0, 0, 0), 3, 2, 1, 9, 0, 0, 0) := rfl
theorem bt_23_21 : mm_at mt_P 23 21 = some ((21, 1, .dup, 0, 0, 0, 0), 3, 2, 1, 9, 0, 0, 0) := rfl
theorem bt_23_22 : mm_at mt_P 23 22 = some ((22, 3, .getfield 245, 9, 39, 0, 1256), 3, 2, 1, 9, 0, 0, 0) := rfl
theorem bt_23_25 : mm_at mt_P 23 25 = some ((25, 1, .iconst 1, 0, 0, 0, 0), 3, 2, 1, 9, 0, 0, 0) := rfl
theorem bt_23_26 : mm_at mt_P 23 26 = some ((26, 1, .iadd, 0, 0, 0, 0), 3, 2, 1, 9, 0, 0, 0) := rfl
theorem bt_23_27 : mm_at mt_P 23 27 = some ((27, 3, .putfield 245, 9, 39, 0, 1256), 3, 2, 1, 9, 0, 0, 0) := rfl
theorem bt_23_30 : mm_at mt_P 23 30 = some ((30, 1, .return_, 0, 0, 0, 0), 3, 2, 1, 9, 0, 0, 0) := rfl
theorem bt_27_0 : mm_at mt_P 27 0 = some ((0, 1, .aload_n 0, 0, 0, 0, 0), 2, 1, 1, 9, 0, 0, 0) := rfl
theorem bt_27_1 : mm_at mt_P 27 1 = some ((1, 3, .getfield 203, 9, 13, 0, 1230), 2, 1, 1, 9, 0, 0, 0) := rfl
theorem bt_27_4 : mm_at mt_P 27 4 = some ((4, 3, .ifCond .le 4, 0, 0, 0, 0), 2, 1, 1, 9, 0, 0, 0) := rfl
theorem bt_27_7 : mm_at mt_P 27 7 = some ((7, 1, .return_, 0, 0, 0, 0), 2, 1, 1, 9, 0, 0, 0) := rfl
theorem bt_27_8 : mm_at mt_P 27 8 = some ((8, 1, .aload_n 0, 0, 0, 0, 0), 2, 1, 1, 9, 0, 0, 0) := rfl
theorem bt_27_9 : mm_at mt_P 27 9 = some ((9, 1, .iload_n 1, 0, 0, 0, 0), 2, 1, 1, 9, 0, 0, 0) := rfl
theorem bt_27_10 : mm_at mt_P 27 10 = some ((10, 3, .putfield 203, 9, 13, 0, 1230), 2, 1, 1, 9, 0, 0, 0) := rfl
theorem bt_27_13 : mm_at mt_P 27 13 = some ((13, 1, .aload_n 0, 0, 0, 0, 0), 2, 1, 1, 9, 0, 0, 0) := rfl
theorem bt_27_14 : mm_at mt_P 27 14 = some ((14, 1, .aload_n 0, 0, 0, 0, 0), 2, 1, 1, 9, 0, 0, 0) := rfl
theorem bt_27_15 : mm_at mt_P 27 15 = some ((15, 3, .getfield 24, 9, 6, 0, 1223), 2, 1, 1, 9, 0, 0, 0) := rfl
theorem bt_27_18 : mm_at mt_P 27 18 = some ((18, 1, .aload_n 0, 0, 0, 0, 0), 2, 1, 1, 9, 0, 0, 0) := rfl
theorem bt_27_19 : mm_at mt_P 27 19 = some ((19, 3, .getfield 206, 9, 11, 0, 1228), 2, 1, 1, 9, 0, 0, 0) := rfl
theorem bt_27_22 : mm_at mt_P 27 22 = some ((22, 1, .iaload, 0, 0, 0, 0), 2, 1, 1, 9, 0, 0, 0) := rfl
theorem bt_27_23 : mm_at mt_P 27 23 = some ((23, 3, .putfield 209, 9, 14, 0, 1231), 2, 1, 1, 9, 0, 0, 0) := rfl
theorem bt_27_26 : mm_at mt_P 27 26 = some ((26, 1, .return_, 0, 0, 0, 0), 2, 1, 1, 9, 0, 0, 0) := rfl
theorem bt_37_0 : mm_at mt_P 37 0 = some ((0, 1, .aload_n 0, 0, 0, 0, 0), 1, 0, 1, 9, 0, 0, 0) := rfl
theorem bt_37_1 : mm_at mt_P 37 1 = some ((1, 3, .getfield 206, 9, 11, 0, 1228), 1, 0, 1, 9, 0, 0, 0) := rfl
theorem bt_37_4 : mm_at mt_P 37 4 = some ((4, 3, .sipush 400, 0, 0, 0, 0), 1, 0, 1, 9, 0, 0, 0) := rfl
theorem bt_37_7 : mm_at mt_P 37 7 = some ((7, 3, .if_icmp .ne 11, 0, 0, 0, 0), 1, 0, 1, 9, 0, 0, 0) := rfl
theorem bt_37_10 : mm_at mt_P 37 10 = some ((10, 1, .aload_n 0, 0, 0, 0, 0), 1, 0, 1, 9, 0, 0, 0) := rfl
theorem bt_37_11 : mm_at mt_P 37 11 = some ((11, 1, .iconst 2, 0, 0, 0, 0), 1, 0, 1, 9, 0, 0, 0) := rfl
theorem bt_37_12 : mm_at mt_P 37 12 = some ((12, 3, .invokevirtual 218, 27, 0, 0, 1483), 1, 0, 1, 9, 0, 0, 0) := rfl
theorem bt_37_15 : mm_at mt_P 37 15 = some ((15, 3, .goto 13, 0, 0, 0, 0), 1, 0, 1, 9, 0, 0, 0) := rfl
theorem bt_37_18 : mm_at mt_P 37 18 = some ((18, 1, .aload_n 0, 0, 0, 0, 0), 1, 0, 1, 9, 0, 0, 0) := rfl
theorem bt_37_19 : mm_at mt_P 37 19 = some ((19, 1, .dup, 0, 0, 0, 0), 1, 0, 1, 9, 0, 0, 0) := rfl
theorem bt_37_20 : mm_at mt_P 37 20 = some ((20, 3, .getfield 206, 9, 11, 0, 1228), 1, 0, 1, 9, 0, 0, 0) := rfl
theorem bt_37_23 : mm_at mt_P 37 23 = some ((23, 1, .iconst 1, 0, 0, 0, 0), 1, 0, 1, 9, 0, 0, 0) := rfl
theorem bt_37_24 : mm_at mt_P 37 24 = some ((24, 1, .iadd, 0, 0, 0, 0), 1, 0, 1, 9, 0, 0, 0) := rfl
theorem bt_37_25 : mm_at mt_P 37 25 = some ((25, 3, .putfield 206, 9, 11, 0, 1228), 1, 0, 1, 9, 0, 0, 0) := rfl
theorem bt_37_28 : mm_at mt_P 37 28 = some ((28, 1, .return_, 0, 0, 0, 0), 1, 0, 1, 9, 0, 0, 0) := rfl
theorem bt_45_0 : mm_at mt_P 45 0 = some ((0, 1, .aload_n 0, 0, 0, 0, 0), 2, 1, 1, 9, 2, 0, 0) := rfl
theorem bt_45_1 : mm_at mt_P 45 1 = some ((1, 3, .getfield 203, 9, 13, 0, 1230), 2, 1, 1, 9, 2, 0, 0) := rfl
theorem bt_45_4 : mm_at mt_P 45 4 = some ((4, 3, .ifCond .ne 20, 0, 0, 0, 0), 2, 1, 1, 9, 2, 0, 0) := rfl
theorem bt_45_7 : mm_at mt_P 45 7 = some ((7, 1, .aload_n 0, 0, 0, 0, 0), 2, 1, 1, 9, 2, 0, 0) := rfl
theorem bt_45_8 : mm_at mt_P 45 8 = some ((8, 3, .getfield 20, 9, 5, 0, 1222), 2, 1, 1, 9, 2, 0, 0) := rfl
theorem bt_45_11 : mm_at mt_P 45 11 = some ((11, 1, .aload_n 0, 0, 0, 0, 0), 2, 1, 1, 9, 2, 0, 0) := rfl
theorem bt_45_12 : mm_at mt_P 45 12 = some ((12, 3, .getfield 206, 9, 11, 0, 1228), 2, 1, 1, 9, 2, 0, 0) := rfl
theorem bt_45_15 : mm_at mt_P 45 15 = some ((15, 1, .iaload, 0, 0, 0, 0), 2, 1, 1, 9, 2, 0, 0) := rfl
theorem bt_45_16 : mm_at mt_P 45 16 = some ((16, 1, .iload_n 1, 0, 0, 0, 0), 2, 1, 1, 9, 2, 0, 0) := rfl
theorem bt_45_17 : mm_at mt_P 45 17 = some ((17, 3, .if_icmp .ne 7, 0, 0, 0, 0), 2, 1, 1, 9, 2, 0, 0) := rfl
theorem bt_45_20 : mm_at mt_P 45 20 = some ((20, 1, .iconst 1, 0, 0, 0, 0), 2, 1, 1, 9, 2, 0, 0) := rfl
theorem bt_45_21 : mm_at mt_P 45 21 = some ((21, 3, .goto 4, 0, 0, 0, 0), 2, 1, 1, 9, 2, 0, 0) := rfl
theorem bt_45_24 : mm_at mt_P 45 24 = some ((24, 1, .iconst 0, 0, 0, 0, 0), 2, 1, 1, 9, 2, 0, 0) := rfl
theorem bt_45_25 : mm_at mt_P 45 25 = some ((25, 1, .ireturn, 0, 0, 0, 0), 2, 1, 1, 9, 2, 0, 0) := rfl
theorem bt_67_0 : mm_at mt_P 67 0 = some ((0, 1, .aload_n 0, 0, 0, 0, 0), 2, 1, 1, 9, 0, 0, 0) := rfl
theorem bt_67_1 : mm_at mt_P 67 1 = some ((1, 1, .iload_n 1, 0, 0, 0, 0), 2, 1, 1, 9, 0, 0, 0) := rfl
theorem bt_67_2 : mm_at mt_P 67 2 = some ((2, 3, .invokevirtual 221, 45, 0, 0, 1475), 2, 1, 1, 9, 0, 0, 0) := rfl
theorem bt_67_5 : mm_at mt_P 67 5 = some ((5, 3, .ifCond .eq 10, 0, 0, 0, 0), 2, 1, 1, 9, 0, 0, 0) := rfl
theorem bt_67_8 : mm_at mt_P 67 8 = some ((8, 1, .aload_n 0, 0, 0, 0, 0), 2, 1, 1, 9, 0, 0, 0) := rfl
theorem bt_67_9 : mm_at mt_P 67 9 = some ((9, 3, .invokevirtual 224, 37, 0, 0, 1491), 2, 1, 1, 9, 0, 0, 0) := rfl
theorem bt_67_12 : mm_at mt_P 67 12 = some ((12, 3, .goto 8, 0, 0, 0, 0), 2, 1, 1, 9, 0, 0, 0) := rfl
theorem bt_67_15 : mm_at mt_P 67 15 = some ((15, 1, .aload_n 0, 0, 0, 0, 0), 2, 1, 1, 9, 0, 0, 0) := rfl
theorem bt_67_16 : mm_at mt_P 67 16 = some ((16, 1, .iconst 1, 0, 0, 0, 0), 2, 1, 1, 9, 0, 0, 0) := rfl
theorem bt_67_17 : mm_at mt_P 67 17 = some ((17, 3, .invokevirtual 218, 27, 0, 0, 1483), 2, 1, 1, 9, 0, 0, 0) := rfl
theorem bt_67_20 : mm_at mt_P 67 20 = some ((20, 1, .return_, 0, 0, 0, 0), 2, 1, 1, 9, 0, 0, 0) := rfl
section BX
variable {E : mm_E} {FIN : mm_C → Prop} {h0 h : mm_H} {s : Nat → Int32} {A : Nat → Nat → Int32} {L : Nat → Nat → Int64} {gs : List mm_F}
theorem sp_45 {t f k : Int32} (hP : bh_P bx_T E h0 h s A L) (ht : s 11 = t) (hf : s 13 = f) (b1 : 0 ≤ t.toInt) (b2 : t.toInt ≤ 402) (kk : ∀ r : Int32, ((r.toInt = 1 ∧ f.toInt = 0 ∧ (A 91 t.toInt.toNat).toInt = k.toInt) ∨ (r.toInt = 0 ∧ ¬ (f.toInt = 0 ∧ (A 91 t.toInt.toNat).toInt = k.toInt))) → bh_G E FIN (mm_back (some (.int r)) gs h)) : bh_G E FIN ((45, 0, [(0, .ref (E.1 + 88)), (1, .int k)], [], 0, 0) :: gs, h, none) := by
  refine bh_ld (pc' := 1) bt_45_0 rfl rfl (fun _ _ _ => rfl) rfl rfl ?_
  refine bh_gi (pc' := 4) bt_45_1 rfl rfl (fun _ _ _ => rfl) hP bx_i13 hf ?_
  refine bh_i0 (pc' := 7) (pt := 24) bt_45_4 rfl rfl (fun k1 => ?_) (fun k1 => ?_)
  · replace k1 : (f).toInt ≠ 0 := k1
    refine bh_c (pc' := 25) (n := 0) bt_45_24 rfl rfl (fun _ _ _ => rfl) (by decide) (fun c2 e3 => ?_)
    refine bh_rb bt_45_25 (by omega) ?_
    exact kk _ (by omega)
  · replace k1 : ¬ ((f).toInt ≠ 0) := k1
    refine bh_ld (pc' := 8) bt_45_7 rfl rfl (fun _ _ _ => rfl) rfl rfl ?_
    refine bh_gr (pc' := 11) (c := 91) bt_45_8 rfl rfl (fun _ _ _ => rfl) hP bx_r5 ?_
    refine bh_ld (pc' := 12) bt_45_11 rfl rfl (fun _ _ _ => rfl) rfl rfl ?_
    refine bh_gi (pc' := 15) bt_45_12 rfl rfl (fun _ _ _ => rfl) hP bx_i11 ht ?_
    refine bh_ia (pc' := 16) bt_45_15 rfl rfl (fun _ _ _ => rfl) hP bx_a91 (Or.inl rfl) (by omega) (by omega) ?_
    refine bh_ld (pc' := 17) bt_45_16 rfl rfl (fun _ _ _ => rfl) rfl rfl ?_
    refine bh_ic (pc' := 20) (pt := 24) bt_45_17 rfl rfl (fun k4 => ?_) (fun k4 => ?_)
    · replace k4 : ((A 91 (t).toInt.toNat)).toInt ≠ (k).toInt := k4
      refine bh_c (pc' := 25) (n := 0) bt_45_24 rfl rfl (fun _ _ _ => rfl) (by decide) (fun c5 e6 => ?_)
      refine bh_rb bt_45_25 (by omega) ?_
      exact kk _ (by omega)
    · replace k4 : ¬ (((A 91 (t).toInt.toNat)).toInt ≠ (k).toInt) := k4
      refine bh_c (pc' := 21) (n := 1) bt_45_20 rfl rfl (fun _ _ _ => rfl) (by decide) (fun c7 e8 => ?_)
      refine bh_go (pc' := 25) bt_45_21 rfl ?_
      refine bh_rb bt_45_25 (by omega) ?_
      exact kk _ (by omega)
theorem sp_27 {t f k : Int32} (hP : bh_P bx_T E h0 h s A L) (ht : s 11 = t) (hf : s 13 = f) (b1 : 0 ≤ t.toInt) (b2 : t.toInt ≤ 402) (kk : ∀ (h' : mm_H) (s' : Nat → Int32), bh_P bx_T E h0 h' s' A L → (∀ j, j ≠ 13 → j ≠ 14 → s' j = s j) → ((0 < f.toInt ∧ (s' 13).toInt = f.toInt) ∨ (f.toInt ≤ 0 ∧ (s' 13).toInt = k.toInt)) → bh_G E FIN (mm_back none gs h')) : bh_G E FIN ((27, 0, [(0, .ref (E.1 + 88)), (1, .int k)], [], 0, 0) :: gs, h, none) := by
  refine bh_ld (pc' := 1) bt_27_0 rfl rfl (fun _ _ _ => rfl) rfl rfl ?_
  refine bh_gi (pc' := 4) bt_27_1 rfl rfl (fun _ _ _ => rfl) hP bx_i13 hf ?_
  refine bh_i0 (pc' := 7) (pt := 8) bt_27_4 rfl rfl (fun k9 => ?_) (fun k9 => ?_)
  · replace k9 : (f).toInt ≤ 0 := k9
    refine bh_ld (pc' := 9) bt_27_8 rfl rfl (fun _ _ _ => rfl) rfl rfl ?_
    refine bh_ld (pc' := 10) bt_27_9 rfl rfl (fun _ _ _ => rfl) rfl rfl ?_
    refine bh_pf (pc' := 13) bt_27_10 rfl rfl (fun _ _ _ => rfl) hP bx_i13 rfl (fun h10 s11 hP12 e13 f14 => ?_)
    refine bh_ld (pc' := 14) bt_27_13 rfl rfl (fun _ _ _ => rfl) rfl rfl ?_
    refine bh_ld (pc' := 15) bt_27_14 rfl rfl (fun _ _ _ => rfl) rfl rfl ?_
    refine bh_gr (pc' := 18) (c := 92) bt_27_15 rfl rfl (fun _ _ _ => rfl) hP12 bx_r6 ?_
    refine bh_ld (pc' := 19) bt_27_18 rfl rfl (fun _ _ _ => rfl) rfl rfl ?_
    refine bh_gi (pc' := 22) bt_27_19 rfl rfl (fun _ _ _ => rfl) hP12 bx_i11 ((f14 11 (by decide)).trans ht) ?_
    refine bh_ia (pc' := 23) bt_27_22 rfl rfl (fun _ _ _ => rfl) hP12 bx_a92 (Or.inl rfl) (by omega) (by omega) ?_
    refine bh_pf (pc' := 26) bt_27_23 rfl rfl (fun _ _ _ => rfl) hP12 bx_i14 rfl (fun h15 s16 hP17 e18 f19 => ?_)
    refine bh_rv bt_27_26 ?_
    exact kk _ _ hP17 (fun j j13 j14 => ((f19 j j14).trans (f14 j j13))) (by have := congrArg Int32.toInt ((f19 13 (by decide)).trans e13); omega)
  · replace k9 : ¬ ((f).toInt ≤ 0) := k9
    refine bh_rv bt_27_7 ?_
    exact kk _ _ hP (fun j j13 j14 => rfl) (by have := congrArg Int32.toInt hf; omega)
theorem sp_37 {t f : Int32} (hP : bh_P bx_T E h0 h s A L) (hd : gs.length + 1 ≤ 999) (ht : s 11 = t) (hf : s 13 = f) (b1 : 0 ≤ t.toInt) (b2 : t.toInt ≤ 400) (b3 : 0 ≤ f.toInt) (kk : ∀ (h' : mm_H) (s' : Nat → Int32), bh_P bx_T E h0 h' s' A L → (∀ j, j ≠ 11 → j ≠ 13 → j ≠ 14 → s' j = s j) → ((t.toInt < 400 ∧ (s' 11).toInt = t.toInt + 1 ∧ (s' 13).toInt = f.toInt) ∨ (t.toInt = 400 ∧ (s' 11).toInt = t.toInt ∧ 0 < (s' 13).toInt)) → bh_G E FIN (mm_back none gs h')) : bh_G E FIN ((37, 0, [(0, .ref (E.1 + 88))], [], 0, 0) :: gs, h, none) := by
  refine bh_ld (pc' := 1) bt_37_0 rfl rfl (fun _ _ _ => rfl) rfl rfl ?_
  refine bh_gi (pc' := 4) bt_37_1 rfl rfl (fun _ _ _ => rfl) hP bx_i11 ht ?_
  refine bh_c (pc' := 7) (n := 400) bt_37_4 rfl rfl (fun _ _ _ => rfl) (by decide) (fun c20 e21 => ?_)
  refine bh_ic (pc' := 10) (pt := 18) bt_37_7 rfl rfl (fun k22 => ?_) (fun k22 => ?_)
  · replace k22 : (t).toInt ≠ (c20).toInt := k22
    refine bh_ld (pc' := 19) bt_37_18 rfl rfl (fun _ _ _ => rfl) rfl rfl ?_
    refine bh_dup (pc' := 20) bt_37_19 rfl rfl ?_
    refine bh_gi (pc' := 23) bt_37_20 rfl rfl (fun _ _ _ => rfl) hP bx_i11 ht ?_
    refine bh_c (pc' := 24) (n := 1) bt_37_23 rfl rfl (fun _ _ _ => rfl) (by decide) (fun c23 e24 => ?_)
    refine bh_add (pc' := 25) bt_37_24 rfl (by omega) (by omega) (fun v25 e26 => ?_)
    refine bh_pf (pc' := 28) bt_37_25 rfl rfl (fun _ _ _ => rfl) hP bx_i11 rfl (fun h27 s28 hP29 e30 f31 => ?_)
    refine bh_rv bt_37_28 ?_
    exact kk _ _ hP29 (fun j j11 j13 j14 => (f31 j j11)) (by have := congrArg Int32.toInt e30; have := congrArg Int32.toInt ((f31 13 (by decide)).trans hf); omega)
  · replace k22 : ¬ ((t).toInt ≠ (c20).toInt) := k22
    refine bh_ld (pc' := 11) bt_37_10 rfl rfl (fun _ _ _ => rfl) rfl rfl ?_
    refine bh_c (pc' := 12) (n := 2) bt_37_11 rfl rfl (fun _ _ _ => rfl) (by decide) (fun c32 e33 => ?_)
    refine bh_cv (pc' := 15) (st := []) (args := [.int c32]) bt_37_12 rfl rfl (by decide) hP (by omega) rfl (Nat.le_of_ble_eq_true rfl) (Nat.le_of_ble_eq_true rfl) ?_
    refine sp_27 (k := c32) hP ht hf (by omega) (by omega) (fun h34 s35 hP36 f37 p38 => ?_)
    show bh_G E FIN ((37, 15, _, [], 0, 0) :: gs, _, none)
    refine bh_go (pc' := 28) bt_37_15 rfl ?_
    refine bh_rv bt_37_28 ?_
    exact kk _ _ hP36 (fun j j11 j13 j14 => (f37 j j13 j14)) (by have := congrArg Int32.toInt ((f37 11 (by decide) (by decide)).trans ht); omega)
theorem sp_67 {t f k : Int32} (hP : bh_P bx_T E h0 h s A L) (hd : gs.length + 2 ≤ 999) (ht : s 11 = t) (hf : s 13 = f) (b1 : 0 ≤ t.toInt) (b2 : t.toInt ≤ 400) (b3 : 0 ≤ f.toInt) (kk : ∀ (h' : mm_H) (s' : Nat → Int32), bh_P bx_T E h0 h' s' A L → (∀ j, j ≠ 11 → j ≠ 13 → j ≠ 14 → s' j = s j) → (((s' 13).toInt = 0 ∧ f.toInt = 0 ∧ t.toInt < 400 ∧ (s' 11).toInt = t.toInt + 1 ∧ (A 91 t.toInt.toNat).toInt = k.toInt) ∨ (0 < (s' 13).toInt ∧ (s' 11).toInt = t.toInt)) → bh_G E FIN (mm_back none gs h')) : bh_G E FIN ((67, 0, [(0, .ref (E.1 + 88)), (1, .int k)], [], 0, 0) :: gs, h, none) := by
  refine bh_ld (pc' := 1) bt_67_0 rfl rfl (fun _ _ _ => rfl) rfl rfl ?_
  refine bh_ld (pc' := 2) bt_67_1 rfl rfl (fun _ _ _ => rfl) rfl rfl ?_
  refine bh_cv (pc' := 5) (st := []) (args := [.int k]) bt_67_2 rfl rfl (by decide) hP (by omega) rfl (Nat.le_of_ble_eq_true rfl) (Nat.le_of_ble_eq_true rfl) ?_
  refine sp_45 (k := k) hP ht hf (by omega) (by omega) (fun r39 p40 => ?_)
  show bh_G E FIN ((67, 5, _, [.int r39], 0, 0) :: gs, _, none)
  refine bh_i0 (pc' := 8) (pt := 15) bt_67_5 rfl rfl (fun k41 => ?_) (fun k41 => ?_)
  · replace k41 : (r39).toInt = 0 := k41
    refine bh_ld (pc' := 16) bt_67_15 rfl rfl (fun _ _ _ => rfl) rfl rfl ?_
    refine bh_c (pc' := 17) (n := 1) bt_67_16 rfl rfl (fun _ _ _ => rfl) (by decide) (fun c42 e43 => ?_)
    refine bh_cv (pc' := 20) (st := []) (args := [.int c42]) bt_67_17 rfl rfl (by decide) hP (by omega) rfl (Nat.le_of_ble_eq_true rfl) (Nat.le_of_ble_eq_true rfl) ?_
    refine sp_27 (k := c42) hP ht hf (by omega) (by omega) (fun h44 s45 hP46 f47 p48 => ?_)
    show bh_G E FIN ((67, 20, _, [], 0, 0) :: gs, _, none)
    refine bh_rv bt_67_20 ?_
    exact kk _ _ hP46 (fun j j11 j13 j14 => (f47 j j13 j14)) (by have := congrArg Int32.toInt ((f47 11 (by decide) (by decide)).trans ht); omega)
  · replace k41 : ¬ ((r39).toInt = 0) := k41
    refine bh_ld (pc' := 9) bt_67_8 rfl rfl (fun _ _ _ => rfl) rfl rfl ?_
    refine bh_cv (pc' := 12) (st := []) (args := []) bt_67_9 rfl rfl (by decide) hP (by omega) rfl (Nat.le_of_ble_eq_true rfl) (Nat.le_of_ble_eq_true rfl) ?_
    refine sp_37 hP (by simp only [List.length_cons]; omega) ht hf (by omega) (by omega) (by omega) (fun h49 s50 hP51 f52 p53 => ?_)
    show bh_G E FIN ((67, 12, _, [], 0, 0) :: gs, _, none)
    refine bh_go (pc' := 20) bt_67_12 rfl ?_
    refine bh_rv bt_67_20 ?_
    exact kk _ _ hP51 (fun j j11 j13 j14 => (f52 j j11 j13 j14)) (by omega)
theorem sp_23 {x y c : Int32} (hP : bh_P bx_T E h0 h s A L) (hc : s 39 = c) (b1 : 0 ≤ c.toInt) (b2 : c.toInt < 840) (kk : ∀ (h' : mm_H) (s' : Nat → Int32), bh_P bx_T E h0 h' s' (bh_up (bh_up A 113 c.toInt.toNat x) 114 c.toInt.toNat y) L → (∀ j, j ≠ 39 → s' j = s j) → (s' 39).toInt = c.toInt + 1 → bh_G E FIN (mm_back none gs h')) : bh_G E FIN ((23, 0, [(0, .ref (E.1 + 88)), (1, .int x), (2, .int y)], [], 0, 0) :: gs, h, none) := by
  refine bh_ld (pc' := 1) bt_23_0 rfl rfl (fun _ _ _ => rfl) rfl rfl ?_
  refine bh_gr (pc' := 4) (c := 113) bt_23_1 rfl rfl (fun _ _ _ => rfl) hP bx_r40 ?_
  refine bh_ld (pc' := 5) bt_23_4 rfl rfl (fun _ _ _ => rfl) rfl rfl ?_
  refine bh_gi (pc' := 8) bt_23_5 rfl rfl (fun _ _ _ => rfl) hP bx_i39 hc ?_
  refine bh_ld (pc' := 9) bt_23_8 rfl rfl (fun _ _ _ => rfl) rfl rfl ?_
  refine bh_ias (pc' := 10) bt_23_9 rfl rfl (fun _ _ _ => rfl) hP bx_a113 (Or.inl rfl) (by omega) (by omega) (fun h54 hP55 => ?_)
  refine bh_ld (pc' := 11) bt_23_10 rfl rfl (fun _ _ _ => rfl) rfl rfl ?_
  refine bh_gr (pc' := 14) (c := 114) bt_23_11 rfl rfl (fun _ _ _ => rfl) hP55 bx_r41 ?_
  refine bh_ld (pc' := 15) bt_23_14 rfl rfl (fun _ _ _ => rfl) rfl rfl ?_
  refine bh_gi (pc' := 18) bt_23_15 rfl rfl (fun _ _ _ => rfl) hP55 bx_i39 hc ?_
  refine bh_ld (pc' := 19) bt_23_18 rfl rfl (fun _ _ _ => rfl) rfl rfl ?_
  refine bh_ias (pc' := 20) bt_23_19 rfl rfl (fun _ _ _ => rfl) hP55 bx_a114 (Or.inl rfl) (by omega) (by omega) (fun h56 hP57 => ?_)
  refine bh_ld (pc' := 21) bt_23_20 rfl rfl (fun _ _ _ => rfl) rfl rfl ?_
  refine bh_dup (pc' := 22) bt_23_21 rfl rfl ?_
  refine bh_gi (pc' := 25) bt_23_22 rfl rfl (fun _ _ _ => rfl) hP57 bx_i39 hc ?_
  refine bh_c (pc' := 26) (n := 1) bt_23_25 rfl rfl (fun _ _ _ => rfl) (by decide) (fun c58 e59 => ?_)
  refine bh_add (pc' := 27) bt_23_26 rfl (by omega) (by omega) (fun v60 e61 => ?_)
  refine bh_pf (pc' := 30) bt_23_27 rfl rfl (fun _ _ _ => rfl) hP57 bx_i39 rfl (fun h62 s63 hP64 e65 f66 => ?_)
  refine bh_rv bt_23_30 ?_
  exact kk _ _ hP64 (fun j j39 => (f66 j j39)) (by have := congrArg Int32.toInt e65; omega)
end BX
