/-! PARTIAL: what is told, how likely, the slots (wip/p7/mkq10.py) -/
def cw_T : bm_T := ([(0, 8), (2, 6), (25, 5), (37, 3), (84, 2)], [(0, 3, 2), (0, 6, 25), (0, 9, 37), (0, 10, 84), (25, 0, 26), (37, 1, 79), (37, 2, 83), (84, 0, 85)], [(2, 4), (37, 4), (84, 3), (84, 4)], [], [(26, 0, 27), (83, 2, 3), (85, 0, 10)], [])
theorem cw_o0 : (0, 8) ∈ cw_T.1 := by decide
theorem cw_o2 : (2, 6) ∈ cw_T.1 := by decide
theorem cw_o25 : (25, 5) ∈ cw_T.1 := by decide
theorem cw_o37 : (37, 3) ∈ cw_T.1 := by decide
theorem cw_o84 : (84, 2) ∈ cw_T.1 := by decide
theorem cw_r0_3 : (0, 3, 2) ∈ cw_T.2.1 := by decide
theorem cw_r0_6 : (0, 6, 25) ∈ cw_T.2.1 := by decide
theorem cw_r0_9 : (0, 9, 37) ∈ cw_T.2.1 := by decide
theorem cw_r0_10 : (0, 10, 84) ∈ cw_T.2.1 := by decide
theorem cw_r25_0 : (25, 0, 26) ∈ cw_T.2.1 := by decide
theorem cw_r37_1 : (37, 1, 79) ∈ cw_T.2.1 := by decide
theorem cw_r37_2 : (37, 2, 83) ∈ cw_T.2.1 := by decide
theorem cw_r84_0 : (84, 0, 85) ∈ cw_T.2.1 := by decide
theorem cw_i2_4 : (2, 4) ∈ cw_T.2.2.1 := by decide
theorem cw_i37_4 : (37, 4) ∈ cw_T.2.2.1 := by decide
theorem cw_i84_3 : (84, 3) ∈ cw_T.2.2.1 := by decide
theorem cw_i84_4 : (84, 4) ∈ cw_T.2.2.1 := by decide
theorem cw_a26 : (26, 0, 27) ∈ cw_T.2.2.2.2.1 := by decide
theorem cw_a83 : (83, 2, 3) ∈ cw_T.2.2.2.2.1 := by decide
theorem cw_a85 : (85, 0, 10) ∈ cw_T.2.2.2.2.1 := by decide
theorem cw_W : bm_W cw_T := by unfold bm_W; decide
def mw_T : bm_T := ([(88, 9)], [(88, 22, 97), (88, 47, 118), (88, 66, 127), (88, 71, 131), (88, 72, 132)], [(88, 18), (88, 54), (88, 65), (88, 67)], [], [(97, 0, 2), (118, 0, 60), (127, 0, 10), (131, 2, 3), (132, 0, 180)], [])
theorem mw_o88 : (88, 9) ∈ mw_T.1 := by decide
theorem mw_r88_22 : (88, 22, 97) ∈ mw_T.2.1 := by decide
theorem mw_r88_47 : (88, 47, 118) ∈ mw_T.2.1 := by decide
theorem mw_r88_66 : (88, 66, 127) ∈ mw_T.2.1 := by decide
theorem mw_r88_71 : (88, 71, 131) ∈ mw_T.2.1 := by decide
theorem mw_r88_72 : (88, 72, 132) ∈ mw_T.2.1 := by decide
theorem mw_i88_18 : (88, 18) ∈ mw_T.2.2.1 := by decide
theorem mw_i88_54 : (88, 54) ∈ mw_T.2.2.1 := by decide
theorem mw_i88_65 : (88, 65) ∈ mw_T.2.2.1 := by decide
theorem mw_i88_67 : (88, 67) ∈ mw_T.2.2.1 := by decide
theorem mw_a97 : (97, 0, 2) ∈ mw_T.2.2.2.2.1 := by decide
theorem mw_a118 : (118, 0, 60) ∈ mw_T.2.2.2.2.1 := by decide
theorem mw_a127 : (127, 0, 10) ∈ mw_T.2.2.2.2.1 := by decide
theorem mw_a131 : (131, 2, 3) ∈ mw_T.2.2.2.2.1 := by decide
theorem mw_a132 : (132, 0, 180) ∈ mw_T.2.2.2.2.1 := by decide
theorem mw_W : bm_W mw_T := by unfold bm_W; decide
def hw_T : bm_T := ([(0, 8), (25, 5), (37, 3)], [(0, 6, 25), (0, 9, 37), (25, 0, 26), (37, 1, 79), (37, 2, 83)], [], [], [(83, 2, 3)], [])
theorem hw_o0 : (0, 8) ∈ hw_T.1 := by decide
theorem hw_o25 : (25, 5) ∈ hw_T.1 := by decide
theorem hw_o37 : (37, 3) ∈ hw_T.1 := by decide
theorem hw_r0_6 : (0, 6, 25) ∈ hw_T.2.1 := by decide
theorem hw_r0_9 : (0, 9, 37) ∈ hw_T.2.1 := by decide
theorem hw_r25_0 : (25, 0, 26) ∈ hw_T.2.1 := by decide
theorem hw_r37_1 : (37, 1, 79) ∈ hw_T.2.1 := by decide
theorem hw_r37_2 : (37, 2, 83) ∈ hw_T.2.1 := by decide
theorem hw_a83 : (83, 2, 3) ∈ hw_T.2.2.2.2.1 := by decide
theorem hw_W : bm_W hw_T := by unfold bm_W; decide
def kd_Ex (k a : Int32) (f : Nat → Int32) : Prop := ∃ j : Nat, (j : Int) < k.toInt ∧ f j = a
def kd_Al (k a : Int32) (f : Nat → Int32) : Prop := ∀ j : Nat, (j : Int) < k.toInt → f j ≠ a
theorem hw_b : ∀ q ∈ hw_T.2.2.2.2.1, q.2.1 ≠ 0 := by decide
theorem hw_sub {E : mm_E} {h0 h : mm_H} {s : Nat → Int32} {A : Nat → Nat → Int32} {L : Nat → Nat → Int64} (hP : bm_P cw_T E h0 h s A L) : bm_P hw_T E h h s A L := bm_sub hw_W (by decide) (by decide) (by decide) (by decide) (by decide) (by decide) hP
theorem kd_nar2 {c : Int32} (h : c.toInt = 1) : (mm_nar 2 c).toInt = 1 := by
  have e : c = 1 := Int32.toInt_inj.mp h
  rw [e]
  rfl
theorem bu_14_0 : mm_at mt_P 14 0 = some ((0, 1, .aload_n 0, 0, 0, 0, 0), 5, 3, 1, 9, 1, 0, 0) := rfl
theorem bu_14_1 : mm_at mt_P 14 1 = some ((1, 1, .iload_n 1, 0, 0, 0, 0), 5, 3, 1, 9, 1, 0, 0) := rfl
theorem bu_14_2 : mm_at mt_P 14 2 = some ((2, 3, .invokevirtual 377, 52, 0, 0, 1539), 5, 3, 1, 9, 1, 0, 0) := rfl
theorem bu_14_5 : mm_at mt_P 14 5 = some ((5, 3, .ifCond .eq 15, 0, 0, 0, 0), 5, 3, 1, 9, 1, 0, 0) := rfl
theorem bu_14_8 : mm_at mt_P 14 8 = some ((8, 1, .iload_n 2, 0, 0, 0, 0), 5, 3, 1, 9, 1, 0, 0) := rfl
theorem bu_14_9 : mm_at mt_P 14 9 = some ((9, 1, .iconst 0, 0, 0, 0, 0), 5, 3, 1, 9, 1, 0, 0) := rfl
theorem bu_14_10 : mm_at mt_P 14 10 = some ((10, 1, .aload_n 0, 0, 0, 0, 0), 5, 3, 1, 9, 1, 0, 0) := rfl
theorem bu_14_11 : mm_at mt_P 14 11 = some ((11, 3, .getfield 254, 9, 65, 0, 1282), 5, 3, 1, 9, 1, 0, 0) := rfl
theorem bu_14_14 : mm_at mt_P 14 14 = some ((14, 3, .invokestatic 300, 43, 0, 0, 1543), 5, 3, 1, 9, 1, 0, 0) := rfl
theorem bu_14_17 : mm_at mt_P 14 17 = some ((17, 3, .ifCond .ne 5, 0, 0, 0, 0), 5, 3, 1, 9, 1, 0, 0) := rfl
theorem bu_14_20 : mm_at mt_P 14 20 = some ((20, 1, .iconst (-1), 0, 0, 0, 0), 5, 3, 1, 9, 1, 0, 0) := rfl
theorem bu_14_21 : mm_at mt_P 14 21 = some ((21, 1, .ireturn, 0, 0, 0, 0), 5, 3, 1, 9, 1, 0, 0) := rfl
theorem bu_14_22 : mm_at mt_P 14 22 = some ((22, 1, .iconst 0, 0, 0, 0, 0), 5, 3, 1, 9, 1, 0, 0) := rfl
theorem bu_14_23 : mm_at mt_P 14 23 = some ((23, 2, .istore 4, 0, 0, 0, 0), 5, 3, 1, 9, 1, 0, 0) := rfl
theorem bu_14_25 : mm_at mt_P 14 25 = some ((25, 2, .iload 4, 0, 0, 0, 0), 5, 3, 1, 9, 1, 0, 0) := rfl
theorem bu_14_27 : mm_at mt_P 14 27 = some ((27, 1, .iload_n 2, 0, 0, 0, 0), 5, 3, 1, 9, 1, 0, 0) := rfl
theorem bu_14_28 : mm_at mt_P 14 28 = some ((28, 3, .if_icmp .ge 30, 0, 0, 0, 0), 5, 3, 1, 9, 1, 0, 0) := rfl
theorem bu_14_31 : mm_at mt_P 14 31 = some ((31, 1, .aload_n 0, 0, 0, 0, 0), 5, 3, 1, 9, 1, 0, 0) := rfl
theorem bu_14_32 : mm_at mt_P 14 32 = some ((32, 3, .getfield 134, 9, 66, 0, 1283), 5, 3, 1, 9, 1, 0, 0) := rfl
theorem bu_14_35 : mm_at mt_P 14 35 = some ((35, 2, .iload 4, 0, 0, 0, 0), 5, 3, 1, 9, 1, 0, 0) := rfl
theorem bu_14_37 : mm_at mt_P 14 37 = some ((37, 1, .iaload, 0, 0, 0, 0), 5, 3, 1, 9, 1, 0, 0) := rfl
theorem bu_14_38 : mm_at mt_P 14 38 = some ((38, 1, .iload_n 1, 0, 0, 0, 0), 5, 3, 1, 9, 1, 0, 0) := rfl
theorem bu_14_39 : mm_at mt_P 14 39 = some ((39, 3, .if_icmp .ne 13, 0, 0, 0, 0), 5, 3, 1, 9, 1, 0, 0) := rfl
theorem bu_14_42 : mm_at mt_P 14 42 = some ((42, 1, .iload_n 3, 0, 0, 0, 0), 5, 3, 1, 9, 1, 0, 0) := rfl
theorem bu_14_43 : mm_at mt_P 14 43 = some ((43, 3, .ifCond .eq 7, 0, 0, 0, 0), 5, 3, 1, 9, 1, 0, 0) := rfl
theorem bu_14_46 : mm_at mt_P 14 46 = some ((46, 1, .iconst 1, 0, 0, 0, 0), 5, 3, 1, 9, 1, 0, 0) := rfl
theorem bu_14_47 : mm_at mt_P 14 47 = some ((47, 3, .goto 4, 0, 0, 0, 0), 5, 3, 1, 9, 1, 0, 0) := rfl
theorem bu_14_50 : mm_at mt_P 14 50 = some ((50, 1, .iconst 0, 0, 0, 0, 0), 5, 3, 1, 9, 1, 0, 0) := rfl
theorem bu_14_51 : mm_at mt_P 14 51 = some ((51, 1, .ireturn, 0, 0, 0, 0), 5, 3, 1, 9, 1, 0, 0) := rfl
theorem bu_14_52 : mm_at mt_P 14 52 = some ((52, 3, .iinc 4 1, 0, 0, 0, 0), 5, 3, 1, 9, 1, 0, 0) := rfl
theorem bu_14_55 : mm_at mt_P 14 55 = some ((55, 3, .goto (-30), 0, 0, 0, 0), 5, 3, 1, 9, 1, 0, 0) := rfl
theorem bu_14_58 : mm_at mt_P 14 58 = some ((58, 1, .aload_n 0, 0, 0, 0, 0), 5, 3, 1, 9, 1, 0, 0) := rfl
theorem bu_14_59 : mm_at mt_P 14 59 = some ((59, 3, .getfield 43, 9, 22, 0, 1239), 5, 3, 1, 9, 1, 0, 0) := rfl
theorem bu_14_62 : mm_at mt_P 14 62 = some ((62, 1, .aload_n 0, 0, 0, 0, 0), 5, 3, 1, 9, 1, 0, 0) := rfl
theorem bu_14_63 : mm_at mt_P 14 63 = some ((63, 3, .getfield 233, 9, 18, 0, 1235), 5, 3, 1, 9, 1, 0, 0) := rfl
theorem bu_14_66 : mm_at mt_P 14 66 = some ((66, 1, .iaload, 0, 0, 0, 0), 5, 3, 1, 9, 1, 0, 0) := rfl
theorem bu_14_67 : mm_at mt_P 14 67 = some ((67, 1, .iload_n 2, 0, 0, 0, 0), 5, 3, 1, 9, 1, 0, 0) := rfl
theorem bu_14_68 : mm_at mt_P 14 68 = some ((68, 3, .invokestatic 470, 75, 0, 0, 1810), 5, 3, 1, 9, 1, 0, 0) := rfl
theorem bu_14_71 : mm_at mt_P 14 71 = some ((71, 2, .istore 4, 0, 0, 0, 0), 5, 3, 1, 9, 1, 0, 0) := rfl
theorem bu_14_73 : mm_at mt_P 14 73 = some ((73, 2, .iload 4, 0, 0, 0, 0), 5, 3, 1, 9, 1, 0, 0) := rfl
theorem bu_14_75 : mm_at mt_P 14 75 = some ((75, 2, .iload 4, 0, 0, 0, 0), 5, 3, 1, 9, 1, 0, 0) := rfl
theorem bu_14_77 : mm_at mt_P 14 77 = some ((77, 1, .aload_n 0, 0, 0, 0, 0), 5, 3, 1, 9, 1, 0, 0) := rfl
theorem bu_14_78 : mm_at mt_P 14 78 = some ((78, 3, .getfield 43, 9, 22, 0, 1239), 5, 3, 1, 9, 1, 0, 0) := rfl
theorem bu_14_81 : mm_at mt_P 14 81 = some ((81, 1, .aload_n 0, 0, 0, 0, 0), 5, 3, 1, 9, 1, 0, 0) := rfl
theorem bu_14_82 : mm_at mt_P 14 82 = some ((82, 3, .getfield 233, 9, 18, 0, 1235), 5, 3, 1, 9, 1, 0, 0) := rfl
theorem bu_14_85 : mm_at mt_P 14 85 = some ((85, 1, .iaload, 0, 0, 0, 0), 5, 3, 1, 9, 1, 0, 0) := rfl
theorem bu_14_86 : mm_at mt_P 14 86 = some ((86, 1, .iconst 1, 0, 0, 0, 0), 5, 3, 1, 9, 1, 0, 0) := rfl
theorem bu_14_87 : mm_at mt_P 14 87 = some ((87, 1, .isub, 0, 0, 0, 0), 5, 3, 1, 9, 1, 0, 0) := rfl
theorem bu_14_88 : mm_at mt_P 14 88 = some ((88, 1, .iload_n 2, 0, 0, 0, 0), 5, 3, 1, 9, 1, 0, 0) := rfl
theorem bu_14_89 : mm_at mt_P 14 89 = some ((89, 3, .invokestatic 470, 75, 0, 0, 1810), 5, 3, 1, 9, 1, 0, 0) := rfl
theorem bu_14_92 : mm_at mt_P 14 92 = some ((92, 1, .iadd, 0, 0, 0, 0), 5, 3, 1, 9, 1, 0, 0) := rfl
theorem bu_14_93 : mm_at mt_P 14 93 = some ((93, 1, .iload_n 3, 0, 0, 0, 0), 5, 3, 1, 9, 1, 0, 0) := rfl
theorem bu_14_94 : mm_at mt_P 14 94 = some ((94, 3, .invokestatic 408, 59, 0, 0, 1662), 5, 3, 1, 9, 1, 0, 0) := rfl
theorem bu_14_97 : mm_at mt_P 14 97 = some ((97, 1, .ireturn, 0, 0, 0, 0), 5, 3, 1, 9, 1, 0, 0) := rfl
theorem bu_16_0 : mm_at mt_P 16 0 = some ((0, 1, .iload_n 0, 0, 0, 0, 0), 5, 2, 0, 9, 1, 0, 0) := rfl
theorem bu_16_1 : mm_at mt_P 16 1 = some ((1, 3, .ifCond .ge 8, 0, 0, 0, 0), 5, 2, 0, 9, 1, 0, 0) := rfl
theorem bu_16_4 : mm_at mt_P 16 4 = some ((4, 1, .iload_n 0, 0, 0, 0, 0), 5, 2, 0, 9, 1, 0, 0) := rfl
theorem bu_16_5 : mm_at mt_P 16 5 = some ((5, 1, .ineg, 0, 0, 0, 0), 5, 2, 0, 9, 1, 0, 0) := rfl
theorem bu_16_6 : mm_at mt_P 16 6 = some ((6, 3, .goto 4, 0, 0, 0, 0), 5, 2, 0, 9, 1, 0, 0) := rfl
theorem bu_16_9 : mm_at mt_P 16 9 = some ((9, 1, .iload_n 0, 0, 0, 0, 0), 5, 2, 0, 9, 1, 0, 0) := rfl
theorem bu_16_10 : mm_at mt_P 16 10 = some ((10, 1, .istore_n 2, 0, 0, 0, 0), 5, 2, 0, 9, 1, 0, 0) := rfl
theorem bu_16_11 : mm_at mt_P 16 11 = some ((11, 1, .iload_n 1, 0, 0, 0, 0), 5, 2, 0, 9, 1, 0, 0) := rfl
theorem bu_16_12 : mm_at mt_P 16 12 = some ((12, 1, .istore_n 3, 0, 0, 0, 0), 5, 2, 0, 9, 1, 0, 0) := rfl
theorem bu_16_13 : mm_at mt_P 16 13 = some ((13, 1, .iload_n 3, 0, 0, 0, 0), 5, 2, 0, 9, 1, 0, 0) := rfl
theorem bu_16_14 : mm_at mt_P 16 14 = some ((14, 3, .ifCond .eq 16, 0, 0, 0, 0), 5, 2, 0, 9, 1, 0, 0) := rfl
theorem bu_16_17 : mm_at mt_P 16 17 = some ((17, 1, .iload_n 2, 0, 0, 0, 0), 5, 2, 0, 9, 1, 0, 0) := rfl
theorem bu_16_18 : mm_at mt_P 16 18 = some ((18, 1, .iload_n 3, 0, 0, 0, 0), 5, 2, 0, 9, 1, 0, 0) := rfl
theorem bu_16_19 : mm_at mt_P 16 19 = some ((19, 1, .irem, 0, 0, 0, 0), 5, 2, 0, 9, 1, 0, 0) := rfl
theorem bu_16_20 : mm_at mt_P 16 20 = some ((20, 2, .istore 4, 0, 0, 0, 0), 5, 2, 0, 9, 1, 0, 0) := rfl
theorem bu_16_22 : mm_at mt_P 16 22 = some ((22, 1, .iload_n 3, 0, 0, 0, 0), 5, 2, 0, 9, 1, 0, 0) := rfl
theorem bu_16_23 : mm_at mt_P 16 23 = some ((23, 1, .istore_n 2, 0, 0, 0, 0), 5, 2, 0, 9, 1, 0, 0) := rfl
theorem bu_16_24 : mm_at mt_P 16 24 = some ((24, 2, .iload 4, 0, 0, 0, 0), 5, 2, 0, 9, 1, 0, 0) := rfl
theorem bu_16_26 : mm_at mt_P 16 26 = some ((26, 1, .istore_n 3, 0, 0, 0, 0), 5, 2, 0, 9, 1, 0, 0) := rfl
theorem bu_16_27 : mm_at mt_P 16 27 = some ((27, 3, .goto (-14), 0, 0, 0, 0), 5, 2, 0, 9, 1, 0, 0) := rfl
theorem bu_16_30 : mm_at mt_P 16 30 = some ((30, 1, .iload_n 2, 0, 0, 0, 0), 5, 2, 0, 9, 1, 0, 0) := rfl
theorem bu_16_31 : mm_at mt_P 16 31 = some ((31, 1, .ireturn, 0, 0, 0, 0), 5, 2, 0, 9, 1, 0, 0) := rfl
theorem bu_35_0 : mm_at mt_P 35 0 = some ((0, 1, .aload_n 0, 0, 0, 0, 0), 2, 0, 1, 9, 1, 0, 0) := rfl
theorem bu_35_1 : mm_at mt_P 35 1 = some ((1, 3, .getfield 254, 9, 65, 0, 1282), 2, 0, 1, 9, 1, 0, 0) := rfl
theorem bu_35_4 : mm_at mt_P 35 4 = some ((4, 1, .aload_n 0, 0, 0, 0, 0), 2, 0, 1, 9, 1, 0, 0) := rfl
theorem bu_35_5 : mm_at mt_P 35 5 = some ((5, 3, .getfield 257, 9, 67, 0, 1284), 2, 0, 1, 9, 1, 0, 0) := rfl
theorem bu_35_8 : mm_at mt_P 35 8 = some ((8, 1, .iadd, 0, 0, 0, 0), 2, 0, 1, 9, 1, 0, 0) := rfl
theorem bu_35_9 : mm_at mt_P 35 9 = some ((9, 1, .istore_n 1, 0, 0, 0, 0), 2, 0, 1, 9, 1, 0, 0) := rfl
theorem bu_35_10 : mm_at mt_P 35 10 = some ((10, 1, .aload_n 0, 0, 0, 0, 0), 2, 0, 1, 9, 1, 0, 0) := rfl
theorem bu_35_11 : mm_at mt_P 35 11 = some ((11, 1, .iconst 0, 0, 0, 0, 0), 2, 0, 1, 9, 1, 0, 0) := rfl
theorem bu_35_12 : mm_at mt_P 35 12 = some ((12, 3, .putfield 254, 9, 65, 0, 1282), 2, 0, 1, 9, 1, 0, 0) := rfl
theorem bu_35_15 : mm_at mt_P 35 15 = some ((15, 1, .aload_n 0, 0, 0, 0, 0), 2, 0, 1, 9, 1, 0, 0) := rfl
theorem bu_35_16 : mm_at mt_P 35 16 = some ((16, 1, .iconst 0, 0, 0, 0, 0), 2, 0, 1, 9, 1, 0, 0) := rfl
theorem bu_35_17 : mm_at mt_P 35 17 = some ((17, 3, .putfield 257, 9, 67, 0, 1284), 2, 0, 1, 9, 1, 0, 0) := rfl
theorem bu_35_20 : mm_at mt_P 35 20 = some ((20, 1, .iload_n 1, 0, 0, 0, 0), 2, 0, 1, 9, 1, 0, 0) := rfl
theorem bu_35_21 : mm_at mt_P 35 21 = some ((21, 1, .ireturn, 0, 0, 0, 0), 2, 0, 1, 9, 1, 0, 0) := rfl
theorem bu_41_0 : mm_at mt_P 41 0 = some ((0, 1, .iload_n 1, 0, 0, 0, 0), 3, 1, 1, 9, 2, 0, 0) := rfl
theorem bu_41_1 : mm_at mt_P 41 1 = some ((1, 1, .iconst 0, 0, 0, 0, 0), 3, 1, 1, 9, 2, 0, 0) := rfl
theorem bu_41_2 : mm_at mt_P 41 2 = some ((2, 1, .iconst 2, 0, 0, 0, 0), 3, 1, 1, 9, 2, 0, 0) := rfl
theorem bu_41_3 : mm_at mt_P 41 3 = some ((3, 3, .invokestatic 300, 43, 0, 0, 1543), 3, 1, 1, 9, 2, 0, 0) := rfl
theorem bu_41_6 : mm_at mt_P 41 6 = some ((6, 3, .ifCond .ne 5, 0, 0, 0, 0), 3, 1, 1, 9, 2, 0, 0) := rfl
theorem bu_41_9 : mm_at mt_P 41 9 = some ((9, 1, .iconst 0, 0, 0, 0, 0), 3, 1, 1, 9, 2, 0, 0) := rfl
theorem bu_41_10 : mm_at mt_P 41 10 = some ((10, 1, .ireturn, 0, 0, 0, 0), 3, 1, 1, 9, 2, 0, 0) := rfl
theorem bu_41_11 : mm_at mt_P 41 11 = some ((11, 1, .aload_n 0, 0, 0, 0, 0), 3, 1, 1, 9, 2, 0, 0) := rfl
theorem bu_41_12 : mm_at mt_P 41 12 = some ((12, 3, .getfield 146, 9, 71, 0, 1288), 3, 1, 1, 9, 2, 0, 0) := rfl
theorem bu_41_15 : mm_at mt_P 41 15 = some ((15, 1, .iload_n 1, 0, 0, 0, 0), 3, 1, 1, 9, 2, 0, 0) := rfl
theorem bu_41_16 : mm_at mt_P 41 16 = some ((16, 1, .iconst 1, 0, 0, 0, 0), 3, 1, 1, 9, 2, 0, 0) := rfl
theorem bu_41_17 : mm_at mt_P 41 17 = some ((17, 1, .bastore, 0, 0, 0, 0), 3, 1, 1, 9, 2, 0, 0) := rfl
theorem bu_41_18 : mm_at mt_P 41 18 = some ((18, 1, .iconst 0, 0, 0, 0, 0), 3, 1, 1, 9, 2, 0, 0) := rfl
theorem bu_41_19 : mm_at mt_P 41 19 = some ((19, 1, .istore_n 2, 0, 0, 0, 0), 3, 1, 1, 9, 2, 0, 0) := rfl
theorem bu_41_20 : mm_at mt_P 41 20 = some ((20, 1, .iload_n 2, 0, 0, 0, 0), 3, 1, 1, 9, 2, 0, 0) := rfl
theorem bu_41_21 : mm_at mt_P 41 21 = some ((21, 2, .bipush 60, 0, 0, 0, 0), 3, 1, 1, 9, 2, 0, 0) := rfl
theorem bu_41_23 : mm_at mt_P 41 23 = some ((23, 3, .if_icmp .ge 26, 0, 0, 0, 0), 3, 1, 1, 9, 2, 0, 0) := rfl
theorem bu_41_26 : mm_at mt_P 41 26 = some ((26, 1, .aload_n 0, 0, 0, 0, 0), 3, 1, 1, 9, 2, 0, 0) := rfl
theorem bu_41_27 : mm_at mt_P 41 27 = some ((27, 3, .getfield 149, 9, 72, 0, 1289), 3, 1, 1, 9, 2, 0, 0) := rfl
theorem bu_41_30 : mm_at mt_P 41 30 = some ((30, 2, .bipush 60, 0, 0, 0, 0), 3, 1, 1, 9, 2, 0, 0) := rfl
theorem bu_41_32 : mm_at mt_P 41 32 = some ((32, 1, .iload_n 1, 0, 0, 0, 0), 3, 1, 1, 9, 2, 0, 0) := rfl
theorem bu_41_33 : mm_at mt_P 41 33 = some ((33, 1, .imul, 0, 0, 0, 0), 3, 1, 1, 9, 2, 0, 0) := rfl
theorem bu_41_34 : mm_at mt_P 41 34 = some ((34, 1, .iload_n 2, 0, 0, 0, 0), 3, 1, 1, 9, 2, 0, 0) := rfl
theorem bu_41_35 : mm_at mt_P 41 35 = some ((35, 1, .iadd, 0, 0, 0, 0), 3, 1, 1, 9, 2, 0, 0) := rfl
theorem bu_41_36 : mm_at mt_P 41 36 = some ((36, 1, .aload_n 0, 0, 0, 0, 0), 3, 1, 1, 9, 2, 0, 0) := rfl
theorem bu_41_37 : mm_at mt_P 41 37 = some ((37, 3, .getfield 107, 9, 47, 0, 1264), 3, 1, 1, 9, 2, 0, 0) := rfl
theorem bu_41_40 : mm_at mt_P 41 40 = some ((40, 1, .iload_n 2, 0, 0, 0, 0), 3, 1, 1, 9, 2, 0, 0) := rfl
theorem bu_41_41 : mm_at mt_P 41 41 = some ((41, 1, .iaload, 0, 0, 0, 0), 3, 1, 1, 9, 2, 0, 0) := rfl
theorem bu_41_42 : mm_at mt_P 41 42 = some ((42, 1, .iastore, 0, 0, 0, 0), 3, 1, 1, 9, 2, 0, 0) := rfl
theorem bu_41_43 : mm_at mt_P 41 43 = some ((43, 3, .iinc 2 1, 0, 0, 0, 0), 3, 1, 1, 9, 2, 0, 0) := rfl
theorem bu_41_46 : mm_at mt_P 41 46 = some ((46, 3, .goto (-26), 0, 0, 0, 0), 3, 1, 1, 9, 2, 0, 0) := rfl
theorem bu_41_49 : mm_at mt_P 41 49 = some ((49, 1, .iconst 1, 0, 0, 0, 0), 3, 1, 1, 9, 2, 0, 0) := rfl
theorem bu_41_50 : mm_at mt_P 41 50 = some ((50, 1, .ireturn, 0, 0, 0, 0), 3, 1, 1, 9, 2, 0, 0) := rfl
theorem bu_43_0 : mm_at mt_P 43 0 = some ((0, 1, .iload_n 0, 0, 0, 0, 0), 3, 3, 0, 9, 2, 0, 0) := rfl
theorem bu_43_1 : mm_at mt_P 43 1 = some ((1, 1, .iload_n 1, 0, 0, 0, 0), 3, 3, 0, 9, 2, 0, 0) := rfl
theorem bu_43_2 : mm_at mt_P 43 2 = some ((2, 3, .if_icmp .lt 12, 0, 0, 0, 0), 3, 3, 0, 9, 2, 0, 0) := rfl
theorem bu_43_5 : mm_at mt_P 43 5 = some ((5, 1, .iload_n 0, 0, 0, 0, 0), 3, 3, 0, 9, 2, 0, 0) := rfl
theorem bu_43_6 : mm_at mt_P 43 6 = some ((6, 1, .iload_n 2, 0, 0, 0, 0), 3, 3, 0, 9, 2, 0, 0) := rfl
theorem bu_43_7 : mm_at mt_P 43 7 = some ((7, 3, .if_icmp .gt 7, 0, 0, 0, 0), 3, 3, 0, 9, 2, 0, 0) := rfl
theorem bu_43_10 : mm_at mt_P 43 10 = some ((10, 1, .iconst 1, 0, 0, 0, 0), 3, 3, 0, 9, 2, 0, 0) := rfl
theorem bu_43_11 : mm_at mt_P 43 11 = some ((11, 3, .goto 4, 0, 0, 0, 0), 3, 3, 0, 9, 2, 0, 0) := rfl
theorem bu_43_14 : mm_at mt_P 43 14 = some ((14, 1, .iconst 0, 0, 0, 0, 0), 3, 3, 0, 9, 2, 0, 0) := rfl
theorem bu_43_15 : mm_at mt_P 43 15 = some ((15, 1, .ireturn, 0, 0, 0, 0), 3, 3, 0, 9, 2, 0, 0) := rfl
theorem bu_52_0 : mm_at mt_P 52 0 = some ((0, 1, .iload_n 1, 0, 0, 0, 0), 2, 1, 1, 9, 2, 0, 0) := rfl
theorem bu_52_1 : mm_at mt_P 52 1 = some ((1, 1, .iconst 0, 0, 0, 0, 0), 2, 1, 1, 9, 2, 0, 0) := rfl
theorem bu_52_2 : mm_at mt_P 52 2 = some ((2, 1, .aload_n 0, 0, 0, 0, 0), 2, 1, 1, 9, 2, 0, 0) := rfl
theorem bu_52_3 : mm_at mt_P 52 3 = some ((3, 3, .getfield 43, 9, 22, 0, 1239), 2, 1, 1, 9, 2, 0, 0) := rfl
theorem bu_52_6 : mm_at mt_P 52 6 = some ((6, 1, .aload_n 0, 0, 0, 0, 0), 2, 1, 1, 9, 2, 0, 0) := rfl
theorem bu_52_7 : mm_at mt_P 52 7 = some ((7, 3, .getfield 233, 9, 18, 0, 1235), 2, 1, 1, 9, 2, 0, 0) := rfl
theorem bu_52_10 : mm_at mt_P 52 10 = some ((10, 1, .iaload, 0, 0, 0, 0), 2, 1, 1, 9, 2, 0, 0) := rfl
theorem bu_52_11 : mm_at mt_P 52 11 = some ((11, 1, .iconst 1, 0, 0, 0, 0), 2, 1, 1, 9, 2, 0, 0) := rfl
theorem bu_52_12 : mm_at mt_P 52 12 = some ((12, 1, .isub, 0, 0, 0, 0), 2, 1, 1, 9, 2, 0, 0) := rfl
theorem bu_52_13 : mm_at mt_P 52 13 = some ((13, 3, .invokestatic 300, 43, 0, 0, 1543), 2, 1, 1, 9, 2, 0, 0) := rfl
theorem bu_52_16 : mm_at mt_P 52 16 = some ((16, 1, .ireturn, 0, 0, 0, 0), 2, 1, 1, 9, 2, 0, 0) := rfl
theorem bu_58_0 : mm_at mt_P 58 0 = some ((0, 1, .aload_n 0, 0, 0, 0, 0), 4, 3, 1, 9, 1, 0, 0) := rfl
theorem bu_58_1 : mm_at mt_P 58 1 = some ((1, 1, .iload_n 1, 0, 0, 0, 0), 4, 3, 1, 9, 1, 0, 0) := rfl
theorem bu_58_2 : mm_at mt_P 58 2 = some ((2, 3, .invokevirtual 377, 52, 0, 0, 1539), 4, 3, 1, 9, 1, 0, 0) := rfl
theorem bu_58_5 : mm_at mt_P 58 5 = some ((5, 3, .ifCond .eq 12, 0, 0, 0, 0), 4, 3, 1, 9, 1, 0, 0) := rfl
theorem bu_58_8 : mm_at mt_P 58 8 = some ((8, 1, .iload_n 2, 0, 0, 0, 0), 4, 3, 1, 9, 1, 0, 0) := rfl
theorem bu_58_9 : mm_at mt_P 58 9 = some ((9, 1, .iconst 0, 0, 0, 0, 0), 4, 3, 1, 9, 1, 0, 0) := rfl
theorem bu_58_10 : mm_at mt_P 58 10 = some ((10, 1, .iconst 3, 0, 0, 0, 0), 4, 3, 1, 9, 1, 0, 0) := rfl
theorem bu_58_11 : mm_at mt_P 58 11 = some ((11, 3, .invokestatic 300, 43, 0, 0, 1543), 4, 3, 1, 9, 1, 0, 0) := rfl
theorem bu_58_14 : mm_at mt_P 58 14 = some ((14, 3, .ifCond .ne 5, 0, 0, 0, 0), 4, 3, 1, 9, 1, 0, 0) := rfl
theorem bu_58_17 : mm_at mt_P 58 17 = some ((17, 1, .iconst (-1), 0, 0, 0, 0), 4, 3, 1, 9, 1, 0, 0) := rfl
theorem bu_58_18 : mm_at mt_P 58 18 = some ((18, 1, .ireturn, 0, 0, 0, 0), 4, 3, 1, 9, 1, 0, 0) := rfl
theorem bu_58_19 : mm_at mt_P 58 19 = some ((19, 1, .iload_n 2, 0, 0, 0, 0), 4, 3, 1, 9, 1, 0, 0) := rfl
theorem bu_58_20 : mm_at mt_P 58 20 = some ((20, 1, .aload_n 0, 0, 0, 0, 0), 4, 3, 1, 9, 1, 0, 0) := rfl
theorem bu_58_21 : mm_at mt_P 58 21 = some ((21, 3, .getfield 43, 9, 22, 0, 1239), 4, 3, 1, 9, 1, 0, 0) := rfl
theorem bu_58_24 : mm_at mt_P 58 24 = some ((24, 1, .aload_n 0, 0, 0, 0, 0), 4, 3, 1, 9, 1, 0, 0) := rfl
theorem bu_58_25 : mm_at mt_P 58 25 = some ((25, 3, .getfield 233, 9, 18, 0, 1235), 4, 3, 1, 9, 1, 0, 0) := rfl
theorem bu_58_28 : mm_at mt_P 58 28 = some ((28, 1, .iaload, 0, 0, 0, 0), 4, 3, 1, 9, 1, 0, 0) := rfl
theorem bu_58_29 : mm_at mt_P 58 29 = some ((29, 3, .if_icmp .ge 20, 0, 0, 0, 0), 4, 3, 1, 9, 1, 0, 0) := rfl
theorem bu_58_32 : mm_at mt_P 58 32 = some ((32, 1, .iconst 1, 0, 0, 0, 0), 4, 3, 1, 9, 1, 0, 0) := rfl
theorem bu_58_33 : mm_at mt_P 58 33 = some ((33, 1, .aload_n 0, 0, 0, 0, 0), 4, 3, 1, 9, 1, 0, 0) := rfl
theorem bu_58_34 : mm_at mt_P 58 34 = some ((34, 3, .getfield 43, 9, 22, 0, 1239), 4, 3, 1, 9, 1, 0, 0) := rfl
theorem bu_58_37 : mm_at mt_P 58 37 = some ((37, 1, .aload_n 0, 0, 0, 0, 0), 4, 3, 1, 9, 1, 0, 0) := rfl
theorem bu_58_38 : mm_at mt_P 58 38 = some ((38, 3, .getfield 233, 9, 18, 0, 1235), 4, 3, 1, 9, 1, 0, 0) := rfl
theorem bu_58_41 : mm_at mt_P 58 41 = some ((41, 1, .iaload, 0, 0, 0, 0), 4, 3, 1, 9, 1, 0, 0) := rfl
theorem bu_58_42 : mm_at mt_P 58 42 = some ((42, 1, .iload_n 3, 0, 0, 0, 0), 4, 3, 1, 9, 1, 0, 0) := rfl
theorem bu_58_43 : mm_at mt_P 58 43 = some ((43, 3, .invokestatic 408, 59, 0, 0, 1662), 4, 3, 1, 9, 1, 0, 0) := rfl
theorem bu_58_46 : mm_at mt_P 58 46 = some ((46, 3, .goto 12, 0, 0, 0, 0), 4, 3, 1, 9, 1, 0, 0) := rfl
theorem bu_58_49 : mm_at mt_P 58 49 = some ((49, 1, .iload_n 3, 0, 0, 0, 0), 4, 3, 1, 9, 1, 0, 0) := rfl
theorem bu_58_50 : mm_at mt_P 58 50 = some ((50, 3, .ifCond .eq 7, 0, 0, 0, 0), 4, 3, 1, 9, 1, 0, 0) := rfl
theorem bu_58_53 : mm_at mt_P 58 53 = some ((53, 1, .iconst 1, 0, 0, 0, 0), 4, 3, 1, 9, 1, 0, 0) := rfl
theorem bu_58_54 : mm_at mt_P 58 54 = some ((54, 3, .goto 4, 0, 0, 0, 0), 4, 3, 1, 9, 1, 0, 0) := rfl
theorem bu_58_57 : mm_at mt_P 58 57 = some ((57, 1, .iconst 0, 0, 0, 0, 0), 4, 3, 1, 9, 1, 0, 0) := rfl
theorem bu_58_58 : mm_at mt_P 58 58 = some ((58, 1, .ireturn, 0, 0, 0, 0), 4, 3, 1, 9, 1, 0, 0) := rfl
theorem bu_59_0 : mm_at mt_P 59 0 = some ((0, 1, .iload_n 0, 0, 0, 0, 0), 4, 3, 0, 9, 1, 0, 0) := rfl
theorem bu_59_1 : mm_at mt_P 59 1 = some ((1, 1, .iload_n 1, 0, 0, 0, 0), 4, 3, 0, 9, 1, 0, 0) := rfl
theorem bu_59_2 : mm_at mt_P 59 2 = some ((2, 3, .invokestatic 405, 16, 0, 0, 1665), 4, 3, 0, 9, 1, 0, 0) := rfl
theorem bu_59_5 : mm_at mt_P 59 5 = some ((5, 1, .istore_n 3, 0, 0, 0, 0), 4, 3, 0, 9, 1, 0, 0) := rfl
theorem bu_59_6 : mm_at mt_P 59 6 = some ((6, 1, .iload_n 2, 0, 0, 0, 0), 4, 3, 0, 9, 1, 0, 0) := rfl
theorem bu_59_7 : mm_at mt_P 59 7 = some ((7, 3, .ifCond .eq 7, 0, 0, 0, 0), 4, 3, 0, 9, 1, 0, 0) := rfl
theorem bu_59_10 : mm_at mt_P 59 10 = some ((10, 1, .iload_n 1, 0, 0, 0, 0), 4, 3, 0, 9, 1, 0, 0) := rfl
theorem bu_59_11 : mm_at mt_P 59 11 = some ((11, 3, .goto 4, 0, 0, 0, 0), 4, 3, 0, 9, 1, 0, 0) := rfl
theorem bu_59_14 : mm_at mt_P 59 14 = some ((14, 1, .iload_n 0, 0, 0, 0, 0), 4, 3, 0, 9, 1, 0, 0) := rfl
theorem bu_59_15 : mm_at mt_P 59 15 = some ((15, 1, .iload_n 3, 0, 0, 0, 0), 4, 3, 0, 9, 1, 0, 0) := rfl
theorem bu_59_16 : mm_at mt_P 59 16 = some ((16, 1, .idiv, 0, 0, 0, 0), 4, 3, 0, 9, 1, 0, 0) := rfl
theorem bu_59_17 : mm_at mt_P 59 17 = some ((17, 1, .ireturn, 0, 0, 0, 0), 4, 3, 0, 9, 1, 0, 0) := rfl
theorem bu_75_0 : mm_at mt_P 75 0 = some ((0, 1, .iconst 1, 0, 0, 0, 0), 4, 2, 0, 9, 1, 0, 0) := rfl
theorem bu_75_1 : mm_at mt_P 75 1 = some ((1, 1, .istore_n 2, 0, 0, 0, 0), 4, 2, 0, 9, 1, 0, 0) := rfl
theorem bu_75_2 : mm_at mt_P 75 2 = some ((2, 1, .iconst 0, 0, 0, 0, 0), 4, 2, 0, 9, 1, 0, 0) := rfl
theorem bu_75_3 : mm_at mt_P 75 3 = some ((3, 1, .istore_n 3, 0, 0, 0, 0), 4, 2, 0, 9, 1, 0, 0) := rfl
theorem bu_75_4 : mm_at mt_P 75 4 = some ((4, 1, .iload_n 3, 0, 0, 0, 0), 4, 2, 0, 9, 1, 0, 0) := rfl
theorem bu_75_5 : mm_at mt_P 75 5 = some ((5, 1, .iload_n 1, 0, 0, 0, 0), 4, 2, 0, 9, 1, 0, 0) := rfl
theorem bu_75_6 : mm_at mt_P 75 6 = some ((6, 3, .if_icmp .ge 13, 0, 0, 0, 0), 4, 2, 0, 9, 1, 0, 0) := rfl
theorem bu_75_9 : mm_at mt_P 75 9 = some ((9, 1, .iload_n 2, 0, 0, 0, 0), 4, 2, 0, 9, 1, 0, 0) := rfl
theorem bu_75_10 : mm_at mt_P 75 10 = some ((10, 1, .iload_n 0, 0, 0, 0, 0), 4, 2, 0, 9, 1, 0, 0) := rfl
theorem bu_75_11 : mm_at mt_P 75 11 = some ((11, 1, .imul, 0, 0, 0, 0), 4, 2, 0, 9, 1, 0, 0) := rfl
theorem bu_75_12 : mm_at mt_P 75 12 = some ((12, 1, .istore_n 2, 0, 0, 0, 0), 4, 2, 0, 9, 1, 0, 0) := rfl
theorem bu_75_13 : mm_at mt_P 75 13 = some ((13, 3, .iinc 3 1, 0, 0, 0, 0), 4, 2, 0, 9, 1, 0, 0) := rfl
theorem bu_75_16 : mm_at mt_P 75 16 = some ((16, 3, .goto (-12), 0, 0, 0, 0), 4, 2, 0, 9, 1, 0, 0) := rfl
theorem bu_75_19 : mm_at mt_P 75 19 = some ((19, 1, .iload_n 2, 0, 0, 0, 0), 4, 2, 0, 9, 1, 0, 0) := rfl
theorem bu_75_20 : mm_at mt_P 75 20 = some ((20, 1, .ireturn, 0, 0, 0, 0), 4, 2, 0, 9, 1, 0, 0) := rfl
theorem bu_78_0 : mm_at mt_P 78 0 = some ((0, 1, .iload_n 1, 0, 0, 0, 0), 3, 1, 1, 9, 2, 0, 0) := rfl
theorem bu_78_1 : mm_at mt_P 78 1 = some ((1, 1, .iconst 0, 0, 0, 0, 0), 3, 1, 1, 9, 2, 0, 0) := rfl
theorem bu_78_2 : mm_at mt_P 78 2 = some ((2, 1, .iconst 2, 0, 0, 0, 0), 3, 1, 1, 9, 2, 0, 0) := rfl
theorem bu_78_3 : mm_at mt_P 78 3 = some ((3, 3, .invokestatic 300, 43, 0, 0, 1543), 3, 1, 1, 9, 2, 0, 0) := rfl
theorem bu_78_6 : mm_at mt_P 78 6 = some ((6, 3, .ifCond .eq 12, 0, 0, 0, 0), 3, 1, 1, 9, 2, 0, 0) := rfl
theorem bu_78_9 : mm_at mt_P 78 9 = some ((9, 1, .aload_n 0, 0, 0, 0, 0), 3, 1, 1, 9, 2, 0, 0) := rfl
theorem bu_78_10 : mm_at mt_P 78 10 = some ((10, 3, .getfield 146, 9, 71, 0, 1288), 3, 1, 1, 9, 2, 0, 0) := rfl
theorem bu_78_13 : mm_at mt_P 78 13 = some ((13, 1, .iload_n 1, 0, 0, 0, 0), 3, 1, 1, 9, 2, 0, 0) := rfl
theorem bu_78_14 : mm_at mt_P 78 14 = some ((14, 1, .baload, 0, 0, 0, 0), 3, 1, 1, 9, 2, 0, 0) := rfl
theorem bu_78_15 : mm_at mt_P 78 15 = some ((15, 3, .ifCond .ne 5, 0, 0, 0, 0), 3, 1, 1, 9, 2, 0, 0) := rfl
theorem bu_78_18 : mm_at mt_P 78 18 = some ((18, 1, .iconst 0, 0, 0, 0, 0), 3, 1, 1, 9, 2, 0, 0) := rfl
theorem bu_78_19 : mm_at mt_P 78 19 = some ((19, 1, .ireturn, 0, 0, 0, 0), 3, 1, 1, 9, 2, 0, 0) := rfl
theorem bu_78_20 : mm_at mt_P 78 20 = some ((20, 1, .iconst 0, 0, 0, 0, 0), 3, 1, 1, 9, 2, 0, 0) := rfl
theorem bu_78_21 : mm_at mt_P 78 21 = some ((21, 1, .istore_n 2, 0, 0, 0, 0), 3, 1, 1, 9, 2, 0, 0) := rfl
theorem bu_78_22 : mm_at mt_P 78 22 = some ((22, 1, .iload_n 2, 0, 0, 0, 0), 3, 1, 1, 9, 2, 0, 0) := rfl
theorem bu_78_23 : mm_at mt_P 78 23 = some ((23, 2, .bipush 60, 0, 0, 0, 0), 3, 1, 1, 9, 2, 0, 0) := rfl
theorem bu_78_25 : mm_at mt_P 78 25 = some ((25, 3, .if_icmp .ge 26, 0, 0, 0, 0), 3, 1, 1, 9, 2, 0, 0) := rfl
theorem bu_78_28 : mm_at mt_P 78 28 = some ((28, 1, .aload_n 0, 0, 0, 0, 0), 3, 1, 1, 9, 2, 0, 0) := rfl
theorem bu_78_29 : mm_at mt_P 78 29 = some ((29, 3, .getfield 107, 9, 47, 0, 1264), 3, 1, 1, 9, 2, 0, 0) := rfl
theorem bu_78_32 : mm_at mt_P 78 32 = some ((32, 1, .iload_n 2, 0, 0, 0, 0), 3, 1, 1, 9, 2, 0, 0) := rfl
theorem bu_78_33 : mm_at mt_P 78 33 = some ((33, 1, .aload_n 0, 0, 0, 0, 0), 3, 1, 1, 9, 2, 0, 0) := rfl
theorem bu_78_34 : mm_at mt_P 78 34 = some ((34, 3, .getfield 149, 9, 72, 0, 1289), 3, 1, 1, 9, 2, 0, 0) := rfl
theorem bu_78_37 : mm_at mt_P 78 37 = some ((37, 2, .bipush 60, 0, 0, 0, 0), 3, 1, 1, 9, 2, 0, 0) := rfl
theorem bu_78_39 : mm_at mt_P 78 39 = some ((39, 1, .iload_n 1, 0, 0, 0, 0), 3, 1, 1, 9, 2, 0, 0) := rfl
theorem bu_78_40 : mm_at mt_P 78 40 = some ((40, 1, .imul, 0, 0, 0, 0), 3, 1, 1, 9, 2, 0, 0) := rfl
theorem bu_78_41 : mm_at mt_P 78 41 = some ((41, 1, .iload_n 2, 0, 0, 0, 0), 3, 1, 1, 9, 2, 0, 0) := rfl
theorem bu_78_42 : mm_at mt_P 78 42 = some ((42, 1, .iadd, 0, 0, 0, 0), 3, 1, 1, 9, 2, 0, 0) := rfl
theorem bu_78_43 : mm_at mt_P 78 43 = some ((43, 1, .iaload, 0, 0, 0, 0), 3, 1, 1, 9, 2, 0, 0) := rfl
theorem bu_78_44 : mm_at mt_P 78 44 = some ((44, 1, .iastore, 0, 0, 0, 0), 3, 1, 1, 9, 2, 0, 0) := rfl
theorem bu_78_45 : mm_at mt_P 78 45 = some ((45, 3, .iinc 2 1, 0, 0, 0, 0), 3, 1, 1, 9, 2, 0, 0) := rfl
theorem bu_78_48 : mm_at mt_P 78 48 = some ((48, 3, .goto (-26), 0, 0, 0, 0), 3, 1, 1, 9, 2, 0, 0) := rfl
theorem bu_78_51 : mm_at mt_P 78 51 = some ((51, 1, .aload_n 0, 0, 0, 0, 0), 3, 1, 1, 9, 2, 0, 0) := rfl
theorem bu_78_52 : mm_at mt_P 78 52 = some ((52, 1, .iconst 0, 0, 0, 0, 0), 3, 1, 1, 9, 2, 0, 0) := rfl
theorem bu_78_53 : mm_at mt_P 78 53 = some ((53, 3, .putfield 251, 9, 54, 0, 1271), 3, 1, 1, 9, 2, 0, 0) := rfl
theorem bu_78_56 : mm_at mt_P 78 56 = some ((56, 1, .iconst 1, 0, 0, 0, 0), 3, 1, 1, 9, 2, 0, 0) := rfl
theorem bu_78_57 : mm_at mt_P 78 57 = some ((57, 1, .ireturn, 0, 0, 0, 0), 3, 1, 1, 9, 2, 0, 0) := rfl
theorem bu_95_0 : mm_at mt_P 95 0 = some ((0, 1, .iload_n 1, 0, 0, 0, 0), 7, 1, 1, 9, 1, 0, 0) := rfl
theorem bu_95_1 : mm_at mt_P 95 1 = some ((1, 1, .iconst 0, 0, 0, 0, 0), 7, 1, 1, 9, 1, 0, 0) := rfl
theorem bu_95_2 : mm_at mt_P 95 2 = some ((2, 2, .bipush 100, 0, 0, 0, 0), 7, 1, 1, 9, 1, 0, 0) := rfl
theorem bu_95_4 : mm_at mt_P 95 4 = some ((4, 3, .invokestatic 300, 43, 0, 0, 1543), 7, 1, 1, 9, 1, 0, 0) := rfl
theorem bu_95_7 : mm_at mt_P 95 7 = some ((7, 3, .ifCond .eq 15, 0, 0, 0, 0), 7, 1, 1, 9, 1, 0, 0) := rfl
theorem bu_95_10 : mm_at mt_P 95 10 = some ((10, 1, .aload_n 0, 0, 0, 0, 0), 7, 1, 1, 9, 1, 0, 0) := rfl
theorem bu_95_11 : mm_at mt_P 95 11 = some ((11, 3, .getfield 43, 9, 22, 0, 1239), 7, 1, 1, 9, 1, 0, 0) := rfl
theorem bu_95_14 : mm_at mt_P 95 14 = some ((14, 1, .aload_n 0, 0, 0, 0, 0), 7, 1, 1, 9, 1, 0, 0) := rfl
theorem bu_95_15 : mm_at mt_P 95 15 = some ((15, 3, .getfield 233, 9, 18, 0, 1235), 7, 1, 1, 9, 1, 0, 0) := rfl
theorem bu_95_18 : mm_at mt_P 95 18 = some ((18, 1, .iaload, 0, 0, 0, 0), 7, 1, 1, 9, 1, 0, 0) := rfl
theorem bu_95_19 : mm_at mt_P 95 19 = some ((19, 3, .ifCond .ne 5, 0, 0, 0, 0), 7, 1, 1, 9, 1, 0, 0) := rfl
theorem bu_95_22 : mm_at mt_P 95 22 = some ((22, 1, .iconst (-1), 0, 0, 0, 0), 7, 1, 1, 9, 1, 0, 0) := rfl
theorem bu_95_23 : mm_at mt_P 95 23 = some ((23, 1, .ireturn, 0, 0, 0, 0), 7, 1, 1, 9, 1, 0, 0) := rfl
theorem bu_95_24 : mm_at mt_P 95 24 = some ((24, 1, .iconst 0, 0, 0, 0, 0), 7, 1, 1, 9, 1, 0, 0) := rfl
theorem bu_95_25 : mm_at mt_P 95 25 = some ((25, 1, .istore_n 2, 0, 0, 0, 0), 7, 1, 1, 9, 1, 0, 0) := rfl
theorem bu_95_26 : mm_at mt_P 95 26 = some ((26, 1, .iload_n 2, 0, 0, 0, 0), 7, 1, 1, 9, 1, 0, 0) := rfl
theorem bu_95_27 : mm_at mt_P 95 27 = some ((27, 2, .bipush 10, 0, 0, 0, 0), 7, 1, 1, 9, 1, 0, 0) := rfl
theorem bu_95_29 : mm_at mt_P 95 29 = some ((29, 3, .if_icmp .gt 60, 0, 0, 0, 0), 7, 1, 1, 9, 1, 0, 0) := rfl
theorem bu_95_32 : mm_at mt_P 95 32 = some ((32, 1, .aload_n 0, 0, 0, 0, 0), 7, 1, 1, 9, 1, 0, 0) := rfl
theorem bu_95_33 : mm_at mt_P 95 33 = some ((33, 3, .getfield 43, 9, 22, 0, 1239), 7, 1, 1, 9, 1, 0, 0) := rfl
theorem bu_95_36 : mm_at mt_P 95 36 = some ((36, 1, .aload_n 0, 0, 0, 0, 0), 7, 1, 1, 9, 1, 0, 0) := rfl
theorem bu_95_37 : mm_at mt_P 95 37 = some ((37, 3, .getfield 233, 9, 18, 0, 1235), 7, 1, 1, 9, 1, 0, 0) := rfl
theorem bu_95_40 : mm_at mt_P 95 40 = some ((40, 1, .iaload, 0, 0, 0, 0), 7, 1, 1, 9, 1, 0, 0) := rfl
theorem bu_95_41 : mm_at mt_P 95 41 = some ((41, 1, .iload_n 2, 0, 0, 0, 0), 7, 1, 1, 9, 1, 0, 0) := rfl
theorem bu_95_42 : mm_at mt_P 95 42 = some ((42, 3, .invokestatic 470, 75, 0, 0, 1810), 7, 1, 1, 9, 1, 0, 0) := rfl
theorem bu_95_45 : mm_at mt_P 95 45 = some ((45, 1, .i2l, 0, 0, 0, 0), 7, 1, 1, 9, 1, 0, 0) := rfl
theorem bu_95_46 : mm_at mt_P 95 46 = some ((46, 1, .lstore_n 3, 0, 0, 0, 0), 7, 1, 1, 9, 1, 0, 0) := rfl
theorem bu_95_47 : mm_at mt_P 95 47 = some ((47, 1, .lload_n 3, 0, 0, 0, 0), 7, 1, 1, 9, 1, 0, 0) := rfl
theorem bu_95_48 : mm_at mt_P 95 48 = some ((48, 1, .aload_n 0, 0, 0, 0, 0), 7, 1, 1, 9, 1, 0, 0) := rfl
theorem bu_95_49 : mm_at mt_P 95 49 = some ((49, 3, .getfield 43, 9, 22, 0, 1239), 7, 1, 1, 9, 1, 0, 0) := rfl
theorem bu_95_52 : mm_at mt_P 95 52 = some ((52, 1, .aload_n 0, 0, 0, 0, 0), 7, 1, 1, 9, 1, 0, 0) := rfl
theorem bu_95_53 : mm_at mt_P 95 53 = some ((53, 3, .getfield 233, 9, 18, 0, 1235), 7, 1, 1, 9, 1, 0, 0) := rfl
theorem bu_95_56 : mm_at mt_P 95 56 = some ((56, 1, .iaload, 0, 0, 0, 0), 7, 1, 1, 9, 1, 0, 0) := rfl
theorem bu_95_57 : mm_at mt_P 95 57 = some ((57, 1, .iconst 1, 0, 0, 0, 0), 7, 1, 1, 9, 1, 0, 0) := rfl
theorem bu_95_58 : mm_at mt_P 95 58 = some ((58, 1, .isub, 0, 0, 0, 0), 7, 1, 1, 9, 1, 0, 0) := rfl
theorem bu_95_59 : mm_at mt_P 95 59 = some ((59, 1, .iload_n 2, 0, 0, 0, 0), 7, 1, 1, 9, 1, 0, 0) := rfl
theorem bu_95_60 : mm_at mt_P 95 60 = some ((60, 3, .invokestatic 470, 75, 0, 0, 1810), 7, 1, 1, 9, 1, 0, 0) := rfl
theorem bu_95_63 : mm_at mt_P 95 63 = some ((63, 1, .i2l, 0, 0, 0, 0), 7, 1, 1, 9, 1, 0, 0) := rfl
theorem bu_95_64 : mm_at mt_P 95 64 = some ((64, 1, .ladd, 0, 0, 0, 0), 7, 1, 1, 9, 1, 0, 0) := rfl
theorem bu_95_65 : mm_at mt_P 95 65 = some ((65, 2, .lstore 5, 0, 0, 0, 0), 7, 1, 1, 9, 1, 0, 0) := rfl
theorem bu_95_67 : mm_at mt_P 95 67 = some ((67, 1, .lload_n 3, 0, 0, 0, 0), 7, 1, 1, 9, 1, 0, 0) := rfl
theorem bu_95_68 : mm_at mt_P 95 68 = some ((68, 3, .ldc2_w 473, 0, 0, 100, 1817), 7, 1, 1, 9, 1, 0, 0) := rfl
theorem bu_95_71 : mm_at mt_P 95 71 = some ((71, 1, .lmul, 0, 0, 0, 0), 7, 1, 1, 9, 1, 0, 0) := rfl
theorem bu_95_72 : mm_at mt_P 95 72 = some ((72, 2, .lload 5, 0, 0, 0, 0), 7, 1, 1, 9, 1, 0, 0) := rfl
theorem bu_95_74 : mm_at mt_P 95 74 = some ((74, 1, .iload_n 1, 0, 0, 0, 0), 7, 1, 1, 9, 1, 0, 0) := rfl
theorem bu_95_75 : mm_at mt_P 95 75 = some ((75, 1, .i2l, 0, 0, 0, 0), 7, 1, 1, 9, 1, 0, 0) := rfl
theorem bu_95_76 : mm_at mt_P 95 76 = some ((76, 1, .lmul, 0, 0, 0, 0), 7, 1, 1, 9, 1, 0, 0) := rfl
theorem bu_95_77 : mm_at mt_P 95 77 = some ((77, 1, .lcmp, 0, 0, 0, 0), 7, 1, 1, 9, 1, 0, 0) := rfl
theorem bu_95_78 : mm_at mt_P 95 78 = some ((78, 3, .ifCond .lt 5, 0, 0, 0, 0), 7, 1, 1, 9, 1, 0, 0) := rfl
theorem bu_95_81 : mm_at mt_P 95 81 = some ((81, 1, .iload_n 2, 0, 0, 0, 0), 7, 1, 1, 9, 1, 0, 0) := rfl
theorem bu_95_82 : mm_at mt_P 95 82 = some ((82, 1, .ireturn, 0, 0, 0, 0), 7, 1, 1, 9, 1, 0, 0) := rfl
theorem bu_95_83 : mm_at mt_P 95 83 = some ((83, 3, .iinc 2 1, 0, 0, 0, 0), 7, 1, 1, 9, 1, 0, 0) := rfl
theorem bu_95_86 : mm_at mt_P 95 86 = some ((86, 3, .goto (-60), 0, 0, 0, 0), 7, 1, 1, 9, 1, 0, 0) := rfl
theorem bu_95_89 : mm_at mt_P 95 89 = some ((89, 2, .bipush (-2), 0, 0, 0, 0), 7, 1, 1, 9, 1, 0, 0) := rfl
theorem bu_95_91 : mm_at mt_P 95 91 = some ((91, 1, .ireturn, 0, 0, 0, 0), 7, 1, 1, 9, 1, 0, 0) := rfl
theorem bu_96_0 : mm_at mt_P 96 0 = some ((0, 1, .aload_n 0, 0, 0, 0, 0), 2, 1, 1, 9, 1, 0, 0) := rfl
theorem bu_96_1 : mm_at mt_P 96 1 = some ((1, 3, .getfield 254, 9, 65, 0, 1282), 2, 1, 1, 9, 1, 0, 0) := rfl
theorem bu_96_4 : mm_at mt_P 96 4 = some ((4, 2, .bipush 10, 0, 0, 0, 0), 2, 1, 1, 9, 1, 0, 0) := rfl
theorem bu_96_6 : mm_at mt_P 96 6 = some ((6, 3, .if_icmp .eq 11, 0, 0, 0, 0), 2, 1, 1, 9, 1, 0, 0) := rfl
theorem bu_96_9 : mm_at mt_P 96 9 = some ((9, 1, .aload_n 0, 0, 0, 0, 0), 2, 1, 1, 9, 1, 0, 0) := rfl
theorem bu_96_10 : mm_at mt_P 96 10 = some ((10, 1, .iload_n 1, 0, 0, 0, 0), 2, 1, 1, 9, 1, 0, 0) := rfl
theorem bu_96_11 : mm_at mt_P 96 11 = some ((11, 3, .invokevirtual 377, 52, 0, 0, 1539), 2, 1, 1, 9, 1, 0, 0) := rfl
theorem bu_96_14 : mm_at mt_P 96 14 = some ((14, 3, .ifCond .ne 5, 0, 0, 0, 0), 2, 1, 1, 9, 1, 0, 0) := rfl
theorem bu_96_17 : mm_at mt_P 96 17 = some ((17, 1, .iconst (-1), 0, 0, 0, 0), 2, 1, 1, 9, 1, 0, 0) := rfl
theorem bu_96_18 : mm_at mt_P 96 18 = some ((18, 1, .ireturn, 0, 0, 0, 0), 2, 1, 1, 9, 1, 0, 0) := rfl
theorem bu_96_19 : mm_at mt_P 96 19 = some ((19, 1, .aload_n 0, 0, 0, 0, 0), 2, 1, 1, 9, 1, 0, 0) := rfl
theorem bu_96_20 : mm_at mt_P 96 20 = some ((20, 3, .getfield 134, 9, 66, 0, 1283), 2, 1, 1, 9, 1, 0, 0) := rfl
theorem bu_96_23 : mm_at mt_P 96 23 = some ((23, 1, .aload_n 0, 0, 0, 0, 0), 2, 1, 1, 9, 1, 0, 0) := rfl
theorem bu_96_24 : mm_at mt_P 96 24 = some ((24, 3, .getfield 254, 9, 65, 0, 1282), 2, 1, 1, 9, 1, 0, 0) := rfl
theorem bu_96_27 : mm_at mt_P 96 27 = some ((27, 1, .iload_n 1, 0, 0, 0, 0), 2, 1, 1, 9, 1, 0, 0) := rfl
theorem bu_96_28 : mm_at mt_P 96 28 = some ((28, 1, .iastore, 0, 0, 0, 0), 2, 1, 1, 9, 1, 0, 0) := rfl
theorem bu_96_29 : mm_at mt_P 96 29 = some ((29, 1, .aload_n 0, 0, 0, 0, 0), 2, 1, 1, 9, 1, 0, 0) := rfl
theorem bu_96_30 : mm_at mt_P 96 30 = some ((30, 1, .dup, 0, 0, 0, 0), 2, 1, 1, 9, 1, 0, 0) := rfl
theorem bu_96_31 : mm_at mt_P 96 31 = some ((31, 3, .getfield 254, 9, 65, 0, 1282), 2, 1, 1, 9, 1, 0, 0) := rfl
theorem bu_96_34 : mm_at mt_P 96 34 = some ((34, 1, .iconst 1, 0, 0, 0, 0), 2, 1, 1, 9, 1, 0, 0) := rfl
theorem bu_96_35 : mm_at mt_P 96 35 = some ((35, 1, .iadd, 0, 0, 0, 0), 2, 1, 1, 9, 1, 0, 0) := rfl
theorem bu_96_36 : mm_at mt_P 96 36 = some ((36, 3, .putfield 254, 9, 65, 0, 1282), 2, 1, 1, 9, 1, 0, 0) := rfl
theorem bu_96_39 : mm_at mt_P 96 39 = some ((39, 1, .aload_n 0, 0, 0, 0, 0), 2, 1, 1, 9, 1, 0, 0) := rfl
theorem bu_96_40 : mm_at mt_P 96 40 = some ((40, 3, .getfield 254, 9, 65, 0, 1282), 2, 1, 1, 9, 1, 0, 0) := rfl
theorem bu_96_43 : mm_at mt_P 96 43 = some ((43, 1, .iconst 1, 0, 0, 0, 0), 2, 1, 1, 9, 1, 0, 0) := rfl
theorem bu_96_44 : mm_at mt_P 96 44 = some ((44, 1, .isub, 0, 0, 0, 0), 2, 1, 1, 9, 1, 0, 0) := rfl
theorem bu_96_45 : mm_at mt_P 96 45 = some ((45, 1, .ireturn, 0, 0, 0, 0), 2, 1, 1, 9, 1, 0, 0) := rfl
theorem bu_146_0 : mm_at mt_P 146 0 = some ((0, 1, .aload_n 0, 0, 0, 0, 0), 2, 1, 1, 2, 1, 0, 0) := rfl
theorem bu_146_1 : mm_at mt_P 146 1 = some ((1, 3, .getfield 21, 2, 3, 0, 392), 2, 1, 1, 2, 1, 0, 0) := rfl
theorem bu_146_4 : mm_at mt_P 146 4 = some ((4, 2, .bipush 10, 0, 0, 0, 0), 2, 1, 1, 2, 1, 0, 0) := rfl
theorem bu_146_6 : mm_at mt_P 146 6 = some ((6, 3, .if_icmp .lt 5, 0, 0, 0, 0), 2, 1, 1, 2, 1, 0, 0) := rfl
theorem bu_146_9 : mm_at mt_P 146 9 = some ((9, 1, .iconst (-1), 0, 0, 0, 0), 2, 1, 1, 2, 1, 0, 0) := rfl
theorem bu_146_10 : mm_at mt_P 146 10 = some ((10, 1, .ireturn, 0, 0, 0, 0), 2, 1, 1, 2, 1, 0, 0) := rfl
theorem bu_146_11 : mm_at mt_P 146 11 = some ((11, 1, .aload_n 0, 0, 0, 0, 0), 2, 1, 1, 2, 1, 0, 0) := rfl
theorem bu_146_12 : mm_at mt_P 146 12 = some ((12, 3, .getfield 11, 2, 0, 0, 389), 2, 1, 1, 2, 1, 0, 0) := rfl
theorem bu_146_15 : mm_at mt_P 146 15 = some ((15, 1, .aload_n 0, 0, 0, 0, 0), 2, 1, 1, 2, 1, 0, 0) := rfl
theorem bu_146_16 : mm_at mt_P 146 16 = some ((16, 3, .getfield 21, 2, 3, 0, 392), 2, 1, 1, 2, 1, 0, 0) := rfl
theorem bu_146_19 : mm_at mt_P 146 19 = some ((19, 1, .iload_n 1, 0, 0, 0, 0), 2, 1, 1, 2, 1, 0, 0) := rfl
theorem bu_146_20 : mm_at mt_P 146 20 = some ((20, 1, .iastore, 0, 0, 0, 0), 2, 1, 1, 2, 1, 0, 0) := rfl
theorem bu_146_21 : mm_at mt_P 146 21 = some ((21, 1, .aload_n 0, 0, 0, 0, 0), 2, 1, 1, 2, 1, 0, 0) := rfl
theorem bu_146_22 : mm_at mt_P 146 22 = some ((22, 1, .dup, 0, 0, 0, 0), 2, 1, 1, 2, 1, 0, 0) := rfl
theorem bu_146_23 : mm_at mt_P 146 23 = some ((23, 3, .getfield 21, 2, 3, 0, 392), 2, 1, 1, 2, 1, 0, 0) := rfl
theorem bu_146_26 : mm_at mt_P 146 26 = some ((26, 1, .iconst 1, 0, 0, 0, 0), 2, 1, 1, 2, 1, 0, 0) := rfl
theorem bu_146_27 : mm_at mt_P 146 27 = some ((27, 1, .iadd, 0, 0, 0, 0), 2, 1, 1, 2, 1, 0, 0) := rfl
theorem bu_146_28 : mm_at mt_P 146 28 = some ((28, 3, .putfield 21, 2, 3, 0, 392), 2, 1, 1, 2, 1, 0, 0) := rfl
theorem bu_146_31 : mm_at mt_P 146 31 = some ((31, 1, .aload_n 0, 0, 0, 0, 0), 2, 1, 1, 2, 1, 0, 0) := rfl
theorem bu_146_32 : mm_at mt_P 146 32 = some ((32, 3, .getfield 21, 2, 3, 0, 392), 2, 1, 1, 2, 1, 0, 0) := rfl
theorem bu_146_35 : mm_at mt_P 146 35 = some ((35, 1, .iconst 1, 0, 0, 0, 0), 2, 1, 1, 2, 1, 0, 0) := rfl
theorem bu_146_36 : mm_at mt_P 146 36 = some ((36, 1, .isub, 0, 0, 0, 0), 2, 1, 1, 2, 1, 0, 0) := rfl
theorem bu_146_37 : mm_at mt_P 146 37 = some ((37, 1, .ireturn, 0, 0, 0, 0), 2, 1, 1, 2, 1, 0, 0) := rfl
theorem bu_148_0 : mm_at mt_P 148 0 = some ((0, 1, .aload_n 0, 0, 0, 0, 0), 1, 0, 1, 2, 0, 0, 0) := rfl
theorem bu_148_1 : mm_at mt_P 148 1 = some ((1, 1, .iconst 0, 0, 0, 0, 0), 1, 0, 1, 2, 0, 0, 0) := rfl
theorem bu_148_2 : mm_at mt_P 148 2 = some ((2, 3, .putfield 25, 2, 4, 0, 394), 1, 0, 1, 2, 0, 0, 0) := rfl
theorem bu_148_5 : mm_at mt_P 148 5 = some ((5, 1, .return_, 0, 0, 0, 0), 1, 0, 1, 2, 0, 0, 0) := rfl
theorem bu_149_0 : mm_at mt_P 149 0 = some ((0, 1, .aload_n 0, 0, 0, 0, 0), 1, 0, 1, 2, 0, 0, 0) := rfl
theorem bu_149_1 : mm_at mt_P 149 1 = some ((1, 1, .iconst 0, 0, 0, 0, 0), 1, 0, 1, 2, 0, 0, 0) := rfl
theorem bu_149_2 : mm_at mt_P 149 2 = some ((2, 3, .putfield 21, 2, 3, 0, 392), 1, 0, 1, 2, 0, 0, 0) := rfl
theorem bu_149_5 : mm_at mt_P 149 5 = some ((5, 1, .return_, 0, 0, 0, 0), 1, 0, 1, 2, 0, 0, 0) := rfl
theorem bu_152_0 : mm_at mt_P 152 0 = some ((0, 1, .iconst 0, 0, 0, 0, 0), 4, 2, 1, 2, 2, 0, 0) := rfl
theorem bu_152_1 : mm_at mt_P 152 1 = some ((1, 1, .istore_n 3, 0, 0, 0, 0), 4, 2, 1, 2, 2, 0, 0) := rfl
theorem bu_152_2 : mm_at mt_P 152 2 = some ((2, 1, .iload_n 3, 0, 0, 0, 0), 4, 2, 1, 2, 2, 0, 0) := rfl
theorem bu_152_3 : mm_at mt_P 152 3 = some ((3, 1, .iload_n 2, 0, 0, 0, 0), 4, 2, 1, 2, 2, 0, 0) := rfl
theorem bu_152_4 : mm_at mt_P 152 4 = some ((4, 3, .if_icmp .ge 29, 0, 0, 0, 0), 4, 2, 1, 2, 2, 0, 0) := rfl
theorem bu_152_7 : mm_at mt_P 152 7 = some ((7, 1, .iload_n 3, 0, 0, 0, 0), 4, 2, 1, 2, 2, 0, 0) := rfl
theorem bu_152_8 : mm_at mt_P 152 8 = some ((8, 1, .aload_n 0, 0, 0, 0, 0), 4, 2, 1, 2, 2, 0, 0) := rfl
theorem bu_152_9 : mm_at mt_P 152 9 = some ((9, 3, .getfield 21, 2, 3, 0, 392), 4, 2, 1, 2, 2, 0, 0) := rfl
theorem bu_152_12 : mm_at mt_P 152 12 = some ((12, 3, .if_icmp .ge 21, 0, 0, 0, 0), 4, 2, 1, 2, 2, 0, 0) := rfl
theorem bu_152_15 : mm_at mt_P 152 15 = some ((15, 1, .aload_n 0, 0, 0, 0, 0), 4, 2, 1, 2, 2, 0, 0) := rfl
theorem bu_152_16 : mm_at mt_P 152 16 = some ((16, 3, .getfield 11, 2, 0, 0, 389), 4, 2, 1, 2, 2, 0, 0) := rfl
theorem bu_152_19 : mm_at mt_P 152 19 = some ((19, 1, .iload_n 3, 0, 0, 0, 0), 4, 2, 1, 2, 2, 0, 0) := rfl
theorem bu_152_20 : mm_at mt_P 152 20 = some ((20, 1, .iaload, 0, 0, 0, 0), 4, 2, 1, 2, 2, 0, 0) := rfl
theorem bu_152_21 : mm_at mt_P 152 21 = some ((21, 1, .iload_n 1, 0, 0, 0, 0), 4, 2, 1, 2, 2, 0, 0) := rfl
theorem bu_152_22 : mm_at mt_P 152 22 = some ((22, 3, .if_icmp .ne 5, 0, 0, 0, 0), 4, 2, 1, 2, 2, 0, 0) := rfl
theorem bu_152_25 : mm_at mt_P 152 25 = some ((25, 1, .iconst 1, 0, 0, 0, 0), 4, 2, 1, 2, 2, 0, 0) := rfl
theorem bu_152_26 : mm_at mt_P 152 26 = some ((26, 1, .ireturn, 0, 0, 0, 0), 4, 2, 1, 2, 2, 0, 0) := rfl
theorem bu_152_27 : mm_at mt_P 152 27 = some ((27, 3, .iinc 3 1, 0, 0, 0, 0), 4, 2, 1, 2, 2, 0, 0) := rfl
theorem bu_152_30 : mm_at mt_P 152 30 = some ((30, 3, .goto (-28), 0, 0, 0, 0), 4, 2, 1, 2, 2, 0, 0) := rfl
theorem bu_152_33 : mm_at mt_P 152 33 = some ((33, 1, .iconst 0, 0, 0, 0, 0), 4, 2, 1, 2, 2, 0, 0) := rfl
theorem bu_152_34 : mm_at mt_P 152 34 = some ((34, 1, .ireturn, 0, 0, 0, 0), 4, 2, 1, 2, 2, 0, 0) := rfl
theorem bu_154_0 : mm_at mt_P 154 0 = some ((0, 1, .aload_n 0, 0, 0, 0, 0), 1, 0, 1, 3, 0, 0, 0) := rfl
theorem bu_154_1 : mm_at mt_P 154 1 = some ((1, 1, .iconst 0, 0, 0, 0, 0), 1, 0, 1, 3, 0, 0, 0) := rfl
theorem bu_154_2 : mm_at mt_P 154 2 = some ((2, 3, .putfield 27, 3, 4, 0, 369), 1, 0, 1, 3, 0, 0, 0) := rfl
theorem bu_154_5 : mm_at mt_P 154 5 = some ((5, 1, .return_, 0, 0, 0, 0), 1, 0, 1, 3, 0, 0, 0) := rfl
theorem bu_155_0 : mm_at mt_P 155 0 = some ((0, 1, .iload_n 1, 0, 0, 0, 0), 3, 2, 1, 3, 2, 0, 0) := rfl
theorem bu_155_1 : mm_at mt_P 155 1 = some ((1, 3, .ifCond .lt 24, 0, 0, 0, 0), 3, 2, 1, 3, 2, 0, 0) := rfl
theorem bu_155_4 : mm_at mt_P 155 4 = some ((4, 1, .iload_n 1, 0, 0, 0, 0), 3, 2, 1, 3, 2, 0, 0) := rfl
theorem bu_155_5 : mm_at mt_P 155 5 = some ((5, 1, .iconst 3, 0, 0, 0, 0), 3, 2, 1, 3, 2, 0, 0) := rfl
theorem bu_155_6 : mm_at mt_P 155 6 = some ((6, 3, .if_icmp .ge 19, 0, 0, 0, 0), 3, 2, 1, 3, 2, 0, 0) := rfl
theorem bu_155_9 : mm_at mt_P 155 9 = some ((9, 1, .aload_n 0, 0, 0, 0, 0), 3, 2, 1, 3, 2, 0, 0) := rfl
theorem bu_155_10 : mm_at mt_P 155 10 = some ((10, 3, .getfield 19, 3, 2, 0, 367), 3, 2, 1, 3, 2, 0, 0) := rfl
theorem bu_155_13 : mm_at mt_P 155 13 = some ((13, 1, .iload_n 1, 0, 0, 0, 0), 3, 2, 1, 3, 2, 0, 0) := rfl
theorem bu_155_14 : mm_at mt_P 155 14 = some ((14, 1, .baload, 0, 0, 0, 0), 3, 2, 1, 3, 2, 0, 0) := rfl
theorem bu_155_15 : mm_at mt_P 155 15 = some ((15, 3, .ifCond .eq 10, 0, 0, 0, 0), 3, 2, 1, 3, 2, 0, 0) := rfl
theorem bu_155_18 : mm_at mt_P 155 18 = some ((18, 1, .aload_n 2, 0, 0, 0, 0), 3, 2, 1, 3, 2, 0, 0) := rfl
theorem bu_155_19 : mm_at mt_P 155 19 = some ((19, 1, .arraylength, 0, 0, 0, 0), 3, 2, 1, 3, 2, 0, 0) := rfl
theorem bu_155_20 : mm_at mt_P 155 20 = some ((20, 2, .bipush 27, 0, 0, 0, 0), 3, 2, 1, 3, 2, 0, 0) := rfl
theorem bu_155_22 : mm_at mt_P 155 22 = some ((22, 3, .if_icmp .ge 5, 0, 0, 0, 0), 3, 2, 1, 3, 2, 0, 0) := rfl
theorem bu_155_25 : mm_at mt_P 155 25 = some ((25, 1, .iconst 0, 0, 0, 0, 0), 3, 2, 1, 3, 2, 0, 0) := rfl
theorem bu_155_26 : mm_at mt_P 155 26 = some ((26, 1, .ireturn, 0, 0, 0, 0), 3, 2, 1, 3, 2, 0, 0) := rfl
theorem bu_155_27 : mm_at mt_P 155 27 = some ((27, 1, .aload_n 0, 0, 0, 0, 0), 3, 2, 1, 3, 2, 0, 0) := rfl
theorem bu_155_28 : mm_at mt_P 155 28 = some ((28, 3, .getfield 16, 3, 1, 0, 366), 3, 2, 1, 3, 2, 0, 0) := rfl
theorem bu_155_31 : mm_at mt_P 155 31 = some ((31, 1, .iload_n 1, 0, 0, 0, 0), 3, 2, 1, 3, 2, 0, 0) := rfl
theorem bu_155_32 : mm_at mt_P 155 32 = some ((32, 1, .aaload, 0, 0, 0, 0), 3, 2, 1, 3, 2, 0, 0) := rfl
theorem bu_155_33 : mm_at mt_P 155 33 = some ((33, 1, .iconst 0, 0, 0, 0, 0), 3, 2, 1, 3, 2, 0, 0) := rfl
theorem bu_155_34 : mm_at mt_P 155 34 = some ((34, 1, .aload_n 2, 0, 0, 0, 0), 3, 2, 1, 3, 2, 0, 0) := rfl
theorem bu_155_35 : mm_at mt_P 155 35 = some ((35, 1, .iconst 0, 0, 0, 0, 0), 3, 2, 1, 3, 2, 0, 0) := rfl
theorem bu_155_36 : mm_at mt_P 155 36 = some ((36, 2, .bipush 27, 0, 0, 0, 0), 3, 2, 1, 3, 2, 0, 0) := rfl
theorem bu_155_38 : mm_at mt_P 155 38 = some ((38, 3, .invokestatic 30, 1, 0, 0, 827), 3, 2, 1, 3, 2, 0, 0) := rfl
theorem bu_155_41 : mm_at mt_P 155 41 = some ((41, 1, .aload_n 0, 0, 0, 0, 0), 3, 2, 1, 3, 2, 0, 0) := rfl
theorem bu_155_42 : mm_at mt_P 155 42 = some ((42, 3, .invokevirtual 42, 154, 0, 0, 1172), 3, 2, 1, 3, 2, 0, 0) := rfl
theorem bu_155_45 : mm_at mt_P 155 45 = some ((45, 1, .iconst 1, 0, 0, 0, 0), 3, 2, 1, 3, 2, 0, 0) := rfl
theorem bu_155_46 : mm_at mt_P 155 46 = some ((46, 1, .ireturn, 0, 0, 0, 0), 3, 2, 1, 3, 2, 0, 0) := rfl
theorem bu_157_0 : mm_at mt_P 157 0 = some ((0, 1, .iload_n 1, 0, 0, 0, 0), 3, 2, 1, 3, 2, 0, 0) := rfl
theorem bu_157_1 : mm_at mt_P 157 1 = some ((1, 3, .ifCond .lt 15, 0, 0, 0, 0), 3, 2, 1, 3, 2, 0, 0) := rfl
theorem bu_157_4 : mm_at mt_P 157 4 = some ((4, 1, .iload_n 1, 0, 0, 0, 0), 3, 2, 1, 3, 2, 0, 0) := rfl
theorem bu_157_5 : mm_at mt_P 157 5 = some ((5, 1, .iconst 3, 0, 0, 0, 0), 3, 2, 1, 3, 2, 0, 0) := rfl
theorem bu_157_6 : mm_at mt_P 157 6 = some ((6, 3, .if_icmp .ge 10, 0, 0, 0, 0), 3, 2, 1, 3, 2, 0, 0) := rfl
theorem bu_157_9 : mm_at mt_P 157 9 = some ((9, 1, .aload_n 2, 0, 0, 0, 0), 3, 2, 1, 3, 2, 0, 0) := rfl
theorem bu_157_10 : mm_at mt_P 157 10 = some ((10, 1, .arraylength, 0, 0, 0, 0), 3, 2, 1, 3, 2, 0, 0) := rfl
theorem bu_157_11 : mm_at mt_P 157 11 = some ((11, 2, .bipush 27, 0, 0, 0, 0), 3, 2, 1, 3, 2, 0, 0) := rfl
theorem bu_157_13 : mm_at mt_P 157 13 = some ((13, 3, .if_icmp .ge 5, 0, 0, 0, 0), 3, 2, 1, 3, 2, 0, 0) := rfl
theorem bu_157_16 : mm_at mt_P 157 16 = some ((16, 1, .iconst 0, 0, 0, 0, 0), 3, 2, 1, 3, 2, 0, 0) := rfl
theorem bu_157_17 : mm_at mt_P 157 17 = some ((17, 1, .ireturn, 0, 0, 0, 0), 3, 2, 1, 3, 2, 0, 0) := rfl
theorem bu_157_18 : mm_at mt_P 157 18 = some ((18, 1, .aload_n 2, 0, 0, 0, 0), 3, 2, 1, 3, 2, 0, 0) := rfl
theorem bu_157_19 : mm_at mt_P 157 19 = some ((19, 1, .iconst 0, 0, 0, 0, 0), 3, 2, 1, 3, 2, 0, 0) := rfl
theorem bu_157_20 : mm_at mt_P 157 20 = some ((20, 1, .aload_n 0, 0, 0, 0, 0), 3, 2, 1, 3, 2, 0, 0) := rfl
theorem bu_157_21 : mm_at mt_P 157 21 = some ((21, 3, .getfield 16, 3, 1, 0, 366), 3, 2, 1, 3, 2, 0, 0) := rfl
theorem bu_157_24 : mm_at mt_P 157 24 = some ((24, 1, .iload_n 1, 0, 0, 0, 0), 3, 2, 1, 3, 2, 0, 0) := rfl
theorem bu_157_25 : mm_at mt_P 157 25 = some ((25, 1, .aaload, 0, 0, 0, 0), 3, 2, 1, 3, 2, 0, 0) := rfl
theorem bu_157_26 : mm_at mt_P 157 26 = some ((26, 1, .iconst 0, 0, 0, 0, 0), 3, 2, 1, 3, 2, 0, 0) := rfl
theorem bu_157_27 : mm_at mt_P 157 27 = some ((27, 2, .bipush 27, 0, 0, 0, 0), 3, 2, 1, 3, 2, 0, 0) := rfl
theorem bu_157_29 : mm_at mt_P 157 29 = some ((29, 3, .invokestatic 30, 1, 0, 0, 827), 3, 2, 1, 3, 2, 0, 0) := rfl
theorem bu_157_32 : mm_at mt_P 157 32 = some ((32, 1, .aload_n 0, 0, 0, 0, 0), 3, 2, 1, 3, 2, 0, 0) := rfl
theorem bu_157_33 : mm_at mt_P 157 33 = some ((33, 3, .getfield 19, 3, 2, 0, 367), 3, 2, 1, 3, 2, 0, 0) := rfl
theorem bu_157_36 : mm_at mt_P 157 36 = some ((36, 1, .iload_n 1, 0, 0, 0, 0), 3, 2, 1, 3, 2, 0, 0) := rfl
theorem bu_157_37 : mm_at mt_P 157 37 = some ((37, 1, .iconst 1, 0, 0, 0, 0), 3, 2, 1, 3, 2, 0, 0) := rfl
theorem bu_157_38 : mm_at mt_P 157 38 = some ((38, 1, .bastore, 0, 0, 0, 0), 3, 2, 1, 3, 2, 0, 0) := rfl
theorem bu_157_39 : mm_at mt_P 157 39 = some ((39, 1, .iconst 1, 0, 0, 0, 0), 3, 2, 1, 3, 2, 0, 0) := rfl
theorem bu_157_40 : mm_at mt_P 157 40 = some ((40, 1, .ireturn, 0, 0, 0, 0), 3, 2, 1, 3, 2, 0, 0) := rfl
theorem bu_203_0 : mm_at mt_P 203 0 = some ((0, 1, .iload_n 1, 0, 0, 0, 0), 2, 1, 1, 6, 2, 0, 0) := rfl
theorem bu_203_1 : mm_at mt_P 203 1 = some ((1, 3, .ifCond .lt 15, 0, 0, 0, 0), 2, 1, 1, 6, 2, 0, 0) := rfl
theorem bu_203_4 : mm_at mt_P 203 4 = some ((4, 1, .iload_n 1, 0, 0, 0, 0), 2, 1, 1, 6, 2, 0, 0) := rfl
theorem bu_203_5 : mm_at mt_P 203 5 = some ((5, 1, .aload_n 0, 0, 0, 0, 0), 2, 1, 1, 6, 2, 0, 0) := rfl
theorem bu_203_6 : mm_at mt_P 203 6 = some ((6, 3, .getfield 32, 6, 4, 0, 186), 2, 1, 1, 6, 2, 0, 0) := rfl
theorem bu_203_9 : mm_at mt_P 203 9 = some ((9, 3, .if_icmp .ge 7, 0, 0, 0, 0), 2, 1, 1, 6, 2, 0, 0) := rfl
theorem bu_203_12 : mm_at mt_P 203 12 = some ((12, 1, .iconst 1, 0, 0, 0, 0), 2, 1, 1, 6, 2, 0, 0) := rfl
theorem bu_203_13 : mm_at mt_P 203 13 = some ((13, 3, .goto 4, 0, 0, 0, 0), 2, 1, 1, 6, 2, 0, 0) := rfl
theorem bu_203_16 : mm_at mt_P 203 16 = some ((16, 1, .iconst 0, 0, 0, 0, 0), 2, 1, 1, 6, 2, 0, 0) := rfl
theorem bu_203_17 : mm_at mt_P 203 17 = some ((17, 1, .ireturn, 0, 0, 0, 0), 2, 1, 1, 6, 2, 0, 0) := rfl
theorem bu_225_0 : mm_at mt_P 225 0 = some ((0, 1, .aload_n 0, 0, 0, 0, 0), 5, 3, 1, 8, 1, 0, 0) := rfl
theorem bu_225_1 : mm_at mt_P 225 1 = some ((1, 3, .getfield 23, 8, 3, 0, 435), 5, 3, 1, 8, 1, 0, 0) := rfl
theorem bu_225_4 : mm_at mt_P 225 4 = some ((4, 1, .iload_n 1, 0, 0, 0, 0), 5, 3, 1, 8, 1, 0, 0) := rfl
theorem bu_225_5 : mm_at mt_P 225 5 = some ((5, 3, .invokevirtual 102, 203, 0, 0, 762), 5, 3, 1, 8, 1, 0, 0) := rfl
theorem bu_225_8 : mm_at mt_P 225 8 = some ((8, 3, .ifCond .eq 18, 0, 0, 0, 0), 5, 3, 1, 8, 1, 0, 0) := rfl
theorem bu_225_11 : mm_at mt_P 225 11 = some ((11, 1, .iload_n 2, 0, 0, 0, 0), 5, 3, 1, 8, 1, 0, 0) := rfl
theorem bu_225_12 : mm_at mt_P 225 12 = some ((12, 3, .ifCond .lt 14, 0, 0, 0, 0), 5, 3, 1, 8, 1, 0, 0) := rfl
theorem bu_225_15 : mm_at mt_P 225 15 = some ((15, 1, .iload_n 2, 0, 0, 0, 0), 5, 3, 1, 8, 1, 0, 0) := rfl
theorem bu_225_16 : mm_at mt_P 225 16 = some ((16, 1, .aload_n 0, 0, 0, 0, 0), 5, 3, 1, 8, 1, 0, 0) := rfl
theorem bu_225_17 : mm_at mt_P 225 17 = some ((17, 3, .getfield 68, 8, 10, 0, 442), 5, 3, 1, 8, 1, 0, 0) := rfl
theorem bu_225_20 : mm_at mt_P 225 20 = some ((20, 3, .getfield 235, 2, 3, 0, 393), 5, 3, 1, 8, 1, 0, 0) := rfl
theorem bu_225_23 : mm_at mt_P 225 23 = some ((23, 3, .if_icmp .le 5, 0, 0, 0, 0), 5, 3, 1, 8, 1, 0, 0) := rfl
theorem bu_225_26 : mm_at mt_P 225 26 = some ((26, 1, .iconst (-1), 0, 0, 0, 0), 5, 3, 1, 8, 1, 0, 0) := rfl
theorem bu_225_27 : mm_at mt_P 225 27 = some ((27, 1, .ireturn, 0, 0, 0, 0), 5, 3, 1, 8, 1, 0, 0) := rfl
theorem bu_225_28 : mm_at mt_P 225 28 = some ((28, 1, .aload_n 0, 0, 0, 0, 0), 5, 3, 1, 8, 1, 0, 0) := rfl
theorem bu_225_29 : mm_at mt_P 225 29 = some ((29, 3, .getfield 68, 8, 10, 0, 442), 5, 3, 1, 8, 1, 0, 0) := rfl
theorem bu_225_32 : mm_at mt_P 225 32 = some ((32, 1, .iload_n 1, 0, 0, 0, 0), 5, 3, 1, 8, 1, 0, 0) := rfl
theorem bu_225_33 : mm_at mt_P 225 33 = some ((33, 1, .iload_n 2, 0, 0, 0, 0), 5, 3, 1, 8, 1, 0, 0) := rfl
theorem bu_225_34 : mm_at mt_P 225 34 = some ((34, 3, .invokevirtual 238, 152, 0, 0, 1110), 5, 3, 1, 8, 1, 0, 0) := rfl
theorem bu_225_37 : mm_at mt_P 225 37 = some ((37, 3, .ifCond .eq 13, 0, 0, 0, 0), 5, 3, 1, 8, 1, 0, 0) := rfl
theorem bu_225_40 : mm_at mt_P 225 40 = some ((40, 1, .iload_n 3, 0, 0, 0, 0), 5, 3, 1, 8, 1, 0, 0) := rfl
theorem bu_225_41 : mm_at mt_P 225 41 = some ((41, 3, .ifCond .eq 7, 0, 0, 0, 0), 5, 3, 1, 8, 1, 0, 0) := rfl
theorem bu_225_44 : mm_at mt_P 225 44 = some ((44, 1, .iconst 1, 0, 0, 0, 0), 5, 3, 1, 8, 1, 0, 0) := rfl
theorem bu_225_45 : mm_at mt_P 225 45 = some ((45, 3, .goto 4, 0, 0, 0, 0), 5, 3, 1, 8, 1, 0, 0) := rfl
theorem bu_225_48 : mm_at mt_P 225 48 = some ((48, 1, .iconst 0, 0, 0, 0, 0), 5, 3, 1, 8, 1, 0, 0) := rfl
theorem bu_225_49 : mm_at mt_P 225 49 = some ((49, 1, .ireturn, 0, 0, 0, 0), 5, 3, 1, 8, 1, 0, 0) := rfl
theorem bu_225_50 : mm_at mt_P 225 50 = some ((50, 1, .aload_n 0, 0, 0, 0, 0), 5, 3, 1, 8, 1, 0, 0) := rfl
theorem bu_225_51 : mm_at mt_P 225 51 = some ((51, 3, .getfield 23, 8, 3, 0, 435), 5, 3, 1, 8, 1, 0, 0) := rfl
theorem bu_225_54 : mm_at mt_P 225 54 = some ((54, 3, .getfield 155, 6, 4, 0, 190), 5, 3, 1, 8, 1, 0, 0) := rfl
theorem bu_225_57 : mm_at mt_P 225 57 = some ((57, 1, .iload_n 2, 0, 0, 0, 0), 5, 3, 1, 8, 1, 0, 0) := rfl
theorem bu_225_58 : mm_at mt_P 225 58 = some ((58, 3, .invokestatic 241, 252, 0, 0, 1114), 5, 3, 1, 8, 1, 0, 0) := rfl
theorem bu_225_61 : mm_at mt_P 225 61 = some ((61, 2, .istore 4, 0, 0, 0, 0), 5, 3, 1, 8, 1, 0, 0) := rfl
theorem bu_225_63 : mm_at mt_P 225 63 = some ((63, 2, .iload 4, 0, 0, 0, 0), 5, 3, 1, 8, 1, 0, 0) := rfl
theorem bu_225_65 : mm_at mt_P 225 65 = some ((65, 2, .iload 4, 0, 0, 0, 0), 5, 3, 1, 8, 1, 0, 0) := rfl
theorem bu_225_67 : mm_at mt_P 225 67 = some ((67, 1, .aload_n 0, 0, 0, 0, 0), 5, 3, 1, 8, 1, 0, 0) := rfl
theorem bu_225_68 : mm_at mt_P 225 68 = some ((68, 3, .getfield 23, 8, 3, 0, 435), 5, 3, 1, 8, 1, 0, 0) := rfl
theorem bu_225_71 : mm_at mt_P 225 71 = some ((71, 3, .getfield 155, 6, 4, 0, 190), 5, 3, 1, 8, 1, 0, 0) := rfl
theorem bu_225_74 : mm_at mt_P 225 74 = some ((74, 1, .iconst 1, 0, 0, 0, 0), 5, 3, 1, 8, 1, 0, 0) := rfl
theorem bu_225_75 : mm_at mt_P 225 75 = some ((75, 1, .isub, 0, 0, 0, 0), 5, 3, 1, 8, 1, 0, 0) := rfl
theorem bu_225_76 : mm_at mt_P 225 76 = some ((76, 1, .iload_n 2, 0, 0, 0, 0), 5, 3, 1, 8, 1, 0, 0) := rfl
theorem bu_225_77 : mm_at mt_P 225 77 = some ((77, 3, .invokestatic 241, 252, 0, 0, 1114), 5, 3, 1, 8, 1, 0, 0) := rfl
theorem bu_225_80 : mm_at mt_P 225 80 = some ((80, 1, .iadd, 0, 0, 0, 0), 5, 3, 1, 8, 1, 0, 0) := rfl
theorem bu_225_81 : mm_at mt_P 225 81 = some ((81, 1, .iload_n 3, 0, 0, 0, 0), 5, 3, 1, 8, 1, 0, 0) := rfl
theorem bu_225_82 : mm_at mt_P 225 82 = some ((82, 3, .invokestatic 158, 233, 0, 0, 909), 5, 3, 1, 8, 1, 0, 0) := rfl
theorem bu_225_85 : mm_at mt_P 225 85 = some ((85, 1, .ireturn, 0, 0, 0, 0), 5, 3, 1, 8, 1, 0, 0) := rfl
theorem bu_226_0 : mm_at mt_P 226 0 = some ((0, 1, .iload_n 0, 0, 0, 0, 0), 6, 2, 0, 8, 1, 0, 0) := rfl
theorem bu_226_1 : mm_at mt_P 226 1 = some ((1, 1, .istore_n 2, 0, 0, 0, 0), 6, 2, 0, 8, 1, 0, 0) := rfl
theorem bu_226_2 : mm_at mt_P 226 2 = some ((2, 1, .iload_n 1, 0, 0, 0, 0), 6, 2, 0, 8, 1, 0, 0) := rfl
theorem bu_226_3 : mm_at mt_P 226 3 = some ((3, 1, .istore_n 3, 0, 0, 0, 0), 6, 2, 0, 8, 1, 0, 0) := rfl
theorem bu_226_4 : mm_at mt_P 226 4 = some ((4, 1, .iconst 0, 0, 0, 0, 0), 6, 2, 0, 8, 1, 0, 0) := rfl
theorem bu_226_5 : mm_at mt_P 226 5 = some ((5, 2, .istore 4, 0, 0, 0, 0), 6, 2, 0, 8, 1, 0, 0) := rfl
theorem bu_226_7 : mm_at mt_P 226 7 = some ((7, 2, .iload 4, 0, 0, 0, 0), 6, 2, 0, 8, 1, 0, 0) := rfl
theorem bu_226_9 : mm_at mt_P 226 9 = some ((9, 2, .bipush 100, 0, 0, 0, 0), 6, 2, 0, 8, 1, 0, 0) := rfl
theorem bu_226_11 : mm_at mt_P 226 11 = some ((11, 3, .if_icmp .ge 23, 0, 0, 0, 0), 6, 2, 0, 8, 1, 0, 0) := rfl
theorem bu_226_14 : mm_at mt_P 226 14 = some ((14, 1, .iload_n 3, 0, 0, 0, 0), 6, 2, 0, 8, 1, 0, 0) := rfl
theorem bu_226_15 : mm_at mt_P 226 15 = some ((15, 3, .ifCond .eq 19, 0, 0, 0, 0), 6, 2, 0, 8, 1, 0, 0) := rfl
theorem bu_226_18 : mm_at mt_P 226 18 = some ((18, 1, .iload_n 2, 0, 0, 0, 0), 6, 2, 0, 8, 1, 0, 0) := rfl
theorem bu_226_19 : mm_at mt_P 226 19 = some ((19, 1, .iload_n 3, 0, 0, 0, 0), 6, 2, 0, 8, 1, 0, 0) := rfl
theorem bu_226_20 : mm_at mt_P 226 20 = some ((20, 1, .irem, 0, 0, 0, 0), 6, 2, 0, 8, 1, 0, 0) := rfl
theorem bu_226_21 : mm_at mt_P 226 21 = some ((21, 2, .istore 5, 0, 0, 0, 0), 6, 2, 0, 8, 1, 0, 0) := rfl
theorem bu_226_23 : mm_at mt_P 226 23 = some ((23, 1, .iload_n 3, 0, 0, 0, 0), 6, 2, 0, 8, 1, 0, 0) := rfl
theorem bu_226_24 : mm_at mt_P 226 24 = some ((24, 1, .istore_n 2, 0, 0, 0, 0), 6, 2, 0, 8, 1, 0, 0) := rfl
theorem bu_226_25 : mm_at mt_P 226 25 = some ((25, 2, .iload 5, 0, 0, 0, 0), 6, 2, 0, 8, 1, 0, 0) := rfl
theorem bu_226_27 : mm_at mt_P 226 27 = some ((27, 1, .istore_n 3, 0, 0, 0, 0), 6, 2, 0, 8, 1, 0, 0) := rfl
theorem bu_226_28 : mm_at mt_P 226 28 = some ((28, 3, .iinc 4 1, 0, 0, 0, 0), 6, 2, 0, 8, 1, 0, 0) := rfl
theorem bu_226_31 : mm_at mt_P 226 31 = some ((31, 3, .goto (-24), 0, 0, 0, 0), 6, 2, 0, 8, 1, 0, 0) := rfl
theorem bu_226_34 : mm_at mt_P 226 34 = some ((34, 1, .iload_n 2, 0, 0, 0, 0), 6, 2, 0, 8, 1, 0, 0) := rfl
theorem bu_226_35 : mm_at mt_P 226 35 = some ((35, 1, .ireturn, 0, 0, 0, 0), 6, 2, 0, 8, 1, 0, 0) := rfl
theorem bu_232_0 : mm_at mt_P 232 0 = some ((0, 1, .aload_n 0, 0, 0, 0, 0), 2, 0, 1, 8, 1, 0, 0) := rfl
theorem bu_232_1 : mm_at mt_P 232 1 = some ((1, 3, .getfield 68, 8, 10, 0, 442), 2, 0, 1, 8, 1, 0, 0) := rfl
theorem bu_232_4 : mm_at mt_P 232 4 = some ((4, 3, .getfield 235, 2, 3, 0, 393), 2, 0, 1, 8, 1, 0, 0) := rfl
theorem bu_232_7 : mm_at mt_P 232 7 = some ((7, 1, .aload_n 0, 0, 0, 0, 0), 2, 0, 1, 8, 1, 0, 0) := rfl
theorem bu_232_8 : mm_at mt_P 232 8 = some ((8, 3, .getfield 68, 8, 10, 0, 442), 2, 0, 1, 8, 1, 0, 0) := rfl
theorem bu_232_11 : mm_at mt_P 232 11 = some ((11, 3, .getfield 249, 2, 4, 0, 395), 2, 0, 1, 8, 1, 0, 0) := rfl
theorem bu_232_14 : mm_at mt_P 232 14 = some ((14, 1, .iadd, 0, 0, 0, 0), 2, 0, 1, 8, 1, 0, 0) := rfl
theorem bu_232_15 : mm_at mt_P 232 15 = some ((15, 1, .istore_n 1, 0, 0, 0, 0), 2, 0, 1, 8, 1, 0, 0) := rfl
theorem bu_232_16 : mm_at mt_P 232 16 = some ((16, 1, .aload_n 0, 0, 0, 0, 0), 2, 0, 1, 8, 1, 0, 0) := rfl
theorem bu_232_17 : mm_at mt_P 232 17 = some ((17, 3, .getfield 68, 8, 10, 0, 442), 2, 0, 1, 8, 1, 0, 0) := rfl
theorem bu_232_20 : mm_at mt_P 232 20 = some ((20, 3, .invokevirtual 99, 149, 0, 0, 750), 2, 0, 1, 8, 1, 0, 0) := rfl
theorem bu_232_23 : mm_at mt_P 232 23 = some ((23, 1, .aload_n 0, 0, 0, 0, 0), 2, 0, 1, 8, 1, 0, 0) := rfl
theorem bu_232_24 : mm_at mt_P 232 24 = some ((24, 3, .getfield 68, 8, 10, 0, 442), 2, 0, 1, 8, 1, 0, 0) := rfl
theorem bu_232_27 : mm_at mt_P 232 27 = some ((27, 3, .invokevirtual 263, 148, 0, 0, 1152), 2, 0, 1, 8, 1, 0, 0) := rfl
theorem bu_232_30 : mm_at mt_P 232 30 = some ((30, 1, .iload_n 1, 0, 0, 0, 0), 2, 0, 1, 8, 1, 0, 0) := rfl
theorem bu_232_31 : mm_at mt_P 232 31 = some ((31, 1, .ireturn, 0, 0, 0, 0), 2, 0, 1, 8, 1, 0, 0) := rfl
theorem bu_233_0 : mm_at mt_P 233 0 = some ((0, 1, .iload_n 0, 0, 0, 0, 0), 4, 3, 0, 8, 1, 0, 0) := rfl
theorem bu_233_1 : mm_at mt_P 233 1 = some ((1, 3, .invokestatic 295, 288, 0, 0, 912), 4, 3, 0, 8, 1, 0, 0) := rfl
theorem bu_233_4 : mm_at mt_P 233 4 = some ((4, 1, .iload_n 1, 0, 0, 0, 0), 4, 3, 0, 8, 1, 0, 0) := rfl
theorem bu_233_5 : mm_at mt_P 233 5 = some ((5, 3, .invokestatic 298, 226, 0, 0, 915), 4, 3, 0, 8, 1, 0, 0) := rfl
theorem bu_233_8 : mm_at mt_P 233 8 = some ((8, 1, .istore_n 3, 0, 0, 0, 0), 4, 3, 0, 8, 1, 0, 0) := rfl
theorem bu_233_9 : mm_at mt_P 233 9 = some ((9, 1, .iload_n 3, 0, 0, 0, 0), 4, 3, 0, 8, 1, 0, 0) := rfl
theorem bu_233_10 : mm_at mt_P 233 10 = some ((10, 1, .iconst 1, 0, 0, 0, 0), 4, 3, 0, 8, 1, 0, 0) := rfl
theorem bu_233_11 : mm_at mt_P 233 11 = some ((11, 3, .if_icmp .ge 13, 0, 0, 0, 0), 4, 3, 0, 8, 1, 0, 0) := rfl
theorem bu_233_14 : mm_at mt_P 233 14 = some ((14, 1, .iload_n 2, 0, 0, 0, 0), 4, 3, 0, 8, 1, 0, 0) := rfl
theorem bu_233_15 : mm_at mt_P 233 15 = some ((15, 3, .ifCond .eq 7, 0, 0, 0, 0), 4, 3, 0, 8, 1, 0, 0) := rfl
theorem bu_233_18 : mm_at mt_P 233 18 = some ((18, 1, .iconst 1, 0, 0, 0, 0), 4, 3, 0, 8, 1, 0, 0) := rfl
theorem bu_233_19 : mm_at mt_P 233 19 = some ((19, 3, .goto 4, 0, 0, 0, 0), 4, 3, 0, 8, 1, 0, 0) := rfl
theorem bu_233_22 : mm_at mt_P 233 22 = some ((22, 1, .iconst 0, 0, 0, 0, 0), 4, 3, 0, 8, 1, 0, 0) := rfl
theorem bu_233_23 : mm_at mt_P 233 23 = some ((23, 1, .ireturn, 0, 0, 0, 0), 4, 3, 0, 8, 1, 0, 0) := rfl
theorem bu_233_24 : mm_at mt_P 233 24 = some ((24, 1, .iload_n 2, 0, 0, 0, 0), 4, 3, 0, 8, 1, 0, 0) := rfl
theorem bu_233_25 : mm_at mt_P 233 25 = some ((25, 3, .ifCond .eq 7, 0, 0, 0, 0), 4, 3, 0, 8, 1, 0, 0) := rfl
theorem bu_233_28 : mm_at mt_P 233 28 = some ((28, 1, .iload_n 1, 0, 0, 0, 0), 4, 3, 0, 8, 1, 0, 0) := rfl
theorem bu_233_29 : mm_at mt_P 233 29 = some ((29, 3, .goto 4, 0, 0, 0, 0), 4, 3, 0, 8, 1, 0, 0) := rfl
theorem bu_233_32 : mm_at mt_P 233 32 = some ((32, 1, .iload_n 0, 0, 0, 0, 0), 4, 3, 0, 8, 1, 0, 0) := rfl
theorem bu_233_33 : mm_at mt_P 233 33 = some ((33, 1, .iload_n 3, 0, 0, 0, 0), 4, 3, 0, 8, 1, 0, 0) := rfl
theorem bu_233_34 : mm_at mt_P 233 34 = some ((34, 1, .idiv, 0, 0, 0, 0), 4, 3, 0, 8, 1, 0, 0) := rfl
theorem bu_233_35 : mm_at mt_P 233 35 = some ((35, 1, .ireturn, 0, 0, 0, 0), 4, 3, 0, 8, 1, 0, 0) := rfl
theorem bu_236_0 : mm_at mt_P 236 0 = some ((0, 1, .aload_n 0, 0, 0, 0, 0), 2, 1, 1, 8, 2, 0, 0) := rfl
theorem bu_236_1 : mm_at mt_P 236 1 = some ((1, 3, .getfield 61, 8, 9, 0, 441), 2, 1, 1, 8, 2, 0, 0) := rfl
theorem bu_236_4 : mm_at mt_P 236 4 = some ((4, 1, .iload_n 1, 0, 0, 0, 0), 2, 1, 1, 8, 2, 0, 0) := rfl
theorem bu_236_5 : mm_at mt_P 236 5 = some ((5, 1, .aload_n 0, 0, 0, 0, 0), 2, 1, 1, 8, 2, 0, 0) := rfl
theorem bu_236_6 : mm_at mt_P 236 6 = some ((6, 3, .getfield 44, 8, 6, 0, 438), 2, 1, 1, 8, 2, 0, 0) := rfl
theorem bu_236_9 : mm_at mt_P 236 9 = some ((9, 3, .getfield 110, 5, 0, 0, 312), 2, 1, 1, 8, 2, 0, 0) := rfl
theorem bu_236_12 : mm_at mt_P 236 12 = some ((12, 3, .invokevirtual 266, 157, 0, 0, 1160), 2, 1, 1, 8, 2, 0, 0) := rfl
theorem bu_236_15 : mm_at mt_P 236 15 = some ((15, 1, .ireturn, 0, 0, 0, 0), 2, 1, 1, 8, 2, 0, 0) := rfl
theorem bu_239_0 : mm_at mt_P 239 0 = some ((0, 1, .iload_n 0, 0, 0, 0, 0), 1, 1, 0, 8, 2, 0, 0) := rfl
theorem bu_239_1 : mm_at mt_P 239 1 = some ((1, 3, .ifCond .lt 12, 0, 0, 0, 0), 1, 1, 0, 8, 2, 0, 0) := rfl
theorem bu_239_4 : mm_at mt_P 239 4 = some ((4, 1, .iload_n 0, 0, 0, 0, 0), 1, 1, 0, 8, 2, 0, 0) := rfl
theorem bu_239_5 : mm_at mt_P 239 5 = some ((5, 1, .iconst 4, 0, 0, 0, 0), 1, 1, 0, 8, 2, 0, 0) := rfl
theorem bu_239_6 : mm_at mt_P 239 6 = some ((6, 3, .if_icmp .ge 7, 0, 0, 0, 0), 1, 1, 0, 8, 2, 0, 0) := rfl
theorem bu_239_9 : mm_at mt_P 239 9 = some ((9, 1, .iconst 1, 0, 0, 0, 0), 1, 1, 0, 8, 2, 0, 0) := rfl
theorem bu_239_10 : mm_at mt_P 239 10 = some ((10, 3, .goto 4, 0, 0, 0, 0), 1, 1, 0, 8, 2, 0, 0) := rfl
theorem bu_239_13 : mm_at mt_P 239 13 = some ((13, 1, .iconst 0, 0, 0, 0, 0), 1, 1, 0, 8, 2, 0, 0) := rfl
theorem bu_239_14 : mm_at mt_P 239 14 = some ((14, 1, .ireturn, 0, 0, 0, 0), 1, 1, 0, 8, 2, 0, 0) := rfl
theorem bu_242_0 : mm_at mt_P 242 0 = some ((0, 1, .aload_n 0, 0, 0, 0, 0), 4, 3, 1, 8, 1, 0, 0) := rfl
theorem bu_242_1 : mm_at mt_P 242 1 = some ((1, 3, .getfield 23, 8, 3, 0, 435), 4, 3, 1, 8, 1, 0, 0) := rfl
theorem bu_242_4 : mm_at mt_P 242 4 = some ((4, 1, .iload_n 1, 0, 0, 0, 0), 4, 3, 1, 8, 1, 0, 0) := rfl
theorem bu_242_5 : mm_at mt_P 242 5 = some ((5, 3, .invokevirtual 102, 203, 0, 0, 762), 4, 3, 1, 8, 1, 0, 0) := rfl
theorem bu_242_8 : mm_at mt_P 242 8 = some ((8, 3, .ifCond .eq 10, 0, 0, 0, 0), 4, 3, 1, 8, 1, 0, 0) := rfl
theorem bu_242_11 : mm_at mt_P 242 11 = some ((11, 1, .iload_n 2, 0, 0, 0, 0), 4, 3, 1, 8, 1, 0, 0) := rfl
theorem bu_242_12 : mm_at mt_P 242 12 = some ((12, 3, .invokestatic 120, 239, 0, 0, 786), 4, 3, 1, 8, 1, 0, 0) := rfl
theorem bu_242_15 : mm_at mt_P 242 15 = some ((15, 3, .ifCond .ne 5, 0, 0, 0, 0), 4, 3, 1, 8, 1, 0, 0) := rfl
theorem bu_242_18 : mm_at mt_P 242 18 = some ((18, 1, .iconst (-1), 0, 0, 0, 0), 4, 3, 1, 8, 1, 0, 0) := rfl
theorem bu_242_19 : mm_at mt_P 242 19 = some ((19, 1, .ireturn, 0, 0, 0, 0), 4, 3, 1, 8, 1, 0, 0) := rfl
theorem bu_242_20 : mm_at mt_P 242 20 = some ((20, 1, .iload_n 2, 0, 0, 0, 0), 4, 3, 1, 8, 1, 0, 0) := rfl
theorem bu_242_21 : mm_at mt_P 242 21 = some ((21, 1, .aload_n 0, 0, 0, 0, 0), 4, 3, 1, 8, 1, 0, 0) := rfl
theorem bu_242_22 : mm_at mt_P 242 22 = some ((22, 3, .getfield 23, 8, 3, 0, 435), 4, 3, 1, 8, 1, 0, 0) := rfl
theorem bu_242_25 : mm_at mt_P 242 25 = some ((25, 3, .getfield 155, 6, 4, 0, 190), 4, 3, 1, 8, 1, 0, 0) := rfl
theorem bu_242_28 : mm_at mt_P 242 28 = some ((28, 3, .if_icmp .ge 7, 0, 0, 0, 0), 4, 3, 1, 8, 1, 0, 0) := rfl
theorem bu_242_31 : mm_at mt_P 242 31 = some ((31, 1, .iconst 1, 0, 0, 0, 0), 4, 3, 1, 8, 1, 0, 0) := rfl
theorem bu_242_32 : mm_at mt_P 242 32 = some ((32, 3, .goto 4, 0, 0, 0, 0), 4, 3, 1, 8, 1, 0, 0) := rfl
theorem bu_242_35 : mm_at mt_P 242 35 = some ((35, 1, .iconst 0, 0, 0, 0, 0), 4, 3, 1, 8, 1, 0, 0) := rfl
theorem bu_242_36 : mm_at mt_P 242 36 = some ((36, 1, .aload_n 0, 0, 0, 0, 0), 4, 3, 1, 8, 1, 0, 0) := rfl
theorem bu_242_37 : mm_at mt_P 242 37 = some ((37, 3, .getfield 23, 8, 3, 0, 435), 4, 3, 1, 8, 1, 0, 0) := rfl
theorem bu_242_40 : mm_at mt_P 242 40 = some ((40, 3, .getfield 155, 6, 4, 0, 190), 4, 3, 1, 8, 1, 0, 0) := rfl
theorem bu_242_43 : mm_at mt_P 242 43 = some ((43, 1, .iload_n 3, 0, 0, 0, 0), 4, 3, 1, 8, 1, 0, 0) := rfl
theorem bu_242_44 : mm_at mt_P 242 44 = some ((44, 3, .invokestatic 158, 233, 0, 0, 909), 4, 3, 1, 8, 1, 0, 0) := rfl
theorem bu_242_47 : mm_at mt_P 242 47 = some ((47, 1, .ireturn, 0, 0, 0, 0), 4, 3, 1, 8, 1, 0, 0) := rfl
theorem bu_252_0 : mm_at mt_P 252 0 = some ((0, 1, .iconst 1, 0, 0, 0, 0), 4, 2, 0, 8, 1, 0, 0) := rfl
theorem bu_252_1 : mm_at mt_P 252 1 = some ((1, 1, .istore_n 2, 0, 0, 0, 0), 4, 2, 0, 8, 1, 0, 0) := rfl
theorem bu_252_2 : mm_at mt_P 252 2 = some ((2, 1, .iconst 0, 0, 0, 0, 0), 4, 2, 0, 8, 1, 0, 0) := rfl
theorem bu_252_3 : mm_at mt_P 252 3 = some ((3, 1, .istore_n 3, 0, 0, 0, 0), 4, 2, 0, 8, 1, 0, 0) := rfl
theorem bu_252_4 : mm_at mt_P 252 4 = some ((4, 1, .iload_n 3, 0, 0, 0, 0), 4, 2, 0, 8, 1, 0, 0) := rfl
theorem bu_252_5 : mm_at mt_P 252 5 = some ((5, 1, .iload_n 1, 0, 0, 0, 0), 4, 2, 0, 8, 1, 0, 0) := rfl
theorem bu_252_6 : mm_at mt_P 252 6 = some ((6, 3, .if_icmp .ge 13, 0, 0, 0, 0), 4, 2, 0, 8, 1, 0, 0) := rfl
theorem bu_252_9 : mm_at mt_P 252 9 = some ((9, 1, .iload_n 2, 0, 0, 0, 0), 4, 2, 0, 8, 1, 0, 0) := rfl
theorem bu_252_10 : mm_at mt_P 252 10 = some ((10, 1, .iload_n 0, 0, 0, 0, 0), 4, 2, 0, 8, 1, 0, 0) := rfl
theorem bu_252_11 : mm_at mt_P 252 11 = some ((11, 1, .imul, 0, 0, 0, 0), 4, 2, 0, 8, 1, 0, 0) := rfl
theorem bu_252_12 : mm_at mt_P 252 12 = some ((12, 1, .istore_n 2, 0, 0, 0, 0), 4, 2, 0, 8, 1, 0, 0) := rfl
theorem bu_252_13 : mm_at mt_P 252 13 = some ((13, 3, .iinc 3 1, 0, 0, 0, 0), 4, 2, 0, 8, 1, 0, 0) := rfl
theorem bu_252_16 : mm_at mt_P 252 16 = some ((16, 3, .goto (-12), 0, 0, 0, 0), 4, 2, 0, 8, 1, 0, 0) := rfl
theorem bu_252_19 : mm_at mt_P 252 19 = some ((19, 1, .iload_n 2, 0, 0, 0, 0), 4, 2, 0, 8, 1, 0, 0) := rfl
theorem bu_252_20 : mm_at mt_P 252 20 = some ((20, 1, .ireturn, 0, 0, 0, 0), 4, 2, 0, 8, 1, 0, 0) := rfl
theorem bu_254_0 : mm_at mt_P 254 0 = some ((0, 1, .aload_n 0, 0, 0, 0, 0), 2, 1, 1, 8, 2, 0, 0) := rfl
theorem bu_254_1 : mm_at mt_P 254 1 = some ((1, 3, .getfield 61, 8, 9, 0, 441), 2, 1, 1, 8, 2, 0, 0) := rfl
theorem bu_254_4 : mm_at mt_P 254 4 = some ((4, 1, .iload_n 1, 0, 0, 0, 0), 2, 1, 1, 8, 2, 0, 0) := rfl
theorem bu_254_5 : mm_at mt_P 254 5 = some ((5, 1, .aload_n 0, 0, 0, 0, 0), 2, 1, 1, 8, 2, 0, 0) := rfl
theorem bu_254_6 : mm_at mt_P 254 6 = some ((6, 3, .getfield 44, 8, 6, 0, 438), 2, 1, 1, 8, 2, 0, 0) := rfl
theorem bu_254_9 : mm_at mt_P 254 9 = some ((9, 3, .getfield 110, 5, 0, 0, 312), 2, 1, 1, 8, 2, 0, 0) := rfl
theorem bu_254_12 : mm_at mt_P 254 12 = some ((12, 3, .invokevirtual 270, 155, 0, 0, 1168), 2, 1, 1, 8, 2, 0, 0) := rfl
theorem bu_254_15 : mm_at mt_P 254 15 = some ((15, 1, .ireturn, 0, 0, 0, 0), 2, 1, 1, 8, 2, 0, 0) := rfl
theorem bu_264_0 : mm_at mt_P 264 0 = some ((0, 1, .iload_n 1, 0, 0, 0, 0), 7, 1, 1, 8, 1, 0, 0) := rfl
theorem bu_264_1 : mm_at mt_P 264 1 = some ((1, 3, .ifCond .lt 19, 0, 0, 0, 0), 7, 1, 1, 8, 1, 0, 0) := rfl
theorem bu_264_4 : mm_at mt_P 264 4 = some ((4, 1, .iload_n 1, 0, 0, 0, 0), 7, 1, 1, 8, 1, 0, 0) := rfl
theorem bu_264_5 : mm_at mt_P 264 5 = some ((5, 2, .bipush 100, 0, 0, 0, 0), 7, 1, 1, 8, 1, 0, 0) := rfl
theorem bu_264_7 : mm_at mt_P 264 7 = some ((7, 3, .if_icmp .gt 13, 0, 0, 0, 0), 7, 1, 1, 8, 1, 0, 0) := rfl
theorem bu_264_10 : mm_at mt_P 264 10 = some ((10, 1, .aload_n 0, 0, 0, 0, 0), 7, 1, 1, 8, 1, 0, 0) := rfl
theorem bu_264_11 : mm_at mt_P 264 11 = some ((11, 3, .getfield 23, 8, 3, 0, 435), 7, 1, 1, 8, 1, 0, 0) := rfl
theorem bu_264_14 : mm_at mt_P 264 14 = some ((14, 3, .getfield 155, 6, 4, 0, 190), 7, 1, 1, 8, 1, 0, 0) := rfl
theorem bu_264_17 : mm_at mt_P 264 17 = some ((17, 3, .ifCond .ne 5, 0, 0, 0, 0), 7, 1, 1, 8, 1, 0, 0) := rfl
theorem bu_264_20 : mm_at mt_P 264 20 = some ((20, 1, .iconst (-1), 0, 0, 0, 0), 7, 1, 1, 8, 1, 0, 0) := rfl
theorem bu_264_21 : mm_at mt_P 264 21 = some ((21, 1, .ireturn, 0, 0, 0, 0), 7, 1, 1, 8, 1, 0, 0) := rfl
theorem bu_264_22 : mm_at mt_P 264 22 = some ((22, 1, .iconst 0, 0, 0, 0, 0), 7, 1, 1, 8, 1, 0, 0) := rfl
theorem bu_264_23 : mm_at mt_P 264 23 = some ((23, 1, .istore_n 2, 0, 0, 0, 0), 7, 1, 1, 8, 1, 0, 0) := rfl
theorem bu_264_24 : mm_at mt_P 264 24 = some ((24, 1, .iload_n 2, 0, 0, 0, 0), 7, 1, 1, 8, 1, 0, 0) := rfl
theorem bu_264_25 : mm_at mt_P 264 25 = some ((25, 2, .bipush 10, 0, 0, 0, 0), 7, 1, 1, 8, 1, 0, 0) := rfl
theorem bu_264_27 : mm_at mt_P 264 27 = some ((27, 3, .if_icmp .gt 56, 0, 0, 0, 0), 7, 1, 1, 8, 1, 0, 0) := rfl
theorem bu_264_30 : mm_at mt_P 264 30 = some ((30, 1, .aload_n 0, 0, 0, 0, 0), 7, 1, 1, 8, 1, 0, 0) := rfl
theorem bu_264_31 : mm_at mt_P 264 31 = some ((31, 3, .getfield 23, 8, 3, 0, 435), 7, 1, 1, 8, 1, 0, 0) := rfl
theorem bu_264_34 : mm_at mt_P 264 34 = some ((34, 3, .getfield 155, 6, 4, 0, 190), 7, 1, 1, 8, 1, 0, 0) := rfl
theorem bu_264_37 : mm_at mt_P 264 37 = some ((37, 1, .iload_n 2, 0, 0, 0, 0), 7, 1, 1, 8, 1, 0, 0) := rfl
theorem bu_264_38 : mm_at mt_P 264 38 = some ((38, 3, .invokestatic 241, 252, 0, 0, 1114), 7, 1, 1, 8, 1, 0, 0) := rfl
theorem bu_264_41 : mm_at mt_P 264 41 = some ((41, 1, .i2l, 0, 0, 0, 0), 7, 1, 1, 8, 1, 0, 0) := rfl
theorem bu_264_42 : mm_at mt_P 264 42 = some ((42, 1, .lstore_n 3, 0, 0, 0, 0), 7, 1, 1, 8, 1, 0, 0) := rfl
theorem bu_264_43 : mm_at mt_P 264 43 = some ((43, 1, .lload_n 3, 0, 0, 0, 0), 7, 1, 1, 8, 1, 0, 0) := rfl
theorem bu_264_44 : mm_at mt_P 264 44 = some ((44, 1, .aload_n 0, 0, 0, 0, 0), 7, 1, 1, 8, 1, 0, 0) := rfl
theorem bu_264_45 : mm_at mt_P 264 45 = some ((45, 3, .getfield 23, 8, 3, 0, 435), 7, 1, 1, 8, 1, 0, 0) := rfl
theorem bu_264_48 : mm_at mt_P 264 48 = some ((48, 3, .getfield 155, 6, 4, 0, 190), 7, 1, 1, 8, 1, 0, 0) := rfl
theorem bu_264_51 : mm_at mt_P 264 51 = some ((51, 1, .iconst 1, 0, 0, 0, 0), 7, 1, 1, 8, 1, 0, 0) := rfl
theorem bu_264_52 : mm_at mt_P 264 52 = some ((52, 1, .isub, 0, 0, 0, 0), 7, 1, 1, 8, 1, 0, 0) := rfl
theorem bu_264_53 : mm_at mt_P 264 53 = some ((53, 1, .iload_n 2, 0, 0, 0, 0), 7, 1, 1, 8, 1, 0, 0) := rfl
theorem bu_264_54 : mm_at mt_P 264 54 = some ((54, 3, .invokestatic 241, 252, 0, 0, 1114), 7, 1, 1, 8, 1, 0, 0) := rfl
theorem bu_264_57 : mm_at mt_P 264 57 = some ((57, 1, .i2l, 0, 0, 0, 0), 7, 1, 1, 8, 1, 0, 0) := rfl
theorem bu_264_58 : mm_at mt_P 264 58 = some ((58, 1, .ladd, 0, 0, 0, 0), 7, 1, 1, 8, 1, 0, 0) := rfl
theorem bu_264_59 : mm_at mt_P 264 59 = some ((59, 2, .lstore 5, 0, 0, 0, 0), 7, 1, 1, 8, 1, 0, 0) := rfl
theorem bu_264_61 : mm_at mt_P 264 61 = some ((61, 3, .ldc2_w 244, 0, 0, 100, 1121), 7, 1, 1, 8, 1, 0, 0) := rfl
theorem bu_264_64 : mm_at mt_P 264 64 = some ((64, 1, .lload_n 3, 0, 0, 0, 0), 7, 1, 1, 8, 1, 0, 0) := rfl
theorem bu_264_65 : mm_at mt_P 264 65 = some ((65, 1, .lmul, 0, 0, 0, 0), 7, 1, 1, 8, 1, 0, 0) := rfl
theorem bu_264_66 : mm_at mt_P 264 66 = some ((66, 1, .iload_n 1, 0, 0, 0, 0), 7, 1, 1, 8, 1, 0, 0) := rfl
theorem bu_264_67 : mm_at mt_P 264 67 = some ((67, 1, .i2l, 0, 0, 0, 0), 7, 1, 1, 8, 1, 0, 0) := rfl
theorem bu_264_68 : mm_at mt_P 264 68 = some ((68, 2, .lload 5, 0, 0, 0, 0), 7, 1, 1, 8, 1, 0, 0) := rfl
theorem bu_264_70 : mm_at mt_P 264 70 = some ((70, 1, .lmul, 0, 0, 0, 0), 7, 1, 1, 8, 1, 0, 0) := rfl
theorem bu_264_71 : mm_at mt_P 264 71 = some ((71, 1, .lcmp, 0, 0, 0, 0), 7, 1, 1, 8, 1, 0, 0) := rfl
theorem bu_264_72 : mm_at mt_P 264 72 = some ((72, 3, .ifCond .lt 5, 0, 0, 0, 0), 7, 1, 1, 8, 1, 0, 0) := rfl
theorem bu_264_75 : mm_at mt_P 264 75 = some ((75, 1, .iload_n 2, 0, 0, 0, 0), 7, 1, 1, 8, 1, 0, 0) := rfl
theorem bu_264_76 : mm_at mt_P 264 76 = some ((76, 1, .ireturn, 0, 0, 0, 0), 7, 1, 1, 8, 1, 0, 0) := rfl
theorem bu_264_77 : mm_at mt_P 264 77 = some ((77, 3, .iinc 2 1, 0, 0, 0, 0), 7, 1, 1, 8, 1, 0, 0) := rfl
theorem bu_264_80 : mm_at mt_P 264 80 = some ((80, 3, .goto (-56), 0, 0, 0, 0), 7, 1, 1, 8, 1, 0, 0) := rfl
theorem bu_264_83 : mm_at mt_P 264 83 = some ((83, 2, .bipush (-2), 0, 0, 0, 0), 7, 1, 1, 8, 1, 0, 0) := rfl
theorem bu_264_85 : mm_at mt_P 264 85 = some ((85, 1, .ireturn, 0, 0, 0, 0), 7, 1, 1, 8, 1, 0, 0) := rfl
theorem bu_266_0 : mm_at mt_P 266 0 = some ((0, 1, .aload_n 0, 0, 0, 0, 0), 2, 1, 1, 8, 1, 0, 0) := rfl
theorem bu_266_1 : mm_at mt_P 266 1 = some ((1, 3, .getfield 23, 8, 3, 0, 435), 2, 1, 1, 8, 1, 0, 0) := rfl
theorem bu_266_4 : mm_at mt_P 266 4 = some ((4, 1, .iload_n 1, 0, 0, 0, 0), 2, 1, 1, 8, 1, 0, 0) := rfl
theorem bu_266_5 : mm_at mt_P 266 5 = some ((5, 3, .invokevirtual 102, 203, 0, 0, 762), 2, 1, 1, 8, 1, 0, 0) := rfl
theorem bu_266_8 : mm_at mt_P 266 8 = some ((8, 3, .ifCond .eq 14, 0, 0, 0, 0), 2, 1, 1, 8, 1, 0, 0) := rfl
theorem bu_266_11 : mm_at mt_P 266 11 = some ((11, 1, .aload_n 0, 0, 0, 0, 0), 2, 1, 1, 8, 1, 0, 0) := rfl
theorem bu_266_12 : mm_at mt_P 266 12 = some ((12, 3, .getfield 68, 8, 10, 0, 442), 2, 1, 1, 8, 1, 0, 0) := rfl
theorem bu_266_15 : mm_at mt_P 266 15 = some ((15, 1, .iload_n 1, 0, 0, 0, 0), 2, 1, 1, 8, 1, 0, 0) := rfl
theorem bu_266_16 : mm_at mt_P 266 16 = some ((16, 3, .invokevirtual 232, 146, 0, 0, 1102), 2, 1, 1, 8, 1, 0, 0) := rfl
theorem bu_266_19 : mm_at mt_P 266 19 = some ((19, 3, .goto 4, 0, 0, 0, 0), 2, 1, 1, 8, 1, 0, 0) := rfl
theorem bu_266_22 : mm_at mt_P 266 22 = some ((22, 1, .iconst (-1), 0, 0, 0, 0), 2, 1, 1, 8, 1, 0, 0) := rfl
theorem bu_266_23 : mm_at mt_P 266 23 = some ((23, 1, .ireturn, 0, 0, 0, 0), 2, 1, 1, 8, 1, 0, 0) := rfl
theorem bu_288_0 : mm_at mt_P 288 0 = some ((0, 1, .iload_n 0, 0, 0, 0, 0), 1, 1, 0, 0, 1, 0, 0) := rfl
theorem bu_288_1 : mm_at mt_P 288 1 = some ((1, 3, .ifCond .ge 8, 0, 0, 0, 0), 1, 1, 0, 0, 1, 0, 0) := rfl
theorem bu_288_4 : mm_at mt_P 288 4 = some ((4, 1, .iload_n 0, 0, 0, 0, 0), 1, 1, 0, 0, 1, 0, 0) := rfl
theorem bu_288_5 : mm_at mt_P 288 5 = some ((5, 1, .ineg, 0, 0, 0, 0), 1, 1, 0, 0, 1, 0, 0) := rfl
theorem bu_288_6 : mm_at mt_P 288 6 = some ((6, 3, .goto 4, 0, 0, 0, 0), 1, 1, 0, 0, 1, 0, 0) := rfl
theorem bu_288_9 : mm_at mt_P 288 9 = some ((9, 1, .iload_n 0, 0, 0, 0, 0), 1, 1, 0, 0, 1, 0, 0) := rfl
theorem bu_288_10 : mm_at mt_P 288 10 = some ((10, 1, .ireturn, 0, 0, 0, 0), 1, 1, 0, 0, 1, 0, 0) := rfl
section KD
variable {E : mm_E} {PO : mm_C → Prop} {NN : Nat} {h0 h : mm_H} {s : Nat → Int32} {A : Nat → Nat → Int32} {L : Nat → Nat → Int64} {gs : List mm_F}
set_option maxHeartbeats 4000000 in
theorem kd_288 {x : Int32} (kk : ∀ v : Int32, (-2147483648 < x.toInt → 0 ≤ v.toInt ∧ v.toInt.toNat = x.toInt.natAbs) → bp_G E PO NN (mm_back (some (.int v)) gs h)) : bp_G E PO NN ((288, 0, [(0, .int x)], [], 0, 0) :: gs, h, none) := by
  refine bp_ld (pc' := 1) bu_288_0 rfl rfl (fun _ _ _ => rfl) rfl rfl ?_
  refine bp_i0 (pc' := 4) (pt := 9) bu_288_1 rfl rfl (fun k1 => ?_) (fun k1 => ?_)
  · replace k1 : 0 ≤ (x).toInt := k1
    refine bp_ld (pc' := 10) bu_288_9 rfl rfl (fun _ _ _ => rfl) rfl rfl ?_
    refine bp_ri bu_288_10 ?_
    exact kk _ (fun hx => ⟨by omega, by omega⟩)
  · replace k1 : ¬ (0 ≤ (x).toInt) := k1
    refine bp_ld (pc' := 5) bu_288_4 rfl rfl (fun _ _ _ => rfl) rfl rfl ?_
    refine bp_negx (pc' := 6) bu_288_5 rfl (fun v2 e3 => ?_)
    refine bp_go (pc' := 10) bu_288_6 rfl ?_
    refine bp_ri bu_288_10 ?_
    exact kk _ (fun hx => ⟨by omega, by omega⟩)
set_option maxHeartbeats 4000000 in
theorem kd_226l {gg : Nat}  : ∀ NN : Nat, (∀ v : Int32, v.toInt = (gg : Int) → bp_G E PO NN (mm_back (some (.int v)) gs h)) → (∀ (lv : mm_V) (o : Option Value) (a : Int32) (b : Int32) (st : Int32), mm_get lv 2 = some (.int a) → mm_get lv 3 = some (.int b) → mm_get lv 4 = some (.int st) → (0 ≤ a.toInt) → (0 ≤ b.toInt) → (Nat.gcd a.toInt.toNat b.toInt.toNat = gg) → (0 ≤ st.toInt ∧ st.toInt ≤ 100) → (a.toInt.toNat * b.toInt.toNat < 2 ^ (62 - (st.toInt.toNat - 1))) → (st.toInt = 0 ∨ b.toInt ≤ a.toInt) → bp_G E PO NN ((226, 7, lv, [], 0, 0) :: gs, h, o)) := by
  intro NN
  induction NN with
  | zero => intro kk lv o a b st g2 g3 g4 i1 i2 i3 i4 i5 i6; exact bp_zero bu_226_7
  | succ NN ih =>
    intro kk lv o a b st g2 g3 g4 i1 i2 i3 i4 i5 i6
    refine bp_ld (pc' := 9) bu_226_7 rfl rfl (fun _ _ _ => rfl) g4 rfl ?_
    refine bp_c (pc' := 11) (n := 100) bu_226_9 rfl rfl (fun _ _ _ => rfl) (by decide) (fun c4 e5 => ?_)
    refine bp_ic (pc' := 14) (pt := 34) bu_226_11 rfl rfl (fun k6 => ?_) (fun k6 => ?_)
    · replace k6 : (c4).toInt ≤ (st).toInt := k6
      refine bp_ld (pc' := 35) bu_226_34 rfl rfl (fun _ _ _ => rfl) g2 rfl ?_
      refine bp_ri bu_226_35 ?_
      have hb0 : b.toInt.toNat = 0 := by
        rcases Int.lt_or_le st.toInt 100 with q | q
        · omega
        · exact kg_end (a := a.toInt.toNat) (s := st.toInt.toNat) (by omega) (by omega) i5
      rw [hb0, Nat.gcd_zero_right] at i3
      exact kk _ (by omega)
    · replace k6 : ¬ ((c4).toInt ≤ (st).toInt) := k6
      refine bp_ld (pc' := 15) bu_226_14 rfl rfl (fun _ _ _ => rfl) g3 rfl ?_
      refine bp_i0 (pc' := 18) (pt := 34) bu_226_15 rfl rfl (fun k7 => ?_) (fun k7 => ?_)
      · replace k7 : (b).toInt = 0 := k7
        refine bp_ld (pc' := 35) bu_226_34 rfl rfl (fun _ _ _ => rfl) g2 rfl ?_
        refine bp_ri bu_226_35 ?_
        have hb0 : b.toInt.toNat = 0 := by
          rcases Int.lt_or_le st.toInt 100 with q | q
          · omega
          · exact kg_end (a := a.toInt.toNat) (s := st.toInt.toNat) (by omega) (by omega) i5
        rw [hb0, Nat.gcd_zero_right] at i3
        exact kk _ (by omega)
      · replace k7 : ¬ ((b).toInt = 0) := k7
        refine bp_ld (pc' := 19) bu_226_18 rfl rfl (fun _ _ _ => rfl) g2 rfl ?_
        refine bp_ld (pc' := 20) bu_226_19 rfl rfl (fun _ _ _ => rfl) g3 rfl ?_
        refine bp_remx (pc' := 21) bu_226_20 rfl (fun v8 n9 e10 => ?_)
        refine bp_st (pc' := 23) bu_226_21 rfl rfl (fun _ _ _ => rfl) rfl (by decide) (by decide) (fun lv11 F12 g13 => ?_)
        have g14 := F12 2 (.int a) g2 (by decide) (Or.inl rfl)
        have g15 := F12 3 (.int b) g3 (by decide) (Or.inl rfl)
        have g16 := F12 4 (.int st) g4 (by decide) (Or.inl rfl)
        refine bp_ld (pc' := 24) bu_226_23 rfl rfl (fun _ _ _ => rfl) g15 rfl ?_
        refine bp_st (pc' := 25) bu_226_24 rfl rfl (fun _ _ _ => rfl) rfl (by decide) (by decide) (fun lv17 F18 g19 => ?_)
        have g20 := F18 3 (.int b) g15 (by decide) (Or.inl rfl)
        have g21 := F18 4 (.int st) g16 (by decide) (Or.inl rfl)
        have g22 := F18 5 (.int v8) g13 (by decide) (Or.inl rfl)
        refine bp_ld (pc' := 27) bu_226_25 rfl rfl (fun _ _ _ => rfl) g22 rfl ?_
        refine bp_st (pc' := 28) bu_226_27 rfl rfl (fun _ _ _ => rfl) rfl (by decide) (by decide) (fun lv23 F24 g25 => ?_)
        have g26 := F24 4 (.int st) g21 (by decide) (Or.inl rfl)
        have g27 := F24 5 (.int v8) g22 (by decide) (Or.inl rfl)
        have g28 := F24 2 (.int b) g19 (by decide) (Or.inl rfl)
        refine bp_inc (pc' := 31) bu_226_28 rfl (by decide) g26 (by decide) (by omega) (by omega) (fun lv29 y32 F30 g31 e33 => ?_)
        have g34 := F30 5 (.int v8) g27 (by decide) (Or.inl rfl)
        have g35 := F30 2 (.int b) g28 (by decide) (Or.inl rfl)
        have g36 := F30 3 (.int v8) g25 (by decide) (Or.inl rfl)
        refine bp_goD (pc' := 7) bu_226_31 rfl ?_
        have q9 := kg_gcd i1 i2 n9 i3 e10
        have p9 := kg_step (a := a.toInt.toNat) (b := b.toInt.toNat) (s := st.toInt.toNat) (by omega) (by omega) i5
        rw [← q9.2.2.2, show st.toInt.toNat + 1 = (y32).toInt.toNat by omega] at p9
        exact ih (fun v q => bp_mono (Nat.le_succ NN) (kk v q)) _ _ (b) (v8) (y32) g35 g36 g31 (by omega) (by omega) q9.2.2.1 (by omega) p9.1 (Or.inr (by omega))
set_option maxHeartbeats 4000000 in
theorem kd_226 {x y : Int32} (hx : 0 ≤ x.toInt) (hy : 0 ≤ y.toInt) (kk : ∀ v : Int32, v.toInt = (Nat.gcd x.toInt.toNat y.toInt.toNat : Int) → bp_G E PO NN (mm_back (some (.int v)) gs h)) : bp_G E PO NN ((226, 0, [(0, .int x), (1, .int y)], [], 0, 0) :: gs, h, none) := by
  refine bp_ld (pc' := 1) bu_226_0 rfl rfl (fun _ _ _ => rfl) rfl rfl ?_
  refine bp_st (pc' := 2) bu_226_1 rfl rfl (fun _ _ _ => rfl) rfl (by decide) (by decide) (fun lv37 F38 g39 => ?_)
  have g40 := F38 0 (.int x) rfl (by decide) (Or.inl rfl)
  have g41 := F38 1 (.int y) rfl (by decide) (Or.inl rfl)
  refine bp_ld (pc' := 3) bu_226_2 rfl rfl (fun _ _ _ => rfl) g41 rfl ?_
  refine bp_st (pc' := 4) bu_226_3 rfl rfl (fun _ _ _ => rfl) rfl (by decide) (by decide) (fun lv42 F43 g44 => ?_)
  have g45 := F43 0 (.int x) g40 (by decide) (Or.inl rfl)
  have g46 := F43 1 (.int y) g41 (by decide) (Or.inl rfl)
  have g47 := F43 2 (.int x) g39 (by decide) (Or.inl rfl)
  refine bp_c (pc' := 5) (n := 0) bu_226_4 rfl rfl (fun _ _ _ => rfl) (by decide) (fun c48 e49 => ?_)
  refine bp_st (pc' := 7) bu_226_5 rfl rfl (fun _ _ _ => rfl) rfl (by decide) (by decide) (fun lv50 F51 g52 => ?_)
  have g53 := F51 0 (.int x) g45 (by decide) (Or.inl rfl)
  have g54 := F51 1 (.int y) g46 (by decide) (Or.inl rfl)
  have g55 := F51 2 (.int x) g47 (by decide) (Or.inl rfl)
  have g56 := F51 3 (.int y) g44 (by decide) (Or.inl rfl)
  have e0 : (c48).toInt.toNat = 0 := by omega
  exact kd_226l NN kk _ _ _ _ _ g55 g56 g52 hx hy rfl (by omega) (by rw [e0]; exact kg_init hx hy) (Or.inl (by omega))
set_option maxHeartbeats 4000000 in
theorem kd_233 {u l b : Int32} (hu : -2147483648 < u.toInt) (hl : 1 ≤ l.toInt) (kk : ∀ r d : Int32, d.toInt = (Nat.gcd u.toInt.natAbs l.toInt.toNat : Int) → (b.toInt ≠ 0 → r = l / d) → (b.toInt = 0 → r = u / d) → bp_G E PO NN (mm_back (some (.int r)) gs h)) : bp_G E PO NN ((233, 0, [(0, .int u), (1, .int l), (2, .int b)], [], 0, 0) :: gs, h, none) := by
  refine bp_ld (pc' := 1) bu_233_0 rfl rfl (fun _ _ _ => rfl) rfl rfl ?_
  refine bp_csF (pc' := 4) (st := []) (args := [.int u]) bu_233_1 rfl rfl (by decide) rfl (Nat.le_of_ble_eq_true rfl) (Nat.le_of_ble_eq_true rfl) ?_
  refine kd_288 (x := u) (fun v57 e58 => ?_)
  have e58 := e58 hu
  show bp_G E PO NN ((233, 4, _, [.int v57], 0, 0) :: gs, h, none)
  refine bp_ld (pc' := 5) bu_233_4 rfl rfl (fun _ _ _ => rfl) rfl rfl ?_
  refine bp_csF (pc' := 8) (st := []) (args := [.int l, .int v57]) bu_233_5 rfl rfl (by decide) rfl (Nat.le_of_ble_eq_true rfl) (Nat.le_of_ble_eq_true rfl) ?_
  refine kd_226 (x := v57) (y := l) (by omega) (by omega) (fun v59 e60 => ?_)
  rw [e58.2] at e60
  have gp : 0 < Nat.gcd u.toInt.natAbs l.toInt.toNat := Nat.gcd_pos_of_pos_right _ (by omega)
  show bp_G E PO NN ((233, 8, _, [.int v59], 0, 0) :: gs, h, none)
  refine bp_st (pc' := 9) bu_233_8 rfl rfl (fun _ _ _ => rfl) rfl (by decide) (by decide) (fun lv61 F62 g63 => ?_)
  have g64 := F62 0 (.int u) rfl (by decide) (Or.inl rfl)
  have g65 := F62 1 (.int l) rfl (by decide) (Or.inl rfl)
  have g66 := F62 2 (.int b) rfl (by decide) (Or.inl rfl)
  refine bp_ld (pc' := 10) bu_233_9 rfl rfl (fun _ _ _ => rfl) g63 rfl ?_
  refine bp_c (pc' := 11) (n := 1) bu_233_10 rfl rfl (fun _ _ _ => rfl) (by decide) (fun c67 e68 => ?_)
  refine bp_ic (pc' := 14) (pt := 24) bu_233_11 rfl rfl (fun k69 => ?_) (fun k69 => ?_)
  · replace k69 : (c67).toInt ≤ (v59).toInt := k69
    refine bp_ld (pc' := 25) bu_233_24 rfl rfl (fun _ _ _ => rfl) g66 rfl ?_
    refine bp_i0 (pc' := 28) (pt := 32) bu_233_25 rfl rfl (fun k70 => ?_) (fun k70 => ?_)
    · replace k70 : (b).toInt = 0 := k70
      refine bp_ld (pc' := 33) bu_233_32 rfl rfl (fun _ _ _ => rfl) g64 rfl ?_
      refine bp_ld (pc' := 34) bu_233_33 rfl rfl (fun _ _ _ => rfl) g63 rfl ?_
      refine bp_divx (pc' := 35) bu_233_34 rfl (fun v71 n72 e73 => ?_)
      refine bp_ri bu_233_35 ?_
      refine kk _ v59 e60 (fun q => ?_) (fun q => ?_)
      · first | exact e73 | (exfalso; omega)
      · first | exact e73 | (exfalso; omega)
    · replace k70 : ¬ ((b).toInt = 0) := k70
      refine bp_ld (pc' := 29) bu_233_28 rfl rfl (fun _ _ _ => rfl) g65 rfl ?_
      refine bp_go (pc' := 33) bu_233_29 rfl ?_
      refine bp_ld (pc' := 34) bu_233_33 rfl rfl (fun _ _ _ => rfl) g63 rfl ?_
      refine bp_divx (pc' := 35) bu_233_34 rfl (fun v74 n75 e76 => ?_)
      refine bp_ri bu_233_35 ?_
      refine kk _ v59 e60 (fun q => ?_) (fun q => ?_)
      · first | exact e76 | (exfalso; omega)
      · first | exact e76 | (exfalso; omega)
  · replace k69 : ¬ ((c67).toInt ≤ (v59).toInt) := k69
    refine bp_ld (pc' := 15) bu_233_14 rfl rfl (fun _ _ _ => rfl) g66 rfl ?_
    refine bp_i0 (pc' := 18) (pt := 22) bu_233_15 rfl rfl (fun k77 => ?_) (fun k77 => ?_)
    · replace k77 : (b).toInt = 0 := k77
      refine bp_c (pc' := 23) (n := 0) bu_233_22 rfl rfl (fun _ _ _ => rfl) (by decide) (fun c78 e79 => ?_)
      refine bp_ri bu_233_23 ?_
      exfalso
      omega
    · replace k77 : ¬ ((b).toInt = 0) := k77
      refine bp_c (pc' := 19) (n := 1) bu_233_18 rfl rfl (fun _ _ _ => rfl) (by decide) (fun c80 e81 => ?_)
      refine bp_go (pc' := 23) bu_233_19 rfl ?_
      refine bp_ri bu_233_23 ?_
      exfalso
      omega
set_option maxHeartbeats 4000000 in
theorem kd_16l {gg : Nat}  : ∀ NN : Nat, (∀ v : Int32, v.toInt = (gg : Int) → bp_G E PO NN (mm_back (some (.int v)) gs h)) → (∀ (lv : mm_V) (o : Option Value) (a : Int32) (b : Int32), mm_get lv 2 = some (.int a) → mm_get lv 3 = some (.int b) → (0 ≤ a.toInt) → (0 ≤ b.toInt) → (Nat.gcd a.toInt.toNat b.toInt.toNat = gg) → bp_G E PO NN ((16, 13, lv, [], 0, 0) :: gs, h, o)) := by
  intro NN
  induction NN with
  | zero => intro kk lv o a b g2 g3 i1 i2 i3; exact bp_zero bu_16_13
  | succ NN ih =>
    intro kk lv o a b g2 g3 i1 i2 i3
    refine bp_ld (pc' := 14) bu_16_13 rfl rfl (fun _ _ _ => rfl) g3 rfl ?_
    refine bp_i0 (pc' := 17) (pt := 30) bu_16_14 rfl rfl (fun k82 => ?_) (fun k82 => ?_)
    · replace k82 : (b).toInt = 0 := k82
      refine bp_ld (pc' := 31) bu_16_30 rfl rfl (fun _ _ _ => rfl) g2 rfl ?_
      refine bp_ri bu_16_31 ?_
      have hb0 : b.toInt.toNat = 0 := by omega
      rw [hb0, Nat.gcd_zero_right] at i3
      exact kk _ (by omega)
    · replace k82 : ¬ ((b).toInt = 0) := k82
      refine bp_ld (pc' := 18) bu_16_17 rfl rfl (fun _ _ _ => rfl) g2 rfl ?_
      refine bp_ld (pc' := 19) bu_16_18 rfl rfl (fun _ _ _ => rfl) g3 rfl ?_
      refine bp_remx (pc' := 20) bu_16_19 rfl (fun v83 n84 e85 => ?_)
      refine bp_st (pc' := 22) bu_16_20 rfl rfl (fun _ _ _ => rfl) rfl (by decide) (by decide) (fun lv86 F87 g88 => ?_)
      have g89 := F87 2 (.int a) g2 (by decide) (Or.inl rfl)
      have g90 := F87 3 (.int b) g3 (by decide) (Or.inl rfl)
      refine bp_ld (pc' := 23) bu_16_22 rfl rfl (fun _ _ _ => rfl) g90 rfl ?_
      refine bp_st (pc' := 24) bu_16_23 rfl rfl (fun _ _ _ => rfl) rfl (by decide) (by decide) (fun lv91 F92 g93 => ?_)
      have g94 := F92 3 (.int b) g90 (by decide) (Or.inl rfl)
      have g95 := F92 4 (.int v83) g88 (by decide) (Or.inl rfl)
      refine bp_ld (pc' := 26) bu_16_24 rfl rfl (fun _ _ _ => rfl) g95 rfl ?_
      refine bp_st (pc' := 27) bu_16_26 rfl rfl (fun _ _ _ => rfl) rfl (by decide) (by decide) (fun lv96 F97 g98 => ?_)
      have g99 := F97 4 (.int v83) g95 (by decide) (Or.inl rfl)
      have g100 := F97 2 (.int b) g93 (by decide) (Or.inl rfl)
      refine bp_goD (pc' := 13) bu_16_27 rfl ?_
      have q9 := kg_gcd i1 i2 n84 i3 e85
      exact ih (fun v q => bp_mono (Nat.le_succ NN) (kk v q)) _ _ (b) (v83) g100 g98 (by omega) (by omega) q9.2.2.1
set_option maxHeartbeats 4000000 in
theorem kd_16 {u l : Int32} (hu : -2147483648 < u.toInt) (hl : 0 ≤ l.toInt) (kk : ∀ v : Int32, v.toInt = (Nat.gcd u.toInt.natAbs l.toInt.toNat : Int) → bp_G E PO NN (mm_back (some (.int v)) gs h)) : bp_G E PO NN ((16, 0, [(0, .int u), (1, .int l)], [], 0, 0) :: gs, h, none) := by
  refine bp_ld (pc' := 1) bu_16_0 rfl rfl (fun _ _ _ => rfl) rfl rfl ?_
  refine bp_i0 (pc' := 4) (pt := 9) bu_16_1 rfl rfl (fun k101 => ?_) (fun k101 => ?_)
  · replace k101 : 0 ≤ (u).toInt := k101
    refine bp_ld (pc' := 10) bu_16_9 rfl rfl (fun _ _ _ => rfl) rfl rfl ?_
    refine bp_st (pc' := 11) bu_16_10 rfl rfl (fun _ _ _ => rfl) rfl (by decide) (by decide) (fun lv102 F103 g104 => ?_)
    have g105 := F103 0 (.int u) rfl (by decide) (Or.inl rfl)
    have g106 := F103 1 (.int l) rfl (by decide) (Or.inl rfl)
    refine bp_ld (pc' := 12) bu_16_11 rfl rfl (fun _ _ _ => rfl) g106 rfl ?_
    refine bp_st (pc' := 13) bu_16_12 rfl rfl (fun _ _ _ => rfl) rfl (by decide) (by decide) (fun lv107 F108 g109 => ?_)
    have g110 := F108 0 (.int u) g105 (by decide) (Or.inl rfl)
    have g111 := F108 1 (.int l) g106 (by decide) (Or.inl rfl)
    have g112 := F108 2 (.int u) g104 (by decide) (Or.inl rfl)
    have e0 : (u).toInt.toNat = u.toInt.natAbs := by omega
    exact kd_16l NN kk _ _ _ _ g112 g109 (by omega) (by omega) (by rw [e0])
  · replace k101 : ¬ (0 ≤ (u).toInt) := k101
    refine bp_ld (pc' := 5) bu_16_4 rfl rfl (fun _ _ _ => rfl) rfl rfl ?_
    refine bp_negx (pc' := 6) bu_16_5 rfl (fun v113 e114 => ?_)
    refine bp_go (pc' := 10) bu_16_6 rfl ?_
    refine bp_st (pc' := 11) bu_16_10 rfl rfl (fun _ _ _ => rfl) rfl (by decide) (by decide) (fun lv115 F116 g117 => ?_)
    have g118 := F116 0 (.int u) rfl (by decide) (Or.inl rfl)
    have g119 := F116 1 (.int l) rfl (by decide) (Or.inl rfl)
    refine bp_ld (pc' := 12) bu_16_11 rfl rfl (fun _ _ _ => rfl) g119 rfl ?_
    refine bp_st (pc' := 13) bu_16_12 rfl rfl (fun _ _ _ => rfl) rfl (by decide) (by decide) (fun lv120 F121 g122 => ?_)
    have g123 := F121 0 (.int u) g118 (by decide) (Or.inl rfl)
    have g124 := F121 1 (.int l) g119 (by decide) (Or.inl rfl)
    have g125 := F121 2 (.int v113) g117 (by decide) (Or.inl rfl)
    have e1 := e114 hu
    have e0 : (v113).toInt.toNat = u.toInt.natAbs := by omega
    exact kd_16l NN kk _ _ _ _ g125 g122 (by omega) (by omega) (by rw [e0])
set_option maxHeartbeats 4000000 in
theorem kd_59 {u l b : Int32} (hu : -2147483648 < u.toInt) (hl : 1 ≤ l.toInt) (kk : ∀ r d : Int32, d.toInt = (Nat.gcd u.toInt.natAbs l.toInt.toNat : Int) → (b.toInt ≠ 0 → r = l / d) → (b.toInt = 0 → r = u / d) → bp_G E PO NN (mm_back (some (.int r)) gs h)) : bp_G E PO NN ((59, 0, [(0, .int u), (1, .int l), (2, .int b)], [], 0, 0) :: gs, h, none) := by
  refine bp_ld (pc' := 1) bu_59_0 rfl rfl (fun _ _ _ => rfl) rfl rfl ?_
  refine bp_ld (pc' := 2) bu_59_1 rfl rfl (fun _ _ _ => rfl) rfl rfl ?_
  refine bp_csF (pc' := 5) (st := []) (args := [.int l, .int u]) bu_59_2 rfl rfl (by decide) rfl (Nat.le_of_ble_eq_true rfl) (Nat.le_of_ble_eq_true rfl) ?_
  refine kd_16 (u := u) (l := l) hu (by omega) (fun v126 e127 => ?_)
  show bp_G E PO NN ((59, 5, _, [.int v126], 0, 0) :: gs, h, none)
  refine bp_st (pc' := 6) bu_59_5 rfl rfl (fun _ _ _ => rfl) rfl (by decide) (by decide) (fun lv128 F129 g130 => ?_)
  have g131 := F129 0 (.int u) rfl (by decide) (Or.inl rfl)
  have g132 := F129 1 (.int l) rfl (by decide) (Or.inl rfl)
  have g133 := F129 2 (.int b) rfl (by decide) (Or.inl rfl)
  refine bp_ld (pc' := 7) bu_59_6 rfl rfl (fun _ _ _ => rfl) g133 rfl ?_
  refine bp_i0 (pc' := 10) (pt := 14) bu_59_7 rfl rfl (fun k134 => ?_) (fun k134 => ?_)
  · replace k134 : (b).toInt = 0 := k134
    refine bp_ld (pc' := 15) bu_59_14 rfl rfl (fun _ _ _ => rfl) g131 rfl ?_
    refine bp_ld (pc' := 16) bu_59_15 rfl rfl (fun _ _ _ => rfl) g130 rfl ?_
    refine bp_divx (pc' := 17) bu_59_16 rfl (fun v135 n136 e137 => ?_)
    refine bp_ri bu_59_17 ?_
    refine kk _ v126 e127 (fun q => ?_) (fun q => ?_)
    · first | exact e137 | (exfalso; omega)
    · first | exact e137 | (exfalso; omega)
  · replace k134 : ¬ ((b).toInt = 0) := k134
    refine bp_ld (pc' := 11) bu_59_10 rfl rfl (fun _ _ _ => rfl) g132 rfl ?_
    refine bp_go (pc' := 15) bu_59_11 rfl ?_
    refine bp_ld (pc' := 16) bu_59_15 rfl rfl (fun _ _ _ => rfl) g130 rfl ?_
    refine bp_divx (pc' := 17) bu_59_16 rfl (fun v138 n139 e140 => ?_)
    refine bp_ri bu_59_17 ?_
    refine kk _ v126 e127 (fun q => ?_) (fun q => ?_)
    · first | exact e140 | (exfalso; omega)
    · first | exact e140 | (exfalso; omega)
set_option maxHeartbeats 4000000 in
theorem kd_252l {b n : Int32} (hn : 0 ≤ n.toInt) : ∀ NN : Nat, (∀ v : Int32, v = kg_pw b n.toInt.toNat → bp_G E PO NN (mm_back (some (.int v)) gs h)) → (∀ (lv : mm_V) (o : Option Value) (p : Int32) (i : Int32), mm_get lv 0 = some (.int b) → mm_get lv 1 = some (.int n) → mm_get lv 2 = some (.int p) → mm_get lv 3 = some (.int i) → (p = kg_pw b i.toInt.toNat) → (0 ≤ i.toInt ∧ i.toInt ≤ n.toInt) → bp_G E PO NN ((252, 4, lv, [], 0, 0) :: gs, h, o)) := by
  intro NN
  induction NN with
  | zero => intro kk lv o p i g0 g1 g2 g3 i1 i2; exact bp_zero bu_252_4
  | succ NN ih =>
    intro kk lv o p i g0 g1 g2 g3 i1 i2
    have hz1 := en_z_int n
    have hz2 := en_z_lt n
    refine bp_ld (pc' := 5) bu_252_4 rfl rfl (fun _ _ _ => rfl) g3 rfl ?_
    refine bp_ld (pc' := 6) bu_252_5 rfl rfl (fun _ _ _ => rfl) g1 rfl ?_
    refine bp_ic (pc' := 9) (pt := 19) bu_252_6 rfl rfl (fun k141 => ?_) (fun k141 => ?_)
    · replace k141 : (n).toInt ≤ (i).toInt := k141
      refine bp_ld (pc' := 20) bu_252_19 rfl rfl (fun _ _ _ => rfl) g2 rfl ?_
      refine bp_ri bu_252_20 ?_
      have e9 : i.toInt.toNat = n.toInt.toNat := by omega
      rw [e9] at i1
      exact kk _ i1
    · replace k141 : ¬ ((n).toInt ≤ (i).toInt) := k141
      refine bp_ld (pc' := 10) bu_252_9 rfl rfl (fun _ _ _ => rfl) g2 rfl ?_
      refine bp_ld (pc' := 11) bu_252_10 rfl rfl (fun _ _ _ => rfl) g0 rfl ?_
      refine bp_x (pc' := 12) (v := p * b) bu_252_11 rfl rfl (fun _ _ _ => rfl) rfl ?_
      refine bp_st (pc' := 13) bu_252_12 rfl rfl (fun _ _ _ => rfl) rfl (by decide) (by decide) (fun lv142 F143 g144 => ?_)
      have g145 := F143 0 (.int b) g0 (by decide) (Or.inl rfl)
      have g146 := F143 1 (.int n) g1 (by decide) (Or.inl rfl)
      have g147 := F143 3 (.int i) g3 (by decide) (Or.inl rfl)
      refine bp_inc (pc' := 16) bu_252_13 rfl (by decide) g147 (by decide) (by omega) (by omega) (fun lv148 y151 F149 g150 e152 => ?_)
      have g153 := F149 0 (.int b) g145 (by decide) (Or.inl rfl)
      have g154 := F149 1 (.int n) g146 (by decide) (Or.inl rfl)
      have g155 := F149 2 (.int (p * b)) g144 (by decide) (Or.inl rfl)
      refine bp_goD (pc' := 4) bu_252_16 rfl ?_
      have hp2 : (p * b) = kg_pw b y151.toInt.toNat := by
        rw [show y151.toInt.toNat = i.toInt.toNat + 1 by omega, i1]
        rfl
      exact ih (fun v q => bp_mono (Nat.le_succ NN) (kk v q)) _ _ ((p * b)) (y151) g153 g154 g155 g150 hp2 (by omega)
set_option maxHeartbeats 4000000 in
theorem kd_252 {b n : Int32} (hn : 0 ≤ n.toInt) (kk : ∀ v : Int32, v = kg_pw b n.toInt.toNat → bp_G E PO NN (mm_back (some (.int v)) gs h)) : bp_G E PO NN ((252, 0, [(0, .int b), (1, .int n)], [], 0, 0) :: gs, h, none) := by
  refine bp_c (pc' := 1) (n := 1) bu_252_0 rfl rfl (fun _ _ _ => rfl) (by decide) (fun c156 e157 => ?_)
  refine bp_st (pc' := 2) bu_252_1 rfl rfl (fun _ _ _ => rfl) rfl (by decide) (by decide) (fun lv158 F159 g160 => ?_)
  have g161 := F159 0 (.int b) rfl (by decide) (Or.inl rfl)
  have g162 := F159 1 (.int n) rfl (by decide) (Or.inl rfl)
  refine bp_c (pc' := 3) (n := 0) bu_252_2 rfl rfl (fun _ _ _ => rfl) (by decide) (fun c163 e164 => ?_)
  refine bp_st (pc' := 4) bu_252_3 rfl rfl (fun _ _ _ => rfl) rfl (by decide) (by decide) (fun lv165 F166 g167 => ?_)
  have g168 := F166 0 (.int b) g161 (by decide) (Or.inl rfl)
  have g169 := F166 1 (.int n) g162 (by decide) (Or.inl rfl)
  have g170 := F166 2 (.int c156) g160 (by decide) (Or.inl rfl)
  have e0 : (c163).toInt.toNat = 0 := by omega
  exact kd_252l hn NN kk _ _ _ _ g168 g169 g170 g167 (by rw [e0]; exact Int32.toInt_inj.mp (by show _ = (1 : Int); omega)) (by omega)
set_option maxHeartbeats 4000000 in
theorem kd_75l {b n : Int32} (hn : 0 ≤ n.toInt) : ∀ NN : Nat, (∀ v : Int32, v = kg_pw b n.toInt.toNat → bp_G E PO NN (mm_back (some (.int v)) gs h)) → (∀ (lv : mm_V) (o : Option Value) (p : Int32) (i : Int32), mm_get lv 0 = some (.int b) → mm_get lv 1 = some (.int n) → mm_get lv 2 = some (.int p) → mm_get lv 3 = some (.int i) → (p = kg_pw b i.toInt.toNat) → (0 ≤ i.toInt ∧ i.toInt ≤ n.toInt) → bp_G E PO NN ((75, 4, lv, [], 0, 0) :: gs, h, o)) := by
  intro NN
  induction NN with
  | zero => intro kk lv o p i g0 g1 g2 g3 i1 i2; exact bp_zero bu_75_4
  | succ NN ih =>
    intro kk lv o p i g0 g1 g2 g3 i1 i2
    have hz1 := en_z_int n
    have hz2 := en_z_lt n
    refine bp_ld (pc' := 5) bu_75_4 rfl rfl (fun _ _ _ => rfl) g3 rfl ?_
    refine bp_ld (pc' := 6) bu_75_5 rfl rfl (fun _ _ _ => rfl) g1 rfl ?_
    refine bp_ic (pc' := 9) (pt := 19) bu_75_6 rfl rfl (fun k171 => ?_) (fun k171 => ?_)
    · replace k171 : (n).toInt ≤ (i).toInt := k171
      refine bp_ld (pc' := 20) bu_75_19 rfl rfl (fun _ _ _ => rfl) g2 rfl ?_
      refine bp_ri bu_75_20 ?_
      have e9 : i.toInt.toNat = n.toInt.toNat := by omega
      rw [e9] at i1
      exact kk _ i1
    · replace k171 : ¬ ((n).toInt ≤ (i).toInt) := k171
      refine bp_ld (pc' := 10) bu_75_9 rfl rfl (fun _ _ _ => rfl) g2 rfl ?_
      refine bp_ld (pc' := 11) bu_75_10 rfl rfl (fun _ _ _ => rfl) g0 rfl ?_
      refine bp_x (pc' := 12) (v := p * b) bu_75_11 rfl rfl (fun _ _ _ => rfl) rfl ?_
      refine bp_st (pc' := 13) bu_75_12 rfl rfl (fun _ _ _ => rfl) rfl (by decide) (by decide) (fun lv172 F173 g174 => ?_)
      have g175 := F173 0 (.int b) g0 (by decide) (Or.inl rfl)
      have g176 := F173 1 (.int n) g1 (by decide) (Or.inl rfl)
      have g177 := F173 3 (.int i) g3 (by decide) (Or.inl rfl)
      refine bp_inc (pc' := 16) bu_75_13 rfl (by decide) g177 (by decide) (by omega) (by omega) (fun lv178 y181 F179 g180 e182 => ?_)
      have g183 := F179 0 (.int b) g175 (by decide) (Or.inl rfl)
      have g184 := F179 1 (.int n) g176 (by decide) (Or.inl rfl)
      have g185 := F179 2 (.int (p * b)) g174 (by decide) (Or.inl rfl)
      refine bp_goD (pc' := 4) bu_75_16 rfl ?_
      have hp2 : (p * b) = kg_pw b y181.toInt.toNat := by
        rw [show y181.toInt.toNat = i.toInt.toNat + 1 by omega, i1]
        rfl
      exact ih (fun v q => bp_mono (Nat.le_succ NN) (kk v q)) _ _ ((p * b)) (y181) g183 g184 g185 g180 hp2 (by omega)
set_option maxHeartbeats 4000000 in
theorem kd_75 {b n : Int32} (hn : 0 ≤ n.toInt) (kk : ∀ v : Int32, v = kg_pw b n.toInt.toNat → bp_G E PO NN (mm_back (some (.int v)) gs h)) : bp_G E PO NN ((75, 0, [(0, .int b), (1, .int n)], [], 0, 0) :: gs, h, none) := by
  refine bp_c (pc' := 1) (n := 1) bu_75_0 rfl rfl (fun _ _ _ => rfl) (by decide) (fun c186 e187 => ?_)
  refine bp_st (pc' := 2) bu_75_1 rfl rfl (fun _ _ _ => rfl) rfl (by decide) (by decide) (fun lv188 F189 g190 => ?_)
  have g191 := F189 0 (.int b) rfl (by decide) (Or.inl rfl)
  have g192 := F189 1 (.int n) rfl (by decide) (Or.inl rfl)
  refine bp_c (pc' := 3) (n := 0) bu_75_2 rfl rfl (fun _ _ _ => rfl) (by decide) (fun c193 e194 => ?_)
  refine bp_st (pc' := 4) bu_75_3 rfl rfl (fun _ _ _ => rfl) rfl (by decide) (by decide) (fun lv195 F196 g197 => ?_)
  have g198 := F196 0 (.int b) g191 (by decide) (Or.inl rfl)
  have g199 := F196 1 (.int n) g192 (by decide) (Or.inl rfl)
  have g200 := F196 2 (.int c186) g190 (by decide) (Or.inl rfl)
  have e0 : (c193).toInt.toNat = 0 := by omega
  exact kd_75l hn NN kk _ _ _ _ g198 g199 g200 g197 (by rw [e0]; exact Int32.toInt_inj.mp (by show _ = (1 : Int); omega)) (by omega)
set_option maxHeartbeats 4000000 in
theorem kd_203 {a : Int32} (hP : bm_P cw_T E h0 h s A L) (kk : ∀ r : Int32, ((r.toInt = 1 ∧ 0 ≤ a.toInt ∧ a.toInt < (s 204).toInt) ∨ (r.toInt = 0 ∧ ¬ (0 ≤ a.toInt ∧ a.toInt < (s 204).toInt))) → bp_G E PO NN (mm_back (some (.int r)) gs h)) : bp_G E PO NN ((203, 0, [(0, .ref (E.1 + 2)), (1, .int a)], [], 0, 0) :: gs, h, none) := by
  refine bp_ld (pc' := 1) bu_203_0 rfl rfl (fun _ _ _ => rfl) rfl rfl ?_
  refine bp_i0 (pc' := 4) (pt := 16) bu_203_1 rfl rfl (fun k201 => ?_) (fun k201 => ?_)
  · replace k201 : (a).toInt < 0 := k201
    refine bp_c (pc' := 17) (n := 0) bu_203_16 rfl rfl (fun _ _ _ => rfl) (by decide) (fun c202 e203 => ?_)
    refine bp_rbF bu_203_17 (fun rb204 => ?_)
    exact kk _ (by omega)
  · replace k201 : ¬ ((a).toInt < 0) := k201
    refine bp_ld (pc' := 5) bu_203_4 rfl rfl (fun _ _ _ => rfl) rfl rfl ?_
    refine bp_ld (pc' := 6) bu_203_5 rfl rfl (fun _ _ _ => rfl) rfl rfl ?_
    refine bn_gi (pc' := 9) (K := 204) bu_203_6 rfl rfl (fun _ _ _ => rfl) hP cw_o2 cw_i2_4 rfl rfl ?_
    refine bp_ic (pc' := 12) (pt := 16) bu_203_9 rfl rfl (fun k205 => ?_) (fun k205 => ?_)
    · replace k205 : ((s 204)).toInt ≤ (a).toInt := k205
      refine bp_c (pc' := 17) (n := 0) bu_203_16 rfl rfl (fun _ _ _ => rfl) (by decide) (fun c206 e207 => ?_)
      refine bp_rbF bu_203_17 (fun rb208 => ?_)
      exact kk _ (by omega)
    · replace k205 : ¬ (((s 204)).toInt ≤ (a).toInt) := k205
      refine bp_c (pc' := 13) (n := 1) bu_203_12 rfl rfl (fun _ _ _ => rfl) (by decide) (fun c209 e210 => ?_)
      refine bp_go (pc' := 17) bu_203_13 rfl ?_
      refine bp_rbF bu_203_17 (fun rb211 => ?_)
      exact kk _ (by omega)
set_option maxHeartbeats 4000000 in
theorem kd_43 {x y z : Int32} (kk : ∀ r : Int32, ((r.toInt = 1 ∧ y.toInt ≤ x.toInt ∧ x.toInt ≤ z.toInt) ∨ (r.toInt = 0 ∧ ¬ (y.toInt ≤ x.toInt ∧ x.toInt ≤ z.toInt))) → bp_G E PO NN (mm_back (some (.int r)) gs h)) : bp_G E PO NN ((43, 0, [(0, .int x), (1, .int y), (2, .int z)], [], 0, 0) :: gs, h, none) := by
  refine bp_ld (pc' := 1) bu_43_0 rfl rfl (fun _ _ _ => rfl) rfl rfl ?_
  refine bp_ld (pc' := 2) bu_43_1 rfl rfl (fun _ _ _ => rfl) rfl rfl ?_
  refine bp_ic (pc' := 5) (pt := 14) bu_43_2 rfl rfl (fun k212 => ?_) (fun k212 => ?_)
  · replace k212 : (x).toInt < (y).toInt := k212
    refine bp_c (pc' := 15) (n := 0) bu_43_14 rfl rfl (fun _ _ _ => rfl) (by decide) (fun c213 e214 => ?_)
    refine bp_rbF bu_43_15 (fun rb215 => ?_)
    exact kk _ (by omega)
  · replace k212 : ¬ ((x).toInt < (y).toInt) := k212
    refine bp_ld (pc' := 6) bu_43_5 rfl rfl (fun _ _ _ => rfl) rfl rfl ?_
    refine bp_ld (pc' := 7) bu_43_6 rfl rfl (fun _ _ _ => rfl) rfl rfl ?_
    refine bp_ic (pc' := 10) (pt := 14) bu_43_7 rfl rfl (fun k216 => ?_) (fun k216 => ?_)
    · replace k216 : (z).toInt < (x).toInt := k216
      refine bp_c (pc' := 15) (n := 0) bu_43_14 rfl rfl (fun _ _ _ => rfl) (by decide) (fun c217 e218 => ?_)
      refine bp_rbF bu_43_15 (fun rb219 => ?_)
      exact kk _ (by omega)
    · replace k216 : ¬ ((z).toInt < (x).toInt) := k216
      refine bp_c (pc' := 11) (n := 1) bu_43_10 rfl rfl (fun _ _ _ => rfl) (by decide) (fun c220 e221 => ?_)
      refine bp_go (pc' := 15) bu_43_11 rfl ?_
      refine bp_rbF bu_43_15 (fun rb222 => ?_)
      exact kk _ (by omega)
set_option maxHeartbeats 4000000 in
theorem kd_52 {a : Int32} (hP : bm_P mw_T E h0 h s A L) (hm : 0 ≤ (A 97 (s 8818).toInt.toNat).toInt ∧ (A 97 (s 8818).toInt.toNat).toInt ≤ 6) (kk : ∀ r : Int32, ((r.toInt = 1 ∧ 0 ≤ a.toInt ∧ a.toInt < (A 97 (s 8818).toInt.toNat).toInt) ∨ (r.toInt = 0 ∧ ¬ (0 ≤ a.toInt ∧ a.toInt < (A 97 (s 8818).toInt.toNat).toInt))) → bp_G E PO NN (mm_back (some (.int r)) gs h)) : bp_G E PO NN ((52, 0, [(0, .ref (E.1 + 88)), (1, .int a)], [], 0, 0) :: gs, h, none) := by
  refine bp_ld (pc' := 1) bu_52_0 rfl rfl (fun _ _ _ => rfl) rfl rfl ?_
  refine bp_c (pc' := 2) (n := 0) bu_52_1 rfl rfl (fun _ _ _ => rfl) (by decide) (fun c223 e224 => ?_)
  refine bp_ld (pc' := 3) bu_52_2 rfl rfl (fun _ _ _ => rfl) rfl rfl ?_
  refine bn_gr (pc' := 6) (t := 97) bu_52_3 rfl rfl (fun _ _ _ => rfl) hP mw_o88 mw_r88_22 ?_
  refine bp_ld (pc' := 7) bu_52_6 rfl rfl (fun _ _ _ => rfl) rfl rfl ?_
  refine bn_gi (pc' := 10) (K := 8818) bu_52_7 rfl rfl (fun _ _ _ => rfl) hP mw_o88 mw_i88_18 rfl rfl ?_
  refine bn_iaF (pc' := 11) bu_52_10 rfl rfl (fun _ _ _ => rfl) hP mw_a97 (Or.inl rfl) (fun b225 b226 => ?_)
  refine bp_c (pc' := 12) (n := 1) bu_52_11 rfl rfl (fun _ _ _ => rfl) (by decide) (fun c227 e228 => ?_)
  refine bp_sub (pc' := 13) bu_52_12 rfl (by omega) (by omega) (fun v229 e230 => ?_)
  refine bp_csF (pc' := 16) (st := []) (args := [.int v229, .int c223, .int a]) bu_52_13 rfl rfl (by decide) rfl (Nat.le_of_ble_eq_true rfl) (Nat.le_of_ble_eq_true rfl) ?_
  refine kd_43 (x := a) (y := c223) (z := v229) (fun r231 e232 => ?_)
  show bp_G E PO NN ((52, 16, _, [.int r231], 0, 0) :: gs, h, none)
  refine bp_rbF bu_52_16 (fun rb233 => ?_)
  exact kk _ (by omega)
set_option maxHeartbeats 4000000 in
theorem kd_239 {a : Int32} (kk : ∀ r : Int32, ((r.toInt = 1 ∧ 0 ≤ a.toInt ∧ a.toInt < 4) ∨ (r.toInt = 0 ∧ ¬ (0 ≤ a.toInt ∧ a.toInt < 4))) → bp_G E PO NN (mm_back (some (.int r)) gs h)) : bp_G E PO NN ((239, 0, [(0, .int a)], [], 0, 0) :: gs, h, none) := by
  refine bp_ld (pc' := 1) bu_239_0 rfl rfl (fun _ _ _ => rfl) rfl rfl ?_
  refine bp_i0 (pc' := 4) (pt := 13) bu_239_1 rfl rfl (fun k234 => ?_) (fun k234 => ?_)
  · replace k234 : (a).toInt < 0 := k234
    refine bp_c (pc' := 14) (n := 0) bu_239_13 rfl rfl (fun _ _ _ => rfl) (by decide) (fun c235 e236 => ?_)
    refine bp_rbF bu_239_14 (fun rb237 => ?_)
    exact kk _ (by omega)
  · replace k234 : ¬ ((a).toInt < 0) := k234
    refine bp_ld (pc' := 5) bu_239_4 rfl rfl (fun _ _ _ => rfl) rfl rfl ?_
    refine bp_c (pc' := 6) (n := 4) bu_239_5 rfl rfl (fun _ _ _ => rfl) (by decide) (fun c238 e239 => ?_)
    refine bp_ic (pc' := 9) (pt := 13) bu_239_6 rfl rfl (fun k240 => ?_) (fun k240 => ?_)
    · replace k240 : (c238).toInt ≤ (a).toInt := k240
      refine bp_c (pc' := 14) (n := 0) bu_239_13 rfl rfl (fun _ _ _ => rfl) (by decide) (fun c241 e242 => ?_)
      refine bp_rbF bu_239_14 (fun rb243 => ?_)
      exact kk _ (by omega)
    · replace k240 : ¬ ((c238).toInt ≤ (a).toInt) := k240
      refine bp_c (pc' := 10) (n := 1) bu_239_9 rfl rfl (fun _ _ _ => rfl) (by decide) (fun c244 e245 => ?_)
      refine bp_go (pc' := 14) bu_239_10 rfl ?_
      refine bp_rbF bu_239_14 (fun rb246 => ?_)
      exact kk _ (by omega)
set_option maxHeartbeats 4000000 in
theorem kd_146 {a : Int32} (hP : bm_P cw_T E h0 h s A L) (ht : 0 ≤ (s 8403).toInt ∧ (s 8403).toInt ≤ 10) (kk : ∀ (h' : mm_H) (s' : Nat → Int32) (A' : Nat → Nat → Int32) (r : Int32), bm_P cw_T E h0 h' s' A' L → (((s 8403).toInt < 10 ∧ r.toInt = (s 8403).toInt ∧ (s' 8403).toInt = (s 8403).toInt + 1 ∧ A' 85 (s 8403).toInt.toNat = a ∧ ∀ j : Nat, (j : Int) < (s 8403).toInt → A' 85 j = A 85 j) ∨ (¬ ((s 8403).toInt < 10) ∧ r.toInt = -1 ∧ s' 8403 = s 8403 ∧ A' 85 = A 85)) → bp_G E PO NN (mm_back (some (.int r)) gs h')) : bp_G E PO NN ((146, 0, [(0, .ref (E.1 + 84)), (1, .int a)], [], 0, 0) :: gs, h, none) := by
  refine bp_ld (pc' := 1) bu_146_0 rfl rfl (fun _ _ _ => rfl) rfl rfl ?_
  refine bn_gi (pc' := 4) (K := 8403) bu_146_1 rfl rfl (fun _ _ _ => rfl) hP cw_o84 cw_i84_3 rfl rfl ?_
  refine bp_c (pc' := 6) (n := 10) bu_146_4 rfl rfl (fun _ _ _ => rfl) (by decide) (fun c247 e248 => ?_)
  refine bp_ic (pc' := 9) (pt := 11) bu_146_6 rfl rfl (fun k249 => ?_) (fun k249 => ?_)
  · replace k249 : ((s 8403)).toInt < (c247).toInt := k249
    refine bp_ld (pc' := 12) bu_146_11 rfl rfl (fun _ _ _ => rfl) rfl rfl ?_
    refine bn_gr (pc' := 15) (t := 85) bu_146_12 rfl rfl (fun _ _ _ => rfl) hP cw_o84 cw_r84_0 ?_
    refine bp_ld (pc' := 16) bu_146_15 rfl rfl (fun _ _ _ => rfl) rfl rfl ?_
    refine bn_gi (pc' := 19) (K := 8403) bu_146_16 rfl rfl (fun _ _ _ => rfl) hP cw_o84 cw_i84_3 rfl rfl ?_
    refine bp_ld (pc' := 20) bu_146_19 rfl rfl (fun _ _ _ => rfl) rfl rfl ?_
    refine bn_iasF (pc' := 21) bu_146_20 rfl rfl (fun _ _ _ => rfl) hP cw_a85 (Or.inl rfl) (fun b252 b253 h250 hP251 => ?_)
    refine bp_ld (pc' := 22) bu_146_21 rfl rfl (fun _ _ _ => rfl) rfl rfl ?_
    refine bp_dup (pc' := 23) bu_146_22 rfl rfl ?_
    refine bn_gi (pc' := 26) (K := 8403) bu_146_23 rfl rfl (fun _ _ _ => rfl) hP251 cw_o84 cw_i84_3 rfl rfl ?_
    refine bp_c (pc' := 27) (n := 1) bu_146_26 rfl rfl (fun _ _ _ => rfl) (by decide) (fun c254 e255 => ?_)
    refine bp_add (pc' := 28) bu_146_27 rfl (by omega) (by omega) (fun v256 e257 => ?_)
    refine bn_pf (pc' := 31) (K := 8403) bu_146_28 rfl rfl (fun _ _ _ => rfl) hP251 cw_o84 cw_i84_3 rfl rfl (fun h258 s259 hP260 e261 f262 => ?_)
    refine bp_ld (pc' := 32) bu_146_31 rfl rfl (fun _ _ _ => rfl) rfl rfl ?_
    refine bn_gi (pc' := 35) (K := 8403) bu_146_32 rfl rfl (fun _ _ _ => rfl) hP260 cw_o84 cw_i84_3 rfl e261 ?_
    refine bp_c (pc' := 36) (n := 1) bu_146_35 rfl rfl (fun _ _ _ => rfl) (by decide) (fun c263 e264 => ?_)
    refine bp_sub (pc' := 37) bu_146_36 rfl (by omega) (by omega) (fun v265 e266 => ?_)
    refine bp_ri bu_146_37 ?_
    exact kk _ _ _ _ hP260 (Or.inl ⟨by omega, by omega, by rw [e261]; omega, by rw [bh_up_i]; rfl, fun j hj => bh_up_j (by omega)⟩)
  · replace k249 : ¬ (((s 8403)).toInt < (c247).toInt) := k249
    refine bp_c (pc' := 10) (n := -1) bu_146_9 rfl rfl (fun _ _ _ => rfl) (by decide) (fun c267 e268 => ?_)
    refine bp_ri bu_146_10 ?_
    exact kk _ _ _ _ hP (Or.inr ⟨by omega, by omega, rfl, rfl⟩)
set_option maxHeartbeats 4000000 in
theorem kd_266 {a : Int32} (hP : bm_P cw_T E h0 h s A L) (ht : 0 ≤ (s 8403).toInt ∧ (s 8403).toInt ≤ 10) (kk : ∀ (h' : mm_H) (s' : Nat → Int32) (A' : Nat → Nat → Int32) (r : Int32), bm_P cw_T E h0 h' s' A' L → kd_Ptl (s 204) (s 8403) (A 85) a r (s' 8403) (A' 85) → bp_G E PO NN (mm_back (some (.int r)) gs h')) : bp_G E PO NN ((266, 0, [(0, .ref (E.1 + 0)), (1, .int a)], [], 0, 0) :: gs, h, none) := by
  refine bp_ld (pc' := 1) bu_266_0 rfl rfl (fun _ _ _ => rfl) rfl rfl ?_
  refine bn_gr (pc' := 4) (t := 2) bu_266_1 rfl rfl (fun _ _ _ => rfl) hP cw_o0 cw_r0_3 ?_
  refine bp_ld (pc' := 5) bu_266_4 rfl rfl (fun _ _ _ => rfl) rfl rfl ?_
  refine bn_cvF (pc' := 8) (st := []) (args := [.int a]) bu_266_5 rfl rfl rfl (by decide) hP cw_o2 (by decide) rfl (Nat.le_of_ble_eq_true rfl) (Nat.le_of_ble_eq_true rfl) ?_
  refine kd_203 (a := a) hP (fun r269 e270 => ?_)
  show bp_G E PO NN ((266, 8, _, [.int r269], 0, 0) :: gs, h, none)
  refine bp_i0 (pc' := 11) (pt := 22) bu_266_8 rfl rfl (fun k271 => ?_) (fun k271 => ?_)
  · replace k271 : (r269).toInt = 0 := k271
    refine bp_c (pc' := 23) (n := -1) bu_266_22 rfl rfl (fun _ _ _ => rfl) (by decide) (fun c272 e273 => ?_)
    refine bp_ri bu_266_23 ?_
    exact kk _ _ _ _ hP (Or.inr ⟨by omega, by omega, rfl, rfl⟩)
  · replace k271 : ¬ ((r269).toInt = 0) := k271
    refine bp_ld (pc' := 12) bu_266_11 rfl rfl (fun _ _ _ => rfl) rfl rfl ?_
    refine bn_gr (pc' := 15) (t := 84) bu_266_12 rfl rfl (fun _ _ _ => rfl) hP cw_o0 cw_r0_10 ?_
    refine bp_ld (pc' := 16) bu_266_15 rfl rfl (fun _ _ _ => rfl) rfl rfl ?_
    refine bn_cvF (pc' := 19) (st := []) (args := [.int a]) bu_266_16 rfl rfl rfl (by decide) hP cw_o84 (by decide) rfl (Nat.le_of_ble_eq_true rfl) (Nat.le_of_ble_eq_true rfl) ?_
    refine kd_146 (a := a) hP ht (fun h274 s275 A276 r277 hP278 e279 => ?_)
    show bp_G E PO NN ((266, 19, _, [.int r277], 0, 0) :: gs, h274, none)
    refine bp_go (pc' := 23) bu_266_19 rfl ?_
    refine bp_ri bu_266_23 ?_
    rcases e279 with ⟨q0, q⟩ | ⟨q0, q⟩
    · exact kk _ _ _ _ hP278 (Or.inl ⟨by omega, q⟩)
    · exact kk _ _ _ _ hP278 (Or.inr ⟨by omega, q⟩)
set_option maxHeartbeats 4000000 in
theorem kd_96 {a : Int32} (hP : bm_P mw_T E h0 h s A L) (hm : 0 ≤ (A 97 (s 8818).toInt.toNat).toInt ∧ (A 97 (s 8818).toInt.toNat).toInt ≤ 6) (ht : 0 ≤ (s 8865).toInt ∧ (s 8865).toInt ≤ 10) (kk : ∀ (h' : mm_H) (s' : Nat → Int32) (A' : Nat → Nat → Int32) (r : Int32), bm_P mw_T E h0 h' s' A' L → kd_Ptl (A 97 (s 8818).toInt.toNat) (s 8865) (A 127) a r (s' 8865) (A' 127) → bp_G E PO NN (mm_back (some (.int r)) gs h')) : bp_G E PO NN ((96, 0, [(0, .ref (E.1 + 88)), (1, .int a)], [], 0, 0) :: gs, h, none) := by
  refine bp_ld (pc' := 1) bu_96_0 rfl rfl (fun _ _ _ => rfl) rfl rfl ?_
  refine bn_gi (pc' := 4) (K := 8865) bu_96_1 rfl rfl (fun _ _ _ => rfl) hP mw_o88 mw_i88_65 rfl rfl ?_
  refine bp_c (pc' := 6) (n := 10) bu_96_4 rfl rfl (fun _ _ _ => rfl) (by decide) (fun c280 e281 => ?_)
  refine bp_ic (pc' := 9) (pt := 17) bu_96_6 rfl rfl (fun k282 => ?_) (fun k282 => ?_)
  · replace k282 : ((s 8865)).toInt = (c280).toInt := k282
    refine bp_c (pc' := 18) (n := -1) bu_96_17 rfl rfl (fun _ _ _ => rfl) (by decide) (fun c283 e284 => ?_)
    refine bp_ri bu_96_18 ?_
    exact kk _ _ _ _ hP (Or.inr ⟨by omega, by omega, rfl, rfl⟩)
  · replace k282 : ¬ (((s 8865)).toInt = (c280).toInt) := k282
    refine bp_ld (pc' := 10) bu_96_9 rfl rfl (fun _ _ _ => rfl) rfl rfl ?_
    refine bp_ld (pc' := 11) bu_96_10 rfl rfl (fun _ _ _ => rfl) rfl rfl ?_
    refine bn_cvF (pc' := 14) (st := []) (args := [.int a]) bu_96_11 rfl rfl rfl (by decide) hP mw_o88 (by decide) rfl (Nat.le_of_ble_eq_true rfl) (Nat.le_of_ble_eq_true rfl) ?_
    refine kd_52 (a := a) hP hm (fun r285 e286 => ?_)
    show bp_G E PO NN ((96, 14, _, [.int r285], 0, 0) :: gs, h, none)
    refine bp_i0 (pc' := 17) (pt := 19) bu_96_14 rfl rfl (fun k287 => ?_) (fun k287 => ?_)
    · replace k287 : (r285).toInt ≠ 0 := k287
      refine bp_ld (pc' := 20) bu_96_19 rfl rfl (fun _ _ _ => rfl) rfl rfl ?_
      refine bn_gr (pc' := 23) (t := 127) bu_96_20 rfl rfl (fun _ _ _ => rfl) hP mw_o88 mw_r88_66 ?_
      refine bp_ld (pc' := 24) bu_96_23 rfl rfl (fun _ _ _ => rfl) rfl rfl ?_
      refine bn_gi (pc' := 27) (K := 8865) bu_96_24 rfl rfl (fun _ _ _ => rfl) hP mw_o88 mw_i88_65 rfl rfl ?_
      refine bp_ld (pc' := 28) bu_96_27 rfl rfl (fun _ _ _ => rfl) rfl rfl ?_
      refine bn_iasF (pc' := 29) bu_96_28 rfl rfl (fun _ _ _ => rfl) hP mw_a127 (Or.inl rfl) (fun b290 b291 h288 hP289 => ?_)
      refine bp_ld (pc' := 30) bu_96_29 rfl rfl (fun _ _ _ => rfl) rfl rfl ?_
      refine bp_dup (pc' := 31) bu_96_30 rfl rfl ?_
      refine bn_gi (pc' := 34) (K := 8865) bu_96_31 rfl rfl (fun _ _ _ => rfl) hP289 mw_o88 mw_i88_65 rfl rfl ?_
      refine bp_c (pc' := 35) (n := 1) bu_96_34 rfl rfl (fun _ _ _ => rfl) (by decide) (fun c292 e293 => ?_)
      refine bp_add (pc' := 36) bu_96_35 rfl (by omega) (by omega) (fun v294 e295 => ?_)
      refine bn_pf (pc' := 39) (K := 8865) bu_96_36 rfl rfl (fun _ _ _ => rfl) hP289 mw_o88 mw_i88_65 rfl rfl (fun h296 s297 hP298 e299 f300 => ?_)
      refine bp_ld (pc' := 40) bu_96_39 rfl rfl (fun _ _ _ => rfl) rfl rfl ?_
      refine bn_gi (pc' := 43) (K := 8865) bu_96_40 rfl rfl (fun _ _ _ => rfl) hP298 mw_o88 mw_i88_65 rfl e299 ?_
      refine bp_c (pc' := 44) (n := 1) bu_96_43 rfl rfl (fun _ _ _ => rfl) (by decide) (fun c301 e302 => ?_)
      refine bp_sub (pc' := 45) bu_96_44 rfl (by omega) (by omega) (fun v303 e304 => ?_)
      refine bp_ri bu_96_45 ?_
      exact kk _ _ _ _ hP298 (Or.inl ⟨by omega, by omega, by rw [e299]; omega, by rw [bh_up_i]; rfl, fun j hj => bh_up_j (by omega)⟩)
    · replace k287 : ¬ ((r285).toInt ≠ 0) := k287
      refine bp_c (pc' := 18) (n := -1) bu_96_17 rfl rfl (fun _ _ _ => rfl) (by decide) (fun c305 e306 => ?_)
      refine bp_ri bu_96_18 ?_
      exact kk _ _ _ _ hP (Or.inr ⟨by omega, by omega, rfl, rfl⟩)
theorem kg_zero {d : Int32} : ((0 : Int32) / d).toInt = 0 := by
  rw [Int32.toInt_div]
  show ((0 : Int).tdiv d.toInt).bmod _ = 0
  rw [Int.zero_tdiv]
  rfl
theorem kg_one {d : Int32} (h : 1 ≤ d.toInt) : (d / d).toInt = 1 := by
  rw [Int32.toInt_div, Int.tdiv_self (by omega)]
  rfl
set_option maxHeartbeats 4000000 in
theorem kd_242 {a p b : Int32} (hP : bm_P cw_T E h0 h s A L) (hm : 0 ≤ (s 204).toInt ∧ (s 204).toInt ≤ 6) (kk : ∀ r : Int32, kd_Plk (s 204) a p b r → bp_G E PO NN (mm_back (some (.int r)) gs h)) : bp_G E PO NN ((242, 0, [(0, .ref (E.1 + 0)), (1, .int a), (2, .int p), (3, .int b)], [], 0, 0) :: gs, h, none) := by
  refine bp_ld (pc' := 1) bu_242_0 rfl rfl (fun _ _ _ => rfl) rfl rfl ?_
  refine bn_gr (pc' := 4) (t := 2) bu_242_1 rfl rfl (fun _ _ _ => rfl) hP cw_o0 cw_r0_3 ?_
  refine bp_ld (pc' := 5) bu_242_4 rfl rfl (fun _ _ _ => rfl) rfl rfl ?_
  refine bn_cvF (pc' := 8) (st := []) (args := [.int a]) bu_242_5 rfl rfl rfl (by decide) hP cw_o2 (by decide) rfl (Nat.le_of_ble_eq_true rfl) (Nat.le_of_ble_eq_true rfl) ?_
  refine kd_203 (a := a) hP (fun r307 e308 => ?_)
  show bp_G E PO NN ((242, 8, _, [.int r307], 0, 0) :: gs, h, none)
  refine bp_i0 (pc' := 11) (pt := 18) bu_242_8 rfl rfl (fun k309 => ?_) (fun k309 => ?_)
  · replace k309 : (r307).toInt = 0 := k309
    refine bp_c (pc' := 19) (n := -1) bu_242_18 rfl rfl (fun _ _ _ => rfl) (by decide) (fun c310 e311 => ?_)
    refine bp_ri bu_242_19 ?_
    exact kk _ (Or.inl ⟨by omega, by omega⟩)
  · replace k309 : ¬ ((r307).toInt = 0) := k309
    refine bp_ld (pc' := 12) bu_242_11 rfl rfl (fun _ _ _ => rfl) rfl rfl ?_
    refine bp_csF (pc' := 15) (st := []) (args := [.int p]) bu_242_12 rfl rfl (by decide) rfl (Nat.le_of_ble_eq_true rfl) (Nat.le_of_ble_eq_true rfl) ?_
    refine kd_239 (a := p) (fun r312 e313 => ?_)
    show bp_G E PO NN ((242, 15, _, [.int r312], 0, 0) :: gs, h, none)
    refine bp_i0 (pc' := 18) (pt := 20) bu_242_15 rfl rfl (fun k314 => ?_) (fun k314 => ?_)
    · replace k314 : (r312).toInt ≠ 0 := k314
      refine bp_ld (pc' := 21) bu_242_20 rfl rfl (fun _ _ _ => rfl) rfl rfl ?_
      refine bp_ld (pc' := 22) bu_242_21 rfl rfl (fun _ _ _ => rfl) rfl rfl ?_
      refine bn_gr (pc' := 25) (t := 2) bu_242_22 rfl rfl (fun _ _ _ => rfl) hP cw_o0 cw_r0_3 ?_
      refine bn_gi (pc' := 28) (K := 204) bu_242_25 rfl rfl (fun _ _ _ => rfl) hP cw_o2 cw_i2_4 rfl rfl ?_
      refine bp_ic (pc' := 31) (pt := 35) bu_242_28 rfl rfl (fun k315 => ?_) (fun k315 => ?_)
      · replace k315 : ((s 204)).toInt ≤ (p).toInt := k315
        refine bp_c (pc' := 36) (n := 0) bu_242_35 rfl rfl (fun _ _ _ => rfl) (by decide) (fun c316 e317 => ?_)
        refine bp_ld (pc' := 37) bu_242_36 rfl rfl (fun _ _ _ => rfl) rfl rfl ?_
        refine bn_gr (pc' := 40) (t := 2) bu_242_37 rfl rfl (fun _ _ _ => rfl) hP cw_o0 cw_r0_3 ?_
        refine bn_gi (pc' := 43) (K := 204) bu_242_40 rfl rfl (fun _ _ _ => rfl) hP cw_o2 cw_i2_4 rfl rfl ?_
        refine bp_ld (pc' := 44) bu_242_43 rfl rfl (fun _ _ _ => rfl) rfl rfl ?_
        refine bp_csF (pc' := 47) (st := []) (args := [.int b, .int (s 204), .int c316]) bu_242_44 rfl rfl (by decide) rfl (Nat.le_of_ble_eq_true rfl) (Nat.le_of_ble_eq_true rfl) ?_
        refine kd_233 (u := c316) (l := (s 204)) (b := b) (by omega) (by omega) (fun r318 d319 e320 e321 e322 => ?_)
        show bp_G E PO NN ((242, 47, _, [.int r318], 0, 0) :: gs, h, none)
        refine bp_ri bu_242_47 ?_
        have u1 : c316 = 0 := Int32.toInt_inj.mp (by show _ = (0 : Int); omega)
        rw [u1] at e320 e322
        have dm : d319 = s 204 := Int32.toInt_inj.mp (by
          rw [e320]
          show ((Nat.gcd 0 (s 204).toInt.toNat : Nat) : Int) = _
          rw [Nat.gcd_zero_left]
          omega)
        exact kk _ (Or.inr ⟨by omega, Or.inr ⟨by omega, fun q => by rw [e321 q, dm]; exact kg_one (by omega), fun q => by rw [e322 q]; exact kg_zero⟩⟩)
      · replace k315 : ¬ (((s 204)).toInt ≤ (p).toInt) := k315
        refine bp_c (pc' := 32) (n := 1) bu_242_31 rfl rfl (fun _ _ _ => rfl) (by decide) (fun c323 e324 => ?_)
        refine bp_go (pc' := 36) bu_242_32 rfl ?_
        refine bp_ld (pc' := 37) bu_242_36 rfl rfl (fun _ _ _ => rfl) rfl rfl ?_
        refine bn_gr (pc' := 40) (t := 2) bu_242_37 rfl rfl (fun _ _ _ => rfl) hP cw_o0 cw_r0_3 ?_
        refine bn_gi (pc' := 43) (K := 204) bu_242_40 rfl rfl (fun _ _ _ => rfl) hP cw_o2 cw_i2_4 rfl rfl ?_
        refine bp_ld (pc' := 44) bu_242_43 rfl rfl (fun _ _ _ => rfl) rfl rfl ?_
        refine bp_csF (pc' := 47) (st := []) (args := [.int b, .int (s 204), .int c323]) bu_242_44 rfl rfl (by decide) rfl (Nat.le_of_ble_eq_true rfl) (Nat.le_of_ble_eq_true rfl) ?_
        refine kd_233 (u := c323) (l := (s 204)) (b := b) (by omega) (by omega) (fun r325 d326 e327 e328 e329 => ?_)
        show bp_G E PO NN ((242, 47, _, [.int r325], 0, 0) :: gs, h, none)
        refine bp_ri bu_242_47 ?_
        have u1 : c323 = 1 := Int32.toInt_inj.mp (by show _ = (1 : Int); omega)
        rw [u1] at e327 e329
        exact kk _ (Or.inr ⟨by omega, Or.inl ⟨by omega, d326, e327, e328, e329⟩⟩)
    · replace k314 : ¬ ((r312).toInt ≠ 0) := k314
      refine bp_c (pc' := 19) (n := -1) bu_242_18 rfl rfl (fun _ _ _ => rfl) (by decide) (fun c330 e331 => ?_)
      refine bp_ri bu_242_19 ?_
      exact kk _ (Or.inl ⟨by omega, by omega⟩)
set_option maxHeartbeats 4000000 in
theorem kd_58 {a p b : Int32} (hP : bm_P mw_T E h0 h s A L) (hm : 0 ≤ (A 97 (s 8818).toInt.toNat).toInt ∧ (A 97 (s 8818).toInt.toNat).toInt ≤ 6) (kk : ∀ r : Int32, kd_Plk (A 97 (s 8818).toInt.toNat) a p b r → bp_G E PO NN (mm_back (some (.int r)) gs h)) : bp_G E PO NN ((58, 0, [(0, .ref (E.1 + 88)), (1, .int a), (2, .int p), (3, .int b)], [], 0, 0) :: gs, h, none) := by
  refine bp_ld (pc' := 1) bu_58_0 rfl rfl (fun _ _ _ => rfl) rfl rfl ?_
  refine bp_ld (pc' := 2) bu_58_1 rfl rfl (fun _ _ _ => rfl) rfl rfl ?_
  refine bn_cvF (pc' := 5) (st := []) (args := [.int a]) bu_58_2 rfl rfl rfl (by decide) hP mw_o88 (by decide) rfl (Nat.le_of_ble_eq_true rfl) (Nat.le_of_ble_eq_true rfl) ?_
  refine kd_52 (a := a) hP hm (fun r332 e333 => ?_)
  show bp_G E PO NN ((58, 5, _, [.int r332], 0, 0) :: gs, h, none)
  refine bp_i0 (pc' := 8) (pt := 17) bu_58_5 rfl rfl (fun k334 => ?_) (fun k334 => ?_)
  · replace k334 : (r332).toInt = 0 := k334
    refine bp_c (pc' := 18) (n := -1) bu_58_17 rfl rfl (fun _ _ _ => rfl) (by decide) (fun c335 e336 => ?_)
    refine bp_ri bu_58_18 ?_
    exact kk _ (Or.inl ⟨by omega, by omega⟩)
  · replace k334 : ¬ ((r332).toInt = 0) := k334
    refine bp_ld (pc' := 9) bu_58_8 rfl rfl (fun _ _ _ => rfl) rfl rfl ?_
    refine bp_c (pc' := 10) (n := 0) bu_58_9 rfl rfl (fun _ _ _ => rfl) (by decide) (fun c337 e338 => ?_)
    refine bp_c (pc' := 11) (n := 3) bu_58_10 rfl rfl (fun _ _ _ => rfl) (by decide) (fun c339 e340 => ?_)
    refine bp_csF (pc' := 14) (st := []) (args := [.int c339, .int c337, .int p]) bu_58_11 rfl rfl (by decide) rfl (Nat.le_of_ble_eq_true rfl) (Nat.le_of_ble_eq_true rfl) ?_
    refine kd_43 (x := p) (y := c337) (z := c339) (fun r341 e342 => ?_)
    show bp_G E PO NN ((58, 14, _, [.int r341], 0, 0) :: gs, h, none)
    refine bp_i0 (pc' := 17) (pt := 19) bu_58_14 rfl rfl (fun k343 => ?_) (fun k343 => ?_)
    · replace k343 : (r341).toInt ≠ 0 := k343
      refine bp_ld (pc' := 20) bu_58_19 rfl rfl (fun _ _ _ => rfl) rfl rfl ?_
      refine bp_ld (pc' := 21) bu_58_20 rfl rfl (fun _ _ _ => rfl) rfl rfl ?_
      refine bn_gr (pc' := 24) (t := 97) bu_58_21 rfl rfl (fun _ _ _ => rfl) hP mw_o88 mw_r88_22 ?_
      refine bp_ld (pc' := 25) bu_58_24 rfl rfl (fun _ _ _ => rfl) rfl rfl ?_
      refine bn_gi (pc' := 28) (K := 8818) bu_58_25 rfl rfl (fun _ _ _ => rfl) hP mw_o88 mw_i88_18 rfl rfl ?_
      refine bn_iaF (pc' := 29) bu_58_28 rfl rfl (fun _ _ _ => rfl) hP mw_a97 (Or.inl rfl) (fun b344 b345 => ?_)
      refine bp_ic (pc' := 32) (pt := 49) bu_58_29 rfl rfl (fun k346 => ?_) (fun k346 => ?_)
      · replace k346 : ((A 97 ((s 8818)).toInt.toNat)).toInt ≤ (p).toInt := k346
        refine bp_ld (pc' := 50) bu_58_49 rfl rfl (fun _ _ _ => rfl) rfl rfl ?_
        refine bp_i0 (pc' := 53) (pt := 57) bu_58_50 rfl rfl (fun k347 => ?_) (fun k347 => ?_)
        · replace k347 : (b).toInt = 0 := k347
          refine bp_c (pc' := 58) (n := 0) bu_58_57 rfl rfl (fun _ _ _ => rfl) (by decide) (fun c348 e349 => ?_)
          refine bp_ri bu_58_58 ?_
          exact kk _ (Or.inr ⟨by omega, Or.inr ⟨by omega, fun q => by omega, fun q => by omega⟩⟩)
        · replace k347 : ¬ ((b).toInt = 0) := k347
          refine bp_c (pc' := 54) (n := 1) bu_58_53 rfl rfl (fun _ _ _ => rfl) (by decide) (fun c350 e351 => ?_)
          refine bp_go (pc' := 58) bu_58_54 rfl ?_
          refine bp_ri bu_58_58 ?_
          exact kk _ (Or.inr ⟨by omega, Or.inr ⟨by omega, fun q => by omega, fun q => by omega⟩⟩)
      · replace k346 : ¬ (((A 97 ((s 8818)).toInt.toNat)).toInt ≤ (p).toInt) := k346
        refine bp_c (pc' := 33) (n := 1) bu_58_32 rfl rfl (fun _ _ _ => rfl) (by decide) (fun c352 e353 => ?_)
        refine bp_ld (pc' := 34) bu_58_33 rfl rfl (fun _ _ _ => rfl) rfl rfl ?_
        refine bn_gr (pc' := 37) (t := 97) bu_58_34 rfl rfl (fun _ _ _ => rfl) hP mw_o88 mw_r88_22 ?_
        refine bp_ld (pc' := 38) bu_58_37 rfl rfl (fun _ _ _ => rfl) rfl rfl ?_
        refine bn_gi (pc' := 41) (K := 8818) bu_58_38 rfl rfl (fun _ _ _ => rfl) hP mw_o88 mw_i88_18 rfl rfl ?_
        refine bn_iaF (pc' := 42) bu_58_41 rfl rfl (fun _ _ _ => rfl) hP mw_a97 (Or.inl rfl) (fun b354 b355 => ?_)
        refine bp_ld (pc' := 43) bu_58_42 rfl rfl (fun _ _ _ => rfl) rfl rfl ?_
        refine bp_csF (pc' := 46) (st := []) (args := [.int b, .int (A 97 ((s 8818)).toInt.toNat), .int c352]) bu_58_43 rfl rfl (by decide) rfl (Nat.le_of_ble_eq_true rfl) (Nat.le_of_ble_eq_true rfl) ?_
        refine kd_59 (u := c352) (l := (A 97 ((s 8818)).toInt.toNat)) (b := b) (by omega) (by omega) (fun r356 d357 e358 e359 e360 => ?_)
        show bp_G E PO NN ((58, 46, _, [.int r356], 0, 0) :: gs, h, none)
        refine bp_go (pc' := 58) bu_58_46 rfl ?_
        refine bp_ri bu_58_58 ?_
        have u1 : c352 = 1 := Int32.toInt_inj.mp (by show _ = (1 : Int); omega)
        rw [u1] at e358 e360
        exact kk _ (Or.inr ⟨by omega, Or.inl ⟨by omega, d357, e358, e359, e360⟩⟩)
    · replace k343 : ¬ ((r341).toInt ≠ 0) := k343
      refine bp_c (pc' := 18) (n := -1) bu_58_17 rfl rfl (fun _ _ _ => rfl) (by decide) (fun c361 e362 => ?_)
      refine bp_ri bu_58_18 ?_
      exact kk _ (Or.inl ⟨by omega, by omega⟩)
set_option maxHeartbeats 4000000 in
theorem kd_149 (hP : bm_P cw_T E h0 h s A L) (kk : ∀ (h' : mm_H) (s' : Nat → Int32), bm_P cw_T E h0 h' s' A L → (s' 8403).toInt = 0 → (∀ j, j ≠ 8403 → s' j = s j) → bp_G E PO NN (mm_back none gs h')) : bp_G E PO NN ((149, 0, [(0, .ref (E.1 + 84))], [], 0, 0) :: gs, h, none) := by
  refine bp_ld (pc' := 1) bu_149_0 rfl rfl (fun _ _ _ => rfl) rfl rfl ?_
  refine bp_c (pc' := 2) (n := 0) bu_149_1 rfl rfl (fun _ _ _ => rfl) (by decide) (fun c363 e364 => ?_)
  refine bn_pf (pc' := 5) (K := 8403) bu_149_2 rfl rfl (fun _ _ _ => rfl) hP cw_o84 cw_i84_3 rfl rfl (fun h365 s366 hP367 e368 f369 => ?_)
  refine bp_rv bu_149_5 ?_
  exact kk _ _ hP367 (by rw [e368]; omega) f369
set_option maxHeartbeats 4000000 in
theorem kd_148 (hP : bm_P cw_T E h0 h s A L) (kk : ∀ (h' : mm_H) (s' : Nat → Int32), bm_P cw_T E h0 h' s' A L → (s' 8404).toInt = 0 → (∀ j, j ≠ 8404 → s' j = s j) → bp_G E PO NN (mm_back none gs h')) : bp_G E PO NN ((148, 0, [(0, .ref (E.1 + 84))], [], 0, 0) :: gs, h, none) := by
  refine bp_ld (pc' := 1) bu_148_0 rfl rfl (fun _ _ _ => rfl) rfl rfl ?_
  refine bp_c (pc' := 2) (n := 0) bu_148_1 rfl rfl (fun _ _ _ => rfl) (by decide) (fun c370 e371 => ?_)
  refine bn_pf (pc' := 5) (K := 8404) bu_148_2 rfl rfl (fun _ _ _ => rfl) hP cw_o84 cw_i84_4 rfl rfl (fun h372 s373 hP374 e375 f376 => ?_)
  refine bp_rv bu_148_5 ?_
  exact kk _ _ hP374 (by rw [e375]; omega) f376
set_option maxHeartbeats 4000000 in
theorem kd_232 (hP : bm_P cw_T E h0 h s A L) (kk : ∀ (h' : mm_H) (s' : Nat → Int32) (r : Int32), bm_P cw_T E h0 h' s' A L → (s' 8403).toInt = 0 → bp_G E PO NN (mm_back (some (.int r)) gs h')) : bp_G E PO NN ((232, 0, [(0, .ref (E.1 + 0))], [], 0, 0) :: gs, h, none) := by
  refine bp_ld (pc' := 1) bu_232_0 rfl rfl (fun _ _ _ => rfl) rfl rfl ?_
  refine bn_gr (pc' := 4) (t := 84) bu_232_1 rfl rfl (fun _ _ _ => rfl) hP cw_o0 cw_r0_10 ?_
  refine bn_gi (pc' := 7) (K := 8403) bu_232_4 rfl rfl (fun _ _ _ => rfl) hP cw_o84 cw_i84_3 rfl rfl ?_
  refine bp_ld (pc' := 8) bu_232_7 rfl rfl (fun _ _ _ => rfl) rfl rfl ?_
  refine bn_gr (pc' := 11) (t := 84) bu_232_8 rfl rfl (fun _ _ _ => rfl) hP cw_o0 cw_r0_10 ?_
  refine bn_gi (pc' := 14) (K := 8404) bu_232_11 rfl rfl (fun _ _ _ => rfl) hP cw_o84 cw_i84_4 rfl rfl ?_
  refine bp_addA (pc' := 15) bu_232_14 rfl (fun v377 => ?_)
  refine bp_st (pc' := 16) bu_232_15 rfl rfl (fun _ _ _ => rfl) rfl (by decide) (by decide) (fun lv378 F379 g380 => ?_)
  have g381 := F379 0 (.ref (E.1 + 0)) rfl (by decide) (Or.inl rfl)
  refine bp_ld (pc' := 17) bu_232_16 rfl rfl (fun _ _ _ => rfl) g381 rfl ?_
  refine bn_gr (pc' := 20) (t := 84) bu_232_17 rfl rfl (fun _ _ _ => rfl) hP cw_o0 cw_r0_10 ?_
  refine bn_cvF (pc' := 23) (st := []) (args := []) bu_232_20 rfl rfl rfl (by decide) hP cw_o84 (by decide) rfl (Nat.le_of_ble_eq_true rfl) (Nat.le_of_ble_eq_true rfl) ?_
  refine kd_149 hP (fun h382 s383 hP384 e385 f386 => ?_)
  show bp_G E PO NN ((232, 23, lv378, [], 0, 0) :: gs, h382, none)
  refine bp_ld (pc' := 24) bu_232_23 rfl rfl (fun _ _ _ => rfl) g381 rfl ?_
  refine bn_gr (pc' := 27) (t := 84) bu_232_24 rfl rfl (fun _ _ _ => rfl) hP384 cw_o0 cw_r0_10 ?_
  refine bn_cvF (pc' := 30) (st := []) (args := []) bu_232_27 rfl rfl rfl (by decide) hP384 cw_o84 (by decide) rfl (Nat.le_of_ble_eq_true rfl) (Nat.le_of_ble_eq_true rfl) ?_
  refine kd_148 hP384 (fun h387 s388 hP389 e390 f391 => ?_)
  show bp_G E PO NN ((232, 30, lv378, [], 0, 0) :: gs, h387, none)
  refine bp_ld (pc' := 31) bu_232_30 rfl rfl (fun _ _ _ => rfl) g380 rfl ?_
  refine bp_ri bu_232_31 ?_
  exact kk _ _ _ hP389 (by rw [f391 8403 (by decide)]; exact e385)
set_option maxHeartbeats 4000000 in
theorem kd_35 (hP : bm_P mw_T E h0 h s A L) (kk : ∀ (h' : mm_H) (s' : Nat → Int32) (r : Int32), bm_P mw_T E h0 h' s' A L → (s' 8865).toInt = 0 → bp_G E PO NN (mm_back (some (.int r)) gs h')) : bp_G E PO NN ((35, 0, [(0, .ref (E.1 + 88))], [], 0, 0) :: gs, h, none) := by
  refine bp_ld (pc' := 1) bu_35_0 rfl rfl (fun _ _ _ => rfl) rfl rfl ?_
  refine bn_gi (pc' := 4) (K := 8865) bu_35_1 rfl rfl (fun _ _ _ => rfl) hP mw_o88 mw_i88_65 rfl rfl ?_
  refine bp_ld (pc' := 5) bu_35_4 rfl rfl (fun _ _ _ => rfl) rfl rfl ?_
  refine bn_gi (pc' := 8) (K := 8867) bu_35_5 rfl rfl (fun _ _ _ => rfl) hP mw_o88 mw_i88_67 rfl rfl ?_
  refine bp_addA (pc' := 9) bu_35_8 rfl (fun v392 => ?_)
  refine bp_st (pc' := 10) bu_35_9 rfl rfl (fun _ _ _ => rfl) rfl (by decide) (by decide) (fun lv393 F394 g395 => ?_)
  have g396 := F394 0 (.ref (E.1 + 88)) rfl (by decide) (Or.inl rfl)
  refine bp_ld (pc' := 11) bu_35_10 rfl rfl (fun _ _ _ => rfl) g396 rfl ?_
  refine bp_c (pc' := 12) (n := 0) bu_35_11 rfl rfl (fun _ _ _ => rfl) (by decide) (fun c397 e398 => ?_)
  refine bn_pf (pc' := 15) (K := 8865) bu_35_12 rfl rfl (fun _ _ _ => rfl) hP mw_o88 mw_i88_65 rfl rfl (fun h399 s400 hP401 e402 f403 => ?_)
  refine bp_ld (pc' := 16) bu_35_15 rfl rfl (fun _ _ _ => rfl) g396 rfl ?_
  refine bp_c (pc' := 17) (n := 0) bu_35_16 rfl rfl (fun _ _ _ => rfl) (by decide) (fun c404 e405 => ?_)
  refine bn_pf (pc' := 20) (K := 8867) bu_35_17 rfl rfl (fun _ _ _ => rfl) hP401 mw_o88 mw_i88_67 rfl rfl (fun h406 s407 hP408 e409 f410 => ?_)
  refine bp_ld (pc' := 21) bu_35_20 rfl rfl (fun _ _ _ => rfl) g395 rfl ?_
  refine bp_ri bu_35_21 ?_
  exact kk _ _ _ hP408 (by rw [((f410 8865 (by decide)).trans e402)]; omega)
set_option maxHeartbeats 4000000 in
theorem kd_264l {p : Int32} {R : Int} (hP : bm_P cw_T E h0 h s A L) (hm : 0 ≤ (s 204).toInt ∧ (s 204).toInt ≤ 6) : ∀ NN : Nat, (∀ r : Int32, r.toInt = R → bp_G E PO NN (mm_back (some (.int r)) gs h)) → (∀ (lv : mm_V) (o : Option Value) (k : Int32), mm_get lv 0 = some (.ref (E.1 + 0)) → mm_get lv 1 = some (.int p) → mm_get lv 2 = some (.int k) → (0 ≤ k.toInt ∧ k.toInt ≤ 11) → (kg_su (s 204) ((s 204) - 1) p (11 - k.toInt.toNat) k.toInt.toNat = R) → bp_G E PO NN ((264, 24, lv, [], 0, 0) :: gs, h, o)) := by
  intro NN
  induction NN with
  | zero => intro kk lv o k g0 g1 g2 i1 i2; exact bp_zero bu_264_24
  | succ NN ih =>
    intro kk lv o k g0 g1 g2 i1 i2
    refine bp_ld (pc' := 25) bu_264_24 rfl rfl (fun _ _ _ => rfl) g2 rfl ?_
    refine bp_c (pc' := 27) (n := 10) bu_264_25 rfl rfl (fun _ _ _ => rfl) (by decide) (fun c411 e412 => ?_)
    refine bp_ic (pc' := 30) (pt := 83) bu_264_27 rfl rfl (fun k413 => ?_) (fun k413 => ?_)
    · replace k413 : (c411).toInt < (k).toInt := k413
      refine bp_c (pc' := 85) (n := -2) bu_264_83 rfl rfl (fun _ _ _ => rfl) (by decide) (fun c414 e415 => ?_)
      refine bp_ri bu_264_85 ?_
      rw [show 11 - k.toInt.toNat = 0 by omega] at i2
      have i2 : (-2 : Int) = R := i2
      exact kk _ (by omega)
    · replace k413 : ¬ ((c411).toInt < (k).toInt) := k413
      refine bp_ld (pc' := 31) bu_264_30 rfl rfl (fun _ _ _ => rfl) g0 rfl ?_
      refine bn_gr (pc' := 34) (t := 2) bu_264_31 rfl rfl (fun _ _ _ => rfl) hP cw_o0 cw_r0_3 ?_
      refine bn_gi (pc' := 37) (K := 204) bu_264_34 rfl rfl (fun _ _ _ => rfl) hP cw_o2 cw_i2_4 rfl rfl ?_
      refine bp_ld (pc' := 38) bu_264_37 rfl rfl (fun _ _ _ => rfl) g2 rfl ?_
      refine bp_csF (pc' := 41) (st := []) (args := [.int k, .int (s 204)]) bu_264_38 rfl rfl (by decide) rfl (Nat.le_of_ble_eq_true rfl) (Nat.le_of_ble_eq_true rfl) ?_
      refine kd_252 (b := (s 204)) (n := k) (by omega) (fun v416 e417 => ?_)
      show bp_G E PO (NN + 1) ((264, 41, lv, [.int v416], 0, 0) :: gs, h, none)
      refine bn_i2l (pc' := 42) bu_264_41 rfl (fun x418 e419 => ?_)
      refine bp_stL (pc' := 43) bu_264_42 rfl rfl (fun _ _ _ => rfl) (by decide) (fun lv420 F421 g422 => ?_)
      have g423 := F421 0 (.ref (E.1 + 0)) g0 (by decide) (by decide) (Or.inl rfl)
      have g424 := F421 1 (.int p) g1 (by decide) (by decide) (Or.inl rfl)
      have g425 := F421 2 (.int k) g2 (by decide) (by decide) (Or.inl rfl)
      refine bp_ld (pc' := 44) bu_264_43 rfl rfl (fun _ _ _ => rfl) g422 rfl ?_
      refine bp_ld (pc' := 45) bu_264_44 rfl rfl (fun _ _ _ => rfl) g423 rfl ?_
      refine bn_gr (pc' := 48) (t := 2) bu_264_45 rfl rfl (fun _ _ _ => rfl) hP cw_o0 cw_r0_3 ?_
      refine bn_gi (pc' := 51) (K := 204) bu_264_48 rfl rfl (fun _ _ _ => rfl) hP cw_o2 cw_i2_4 rfl rfl ?_
      refine bp_c (pc' := 52) (n := 1) bu_264_51 rfl rfl (fun _ _ _ => rfl) (by decide) (fun c426 e427 => ?_)
      refine bp_x (pc' := 53) (v := (s 204) - c426) bu_264_52 rfl rfl (fun _ _ _ => rfl) rfl ?_
      refine bp_ld (pc' := 54) bu_264_53 rfl rfl (fun _ _ _ => rfl) g425 rfl ?_
      refine bp_csF (pc' := 57) (st := [.long x418]) (args := [.int k, .int ((s 204) - c426)]) bu_264_54 rfl rfl (by decide) rfl (Nat.le_of_ble_eq_true rfl) (Nat.le_of_ble_eq_true rfl) ?_
      refine kd_252 (b := ((s 204) - c426)) (n := k) (by omega) (fun v428 e429 => ?_)
      rw [show c426 = (1 : Int32) from Int32.toInt_inj.mp (by show _ = (1 : Int); omega)] at e429
      show bp_G E PO (NN + 1) ((264, 57, lv420, [.int v428, .long x418], 0, 0) :: gs, h, none)
      refine bn_i2l (pc' := 58) bu_264_57 rfl (fun x430 e431 => ?_)
      refine bn_ladd (pc' := 59) bu_264_58 rfl (fun x432 e433 => ?_)
      refine bp_stL (pc' := 61) bu_264_59 rfl rfl (fun _ _ _ => rfl) (by decide) (fun lv434 F435 g436 => ?_)
      have g437 := F435 0 (.ref (E.1 + 0)) g423 (by decide) (by decide) (Or.inl rfl)
      have g438 := F435 1 (.int p) g424 (by decide) (by decide) (Or.inl rfl)
      have g439 := F435 2 (.int k) g425 (by decide) (by decide) (Or.inl rfl)
      have g440 := F435 3 (.long x418) g422 (by decide) (by decide) (Or.inr (by decide))
      refine bn_cL (pc' := 64) (n := 100) bu_264_61 rfl rfl (fun _ _ _ => rfl) (by decide) (fun x441 e442 => ?_)
      refine bp_ld (pc' := 65) bu_264_64 rfl rfl (fun _ _ _ => rfl) g440 rfl ?_
      refine bn_lmul (pc' := 66) bu_264_65 rfl (fun x443 e444 => ?_)
      refine bp_ld (pc' := 67) bu_264_66 rfl rfl (fun _ _ _ => rfl) g438 rfl ?_
      refine bn_i2l (pc' := 68) bu_264_67 rfl (fun x445 e446 => ?_)
      refine bp_ld (pc' := 70) bu_264_68 rfl rfl (fun _ _ _ => rfl) g436 rfl ?_
      refine bn_lmul (pc' := 71) bu_264_70 rfl (fun x447 e448 => ?_)
      refine bn_lcmp (pc' := 72) bu_264_71 rfl (fun v449 e450 => ?_)
      refine bp_i0 (pc' := 75) (pt := 77) bu_264_72 rfl rfl (fun k451 => ?_) (fun k451 => ?_)
      · replace k451 : (v449).toInt < 0 := k451
        refine bp_inc (pc' := 80) bu_264_77 rfl (by decide) g439 (by decide) (by omega) (by omega) (fun lv452 y455 F453 g454 e456 => ?_)
        have g457 := F453 0 (.ref (E.1 + 0)) g437 (by decide) (Or.inl rfl)
        have g458 := F453 1 (.int p) g438 (by decide) (Or.inl rfl)
        have g459 := F453 3 (.long x418) g440 (by decide) (Or.inr (by decide))
        have g460 := F453 5 (.long x432) g436 (by decide) (Or.inr (by decide))
        refine bp_goD (pc' := 24) bu_264_80 rfl ?_
        have hc9 := kg_cI (m := (s 204)) (q := (s 204) - 1) (p := p) (k := k.toInt.toNat) e417 e429 e419 e431 e433 e442 (Or.inl e444) e446 (Or.inl e448)
        rw [decide_eq_false (by omega)] at hc9
        rw [show 11 - k.toInt.toNat = (10 - k.toInt.toNat) + 1 by omega] at i2
        unfold kg_su at i2
        rw [hc9, if_neg Bool.false_ne_true] at i2
        have ek : (y455).toInt.toNat = k.toInt.toNat + 1 := by omega
        rw [show 10 - k.toInt.toNat = 11 - (y455).toInt.toNat by omega, ← ek] at i2
        exact ih (fun r q => bp_mono (Nat.le_succ NN) (kk r q)) _ _ (y455) g457 g458 g454 (by omega) i2
      · replace k451 : ¬ ((v449).toInt < 0) := k451
        refine bp_ld (pc' := 76) bu_264_75 rfl rfl (fun _ _ _ => rfl) g439 rfl ?_
        refine bp_ri bu_264_76 ?_
        have hc9 := kg_cI (m := (s 204)) (q := (s 204) - 1) (p := p) (k := k.toInt.toNat) e417 e429 e419 e431 e433 e442 (Or.inl e444) e446 (Or.inl e448)
        rw [decide_eq_true (by omega)] at hc9
        rw [show 11 - k.toInt.toNat = (10 - k.toInt.toNat) + 1 by omega] at i2
        unfold kg_su at i2
        rw [hc9, if_pos rfl] at i2
        exact kk _ (by omega)
set_option maxHeartbeats 4000000 in
theorem kd_264 {p : Int32} (hP : bm_P cw_T E h0 h s A L) (hm : 0 ≤ (s 204).toInt ∧ (s 204).toInt ≤ 6) (kk : ∀ r : Int32, kd_Psu (s 204) p r → bp_G E PO NN (mm_back (some (.int r)) gs h)) : bp_G E PO NN ((264, 0, [(0, .ref (E.1 + 0)), (1, .int p)], [], 0, 0) :: gs, h, none) := by
  refine bp_ld (pc' := 1) bu_264_0 rfl rfl (fun _ _ _ => rfl) rfl rfl ?_
  refine bp_i0 (pc' := 4) (pt := 20) bu_264_1 rfl rfl (fun k461 => ?_) (fun k461 => ?_)
  · replace k461 : (p).toInt < 0 := k461
    refine bp_c (pc' := 21) (n := -1) bu_264_20 rfl rfl (fun _ _ _ => rfl) (by decide) (fun c462 e463 => ?_)
    refine bp_ri bu_264_21 ?_
    exact kk _ (Or.inl ⟨by omega, by omega⟩)
  · replace k461 : ¬ ((p).toInt < 0) := k461
    refine bp_ld (pc' := 5) bu_264_4 rfl rfl (fun _ _ _ => rfl) rfl rfl ?_
    refine bp_c (pc' := 7) (n := 100) bu_264_5 rfl rfl (fun _ _ _ => rfl) (by decide) (fun c464 e465 => ?_)
    refine bp_ic (pc' := 10) (pt := 20) bu_264_7 rfl rfl (fun k466 => ?_) (fun k466 => ?_)
    · replace k466 : (c464).toInt < (p).toInt := k466
      refine bp_c (pc' := 21) (n := -1) bu_264_20 rfl rfl (fun _ _ _ => rfl) (by decide) (fun c467 e468 => ?_)
      refine bp_ri bu_264_21 ?_
      exact kk _ (Or.inl ⟨by omega, by omega⟩)
    · replace k466 : ¬ ((c464).toInt < (p).toInt) := k466
      refine bp_ld (pc' := 11) bu_264_10 rfl rfl (fun _ _ _ => rfl) rfl rfl ?_
      refine bn_gr (pc' := 14) (t := 2) bu_264_11 rfl rfl (fun _ _ _ => rfl) hP cw_o0 cw_r0_3 ?_
      refine bn_gi (pc' := 17) (K := 204) bu_264_14 rfl rfl (fun _ _ _ => rfl) hP cw_o2 cw_i2_4 rfl rfl ?_
      refine bp_i0 (pc' := 20) (pt := 22) bu_264_17 rfl rfl (fun k469 => ?_) (fun k469 => ?_)
      · replace k469 : ((s 204)).toInt ≠ 0 := k469
        refine bp_c (pc' := 23) (n := 0) bu_264_22 rfl rfl (fun _ _ _ => rfl) (by decide) (fun c470 e471 => ?_)
        refine bp_st (pc' := 24) bu_264_23 rfl rfl (fun _ _ _ => rfl) rfl (by decide) (by decide) (fun lv472 F473 g474 => ?_)
        have g475 := F473 0 (.ref (E.1 + 0)) rfl (by decide) (Or.inl rfl)
        have g476 := F473 1 (.int p) rfl (by decide) (Or.inl rfl)
        have e0 : (c470).toInt.toNat = 0 := by omega
        exact kd_264l hP hm NN (fun r q => kk r (Or.inr ⟨by omega, q⟩)) _ _ _ g475 g476 g474 (by omega) (by rw [e0])
      · replace k469 : ¬ (((s 204)).toInt ≠ 0) := k469
        refine bp_c (pc' := 21) (n := -1) bu_264_20 rfl rfl (fun _ _ _ => rfl) (by decide) (fun c477 e478 => ?_)
        refine bp_ri bu_264_21 ?_
        exact kk _ (Or.inl ⟨by omega, by omega⟩)
set_option maxHeartbeats 4000000 in
theorem kd_95l {p : Int32} {R : Int} (hP : bm_P mw_T E h0 h s A L) (hm : 0 ≤ (A 97 (s 8818).toInt.toNat).toInt ∧ (A 97 (s 8818).toInt.toNat).toInt ≤ 6) : ∀ NN : Nat, (∀ r : Int32, r.toInt = R → bp_G E PO NN (mm_back (some (.int r)) gs h)) → (∀ (lv : mm_V) (o : Option Value) (k : Int32), mm_get lv 0 = some (.ref (E.1 + 88)) → mm_get lv 1 = some (.int p) → mm_get lv 2 = some (.int k) → (0 ≤ k.toInt ∧ k.toInt ≤ 11) → (kg_su (A 97 (s 8818).toInt.toNat) ((A 97 (s 8818).toInt.toNat) - 1) p (11 - k.toInt.toNat) k.toInt.toNat = R) → bp_G E PO NN ((95, 26, lv, [], 0, 0) :: gs, h, o)) := by
  intro NN
  induction NN with
  | zero => intro kk lv o k g0 g1 g2 i1 i2; exact bp_zero bu_95_26
  | succ NN ih =>
    intro kk lv o k g0 g1 g2 i1 i2
    refine bp_ld (pc' := 27) bu_95_26 rfl rfl (fun _ _ _ => rfl) g2 rfl ?_
    refine bp_c (pc' := 29) (n := 10) bu_95_27 rfl rfl (fun _ _ _ => rfl) (by decide) (fun c479 e480 => ?_)
    refine bp_ic (pc' := 32) (pt := 89) bu_95_29 rfl rfl (fun k481 => ?_) (fun k481 => ?_)
    · replace k481 : (c479).toInt < (k).toInt := k481
      refine bp_c (pc' := 91) (n := -2) bu_95_89 rfl rfl (fun _ _ _ => rfl) (by decide) (fun c482 e483 => ?_)
      refine bp_ri bu_95_91 ?_
      rw [show 11 - k.toInt.toNat = 0 by omega] at i2
      have i2 : (-2 : Int) = R := i2
      exact kk _ (by omega)
    · replace k481 : ¬ ((c479).toInt < (k).toInt) := k481
      refine bp_ld (pc' := 33) bu_95_32 rfl rfl (fun _ _ _ => rfl) g0 rfl ?_
      refine bn_gr (pc' := 36) (t := 97) bu_95_33 rfl rfl (fun _ _ _ => rfl) hP mw_o88 mw_r88_22 ?_
      refine bp_ld (pc' := 37) bu_95_36 rfl rfl (fun _ _ _ => rfl) g0 rfl ?_
      refine bn_gi (pc' := 40) (K := 8818) bu_95_37 rfl rfl (fun _ _ _ => rfl) hP mw_o88 mw_i88_18 rfl rfl ?_
      refine bn_iaF (pc' := 41) bu_95_40 rfl rfl (fun _ _ _ => rfl) hP mw_a97 (Or.inl rfl) (fun b484 b485 => ?_)
      refine bp_ld (pc' := 42) bu_95_41 rfl rfl (fun _ _ _ => rfl) g2 rfl ?_
      refine bp_csF (pc' := 45) (st := []) (args := [.int k, .int (A 97 ((s 8818)).toInt.toNat)]) bu_95_42 rfl rfl (by decide) rfl (Nat.le_of_ble_eq_true rfl) (Nat.le_of_ble_eq_true rfl) ?_
      refine kd_75 (b := (A 97 ((s 8818)).toInt.toNat)) (n := k) (by omega) (fun v486 e487 => ?_)
      show bp_G E PO (NN + 1) ((95, 45, lv, [.int v486], 0, 0) :: gs, h, none)
      refine bn_i2l (pc' := 46) bu_95_45 rfl (fun x488 e489 => ?_)
      refine bp_stL (pc' := 47) bu_95_46 rfl rfl (fun _ _ _ => rfl) (by decide) (fun lv490 F491 g492 => ?_)
      have g493 := F491 0 (.ref (E.1 + 88)) g0 (by decide) (by decide) (Or.inl rfl)
      have g494 := F491 1 (.int p) g1 (by decide) (by decide) (Or.inl rfl)
      have g495 := F491 2 (.int k) g2 (by decide) (by decide) (Or.inl rfl)
      refine bp_ld (pc' := 48) bu_95_47 rfl rfl (fun _ _ _ => rfl) g492 rfl ?_
      refine bp_ld (pc' := 49) bu_95_48 rfl rfl (fun _ _ _ => rfl) g493 rfl ?_
      refine bn_gr (pc' := 52) (t := 97) bu_95_49 rfl rfl (fun _ _ _ => rfl) hP mw_o88 mw_r88_22 ?_
      refine bp_ld (pc' := 53) bu_95_52 rfl rfl (fun _ _ _ => rfl) g493 rfl ?_
      refine bn_gi (pc' := 56) (K := 8818) bu_95_53 rfl rfl (fun _ _ _ => rfl) hP mw_o88 mw_i88_18 rfl rfl ?_
      refine bn_iaF (pc' := 57) bu_95_56 rfl rfl (fun _ _ _ => rfl) hP mw_a97 (Or.inl rfl) (fun b496 b497 => ?_)
      refine bp_c (pc' := 58) (n := 1) bu_95_57 rfl rfl (fun _ _ _ => rfl) (by decide) (fun c498 e499 => ?_)
      refine bp_x (pc' := 59) (v := (A 97 ((s 8818)).toInt.toNat) - c498) bu_95_58 rfl rfl (fun _ _ _ => rfl) rfl ?_
      refine bp_ld (pc' := 60) bu_95_59 rfl rfl (fun _ _ _ => rfl) g495 rfl ?_
      refine bp_csF (pc' := 63) (st := [.long x488]) (args := [.int k, .int ((A 97 ((s 8818)).toInt.toNat) - c498)]) bu_95_60 rfl rfl (by decide) rfl (Nat.le_of_ble_eq_true rfl) (Nat.le_of_ble_eq_true rfl) ?_
      refine kd_75 (b := ((A 97 ((s 8818)).toInt.toNat) - c498)) (n := k) (by omega) (fun v500 e501 => ?_)
      rw [show c498 = (1 : Int32) from Int32.toInt_inj.mp (by show _ = (1 : Int); omega)] at e501
      show bp_G E PO (NN + 1) ((95, 63, lv490, [.int v500, .long x488], 0, 0) :: gs, h, none)
      refine bn_i2l (pc' := 64) bu_95_63 rfl (fun x502 e503 => ?_)
      refine bn_ladd (pc' := 65) bu_95_64 rfl (fun x504 e505 => ?_)
      refine bp_stL (pc' := 67) bu_95_65 rfl rfl (fun _ _ _ => rfl) (by decide) (fun lv506 F507 g508 => ?_)
      have g509 := F507 0 (.ref (E.1 + 88)) g493 (by decide) (by decide) (Or.inl rfl)
      have g510 := F507 1 (.int p) g494 (by decide) (by decide) (Or.inl rfl)
      have g511 := F507 2 (.int k) g495 (by decide) (by decide) (Or.inl rfl)
      have g512 := F507 3 (.long x488) g492 (by decide) (by decide) (Or.inr (by decide))
      refine bp_ld (pc' := 68) bu_95_67 rfl rfl (fun _ _ _ => rfl) g512 rfl ?_
      refine bn_cL (pc' := 71) (n := 100) bu_95_68 rfl rfl (fun _ _ _ => rfl) (by decide) (fun x513 e514 => ?_)
      refine bn_lmul (pc' := 72) bu_95_71 rfl (fun x515 e516 => ?_)
      refine bp_ld (pc' := 74) bu_95_72 rfl rfl (fun _ _ _ => rfl) g508 rfl ?_
      refine bp_ld (pc' := 75) bu_95_74 rfl rfl (fun _ _ _ => rfl) g510 rfl ?_
      refine bn_i2l (pc' := 76) bu_95_75 rfl (fun x517 e518 => ?_)
      refine bn_lmul (pc' := 77) bu_95_76 rfl (fun x519 e520 => ?_)
      refine bn_lcmp (pc' := 78) bu_95_77 rfl (fun v521 e522 => ?_)
      refine bp_i0 (pc' := 81) (pt := 83) bu_95_78 rfl rfl (fun k523 => ?_) (fun k523 => ?_)
      · replace k523 : (v521).toInt < 0 := k523
        refine bp_inc (pc' := 86) bu_95_83 rfl (by decide) g511 (by decide) (by omega) (by omega) (fun lv524 y527 F525 g526 e528 => ?_)
        have g529 := F525 0 (.ref (E.1 + 88)) g509 (by decide) (Or.inl rfl)
        have g530 := F525 1 (.int p) g510 (by decide) (Or.inl rfl)
        have g531 := F525 3 (.long x488) g512 (by decide) (Or.inr (by decide))
        have g532 := F525 5 (.long x504) g508 (by decide) (Or.inr (by decide))
        refine bp_goD (pc' := 26) bu_95_86 rfl ?_
        have hc9 := kg_cI (m := (A 97 (s 8818).toInt.toNat)) (q := (A 97 (s 8818).toInt.toNat) - 1) (p := p) (k := k.toInt.toNat) e487 e501 e489 e503 e505 e514 (Or.inr e516) e518 (Or.inr e520)
        rw [decide_eq_false (by omega)] at hc9
        rw [show 11 - k.toInt.toNat = (10 - k.toInt.toNat) + 1 by omega] at i2
        unfold kg_su at i2
        rw [hc9, if_neg Bool.false_ne_true] at i2
        have ek : (y527).toInt.toNat = k.toInt.toNat + 1 := by omega
        rw [show 10 - k.toInt.toNat = 11 - (y527).toInt.toNat by omega, ← ek] at i2
        exact ih (fun r q => bp_mono (Nat.le_succ NN) (kk r q)) _ _ (y527) g529 g530 g526 (by omega) i2
      · replace k523 : ¬ ((v521).toInt < 0) := k523
        refine bp_ld (pc' := 82) bu_95_81 rfl rfl (fun _ _ _ => rfl) g511 rfl ?_
        refine bp_ri bu_95_82 ?_
        have hc9 := kg_cI (m := (A 97 (s 8818).toInt.toNat)) (q := (A 97 (s 8818).toInt.toNat) - 1) (p := p) (k := k.toInt.toNat) e487 e501 e489 e503 e505 e514 (Or.inr e516) e518 (Or.inr e520)
        rw [decide_eq_true (by omega)] at hc9
        rw [show 11 - k.toInt.toNat = (10 - k.toInt.toNat) + 1 by omega] at i2
        unfold kg_su at i2
        rw [hc9, if_pos rfl] at i2
        exact kk _ (by omega)
set_option maxHeartbeats 4000000 in
theorem kd_95 {p : Int32} (hP : bm_P mw_T E h0 h s A L) (hm : 0 ≤ (A 97 (s 8818).toInt.toNat).toInt ∧ (A 97 (s 8818).toInt.toNat).toInt ≤ 6) (kk : ∀ r : Int32, kd_Psu (A 97 (s 8818).toInt.toNat) p r → bp_G E PO NN (mm_back (some (.int r)) gs h)) : bp_G E PO NN ((95, 0, [(0, .ref (E.1 + 88)), (1, .int p)], [], 0, 0) :: gs, h, none) := by
  refine bp_ld (pc' := 1) bu_95_0 rfl rfl (fun _ _ _ => rfl) rfl rfl ?_
  refine bp_c (pc' := 2) (n := 0) bu_95_1 rfl rfl (fun _ _ _ => rfl) (by decide) (fun c533 e534 => ?_)
  refine bp_c (pc' := 4) (n := 100) bu_95_2 rfl rfl (fun _ _ _ => rfl) (by decide) (fun c535 e536 => ?_)
  refine bp_csF (pc' := 7) (st := []) (args := [.int c535, .int c533, .int p]) bu_95_4 rfl rfl (by decide) rfl (Nat.le_of_ble_eq_true rfl) (Nat.le_of_ble_eq_true rfl) ?_
  refine kd_43 (x := p) (y := c533) (z := c535) (fun r537 e538 => ?_)
  show bp_G E PO NN ((95, 7, _, [.int r537], 0, 0) :: gs, h, none)
  refine bp_i0 (pc' := 10) (pt := 22) bu_95_7 rfl rfl (fun k539 => ?_) (fun k539 => ?_)
  · replace k539 : (r537).toInt = 0 := k539
    refine bp_c (pc' := 23) (n := -1) bu_95_22 rfl rfl (fun _ _ _ => rfl) (by decide) (fun c540 e541 => ?_)
    refine bp_ri bu_95_23 ?_
    exact kk _ (Or.inl ⟨by omega, by omega⟩)
  · replace k539 : ¬ ((r537).toInt = 0) := k539
    refine bp_ld (pc' := 11) bu_95_10 rfl rfl (fun _ _ _ => rfl) rfl rfl ?_
    refine bn_gr (pc' := 14) (t := 97) bu_95_11 rfl rfl (fun _ _ _ => rfl) hP mw_o88 mw_r88_22 ?_
    refine bp_ld (pc' := 15) bu_95_14 rfl rfl (fun _ _ _ => rfl) rfl rfl ?_
    refine bn_gi (pc' := 18) (K := 8818) bu_95_15 rfl rfl (fun _ _ _ => rfl) hP mw_o88 mw_i88_18 rfl rfl ?_
    refine bn_iaF (pc' := 19) bu_95_18 rfl rfl (fun _ _ _ => rfl) hP mw_a97 (Or.inl rfl) (fun b542 b543 => ?_)
    refine bp_i0 (pc' := 22) (pt := 24) bu_95_19 rfl rfl (fun k544 => ?_) (fun k544 => ?_)
    · replace k544 : ((A 97 ((s 8818)).toInt.toNat)).toInt ≠ 0 := k544
      refine bp_c (pc' := 25) (n := 0) bu_95_24 rfl rfl (fun _ _ _ => rfl) (by decide) (fun c545 e546 => ?_)
      refine bp_st (pc' := 26) bu_95_25 rfl rfl (fun _ _ _ => rfl) rfl (by decide) (by decide) (fun lv547 F548 g549 => ?_)
      have g550 := F548 0 (.ref (E.1 + 88)) rfl (by decide) (Or.inl rfl)
      have g551 := F548 1 (.int p) rfl (by decide) (Or.inl rfl)
      have e0 : (c545).toInt.toNat = 0 := by omega
      exact kd_95l hP hm NN (fun r q => kk r (Or.inr ⟨by omega, q⟩)) _ _ _ g550 g551 g549 (by omega) (by rw [e0])
    · replace k544 : ¬ (((A 97 ((s 8818)).toInt.toNat)).toInt ≠ 0) := k544
      refine bp_c (pc' := 23) (n := -1) bu_95_22 rfl rfl (fun _ _ _ => rfl) (by decide) (fun c552 e553 => ?_)
      refine bp_ri bu_95_23 ?_
      exact kk _ (Or.inl ⟨by omega, by omega⟩)
set_option maxHeartbeats 4000000 in
theorem kd_152l {a k : Int32} (hP : bm_P cw_T E h0 h s A L) (ht : k.toInt ≤ (s 8403).toInt) : ∀ NN : Nat, (∀ r : Int32, ((r.toInt = 1 ∧ ∃ j : Nat, (j : Int) < k.toInt ∧ A 85 j = a) ∨ (r.toInt = 0 ∧ ∀ j : Nat, (j : Int) < k.toInt → A 85 j ≠ a)) → bp_G E PO NN (mm_back (some (.int r)) gs h)) → (∀ (lv : mm_V) (o : Option Value) (i : Int32), mm_get lv 0 = some (.ref (E.1 + 84)) → mm_get lv 1 = some (.int a) → mm_get lv 2 = some (.int k) → mm_get lv 3 = some (.int i) → (0 ≤ i.toInt) → (∀ j : Nat, (j : Int) < i.toInt → A 85 j ≠ a) → bp_G E PO NN ((152, 2, lv, [], 0, 0) :: gs, h, o)) := by
  intro NN
  induction NN with
  | zero => intro kk lv o i g0 g1 g2 g3 i1 i2; exact bp_zero bu_152_2
  | succ NN ih =>
    intro kk lv o i g0 g1 g2 g3 i1 i2
    refine bp_ld (pc' := 3) bu_152_2 rfl rfl (fun _ _ _ => rfl) g3 rfl ?_
    refine bp_ld (pc' := 4) bu_152_3 rfl rfl (fun _ _ _ => rfl) g2 rfl ?_
    refine bp_ic (pc' := 7) (pt := 33) bu_152_4 rfl rfl (fun k554 => ?_) (fun k554 => ?_)
    · replace k554 : (k).toInt ≤ (i).toInt := k554
      refine bp_c (pc' := 34) (n := 0) bu_152_33 rfl rfl (fun _ _ _ => rfl) (by decide) (fun c555 e556 => ?_)
      refine bp_rbF bu_152_34 (fun rb557 => ?_)
      exact kk _ (Or.inr ⟨by omega, fun j hj => i2 j (by omega)⟩)
    · replace k554 : ¬ ((k).toInt ≤ (i).toInt) := k554
      refine bp_ld (pc' := 8) bu_152_7 rfl rfl (fun _ _ _ => rfl) g3 rfl ?_
      refine bp_ld (pc' := 9) bu_152_8 rfl rfl (fun _ _ _ => rfl) g0 rfl ?_
      refine bn_gi (pc' := 12) (K := 8403) bu_152_9 rfl rfl (fun _ _ _ => rfl) hP cw_o84 cw_i84_3 rfl rfl ?_
      refine bp_ic (pc' := 15) (pt := 33) bu_152_12 rfl rfl (fun k558 => ?_) (fun k558 => ?_)
      · replace k558 : ((s 8403)).toInt ≤ (i).toInt := k558
        refine bp_c (pc' := 34) (n := 0) bu_152_33 rfl rfl (fun _ _ _ => rfl) (by decide) (fun c559 e560 => ?_)
        refine bp_rbF bu_152_34 (fun rb561 => ?_)
        exact kk _ (Or.inr ⟨by omega, fun j hj => i2 j (by omega)⟩)
      · replace k558 : ¬ (((s 8403)).toInt ≤ (i).toInt) := k558
        refine bp_ld (pc' := 16) bu_152_15 rfl rfl (fun _ _ _ => rfl) g0 rfl ?_
        refine bn_gr (pc' := 19) (t := 85) bu_152_16 rfl rfl (fun _ _ _ => rfl) hP cw_o84 cw_r84_0 ?_
        refine bp_ld (pc' := 20) bu_152_19 rfl rfl (fun _ _ _ => rfl) g3 rfl ?_
        refine bn_iaF (pc' := 21) bu_152_20 rfl rfl (fun _ _ _ => rfl) hP cw_a85 (Or.inl rfl) (fun b562 b563 => ?_)
        refine bp_ld (pc' := 22) bu_152_21 rfl rfl (fun _ _ _ => rfl) g1 rfl ?_
        refine bp_ic (pc' := 25) (pt := 27) bu_152_22 rfl rfl (fun k564 => ?_) (fun k564 => ?_)
        · replace k564 : ((A 85 (i).toInt.toNat)).toInt ≠ (a).toInt := k564
          refine bp_inc (pc' := 30) bu_152_27 rfl (by decide) g3 (by decide) (by omega) (by omega) (fun lv565 y568 F566 g567 e569 => ?_)
          have g570 := F566 0 (.ref (E.1 + 84)) g0 (by decide) (Or.inl rfl)
          have g571 := F566 1 (.int a) g1 (by decide) (Or.inl rfl)
          have g572 := F566 2 (.int k) g2 (by decide) (Or.inl rfl)
          refine bp_goD (pc' := 2) bu_152_30 rfl ?_
          exact ih (fun r q => bp_mono (Nat.le_succ NN) (kk r q)) _ _ (y568) g570 g571 g572 g567 (by omega) (fun j hj => by
            by_cases ej : j = i.toInt.toNat
            · intro e9
              rw [ej] at e9
              rw [e9] at k564
              exact k564 rfl
            · exact i2 j (by omega))
        · replace k564 : ¬ (((A 85 (i).toInt.toNat)).toInt ≠ (a).toInt) := k564
          refine bp_c (pc' := 26) (n := 1) bu_152_25 rfl rfl (fun _ _ _ => rfl) (by decide) (fun c573 e574 => ?_)
          refine bp_rbF bu_152_26 (fun rb575 => ?_)
          exact kk _ (Or.inl ⟨by omega, i.toInt.toNat, by omega, Int32.toInt_inj.mp (by omega)⟩)
set_option maxHeartbeats 4000000 in
theorem kd_152 {a k : Int32} (hP : bm_P cw_T E h0 h s A L) (ht : k.toInt ≤ (s 8403).toInt) (kk : (∀ r : Int32, ((r.toInt = 1 ∧ ∃ j : Nat, (j : Int) < k.toInt ∧ A 85 j = a) ∨ (r.toInt = 0 ∧ ∀ j : Nat, (j : Int) < k.toInt → A 85 j ≠ a)) → bp_G E PO NN (mm_back (some (.int r)) gs h))) : bp_G E PO NN ((152, 0, [(0, .ref (E.1 + 84)), (1, .int a), (2, .int k)], [], 0, 0) :: gs, h, none) := by
  refine bp_c (pc' := 1) (n := 0) bu_152_0 rfl rfl (fun _ _ _ => rfl) (by decide) (fun c576 e577 => ?_)
  refine bp_st (pc' := 2) bu_152_1 rfl rfl (fun _ _ _ => rfl) rfl (by decide) (by decide) (fun lv578 F579 g580 => ?_)
  have g581 := F579 0 (.ref (E.1 + 84)) rfl (by decide) (Or.inl rfl)
  have g582 := F579 1 (.int a) rfl (by decide) (Or.inl rfl)
  have g583 := F579 2 (.int k) rfl (by decide) (Or.inl rfl)
  exact kd_152l hP ht NN kk _ _ _ g581 g582 g583 g580 (by omega) (fun j hj => absurd hj (by omega))
set_option maxHeartbeats 4000000 in
theorem kd_225 {a k b : Int32} (hP : bm_P cw_T E h0 h s A L) (hm : 0 ≤ (s 204).toInt ∧ (s 204).toInt ≤ 6) (ht : 0 ≤ (s 8403).toInt ∧ (s 8403).toInt ≤ 10) (kk : (∀ r : Int32, kd_Pch (s 204) (s 8403) (A 85) a k b r → bp_G E PO NN (mm_back (some (.int r)) gs h))) : bp_G E PO NN ((225, 0, [(0, .ref (E.1 + 0)), (1, .int a), (2, .int k), (3, .int b)], [], 0, 0) :: gs, h, none) := by
  refine bp_ld (pc' := 1) bu_225_0 rfl rfl (fun _ _ _ => rfl) rfl rfl ?_
  refine bn_gr (pc' := 4) (t := 2) bu_225_1 rfl rfl (fun _ _ _ => rfl) hP cw_o0 cw_r0_3 ?_
  refine bp_ld (pc' := 5) bu_225_4 rfl rfl (fun _ _ _ => rfl) rfl rfl ?_
  refine bn_cvF (pc' := 8) (st := []) (args := [.int a]) bu_225_5 rfl rfl rfl (by decide) hP cw_o2 (by decide) rfl (Nat.le_of_ble_eq_true rfl) (Nat.le_of_ble_eq_true rfl) ?_
  refine kd_203 (a := a) hP (fun r584 e585 => ?_)
  show bp_G E PO NN ((225, 8, _, [.int r584], 0, 0) :: gs, h, none)
  refine bp_i0 (pc' := 11) (pt := 26) bu_225_8 rfl rfl (fun k586 => ?_) (fun k586 => ?_)
  · replace k586 : (r584).toInt = 0 := k586
    refine bp_c (pc' := 27) (n := -1) bu_225_26 rfl rfl (fun _ _ _ => rfl) (by decide) (fun c587 e588 => ?_)
    refine bp_ri bu_225_27 ?_
    exact kk _ (Or.inl ⟨by omega, by omega⟩)
  · replace k586 : ¬ ((r584).toInt = 0) := k586
    refine bp_ld (pc' := 12) bu_225_11 rfl rfl (fun _ _ _ => rfl) rfl rfl ?_
    refine bp_i0 (pc' := 15) (pt := 26) bu_225_12 rfl rfl (fun k589 => ?_) (fun k589 => ?_)
    · replace k589 : (k).toInt < 0 := k589
      refine bp_c (pc' := 27) (n := -1) bu_225_26 rfl rfl (fun _ _ _ => rfl) (by decide) (fun c590 e591 => ?_)
      refine bp_ri bu_225_27 ?_
      exact kk _ (Or.inl ⟨by omega, by omega⟩)
    · replace k589 : ¬ ((k).toInt < 0) := k589
      refine bp_ld (pc' := 16) bu_225_15 rfl rfl (fun _ _ _ => rfl) rfl rfl ?_
      refine bp_ld (pc' := 17) bu_225_16 rfl rfl (fun _ _ _ => rfl) rfl rfl ?_
      refine bn_gr (pc' := 20) (t := 84) bu_225_17 rfl rfl (fun _ _ _ => rfl) hP cw_o0 cw_r0_10 ?_
      refine bn_gi (pc' := 23) (K := 8403) bu_225_20 rfl rfl (fun _ _ _ => rfl) hP cw_o84 cw_i84_3 rfl rfl ?_
      refine bp_ic (pc' := 26) (pt := 28) bu_225_23 rfl rfl (fun k592 => ?_) (fun k592 => ?_)
      · replace k592 : (k).toInt ≤ ((s 8403)).toInt := k592
        refine bp_ld (pc' := 29) bu_225_28 rfl rfl (fun _ _ _ => rfl) rfl rfl ?_
        refine bn_gr (pc' := 32) (t := 84) bu_225_29 rfl rfl (fun _ _ _ => rfl) hP cw_o0 cw_r0_10 ?_
        refine bp_ld (pc' := 33) bu_225_32 rfl rfl (fun _ _ _ => rfl) rfl rfl ?_
        refine bp_ld (pc' := 34) bu_225_33 rfl rfl (fun _ _ _ => rfl) rfl rfl ?_
        refine bn_cvF (pc' := 37) (st := []) (args := [.int k, .int a]) bu_225_34 rfl rfl rfl (by decide) hP cw_o84 (by decide) rfl (Nat.le_of_ble_eq_true rfl) (Nat.le_of_ble_eq_true rfl) ?_
        refine kd_152 (a := a) (k := k) hP (by omega) (fun r593 e594 => ?_)
        have w597 : r593.toInt = 1 ∨ r593.toInt = 0 := by
          rcases e594 with q | q
          · exact Or.inl q.1
          · exact Or.inr q.1
        have w595 : r593.toInt = 1 → kd_Ex k a (A 85) := fun z => by
          rcases e594 with q | q
          · exact q.2
          · exact absurd (q.1.symm.trans z) (by decide)
        have w596 : r593.toInt = 0 → kd_Al k a (A 85) := fun z => by
          rcases e594 with q | q
          · exact absurd (q.1.symm.trans z) (by decide)
          · exact q.2
        clear e594
        show bp_G E PO NN ((225, 37, _, [.int r593], 0, 0) :: gs, h, none)
        refine bp_i0 (pc' := 40) (pt := 50) bu_225_37 rfl rfl (fun k598 => ?_) (fun k598 => ?_)
        · replace k598 : (r593).toInt = 0 := k598
          refine bp_ld (pc' := 51) bu_225_50 rfl rfl (fun _ _ _ => rfl) rfl rfl ?_
          refine bn_gr (pc' := 54) (t := 2) bu_225_51 rfl rfl (fun _ _ _ => rfl) hP cw_o0 cw_r0_3 ?_
          refine bn_gi (pc' := 57) (K := 204) bu_225_54 rfl rfl (fun _ _ _ => rfl) hP cw_o2 cw_i2_4 rfl rfl ?_
          refine bp_ld (pc' := 58) bu_225_57 rfl rfl (fun _ _ _ => rfl) rfl rfl ?_
          refine bp_csF (pc' := 61) (st := []) (args := [.int k, .int (s 204)]) bu_225_58 rfl rfl (by decide) rfl (Nat.le_of_ble_eq_true rfl) (Nat.le_of_ble_eq_true rfl) ?_
          refine kd_252 (b := (s 204)) (n := k) (by omega) (fun v599 e600 => ?_)
          have z601 := kg_pw_s (b := (s 204)) (n := k.toInt.toNat) (by omega) (by omega) (by omega)
          rw [← e600] at z601
          show bp_G E PO NN ((225, 61, _, [.int v599], 0, 0) :: gs, h, none)
          refine bp_st (pc' := 63) bu_225_61 rfl rfl (fun _ _ _ => rfl) rfl (by decide) (by decide) (fun lv602 F603 g604 => ?_)
          have g605 := F603 0 (.ref (E.1 + 0)) rfl (by decide) (Or.inl rfl)
          have g606 := F603 1 (.int a) rfl (by decide) (Or.inl rfl)
          have g607 := F603 2 (.int k) rfl (by decide) (Or.inl rfl)
          have g608 := F603 3 (.int b) rfl (by decide) (Or.inl rfl)
          refine bp_ld (pc' := 65) bu_225_63 rfl rfl (fun _ _ _ => rfl) g604 rfl ?_
          refine bp_ld (pc' := 67) bu_225_65 rfl rfl (fun _ _ _ => rfl) g604 rfl ?_
          refine bp_ld (pc' := 68) bu_225_67 rfl rfl (fun _ _ _ => rfl) g605 rfl ?_
          refine bn_gr (pc' := 71) (t := 2) bu_225_68 rfl rfl (fun _ _ _ => rfl) hP cw_o0 cw_r0_3 ?_
          refine bn_gi (pc' := 74) (K := 204) bu_225_71 rfl rfl (fun _ _ _ => rfl) hP cw_o2 cw_i2_4 rfl rfl ?_
          refine bp_c (pc' := 75) (n := 1) bu_225_74 rfl rfl (fun _ _ _ => rfl) (by decide) (fun c609 e610 => ?_)
          refine bp_x (pc' := 76) (v := (s 204) - c609) bu_225_75 rfl rfl (fun _ _ _ => rfl) rfl ?_
          refine bp_ld (pc' := 77) bu_225_76 rfl rfl (fun _ _ _ => rfl) g607 rfl ?_
          refine bp_csF (pc' := 80) (st := [.int v599, .int v599]) (args := [.int k, .int ((s 204) - c609)]) bu_225_77 rfl rfl (by decide) rfl (Nat.le_of_ble_eq_true rfl) (Nat.le_of_ble_eq_true rfl) ?_
          refine kd_252 (b := ((s 204) - c609)) (n := k) (by omega) (fun v611 e612 => ?_)
          rw [show c609 = (1 : Int32) from Int32.toInt_inj.mp (by show _ = (1 : Int); omega)] at e612
          have m1 : ((s 204) - 1).toInt = (s 204).toInt - 1 := by
            rw [Int32.toInt_sub]
            exact Int.bmod_eq_of_le (by show _ ≤ _ - (1 : Int); omega) (by show _ - (1 : Int) < _; omega)
          have z613 := kg_pw_s (b := (s 204) - 1) (n := k.toInt.toNat) (by omega) (by omega) (by omega)
          rw [← e612] at z613
          show bp_G E PO NN ((225, 80, lv602, [.int v611, .int v599, .int v599], 0, 0) :: gs, h, none)
          refine bp_add (pc' := 81) bu_225_80 rfl (by omega) (by omega) (fun v614 e615 => ?_)
          refine bp_ld (pc' := 82) bu_225_81 rfl rfl (fun _ _ _ => rfl) g608 rfl ?_
          refine bp_csF (pc' := 85) (st := []) (args := [.int b, .int v614, .int v599]) bu_225_82 rfl rfl (by decide) rfl (Nat.le_of_ble_eq_true rfl) (Nat.le_of_ble_eq_true rfl) ?_
          refine kd_233 (u := v599) (l := v614) (b := b) (by omega) (by omega) (fun r616 d617 e618 e619 e620 => ?_)
          show bp_G E PO NN ((225, 85, lv602, [.int r616], 0, 0) :: gs, h, none)
          refine bp_ri bu_225_85 ?_
          refine kk _ (Or.inr ⟨by omega, Or.inr ⟨(w596 (by omega)), d617, v614, ?_, ?_, ?_, ?_⟩⟩)
          · rw [← e600, ← e612]; omega
          · rw [← e600]; exact e618
          · exact e619
          · rw [← e600]; exact e620
        · replace k598 : ¬ ((r593).toInt = 0) := k598
          refine bp_ld (pc' := 41) bu_225_40 rfl rfl (fun _ _ _ => rfl) rfl rfl ?_
          refine bp_i0 (pc' := 44) (pt := 48) bu_225_41 rfl rfl (fun k621 => ?_) (fun k621 => ?_)
          · replace k621 : (b).toInt = 0 := k621
            refine bp_c (pc' := 49) (n := 0) bu_225_48 rfl rfl (fun _ _ _ => rfl) (by decide) (fun c622 e623 => ?_)
            refine bp_ri bu_225_49 ?_
            exact kk _ (Or.inr ⟨by omega, Or.inl ⟨(w595 (by omega)), fun q => by omega, fun q => by omega⟩⟩)
          · replace k621 : ¬ ((b).toInt = 0) := k621
            refine bp_c (pc' := 45) (n := 1) bu_225_44 rfl rfl (fun _ _ _ => rfl) (by decide) (fun c624 e625 => ?_)
            refine bp_go (pc' := 49) bu_225_45 rfl ?_
            refine bp_ri bu_225_49 ?_
            exact kk _ (Or.inr ⟨by omega, Or.inl ⟨(w595 (by omega)), fun q => by omega, fun q => by omega⟩⟩)
      · replace k592 : ¬ ((k).toInt ≤ ((s 8403)).toInt) := k592
        refine bp_c (pc' := 27) (n := -1) bu_225_26 rfl rfl (fun _ _ _ => rfl) (by decide) (fun c626 e627 => ?_)
        refine bp_ri bu_225_27 ?_
        exact kk _ (Or.inl ⟨by omega, by omega⟩)
set_option maxHeartbeats 4000000 in
theorem kd_14l {a k b : Int32} (hP : bm_P mw_T E h0 h s A L) (hm : 0 ≤ (A 97 (s 8818).toInt.toNat).toInt ∧ (A 97 (s 8818).toInt.toNat).toInt ≤ 6) (ht : 0 ≤ (s 8865).toInt ∧ (s 8865).toInt ≤ 10) (hk : 0 ≤ a.toInt ∧ a.toInt < (A 97 (s 8818).toInt.toNat).toInt ∧ 0 ≤ k.toInt ∧ k.toInt ≤ (s 8865).toInt) : ∀ NN : Nat, (∀ r : Int32, kd_Pch (A 97 (s 8818).toInt.toNat) (s 8865) (A 127) a k b r → bp_G E PO NN (mm_back (some (.int r)) gs h)) → (∀ (lv : mm_V) (o : Option Value) (i : Int32), mm_get lv 0 = some (.ref (E.1 + 88)) → mm_get lv 1 = some (.int a) → mm_get lv 2 = some (.int k) → mm_get lv 3 = some (.int b) → mm_get lv 4 = some (.int i) → (0 ≤ i.toInt ∧ i.toInt ≤ k.toInt) → (∀ j : Nat, (j : Int) < i.toInt → A 127 j ≠ a) → bp_G E PO NN ((14, 25, lv, [], 0, 0) :: gs, h, o)) := by
  intro NN
  induction NN with
  | zero => intro kk lv o i g0 g1 g2 g3 g4 i1 i2; exact bp_zero bu_14_25
  | succ NN ih =>
    intro kk lv o i g0 g1 g2 g3 g4 i1 i2
    refine bp_ld (pc' := 27) bu_14_25 rfl rfl (fun _ _ _ => rfl) g4 rfl ?_
    refine bp_ld (pc' := 28) bu_14_27 rfl rfl (fun _ _ _ => rfl) g2 rfl ?_
    refine bp_ic (pc' := 31) (pt := 58) bu_14_28 rfl rfl (fun k628 => ?_) (fun k628 => ?_)
    · replace k628 : (k).toInt ≤ (i).toInt := k628
      refine bp_ld (pc' := 59) bu_14_58 rfl rfl (fun _ _ _ => rfl) g0 rfl ?_
      refine bn_gr (pc' := 62) (t := 97) bu_14_59 rfl rfl (fun _ _ _ => rfl) hP mw_o88 mw_r88_22 ?_
      refine bp_ld (pc' := 63) bu_14_62 rfl rfl (fun _ _ _ => rfl) g0 rfl ?_
      refine bn_gi (pc' := 66) (K := 8818) bu_14_63 rfl rfl (fun _ _ _ => rfl) hP mw_o88 mw_i88_18 rfl rfl ?_
      refine bn_iaF (pc' := 67) bu_14_66 rfl rfl (fun _ _ _ => rfl) hP mw_a97 (Or.inl rfl) (fun b629 b630 => ?_)
      refine bp_ld (pc' := 68) bu_14_67 rfl rfl (fun _ _ _ => rfl) g2 rfl ?_
      refine bp_csF (pc' := 71) (st := []) (args := [.int k, .int (A 97 ((s 8818)).toInt.toNat)]) bu_14_68 rfl rfl (by decide) rfl (Nat.le_of_ble_eq_true rfl) (Nat.le_of_ble_eq_true rfl) ?_
      refine kd_75 (b := (A 97 ((s 8818)).toInt.toNat)) (n := k) (by omega) (fun v631 e632 => ?_)
      have z633 := kg_pw_s (b := (A 97 (s 8818).toInt.toNat)) (n := k.toInt.toNat) (by omega) (by omega) (by omega)
      rw [← e632] at z633
      show bp_G E PO (NN + 1) ((14, 71, lv, [.int v631], 0, 0) :: gs, h, none)
      refine bp_st (pc' := 73) bu_14_71 rfl rfl (fun _ _ _ => rfl) rfl (by decide) (by decide) (fun lv634 F635 g636 => ?_)
      have g637 := F635 0 (.ref (E.1 + 88)) g0 (by decide) (Or.inl rfl)
      have g638 := F635 1 (.int a) g1 (by decide) (Or.inl rfl)
      have g639 := F635 2 (.int k) g2 (by decide) (Or.inl rfl)
      have g640 := F635 3 (.int b) g3 (by decide) (Or.inl rfl)
      refine bp_ld (pc' := 75) bu_14_73 rfl rfl (fun _ _ _ => rfl) g636 rfl ?_
      refine bp_ld (pc' := 77) bu_14_75 rfl rfl (fun _ _ _ => rfl) g636 rfl ?_
      refine bp_ld (pc' := 78) bu_14_77 rfl rfl (fun _ _ _ => rfl) g637 rfl ?_
      refine bn_gr (pc' := 81) (t := 97) bu_14_78 rfl rfl (fun _ _ _ => rfl) hP mw_o88 mw_r88_22 ?_
      refine bp_ld (pc' := 82) bu_14_81 rfl rfl (fun _ _ _ => rfl) g637 rfl ?_
      refine bn_gi (pc' := 85) (K := 8818) bu_14_82 rfl rfl (fun _ _ _ => rfl) hP mw_o88 mw_i88_18 rfl rfl ?_
      refine bn_iaF (pc' := 86) bu_14_85 rfl rfl (fun _ _ _ => rfl) hP mw_a97 (Or.inl rfl) (fun b641 b642 => ?_)
      refine bp_c (pc' := 87) (n := 1) bu_14_86 rfl rfl (fun _ _ _ => rfl) (by decide) (fun c643 e644 => ?_)
      refine bp_x (pc' := 88) (v := (A 97 ((s 8818)).toInt.toNat) - c643) bu_14_87 rfl rfl (fun _ _ _ => rfl) rfl ?_
      refine bp_ld (pc' := 89) bu_14_88 rfl rfl (fun _ _ _ => rfl) g639 rfl ?_
      refine bp_csF (pc' := 92) (st := [.int v631, .int v631]) (args := [.int k, .int ((A 97 ((s 8818)).toInt.toNat) - c643)]) bu_14_89 rfl rfl (by decide) rfl (Nat.le_of_ble_eq_true rfl) (Nat.le_of_ble_eq_true rfl) ?_
      refine kd_75 (b := ((A 97 ((s 8818)).toInt.toNat) - c643)) (n := k) (by omega) (fun v645 e646 => ?_)
      rw [show c643 = (1 : Int32) from Int32.toInt_inj.mp (by show _ = (1 : Int); omega)] at e646
      have m1 : ((A 97 (s 8818).toInt.toNat) - 1).toInt = (A 97 (s 8818).toInt.toNat).toInt - 1 := by
        rw [Int32.toInt_sub]
        exact Int.bmod_eq_of_le (by show _ ≤ _ - (1 : Int); omega) (by show _ - (1 : Int) < _; omega)
      have z647 := kg_pw_s (b := (A 97 (s 8818).toInt.toNat) - 1) (n := k.toInt.toNat) (by omega) (by omega) (by omega)
      rw [← e646] at z647
      show bp_G E PO (NN + 1) ((14, 92, lv634, [.int v645, .int v631, .int v631], 0, 0) :: gs, h, none)
      refine bp_add (pc' := 93) bu_14_92 rfl (by omega) (by omega) (fun v648 e649 => ?_)
      refine bp_ld (pc' := 94) bu_14_93 rfl rfl (fun _ _ _ => rfl) g640 rfl ?_
      refine bp_csF (pc' := 97) (st := []) (args := [.int b, .int v648, .int v631]) bu_14_94 rfl rfl (by decide) rfl (Nat.le_of_ble_eq_true rfl) (Nat.le_of_ble_eq_true rfl) ?_
      refine kd_59 (u := v631) (l := v648) (b := b) (by omega) (by omega) (fun r650 d651 e652 e653 e654 => ?_)
      show bp_G E PO (NN + 1) ((14, 97, lv634, [.int r650], 0, 0) :: gs, h, none)
      refine bp_ri bu_14_97 ?_
      refine kk _ (Or.inr ⟨by omega, Or.inr ⟨(fun j hj => i2 j (by omega)), d651, v648, ?_, ?_, ?_, ?_⟩⟩)
      · rw [← e632, ← e646]; omega
      · rw [← e632]; exact e652
      · exact e653
      · rw [← e632]; exact e654
    · replace k628 : ¬ ((k).toInt ≤ (i).toInt) := k628
      refine bp_ld (pc' := 32) bu_14_31 rfl rfl (fun _ _ _ => rfl) g0 rfl ?_
      refine bn_gr (pc' := 35) (t := 127) bu_14_32 rfl rfl (fun _ _ _ => rfl) hP mw_o88 mw_r88_66 ?_
      refine bp_ld (pc' := 37) bu_14_35 rfl rfl (fun _ _ _ => rfl) g4 rfl ?_
      refine bn_iaF (pc' := 38) bu_14_37 rfl rfl (fun _ _ _ => rfl) hP mw_a127 (Or.inl rfl) (fun b655 b656 => ?_)
      refine bp_ld (pc' := 39) bu_14_38 rfl rfl (fun _ _ _ => rfl) g1 rfl ?_
      refine bp_ic (pc' := 42) (pt := 52) bu_14_39 rfl rfl (fun k657 => ?_) (fun k657 => ?_)
      · replace k657 : ((A 127 (i).toInt.toNat)).toInt ≠ (a).toInt := k657
        refine bp_inc (pc' := 55) bu_14_52 rfl (by decide) g4 (by decide) (by omega) (by omega) (fun lv658 y661 F659 g660 e662 => ?_)
        have g663 := F659 0 (.ref (E.1 + 88)) g0 (by decide) (Or.inl rfl)
        have g664 := F659 1 (.int a) g1 (by decide) (Or.inl rfl)
        have g665 := F659 2 (.int k) g2 (by decide) (Or.inl rfl)
        have g666 := F659 3 (.int b) g3 (by decide) (Or.inl rfl)
        refine bp_goD (pc' := 25) bu_14_55 rfl ?_
        exact ih (fun r q => bp_mono (Nat.le_succ NN) (kk r q)) _ _ _ g663 g664 g665 g666 g660 (by omega) (fun j hj => by
          by_cases ej : j = i.toInt.toNat
          · intro e9
            rw [ej] at e9
            rw [e9] at k657
            exact k657 rfl
          · exact i2 j (by omega))
      · replace k657 : ¬ (((A 127 (i).toInt.toNat)).toInt ≠ (a).toInt) := k657
        refine bp_ld (pc' := 43) bu_14_42 rfl rfl (fun _ _ _ => rfl) g3 rfl ?_
        refine bp_i0 (pc' := 46) (pt := 50) bu_14_43 rfl rfl (fun k667 => ?_) (fun k667 => ?_)
        · replace k667 : (b).toInt = 0 := k667
          refine bp_c (pc' := 51) (n := 0) bu_14_50 rfl rfl (fun _ _ _ => rfl) (by decide) (fun c668 e669 => ?_)
          refine bp_ri bu_14_51 ?_
          exact kk _ (Or.inr ⟨by omega, Or.inl ⟨⟨i.toInt.toNat, by omega, Int32.toInt_inj.mp (by omega)⟩, fun q => by omega, fun q => by omega⟩⟩)
        · replace k667 : ¬ ((b).toInt = 0) := k667
          refine bp_c (pc' := 47) (n := 1) bu_14_46 rfl rfl (fun _ _ _ => rfl) (by decide) (fun c670 e671 => ?_)
          refine bp_go (pc' := 51) bu_14_47 rfl ?_
          refine bp_ri bu_14_51 ?_
          exact kk _ (Or.inr ⟨by omega, Or.inl ⟨⟨i.toInt.toNat, by omega, Int32.toInt_inj.mp (by omega)⟩, fun q => by omega, fun q => by omega⟩⟩)
set_option maxHeartbeats 4000000 in
theorem kd_14 {a k b : Int32} (hP : bm_P mw_T E h0 h s A L) (hm : 0 ≤ (A 97 (s 8818).toInt.toNat).toInt ∧ (A 97 (s 8818).toInt.toNat).toInt ≤ 6) (ht : 0 ≤ (s 8865).toInt ∧ (s 8865).toInt ≤ 10) (kk : (∀ r : Int32, kd_Pch (A 97 (s 8818).toInt.toNat) (s 8865) (A 127) a k b r → bp_G E PO NN (mm_back (some (.int r)) gs h))) : bp_G E PO NN ((14, 0, [(0, .ref (E.1 + 88)), (1, .int a), (2, .int k), (3, .int b)], [], 0, 0) :: gs, h, none) := by
  refine bp_ld (pc' := 1) bu_14_0 rfl rfl (fun _ _ _ => rfl) rfl rfl ?_
  refine bp_ld (pc' := 2) bu_14_1 rfl rfl (fun _ _ _ => rfl) rfl rfl ?_
  refine bn_cvF (pc' := 5) (st := []) (args := [.int a]) bu_14_2 rfl rfl rfl (by decide) hP mw_o88 (by decide) rfl (Nat.le_of_ble_eq_true rfl) (Nat.le_of_ble_eq_true rfl) ?_
  refine kd_52 (a := a) hP hm (fun r672 e673 => ?_)
  show bp_G E PO NN ((14, 5, _, [.int r672], 0, 0) :: gs, h, none)
  refine bp_i0 (pc' := 8) (pt := 20) bu_14_5 rfl rfl (fun k674 => ?_) (fun k674 => ?_)
  · replace k674 : (r672).toInt = 0 := k674
    refine bp_c (pc' := 21) (n := -1) bu_14_20 rfl rfl (fun _ _ _ => rfl) (by decide) (fun c675 e676 => ?_)
    refine bp_ri bu_14_21 ?_
    exact kk _ (Or.inl ⟨by omega, by omega⟩)
  · replace k674 : ¬ ((r672).toInt = 0) := k674
    refine bp_ld (pc' := 9) bu_14_8 rfl rfl (fun _ _ _ => rfl) rfl rfl ?_
    refine bp_c (pc' := 10) (n := 0) bu_14_9 rfl rfl (fun _ _ _ => rfl) (by decide) (fun c677 e678 => ?_)
    refine bp_ld (pc' := 11) bu_14_10 rfl rfl (fun _ _ _ => rfl) rfl rfl ?_
    refine bn_gi (pc' := 14) (K := 8865) bu_14_11 rfl rfl (fun _ _ _ => rfl) hP mw_o88 mw_i88_65 rfl rfl ?_
    refine bp_csF (pc' := 17) (st := []) (args := [.int (s 8865), .int c677, .int k]) bu_14_14 rfl rfl (by decide) rfl (Nat.le_of_ble_eq_true rfl) (Nat.le_of_ble_eq_true rfl) ?_
    refine kd_43 (x := k) (y := c677) (z := (s 8865)) (fun r679 e680 => ?_)
    show bp_G E PO NN ((14, 17, _, [.int r679], 0, 0) :: gs, h, none)
    refine bp_i0 (pc' := 20) (pt := 22) bu_14_17 rfl rfl (fun k681 => ?_) (fun k681 => ?_)
    · replace k681 : (r679).toInt ≠ 0 := k681
      refine bp_c (pc' := 23) (n := 0) bu_14_22 rfl rfl (fun _ _ _ => rfl) (by decide) (fun c682 e683 => ?_)
      refine bp_st (pc' := 25) bu_14_23 rfl rfl (fun _ _ _ => rfl) rfl (by decide) (by decide) (fun lv684 F685 g686 => ?_)
      have g687 := F685 0 (.ref (E.1 + 88)) rfl (by decide) (Or.inl rfl)
      have g688 := F685 1 (.int a) rfl (by decide) (Or.inl rfl)
      have g689 := F685 2 (.int k) rfl (by decide) (Or.inl rfl)
      have g690 := F685 3 (.int b) rfl (by decide) (Or.inl rfl)
      exact kd_14l hP hm ht (by omega) NN kk _ _ _ g687 g688 g689 g690 g686 (by omega) (fun j hj => absurd hj (by omega))
    · replace k681 : ¬ ((r679).toInt ≠ 0) := k681
      refine bp_c (pc' := 21) (n := -1) bu_14_20 rfl rfl (fun _ _ _ => rfl) (by decide) (fun c691 e692 => ?_)
      refine bp_ri bu_14_21 ?_
      exact kk _ (Or.inl ⟨by omega, by omega⟩)
set_option maxHeartbeats 4000000 in
theorem kd_154 (hP : bm_P cw_T E h0 h s A L) (kk : ∀ (h' : mm_H) (s' : Nat → Int32), bm_P cw_T E h0 h' s' A L → (s' 3704).toInt = 0 → (∀ j, j ≠ 3704 → s' j = s j) → bp_G E PO NN (mm_back none gs h')) : bp_G E PO NN ((154, 0, [(0, .ref (E.1 + 37))], [], 0, 0) :: gs, h, none) := by
  refine bp_ld (pc' := 1) bu_154_0 rfl rfl (fun _ _ _ => rfl) rfl rfl ?_
  refine bp_c (pc' := 2) (n := 0) bu_154_1 rfl rfl (fun _ _ _ => rfl) (by decide) (fun c693 e694 => ?_)
  refine bn_pf (pc' := 5) (K := 3704) bu_154_2 rfl rfl (fun _ _ _ => rfl) hP cw_o37 cw_i37_4 rfl rfl (fun h695 s696 hP697 e698 f699 => ?_)
  refine bp_rv bu_154_5 ?_
  exact kk _ _ hP697 (by rw [e698]; omega) f699
set_option maxHeartbeats 4000000 in
theorem kd_155 {p : Int32} (hP : bm_P cw_T E h0 h s A L) (kk : ∀ (h' : mm_H) (r : Int32), kd_Prs (A 83) p r → bp_G E PO NN (mm_back (some (.int r)) gs h')) : bp_G E PO NN ((155, 0, [(0, .ref (E.1 + 37)), (1, .int p), (2, .ref (E.1 + 26))], [], 0, 0) :: gs, h, none) := by
  refine bp_ld (pc' := 1) bu_155_0 rfl rfl (fun _ _ _ => rfl) rfl rfl ?_
  refine bp_i0 (pc' := 4) (pt := 25) bu_155_1 rfl rfl (fun k700 => ?_) (fun k700 => ?_)
  · replace k700 : (p).toInt < 0 := k700
    refine bp_c (pc' := 26) (n := 0) bu_155_25 rfl rfl (fun _ _ _ => rfl) (by decide) (fun c701 e702 => ?_)
    refine bp_rbF bu_155_26 (fun rb703 => ?_)
    exact kk _ _ (by unfold kd_Prs; omega)
  · replace k700 : ¬ ((p).toInt < 0) := k700
    refine bp_ld (pc' := 5) bu_155_4 rfl rfl (fun _ _ _ => rfl) rfl rfl ?_
    refine bp_c (pc' := 6) (n := 3) bu_155_5 rfl rfl (fun _ _ _ => rfl) (by decide) (fun c704 e705 => ?_)
    refine bp_ic (pc' := 9) (pt := 25) bu_155_6 rfl rfl (fun k706 => ?_) (fun k706 => ?_)
    · replace k706 : (c704).toInt ≤ (p).toInt := k706
      refine bp_c (pc' := 26) (n := 0) bu_155_25 rfl rfl (fun _ _ _ => rfl) (by decide) (fun c707 e708 => ?_)
      refine bp_rbF bu_155_26 (fun rb709 => ?_)
      exact kk _ _ (by unfold kd_Prs; omega)
    · replace k706 : ¬ ((c704).toInt ≤ (p).toInt) := k706
      refine bp_ld (pc' := 10) bu_155_9 rfl rfl (fun _ _ _ => rfl) rfl rfl ?_
      refine bn_gr (pc' := 13) (t := 83) bu_155_10 rfl rfl (fun _ _ _ => rfl) hP cw_o37 cw_r37_2 ?_
      refine bp_ld (pc' := 14) bu_155_13 rfl rfl (fun _ _ _ => rfl) rfl rfl ?_
      refine bn_iaF (pc' := 15) bu_155_14 rfl rfl (fun _ _ _ => rfl) hP cw_a83 (Or.inr rfl) (fun b710 b711 => ?_)
      refine bp_i0 (pc' := 18) (pt := 25) bu_155_15 rfl rfl (fun k712 => ?_) (fun k712 => ?_)
      · replace k712 : ((A 83 (p).toInt.toNat)).toInt = 0 := k712
        refine bp_c (pc' := 26) (n := 0) bu_155_25 rfl rfl (fun _ _ _ => rfl) (by decide) (fun c713 e714 => ?_)
        refine bp_rbF bu_155_26 (fun rb715 => ?_)
        exact kk _ _ (by unfold kd_Prs; omega)
      · replace k712 : ¬ (((A 83 (p).toInt.toNat)).toInt = 0) := k712
        refine bp_ld (pc' := 19) bu_155_18 rfl rfl (fun _ _ _ => rfl) rfl rfl ?_
        refine bn_al (pc' := 20) bu_155_19 rfl hP cw_a26 (by decide) (by decide) (fun v716 e717 => ?_)
        refine bp_c (pc' := 22) (n := 27) bu_155_20 rfl rfl (fun _ _ _ => rfl) (by decide) (fun c718 e719 => ?_)
        refine bp_ic (pc' := 25) (pt := 27) bu_155_22 rfl rfl (fun k720 => ?_) (fun k720 => ?_)
        · replace k720 : (c718).toInt ≤ (v716).toInt := k720
          refine bp_ld (pc' := 28) bu_155_27 rfl rfl (fun _ _ _ => rfl) rfl rfl ?_
          refine bn_gr (pc' := 31) (t := 79) bu_155_28 rfl rfl (fun _ _ _ => rfl) hP cw_o37 cw_r37_1 ?_
          refine bp_ld (pc' := 32) bu_155_31 rfl rfl (fun _ _ _ => rfl) rfl rfl ?_
          refine bn_aaV (x := 0) (pc' := 33) bu_155_32 rfl (fun w721 => ?_)
          refine bp_c (pc' := 34) (n := 0) bu_155_33 rfl rfl (fun _ _ _ => rfl) (by decide) (fun c722 e723 => ?_)
          refine bp_ld (pc' := 35) bu_155_34 rfl rfl (fun _ _ _ => rfl) rfl rfl ?_
          refine bp_c (pc' := 36) (n := 0) bu_155_35 rfl rfl (fun _ _ _ => rfl) (by decide) (fun c724 e725 => ?_)
          refine bp_c (pc' := 38) (n := 27) bu_155_36 rfl rfl (fun _ _ _ => rfl) (by decide) (fun c726 e727 => ?_)
          refine bn_acV (pc' := 41) bu_155_38 rfl hP cw_a26 (fun h728 f729 hP730 => ?_)
          refine bp_ld (pc' := 42) bu_155_41 rfl rfl (fun _ _ _ => rfl) rfl rfl ?_
          refine bn_cvF (pc' := 45) (st := []) (args := []) bu_155_42 rfl rfl rfl (by decide) hP730 cw_o37 (by decide) rfl (Nat.le_of_ble_eq_true rfl) (Nat.le_of_ble_eq_true rfl) ?_
          refine kd_154 hP730 (fun h731 s732 hP733 e734 f735 => ?_)
          show bp_G E PO NN ((155, 45, _, [], 0, 0) :: gs, h731, none)
          refine bp_c (pc' := 46) (n := 1) bu_155_45 rfl rfl (fun _ _ _ => rfl) (by decide) (fun c736 e737 => ?_)
          refine bp_rbF bu_155_46 (fun rb738 => ?_)
          exact kk _ _ (by unfold kd_Prs; omega)
        · replace k720 : ¬ ((c718).toInt ≤ (v716).toInt) := k720
          refine bp_c (pc' := 26) (n := 0) bu_155_25 rfl rfl (fun _ _ _ => rfl) (by decide) (fun c739 e740 => ?_)
          refine bp_rbF bu_155_26 (fun rb741 => ?_)
          exact kk _ _ (by unfold kd_Prs; omega)
set_option maxHeartbeats 4000000 in
theorem kd_254 {p : Int32} (hP : bm_P cw_T E h0 h s A L) (kk : ∀ (h' : mm_H) (r : Int32), kd_Prs (A 83) p r → bp_G E PO NN (mm_back (some (.int r)) gs h')) : bp_G E PO NN ((254, 0, [(0, .ref (E.1 + 0)), (1, .int p)], [], 0, 0) :: gs, h, none) := by
  refine bp_ld (pc' := 1) bu_254_0 rfl rfl (fun _ _ _ => rfl) rfl rfl ?_
  refine bn_gr (pc' := 4) (t := 37) bu_254_1 rfl rfl (fun _ _ _ => rfl) hP cw_o0 cw_r0_9 ?_
  refine bp_ld (pc' := 5) bu_254_4 rfl rfl (fun _ _ _ => rfl) rfl rfl ?_
  refine bp_ld (pc' := 6) bu_254_5 rfl rfl (fun _ _ _ => rfl) rfl rfl ?_
  refine bn_gr (pc' := 9) (t := 25) bu_254_6 rfl rfl (fun _ _ _ => rfl) hP cw_o0 cw_r0_6 ?_
  refine bn_gr (pc' := 12) (t := 26) bu_254_9 rfl rfl (fun _ _ _ => rfl) hP cw_o25 cw_r25_0 ?_
  refine bn_cvF (pc' := 15) (st := []) (args := [.ref (E.1 + 26), .int p]) bu_254_12 rfl rfl rfl (by decide) hP cw_o37 (by decide) rfl (Nat.le_of_ble_eq_true rfl) (Nat.le_of_ble_eq_true rfl) ?_
  refine kd_155 (p := p) hP (fun h742 r743 e744 => ?_)
  show bp_G E PO NN ((254, 15, _, [.int r743], 0, 0) :: gs, h742, none)
  refine bp_rbF bu_254_15 (fun rb745 => ?_)
  exact kk _ _ e744
set_option maxHeartbeats 4000000 in
theorem kd_78l {p : Int32} {A0 : Nat → Nat → Int32} : ∀ NN : Nat, (∀ (h' : mm_H) (A' : Nat → Nat → Int32) (lv : mm_V) (o : Option Value), bm_P mw_T E h0 h' s A' L → (∀ c, c ≠ 118 → A' c = A0 c) → mm_get lv 0 = some (.ref (E.1 + 88)) → bp_G E PO NN ((78, 51, lv, [], 0, 0) :: gs, h', o)) → (∀ (h : mm_H) (A : Nat → Nat → Int32) (lv : mm_V) (o : Option Value) (k : Int32), bm_P mw_T E h0 h s A L → (∀ c, c ≠ 118 → A c = A0 c) → mm_get lv 0 = some (.ref (E.1 + 88)) → mm_get lv 1 = some (.int p) → mm_get lv 2 = some (.int k) → bp_G E PO NN ((78, 22, lv, [], 0, 0) :: gs, h, o)) := by
  intro NN
  induction NN with
  | zero => intro kk h A lv o k hP hA g0 g1 g2; exact bp_zero bu_78_22
  | succ NN ih =>
    intro kk h A lv o k hP hA g0 g1 g2
    refine bp_ld (pc' := 23) bu_78_22 rfl rfl (fun _ _ _ => rfl) g2 rfl ?_
    refine bp_c (pc' := 25) (n := 60) bu_78_23 rfl rfl (fun _ _ _ => rfl) (by decide) (fun c746 e747 => ?_)
    refine bp_ic (pc' := 28) (pt := 51) bu_78_25 rfl rfl (fun k748 => ?_) (fun k748 => ?_)
    · replace k748 : (c746).toInt ≤ (k).toInt := k748
      exact kk _ _ _ _ hP hA g0
    · replace k748 : ¬ ((c746).toInt ≤ (k).toInt) := k748
      refine bp_ld (pc' := 29) bu_78_28 rfl rfl (fun _ _ _ => rfl) g0 rfl ?_
      refine bn_gr (pc' := 32) (t := 118) bu_78_29 rfl rfl (fun _ _ _ => rfl) hP mw_o88 mw_r88_47 ?_
      refine bp_ld (pc' := 33) bu_78_32 rfl rfl (fun _ _ _ => rfl) g2 rfl ?_
      refine bp_ld (pc' := 34) bu_78_33 rfl rfl (fun _ _ _ => rfl) g0 rfl ?_
      refine bn_gr (pc' := 37) (t := 132) bu_78_34 rfl rfl (fun _ _ _ => rfl) hP mw_o88 mw_r88_72 ?_
      refine bp_c (pc' := 39) (n := 60) bu_78_37 rfl rfl (fun _ _ _ => rfl) (by decide) (fun c749 e750 => ?_)
      refine bp_ld (pc' := 40) bu_78_39 rfl rfl (fun _ _ _ => rfl) g1 rfl ?_
      refine bp_mulA (pc' := 41) bu_78_40 rfl (fun v751 => ?_)
      refine bp_ld (pc' := 42) bu_78_41 rfl rfl (fun _ _ _ => rfl) g2 rfl ?_
      refine bp_addA (pc' := 43) bu_78_42 rfl (fun v752 => ?_)
      refine bn_iaF (pc' := 44) bu_78_43 rfl rfl (fun _ _ _ => rfl) hP mw_a132 (Or.inl rfl) (fun b753 b754 => ?_)
      refine bn_iasF (pc' := 45) bu_78_44 rfl rfl (fun _ _ _ => rfl) hP mw_a118 (Or.inl rfl) (fun b757 b758 h755 hP756 => ?_)
      refine bn_incx (pc' := 48) bu_78_45 rfl (by decide) g2 (by decide) (fun lv759 y762 F760 g761 e763 => ?_)
      have g764 := F760 0 (.ref (E.1 + 88)) g0 (by decide) (Or.inl rfl)
      have g765 := F760 1 (.int p) g1 (by decide) (Or.inl rfl)
      refine bp_goD (pc' := 22) bu_78_48 rfl ?_
      exact ih (fun h' A' lv o a0 a1 a2 => bp_mono (Nat.le_succ NN) (kk h' A' lv o a0 a1 a2)) _ _ _ _ _ hP756 (fun c c1 => (bh_up_ne c1).trans (hA c c1)) g764 g765 g761
set_option maxHeartbeats 4000000 in
theorem kd_78 {p : Int32} (hP : bm_P mw_T E h0 h s A L) (kk : ∀ (h' : mm_H) (r : Int32), kd_Prs (A 131) p r → bp_G E PO NN (mm_back (some (.int r)) gs h')) : bp_G E PO NN ((78, 0, [(0, .ref (E.1 + 88)), (1, .int p)], [], 0, 0) :: gs, h, none) := by
  refine bp_ld (pc' := 1) bu_78_0 rfl rfl (fun _ _ _ => rfl) rfl rfl ?_
  refine bp_c (pc' := 2) (n := 0) bu_78_1 rfl rfl (fun _ _ _ => rfl) (by decide) (fun c766 e767 => ?_)
  refine bp_c (pc' := 3) (n := 2) bu_78_2 rfl rfl (fun _ _ _ => rfl) (by decide) (fun c768 e769 => ?_)
  refine bp_csF (pc' := 6) (st := []) (args := [.int c768, .int c766, .int p]) bu_78_3 rfl rfl (by decide) rfl (Nat.le_of_ble_eq_true rfl) (Nat.le_of_ble_eq_true rfl) ?_
  refine kd_43 (x := p) (y := c766) (z := c768) (fun r770 e771 => ?_)
  show bp_G E PO NN ((78, 6, _, [.int r770], 0, 0) :: gs, h, none)
  refine bp_i0 (pc' := 9) (pt := 18) bu_78_6 rfl rfl (fun k772 => ?_) (fun k772 => ?_)
  · replace k772 : (r770).toInt = 0 := k772
    refine bp_c (pc' := 19) (n := 0) bu_78_18 rfl rfl (fun _ _ _ => rfl) (by decide) (fun c773 e774 => ?_)
    refine bp_rbF bu_78_19 (fun rb775 => ?_)
    exact kk _ _ (by unfold kd_Prs; omega)
  · replace k772 : ¬ ((r770).toInt = 0) := k772
    refine bp_ld (pc' := 10) bu_78_9 rfl rfl (fun _ _ _ => rfl) rfl rfl ?_
    refine bn_gr (pc' := 13) (t := 131) bu_78_10 rfl rfl (fun _ _ _ => rfl) hP mw_o88 mw_r88_71 ?_
    refine bp_ld (pc' := 14) bu_78_13 rfl rfl (fun _ _ _ => rfl) rfl rfl ?_
    refine bn_iaF (pc' := 15) bu_78_14 rfl rfl (fun _ _ _ => rfl) hP mw_a131 (Or.inr rfl) (fun b776 b777 => ?_)
    refine bp_i0 (pc' := 18) (pt := 20) bu_78_15 rfl rfl (fun k778 => ?_) (fun k778 => ?_)
    · replace k778 : ((A 131 (p).toInt.toNat)).toInt ≠ 0 := k778
      refine bp_c (pc' := 21) (n := 0) bu_78_20 rfl rfl (fun _ _ _ => rfl) (by decide) (fun c779 e780 => ?_)
      refine bp_st (pc' := 22) bu_78_21 rfl rfl (fun _ _ _ => rfl) rfl (by decide) (by decide) (fun lv781 F782 g783 => ?_)
      have g784 := F782 0 (.ref (E.1 + 88)) rfl (by decide) (Or.inl rfl)
      have g785 := F782 1 (.int p) rfl (by decide) (Or.inl rfl)
      refine kd_78l (A0 := A) NN (fun h786 A787 lv788 o789 hP790 a791 g792 => ?_) _ _ _ _ _ hP (fun _ _ => rfl) g784 g785 g783
      refine bp_ld (pc' := 52) bu_78_51 rfl rfl (fun _ _ _ => rfl) g792 rfl ?_
      refine bp_c (pc' := 53) (n := 0) bu_78_52 rfl rfl (fun _ _ _ => rfl) (by decide) (fun c793 e794 => ?_)
      refine bn_pf (pc' := 56) (K := 8854) bu_78_53 rfl rfl (fun _ _ _ => rfl) hP790 mw_o88 mw_i88_54 rfl rfl (fun h795 s796 hP797 e798 f799 => ?_)
      refine bp_c (pc' := 57) (n := 1) bu_78_56 rfl rfl (fun _ _ _ => rfl) (by decide) (fun c800 e801 => ?_)
      refine bp_rbF bu_78_57 (fun rb802 => ?_)
      exact kk _ _ (by unfold kd_Prs; omega)
    · replace k778 : ¬ (((A 131 (p).toInt.toNat)).toInt ≠ 0) := k778
      refine bp_c (pc' := 19) (n := 0) bu_78_18 rfl rfl (fun _ _ _ => rfl) (by decide) (fun c803 e804 => ?_)
      refine bp_rbF bu_78_19 (fun rb805 => ?_)
      exact kk _ _ (by unfold kd_Prs; omega)
set_option maxHeartbeats 4000000 in
theorem kd_157 {p : Int32} (hP : bm_P cw_T E h0 h s A L) (kk : ∀ (h' : mm_H) (r : Int32), kd_Phd (A 83) (br_A h' 83) p → bp_G E PO NN (mm_back (some (.int r)) gs h')) : bp_G E PO NN ((157, 0, [(0, .ref (E.1 + 37)), (1, .int p), (2, .ref (E.1 + 26))], [], 0, 0) :: gs, h, none) := by
  refine bp_ld (pc' := 1) bu_157_0 rfl rfl (fun _ _ _ => rfl) rfl rfl ?_
  refine bp_i0 (pc' := 4) (pt := 16) bu_157_1 rfl rfl (fun k806 => ?_) (fun k806 => ?_)
  · replace k806 : (p).toInt < 0 := k806
    refine bp_c (pc' := 17) (n := 0) bu_157_16 rfl rfl (fun _ _ _ => rfl) (by decide) (fun c807 e808 => ?_)
    refine bp_rbF bu_157_17 (fun rb809 => ?_)
    have w9 : br_A _ 83 = _ := bm_wA (q := (83, 2, 3)) hP cw_a83
    exact kk _ _ ⟨fun q => absurd q (by omega), fun _ => w9⟩
  · replace k806 : ¬ ((p).toInt < 0) := k806
    refine bp_ld (pc' := 5) bu_157_4 rfl rfl (fun _ _ _ => rfl) rfl rfl ?_
    refine bp_c (pc' := 6) (n := 3) bu_157_5 rfl rfl (fun _ _ _ => rfl) (by decide) (fun c810 e811 => ?_)
    refine bp_ic (pc' := 9) (pt := 16) bu_157_6 rfl rfl (fun k812 => ?_) (fun k812 => ?_)
    · replace k812 : (c810).toInt ≤ (p).toInt := k812
      refine bp_c (pc' := 17) (n := 0) bu_157_16 rfl rfl (fun _ _ _ => rfl) (by decide) (fun c813 e814 => ?_)
      refine bp_rbF bu_157_17 (fun rb815 => ?_)
      have w9 : br_A _ 83 = _ := bm_wA (q := (83, 2, 3)) hP cw_a83
      exact kk _ _ ⟨fun q => absurd q (by omega), fun _ => w9⟩
    · replace k812 : ¬ ((c810).toInt ≤ (p).toInt) := k812
      refine bp_ld (pc' := 10) bu_157_9 rfl rfl (fun _ _ _ => rfl) rfl rfl ?_
      refine bn_al (pc' := 11) bu_157_10 rfl hP cw_a26 (by decide) (by decide) (fun v816 e817 => ?_)
      refine bp_c (pc' := 13) (n := 27) bu_157_11 rfl rfl (fun _ _ _ => rfl) (by decide) (fun c818 e819 => ?_)
      refine bp_ic (pc' := 16) (pt := 18) bu_157_13 rfl rfl (fun k820 => ?_) (fun k820 => ?_)
      · replace k820 : (c818).toInt ≤ (v816).toInt := k820
        refine bp_ld (pc' := 19) bu_157_18 rfl rfl (fun _ _ _ => rfl) rfl rfl ?_
        refine bp_c (pc' := 20) (n := 0) bu_157_19 rfl rfl (fun _ _ _ => rfl) (by decide) (fun c821 e822 => ?_)
        refine bp_ld (pc' := 21) bu_157_20 rfl rfl (fun _ _ _ => rfl) rfl rfl ?_
        refine bn_gr (pc' := 24) (t := 79) bu_157_21 rfl rfl (fun _ _ _ => rfl) hP cw_o37 cw_r37_1 ?_
        refine bp_ld (pc' := 25) bu_157_24 rfl rfl (fun _ _ _ => rfl) rfl rfl ?_
        refine bn_aaV (x := 0) (pc' := 26) bu_157_25 rfl (fun w823 => ?_)
        refine bp_c (pc' := 27) (n := 0) bu_157_26 rfl rfl (fun _ _ _ => rfl) (by decide) (fun c824 e825 => ?_)
        refine bp_c (pc' := 29) (n := 27) bu_157_27 rfl rfl (fun _ _ _ => rfl) (by decide) (fun c826 e827 => ?_)
        have hP831 := hw_sub hP
        refine bn_acB (pc' := 32) bu_157_29 rfl hw_b hP831 (fun h828 hP830 => ?_)
        refine bp_ld (pc' := 33) bu_157_32 rfl rfl (fun _ _ _ => rfl) rfl rfl ?_
        refine bn_gr (pc' := 36) (t := 83) bu_157_33 rfl rfl (fun _ _ _ => rfl) hP830 hw_o37 hw_r37_2 ?_
        refine bp_ld (pc' := 37) bu_157_36 rfl rfl (fun _ _ _ => rfl) rfl rfl ?_
        refine bp_c (pc' := 38) (n := 1) bu_157_37 rfl rfl (fun _ _ _ => rfl) (by decide) (fun c832 e833 => ?_)
        refine bn_iasF (pc' := 39) bu_157_38 rfl rfl (fun _ _ _ => rfl) hP830 hw_a83 (Or.inr rfl) (fun b836 b837 h834 hP835 => ?_)
        refine bp_c (pc' := 40) (n := 1) bu_157_39 rfl rfl (fun _ _ _ => rfl) (by decide) (fun c838 e839 => ?_)
        refine bp_rbF bu_157_40 (fun rb840 => ?_)
        have w9 : br_A _ 83 = _ := bm_wA (q := (83, 2, 3)) hP835 hw_a83
        refine kk _ _ ⟨fun _ => ⟨?_, fun j hj => ?_⟩, fun q => absurd (by omega) q⟩
        · rw [w9, bh_up_i]; exact kd_nar2 (by omega)
        · rw [w9]; exact bh_up_j hj
      · replace k820 : ¬ ((c818).toInt ≤ (v816).toInt) := k820
        refine bp_c (pc' := 17) (n := 0) bu_157_16 rfl rfl (fun _ _ _ => rfl) (by decide) (fun c841 e842 => ?_)
        refine bp_rbF bu_157_17 (fun rb843 => ?_)
        have w9 : br_A _ 83 = _ := bm_wA (q := (83, 2, 3)) hP cw_a83
        exact kk _ _ ⟨fun q => absurd q (by omega), fun _ => w9⟩
set_option maxHeartbeats 4000000 in
theorem kd_236 {p : Int32} (hP : bm_P cw_T E h0 h s A L) (kk : ∀ (h' : mm_H) (r : Int32), kd_Phd (A 83) (br_A h' 83) p → bp_G E PO NN (mm_back (some (.int r)) gs h')) : bp_G E PO NN ((236, 0, [(0, .ref (E.1 + 0)), (1, .int p)], [], 0, 0) :: gs, h, none) := by
  refine bp_ld (pc' := 1) bu_236_0 rfl rfl (fun _ _ _ => rfl) rfl rfl ?_
  refine bn_gr (pc' := 4) (t := 37) bu_236_1 rfl rfl (fun _ _ _ => rfl) hP cw_o0 cw_r0_9 ?_
  refine bp_ld (pc' := 5) bu_236_4 rfl rfl (fun _ _ _ => rfl) rfl rfl ?_
  refine bp_ld (pc' := 6) bu_236_5 rfl rfl (fun _ _ _ => rfl) rfl rfl ?_
  refine bn_gr (pc' := 9) (t := 25) bu_236_6 rfl rfl (fun _ _ _ => rfl) hP cw_o0 cw_r0_6 ?_
  refine bn_gr (pc' := 12) (t := 26) bu_236_9 rfl rfl (fun _ _ _ => rfl) hP cw_o25 cw_r25_0 ?_
  refine bn_cvF (pc' := 15) (st := []) (args := [.ref (E.1 + 26), .int p]) bu_236_12 rfl rfl rfl (by decide) hP cw_o37 (by decide) rfl (Nat.le_of_ble_eq_true rfl) (Nat.le_of_ble_eq_true rfl) ?_
  refine kd_157 (p := p) hP (fun h844 r845 e846 => ?_)
  show bp_G E PO NN ((236, 15, _, [.int r845], 0, 0) :: gs, h844, none)
  refine bp_rbF bu_236_15 (fun rb847 => ?_)
  exact kk _ _ e846
set_option maxHeartbeats 4000000 in
theorem kd_41l {p : Int32} {A0 : Nat → Nat → Int32} : ∀ NN : Nat, (∀ (h' : mm_H) (A' : Nat → Nat → Int32) (lv : mm_V) (o : Option Value), bm_P mw_T E h0 h' s A' L → (∀ c, c ≠ 132 → A' c = A0 c) → mm_get lv 0 = some (.ref (E.1 + 88)) → bp_G E PO NN ((41, 49, lv, [], 0, 0) :: gs, h', o)) → (∀ (h : mm_H) (A : Nat → Nat → Int32) (lv : mm_V) (o : Option Value) (k : Int32), bm_P mw_T E h0 h s A L → (∀ c, c ≠ 132 → A c = A0 c) → mm_get lv 0 = some (.ref (E.1 + 88)) → mm_get lv 1 = some (.int p) → mm_get lv 2 = some (.int k) → bp_G E PO NN ((41, 20, lv, [], 0, 0) :: gs, h, o)) := by
  intro NN
  induction NN with
  | zero => intro kk h A lv o k hP hA g0 g1 g2; exact bp_zero bu_41_20
  | succ NN ih =>
    intro kk h A lv o k hP hA g0 g1 g2
    refine bp_ld (pc' := 21) bu_41_20 rfl rfl (fun _ _ _ => rfl) g2 rfl ?_
    refine bp_c (pc' := 23) (n := 60) bu_41_21 rfl rfl (fun _ _ _ => rfl) (by decide) (fun c848 e849 => ?_)
    refine bp_ic (pc' := 26) (pt := 49) bu_41_23 rfl rfl (fun k850 => ?_) (fun k850 => ?_)
    · replace k850 : (c848).toInt ≤ (k).toInt := k850
      exact kk _ _ _ _ hP hA g0
    · replace k850 : ¬ ((c848).toInt ≤ (k).toInt) := k850
      refine bp_ld (pc' := 27) bu_41_26 rfl rfl (fun _ _ _ => rfl) g0 rfl ?_
      refine bn_gr (pc' := 30) (t := 132) bu_41_27 rfl rfl (fun _ _ _ => rfl) hP mw_o88 mw_r88_72 ?_
      refine bp_c (pc' := 32) (n := 60) bu_41_30 rfl rfl (fun _ _ _ => rfl) (by decide) (fun c851 e852 => ?_)
      refine bp_ld (pc' := 33) bu_41_32 rfl rfl (fun _ _ _ => rfl) g1 rfl ?_
      refine bp_mulA (pc' := 34) bu_41_33 rfl (fun v853 => ?_)
      refine bp_ld (pc' := 35) bu_41_34 rfl rfl (fun _ _ _ => rfl) g2 rfl ?_
      refine bp_addA (pc' := 36) bu_41_35 rfl (fun v854 => ?_)
      refine bp_ld (pc' := 37) bu_41_36 rfl rfl (fun _ _ _ => rfl) g0 rfl ?_
      refine bn_gr (pc' := 40) (t := 118) bu_41_37 rfl rfl (fun _ _ _ => rfl) hP mw_o88 mw_r88_47 ?_
      refine bp_ld (pc' := 41) bu_41_40 rfl rfl (fun _ _ _ => rfl) g2 rfl ?_
      refine bn_iaF (pc' := 42) bu_41_41 rfl rfl (fun _ _ _ => rfl) hP mw_a118 (Or.inl rfl) (fun b855 b856 => ?_)
      refine bn_iasF (pc' := 43) bu_41_42 rfl rfl (fun _ _ _ => rfl) hP mw_a132 (Or.inl rfl) (fun b859 b860 h857 hP858 => ?_)
      refine bn_incx (pc' := 46) bu_41_43 rfl (by decide) g2 (by decide) (fun lv861 y864 F862 g863 e865 => ?_)
      have g866 := F862 0 (.ref (E.1 + 88)) g0 (by decide) (Or.inl rfl)
      have g867 := F862 1 (.int p) g1 (by decide) (Or.inl rfl)
      refine bp_goD (pc' := 20) bu_41_46 rfl ?_
      exact ih (fun h' A' lv o a0 a1 a2 => bp_mono (Nat.le_succ NN) (kk h' A' lv o a0 a1 a2)) _ _ _ _ _ hP858 (fun c c1 => (bh_up_ne c1).trans (hA c c1)) g866 g867 g863
set_option maxHeartbeats 4000000 in
theorem kd_41 {p : Int32} (hP : bm_P mw_T E h0 h s A L) (kk : ∀ (h' : mm_H) (r : Int32), kd_Phd (A 131) (br_A h' 131) p → bp_G E PO NN (mm_back (some (.int r)) gs h')) : bp_G E PO NN ((41, 0, [(0, .ref (E.1 + 88)), (1, .int p)], [], 0, 0) :: gs, h, none) := by
  refine bp_ld (pc' := 1) bu_41_0 rfl rfl (fun _ _ _ => rfl) rfl rfl ?_
  refine bp_c (pc' := 2) (n := 0) bu_41_1 rfl rfl (fun _ _ _ => rfl) (by decide) (fun c868 e869 => ?_)
  refine bp_c (pc' := 3) (n := 2) bu_41_2 rfl rfl (fun _ _ _ => rfl) (by decide) (fun c870 e871 => ?_)
  refine bp_csF (pc' := 6) (st := []) (args := [.int c870, .int c868, .int p]) bu_41_3 rfl rfl (by decide) rfl (Nat.le_of_ble_eq_true rfl) (Nat.le_of_ble_eq_true rfl) ?_
  refine kd_43 (x := p) (y := c868) (z := c870) (fun r872 e873 => ?_)
  show bp_G E PO NN ((41, 6, _, [.int r872], 0, 0) :: gs, h, none)
  refine bp_i0 (pc' := 9) (pt := 11) bu_41_6 rfl rfl (fun k874 => ?_) (fun k874 => ?_)
  · replace k874 : (r872).toInt ≠ 0 := k874
    refine bp_ld (pc' := 12) bu_41_11 rfl rfl (fun _ _ _ => rfl) rfl rfl ?_
    refine bn_gr (pc' := 15) (t := 131) bu_41_12 rfl rfl (fun _ _ _ => rfl) hP mw_o88 mw_r88_71 ?_
    refine bp_ld (pc' := 16) bu_41_15 rfl rfl (fun _ _ _ => rfl) rfl rfl ?_
    refine bp_c (pc' := 17) (n := 1) bu_41_16 rfl rfl (fun _ _ _ => rfl) (by decide) (fun c875 e876 => ?_)
    refine bn_iasF (pc' := 18) bu_41_17 rfl rfl (fun _ _ _ => rfl) hP mw_a131 (Or.inr rfl) (fun b879 b880 h877 hP878 => ?_)
    refine bp_c (pc' := 19) (n := 0) bu_41_18 rfl rfl (fun _ _ _ => rfl) (by decide) (fun c881 e882 => ?_)
    refine bp_st (pc' := 20) bu_41_19 rfl rfl (fun _ _ _ => rfl) rfl (by decide) (by decide) (fun lv883 F884 g885 => ?_)
    have g886 := F884 0 (.ref (E.1 + 88)) rfl (by decide) (Or.inl rfl)
    have g887 := F884 1 (.int p) rfl (by decide) (Or.inl rfl)
    refine kd_41l (A0 := (bh_up A 131 (p).toInt.toNat (mm_nar 2 c875))) NN (fun h888 A889 lv890 o891 hP892 a893 g894 => ?_) _ _ _ _ _ hP878 (fun _ _ => rfl) g886 g887 g885
    refine bp_c (pc' := 50) (n := 1) bu_41_49 rfl rfl (fun _ _ _ => rfl) (by decide) (fun c895 e896 => ?_)
    refine bp_rbF bu_41_50 (fun rb897 => ?_)
    have w9 : br_A _ 131 = _ := bm_wA (q := (131, 2, 3)) hP892 mw_a131
    rw [a893 131 (by decide)] at w9
    refine kk _ _ ⟨fun _ => ⟨?_, fun j hj => ?_⟩, fun q => absurd (by omega) q⟩
    · rw [w9, bh_up_i]; exact kd_nar2 (by omega)
    · rw [w9]; exact bh_up_j hj
  · replace k874 : ¬ ((r872).toInt ≠ 0) := k874
    refine bp_c (pc' := 10) (n := 0) bu_41_9 rfl rfl (fun _ _ _ => rfl) (by decide) (fun c898 e899 => ?_)
    refine bp_rbF bu_41_10 (fun rb900 => ?_)
    have w9 : br_A _ 131 = _ := bm_wA (q := (131, 2, 3)) hP mw_a131
    exact kk _ _ ⟨fun q => absurd q (by omega), fun _ => w9⟩
end KD
