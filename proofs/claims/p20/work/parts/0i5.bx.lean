/-! BY HAND: the reference's reader, 4: men, and one thing told (wip/p3/bh4.py) -/
theorem bh_dup2 {E : mm_E} {FIN : mm_C → Prop} {h : mm_H} {m pc pc' pc0 len a b wd nL : Nat} {dd : mm_M} {z : Int} {lv : mm_V} {st : List Value} {gs : List mm_F} {o : Option Value} {v w : Value} (hat : mm_at mt_P m pc = some ((pc0, len, .dup2, a, b, z, wd), nL, dd)) (hp : pc + len = pc') (hv : v.category = 1) (hw : w.category = 1) (g : bh_G E FIN ((m, pc', lv, v :: w :: v :: w :: st, 0, 0) :: gs, h, none)) : bh_G E FIN ((m, pc, lv, v :: w :: st, 0, 0) :: gs, h, o) := by
  subst hp
  refine bh_s1 hat rfl rfl ?_ g
  simp only [mm_ex]
  rw [if_pos ⟨hv, hw⟩]
/-- what a man leaves -/
def rd_M (s0 s : Nat → Int32) (A0 A : Nat → Nat → Int32) : Prop := (∀ j, j ≠ 11 → j ≠ 13 → j ≠ 14 → j ≠ 15 → j ≠ 16 → j ≠ 20 → s j = s0 j) ∧ (∀ k j, (k = 91 ∨ 106 ≤ k) → A k j = A0 k j) ∧ (∀ j, j ≠ (s0 19).toInt.toNat → A 97 j = A0 97 j) ∧ (s0 11).toInt ≤ (s 11).toInt ∧ (s 11).toInt ≤ 400 ∧ 0 ≤ (s 13).toInt ∧ 0 ≤ (s 20).toInt ∧ (s 20).toInt ≤ 6 ∧ (A 97 (s0 19).toInt.toNat).toInt = (s 20).toInt ∧ ((s 13).toInt = 0 → (s0 11).toInt + 1 ≤ (s 11).toInt)
theorem bt_10_0 : mm_at mt_P 10 0 = some ((0, 1, .aload_n 0, 0, 0, 0, 0), 4, 2, 1, 9, 1, 0, 0) := rfl
theorem bt_10_1 : mm_at mt_P 10 1 = some ((1, 3, .getfield 203, 9, 13, 0, 1230), 4, 2, 1, 9, 1, 0, 0) := rfl
theorem bt_10_4 : mm_at mt_P 10 4 = some ((4, 3, .ifCond .gt 11, 0, 0, 0, 0), 4, 2, 1, 9, 1, 0, 0) := rfl
theorem bt_10_7 : mm_at mt_P 10 7 = some ((7, 1, .aload_n 0, 0, 0, 0, 0), 4, 2, 1, 9, 1, 0, 0) := rfl
theorem bt_10_8 : mm_at mt_P 10 8 = some ((8, 1, .iconst 2, 0, 0, 0, 0), 4, 2, 1, 9, 1, 0, 0) := rfl
theorem bt_10_9 : mm_at mt_P 10 9 = some ((9, 3, .invokevirtual 221, 45, 0, 0, 1475), 4, 2, 1, 9, 1, 0, 0) := rfl
theorem bt_10_12 : mm_at mt_P 10 12 = some ((12, 3, .ifCond .ne 10, 0, 0, 0, 0), 4, 2, 1, 9, 1, 0, 0) := rfl
theorem bt_10_15 : mm_at mt_P 10 15 = some ((15, 1, .aload_n 0, 0, 0, 0, 0), 4, 2, 1, 9, 1, 0, 0) := rfl
theorem bt_10_16 : mm_at mt_P 10 16 = some ((16, 1, .iconst 1, 0, 0, 0, 0), 4, 2, 1, 9, 1, 0, 0) := rfl
theorem bt_10_17 : mm_at mt_P 10 17 = some ((17, 3, .invokevirtual 218, 27, 0, 0, 1483), 4, 2, 1, 9, 1, 0, 0) := rfl
theorem bt_10_20 : mm_at mt_P 10 20 = some ((20, 1, .iload_n 1, 0, 0, 0, 0), 4, 2, 1, 9, 1, 0, 0) := rfl
theorem bt_10_21 : mm_at mt_P 10 21 = some ((21, 1, .ireturn, 0, 0, 0, 0), 4, 2, 1, 9, 1, 0, 0) := rfl
theorem bt_10_22 : mm_at mt_P 10 22 = some ((22, 1, .aload_n 0, 0, 0, 0, 0), 4, 2, 1, 9, 1, 0, 0) := rfl
theorem bt_10_23 : mm_at mt_P 10 23 = some ((23, 3, .getfield 27, 9, 7, 0, 1224), 4, 2, 1, 9, 1, 0, 0) := rfl
theorem bt_10_26 : mm_at mt_P 10 26 = some ((26, 1, .aload_n 0, 0, 0, 0, 0), 4, 2, 1, 9, 1, 0, 0) := rfl
theorem bt_10_27 : mm_at mt_P 10 27 = some ((27, 3, .getfield 206, 9, 11, 0, 1228), 4, 2, 1, 9, 1, 0, 0) := rfl
theorem bt_10_30 : mm_at mt_P 10 30 = some ((30, 1, .iaload, 0, 0, 0, 0), 4, 2, 1, 9, 1, 0, 0) := rfl
theorem bt_10_31 : mm_at mt_P 10 31 = some ((31, 1, .istore_n 3, 0, 0, 0, 0), 4, 2, 1, 9, 1, 0, 0) := rfl
theorem bt_10_32 : mm_at mt_P 10 32 = some ((32, 1, .iload_n 3, 0, 0, 0, 0), 4, 2, 1, 9, 1, 0, 0) := rfl
theorem bt_10_33 : mm_at mt_P 10 33 = some ((33, 1, .iload_n 1, 0, 0, 0, 0), 4, 2, 1, 9, 1, 0, 0) := rfl
theorem bt_10_34 : mm_at mt_P 10 34 = some ((34, 3, .if_icmp .lt 8, 0, 0, 0, 0), 4, 2, 1, 9, 1, 0, 0) := rfl
theorem bt_10_37 : mm_at mt_P 10 37 = some ((37, 1, .iload_n 3, 0, 0, 0, 0), 4, 2, 1, 9, 1, 0, 0) := rfl
theorem bt_10_38 : mm_at mt_P 10 38 = some ((38, 1, .iload_n 2, 0, 0, 0, 0), 4, 2, 1, 9, 1, 0, 0) := rfl
theorem bt_10_39 : mm_at mt_P 10 39 = some ((39, 3, .if_icmp .le 12, 0, 0, 0, 0), 4, 2, 1, 9, 1, 0, 0) := rfl
theorem bt_10_42 : mm_at mt_P 10 42 = some ((42, 1, .aload_n 0, 0, 0, 0, 0), 4, 2, 1, 9, 1, 0, 0) := rfl
theorem bt_10_43 : mm_at mt_P 10 43 = some ((43, 1, .iconst 5, 0, 0, 0, 0), 4, 2, 1, 9, 1, 0, 0) := rfl
theorem bt_10_44 : mm_at mt_P 10 44 = some ((44, 1, .aload_n 0, 0, 0, 0, 0), 4, 2, 1, 9, 1, 0, 0) := rfl
theorem bt_10_45 : mm_at mt_P 10 45 = some ((45, 3, .getfield 206, 9, 11, 0, 1228), 4, 2, 1, 9, 1, 0, 0) := rfl
theorem bt_10_48 : mm_at mt_P 10 48 = some ((48, 3, .invokevirtual 273, 112, 0, 0, 1499), 4, 2, 1, 9, 1, 0, 0) := rfl
theorem bt_10_51 : mm_at mt_P 10 51 = some ((51, 1, .aload_n 0, 0, 0, 0, 0), 4, 2, 1, 9, 1, 0, 0) := rfl
theorem bt_10_52 : mm_at mt_P 10 52 = some ((52, 3, .invokevirtual 224, 37, 0, 0, 1491), 4, 2, 1, 9, 1, 0, 0) := rfl
theorem bt_10_55 : mm_at mt_P 10 55 = some ((55, 1, .iload_n 3, 0, 0, 0, 0), 4, 2, 1, 9, 1, 0, 0) := rfl
theorem bt_10_56 : mm_at mt_P 10 56 = some ((56, 1, .ireturn, 0, 0, 0, 0), 4, 2, 1, 9, 1, 0, 0) := rfl
theorem bt_98_0 : mm_at mt_P 98 0 = some ((0, 1, .aload_n 0, 0, 0, 0, 0), 4, 0, 1, 9, 0, 0, 0) := rfl
theorem bt_98_1 : mm_at mt_P 98 1 = some ((1, 3, .invokevirtual 224, 37, 0, 0, 1491), 4, 0, 1, 9, 0, 0, 0) := rfl
theorem bt_98_4 : mm_at mt_P 98 4 = some ((4, 2, .bipush 6, 0, 0, 0, 0), 4, 0, 1, 9, 0, 0, 0) := rfl
theorem bt_98_6 : mm_at mt_P 98 6 = some ((6, 1, .aload_n 0, 0, 0, 0, 0), 4, 0, 1, 9, 0, 0, 0) := rfl
theorem bt_98_7 : mm_at mt_P 98 7 = some ((7, 3, .getfield 236, 9, 19, 0, 1236), 4, 0, 1, 9, 0, 0, 0) := rfl
theorem bt_98_10 : mm_at mt_P 98 10 = some ((10, 1, .imul, 0, 0, 0, 0), 4, 0, 1, 9, 0, 0, 0) := rfl
theorem bt_98_11 : mm_at mt_P 98 11 = some ((11, 1, .aload_n 0, 0, 0, 0, 0), 4, 0, 1, 9, 0, 0, 0) := rfl
theorem bt_98_12 : mm_at mt_P 98 12 = some ((12, 3, .getfield 43, 9, 22, 0, 1239), 4, 0, 1, 9, 0, 0, 0) := rfl
theorem bt_98_15 : mm_at mt_P 98 15 = some ((15, 1, .aload_n 0, 0, 0, 0, 0), 4, 0, 1, 9, 0, 0, 0) := rfl
theorem bt_98_16 : mm_at mt_P 98 16 = some ((16, 3, .getfield 236, 9, 19, 0, 1236), 4, 0, 1, 9, 0, 0, 0) := rfl
theorem bt_98_19 : mm_at mt_P 98 19 = some ((19, 1, .iaload, 0, 0, 0, 0), 4, 0, 1, 9, 0, 0, 0) := rfl
theorem bt_98_20 : mm_at mt_P 98 20 = some ((20, 1, .iadd, 0, 0, 0, 0), 4, 0, 1, 9, 0, 0, 0) := rfl
theorem bt_98_21 : mm_at mt_P 98 21 = some ((21, 1, .istore_n 1, 0, 0, 0, 0), 4, 0, 1, 9, 0, 0, 0) := rfl
theorem bt_98_22 : mm_at mt_P 98 22 = some ((22, 1, .aload_n 0, 0, 0, 0, 0), 4, 0, 1, 9, 0, 0, 0) := rfl
theorem bt_98_23 : mm_at mt_P 98 23 = some ((23, 3, .getfield 206, 9, 11, 0, 1228), 4, 0, 1, 9, 0, 0, 0) := rfl
theorem bt_98_26 : mm_at mt_P 98 26 = some ((26, 1, .istore_n 2, 0, 0, 0, 0), 4, 0, 1, 9, 0, 0, 0) := rfl
theorem bt_98_27 : mm_at mt_P 98 27 = some ((27, 1, .aload_n 0, 0, 0, 0, 0), 4, 0, 1, 9, 0, 0, 0) := rfl
theorem bt_98_28 : mm_at mt_P 98 28 = some ((28, 1, .iconst 1, 0, 0, 0, 0), 4, 0, 1, 9, 0, 0, 0) := rfl
theorem bt_98_29 : mm_at mt_P 98 29 = some ((29, 3, .invokevirtual 267, 67, 0, 0, 1495), 4, 0, 1, 9, 0, 0, 0) := rfl
theorem bt_98_32 : mm_at mt_P 98 32 = some ((32, 1, .iconst 0, 0, 0, 0, 0), 4, 0, 1, 9, 0, 0, 0) := rfl
theorem bt_98_33 : mm_at mt_P 98 33 = some ((33, 1, .istore_n 3, 0, 0, 0, 0), 4, 0, 1, 9, 0, 0, 0) := rfl
theorem bt_98_34 : mm_at mt_P 98 34 = some ((34, 1, .iload_n 3, 0, 0, 0, 0), 4, 0, 1, 9, 0, 0, 0) := rfl
theorem bt_98_35 : mm_at mt_P 98 35 = some ((35, 1, .aload_n 0, 0, 0, 0, 0), 4, 0, 1, 9, 0, 0, 0) := rfl
theorem bt_98_36 : mm_at mt_P 98 36 = some ((36, 3, .getfield 239, 9, 20, 0, 1237), 4, 0, 1, 9, 0, 0, 0) := rfl
theorem bt_98_39 : mm_at mt_P 98 39 = some ((39, 3, .if_icmp .ge 38, 0, 0, 0, 0), 4, 0, 1, 9, 0, 0, 0) := rfl
theorem bt_98_42 : mm_at mt_P 98 42 = some ((42, 1, .aload_n 0, 0, 0, 0, 0), 4, 0, 1, 9, 0, 0, 0) := rfl
theorem bt_98_43 : mm_at mt_P 98 43 = some ((43, 3, .getfield 203, 9, 13, 0, 1230), 4, 0, 1, 9, 0, 0, 0) := rfl
theorem bt_98_46 : mm_at mt_P 98 46 = some ((46, 3, .ifCond .ne 31, 0, 0, 0, 0), 4, 0, 1, 9, 0, 0, 0) := rfl
theorem bt_98_49 : mm_at mt_P 98 49 = some ((49, 1, .aload_n 0, 0, 0, 0, 0), 4, 0, 1, 9, 0, 0, 0) := rfl
theorem bt_98_50 : mm_at mt_P 98 50 = some ((50, 3, .getfield 40, 9, 21, 0, 1238), 4, 0, 1, 9, 0, 0, 0) := rfl
theorem bt_98_53 : mm_at mt_P 98 53 = some ((53, 1, .iload_n 3, 0, 0, 0, 0), 4, 0, 1, 9, 0, 0, 0) := rfl
theorem bt_98_54 : mm_at mt_P 98 54 = some ((54, 1, .laload, 0, 0, 0, 0), 4, 0, 1, 9, 0, 0, 0) := rfl
theorem bt_98_55 : mm_at mt_P 98 55 = some ((55, 1, .aload_n 0, 0, 0, 0, 0), 4, 0, 1, 9, 0, 0, 0) := rfl
theorem bt_98_56 : mm_at mt_P 98 56 = some ((56, 3, .getfield 30, 9, 8, 0, 1225), 4, 0, 1, 9, 0, 0, 0) := rfl
theorem bt_98_59 : mm_at mt_P 98 59 = some ((59, 1, .iload_n 2, 0, 0, 0, 0), 4, 0, 1, 9, 0, 0, 0) := rfl
theorem bt_98_60 : mm_at mt_P 98 60 = some ((60, 1, .laload, 0, 0, 0, 0), 4, 0, 1, 9, 0, 0, 0) := rfl
theorem bt_98_61 : mm_at mt_P 98 61 = some ((61, 1, .lcmp, 0, 0, 0, 0), 4, 0, 1, 9, 0, 0, 0) := rfl
theorem bt_98_62 : mm_at mt_P 98 62 = some ((62, 3, .ifCond .ne 9, 0, 0, 0, 0), 4, 0, 1, 9, 0, 0, 0) := rfl
theorem bt_98_65 : mm_at mt_P 98 65 = some ((65, 1, .aload_n 0, 0, 0, 0, 0), 4, 0, 1, 9, 0, 0, 0) := rfl
theorem bt_98_66 : mm_at mt_P 98 66 = some ((66, 1, .iconst 3, 0, 0, 0, 0), 4, 0, 1, 9, 0, 0, 0) := rfl
theorem bt_98_67 : mm_at mt_P 98 67 = some ((67, 1, .iload_n 2, 0, 0, 0, 0), 4, 0, 1, 9, 0, 0, 0) := rfl
theorem bt_98_68 : mm_at mt_P 98 68 = some ((68, 3, .invokevirtual 273, 112, 0, 0, 1499), 4, 0, 1, 9, 0, 0, 0) := rfl
theorem bt_98_71 : mm_at mt_P 98 71 = some ((71, 3, .iinc 3 1, 0, 0, 0, 0), 4, 0, 1, 9, 0, 0, 0) := rfl
theorem bt_98_74 : mm_at mt_P 98 74 = some ((74, 3, .goto (-40), 0, 0, 0, 0), 4, 0, 1, 9, 0, 0, 0) := rfl
theorem bt_98_77 : mm_at mt_P 98 77 = some ((77, 1, .iconst 0, 0, 0, 0, 0), 4, 0, 1, 9, 0, 0, 0) := rfl
theorem bt_98_78 : mm_at mt_P 98 78 = some ((78, 1, .istore_n 3, 0, 0, 0, 0), 4, 0, 1, 9, 0, 0, 0) := rfl
theorem bt_98_79 : mm_at mt_P 98 79 = some ((79, 1, .iload_n 3, 0, 0, 0, 0), 4, 0, 1, 9, 0, 0, 0) := rfl
theorem bt_98_80 : mm_at mt_P 98 80 = some ((80, 1, .iconst 4, 0, 0, 0, 0), 4, 0, 1, 9, 0, 0, 0) := rfl
theorem bt_98_81 : mm_at mt_P 98 81 = some ((81, 3, .if_icmp .ge 26, 0, 0, 0, 0), 4, 0, 1, 9, 0, 0, 0) := rfl
theorem bt_98_84 : mm_at mt_P 98 84 = some ((84, 1, .aload_n 0, 0, 0, 0, 0), 4, 0, 1, 9, 0, 0, 0) := rfl
theorem bt_98_85 : mm_at mt_P 98 85 = some ((85, 3, .getfield 46, 9, 23, 0, 1240), 4, 0, 1, 9, 0, 0, 0) := rfl
theorem bt_98_88 : mm_at mt_P 98 88 = some ((88, 1, .iconst 4, 0, 0, 0, 0), 4, 0, 1, 9, 0, 0, 0) := rfl
theorem bt_98_89 : mm_at mt_P 98 89 = some ((89, 1, .iload_n 1, 0, 0, 0, 0), 4, 0, 1, 9, 0, 0, 0) := rfl
theorem bt_98_90 : mm_at mt_P 98 90 = some ((90, 1, .imul, 0, 0, 0, 0), 4, 0, 1, 9, 0, 0, 0) := rfl
theorem bt_98_91 : mm_at mt_P 98 91 = some ((91, 1, .iload_n 3, 0, 0, 0, 0), 4, 0, 1, 9, 0, 0, 0) := rfl
theorem bt_98_92 : mm_at mt_P 98 92 = some ((92, 1, .iadd, 0, 0, 0, 0), 4, 0, 1, 9, 0, 0, 0) := rfl
theorem bt_98_93 : mm_at mt_P 98 93 = some ((93, 1, .aload_n 0, 0, 0, 0, 0), 4, 0, 1, 9, 0, 0, 0) := rfl
theorem bt_98_94 : mm_at mt_P 98 94 = some ((94, 1, .iconst 0, 0, 0, 0, 0), 4, 0, 1, 9, 0, 0, 0) := rfl
theorem bt_98_95 : mm_at mt_P 98 95 = some ((95, 2, .bipush 9, 0, 0, 0, 0), 4, 0, 1, 9, 0, 0, 0) := rfl
theorem bt_98_97 : mm_at mt_P 98 97 = some ((97, 3, .invokevirtual 263, 10, 0, 0, 1503), 4, 0, 1, 9, 0, 0, 0) := rfl
theorem bt_98_100 : mm_at mt_P 98 100 = some ((100, 1, .iastore, 0, 0, 0, 0), 4, 0, 1, 9, 0, 0, 0) := rfl
theorem bt_98_101 : mm_at mt_P 98 101 = some ((101, 3, .iinc 3 1, 0, 0, 0, 0), 4, 0, 1, 9, 0, 0, 0) := rfl
theorem bt_98_104 : mm_at mt_P 98 104 = some ((104, 3, .goto (-25), 0, 0, 0, 0), 4, 0, 1, 9, 0, 0, 0) := rfl
theorem bt_98_107 : mm_at mt_P 98 107 = some ((107, 1, .aload_n 0, 0, 0, 0, 0), 4, 0, 1, 9, 0, 0, 0) := rfl
theorem bt_98_108 : mm_at mt_P 98 108 = some ((108, 3, .getfield 49, 9, 24, 0, 1241), 4, 0, 1, 9, 0, 0, 0) := rfl
theorem bt_98_111 : mm_at mt_P 98 111 = some ((111, 1, .iload_n 1, 0, 0, 0, 0), 4, 0, 1, 9, 0, 0, 0) := rfl
theorem bt_98_112 : mm_at mt_P 98 112 = some ((112, 1, .aload_n 0, 0, 0, 0, 0), 4, 0, 1, 9, 0, 0, 0) := rfl
theorem bt_98_113 : mm_at mt_P 98 113 = some ((113, 1, .iconst 0, 0, 0, 0, 0), 4, 0, 1, 9, 0, 0, 0) := rfl
theorem bt_98_114 : mm_at mt_P 98 114 = some ((114, 2, .bipush 9, 0, 0, 0, 0), 4, 0, 1, 9, 0, 0, 0) := rfl
theorem bt_98_116 : mm_at mt_P 98 116 = some ((116, 3, .invokevirtual 263, 10, 0, 0, 1503), 4, 0, 1, 9, 0, 0, 0) := rfl
theorem bt_98_119 : mm_at mt_P 98 119 = some ((119, 1, .iastore, 0, 0, 0, 0), 4, 0, 1, 9, 0, 0, 0) := rfl
theorem bt_98_120 : mm_at mt_P 98 120 = some ((120, 1, .aload_n 0, 0, 0, 0, 0), 4, 0, 1, 9, 0, 0, 0) := rfl
theorem bt_98_121 : mm_at mt_P 98 121 = some ((121, 1, .iconst 4, 0, 0, 0, 0), 4, 0, 1, 9, 0, 0, 0) := rfl
theorem bt_98_122 : mm_at mt_P 98 122 = some ((122, 3, .invokevirtual 267, 67, 0, 0, 1495), 4, 0, 1, 9, 0, 0, 0) := rfl
theorem bt_98_125 : mm_at mt_P 98 125 = some ((125, 1, .aload_n 0, 0, 0, 0, 0), 4, 0, 1, 9, 0, 0, 0) := rfl
theorem bt_98_126 : mm_at mt_P 98 126 = some ((126, 3, .getfield 203, 9, 13, 0, 1230), 4, 0, 1, 9, 0, 0, 0) := rfl
theorem bt_98_129 : mm_at mt_P 98 129 = some ((129, 3, .ifCond .le 4, 0, 0, 0, 0), 4, 0, 1, 9, 0, 0, 0) := rfl
theorem bt_98_132 : mm_at mt_P 98 132 = some ((132, 1, .return_, 0, 0, 0, 0), 4, 0, 1, 9, 0, 0, 0) := rfl
theorem bt_98_133 : mm_at mt_P 98 133 = some ((133, 1, .aload_n 0, 0, 0, 0, 0), 4, 0, 1, 9, 0, 0, 0) := rfl
theorem bt_98_134 : mm_at mt_P 98 134 = some ((134, 3, .getfield 40, 9, 21, 0, 1238), 4, 0, 1, 9, 0, 0, 0) := rfl
theorem bt_98_137 : mm_at mt_P 98 137 = some ((137, 1, .aload_n 0, 0, 0, 0, 0), 4, 0, 1, 9, 0, 0, 0) := rfl
theorem bt_98_138 : mm_at mt_P 98 138 = some ((138, 3, .getfield 239, 9, 20, 0, 1237), 4, 0, 1, 9, 0, 0, 0) := rfl
theorem bt_98_141 : mm_at mt_P 98 141 = some ((141, 1, .aload_n 0, 0, 0, 0, 0), 4, 0, 1, 9, 0, 0, 0) := rfl
theorem bt_98_142 : mm_at mt_P 98 142 = some ((142, 3, .getfield 30, 9, 8, 0, 1225), 4, 0, 1, 9, 0, 0, 0) := rfl
theorem bt_98_145 : mm_at mt_P 98 145 = some ((145, 1, .iload_n 2, 0, 0, 0, 0), 4, 0, 1, 9, 0, 0, 0) := rfl
theorem bt_98_146 : mm_at mt_P 98 146 = some ((146, 1, .laload, 0, 0, 0, 0), 4, 0, 1, 9, 0, 0, 0) := rfl
theorem bt_98_147 : mm_at mt_P 98 147 = some ((147, 1, .lastore, 0, 0, 0, 0), 4, 0, 1, 9, 0, 0, 0) := rfl
theorem bt_98_148 : mm_at mt_P 98 148 = some ((148, 1, .aload_n 0, 0, 0, 0, 0), 4, 0, 1, 9, 0, 0, 0) := rfl
theorem bt_98_149 : mm_at mt_P 98 149 = some ((149, 1, .dup, 0, 0, 0, 0), 4, 0, 1, 9, 0, 0, 0) := rfl
theorem bt_98_150 : mm_at mt_P 98 150 = some ((150, 3, .getfield 239, 9, 20, 0, 1237), 4, 0, 1, 9, 0, 0, 0) := rfl
theorem bt_98_153 : mm_at mt_P 98 153 = some ((153, 1, .iconst 1, 0, 0, 0, 0), 4, 0, 1, 9, 0, 0, 0) := rfl
theorem bt_98_154 : mm_at mt_P 98 154 = some ((154, 1, .iadd, 0, 0, 0, 0), 4, 0, 1, 9, 0, 0, 0) := rfl
theorem bt_98_155 : mm_at mt_P 98 155 = some ((155, 3, .putfield 239, 9, 20, 0, 1237), 4, 0, 1, 9, 0, 0, 0) := rfl
theorem bt_98_158 : mm_at mt_P 98 158 = some ((158, 1, .aload_n 0, 0, 0, 0, 0), 4, 0, 1, 9, 0, 0, 0) := rfl
theorem bt_98_159 : mm_at mt_P 98 159 = some ((159, 3, .getfield 43, 9, 22, 0, 1239), 4, 0, 1, 9, 0, 0, 0) := rfl
theorem bt_98_162 : mm_at mt_P 98 162 = some ((162, 1, .aload_n 0, 0, 0, 0, 0), 4, 0, 1, 9, 0, 0, 0) := rfl
theorem bt_98_163 : mm_at mt_P 98 163 = some ((163, 3, .getfield 236, 9, 19, 0, 1236), 4, 0, 1, 9, 0, 0, 0) := rfl
theorem bt_98_166 : mm_at mt_P 98 166 = some ((166, 1, .dup2, 0, 0, 0, 0), 4, 0, 1, 9, 0, 0, 0) := rfl
theorem bt_98_167 : mm_at mt_P 98 167 = some ((167, 1, .iaload, 0, 0, 0, 0), 4, 0, 1, 9, 0, 0, 0) := rfl
theorem bt_98_168 : mm_at mt_P 98 168 = some ((168, 1, .iconst 1, 0, 0, 0, 0), 4, 0, 1, 9, 0, 0, 0) := rfl
theorem bt_98_169 : mm_at mt_P 98 169 = some ((169, 1, .iadd, 0, 0, 0, 0), 4, 0, 1, 9, 0, 0, 0) := rfl
theorem bt_98_170 : mm_at mt_P 98 170 = some ((170, 1, .iastore, 0, 0, 0, 0), 4, 0, 1, 9, 0, 0, 0) := rfl
theorem bt_98_171 : mm_at mt_P 98 171 = some ((171, 1, .return_, 0, 0, 0, 0), 4, 0, 1, 9, 0, 0, 0) := rfl
theorem bt_112_0 : mm_at mt_P 112 0 = some ((0, 1, .aload_n 0, 0, 0, 0, 0), 4, 2, 1, 9, 0, 0, 0) := rfl
theorem bt_112_1 : mm_at mt_P 112 1 = some ((1, 3, .getfield 24, 9, 6, 0, 1223), 4, 2, 1, 9, 0, 0, 0) := rfl
theorem bt_112_4 : mm_at mt_P 112 4 = some ((4, 1, .iload_n 2, 0, 0, 0, 0), 4, 2, 1, 9, 0, 0, 0) := rfl
theorem bt_112_5 : mm_at mt_P 112 5 = some ((5, 1, .iaload, 0, 0, 0, 0), 4, 2, 1, 9, 0, 0, 0) := rfl
theorem bt_112_6 : mm_at mt_P 112 6 = some ((6, 1, .istore_n 3, 0, 0, 0, 0), 4, 2, 1, 9, 0, 0, 0) := rfl
theorem bt_112_7 : mm_at mt_P 112 7 = some ((7, 1, .aload_n 0, 0, 0, 0, 0), 4, 2, 1, 9, 0, 0, 0) := rfl
theorem bt_112_8 : mm_at mt_P 112 8 = some ((8, 3, .getfield 203, 9, 13, 0, 1230), 4, 2, 1, 9, 0, 0, 0) := rfl
theorem bt_112_11 : mm_at mt_P 112 11 = some ((11, 3, .ifCond .gt 34, 0, 0, 0, 0), 4, 2, 1, 9, 0, 0, 0) := rfl
theorem bt_112_14 : mm_at mt_P 112 14 = some ((14, 1, .aload_n 0, 0, 0, 0, 0), 4, 2, 1, 9, 0, 0, 0) := rfl
theorem bt_112_15 : mm_at mt_P 112 15 = some ((15, 3, .getfield 212, 9, 15, 0, 1232), 4, 2, 1, 9, 0, 0, 0) := rfl
theorem bt_112_18 : mm_at mt_P 112 18 = some ((18, 3, .ifCond .eq 28, 0, 0, 0, 0), 4, 2, 1, 9, 0, 0, 0) := rfl
theorem bt_112_21 : mm_at mt_P 112 21 = some ((21, 1, .iload_n 3, 0, 0, 0, 0), 4, 2, 1, 9, 0, 0, 0) := rfl
theorem bt_112_22 : mm_at mt_P 112 22 = some ((22, 1, .aload_n 0, 0, 0, 0, 0), 4, 2, 1, 9, 0, 0, 0) := rfl
theorem bt_112_23 : mm_at mt_P 112 23 = some ((23, 3, .getfield 215, 9, 16, 0, 1233), 4, 2, 1, 9, 0, 0, 0) := rfl
theorem bt_112_26 : mm_at mt_P 112 26 = some ((26, 3, .if_icmp .gt 19, 0, 0, 0, 0), 4, 2, 1, 9, 0, 0, 0) := rfl
theorem bt_112_29 : mm_at mt_P 112 29 = some ((29, 1, .iload_n 3, 0, 0, 0, 0), 4, 2, 1, 9, 0, 0, 0) := rfl
theorem bt_112_30 : mm_at mt_P 112 30 = some ((30, 1, .aload_n 0, 0, 0, 0, 0), 4, 2, 1, 9, 0, 0, 0) := rfl
theorem bt_112_31 : mm_at mt_P 112 31 = some ((31, 3, .getfield 215, 9, 16, 0, 1233), 4, 2, 1, 9, 0, 0, 0) := rfl
theorem bt_112_34 : mm_at mt_P 112 34 = some ((34, 3, .if_icmp .ne 12, 0, 0, 0, 0), 4, 2, 1, 9, 0, 0, 0) := rfl
theorem bt_112_37 : mm_at mt_P 112 37 = some ((37, 1, .iload_n 1, 0, 0, 0, 0), 4, 2, 1, 9, 0, 0, 0) := rfl
theorem bt_112_38 : mm_at mt_P 112 38 = some ((38, 1, .aload_n 0, 0, 0, 0, 0), 4, 2, 1, 9, 0, 0, 0) := rfl
theorem bt_112_39 : mm_at mt_P 112 39 = some ((39, 3, .getfield 212, 9, 15, 0, 1232), 4, 2, 1, 9, 0, 0, 0) := rfl
theorem bt_112_42 : mm_at mt_P 112 42 = some ((42, 3, .if_icmp .lt 4, 0, 0, 0, 0), 4, 2, 1, 9, 0, 0, 0) := rfl
theorem bt_112_45 : mm_at mt_P 112 45 = some ((45, 1, .return_, 0, 0, 0, 0), 4, 2, 1, 9, 0, 0, 0) := rfl
theorem bt_112_46 : mm_at mt_P 112 46 = some ((46, 1, .aload_n 0, 0, 0, 0, 0), 4, 2, 1, 9, 0, 0, 0) := rfl
theorem bt_112_47 : mm_at mt_P 112 47 = some ((47, 1, .iload_n 1, 0, 0, 0, 0), 4, 2, 1, 9, 0, 0, 0) := rfl
theorem bt_112_48 : mm_at mt_P 112 48 = some ((48, 3, .putfield 212, 9, 15, 0, 1232), 4, 2, 1, 9, 0, 0, 0) := rfl
theorem bt_112_51 : mm_at mt_P 112 51 = some ((51, 1, .aload_n 0, 0, 0, 0, 0), 4, 2, 1, 9, 0, 0, 0) := rfl
theorem bt_112_52 : mm_at mt_P 112 52 = some ((52, 1, .iload_n 3, 0, 0, 0, 0), 4, 2, 1, 9, 0, 0, 0) := rfl
theorem bt_112_53 : mm_at mt_P 112 53 = some ((53, 3, .putfield 215, 9, 16, 0, 1233), 4, 2, 1, 9, 0, 0, 0) := rfl
theorem bt_112_56 : mm_at mt_P 112 56 = some ((56, 1, .return_, 0, 0, 0, 0), 4, 2, 1, 9, 0, 0, 0) := rfl
section BX
variable {E : mm_E} {FIN : mm_C → Prop} {h0 h : mm_H} {s : Nat → Int32} {A : Nat → Nat → Int32} {L : Nat → Nat → Int64} {gs : List mm_F}
theorem sp_112 {k t : Int32} (hP : bh_P bx_T E h0 h s A L) (b1 : 0 ≤ t.toInt) (b2 : t.toInt ≤ 402) (kk : ∀ (h' : mm_H) (s' : Nat → Int32), bh_P bx_T E h0 h' s' A L → (∀ j, j ≠ 15 → j ≠ 16 → s' j = s j) → bh_G E FIN (mm_back none gs h')) : bh_G E FIN ((112, 0, [(0, .ref (E.1 + 88)), (1, .int k), (2, .int t)], [], 0, 0) :: gs, h, none) := by
  refine bh_ld (pc' := 1) bt_112_0 rfl rfl (fun _ _ _ => rfl) rfl rfl ?_
  refine bh_gr (pc' := 4) (c := 92) bt_112_1 rfl rfl (fun _ _ _ => rfl) hP bx_r6 ?_
  refine bh_ld (pc' := 5) bt_112_4 rfl rfl (fun _ _ _ => rfl) rfl rfl ?_
  refine bh_ia (pc' := 6) bt_112_5 rfl rfl (fun _ _ _ => rfl) hP bx_a92 (Or.inl rfl) (by omega) (by omega) ?_
  refine bh_st (pc' := 7) bt_112_6 rfl rfl (fun _ _ _ => rfl) rfl (by decide) (by decide) (fun lv2070 F2071 g2072 => ?_)
  have g2073 := F2071 0 (.ref (E.1 + 88)) rfl (by decide) (Or.inl rfl)
  have g2074 := F2071 1 (.int k) rfl (by decide) (Or.inl rfl)
  have g2075 := F2071 2 (.int t) rfl (by decide) (Or.inl rfl)
  refine bh_ld (pc' := 8) bt_112_7 rfl rfl (fun _ _ _ => rfl) g2073 rfl ?_
  refine bh_gi (pc' := 11) bt_112_8 rfl rfl (fun _ _ _ => rfl) hP bx_i13 rfl ?_
  refine bh_i0 (pc' := 14) (pt := 45) bt_112_11 rfl rfl (fun k2076 => ?_) (fun k2076 => ?_)
  · replace k2076 : 0 < ((s 13)).toInt := k2076
    refine bh_rv bt_112_45 ?_
    exact kk _ _ hP (fun j j15 j16 => rfl)
  · replace k2076 : ¬ (0 < ((s 13)).toInt) := k2076
    refine bh_ld (pc' := 15) bt_112_14 rfl rfl (fun _ _ _ => rfl) g2073 rfl ?_
    refine bh_gi (pc' := 18) bt_112_15 rfl rfl (fun _ _ _ => rfl) hP bx_i15 rfl ?_
    refine bh_i0 (pc' := 21) (pt := 46) bt_112_18 rfl rfl (fun k2077 => ?_) (fun k2077 => ?_)
    · replace k2077 : ((s 15)).toInt = 0 := k2077
      refine bh_ld (pc' := 47) bt_112_46 rfl rfl (fun _ _ _ => rfl) g2073 rfl ?_
      refine bh_ld (pc' := 48) bt_112_47 rfl rfl (fun _ _ _ => rfl) g2074 rfl ?_
      refine bh_pf (pc' := 51) bt_112_48 rfl rfl (fun _ _ _ => rfl) hP bx_i15 rfl (fun h2078 s2079 hP2080 e2081 f2082 => ?_)
      refine bh_ld (pc' := 52) bt_112_51 rfl rfl (fun _ _ _ => rfl) g2073 rfl ?_
      refine bh_ld (pc' := 53) bt_112_52 rfl rfl (fun _ _ _ => rfl) g2072 rfl ?_
      refine bh_pf (pc' := 56) bt_112_53 rfl rfl (fun _ _ _ => rfl) hP2080 bx_i16 rfl (fun h2083 s2084 hP2085 e2086 f2087 => ?_)
      refine bh_rv bt_112_56 ?_
      exact kk _ _ hP2085 (fun j j15 j16 => ((f2087 j j16).trans (f2082 j j15)))
    · replace k2077 : ¬ (((s 15)).toInt = 0) := k2077
      refine bh_ld (pc' := 22) bt_112_21 rfl rfl (fun _ _ _ => rfl) g2072 rfl ?_
      refine bh_ld (pc' := 23) bt_112_22 rfl rfl (fun _ _ _ => rfl) g2073 rfl ?_
      refine bh_gi (pc' := 26) bt_112_23 rfl rfl (fun _ _ _ => rfl) hP bx_i16 rfl ?_
      refine bh_ic (pc' := 29) (pt := 45) bt_112_26 rfl rfl (fun k2088 => ?_) (fun k2088 => ?_)
      · replace k2088 : ((s 16)).toInt < ((A 92 (t).toInt.toNat)).toInt := k2088
        refine bh_rv bt_112_45 ?_
        exact kk _ _ hP (fun j j15 j16 => rfl)
      · replace k2088 : ¬ (((s 16)).toInt < ((A 92 (t).toInt.toNat)).toInt) := k2088
        refine bh_ld (pc' := 30) bt_112_29 rfl rfl (fun _ _ _ => rfl) g2072 rfl ?_
        refine bh_ld (pc' := 31) bt_112_30 rfl rfl (fun _ _ _ => rfl) g2073 rfl ?_
        refine bh_gi (pc' := 34) bt_112_31 rfl rfl (fun _ _ _ => rfl) hP bx_i16 rfl ?_
        refine bh_ic (pc' := 37) (pt := 46) bt_112_34 rfl rfl (fun k2089 => ?_) (fun k2089 => ?_)
        · replace k2089 : ((A 92 (t).toInt.toNat)).toInt ≠ ((s 16)).toInt := k2089
          refine bh_ld (pc' := 47) bt_112_46 rfl rfl (fun _ _ _ => rfl) g2073 rfl ?_
          refine bh_ld (pc' := 48) bt_112_47 rfl rfl (fun _ _ _ => rfl) g2074 rfl ?_
          refine bh_pf (pc' := 51) bt_112_48 rfl rfl (fun _ _ _ => rfl) hP bx_i15 rfl (fun h2090 s2091 hP2092 e2093 f2094 => ?_)
          refine bh_ld (pc' := 52) bt_112_51 rfl rfl (fun _ _ _ => rfl) g2073 rfl ?_
          refine bh_ld (pc' := 53) bt_112_52 rfl rfl (fun _ _ _ => rfl) g2072 rfl ?_
          refine bh_pf (pc' := 56) bt_112_53 rfl rfl (fun _ _ _ => rfl) hP2092 bx_i16 rfl (fun h2095 s2096 hP2097 e2098 f2099 => ?_)
          refine bh_rv bt_112_56 ?_
          exact kk _ _ hP2097 (fun j j15 j16 => ((f2099 j j16).trans (f2094 j j15)))
        · replace k2089 : ¬ (((A 92 (t).toInt.toNat)).toInt ≠ ((s 16)).toInt) := k2089
          refine bh_ld (pc' := 38) bt_112_37 rfl rfl (fun _ _ _ => rfl) g2074 rfl ?_
          refine bh_ld (pc' := 39) bt_112_38 rfl rfl (fun _ _ _ => rfl) g2073 rfl ?_
          refine bh_gi (pc' := 42) bt_112_39 rfl rfl (fun _ _ _ => rfl) hP bx_i15 rfl ?_
          refine bh_ic (pc' := 45) (pt := 46) bt_112_42 rfl rfl (fun k2100 => ?_) (fun k2100 => ?_)
          · replace k2100 : (k).toInt < ((s 15)).toInt := k2100
            refine bh_ld (pc' := 47) bt_112_46 rfl rfl (fun _ _ _ => rfl) g2073 rfl ?_
            refine bh_ld (pc' := 48) bt_112_47 rfl rfl (fun _ _ _ => rfl) g2074 rfl ?_
            refine bh_pf (pc' := 51) bt_112_48 rfl rfl (fun _ _ _ => rfl) hP bx_i15 rfl (fun h2101 s2102 hP2103 e2104 f2105 => ?_)
            refine bh_ld (pc' := 52) bt_112_51 rfl rfl (fun _ _ _ => rfl) g2073 rfl ?_
            refine bh_ld (pc' := 53) bt_112_52 rfl rfl (fun _ _ _ => rfl) g2072 rfl ?_
            refine bh_pf (pc' := 56) bt_112_53 rfl rfl (fun _ _ _ => rfl) hP2103 bx_i16 rfl (fun h2106 s2107 hP2108 e2109 f2110 => ?_)
            refine bh_rv bt_112_56 ?_
            exact kk _ _ hP2108 (fun j j15 j16 => ((f2110 j j16).trans (f2105 j j15)))
          · replace k2100 : ¬ ((k).toInt < ((s 15)).toInt) := k2100
            refine bh_rv bt_112_45 ?_
            exact kk _ _ hP (fun j j15 j16 => rfl)
theorem sp_10 {t f x y : Int32} (hP : bh_P bx_T E h0 h s A L) (hd : gs.length + 3 ≤ 999) (ht : s 11 = t) (hf : s 13 = f) (b1 : 0 ≤ t.toInt) (b2 : t.toInt ≤ 400) (b3 : 0 ≤ f.toInt) (kk : ∀ (h' : mm_H) (s' : Nat → Int32) (r : Int32), bh_P bx_T E h0 h' s' A L → (∀ j, j ≠ 11 → j ≠ 13 → j ≠ 14 → j ≠ 15 → j ≠ 16 → s' j = s j) → t.toInt ≤ (s' 11).toInt → (s' 11).toInt ≤ 400 → 0 ≤ (s' 13).toInt → ((s' 13).toInt = 0 → f.toInt = 0 ∧ t.toInt + 1 ≤ (s' 11).toInt) → bh_G E FIN (mm_back (some (.int r)) gs h')) : bh_G E FIN ((10, 0, [(0, .ref (E.1 + 88)), (1, .int x), (2, .int y)], [], 0, 0) :: gs, h, none) := by
  refine bh_ld (pc' := 1) bt_10_0 rfl rfl (fun _ _ _ => rfl) rfl rfl ?_
  refine bh_gi (pc' := 4) bt_10_1 rfl rfl (fun _ _ _ => rfl) hP bx_i13 hf ?_
  refine bh_i0 (pc' := 7) (pt := 15) bt_10_4 rfl rfl (fun k2111 => ?_) (fun k2111 => ?_)
  · replace k2111 : 0 < (f).toInt := k2111
    refine bh_ld (pc' := 16) bt_10_15 rfl rfl (fun _ _ _ => rfl) rfl rfl ?_
    refine bh_c (pc' := 17) (n := 1) bt_10_16 rfl rfl (fun _ _ _ => rfl) (by decide) (fun c2112 e2113 => ?_)
    refine bh_cv (pc' := 20) (st := []) (args := [.int c2112]) bt_10_17 rfl rfl (by decide) hP (by omega) rfl (Nat.le_of_ble_eq_true rfl) (Nat.le_of_ble_eq_true rfl) ?_
    refine sp_27 (k := c2112) hP ht hf (by omega) (by omega) (fun h2114 s2115 hP2116 f2117 p2118 => ?_)
    show bh_G E FIN ((10, 20, _, [], 0, 0) :: gs, _, none)
    refine bh_ld (pc' := 21) bt_10_20 rfl rfl (fun _ _ _ => rfl) rfl rfl ?_
    refine bh_ri bt_10_21 ?_
    have z11 := congrArg Int32.toInt ((f2117 11 (by decide) (by decide)).trans ht)
    exact kk _ _ _ hP2116 (fun j j11 j13 j14 j15 j16 => (f2117 j j13 j14)) (by omega) (by omega) (by omega) (by omega)
  · replace k2111 : ¬ (0 < (f).toInt) := k2111
    refine bh_ld (pc' := 8) bt_10_7 rfl rfl (fun _ _ _ => rfl) rfl rfl ?_
    refine bh_c (pc' := 9) (n := 2) bt_10_8 rfl rfl (fun _ _ _ => rfl) (by decide) (fun c2119 e2120 => ?_)
    refine bh_cv (pc' := 12) (st := []) (args := [.int c2119]) bt_10_9 rfl rfl (by decide) hP (by omega) rfl (Nat.le_of_ble_eq_true rfl) (Nat.le_of_ble_eq_true rfl) ?_
    refine sp_45 (k := c2119) hP ht hf (by omega) (by omega) (fun r2121 p2122 => ?_)
    show bh_G E FIN ((10, 12, _, [.int r2121], 0, 0) :: gs, _, none)
    refine bh_i0 (pc' := 15) (pt := 22) bt_10_12 rfl rfl (fun k2123 => ?_) (fun k2123 => ?_)
    · replace k2123 : (r2121).toInt ≠ 0 := k2123
      refine bh_ld (pc' := 23) bt_10_22 rfl rfl (fun _ _ _ => rfl) rfl rfl ?_
      refine bh_gr (pc' := 26) (c := 93) bt_10_23 rfl rfl (fun _ _ _ => rfl) hP bx_r7 ?_
      refine bh_ld (pc' := 27) bt_10_26 rfl rfl (fun _ _ _ => rfl) rfl rfl ?_
      refine bh_gi (pc' := 30) bt_10_27 rfl rfl (fun _ _ _ => rfl) hP bx_i11 ht ?_
      refine bh_ia (pc' := 31) bt_10_30 rfl rfl (fun _ _ _ => rfl) hP bx_a93 (Or.inl rfl) (by omega) (by omega) ?_
      refine bh_st (pc' := 32) bt_10_31 rfl rfl (fun _ _ _ => rfl) rfl (by decide) (by decide) (fun lv2124 F2125 g2126 => ?_)
      have g2127 := F2125 0 (.ref (E.1 + 88)) rfl (by decide) (Or.inl rfl)
      have g2128 := F2125 1 (.int x) rfl (by decide) (Or.inl rfl)
      have g2129 := F2125 2 (.int y) rfl (by decide) (Or.inl rfl)
      refine bh_ld (pc' := 33) bt_10_32 rfl rfl (fun _ _ _ => rfl) g2126 rfl ?_
      refine bh_ld (pc' := 34) bt_10_33 rfl rfl (fun _ _ _ => rfl) g2128 rfl ?_
      refine bh_ic (pc' := 37) (pt := 42) bt_10_34 rfl rfl (fun k2130 => ?_) (fun k2130 => ?_)
      · replace k2130 : ((A 93 (t).toInt.toNat)).toInt < (x).toInt := k2130
        refine bh_ld (pc' := 43) bt_10_42 rfl rfl (fun _ _ _ => rfl) g2127 rfl ?_
        refine bh_c (pc' := 44) (n := 5) bt_10_43 rfl rfl (fun _ _ _ => rfl) (by decide) (fun c2131 e2132 => ?_)
        refine bh_ld (pc' := 45) bt_10_44 rfl rfl (fun _ _ _ => rfl) g2127 rfl ?_
        refine bh_gi (pc' := 48) bt_10_45 rfl rfl (fun _ _ _ => rfl) hP bx_i11 ht ?_
        refine bh_cv (pc' := 51) (st := []) (args := [.int t, .int c2131]) bt_10_48 rfl rfl (by decide) hP (by omega) rfl (Nat.le_of_ble_eq_true rfl) (Nat.le_of_ble_eq_true rfl) ?_
        refine sp_112 (k := c2131) (t := t) hP (by omega) (by omega) (fun h2133 s2134 hP2135 f2136 => ?_)
        show bh_G E FIN ((10, 51, lv2124, [], 0, 0) :: gs, _, none)
        refine bh_ld (pc' := 52) bt_10_51 rfl rfl (fun _ _ _ => rfl) g2127 rfl ?_
        refine bh_cv (pc' := 55) (st := []) (args := []) bt_10_52 rfl rfl (by decide) hP2135 (by omega) rfl (Nat.le_of_ble_eq_true rfl) (Nat.le_of_ble_eq_true rfl) ?_
        refine sp_37 hP2135 (by simp only [List.length_cons]; omega) ((f2136 11 (by decide) (by decide)).trans ht) ((f2136 13 (by decide) (by decide)).trans hf) (by omega) (by omega) (by omega) (fun h2137 s2138 hP2139 f2140 p2141 => ?_)
        show bh_G E FIN ((10, 55, lv2124, [], 0, 0) :: gs, _, none)
        refine bh_ld (pc' := 56) bt_10_55 rfl rfl (fun _ _ _ => rfl) g2126 rfl ?_
        refine bh_ri bt_10_56 ?_
        exact kk _ _ _ hP2139 (fun j j11 j13 j14 j15 j16 => ((f2140 j j11 j13 j14).trans (f2136 j j15 j16))) (by omega) (by omega) (by omega) (by omega)
      · replace k2130 : ¬ (((A 93 (t).toInt.toNat)).toInt < (x).toInt) := k2130
        refine bh_ld (pc' := 38) bt_10_37 rfl rfl (fun _ _ _ => rfl) g2126 rfl ?_
        refine bh_ld (pc' := 39) bt_10_38 rfl rfl (fun _ _ _ => rfl) g2129 rfl ?_
        refine bh_ic (pc' := 42) (pt := 51) bt_10_39 rfl rfl (fun k2142 => ?_) (fun k2142 => ?_)
        · replace k2142 : ((A 93 (t).toInt.toNat)).toInt ≤ (y).toInt := k2142
          refine bh_ld (pc' := 52) bt_10_51 rfl rfl (fun _ _ _ => rfl) g2127 rfl ?_
          refine bh_cv (pc' := 55) (st := []) (args := []) bt_10_52 rfl rfl (by decide) hP (by omega) rfl (Nat.le_of_ble_eq_true rfl) (Nat.le_of_ble_eq_true rfl) ?_
          refine sp_37 hP (by simp only [List.length_cons]; omega) ht hf (by omega) (by omega) (by omega) (fun h2143 s2144 hP2145 f2146 p2147 => ?_)
          show bh_G E FIN ((10, 55, lv2124, [], 0, 0) :: gs, _, none)
          refine bh_ld (pc' := 56) bt_10_55 rfl rfl (fun _ _ _ => rfl) g2126 rfl ?_
          refine bh_ri bt_10_56 ?_
          exact kk _ _ _ hP2145 (fun j j11 j13 j14 j15 j16 => (f2146 j j11 j13 j14)) (by omega) (by omega) (by omega) (by omega)
        · replace k2142 : ¬ (((A 93 (t).toInt.toNat)).toInt ≤ (y).toInt) := k2142
          refine bh_ld (pc' := 43) bt_10_42 rfl rfl (fun _ _ _ => rfl) g2127 rfl ?_
          refine bh_c (pc' := 44) (n := 5) bt_10_43 rfl rfl (fun _ _ _ => rfl) (by decide) (fun c2148 e2149 => ?_)
          refine bh_ld (pc' := 45) bt_10_44 rfl rfl (fun _ _ _ => rfl) g2127 rfl ?_
          refine bh_gi (pc' := 48) bt_10_45 rfl rfl (fun _ _ _ => rfl) hP bx_i11 ht ?_
          refine bh_cv (pc' := 51) (st := []) (args := [.int t, .int c2148]) bt_10_48 rfl rfl (by decide) hP (by omega) rfl (Nat.le_of_ble_eq_true rfl) (Nat.le_of_ble_eq_true rfl) ?_
          refine sp_112 (k := c2148) (t := t) hP (by omega) (by omega) (fun h2150 s2151 hP2152 f2153 => ?_)
          show bh_G E FIN ((10, 51, lv2124, [], 0, 0) :: gs, _, none)
          refine bh_ld (pc' := 52) bt_10_51 rfl rfl (fun _ _ _ => rfl) g2127 rfl ?_
          refine bh_cv (pc' := 55) (st := []) (args := []) bt_10_52 rfl rfl (by decide) hP2152 (by omega) rfl (Nat.le_of_ble_eq_true rfl) (Nat.le_of_ble_eq_true rfl) ?_
          refine sp_37 hP2152 (by simp only [List.length_cons]; omega) ((f2153 11 (by decide) (by decide)).trans ht) ((f2153 13 (by decide) (by decide)).trans hf) (by omega) (by omega) (by omega) (fun h2154 s2155 hP2156 f2157 p2158 => ?_)
          show bh_G E FIN ((10, 55, lv2124, [], 0, 0) :: gs, _, none)
          refine bh_ld (pc' := 56) bt_10_55 rfl rfl (fun _ _ _ => rfl) g2126 rfl ?_
          refine bh_ri bt_10_56 ?_
          exact kk _ _ _ hP2156 (fun j j11 j13 j14 j15 j16 => ((f2157 j j11 j13 j14).trans (f2153 j j15 j16))) (by omega) (by omega) (by omega) (by omega)
    · replace k2123 : ¬ ((r2121).toInt ≠ 0) := k2123
      refine bh_ld (pc' := 16) bt_10_15 rfl rfl (fun _ _ _ => rfl) rfl rfl ?_
      refine bh_c (pc' := 17) (n := 1) bt_10_16 rfl rfl (fun _ _ _ => rfl) (by decide) (fun c2159 e2160 => ?_)
      refine bh_cv (pc' := 20) (st := []) (args := [.int c2159]) bt_10_17 rfl rfl (by decide) hP (by omega) rfl (Nat.le_of_ble_eq_true rfl) (Nat.le_of_ble_eq_true rfl) ?_
      refine sp_27 (k := c2159) hP ht hf (by omega) (by omega) (fun h2161 s2162 hP2163 f2164 p2165 => ?_)
      show bh_G E FIN ((10, 20, _, [], 0, 0) :: gs, _, none)
      refine bh_ld (pc' := 21) bt_10_20 rfl rfl (fun _ _ _ => rfl) rfl rfl ?_
      refine bh_ri bt_10_21 ?_
      have z11 := congrArg Int32.toInt ((f2164 11 (by decide) (by decide)).trans ht)
      exact kk _ _ _ hP2163 (fun j j11 j13 j14 j15 j16 => (f2164 j j13 j14)) (by omega) (by omega) (by omega) (by omega)
theorem rd_man1 (hd : gs.length + 1 ≤ 999) {a t0 : Int32} (ht0 : 0 ≤ t0.toInt) (ht1 : t0.toInt ≤ 402) : ∀ N : Nat, ∀ (h : mm_H) (s : Nat → Int32) (lv : mm_V) (o : Option Value) (q : Int32), bh_P bx_T E h0 h s A L → mm_get lv 0 = some (.ref (E.1 + 88)) → mm_get lv 1 = some (.int a) → mm_get lv 2 = some (.int t0) → mm_get lv 3 = some (.int q) → 0 ≤ q.toInt → (s 20).toInt ≤ 6 → q.toInt ≤ 6 → (s 20).toInt - q.toInt < N → (∀ (h' : mm_H) (s' : Nat → Int32) (lv' : mm_V) (o' : Option Value), bh_P bx_T E h0 h' s' A L → (∀ j, j ≠ 15 → j ≠ 16 → s' j = s j) → mm_get lv' 0 = some (.ref (E.1 + 88)) → mm_get lv' 1 = some (.int a) → mm_get lv' 2 = some (.int t0) → bh_G E FIN ((98, 77, lv', [], 0, 0) :: gs, h', o')) → bh_G E FIN ((98, 34, lv, [], 0, 0) :: gs, h, o) := by
  intro N
  induction N with
  | zero =>
    intro h s lv o q hP g0 g1 g2 g3 q0 n6 q6 hN kk
    refine bh_ld (pc' := 35) bt_98_34 rfl rfl (fun _ _ _ => rfl) g3 rfl ?_
    refine bh_ld (pc' := 36) bt_98_35 rfl rfl (fun _ _ _ => rfl) g0 rfl ?_
    refine bh_gi (pc' := 39) bt_98_36 rfl rfl (fun _ _ _ => rfl) hP bx_i20 rfl ?_
    refine bh_ic (pc' := 42) (pt := 77) bt_98_39 rfl rfl (fun k2166 => ?_) (fun k2166 => ?_)
    · replace k2166 : ((s 20)).toInt ≤ (q).toInt := k2166
      exact kk _ _ _ _ hP (fun j j15 j16 => rfl) g0 g1 g2
    · replace k2166 : ¬ (((s 20)).toInt ≤ (q).toInt) := k2166
      refine bh_ld (pc' := 43) bt_98_42 rfl rfl (fun _ _ _ => rfl) g0 rfl ?_
      refine bh_gi (pc' := 46) bt_98_43 rfl rfl (fun _ _ _ => rfl) hP bx_i13 rfl ?_
      refine bh_i0 (pc' := 49) (pt := 77) bt_98_46 rfl rfl (fun k2167 => ?_) (fun k2167 => ?_)
      · replace k2167 : ((s 13)).toInt ≠ 0 := k2167
        exact kk _ _ _ _ hP (fun j j15 j16 => rfl) g0 g1 g2
      · replace k2167 : ¬ (((s 13)).toInt ≠ 0) := k2167
        refine bh_ld (pc' := 50) bt_98_49 rfl rfl (fun _ _ _ => rfl) g0 rfl ?_
        refine bh_gr (pc' := 53) (c := 96) bt_98_50 rfl rfl (fun _ _ _ => rfl) hP bx_r21 ?_
        refine bh_ld (pc' := 54) bt_98_53 rfl rfl (fun _ _ _ => rfl) g3 rfl ?_
        refine bh_la (pc' := 55) bt_98_54 rfl rfl (fun _ _ _ => rfl) hP bx_l96 (by omega) (by omega) (fun x2168 => ?_)
        refine bh_ld (pc' := 56) bt_98_55 rfl rfl (fun _ _ _ => rfl) g0 rfl ?_
        refine bh_gr (pc' := 59) (c := 94) bt_98_56 rfl rfl (fun _ _ _ => rfl) hP bx_r8 ?_
        refine bh_ld (pc' := 60) bt_98_59 rfl rfl (fun _ _ _ => rfl) g2 rfl ?_
        refine bh_la (pc' := 61) bt_98_60 rfl rfl (fun _ _ _ => rfl) hP bx_l94 (by omega) (by omega) (fun x2169 => ?_)
        refine bh_lcmp (pc' := 62) bt_98_61 rfl (fun v2170 => ?_)
        refine bh_i0 (pc' := 65) (pt := 71) bt_98_62 rfl rfl (fun k2171 => ?_) (fun k2171 => ?_)
        · replace k2171 : (v2170).toInt ≠ 0 := k2171
          refine bh_inc (pc' := 74) bt_98_71 rfl (by decide) g3 (by decide) (by omega) (by omega) (fun lv2172 y2175 F2173 g2174 e2176 => ?_)
          have g2177 := F2173 0 (.ref (E.1 + 88)) g0 (by decide) (Or.inl rfl)
          have g2178 := F2173 1 (.int a) g1 (by decide) (Or.inl rfl)
          have g2179 := F2173 2 (.int t0) g2 (by decide) (Or.inl rfl)
          refine bh_go (pc' := 34) bt_98_74 rfl ?_
          exfalso
          omega
        · replace k2171 : ¬ ((v2170).toInt ≠ 0) := k2171
          refine bh_ld (pc' := 66) bt_98_65 rfl rfl (fun _ _ _ => rfl) g0 rfl ?_
          refine bh_c (pc' := 67) (n := 3) bt_98_66 rfl rfl (fun _ _ _ => rfl) (by decide) (fun c2180 e2181 => ?_)
          refine bh_ld (pc' := 68) bt_98_67 rfl rfl (fun _ _ _ => rfl) g2 rfl ?_
          refine bh_cv (pc' := 71) (st := []) (args := [.int t0, .int c2180]) bt_98_68 rfl rfl (by decide) hP (by omega) rfl (Nat.le_of_ble_eq_true rfl) (Nat.le_of_ble_eq_true rfl) ?_
          refine sp_112 (k := c2180) (t := t0) hP (by omega) (by omega) (fun h2182 s2183 hP2184 f2185 => ?_)
          show bh_G E FIN ((98, 71, lv, [], 0, 0) :: gs, _, none)
          refine bh_inc (pc' := 74) bt_98_71 rfl (by decide) g3 (by decide) (by omega) (by omega) (fun lv2186 y2189 F2187 g2188 e2190 => ?_)
          have g2191 := F2187 0 (.ref (E.1 + 88)) g0 (by decide) (Or.inl rfl)
          have g2192 := F2187 1 (.int a) g1 (by decide) (Or.inl rfl)
          have g2193 := F2187 2 (.int t0) g2 (by decide) (Or.inl rfl)
          refine bh_go (pc' := 34) bt_98_74 rfl ?_
          exfalso
          omega
  | succ N ih =>
    intro h s lv o q hP g0 g1 g2 g3 q0 n6 q6 hN kk
    refine bh_ld (pc' := 35) bt_98_34 rfl rfl (fun _ _ _ => rfl) g3 rfl ?_
    refine bh_ld (pc' := 36) bt_98_35 rfl rfl (fun _ _ _ => rfl) g0 rfl ?_
    refine bh_gi (pc' := 39) bt_98_36 rfl rfl (fun _ _ _ => rfl) hP bx_i20 rfl ?_
    refine bh_ic (pc' := 42) (pt := 77) bt_98_39 rfl rfl (fun k2194 => ?_) (fun k2194 => ?_)
    · replace k2194 : ((s 20)).toInt ≤ (q).toInt := k2194
      exact kk _ _ _ _ hP (fun j j15 j16 => rfl) g0 g1 g2
    · replace k2194 : ¬ (((s 20)).toInt ≤ (q).toInt) := k2194
      refine bh_ld (pc' := 43) bt_98_42 rfl rfl (fun _ _ _ => rfl) g0 rfl ?_
      refine bh_gi (pc' := 46) bt_98_43 rfl rfl (fun _ _ _ => rfl) hP bx_i13 rfl ?_
      refine bh_i0 (pc' := 49) (pt := 77) bt_98_46 rfl rfl (fun k2195 => ?_) (fun k2195 => ?_)
      · replace k2195 : ((s 13)).toInt ≠ 0 := k2195
        exact kk _ _ _ _ hP (fun j j15 j16 => rfl) g0 g1 g2
      · replace k2195 : ¬ (((s 13)).toInt ≠ 0) := k2195
        refine bh_ld (pc' := 50) bt_98_49 rfl rfl (fun _ _ _ => rfl) g0 rfl ?_
        refine bh_gr (pc' := 53) (c := 96) bt_98_50 rfl rfl (fun _ _ _ => rfl) hP bx_r21 ?_
        refine bh_ld (pc' := 54) bt_98_53 rfl rfl (fun _ _ _ => rfl) g3 rfl ?_
        refine bh_la (pc' := 55) bt_98_54 rfl rfl (fun _ _ _ => rfl) hP bx_l96 (by omega) (by omega) (fun x2196 => ?_)
        refine bh_ld (pc' := 56) bt_98_55 rfl rfl (fun _ _ _ => rfl) g0 rfl ?_
        refine bh_gr (pc' := 59) (c := 94) bt_98_56 rfl rfl (fun _ _ _ => rfl) hP bx_r8 ?_
        refine bh_ld (pc' := 60) bt_98_59 rfl rfl (fun _ _ _ => rfl) g2 rfl ?_
        refine bh_la (pc' := 61) bt_98_60 rfl rfl (fun _ _ _ => rfl) hP bx_l94 (by omega) (by omega) (fun x2197 => ?_)
        refine bh_lcmp (pc' := 62) bt_98_61 rfl (fun v2198 => ?_)
        refine bh_i0 (pc' := 65) (pt := 71) bt_98_62 rfl rfl (fun k2199 => ?_) (fun k2199 => ?_)
        · replace k2199 : (v2198).toInt ≠ 0 := k2199
          refine bh_inc (pc' := 74) bt_98_71 rfl (by decide) g3 (by decide) (by omega) (by omega) (fun lv2200 y2203 F2201 g2202 e2204 => ?_)
          have g2205 := F2201 0 (.ref (E.1 + 88)) g0 (by decide) (Or.inl rfl)
          have g2206 := F2201 1 (.int a) g1 (by decide) (Or.inl rfl)
          have g2207 := F2201 2 (.int t0) g2 (by decide) (Or.inl rfl)
          refine bh_go (pc' := 34) bt_98_74 rfl ?_
          exact ih _ _ _ _ _ hP g2205 g2206 g2207 g2202 (by omega) (by omega) (by omega) (by omega) (fun h' s' lv' o' hP' f' g0' g1' g2' => kk h' s' lv' o' hP' (fun j j15 j16 => (f' j j15 j16).trans ((fun j j15 j16 => rfl) j j15 j16)) g0' g1' g2')
        · replace k2199 : ¬ ((v2198).toInt ≠ 0) := k2199
          refine bh_ld (pc' := 66) bt_98_65 rfl rfl (fun _ _ _ => rfl) g0 rfl ?_
          refine bh_c (pc' := 67) (n := 3) bt_98_66 rfl rfl (fun _ _ _ => rfl) (by decide) (fun c2208 e2209 => ?_)
          refine bh_ld (pc' := 68) bt_98_67 rfl rfl (fun _ _ _ => rfl) g2 rfl ?_
          refine bh_cv (pc' := 71) (st := []) (args := [.int t0, .int c2208]) bt_98_68 rfl rfl (by decide) hP (by omega) rfl (Nat.le_of_ble_eq_true rfl) (Nat.le_of_ble_eq_true rfl) ?_
          refine sp_112 (k := c2208) (t := t0) hP (by omega) (by omega) (fun h2210 s2211 hP2212 f2213 => ?_)
          show bh_G E FIN ((98, 71, lv, [], 0, 0) :: gs, _, none)
          refine bh_inc (pc' := 74) bt_98_71 rfl (by decide) g3 (by decide) (by omega) (by omega) (fun lv2214 y2217 F2215 g2216 e2218 => ?_)
          have g2219 := F2215 0 (.ref (E.1 + 88)) g0 (by decide) (Or.inl rfl)
          have g2220 := F2215 1 (.int a) g1 (by decide) (Or.inl rfl)
          have g2221 := F2215 2 (.int t0) g2 (by decide) (Or.inl rfl)
          refine bh_go (pc' := 34) bt_98_74 rfl ?_
          have z13 := congrArg Int32.toInt (f2213 13 (by decide) (by decide))
          have z20 := congrArg Int32.toInt (f2213 20 (by decide) (by decide))
          exact ih _ _ _ _ _ hP2212 g2219 g2220 g2221 g2216 (by omega) (by omega) (by omega) (by omega) (fun h' s' lv' o' hP' f' g0' g1' g2' => kk h' s' lv' o' hP' (fun j j15 j16 => (f' j j15 j16).trans ((fun j j15 j16 => (f2213 j j15 j16)) j j15 j16)) g0' g1' g2')
theorem rd_man2 (hd : gs.length + 4 ≤ 999) {a t0 : Int32} (ha : 0 ≤ a.toInt) (ha1 : a.toInt ≤ 11) : ∀ N : Nat, ∀ (h : mm_H) (s : Nat → Int32) (A : Nat → Nat → Int32) (lv : mm_V) (o : Option Value) (q : Int32), bh_P bx_T E h0 h s A L → mm_get lv 0 = some (.ref (E.1 + 88)) → mm_get lv 1 = some (.int a) → mm_get lv 2 = some (.int t0) → mm_get lv 3 = some (.int q) → 0 ≤ q.toInt → q.toInt ≤ 4 → 0 ≤ (s 11).toInt → (s 11).toInt ≤ 400 → 0 ≤ (s 13).toInt → 4 - q.toInt < N → (∀ (h' : mm_H) (s' : Nat → Int32) (A' : Nat → Nat → Int32) (lv' : mm_V) (o' : Option Value), bh_P bx_T E h0 h' s' A' L → (∀ j, j ≠ 11 → j ≠ 13 → j ≠ 14 → j ≠ 15 → j ≠ 16 → s' j = s j) → (∀ k j, k ≠ 98 → A' k j = A k j) → (s 11).toInt ≤ (s' 11).toInt → (s' 11).toInt ≤ 400 → 0 ≤ (s' 13).toInt → ((s' 13).toInt = 0 → (s 13).toInt = 0) → mm_get lv' 0 = some (.ref (E.1 + 88)) → mm_get lv' 1 = some (.int a) → mm_get lv' 2 = some (.int t0) → bh_G E FIN ((98, 107, lv', [], 0, 0) :: gs, h', o')) → bh_G E FIN ((98, 79, lv, [], 0, 0) :: gs, h, o) := by
  intro N
  induction N with
  | zero =>
    intro h s A lv o q hP g0 g1 g2 g3 q0 q4 bt0 bt4 bf0 hN kk
    refine bh_ld (pc' := 80) bt_98_79 rfl rfl (fun _ _ _ => rfl) g3 rfl ?_
    refine bh_c (pc' := 81) (n := 4) bt_98_80 rfl rfl (fun _ _ _ => rfl) (by decide) (fun c2222 e2223 => ?_)
    refine bh_ic (pc' := 84) (pt := 107) bt_98_81 rfl rfl (fun k2224 => ?_) (fun k2224 => ?_)
    · replace k2224 : (c2222).toInt ≤ (q).toInt := k2224
      exact kk _ _ _ _ _ hP (fun j j11 j13 j14 j15 j16 => rfl) (fun k j u => rfl) (by omega) (by omega) (by omega) (by omega) g0 g1 g2
    · replace k2224 : ¬ ((c2222).toInt ≤ (q).toInt) := k2224
      refine bh_ld (pc' := 85) bt_98_84 rfl rfl (fun _ _ _ => rfl) g0 rfl ?_
      refine bh_gr (pc' := 88) (c := 98) bt_98_85 rfl rfl (fun _ _ _ => rfl) hP bx_r23 ?_
      refine bh_c (pc' := 89) (n := 4) bt_98_88 rfl rfl (fun _ _ _ => rfl) (by decide) (fun c2225 e2226 => ?_)
      refine bh_ld (pc' := 90) bt_98_89 rfl rfl (fun _ _ _ => rfl) g1 rfl ?_
      refine bh_mul (pc' := 91) bt_98_90 rfl (by rw [e2226]; omega) (by rw [e2226]; omega) (fun v2227 e2228 => ?_)
      rw [e2226] at e2228
      refine bh_ld (pc' := 92) bt_98_91 rfl rfl (fun _ _ _ => rfl) g3 rfl ?_
      refine bh_add (pc' := 93) bt_98_92 rfl (by omega) (by omega) (fun v2229 e2230 => ?_)
      refine bh_ld (pc' := 94) bt_98_93 rfl rfl (fun _ _ _ => rfl) g0 rfl ?_
      refine bh_c (pc' := 95) (n := 0) bt_98_94 rfl rfl (fun _ _ _ => rfl) (by decide) (fun c2231 e2232 => ?_)
      refine bh_c (pc' := 97) (n := 9) bt_98_95 rfl rfl (fun _ _ _ => rfl) (by decide) (fun c2233 e2234 => ?_)
      refine bh_cv (pc' := 100) (st := [.int v2229, .ref (E.1 + 98)]) (args := [.int c2233, .int c2231]) bt_98_97 rfl rfl (by decide) hP (by omega) rfl (Nat.le_of_ble_eq_true rfl) (Nat.le_of_ble_eq_true rfl) ?_
      refine sp_10 (x := c2231) (y := c2233) hP (by simp only [List.length_cons]; omega) rfl rfl (by omega) (by omega) (by omega) (fun h2235 s2236 r2239 hP2237 f2238 p2240 p2241 p2242 p2243 => ?_)
      show bh_G E FIN ((98, 100, lv, [.int r2239, .int v2229, .ref (E.1 + 98)], 0, 0) :: gs, _, none)
      refine bh_ias (pc' := 101) bt_98_100 rfl rfl (fun _ _ _ => rfl) hP2237 bx_a98 (Or.inl rfl) (by omega) (by omega) (fun h2244 hP2245 => ?_)
      refine bh_inc (pc' := 104) bt_98_101 rfl (by decide) g3 (by decide) (by omega) (by omega) (fun lv2246 y2249 F2247 g2248 e2250 => ?_)
      have g2251 := F2247 0 (.ref (E.1 + 88)) g0 (by decide) (Or.inl rfl)
      have g2252 := F2247 1 (.int a) g1 (by decide) (Or.inl rfl)
      have g2253 := F2247 2 (.int t0) g2 (by decide) (Or.inl rfl)
      refine bh_go (pc' := 79) bt_98_104 rfl ?_
      exfalso
      omega
  | succ N ih =>
    intro h s A lv o q hP g0 g1 g2 g3 q0 q4 bt0 bt4 bf0 hN kk
    refine bh_ld (pc' := 80) bt_98_79 rfl rfl (fun _ _ _ => rfl) g3 rfl ?_
    refine bh_c (pc' := 81) (n := 4) bt_98_80 rfl rfl (fun _ _ _ => rfl) (by decide) (fun c2254 e2255 => ?_)
    refine bh_ic (pc' := 84) (pt := 107) bt_98_81 rfl rfl (fun k2256 => ?_) (fun k2256 => ?_)
    · replace k2256 : (c2254).toInt ≤ (q).toInt := k2256
      exact kk _ _ _ _ _ hP (fun j j11 j13 j14 j15 j16 => rfl) (fun k j u => rfl) (by omega) (by omega) (by omega) (by omega) g0 g1 g2
    · replace k2256 : ¬ ((c2254).toInt ≤ (q).toInt) := k2256
      refine bh_ld (pc' := 85) bt_98_84 rfl rfl (fun _ _ _ => rfl) g0 rfl ?_
      refine bh_gr (pc' := 88) (c := 98) bt_98_85 rfl rfl (fun _ _ _ => rfl) hP bx_r23 ?_
      refine bh_c (pc' := 89) (n := 4) bt_98_88 rfl rfl (fun _ _ _ => rfl) (by decide) (fun c2257 e2258 => ?_)
      refine bh_ld (pc' := 90) bt_98_89 rfl rfl (fun _ _ _ => rfl) g1 rfl ?_
      refine bh_mul (pc' := 91) bt_98_90 rfl (by rw [e2258]; omega) (by rw [e2258]; omega) (fun v2259 e2260 => ?_)
      rw [e2258] at e2260
      refine bh_ld (pc' := 92) bt_98_91 rfl rfl (fun _ _ _ => rfl) g3 rfl ?_
      refine bh_add (pc' := 93) bt_98_92 rfl (by omega) (by omega) (fun v2261 e2262 => ?_)
      refine bh_ld (pc' := 94) bt_98_93 rfl rfl (fun _ _ _ => rfl) g0 rfl ?_
      refine bh_c (pc' := 95) (n := 0) bt_98_94 rfl rfl (fun _ _ _ => rfl) (by decide) (fun c2263 e2264 => ?_)
      refine bh_c (pc' := 97) (n := 9) bt_98_95 rfl rfl (fun _ _ _ => rfl) (by decide) (fun c2265 e2266 => ?_)
      refine bh_cv (pc' := 100) (st := [.int v2261, .ref (E.1 + 98)]) (args := [.int c2265, .int c2263]) bt_98_97 rfl rfl (by decide) hP (by omega) rfl (Nat.le_of_ble_eq_true rfl) (Nat.le_of_ble_eq_true rfl) ?_
      refine sp_10 (x := c2263) (y := c2265) hP (by simp only [List.length_cons]; omega) rfl rfl (by omega) (by omega) (by omega) (fun h2267 s2268 r2271 hP2269 f2270 p2272 p2273 p2274 p2275 => ?_)
      show bh_G E FIN ((98, 100, lv, [.int r2271, .int v2261, .ref (E.1 + 98)], 0, 0) :: gs, _, none)
      refine bh_ias (pc' := 101) bt_98_100 rfl rfl (fun _ _ _ => rfl) hP2269 bx_a98 (Or.inl rfl) (by omega) (by omega) (fun h2276 hP2277 => ?_)
      refine bh_inc (pc' := 104) bt_98_101 rfl (by decide) g3 (by decide) (by omega) (by omega) (fun lv2278 y2281 F2279 g2280 e2282 => ?_)
      have g2283 := F2279 0 (.ref (E.1 + 88)) g0 (by decide) (Or.inl rfl)
      have g2284 := F2279 1 (.int a) g1 (by decide) (Or.inl rfl)
      have g2285 := F2279 2 (.int t0) g2 (by decide) (Or.inl rfl)
      refine bh_go (pc' := 79) bt_98_104 rfl ?_
      exact ih _ _ _ _ _ _ hP2277 g2283 g2284 g2285 g2280 (by omega) (by omega) (by omega) (by omega) (by omega) (by omega) (fun h' s' A' lv' o' hP' f' a' p1 p2 p3 p4 g0' g1' g2' => kk h' s' A' lv' o' hP' (fun j j11 j13 j14 j15 j16 => (f' j j11 j13 j14 j15 j16).trans ((fun j j11 j13 j14 j15 j16 => (f2270 j j11 j13 j14 j15 j16)) j j11 j13 j14 j15 j16)) (fun k j u => (a' k j u).trans ((fun k j u => (bh_up_o (by omega))) k j u)) (by omega) p2 p3 (by omega) g0' g1' g2')
set_option maxHeartbeats 40000000 in
theorem sp_98 {s0 : Nat → Int32} {A0 : Nat → Nat → Int32} (hP : bh_P bx_T E h0 h s0 A0 L) (hd : gs.length + 5 ≤ 999) (hT0 : 0 ≤ (s0 11).toInt) (hT4 : (s0 11).toInt ≤ 400) (hF0 : 0 ≤ (s0 13).toInt) (hs0 : 0 ≤ (s0 19).toInt) (hs1 : (s0 19).toInt ≤ 1) (hn0 : 0 ≤ (s0 20).toInt) (hn5 : (s0 20).toInt ≤ 5) (hm : (A0 97 (s0 19).toInt.toNat).toInt = (s0 20).toInt) (kk : ∀ (h' : mm_H) (s' : Nat → Int32) (A' : Nat → Nat → Int32) (L' : Nat → Nat → Int64), bh_P bx_T E h0 h' s' A' L' → rd_M s0 s' A0 A' → bh_G E FIN (mm_back none gs h')) : bh_G E FIN ((98, 0, [(0, .ref (E.1 + 88))], [], 0, 0) :: gs, h, none) := by
  refine bh_ld (pc' := 1) bt_98_0 rfl rfl (fun _ _ _ => rfl) rfl rfl ?_
  refine bh_cv (pc' := 4) (st := []) (args := []) bt_98_1 rfl rfl (by decide) hP (by omega) rfl (Nat.le_of_ble_eq_true rfl) (Nat.le_of_ble_eq_true rfl) ?_
  refine sp_37 hP (by simp only [List.length_cons]; omega) rfl rfl (by omega) (by omega) (by omega) (fun h2286 s2287 hP2288 f2289 p2290 => ?_)
  show bh_G E FIN ((98, 4, _, [], 0, 0) :: gs, _, none)
  refine bh_c (pc' := 6) (n := 6) bt_98_4 rfl rfl (fun _ _ _ => rfl) (by decide) (fun c2291 e2292 => ?_)
  refine bh_ld (pc' := 7) bt_98_6 rfl rfl (fun _ _ _ => rfl) rfl rfl ?_
  refine bh_gi (pc' := 10) bt_98_7 rfl rfl (fun _ _ _ => rfl) hP2288 bx_i19 (f2289 19 (by decide) (by decide) (by decide)) ?_
  refine bh_mul (pc' := 11) bt_98_10 rfl (by rw [e2292]; omega) (by rw [e2292]; omega) (fun v2293 e2294 => ?_)
  rw [e2292] at e2294
  refine bh_ld (pc' := 12) bt_98_11 rfl rfl (fun _ _ _ => rfl) rfl rfl ?_
  refine bh_gr (pc' := 15) (c := 97) bt_98_12 rfl rfl (fun _ _ _ => rfl) hP2288 bx_r22 ?_
  refine bh_ld (pc' := 16) bt_98_15 rfl rfl (fun _ _ _ => rfl) rfl rfl ?_
  refine bh_gi (pc' := 19) bt_98_16 rfl rfl (fun _ _ _ => rfl) hP2288 bx_i19 (f2289 19 (by decide) (by decide) (by decide)) ?_
  refine bh_ia (pc' := 20) bt_98_19 rfl rfl (fun _ _ _ => rfl) hP2288 bx_a97 (Or.inl rfl) (by omega) (by omega) ?_
  refine bh_add (pc' := 21) bt_98_20 rfl (by omega) (by omega) (fun v2295 e2296 => ?_)
  refine bh_st (pc' := 22) bt_98_21 rfl rfl (fun _ _ _ => rfl) rfl (by decide) (by decide) (fun lv2297 F2298 g2299 => ?_)
  have g2300 := F2298 0 (.ref (E.1 + 88)) rfl (by decide) (Or.inl rfl)
  refine bh_ld (pc' := 23) bt_98_22 rfl rfl (fun _ _ _ => rfl) g2300 rfl ?_
  refine bh_gi (pc' := 26) bt_98_23 rfl rfl (fun _ _ _ => rfl) hP2288 bx_i11 rfl ?_
  refine bh_st (pc' := 27) bt_98_26 rfl rfl (fun _ _ _ => rfl) rfl (by decide) (by decide) (fun lv2301 F2302 g2303 => ?_)
  have g2304 := F2302 0 (.ref (E.1 + 88)) g2300 (by decide) (Or.inl rfl)
  have g2305 := F2302 1 (.int v2295) g2299 (by decide) (Or.inl rfl)
  refine bh_ld (pc' := 28) bt_98_27 rfl rfl (fun _ _ _ => rfl) g2304 rfl ?_
  refine bh_c (pc' := 29) (n := 1) bt_98_28 rfl rfl (fun _ _ _ => rfl) (by decide) (fun c2306 e2307 => ?_)
  refine bh_cv (pc' := 32) (st := []) (args := [.int c2306]) bt_98_29 rfl rfl (by decide) hP2288 (by omega) rfl (Nat.le_of_ble_eq_true rfl) (Nat.le_of_ble_eq_true rfl) ?_
  refine sp_67 (k := c2306) hP2288 (by simp only [List.length_cons]; omega) rfl rfl (by omega) (by omega) (by omega) (fun h2308 s2309 hP2310 f2311 p2312 => ?_)
  show bh_G E FIN ((98, 32, lv2301, [], 0, 0) :: gs, _, none)
  refine bh_c (pc' := 33) (n := 0) bt_98_32 rfl rfl (fun _ _ _ => rfl) (by decide) (fun c2313 e2314 => ?_)
  refine bh_st (pc' := 34) bt_98_33 rfl rfl (fun _ _ _ => rfl) rfl (by decide) (by decide) (fun lv2315 F2316 g2317 => ?_)
  have g2318 := F2316 0 (.ref (E.1 + 88)) g2304 (by decide) (Or.inl rfl)
  have g2319 := F2316 1 (.int v2295) g2305 (by decide) (Or.inl rfl)
  have g2320 := F2316 2 (.int (s2287 11)) g2303 (by decide) (Or.inl rfl)
  have z19 := congrArg Int32.toInt ((f2311 19 (by decide) (by decide) (by decide)).trans (f2289 19 (by decide) (by decide) (by decide)))
  have z20 := congrArg Int32.toInt ((f2311 20 (by decide) (by decide) (by decide)).trans (f2289 20 (by decide) (by decide) (by decide)))
  refine rd_man1 (by omega) (by omega) (by omega) 7 _ _ _ _ _ hP2310 g2318 g2319 g2320 g2317 (by omega) (by omega) (by omega) (by omega) (fun h2321 s2322 lv2323 o2324 hP2325 f2326 g2327 g2328 g2329 => ?_)
  refine bh_c (pc' := 78) (n := 0) bt_98_77 rfl rfl (fun _ _ _ => rfl) (by decide) (fun c2330 e2331 => ?_)
  refine bh_st (pc' := 79) bt_98_78 rfl rfl (fun _ _ _ => rfl) rfl (by decide) (by decide) (fun lv2332 F2333 g2334 => ?_)
  have g2335 := F2333 0 (.ref (E.1 + 88)) g2327 (by decide) (Or.inl rfl)
  have g2336 := F2333 1 (.int v2295) g2328 (by decide) (Or.inl rfl)
  have g2337 := F2333 2 (.int (s2287 11)) g2329 (by decide) (Or.inl rfl)
  have z11 := congrArg Int32.toInt (f2326 11 (by decide) (by decide))
  have z13 := congrArg Int32.toInt (f2326 13 (by decide) (by decide))
  have z19 := congrArg Int32.toInt ((f2326 19 (by decide) (by decide)).trans ((f2311 19 (by decide) (by decide) (by decide)).trans (f2289 19 (by decide) (by decide) (by decide))))
  have z20 := congrArg Int32.toInt ((f2326 20 (by decide) (by decide)).trans ((f2311 20 (by decide) (by decide) (by decide)).trans (f2289 20 (by decide) (by decide) (by decide))))
  refine rd_man2 (by omega) (by omega) (by omega) 5 _ _ _ _ _ _ hP2325 g2335 g2336 g2337 g2334 (by omega) (by omega) (by omega) (by omega) (by omega) (by omega) (fun h2338 s2339 A2340 lv2341 o2342 hP2343 f2344 a2345 p2349 p2350 p2351 p2352 g2346 g2347 g2348 => ?_)
  refine bh_ld (pc' := 108) bt_98_107 rfl rfl (fun _ _ _ => rfl) g2346 rfl ?_
  refine bh_gr (pc' := 111) (c := 99) bt_98_108 rfl rfl (fun _ _ _ => rfl) hP2343 bx_r24 ?_
  refine bh_ld (pc' := 112) bt_98_111 rfl rfl (fun _ _ _ => rfl) g2347 rfl ?_
  refine bh_ld (pc' := 113) bt_98_112 rfl rfl (fun _ _ _ => rfl) g2346 rfl ?_
  refine bh_c (pc' := 114) (n := 0) bt_98_113 rfl rfl (fun _ _ _ => rfl) (by decide) (fun c2353 e2354 => ?_)
  refine bh_c (pc' := 116) (n := 9) bt_98_114 rfl rfl (fun _ _ _ => rfl) (by decide) (fun c2355 e2356 => ?_)
  refine bh_cv (pc' := 119) (st := [.int v2295, .ref (E.1 + 99)]) (args := [.int c2355, .int c2353]) bt_98_116 rfl rfl (by decide) hP2343 (by omega) rfl (Nat.le_of_ble_eq_true rfl) (Nat.le_of_ble_eq_true rfl) ?_
  refine sp_10 (x := c2353) (y := c2355) hP2343 (by simp only [List.length_cons]; omega) rfl rfl (by omega) (by omega) (by omega) (fun h2357 s2358 r2361 hP2359 f2360 p2362 p2363 p2364 p2365 => ?_)
  show bh_G E FIN ((98, 119, lv2341, [.int r2361, .int v2295, .ref (E.1 + 99)], 0, 0) :: gs, _, none)
  refine bh_ias (pc' := 120) bt_98_119 rfl rfl (fun _ _ _ => rfl) hP2359 bx_a99 (Or.inl rfl) (by omega) (by omega) (fun h2366 hP2367 => ?_)
  refine bh_ld (pc' := 121) bt_98_120 rfl rfl (fun _ _ _ => rfl) g2346 rfl ?_
  refine bh_c (pc' := 122) (n := 4) bt_98_121 rfl rfl (fun _ _ _ => rfl) (by decide) (fun c2368 e2369 => ?_)
  refine bh_cv (pc' := 125) (st := []) (args := [.int c2368]) bt_98_122 rfl rfl (by decide) hP2367 (by omega) rfl (Nat.le_of_ble_eq_true rfl) (Nat.le_of_ble_eq_true rfl) ?_
  refine sp_67 (k := c2368) hP2367 (by simp only [List.length_cons]; omega) rfl rfl (by omega) (by omega) (by omega) (fun h2370 s2371 hP2372 f2373 p2374 => ?_)
  show bh_G E FIN ((98, 125, lv2341, [], 0, 0) :: gs, _, none)
  refine bh_ld (pc' := 126) bt_98_125 rfl rfl (fun _ _ _ => rfl) g2346 rfl ?_
  refine bh_gi (pc' := 129) bt_98_126 rfl rfl (fun _ _ _ => rfl) hP2372 bx_i13 rfl ?_
  refine bh_i0 (pc' := 132) (pt := 133) bt_98_129 rfl rfl (fun k2375 => ?_) (fun k2375 => ?_)
  · replace k2375 : ((s2371 13)).toInt ≤ 0 := k2375
    refine bh_ld (pc' := 134) bt_98_133 rfl rfl (fun _ _ _ => rfl) g2346 rfl ?_
    refine bh_gr (pc' := 137) (c := 96) bt_98_134 rfl rfl (fun _ _ _ => rfl) hP2372 bx_r21 ?_
    refine bh_ld (pc' := 138) bt_98_137 rfl rfl (fun _ _ _ => rfl) g2346 rfl ?_
    refine bh_gi (pc' := 141) bt_98_138 rfl rfl (fun _ _ _ => rfl) hP2372 bx_i20 ((f2373 20 (by decide) (by decide) (by decide)).trans ((f2360 20 (by decide) (by decide) (by decide) (by decide) (by decide)).trans ((f2344 20 (by decide) (by decide) (by decide) (by decide) (by decide)).trans ((f2326 20 (by decide) (by decide)).trans ((f2311 20 (by decide) (by decide) (by decide)).trans (f2289 20 (by decide) (by decide) (by decide))))))) ?_
    refine bh_ld (pc' := 142) bt_98_141 rfl rfl (fun _ _ _ => rfl) g2346 rfl ?_
    refine bh_gr (pc' := 145) (c := 94) bt_98_142 rfl rfl (fun _ _ _ => rfl) hP2372 bx_r8 ?_
    refine bh_ld (pc' := 146) bt_98_145 rfl rfl (fun _ _ _ => rfl) g2348 rfl ?_
    refine bh_la (pc' := 147) bt_98_146 rfl rfl (fun _ _ _ => rfl) hP2372 bx_l94 (by omega) (by omega) (fun x2376 => ?_)
    refine bh_las (pc' := 148) bt_98_147 rfl rfl (fun _ _ _ => rfl) hP2372 bx_l96 (by omega) (by omega) (fun h2377 L2379 hP2378 => ?_)
    refine bh_ld (pc' := 149) bt_98_148 rfl rfl (fun _ _ _ => rfl) g2346 rfl ?_
    refine bh_dup (pc' := 150) bt_98_149 rfl rfl ?_
    refine bh_gi (pc' := 153) bt_98_150 rfl rfl (fun _ _ _ => rfl) hP2378 bx_i20 ((f2373 20 (by decide) (by decide) (by decide)).trans ((f2360 20 (by decide) (by decide) (by decide) (by decide) (by decide)).trans ((f2344 20 (by decide) (by decide) (by decide) (by decide) (by decide)).trans ((f2326 20 (by decide) (by decide)).trans ((f2311 20 (by decide) (by decide) (by decide)).trans (f2289 20 (by decide) (by decide) (by decide))))))) ?_
    refine bh_c (pc' := 154) (n := 1) bt_98_153 rfl rfl (fun _ _ _ => rfl) (by decide) (fun c2380 e2381 => ?_)
    refine bh_add (pc' := 155) bt_98_154 rfl (by omega) (by omega) (fun v2382 e2383 => ?_)
    refine bh_pf (pc' := 158) bt_98_155 rfl rfl (fun _ _ _ => rfl) hP2378 bx_i20 rfl (fun h2384 s2385 hP2386 e2387 f2388 => ?_)
    refine bh_ld (pc' := 159) bt_98_158 rfl rfl (fun _ _ _ => rfl) g2346 rfl ?_
    refine bh_gr (pc' := 162) (c := 97) bt_98_159 rfl rfl (fun _ _ _ => rfl) hP2386 bx_r22 ?_
    refine bh_ld (pc' := 163) bt_98_162 rfl rfl (fun _ _ _ => rfl) g2346 rfl ?_
    refine bh_gi (pc' := 166) bt_98_163 rfl rfl (fun _ _ _ => rfl) hP2386 bx_i19 ((f2388 19 (by decide)).trans ((f2373 19 (by decide) (by decide) (by decide)).trans ((f2360 19 (by decide) (by decide) (by decide) (by decide) (by decide)).trans ((f2344 19 (by decide) (by decide) (by decide) (by decide) (by decide)).trans ((f2326 19 (by decide) (by decide)).trans ((f2311 19 (by decide) (by decide) (by decide)).trans (f2289 19 (by decide) (by decide) (by decide)))))))) ?_
    refine bh_dup2 (pc' := 167) bt_98_166 rfl rfl rfl ?_
    refine bh_ia (pc' := 168) bt_98_167 rfl rfl (fun _ _ _ => rfl) hP2386 bx_a97 (Or.inl rfl) (by omega) (by omega) ?_
    refine bh_c (pc' := 169) (n := 1) bt_98_168 rfl rfl (fun _ _ _ => rfl) (by decide) (fun c2389 e2390 => ?_)
    have c8 : ∀ k j, (k = 91 ∨ k = 97 ∨ 106 ≤ k) → (bh_up A2340 99 (v2295).toInt.toNat (mm_nar 0 r2361)) k j = A0 k j := fun k j u => ((bh_up_o (by omega)).trans (a2345 k j (by omega)))
    have y96 : (((bh_up A2340 99 (v2295).toInt.toNat (mm_nar 0 r2361)) 97 ((s0 19)).toInt.toNat)).toInt = (A0 97 (s0 19).toInt.toNat).toInt := congrArg Int32.toInt (c8 97 _ (by omega))
    refine bh_add (pc' := 170) bt_98_169 rfl (by omega) (by omega) (fun v2391 e2392 => ?_)
    refine bh_ias (pc' := 171) bt_98_170 rfl rfl (fun _ _ _ => rfl) hP2386 bx_a97 (Or.inl rfl) (by omega) (by omega) (fun h2393 hP2394 => ?_)
    refine bh_rv bt_98_171 ?_
    have z11 := congrArg Int32.toInt (f2388 11 (by decide))
    have z13 := congrArg Int32.toInt (f2388 13 (by decide))
    have z19 := congrArg Int32.toInt ((f2388 19 (by decide)).trans ((f2373 19 (by decide) (by decide) (by decide)).trans ((f2360 19 (by decide) (by decide) (by decide) (by decide) (by decide)).trans ((f2344 19 (by decide) (by decide) (by decide) (by decide) (by decide)).trans ((f2326 19 (by decide) (by decide)).trans ((f2311 19 (by decide) (by decide) (by decide)).trans (f2289 19 (by decide) (by decide) (by decide))))))))
    have z20 := congrArg Int32.toInt e2387
    have c9 : ∀ k j, (k = 91 ∨ k = 97 ∨ 106 ≤ k) → (bh_up A2340 99 (v2295).toInt.toNat (mm_nar 0 r2361)) k j = A0 k j := fun k j u => ((bh_up_o (by omega)).trans (a2345 k j (by omega)))
    have z97 : ((bh_up (bh_up A2340 99 (v2295).toInt.toNat (mm_nar 0 r2361)) 97 ((s0 19)).toInt.toNat (mm_nar 0 v2391)) 97 (s0 19).toInt.toNat).toInt = (v2391).toInt := by
      rw [bh_up_i]
      rfl
    have y97 : (((bh_up A2340 99 (v2295).toInt.toNat (mm_nar 0 r2361)) 97 ((s0 19)).toInt.toNat)).toInt = (A0 97 (s0 19).toInt.toNat).toInt := congrArg Int32.toInt (c9 97 _ (by omega))
    exact kk _ _ _ _ hP2394 ⟨(fun j j11 j13 j14 j15 j16 j20 => ((f2388 j j20).trans ((f2373 j j11 j13 j14).trans ((f2360 j j11 j13 j14 j15 j16).trans ((f2344 j j11 j13 j14 j15 j16).trans ((f2326 j j15 j16).trans ((f2311 j j11 j13 j14).trans (f2289 j j11 j13 j14)))))))), fun k j u => (bh_up_o (by omega)).trans (c9 k j (by omega)), fun j u => (bh_up_o (by omega)).trans (c9 97 j (by omega)), by omega, by omega, by omega, by omega, by omega, by omega, by omega⟩
  · replace k2375 : ¬ (((s2371 13)).toInt ≤ 0) := k2375
    refine bh_rv bt_98_132 ?_
    have z19 := congrArg Int32.toInt ((f2373 19 (by decide) (by decide) (by decide)).trans ((f2360 19 (by decide) (by decide) (by decide) (by decide) (by decide)).trans ((f2344 19 (by decide) (by decide) (by decide) (by decide) (by decide)).trans ((f2326 19 (by decide) (by decide)).trans ((f2311 19 (by decide) (by decide) (by decide)).trans (f2289 19 (by decide) (by decide) (by decide)))))))
    have z20 := congrArg Int32.toInt ((f2373 20 (by decide) (by decide) (by decide)).trans ((f2360 20 (by decide) (by decide) (by decide) (by decide) (by decide)).trans ((f2344 20 (by decide) (by decide) (by decide) (by decide) (by decide)).trans ((f2326 20 (by decide) (by decide)).trans ((f2311 20 (by decide) (by decide) (by decide)).trans (f2289 20 (by decide) (by decide) (by decide)))))))
    have c9 : ∀ k j, (k = 91 ∨ k = 97 ∨ 106 ≤ k) → (bh_up A2340 99 (v2295).toInt.toNat (mm_nar 0 r2361)) k j = A0 k j := fun k j u => ((bh_up_o (by omega)).trans (a2345 k j (by omega)))
    have z97 := congrArg Int32.toInt (c9 97 (s0 19).toInt.toNat (by omega))
    exact kk _ _ _ _ hP2372 ⟨(fun j j11 j13 j14 j15 j16 j20 => ((f2373 j j11 j13 j14).trans ((f2360 j j11 j13 j14 j15 j16).trans ((f2344 j j11 j13 j14 j15 j16).trans ((f2326 j j15 j16).trans ((f2311 j j11 j13 j14).trans (f2289 j j11 j13 j14))))))), fun k j u => c9 k j (by omega), fun j u => c9 97 j (by omega), by omega, by omega, by omega, by omega, by omega, by omega, by omega⟩
end BX
