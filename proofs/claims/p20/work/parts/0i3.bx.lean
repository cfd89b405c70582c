/-! BY HAND: the reference's reader, 2: units, what comes out, expressions (wip/p3/bh2.py) -/
/-- within an expression: s0 and A0 as it began; k: 0 a number is wanted, 1 one stands -/
def rd_X (s0 s : Nat → Int32) (A0 A : Nat → Nat → Int32) (k : Nat) : Prop := (∀ j, j ≠ 11 → j ≠ 12 → j ≠ 13 → j ≠ 14 → j ≠ 39 → j ≠ 43 → s j = s0 j) ∧ (∀ k j, ¬ ((k = 113 ∨ k = 114) ∧ (s0 39).toInt.toNat ≤ j ∧ j < (s 39).toInt.toNat) → k ≠ 115 → A k j = A0 k j) ∧ (s0 13).toInt = 0 ∧ (s0 11).toInt + k ≤ (s 11).toInt ∧ (s 11).toInt ≤ 400 ∧ 0 ≤ (s 13).toInt ∧ (s0 39).toInt ≤ (s 39).toInt ∧ (s 12).toInt ≤ 7 ∧ ((s 13).toInt = 0 → (s 12).toInt ≤ 6) ∧ ∃ n opn g p : Nat, (s 43).toInt = (n : Int) ∧ rd_wt (A 115) n opn g p ∧ (s 12).toInt = (s0 12).toInt + opn ∧ rd_pf (A 113) (A 114) (s0 39).toInt.toNat ((s 39).toInt.toNat - (s0 39).toInt.toNat) (p + k) ∧ (s 39).toInt - (s0 39).toInt + p ≤ (s 11).toInt - (s0 11).toInt
/-- where a number is wanted, or a fault is found -/
def rd_Z (s0 s : Nat → Int32) (A0 A : Nat → Nat → Int32) : Prop := (∀ j, j ≠ 11 → j ≠ 12 → j ≠ 13 → j ≠ 14 → j ≠ 39 → j ≠ 43 → s j = s0 j) ∧ (∀ k j, ¬ ((k = 113 ∨ k = 114) ∧ (s0 39).toInt.toNat ≤ j ∧ j < (s 39).toInt.toNat) → k ≠ 115 → A k j = A0 k j) ∧ (s0 11).toInt ≤ (s 11).toInt ∧ (s 11).toInt ≤ 400 ∧ 0 ≤ (s 13).toInt ∧ (s0 39).toInt ≤ (s 39).toInt ∧ (s 39).toInt - (s0 39).toInt ≤ (s 11).toInt - (s0 11).toInt + 1 ∧ 0 ≤ (s 12).toInt ∧ (s 12).toInt ≤ 7 ∧ (0 < (s0 13).toInt → (s 39).toInt = (s0 39).toInt ∧ 0 < (s 13).toInt) ∧ ((s 13).toInt = 0 → rd_X s0 s A0 A 0)
/-- what an expression leaves -/
def rd_Y (s0 s : Nat → Int32) (A0 A : Nat → Nat → Int32) : Prop := (∀ j, j ≠ 11 → j ≠ 12 → j ≠ 13 → j ≠ 14 → j ≠ 39 → j ≠ 43 → s j = s0 j) ∧ (∀ k j, ¬ ((k = 113 ∨ k = 114) ∧ (s0 39).toInt.toNat ≤ j ∧ j < (s 39).toInt.toNat) → k ≠ 115 → A k j = A0 k j) ∧ (s0 11).toInt ≤ (s 11).toInt ∧ (s 11).toInt ≤ 400 ∧ 0 ≤ (s 13).toInt ∧ (s0 39).toInt ≤ (s 39).toInt ∧ (s 39).toInt - (s0 39).toInt ≤ (s 11).toInt - (s0 11).toInt + 1 ∧ 0 ≤ (s 12).toInt ∧ (s 12).toInt ≤ 7 ∧ (0 < (s0 13).toInt → (s 39).toInt = (s0 39).toInt ∧ 0 < (s 13).toInt) ∧ ((s 13).toInt = 0 → (s 12).toInt = (s0 12).toInt ∧ (s0 11).toInt + 1 ≤ (s 11).toInt ∧ (s 39).toInt - (s0 39).toInt ≤ (s 11).toInt - (s0 11).toInt ∧ rd_pf (A 113) (A 114) (s0 39).toInt.toNat ((s 39).toInt.toNat - (s0 39).toInt.toNat) 1)
theorem bt_15_0 : mm_at mt_P 15 0 = some ((0, 1, .aload_n 0, 0, 0, 0, 0), 3, 1, 1, 9, 0, 0, 0) := rfl
theorem bt_15_1 : mm_at mt_P 15 1 = some ((1, 3, .getfield 283, 9, 43, 0, 1260), 3, 1, 1, 9, 0, 0, 0) := rfl
theorem bt_15_4 : mm_at mt_P 15 4 = some ((4, 3, .ifCond .le 87, 0, 0, 0, 0), 3, 1, 1, 9, 0, 0, 0) := rfl
theorem bt_15_7 : mm_at mt_P 15 7 = some ((7, 1, .aload_n 0, 0, 0, 0, 0), 3, 1, 1, 9, 0, 0, 0) := rfl
theorem bt_15_8 : mm_at mt_P 15 8 = some ((8, 3, .getfield 98, 9, 42, 0, 1259), 3, 1, 1, 9, 0, 0, 0) := rfl
theorem bt_15_11 : mm_at mt_P 15 11 = some ((11, 1, .aload_n 0, 0, 0, 0, 0), 3, 1, 1, 9, 0, 0, 0) := rfl
theorem bt_15_12 : mm_at mt_P 15 12 = some ((12, 3, .getfield 283, 9, 43, 0, 1260), 3, 1, 1, 9, 0, 0, 0) := rfl
theorem bt_15_15 : mm_at mt_P 15 15 = some ((15, 1, .iconst 1, 0, 0, 0, 0), 3, 1, 1, 9, 0, 0, 0) := rfl
theorem bt_15_16 : mm_at mt_P 15 16 = some ((16, 1, .isub, 0, 0, 0, 0), 3, 1, 1, 9, 0, 0, 0) := rfl
theorem bt_15_17 : mm_at mt_P 15 17 = some ((17, 1, .iaload, 0, 0, 0, 0), 3, 1, 1, 9, 0, 0, 0) := rfl
theorem bt_15_18 : mm_at mt_P 15 18 = some ((18, 1, .istore_n 2, 0, 0, 0, 0), 3, 1, 1, 9, 0, 0, 0) := rfl
theorem bt_15_19 : mm_at mt_P 15 19 = some ((19, 1, .iload_n 2, 0, 0, 0, 0), 3, 1, 1, 9, 0, 0, 0) := rfl
theorem bt_15_20 : mm_at mt_P 15 20 = some ((20, 2, .bipush 6, 0, 0, 0, 0), 3, 1, 1, 9, 0, 0, 0) := rfl
theorem bt_15_22 : mm_at mt_P 15 22 = some ((22, 3, .if_icmp .eq 19, 0, 0, 0, 0), 3, 1, 1, 9, 0, 0, 0) := rfl
theorem bt_15_25 : mm_at mt_P 15 25 = some ((25, 1, .iload_n 1, 0, 0, 0, 0), 3, 1, 1, 9, 0, 0, 0) := rfl
theorem bt_15_26 : mm_at mt_P 15 26 = some ((26, 3, .ifCond .eq 16, 0, 0, 0, 0), 3, 1, 1, 9, 0, 0, 0) := rfl
theorem bt_15_29 : mm_at mt_P 15 29 = some ((29, 1, .iload_n 2, 0, 0, 0, 0), 3, 1, 1, 9, 0, 0, 0) := rfl
theorem bt_15_30 : mm_at mt_P 15 30 = some ((30, 2, .bipush 8, 0, 0, 0, 0), 3, 1, 1, 9, 0, 0, 0) := rfl
theorem bt_15_32 : mm_at mt_P 15 32 = some ((32, 3, .if_icmp .eq 9, 0, 0, 0, 0), 3, 1, 1, 9, 0, 0, 0) := rfl
theorem bt_15_35 : mm_at mt_P 15 35 = some ((35, 1, .iload_n 2, 0, 0, 0, 0), 3, 1, 1, 9, 0, 0, 0) := rfl
theorem bt_15_36 : mm_at mt_P 15 36 = some ((36, 2, .bipush 9, 0, 0, 0, 0), 3, 1, 1, 9, 0, 0, 0) := rfl
theorem bt_15_38 : mm_at mt_P 15 38 = some ((38, 3, .if_icmp .ne 4, 0, 0, 0, 0), 3, 1, 1, 9, 0, 0, 0) := rfl
theorem bt_15_41 : mm_at mt_P 15 41 = some ((41, 1, .return_, 0, 0, 0, 0), 3, 1, 1, 9, 0, 0, 0) := rfl
theorem bt_15_42 : mm_at mt_P 15 42 = some ((42, 1, .aload_n 0, 0, 0, 0, 0), 3, 1, 1, 9, 0, 0, 0) := rfl
theorem bt_15_43 : mm_at mt_P 15 43 = some ((43, 1, .dup, 0, 0, 0, 0), 3, 1, 1, 9, 0, 0, 0) := rfl
theorem bt_15_44 : mm_at mt_P 15 44 = some ((44, 3, .getfield 283, 9, 43, 0, 1260), 3, 1, 1, 9, 0, 0, 0) := rfl
theorem bt_15_47 : mm_at mt_P 15 47 = some ((47, 1, .iconst 1, 0, 0, 0, 0), 3, 1, 1, 9, 0, 0, 0) := rfl
theorem bt_15_48 : mm_at mt_P 15 48 = some ((48, 1, .isub, 0, 0, 0, 0), 3, 1, 1, 9, 0, 0, 0) := rfl
theorem bt_15_49 : mm_at mt_P 15 49 = some ((49, 3, .putfield 283, 9, 43, 0, 1260), 3, 1, 1, 9, 0, 0, 0) := rfl
theorem bt_15_52 : mm_at mt_P 15 52 = some ((52, 1, .aload_n 0, 0, 0, 0, 0), 3, 1, 1, 9, 0, 0, 0) := rfl
theorem bt_15_53 : mm_at mt_P 15 53 = some ((53, 1, .iload_n 2, 0, 0, 0, 0), 3, 1, 1, 9, 0, 0, 0) := rfl
theorem bt_15_54 : mm_at mt_P 15 54 = some ((54, 2, .bipush 8, 0, 0, 0, 0), 3, 1, 1, 9, 0, 0, 0) := rfl
theorem bt_15_56 : mm_at mt_P 15 56 = some ((56, 3, .if_icmp .ne 7, 0, 0, 0, 0), 3, 1, 1, 9, 0, 0, 0) := rfl
theorem bt_15_59 : mm_at mt_P 15 59 = some ((59, 1, .iconst 2, 0, 0, 0, 0), 3, 1, 1, 9, 0, 0, 0) := rfl
theorem bt_15_60 : mm_at mt_P 15 60 = some ((60, 3, .goto 24, 0, 0, 0, 0), 3, 1, 1, 9, 0, 0, 0) := rfl
theorem bt_15_63 : mm_at mt_P 15 63 = some ((63, 1, .iload_n 2, 0, 0, 0, 0), 3, 1, 1, 9, 0, 0, 0) := rfl
theorem bt_15_64 : mm_at mt_P 15 64 = some ((64, 2, .bipush 9, 0, 0, 0, 0), 3, 1, 1, 9, 0, 0, 0) := rfl
theorem bt_15_66 : mm_at mt_P 15 66 = some ((66, 3, .if_icmp .ne 7, 0, 0, 0, 0), 3, 1, 1, 9, 0, 0, 0) := rfl
theorem bt_15_69 : mm_at mt_P 15 69 = some ((69, 1, .iconst 3, 0, 0, 0, 0), 3, 1, 1, 9, 0, 0, 0) := rfl
theorem bt_15_70 : mm_at mt_P 15 70 = some ((70, 3, .goto 14, 0, 0, 0, 0), 3, 1, 1, 9, 0, 0, 0) := rfl
theorem bt_15_73 : mm_at mt_P 15 73 = some ((73, 1, .iload_n 2, 0, 0, 0, 0), 3, 1, 1, 9, 0, 0, 0) := rfl
theorem bt_15_74 : mm_at mt_P 15 74 = some ((74, 2, .bipush 10, 0, 0, 0, 0), 3, 1, 1, 9, 0, 0, 0) := rfl
theorem bt_15_76 : mm_at mt_P 15 76 = some ((76, 3, .if_icmp .ne 7, 0, 0, 0, 0), 3, 1, 1, 9, 0, 0, 0) := rfl
theorem bt_15_79 : mm_at mt_P 15 79 = some ((79, 1, .iconst 4, 0, 0, 0, 0), 3, 1, 1, 9, 0, 0, 0) := rfl
theorem bt_15_80 : mm_at mt_P 15 80 = some ((80, 3, .goto 4, 0, 0, 0, 0), 3, 1, 1, 9, 0, 0, 0) := rfl
theorem bt_15_83 : mm_at mt_P 15 83 = some ((83, 1, .iconst 5, 0, 0, 0, 0), 3, 1, 1, 9, 0, 0, 0) := rfl
theorem bt_15_84 : mm_at mt_P 15 84 = some ((84, 1, .iconst 0, 0, 0, 0, 0), 3, 1, 1, 9, 0, 0, 0) := rfl
theorem bt_15_85 : mm_at mt_P 15 85 = some ((85, 3, .invokevirtual 286, 23, 0, 0, 1519), 3, 1, 1, 9, 0, 0, 0) := rfl
theorem bt_15_88 : mm_at mt_P 15 88 = some ((88, 3, .goto (-88), 0, 0, 0, 0), 3, 1, 1, 9, 0, 0, 0) := rfl
theorem bt_15_91 : mm_at mt_P 15 91 = some ((91, 1, .return_, 0, 0, 0, 0), 3, 1, 1, 9, 0, 0, 0) := rfl
theorem bt_26_0 : mm_at mt_P 26 0 = some ((0, 1, .aload_n 0, 0, 0, 0, 0), 3, 0, 1, 9, 0, 0, 0) := rfl
theorem bt_26_1 : mm_at mt_P 26 1 = some ((1, 1, .iconst 0, 0, 0, 0, 0), 3, 0, 1, 9, 0, 0, 0) := rfl
theorem bt_26_2 : mm_at mt_P 26 2 = some ((2, 3, .putfield 283, 9, 43, 0, 1260), 3, 0, 1, 9, 0, 0, 0) := rfl
theorem bt_26_5 : mm_at mt_P 26 5 = some ((5, 1, .aload_n 0, 0, 0, 0, 0), 3, 0, 1, 9, 0, 0, 0) := rfl
theorem bt_26_6 : mm_at mt_P 26 6 = some ((6, 3, .getfield 230, 9, 12, 0, 1229), 3, 0, 1, 9, 0, 0, 0) := rfl
theorem bt_26_9 : mm_at mt_P 26 9 = some ((9, 1, .istore_n 1, 0, 0, 0, 0), 3, 0, 1, 9, 0, 0, 0) := rfl
theorem bt_26_10 : mm_at mt_P 26 10 = some ((10, 1, .iconst 1, 0, 0, 0, 0), 3, 0, 1, 9, 0, 0, 0) := rfl
theorem bt_26_11 : mm_at mt_P 26 11 = some ((11, 1, .istore_n 2, 0, 0, 0, 0), 3, 0, 1, 9, 0, 0, 0) := rfl
theorem bt_26_12 : mm_at mt_P 26 12 = some ((12, 1, .iload_n 2, 0, 0, 0, 0), 3, 0, 1, 9, 0, 0, 0) := rfl
theorem bt_26_13 : mm_at mt_P 26 13 = some ((13, 3, .ifCond .eq 259, 0, 0, 0, 0), 3, 0, 1, 9, 0, 0, 0) := rfl
theorem bt_26_16 : mm_at mt_P 26 16 = some ((16, 1, .aload_n 0, 0, 0, 0, 0), 3, 0, 1, 9, 0, 0, 0) := rfl
theorem bt_26_17 : mm_at mt_P 26 17 = some ((17, 3, .getfield 203, 9, 13, 0, 1230), 3, 0, 1, 9, 0, 0, 0) := rfl
theorem bt_26_20 : mm_at mt_P 26 20 = some ((20, 3, .ifCond .ne 252, 0, 0, 0, 0), 3, 0, 1, 9, 0, 0, 0) := rfl
theorem bt_26_23 : mm_at mt_P 26 23 = some ((23, 1, .aload_n 0, 0, 0, 0, 0), 3, 0, 1, 9, 0, 0, 0) := rfl
theorem bt_26_24 : mm_at mt_P 26 24 = some ((24, 2, .bipush 6, 0, 0, 0, 0), 3, 0, 1, 9, 0, 0, 0) := rfl
theorem bt_26_26 : mm_at mt_P 26 26 = some ((26, 3, .invokevirtual 221, 45, 0, 0, 1475), 3, 0, 1, 9, 0, 0, 0) := rfl
theorem bt_26_29 : mm_at mt_P 26 29 = some ((29, 3, .ifCond .eq 55, 0, 0, 0, 0), 3, 0, 1, 9, 0, 0, 0) := rfl
theorem bt_26_32 : mm_at mt_P 26 32 = some ((32, 1, .aload_n 0, 0, 0, 0, 0), 3, 0, 1, 9, 0, 0, 0) := rfl
theorem bt_26_33 : mm_at mt_P 26 33 = some ((33, 3, .getfield 230, 9, 12, 0, 1229), 3, 0, 1, 9, 0, 0, 0) := rfl
theorem bt_26_36 : mm_at mt_P 26 36 = some ((36, 2, .bipush 6, 0, 0, 0, 0), 3, 0, 1, 9, 0, 0, 0) := rfl
theorem bt_26_38 : mm_at mt_P 26 38 = some ((38, 3, .if_icmp .ne 8, 0, 0, 0, 0), 3, 0, 1, 9, 0, 0, 0) := rfl
theorem bt_26_41 : mm_at mt_P 26 41 = some ((41, 1, .aload_n 0, 0, 0, 0, 0), 3, 0, 1, 9, 0, 0, 0) := rfl
theorem bt_26_42 : mm_at mt_P 26 42 = some ((42, 1, .iconst 2, 0, 0, 0, 0), 3, 0, 1, 9, 0, 0, 0) := rfl
theorem bt_26_43 : mm_at mt_P 26 43 = some ((43, 3, .invokevirtual 218, 27, 0, 0, 1483), 3, 0, 1, 9, 0, 0, 0) := rfl
theorem bt_26_46 : mm_at mt_P 26 46 = some ((46, 1, .aload_n 0, 0, 0, 0, 0), 3, 0, 1, 9, 0, 0, 0) := rfl
theorem bt_26_47 : mm_at mt_P 26 47 = some ((47, 1, .dup, 0, 0, 0, 0), 3, 0, 1, 9, 0, 0, 0) := rfl
theorem bt_26_48 : mm_at mt_P 26 48 = some ((48, 3, .getfield 230, 9, 12, 0, 1229), 3, 0, 1, 9, 0, 0, 0) := rfl
theorem bt_26_51 : mm_at mt_P 26 51 = some ((51, 1, .iconst 1, 0, 0, 0, 0), 3, 0, 1, 9, 0, 0, 0) := rfl
theorem bt_26_52 : mm_at mt_P 26 52 = some ((52, 1, .iadd, 0, 0, 0, 0), 3, 0, 1, 9, 0, 0, 0) := rfl
theorem bt_26_53 : mm_at mt_P 26 53 = some ((53, 3, .putfield 230, 9, 12, 0, 1229), 3, 0, 1, 9, 0, 0, 0) := rfl
theorem bt_26_56 : mm_at mt_P 26 56 = some ((56, 1, .aload_n 0, 0, 0, 0, 0), 3, 0, 1, 9, 0, 0, 0) := rfl
theorem bt_26_57 : mm_at mt_P 26 57 = some ((57, 3, .invokevirtual 224, 37, 0, 0, 1491), 3, 0, 1, 9, 0, 0, 0) := rfl
theorem bt_26_60 : mm_at mt_P 26 60 = some ((60, 1, .aload_n 0, 0, 0, 0, 0), 3, 0, 1, 9, 0, 0, 0) := rfl
theorem bt_26_61 : mm_at mt_P 26 61 = some ((61, 3, .getfield 98, 9, 42, 0, 1259), 3, 0, 1, 9, 0, 0, 0) := rfl
theorem bt_26_64 : mm_at mt_P 26 64 = some ((64, 1, .aload_n 0, 0, 0, 0, 0), 3, 0, 1, 9, 0, 0, 0) := rfl
theorem bt_26_65 : mm_at mt_P 26 65 = some ((65, 3, .getfield 283, 9, 43, 0, 1260), 3, 0, 1, 9, 0, 0, 0) := rfl
theorem bt_26_68 : mm_at mt_P 26 68 = some ((68, 2, .bipush 6, 0, 0, 0, 0), 3, 0, 1, 9, 0, 0, 0) := rfl
theorem bt_26_70 : mm_at mt_P 26 70 = some ((70, 1, .iastore, 0, 0, 0, 0), 3, 0, 1, 9, 0, 0, 0) := rfl
theorem bt_26_71 : mm_at mt_P 26 71 = some ((71, 1, .aload_n 0, 0, 0, 0, 0), 3, 0, 1, 9, 0, 0, 0) := rfl
theorem bt_26_72 : mm_at mt_P 26 72 = some ((72, 1, .dup, 0, 0, 0, 0), 3, 0, 1, 9, 0, 0, 0) := rfl
theorem bt_26_73 : mm_at mt_P 26 73 = some ((73, 3, .getfield 283, 9, 43, 0, 1260), 3, 0, 1, 9, 0, 0, 0) := rfl
theorem bt_26_76 : mm_at mt_P 26 76 = some ((76, 1, .iconst 1, 0, 0, 0, 0), 3, 0, 1, 9, 0, 0, 0) := rfl
theorem bt_26_77 : mm_at mt_P 26 77 = some ((77, 1, .iadd, 0, 0, 0, 0), 3, 0, 1, 9, 0, 0, 0) := rfl
theorem bt_26_78 : mm_at mt_P 26 78 = some ((78, 3, .putfield 283, 9, 43, 0, 1260), 3, 0, 1, 9, 0, 0, 0) := rfl
theorem bt_26_81 : mm_at mt_P 26 81 = some ((81, 3, .goto (-58), 0, 0, 0, 0), 3, 0, 1, 9, 0, 0, 0) := rfl
theorem bt_26_84 : mm_at mt_P 26 84 = some ((84, 1, .aload_n 0, 0, 0, 0, 0), 3, 0, 1, 9, 0, 0, 0) := rfl
theorem bt_26_85 : mm_at mt_P 26 85 = some ((85, 3, .invokevirtual 289, 105, 0, 0, 1515), 3, 0, 1, 9, 0, 0, 0) := rfl
theorem bt_26_88 : mm_at mt_P 26 88 = some ((88, 1, .aload_n 0, 0, 0, 0, 0), 3, 0, 1, 9, 0, 0, 0) := rfl
theorem bt_26_89 : mm_at mt_P 26 89 = some ((89, 3, .getfield 203, 9, 13, 0, 1230), 3, 0, 1, 9, 0, 0, 0) := rfl
theorem bt_26_92 : mm_at mt_P 26 92 = some ((92, 3, .ifCond .le 4, 0, 0, 0, 0), 3, 0, 1, 9, 0, 0, 0) := rfl
theorem bt_26_95 : mm_at mt_P 26 95 = some ((95, 1, .return_, 0, 0, 0, 0), 3, 0, 1, 9, 0, 0, 0) := rfl
theorem bt_26_96 : mm_at mt_P 26 96 = some ((96, 1, .aload_n 0, 0, 0, 0, 0), 3, 0, 1, 9, 0, 0, 0) := rfl
theorem bt_26_97 : mm_at mt_P 26 97 = some ((97, 2, .bipush 7, 0, 0, 0, 0), 3, 0, 1, 9, 0, 0, 0) := rfl
theorem bt_26_99 : mm_at mt_P 26 99 = some ((99, 3, .invokevirtual 221, 45, 0, 0, 1475), 3, 0, 1, 9, 0, 0, 0) := rfl
theorem bt_26_102 : mm_at mt_P 26 102 = some ((102, 3, .ifCond .eq 43, 0, 0, 0, 0), 3, 0, 1, 9, 0, 0, 0) := rfl
theorem bt_26_105 : mm_at mt_P 26 105 = some ((105, 1, .aload_n 0, 0, 0, 0, 0), 3, 0, 1, 9, 0, 0, 0) := rfl
theorem bt_26_106 : mm_at mt_P 26 106 = some ((106, 3, .getfield 230, 9, 12, 0, 1229), 3, 0, 1, 9, 0, 0, 0) := rfl
theorem bt_26_109 : mm_at mt_P 26 109 = some ((109, 1, .iload_n 1, 0, 0, 0, 0), 3, 0, 1, 9, 0, 0, 0) := rfl
theorem bt_26_110 : mm_at mt_P 26 110 = some ((110, 3, .if_icmp .le 35, 0, 0, 0, 0), 3, 0, 1, 9, 0, 0, 0) := rfl
theorem bt_26_113 : mm_at mt_P 26 113 = some ((113, 1, .aload_n 0, 0, 0, 0, 0), 3, 0, 1, 9, 0, 0, 0) := rfl
theorem bt_26_114 : mm_at mt_P 26 114 = some ((114, 1, .iconst 0, 0, 0, 0, 0), 3, 0, 1, 9, 0, 0, 0) := rfl
theorem bt_26_115 : mm_at mt_P 26 115 = some ((115, 3, .invokevirtual 292, 15, 0, 0, 1523), 3, 0, 1, 9, 0, 0, 0) := rfl
theorem bt_26_118 : mm_at mt_P 26 118 = some ((118, 1, .aload_n 0, 0, 0, 0, 0), 3, 0, 1, 9, 0, 0, 0) := rfl
theorem bt_26_119 : mm_at mt_P 26 119 = some ((119, 1, .dup, 0, 0, 0, 0), 3, 0, 1, 9, 0, 0, 0) := rfl
theorem bt_26_120 : mm_at mt_P 26 120 = some ((120, 3, .getfield 283, 9, 43, 0, 1260), 3, 0, 1, 9, 0, 0, 0) := rfl
theorem bt_26_123 : mm_at mt_P 26 123 = some ((123, 1, .iconst 1, 0, 0, 0, 0), 3, 0, 1, 9, 0, 0, 0) := rfl
theorem bt_26_124 : mm_at mt_P 26 124 = some ((124, 1, .isub, 0, 0, 0, 0), 3, 0, 1, 9, 0, 0, 0) := rfl
theorem bt_26_125 : mm_at mt_P 26 125 = some ((125, 3, .putfield 283, 9, 43, 0, 1260), 3, 0, 1, 9, 0, 0, 0) := rfl
theorem bt_26_128 : mm_at mt_P 26 128 = some ((128, 1, .aload_n 0, 0, 0, 0, 0), 3, 0, 1, 9, 0, 0, 0) := rfl
theorem bt_26_129 : mm_at mt_P 26 129 = some ((129, 1, .dup, 0, 0, 0, 0), 3, 0, 1, 9, 0, 0, 0) := rfl
theorem bt_26_130 : mm_at mt_P 26 130 = some ((130, 3, .getfield 230, 9, 12, 0, 1229), 3, 0, 1, 9, 0, 0, 0) := rfl
theorem bt_26_133 : mm_at mt_P 26 133 = some ((133, 1, .iconst 1, 0, 0, 0, 0), 3, 0, 1, 9, 0, 0, 0) := rfl
theorem bt_26_134 : mm_at mt_P 26 134 = some ((134, 1, .isub, 0, 0, 0, 0), 3, 0, 1, 9, 0, 0, 0) := rfl
theorem bt_26_135 : mm_at mt_P 26 135 = some ((135, 3, .putfield 230, 9, 12, 0, 1229), 3, 0, 1, 9, 0, 0, 0) := rfl
theorem bt_26_138 : mm_at mt_P 26 138 = some ((138, 1, .aload_n 0, 0, 0, 0, 0), 3, 0, 1, 9, 0, 0, 0) := rfl
theorem bt_26_139 : mm_at mt_P 26 139 = some ((139, 3, .invokevirtual 224, 37, 0, 0, 1491), 3, 0, 1, 9, 0, 0, 0) := rfl
theorem bt_26_142 : mm_at mt_P 26 142 = some ((142, 3, .goto (-46), 0, 0, 0, 0), 3, 0, 1, 9, 0, 0, 0) := rfl
theorem bt_26_145 : mm_at mt_P 26 145 = some ((145, 1, .aload_n 0, 0, 0, 0, 0), 3, 0, 1, 9, 0, 0, 0) := rfl
theorem bt_26_146 : mm_at mt_P 26 146 = some ((146, 2, .bipush 8, 0, 0, 0, 0), 3, 0, 1, 9, 0, 0, 0) := rfl
theorem bt_26_148 : mm_at mt_P 26 148 = some ((148, 3, .invokevirtual 221, 45, 0, 0, 1475), 3, 0, 1, 9, 0, 0, 0) := rfl
theorem bt_26_151 : mm_at mt_P 26 151 = some ((151, 3, .ifCond .ne 30, 0, 0, 0, 0), 3, 0, 1, 9, 0, 0, 0) := rfl
theorem bt_26_154 : mm_at mt_P 26 154 = some ((154, 1, .aload_n 0, 0, 0, 0, 0), 3, 0, 1, 9, 0, 0, 0) := rfl
theorem bt_26_155 : mm_at mt_P 26 155 = some ((155, 2, .bipush 9, 0, 0, 0, 0), 3, 0, 1, 9, 0, 0, 0) := rfl
theorem bt_26_157 : mm_at mt_P 26 157 = some ((157, 3, .invokevirtual 221, 45, 0, 0, 1475), 3, 0, 1, 9, 0, 0, 0) := rfl
theorem bt_26_160 : mm_at mt_P 26 160 = some ((160, 3, .ifCond .ne 21, 0, 0, 0, 0), 3, 0, 1, 9, 0, 0, 0) := rfl
theorem bt_26_163 : mm_at mt_P 26 163 = some ((163, 1, .aload_n 0, 0, 0, 0, 0), 3, 0, 1, 9, 0, 0, 0) := rfl
theorem bt_26_164 : mm_at mt_P 26 164 = some ((164, 2, .bipush 10, 0, 0, 0, 0), 3, 0, 1, 9, 0, 0, 0) := rfl
theorem bt_26_166 : mm_at mt_P 26 166 = some ((166, 3, .invokevirtual 221, 45, 0, 0, 1475), 3, 0, 1, 9, 0, 0, 0) := rfl
theorem bt_26_169 : mm_at mt_P 26 169 = some ((169, 3, .ifCond .ne 12, 0, 0, 0, 0), 3, 0, 1, 9, 0, 0, 0) := rfl
theorem bt_26_172 : mm_at mt_P 26 172 = some ((172, 1, .aload_n 0, 0, 0, 0, 0), 3, 0, 1, 9, 0, 0, 0) := rfl
theorem bt_26_173 : mm_at mt_P 26 173 = some ((173, 2, .bipush 15, 0, 0, 0, 0), 3, 0, 1, 9, 0, 0, 0) := rfl
theorem bt_26_175 : mm_at mt_P 26 175 = some ((175, 3, .invokevirtual 221, 45, 0, 0, 1475), 3, 0, 1, 9, 0, 0, 0) := rfl
theorem bt_26_178 : mm_at mt_P 26 178 = some ((178, 3, .ifCond .eq 7, 0, 0, 0, 0), 3, 0, 1, 9, 0, 0, 0) := rfl
theorem bt_26_181 : mm_at mt_P 26 181 = some ((181, 1, .iconst 1, 0, 0, 0, 0), 3, 0, 1, 9, 0, 0, 0) := rfl
theorem bt_26_182 : mm_at mt_P 26 182 = some ((182, 3, .goto 4, 0, 0, 0, 0), 3, 0, 1, 9, 0, 0, 0) := rfl
theorem bt_26_185 : mm_at mt_P 26 185 = some ((185, 1, .iconst 0, 0, 0, 0, 0), 3, 0, 1, 9, 0, 0, 0) := rfl
theorem bt_26_186 : mm_at mt_P 26 186 = some ((186, 1, .istore_n 2, 0, 0, 0, 0), 3, 0, 1, 9, 0, 0, 0) := rfl
theorem bt_26_187 : mm_at mt_P 26 187 = some ((187, 1, .iload_n 2, 0, 0, 0, 0), 3, 0, 1, 9, 0, 0, 0) := rfl
theorem bt_26_188 : mm_at mt_P 26 188 = some ((188, 3, .ifCond .ne 22, 0, 0, 0, 0), 3, 0, 1, 9, 0, 0, 0) := rfl
theorem bt_26_191 : mm_at mt_P 26 191 = some ((191, 1, .aload_n 0, 0, 0, 0, 0), 3, 0, 1, 9, 0, 0, 0) := rfl
theorem bt_26_192 : mm_at mt_P 26 192 = some ((192, 3, .getfield 230, 9, 12, 0, 1229), 3, 0, 1, 9, 0, 0, 0) := rfl
theorem bt_26_195 : mm_at mt_P 26 195 = some ((195, 1, .iload_n 1, 0, 0, 0, 0), 3, 0, 1, 9, 0, 0, 0) := rfl
theorem bt_26_196 : mm_at mt_P 26 196 = some ((196, 3, .if_icmp .le 8, 0, 0, 0, 0), 3, 0, 1, 9, 0, 0, 0) := rfl
theorem bt_26_199 : mm_at mt_P 26 199 = some ((199, 1, .aload_n 0, 0, 0, 0, 0), 3, 0, 1, 9, 0, 0, 0) := rfl
theorem bt_26_200 : mm_at mt_P 26 200 = some ((200, 1, .iconst 1, 0, 0, 0, 0), 3, 0, 1, 9, 0, 0, 0) := rfl
theorem bt_26_201 : mm_at mt_P 26 201 = some ((201, 3, .invokevirtual 218, 27, 0, 0, 1483), 3, 0, 1, 9, 0, 0, 0) := rfl
theorem bt_26_204 : mm_at mt_P 26 204 = some ((204, 1, .aload_n 0, 0, 0, 0, 0), 3, 0, 1, 9, 0, 0, 0) := rfl
theorem bt_26_205 : mm_at mt_P 26 205 = some ((205, 1, .iconst 0, 0, 0, 0, 0), 3, 0, 1, 9, 0, 0, 0) := rfl
theorem bt_26_206 : mm_at mt_P 26 206 = some ((206, 3, .invokevirtual 292, 15, 0, 0, 1523), 3, 0, 1, 9, 0, 0, 0) := rfl
theorem bt_26_209 : mm_at mt_P 26 209 = some ((209, 1, .return_, 0, 0, 0, 0), 3, 0, 1, 9, 0, 0, 0) := rfl
theorem bt_26_210 : mm_at mt_P 26 210 = some ((210, 1, .aload_n 0, 0, 0, 0, 0), 3, 0, 1, 9, 0, 0, 0) := rfl
theorem bt_26_211 : mm_at mt_P 26 211 = some ((211, 1, .aload_n 0, 0, 0, 0, 0), 3, 0, 1, 9, 0, 0, 0) := rfl
theorem bt_26_212 : mm_at mt_P 26 212 = some ((212, 2, .bipush 10, 0, 0, 0, 0), 3, 0, 1, 9, 0, 0, 0) := rfl
theorem bt_26_214 : mm_at mt_P 26 214 = some ((214, 3, .invokevirtual 221, 45, 0, 0, 1475), 3, 0, 1, 9, 0, 0, 0) := rfl
theorem bt_26_217 : mm_at mt_P 26 217 = some ((217, 3, .ifCond .ne 12, 0, 0, 0, 0), 3, 0, 1, 9, 0, 0, 0) := rfl
theorem bt_26_220 : mm_at mt_P 26 220 = some ((220, 1, .aload_n 0, 0, 0, 0, 0), 3, 0, 1, 9, 0, 0, 0) := rfl
theorem bt_26_221 : mm_at mt_P 26 221 = some ((221, 2, .bipush 15, 0, 0, 0, 0), 3, 0, 1, 9, 0, 0, 0) := rfl
theorem bt_26_223 : mm_at mt_P 26 223 = some ((223, 3, .invokevirtual 221, 45, 0, 0, 1475), 3, 0, 1, 9, 0, 0, 0) := rfl
theorem bt_26_226 : mm_at mt_P 26 226 = some ((226, 3, .ifCond .eq 7, 0, 0, 0, 0), 3, 0, 1, 9, 0, 0, 0) := rfl
theorem bt_26_229 : mm_at mt_P 26 229 = some ((229, 1, .iconst 1, 0, 0, 0, 0), 3, 0, 1, 9, 0, 0, 0) := rfl
theorem bt_26_230 : mm_at mt_P 26 230 = some ((230, 3, .goto 4, 0, 0, 0, 0), 3, 0, 1, 9, 0, 0, 0) := rfl
theorem bt_26_233 : mm_at mt_P 26 233 = some ((233, 1, .iconst 0, 0, 0, 0, 0), 3, 0, 1, 9, 0, 0, 0) := rfl
theorem bt_26_234 : mm_at mt_P 26 234 = some ((234, 3, .invokevirtual 292, 15, 0, 0, 1523), 3, 0, 1, 9, 0, 0, 0) := rfl
theorem bt_26_237 : mm_at mt_P 26 237 = some ((237, 1, .aload_n 0, 0, 0, 0, 0), 3, 0, 1, 9, 0, 0, 0) := rfl
theorem bt_26_238 : mm_at mt_P 26 238 = some ((238, 3, .getfield 98, 9, 42, 0, 1259), 3, 0, 1, 9, 0, 0, 0) := rfl
theorem bt_26_241 : mm_at mt_P 26 241 = some ((241, 1, .aload_n 0, 0, 0, 0, 0), 3, 0, 1, 9, 0, 0, 0) := rfl
theorem bt_26_242 : mm_at mt_P 26 242 = some ((242, 3, .getfield 283, 9, 43, 0, 1260), 3, 0, 1, 9, 0, 0, 0) := rfl
theorem bt_26_245 : mm_at mt_P 26 245 = some ((245, 1, .aload_n 0, 0, 0, 0, 0), 3, 0, 1, 9, 0, 0, 0) := rfl
theorem bt_26_246 : mm_at mt_P 26 246 = some ((246, 3, .getfield 20, 9, 5, 0, 1222), 3, 0, 1, 9, 0, 0, 0) := rfl
theorem bt_26_249 : mm_at mt_P 26 249 = some ((249, 1, .aload_n 0, 0, 0, 0, 0), 3, 0, 1, 9, 0, 0, 0) := rfl
theorem bt_26_250 : mm_at mt_P 26 250 = some ((250, 3, .getfield 206, 9, 11, 0, 1228), 3, 0, 1, 9, 0, 0, 0) := rfl
theorem bt_26_253 : mm_at mt_P 26 253 = some ((253, 1, .iaload, 0, 0, 0, 0), 3, 0, 1, 9, 0, 0, 0) := rfl
theorem bt_26_254 : mm_at mt_P 26 254 = some ((254, 1, .iastore, 0, 0, 0, 0), 3, 0, 1, 9, 0, 0, 0) := rfl
theorem bt_26_255 : mm_at mt_P 26 255 = some ((255, 1, .aload_n 0, 0, 0, 0, 0), 3, 0, 1, 9, 0, 0, 0) := rfl
theorem bt_26_256 : mm_at mt_P 26 256 = some ((256, 1, .dup, 0, 0, 0, 0), 3, 0, 1, 9, 0, 0, 0) := rfl
theorem bt_26_257 : mm_at mt_P 26 257 = some ((257, 3, .getfield 283, 9, 43, 0, 1260), 3, 0, 1, 9, 0, 0, 0) := rfl
theorem bt_26_260 : mm_at mt_P 26 260 = some ((260, 1, .iconst 1, 0, 0, 0, 0), 3, 0, 1, 9, 0, 0, 0) := rfl
theorem bt_26_261 : mm_at mt_P 26 261 = some ((261, 1, .iadd, 0, 0, 0, 0), 3, 0, 1, 9, 0, 0, 0) := rfl
theorem bt_26_262 : mm_at mt_P 26 262 = some ((262, 3, .putfield 283, 9, 43, 0, 1260), 3, 0, 1, 9, 0, 0, 0) := rfl
theorem bt_26_265 : mm_at mt_P 26 265 = some ((265, 1, .aload_n 0, 0, 0, 0, 0), 3, 0, 1, 9, 0, 0, 0) := rfl
theorem bt_26_266 : mm_at mt_P 26 266 = some ((266, 3, .invokevirtual 224, 37, 0, 0, 1491), 3, 0, 1, 9, 0, 0, 0) := rfl
theorem bt_26_269 : mm_at mt_P 26 269 = some ((269, 3, .goto (-257), 0, 0, 0, 0), 3, 0, 1, 9, 0, 0, 0) := rfl
theorem bt_26_272 : mm_at mt_P 26 272 = some ((272, 1, .return_, 0, 0, 0, 0), 3, 0, 1, 9, 0, 0, 0) := rfl
theorem bt_105_0 : mm_at mt_P 105 0 = some ((0, 1, .aload_n 0, 0, 0, 0, 0), 1, 0, 1, 9, 0, 0, 0) := rfl
theorem bt_105_1 : mm_at mt_P 105 1 = some ((1, 1, .iconst 2, 0, 0, 0, 0), 1, 0, 1, 9, 0, 0, 0) := rfl
theorem bt_105_2 : mm_at mt_P 105 2 = some ((2, 3, .invokevirtual 221, 45, 0, 0, 1475), 1, 0, 1, 9, 0, 0, 0) := rfl
theorem bt_105_5 : mm_at mt_P 105 5 = some ((5, 3, .ifCond .eq 24, 0, 0, 0, 0), 1, 0, 1, 9, 0, 0, 0) := rfl
theorem bt_105_8 : mm_at mt_P 105 8 = some ((8, 1, .aload_n 0, 0, 0, 0, 0), 1, 0, 1, 9, 0, 0, 0) := rfl
theorem bt_105_9 : mm_at mt_P 105 9 = some ((9, 1, .iconst 0, 0, 0, 0, 0), 1, 0, 1, 9, 0, 0, 0) := rfl
theorem bt_105_10 : mm_at mt_P 105 10 = some ((10, 1, .aload_n 0, 0, 0, 0, 0), 1, 0, 1, 9, 0, 0, 0) := rfl
theorem bt_105_11 : mm_at mt_P 105 11 = some ((11, 3, .getfield 27, 9, 7, 0, 1224), 1, 0, 1, 9, 0, 0, 0) := rfl
theorem bt_105_14 : mm_at mt_P 105 14 = some ((14, 1, .aload_n 0, 0, 0, 0, 0), 1, 0, 1, 9, 0, 0, 0) := rfl
theorem bt_105_15 : mm_at mt_P 105 15 = some ((15, 3, .getfield 206, 9, 11, 0, 1228), 1, 0, 1, 9, 0, 0, 0) := rfl
theorem bt_105_18 : mm_at mt_P 105 18 = some ((18, 1, .iaload, 0, 0, 0, 0), 1, 0, 1, 9, 0, 0, 0) := rfl
theorem bt_105_19 : mm_at mt_P 105 19 = some ((19, 3, .invokevirtual 286, 23, 0, 0, 1519), 1, 0, 1, 9, 0, 0, 0) := rfl
theorem bt_105_22 : mm_at mt_P 105 22 = some ((22, 1, .aload_n 0, 0, 0, 0, 0), 1, 0, 1, 9, 0, 0, 0) := rfl
theorem bt_105_23 : mm_at mt_P 105 23 = some ((23, 3, .invokevirtual 224, 37, 0, 0, 1491), 1, 0, 1, 9, 0, 0, 0) := rfl
theorem bt_105_26 : mm_at mt_P 105 26 = some ((26, 3, .goto 67, 0, 0, 0, 0), 1, 0, 1, 9, 0, 0, 0) := rfl
theorem bt_105_29 : mm_at mt_P 105 29 = some ((29, 1, .aload_n 0, 0, 0, 0, 0), 1, 0, 1, 9, 0, 0, 0) := rfl
theorem bt_105_30 : mm_at mt_P 105 30 = some ((30, 3, .getfield 203, 9, 13, 0, 1230), 1, 0, 1, 9, 0, 0, 0) := rfl
theorem bt_105_33 : mm_at mt_P 105 33 = some ((33, 3, .ifCond .ne 55, 0, 0, 0, 0), 1, 0, 1, 9, 0, 0, 0) := rfl
theorem bt_105_36 : mm_at mt_P 105 36 = some ((36, 1, .aload_n 0, 0, 0, 0, 0), 1, 0, 1, 9, 0, 0, 0) := rfl
theorem bt_105_37 : mm_at mt_P 105 37 = some ((37, 3, .getfield 20, 9, 5, 0, 1222), 1, 0, 1, 9, 0, 0, 0) := rfl
theorem bt_105_40 : mm_at mt_P 105 40 = some ((40, 1, .aload_n 0, 0, 0, 0, 0), 1, 0, 1, 9, 0, 0, 0) := rfl
theorem bt_105_41 : mm_at mt_P 105 41 = some ((41, 3, .getfield 206, 9, 11, 0, 1228), 1, 0, 1, 9, 0, 0, 0) := rfl
theorem bt_105_44 : mm_at mt_P 105 44 = some ((44, 1, .iaload, 0, 0, 0, 0), 1, 0, 1, 9, 0, 0, 0) := rfl
theorem bt_105_45 : mm_at mt_P 105 45 = some ((45, 2, .bipush 35, 0, 0, 0, 0), 1, 0, 1, 9, 0, 0, 0) := rfl
theorem bt_105_47 : mm_at mt_P 105 47 = some ((47, 3, .if_icmp .lt 41, 0, 0, 0, 0), 1, 0, 1, 9, 0, 0, 0) := rfl
theorem bt_105_50 : mm_at mt_P 105 50 = some ((50, 1, .aload_n 0, 0, 0, 0, 0), 1, 0, 1, 9, 0, 0, 0) := rfl
theorem bt_105_51 : mm_at mt_P 105 51 = some ((51, 3, .getfield 20, 9, 5, 0, 1222), 1, 0, 1, 9, 0, 0, 0) := rfl
theorem bt_105_54 : mm_at mt_P 105 54 = some ((54, 1, .aload_n 0, 0, 0, 0, 0), 1, 0, 1, 9, 0, 0, 0) := rfl
theorem bt_105_55 : mm_at mt_P 105 55 = some ((55, 3, .getfield 206, 9, 11, 0, 1228), 1, 0, 1, 9, 0, 0, 0) := rfl
theorem bt_105_58 : mm_at mt_P 105 58 = some ((58, 1, .iaload, 0, 0, 0, 0), 1, 0, 1, 9, 0, 0, 0) := rfl
theorem bt_105_59 : mm_at mt_P 105 59 = some ((59, 2, .bipush 43, 0, 0, 0, 0), 1, 0, 1, 9, 0, 0, 0) := rfl
theorem bt_105_61 : mm_at mt_P 105 61 = some ((61, 3, .if_icmp .gt 27, 0, 0, 0, 0), 1, 0, 1, 9, 0, 0, 0) := rfl
theorem bt_105_64 : mm_at mt_P 105 64 = some ((64, 1, .aload_n 0, 0, 0, 0, 0), 1, 0, 1, 9, 0, 0, 0) := rfl
theorem bt_105_65 : mm_at mt_P 105 65 = some ((65, 1, .iconst 1, 0, 0, 0, 0), 1, 0, 1, 9, 0, 0, 0) := rfl
theorem bt_105_66 : mm_at mt_P 105 66 = some ((66, 1, .aload_n 0, 0, 0, 0, 0), 1, 0, 1, 9, 0, 0, 0) := rfl
theorem bt_105_67 : mm_at mt_P 105 67 = some ((67, 3, .getfield 20, 9, 5, 0, 1222), 1, 0, 1, 9, 0, 0, 0) := rfl
theorem bt_105_70 : mm_at mt_P 105 70 = some ((70, 1, .aload_n 0, 0, 0, 0, 0), 1, 0, 1, 9, 0, 0, 0) := rfl
theorem bt_105_71 : mm_at mt_P 105 71 = some ((71, 3, .getfield 206, 9, 11, 0, 1228), 1, 0, 1, 9, 0, 0, 0) := rfl
theorem bt_105_74 : mm_at mt_P 105 74 = some ((74, 1, .iaload, 0, 0, 0, 0), 1, 0, 1, 9, 0, 0, 0) := rfl
theorem bt_105_75 : mm_at mt_P 105 75 = some ((75, 2, .bipush 35, 0, 0, 0, 0), 1, 0, 1, 9, 0, 0, 0) := rfl
theorem bt_105_77 : mm_at mt_P 105 77 = some ((77, 1, .isub, 0, 0, 0, 0), 1, 0, 1, 9, 0, 0, 0) := rfl
theorem bt_105_78 : mm_at mt_P 105 78 = some ((78, 3, .invokevirtual 286, 23, 0, 0, 1519), 1, 0, 1, 9, 0, 0, 0) := rfl
theorem bt_105_81 : mm_at mt_P 105 81 = some ((81, 1, .aload_n 0, 0, 0, 0, 0), 1, 0, 1, 9, 0, 0, 0) := rfl
theorem bt_105_82 : mm_at mt_P 105 82 = some ((82, 3, .invokevirtual 224, 37, 0, 0, 1491), 1, 0, 1, 9, 0, 0, 0) := rfl
theorem bt_105_85 : mm_at mt_P 105 85 = some ((85, 3, .goto 8, 0, 0, 0, 0), 1, 0, 1, 9, 0, 0, 0) := rfl
theorem bt_105_88 : mm_at mt_P 105 88 = some ((88, 1, .aload_n 0, 0, 0, 0, 0), 1, 0, 1, 9, 0, 0, 0) := rfl
theorem bt_105_89 : mm_at mt_P 105 89 = some ((89, 1, .iconst 1, 0, 0, 0, 0), 1, 0, 1, 9, 0, 0, 0) := rfl
theorem bt_105_90 : mm_at mt_P 105 90 = some ((90, 3, .invokevirtual 218, 27, 0, 0, 1483), 1, 0, 1, 9, 0, 0, 0) := rfl
theorem bt_105_93 : mm_at mt_P 105 93 = some ((93, 1, .return_, 0, 0, 0, 0), 1, 0, 1, 9, 0, 0, 0) := rfl
section BX
variable {E : mm_E} {FIN : mm_C → Prop} {h0 h : mm_H} {s : Nat → Int32} {A : Nat → Nat → Int32} {L : Nat → Nat → Int64} {gs : List mm_F}
theorem sp_105 {t f c : Int32} (hP : bh_P bx_T E h0 h s A L) (hd : gs.length + 3 ≤ 999) (ht : s 11 = t) (hf : s 13 = f) (hc : s 39 = c) (b1 : 0 ≤ t.toInt) (b2 : t.toInt ≤ 400) (b3 : 0 ≤ f.toInt) (b4 : 0 ≤ c.toInt) (b5 : c.toInt < 840) (kk : ∀ (h' : mm_H) (s' : Nat → Int32) (A' : Nat → Nat → Int32), bh_P bx_T E h0 h' s' A' L → (∀ j, j ≠ 11 → j ≠ 13 → j ≠ 14 → j ≠ 39 → s' j = s j) → (∀ k j, ¬ ((k = 113 ∨ k = 114) ∧ j = c.toInt.toNat ∧ c.toInt < (s' 39).toInt) → A' k j = A k j) → 0 ≤ (s' 13).toInt → (((s' 13).toInt = 0 ∧ f.toInt = 0 ∧ (s' 11).toInt = t.toInt + 1 ∧ (s' 11).toInt ≤ 400 ∧ (s' 39).toInt = c.toInt + 1 ∧ ((A' 113 c.toInt.toNat).toInt = 0 ∨ ((A' 113 c.toInt.toNat).toInt = 1 ∧ 0 ≤ (A' 114 c.toInt.toNat).toInt ∧ (A' 114 c.toInt.toNat).toInt ≤ 8))) ∨ (0 < (s' 13).toInt ∧ (s' 11).toInt = t.toInt ∧ c.toInt ≤ (s' 39).toInt ∧ (s' 39).toInt ≤ c.toInt + 1 ∧ (0 < f.toInt → (s' 39).toInt = c.toInt))) → bh_G E FIN (mm_back none gs h')) : bh_G E FIN ((105, 0, [(0, .ref (E.1 + 88))], [], 0, 0) :: gs, h, none) := by
  refine bh_ld (pc' := 1) bt_105_0 rfl rfl (fun _ _ _ => rfl) rfl rfl ?_
  refine bh_c (pc' := 2) (n := 2) bt_105_1 rfl rfl (fun _ _ _ => rfl) (by decide) (fun c67 e68 => ?_)
  refine bh_cv (pc' := 5) (st := []) (args := [.int c67]) bt_105_2 rfl rfl (by decide) hP (by omega) rfl (Nat.le_of_ble_eq_true rfl) (Nat.le_of_ble_eq_true rfl) ?_
  refine sp_45 (k := c67) hP ht hf (by omega) (by omega) (fun r69 p70 => ?_)
  show bh_G E FIN ((105, 5, _, [.int r69], 0, 0) :: gs, _, none)
  refine bh_i0 (pc' := 8) (pt := 29) bt_105_5 rfl rfl (fun k71 => ?_) (fun k71 => ?_)
  · replace k71 : (r69).toInt = 0 := k71
    refine bh_ld (pc' := 30) bt_105_29 rfl rfl (fun _ _ _ => rfl) rfl rfl ?_
    refine bh_gi (pc' := 33) bt_105_30 rfl rfl (fun _ _ _ => rfl) hP bx_i13 hf ?_
    refine bh_i0 (pc' := 36) (pt := 88) bt_105_33 rfl rfl (fun k72 => ?_) (fun k72 => ?_)
    · replace k72 : (f).toInt ≠ 0 := k72
      refine bh_ld (pc' := 89) bt_105_88 rfl rfl (fun _ _ _ => rfl) rfl rfl ?_
      refine bh_c (pc' := 90) (n := 1) bt_105_89 rfl rfl (fun _ _ _ => rfl) (by decide) (fun c73 e74 => ?_)
      refine bh_cv (pc' := 93) (st := []) (args := [.int c73]) bt_105_90 rfl rfl (by decide) hP (by omega) rfl (Nat.le_of_ble_eq_true rfl) (Nat.le_of_ble_eq_true rfl) ?_
      refine sp_27 (k := c73) hP ht hf (by omega) (by omega) (fun h75 s76 hP77 f78 p79 => ?_)
      show bh_G E FIN ((105, 93, _, [], 0, 0) :: gs, _, none)
      refine bh_rv bt_105_93 ?_
      have z11 := congrArg Int32.toInt ((f78 11 (by decide) (by decide)).trans ht)
      have z39 := congrArg Int32.toInt ((f78 39 (by decide) (by decide)).trans hc)
      exact kk _ _ _ hP77 (fun j j11 j13 j14 j39 => (f78 j j13 j14)) (fun _ _ _ => rfl) (by omega) (by omega)
    · replace k72 : ¬ ((f).toInt ≠ 0) := k72
      refine bh_ld (pc' := 37) bt_105_36 rfl rfl (fun _ _ _ => rfl) rfl rfl ?_
      refine bh_gr (pc' := 40) (c := 91) bt_105_37 rfl rfl (fun _ _ _ => rfl) hP bx_r5 ?_
      refine bh_ld (pc' := 41) bt_105_40 rfl rfl (fun _ _ _ => rfl) rfl rfl ?_
      refine bh_gi (pc' := 44) bt_105_41 rfl rfl (fun _ _ _ => rfl) hP bx_i11 ht ?_
      refine bh_ia (pc' := 45) bt_105_44 rfl rfl (fun _ _ _ => rfl) hP bx_a91 (Or.inl rfl) (by omega) (by omega) ?_
      refine bh_c (pc' := 47) (n := 35) bt_105_45 rfl rfl (fun _ _ _ => rfl) (by decide) (fun c80 e81 => ?_)
      refine bh_ic (pc' := 50) (pt := 88) bt_105_47 rfl rfl (fun k82 => ?_) (fun k82 => ?_)
      · replace k82 : ((A 91 (t).toInt.toNat)).toInt < (c80).toInt := k82
        refine bh_ld (pc' := 89) bt_105_88 rfl rfl (fun _ _ _ => rfl) rfl rfl ?_
        refine bh_c (pc' := 90) (n := 1) bt_105_89 rfl rfl (fun _ _ _ => rfl) (by decide) (fun c83 e84 => ?_)
        refine bh_cv (pc' := 93) (st := []) (args := [.int c83]) bt_105_90 rfl rfl (by decide) hP (by omega) rfl (Nat.le_of_ble_eq_true rfl) (Nat.le_of_ble_eq_true rfl) ?_
        refine sp_27 (k := c83) hP ht hf (by omega) (by omega) (fun h85 s86 hP87 f88 p89 => ?_)
        show bh_G E FIN ((105, 93, _, [], 0, 0) :: gs, _, none)
        refine bh_rv bt_105_93 ?_
        have z11 := congrArg Int32.toInt ((f88 11 (by decide) (by decide)).trans ht)
        have z39 := congrArg Int32.toInt ((f88 39 (by decide) (by decide)).trans hc)
        exact kk _ _ _ hP87 (fun j j11 j13 j14 j39 => (f88 j j13 j14)) (fun _ _ _ => rfl) (by omega) (by omega)
      · replace k82 : ¬ (((A 91 (t).toInt.toNat)).toInt < (c80).toInt) := k82
        refine bh_ld (pc' := 51) bt_105_50 rfl rfl (fun _ _ _ => rfl) rfl rfl ?_
        refine bh_gr (pc' := 54) (c := 91) bt_105_51 rfl rfl (fun _ _ _ => rfl) hP bx_r5 ?_
        refine bh_ld (pc' := 55) bt_105_54 rfl rfl (fun _ _ _ => rfl) rfl rfl ?_
        refine bh_gi (pc' := 58) bt_105_55 rfl rfl (fun _ _ _ => rfl) hP bx_i11 ht ?_
        refine bh_ia (pc' := 59) bt_105_58 rfl rfl (fun _ _ _ => rfl) hP bx_a91 (Or.inl rfl) (by omega) (by omega) ?_
        refine bh_c (pc' := 61) (n := 43) bt_105_59 rfl rfl (fun _ _ _ => rfl) (by decide) (fun c90 e91 => ?_)
        refine bh_ic (pc' := 64) (pt := 88) bt_105_61 rfl rfl (fun k92 => ?_) (fun k92 => ?_)
        · replace k92 : (c90).toInt < ((A 91 (t).toInt.toNat)).toInt := k92
          refine bh_ld (pc' := 89) bt_105_88 rfl rfl (fun _ _ _ => rfl) rfl rfl ?_
          refine bh_c (pc' := 90) (n := 1) bt_105_89 rfl rfl (fun _ _ _ => rfl) (by decide) (fun c93 e94 => ?_)
          refine bh_cv (pc' := 93) (st := []) (args := [.int c93]) bt_105_90 rfl rfl (by decide) hP (by omega) rfl (Nat.le_of_ble_eq_true rfl) (Nat.le_of_ble_eq_true rfl) ?_
          refine sp_27 (k := c93) hP ht hf (by omega) (by omega) (fun h95 s96 hP97 f98 p99 => ?_)
          show bh_G E FIN ((105, 93, _, [], 0, 0) :: gs, _, none)
          refine bh_rv bt_105_93 ?_
          have z11 := congrArg Int32.toInt ((f98 11 (by decide) (by decide)).trans ht)
          have z39 := congrArg Int32.toInt ((f98 39 (by decide) (by decide)).trans hc)
          exact kk _ _ _ hP97 (fun j j11 j13 j14 j39 => (f98 j j13 j14)) (fun _ _ _ => rfl) (by omega) (by omega)
        · replace k92 : ¬ ((c90).toInt < ((A 91 (t).toInt.toNat)).toInt) := k92
          refine bh_ld (pc' := 65) bt_105_64 rfl rfl (fun _ _ _ => rfl) rfl rfl ?_
          refine bh_c (pc' := 66) (n := 1) bt_105_65 rfl rfl (fun _ _ _ => rfl) (by decide) (fun c100 e101 => ?_)
          refine bh_ld (pc' := 67) bt_105_66 rfl rfl (fun _ _ _ => rfl) rfl rfl ?_
          refine bh_gr (pc' := 70) (c := 91) bt_105_67 rfl rfl (fun _ _ _ => rfl) hP bx_r5 ?_
          refine bh_ld (pc' := 71) bt_105_70 rfl rfl (fun _ _ _ => rfl) rfl rfl ?_
          refine bh_gi (pc' := 74) bt_105_71 rfl rfl (fun _ _ _ => rfl) hP bx_i11 ht ?_
          refine bh_ia (pc' := 75) bt_105_74 rfl rfl (fun _ _ _ => rfl) hP bx_a91 (Or.inl rfl) (by omega) (by omega) ?_
          refine bh_c (pc' := 77) (n := 35) bt_105_75 rfl rfl (fun _ _ _ => rfl) (by decide) (fun c102 e103 => ?_)
          refine bh_sub (pc' := 78) bt_105_77 rfl (by omega) (by omega) (fun v104 e105 => ?_)
          refine bh_cv (pc' := 81) (st := []) (args := [.int v104, .int c100]) bt_105_78 rfl rfl (by decide) hP (by omega) rfl (Nat.le_of_ble_eq_true rfl) (Nat.le_of_ble_eq_true rfl) ?_
          refine sp_23 (x := c100) (y := v104) hP hc (by omega) (by omega) (fun h106 s107 hP108 f109 p110 => ?_)
          show bh_G E FIN ((105, 81, _, [], 0, 0) :: gs, _, none)
          refine bh_ld (pc' := 82) bt_105_81 rfl rfl (fun _ _ _ => rfl) rfl rfl ?_
          refine bh_cv (pc' := 85) (st := []) (args := []) bt_105_82 rfl rfl (by decide) hP108 (by omega) rfl (Nat.le_of_ble_eq_true rfl) (Nat.le_of_ble_eq_true rfl) ?_
          refine sp_37 hP108 (by simp only [List.length_cons]; omega) ((f109 11 (by decide)).trans ht) ((f109 13 (by decide)).trans hf) (by omega) (by omega) (by omega) (fun h111 s112 hP113 f114 p115 => ?_)
          show bh_G E FIN ((105, 85, _, [], 0, 0) :: gs, _, none)
          refine bh_go (pc' := 93) bt_105_85 rfl ?_
          refine bh_rv bt_105_93 ?_
          have z39 := congrArg Int32.toInt (f114 39 (by decide) (by decide) (by decide))
          have y1 := congrArg Int32.toInt (rd_o113 (A := A) (i := c.toInt.toNat) (x := c100) (y := v104))
          have y2 := congrArg Int32.toInt (rd_o114 (A := A) (i := c.toInt.toNat) (x := c100) (y := v104))
          exact kk _ _ _ hP113 (fun j j11 j13 j14 j39 => ((f114 j j11 j13 j14).trans (f109 j j39))) (fun k j u => rd_o2 k j (by omega)) (by omega) (by omega)
  · replace k71 : ¬ ((r69).toInt = 0) := k71
    refine bh_ld (pc' := 9) bt_105_8 rfl rfl (fun _ _ _ => rfl) rfl rfl ?_
    refine bh_c (pc' := 10) (n := 0) bt_105_9 rfl rfl (fun _ _ _ => rfl) (by decide) (fun c116 e117 => ?_)
    refine bh_ld (pc' := 11) bt_105_10 rfl rfl (fun _ _ _ => rfl) rfl rfl ?_
    refine bh_gr (pc' := 14) (c := 93) bt_105_11 rfl rfl (fun _ _ _ => rfl) hP bx_r7 ?_
    refine bh_ld (pc' := 15) bt_105_14 rfl rfl (fun _ _ _ => rfl) rfl rfl ?_
    refine bh_gi (pc' := 18) bt_105_15 rfl rfl (fun _ _ _ => rfl) hP bx_i11 ht ?_
    refine bh_ia (pc' := 19) bt_105_18 rfl rfl (fun _ _ _ => rfl) hP bx_a93 (Or.inl rfl) (by omega) (by omega) ?_
    refine bh_cv (pc' := 22) (st := []) (args := [.int (A 93 (t).toInt.toNat), .int c116]) bt_105_19 rfl rfl (by decide) hP (by omega) rfl (Nat.le_of_ble_eq_true rfl) (Nat.le_of_ble_eq_true rfl) ?_
    refine sp_23 (x := c116) (y := (A 93 (t).toInt.toNat)) hP hc (by omega) (by omega) (fun h118 s119 hP120 f121 p122 => ?_)
    show bh_G E FIN ((105, 22, _, [], 0, 0) :: gs, _, none)
    refine bh_ld (pc' := 23) bt_105_22 rfl rfl (fun _ _ _ => rfl) rfl rfl ?_
    refine bh_cv (pc' := 26) (st := []) (args := []) bt_105_23 rfl rfl (by decide) hP120 (by omega) rfl (Nat.le_of_ble_eq_true rfl) (Nat.le_of_ble_eq_true rfl) ?_
    refine sp_37 hP120 (by simp only [List.length_cons]; omega) ((f121 11 (by decide)).trans ht) ((f121 13 (by decide)).trans hf) (by omega) (by omega) (by omega) (fun h123 s124 hP125 f126 p127 => ?_)
    show bh_G E FIN ((105, 26, _, [], 0, 0) :: gs, _, none)
    refine bh_go (pc' := 93) bt_105_26 rfl ?_
    refine bh_rv bt_105_93 ?_
    have z39 := congrArg Int32.toInt (f126 39 (by decide) (by decide) (by decide))
    have y1 := congrArg Int32.toInt (rd_o113 (A := A) (i := c.toInt.toNat) (x := c116) (y := (A 93 (t).toInt.toNat)))
    have y2 := congrArg Int32.toInt (rd_o114 (A := A) (i := c.toInt.toNat) (x := c116) (y := (A 93 (t).toInt.toNat)))
    exact kk _ _ _ hP125 (fun j j11 j13 j14 j39 => ((f126 j j11 j13 j14).trans (f121 j j39))) (fun k j u => rd_o2 k j (by omega)) (by omega) (by omega)
theorem rd_out : ∀ (N n : Nat), n < N → ∀ {h : mm_H} {s : Nat → Int32} {A : Nat → Nat → Int32} {lv : mm_V} {o : Option Value} (b : Int32) {w c : Int32} (hP : bh_P bx_T E h0 h s A L) (hd : gs.length + 1 ≤ 999) (g0 : mm_get lv 0 = some (.ref (E.1 + 88))) (g1 : mm_get lv 1 = some (.int b)) (hw : s 43 = w) (hc : s 39 = c) (hn : w.toInt = (n : Int)) (c0 opn g p : Nat) (hwt : rd_wt (A 115) n opn g p) (hc0 : (c0 : Int) ≤ c.toInt) (hb : c.toInt + p < 840) (h64 : n ≤ 64) (hpf : rd_pf (A 113) (A 114) c0 (c.toInt.toNat - c0) (p + 1)) (hp0 : 0 ≤ c.toInt) (kk : ∀ (h' : mm_H) (s' : Nat → Int32) (A' : Nat → Nat → Int32), bh_P bx_T E h0 h' s' A' L → (∀ j, j ≠ 39 → j ≠ 43 → s' j = s j) → (∀ k j, ¬ ((k = 113 ∨ k = 114) ∧ c.toInt.toNat ≤ j ∧ j < (s' 39).toInt.toNat) → A' k j = A k j) → (∃ n' g' p' : Nat, (s' 43).toInt = (n' : Int) ∧ n' ≤ n ∧ rd_wt (A 115) n' opn g' p' ∧ (s' 39).toInt + p' = c.toInt + p ∧ c.toInt ≤ (s' 39).toInt ∧ rd_pf (A' 113) (A' 114) c0 ((s' 39).toInt.toNat - c0) (p' + 1) ∧ (b.toInt = 0 → g' = 0) ∧ g' ≤ 1 ∧ p' ≤ p) → bh_G E FIN (mm_back none gs h')), bh_G E FIN ((15, 0, lv, [], 0, 0) :: gs, h, o) := by
  intro N
  induction N with
  | zero => intro n hnN; exact absurd hnN (Nat.not_lt_zero _)
  | succ N ihN =>
    intro n hnN h s A lv o b w c hP hd g0 g1 hw hc hn c0 opn g p hwt hc0 hb h64 hpf hp0 kk
    refine bh_ld (pc' := 1) bt_15_0 rfl rfl (fun _ _ _ => rfl) g0 rfl ?_
    refine bh_gi (pc' := 4) bt_15_1 rfl rfl (fun _ _ _ => rfl) hP bx_i43 hw ?_
    refine bh_i0 (pc' := 7) (pt := 91) bt_15_4 rfl rfl (fun k128 => ?_) (fun k128 => ?_)
    · replace k128 : (w).toInt ≤ 0 := k128
      refine bh_rv bt_15_91 ?_
      have e0 : n = 0 := by omega
      subst e0
      have kz := rd_wt_z hwt
      have z39 := congrArg Int32.toInt hc
      have z43 := congrArg Int32.toInt hw
      exact kk _ _ _ hP (fun j j39 j43 => rfl) (fun _ _ _ => rfl) ⟨0, g, p, by omega, Nat.le_refl _, hwt, by omega, by omega, by rw [hc]; exact hpf, by omega, by omega, Nat.le_refl _⟩
    · replace k128 : ¬ ((w).toInt ≤ 0) := k128
      refine bh_ld (pc' := 8) bt_15_7 rfl rfl (fun _ _ _ => rfl) g0 rfl ?_
      refine bh_gr (pc' := 11) (c := 115) bt_15_8 rfl rfl (fun _ _ _ => rfl) hP bx_r42 ?_
      refine bh_ld (pc' := 12) bt_15_11 rfl rfl (fun _ _ _ => rfl) g0 rfl ?_
      refine bh_gi (pc' := 15) bt_15_12 rfl rfl (fun _ _ _ => rfl) hP bx_i43 hw ?_
      refine bh_c (pc' := 16) (n := 1) bt_15_15 rfl rfl (fun _ _ _ => rfl) (by decide) (fun c129 e130 => ?_)
      refine bh_sub (pc' := 17) bt_15_16 rfl (by omega) (by omega) (fun v131 e132 => ?_)
      refine bh_ia (pc' := 18) bt_15_17 rfl rfl (fun _ _ _ => rfl) hP bx_a115 (Or.inl rfl) (by omega) (by omega) ?_
      refine bh_st (pc' := 19) bt_15_18 rfl rfl (fun _ _ _ => rfl) rfl (by decide) (by decide) (fun lv133 F134 g135 => ?_)
      have g136 := F134 0 (.ref (E.1 + 88)) g0 (by decide) (Or.inl rfl)
      have g137 := F134 1 (.int b) g1 (by decide) (Or.inl rfl)
      refine bh_ld (pc' := 20) bt_15_19 rfl rfl (fun _ _ _ => rfl) g135 rfl ?_
      refine bh_c (pc' := 22) (n := 6) bt_15_20 rfl rfl (fun _ _ _ => rfl) (by decide) (fun c138 e139 => ?_)
      refine bh_ic (pc' := 25) (pt := 41) bt_15_22 rfl rfl (fun k140 => ?_) (fun k140 => ?_)
      · replace k140 : ((A 115 (v131).toInt.toNat)).toInt = (c138).toInt := k140
        refine bh_rv bt_15_41 ?_
        have ev : v131.toInt.toNat = n - 1 := by omega
        have kz := fun hn : 0 < n => rd_wt_6 hwt hn
        have ky := fun hn : 0 < n => rd_wt_89 hwt hn
        rw [← ev] at kz ky
        have z39 := congrArg Int32.toInt hc
        have z43 := congrArg Int32.toInt hw
        exact kk _ _ _ hP (fun j j39 j43 => rfl) (fun _ _ _ => rfl) ⟨n, g, p, by omega, Nat.le_refl _, hwt, by omega, by omega, by rw [hc]; exact hpf, by omega, by omega, Nat.le_refl _⟩
      · replace k140 : ¬ (((A 115 (v131).toInt.toNat)).toInt = (c138).toInt) := k140
        refine bh_ld (pc' := 26) bt_15_25 rfl rfl (fun _ _ _ => rfl) g137 rfl ?_
        refine bh_i0 (pc' := 29) (pt := 42) bt_15_26 rfl rfl (fun k141 => ?_) (fun k141 => ?_)
        · replace k141 : (b).toInt = 0 := k141
          refine bh_ld (pc' := 43) bt_15_42 rfl rfl (fun _ _ _ => rfl) g136 rfl ?_
          refine bh_dup (pc' := 44) bt_15_43 rfl rfl ?_
          refine bh_gi (pc' := 47) bt_15_44 rfl rfl (fun _ _ _ => rfl) hP bx_i43 hw ?_
          refine bh_c (pc' := 48) (n := 1) bt_15_47 rfl rfl (fun _ _ _ => rfl) (by decide) (fun c142 e143 => ?_)
          refine bh_sub (pc' := 49) bt_15_48 rfl (by omega) (by omega) (fun v144 e145 => ?_)
          refine bh_pf (pc' := 52) bt_15_49 rfl rfl (fun _ _ _ => rfl) hP bx_i43 rfl (fun h146 s147 hP148 e149 f150 => ?_)
          refine bh_ld (pc' := 53) bt_15_52 rfl rfl (fun _ _ _ => rfl) g136 rfl ?_
          refine bh_ld (pc' := 54) bt_15_53 rfl rfl (fun _ _ _ => rfl) g135 rfl ?_
          refine bh_c (pc' := 56) (n := 8) bt_15_54 rfl rfl (fun _ _ _ => rfl) (by decide) (fun c151 e152 => ?_)
          refine bh_ic (pc' := 59) (pt := 63) bt_15_56 rfl rfl (fun k153 => ?_) (fun k153 => ?_)
          · replace k153 : ((A 115 (v131).toInt.toNat)).toInt ≠ (c151).toInt := k153
            refine bh_ld (pc' := 64) bt_15_63 rfl rfl (fun _ _ _ => rfl) g135 rfl ?_
            refine bh_c (pc' := 66) (n := 9) bt_15_64 rfl rfl (fun _ _ _ => rfl) (by decide) (fun c154 e155 => ?_)
            refine bh_ic (pc' := 69) (pt := 73) bt_15_66 rfl rfl (fun k156 => ?_) (fun k156 => ?_)
            · replace k156 : ((A 115 (v131).toInt.toNat)).toInt ≠ (c154).toInt := k156
              refine bh_ld (pc' := 74) bt_15_73 rfl rfl (fun _ _ _ => rfl) g135 rfl ?_
              refine bh_c (pc' := 76) (n := 10) bt_15_74 rfl rfl (fun _ _ _ => rfl) (by decide) (fun c157 e158 => ?_)
              refine bh_ic (pc' := 79) (pt := 83) bt_15_76 rfl rfl (fun k159 => ?_) (fun k159 => ?_)
              · replace k159 : ((A 115 (v131).toInt.toNat)).toInt ≠ (c157).toInt := k159
                refine bh_c (pc' := 84) (n := 5) bt_15_83 rfl rfl (fun _ _ _ => rfl) (by decide) (fun c160 e161 => ?_)
                refine bh_c (pc' := 85) (n := 0) bt_15_84 rfl rfl (fun _ _ _ => rfl) (by decide) (fun c162 e163 => ?_)
                refine bh_cv (pc' := 88) (st := []) (args := [.int c162, .int c160]) bt_15_85 rfl rfl (by decide) hP148 (by omega) rfl (Nat.le_of_ble_eq_true rfl) (Nat.le_of_ble_eq_true rfl) ?_
                refine sp_23 (x := c160) (y := c162) hP148 ((f150 39 (by decide)).trans hc) (by omega) (by omega) (fun h164 s165 hP166 f167 p168 => ?_)
                show bh_G E FIN ((15, 88, lv133, [], 0, 0) :: gs, _, none)
                refine bh_go (pc' := 0) bt_15_88 rfl ?_
                have ev : v131.toInt.toNat = n - 1 := by omega
                have kz : (A 115 (n - 1)).toInt ≠ 6 := by rw [← ev]; omega
                obtain ⟨q1, g', q2⟩ := rd_wt_op hwt (by omega) kz
                have y1 := congrArg Int32.toInt (rd_o113 (A := A) (i := c.toInt.toNat) (x := c160) (y := c162))
                have z43 := congrArg Int32.toInt ((f167 43 (by decide)).trans e149)
                have ec : ((s165 39)).toInt.toNat = c.toInt.toNat + 1 := by omega
                refine ihN (n - 1) (by omega) b hP166 hd g136 g137 ((f167 43 (by decide)).trans e149) rfl (by omega) c0 opn g' (p - 1) ?_ (by omega) (by omega) (by omega) ?_ (by omega) (fun h' s' A' hP' f' a' q' => kk h' s' A' hP' ?_ ?_ ?_)
                · exact q2
                · rw [ec]
                  exact rd_pf_snoc (by omega) hpf (fun j hj => ⟨rd_o2 113 j (by omega), rd_o2 114 j (by omega)⟩) (Or.inr (Or.inr ⟨by omega, by omega, by omega, by omega⟩))
                · exact fun j j39 j43 => (f' j j39 j43).trans ((fun j j39 j43 => ((f167 j j39).trans (f150 j j43))) j j39 j43)
                · have q5 := q'.choose_spec.choose_spec.choose_spec.2.2.2.2.1
                  exact fun k j hkj => (a' k j (by omega)).trans (rd_o2 k j (by omega))
                · obtain ⟨n', g2, p', r1, r2, r3, r4, r5, r6, r7, r8, r9⟩ := q'
                  exact ⟨n', g2, p', r1, by omega, r3, by omega, by omega, r6, r7, r8, by omega⟩
              · replace k159 : ¬ (((A 115 (v131).toInt.toNat)).toInt ≠ (c157).toInt) := k159
                refine bh_c (pc' := 80) (n := 4) bt_15_79 rfl rfl (fun _ _ _ => rfl) (by decide) (fun c169 e170 => ?_)
                refine bh_go (pc' := 84) bt_15_80 rfl ?_
                refine bh_c (pc' := 85) (n := 0) bt_15_84 rfl rfl (fun _ _ _ => rfl) (by decide) (fun c171 e172 => ?_)
                refine bh_cv (pc' := 88) (st := []) (args := [.int c171, .int c169]) bt_15_85 rfl rfl (by decide) hP148 (by omega) rfl (Nat.le_of_ble_eq_true rfl) (Nat.le_of_ble_eq_true rfl) ?_
                refine sp_23 (x := c169) (y := c171) hP148 ((f150 39 (by decide)).trans hc) (by omega) (by omega) (fun h173 s174 hP175 f176 p177 => ?_)
                show bh_G E FIN ((15, 88, lv133, [], 0, 0) :: gs, _, none)
                refine bh_go (pc' := 0) bt_15_88 rfl ?_
                have ev : v131.toInt.toNat = n - 1 := by omega
                have kz : (A 115 (n - 1)).toInt ≠ 6 := by rw [← ev]; omega
                obtain ⟨q1, g', q2⟩ := rd_wt_op hwt (by omega) kz
                have y1 := congrArg Int32.toInt (rd_o113 (A := A) (i := c.toInt.toNat) (x := c169) (y := c171))
                have z43 := congrArg Int32.toInt ((f176 43 (by decide)).trans e149)
                have ec : ((s174 39)).toInt.toNat = c.toInt.toNat + 1 := by omega
                refine ihN (n - 1) (by omega) b hP175 hd g136 g137 ((f176 43 (by decide)).trans e149) rfl (by omega) c0 opn g' (p - 1) ?_ (by omega) (by omega) (by omega) ?_ (by omega) (fun h' s' A' hP' f' a' q' => kk h' s' A' hP' ?_ ?_ ?_)
                · exact q2
                · rw [ec]
                  exact rd_pf_snoc (by omega) hpf (fun j hj => ⟨rd_o2 113 j (by omega), rd_o2 114 j (by omega)⟩) (Or.inr (Or.inr ⟨by omega, by omega, by omega, by omega⟩))
                · exact fun j j39 j43 => (f' j j39 j43).trans ((fun j j39 j43 => ((f176 j j39).trans (f150 j j43))) j j39 j43)
                · have q5 := q'.choose_spec.choose_spec.choose_spec.2.2.2.2.1
                  exact fun k j hkj => (a' k j (by omega)).trans (rd_o2 k j (by omega))
                · obtain ⟨n', g2, p', r1, r2, r3, r4, r5, r6, r7, r8, r9⟩ := q'
                  exact ⟨n', g2, p', r1, by omega, r3, by omega, by omega, r6, r7, r8, by omega⟩
            · replace k156 : ¬ (((A 115 (v131).toInt.toNat)).toInt ≠ (c154).toInt) := k156
              refine bh_c (pc' := 70) (n := 3) bt_15_69 rfl rfl (fun _ _ _ => rfl) (by decide) (fun c178 e179 => ?_)
              refine bh_go (pc' := 84) bt_15_70 rfl ?_
              refine bh_c (pc' := 85) (n := 0) bt_15_84 rfl rfl (fun _ _ _ => rfl) (by decide) (fun c180 e181 => ?_)
              refine bh_cv (pc' := 88) (st := []) (args := [.int c180, .int c178]) bt_15_85 rfl rfl (by decide) hP148 (by omega) rfl (Nat.le_of_ble_eq_true rfl) (Nat.le_of_ble_eq_true rfl) ?_
              refine sp_23 (x := c178) (y := c180) hP148 ((f150 39 (by decide)).trans hc) (by omega) (by omega) (fun h182 s183 hP184 f185 p186 => ?_)
              show bh_G E FIN ((15, 88, lv133, [], 0, 0) :: gs, _, none)
              refine bh_go (pc' := 0) bt_15_88 rfl ?_
              have ev : v131.toInt.toNat = n - 1 := by omega
              have kz : (A 115 (n - 1)).toInt ≠ 6 := by rw [← ev]; omega
              obtain ⟨q1, g', q2⟩ := rd_wt_op hwt (by omega) kz
              have y1 := congrArg Int32.toInt (rd_o113 (A := A) (i := c.toInt.toNat) (x := c178) (y := c180))
              have z43 := congrArg Int32.toInt ((f185 43 (by decide)).trans e149)
              have ec : ((s183 39)).toInt.toNat = c.toInt.toNat + 1 := by omega
              refine ihN (n - 1) (by omega) b hP184 hd g136 g137 ((f185 43 (by decide)).trans e149) rfl (by omega) c0 opn g' (p - 1) ?_ (by omega) (by omega) (by omega) ?_ (by omega) (fun h' s' A' hP' f' a' q' => kk h' s' A' hP' ?_ ?_ ?_)
              · exact q2
              · rw [ec]
                exact rd_pf_snoc (by omega) hpf (fun j hj => ⟨rd_o2 113 j (by omega), rd_o2 114 j (by omega)⟩) (Or.inr (Or.inr ⟨by omega, by omega, by omega, by omega⟩))
              · exact fun j j39 j43 => (f' j j39 j43).trans ((fun j j39 j43 => ((f185 j j39).trans (f150 j j43))) j j39 j43)
              · have q5 := q'.choose_spec.choose_spec.choose_spec.2.2.2.2.1
                exact fun k j hkj => (a' k j (by omega)).trans (rd_o2 k j (by omega))
              · obtain ⟨n', g2, p', r1, r2, r3, r4, r5, r6, r7, r8, r9⟩ := q'
                exact ⟨n', g2, p', r1, by omega, r3, by omega, by omega, r6, r7, r8, by omega⟩
          · replace k153 : ¬ (((A 115 (v131).toInt.toNat)).toInt ≠ (c151).toInt) := k153
            refine bh_c (pc' := 60) (n := 2) bt_15_59 rfl rfl (fun _ _ _ => rfl) (by decide) (fun c187 e188 => ?_)
            refine bh_go (pc' := 84) bt_15_60 rfl ?_
            refine bh_c (pc' := 85) (n := 0) bt_15_84 rfl rfl (fun _ _ _ => rfl) (by decide) (fun c189 e190 => ?_)
            refine bh_cv (pc' := 88) (st := []) (args := [.int c189, .int c187]) bt_15_85 rfl rfl (by decide) hP148 (by omega) rfl (Nat.le_of_ble_eq_true rfl) (Nat.le_of_ble_eq_true rfl) ?_
            refine sp_23 (x := c187) (y := c189) hP148 ((f150 39 (by decide)).trans hc) (by omega) (by omega) (fun h191 s192 hP193 f194 p195 => ?_)
            show bh_G E FIN ((15, 88, lv133, [], 0, 0) :: gs, _, none)
            refine bh_go (pc' := 0) bt_15_88 rfl ?_
            have ev : v131.toInt.toNat = n - 1 := by omega
            have kz : (A 115 (n - 1)).toInt ≠ 6 := by rw [← ev]; omega
            obtain ⟨q1, g', q2⟩ := rd_wt_op hwt (by omega) kz
            have y1 := congrArg Int32.toInt (rd_o113 (A := A) (i := c.toInt.toNat) (x := c187) (y := c189))
            have z43 := congrArg Int32.toInt ((f194 43 (by decide)).trans e149)
            have ec : ((s192 39)).toInt.toNat = c.toInt.toNat + 1 := by omega
            refine ihN (n - 1) (by omega) b hP193 hd g136 g137 ((f194 43 (by decide)).trans e149) rfl (by omega) c0 opn g' (p - 1) ?_ (by omega) (by omega) (by omega) ?_ (by omega) (fun h' s' A' hP' f' a' q' => kk h' s' A' hP' ?_ ?_ ?_)
            · exact q2
            · rw [ec]
              exact rd_pf_snoc (by omega) hpf (fun j hj => ⟨rd_o2 113 j (by omega), rd_o2 114 j (by omega)⟩) (Or.inr (Or.inr ⟨by omega, by omega, by omega, by omega⟩))
            · exact fun j j39 j43 => (f' j j39 j43).trans ((fun j j39 j43 => ((f194 j j39).trans (f150 j j43))) j j39 j43)
            · have q5 := q'.choose_spec.choose_spec.choose_spec.2.2.2.2.1
              exact fun k j hkj => (a' k j (by omega)).trans (rd_o2 k j (by omega))
            · obtain ⟨n', g2, p', r1, r2, r3, r4, r5, r6, r7, r8, r9⟩ := q'
              exact ⟨n', g2, p', r1, by omega, r3, by omega, by omega, r6, r7, r8, by omega⟩
        · replace k141 : ¬ ((b).toInt = 0) := k141
          refine bh_ld (pc' := 30) bt_15_29 rfl rfl (fun _ _ _ => rfl) g135 rfl ?_
          refine bh_c (pc' := 32) (n := 8) bt_15_30 rfl rfl (fun _ _ _ => rfl) (by decide) (fun c196 e197 => ?_)
          refine bh_ic (pc' := 35) (pt := 41) bt_15_32 rfl rfl (fun k198 => ?_) (fun k198 => ?_)
          · replace k198 : ((A 115 (v131).toInt.toNat)).toInt = (c196).toInt := k198
            refine bh_rv bt_15_41 ?_
            have ev : v131.toInt.toNat = n - 1 := by omega
            have kz := fun hn : 0 < n => rd_wt_6 hwt hn
            have ky := fun hn : 0 < n => rd_wt_89 hwt hn
            rw [← ev] at kz ky
            have z39 := congrArg Int32.toInt hc
            have z43 := congrArg Int32.toInt hw
            exact kk _ _ _ hP (fun j j39 j43 => rfl) (fun _ _ _ => rfl) ⟨n, g, p, by omega, Nat.le_refl _, hwt, by omega, by omega, by rw [hc]; exact hpf, by omega, by omega, Nat.le_refl _⟩
          · replace k198 : ¬ (((A 115 (v131).toInt.toNat)).toInt = (c196).toInt) := k198
            refine bh_ld (pc' := 36) bt_15_35 rfl rfl (fun _ _ _ => rfl) g135 rfl ?_
            refine bh_c (pc' := 38) (n := 9) bt_15_36 rfl rfl (fun _ _ _ => rfl) (by decide) (fun c199 e200 => ?_)
            refine bh_ic (pc' := 41) (pt := 42) bt_15_38 rfl rfl (fun k201 => ?_) (fun k201 => ?_)
            · replace k201 : ((A 115 (v131).toInt.toNat)).toInt ≠ (c199).toInt := k201
              refine bh_ld (pc' := 43) bt_15_42 rfl rfl (fun _ _ _ => rfl) g136 rfl ?_
              refine bh_dup (pc' := 44) bt_15_43 rfl rfl ?_
              refine bh_gi (pc' := 47) bt_15_44 rfl rfl (fun _ _ _ => rfl) hP bx_i43 hw ?_
              refine bh_c (pc' := 48) (n := 1) bt_15_47 rfl rfl (fun _ _ _ => rfl) (by decide) (fun c202 e203 => ?_)
              refine bh_sub (pc' := 49) bt_15_48 rfl (by omega) (by omega) (fun v204 e205 => ?_)
              refine bh_pf (pc' := 52) bt_15_49 rfl rfl (fun _ _ _ => rfl) hP bx_i43 rfl (fun h206 s207 hP208 e209 f210 => ?_)
              refine bh_ld (pc' := 53) bt_15_52 rfl rfl (fun _ _ _ => rfl) g136 rfl ?_
              refine bh_ld (pc' := 54) bt_15_53 rfl rfl (fun _ _ _ => rfl) g135 rfl ?_
              refine bh_c (pc' := 56) (n := 8) bt_15_54 rfl rfl (fun _ _ _ => rfl) (by decide) (fun c211 e212 => ?_)
              refine bh_ic (pc' := 59) (pt := 63) bt_15_56 rfl rfl (fun k213 => ?_) (fun k213 => ?_)
              · replace k213 : ((A 115 (v131).toInt.toNat)).toInt ≠ (c211).toInt := k213
                refine bh_ld (pc' := 64) bt_15_63 rfl rfl (fun _ _ _ => rfl) g135 rfl ?_
                refine bh_c (pc' := 66) (n := 9) bt_15_64 rfl rfl (fun _ _ _ => rfl) (by decide) (fun c214 e215 => ?_)
                refine bh_ic (pc' := 69) (pt := 73) bt_15_66 rfl rfl (fun k216 => ?_) (fun k216 => ?_)
                · replace k216 : ((A 115 (v131).toInt.toNat)).toInt ≠ (c214).toInt := k216
                  refine bh_ld (pc' := 74) bt_15_73 rfl rfl (fun _ _ _ => rfl) g135 rfl ?_
                  refine bh_c (pc' := 76) (n := 10) bt_15_74 rfl rfl (fun _ _ _ => rfl) (by decide) (fun c217 e218 => ?_)
                  refine bh_ic (pc' := 79) (pt := 83) bt_15_76 rfl rfl (fun k219 => ?_) (fun k219 => ?_)
                  · replace k219 : ((A 115 (v131).toInt.toNat)).toInt ≠ (c217).toInt := k219
                    refine bh_c (pc' := 84) (n := 5) bt_15_83 rfl rfl (fun _ _ _ => rfl) (by decide) (fun c220 e221 => ?_)
                    refine bh_c (pc' := 85) (n := 0) bt_15_84 rfl rfl (fun _ _ _ => rfl) (by decide) (fun c222 e223 => ?_)
                    refine bh_cv (pc' := 88) (st := []) (args := [.int c222, .int c220]) bt_15_85 rfl rfl (by decide) hP208 (by omega) rfl (Nat.le_of_ble_eq_true rfl) (Nat.le_of_ble_eq_true rfl) ?_
                    refine sp_23 (x := c220) (y := c222) hP208 ((f210 39 (by decide)).trans hc) (by omega) (by omega) (fun h224 s225 hP226 f227 p228 => ?_)
                    show bh_G E FIN ((15, 88, lv133, [], 0, 0) :: gs, _, none)
                    refine bh_go (pc' := 0) bt_15_88 rfl ?_
                    have ev : v131.toInt.toNat = n - 1 := by omega
                    have kz : (A 115 (n - 1)).toInt ≠ 6 := by rw [← ev]; omega
                    obtain ⟨q1, g', q2⟩ := rd_wt_op hwt (by omega) kz
                    have y1 := congrArg Int32.toInt (rd_o113 (A := A) (i := c.toInt.toNat) (x := c220) (y := c222))
                    have z43 := congrArg Int32.toInt ((f227 43 (by decide)).trans e209)
                    have ec : ((s225 39)).toInt.toNat = c.toInt.toNat + 1 := by omega
                    refine ihN (n - 1) (by omega) b hP226 hd g136 g137 ((f227 43 (by decide)).trans e209) rfl (by omega) c0 opn g' (p - 1) ?_ (by omega) (by omega) (by omega) ?_ (by omega) (fun h' s' A' hP' f' a' q' => kk h' s' A' hP' ?_ ?_ ?_)
                    · exact q2
                    · rw [ec]
                      exact rd_pf_snoc (by omega) hpf (fun j hj => ⟨rd_o2 113 j (by omega), rd_o2 114 j (by omega)⟩) (Or.inr (Or.inr ⟨by omega, by omega, by omega, by omega⟩))
                    · exact fun j j39 j43 => (f' j j39 j43).trans ((fun j j39 j43 => ((f227 j j39).trans (f210 j j43))) j j39 j43)
                    · have q5 := q'.choose_spec.choose_spec.choose_spec.2.2.2.2.1
                      exact fun k j hkj => (a' k j (by omega)).trans (rd_o2 k j (by omega))
                    · obtain ⟨n', g2, p', r1, r2, r3, r4, r5, r6, r7, r8, r9⟩ := q'
                      exact ⟨n', g2, p', r1, by omega, r3, by omega, by omega, r6, r7, r8, by omega⟩
                  · replace k219 : ¬ (((A 115 (v131).toInt.toNat)).toInt ≠ (c217).toInt) := k219
                    refine bh_c (pc' := 80) (n := 4) bt_15_79 rfl rfl (fun _ _ _ => rfl) (by decide) (fun c229 e230 => ?_)
                    refine bh_go (pc' := 84) bt_15_80 rfl ?_
                    refine bh_c (pc' := 85) (n := 0) bt_15_84 rfl rfl (fun _ _ _ => rfl) (by decide) (fun c231 e232 => ?_)
                    refine bh_cv (pc' := 88) (st := []) (args := [.int c231, .int c229]) bt_15_85 rfl rfl (by decide) hP208 (by omega) rfl (Nat.le_of_ble_eq_true rfl) (Nat.le_of_ble_eq_true rfl) ?_
                    refine sp_23 (x := c229) (y := c231) hP208 ((f210 39 (by decide)).trans hc) (by omega) (by omega) (fun h233 s234 hP235 f236 p237 => ?_)
                    show bh_G E FIN ((15, 88, lv133, [], 0, 0) :: gs, _, none)
                    refine bh_go (pc' := 0) bt_15_88 rfl ?_
                    have ev : v131.toInt.toNat = n - 1 := by omega
                    have kz : (A 115 (n - 1)).toInt ≠ 6 := by rw [← ev]; omega
                    obtain ⟨q1, g', q2⟩ := rd_wt_op hwt (by omega) kz
                    have y1 := congrArg Int32.toInt (rd_o113 (A := A) (i := c.toInt.toNat) (x := c229) (y := c231))
                    have z43 := congrArg Int32.toInt ((f236 43 (by decide)).trans e209)
                    have ec : ((s234 39)).toInt.toNat = c.toInt.toNat + 1 := by omega
                    refine ihN (n - 1) (by omega) b hP235 hd g136 g137 ((f236 43 (by decide)).trans e209) rfl (by omega) c0 opn g' (p - 1) ?_ (by omega) (by omega) (by omega) ?_ (by omega) (fun h' s' A' hP' f' a' q' => kk h' s' A' hP' ?_ ?_ ?_)
                    · exact q2
                    · rw [ec]
                      exact rd_pf_snoc (by omega) hpf (fun j hj => ⟨rd_o2 113 j (by omega), rd_o2 114 j (by omega)⟩) (Or.inr (Or.inr ⟨by omega, by omega, by omega, by omega⟩))
                    · exact fun j j39 j43 => (f' j j39 j43).trans ((fun j j39 j43 => ((f236 j j39).trans (f210 j j43))) j j39 j43)
                    · have q5 := q'.choose_spec.choose_spec.choose_spec.2.2.2.2.1
                      exact fun k j hkj => (a' k j (by omega)).trans (rd_o2 k j (by omega))
                    · obtain ⟨n', g2, p', r1, r2, r3, r4, r5, r6, r7, r8, r9⟩ := q'
                      exact ⟨n', g2, p', r1, by omega, r3, by omega, by omega, r6, r7, r8, by omega⟩
                · replace k216 : ¬ (((A 115 (v131).toInt.toNat)).toInt ≠ (c214).toInt) := k216
                  refine bh_c (pc' := 70) (n := 3) bt_15_69 rfl rfl (fun _ _ _ => rfl) (by decide) (fun c238 e239 => ?_)
                  refine bh_go (pc' := 84) bt_15_70 rfl ?_
                  refine bh_c (pc' := 85) (n := 0) bt_15_84 rfl rfl (fun _ _ _ => rfl) (by decide) (fun c240 e241 => ?_)
                  refine bh_cv (pc' := 88) (st := []) (args := [.int c240, .int c238]) bt_15_85 rfl rfl (by decide) hP208 (by omega) rfl (Nat.le_of_ble_eq_true rfl) (Nat.le_of_ble_eq_true rfl) ?_
                  refine sp_23 (x := c238) (y := c240) hP208 ((f210 39 (by decide)).trans hc) (by omega) (by omega) (fun h242 s243 hP244 f245 p246 => ?_)
                  show bh_G E FIN ((15, 88, lv133, [], 0, 0) :: gs, _, none)
                  refine bh_go (pc' := 0) bt_15_88 rfl ?_
                  have ev : v131.toInt.toNat = n - 1 := by omega
                  have kz : (A 115 (n - 1)).toInt ≠ 6 := by rw [← ev]; omega
                  obtain ⟨q1, g', q2⟩ := rd_wt_op hwt (by omega) kz
                  have y1 := congrArg Int32.toInt (rd_o113 (A := A) (i := c.toInt.toNat) (x := c238) (y := c240))
                  have z43 := congrArg Int32.toInt ((f245 43 (by decide)).trans e209)
                  have ec : ((s243 39)).toInt.toNat = c.toInt.toNat + 1 := by omega
                  refine ihN (n - 1) (by omega) b hP244 hd g136 g137 ((f245 43 (by decide)).trans e209) rfl (by omega) c0 opn g' (p - 1) ?_ (by omega) (by omega) (by omega) ?_ (by omega) (fun h' s' A' hP' f' a' q' => kk h' s' A' hP' ?_ ?_ ?_)
                  · exact q2
                  · rw [ec]
                    exact rd_pf_snoc (by omega) hpf (fun j hj => ⟨rd_o2 113 j (by omega), rd_o2 114 j (by omega)⟩) (Or.inr (Or.inr ⟨by omega, by omega, by omega, by omega⟩))
                  · exact fun j j39 j43 => (f' j j39 j43).trans ((fun j j39 j43 => ((f245 j j39).trans (f210 j j43))) j j39 j43)
                  · have q5 := q'.choose_spec.choose_spec.choose_spec.2.2.2.2.1
                    exact fun k j hkj => (a' k j (by omega)).trans (rd_o2 k j (by omega))
                  · obtain ⟨n', g2, p', r1, r2, r3, r4, r5, r6, r7, r8, r9⟩ := q'
                    exact ⟨n', g2, p', r1, by omega, r3, by omega, by omega, r6, r7, r8, by omega⟩
              · replace k213 : ¬ (((A 115 (v131).toInt.toNat)).toInt ≠ (c211).toInt) := k213
                refine bh_c (pc' := 60) (n := 2) bt_15_59 rfl rfl (fun _ _ _ => rfl) (by decide) (fun c247 e248 => ?_)
                refine bh_go (pc' := 84) bt_15_60 rfl ?_
                refine bh_c (pc' := 85) (n := 0) bt_15_84 rfl rfl (fun _ _ _ => rfl) (by decide) (fun c249 e250 => ?_)
                refine bh_cv (pc' := 88) (st := []) (args := [.int c249, .int c247]) bt_15_85 rfl rfl (by decide) hP208 (by omega) rfl (Nat.le_of_ble_eq_true rfl) (Nat.le_of_ble_eq_true rfl) ?_
                refine sp_23 (x := c247) (y := c249) hP208 ((f210 39 (by decide)).trans hc) (by omega) (by omega) (fun h251 s252 hP253 f254 p255 => ?_)
                show bh_G E FIN ((15, 88, lv133, [], 0, 0) :: gs, _, none)
                refine bh_go (pc' := 0) bt_15_88 rfl ?_
                have ev : v131.toInt.toNat = n - 1 := by omega
                have kz : (A 115 (n - 1)).toInt ≠ 6 := by rw [← ev]; omega
                obtain ⟨q1, g', q2⟩ := rd_wt_op hwt (by omega) kz
                have y1 := congrArg Int32.toInt (rd_o113 (A := A) (i := c.toInt.toNat) (x := c247) (y := c249))
                have z43 := congrArg Int32.toInt ((f254 43 (by decide)).trans e209)
                have ec : ((s252 39)).toInt.toNat = c.toInt.toNat + 1 := by omega
                refine ihN (n - 1) (by omega) b hP253 hd g136 g137 ((f254 43 (by decide)).trans e209) rfl (by omega) c0 opn g' (p - 1) ?_ (by omega) (by omega) (by omega) ?_ (by omega) (fun h' s' A' hP' f' a' q' => kk h' s' A' hP' ?_ ?_ ?_)
                · exact q2
                · rw [ec]
                  exact rd_pf_snoc (by omega) hpf (fun j hj => ⟨rd_o2 113 j (by omega), rd_o2 114 j (by omega)⟩) (Or.inr (Or.inr ⟨by omega, by omega, by omega, by omega⟩))
                · exact fun j j39 j43 => (f' j j39 j43).trans ((fun j j39 j43 => ((f254 j j39).trans (f210 j j43))) j j39 j43)
                · have q5 := q'.choose_spec.choose_spec.choose_spec.2.2.2.2.1
                  exact fun k j hkj => (a' k j (by omega)).trans (rd_o2 k j (by omega))
                · obtain ⟨n', g2, p', r1, r2, r3, r4, r5, r6, r7, r8, r9⟩ := q'
                  exact ⟨n', g2, p', r1, by omega, r3, by omega, by omega, r6, r7, r8, by omega⟩
            · replace k201 : ¬ (((A 115 (v131).toInt.toNat)).toInt ≠ (c199).toInt) := k201
              refine bh_rv bt_15_41 ?_
              have ev : v131.toInt.toNat = n - 1 := by omega
              have kz := fun hn : 0 < n => rd_wt_6 hwt hn
              have ky := fun hn : 0 < n => rd_wt_89 hwt hn
              rw [← ev] at kz ky
              have z39 := congrArg Int32.toInt hc
              have z43 := congrArg Int32.toInt hw
              exact kk _ _ _ hP (fun j j39 j43 => rfl) (fun _ _ _ => rfl) ⟨n, g, p, by omega, Nat.le_refl _, hwt, by omega, by omega, by rw [hc]; exact hpf, by omega, by omega, Nat.le_refl _⟩
set_option maxHeartbeats 40000000 in
theorem rd_expr {s0 : Nat → Int32} {A0 : Nat → Nat → Int32} (hT0 : 0 ≤ (s0 11).toInt) (hO0 : 0 ≤ (s0 12).toInt) (hC0 : 0 ≤ (s0 39).toInt) (hCb : (s0 13).toInt = 0 → (s0 39).toInt ≤ (s0 11).toInt + 420) (hd : gs.length + 4 ≤ 999) {b : Int32} (hb0 : b.toInt = (s0 12).toInt) (kk : ∀ (h' : mm_H) (s' : Nat → Int32) (A' : Nat → Nat → Int32), bh_P bx_T E h0 h' s' A' L → rd_Y s0 s' A0 A' → bh_G E FIN (mm_back none gs h')) : ∀ N : Nat, ∀ (h : mm_H) (s : Nat → Int32) (A : Nat → Nat → Int32) (lv : mm_V) (o : Option Value), bh_P bx_T E h0 h s A L → mm_get lv 0 = some (.ref (E.1 + 88)) → mm_get lv 1 = some (.int b) → (0 : Int) < N → ((s 13).toInt = 0 → 401 - (s 11).toInt < N) → (rd_X s0 s A0 A 0 → bh_G E FIN ((26, 23, lv, [], 0, 0) :: gs, h, o)) ∧ (rd_X s0 s A0 A 1 → bh_G E FIN ((26, 96, lv, [], 0, 0) :: gs, h, o)) := by
  intro N
  induction N with
  | zero => intro h s A lv o _ _ _ h1; exact absurd h1 (by omega)
  | succ N ih =>
    have i12 : ∀ (h : mm_H) (s : Nat → Int32) (A : Nat → Nat → Int32) (lv : mm_V) (o : Option Value) (m : Int32), bh_P bx_T E h0 h s A L → mm_get lv 0 = some (.ref (E.1 + 88)) → mm_get lv 1 = some (.int b) → mm_get lv 2 = some (.int m) → m.toInt = 1 → ((s 13).toInt = 0 → 0 < (N : Int) ∧ 401 - (s 11).toInt < (N : Int)) → rd_Z s0 s A0 A → bh_G E FIN ((26, 12, lv, [], 0, 0) :: gs, h, o) := by
      intro h s A lv o m hP g0 g1 g2 hm hN hZ
      obtain ⟨x1, x2, x3, x4, x5, x6, x7, x8, x9, x10, x11⟩ := hZ
      refine bh_ld (pc' := 13) bt_26_12 rfl rfl (fun _ _ _ => rfl) g2 rfl ?_
      refine bh_i0 (pc' := 16) (pt := 272) bt_26_13 rfl rfl (fun k256 => ?_) (fun k256 => ?_)
      · replace k256 : (m).toInt = 0 := k256
        omega
      · replace k256 : ¬ ((m).toInt = 0) := k256
        refine bh_ld (pc' := 17) bt_26_16 rfl rfl (fun _ _ _ => rfl) g0 rfl ?_
        refine bh_gi (pc' := 20) bt_26_17 rfl rfl (fun _ _ _ => rfl) hP bx_i13 rfl ?_
        refine bh_i0 (pc' := 23) (pt := 272) bt_26_20 rfl rfl (fun k257 => ?_) (fun k257 => ?_)
        · replace k257 : ((s 13)).toInt ≠ 0 := k257
          refine bh_rv bt_26_272 ?_
          refine kk _ _ _ hP ⟨(fun j j11 j12 j13 j14 j39 j43 => ((fun j j11 j12 j13 j14 j39 j43 => rfl) j j11 j12 j13 j14 j39 j43).trans (x1 j j11 j12 j13 j14 j39 j43)), (fun k j u v => (x2 k j (by omega) v)), by omega, by omega, by omega, by omega, by omega, by omega, by omega, by omega, fun hF => by omega⟩
        · replace k257 : ¬ (((s 13)).toInt ≠ 0) := k257
          exact (ih _ _ _ _ _ hP g0 g1 (by omega) (by omega)).1 (x11 (by omega))
    intro h s A lv o hP g0 g1 hN1 hN2
    refine ⟨fun hX => ?_, fun hX => ?_⟩
    · obtain ⟨x1, x2, x3, x4, x5, x6, x7, x8, x9, n, opn, g, p, y1, y2, y3, y4, y5⟩ := hX
      have l0 := rd_wt_len _ _ _ _ y2
      refine bh_ld (pc' := 24) bt_26_23 rfl rfl (fun _ _ _ => rfl) g0 rfl ?_
      refine bh_c (pc' := 26) (n := 6) bt_26_24 rfl rfl (fun _ _ _ => rfl) (by decide) (fun c258 e259 => ?_)
      refine bh_cv (pc' := 29) (st := []) (args := [.int c258]) bt_26_26 rfl rfl (by decide) hP (by omega) rfl (Nat.le_of_ble_eq_true rfl) (Nat.le_of_ble_eq_true rfl) ?_
      refine sp_45 (k := c258) hP rfl rfl (by omega) (by omega) (fun r260 p261 => ?_)
      show bh_G E FIN ((26, 29, lv, [.int r260], 0, 0) :: gs, _, none)
      refine bh_i0 (pc' := 32) (pt := 84) bt_26_29 rfl rfl (fun k262 => ?_) (fun k262 => ?_)
      · replace k262 : (r260).toInt = 0 := k262
        refine bh_ld (pc' := 85) bt_26_84 rfl rfl (fun _ _ _ => rfl) g0 rfl ?_
        refine bh_cv (pc' := 88) (st := []) (args := []) bt_26_85 rfl rfl (by decide) hP (by omega) rfl (Nat.le_of_ble_eq_true rfl) (Nat.le_of_ble_eq_true rfl) ?_
        refine sp_105 hP (by simp only [List.length_cons]; omega) rfl rfl rfl (by omega) (by omega) (by omega) (by omega) (by omega) (fun h263 s264 A268 hP265 f266 a269 z270 p267 => ?_)
        show bh_G E FIN ((26, 88, lv, [], 0, 0) :: gs, _, none)
        refine bh_ld (pc' := 89) bt_26_88 rfl rfl (fun _ _ _ => rfl) g0 rfl ?_
        refine bh_gi (pc' := 92) bt_26_89 rfl rfl (fun _ _ _ => rfl) hP265 bx_i13 rfl ?_
        refine bh_i0 (pc' := 95) (pt := 96) bt_26_92 rfl rfl (fun k271 => ?_) (fun k271 => ?_)
        · replace k271 : ((s264 13)).toInt ≤ 0 := k271
          have z12 := congrArg Int32.toInt (f266 12 (by decide) (by decide) (by decide) (by decide))
          have z43 := congrArg Int32.toInt (f266 43 (by decide) (by decide) (by decide) (by decide))
          have ec : ((s264 39)).toInt.toNat = ((s 39)).toInt.toNat + 1 := by omega
          refine (ih _ _ _ _ _ hP265 g0 g1 (by omega) (by omega)).2 ?_
          refine ⟨(fun j j11 j12 j13 j14 j39 j43 => ((fun j j11 j12 j13 j14 j39 j43 => (f266 j j11 j13 j14 j39)) j j11 j12 j13 j14 j39 j43).trans (x1 j j11 j12 j13 j14 j39 j43)), (fun k j u v => ((a269 k j (by omega)).trans (x2 k j (by omega) v))), by omega, by omega, by omega, by omega, by omega, by omega, by omega, n, opn, g, p, by omega, ?_, by omega, ?_, by omega⟩
          · exact rd_wt_congr _ _ _ _ (fun j hj => a269 115 j (by omega)) y2
          · rw [ec]
            exact rd_pf_snoc (by omega) y4 (fun j hj => ⟨a269 113 j (by omega), a269 114 j (by omega)⟩) (by omega)
        · replace k271 : ¬ (((s264 13)).toInt ≤ 0) := k271
          refine bh_rv bt_26_95 ?_
          have z12 := congrArg Int32.toInt (f266 12 (by decide) (by decide) (by decide) (by decide))
          have z43 := congrArg Int32.toInt (f266 43 (by decide) (by decide) (by decide) (by decide))
          refine kk _ _ _ hP265 ⟨(fun j j11 j12 j13 j14 j39 j43 => ((fun j j11 j12 j13 j14 j39 j43 => (f266 j j11 j13 j14 j39)) j j11 j12 j13 j14 j39 j43).trans (x1 j j11 j12 j13 j14 j39 j43)), (fun k j u v => ((a269 k j (by omega)).trans (x2 k j (by omega) v))), by omega, by omega, by omega, by omega, by omega, by omega, by omega, by omega, fun hF => by omega⟩
      · replace k262 : ¬ ((r260).toInt = 0) := k262
        refine bh_ld (pc' := 33) bt_26_32 rfl rfl (fun _ _ _ => rfl) g0 rfl ?_
        refine bh_gi (pc' := 36) bt_26_33 rfl rfl (fun _ _ _ => rfl) hP bx_i12 rfl ?_
        refine bh_c (pc' := 38) (n := 6) bt_26_36 rfl rfl (fun _ _ _ => rfl) (by decide) (fun c272 e273 => ?_)
        refine bh_ic (pc' := 41) (pt := 46) bt_26_38 rfl rfl (fun k274 => ?_) (fun k274 => ?_)
        · replace k274 : ((s 12)).toInt ≠ (c272).toInt := k274
          refine bh_ld (pc' := 47) bt_26_46 rfl rfl (fun _ _ _ => rfl) g0 rfl ?_
          refine bh_dup (pc' := 48) bt_26_47 rfl rfl ?_
          refine bh_gi (pc' := 51) bt_26_48 rfl rfl (fun _ _ _ => rfl) hP bx_i12 rfl ?_
          refine bh_c (pc' := 52) (n := 1) bt_26_51 rfl rfl (fun _ _ _ => rfl) (by decide) (fun c275 e276 => ?_)
          refine bh_add (pc' := 53) bt_26_52 rfl (by omega) (by omega) (fun v277 e278 => ?_)
          refine bh_pf (pc' := 56) bt_26_53 rfl rfl (fun _ _ _ => rfl) hP bx_i12 rfl (fun h279 s280 hP281 e282 f283 => ?_)
          refine bh_ld (pc' := 57) bt_26_56 rfl rfl (fun _ _ _ => rfl) g0 rfl ?_
          refine bh_cv (pc' := 60) (st := []) (args := []) bt_26_57 rfl rfl (by decide) hP281 (by omega) rfl (Nat.le_of_ble_eq_true rfl) (Nat.le_of_ble_eq_true rfl) ?_
          refine sp_37 hP281 (by simp only [List.length_cons]; omega) (f283 11 (by decide)) (f283 13 (by decide)) (by omega) (by omega) (by omega) (fun h284 s285 hP286 f287 p288 => ?_)
          show bh_G E FIN ((26, 60, lv, [], 0, 0) :: gs, _, none)
          refine bh_ld (pc' := 61) bt_26_60 rfl rfl (fun _ _ _ => rfl) g0 rfl ?_
          refine bh_gr (pc' := 64) (c := 115) bt_26_61 rfl rfl (fun _ _ _ => rfl) hP286 bx_r42 ?_
          refine bh_ld (pc' := 65) bt_26_64 rfl rfl (fun _ _ _ => rfl) g0 rfl ?_
          refine bh_gi (pc' := 68) bt_26_65 rfl rfl (fun _ _ _ => rfl) hP286 bx_i43 ((f287 43 (by decide) (by decide) (by decide)).trans (f283 43 (by decide))) ?_
          refine bh_c (pc' := 70) (n := 6) bt_26_68 rfl rfl (fun _ _ _ => rfl) (by decide) (fun c289 e290 => ?_)
          refine bh_ias (pc' := 71) bt_26_70 rfl rfl (fun _ _ _ => rfl) hP286 bx_a115 (Or.inl rfl) (by omega) (by omega) (fun h291 hP292 => ?_)
          refine bh_ld (pc' := 72) bt_26_71 rfl rfl (fun _ _ _ => rfl) g0 rfl ?_
          refine bh_dup (pc' := 73) bt_26_72 rfl rfl ?_
          refine bh_gi (pc' := 76) bt_26_73 rfl rfl (fun _ _ _ => rfl) hP292 bx_i43 ((f287 43 (by decide) (by decide) (by decide)).trans (f283 43 (by decide))) ?_
          refine bh_c (pc' := 77) (n := 1) bt_26_76 rfl rfl (fun _ _ _ => rfl) (by decide) (fun c293 e294 => ?_)
          refine bh_add (pc' := 78) bt_26_77 rfl (by omega) (by omega) (fun v295 e296 => ?_)
          refine bh_pf (pc' := 81) bt_26_78 rfl rfl (fun _ _ _ => rfl) hP292 bx_i43 rfl (fun h297 s298 hP299 e300 f301 => ?_)
          refine bh_go (pc' := 23) bt_26_81 rfl ?_
          have z11 := congrArg Int32.toInt (f301 11 (by decide))
          have z12 := congrArg Int32.toInt ((f301 12 (by decide)).trans ((f287 12 (by decide) (by decide) (by decide)).trans e282))
          have z13 := congrArg Int32.toInt (f301 13 (by decide))
          have z39 := congrArg Int32.toInt ((f301 39 (by decide)).trans ((f287 39 (by decide) (by decide) (by decide)).trans (f283 39 (by decide))))
          have z43 := congrArg Int32.toInt e300
          have en : ((s 43)).toInt.toNat = n := by omega
          refine (ih _ _ _ _ _ hP299 g0 g1 (by omega) (by omega)).1 ?_
          refine ⟨(fun j j11 j12 j13 j14 j39 j43 => ((fun j j11 j12 j13 j14 j39 j43 => ((f301 j j43).trans ((f287 j j11 j13 j14).trans (f283 j j12)))) j j11 j12 j13 j14 j39 j43).trans (x1 j j11 j12 j13 j14 j39 j43)), (fun k j u v => ((bh_up_o (by omega)).trans (x2 k j (by omega) v))), by omega, by omega, by omega, by omega, by omega, by omega, by omega, n + 1, opn + 1, 0, p, by omega, ?_, by omega, ?_, by omega⟩
          · refine rd_wt_push y2 (fun j hj => bh_up_j (by omega)) (Or.inl ⟨?_, rfl, rfl, rfl⟩)
            rw [← en, bh_up_i]
            show (c289 : Int32).toInt = 6
            omega
          · rw [((f301 39 (by decide)).trans ((f287 39 (by decide) (by decide) (by decide)).trans (f283 39 (by decide))))]
            exact y4
        · replace k274 : ¬ (((s 12)).toInt ≠ (c272).toInt) := k274
          refine bh_ld (pc' := 42) bt_26_41 rfl rfl (fun _ _ _ => rfl) g0 rfl ?_
          refine bh_c (pc' := 43) (n := 2) bt_26_42 rfl rfl (fun _ _ _ => rfl) (by decide) (fun c302 e303 => ?_)
          refine bh_cv (pc' := 46) (st := []) (args := [.int c302]) bt_26_43 rfl rfl (by decide) hP (by omega) rfl (Nat.le_of_ble_eq_true rfl) (Nat.le_of_ble_eq_true rfl) ?_
          refine sp_27 (k := c302) hP rfl rfl (by omega) (by omega) (fun h304 s305 hP306 f307 p308 => ?_)
          show bh_G E FIN ((26, 46, lv, [], 0, 0) :: gs, _, none)
          refine bh_ld (pc' := 47) bt_26_46 rfl rfl (fun _ _ _ => rfl) g0 rfl ?_
          refine bh_dup (pc' := 48) bt_26_47 rfl rfl ?_
          refine bh_gi (pc' := 51) bt_26_48 rfl rfl (fun _ _ _ => rfl) hP306 bx_i12 (f307 12 (by decide) (by decide)) ?_
          refine bh_c (pc' := 52) (n := 1) bt_26_51 rfl rfl (fun _ _ _ => rfl) (by decide) (fun c309 e310 => ?_)
          refine bh_add (pc' := 53) bt_26_52 rfl (by omega) (by omega) (fun v311 e312 => ?_)
          refine bh_pf (pc' := 56) bt_26_53 rfl rfl (fun _ _ _ => rfl) hP306 bx_i12 rfl (fun h313 s314 hP315 e316 f317 => ?_)
          refine bh_ld (pc' := 57) bt_26_56 rfl rfl (fun _ _ _ => rfl) g0 rfl ?_
          refine bh_cv (pc' := 60) (st := []) (args := []) bt_26_57 rfl rfl (by decide) hP315 (by omega) rfl (Nat.le_of_ble_eq_true rfl) (Nat.le_of_ble_eq_true rfl) ?_
          refine sp_37 hP315 (by simp only [List.length_cons]; omega) ((f317 11 (by decide)).trans (f307 11 (by decide) (by decide))) (f317 13 (by decide)) (by omega) (by omega) (by omega) (fun h318 s319 hP320 f321 p322 => ?_)
          show bh_G E FIN ((26, 60, lv, [], 0, 0) :: gs, _, none)
          refine bh_ld (pc' := 61) bt_26_60 rfl rfl (fun _ _ _ => rfl) g0 rfl ?_
          refine bh_gr (pc' := 64) (c := 115) bt_26_61 rfl rfl (fun _ _ _ => rfl) hP320 bx_r42 ?_
          refine bh_ld (pc' := 65) bt_26_64 rfl rfl (fun _ _ _ => rfl) g0 rfl ?_
          refine bh_gi (pc' := 68) bt_26_65 rfl rfl (fun _ _ _ => rfl) hP320 bx_i43 ((f321 43 (by decide) (by decide) (by decide)).trans ((f317 43 (by decide)).trans (f307 43 (by decide) (by decide)))) ?_
          refine bh_c (pc' := 70) (n := 6) bt_26_68 rfl rfl (fun _ _ _ => rfl) (by decide) (fun c323 e324 => ?_)
          refine bh_ias (pc' := 71) bt_26_70 rfl rfl (fun _ _ _ => rfl) hP320 bx_a115 (Or.inl rfl) (by omega) (by omega) (fun h325 hP326 => ?_)
          refine bh_ld (pc' := 72) bt_26_71 rfl rfl (fun _ _ _ => rfl) g0 rfl ?_
          refine bh_dup (pc' := 73) bt_26_72 rfl rfl ?_
          refine bh_gi (pc' := 76) bt_26_73 rfl rfl (fun _ _ _ => rfl) hP326 bx_i43 ((f321 43 (by decide) (by decide) (by decide)).trans ((f317 43 (by decide)).trans (f307 43 (by decide) (by decide)))) ?_
          refine bh_c (pc' := 77) (n := 1) bt_26_76 rfl rfl (fun _ _ _ => rfl) (by decide) (fun c327 e328 => ?_)
          refine bh_add (pc' := 78) bt_26_77 rfl (by omega) (by omega) (fun v329 e330 => ?_)
          refine bh_pf (pc' := 81) bt_26_78 rfl rfl (fun _ _ _ => rfl) hP326 bx_i43 rfl (fun h331 s332 hP333 e334 f335 => ?_)
          refine bh_go (pc' := 23) bt_26_81 rfl ?_
          have z11 := congrArg Int32.toInt (f335 11 (by decide))
          have z12 := congrArg Int32.toInt ((f335 12 (by decide)).trans ((f321 12 (by decide) (by decide) (by decide)).trans e316))
          have z13 := congrArg Int32.toInt (f335 13 (by decide))
          have z39 := congrArg Int32.toInt ((f335 39 (by decide)).trans ((f321 39 (by decide) (by decide) (by decide)).trans ((f317 39 (by decide)).trans (f307 39 (by decide) (by decide)))))
          have z43 := congrArg Int32.toInt e334
          have en : ((s 43)).toInt.toNat = n := by omega
          refine (ih _ _ _ _ _ hP333 g0 g1 (by omega) (by omega)).1 ?_
          refine ⟨(fun j j11 j12 j13 j14 j39 j43 => ((fun j j11 j12 j13 j14 j39 j43 => ((f335 j j43).trans ((f321 j j11 j13 j14).trans ((f317 j j12).trans (f307 j j13 j14))))) j j11 j12 j13 j14 j39 j43).trans (x1 j j11 j12 j13 j14 j39 j43)), (fun k j u v => ((bh_up_o (by omega)).trans (x2 k j (by omega) v))), by omega, by omega, by omega, by omega, by omega, by omega, by omega, n + 1, opn + 1, 0, p, by omega, ?_, by omega, ?_, by omega⟩
          · refine rd_wt_push y2 (fun j hj => bh_up_j (by omega)) (Or.inl ⟨?_, rfl, rfl, rfl⟩)
            rw [← en, bh_up_i]
            show (c323 : Int32).toInt = 6
            omega
          · rw [((f335 39 (by decide)).trans ((f321 39 (by decide) (by decide) (by decide)).trans ((f317 39 (by decide)).trans (f307 39 (by decide) (by decide)))))]
            exact y4
    · obtain ⟨x1, x2, x3, x4, x5, x6, x7, x8, x9, n, opn, g, p, y1, y2, y3, y4, y5⟩ := hX
      have l0 := rd_wt_len _ _ _ _ y2
      refine bh_ld (pc' := 97) bt_26_96 rfl rfl (fun _ _ _ => rfl) g0 rfl ?_
      refine bh_c (pc' := 99) (n := 7) bt_26_97 rfl rfl (fun _ _ _ => rfl) (by decide) (fun c336 e337 => ?_)
      refine bh_cv (pc' := 102) (st := []) (args := [.int c336]) bt_26_99 rfl rfl (by decide) hP (by omega) rfl (Nat.le_of_ble_eq_true rfl) (Nat.le_of_ble_eq_true rfl) ?_
      refine sp_45 (k := c336) hP rfl rfl (by omega) (by omega) (fun r338 p339 => ?_)
      show bh_G E FIN ((26, 102, lv, [.int r338], 0, 0) :: gs, _, none)
      refine bh_i0 (pc' := 105) (pt := 145) bt_26_102 rfl rfl (fun k340 => ?_) (fun k340 => ?_)
      · replace k340 : (r338).toInt = 0 := k340
        refine bh_ld (pc' := 146) bt_26_145 rfl rfl (fun _ _ _ => rfl) g0 rfl ?_
        refine bh_c (pc' := 148) (n := 8) bt_26_146 rfl rfl (fun _ _ _ => rfl) (by decide) (fun c341 e342 => ?_)
        refine bh_cv (pc' := 151) (st := []) (args := [.int c341]) bt_26_148 rfl rfl (by decide) hP (by omega) rfl (Nat.le_of_ble_eq_true rfl) (Nat.le_of_ble_eq_true rfl) ?_
        refine sp_45 (k := c341) hP rfl rfl (by omega) (by omega) (fun r343 p344 => ?_)
        show bh_G E FIN ((26, 151, lv, [.int r343], 0, 0) :: gs, _, none)
        refine bh_i0 (pc' := 154) (pt := 181) bt_26_151 rfl rfl (fun k345 => ?_) (fun k345 => ?_)
        · replace k345 : (r343).toInt ≠ 0 := k345
          refine bh_c (pc' := 182) (n := 1) bt_26_181 rfl rfl (fun _ _ _ => rfl) (by decide) (fun c346 e347 => ?_)
          refine bh_go (pc' := 186) bt_26_182 rfl ?_
          refine bh_st (pc' := 187) bt_26_186 rfl rfl (fun _ _ _ => rfl) rfl (by decide) (by decide) (fun lv348 F349 g350 => ?_)
          have g351 := F349 0 (.ref (E.1 + 88)) g0 (by decide) (Or.inl rfl)
          have g352 := F349 1 (.int b) g1 (by decide) (Or.inl rfl)
          refine bh_ld (pc' := 188) bt_26_187 rfl rfl (fun _ _ _ => rfl) g350 rfl ?_
          refine bh_i0 (pc' := 191) (pt := 210) bt_26_188 rfl rfl (fun k353 => ?_) (fun k353 => ?_)
          · replace k353 : (c346).toInt ≠ 0 := k353
            refine bh_ld (pc' := 211) bt_26_210 rfl rfl (fun _ _ _ => rfl) g351 rfl ?_
            refine bh_ld (pc' := 212) bt_26_211 rfl rfl (fun _ _ _ => rfl) g351 rfl ?_
            refine bh_c (pc' := 214) (n := 10) bt_26_212 rfl rfl (fun _ _ _ => rfl) (by decide) (fun c354 e355 => ?_)
            refine bh_cv (pc' := 217) (st := [.ref (E.1 + 88)]) (args := [.int c354]) bt_26_214 rfl rfl (by decide) hP (by omega) rfl (Nat.le_of_ble_eq_true rfl) (Nat.le_of_ble_eq_true rfl) ?_
            refine sp_45 (k := c354) hP rfl rfl (by omega) (by omega) (fun r356 p357 => ?_)
            show bh_G E FIN ((26, 217, lv348, [.int r356, .ref (E.1 + 88)], 0, 0) :: gs, _, none)
            refine bh_i0 (pc' := 220) (pt := 229) bt_26_217 rfl rfl (fun k358 => ?_) (fun k358 => ?_)
            · replace k358 : (r356).toInt ≠ 0 := k358
              refine bh_c (pc' := 230) (n := 1) bt_26_229 rfl rfl (fun _ _ _ => rfl) (by decide) (fun c359 e360 => ?_)
              refine bh_go (pc' := 234) bt_26_230 rfl ?_
              refine bh_cv (pc' := 237) (st := []) (args := [.int c359]) bt_26_234 rfl rfl (by decide) hP (by omega) rfl (Nat.le_of_ble_eq_true rfl) (Nat.le_of_ble_eq_true rfl) ?_
              refine rd_out (n + 1) n (Nat.lt_succ_self _) c359 hP (by simp only [List.length_cons]; omega) rfl rfl rfl rfl (by omega) (s0 39).toInt.toNat opn g p y2 (by omega) (by omega) (by omega) y4 (by omega) (fun h361 s362 A365 hP363 f364 a366 q367 => ?_)
              obtain ⟨n368, g369, p370, r371, r372, r373, r374, r375, r376, r377, r378, r379⟩ := q367
              show bh_G E FIN ((26, 237, lv348, [], 0, 0) :: gs, _, none)
              have l380 := rd_wt_len _ _ _ _ r373
              refine bh_ld (pc' := 238) bt_26_237 rfl rfl (fun _ _ _ => rfl) g351 rfl ?_
              refine bh_gr (pc' := 241) (c := 115) bt_26_238 rfl rfl (fun _ _ _ => rfl) hP363 bx_r42 ?_
              refine bh_ld (pc' := 242) bt_26_241 rfl rfl (fun _ _ _ => rfl) g351 rfl ?_
              refine bh_gi (pc' := 245) bt_26_242 rfl rfl (fun _ _ _ => rfl) hP363 bx_i43 rfl ?_
              refine bh_ld (pc' := 246) bt_26_245 rfl rfl (fun _ _ _ => rfl) g351 rfl ?_
              refine bh_gr (pc' := 249) (c := 91) bt_26_246 rfl rfl (fun _ _ _ => rfl) hP363 bx_r5 ?_
              refine bh_ld (pc' := 250) bt_26_249 rfl rfl (fun _ _ _ => rfl) g351 rfl ?_
              refine bh_gi (pc' := 253) bt_26_250 rfl rfl (fun _ _ _ => rfl) hP363 bx_i11 (f364 11 (by decide) (by decide)) ?_
              refine bh_ia (pc' := 254) bt_26_253 rfl rfl (fun _ _ _ => rfl) hP363 bx_a91 (Or.inl rfl) (by omega) (by omega) ?_
              refine bh_ias (pc' := 255) bt_26_254 rfl rfl (fun _ _ _ => rfl) hP363 bx_a115 (Or.inl rfl) (by omega) (by omega) (fun h381 hP382 => ?_)
              refine bh_ld (pc' := 256) bt_26_255 rfl rfl (fun _ _ _ => rfl) g351 rfl ?_
              refine bh_dup (pc' := 257) bt_26_256 rfl rfl ?_
              refine bh_gi (pc' := 260) bt_26_257 rfl rfl (fun _ _ _ => rfl) hP382 bx_i43 rfl ?_
              refine bh_c (pc' := 261) (n := 1) bt_26_260 rfl rfl (fun _ _ _ => rfl) (by decide) (fun c383 e384 => ?_)
              refine bh_add (pc' := 262) bt_26_261 rfl (by omega) (by omega) (fun v385 e386 => ?_)
              refine bh_pf (pc' := 265) bt_26_262 rfl rfl (fun _ _ _ => rfl) hP382 bx_i43 rfl (fun h387 s388 hP389 e390 f391 => ?_)
              refine bh_ld (pc' := 266) bt_26_265 rfl rfl (fun _ _ _ => rfl) g351 rfl ?_
              refine bh_cv (pc' := 269) (st := []) (args := []) bt_26_266 rfl rfl (by decide) hP389 (by omega) rfl (Nat.le_of_ble_eq_true rfl) (Nat.le_of_ble_eq_true rfl) ?_
              refine sp_37 hP389 (by simp only [List.length_cons]; omega) ((f391 11 (by decide)).trans (f364 11 (by decide) (by decide))) ((f391 13 (by decide)).trans (f364 13 (by decide) (by decide))) (by omega) (by omega) (by omega) (fun h392 s393 hP394 f395 p396 => ?_)
              show bh_G E FIN ((26, 269, lv348, [], 0, 0) :: gs, _, none)
              refine bh_go (pc' := 12) bt_26_269 rfl ?_
              have z12 := congrArg Int32.toInt ((f395 12 (by decide) (by decide) (by decide)).trans ((f391 12 (by decide)).trans (f364 12 (by decide) (by decide))))
              have z39 := congrArg Int32.toInt ((f395 39 (by decide) (by decide) (by decide)).trans (f391 39 (by decide)))
              have z43 := congrArg Int32.toInt ((f395 43 (by decide) (by decide) (by decide)).trans e390)
              have hk9 : ((A365 91 ((s 11)).toInt.toNat)).toInt = (A 91 (s 11).toInt.toNat).toInt := congrArg Int32.toInt (a366 91 _ (by omega))
              have en : ((s362 43)).toInt.toNat = n368 := by omega
              refine i12 _ _ _ _ _ _ hP394 g351 g352 g350 (by omega) (by omega) ⟨(fun j j11 j12 j13 j14 j39 j43 => ((fun j j11 j12 j13 j14 j39 j43 => ((f395 j j11 j13 j14).trans ((f391 j j43).trans (f364 j j39 j43)))) j j11 j12 j13 j14 j39 j43).trans (x1 j j11 j12 j13 j14 j39 j43)), (fun k j u v => ((bh_up_o (by omega)).trans ((a366 k j (by omega)).trans (x2 k j (by omega) v)))), by omega, by omega, by omega, by omega, by omega, by omega, by omega, by omega, fun hF => ?_⟩
              refine ⟨(fun j j11 j12 j13 j14 j39 j43 => ((fun j j11 j12 j13 j14 j39 j43 => ((f395 j j11 j13 j14).trans ((f391 j j43).trans (f364 j j39 j43)))) j j11 j12 j13 j14 j39 j43).trans (x1 j j11 j12 j13 j14 j39 j43)), (fun k j u v => ((bh_up_o (by omega)).trans ((a366 k j (by omega)).trans (x2 k j (by omega) v)))), by omega, by omega, by omega, by omega, by omega, by omega, by omega, (n368 + 1), opn, (g369 + 2), (p370 + 1), by omega, ?_, by omega, ?_, by omega⟩
              · refine rd_wt_push (w := A 115) r373 (fun j hj => (bh_up_j (by omega)).trans (a366 115 j (by omega))) (Or.inr (Or.inr ⟨?_, rfl, r378, rfl, rfl⟩))
                rw [← en, bh_up_i]
                have hk8 : (mm_nar 0 ((A365 91 ((s 11)).toInt.toNat))).toInt = ((A365 91 ((s 11)).toInt.toNat)).toInt := rfl
                omega
              · rw [((f395 39 (by decide) (by decide) (by decide)).trans (f391 39 (by decide)))]
                exact r376
            · replace k358 : ¬ ((r356).toInt ≠ 0) := k358
              refine bh_ld (pc' := 221) bt_26_220 rfl rfl (fun _ _ _ => rfl) g351 rfl ?_
              refine bh_c (pc' := 223) (n := 15) bt_26_221 rfl rfl (fun _ _ _ => rfl) (by decide) (fun c397 e398 => ?_)
              refine bh_cv (pc' := 226) (st := [.ref (E.1 + 88)]) (args := [.int c397]) bt_26_223 rfl rfl (by decide) hP (by omega) rfl (Nat.le_of_ble_eq_true rfl) (Nat.le_of_ble_eq_true rfl) ?_
              refine sp_45 (k := c397) hP rfl rfl (by omega) (by omega) (fun r399 p400 => ?_)
              show bh_G E FIN ((26, 226, lv348, [.int r399, .ref (E.1 + 88)], 0, 0) :: gs, _, none)
              refine bh_i0 (pc' := 229) (pt := 233) bt_26_226 rfl rfl (fun k401 => ?_) (fun k401 => ?_)
              · replace k401 : (r399).toInt = 0 := k401
                refine bh_c (pc' := 234) (n := 0) bt_26_233 rfl rfl (fun _ _ _ => rfl) (by decide) (fun c402 e403 => ?_)
                refine bh_cv (pc' := 237) (st := []) (args := [.int c402]) bt_26_234 rfl rfl (by decide) hP (by omega) rfl (Nat.le_of_ble_eq_true rfl) (Nat.le_of_ble_eq_true rfl) ?_
                refine rd_out (n + 1) n (Nat.lt_succ_self _) c402 hP (by simp only [List.length_cons]; omega) rfl rfl rfl rfl (by omega) (s0 39).toInt.toNat opn g p y2 (by omega) (by omega) (by omega) y4 (by omega) (fun h404 s405 A408 hP406 f407 a409 q410 => ?_)
                obtain ⟨n411, g412, p413, r414, r415, r416, r417, r418, r419, r420, r421, r422⟩ := q410
                show bh_G E FIN ((26, 237, lv348, [], 0, 0) :: gs, _, none)
                have l423 := rd_wt_len _ _ _ _ r416
                refine bh_ld (pc' := 238) bt_26_237 rfl rfl (fun _ _ _ => rfl) g351 rfl ?_
                refine bh_gr (pc' := 241) (c := 115) bt_26_238 rfl rfl (fun _ _ _ => rfl) hP406 bx_r42 ?_
                refine bh_ld (pc' := 242) bt_26_241 rfl rfl (fun _ _ _ => rfl) g351 rfl ?_
                refine bh_gi (pc' := 245) bt_26_242 rfl rfl (fun _ _ _ => rfl) hP406 bx_i43 rfl ?_
                refine bh_ld (pc' := 246) bt_26_245 rfl rfl (fun _ _ _ => rfl) g351 rfl ?_
                refine bh_gr (pc' := 249) (c := 91) bt_26_246 rfl rfl (fun _ _ _ => rfl) hP406 bx_r5 ?_
                refine bh_ld (pc' := 250) bt_26_249 rfl rfl (fun _ _ _ => rfl) g351 rfl ?_
                refine bh_gi (pc' := 253) bt_26_250 rfl rfl (fun _ _ _ => rfl) hP406 bx_i11 (f407 11 (by decide) (by decide)) ?_
                refine bh_ia (pc' := 254) bt_26_253 rfl rfl (fun _ _ _ => rfl) hP406 bx_a91 (Or.inl rfl) (by omega) (by omega) ?_
                refine bh_ias (pc' := 255) bt_26_254 rfl rfl (fun _ _ _ => rfl) hP406 bx_a115 (Or.inl rfl) (by omega) (by omega) (fun h424 hP425 => ?_)
                refine bh_ld (pc' := 256) bt_26_255 rfl rfl (fun _ _ _ => rfl) g351 rfl ?_
                refine bh_dup (pc' := 257) bt_26_256 rfl rfl ?_
                refine bh_gi (pc' := 260) bt_26_257 rfl rfl (fun _ _ _ => rfl) hP425 bx_i43 rfl ?_
                refine bh_c (pc' := 261) (n := 1) bt_26_260 rfl rfl (fun _ _ _ => rfl) (by decide) (fun c426 e427 => ?_)
                refine bh_add (pc' := 262) bt_26_261 rfl (by omega) (by omega) (fun v428 e429 => ?_)
                refine bh_pf (pc' := 265) bt_26_262 rfl rfl (fun _ _ _ => rfl) hP425 bx_i43 rfl (fun h430 s431 hP432 e433 f434 => ?_)
                refine bh_ld (pc' := 266) bt_26_265 rfl rfl (fun _ _ _ => rfl) g351 rfl ?_
                refine bh_cv (pc' := 269) (st := []) (args := []) bt_26_266 rfl rfl (by decide) hP432 (by omega) rfl (Nat.le_of_ble_eq_true rfl) (Nat.le_of_ble_eq_true rfl) ?_
                refine sp_37 hP432 (by simp only [List.length_cons]; omega) ((f434 11 (by decide)).trans (f407 11 (by decide) (by decide))) ((f434 13 (by decide)).trans (f407 13 (by decide) (by decide))) (by omega) (by omega) (by omega) (fun h435 s436 hP437 f438 p439 => ?_)
                show bh_G E FIN ((26, 269, lv348, [], 0, 0) :: gs, _, none)
                refine bh_go (pc' := 12) bt_26_269 rfl ?_
                have z12 := congrArg Int32.toInt ((f438 12 (by decide) (by decide) (by decide)).trans ((f434 12 (by decide)).trans (f407 12 (by decide) (by decide))))
                have z39 := congrArg Int32.toInt ((f438 39 (by decide) (by decide) (by decide)).trans (f434 39 (by decide)))
                have z43 := congrArg Int32.toInt ((f438 43 (by decide) (by decide) (by decide)).trans e433)
                have hk9 : ((A408 91 ((s 11)).toInt.toNat)).toInt = (A 91 (s 11).toInt.toNat).toInt := congrArg Int32.toInt (a409 91 _ (by omega))
                have en : ((s405 43)).toInt.toNat = n411 := by omega
                refine i12 _ _ _ _ _ _ hP437 g351 g352 g350 (by omega) (by omega) ⟨(fun j j11 j12 j13 j14 j39 j43 => ((fun j j11 j12 j13 j14 j39 j43 => ((f438 j j11 j13 j14).trans ((f434 j j43).trans (f407 j j39 j43)))) j j11 j12 j13 j14 j39 j43).trans (x1 j j11 j12 j13 j14 j39 j43)), (fun k j u v => ((bh_up_o (by omega)).trans ((a409 k j (by omega)).trans (x2 k j (by omega) v)))), by omega, by omega, by omega, by omega, by omega, by omega, by omega, by omega, fun hF => ?_⟩
                refine ⟨(fun j j11 j12 j13 j14 j39 j43 => ((fun j j11 j12 j13 j14 j39 j43 => ((f438 j j11 j13 j14).trans ((f434 j j43).trans (f407 j j39 j43)))) j j11 j12 j13 j14 j39 j43).trans (x1 j j11 j12 j13 j14 j39 j43)), (fun k j u v => ((bh_up_o (by omega)).trans ((a409 k j (by omega)).trans (x2 k j (by omega) v)))), by omega, by omega, by omega, by omega, by omega, by omega, by omega, (n411 + 1), opn, 1, (p413 + 1), by omega, ?_, by omega, ?_, by omega⟩
                · refine rd_wt_push (w := A 115) r416 (fun j hj => (bh_up_j (by omega)).trans (a409 115 j (by omega))) (Or.inr (Or.inl ⟨?_, rfl, r420 (by omega), rfl, rfl⟩))
                  rw [← en, bh_up_i]
                  have hk8 : (mm_nar 0 ((A408 91 ((s 11)).toInt.toNat))).toInt = ((A408 91 ((s 11)).toInt.toNat)).toInt := rfl
                  omega
                · rw [((f438 39 (by decide) (by decide) (by decide)).trans (f434 39 (by decide)))]
                  exact r419
              · replace k401 : ¬ ((r399).toInt = 0) := k401
                refine bh_c (pc' := 230) (n := 1) bt_26_229 rfl rfl (fun _ _ _ => rfl) (by decide) (fun c440 e441 => ?_)
                refine bh_go (pc' := 234) bt_26_230 rfl ?_
                refine bh_cv (pc' := 237) (st := []) (args := [.int c440]) bt_26_234 rfl rfl (by decide) hP (by omega) rfl (Nat.le_of_ble_eq_true rfl) (Nat.le_of_ble_eq_true rfl) ?_
                refine rd_out (n + 1) n (Nat.lt_succ_self _) c440 hP (by simp only [List.length_cons]; omega) rfl rfl rfl rfl (by omega) (s0 39).toInt.toNat opn g p y2 (by omega) (by omega) (by omega) y4 (by omega) (fun h442 s443 A446 hP444 f445 a447 q448 => ?_)
                obtain ⟨n449, g450, p451, r452, r453, r454, r455, r456, r457, r458, r459, r460⟩ := q448
                show bh_G E FIN ((26, 237, lv348, [], 0, 0) :: gs, _, none)
                have l461 := rd_wt_len _ _ _ _ r454
                refine bh_ld (pc' := 238) bt_26_237 rfl rfl (fun _ _ _ => rfl) g351 rfl ?_
                refine bh_gr (pc' := 241) (c := 115) bt_26_238 rfl rfl (fun _ _ _ => rfl) hP444 bx_r42 ?_
                refine bh_ld (pc' := 242) bt_26_241 rfl rfl (fun _ _ _ => rfl) g351 rfl ?_
                refine bh_gi (pc' := 245) bt_26_242 rfl rfl (fun _ _ _ => rfl) hP444 bx_i43 rfl ?_
                refine bh_ld (pc' := 246) bt_26_245 rfl rfl (fun _ _ _ => rfl) g351 rfl ?_
                refine bh_gr (pc' := 249) (c := 91) bt_26_246 rfl rfl (fun _ _ _ => rfl) hP444 bx_r5 ?_
                refine bh_ld (pc' := 250) bt_26_249 rfl rfl (fun _ _ _ => rfl) g351 rfl ?_
                refine bh_gi (pc' := 253) bt_26_250 rfl rfl (fun _ _ _ => rfl) hP444 bx_i11 (f445 11 (by decide) (by decide)) ?_
                refine bh_ia (pc' := 254) bt_26_253 rfl rfl (fun _ _ _ => rfl) hP444 bx_a91 (Or.inl rfl) (by omega) (by omega) ?_
                refine bh_ias (pc' := 255) bt_26_254 rfl rfl (fun _ _ _ => rfl) hP444 bx_a115 (Or.inl rfl) (by omega) (by omega) (fun h462 hP463 => ?_)
                refine bh_ld (pc' := 256) bt_26_255 rfl rfl (fun _ _ _ => rfl) g351 rfl ?_
                refine bh_dup (pc' := 257) bt_26_256 rfl rfl ?_
                refine bh_gi (pc' := 260) bt_26_257 rfl rfl (fun _ _ _ => rfl) hP463 bx_i43 rfl ?_
                refine bh_c (pc' := 261) (n := 1) bt_26_260 rfl rfl (fun _ _ _ => rfl) (by decide) (fun c464 e465 => ?_)
                refine bh_add (pc' := 262) bt_26_261 rfl (by omega) (by omega) (fun v466 e467 => ?_)
                refine bh_pf (pc' := 265) bt_26_262 rfl rfl (fun _ _ _ => rfl) hP463 bx_i43 rfl (fun h468 s469 hP470 e471 f472 => ?_)
                refine bh_ld (pc' := 266) bt_26_265 rfl rfl (fun _ _ _ => rfl) g351 rfl ?_
                refine bh_cv (pc' := 269) (st := []) (args := []) bt_26_266 rfl rfl (by decide) hP470 (by omega) rfl (Nat.le_of_ble_eq_true rfl) (Nat.le_of_ble_eq_true rfl) ?_
                refine sp_37 hP470 (by simp only [List.length_cons]; omega) ((f472 11 (by decide)).trans (f445 11 (by decide) (by decide))) ((f472 13 (by decide)).trans (f445 13 (by decide) (by decide))) (by omega) (by omega) (by omega) (fun h473 s474 hP475 f476 p477 => ?_)
                show bh_G E FIN ((26, 269, lv348, [], 0, 0) :: gs, _, none)
                refine bh_go (pc' := 12) bt_26_269 rfl ?_
                have z12 := congrArg Int32.toInt ((f476 12 (by decide) (by decide) (by decide)).trans ((f472 12 (by decide)).trans (f445 12 (by decide) (by decide))))
                have z39 := congrArg Int32.toInt ((f476 39 (by decide) (by decide) (by decide)).trans (f472 39 (by decide)))
                have z43 := congrArg Int32.toInt ((f476 43 (by decide) (by decide) (by decide)).trans e471)
                have hk9 : ((A446 91 ((s 11)).toInt.toNat)).toInt = (A 91 (s 11).toInt.toNat).toInt := congrArg Int32.toInt (a447 91 _ (by omega))
                have en : ((s443 43)).toInt.toNat = n449 := by omega
                refine i12 _ _ _ _ _ _ hP475 g351 g352 g350 (by omega) (by omega) ⟨(fun j j11 j12 j13 j14 j39 j43 => ((fun j j11 j12 j13 j14 j39 j43 => ((f476 j j11 j13 j14).trans ((f472 j j43).trans (f445 j j39 j43)))) j j11 j12 j13 j14 j39 j43).trans (x1 j j11 j12 j13 j14 j39 j43)), (fun k j u v => ((bh_up_o (by omega)).trans ((a447 k j (by omega)).trans (x2 k j (by omega) v)))), by omega, by omega, by omega, by omega, by omega, by omega, by omega, by omega, fun hF => ?_⟩
                refine ⟨(fun j j11 j12 j13 j14 j39 j43 => ((fun j j11 j12 j13 j14 j39 j43 => ((f476 j j11 j13 j14).trans ((f472 j j43).trans (f445 j j39 j43)))) j j11 j12 j13 j14 j39 j43).trans (x1 j j11 j12 j13 j14 j39 j43)), (fun k j u v => ((bh_up_o (by omega)).trans ((a447 k j (by omega)).trans (x2 k j (by omega) v)))), by omega, by omega, by omega, by omega, by omega, by omega, by omega, (n449 + 1), opn, (g450 + 2), (p451 + 1), by omega, ?_, by omega, ?_, by omega⟩
                · refine rd_wt_push (w := A 115) r454 (fun j hj => (bh_up_j (by omega)).trans (a447 115 j (by omega))) (Or.inr (Or.inr ⟨?_, rfl, r459, rfl, rfl⟩))
                  rw [← en, bh_up_i]
                  have hk8 : (mm_nar 0 ((A446 91 ((s 11)).toInt.toNat))).toInt = ((A446 91 ((s 11)).toInt.toNat)).toInt := rfl
                  omega
                · rw [((f476 39 (by decide) (by decide) (by decide)).trans (f472 39 (by decide)))]
                  exact r457
          · replace k353 : ¬ ((c346).toInt ≠ 0) := k353
            omega
        · replace k345 : ¬ ((r343).toInt ≠ 0) := k345
          refine bh_ld (pc' := 155) bt_26_154 rfl rfl (fun _ _ _ => rfl) g0 rfl ?_
          refine bh_c (pc' := 157) (n := 9) bt_26_155 rfl rfl (fun _ _ _ => rfl) (by decide) (fun c478 e479 => ?_)
          refine bh_cv (pc' := 160) (st := []) (args := [.int c478]) bt_26_157 rfl rfl (by decide) hP (by omega) rfl (Nat.le_of_ble_eq_true rfl) (Nat.le_of_ble_eq_true rfl) ?_
          refine sp_45 (k := c478) hP rfl rfl (by omega) (by omega) (fun r480 p481 => ?_)
          show bh_G E FIN ((26, 160, lv, [.int r480], 0, 0) :: gs, _, none)
          refine bh_i0 (pc' := 163) (pt := 181) bt_26_160 rfl rfl (fun k482 => ?_) (fun k482 => ?_)
          · replace k482 : (r480).toInt ≠ 0 := k482
            refine bh_c (pc' := 182) (n := 1) bt_26_181 rfl rfl (fun _ _ _ => rfl) (by decide) (fun c483 e484 => ?_)
            refine bh_go (pc' := 186) bt_26_182 rfl ?_
            refine bh_st (pc' := 187) bt_26_186 rfl rfl (fun _ _ _ => rfl) rfl (by decide) (by decide) (fun lv485 F486 g487 => ?_)
            have g488 := F486 0 (.ref (E.1 + 88)) g0 (by decide) (Or.inl rfl)
            have g489 := F486 1 (.int b) g1 (by decide) (Or.inl rfl)
            refine bh_ld (pc' := 188) bt_26_187 rfl rfl (fun _ _ _ => rfl) g487 rfl ?_
            refine bh_i0 (pc' := 191) (pt := 210) bt_26_188 rfl rfl (fun k490 => ?_) (fun k490 => ?_)
            · replace k490 : (c483).toInt ≠ 0 := k490
              refine bh_ld (pc' := 211) bt_26_210 rfl rfl (fun _ _ _ => rfl) g488 rfl ?_
              refine bh_ld (pc' := 212) bt_26_211 rfl rfl (fun _ _ _ => rfl) g488 rfl ?_
              refine bh_c (pc' := 214) (n := 10) bt_26_212 rfl rfl (fun _ _ _ => rfl) (by decide) (fun c491 e492 => ?_)
              refine bh_cv (pc' := 217) (st := [.ref (E.1 + 88)]) (args := [.int c491]) bt_26_214 rfl rfl (by decide) hP (by omega) rfl (Nat.le_of_ble_eq_true rfl) (Nat.le_of_ble_eq_true rfl) ?_
              refine sp_45 (k := c491) hP rfl rfl (by omega) (by omega) (fun r493 p494 => ?_)
              show bh_G E FIN ((26, 217, lv485, [.int r493, .ref (E.1 + 88)], 0, 0) :: gs, _, none)
              refine bh_i0 (pc' := 220) (pt := 229) bt_26_217 rfl rfl (fun k495 => ?_) (fun k495 => ?_)
              · replace k495 : (r493).toInt ≠ 0 := k495
                refine bh_c (pc' := 230) (n := 1) bt_26_229 rfl rfl (fun _ _ _ => rfl) (by decide) (fun c496 e497 => ?_)
                refine bh_go (pc' := 234) bt_26_230 rfl ?_
                refine bh_cv (pc' := 237) (st := []) (args := [.int c496]) bt_26_234 rfl rfl (by decide) hP (by omega) rfl (Nat.le_of_ble_eq_true rfl) (Nat.le_of_ble_eq_true rfl) ?_
                refine rd_out (n + 1) n (Nat.lt_succ_self _) c496 hP (by simp only [List.length_cons]; omega) rfl rfl rfl rfl (by omega) (s0 39).toInt.toNat opn g p y2 (by omega) (by omega) (by omega) y4 (by omega) (fun h498 s499 A502 hP500 f501 a503 q504 => ?_)
                obtain ⟨n505, g506, p507, r508, r509, r510, r511, r512, r513, r514, r515, r516⟩ := q504
                show bh_G E FIN ((26, 237, lv485, [], 0, 0) :: gs, _, none)
                have l517 := rd_wt_len _ _ _ _ r510
                refine bh_ld (pc' := 238) bt_26_237 rfl rfl (fun _ _ _ => rfl) g488 rfl ?_
                refine bh_gr (pc' := 241) (c := 115) bt_26_238 rfl rfl (fun _ _ _ => rfl) hP500 bx_r42 ?_
                refine bh_ld (pc' := 242) bt_26_241 rfl rfl (fun _ _ _ => rfl) g488 rfl ?_
                refine bh_gi (pc' := 245) bt_26_242 rfl rfl (fun _ _ _ => rfl) hP500 bx_i43 rfl ?_
                refine bh_ld (pc' := 246) bt_26_245 rfl rfl (fun _ _ _ => rfl) g488 rfl ?_
                refine bh_gr (pc' := 249) (c := 91) bt_26_246 rfl rfl (fun _ _ _ => rfl) hP500 bx_r5 ?_
                refine bh_ld (pc' := 250) bt_26_249 rfl rfl (fun _ _ _ => rfl) g488 rfl ?_
                refine bh_gi (pc' := 253) bt_26_250 rfl rfl (fun _ _ _ => rfl) hP500 bx_i11 (f501 11 (by decide) (by decide)) ?_
                refine bh_ia (pc' := 254) bt_26_253 rfl rfl (fun _ _ _ => rfl) hP500 bx_a91 (Or.inl rfl) (by omega) (by omega) ?_
                refine bh_ias (pc' := 255) bt_26_254 rfl rfl (fun _ _ _ => rfl) hP500 bx_a115 (Or.inl rfl) (by omega) (by omega) (fun h518 hP519 => ?_)
                refine bh_ld (pc' := 256) bt_26_255 rfl rfl (fun _ _ _ => rfl) g488 rfl ?_
                refine bh_dup (pc' := 257) bt_26_256 rfl rfl ?_
                refine bh_gi (pc' := 260) bt_26_257 rfl rfl (fun _ _ _ => rfl) hP519 bx_i43 rfl ?_
                refine bh_c (pc' := 261) (n := 1) bt_26_260 rfl rfl (fun _ _ _ => rfl) (by decide) (fun c520 e521 => ?_)
                refine bh_add (pc' := 262) bt_26_261 rfl (by omega) (by omega) (fun v522 e523 => ?_)
                refine bh_pf (pc' := 265) bt_26_262 rfl rfl (fun _ _ _ => rfl) hP519 bx_i43 rfl (fun h524 s525 hP526 e527 f528 => ?_)
                refine bh_ld (pc' := 266) bt_26_265 rfl rfl (fun _ _ _ => rfl) g488 rfl ?_
                refine bh_cv (pc' := 269) (st := []) (args := []) bt_26_266 rfl rfl (by decide) hP526 (by omega) rfl (Nat.le_of_ble_eq_true rfl) (Nat.le_of_ble_eq_true rfl) ?_
                refine sp_37 hP526 (by simp only [List.length_cons]; omega) ((f528 11 (by decide)).trans (f501 11 (by decide) (by decide))) ((f528 13 (by decide)).trans (f501 13 (by decide) (by decide))) (by omega) (by omega) (by omega) (fun h529 s530 hP531 f532 p533 => ?_)
                show bh_G E FIN ((26, 269, lv485, [], 0, 0) :: gs, _, none)
                refine bh_go (pc' := 12) bt_26_269 rfl ?_
                have z12 := congrArg Int32.toInt ((f532 12 (by decide) (by decide) (by decide)).trans ((f528 12 (by decide)).trans (f501 12 (by decide) (by decide))))
                have z39 := congrArg Int32.toInt ((f532 39 (by decide) (by decide) (by decide)).trans (f528 39 (by decide)))
                have z43 := congrArg Int32.toInt ((f532 43 (by decide) (by decide) (by decide)).trans e527)
                have hk9 : ((A502 91 ((s 11)).toInt.toNat)).toInt = (A 91 (s 11).toInt.toNat).toInt := congrArg Int32.toInt (a503 91 _ (by omega))
                have en : ((s499 43)).toInt.toNat = n505 := by omega
                refine i12 _ _ _ _ _ _ hP531 g488 g489 g487 (by omega) (by omega) ⟨(fun j j11 j12 j13 j14 j39 j43 => ((fun j j11 j12 j13 j14 j39 j43 => ((f532 j j11 j13 j14).trans ((f528 j j43).trans (f501 j j39 j43)))) j j11 j12 j13 j14 j39 j43).trans (x1 j j11 j12 j13 j14 j39 j43)), (fun k j u v => ((bh_up_o (by omega)).trans ((a503 k j (by omega)).trans (x2 k j (by omega) v)))), by omega, by omega, by omega, by omega, by omega, by omega, by omega, by omega, fun hF => ?_⟩
                refine ⟨(fun j j11 j12 j13 j14 j39 j43 => ((fun j j11 j12 j13 j14 j39 j43 => ((f532 j j11 j13 j14).trans ((f528 j j43).trans (f501 j j39 j43)))) j j11 j12 j13 j14 j39 j43).trans (x1 j j11 j12 j13 j14 j39 j43)), (fun k j u v => ((bh_up_o (by omega)).trans ((a503 k j (by omega)).trans (x2 k j (by omega) v)))), by omega, by omega, by omega, by omega, by omega, by omega, by omega, (n505 + 1), opn, (g506 + 2), (p507 + 1), by omega, ?_, by omega, ?_, by omega⟩
                · refine rd_wt_push (w := A 115) r510 (fun j hj => (bh_up_j (by omega)).trans (a503 115 j (by omega))) (Or.inr (Or.inr ⟨?_, rfl, r515, rfl, rfl⟩))
                  rw [← en, bh_up_i]
                  have hk8 : (mm_nar 0 ((A502 91 ((s 11)).toInt.toNat))).toInt = ((A502 91 ((s 11)).toInt.toNat)).toInt := rfl
                  omega
                · rw [((f532 39 (by decide) (by decide) (by decide)).trans (f528 39 (by decide)))]
                  exact r513
              · replace k495 : ¬ ((r493).toInt ≠ 0) := k495
                refine bh_ld (pc' := 221) bt_26_220 rfl rfl (fun _ _ _ => rfl) g488 rfl ?_
                refine bh_c (pc' := 223) (n := 15) bt_26_221 rfl rfl (fun _ _ _ => rfl) (by decide) (fun c534 e535 => ?_)
                refine bh_cv (pc' := 226) (st := [.ref (E.1 + 88)]) (args := [.int c534]) bt_26_223 rfl rfl (by decide) hP (by omega) rfl (Nat.le_of_ble_eq_true rfl) (Nat.le_of_ble_eq_true rfl) ?_
                refine sp_45 (k := c534) hP rfl rfl (by omega) (by omega) (fun r536 p537 => ?_)
                show bh_G E FIN ((26, 226, lv485, [.int r536, .ref (E.1 + 88)], 0, 0) :: gs, _, none)
                refine bh_i0 (pc' := 229) (pt := 233) bt_26_226 rfl rfl (fun k538 => ?_) (fun k538 => ?_)
                · replace k538 : (r536).toInt = 0 := k538
                  refine bh_c (pc' := 234) (n := 0) bt_26_233 rfl rfl (fun _ _ _ => rfl) (by decide) (fun c539 e540 => ?_)
                  refine bh_cv (pc' := 237) (st := []) (args := [.int c539]) bt_26_234 rfl rfl (by decide) hP (by omega) rfl (Nat.le_of_ble_eq_true rfl) (Nat.le_of_ble_eq_true rfl) ?_
                  refine rd_out (n + 1) n (Nat.lt_succ_self _) c539 hP (by simp only [List.length_cons]; omega) rfl rfl rfl rfl (by omega) (s0 39).toInt.toNat opn g p y2 (by omega) (by omega) (by omega) y4 (by omega) (fun h541 s542 A545 hP543 f544 a546 q547 => ?_)
                  obtain ⟨n548, g549, p550, r551, r552, r553, r554, r555, r556, r557, r558, r559⟩ := q547
                  show bh_G E FIN ((26, 237, lv485, [], 0, 0) :: gs, _, none)
                  have l560 := rd_wt_len _ _ _ _ r553
                  refine bh_ld (pc' := 238) bt_26_237 rfl rfl (fun _ _ _ => rfl) g488 rfl ?_
                  refine bh_gr (pc' := 241) (c := 115) bt_26_238 rfl rfl (fun _ _ _ => rfl) hP543 bx_r42 ?_
                  refine bh_ld (pc' := 242) bt_26_241 rfl rfl (fun _ _ _ => rfl) g488 rfl ?_
                  refine bh_gi (pc' := 245) bt_26_242 rfl rfl (fun _ _ _ => rfl) hP543 bx_i43 rfl ?_
                  refine bh_ld (pc' := 246) bt_26_245 rfl rfl (fun _ _ _ => rfl) g488 rfl ?_
                  refine bh_gr (pc' := 249) (c := 91) bt_26_246 rfl rfl (fun _ _ _ => rfl) hP543 bx_r5 ?_
                  refine bh_ld (pc' := 250) bt_26_249 rfl rfl (fun _ _ _ => rfl) g488 rfl ?_
                  refine bh_gi (pc' := 253) bt_26_250 rfl rfl (fun _ _ _ => rfl) hP543 bx_i11 (f544 11 (by decide) (by decide)) ?_
                  refine bh_ia (pc' := 254) bt_26_253 rfl rfl (fun _ _ _ => rfl) hP543 bx_a91 (Or.inl rfl) (by omega) (by omega) ?_
                  refine bh_ias (pc' := 255) bt_26_254 rfl rfl (fun _ _ _ => rfl) hP543 bx_a115 (Or.inl rfl) (by omega) (by omega) (fun h561 hP562 => ?_)
                  refine bh_ld (pc' := 256) bt_26_255 rfl rfl (fun _ _ _ => rfl) g488 rfl ?_
                  refine bh_dup (pc' := 257) bt_26_256 rfl rfl ?_
                  refine bh_gi (pc' := 260) bt_26_257 rfl rfl (fun _ _ _ => rfl) hP562 bx_i43 rfl ?_
                  refine bh_c (pc' := 261) (n := 1) bt_26_260 rfl rfl (fun _ _ _ => rfl) (by decide) (fun c563 e564 => ?_)
                  refine bh_add (pc' := 262) bt_26_261 rfl (by omega) (by omega) (fun v565 e566 => ?_)
                  refine bh_pf (pc' := 265) bt_26_262 rfl rfl (fun _ _ _ => rfl) hP562 bx_i43 rfl (fun h567 s568 hP569 e570 f571 => ?_)
                  refine bh_ld (pc' := 266) bt_26_265 rfl rfl (fun _ _ _ => rfl) g488 rfl ?_
                  refine bh_cv (pc' := 269) (st := []) (args := []) bt_26_266 rfl rfl (by decide) hP569 (by omega) rfl (Nat.le_of_ble_eq_true rfl) (Nat.le_of_ble_eq_true rfl) ?_
                  refine sp_37 hP569 (by simp only [List.length_cons]; omega) ((f571 11 (by decide)).trans (f544 11 (by decide) (by decide))) ((f571 13 (by decide)).trans (f544 13 (by decide) (by decide))) (by omega) (by omega) (by omega) (fun h572 s573 hP574 f575 p576 => ?_)
                  show bh_G E FIN ((26, 269, lv485, [], 0, 0) :: gs, _, none)
                  refine bh_go (pc' := 12) bt_26_269 rfl ?_
                  have z12 := congrArg Int32.toInt ((f575 12 (by decide) (by decide) (by decide)).trans ((f571 12 (by decide)).trans (f544 12 (by decide) (by decide))))
                  have z39 := congrArg Int32.toInt ((f575 39 (by decide) (by decide) (by decide)).trans (f571 39 (by decide)))
                  have z43 := congrArg Int32.toInt ((f575 43 (by decide) (by decide) (by decide)).trans e570)
                  have hk9 : ((A545 91 ((s 11)).toInt.toNat)).toInt = (A 91 (s 11).toInt.toNat).toInt := congrArg Int32.toInt (a546 91 _ (by omega))
                  have en : ((s542 43)).toInt.toNat = n548 := by omega
                  refine i12 _ _ _ _ _ _ hP574 g488 g489 g487 (by omega) (by omega) ⟨(fun j j11 j12 j13 j14 j39 j43 => ((fun j j11 j12 j13 j14 j39 j43 => ((f575 j j11 j13 j14).trans ((f571 j j43).trans (f544 j j39 j43)))) j j11 j12 j13 j14 j39 j43).trans (x1 j j11 j12 j13 j14 j39 j43)), (fun k j u v => ((bh_up_o (by omega)).trans ((a546 k j (by omega)).trans (x2 k j (by omega) v)))), by omega, by omega, by omega, by omega, by omega, by omega, by omega, by omega, fun hF => ?_⟩
                  refine ⟨(fun j j11 j12 j13 j14 j39 j43 => ((fun j j11 j12 j13 j14 j39 j43 => ((f575 j j11 j13 j14).trans ((f571 j j43).trans (f544 j j39 j43)))) j j11 j12 j13 j14 j39 j43).trans (x1 j j11 j12 j13 j14 j39 j43)), (fun k j u v => ((bh_up_o (by omega)).trans ((a546 k j (by omega)).trans (x2 k j (by omega) v)))), by omega, by omega, by omega, by omega, by omega, by omega, by omega, (n548 + 1), opn, 1, (p550 + 1), by omega, ?_, by omega, ?_, by omega⟩
                  · refine rd_wt_push (w := A 115) r553 (fun j hj => (bh_up_j (by omega)).trans (a546 115 j (by omega))) (Or.inr (Or.inl ⟨?_, rfl, r557 (by omega), rfl, rfl⟩))
                    rw [← en, bh_up_i]
                    have hk8 : (mm_nar 0 ((A545 91 ((s 11)).toInt.toNat))).toInt = ((A545 91 ((s 11)).toInt.toNat)).toInt := rfl
                    omega
                  · rw [((f575 39 (by decide) (by decide) (by decide)).trans (f571 39 (by decide)))]
                    exact r556
                · replace k538 : ¬ ((r536).toInt = 0) := k538
                  refine bh_c (pc' := 230) (n := 1) bt_26_229 rfl rfl (fun _ _ _ => rfl) (by decide) (fun c577 e578 => ?_)
                  refine bh_go (pc' := 234) bt_26_230 rfl ?_
                  refine bh_cv (pc' := 237) (st := []) (args := [.int c577]) bt_26_234 rfl rfl (by decide) hP (by omega) rfl (Nat.le_of_ble_eq_true rfl) (Nat.le_of_ble_eq_true rfl) ?_
                  refine rd_out (n + 1) n (Nat.lt_succ_self _) c577 hP (by simp only [List.length_cons]; omega) rfl rfl rfl rfl (by omega) (s0 39).toInt.toNat opn g p y2 (by omega) (by omega) (by omega) y4 (by omega) (fun h579 s580 A583 hP581 f582 a584 q585 => ?_)
                  obtain ⟨n586, g587, p588, r589, r590, r591, r592, r593, r594, r595, r596, r597⟩ := q585
                  show bh_G E FIN ((26, 237, lv485, [], 0, 0) :: gs, _, none)
                  have l598 := rd_wt_len _ _ _ _ r591
                  refine bh_ld (pc' := 238) bt_26_237 rfl rfl (fun _ _ _ => rfl) g488 rfl ?_
                  refine bh_gr (pc' := 241) (c := 115) bt_26_238 rfl rfl (fun _ _ _ => rfl) hP581 bx_r42 ?_
                  refine bh_ld (pc' := 242) bt_26_241 rfl rfl (fun _ _ _ => rfl) g488 rfl ?_
                  refine bh_gi (pc' := 245) bt_26_242 rfl rfl (fun _ _ _ => rfl) hP581 bx_i43 rfl ?_
                  refine bh_ld (pc' := 246) bt_26_245 rfl rfl (fun _ _ _ => rfl) g488 rfl ?_
                  refine bh_gr (pc' := 249) (c := 91) bt_26_246 rfl rfl (fun _ _ _ => rfl) hP581 bx_r5 ?_
                  refine bh_ld (pc' := 250) bt_26_249 rfl rfl (fun _ _ _ => rfl) g488 rfl ?_
                  refine bh_gi (pc' := 253) bt_26_250 rfl rfl (fun _ _ _ => rfl) hP581 bx_i11 (f582 11 (by decide) (by decide)) ?_
                  refine bh_ia (pc' := 254) bt_26_253 rfl rfl (fun _ _ _ => rfl) hP581 bx_a91 (Or.inl rfl) (by omega) (by omega) ?_
                  refine bh_ias (pc' := 255) bt_26_254 rfl rfl (fun _ _ _ => rfl) hP581 bx_a115 (Or.inl rfl) (by omega) (by omega) (fun h599 hP600 => ?_)
                  refine bh_ld (pc' := 256) bt_26_255 rfl rfl (fun _ _ _ => rfl) g488 rfl ?_
                  refine bh_dup (pc' := 257) bt_26_256 rfl rfl ?_
                  refine bh_gi (pc' := 260) bt_26_257 rfl rfl (fun _ _ _ => rfl) hP600 bx_i43 rfl ?_
                  refine bh_c (pc' := 261) (n := 1) bt_26_260 rfl rfl (fun _ _ _ => rfl) (by decide) (fun c601 e602 => ?_)
                  refine bh_add (pc' := 262) bt_26_261 rfl (by omega) (by omega) (fun v603 e604 => ?_)
                  refine bh_pf (pc' := 265) bt_26_262 rfl rfl (fun _ _ _ => rfl) hP600 bx_i43 rfl (fun h605 s606 hP607 e608 f609 => ?_)
                  refine bh_ld (pc' := 266) bt_26_265 rfl rfl (fun _ _ _ => rfl) g488 rfl ?_
                  refine bh_cv (pc' := 269) (st := []) (args := []) bt_26_266 rfl rfl (by decide) hP607 (by omega) rfl (Nat.le_of_ble_eq_true rfl) (Nat.le_of_ble_eq_true rfl) ?_
                  refine sp_37 hP607 (by simp only [List.length_cons]; omega) ((f609 11 (by decide)).trans (f582 11 (by decide) (by decide))) ((f609 13 (by decide)).trans (f582 13 (by decide) (by decide))) (by omega) (by omega) (by omega) (fun h610 s611 hP612 f613 p614 => ?_)
                  show bh_G E FIN ((26, 269, lv485, [], 0, 0) :: gs, _, none)
                  refine bh_go (pc' := 12) bt_26_269 rfl ?_
                  have z12 := congrArg Int32.toInt ((f613 12 (by decide) (by decide) (by decide)).trans ((f609 12 (by decide)).trans (f582 12 (by decide) (by decide))))
                  have z39 := congrArg Int32.toInt ((f613 39 (by decide) (by decide) (by decide)).trans (f609 39 (by decide)))
                  have z43 := congrArg Int32.toInt ((f613 43 (by decide) (by decide) (by decide)).trans e608)
                  have hk9 : ((A583 91 ((s 11)).toInt.toNat)).toInt = (A 91 (s 11).toInt.toNat).toInt := congrArg Int32.toInt (a584 91 _ (by omega))
                  have en : ((s580 43)).toInt.toNat = n586 := by omega
                  refine i12 _ _ _ _ _ _ hP612 g488 g489 g487 (by omega) (by omega) ⟨(fun j j11 j12 j13 j14 j39 j43 => ((fun j j11 j12 j13 j14 j39 j43 => ((f613 j j11 j13 j14).trans ((f609 j j43).trans (f582 j j39 j43)))) j j11 j12 j13 j14 j39 j43).trans (x1 j j11 j12 j13 j14 j39 j43)), (fun k j u v => ((bh_up_o (by omega)).trans ((a584 k j (by omega)).trans (x2 k j (by omega) v)))), by omega, by omega, by omega, by omega, by omega, by omega, by omega, by omega, fun hF => ?_⟩
                  refine ⟨(fun j j11 j12 j13 j14 j39 j43 => ((fun j j11 j12 j13 j14 j39 j43 => ((f613 j j11 j13 j14).trans ((f609 j j43).trans (f582 j j39 j43)))) j j11 j12 j13 j14 j39 j43).trans (x1 j j11 j12 j13 j14 j39 j43)), (fun k j u v => ((bh_up_o (by omega)).trans ((a584 k j (by omega)).trans (x2 k j (by omega) v)))), by omega, by omega, by omega, by omega, by omega, by omega, by omega, (n586 + 1), opn, (g587 + 2), (p588 + 1), by omega, ?_, by omega, ?_, by omega⟩
                  · refine rd_wt_push (w := A 115) r591 (fun j hj => (bh_up_j (by omega)).trans (a584 115 j (by omega))) (Or.inr (Or.inr ⟨?_, rfl, r596, rfl, rfl⟩))
                    rw [← en, bh_up_i]
                    have hk8 : (mm_nar 0 ((A583 91 ((s 11)).toInt.toNat))).toInt = ((A583 91 ((s 11)).toInt.toNat)).toInt := rfl
                    omega
                  · rw [((f613 39 (by decide) (by decide) (by decide)).trans (f609 39 (by decide)))]
                    exact r594
            · replace k490 : ¬ ((c483).toInt ≠ 0) := k490
              omega
          · replace k482 : ¬ ((r480).toInt ≠ 0) := k482
            refine bh_ld (pc' := 164) bt_26_163 rfl rfl (fun _ _ _ => rfl) g0 rfl ?_
            refine bh_c (pc' := 166) (n := 10) bt_26_164 rfl rfl (fun _ _ _ => rfl) (by decide) (fun c615 e616 => ?_)
            refine bh_cv (pc' := 169) (st := []) (args := [.int c615]) bt_26_166 rfl rfl (by decide) hP (by omega) rfl (Nat.le_of_ble_eq_true rfl) (Nat.le_of_ble_eq_true rfl) ?_
            refine sp_45 (k := c615) hP rfl rfl (by omega) (by omega) (fun r617 p618 => ?_)
            show bh_G E FIN ((26, 169, lv, [.int r617], 0, 0) :: gs, _, none)
            refine bh_i0 (pc' := 172) (pt := 181) bt_26_169 rfl rfl (fun k619 => ?_) (fun k619 => ?_)
            · replace k619 : (r617).toInt ≠ 0 := k619
              refine bh_c (pc' := 182) (n := 1) bt_26_181 rfl rfl (fun _ _ _ => rfl) (by decide) (fun c620 e621 => ?_)
              refine bh_go (pc' := 186) bt_26_182 rfl ?_
              refine bh_st (pc' := 187) bt_26_186 rfl rfl (fun _ _ _ => rfl) rfl (by decide) (by decide) (fun lv622 F623 g624 => ?_)
              have g625 := F623 0 (.ref (E.1 + 88)) g0 (by decide) (Or.inl rfl)
              have g626 := F623 1 (.int b) g1 (by decide) (Or.inl rfl)
              refine bh_ld (pc' := 188) bt_26_187 rfl rfl (fun _ _ _ => rfl) g624 rfl ?_
              refine bh_i0 (pc' := 191) (pt := 210) bt_26_188 rfl rfl (fun k627 => ?_) (fun k627 => ?_)
              · replace k627 : (c620).toInt ≠ 0 := k627
                refine bh_ld (pc' := 211) bt_26_210 rfl rfl (fun _ _ _ => rfl) g625 rfl ?_
                refine bh_ld (pc' := 212) bt_26_211 rfl rfl (fun _ _ _ => rfl) g625 rfl ?_
                refine bh_c (pc' := 214) (n := 10) bt_26_212 rfl rfl (fun _ _ _ => rfl) (by decide) (fun c628 e629 => ?_)
                refine bh_cv (pc' := 217) (st := [.ref (E.1 + 88)]) (args := [.int c628]) bt_26_214 rfl rfl (by decide) hP (by omega) rfl (Nat.le_of_ble_eq_true rfl) (Nat.le_of_ble_eq_true rfl) ?_
                refine sp_45 (k := c628) hP rfl rfl (by omega) (by omega) (fun r630 p631 => ?_)
                show bh_G E FIN ((26, 217, lv622, [.int r630, .ref (E.1 + 88)], 0, 0) :: gs, _, none)
                refine bh_i0 (pc' := 220) (pt := 229) bt_26_217 rfl rfl (fun k632 => ?_) (fun k632 => ?_)
                · replace k632 : (r630).toInt ≠ 0 := k632
                  refine bh_c (pc' := 230) (n := 1) bt_26_229 rfl rfl (fun _ _ _ => rfl) (by decide) (fun c633 e634 => ?_)
                  refine bh_go (pc' := 234) bt_26_230 rfl ?_
                  refine bh_cv (pc' := 237) (st := []) (args := [.int c633]) bt_26_234 rfl rfl (by decide) hP (by omega) rfl (Nat.le_of_ble_eq_true rfl) (Nat.le_of_ble_eq_true rfl) ?_
                  refine rd_out (n + 1) n (Nat.lt_succ_self _) c633 hP (by simp only [List.length_cons]; omega) rfl rfl rfl rfl (by omega) (s0 39).toInt.toNat opn g p y2 (by omega) (by omega) (by omega) y4 (by omega) (fun h635 s636 A639 hP637 f638 a640 q641 => ?_)
                  obtain ⟨n642, g643, p644, r645, r646, r647, r648, r649, r650, r651, r652, r653⟩ := q641
                  show bh_G E FIN ((26, 237, lv622, [], 0, 0) :: gs, _, none)
                  have l654 := rd_wt_len _ _ _ _ r647
                  refine bh_ld (pc' := 238) bt_26_237 rfl rfl (fun _ _ _ => rfl) g625 rfl ?_
                  refine bh_gr (pc' := 241) (c := 115) bt_26_238 rfl rfl (fun _ _ _ => rfl) hP637 bx_r42 ?_
                  refine bh_ld (pc' := 242) bt_26_241 rfl rfl (fun _ _ _ => rfl) g625 rfl ?_
                  refine bh_gi (pc' := 245) bt_26_242 rfl rfl (fun _ _ _ => rfl) hP637 bx_i43 rfl ?_
                  refine bh_ld (pc' := 246) bt_26_245 rfl rfl (fun _ _ _ => rfl) g625 rfl ?_
                  refine bh_gr (pc' := 249) (c := 91) bt_26_246 rfl rfl (fun _ _ _ => rfl) hP637 bx_r5 ?_
                  refine bh_ld (pc' := 250) bt_26_249 rfl rfl (fun _ _ _ => rfl) g625 rfl ?_
                  refine bh_gi (pc' := 253) bt_26_250 rfl rfl (fun _ _ _ => rfl) hP637 bx_i11 (f638 11 (by decide) (by decide)) ?_
                  refine bh_ia (pc' := 254) bt_26_253 rfl rfl (fun _ _ _ => rfl) hP637 bx_a91 (Or.inl rfl) (by omega) (by omega) ?_
                  refine bh_ias (pc' := 255) bt_26_254 rfl rfl (fun _ _ _ => rfl) hP637 bx_a115 (Or.inl rfl) (by omega) (by omega) (fun h655 hP656 => ?_)
                  refine bh_ld (pc' := 256) bt_26_255 rfl rfl (fun _ _ _ => rfl) g625 rfl ?_
                  refine bh_dup (pc' := 257) bt_26_256 rfl rfl ?_
                  refine bh_gi (pc' := 260) bt_26_257 rfl rfl (fun _ _ _ => rfl) hP656 bx_i43 rfl ?_
                  refine bh_c (pc' := 261) (n := 1) bt_26_260 rfl rfl (fun _ _ _ => rfl) (by decide) (fun c657 e658 => ?_)
                  refine bh_add (pc' := 262) bt_26_261 rfl (by omega) (by omega) (fun v659 e660 => ?_)
                  refine bh_pf (pc' := 265) bt_26_262 rfl rfl (fun _ _ _ => rfl) hP656 bx_i43 rfl (fun h661 s662 hP663 e664 f665 => ?_)
                  refine bh_ld (pc' := 266) bt_26_265 rfl rfl (fun _ _ _ => rfl) g625 rfl ?_
                  refine bh_cv (pc' := 269) (st := []) (args := []) bt_26_266 rfl rfl (by decide) hP663 (by omega) rfl (Nat.le_of_ble_eq_true rfl) (Nat.le_of_ble_eq_true rfl) ?_
                  refine sp_37 hP663 (by simp only [List.length_cons]; omega) ((f665 11 (by decide)).trans (f638 11 (by decide) (by decide))) ((f665 13 (by decide)).trans (f638 13 (by decide) (by decide))) (by omega) (by omega) (by omega) (fun h666 s667 hP668 f669 p670 => ?_)
                  show bh_G E FIN ((26, 269, lv622, [], 0, 0) :: gs, _, none)
                  refine bh_go (pc' := 12) bt_26_269 rfl ?_
                  have z12 := congrArg Int32.toInt ((f669 12 (by decide) (by decide) (by decide)).trans ((f665 12 (by decide)).trans (f638 12 (by decide) (by decide))))
                  have z39 := congrArg Int32.toInt ((f669 39 (by decide) (by decide) (by decide)).trans (f665 39 (by decide)))
                  have z43 := congrArg Int32.toInt ((f669 43 (by decide) (by decide) (by decide)).trans e664)
                  have hk9 : ((A639 91 ((s 11)).toInt.toNat)).toInt = (A 91 (s 11).toInt.toNat).toInt := congrArg Int32.toInt (a640 91 _ (by omega))
                  have en : ((s636 43)).toInt.toNat = n642 := by omega
                  refine i12 _ _ _ _ _ _ hP668 g625 g626 g624 (by omega) (by omega) ⟨(fun j j11 j12 j13 j14 j39 j43 => ((fun j j11 j12 j13 j14 j39 j43 => ((f669 j j11 j13 j14).trans ((f665 j j43).trans (f638 j j39 j43)))) j j11 j12 j13 j14 j39 j43).trans (x1 j j11 j12 j13 j14 j39 j43)), (fun k j u v => ((bh_up_o (by omega)).trans ((a640 k j (by omega)).trans (x2 k j (by omega) v)))), by omega, by omega, by omega, by omega, by omega, by omega, by omega, by omega, fun hF => ?_⟩
                  refine ⟨(fun j j11 j12 j13 j14 j39 j43 => ((fun j j11 j12 j13 j14 j39 j43 => ((f669 j j11 j13 j14).trans ((f665 j j43).trans (f638 j j39 j43)))) j j11 j12 j13 j14 j39 j43).trans (x1 j j11 j12 j13 j14 j39 j43)), (fun k j u v => ((bh_up_o (by omega)).trans ((a640 k j (by omega)).trans (x2 k j (by omega) v)))), by omega, by omega, by omega, by omega, by omega, by omega, by omega, (n642 + 1), opn, (g643 + 2), (p644 + 1), by omega, ?_, by omega, ?_, by omega⟩
                  · refine rd_wt_push (w := A 115) r647 (fun j hj => (bh_up_j (by omega)).trans (a640 115 j (by omega))) (Or.inr (Or.inr ⟨?_, rfl, r652, rfl, rfl⟩))
                    rw [← en, bh_up_i]
                    have hk8 : (mm_nar 0 ((A639 91 ((s 11)).toInt.toNat))).toInt = ((A639 91 ((s 11)).toInt.toNat)).toInt := rfl
                    omega
                  · rw [((f669 39 (by decide) (by decide) (by decide)).trans (f665 39 (by decide)))]
                    exact r650
                · replace k632 : ¬ ((r630).toInt ≠ 0) := k632
                  refine bh_ld (pc' := 221) bt_26_220 rfl rfl (fun _ _ _ => rfl) g625 rfl ?_
                  refine bh_c (pc' := 223) (n := 15) bt_26_221 rfl rfl (fun _ _ _ => rfl) (by decide) (fun c671 e672 => ?_)
                  refine bh_cv (pc' := 226) (st := [.ref (E.1 + 88)]) (args := [.int c671]) bt_26_223 rfl rfl (by decide) hP (by omega) rfl (Nat.le_of_ble_eq_true rfl) (Nat.le_of_ble_eq_true rfl) ?_
                  refine sp_45 (k := c671) hP rfl rfl (by omega) (by omega) (fun r673 p674 => ?_)
                  show bh_G E FIN ((26, 226, lv622, [.int r673, .ref (E.1 + 88)], 0, 0) :: gs, _, none)
                  refine bh_i0 (pc' := 229) (pt := 233) bt_26_226 rfl rfl (fun k675 => ?_) (fun k675 => ?_)
                  · replace k675 : (r673).toInt = 0 := k675
                    refine bh_c (pc' := 234) (n := 0) bt_26_233 rfl rfl (fun _ _ _ => rfl) (by decide) (fun c676 e677 => ?_)
                    refine bh_cv (pc' := 237) (st := []) (args := [.int c676]) bt_26_234 rfl rfl (by decide) hP (by omega) rfl (Nat.le_of_ble_eq_true rfl) (Nat.le_of_ble_eq_true rfl) ?_
                    refine rd_out (n + 1) n (Nat.lt_succ_self _) c676 hP (by simp only [List.length_cons]; omega) rfl rfl rfl rfl (by omega) (s0 39).toInt.toNat opn g p y2 (by omega) (by omega) (by omega) y4 (by omega) (fun h678 s679 A682 hP680 f681 a683 q684 => ?_)
                    obtain ⟨n685, g686, p687, r688, r689, r690, r691, r692, r693, r694, r695, r696⟩ := q684
                    show bh_G E FIN ((26, 237, lv622, [], 0, 0) :: gs, _, none)
                    have l697 := rd_wt_len _ _ _ _ r690
                    refine bh_ld (pc' := 238) bt_26_237 rfl rfl (fun _ _ _ => rfl) g625 rfl ?_
                    refine bh_gr (pc' := 241) (c := 115) bt_26_238 rfl rfl (fun _ _ _ => rfl) hP680 bx_r42 ?_
                    refine bh_ld (pc' := 242) bt_26_241 rfl rfl (fun _ _ _ => rfl) g625 rfl ?_
                    refine bh_gi (pc' := 245) bt_26_242 rfl rfl (fun _ _ _ => rfl) hP680 bx_i43 rfl ?_
                    refine bh_ld (pc' := 246) bt_26_245 rfl rfl (fun _ _ _ => rfl) g625 rfl ?_
                    refine bh_gr (pc' := 249) (c := 91) bt_26_246 rfl rfl (fun _ _ _ => rfl) hP680 bx_r5 ?_
                    refine bh_ld (pc' := 250) bt_26_249 rfl rfl (fun _ _ _ => rfl) g625 rfl ?_
                    refine bh_gi (pc' := 253) bt_26_250 rfl rfl (fun _ _ _ => rfl) hP680 bx_i11 (f681 11 (by decide) (by decide)) ?_
                    refine bh_ia (pc' := 254) bt_26_253 rfl rfl (fun _ _ _ => rfl) hP680 bx_a91 (Or.inl rfl) (by omega) (by omega) ?_
                    refine bh_ias (pc' := 255) bt_26_254 rfl rfl (fun _ _ _ => rfl) hP680 bx_a115 (Or.inl rfl) (by omega) (by omega) (fun h698 hP699 => ?_)
                    refine bh_ld (pc' := 256) bt_26_255 rfl rfl (fun _ _ _ => rfl) g625 rfl ?_
                    refine bh_dup (pc' := 257) bt_26_256 rfl rfl ?_
                    refine bh_gi (pc' := 260) bt_26_257 rfl rfl (fun _ _ _ => rfl) hP699 bx_i43 rfl ?_
                    refine bh_c (pc' := 261) (n := 1) bt_26_260 rfl rfl (fun _ _ _ => rfl) (by decide) (fun c700 e701 => ?_)
                    refine bh_add (pc' := 262) bt_26_261 rfl (by omega) (by omega) (fun v702 e703 => ?_)
                    refine bh_pf (pc' := 265) bt_26_262 rfl rfl (fun _ _ _ => rfl) hP699 bx_i43 rfl (fun h704 s705 hP706 e707 f708 => ?_)
                    refine bh_ld (pc' := 266) bt_26_265 rfl rfl (fun _ _ _ => rfl) g625 rfl ?_
                    refine bh_cv (pc' := 269) (st := []) (args := []) bt_26_266 rfl rfl (by decide) hP706 (by omega) rfl (Nat.le_of_ble_eq_true rfl) (Nat.le_of_ble_eq_true rfl) ?_
                    refine sp_37 hP706 (by simp only [List.length_cons]; omega) ((f708 11 (by decide)).trans (f681 11 (by decide) (by decide))) ((f708 13 (by decide)).trans (f681 13 (by decide) (by decide))) (by omega) (by omega) (by omega) (fun h709 s710 hP711 f712 p713 => ?_)
                    show bh_G E FIN ((26, 269, lv622, [], 0, 0) :: gs, _, none)
                    refine bh_go (pc' := 12) bt_26_269 rfl ?_
                    have z12 := congrArg Int32.toInt ((f712 12 (by decide) (by decide) (by decide)).trans ((f708 12 (by decide)).trans (f681 12 (by decide) (by decide))))
                    have z39 := congrArg Int32.toInt ((f712 39 (by decide) (by decide) (by decide)).trans (f708 39 (by decide)))
                    have z43 := congrArg Int32.toInt ((f712 43 (by decide) (by decide) (by decide)).trans e707)
                    have hk9 : ((A682 91 ((s 11)).toInt.toNat)).toInt = (A 91 (s 11).toInt.toNat).toInt := congrArg Int32.toInt (a683 91 _ (by omega))
                    have en : ((s679 43)).toInt.toNat = n685 := by omega
                    refine i12 _ _ _ _ _ _ hP711 g625 g626 g624 (by omega) (by omega) ⟨(fun j j11 j12 j13 j14 j39 j43 => ((fun j j11 j12 j13 j14 j39 j43 => ((f712 j j11 j13 j14).trans ((f708 j j43).trans (f681 j j39 j43)))) j j11 j12 j13 j14 j39 j43).trans (x1 j j11 j12 j13 j14 j39 j43)), (fun k j u v => ((bh_up_o (by omega)).trans ((a683 k j (by omega)).trans (x2 k j (by omega) v)))), by omega, by omega, by omega, by omega, by omega, by omega, by omega, by omega, fun hF => ?_⟩
                    refine ⟨(fun j j11 j12 j13 j14 j39 j43 => ((fun j j11 j12 j13 j14 j39 j43 => ((f712 j j11 j13 j14).trans ((f708 j j43).trans (f681 j j39 j43)))) j j11 j12 j13 j14 j39 j43).trans (x1 j j11 j12 j13 j14 j39 j43)), (fun k j u v => ((bh_up_o (by omega)).trans ((a683 k j (by omega)).trans (x2 k j (by omega) v)))), by omega, by omega, by omega, by omega, by omega, by omega, by omega, (n685 + 1), opn, 1, (p687 + 1), by omega, ?_, by omega, ?_, by omega⟩
                    · refine rd_wt_push (w := A 115) r690 (fun j hj => (bh_up_j (by omega)).trans (a683 115 j (by omega))) (Or.inr (Or.inl ⟨?_, rfl, r694 (by omega), rfl, rfl⟩))
                      rw [← en, bh_up_i]
                      have hk8 : (mm_nar 0 ((A682 91 ((s 11)).toInt.toNat))).toInt = ((A682 91 ((s 11)).toInt.toNat)).toInt := rfl
                      omega
                    · rw [((f712 39 (by decide) (by decide) (by decide)).trans (f708 39 (by decide)))]
                      exact r693
                  · replace k675 : ¬ ((r673).toInt = 0) := k675
                    refine bh_c (pc' := 230) (n := 1) bt_26_229 rfl rfl (fun _ _ _ => rfl) (by decide) (fun c714 e715 => ?_)
                    refine bh_go (pc' := 234) bt_26_230 rfl ?_
                    refine bh_cv (pc' := 237) (st := []) (args := [.int c714]) bt_26_234 rfl rfl (by decide) hP (by omega) rfl (Nat.le_of_ble_eq_true rfl) (Nat.le_of_ble_eq_true rfl) ?_
                    refine rd_out (n + 1) n (Nat.lt_succ_self _) c714 hP (by simp only [List.length_cons]; omega) rfl rfl rfl rfl (by omega) (s0 39).toInt.toNat opn g p y2 (by omega) (by omega) (by omega) y4 (by omega) (fun h716 s717 A720 hP718 f719 a721 q722 => ?_)
                    obtain ⟨n723, g724, p725, r726, r727, r728, r729, r730, r731, r732, r733, r734⟩ := q722
                    show bh_G E FIN ((26, 237, lv622, [], 0, 0) :: gs, _, none)
                    have l735 := rd_wt_len _ _ _ _ r728
                    refine bh_ld (pc' := 238) bt_26_237 rfl rfl (fun _ _ _ => rfl) g625 rfl ?_
                    refine bh_gr (pc' := 241) (c := 115) bt_26_238 rfl rfl (fun _ _ _ => rfl) hP718 bx_r42 ?_
                    refine bh_ld (pc' := 242) bt_26_241 rfl rfl (fun _ _ _ => rfl) g625 rfl ?_
                    refine bh_gi (pc' := 245) bt_26_242 rfl rfl (fun _ _ _ => rfl) hP718 bx_i43 rfl ?_
                    refine bh_ld (pc' := 246) bt_26_245 rfl rfl (fun _ _ _ => rfl) g625 rfl ?_
                    refine bh_gr (pc' := 249) (c := 91) bt_26_246 rfl rfl (fun _ _ _ => rfl) hP718 bx_r5 ?_
                    refine bh_ld (pc' := 250) bt_26_249 rfl rfl (fun _ _ _ => rfl) g625 rfl ?_
                    refine bh_gi (pc' := 253) bt_26_250 rfl rfl (fun _ _ _ => rfl) hP718 bx_i11 (f719 11 (by decide) (by decide)) ?_
                    refine bh_ia (pc' := 254) bt_26_253 rfl rfl (fun _ _ _ => rfl) hP718 bx_a91 (Or.inl rfl) (by omega) (by omega) ?_
                    refine bh_ias (pc' := 255) bt_26_254 rfl rfl (fun _ _ _ => rfl) hP718 bx_a115 (Or.inl rfl) (by omega) (by omega) (fun h736 hP737 => ?_)
                    refine bh_ld (pc' := 256) bt_26_255 rfl rfl (fun _ _ _ => rfl) g625 rfl ?_
                    refine bh_dup (pc' := 257) bt_26_256 rfl rfl ?_
                    refine bh_gi (pc' := 260) bt_26_257 rfl rfl (fun _ _ _ => rfl) hP737 bx_i43 rfl ?_
                    refine bh_c (pc' := 261) (n := 1) bt_26_260 rfl rfl (fun _ _ _ => rfl) (by decide) (fun c738 e739 => ?_)
                    refine bh_add (pc' := 262) bt_26_261 rfl (by omega) (by omega) (fun v740 e741 => ?_)
                    refine bh_pf (pc' := 265) bt_26_262 rfl rfl (fun _ _ _ => rfl) hP737 bx_i43 rfl (fun h742 s743 hP744 e745 f746 => ?_)
                    refine bh_ld (pc' := 266) bt_26_265 rfl rfl (fun _ _ _ => rfl) g625 rfl ?_
                    refine bh_cv (pc' := 269) (st := []) (args := []) bt_26_266 rfl rfl (by decide) hP744 (by omega) rfl (Nat.le_of_ble_eq_true rfl) (Nat.le_of_ble_eq_true rfl) ?_
                    refine sp_37 hP744 (by simp only [List.length_cons]; omega) ((f746 11 (by decide)).trans (f719 11 (by decide) (by decide))) ((f746 13 (by decide)).trans (f719 13 (by decide) (by decide))) (by omega) (by omega) (by omega) (fun h747 s748 hP749 f750 p751 => ?_)
                    show bh_G E FIN ((26, 269, lv622, [], 0, 0) :: gs, _, none)
                    refine bh_go (pc' := 12) bt_26_269 rfl ?_
                    have z12 := congrArg Int32.toInt ((f750 12 (by decide) (by decide) (by decide)).trans ((f746 12 (by decide)).trans (f719 12 (by decide) (by decide))))
                    have z39 := congrArg Int32.toInt ((f750 39 (by decide) (by decide) (by decide)).trans (f746 39 (by decide)))
                    have z43 := congrArg Int32.toInt ((f750 43 (by decide) (by decide) (by decide)).trans e745)
                    have hk9 : ((A720 91 ((s 11)).toInt.toNat)).toInt = (A 91 (s 11).toInt.toNat).toInt := congrArg Int32.toInt (a721 91 _ (by omega))
                    have en : ((s717 43)).toInt.toNat = n723 := by omega
                    refine i12 _ _ _ _ _ _ hP749 g625 g626 g624 (by omega) (by omega) ⟨(fun j j11 j12 j13 j14 j39 j43 => ((fun j j11 j12 j13 j14 j39 j43 => ((f750 j j11 j13 j14).trans ((f746 j j43).trans (f719 j j39 j43)))) j j11 j12 j13 j14 j39 j43).trans (x1 j j11 j12 j13 j14 j39 j43)), (fun k j u v => ((bh_up_o (by omega)).trans ((a721 k j (by omega)).trans (x2 k j (by omega) v)))), by omega, by omega, by omega, by omega, by omega, by omega, by omega, by omega, fun hF => ?_⟩
                    refine ⟨(fun j j11 j12 j13 j14 j39 j43 => ((fun j j11 j12 j13 j14 j39 j43 => ((f750 j j11 j13 j14).trans ((f746 j j43).trans (f719 j j39 j43)))) j j11 j12 j13 j14 j39 j43).trans (x1 j j11 j12 j13 j14 j39 j43)), (fun k j u v => ((bh_up_o (by omega)).trans ((a721 k j (by omega)).trans (x2 k j (by omega) v)))), by omega, by omega, by omega, by omega, by omega, by omega, by omega, (n723 + 1), opn, (g724 + 2), (p725 + 1), by omega, ?_, by omega, ?_, by omega⟩
                    · refine rd_wt_push (w := A 115) r728 (fun j hj => (bh_up_j (by omega)).trans (a721 115 j (by omega))) (Or.inr (Or.inr ⟨?_, rfl, r733, rfl, rfl⟩))
                      rw [← en, bh_up_i]
                      have hk8 : (mm_nar 0 ((A720 91 ((s 11)).toInt.toNat))).toInt = ((A720 91 ((s 11)).toInt.toNat)).toInt := rfl
                      omega
                    · rw [((f750 39 (by decide) (by decide) (by decide)).trans (f746 39 (by decide)))]
                      exact r731
              · replace k627 : ¬ ((c620).toInt ≠ 0) := k627
                omega
            · replace k619 : ¬ ((r617).toInt ≠ 0) := k619
              refine bh_ld (pc' := 173) bt_26_172 rfl rfl (fun _ _ _ => rfl) g0 rfl ?_
              refine bh_c (pc' := 175) (n := 15) bt_26_173 rfl rfl (fun _ _ _ => rfl) (by decide) (fun c752 e753 => ?_)
              refine bh_cv (pc' := 178) (st := []) (args := [.int c752]) bt_26_175 rfl rfl (by decide) hP (by omega) rfl (Nat.le_of_ble_eq_true rfl) (Nat.le_of_ble_eq_true rfl) ?_
              refine sp_45 (k := c752) hP rfl rfl (by omega) (by omega) (fun r754 p755 => ?_)
              show bh_G E FIN ((26, 178, lv, [.int r754], 0, 0) :: gs, _, none)
              refine bh_i0 (pc' := 181) (pt := 185) bt_26_178 rfl rfl (fun k756 => ?_) (fun k756 => ?_)
              · replace k756 : (r754).toInt = 0 := k756
                refine bh_c (pc' := 186) (n := 0) bt_26_185 rfl rfl (fun _ _ _ => rfl) (by decide) (fun c757 e758 => ?_)
                refine bh_st (pc' := 187) bt_26_186 rfl rfl (fun _ _ _ => rfl) rfl (by decide) (by decide) (fun lv759 F760 g761 => ?_)
                have g762 := F760 0 (.ref (E.1 + 88)) g0 (by decide) (Or.inl rfl)
                have g763 := F760 1 (.int b) g1 (by decide) (Or.inl rfl)
                refine bh_ld (pc' := 188) bt_26_187 rfl rfl (fun _ _ _ => rfl) g761 rfl ?_
                refine bh_i0 (pc' := 191) (pt := 210) bt_26_188 rfl rfl (fun k764 => ?_) (fun k764 => ?_)
                · replace k764 : (c757).toInt ≠ 0 := k764
                  omega
                · replace k764 : ¬ ((c757).toInt ≠ 0) := k764
                  refine bh_ld (pc' := 192) bt_26_191 rfl rfl (fun _ _ _ => rfl) g762 rfl ?_
                  refine bh_gi (pc' := 195) bt_26_192 rfl rfl (fun _ _ _ => rfl) hP bx_i12 rfl ?_
                  refine bh_ld (pc' := 196) bt_26_195 rfl rfl (fun _ _ _ => rfl) g763 rfl ?_
                  refine bh_ic (pc' := 199) (pt := 204) bt_26_196 rfl rfl (fun k765 => ?_) (fun k765 => ?_)
                  · replace k765 : ((s 12)).toInt ≤ (b).toInt := k765
                    refine bh_ld (pc' := 205) bt_26_204 rfl rfl (fun _ _ _ => rfl) g762 rfl ?_
                    refine bh_c (pc' := 206) (n := 0) bt_26_205 rfl rfl (fun _ _ _ => rfl) (by decide) (fun c766 e767 => ?_)
                    refine bh_cv (pc' := 209) (st := []) (args := [.int c766]) bt_26_206 rfl rfl (by decide) hP (by omega) rfl (Nat.le_of_ble_eq_true rfl) (Nat.le_of_ble_eq_true rfl) ?_
                    refine rd_out (n + 1) n (Nat.lt_succ_self _) c766 hP (by simp only [List.length_cons]; omega) rfl rfl rfl rfl (by omega) (s0 39).toInt.toNat opn g p y2 (by omega) (by omega) (by omega) y4 (by omega) (fun h768 s769 A772 hP770 f771 a773 q774 => ?_)
                    obtain ⟨n775, g776, p777, r778, r779, r780, r781, r782, r783, r784, r785, r786⟩ := q774
                    show bh_G E FIN ((26, 209, lv759, [], 0, 0) :: gs, _, none)
                    have l787 := rd_wt_len _ _ _ _ r780
                    refine bh_rv bt_26_209 ?_
                    have z11 := congrArg Int32.toInt (f771 11 (by decide) (by decide))
                    have z12 := congrArg Int32.toInt (f771 12 (by decide) (by decide))
                    have z13 := congrArg Int32.toInt (f771 13 (by decide) (by decide))
                    refine kk _ _ _ hP770 ⟨(fun j j11 j12 j13 j14 j39 j43 => ((fun j j11 j12 j13 j14 j39 j43 => (f771 j j39 j43)) j j11 j12 j13 j14 j39 j43).trans (x1 j j11 j12 j13 j14 j39 j43)), (fun k j u v => ((a773 k j (by omega)).trans (x2 k j (by omega) v))), by omega, by omega, by omega, by omega, by omega, by omega, by omega, by omega, fun hF => ?_⟩
                    have ho : opn = 0 := by omega
                    have hg0 := r784 (by omega)
                    rw [ho, hg0] at r780
                    have hp0 := rd_wt_00 r780
                    rw [hp0] at r783
                    exact ⟨by omega, by omega, by omega, r783⟩
                  · replace k765 : ¬ (((s 12)).toInt ≤ (b).toInt) := k765
                    refine bh_ld (pc' := 200) bt_26_199 rfl rfl (fun _ _ _ => rfl) g762 rfl ?_
                    refine bh_c (pc' := 201) (n := 1) bt_26_200 rfl rfl (fun _ _ _ => rfl) (by decide) (fun c788 e789 => ?_)
                    refine bh_cv (pc' := 204) (st := []) (args := [.int c788]) bt_26_201 rfl rfl (by decide) hP (by omega) rfl (Nat.le_of_ble_eq_true rfl) (Nat.le_of_ble_eq_true rfl) ?_
                    refine sp_27 (k := c788) hP rfl rfl (by omega) (by omega) (fun h790 s791 hP792 f793 p794 => ?_)
                    show bh_G E FIN ((26, 204, lv759, [], 0, 0) :: gs, _, none)
                    refine bh_ld (pc' := 205) bt_26_204 rfl rfl (fun _ _ _ => rfl) g762 rfl ?_
                    refine bh_c (pc' := 206) (n := 0) bt_26_205 rfl rfl (fun _ _ _ => rfl) (by decide) (fun c795 e796 => ?_)
                    refine bh_cv (pc' := 209) (st := []) (args := [.int c795]) bt_26_206 rfl rfl (by decide) hP792 (by omega) rfl (Nat.le_of_ble_eq_true rfl) (Nat.le_of_ble_eq_true rfl) ?_
                    refine rd_out (n + 1) n (Nat.lt_succ_self _) c795 hP792 (by simp only [List.length_cons]; omega) rfl rfl (f793 43 (by decide) (by decide)) (f793 39 (by decide) (by decide)) (by omega) (s0 39).toInt.toNat opn g p y2 (by omega) (by omega) (by omega) y4 (by omega) (fun h797 s798 A801 hP799 f800 a802 q803 => ?_)
                    obtain ⟨n804, g805, p806, r807, r808, r809, r810, r811, r812, r813, r814, r815⟩ := q803
                    show bh_G E FIN ((26, 209, lv759, [], 0, 0) :: gs, _, none)
                    have l816 := rd_wt_len _ _ _ _ r809
                    refine bh_rv bt_26_209 ?_
                    have z11 := congrArg Int32.toInt ((f800 11 (by decide) (by decide)).trans (f793 11 (by decide) (by decide)))
                    have z12 := congrArg Int32.toInt ((f800 12 (by decide) (by decide)).trans (f793 12 (by decide) (by decide)))
                    have z13 := congrArg Int32.toInt (f800 13 (by decide) (by decide))
                    refine kk _ _ _ hP799 ⟨(fun j j11 j12 j13 j14 j39 j43 => ((fun j j11 j12 j13 j14 j39 j43 => ((f800 j j39 j43).trans (f793 j j13 j14))) j j11 j12 j13 j14 j39 j43).trans (x1 j j11 j12 j13 j14 j39 j43)), (fun k j u v => ((a802 k j (by omega)).trans (x2 k j (by omega) v))), by omega, by omega, by omega, by omega, by omega, by omega, by omega, by omega, fun hF => ?_⟩
                    have ho : opn = 0 := by omega
                    have hg0 := r813 (by omega)
                    rw [ho, hg0] at r809
                    have hp0 := rd_wt_00 r809
                    rw [hp0] at r812
                    exact ⟨by omega, by omega, by omega, r812⟩
              · replace k756 : ¬ ((r754).toInt = 0) := k756
                refine bh_c (pc' := 182) (n := 1) bt_26_181 rfl rfl (fun _ _ _ => rfl) (by decide) (fun c817 e818 => ?_)
                refine bh_go (pc' := 186) bt_26_182 rfl ?_
                refine bh_st (pc' := 187) bt_26_186 rfl rfl (fun _ _ _ => rfl) rfl (by decide) (by decide) (fun lv819 F820 g821 => ?_)
                have g822 := F820 0 (.ref (E.1 + 88)) g0 (by decide) (Or.inl rfl)
                have g823 := F820 1 (.int b) g1 (by decide) (Or.inl rfl)
                refine bh_ld (pc' := 188) bt_26_187 rfl rfl (fun _ _ _ => rfl) g821 rfl ?_
                refine bh_i0 (pc' := 191) (pt := 210) bt_26_188 rfl rfl (fun k824 => ?_) (fun k824 => ?_)
                · replace k824 : (c817).toInt ≠ 0 := k824
                  refine bh_ld (pc' := 211) bt_26_210 rfl rfl (fun _ _ _ => rfl) g822 rfl ?_
                  refine bh_ld (pc' := 212) bt_26_211 rfl rfl (fun _ _ _ => rfl) g822 rfl ?_
                  refine bh_c (pc' := 214) (n := 10) bt_26_212 rfl rfl (fun _ _ _ => rfl) (by decide) (fun c825 e826 => ?_)
                  refine bh_cv (pc' := 217) (st := [.ref (E.1 + 88)]) (args := [.int c825]) bt_26_214 rfl rfl (by decide) hP (by omega) rfl (Nat.le_of_ble_eq_true rfl) (Nat.le_of_ble_eq_true rfl) ?_
                  refine sp_45 (k := c825) hP rfl rfl (by omega) (by omega) (fun r827 p828 => ?_)
                  show bh_G E FIN ((26, 217, lv819, [.int r827, .ref (E.1 + 88)], 0, 0) :: gs, _, none)
                  refine bh_i0 (pc' := 220) (pt := 229) bt_26_217 rfl rfl (fun k829 => ?_) (fun k829 => ?_)
                  · replace k829 : (r827).toInt ≠ 0 := k829
                    refine bh_c (pc' := 230) (n := 1) bt_26_229 rfl rfl (fun _ _ _ => rfl) (by decide) (fun c830 e831 => ?_)
                    refine bh_go (pc' := 234) bt_26_230 rfl ?_
                    refine bh_cv (pc' := 237) (st := []) (args := [.int c830]) bt_26_234 rfl rfl (by decide) hP (by omega) rfl (Nat.le_of_ble_eq_true rfl) (Nat.le_of_ble_eq_true rfl) ?_
                    refine rd_out (n + 1) n (Nat.lt_succ_self _) c830 hP (by simp only [List.length_cons]; omega) rfl rfl rfl rfl (by omega) (s0 39).toInt.toNat opn g p y2 (by omega) (by omega) (by omega) y4 (by omega) (fun h832 s833 A836 hP834 f835 a837 q838 => ?_)
                    obtain ⟨n839, g840, p841, r842, r843, r844, r845, r846, r847, r848, r849, r850⟩ := q838
                    show bh_G E FIN ((26, 237, lv819, [], 0, 0) :: gs, _, none)
                    have l851 := rd_wt_len _ _ _ _ r844
                    refine bh_ld (pc' := 238) bt_26_237 rfl rfl (fun _ _ _ => rfl) g822 rfl ?_
                    refine bh_gr (pc' := 241) (c := 115) bt_26_238 rfl rfl (fun _ _ _ => rfl) hP834 bx_r42 ?_
                    refine bh_ld (pc' := 242) bt_26_241 rfl rfl (fun _ _ _ => rfl) g822 rfl ?_
                    refine bh_gi (pc' := 245) bt_26_242 rfl rfl (fun _ _ _ => rfl) hP834 bx_i43 rfl ?_
                    refine bh_ld (pc' := 246) bt_26_245 rfl rfl (fun _ _ _ => rfl) g822 rfl ?_
                    refine bh_gr (pc' := 249) (c := 91) bt_26_246 rfl rfl (fun _ _ _ => rfl) hP834 bx_r5 ?_
                    refine bh_ld (pc' := 250) bt_26_249 rfl rfl (fun _ _ _ => rfl) g822 rfl ?_
                    refine bh_gi (pc' := 253) bt_26_250 rfl rfl (fun _ _ _ => rfl) hP834 bx_i11 (f835 11 (by decide) (by decide)) ?_
                    refine bh_ia (pc' := 254) bt_26_253 rfl rfl (fun _ _ _ => rfl) hP834 bx_a91 (Or.inl rfl) (by omega) (by omega) ?_
                    refine bh_ias (pc' := 255) bt_26_254 rfl rfl (fun _ _ _ => rfl) hP834 bx_a115 (Or.inl rfl) (by omega) (by omega) (fun h852 hP853 => ?_)
                    refine bh_ld (pc' := 256) bt_26_255 rfl rfl (fun _ _ _ => rfl) g822 rfl ?_
                    refine bh_dup (pc' := 257) bt_26_256 rfl rfl ?_
                    refine bh_gi (pc' := 260) bt_26_257 rfl rfl (fun _ _ _ => rfl) hP853 bx_i43 rfl ?_
                    refine bh_c (pc' := 261) (n := 1) bt_26_260 rfl rfl (fun _ _ _ => rfl) (by decide) (fun c854 e855 => ?_)
                    refine bh_add (pc' := 262) bt_26_261 rfl (by omega) (by omega) (fun v856 e857 => ?_)
                    refine bh_pf (pc' := 265) bt_26_262 rfl rfl (fun _ _ _ => rfl) hP853 bx_i43 rfl (fun h858 s859 hP860 e861 f862 => ?_)
                    refine bh_ld (pc' := 266) bt_26_265 rfl rfl (fun _ _ _ => rfl) g822 rfl ?_
                    refine bh_cv (pc' := 269) (st := []) (args := []) bt_26_266 rfl rfl (by decide) hP860 (by omega) rfl (Nat.le_of_ble_eq_true rfl) (Nat.le_of_ble_eq_true rfl) ?_
                    refine sp_37 hP860 (by simp only [List.length_cons]; omega) ((f862 11 (by decide)).trans (f835 11 (by decide) (by decide))) ((f862 13 (by decide)).trans (f835 13 (by decide) (by decide))) (by omega) (by omega) (by omega) (fun h863 s864 hP865 f866 p867 => ?_)
                    show bh_G E FIN ((26, 269, lv819, [], 0, 0) :: gs, _, none)
                    refine bh_go (pc' := 12) bt_26_269 rfl ?_
                    have z12 := congrArg Int32.toInt ((f866 12 (by decide) (by decide) (by decide)).trans ((f862 12 (by decide)).trans (f835 12 (by decide) (by decide))))
                    have z39 := congrArg Int32.toInt ((f866 39 (by decide) (by decide) (by decide)).trans (f862 39 (by decide)))
                    have z43 := congrArg Int32.toInt ((f866 43 (by decide) (by decide) (by decide)).trans e861)
                    have hk9 : ((A836 91 ((s 11)).toInt.toNat)).toInt = (A 91 (s 11).toInt.toNat).toInt := congrArg Int32.toInt (a837 91 _ (by omega))
                    have en : ((s833 43)).toInt.toNat = n839 := by omega
                    refine i12 _ _ _ _ _ _ hP865 g822 g823 g821 (by omega) (by omega) ⟨(fun j j11 j12 j13 j14 j39 j43 => ((fun j j11 j12 j13 j14 j39 j43 => ((f866 j j11 j13 j14).trans ((f862 j j43).trans (f835 j j39 j43)))) j j11 j12 j13 j14 j39 j43).trans (x1 j j11 j12 j13 j14 j39 j43)), (fun k j u v => ((bh_up_o (by omega)).trans ((a837 k j (by omega)).trans (x2 k j (by omega) v)))), by omega, by omega, by omega, by omega, by omega, by omega, by omega, by omega, fun hF => ?_⟩
                    refine ⟨(fun j j11 j12 j13 j14 j39 j43 => ((fun j j11 j12 j13 j14 j39 j43 => ((f866 j j11 j13 j14).trans ((f862 j j43).trans (f835 j j39 j43)))) j j11 j12 j13 j14 j39 j43).trans (x1 j j11 j12 j13 j14 j39 j43)), (fun k j u v => ((bh_up_o (by omega)).trans ((a837 k j (by omega)).trans (x2 k j (by omega) v)))), by omega, by omega, by omega, by omega, by omega, by omega, by omega, (n839 + 1), opn, (g840 + 2), (p841 + 1), by omega, ?_, by omega, ?_, by omega⟩
                    · refine rd_wt_push (w := A 115) r844 (fun j hj => (bh_up_j (by omega)).trans (a837 115 j (by omega))) (Or.inr (Or.inr ⟨?_, rfl, r849, rfl, rfl⟩))
                      rw [← en, bh_up_i]
                      have hk8 : (mm_nar 0 ((A836 91 ((s 11)).toInt.toNat))).toInt = ((A836 91 ((s 11)).toInt.toNat)).toInt := rfl
                      omega
                    · rw [((f866 39 (by decide) (by decide) (by decide)).trans (f862 39 (by decide)))]
                      exact r847
                  · replace k829 : ¬ ((r827).toInt ≠ 0) := k829
                    refine bh_ld (pc' := 221) bt_26_220 rfl rfl (fun _ _ _ => rfl) g822 rfl ?_
                    refine bh_c (pc' := 223) (n := 15) bt_26_221 rfl rfl (fun _ _ _ => rfl) (by decide) (fun c868 e869 => ?_)
                    refine bh_cv (pc' := 226) (st := [.ref (E.1 + 88)]) (args := [.int c868]) bt_26_223 rfl rfl (by decide) hP (by omega) rfl (Nat.le_of_ble_eq_true rfl) (Nat.le_of_ble_eq_true rfl) ?_
                    refine sp_45 (k := c868) hP rfl rfl (by omega) (by omega) (fun r870 p871 => ?_)
                    show bh_G E FIN ((26, 226, lv819, [.int r870, .ref (E.1 + 88)], 0, 0) :: gs, _, none)
                    refine bh_i0 (pc' := 229) (pt := 233) bt_26_226 rfl rfl (fun k872 => ?_) (fun k872 => ?_)
                    · replace k872 : (r870).toInt = 0 := k872
                      refine bh_c (pc' := 234) (n := 0) bt_26_233 rfl rfl (fun _ _ _ => rfl) (by decide) (fun c873 e874 => ?_)
                      refine bh_cv (pc' := 237) (st := []) (args := [.int c873]) bt_26_234 rfl rfl (by decide) hP (by omega) rfl (Nat.le_of_ble_eq_true rfl) (Nat.le_of_ble_eq_true rfl) ?_
                      refine rd_out (n + 1) n (Nat.lt_succ_self _) c873 hP (by simp only [List.length_cons]; omega) rfl rfl rfl rfl (by omega) (s0 39).toInt.toNat opn g p y2 (by omega) (by omega) (by omega) y4 (by omega) (fun h875 s876 A879 hP877 f878 a880 q881 => ?_)
                      obtain ⟨n882, g883, p884, r885, r886, r887, r888, r889, r890, r891, r892, r893⟩ := q881
                      show bh_G E FIN ((26, 237, lv819, [], 0, 0) :: gs, _, none)
                      have l894 := rd_wt_len _ _ _ _ r887
                      refine bh_ld (pc' := 238) bt_26_237 rfl rfl (fun _ _ _ => rfl) g822 rfl ?_
                      refine bh_gr (pc' := 241) (c := 115) bt_26_238 rfl rfl (fun _ _ _ => rfl) hP877 bx_r42 ?_
                      refine bh_ld (pc' := 242) bt_26_241 rfl rfl (fun _ _ _ => rfl) g822 rfl ?_
                      refine bh_gi (pc' := 245) bt_26_242 rfl rfl (fun _ _ _ => rfl) hP877 bx_i43 rfl ?_
                      refine bh_ld (pc' := 246) bt_26_245 rfl rfl (fun _ _ _ => rfl) g822 rfl ?_
                      refine bh_gr (pc' := 249) (c := 91) bt_26_246 rfl rfl (fun _ _ _ => rfl) hP877 bx_r5 ?_
                      refine bh_ld (pc' := 250) bt_26_249 rfl rfl (fun _ _ _ => rfl) g822 rfl ?_
                      refine bh_gi (pc' := 253) bt_26_250 rfl rfl (fun _ _ _ => rfl) hP877 bx_i11 (f878 11 (by decide) (by decide)) ?_
                      refine bh_ia (pc' := 254) bt_26_253 rfl rfl (fun _ _ _ => rfl) hP877 bx_a91 (Or.inl rfl) (by omega) (by omega) ?_
                      refine bh_ias (pc' := 255) bt_26_254 rfl rfl (fun _ _ _ => rfl) hP877 bx_a115 (Or.inl rfl) (by omega) (by omega) (fun h895 hP896 => ?_)
                      refine bh_ld (pc' := 256) bt_26_255 rfl rfl (fun _ _ _ => rfl) g822 rfl ?_
                      refine bh_dup (pc' := 257) bt_26_256 rfl rfl ?_
                      refine bh_gi (pc' := 260) bt_26_257 rfl rfl (fun _ _ _ => rfl) hP896 bx_i43 rfl ?_
                      refine bh_c (pc' := 261) (n := 1) bt_26_260 rfl rfl (fun _ _ _ => rfl) (by decide) (fun c897 e898 => ?_)
                      refine bh_add (pc' := 262) bt_26_261 rfl (by omega) (by omega) (fun v899 e900 => ?_)
                      refine bh_pf (pc' := 265) bt_26_262 rfl rfl (fun _ _ _ => rfl) hP896 bx_i43 rfl (fun h901 s902 hP903 e904 f905 => ?_)
                      refine bh_ld (pc' := 266) bt_26_265 rfl rfl (fun _ _ _ => rfl) g822 rfl ?_
                      refine bh_cv (pc' := 269) (st := []) (args := []) bt_26_266 rfl rfl (by decide) hP903 (by omega) rfl (Nat.le_of_ble_eq_true rfl) (Nat.le_of_ble_eq_true rfl) ?_
                      refine sp_37 hP903 (by simp only [List.length_cons]; omega) ((f905 11 (by decide)).trans (f878 11 (by decide) (by decide))) ((f905 13 (by decide)).trans (f878 13 (by decide) (by decide))) (by omega) (by omega) (by omega) (fun h906 s907 hP908 f909 p910 => ?_)
                      show bh_G E FIN ((26, 269, lv819, [], 0, 0) :: gs, _, none)
                      refine bh_go (pc' := 12) bt_26_269 rfl ?_
                      have z12 := congrArg Int32.toInt ((f909 12 (by decide) (by decide) (by decide)).trans ((f905 12 (by decide)).trans (f878 12 (by decide) (by decide))))
                      have z39 := congrArg Int32.toInt ((f909 39 (by decide) (by decide) (by decide)).trans (f905 39 (by decide)))
                      have z43 := congrArg Int32.toInt ((f909 43 (by decide) (by decide) (by decide)).trans e904)
                      have hk9 : ((A879 91 ((s 11)).toInt.toNat)).toInt = (A 91 (s 11).toInt.toNat).toInt := congrArg Int32.toInt (a880 91 _ (by omega))
                      have en : ((s876 43)).toInt.toNat = n882 := by omega
                      refine i12 _ _ _ _ _ _ hP908 g822 g823 g821 (by omega) (by omega) ⟨(fun j j11 j12 j13 j14 j39 j43 => ((fun j j11 j12 j13 j14 j39 j43 => ((f909 j j11 j13 j14).trans ((f905 j j43).trans (f878 j j39 j43)))) j j11 j12 j13 j14 j39 j43).trans (x1 j j11 j12 j13 j14 j39 j43)), (fun k j u v => ((bh_up_o (by omega)).trans ((a880 k j (by omega)).trans (x2 k j (by omega) v)))), by omega, by omega, by omega, by omega, by omega, by omega, by omega, by omega, fun hF => ?_⟩
                      refine ⟨(fun j j11 j12 j13 j14 j39 j43 => ((fun j j11 j12 j13 j14 j39 j43 => ((f909 j j11 j13 j14).trans ((f905 j j43).trans (f878 j j39 j43)))) j j11 j12 j13 j14 j39 j43).trans (x1 j j11 j12 j13 j14 j39 j43)), (fun k j u v => ((bh_up_o (by omega)).trans ((a880 k j (by omega)).trans (x2 k j (by omega) v)))), by omega, by omega, by omega, by omega, by omega, by omega, by omega, (n882 + 1), opn, 1, (p884 + 1), by omega, ?_, by omega, ?_, by omega⟩
                      · refine rd_wt_push (w := A 115) r887 (fun j hj => (bh_up_j (by omega)).trans (a880 115 j (by omega))) (Or.inr (Or.inl ⟨?_, rfl, r891 (by omega), rfl, rfl⟩))
                        rw [← en, bh_up_i]
                        have hk8 : (mm_nar 0 ((A879 91 ((s 11)).toInt.toNat))).toInt = ((A879 91 ((s 11)).toInt.toNat)).toInt := rfl
                        omega
                      · rw [((f909 39 (by decide) (by decide) (by decide)).trans (f905 39 (by decide)))]
                        exact r890
                    · replace k872 : ¬ ((r870).toInt = 0) := k872
                      refine bh_c (pc' := 230) (n := 1) bt_26_229 rfl rfl (fun _ _ _ => rfl) (by decide) (fun c911 e912 => ?_)
                      refine bh_go (pc' := 234) bt_26_230 rfl ?_
                      refine bh_cv (pc' := 237) (st := []) (args := [.int c911]) bt_26_234 rfl rfl (by decide) hP (by omega) rfl (Nat.le_of_ble_eq_true rfl) (Nat.le_of_ble_eq_true rfl) ?_
                      refine rd_out (n + 1) n (Nat.lt_succ_self _) c911 hP (by simp only [List.length_cons]; omega) rfl rfl rfl rfl (by omega) (s0 39).toInt.toNat opn g p y2 (by omega) (by omega) (by omega) y4 (by omega) (fun h913 s914 A917 hP915 f916 a918 q919 => ?_)
                      obtain ⟨n920, g921, p922, r923, r924, r925, r926, r927, r928, r929, r930, r931⟩ := q919
                      show bh_G E FIN ((26, 237, lv819, [], 0, 0) :: gs, _, none)
                      have l932 := rd_wt_len _ _ _ _ r925
                      refine bh_ld (pc' := 238) bt_26_237 rfl rfl (fun _ _ _ => rfl) g822 rfl ?_
                      refine bh_gr (pc' := 241) (c := 115) bt_26_238 rfl rfl (fun _ _ _ => rfl) hP915 bx_r42 ?_
                      refine bh_ld (pc' := 242) bt_26_241 rfl rfl (fun _ _ _ => rfl) g822 rfl ?_
                      refine bh_gi (pc' := 245) bt_26_242 rfl rfl (fun _ _ _ => rfl) hP915 bx_i43 rfl ?_
                      refine bh_ld (pc' := 246) bt_26_245 rfl rfl (fun _ _ _ => rfl) g822 rfl ?_
                      refine bh_gr (pc' := 249) (c := 91) bt_26_246 rfl rfl (fun _ _ _ => rfl) hP915 bx_r5 ?_
                      refine bh_ld (pc' := 250) bt_26_249 rfl rfl (fun _ _ _ => rfl) g822 rfl ?_
                      refine bh_gi (pc' := 253) bt_26_250 rfl rfl (fun _ _ _ => rfl) hP915 bx_i11 (f916 11 (by decide) (by decide)) ?_
                      refine bh_ia (pc' := 254) bt_26_253 rfl rfl (fun _ _ _ => rfl) hP915 bx_a91 (Or.inl rfl) (by omega) (by omega) ?_
                      refine bh_ias (pc' := 255) bt_26_254 rfl rfl (fun _ _ _ => rfl) hP915 bx_a115 (Or.inl rfl) (by omega) (by omega) (fun h933 hP934 => ?_)
                      refine bh_ld (pc' := 256) bt_26_255 rfl rfl (fun _ _ _ => rfl) g822 rfl ?_
                      refine bh_dup (pc' := 257) bt_26_256 rfl rfl ?_
                      refine bh_gi (pc' := 260) bt_26_257 rfl rfl (fun _ _ _ => rfl) hP934 bx_i43 rfl ?_
                      refine bh_c (pc' := 261) (n := 1) bt_26_260 rfl rfl (fun _ _ _ => rfl) (by decide) (fun c935 e936 => ?_)
                      refine bh_add (pc' := 262) bt_26_261 rfl (by omega) (by omega) (fun v937 e938 => ?_)
                      refine bh_pf (pc' := 265) bt_26_262 rfl rfl (fun _ _ _ => rfl) hP934 bx_i43 rfl (fun h939 s940 hP941 e942 f943 => ?_)
                      refine bh_ld (pc' := 266) bt_26_265 rfl rfl (fun _ _ _ => rfl) g822 rfl ?_
                      refine bh_cv (pc' := 269) (st := []) (args := []) bt_26_266 rfl rfl (by decide) hP941 (by omega) rfl (Nat.le_of_ble_eq_true rfl) (Nat.le_of_ble_eq_true rfl) ?_
                      refine sp_37 hP941 (by simp only [List.length_cons]; omega) ((f943 11 (by decide)).trans (f916 11 (by decide) (by decide))) ((f943 13 (by decide)).trans (f916 13 (by decide) (by decide))) (by omega) (by omega) (by omega) (fun h944 s945 hP946 f947 p948 => ?_)
                      show bh_G E FIN ((26, 269, lv819, [], 0, 0) :: gs, _, none)
                      refine bh_go (pc' := 12) bt_26_269 rfl ?_
                      have z12 := congrArg Int32.toInt ((f947 12 (by decide) (by decide) (by decide)).trans ((f943 12 (by decide)).trans (f916 12 (by decide) (by decide))))
                      have z39 := congrArg Int32.toInt ((f947 39 (by decide) (by decide) (by decide)).trans (f943 39 (by decide)))
                      have z43 := congrArg Int32.toInt ((f947 43 (by decide) (by decide) (by decide)).trans e942)
                      have hk9 : ((A917 91 ((s 11)).toInt.toNat)).toInt = (A 91 (s 11).toInt.toNat).toInt := congrArg Int32.toInt (a918 91 _ (by omega))
                      have en : ((s914 43)).toInt.toNat = n920 := by omega
                      refine i12 _ _ _ _ _ _ hP946 g822 g823 g821 (by omega) (by omega) ⟨(fun j j11 j12 j13 j14 j39 j43 => ((fun j j11 j12 j13 j14 j39 j43 => ((f947 j j11 j13 j14).trans ((f943 j j43).trans (f916 j j39 j43)))) j j11 j12 j13 j14 j39 j43).trans (x1 j j11 j12 j13 j14 j39 j43)), (fun k j u v => ((bh_up_o (by omega)).trans ((a918 k j (by omega)).trans (x2 k j (by omega) v)))), by omega, by omega, by omega, by omega, by omega, by omega, by omega, by omega, fun hF => ?_⟩
                      refine ⟨(fun j j11 j12 j13 j14 j39 j43 => ((fun j j11 j12 j13 j14 j39 j43 => ((f947 j j11 j13 j14).trans ((f943 j j43).trans (f916 j j39 j43)))) j j11 j12 j13 j14 j39 j43).trans (x1 j j11 j12 j13 j14 j39 j43)), (fun k j u v => ((bh_up_o (by omega)).trans ((a918 k j (by omega)).trans (x2 k j (by omega) v)))), by omega, by omega, by omega, by omega, by omega, by omega, by omega, (n920 + 1), opn, (g921 + 2), (p922 + 1), by omega, ?_, by omega, ?_, by omega⟩
                      · refine rd_wt_push (w := A 115) r925 (fun j hj => (bh_up_j (by omega)).trans (a918 115 j (by omega))) (Or.inr (Or.inr ⟨?_, rfl, r930, rfl, rfl⟩))
                        rw [← en, bh_up_i]
                        have hk8 : (mm_nar 0 ((A917 91 ((s 11)).toInt.toNat))).toInt = ((A917 91 ((s 11)).toInt.toNat)).toInt := rfl
                        omega
                      · rw [((f947 39 (by decide) (by decide) (by decide)).trans (f943 39 (by decide)))]
                        exact r928
                · replace k824 : ¬ ((c817).toInt ≠ 0) := k824
                  omega
      · replace k340 : ¬ ((r338).toInt = 0) := k340
        refine bh_ld (pc' := 106) bt_26_105 rfl rfl (fun _ _ _ => rfl) g0 rfl ?_
        refine bh_gi (pc' := 109) bt_26_106 rfl rfl (fun _ _ _ => rfl) hP bx_i12 rfl ?_
        refine bh_ld (pc' := 110) bt_26_109 rfl rfl (fun _ _ _ => rfl) g1 rfl ?_
        refine bh_ic (pc' := 113) (pt := 145) bt_26_110 rfl rfl (fun k949 => ?_) (fun k949 => ?_)
        · replace k949 : ((s 12)).toInt ≤ (b).toInt := k949
          refine bh_ld (pc' := 146) bt_26_145 rfl rfl (fun _ _ _ => rfl) g0 rfl ?_
          refine bh_c (pc' := 148) (n := 8) bt_26_146 rfl rfl (fun _ _ _ => rfl) (by decide) (fun c950 e951 => ?_)
          refine bh_cv (pc' := 151) (st := []) (args := [.int c950]) bt_26_148 rfl rfl (by decide) hP (by omega) rfl (Nat.le_of_ble_eq_true rfl) (Nat.le_of_ble_eq_true rfl) ?_
          refine sp_45 (k := c950) hP rfl rfl (by omega) (by omega) (fun r952 p953 => ?_)
          show bh_G E FIN ((26, 151, lv, [.int r952], 0, 0) :: gs, _, none)
          refine bh_i0 (pc' := 154) (pt := 181) bt_26_151 rfl rfl (fun k954 => ?_) (fun k954 => ?_)
          · replace k954 : (r952).toInt ≠ 0 := k954
            refine bh_c (pc' := 182) (n := 1) bt_26_181 rfl rfl (fun _ _ _ => rfl) (by decide) (fun c955 e956 => ?_)
            refine bh_go (pc' := 186) bt_26_182 rfl ?_
            refine bh_st (pc' := 187) bt_26_186 rfl rfl (fun _ _ _ => rfl) rfl (by decide) (by decide) (fun lv957 F958 g959 => ?_)
            have g960 := F958 0 (.ref (E.1 + 88)) g0 (by decide) (Or.inl rfl)
            have g961 := F958 1 (.int b) g1 (by decide) (Or.inl rfl)
            refine bh_ld (pc' := 188) bt_26_187 rfl rfl (fun _ _ _ => rfl) g959 rfl ?_
            refine bh_i0 (pc' := 191) (pt := 210) bt_26_188 rfl rfl (fun k962 => ?_) (fun k962 => ?_)
            · replace k962 : (c955).toInt ≠ 0 := k962
              refine bh_ld (pc' := 211) bt_26_210 rfl rfl (fun _ _ _ => rfl) g960 rfl ?_
              refine bh_ld (pc' := 212) bt_26_211 rfl rfl (fun _ _ _ => rfl) g960 rfl ?_
              refine bh_c (pc' := 214) (n := 10) bt_26_212 rfl rfl (fun _ _ _ => rfl) (by decide) (fun c963 e964 => ?_)
              refine bh_cv (pc' := 217) (st := [.ref (E.1 + 88)]) (args := [.int c963]) bt_26_214 rfl rfl (by decide) hP (by omega) rfl (Nat.le_of_ble_eq_true rfl) (Nat.le_of_ble_eq_true rfl) ?_
              refine sp_45 (k := c963) hP rfl rfl (by omega) (by omega) (fun r965 p966 => ?_)
              show bh_G E FIN ((26, 217, lv957, [.int r965, .ref (E.1 + 88)], 0, 0) :: gs, _, none)
              refine bh_i0 (pc' := 220) (pt := 229) bt_26_217 rfl rfl (fun k967 => ?_) (fun k967 => ?_)
              · replace k967 : (r965).toInt ≠ 0 := k967
                refine bh_c (pc' := 230) (n := 1) bt_26_229 rfl rfl (fun _ _ _ => rfl) (by decide) (fun c968 e969 => ?_)
                refine bh_go (pc' := 234) bt_26_230 rfl ?_
                refine bh_cv (pc' := 237) (st := []) (args := [.int c968]) bt_26_234 rfl rfl (by decide) hP (by omega) rfl (Nat.le_of_ble_eq_true rfl) (Nat.le_of_ble_eq_true rfl) ?_
                refine rd_out (n + 1) n (Nat.lt_succ_self _) c968 hP (by simp only [List.length_cons]; omega) rfl rfl rfl rfl (by omega) (s0 39).toInt.toNat opn g p y2 (by omega) (by omega) (by omega) y4 (by omega) (fun h970 s971 A974 hP972 f973 a975 q976 => ?_)
                obtain ⟨n977, g978, p979, r980, r981, r982, r983, r984, r985, r986, r987, r988⟩ := q976
                show bh_G E FIN ((26, 237, lv957, [], 0, 0) :: gs, _, none)
                have l989 := rd_wt_len _ _ _ _ r982
                refine bh_ld (pc' := 238) bt_26_237 rfl rfl (fun _ _ _ => rfl) g960 rfl ?_
                refine bh_gr (pc' := 241) (c := 115) bt_26_238 rfl rfl (fun _ _ _ => rfl) hP972 bx_r42 ?_
                refine bh_ld (pc' := 242) bt_26_241 rfl rfl (fun _ _ _ => rfl) g960 rfl ?_
                refine bh_gi (pc' := 245) bt_26_242 rfl rfl (fun _ _ _ => rfl) hP972 bx_i43 rfl ?_
                refine bh_ld (pc' := 246) bt_26_245 rfl rfl (fun _ _ _ => rfl) g960 rfl ?_
                refine bh_gr (pc' := 249) (c := 91) bt_26_246 rfl rfl (fun _ _ _ => rfl) hP972 bx_r5 ?_
                refine bh_ld (pc' := 250) bt_26_249 rfl rfl (fun _ _ _ => rfl) g960 rfl ?_
                refine bh_gi (pc' := 253) bt_26_250 rfl rfl (fun _ _ _ => rfl) hP972 bx_i11 (f973 11 (by decide) (by decide)) ?_
                refine bh_ia (pc' := 254) bt_26_253 rfl rfl (fun _ _ _ => rfl) hP972 bx_a91 (Or.inl rfl) (by omega) (by omega) ?_
                refine bh_ias (pc' := 255) bt_26_254 rfl rfl (fun _ _ _ => rfl) hP972 bx_a115 (Or.inl rfl) (by omega) (by omega) (fun h990 hP991 => ?_)
                refine bh_ld (pc' := 256) bt_26_255 rfl rfl (fun _ _ _ => rfl) g960 rfl ?_
                refine bh_dup (pc' := 257) bt_26_256 rfl rfl ?_
                refine bh_gi (pc' := 260) bt_26_257 rfl rfl (fun _ _ _ => rfl) hP991 bx_i43 rfl ?_
                refine bh_c (pc' := 261) (n := 1) bt_26_260 rfl rfl (fun _ _ _ => rfl) (by decide) (fun c992 e993 => ?_)
                refine bh_add (pc' := 262) bt_26_261 rfl (by omega) (by omega) (fun v994 e995 => ?_)
                refine bh_pf (pc' := 265) bt_26_262 rfl rfl (fun _ _ _ => rfl) hP991 bx_i43 rfl (fun h996 s997 hP998 e999 f1000 => ?_)
                refine bh_ld (pc' := 266) bt_26_265 rfl rfl (fun _ _ _ => rfl) g960 rfl ?_
                refine bh_cv (pc' := 269) (st := []) (args := []) bt_26_266 rfl rfl (by decide) hP998 (by omega) rfl (Nat.le_of_ble_eq_true rfl) (Nat.le_of_ble_eq_true rfl) ?_
                refine sp_37 hP998 (by simp only [List.length_cons]; omega) ((f1000 11 (by decide)).trans (f973 11 (by decide) (by decide))) ((f1000 13 (by decide)).trans (f973 13 (by decide) (by decide))) (by omega) (by omega) (by omega) (fun h1001 s1002 hP1003 f1004 p1005 => ?_)
                show bh_G E FIN ((26, 269, lv957, [], 0, 0) :: gs, _, none)
                refine bh_go (pc' := 12) bt_26_269 rfl ?_
                have z12 := congrArg Int32.toInt ((f1004 12 (by decide) (by decide) (by decide)).trans ((f1000 12 (by decide)).trans (f973 12 (by decide) (by decide))))
                have z39 := congrArg Int32.toInt ((f1004 39 (by decide) (by decide) (by decide)).trans (f1000 39 (by decide)))
                have z43 := congrArg Int32.toInt ((f1004 43 (by decide) (by decide) (by decide)).trans e999)
                have hk9 : ((A974 91 ((s 11)).toInt.toNat)).toInt = (A 91 (s 11).toInt.toNat).toInt := congrArg Int32.toInt (a975 91 _ (by omega))
                have en : ((s971 43)).toInt.toNat = n977 := by omega
                refine i12 _ _ _ _ _ _ hP1003 g960 g961 g959 (by omega) (by omega) ⟨(fun j j11 j12 j13 j14 j39 j43 => ((fun j j11 j12 j13 j14 j39 j43 => ((f1004 j j11 j13 j14).trans ((f1000 j j43).trans (f973 j j39 j43)))) j j11 j12 j13 j14 j39 j43).trans (x1 j j11 j12 j13 j14 j39 j43)), (fun k j u v => ((bh_up_o (by omega)).trans ((a975 k j (by omega)).trans (x2 k j (by omega) v)))), by omega, by omega, by omega, by omega, by omega, by omega, by omega, by omega, fun hF => ?_⟩
                refine ⟨(fun j j11 j12 j13 j14 j39 j43 => ((fun j j11 j12 j13 j14 j39 j43 => ((f1004 j j11 j13 j14).trans ((f1000 j j43).trans (f973 j j39 j43)))) j j11 j12 j13 j14 j39 j43).trans (x1 j j11 j12 j13 j14 j39 j43)), (fun k j u v => ((bh_up_o (by omega)).trans ((a975 k j (by omega)).trans (x2 k j (by omega) v)))), by omega, by omega, by omega, by omega, by omega, by omega, by omega, (n977 + 1), opn, (g978 + 2), (p979 + 1), by omega, ?_, by omega, ?_, by omega⟩
                · refine rd_wt_push (w := A 115) r982 (fun j hj => (bh_up_j (by omega)).trans (a975 115 j (by omega))) (Or.inr (Or.inr ⟨?_, rfl, r987, rfl, rfl⟩))
                  rw [← en, bh_up_i]
                  have hk8 : (mm_nar 0 ((A974 91 ((s 11)).toInt.toNat))).toInt = ((A974 91 ((s 11)).toInt.toNat)).toInt := rfl
                  omega
                · rw [((f1004 39 (by decide) (by decide) (by decide)).trans (f1000 39 (by decide)))]
                  exact r985
              · replace k967 : ¬ ((r965).toInt ≠ 0) := k967
                refine bh_ld (pc' := 221) bt_26_220 rfl rfl (fun _ _ _ => rfl) g960 rfl ?_
                refine bh_c (pc' := 223) (n := 15) bt_26_221 rfl rfl (fun _ _ _ => rfl) (by decide) (fun c1006 e1007 => ?_)
                refine bh_cv (pc' := 226) (st := [.ref (E.1 + 88)]) (args := [.int c1006]) bt_26_223 rfl rfl (by decide) hP (by omega) rfl (Nat.le_of_ble_eq_true rfl) (Nat.le_of_ble_eq_true rfl) ?_
                refine sp_45 (k := c1006) hP rfl rfl (by omega) (by omega) (fun r1008 p1009 => ?_)
                show bh_G E FIN ((26, 226, lv957, [.int r1008, .ref (E.1 + 88)], 0, 0) :: gs, _, none)
                refine bh_i0 (pc' := 229) (pt := 233) bt_26_226 rfl rfl (fun k1010 => ?_) (fun k1010 => ?_)
                · replace k1010 : (r1008).toInt = 0 := k1010
                  refine bh_c (pc' := 234) (n := 0) bt_26_233 rfl rfl (fun _ _ _ => rfl) (by decide) (fun c1011 e1012 => ?_)
                  refine bh_cv (pc' := 237) (st := []) (args := [.int c1011]) bt_26_234 rfl rfl (by decide) hP (by omega) rfl (Nat.le_of_ble_eq_true rfl) (Nat.le_of_ble_eq_true rfl) ?_
                  refine rd_out (n + 1) n (Nat.lt_succ_self _) c1011 hP (by simp only [List.length_cons]; omega) rfl rfl rfl rfl (by omega) (s0 39).toInt.toNat opn g p y2 (by omega) (by omega) (by omega) y4 (by omega) (fun h1013 s1014 A1017 hP1015 f1016 a1018 q1019 => ?_)
                  obtain ⟨n1020, g1021, p1022, r1023, r1024, r1025, r1026, r1027, r1028, r1029, r1030, r1031⟩ := q1019
                  show bh_G E FIN ((26, 237, lv957, [], 0, 0) :: gs, _, none)
                  have l1032 := rd_wt_len _ _ _ _ r1025
                  refine bh_ld (pc' := 238) bt_26_237 rfl rfl (fun _ _ _ => rfl) g960 rfl ?_
                  refine bh_gr (pc' := 241) (c := 115) bt_26_238 rfl rfl (fun _ _ _ => rfl) hP1015 bx_r42 ?_
                  refine bh_ld (pc' := 242) bt_26_241 rfl rfl (fun _ _ _ => rfl) g960 rfl ?_
                  refine bh_gi (pc' := 245) bt_26_242 rfl rfl (fun _ _ _ => rfl) hP1015 bx_i43 rfl ?_
                  refine bh_ld (pc' := 246) bt_26_245 rfl rfl (fun _ _ _ => rfl) g960 rfl ?_
                  refine bh_gr (pc' := 249) (c := 91) bt_26_246 rfl rfl (fun _ _ _ => rfl) hP1015 bx_r5 ?_
                  refine bh_ld (pc' := 250) bt_26_249 rfl rfl (fun _ _ _ => rfl) g960 rfl ?_
                  refine bh_gi (pc' := 253) bt_26_250 rfl rfl (fun _ _ _ => rfl) hP1015 bx_i11 (f1016 11 (by decide) (by decide)) ?_
                  refine bh_ia (pc' := 254) bt_26_253 rfl rfl (fun _ _ _ => rfl) hP1015 bx_a91 (Or.inl rfl) (by omega) (by omega) ?_
                  refine bh_ias (pc' := 255) bt_26_254 rfl rfl (fun _ _ _ => rfl) hP1015 bx_a115 (Or.inl rfl) (by omega) (by omega) (fun h1033 hP1034 => ?_)
                  refine bh_ld (pc' := 256) bt_26_255 rfl rfl (fun _ _ _ => rfl) g960 rfl ?_
                  refine bh_dup (pc' := 257) bt_26_256 rfl rfl ?_
                  refine bh_gi (pc' := 260) bt_26_257 rfl rfl (fun _ _ _ => rfl) hP1034 bx_i43 rfl ?_
                  refine bh_c (pc' := 261) (n := 1) bt_26_260 rfl rfl (fun _ _ _ => rfl) (by decide) (fun c1035 e1036 => ?_)
                  refine bh_add (pc' := 262) bt_26_261 rfl (by omega) (by omega) (fun v1037 e1038 => ?_)
                  refine bh_pf (pc' := 265) bt_26_262 rfl rfl (fun _ _ _ => rfl) hP1034 bx_i43 rfl (fun h1039 s1040 hP1041 e1042 f1043 => ?_)
                  refine bh_ld (pc' := 266) bt_26_265 rfl rfl (fun _ _ _ => rfl) g960 rfl ?_
                  refine bh_cv (pc' := 269) (st := []) (args := []) bt_26_266 rfl rfl (by decide) hP1041 (by omega) rfl (Nat.le_of_ble_eq_true rfl) (Nat.le_of_ble_eq_true rfl) ?_
                  refine sp_37 hP1041 (by simp only [List.length_cons]; omega) ((f1043 11 (by decide)).trans (f1016 11 (by decide) (by decide))) ((f1043 13 (by decide)).trans (f1016 13 (by decide) (by decide))) (by omega) (by omega) (by omega) (fun h1044 s1045 hP1046 f1047 p1048 => ?_)
                  show bh_G E FIN ((26, 269, lv957, [], 0, 0) :: gs, _, none)
                  refine bh_go (pc' := 12) bt_26_269 rfl ?_
                  have z12 := congrArg Int32.toInt ((f1047 12 (by decide) (by decide) (by decide)).trans ((f1043 12 (by decide)).trans (f1016 12 (by decide) (by decide))))
                  have z39 := congrArg Int32.toInt ((f1047 39 (by decide) (by decide) (by decide)).trans (f1043 39 (by decide)))
                  have z43 := congrArg Int32.toInt ((f1047 43 (by decide) (by decide) (by decide)).trans e1042)
                  have hk9 : ((A1017 91 ((s 11)).toInt.toNat)).toInt = (A 91 (s 11).toInt.toNat).toInt := congrArg Int32.toInt (a1018 91 _ (by omega))
                  have en : ((s1014 43)).toInt.toNat = n1020 := by omega
                  refine i12 _ _ _ _ _ _ hP1046 g960 g961 g959 (by omega) (by omega) ⟨(fun j j11 j12 j13 j14 j39 j43 => ((fun j j11 j12 j13 j14 j39 j43 => ((f1047 j j11 j13 j14).trans ((f1043 j j43).trans (f1016 j j39 j43)))) j j11 j12 j13 j14 j39 j43).trans (x1 j j11 j12 j13 j14 j39 j43)), (fun k j u v => ((bh_up_o (by omega)).trans ((a1018 k j (by omega)).trans (x2 k j (by omega) v)))), by omega, by omega, by omega, by omega, by omega, by omega, by omega, by omega, fun hF => ?_⟩
                  refine ⟨(fun j j11 j12 j13 j14 j39 j43 => ((fun j j11 j12 j13 j14 j39 j43 => ((f1047 j j11 j13 j14).trans ((f1043 j j43).trans (f1016 j j39 j43)))) j j11 j12 j13 j14 j39 j43).trans (x1 j j11 j12 j13 j14 j39 j43)), (fun k j u v => ((bh_up_o (by omega)).trans ((a1018 k j (by omega)).trans (x2 k j (by omega) v)))), by omega, by omega, by omega, by omega, by omega, by omega, by omega, (n1020 + 1), opn, 1, (p1022 + 1), by omega, ?_, by omega, ?_, by omega⟩
                  · refine rd_wt_push (w := A 115) r1025 (fun j hj => (bh_up_j (by omega)).trans (a1018 115 j (by omega))) (Or.inr (Or.inl ⟨?_, rfl, r1029 (by omega), rfl, rfl⟩))
                    rw [← en, bh_up_i]
                    have hk8 : (mm_nar 0 ((A1017 91 ((s 11)).toInt.toNat))).toInt = ((A1017 91 ((s 11)).toInt.toNat)).toInt := rfl
                    omega
                  · rw [((f1047 39 (by decide) (by decide) (by decide)).trans (f1043 39 (by decide)))]
                    exact r1028
                · replace k1010 : ¬ ((r1008).toInt = 0) := k1010
                  refine bh_c (pc' := 230) (n := 1) bt_26_229 rfl rfl (fun _ _ _ => rfl) (by decide) (fun c1049 e1050 => ?_)
                  refine bh_go (pc' := 234) bt_26_230 rfl ?_
                  refine bh_cv (pc' := 237) (st := []) (args := [.int c1049]) bt_26_234 rfl rfl (by decide) hP (by omega) rfl (Nat.le_of_ble_eq_true rfl) (Nat.le_of_ble_eq_true rfl) ?_
                  refine rd_out (n + 1) n (Nat.lt_succ_self _) c1049 hP (by simp only [List.length_cons]; omega) rfl rfl rfl rfl (by omega) (s0 39).toInt.toNat opn g p y2 (by omega) (by omega) (by omega) y4 (by omega) (fun h1051 s1052 A1055 hP1053 f1054 a1056 q1057 => ?_)
                  obtain ⟨n1058, g1059, p1060, r1061, r1062, r1063, r1064, r1065, r1066, r1067, r1068, r1069⟩ := q1057
                  show bh_G E FIN ((26, 237, lv957, [], 0, 0) :: gs, _, none)
                  have l1070 := rd_wt_len _ _ _ _ r1063
                  refine bh_ld (pc' := 238) bt_26_237 rfl rfl (fun _ _ _ => rfl) g960 rfl ?_
                  refine bh_gr (pc' := 241) (c := 115) bt_26_238 rfl rfl (fun _ _ _ => rfl) hP1053 bx_r42 ?_
                  refine bh_ld (pc' := 242) bt_26_241 rfl rfl (fun _ _ _ => rfl) g960 rfl ?_
                  refine bh_gi (pc' := 245) bt_26_242 rfl rfl (fun _ _ _ => rfl) hP1053 bx_i43 rfl ?_
                  refine bh_ld (pc' := 246) bt_26_245 rfl rfl (fun _ _ _ => rfl) g960 rfl ?_
                  refine bh_gr (pc' := 249) (c := 91) bt_26_246 rfl rfl (fun _ _ _ => rfl) hP1053 bx_r5 ?_
                  refine bh_ld (pc' := 250) bt_26_249 rfl rfl (fun _ _ _ => rfl) g960 rfl ?_
                  refine bh_gi (pc' := 253) bt_26_250 rfl rfl (fun _ _ _ => rfl) hP1053 bx_i11 (f1054 11 (by decide) (by decide)) ?_
                  refine bh_ia (pc' := 254) bt_26_253 rfl rfl (fun _ _ _ => rfl) hP1053 bx_a91 (Or.inl rfl) (by omega) (by omega) ?_
                  refine bh_ias (pc' := 255) bt_26_254 rfl rfl (fun _ _ _ => rfl) hP1053 bx_a115 (Or.inl rfl) (by omega) (by omega) (fun h1071 hP1072 => ?_)
                  refine bh_ld (pc' := 256) bt_26_255 rfl rfl (fun _ _ _ => rfl) g960 rfl ?_
                  refine bh_dup (pc' := 257) bt_26_256 rfl rfl ?_
                  refine bh_gi (pc' := 260) bt_26_257 rfl rfl (fun _ _ _ => rfl) hP1072 bx_i43 rfl ?_
                  refine bh_c (pc' := 261) (n := 1) bt_26_260 rfl rfl (fun _ _ _ => rfl) (by decide) (fun c1073 e1074 => ?_)
                  refine bh_add (pc' := 262) bt_26_261 rfl (by omega) (by omega) (fun v1075 e1076 => ?_)
                  refine bh_pf (pc' := 265) bt_26_262 rfl rfl (fun _ _ _ => rfl) hP1072 bx_i43 rfl (fun h1077 s1078 hP1079 e1080 f1081 => ?_)
                  refine bh_ld (pc' := 266) bt_26_265 rfl rfl (fun _ _ _ => rfl) g960 rfl ?_
                  refine bh_cv (pc' := 269) (st := []) (args := []) bt_26_266 rfl rfl (by decide) hP1079 (by omega) rfl (Nat.le_of_ble_eq_true rfl) (Nat.le_of_ble_eq_true rfl) ?_
                  refine sp_37 hP1079 (by simp only [List.length_cons]; omega) ((f1081 11 (by decide)).trans (f1054 11 (by decide) (by decide))) ((f1081 13 (by decide)).trans (f1054 13 (by decide) (by decide))) (by omega) (by omega) (by omega) (fun h1082 s1083 hP1084 f1085 p1086 => ?_)
                  show bh_G E FIN ((26, 269, lv957, [], 0, 0) :: gs, _, none)
                  refine bh_go (pc' := 12) bt_26_269 rfl ?_
                  have z12 := congrArg Int32.toInt ((f1085 12 (by decide) (by decide) (by decide)).trans ((f1081 12 (by decide)).trans (f1054 12 (by decide) (by decide))))
                  have z39 := congrArg Int32.toInt ((f1085 39 (by decide) (by decide) (by decide)).trans (f1081 39 (by decide)))
                  have z43 := congrArg Int32.toInt ((f1085 43 (by decide) (by decide) (by decide)).trans e1080)
                  have hk9 : ((A1055 91 ((s 11)).toInt.toNat)).toInt = (A 91 (s 11).toInt.toNat).toInt := congrArg Int32.toInt (a1056 91 _ (by omega))
                  have en : ((s1052 43)).toInt.toNat = n1058 := by omega
                  refine i12 _ _ _ _ _ _ hP1084 g960 g961 g959 (by omega) (by omega) ⟨(fun j j11 j12 j13 j14 j39 j43 => ((fun j j11 j12 j13 j14 j39 j43 => ((f1085 j j11 j13 j14).trans ((f1081 j j43).trans (f1054 j j39 j43)))) j j11 j12 j13 j14 j39 j43).trans (x1 j j11 j12 j13 j14 j39 j43)), (fun k j u v => ((bh_up_o (by omega)).trans ((a1056 k j (by omega)).trans (x2 k j (by omega) v)))), by omega, by omega, by omega, by omega, by omega, by omega, by omega, by omega, fun hF => ?_⟩
                  refine ⟨(fun j j11 j12 j13 j14 j39 j43 => ((fun j j11 j12 j13 j14 j39 j43 => ((f1085 j j11 j13 j14).trans ((f1081 j j43).trans (f1054 j j39 j43)))) j j11 j12 j13 j14 j39 j43).trans (x1 j j11 j12 j13 j14 j39 j43)), (fun k j u v => ((bh_up_o (by omega)).trans ((a1056 k j (by omega)).trans (x2 k j (by omega) v)))), by omega, by omega, by omega, by omega, by omega, by omega, by omega, (n1058 + 1), opn, (g1059 + 2), (p1060 + 1), by omega, ?_, by omega, ?_, by omega⟩
                  · refine rd_wt_push (w := A 115) r1063 (fun j hj => (bh_up_j (by omega)).trans (a1056 115 j (by omega))) (Or.inr (Or.inr ⟨?_, rfl, r1068, rfl, rfl⟩))
                    rw [← en, bh_up_i]
                    have hk8 : (mm_nar 0 ((A1055 91 ((s 11)).toInt.toNat))).toInt = ((A1055 91 ((s 11)).toInt.toNat)).toInt := rfl
                    omega
                  · rw [((f1085 39 (by decide) (by decide) (by decide)).trans (f1081 39 (by decide)))]
                    exact r1066
            · replace k962 : ¬ ((c955).toInt ≠ 0) := k962
              omega
          · replace k954 : ¬ ((r952).toInt ≠ 0) := k954
            refine bh_ld (pc' := 155) bt_26_154 rfl rfl (fun _ _ _ => rfl) g0 rfl ?_
            refine bh_c (pc' := 157) (n := 9) bt_26_155 rfl rfl (fun _ _ _ => rfl) (by decide) (fun c1087 e1088 => ?_)
            refine bh_cv (pc' := 160) (st := []) (args := [.int c1087]) bt_26_157 rfl rfl (by decide) hP (by omega) rfl (Nat.le_of_ble_eq_true rfl) (Nat.le_of_ble_eq_true rfl) ?_
            refine sp_45 (k := c1087) hP rfl rfl (by omega) (by omega) (fun r1089 p1090 => ?_)
            show bh_G E FIN ((26, 160, lv, [.int r1089], 0, 0) :: gs, _, none)
            refine bh_i0 (pc' := 163) (pt := 181) bt_26_160 rfl rfl (fun k1091 => ?_) (fun k1091 => ?_)
            · replace k1091 : (r1089).toInt ≠ 0 := k1091
              refine bh_c (pc' := 182) (n := 1) bt_26_181 rfl rfl (fun _ _ _ => rfl) (by decide) (fun c1092 e1093 => ?_)
              refine bh_go (pc' := 186) bt_26_182 rfl ?_
              refine bh_st (pc' := 187) bt_26_186 rfl rfl (fun _ _ _ => rfl) rfl (by decide) (by decide) (fun lv1094 F1095 g1096 => ?_)
              have g1097 := F1095 0 (.ref (E.1 + 88)) g0 (by decide) (Or.inl rfl)
              have g1098 := F1095 1 (.int b) g1 (by decide) (Or.inl rfl)
              refine bh_ld (pc' := 188) bt_26_187 rfl rfl (fun _ _ _ => rfl) g1096 rfl ?_
              refine bh_i0 (pc' := 191) (pt := 210) bt_26_188 rfl rfl (fun k1099 => ?_) (fun k1099 => ?_)
              · replace k1099 : (c1092).toInt ≠ 0 := k1099
                refine bh_ld (pc' := 211) bt_26_210 rfl rfl (fun _ _ _ => rfl) g1097 rfl ?_
                refine bh_ld (pc' := 212) bt_26_211 rfl rfl (fun _ _ _ => rfl) g1097 rfl ?_
                refine bh_c (pc' := 214) (n := 10) bt_26_212 rfl rfl (fun _ _ _ => rfl) (by decide) (fun c1100 e1101 => ?_)
                refine bh_cv (pc' := 217) (st := [.ref (E.1 + 88)]) (args := [.int c1100]) bt_26_214 rfl rfl (by decide) hP (by omega) rfl (Nat.le_of_ble_eq_true rfl) (Nat.le_of_ble_eq_true rfl) ?_
                refine sp_45 (k := c1100) hP rfl rfl (by omega) (by omega) (fun r1102 p1103 => ?_)
                show bh_G E FIN ((26, 217, lv1094, [.int r1102, .ref (E.1 + 88)], 0, 0) :: gs, _, none)
                refine bh_i0 (pc' := 220) (pt := 229) bt_26_217 rfl rfl (fun k1104 => ?_) (fun k1104 => ?_)
                · replace k1104 : (r1102).toInt ≠ 0 := k1104
                  refine bh_c (pc' := 230) (n := 1) bt_26_229 rfl rfl (fun _ _ _ => rfl) (by decide) (fun c1105 e1106 => ?_)
                  refine bh_go (pc' := 234) bt_26_230 rfl ?_
                  refine bh_cv (pc' := 237) (st := []) (args := [.int c1105]) bt_26_234 rfl rfl (by decide) hP (by omega) rfl (Nat.le_of_ble_eq_true rfl) (Nat.le_of_ble_eq_true rfl) ?_
                  refine rd_out (n + 1) n (Nat.lt_succ_self _) c1105 hP (by simp only [List.length_cons]; omega) rfl rfl rfl rfl (by omega) (s0 39).toInt.toNat opn g p y2 (by omega) (by omega) (by omega) y4 (by omega) (fun h1107 s1108 A1111 hP1109 f1110 a1112 q1113 => ?_)
                  obtain ⟨n1114, g1115, p1116, r1117, r1118, r1119, r1120, r1121, r1122, r1123, r1124, r1125⟩ := q1113
                  show bh_G E FIN ((26, 237, lv1094, [], 0, 0) :: gs, _, none)
                  have l1126 := rd_wt_len _ _ _ _ r1119
                  refine bh_ld (pc' := 238) bt_26_237 rfl rfl (fun _ _ _ => rfl) g1097 rfl ?_
                  refine bh_gr (pc' := 241) (c := 115) bt_26_238 rfl rfl (fun _ _ _ => rfl) hP1109 bx_r42 ?_
                  refine bh_ld (pc' := 242) bt_26_241 rfl rfl (fun _ _ _ => rfl) g1097 rfl ?_
                  refine bh_gi (pc' := 245) bt_26_242 rfl rfl (fun _ _ _ => rfl) hP1109 bx_i43 rfl ?_
                  refine bh_ld (pc' := 246) bt_26_245 rfl rfl (fun _ _ _ => rfl) g1097 rfl ?_
                  refine bh_gr (pc' := 249) (c := 91) bt_26_246 rfl rfl (fun _ _ _ => rfl) hP1109 bx_r5 ?_
                  refine bh_ld (pc' := 250) bt_26_249 rfl rfl (fun _ _ _ => rfl) g1097 rfl ?_
                  refine bh_gi (pc' := 253) bt_26_250 rfl rfl (fun _ _ _ => rfl) hP1109 bx_i11 (f1110 11 (by decide) (by decide)) ?_
                  refine bh_ia (pc' := 254) bt_26_253 rfl rfl (fun _ _ _ => rfl) hP1109 bx_a91 (Or.inl rfl) (by omega) (by omega) ?_
                  refine bh_ias (pc' := 255) bt_26_254 rfl rfl (fun _ _ _ => rfl) hP1109 bx_a115 (Or.inl rfl) (by omega) (by omega) (fun h1127 hP1128 => ?_)
                  refine bh_ld (pc' := 256) bt_26_255 rfl rfl (fun _ _ _ => rfl) g1097 rfl ?_
                  refine bh_dup (pc' := 257) bt_26_256 rfl rfl ?_
                  refine bh_gi (pc' := 260) bt_26_257 rfl rfl (fun _ _ _ => rfl) hP1128 bx_i43 rfl ?_
                  refine bh_c (pc' := 261) (n := 1) bt_26_260 rfl rfl (fun _ _ _ => rfl) (by decide) (fun c1129 e1130 => ?_)
                  refine bh_add (pc' := 262) bt_26_261 rfl (by omega) (by omega) (fun v1131 e1132 => ?_)
                  refine bh_pf (pc' := 265) bt_26_262 rfl rfl (fun _ _ _ => rfl) hP1128 bx_i43 rfl (fun h1133 s1134 hP1135 e1136 f1137 => ?_)
                  refine bh_ld (pc' := 266) bt_26_265 rfl rfl (fun _ _ _ => rfl) g1097 rfl ?_
                  refine bh_cv (pc' := 269) (st := []) (args := []) bt_26_266 rfl rfl (by decide) hP1135 (by omega) rfl (Nat.le_of_ble_eq_true rfl) (Nat.le_of_ble_eq_true rfl) ?_
                  refine sp_37 hP1135 (by simp only [List.length_cons]; omega) ((f1137 11 (by decide)).trans (f1110 11 (by decide) (by decide))) ((f1137 13 (by decide)).trans (f1110 13 (by decide) (by decide))) (by omega) (by omega) (by omega) (fun h1138 s1139 hP1140 f1141 p1142 => ?_)
                  show bh_G E FIN ((26, 269, lv1094, [], 0, 0) :: gs, _, none)
                  refine bh_go (pc' := 12) bt_26_269 rfl ?_
                  have z12 := congrArg Int32.toInt ((f1141 12 (by decide) (by decide) (by decide)).trans ((f1137 12 (by decide)).trans (f1110 12 (by decide) (by decide))))
                  have z39 := congrArg Int32.toInt ((f1141 39 (by decide) (by decide) (by decide)).trans (f1137 39 (by decide)))
                  have z43 := congrArg Int32.toInt ((f1141 43 (by decide) (by decide) (by decide)).trans e1136)
                  have hk9 : ((A1111 91 ((s 11)).toInt.toNat)).toInt = (A 91 (s 11).toInt.toNat).toInt := congrArg Int32.toInt (a1112 91 _ (by omega))
                  have en : ((s1108 43)).toInt.toNat = n1114 := by omega
                  refine i12 _ _ _ _ _ _ hP1140 g1097 g1098 g1096 (by omega) (by omega) ⟨(fun j j11 j12 j13 j14 j39 j43 => ((fun j j11 j12 j13 j14 j39 j43 => ((f1141 j j11 j13 j14).trans ((f1137 j j43).trans (f1110 j j39 j43)))) j j11 j12 j13 j14 j39 j43).trans (x1 j j11 j12 j13 j14 j39 j43)), (fun k j u v => ((bh_up_o (by omega)).trans ((a1112 k j (by omega)).trans (x2 k j (by omega) v)))), by omega, by omega, by omega, by omega, by omega, by omega, by omega, by omega, fun hF => ?_⟩
                  refine ⟨(fun j j11 j12 j13 j14 j39 j43 => ((fun j j11 j12 j13 j14 j39 j43 => ((f1141 j j11 j13 j14).trans ((f1137 j j43).trans (f1110 j j39 j43)))) j j11 j12 j13 j14 j39 j43).trans (x1 j j11 j12 j13 j14 j39 j43)), (fun k j u v => ((bh_up_o (by omega)).trans ((a1112 k j (by omega)).trans (x2 k j (by omega) v)))), by omega, by omega, by omega, by omega, by omega, by omega, by omega, (n1114 + 1), opn, (g1115 + 2), (p1116 + 1), by omega, ?_, by omega, ?_, by omega⟩
                  · refine rd_wt_push (w := A 115) r1119 (fun j hj => (bh_up_j (by omega)).trans (a1112 115 j (by omega))) (Or.inr (Or.inr ⟨?_, rfl, r1124, rfl, rfl⟩))
                    rw [← en, bh_up_i]
                    have hk8 : (mm_nar 0 ((A1111 91 ((s 11)).toInt.toNat))).toInt = ((A1111 91 ((s 11)).toInt.toNat)).toInt := rfl
                    omega
                  · rw [((f1141 39 (by decide) (by decide) (by decide)).trans (f1137 39 (by decide)))]
                    exact r1122
                · replace k1104 : ¬ ((r1102).toInt ≠ 0) := k1104
                  refine bh_ld (pc' := 221) bt_26_220 rfl rfl (fun _ _ _ => rfl) g1097 rfl ?_
                  refine bh_c (pc' := 223) (n := 15) bt_26_221 rfl rfl (fun _ _ _ => rfl) (by decide) (fun c1143 e1144 => ?_)
                  refine bh_cv (pc' := 226) (st := [.ref (E.1 + 88)]) (args := [.int c1143]) bt_26_223 rfl rfl (by decide) hP (by omega) rfl (Nat.le_of_ble_eq_true rfl) (Nat.le_of_ble_eq_true rfl) ?_
                  refine sp_45 (k := c1143) hP rfl rfl (by omega) (by omega) (fun r1145 p1146 => ?_)
                  show bh_G E FIN ((26, 226, lv1094, [.int r1145, .ref (E.1 + 88)], 0, 0) :: gs, _, none)
                  refine bh_i0 (pc' := 229) (pt := 233) bt_26_226 rfl rfl (fun k1147 => ?_) (fun k1147 => ?_)
                  · replace k1147 : (r1145).toInt = 0 := k1147
                    refine bh_c (pc' := 234) (n := 0) bt_26_233 rfl rfl (fun _ _ _ => rfl) (by decide) (fun c1148 e1149 => ?_)
                    refine bh_cv (pc' := 237) (st := []) (args := [.int c1148]) bt_26_234 rfl rfl (by decide) hP (by omega) rfl (Nat.le_of_ble_eq_true rfl) (Nat.le_of_ble_eq_true rfl) ?_
                    refine rd_out (n + 1) n (Nat.lt_succ_self _) c1148 hP (by simp only [List.length_cons]; omega) rfl rfl rfl rfl (by omega) (s0 39).toInt.toNat opn g p y2 (by omega) (by omega) (by omega) y4 (by omega) (fun h1150 s1151 A1154 hP1152 f1153 a1155 q1156 => ?_)
                    obtain ⟨n1157, g1158, p1159, r1160, r1161, r1162, r1163, r1164, r1165, r1166, r1167, r1168⟩ := q1156
                    show bh_G E FIN ((26, 237, lv1094, [], 0, 0) :: gs, _, none)
                    have l1169 := rd_wt_len _ _ _ _ r1162
                    refine bh_ld (pc' := 238) bt_26_237 rfl rfl (fun _ _ _ => rfl) g1097 rfl ?_
                    refine bh_gr (pc' := 241) (c := 115) bt_26_238 rfl rfl (fun _ _ _ => rfl) hP1152 bx_r42 ?_
                    refine bh_ld (pc' := 242) bt_26_241 rfl rfl (fun _ _ _ => rfl) g1097 rfl ?_
                    refine bh_gi (pc' := 245) bt_26_242 rfl rfl (fun _ _ _ => rfl) hP1152 bx_i43 rfl ?_
                    refine bh_ld (pc' := 246) bt_26_245 rfl rfl (fun _ _ _ => rfl) g1097 rfl ?_
                    refine bh_gr (pc' := 249) (c := 91) bt_26_246 rfl rfl (fun _ _ _ => rfl) hP1152 bx_r5 ?_
                    refine bh_ld (pc' := 250) bt_26_249 rfl rfl (fun _ _ _ => rfl) g1097 rfl ?_
                    refine bh_gi (pc' := 253) bt_26_250 rfl rfl (fun _ _ _ => rfl) hP1152 bx_i11 (f1153 11 (by decide) (by decide)) ?_
                    refine bh_ia (pc' := 254) bt_26_253 rfl rfl (fun _ _ _ => rfl) hP1152 bx_a91 (Or.inl rfl) (by omega) (by omega) ?_
                    refine bh_ias (pc' := 255) bt_26_254 rfl rfl (fun _ _ _ => rfl) hP1152 bx_a115 (Or.inl rfl) (by omega) (by omega) (fun h1170 hP1171 => ?_)
                    refine bh_ld (pc' := 256) bt_26_255 rfl rfl (fun _ _ _ => rfl) g1097 rfl ?_
                    refine bh_dup (pc' := 257) bt_26_256 rfl rfl ?_
                    refine bh_gi (pc' := 260) bt_26_257 rfl rfl (fun _ _ _ => rfl) hP1171 bx_i43 rfl ?_
                    refine bh_c (pc' := 261) (n := 1) bt_26_260 rfl rfl (fun _ _ _ => rfl) (by decide) (fun c1172 e1173 => ?_)
                    refine bh_add (pc' := 262) bt_26_261 rfl (by omega) (by omega) (fun v1174 e1175 => ?_)
                    refine bh_pf (pc' := 265) bt_26_262 rfl rfl (fun _ _ _ => rfl) hP1171 bx_i43 rfl (fun h1176 s1177 hP1178 e1179 f1180 => ?_)
                    refine bh_ld (pc' := 266) bt_26_265 rfl rfl (fun _ _ _ => rfl) g1097 rfl ?_
                    refine bh_cv (pc' := 269) (st := []) (args := []) bt_26_266 rfl rfl (by decide) hP1178 (by omega) rfl (Nat.le_of_ble_eq_true rfl) (Nat.le_of_ble_eq_true rfl) ?_
                    refine sp_37 hP1178 (by simp only [List.length_cons]; omega) ((f1180 11 (by decide)).trans (f1153 11 (by decide) (by decide))) ((f1180 13 (by decide)).trans (f1153 13 (by decide) (by decide))) (by omega) (by omega) (by omega) (fun h1181 s1182 hP1183 f1184 p1185 => ?_)
                    show bh_G E FIN ((26, 269, lv1094, [], 0, 0) :: gs, _, none)
                    refine bh_go (pc' := 12) bt_26_269 rfl ?_
                    have z12 := congrArg Int32.toInt ((f1184 12 (by decide) (by decide) (by decide)).trans ((f1180 12 (by decide)).trans (f1153 12 (by decide) (by decide))))
                    have z39 := congrArg Int32.toInt ((f1184 39 (by decide) (by decide) (by decide)).trans (f1180 39 (by decide)))
                    have z43 := congrArg Int32.toInt ((f1184 43 (by decide) (by decide) (by decide)).trans e1179)
                    have hk9 : ((A1154 91 ((s 11)).toInt.toNat)).toInt = (A 91 (s 11).toInt.toNat).toInt := congrArg Int32.toInt (a1155 91 _ (by omega))
                    have en : ((s1151 43)).toInt.toNat = n1157 := by omega
                    refine i12 _ _ _ _ _ _ hP1183 g1097 g1098 g1096 (by omega) (by omega) ⟨(fun j j11 j12 j13 j14 j39 j43 => ((fun j j11 j12 j13 j14 j39 j43 => ((f1184 j j11 j13 j14).trans ((f1180 j j43).trans (f1153 j j39 j43)))) j j11 j12 j13 j14 j39 j43).trans (x1 j j11 j12 j13 j14 j39 j43)), (fun k j u v => ((bh_up_o (by omega)).trans ((a1155 k j (by omega)).trans (x2 k j (by omega) v)))), by omega, by omega, by omega, by omega, by omega, by omega, by omega, by omega, fun hF => ?_⟩
                    refine ⟨(fun j j11 j12 j13 j14 j39 j43 => ((fun j j11 j12 j13 j14 j39 j43 => ((f1184 j j11 j13 j14).trans ((f1180 j j43).trans (f1153 j j39 j43)))) j j11 j12 j13 j14 j39 j43).trans (x1 j j11 j12 j13 j14 j39 j43)), (fun k j u v => ((bh_up_o (by omega)).trans ((a1155 k j (by omega)).trans (x2 k j (by omega) v)))), by omega, by omega, by omega, by omega, by omega, by omega, by omega, (n1157 + 1), opn, 1, (p1159 + 1), by omega, ?_, by omega, ?_, by omega⟩
                    · refine rd_wt_push (w := A 115) r1162 (fun j hj => (bh_up_j (by omega)).trans (a1155 115 j (by omega))) (Or.inr (Or.inl ⟨?_, rfl, r1166 (by omega), rfl, rfl⟩))
                      rw [← en, bh_up_i]
                      have hk8 : (mm_nar 0 ((A1154 91 ((s 11)).toInt.toNat))).toInt = ((A1154 91 ((s 11)).toInt.toNat)).toInt := rfl
                      omega
                    · rw [((f1184 39 (by decide) (by decide) (by decide)).trans (f1180 39 (by decide)))]
                      exact r1165
                  · replace k1147 : ¬ ((r1145).toInt = 0) := k1147
                    refine bh_c (pc' := 230) (n := 1) bt_26_229 rfl rfl (fun _ _ _ => rfl) (by decide) (fun c1186 e1187 => ?_)
                    refine bh_go (pc' := 234) bt_26_230 rfl ?_
                    refine bh_cv (pc' := 237) (st := []) (args := [.int c1186]) bt_26_234 rfl rfl (by decide) hP (by omega) rfl (Nat.le_of_ble_eq_true rfl) (Nat.le_of_ble_eq_true rfl) ?_
                    refine rd_out (n + 1) n (Nat.lt_succ_self _) c1186 hP (by simp only [List.length_cons]; omega) rfl rfl rfl rfl (by omega) (s0 39).toInt.toNat opn g p y2 (by omega) (by omega) (by omega) y4 (by omega) (fun h1188 s1189 A1192 hP1190 f1191 a1193 q1194 => ?_)
                    obtain ⟨n1195, g1196, p1197, r1198, r1199, r1200, r1201, r1202, r1203, r1204, r1205, r1206⟩ := q1194
                    show bh_G E FIN ((26, 237, lv1094, [], 0, 0) :: gs, _, none)
                    have l1207 := rd_wt_len _ _ _ _ r1200
                    refine bh_ld (pc' := 238) bt_26_237 rfl rfl (fun _ _ _ => rfl) g1097 rfl ?_
                    refine bh_gr (pc' := 241) (c := 115) bt_26_238 rfl rfl (fun _ _ _ => rfl) hP1190 bx_r42 ?_
                    refine bh_ld (pc' := 242) bt_26_241 rfl rfl (fun _ _ _ => rfl) g1097 rfl ?_
                    refine bh_gi (pc' := 245) bt_26_242 rfl rfl (fun _ _ _ => rfl) hP1190 bx_i43 rfl ?_
                    refine bh_ld (pc' := 246) bt_26_245 rfl rfl (fun _ _ _ => rfl) g1097 rfl ?_
                    refine bh_gr (pc' := 249) (c := 91) bt_26_246 rfl rfl (fun _ _ _ => rfl) hP1190 bx_r5 ?_
                    refine bh_ld (pc' := 250) bt_26_249 rfl rfl (fun _ _ _ => rfl) g1097 rfl ?_
                    refine bh_gi (pc' := 253) bt_26_250 rfl rfl (fun _ _ _ => rfl) hP1190 bx_i11 (f1191 11 (by decide) (by decide)) ?_
                    refine bh_ia (pc' := 254) bt_26_253 rfl rfl (fun _ _ _ => rfl) hP1190 bx_a91 (Or.inl rfl) (by omega) (by omega) ?_
                    refine bh_ias (pc' := 255) bt_26_254 rfl rfl (fun _ _ _ => rfl) hP1190 bx_a115 (Or.inl rfl) (by omega) (by omega) (fun h1208 hP1209 => ?_)
                    refine bh_ld (pc' := 256) bt_26_255 rfl rfl (fun _ _ _ => rfl) g1097 rfl ?_
                    refine bh_dup (pc' := 257) bt_26_256 rfl rfl ?_
                    refine bh_gi (pc' := 260) bt_26_257 rfl rfl (fun _ _ _ => rfl) hP1209 bx_i43 rfl ?_
                    refine bh_c (pc' := 261) (n := 1) bt_26_260 rfl rfl (fun _ _ _ => rfl) (by decide) (fun c1210 e1211 => ?_)
                    refine bh_add (pc' := 262) bt_26_261 rfl (by omega) (by omega) (fun v1212 e1213 => ?_)
                    refine bh_pf (pc' := 265) bt_26_262 rfl rfl (fun _ _ _ => rfl) hP1209 bx_i43 rfl (fun h1214 s1215 hP1216 e1217 f1218 => ?_)
                    refine bh_ld (pc' := 266) bt_26_265 rfl rfl (fun _ _ _ => rfl) g1097 rfl ?_
                    refine bh_cv (pc' := 269) (st := []) (args := []) bt_26_266 rfl rfl (by decide) hP1216 (by omega) rfl (Nat.le_of_ble_eq_true rfl) (Nat.le_of_ble_eq_true rfl) ?_
                    refine sp_37 hP1216 (by simp only [List.length_cons]; omega) ((f1218 11 (by decide)).trans (f1191 11 (by decide) (by decide))) ((f1218 13 (by decide)).trans (f1191 13 (by decide) (by decide))) (by omega) (by omega) (by omega) (fun h1219 s1220 hP1221 f1222 p1223 => ?_)
                    show bh_G E FIN ((26, 269, lv1094, [], 0, 0) :: gs, _, none)
                    refine bh_go (pc' := 12) bt_26_269 rfl ?_
                    have z12 := congrArg Int32.toInt ((f1222 12 (by decide) (by decide) (by decide)).trans ((f1218 12 (by decide)).trans (f1191 12 (by decide) (by decide))))
                    have z39 := congrArg Int32.toInt ((f1222 39 (by decide) (by decide) (by decide)).trans (f1218 39 (by decide)))
                    have z43 := congrArg Int32.toInt ((f1222 43 (by decide) (by decide) (by decide)).trans e1217)
                    have hk9 : ((A1192 91 ((s 11)).toInt.toNat)).toInt = (A 91 (s 11).toInt.toNat).toInt := congrArg Int32.toInt (a1193 91 _ (by omega))
                    have en : ((s1189 43)).toInt.toNat = n1195 := by omega
                    refine i12 _ _ _ _ _ _ hP1221 g1097 g1098 g1096 (by omega) (by omega) ⟨(fun j j11 j12 j13 j14 j39 j43 => ((fun j j11 j12 j13 j14 j39 j43 => ((f1222 j j11 j13 j14).trans ((f1218 j j43).trans (f1191 j j39 j43)))) j j11 j12 j13 j14 j39 j43).trans (x1 j j11 j12 j13 j14 j39 j43)), (fun k j u v => ((bh_up_o (by omega)).trans ((a1193 k j (by omega)).trans (x2 k j (by omega) v)))), by omega, by omega, by omega, by omega, by omega, by omega, by omega, by omega, fun hF => ?_⟩
                    refine ⟨(fun j j11 j12 j13 j14 j39 j43 => ((fun j j11 j12 j13 j14 j39 j43 => ((f1222 j j11 j13 j14).trans ((f1218 j j43).trans (f1191 j j39 j43)))) j j11 j12 j13 j14 j39 j43).trans (x1 j j11 j12 j13 j14 j39 j43)), (fun k j u v => ((bh_up_o (by omega)).trans ((a1193 k j (by omega)).trans (x2 k j (by omega) v)))), by omega, by omega, by omega, by omega, by omega, by omega, by omega, (n1195 + 1), opn, (g1196 + 2), (p1197 + 1), by omega, ?_, by omega, ?_, by omega⟩
                    · refine rd_wt_push (w := A 115) r1200 (fun j hj => (bh_up_j (by omega)).trans (a1193 115 j (by omega))) (Or.inr (Or.inr ⟨?_, rfl, r1205, rfl, rfl⟩))
                      rw [← en, bh_up_i]
                      have hk8 : (mm_nar 0 ((A1192 91 ((s 11)).toInt.toNat))).toInt = ((A1192 91 ((s 11)).toInt.toNat)).toInt := rfl
                      omega
                    · rw [((f1222 39 (by decide) (by decide) (by decide)).trans (f1218 39 (by decide)))]
                      exact r1203
              · replace k1099 : ¬ ((c1092).toInt ≠ 0) := k1099
                omega
            · replace k1091 : ¬ ((r1089).toInt ≠ 0) := k1091
              refine bh_ld (pc' := 164) bt_26_163 rfl rfl (fun _ _ _ => rfl) g0 rfl ?_
              refine bh_c (pc' := 166) (n := 10) bt_26_164 rfl rfl (fun _ _ _ => rfl) (by decide) (fun c1224 e1225 => ?_)
              refine bh_cv (pc' := 169) (st := []) (args := [.int c1224]) bt_26_166 rfl rfl (by decide) hP (by omega) rfl (Nat.le_of_ble_eq_true rfl) (Nat.le_of_ble_eq_true rfl) ?_
              refine sp_45 (k := c1224) hP rfl rfl (by omega) (by omega) (fun r1226 p1227 => ?_)
              show bh_G E FIN ((26, 169, lv, [.int r1226], 0, 0) :: gs, _, none)
              refine bh_i0 (pc' := 172) (pt := 181) bt_26_169 rfl rfl (fun k1228 => ?_) (fun k1228 => ?_)
              · replace k1228 : (r1226).toInt ≠ 0 := k1228
                refine bh_c (pc' := 182) (n := 1) bt_26_181 rfl rfl (fun _ _ _ => rfl) (by decide) (fun c1229 e1230 => ?_)
                refine bh_go (pc' := 186) bt_26_182 rfl ?_
                refine bh_st (pc' := 187) bt_26_186 rfl rfl (fun _ _ _ => rfl) rfl (by decide) (by decide) (fun lv1231 F1232 g1233 => ?_)
                have g1234 := F1232 0 (.ref (E.1 + 88)) g0 (by decide) (Or.inl rfl)
                have g1235 := F1232 1 (.int b) g1 (by decide) (Or.inl rfl)
                refine bh_ld (pc' := 188) bt_26_187 rfl rfl (fun _ _ _ => rfl) g1233 rfl ?_
                refine bh_i0 (pc' := 191) (pt := 210) bt_26_188 rfl rfl (fun k1236 => ?_) (fun k1236 => ?_)
                · replace k1236 : (c1229).toInt ≠ 0 := k1236
                  refine bh_ld (pc' := 211) bt_26_210 rfl rfl (fun _ _ _ => rfl) g1234 rfl ?_
                  refine bh_ld (pc' := 212) bt_26_211 rfl rfl (fun _ _ _ => rfl) g1234 rfl ?_
                  refine bh_c (pc' := 214) (n := 10) bt_26_212 rfl rfl (fun _ _ _ => rfl) (by decide) (fun c1237 e1238 => ?_)
                  refine bh_cv (pc' := 217) (st := [.ref (E.1 + 88)]) (args := [.int c1237]) bt_26_214 rfl rfl (by decide) hP (by omega) rfl (Nat.le_of_ble_eq_true rfl) (Nat.le_of_ble_eq_true rfl) ?_
                  refine sp_45 (k := c1237) hP rfl rfl (by omega) (by omega) (fun r1239 p1240 => ?_)
                  show bh_G E FIN ((26, 217, lv1231, [.int r1239, .ref (E.1 + 88)], 0, 0) :: gs, _, none)
                  refine bh_i0 (pc' := 220) (pt := 229) bt_26_217 rfl rfl (fun k1241 => ?_) (fun k1241 => ?_)
                  · replace k1241 : (r1239).toInt ≠ 0 := k1241
                    refine bh_c (pc' := 230) (n := 1) bt_26_229 rfl rfl (fun _ _ _ => rfl) (by decide) (fun c1242 e1243 => ?_)
                    refine bh_go (pc' := 234) bt_26_230 rfl ?_
                    refine bh_cv (pc' := 237) (st := []) (args := [.int c1242]) bt_26_234 rfl rfl (by decide) hP (by omega) rfl (Nat.le_of_ble_eq_true rfl) (Nat.le_of_ble_eq_true rfl) ?_
                    refine rd_out (n + 1) n (Nat.lt_succ_self _) c1242 hP (by simp only [List.length_cons]; omega) rfl rfl rfl rfl (by omega) (s0 39).toInt.toNat opn g p y2 (by omega) (by omega) (by omega) y4 (by omega) (fun h1244 s1245 A1248 hP1246 f1247 a1249 q1250 => ?_)
                    obtain ⟨n1251, g1252, p1253, r1254, r1255, r1256, r1257, r1258, r1259, r1260, r1261, r1262⟩ := q1250
                    show bh_G E FIN ((26, 237, lv1231, [], 0, 0) :: gs, _, none)
                    have l1263 := rd_wt_len _ _ _ _ r1256
                    refine bh_ld (pc' := 238) bt_26_237 rfl rfl (fun _ _ _ => rfl) g1234 rfl ?_
                    refine bh_gr (pc' := 241) (c := 115) bt_26_238 rfl rfl (fun _ _ _ => rfl) hP1246 bx_r42 ?_
                    refine bh_ld (pc' := 242) bt_26_241 rfl rfl (fun _ _ _ => rfl) g1234 rfl ?_
                    refine bh_gi (pc' := 245) bt_26_242 rfl rfl (fun _ _ _ => rfl) hP1246 bx_i43 rfl ?_
                    refine bh_ld (pc' := 246) bt_26_245 rfl rfl (fun _ _ _ => rfl) g1234 rfl ?_
                    refine bh_gr (pc' := 249) (c := 91) bt_26_246 rfl rfl (fun _ _ _ => rfl) hP1246 bx_r5 ?_
                    refine bh_ld (pc' := 250) bt_26_249 rfl rfl (fun _ _ _ => rfl) g1234 rfl ?_
                    refine bh_gi (pc' := 253) bt_26_250 rfl rfl (fun _ _ _ => rfl) hP1246 bx_i11 (f1247 11 (by decide) (by decide)) ?_
                    refine bh_ia (pc' := 254) bt_26_253 rfl rfl (fun _ _ _ => rfl) hP1246 bx_a91 (Or.inl rfl) (by omega) (by omega) ?_
                    refine bh_ias (pc' := 255) bt_26_254 rfl rfl (fun _ _ _ => rfl) hP1246 bx_a115 (Or.inl rfl) (by omega) (by omega) (fun h1264 hP1265 => ?_)
                    refine bh_ld (pc' := 256) bt_26_255 rfl rfl (fun _ _ _ => rfl) g1234 rfl ?_
                    refine bh_dup (pc' := 257) bt_26_256 rfl rfl ?_
                    refine bh_gi (pc' := 260) bt_26_257 rfl rfl (fun _ _ _ => rfl) hP1265 bx_i43 rfl ?_
                    refine bh_c (pc' := 261) (n := 1) bt_26_260 rfl rfl (fun _ _ _ => rfl) (by decide) (fun c1266 e1267 => ?_)
                    refine bh_add (pc' := 262) bt_26_261 rfl (by omega) (by omega) (fun v1268 e1269 => ?_)
                    refine bh_pf (pc' := 265) bt_26_262 rfl rfl (fun _ _ _ => rfl) hP1265 bx_i43 rfl (fun h1270 s1271 hP1272 e1273 f1274 => ?_)
                    refine bh_ld (pc' := 266) bt_26_265 rfl rfl (fun _ _ _ => rfl) g1234 rfl ?_
                    refine bh_cv (pc' := 269) (st := []) (args := []) bt_26_266 rfl rfl (by decide) hP1272 (by omega) rfl (Nat.le_of_ble_eq_true rfl) (Nat.le_of_ble_eq_true rfl) ?_
                    refine sp_37 hP1272 (by simp only [List.length_cons]; omega) ((f1274 11 (by decide)).trans (f1247 11 (by decide) (by decide))) ((f1274 13 (by decide)).trans (f1247 13 (by decide) (by decide))) (by omega) (by omega) (by omega) (fun h1275 s1276 hP1277 f1278 p1279 => ?_)
                    show bh_G E FIN ((26, 269, lv1231, [], 0, 0) :: gs, _, none)
                    refine bh_go (pc' := 12) bt_26_269 rfl ?_
                    have z12 := congrArg Int32.toInt ((f1278 12 (by decide) (by decide) (by decide)).trans ((f1274 12 (by decide)).trans (f1247 12 (by decide) (by decide))))
                    have z39 := congrArg Int32.toInt ((f1278 39 (by decide) (by decide) (by decide)).trans (f1274 39 (by decide)))
                    have z43 := congrArg Int32.toInt ((f1278 43 (by decide) (by decide) (by decide)).trans e1273)
                    have hk9 : ((A1248 91 ((s 11)).toInt.toNat)).toInt = (A 91 (s 11).toInt.toNat).toInt := congrArg Int32.toInt (a1249 91 _ (by omega))
                    have en : ((s1245 43)).toInt.toNat = n1251 := by omega
                    refine i12 _ _ _ _ _ _ hP1277 g1234 g1235 g1233 (by omega) (by omega) ⟨(fun j j11 j12 j13 j14 j39 j43 => ((fun j j11 j12 j13 j14 j39 j43 => ((f1278 j j11 j13 j14).trans ((f1274 j j43).trans (f1247 j j39 j43)))) j j11 j12 j13 j14 j39 j43).trans (x1 j j11 j12 j13 j14 j39 j43)), (fun k j u v => ((bh_up_o (by omega)).trans ((a1249 k j (by omega)).trans (x2 k j (by omega) v)))), by omega, by omega, by omega, by omega, by omega, by omega, by omega, by omega, fun hF => ?_⟩
                    refine ⟨(fun j j11 j12 j13 j14 j39 j43 => ((fun j j11 j12 j13 j14 j39 j43 => ((f1278 j j11 j13 j14).trans ((f1274 j j43).trans (f1247 j j39 j43)))) j j11 j12 j13 j14 j39 j43).trans (x1 j j11 j12 j13 j14 j39 j43)), (fun k j u v => ((bh_up_o (by omega)).trans ((a1249 k j (by omega)).trans (x2 k j (by omega) v)))), by omega, by omega, by omega, by omega, by omega, by omega, by omega, (n1251 + 1), opn, (g1252 + 2), (p1253 + 1), by omega, ?_, by omega, ?_, by omega⟩
                    · refine rd_wt_push (w := A 115) r1256 (fun j hj => (bh_up_j (by omega)).trans (a1249 115 j (by omega))) (Or.inr (Or.inr ⟨?_, rfl, r1261, rfl, rfl⟩))
                      rw [← en, bh_up_i]
                      have hk8 : (mm_nar 0 ((A1248 91 ((s 11)).toInt.toNat))).toInt = ((A1248 91 ((s 11)).toInt.toNat)).toInt := rfl
                      omega
                    · rw [((f1278 39 (by decide) (by decide) (by decide)).trans (f1274 39 (by decide)))]
                      exact r1259
                  · replace k1241 : ¬ ((r1239).toInt ≠ 0) := k1241
                    refine bh_ld (pc' := 221) bt_26_220 rfl rfl (fun _ _ _ => rfl) g1234 rfl ?_
                    refine bh_c (pc' := 223) (n := 15) bt_26_221 rfl rfl (fun _ _ _ => rfl) (by decide) (fun c1280 e1281 => ?_)
                    refine bh_cv (pc' := 226) (st := [.ref (E.1 + 88)]) (args := [.int c1280]) bt_26_223 rfl rfl (by decide) hP (by omega) rfl (Nat.le_of_ble_eq_true rfl) (Nat.le_of_ble_eq_true rfl) ?_
                    refine sp_45 (k := c1280) hP rfl rfl (by omega) (by omega) (fun r1282 p1283 => ?_)
                    show bh_G E FIN ((26, 226, lv1231, [.int r1282, .ref (E.1 + 88)], 0, 0) :: gs, _, none)
                    refine bh_i0 (pc' := 229) (pt := 233) bt_26_226 rfl rfl (fun k1284 => ?_) (fun k1284 => ?_)
                    · replace k1284 : (r1282).toInt = 0 := k1284
                      refine bh_c (pc' := 234) (n := 0) bt_26_233 rfl rfl (fun _ _ _ => rfl) (by decide) (fun c1285 e1286 => ?_)
                      refine bh_cv (pc' := 237) (st := []) (args := [.int c1285]) bt_26_234 rfl rfl (by decide) hP (by omega) rfl (Nat.le_of_ble_eq_true rfl) (Nat.le_of_ble_eq_true rfl) ?_
                      refine rd_out (n + 1) n (Nat.lt_succ_self _) c1285 hP (by simp only [List.length_cons]; omega) rfl rfl rfl rfl (by omega) (s0 39).toInt.toNat opn g p y2 (by omega) (by omega) (by omega) y4 (by omega) (fun h1287 s1288 A1291 hP1289 f1290 a1292 q1293 => ?_)
                      obtain ⟨n1294, g1295, p1296, r1297, r1298, r1299, r1300, r1301, r1302, r1303, r1304, r1305⟩ := q1293
                      show bh_G E FIN ((26, 237, lv1231, [], 0, 0) :: gs, _, none)
                      have l1306 := rd_wt_len _ _ _ _ r1299
                      refine bh_ld (pc' := 238) bt_26_237 rfl rfl (fun _ _ _ => rfl) g1234 rfl ?_
                      refine bh_gr (pc' := 241) (c := 115) bt_26_238 rfl rfl (fun _ _ _ => rfl) hP1289 bx_r42 ?_
                      refine bh_ld (pc' := 242) bt_26_241 rfl rfl (fun _ _ _ => rfl) g1234 rfl ?_
                      refine bh_gi (pc' := 245) bt_26_242 rfl rfl (fun _ _ _ => rfl) hP1289 bx_i43 rfl ?_
                      refine bh_ld (pc' := 246) bt_26_245 rfl rfl (fun _ _ _ => rfl) g1234 rfl ?_
                      refine bh_gr (pc' := 249) (c := 91) bt_26_246 rfl rfl (fun _ _ _ => rfl) hP1289 bx_r5 ?_
                      refine bh_ld (pc' := 250) bt_26_249 rfl rfl (fun _ _ _ => rfl) g1234 rfl ?_
                      refine bh_gi (pc' := 253) bt_26_250 rfl rfl (fun _ _ _ => rfl) hP1289 bx_i11 (f1290 11 (by decide) (by decide)) ?_
                      refine bh_ia (pc' := 254) bt_26_253 rfl rfl (fun _ _ _ => rfl) hP1289 bx_a91 (Or.inl rfl) (by omega) (by omega) ?_
                      refine bh_ias (pc' := 255) bt_26_254 rfl rfl (fun _ _ _ => rfl) hP1289 bx_a115 (Or.inl rfl) (by omega) (by omega) (fun h1307 hP1308 => ?_)
                      refine bh_ld (pc' := 256) bt_26_255 rfl rfl (fun _ _ _ => rfl) g1234 rfl ?_
                      refine bh_dup (pc' := 257) bt_26_256 rfl rfl ?_
                      refine bh_gi (pc' := 260) bt_26_257 rfl rfl (fun _ _ _ => rfl) hP1308 bx_i43 rfl ?_
                      refine bh_c (pc' := 261) (n := 1) bt_26_260 rfl rfl (fun _ _ _ => rfl) (by decide) (fun c1309 e1310 => ?_)
                      refine bh_add (pc' := 262) bt_26_261 rfl (by omega) (by omega) (fun v1311 e1312 => ?_)
                      refine bh_pf (pc' := 265) bt_26_262 rfl rfl (fun _ _ _ => rfl) hP1308 bx_i43 rfl (fun h1313 s1314 hP1315 e1316 f1317 => ?_)
                      refine bh_ld (pc' := 266) bt_26_265 rfl rfl (fun _ _ _ => rfl) g1234 rfl ?_
                      refine bh_cv (pc' := 269) (st := []) (args := []) bt_26_266 rfl rfl (by decide) hP1315 (by omega) rfl (Nat.le_of_ble_eq_true rfl) (Nat.le_of_ble_eq_true rfl) ?_
                      refine sp_37 hP1315 (by simp only [List.length_cons]; omega) ((f1317 11 (by decide)).trans (f1290 11 (by decide) (by decide))) ((f1317 13 (by decide)).trans (f1290 13 (by decide) (by decide))) (by omega) (by omega) (by omega) (fun h1318 s1319 hP1320 f1321 p1322 => ?_)
                      show bh_G E FIN ((26, 269, lv1231, [], 0, 0) :: gs, _, none)
                      refine bh_go (pc' := 12) bt_26_269 rfl ?_
                      have z12 := congrArg Int32.toInt ((f1321 12 (by decide) (by decide) (by decide)).trans ((f1317 12 (by decide)).trans (f1290 12 (by decide) (by decide))))
                      have z39 := congrArg Int32.toInt ((f1321 39 (by decide) (by decide) (by decide)).trans (f1317 39 (by decide)))
                      have z43 := congrArg Int32.toInt ((f1321 43 (by decide) (by decide) (by decide)).trans e1316)
                      have hk9 : ((A1291 91 ((s 11)).toInt.toNat)).toInt = (A 91 (s 11).toInt.toNat).toInt := congrArg Int32.toInt (a1292 91 _ (by omega))
                      have en : ((s1288 43)).toInt.toNat = n1294 := by omega
                      refine i12 _ _ _ _ _ _ hP1320 g1234 g1235 g1233 (by omega) (by omega) ⟨(fun j j11 j12 j13 j14 j39 j43 => ((fun j j11 j12 j13 j14 j39 j43 => ((f1321 j j11 j13 j14).trans ((f1317 j j43).trans (f1290 j j39 j43)))) j j11 j12 j13 j14 j39 j43).trans (x1 j j11 j12 j13 j14 j39 j43)), (fun k j u v => ((bh_up_o (by omega)).trans ((a1292 k j (by omega)).trans (x2 k j (by omega) v)))), by omega, by omega, by omega, by omega, by omega, by omega, by omega, by omega, fun hF => ?_⟩
                      refine ⟨(fun j j11 j12 j13 j14 j39 j43 => ((fun j j11 j12 j13 j14 j39 j43 => ((f1321 j j11 j13 j14).trans ((f1317 j j43).trans (f1290 j j39 j43)))) j j11 j12 j13 j14 j39 j43).trans (x1 j j11 j12 j13 j14 j39 j43)), (fun k j u v => ((bh_up_o (by omega)).trans ((a1292 k j (by omega)).trans (x2 k j (by omega) v)))), by omega, by omega, by omega, by omega, by omega, by omega, by omega, (n1294 + 1), opn, 1, (p1296 + 1), by omega, ?_, by omega, ?_, by omega⟩
                      · refine rd_wt_push (w := A 115) r1299 (fun j hj => (bh_up_j (by omega)).trans (a1292 115 j (by omega))) (Or.inr (Or.inl ⟨?_, rfl, r1303 (by omega), rfl, rfl⟩))
                        rw [← en, bh_up_i]
                        have hk8 : (mm_nar 0 ((A1291 91 ((s 11)).toInt.toNat))).toInt = ((A1291 91 ((s 11)).toInt.toNat)).toInt := rfl
                        omega
                      · rw [((f1321 39 (by decide) (by decide) (by decide)).trans (f1317 39 (by decide)))]
                        exact r1302
                    · replace k1284 : ¬ ((r1282).toInt = 0) := k1284
                      refine bh_c (pc' := 230) (n := 1) bt_26_229 rfl rfl (fun _ _ _ => rfl) (by decide) (fun c1323 e1324 => ?_)
                      refine bh_go (pc' := 234) bt_26_230 rfl ?_
                      refine bh_cv (pc' := 237) (st := []) (args := [.int c1323]) bt_26_234 rfl rfl (by decide) hP (by omega) rfl (Nat.le_of_ble_eq_true rfl) (Nat.le_of_ble_eq_true rfl) ?_
                      refine rd_out (n + 1) n (Nat.lt_succ_self _) c1323 hP (by simp only [List.length_cons]; omega) rfl rfl rfl rfl (by omega) (s0 39).toInt.toNat opn g p y2 (by omega) (by omega) (by omega) y4 (by omega) (fun h1325 s1326 A1329 hP1327 f1328 a1330 q1331 => ?_)
                      obtain ⟨n1332, g1333, p1334, r1335, r1336, r1337, r1338, r1339, r1340, r1341, r1342, r1343⟩ := q1331
                      show bh_G E FIN ((26, 237, lv1231, [], 0, 0) :: gs, _, none)
                      have l1344 := rd_wt_len _ _ _ _ r1337
                      refine bh_ld (pc' := 238) bt_26_237 rfl rfl (fun _ _ _ => rfl) g1234 rfl ?_
                      refine bh_gr (pc' := 241) (c := 115) bt_26_238 rfl rfl (fun _ _ _ => rfl) hP1327 bx_r42 ?_
                      refine bh_ld (pc' := 242) bt_26_241 rfl rfl (fun _ _ _ => rfl) g1234 rfl ?_
                      refine bh_gi (pc' := 245) bt_26_242 rfl rfl (fun _ _ _ => rfl) hP1327 bx_i43 rfl ?_
                      refine bh_ld (pc' := 246) bt_26_245 rfl rfl (fun _ _ _ => rfl) g1234 rfl ?_
                      refine bh_gr (pc' := 249) (c := 91) bt_26_246 rfl rfl (fun _ _ _ => rfl) hP1327 bx_r5 ?_
                      refine bh_ld (pc' := 250) bt_26_249 rfl rfl (fun _ _ _ => rfl) g1234 rfl ?_
                      refine bh_gi (pc' := 253) bt_26_250 rfl rfl (fun _ _ _ => rfl) hP1327 bx_i11 (f1328 11 (by decide) (by decide)) ?_
                      refine bh_ia (pc' := 254) bt_26_253 rfl rfl (fun _ _ _ => rfl) hP1327 bx_a91 (Or.inl rfl) (by omega) (by omega) ?_
                      refine bh_ias (pc' := 255) bt_26_254 rfl rfl (fun _ _ _ => rfl) hP1327 bx_a115 (Or.inl rfl) (by omega) (by omega) (fun h1345 hP1346 => ?_)
                      refine bh_ld (pc' := 256) bt_26_255 rfl rfl (fun _ _ _ => rfl) g1234 rfl ?_
                      refine bh_dup (pc' := 257) bt_26_256 rfl rfl ?_
                      refine bh_gi (pc' := 260) bt_26_257 rfl rfl (fun _ _ _ => rfl) hP1346 bx_i43 rfl ?_
                      refine bh_c (pc' := 261) (n := 1) bt_26_260 rfl rfl (fun _ _ _ => rfl) (by decide) (fun c1347 e1348 => ?_)
                      refine bh_add (pc' := 262) bt_26_261 rfl (by omega) (by omega) (fun v1349 e1350 => ?_)
                      refine bh_pf (pc' := 265) bt_26_262 rfl rfl (fun _ _ _ => rfl) hP1346 bx_i43 rfl (fun h1351 s1352 hP1353 e1354 f1355 => ?_)
                      refine bh_ld (pc' := 266) bt_26_265 rfl rfl (fun _ _ _ => rfl) g1234 rfl ?_
                      refine bh_cv (pc' := 269) (st := []) (args := []) bt_26_266 rfl rfl (by decide) hP1353 (by omega) rfl (Nat.le_of_ble_eq_true rfl) (Nat.le_of_ble_eq_true rfl) ?_
                      refine sp_37 hP1353 (by simp only [List.length_cons]; omega) ((f1355 11 (by decide)).trans (f1328 11 (by decide) (by decide))) ((f1355 13 (by decide)).trans (f1328 13 (by decide) (by decide))) (by omega) (by omega) (by omega) (fun h1356 s1357 hP1358 f1359 p1360 => ?_)
                      show bh_G E FIN ((26, 269, lv1231, [], 0, 0) :: gs, _, none)
                      refine bh_go (pc' := 12) bt_26_269 rfl ?_
                      have z12 := congrArg Int32.toInt ((f1359 12 (by decide) (by decide) (by decide)).trans ((f1355 12 (by decide)).trans (f1328 12 (by decide) (by decide))))
                      have z39 := congrArg Int32.toInt ((f1359 39 (by decide) (by decide) (by decide)).trans (f1355 39 (by decide)))
                      have z43 := congrArg Int32.toInt ((f1359 43 (by decide) (by decide) (by decide)).trans e1354)
                      have hk9 : ((A1329 91 ((s 11)).toInt.toNat)).toInt = (A 91 (s 11).toInt.toNat).toInt := congrArg Int32.toInt (a1330 91 _ (by omega))
                      have en : ((s1326 43)).toInt.toNat = n1332 := by omega
                      refine i12 _ _ _ _ _ _ hP1358 g1234 g1235 g1233 (by omega) (by omega) ⟨(fun j j11 j12 j13 j14 j39 j43 => ((fun j j11 j12 j13 j14 j39 j43 => ((f1359 j j11 j13 j14).trans ((f1355 j j43).trans (f1328 j j39 j43)))) j j11 j12 j13 j14 j39 j43).trans (x1 j j11 j12 j13 j14 j39 j43)), (fun k j u v => ((bh_up_o (by omega)).trans ((a1330 k j (by omega)).trans (x2 k j (by omega) v)))), by omega, by omega, by omega, by omega, by omega, by omega, by omega, by omega, fun hF => ?_⟩
                      refine ⟨(fun j j11 j12 j13 j14 j39 j43 => ((fun j j11 j12 j13 j14 j39 j43 => ((f1359 j j11 j13 j14).trans ((f1355 j j43).trans (f1328 j j39 j43)))) j j11 j12 j13 j14 j39 j43).trans (x1 j j11 j12 j13 j14 j39 j43)), (fun k j u v => ((bh_up_o (by omega)).trans ((a1330 k j (by omega)).trans (x2 k j (by omega) v)))), by omega, by omega, by omega, by omega, by omega, by omega, by omega, (n1332 + 1), opn, (g1333 + 2), (p1334 + 1), by omega, ?_, by omega, ?_, by omega⟩
                      · refine rd_wt_push (w := A 115) r1337 (fun j hj => (bh_up_j (by omega)).trans (a1330 115 j (by omega))) (Or.inr (Or.inr ⟨?_, rfl, r1342, rfl, rfl⟩))
                        rw [← en, bh_up_i]
                        have hk8 : (mm_nar 0 ((A1329 91 ((s 11)).toInt.toNat))).toInt = ((A1329 91 ((s 11)).toInt.toNat)).toInt := rfl
                        omega
                      · rw [((f1359 39 (by decide) (by decide) (by decide)).trans (f1355 39 (by decide)))]
                        exact r1340
                · replace k1236 : ¬ ((c1229).toInt ≠ 0) := k1236
                  omega
              · replace k1228 : ¬ ((r1226).toInt ≠ 0) := k1228
                refine bh_ld (pc' := 173) bt_26_172 rfl rfl (fun _ _ _ => rfl) g0 rfl ?_
                refine bh_c (pc' := 175) (n := 15) bt_26_173 rfl rfl (fun _ _ _ => rfl) (by decide) (fun c1361 e1362 => ?_)
                refine bh_cv (pc' := 178) (st := []) (args := [.int c1361]) bt_26_175 rfl rfl (by decide) hP (by omega) rfl (Nat.le_of_ble_eq_true rfl) (Nat.le_of_ble_eq_true rfl) ?_
                refine sp_45 (k := c1361) hP rfl rfl (by omega) (by omega) (fun r1363 p1364 => ?_)
                show bh_G E FIN ((26, 178, lv, [.int r1363], 0, 0) :: gs, _, none)
                refine bh_i0 (pc' := 181) (pt := 185) bt_26_178 rfl rfl (fun k1365 => ?_) (fun k1365 => ?_)
                · replace k1365 : (r1363).toInt = 0 := k1365
                  refine bh_c (pc' := 186) (n := 0) bt_26_185 rfl rfl (fun _ _ _ => rfl) (by decide) (fun c1366 e1367 => ?_)
                  refine bh_st (pc' := 187) bt_26_186 rfl rfl (fun _ _ _ => rfl) rfl (by decide) (by decide) (fun lv1368 F1369 g1370 => ?_)
                  have g1371 := F1369 0 (.ref (E.1 + 88)) g0 (by decide) (Or.inl rfl)
                  have g1372 := F1369 1 (.int b) g1 (by decide) (Or.inl rfl)
                  refine bh_ld (pc' := 188) bt_26_187 rfl rfl (fun _ _ _ => rfl) g1370 rfl ?_
                  refine bh_i0 (pc' := 191) (pt := 210) bt_26_188 rfl rfl (fun k1373 => ?_) (fun k1373 => ?_)
                  · replace k1373 : (c1366).toInt ≠ 0 := k1373
                    omega
                  · replace k1373 : ¬ ((c1366).toInt ≠ 0) := k1373
                    refine bh_ld (pc' := 192) bt_26_191 rfl rfl (fun _ _ _ => rfl) g1371 rfl ?_
                    refine bh_gi (pc' := 195) bt_26_192 rfl rfl (fun _ _ _ => rfl) hP bx_i12 rfl ?_
                    refine bh_ld (pc' := 196) bt_26_195 rfl rfl (fun _ _ _ => rfl) g1372 rfl ?_
                    refine bh_ic (pc' := 199) (pt := 204) bt_26_196 rfl rfl (fun k1374 => ?_) (fun k1374 => ?_)
                    · replace k1374 : ((s 12)).toInt ≤ (b).toInt := k1374
                      refine bh_ld (pc' := 205) bt_26_204 rfl rfl (fun _ _ _ => rfl) g1371 rfl ?_
                      refine bh_c (pc' := 206) (n := 0) bt_26_205 rfl rfl (fun _ _ _ => rfl) (by decide) (fun c1375 e1376 => ?_)
                      refine bh_cv (pc' := 209) (st := []) (args := [.int c1375]) bt_26_206 rfl rfl (by decide) hP (by omega) rfl (Nat.le_of_ble_eq_true rfl) (Nat.le_of_ble_eq_true rfl) ?_
                      refine rd_out (n + 1) n (Nat.lt_succ_self _) c1375 hP (by simp only [List.length_cons]; omega) rfl rfl rfl rfl (by omega) (s0 39).toInt.toNat opn g p y2 (by omega) (by omega) (by omega) y4 (by omega) (fun h1377 s1378 A1381 hP1379 f1380 a1382 q1383 => ?_)
                      obtain ⟨n1384, g1385, p1386, r1387, r1388, r1389, r1390, r1391, r1392, r1393, r1394, r1395⟩ := q1383
                      show bh_G E FIN ((26, 209, lv1368, [], 0, 0) :: gs, _, none)
                      have l1396 := rd_wt_len _ _ _ _ r1389
                      refine bh_rv bt_26_209 ?_
                      have z11 := congrArg Int32.toInt (f1380 11 (by decide) (by decide))
                      have z12 := congrArg Int32.toInt (f1380 12 (by decide) (by decide))
                      have z13 := congrArg Int32.toInt (f1380 13 (by decide) (by decide))
                      refine kk _ _ _ hP1379 ⟨(fun j j11 j12 j13 j14 j39 j43 => ((fun j j11 j12 j13 j14 j39 j43 => (f1380 j j39 j43)) j j11 j12 j13 j14 j39 j43).trans (x1 j j11 j12 j13 j14 j39 j43)), (fun k j u v => ((a1382 k j (by omega)).trans (x2 k j (by omega) v))), by omega, by omega, by omega, by omega, by omega, by omega, by omega, by omega, fun hF => ?_⟩
                      have ho : opn = 0 := by omega
                      have hg0 := r1393 (by omega)
                      rw [ho, hg0] at r1389
                      have hp0 := rd_wt_00 r1389
                      rw [hp0] at r1392
                      exact ⟨by omega, by omega, by omega, r1392⟩
                    · replace k1374 : ¬ (((s 12)).toInt ≤ (b).toInt) := k1374
                      refine bh_ld (pc' := 200) bt_26_199 rfl rfl (fun _ _ _ => rfl) g1371 rfl ?_
                      refine bh_c (pc' := 201) (n := 1) bt_26_200 rfl rfl (fun _ _ _ => rfl) (by decide) (fun c1397 e1398 => ?_)
                      refine bh_cv (pc' := 204) (st := []) (args := [.int c1397]) bt_26_201 rfl rfl (by decide) hP (by omega) rfl (Nat.le_of_ble_eq_true rfl) (Nat.le_of_ble_eq_true rfl) ?_
                      refine sp_27 (k := c1397) hP rfl rfl (by omega) (by omega) (fun h1399 s1400 hP1401 f1402 p1403 => ?_)
                      show bh_G E FIN ((26, 204, lv1368, [], 0, 0) :: gs, _, none)
                      refine bh_ld (pc' := 205) bt_26_204 rfl rfl (fun _ _ _ => rfl) g1371 rfl ?_
                      refine bh_c (pc' := 206) (n := 0) bt_26_205 rfl rfl (fun _ _ _ => rfl) (by decide) (fun c1404 e1405 => ?_)
                      refine bh_cv (pc' := 209) (st := []) (args := [.int c1404]) bt_26_206 rfl rfl (by decide) hP1401 (by omega) rfl (Nat.le_of_ble_eq_true rfl) (Nat.le_of_ble_eq_true rfl) ?_
                      refine rd_out (n + 1) n (Nat.lt_succ_self _) c1404 hP1401 (by simp only [List.length_cons]; omega) rfl rfl (f1402 43 (by decide) (by decide)) (f1402 39 (by decide) (by decide)) (by omega) (s0 39).toInt.toNat opn g p y2 (by omega) (by omega) (by omega) y4 (by omega) (fun h1406 s1407 A1410 hP1408 f1409 a1411 q1412 => ?_)
                      obtain ⟨n1413, g1414, p1415, r1416, r1417, r1418, r1419, r1420, r1421, r1422, r1423, r1424⟩ := q1412
                      show bh_G E FIN ((26, 209, lv1368, [], 0, 0) :: gs, _, none)
                      have l1425 := rd_wt_len _ _ _ _ r1418
                      refine bh_rv bt_26_209 ?_
                      have z11 := congrArg Int32.toInt ((f1409 11 (by decide) (by decide)).trans (f1402 11 (by decide) (by decide)))
                      have z12 := congrArg Int32.toInt ((f1409 12 (by decide) (by decide)).trans (f1402 12 (by decide) (by decide)))
                      have z13 := congrArg Int32.toInt (f1409 13 (by decide) (by decide))
                      refine kk _ _ _ hP1408 ⟨(fun j j11 j12 j13 j14 j39 j43 => ((fun j j11 j12 j13 j14 j39 j43 => ((f1409 j j39 j43).trans (f1402 j j13 j14))) j j11 j12 j13 j14 j39 j43).trans (x1 j j11 j12 j13 j14 j39 j43)), (fun k j u v => ((a1411 k j (by omega)).trans (x2 k j (by omega) v))), by omega, by omega, by omega, by omega, by omega, by omega, by omega, by omega, fun hF => ?_⟩
                      have ho : opn = 0 := by omega
                      have hg0 := r1422 (by omega)
                      rw [ho, hg0] at r1418
                      have hp0 := rd_wt_00 r1418
                      rw [hp0] at r1421
                      exact ⟨by omega, by omega, by omega, r1421⟩
                · replace k1365 : ¬ ((r1363).toInt = 0) := k1365
                  refine bh_c (pc' := 182) (n := 1) bt_26_181 rfl rfl (fun _ _ _ => rfl) (by decide) (fun c1426 e1427 => ?_)
                  refine bh_go (pc' := 186) bt_26_182 rfl ?_
                  refine bh_st (pc' := 187) bt_26_186 rfl rfl (fun _ _ _ => rfl) rfl (by decide) (by decide) (fun lv1428 F1429 g1430 => ?_)
                  have g1431 := F1429 0 (.ref (E.1 + 88)) g0 (by decide) (Or.inl rfl)
                  have g1432 := F1429 1 (.int b) g1 (by decide) (Or.inl rfl)
                  refine bh_ld (pc' := 188) bt_26_187 rfl rfl (fun _ _ _ => rfl) g1430 rfl ?_
                  refine bh_i0 (pc' := 191) (pt := 210) bt_26_188 rfl rfl (fun k1433 => ?_) (fun k1433 => ?_)
                  · replace k1433 : (c1426).toInt ≠ 0 := k1433
                    refine bh_ld (pc' := 211) bt_26_210 rfl rfl (fun _ _ _ => rfl) g1431 rfl ?_
                    refine bh_ld (pc' := 212) bt_26_211 rfl rfl (fun _ _ _ => rfl) g1431 rfl ?_
                    refine bh_c (pc' := 214) (n := 10) bt_26_212 rfl rfl (fun _ _ _ => rfl) (by decide) (fun c1434 e1435 => ?_)
                    refine bh_cv (pc' := 217) (st := [.ref (E.1 + 88)]) (args := [.int c1434]) bt_26_214 rfl rfl (by decide) hP (by omega) rfl (Nat.le_of_ble_eq_true rfl) (Nat.le_of_ble_eq_true rfl) ?_
                    refine sp_45 (k := c1434) hP rfl rfl (by omega) (by omega) (fun r1436 p1437 => ?_)
                    show bh_G E FIN ((26, 217, lv1428, [.int r1436, .ref (E.1 + 88)], 0, 0) :: gs, _, none)
                    refine bh_i0 (pc' := 220) (pt := 229) bt_26_217 rfl rfl (fun k1438 => ?_) (fun k1438 => ?_)
                    · replace k1438 : (r1436).toInt ≠ 0 := k1438
                      refine bh_c (pc' := 230) (n := 1) bt_26_229 rfl rfl (fun _ _ _ => rfl) (by decide) (fun c1439 e1440 => ?_)
                      refine bh_go (pc' := 234) bt_26_230 rfl ?_
                      refine bh_cv (pc' := 237) (st := []) (args := [.int c1439]) bt_26_234 rfl rfl (by decide) hP (by omega) rfl (Nat.le_of_ble_eq_true rfl) (Nat.le_of_ble_eq_true rfl) ?_
                      refine rd_out (n + 1) n (Nat.lt_succ_self _) c1439 hP (by simp only [List.length_cons]; omega) rfl rfl rfl rfl (by omega) (s0 39).toInt.toNat opn g p y2 (by omega) (by omega) (by omega) y4 (by omega) (fun h1441 s1442 A1445 hP1443 f1444 a1446 q1447 => ?_)
                      obtain ⟨n1448, g1449, p1450, r1451, r1452, r1453, r1454, r1455, r1456, r1457, r1458, r1459⟩ := q1447
                      show bh_G E FIN ((26, 237, lv1428, [], 0, 0) :: gs, _, none)
                      have l1460 := rd_wt_len _ _ _ _ r1453
                      refine bh_ld (pc' := 238) bt_26_237 rfl rfl (fun _ _ _ => rfl) g1431 rfl ?_
                      refine bh_gr (pc' := 241) (c := 115) bt_26_238 rfl rfl (fun _ _ _ => rfl) hP1443 bx_r42 ?_
                      refine bh_ld (pc' := 242) bt_26_241 rfl rfl (fun _ _ _ => rfl) g1431 rfl ?_
                      refine bh_gi (pc' := 245) bt_26_242 rfl rfl (fun _ _ _ => rfl) hP1443 bx_i43 rfl ?_
                      refine bh_ld (pc' := 246) bt_26_245 rfl rfl (fun _ _ _ => rfl) g1431 rfl ?_
                      refine bh_gr (pc' := 249) (c := 91) bt_26_246 rfl rfl (fun _ _ _ => rfl) hP1443 bx_r5 ?_
                      refine bh_ld (pc' := 250) bt_26_249 rfl rfl (fun _ _ _ => rfl) g1431 rfl ?_
                      refine bh_gi (pc' := 253) bt_26_250 rfl rfl (fun _ _ _ => rfl) hP1443 bx_i11 (f1444 11 (by decide) (by decide)) ?_
                      refine bh_ia (pc' := 254) bt_26_253 rfl rfl (fun _ _ _ => rfl) hP1443 bx_a91 (Or.inl rfl) (by omega) (by omega) ?_
                      refine bh_ias (pc' := 255) bt_26_254 rfl rfl (fun _ _ _ => rfl) hP1443 bx_a115 (Or.inl rfl) (by omega) (by omega) (fun h1461 hP1462 => ?_)
                      refine bh_ld (pc' := 256) bt_26_255 rfl rfl (fun _ _ _ => rfl) g1431 rfl ?_
                      refine bh_dup (pc' := 257) bt_26_256 rfl rfl ?_
                      refine bh_gi (pc' := 260) bt_26_257 rfl rfl (fun _ _ _ => rfl) hP1462 bx_i43 rfl ?_
                      refine bh_c (pc' := 261) (n := 1) bt_26_260 rfl rfl (fun _ _ _ => rfl) (by decide) (fun c1463 e1464 => ?_)
                      refine bh_add (pc' := 262) bt_26_261 rfl (by omega) (by omega) (fun v1465 e1466 => ?_)
                      refine bh_pf (pc' := 265) bt_26_262 rfl rfl (fun _ _ _ => rfl) hP1462 bx_i43 rfl (fun h1467 s1468 hP1469 e1470 f1471 => ?_)
                      refine bh_ld (pc' := 266) bt_26_265 rfl rfl (fun _ _ _ => rfl) g1431 rfl ?_
                      refine bh_cv (pc' := 269) (st := []) (args := []) bt_26_266 rfl rfl (by decide) hP1469 (by omega) rfl (Nat.le_of_ble_eq_true rfl) (Nat.le_of_ble_eq_true rfl) ?_
                      refine sp_37 hP1469 (by simp only [List.length_cons]; omega) ((f1471 11 (by decide)).trans (f1444 11 (by decide) (by decide))) ((f1471 13 (by decide)).trans (f1444 13 (by decide) (by decide))) (by omega) (by omega) (by omega) (fun h1472 s1473 hP1474 f1475 p1476 => ?_)
                      show bh_G E FIN ((26, 269, lv1428, [], 0, 0) :: gs, _, none)
                      refine bh_go (pc' := 12) bt_26_269 rfl ?_
                      have z12 := congrArg Int32.toInt ((f1475 12 (by decide) (by decide) (by decide)).trans ((f1471 12 (by decide)).trans (f1444 12 (by decide) (by decide))))
                      have z39 := congrArg Int32.toInt ((f1475 39 (by decide) (by decide) (by decide)).trans (f1471 39 (by decide)))
                      have z43 := congrArg Int32.toInt ((f1475 43 (by decide) (by decide) (by decide)).trans e1470)
                      have hk9 : ((A1445 91 ((s 11)).toInt.toNat)).toInt = (A 91 (s 11).toInt.toNat).toInt := congrArg Int32.toInt (a1446 91 _ (by omega))
                      have en : ((s1442 43)).toInt.toNat = n1448 := by omega
                      refine i12 _ _ _ _ _ _ hP1474 g1431 g1432 g1430 (by omega) (by omega) ⟨(fun j j11 j12 j13 j14 j39 j43 => ((fun j j11 j12 j13 j14 j39 j43 => ((f1475 j j11 j13 j14).trans ((f1471 j j43).trans (f1444 j j39 j43)))) j j11 j12 j13 j14 j39 j43).trans (x1 j j11 j12 j13 j14 j39 j43)), (fun k j u v => ((bh_up_o (by omega)).trans ((a1446 k j (by omega)).trans (x2 k j (by omega) v)))), by omega, by omega, by omega, by omega, by omega, by omega, by omega, by omega, fun hF => ?_⟩
                      refine ⟨(fun j j11 j12 j13 j14 j39 j43 => ((fun j j11 j12 j13 j14 j39 j43 => ((f1475 j j11 j13 j14).trans ((f1471 j j43).trans (f1444 j j39 j43)))) j j11 j12 j13 j14 j39 j43).trans (x1 j j11 j12 j13 j14 j39 j43)), (fun k j u v => ((bh_up_o (by omega)).trans ((a1446 k j (by omega)).trans (x2 k j (by omega) v)))), by omega, by omega, by omega, by omega, by omega, by omega, by omega, (n1448 + 1), opn, (g1449 + 2), (p1450 + 1), by omega, ?_, by omega, ?_, by omega⟩
                      · refine rd_wt_push (w := A 115) r1453 (fun j hj => (bh_up_j (by omega)).trans (a1446 115 j (by omega))) (Or.inr (Or.inr ⟨?_, rfl, r1458, rfl, rfl⟩))
                        rw [← en, bh_up_i]
                        have hk8 : (mm_nar 0 ((A1445 91 ((s 11)).toInt.toNat))).toInt = ((A1445 91 ((s 11)).toInt.toNat)).toInt := rfl
                        omega
                      · rw [((f1475 39 (by decide) (by decide) (by decide)).trans (f1471 39 (by decide)))]
                        exact r1456
                    · replace k1438 : ¬ ((r1436).toInt ≠ 0) := k1438
                      refine bh_ld (pc' := 221) bt_26_220 rfl rfl (fun _ _ _ => rfl) g1431 rfl ?_
                      refine bh_c (pc' := 223) (n := 15) bt_26_221 rfl rfl (fun _ _ _ => rfl) (by decide) (fun c1477 e1478 => ?_)
                      refine bh_cv (pc' := 226) (st := [.ref (E.1 + 88)]) (args := [.int c1477]) bt_26_223 rfl rfl (by decide) hP (by omega) rfl (Nat.le_of_ble_eq_true rfl) (Nat.le_of_ble_eq_true rfl) ?_
                      refine sp_45 (k := c1477) hP rfl rfl (by omega) (by omega) (fun r1479 p1480 => ?_)
                      show bh_G E FIN ((26, 226, lv1428, [.int r1479, .ref (E.1 + 88)], 0, 0) :: gs, _, none)
                      refine bh_i0 (pc' := 229) (pt := 233) bt_26_226 rfl rfl (fun k1481 => ?_) (fun k1481 => ?_)
                      · replace k1481 : (r1479).toInt = 0 := k1481
                        refine bh_c (pc' := 234) (n := 0) bt_26_233 rfl rfl (fun _ _ _ => rfl) (by decide) (fun c1482 e1483 => ?_)
                        refine bh_cv (pc' := 237) (st := []) (args := [.int c1482]) bt_26_234 rfl rfl (by decide) hP (by omega) rfl (Nat.le_of_ble_eq_true rfl) (Nat.le_of_ble_eq_true rfl) ?_
                        refine rd_out (n + 1) n (Nat.lt_succ_self _) c1482 hP (by simp only [List.length_cons]; omega) rfl rfl rfl rfl (by omega) (s0 39).toInt.toNat opn g p y2 (by omega) (by omega) (by omega) y4 (by omega) (fun h1484 s1485 A1488 hP1486 f1487 a1489 q1490 => ?_)
                        obtain ⟨n1491, g1492, p1493, r1494, r1495, r1496, r1497, r1498, r1499, r1500, r1501, r1502⟩ := q1490
                        show bh_G E FIN ((26, 237, lv1428, [], 0, 0) :: gs, _, none)
                        have l1503 := rd_wt_len _ _ _ _ r1496
                        refine bh_ld (pc' := 238) bt_26_237 rfl rfl (fun _ _ _ => rfl) g1431 rfl ?_
                        refine bh_gr (pc' := 241) (c := 115) bt_26_238 rfl rfl (fun _ _ _ => rfl) hP1486 bx_r42 ?_
                        refine bh_ld (pc' := 242) bt_26_241 rfl rfl (fun _ _ _ => rfl) g1431 rfl ?_
                        refine bh_gi (pc' := 245) bt_26_242 rfl rfl (fun _ _ _ => rfl) hP1486 bx_i43 rfl ?_
                        refine bh_ld (pc' := 246) bt_26_245 rfl rfl (fun _ _ _ => rfl) g1431 rfl ?_
                        refine bh_gr (pc' := 249) (c := 91) bt_26_246 rfl rfl (fun _ _ _ => rfl) hP1486 bx_r5 ?_
                        refine bh_ld (pc' := 250) bt_26_249 rfl rfl (fun _ _ _ => rfl) g1431 rfl ?_
                        refine bh_gi (pc' := 253) bt_26_250 rfl rfl (fun _ _ _ => rfl) hP1486 bx_i11 (f1487 11 (by decide) (by decide)) ?_
                        refine bh_ia (pc' := 254) bt_26_253 rfl rfl (fun _ _ _ => rfl) hP1486 bx_a91 (Or.inl rfl) (by omega) (by omega) ?_
                        refine bh_ias (pc' := 255) bt_26_254 rfl rfl (fun _ _ _ => rfl) hP1486 bx_a115 (Or.inl rfl) (by omega) (by omega) (fun h1504 hP1505 => ?_)
                        refine bh_ld (pc' := 256) bt_26_255 rfl rfl (fun _ _ _ => rfl) g1431 rfl ?_
                        refine bh_dup (pc' := 257) bt_26_256 rfl rfl ?_
                        refine bh_gi (pc' := 260) bt_26_257 rfl rfl (fun _ _ _ => rfl) hP1505 bx_i43 rfl ?_
                        refine bh_c (pc' := 261) (n := 1) bt_26_260 rfl rfl (fun _ _ _ => rfl) (by decide) (fun c1506 e1507 => ?_)
                        refine bh_add (pc' := 262) bt_26_261 rfl (by omega) (by omega) (fun v1508 e1509 => ?_)
                        refine bh_pf (pc' := 265) bt_26_262 rfl rfl (fun _ _ _ => rfl) hP1505 bx_i43 rfl (fun h1510 s1511 hP1512 e1513 f1514 => ?_)
                        refine bh_ld (pc' := 266) bt_26_265 rfl rfl (fun _ _ _ => rfl) g1431 rfl ?_
                        refine bh_cv (pc' := 269) (st := []) (args := []) bt_26_266 rfl rfl (by decide) hP1512 (by omega) rfl (Nat.le_of_ble_eq_true rfl) (Nat.le_of_ble_eq_true rfl) ?_
                        refine sp_37 hP1512 (by simp only [List.length_cons]; omega) ((f1514 11 (by decide)).trans (f1487 11 (by decide) (by decide))) ((f1514 13 (by decide)).trans (f1487 13 (by decide) (by decide))) (by omega) (by omega) (by omega) (fun h1515 s1516 hP1517 f1518 p1519 => ?_)
                        show bh_G E FIN ((26, 269, lv1428, [], 0, 0) :: gs, _, none)
                        refine bh_go (pc' := 12) bt_26_269 rfl ?_
                        have z12 := congrArg Int32.toInt ((f1518 12 (by decide) (by decide) (by decide)).trans ((f1514 12 (by decide)).trans (f1487 12 (by decide) (by decide))))
                        have z39 := congrArg Int32.toInt ((f1518 39 (by decide) (by decide) (by decide)).trans (f1514 39 (by decide)))
                        have z43 := congrArg Int32.toInt ((f1518 43 (by decide) (by decide) (by decide)).trans e1513)
                        have hk9 : ((A1488 91 ((s 11)).toInt.toNat)).toInt = (A 91 (s 11).toInt.toNat).toInt := congrArg Int32.toInt (a1489 91 _ (by omega))
                        have en : ((s1485 43)).toInt.toNat = n1491 := by omega
                        refine i12 _ _ _ _ _ _ hP1517 g1431 g1432 g1430 (by omega) (by omega) ⟨(fun j j11 j12 j13 j14 j39 j43 => ((fun j j11 j12 j13 j14 j39 j43 => ((f1518 j j11 j13 j14).trans ((f1514 j j43).trans (f1487 j j39 j43)))) j j11 j12 j13 j14 j39 j43).trans (x1 j j11 j12 j13 j14 j39 j43)), (fun k j u v => ((bh_up_o (by omega)).trans ((a1489 k j (by omega)).trans (x2 k j (by omega) v)))), by omega, by omega, by omega, by omega, by omega, by omega, by omega, by omega, fun hF => ?_⟩
                        refine ⟨(fun j j11 j12 j13 j14 j39 j43 => ((fun j j11 j12 j13 j14 j39 j43 => ((f1518 j j11 j13 j14).trans ((f1514 j j43).trans (f1487 j j39 j43)))) j j11 j12 j13 j14 j39 j43).trans (x1 j j11 j12 j13 j14 j39 j43)), (fun k j u v => ((bh_up_o (by omega)).trans ((a1489 k j (by omega)).trans (x2 k j (by omega) v)))), by omega, by omega, by omega, by omega, by omega, by omega, by omega, (n1491 + 1), opn, 1, (p1493 + 1), by omega, ?_, by omega, ?_, by omega⟩
                        · refine rd_wt_push (w := A 115) r1496 (fun j hj => (bh_up_j (by omega)).trans (a1489 115 j (by omega))) (Or.inr (Or.inl ⟨?_, rfl, r1500 (by omega), rfl, rfl⟩))
                          rw [← en, bh_up_i]
                          have hk8 : (mm_nar 0 ((A1488 91 ((s 11)).toInt.toNat))).toInt = ((A1488 91 ((s 11)).toInt.toNat)).toInt := rfl
                          omega
                        · rw [((f1518 39 (by decide) (by decide) (by decide)).trans (f1514 39 (by decide)))]
                          exact r1499
                      · replace k1481 : ¬ ((r1479).toInt = 0) := k1481
                        refine bh_c (pc' := 230) (n := 1) bt_26_229 rfl rfl (fun _ _ _ => rfl) (by decide) (fun c1520 e1521 => ?_)
                        refine bh_go (pc' := 234) bt_26_230 rfl ?_
                        refine bh_cv (pc' := 237) (st := []) (args := [.int c1520]) bt_26_234 rfl rfl (by decide) hP (by omega) rfl (Nat.le_of_ble_eq_true rfl) (Nat.le_of_ble_eq_true rfl) ?_
                        refine rd_out (n + 1) n (Nat.lt_succ_self _) c1520 hP (by simp only [List.length_cons]; omega) rfl rfl rfl rfl (by omega) (s0 39).toInt.toNat opn g p y2 (by omega) (by omega) (by omega) y4 (by omega) (fun h1522 s1523 A1526 hP1524 f1525 a1527 q1528 => ?_)
                        obtain ⟨n1529, g1530, p1531, r1532, r1533, r1534, r1535, r1536, r1537, r1538, r1539, r1540⟩ := q1528
                        show bh_G E FIN ((26, 237, lv1428, [], 0, 0) :: gs, _, none)
                        have l1541 := rd_wt_len _ _ _ _ r1534
                        refine bh_ld (pc' := 238) bt_26_237 rfl rfl (fun _ _ _ => rfl) g1431 rfl ?_
                        refine bh_gr (pc' := 241) (c := 115) bt_26_238 rfl rfl (fun _ _ _ => rfl) hP1524 bx_r42 ?_
                        refine bh_ld (pc' := 242) bt_26_241 rfl rfl (fun _ _ _ => rfl) g1431 rfl ?_
                        refine bh_gi (pc' := 245) bt_26_242 rfl rfl (fun _ _ _ => rfl) hP1524 bx_i43 rfl ?_
                        refine bh_ld (pc' := 246) bt_26_245 rfl rfl (fun _ _ _ => rfl) g1431 rfl ?_
                        refine bh_gr (pc' := 249) (c := 91) bt_26_246 rfl rfl (fun _ _ _ => rfl) hP1524 bx_r5 ?_
                        refine bh_ld (pc' := 250) bt_26_249 rfl rfl (fun _ _ _ => rfl) g1431 rfl ?_
                        refine bh_gi (pc' := 253) bt_26_250 rfl rfl (fun _ _ _ => rfl) hP1524 bx_i11 (f1525 11 (by decide) (by decide)) ?_
                        refine bh_ia (pc' := 254) bt_26_253 rfl rfl (fun _ _ _ => rfl) hP1524 bx_a91 (Or.inl rfl) (by omega) (by omega) ?_
                        refine bh_ias (pc' := 255) bt_26_254 rfl rfl (fun _ _ _ => rfl) hP1524 bx_a115 (Or.inl rfl) (by omega) (by omega) (fun h1542 hP1543 => ?_)
                        refine bh_ld (pc' := 256) bt_26_255 rfl rfl (fun _ _ _ => rfl) g1431 rfl ?_
                        refine bh_dup (pc' := 257) bt_26_256 rfl rfl ?_
                        refine bh_gi (pc' := 260) bt_26_257 rfl rfl (fun _ _ _ => rfl) hP1543 bx_i43 rfl ?_
                        refine bh_c (pc' := 261) (n := 1) bt_26_260 rfl rfl (fun _ _ _ => rfl) (by decide) (fun c1544 e1545 => ?_)
                        refine bh_add (pc' := 262) bt_26_261 rfl (by omega) (by omega) (fun v1546 e1547 => ?_)
                        refine bh_pf (pc' := 265) bt_26_262 rfl rfl (fun _ _ _ => rfl) hP1543 bx_i43 rfl (fun h1548 s1549 hP1550 e1551 f1552 => ?_)
                        refine bh_ld (pc' := 266) bt_26_265 rfl rfl (fun _ _ _ => rfl) g1431 rfl ?_
                        refine bh_cv (pc' := 269) (st := []) (args := []) bt_26_266 rfl rfl (by decide) hP1550 (by omega) rfl (Nat.le_of_ble_eq_true rfl) (Nat.le_of_ble_eq_true rfl) ?_
                        refine sp_37 hP1550 (by simp only [List.length_cons]; omega) ((f1552 11 (by decide)).trans (f1525 11 (by decide) (by decide))) ((f1552 13 (by decide)).trans (f1525 13 (by decide) (by decide))) (by omega) (by omega) (by omega) (fun h1553 s1554 hP1555 f1556 p1557 => ?_)
                        show bh_G E FIN ((26, 269, lv1428, [], 0, 0) :: gs, _, none)
                        refine bh_go (pc' := 12) bt_26_269 rfl ?_
                        have z12 := congrArg Int32.toInt ((f1556 12 (by decide) (by decide) (by decide)).trans ((f1552 12 (by decide)).trans (f1525 12 (by decide) (by decide))))
                        have z39 := congrArg Int32.toInt ((f1556 39 (by decide) (by decide) (by decide)).trans (f1552 39 (by decide)))
                        have z43 := congrArg Int32.toInt ((f1556 43 (by decide) (by decide) (by decide)).trans e1551)
                        have hk9 : ((A1526 91 ((s 11)).toInt.toNat)).toInt = (A 91 (s 11).toInt.toNat).toInt := congrArg Int32.toInt (a1527 91 _ (by omega))
                        have en : ((s1523 43)).toInt.toNat = n1529 := by omega
                        refine i12 _ _ _ _ _ _ hP1555 g1431 g1432 g1430 (by omega) (by omega) ⟨(fun j j11 j12 j13 j14 j39 j43 => ((fun j j11 j12 j13 j14 j39 j43 => ((f1556 j j11 j13 j14).trans ((f1552 j j43).trans (f1525 j j39 j43)))) j j11 j12 j13 j14 j39 j43).trans (x1 j j11 j12 j13 j14 j39 j43)), (fun k j u v => ((bh_up_o (by omega)).trans ((a1527 k j (by omega)).trans (x2 k j (by omega) v)))), by omega, by omega, by omega, by omega, by omega, by omega, by omega, by omega, fun hF => ?_⟩
                        refine ⟨(fun j j11 j12 j13 j14 j39 j43 => ((fun j j11 j12 j13 j14 j39 j43 => ((f1556 j j11 j13 j14).trans ((f1552 j j43).trans (f1525 j j39 j43)))) j j11 j12 j13 j14 j39 j43).trans (x1 j j11 j12 j13 j14 j39 j43)), (fun k j u v => ((bh_up_o (by omega)).trans ((a1527 k j (by omega)).trans (x2 k j (by omega) v)))), by omega, by omega, by omega, by omega, by omega, by omega, by omega, (n1529 + 1), opn, (g1530 + 2), (p1531 + 1), by omega, ?_, by omega, ?_, by omega⟩
                        · refine rd_wt_push (w := A 115) r1534 (fun j hj => (bh_up_j (by omega)).trans (a1527 115 j (by omega))) (Or.inr (Or.inr ⟨?_, rfl, r1539, rfl, rfl⟩))
                          rw [← en, bh_up_i]
                          have hk8 : (mm_nar 0 ((A1526 91 ((s 11)).toInt.toNat))).toInt = ((A1526 91 ((s 11)).toInt.toNat)).toInt := rfl
                          omega
                        · rw [((f1556 39 (by decide) (by decide) (by decide)).trans (f1552 39 (by decide)))]
                          exact r1537
                  · replace k1433 : ¬ ((c1426).toInt ≠ 0) := k1433
                    omega
        · replace k949 : ¬ (((s 12)).toInt ≤ (b).toInt) := k949
          refine bh_ld (pc' := 114) bt_26_113 rfl rfl (fun _ _ _ => rfl) g0 rfl ?_
          refine bh_c (pc' := 115) (n := 0) bt_26_114 rfl rfl (fun _ _ _ => rfl) (by decide) (fun c1558 e1559 => ?_)
          refine bh_cv (pc' := 118) (st := []) (args := [.int c1558]) bt_26_115 rfl rfl (by decide) hP (by omega) rfl (Nat.le_of_ble_eq_true rfl) (Nat.le_of_ble_eq_true rfl) ?_
          refine rd_out (n + 1) n (Nat.lt_succ_self _) c1558 hP (by simp only [List.length_cons]; omega) rfl rfl rfl rfl (by omega) (s0 39).toInt.toNat opn g p y2 (by omega) (by omega) (by omega) y4 (by omega) (fun h1560 s1561 A1564 hP1562 f1563 a1565 q1566 => ?_)
          obtain ⟨n1567, g1568, p1569, r1570, r1571, r1572, r1573, r1574, r1575, r1576, r1577, r1578⟩ := q1566
          show bh_G E FIN ((26, 118, lv, [], 0, 0) :: gs, _, none)
          have l1579 := rd_wt_len _ _ _ _ r1572
          refine bh_ld (pc' := 119) bt_26_118 rfl rfl (fun _ _ _ => rfl) g0 rfl ?_
          refine bh_dup (pc' := 120) bt_26_119 rfl rfl ?_
          refine bh_gi (pc' := 123) bt_26_120 rfl rfl (fun _ _ _ => rfl) hP1562 bx_i43 rfl ?_
          refine bh_c (pc' := 124) (n := 1) bt_26_123 rfl rfl (fun _ _ _ => rfl) (by decide) (fun c1580 e1581 => ?_)
          refine bh_sub (pc' := 125) bt_26_124 rfl (by omega) (by omega) (fun v1582 e1583 => ?_)
          refine bh_pf (pc' := 128) bt_26_125 rfl rfl (fun _ _ _ => rfl) hP1562 bx_i43 rfl (fun h1584 s1585 hP1586 e1587 f1588 => ?_)
          refine bh_ld (pc' := 129) bt_26_128 rfl rfl (fun _ _ _ => rfl) g0 rfl ?_
          refine bh_dup (pc' := 130) bt_26_129 rfl rfl ?_
          refine bh_gi (pc' := 133) bt_26_130 rfl rfl (fun _ _ _ => rfl) hP1586 bx_i12 ((f1588 12 (by decide)).trans (f1563 12 (by decide) (by decide))) ?_
          refine bh_c (pc' := 134) (n := 1) bt_26_133 rfl rfl (fun _ _ _ => rfl) (by decide) (fun c1589 e1590 => ?_)
          refine bh_sub (pc' := 135) bt_26_134 rfl (by omega) (by omega) (fun v1591 e1592 => ?_)
          refine bh_pf (pc' := 138) bt_26_135 rfl rfl (fun _ _ _ => rfl) hP1586 bx_i12 rfl (fun h1593 s1594 hP1595 e1596 f1597 => ?_)
          refine bh_ld (pc' := 139) bt_26_138 rfl rfl (fun _ _ _ => rfl) g0 rfl ?_
          refine bh_cv (pc' := 142) (st := []) (args := []) bt_26_139 rfl rfl (by decide) hP1595 (by omega) rfl (Nat.le_of_ble_eq_true rfl) (Nat.le_of_ble_eq_true rfl) ?_
          refine sp_37 hP1595 (by simp only [List.length_cons]; omega) ((f1597 11 (by decide)).trans ((f1588 11 (by decide)).trans (f1563 11 (by decide) (by decide)))) ((f1597 13 (by decide)).trans ((f1588 13 (by decide)).trans (f1563 13 (by decide) (by decide)))) (by omega) (by omega) (by omega) (fun h1598 s1599 hP1600 f1601 p1602 => ?_)
          show bh_G E FIN ((26, 142, lv, [], 0, 0) :: gs, _, none)
          refine bh_go (pc' := 96) bt_26_142 rfl ?_
          have z12 := congrArg Int32.toInt ((f1601 12 (by decide) (by decide) (by decide)).trans e1596)
          have z39 := congrArg Int32.toInt ((f1601 39 (by decide) (by decide) (by decide)).trans ((f1597 39 (by decide)).trans (f1588 39 (by decide))))
          have z43 := congrArg Int32.toInt ((f1601 43 (by decide) (by decide) (by decide)).trans ((f1597 43 (by decide)).trans e1587))
          have hg0 : g1568 = 0 := r1576 (by omega)
          rw [hg0] at r1572
          obtain ⟨o1, g9, o2⟩ := rd_wt_o r1572 (by omega)
          refine (ih _ _ _ _ _ hP1600 g0 g1 (by omega) (by omega)).2 ?_
          refine ⟨(fun j j11 j12 j13 j14 j39 j43 => ((fun j j11 j12 j13 j14 j39 j43 => ((f1601 j j11 j13 j14).trans ((f1597 j j12).trans ((f1588 j j43).trans (f1563 j j39 j43))))) j j11 j12 j13 j14 j39 j43).trans (x1 j j11 j12 j13 j14 j39 j43)), (fun k j u v => ((a1565 k j (by omega)).trans (x2 k j (by omega) v))), by omega, by omega, by omega, by omega, by omega, by omega, by omega, (n1567 - 1), (opn - 1), g9, p1569, by omega, ?_, by omega, ?_, by omega⟩
          · exact rd_wt_congr _ _ _ _ (fun j hj => a1565 115 j (by omega)) o2
          · rw [((f1601 39 (by decide) (by decide) (by decide)).trans ((f1597 39 (by decide)).trans (f1588 39 (by decide))))]
            exact r1575
set_option maxHeartbeats 40000000 in
theorem sp_26 {s0 : Nat → Int32} {A0 : Nat → Nat → Int32} (hP : bh_P bx_T E h0 h s0 A0 L) (hd : gs.length + 4 ≤ 999) (hT0 : 0 ≤ (s0 11).toInt) (hT4 : (s0 11).toInt ≤ 400) (hF0 : 0 ≤ (s0 13).toInt) (hO0 : 0 ≤ (s0 12).toInt) (hO7 : (s0 12).toInt ≤ 7) (hO6 : (s0 13).toInt = 0 → (s0 12).toInt ≤ 6) (hC0 : 0 ≤ (s0 39).toInt) (hCb : (s0 13).toInt = 0 → (s0 39).toInt ≤ (s0 11).toInt + 420) (kk : ∀ (h' : mm_H) (s' : Nat → Int32) (A' : Nat → Nat → Int32), bh_P bx_T E h0 h' s' A' L → rd_Y s0 s' A0 A' → bh_G E FIN (mm_back none gs h')) : bh_G E FIN ((26, 0, [(0, .ref (E.1 + 88))], [], 0, 0) :: gs, h, none) := by
  have i12 : ∀ (h : mm_H) (s : Nat → Int32) (A : Nat → Nat → Int32) (lv : mm_V) (o : Option Value) (m : Int32), bh_P bx_T E h0 h s A L → mm_get lv 0 = some (.ref (E.1 + 88)) → mm_get lv 1 = some (.int (s0 12)) → mm_get lv 2 = some (.int m) → m.toInt = 1 → ((s 13).toInt = 0 → 0 < (402 : Int) ∧ 401 - (s 11).toInt < (402 : Int)) → rd_Z s0 s A0 A → bh_G E FIN ((26, 12, lv, [], 0, 0) :: gs, h, o) := by
    have rr := rd_expr (FIN := FIN) (h0 := h0) (L := L) (gs := gs) (A0 := A0) hT0 hO0 hC0 hCb hd (b := s0 12) rfl kk 402
    intro h s A lv o m hP g0 g1 g2 hm hN hZ
    obtain ⟨x1, x2, x3, x4, x5, x6, x7, x8, x9, x10, x11⟩ := hZ
    refine bh_ld (pc' := 13) bt_26_12 rfl rfl (fun _ _ _ => rfl) g2 rfl ?_
    refine bh_i0 (pc' := 16) (pt := 272) bt_26_13 rfl rfl (fun k1621 => ?_) (fun k1621 => ?_)
    · replace k1621 : (m).toInt = 0 := k1621
      omega
    · replace k1621 : ¬ ((m).toInt = 0) := k1621
      refine bh_ld (pc' := 17) bt_26_16 rfl rfl (fun _ _ _ => rfl) g0 rfl ?_
      refine bh_gi (pc' := 20) bt_26_17 rfl rfl (fun _ _ _ => rfl) hP bx_i13 rfl ?_
      refine bh_i0 (pc' := 23) (pt := 272) bt_26_20 rfl rfl (fun k1622 => ?_) (fun k1622 => ?_)
      · replace k1622 : ((s 13)).toInt ≠ 0 := k1622
        refine bh_rv bt_26_272 ?_
        refine kk _ _ _ hP ⟨(fun j j11 j12 j13 j14 j39 j43 => ((fun j j11 j12 j13 j14 j39 j43 => rfl) j j11 j12 j13 j14 j39 j43).trans (x1 j j11 j12 j13 j14 j39 j43)), (fun k j u v => (x2 k j (by omega) v)), by omega, by omega, by omega, by omega, by omega, by omega, by omega, by omega, fun hF => by omega⟩
      · replace k1622 : ¬ (((s 13)).toInt ≠ 0) := k1622
        exact (rr _ _ _ _ _ hP g0 g1 (by omega) (by omega)).1 (x11 (by omega))
  refine bh_ld (pc' := 1) bt_26_0 rfl rfl (fun _ _ _ => rfl) rfl rfl ?_
  refine bh_c (pc' := 2) (n := 0) bt_26_1 rfl rfl (fun _ _ _ => rfl) (by decide) (fun c1603 e1604 => ?_)
  refine bh_pf (pc' := 5) bt_26_2 rfl rfl (fun _ _ _ => rfl) hP bx_i43 rfl (fun h1605 s1606 hP1607 e1608 f1609 => ?_)
  refine bh_ld (pc' := 6) bt_26_5 rfl rfl (fun _ _ _ => rfl) rfl rfl ?_
  refine bh_gi (pc' := 9) bt_26_6 rfl rfl (fun _ _ _ => rfl) hP1607 bx_i12 (f1609 12 (by decide)) ?_
  refine bh_st (pc' := 10) bt_26_9 rfl rfl (fun _ _ _ => rfl) rfl (by decide) (by decide) (fun lv1610 F1611 g1612 => ?_)
  have g1613 := F1611 0 (.ref (E.1 + 88)) rfl (by decide) (Or.inl rfl)
  refine bh_c (pc' := 11) (n := 1) bt_26_10 rfl rfl (fun _ _ _ => rfl) (by decide) (fun c1614 e1615 => ?_)
  refine bh_st (pc' := 12) bt_26_11 rfl rfl (fun _ _ _ => rfl) rfl (by decide) (by decide) (fun lv1616 F1617 g1618 => ?_)
  have g1619 := F1617 0 (.ref (E.1 + 88)) g1613 (by decide) (Or.inl rfl)
  have g1620 := F1617 1 (.int (s0 12)) g1612 (by decide) (Or.inl rfl)
  have z11 := congrArg Int32.toInt (f1609 11 (by decide))
  have z12 := congrArg Int32.toInt (f1609 12 (by decide))
  have z13 := congrArg Int32.toInt (f1609 13 (by decide))
  have z39 := congrArg Int32.toInt (f1609 39 (by decide))
  have z43 := congrArg Int32.toInt e1608
  refine i12 _ _ _ _ _ _ hP1607 g1619 g1620 g1618 (by omega) (by omega) ⟨(fun j j11 j12 j13 j14 j39 j43 => (f1609 j j43)), fun _ _ _ _ => rfl, by omega, by omega, by omega, by omega, by omega, by omega, by omega, by omega, fun hF => ⟨(fun j j11 j12 j13 j14 j39 j43 => (f1609 j j43)), fun _ _ _ _ => rfl, by omega, by omega, by omega, by omega, by omega, by omega, by omega, 0, 0, 0, 0, by omega, ⟨rfl, rfl, rfl⟩, by omega, ?_, by omega⟩⟩
  rw [(f1609 39 (by decide)), Nat.sub_self]
  exact rfl
end BX
