/-! BY HAND: the reference's reader, 3: terms and laws (wip/p3/bh3.py) -/
/-- what a term leaves -/
def rd_U (s0 s : Nat → Int32) (A0 A : Nat → Nat → Int32) : Prop := (∀ j, j ≠ 11 → j ≠ 12 → j ≠ 13 → j ≠ 14 → j ≠ 33 → j ≠ 39 → j ≠ 43 → s j = s0 j) ∧ (∀ k j, ¬ ((k = 113 ∨ k = 114) ∧ (s0 39).toInt.toNat ≤ j ∧ j < (s 39).toInt.toNat) → ¬ ((k = 111 ∨ k = 112) ∧ j = (s0 33).toInt.toNat) → k ≠ 115 → A k j = A0 k j) ∧ (s0 11).toInt ≤ (s 11).toInt ∧ (s 11).toInt ≤ 400 ∧ 0 ≤ (s 13).toInt ∧ (s0 39).toInt ≤ (s 39).toInt ∧ (s 39).toInt - (s0 39).toInt ≤ (s 11).toInt - (s0 11).toInt + 1 ∧ 0 ≤ (s 12).toInt ∧ (s 12).toInt ≤ 7 ∧ (0 < (s0 13).toInt → (s 39).toInt = (s0 39).toInt ∧ 0 < (s 13).toInt) ∧ (s 33).toInt = (s0 33).toInt + 1 ∧ ((s 13).toInt = 0 → (s 12).toInt = (s0 12).toInt ∧ (s0 11).toInt + 1 ≤ (s 11).toInt ∧ (s 39).toInt - (s0 39).toInt ≤ (s 11).toInt - (s0 11).toInt ∧ (A 111 (s0 33).toInt.toNat).toInt = (s0 39).toInt ∧ (A 112 (s0 33).toInt.toNat).toInt = (s 39).toInt ∧ rd_pf (A 113) (A 114) (s0 39).toInt.toNat ((s 39).toInt.toNat - (s0 39).toInt.toNat) 1)
/-- within a law, ahead of an if or the last term -/
def rd_V (s0 s : Nat → Int32) (A0 A : Nat → Nat → Int32) : Prop := (∀ j, j ≠ 11 → j ≠ 12 → j ≠ 13 → j ≠ 14 → j ≠ 33 → j ≠ 39 → j ≠ 43 → s j = s0 j) ∧ (∀ k j, ¬ ((k = 113 ∨ k = 114) ∧ (s0 39).toInt.toNat ≤ j ∧ j < (s 39).toInt.toNat) → ¬ (108 ≤ k ∧ k ≤ 112 ∧ (s0 33).toInt.toNat ≤ j ∧ j < (s 33).toInt.toNat) → k ≠ 115 → A k j = A0 k j) ∧ (s0 11).toInt ≤ (s 11).toInt ∧ (s 11).toInt ≤ 400 ∧ 0 ≤ (s 13).toInt ∧ (s0 39).toInt ≤ (s 39).toInt ∧ (s 39).toInt - (s0 39).toInt ≤ (s 11).toInt - (s0 11).toInt + 1 ∧ 0 ≤ (s 12).toInt ∧ (s 12).toInt ≤ 7 ∧ (s0 33).toInt ≤ (s 33).toInt ∧ 4 * ((s 33).toInt - (s0 33).toInt) ≤ (s 11).toInt - (s0 11).toInt + 4 ∧ (0 < (s0 13).toInt → (s 39).toInt = (s0 39).toInt ∧ 0 < (s 13).toInt) ∧ ((s 13).toInt = 0 → (s 12).toInt = (s0 12).toInt ∧ 4 * ((s 33).toInt - (s0 33).toInt) + 1 ≤ (s 11).toInt - (s0 11).toInt ∧ (s 39).toInt - (s0 39).toInt ≤ (s 11).toInt - (s0 11).toInt ∧ ∀ b : Nat, (s0 33).toInt.toNat ≤ b → b < (s 33).toInt.toNat → rd_B A (s0 39).toInt.toNat (s 39).toInt.toNat b)
/-- what a law leaves -/
def rd_R (k : Int32) (s0 s : Nat → Int32) (A0 A : Nat → Nat → Int32) : Prop := (∀ j, j ≠ 11 → j ≠ 12 → j ≠ 13 → j ≠ 14 → j ≠ 33 → j ≠ 39 → j ≠ 43 → s j = s0 j) ∧ (∀ k' j, ¬ ((k' = 113 ∨ k' = 114) ∧ (s0 39).toInt.toNat ≤ j ∧ j < (s 39).toInt.toNat) → ¬ (108 ≤ k' ∧ k' ≤ 112 ∧ (s0 33).toInt.toNat ≤ j ∧ j < (s 33).toInt.toNat) → ¬ ((k' = 106 ∨ k' = 107) ∧ (s 13).toInt = 0 ∧ j = (7 * (s0 19).toInt + k.toInt).toNat) → k' ≠ 115 → A k' j = A0 k' j) ∧ (s0 11).toInt ≤ (s 11).toInt ∧ (s 11).toInt ≤ 400 ∧ 0 ≤ (s 13).toInt ∧ (s0 39).toInt ≤ (s 39).toInt ∧ (s 39).toInt - (s0 39).toInt ≤ (s 11).toInt - (s0 11).toInt + 1 ∧ 0 ≤ (s 12).toInt ∧ (s 12).toInt ≤ 7 ∧ (s0 33).toInt ≤ (s 33).toInt ∧ 4 * ((s 33).toInt - (s0 33).toInt) ≤ (s 11).toInt - (s0 11).toInt + 8 ∧ (0 < (s0 13).toInt → (s 39).toInt = (s0 39).toInt ∧ 0 < (s 13).toInt) ∧ ((s 13).toInt = 0 → (s 12).toInt = (s0 12).toInt ∧ (s0 11).toInt + 1 ≤ (s 11).toInt ∧ 4 * ((s 33).toInt - (s0 33).toInt) ≤ (s 11).toInt - (s0 11).toInt + 1 ∧ (s 39).toInt - (s0 39).toInt ≤ (s 11).toInt - (s0 11).toInt ∧ (A 106 (7 * (s0 19).toInt + k.toInt).toNat).toInt = (s0 33).toInt ∧ (A 107 (7 * (s0 19).toInt + k.toInt).toNat).toInt = (s 33).toInt ∧ ∀ b : Nat, (s0 33).toInt.toNat ≤ b → b < (s 33).toInt.toNat → rd_B A (s0 39).toInt.toNat (s 39).toInt.toNat b)
theorem rd_W_of {A A1 : Nat → Nat → Int32} {u v : Int32} {c c1 : Int} {lo hi : Nat} (hu : u.toInt = c) (hv : v.toInt = c1) (h1 : (lo : Int) ≤ c) (h2 : c ≤ c1) (h3 : c1 ≤ (hi : Int)) (hp : rd_pf (A1 113) (A1 114) c.toNat (c1.toNat - c.toNat) 1) (hj : ∀ j, j < c1.toNat → A 113 j = A1 113 j ∧ A 114 j = A1 114 j) : rd_W A lo hi u v := by
  refine ⟨by omega, by omega, by omega, ?_⟩
  have e : (v.toInt - u.toInt).toNat = c1.toNat - c.toNat := by omega
  rw [e, hu]
  exact rd_pf_congr _ _ (fun j g1 g2 => hj j (by omega)) hp
theorem bt_97_0 : mm_at mt_P 97 0 = some ((0, 1, .aload_n 0, 0, 0, 0, 0), 4, 1, 1, 9, 0, 0, 0) := rfl
theorem bt_97_1 : mm_at mt_P 97 1 = some ((1, 1, .iconst 5, 0, 0, 0, 0), 4, 1, 1, 9, 0, 0, 0) := rfl
theorem bt_97_2 : mm_at mt_P 97 2 = some ((2, 3, .invokevirtual 267, 67, 0, 0, 1495), 4, 1, 1, 9, 0, 0, 0) := rfl
theorem bt_97_5 : mm_at mt_P 97 5 = some ((5, 1, .aload_n 0, 0, 0, 0, 0), 4, 1, 1, 9, 0, 0, 0) := rfl
theorem bt_97_6 : mm_at mt_P 97 6 = some ((6, 3, .getfield 242, 9, 33, 0, 1250), 4, 1, 1, 9, 0, 0, 0) := rfl
theorem bt_97_9 : mm_at mt_P 97 9 = some ((9, 1, .istore_n 2, 0, 0, 0, 0), 4, 1, 1, 9, 0, 0, 0) := rfl
theorem bt_97_10 : mm_at mt_P 97 10 = some ((10, 1, .iconst 0, 0, 0, 0, 0), 4, 1, 1, 9, 0, 0, 0) := rfl
theorem bt_97_11 : mm_at mt_P 97 11 = some ((11, 1, .istore_n 3, 0, 0, 0, 0), 4, 1, 1, 9, 0, 0, 0) := rfl
theorem bt_97_12 : mm_at mt_P 97 12 = some ((12, 1, .aload_n 0, 0, 0, 0, 0), 4, 1, 1, 9, 0, 0, 0) := rfl
theorem bt_97_13 : mm_at mt_P 97 13 = some ((13, 3, .getfield 203, 9, 13, 0, 1230), 4, 1, 1, 9, 0, 0, 0) := rfl
theorem bt_97_16 : mm_at mt_P 97 16 = some ((16, 3, .ifCond .ne 113, 0, 0, 0, 0), 4, 1, 1, 9, 0, 0, 0) := rfl
theorem bt_97_19 : mm_at mt_P 97 19 = some ((19, 1, .aload_n 0, 0, 0, 0, 0), 4, 1, 1, 9, 0, 0, 0) := rfl
theorem bt_97_20 : mm_at mt_P 97 20 = some ((20, 2, .bipush 32, 0, 0, 0, 0), 4, 1, 1, 9, 0, 0, 0) := rfl
theorem bt_97_22 : mm_at mt_P 97 22 = some ((22, 3, .invokevirtual 221, 45, 0, 0, 1475), 4, 1, 1, 9, 0, 0, 0) := rfl
theorem bt_97_25 : mm_at mt_P 97 25 = some ((25, 3, .ifCond .eq 104, 0, 0, 0, 0), 4, 1, 1, 9, 0, 0, 0) := rfl
theorem bt_97_28 : mm_at mt_P 97 28 = some ((28, 1, .iload_n 3, 0, 0, 0, 0), 4, 1, 1, 9, 0, 0, 0) := rfl
theorem bt_97_29 : mm_at mt_P 97 29 = some ((29, 1, .iconst 4, 0, 0, 0, 0), 4, 1, 1, 9, 0, 0, 0) := rfl
theorem bt_97_30 : mm_at mt_P 97 30 = some ((30, 3, .if_icmp .ne 8, 0, 0, 0, 0), 4, 1, 1, 9, 0, 0, 0) := rfl
theorem bt_97_33 : mm_at mt_P 97 33 = some ((33, 1, .aload_n 0, 0, 0, 0, 0), 4, 1, 1, 9, 0, 0, 0) := rfl
theorem bt_97_34 : mm_at mt_P 97 34 = some ((34, 1, .iconst 2, 0, 0, 0, 0), 4, 1, 1, 9, 0, 0, 0) := rfl
theorem bt_97_35 : mm_at mt_P 97 35 = some ((35, 3, .invokevirtual 218, 27, 0, 0, 1483), 4, 1, 1, 9, 0, 0, 0) := rfl
theorem bt_97_38 : mm_at mt_P 97 38 = some ((38, 1, .aload_n 0, 0, 0, 0, 0), 4, 1, 1, 9, 0, 0, 0) := rfl
theorem bt_97_39 : mm_at mt_P 97 39 = some ((39, 3, .getfield 203, 9, 13, 0, 1230), 4, 1, 1, 9, 0, 0, 0) := rfl
theorem bt_97_42 : mm_at mt_P 97 42 = some ((42, 3, .ifCond .le 4, 0, 0, 0, 0), 4, 1, 1, 9, 0, 0, 0) := rfl
theorem bt_97_45 : mm_at mt_P 97 45 = some ((45, 1, .return_, 0, 0, 0, 0), 4, 1, 1, 9, 0, 0, 0) := rfl
theorem bt_97_46 : mm_at mt_P 97 46 = some ((46, 3, .iinc 3 1, 0, 0, 0, 0), 4, 1, 1, 9, 0, 0, 0) := rfl
theorem bt_97_49 : mm_at mt_P 97 49 = some ((49, 1, .aload_n 0, 0, 0, 0, 0), 4, 1, 1, 9, 0, 0, 0) := rfl
theorem bt_97_50 : mm_at mt_P 97 50 = some ((50, 3, .invokevirtual 224, 37, 0, 0, 1491), 4, 1, 1, 9, 0, 0, 0) := rfl
theorem bt_97_53 : mm_at mt_P 97 53 = some ((53, 1, .aload_n 0, 0, 0, 0, 0), 4, 1, 1, 9, 0, 0, 0) := rfl
theorem bt_97_54 : mm_at mt_P 97 54 = some ((54, 3, .getfield 76, 9, 34, 0, 1251), 4, 1, 1, 9, 0, 0, 0) := rfl
theorem bt_97_57 : mm_at mt_P 97 57 = some ((57, 1, .aload_n 0, 0, 0, 0, 0), 4, 1, 1, 9, 0, 0, 0) := rfl
theorem bt_97_58 : mm_at mt_P 97 58 = some ((58, 3, .getfield 242, 9, 33, 0, 1250), 4, 1, 1, 9, 0, 0, 0) := rfl
theorem bt_97_61 : mm_at mt_P 97 61 = some ((61, 1, .iconst 1, 0, 0, 0, 0), 4, 1, 1, 9, 0, 0, 0) := rfl
theorem bt_97_62 : mm_at mt_P 97 62 = some ((62, 1, .bastore, 0, 0, 0, 0), 4, 1, 1, 9, 0, 0, 0) := rfl
theorem bt_97_63 : mm_at mt_P 97 63 = some ((63, 1, .aload_n 0, 0, 0, 0, 0), 4, 1, 1, 9, 0, 0, 0) := rfl
theorem bt_97_64 : mm_at mt_P 97 64 = some ((64, 3, .getfield 80, 9, 35, 0, 1252), 4, 1, 1, 9, 0, 0, 0) := rfl
theorem bt_97_67 : mm_at mt_P 97 67 = some ((67, 1, .aload_n 0, 0, 0, 0, 0), 4, 1, 1, 9, 0, 0, 0) := rfl
theorem bt_97_68 : mm_at mt_P 97 68 = some ((68, 3, .getfield 242, 9, 33, 0, 1250), 4, 1, 1, 9, 0, 0, 0) := rfl
theorem bt_97_71 : mm_at mt_P 97 71 = some ((71, 1, .aload_n 0, 0, 0, 0, 0), 4, 1, 1, 9, 0, 0, 0) := rfl
theorem bt_97_72 : mm_at mt_P 97 72 = some ((72, 3, .getfield 245, 9, 39, 0, 1256), 4, 1, 1, 9, 0, 0, 0) := rfl
theorem bt_97_75 : mm_at mt_P 97 75 = some ((75, 1, .iastore, 0, 0, 0, 0), 4, 1, 1, 9, 0, 0, 0) := rfl
theorem bt_97_76 : mm_at mt_P 97 76 = some ((76, 1, .aload_n 0, 0, 0, 0, 0), 4, 1, 1, 9, 0, 0, 0) := rfl
theorem bt_97_77 : mm_at mt_P 97 77 = some ((77, 3, .invokevirtual 277, 26, 0, 0, 1511), 4, 1, 1, 9, 0, 0, 0) := rfl
theorem bt_97_80 : mm_at mt_P 97 80 = some ((80, 1, .aload_n 0, 0, 0, 0, 0), 4, 1, 1, 9, 0, 0, 0) := rfl
theorem bt_97_81 : mm_at mt_P 97 81 = some ((81, 2, .bipush 13, 0, 0, 0, 0), 4, 1, 1, 9, 0, 0, 0) := rfl
theorem bt_97_83 : mm_at mt_P 97 83 = some ((83, 3, .invokevirtual 267, 67, 0, 0, 1495), 4, 1, 1, 9, 0, 0, 0) := rfl
theorem bt_97_86 : mm_at mt_P 97 86 = some ((86, 1, .aload_n 0, 0, 0, 0, 0), 4, 1, 1, 9, 0, 0, 0) := rfl
theorem bt_97_87 : mm_at mt_P 97 87 = some ((87, 3, .getfield 83, 9, 36, 0, 1253), 4, 1, 1, 9, 0, 0, 0) := rfl
theorem bt_97_90 : mm_at mt_P 97 90 = some ((90, 1, .aload_n 0, 0, 0, 0, 0), 4, 1, 1, 9, 0, 0, 0) := rfl
theorem bt_97_91 : mm_at mt_P 97 91 = some ((91, 3, .getfield 242, 9, 33, 0, 1250), 4, 1, 1, 9, 0, 0, 0) := rfl
theorem bt_97_94 : mm_at mt_P 97 94 = some ((94, 1, .aload_n 0, 0, 0, 0, 0), 4, 1, 1, 9, 0, 0, 0) := rfl
theorem bt_97_95 : mm_at mt_P 97 95 = some ((95, 3, .getfield 245, 9, 39, 0, 1256), 4, 1, 1, 9, 0, 0, 0) := rfl
theorem bt_97_98 : mm_at mt_P 97 98 = some ((98, 1, .iastore, 0, 0, 0, 0), 4, 1, 1, 9, 0, 0, 0) := rfl
theorem bt_97_99 : mm_at mt_P 97 99 = some ((99, 1, .aload_n 0, 0, 0, 0, 0), 4, 1, 1, 9, 0, 0, 0) := rfl
theorem bt_97_100 : mm_at mt_P 97 100 = some ((100, 3, .getfield 203, 9, 13, 0, 1230), 4, 1, 1, 9, 0, 0, 0) := rfl
theorem bt_97_103 : mm_at mt_P 97 103 = some ((103, 3, .ifCond .ne 7, 0, 0, 0, 0), 4, 1, 1, 9, 0, 0, 0) := rfl
theorem bt_97_106 : mm_at mt_P 97 106 = some ((106, 1, .aload_n 0, 0, 0, 0, 0), 4, 1, 1, 9, 0, 0, 0) := rfl
theorem bt_97_107 : mm_at mt_P 97 107 = some ((107, 3, .invokevirtual 277, 26, 0, 0, 1511), 4, 1, 1, 9, 0, 0, 0) := rfl
theorem bt_97_110 : mm_at mt_P 97 110 = some ((110, 1, .aload_n 0, 0, 0, 0, 0), 4, 1, 1, 9, 0, 0, 0) := rfl
theorem bt_97_111 : mm_at mt_P 97 111 = some ((111, 2, .bipush 33, 0, 0, 0, 0), 4, 1, 1, 9, 0, 0, 0) := rfl
theorem bt_97_113 : mm_at mt_P 97 113 = some ((113, 3, .invokevirtual 267, 67, 0, 0, 1495), 4, 1, 1, 9, 0, 0, 0) := rfl
theorem bt_97_116 : mm_at mt_P 97 116 = some ((116, 1, .aload_n 0, 0, 0, 0, 0), 4, 1, 1, 9, 0, 0, 0) := rfl
theorem bt_97_117 : mm_at mt_P 97 117 = some ((117, 3, .invokevirtual 280, 100, 0, 0, 1527), 4, 1, 1, 9, 0, 0, 0) := rfl
theorem bt_97_120 : mm_at mt_P 97 120 = some ((120, 1, .aload_n 0, 0, 0, 0, 0), 4, 1, 1, 9, 0, 0, 0) := rfl
theorem bt_97_121 : mm_at mt_P 97 121 = some ((121, 2, .bipush 34, 0, 0, 0, 0), 4, 1, 1, 9, 0, 0, 0) := rfl
theorem bt_97_123 : mm_at mt_P 97 123 = some ((123, 3, .invokevirtual 267, 67, 0, 0, 1495), 4, 1, 1, 9, 0, 0, 0) := rfl
theorem bt_97_126 : mm_at mt_P 97 126 = some ((126, 3, .goto (-114), 0, 0, 0, 0), 4, 1, 1, 9, 0, 0, 0) := rfl
theorem bt_97_129 : mm_at mt_P 97 129 = some ((129, 1, .aload_n 0, 0, 0, 0, 0), 4, 1, 1, 9, 0, 0, 0) := rfl
theorem bt_97_130 : mm_at mt_P 97 130 = some ((130, 3, .getfield 76, 9, 34, 0, 1251), 4, 1, 1, 9, 0, 0, 0) := rfl
theorem bt_97_133 : mm_at mt_P 97 133 = some ((133, 1, .aload_n 0, 0, 0, 0, 0), 4, 1, 1, 9, 0, 0, 0) := rfl
theorem bt_97_134 : mm_at mt_P 97 134 = some ((134, 3, .getfield 242, 9, 33, 0, 1250), 4, 1, 1, 9, 0, 0, 0) := rfl
theorem bt_97_137 : mm_at mt_P 97 137 = some ((137, 1, .iconst 0, 0, 0, 0, 0), 4, 1, 1, 9, 0, 0, 0) := rfl
theorem bt_97_138 : mm_at mt_P 97 138 = some ((138, 1, .bastore, 0, 0, 0, 0), 4, 1, 1, 9, 0, 0, 0) := rfl
theorem bt_97_139 : mm_at mt_P 97 139 = some ((139, 1, .aload_n 0, 0, 0, 0, 0), 4, 1, 1, 9, 0, 0, 0) := rfl
theorem bt_97_140 : mm_at mt_P 97 140 = some ((140, 3, .invokevirtual 280, 100, 0, 0, 1527), 4, 1, 1, 9, 0, 0, 0) := rfl
theorem bt_97_143 : mm_at mt_P 97 143 = some ((143, 1, .aload_n 0, 0, 0, 0, 0), 4, 1, 1, 9, 0, 0, 0) := rfl
theorem bt_97_144 : mm_at mt_P 97 144 = some ((144, 1, .iconst 4, 0, 0, 0, 0), 4, 1, 1, 9, 0, 0, 0) := rfl
theorem bt_97_145 : mm_at mt_P 97 145 = some ((145, 3, .invokevirtual 267, 67, 0, 0, 1495), 4, 1, 1, 9, 0, 0, 0) := rfl
theorem bt_97_148 : mm_at mt_P 97 148 = some ((148, 1, .aload_n 0, 0, 0, 0, 0), 4, 1, 1, 9, 0, 0, 0) := rfl
theorem bt_97_149 : mm_at mt_P 97 149 = some ((149, 3, .getfield 203, 9, 13, 0, 1230), 4, 1, 1, 9, 0, 0, 0) := rfl
theorem bt_97_152 : mm_at mt_P 97 152 = some ((152, 3, .ifCond .le 4, 0, 0, 0, 0), 4, 1, 1, 9, 0, 0, 0) := rfl
theorem bt_97_155 : mm_at mt_P 97 155 = some ((155, 1, .return_, 0, 0, 0, 0), 4, 1, 1, 9, 0, 0, 0) := rfl
theorem bt_97_156 : mm_at mt_P 97 156 = some ((156, 1, .aload_n 0, 0, 0, 0, 0), 4, 1, 1, 9, 0, 0, 0) := rfl
theorem bt_97_157 : mm_at mt_P 97 157 = some ((157, 3, .getfield 70, 9, 31, 0, 1248), 4, 1, 1, 9, 0, 0, 0) := rfl
theorem bt_97_160 : mm_at mt_P 97 160 = some ((160, 2, .bipush 7, 0, 0, 0, 0), 4, 1, 1, 9, 0, 0, 0) := rfl
theorem bt_97_162 : mm_at mt_P 97 162 = some ((162, 1, .aload_n 0, 0, 0, 0, 0), 4, 1, 1, 9, 0, 0, 0) := rfl
theorem bt_97_163 : mm_at mt_P 97 163 = some ((163, 3, .getfield 236, 9, 19, 0, 1236), 4, 1, 1, 9, 0, 0, 0) := rfl
theorem bt_97_166 : mm_at mt_P 97 166 = some ((166, 1, .imul, 0, 0, 0, 0), 4, 1, 1, 9, 0, 0, 0) := rfl
theorem bt_97_167 : mm_at mt_P 97 167 = some ((167, 1, .iload_n 1, 0, 0, 0, 0), 4, 1, 1, 9, 0, 0, 0) := rfl
theorem bt_97_168 : mm_at mt_P 97 168 = some ((168, 1, .iadd, 0, 0, 0, 0), 4, 1, 1, 9, 0, 0, 0) := rfl
theorem bt_97_169 : mm_at mt_P 97 169 = some ((169, 1, .iload_n 2, 0, 0, 0, 0), 4, 1, 1, 9, 0, 0, 0) := rfl
theorem bt_97_170 : mm_at mt_P 97 170 = some ((170, 1, .iastore, 0, 0, 0, 0), 4, 1, 1, 9, 0, 0, 0) := rfl
theorem bt_97_171 : mm_at mt_P 97 171 = some ((171, 1, .aload_n 0, 0, 0, 0, 0), 4, 1, 1, 9, 0, 0, 0) := rfl
theorem bt_97_172 : mm_at mt_P 97 172 = some ((172, 3, .getfield 73, 9, 32, 0, 1249), 4, 1, 1, 9, 0, 0, 0) := rfl
theorem bt_97_175 : mm_at mt_P 97 175 = some ((175, 2, .bipush 7, 0, 0, 0, 0), 4, 1, 1, 9, 0, 0, 0) := rfl
theorem bt_97_177 : mm_at mt_P 97 177 = some ((177, 1, .aload_n 0, 0, 0, 0, 0), 4, 1, 1, 9, 0, 0, 0) := rfl
theorem bt_97_178 : mm_at mt_P 97 178 = some ((178, 3, .getfield 236, 9, 19, 0, 1236), 4, 1, 1, 9, 0, 0, 0) := rfl
theorem bt_97_181 : mm_at mt_P 97 181 = some ((181, 1, .imul, 0, 0, 0, 0), 4, 1, 1, 9, 0, 0, 0) := rfl
theorem bt_97_182 : mm_at mt_P 97 182 = some ((182, 1, .iload_n 1, 0, 0, 0, 0), 4, 1, 1, 9, 0, 0, 0) := rfl
theorem bt_97_183 : mm_at mt_P 97 183 = some ((183, 1, .iadd, 0, 0, 0, 0), 4, 1, 1, 9, 0, 0, 0) := rfl
theorem bt_97_184 : mm_at mt_P 97 184 = some ((184, 1, .aload_n 0, 0, 0, 0, 0), 4, 1, 1, 9, 0, 0, 0) := rfl
theorem bt_97_185 : mm_at mt_P 97 185 = some ((185, 3, .getfield 242, 9, 33, 0, 1250), 4, 1, 1, 9, 0, 0, 0) := rfl
theorem bt_97_188 : mm_at mt_P 97 188 = some ((188, 1, .iastore, 0, 0, 0, 0), 4, 1, 1, 9, 0, 0, 0) := rfl
theorem bt_97_189 : mm_at mt_P 97 189 = some ((189, 1, .return_, 0, 0, 0, 0), 4, 1, 1, 9, 0, 0, 0) := rfl
theorem bt_100_0 : mm_at mt_P 100 0 = some ((0, 1, .aload_n 0, 0, 0, 0, 0), 1, 0, 1, 9, 0, 0, 0) := rfl
theorem bt_100_1 : mm_at mt_P 100 1 = some ((1, 3, .getfield 86, 9, 37, 0, 1254), 1, 0, 1, 9, 0, 0, 0) := rfl
theorem bt_100_4 : mm_at mt_P 100 4 = some ((4, 1, .aload_n 0, 0, 0, 0, 0), 1, 0, 1, 9, 0, 0, 0) := rfl
theorem bt_100_5 : mm_at mt_P 100 5 = some ((5, 3, .getfield 242, 9, 33, 0, 1250), 1, 0, 1, 9, 0, 0, 0) := rfl
theorem bt_100_8 : mm_at mt_P 100 8 = some ((8, 1, .aload_n 0, 0, 0, 0, 0), 1, 0, 1, 9, 0, 0, 0) := rfl
theorem bt_100_9 : mm_at mt_P 100 9 = some ((9, 3, .getfield 245, 9, 39, 0, 1256), 1, 0, 1, 9, 0, 0, 0) := rfl
theorem bt_100_12 : mm_at mt_P 100 12 = some ((12, 1, .iastore, 0, 0, 0, 0), 1, 0, 1, 9, 0, 0, 0) := rfl
theorem bt_100_13 : mm_at mt_P 100 13 = some ((13, 1, .aload_n 0, 0, 0, 0, 0), 1, 0, 1, 9, 0, 0, 0) := rfl
theorem bt_100_14 : mm_at mt_P 100 14 = some ((14, 3, .getfield 203, 9, 13, 0, 1230), 1, 0, 1, 9, 0, 0, 0) := rfl
theorem bt_100_17 : mm_at mt_P 100 17 = some ((17, 3, .ifCond .ne 7, 0, 0, 0, 0), 1, 0, 1, 9, 0, 0, 0) := rfl
theorem bt_100_20 : mm_at mt_P 100 20 = some ((20, 1, .aload_n 0, 0, 0, 0, 0), 1, 0, 1, 9, 0, 0, 0) := rfl
theorem bt_100_21 : mm_at mt_P 100 21 = some ((21, 3, .invokevirtual 277, 26, 0, 0, 1511), 1, 0, 1, 9, 0, 0, 0) := rfl
theorem bt_100_24 : mm_at mt_P 100 24 = some ((24, 1, .aload_n 0, 0, 0, 0, 0), 1, 0, 1, 9, 0, 0, 0) := rfl
theorem bt_100_25 : mm_at mt_P 100 25 = some ((25, 3, .getfield 89, 9, 38, 0, 1255), 1, 0, 1, 9, 0, 0, 0) := rfl
theorem bt_100_28 : mm_at mt_P 100 28 = some ((28, 1, .aload_n 0, 0, 0, 0, 0), 1, 0, 1, 9, 0, 0, 0) := rfl
theorem bt_100_29 : mm_at mt_P 100 29 = some ((29, 3, .getfield 242, 9, 33, 0, 1250), 1, 0, 1, 9, 0, 0, 0) := rfl
theorem bt_100_32 : mm_at mt_P 100 32 = some ((32, 1, .aload_n 0, 0, 0, 0, 0), 1, 0, 1, 9, 0, 0, 0) := rfl
theorem bt_100_33 : mm_at mt_P 100 33 = some ((33, 3, .getfield 245, 9, 39, 0, 1256), 1, 0, 1, 9, 0, 0, 0) := rfl
theorem bt_100_36 : mm_at mt_P 100 36 = some ((36, 1, .iastore, 0, 0, 0, 0), 1, 0, 1, 9, 0, 0, 0) := rfl
theorem bt_100_37 : mm_at mt_P 100 37 = some ((37, 1, .aload_n 0, 0, 0, 0, 0), 1, 0, 1, 9, 0, 0, 0) := rfl
theorem bt_100_38 : mm_at mt_P 100 38 = some ((38, 1, .dup, 0, 0, 0, 0), 1, 0, 1, 9, 0, 0, 0) := rfl
theorem bt_100_39 : mm_at mt_P 100 39 = some ((39, 3, .getfield 242, 9, 33, 0, 1250), 1, 0, 1, 9, 0, 0, 0) := rfl
theorem bt_100_42 : mm_at mt_P 100 42 = some ((42, 1, .iconst 1, 0, 0, 0, 0), 1, 0, 1, 9, 0, 0, 0) := rfl
theorem bt_100_43 : mm_at mt_P 100 43 = some ((43, 1, .iadd, 0, 0, 0, 0), 1, 0, 1, 9, 0, 0, 0) := rfl
theorem bt_100_44 : mm_at mt_P 100 44 = some ((44, 3, .putfield 242, 9, 33, 0, 1250), 1, 0, 1, 9, 0, 0, 0) := rfl
theorem bt_100_47 : mm_at mt_P 100 47 = some ((47, 1, .return_, 0, 0, 0, 0), 1, 0, 1, 9, 0, 0, 0) := rfl
section BX
variable {E : mm_E} {FIN : mm_C → Prop} {h0 h : mm_H} {s : Nat → Int32} {A : Nat → Nat → Int32} {L : Nat → Nat → Int64} {gs : List mm_F}
set_option maxHeartbeats 40000000 in
theorem sp_100 {s0 : Nat → Int32} {A0 : Nat → Nat → Int32} (hP : bh_P bx_T E h0 h s0 A0 L) (hd : gs.length + 5 ≤ 999) (hT0 : 0 ≤ (s0 11).toInt) (hT4 : (s0 11).toInt ≤ 400) (hF0 : 0 ≤ (s0 13).toInt) (hO0 : 0 ≤ (s0 12).toInt) (hO7 : (s0 12).toInt ≤ 7) (hO6 : (s0 13).toInt = 0 → (s0 12).toInt ≤ 6) (hC0 : 0 ≤ (s0 39).toInt) (hCb : (s0 13).toInt = 0 → (s0 39).toInt ≤ (s0 11).toInt + 420) (hB0 : 0 ≤ (s0 33).toInt) (hB1 : (s0 33).toInt < 260) (kk : ∀ (h' : mm_H) (s' : Nat → Int32) (A' : Nat → Nat → Int32), bh_P bx_T E h0 h' s' A' L → rd_U s0 s' A0 A' → bh_G E FIN (mm_back none gs h')) : bh_G E FIN ((100, 0, [(0, .ref (E.1 + 88))], [], 0, 0) :: gs, h, none) := by
  refine bh_ld (pc' := 1) bt_100_0 rfl rfl (fun _ _ _ => rfl) rfl rfl ?_
  refine bh_gr (pc' := 4) (c := 111) bt_100_1 rfl rfl (fun _ _ _ => rfl) hP bx_r37 ?_
  refine bh_ld (pc' := 5) bt_100_4 rfl rfl (fun _ _ _ => rfl) rfl rfl ?_
  refine bh_gi (pc' := 8) bt_100_5 rfl rfl (fun _ _ _ => rfl) hP bx_i33 rfl ?_
  refine bh_ld (pc' := 9) bt_100_8 rfl rfl (fun _ _ _ => rfl) rfl rfl ?_
  refine bh_gi (pc' := 12) bt_100_9 rfl rfl (fun _ _ _ => rfl) hP bx_i39 rfl ?_
  refine bh_ias (pc' := 13) bt_100_12 rfl rfl (fun _ _ _ => rfl) hP bx_a111 (Or.inl rfl) (by omega) (by omega) (fun h1623 hP1624 => ?_)
  refine bh_ld (pc' := 14) bt_100_13 rfl rfl (fun _ _ _ => rfl) rfl rfl ?_
  refine bh_gi (pc' := 17) bt_100_14 rfl rfl (fun _ _ _ => rfl) hP1624 bx_i13 rfl ?_
  refine bh_i0 (pc' := 20) (pt := 24) bt_100_17 rfl rfl (fun k1625 => ?_) (fun k1625 => ?_)
  · replace k1625 : ((s0 13)).toInt ≠ 0 := k1625
    refine bh_ld (pc' := 25) bt_100_24 rfl rfl (fun _ _ _ => rfl) rfl rfl ?_
    refine bh_gr (pc' := 28) (c := 112) bt_100_25 rfl rfl (fun _ _ _ => rfl) hP1624 bx_r38 ?_
    refine bh_ld (pc' := 29) bt_100_28 rfl rfl (fun _ _ _ => rfl) rfl rfl ?_
    refine bh_gi (pc' := 32) bt_100_29 rfl rfl (fun _ _ _ => rfl) hP1624 bx_i33 rfl ?_
    refine bh_ld (pc' := 33) bt_100_32 rfl rfl (fun _ _ _ => rfl) rfl rfl ?_
    refine bh_gi (pc' := 36) bt_100_33 rfl rfl (fun _ _ _ => rfl) hP1624 bx_i39 rfl ?_
    refine bh_ias (pc' := 37) bt_100_36 rfl rfl (fun _ _ _ => rfl) hP1624 bx_a112 (Or.inl rfl) (by omega) (by omega) (fun h1626 hP1627 => ?_)
    refine bh_ld (pc' := 38) bt_100_37 rfl rfl (fun _ _ _ => rfl) rfl rfl ?_
    refine bh_dup (pc' := 39) bt_100_38 rfl rfl ?_
    refine bh_gi (pc' := 42) bt_100_39 rfl rfl (fun _ _ _ => rfl) hP1627 bx_i33 rfl ?_
    refine bh_c (pc' := 43) (n := 1) bt_100_42 rfl rfl (fun _ _ _ => rfl) (by decide) (fun c1628 e1629 => ?_)
    refine bh_add (pc' := 44) bt_100_43 rfl (by omega) (by omega) (fun v1630 e1631 => ?_)
    refine bh_pf (pc' := 47) bt_100_44 rfl rfl (fun _ _ _ => rfl) hP1627 bx_i33 rfl (fun h1632 s1633 hP1634 e1635 f1636 => ?_)
    refine bh_rv bt_100_47 ?_
    have z11 := congrArg Int32.toInt (f1636 11 (by decide))
    have z12 := congrArg Int32.toInt (f1636 12 (by decide))
    have z13 := congrArg Int32.toInt (f1636 13 (by decide))
    have z33 := congrArg Int32.toInt e1635
    have z39 := congrArg Int32.toInt (f1636 39 (by decide))
    exact kk _ _ _ hP1634 ⟨(fun j j11 j12 j13 j14 j33 j39 j43 => (f1636 j j33)), fun k j u1 u2 u3 => ((bh_up_o (by omega)).trans (bh_up_o (by omega))), by omega, by omega, by omega, by omega, by omega, by omega, by omega, by omega, by omega, fun hF => by omega⟩
  · replace k1625 : ¬ (((s0 13)).toInt ≠ 0) := k1625
    refine bh_ld (pc' := 21) bt_100_20 rfl rfl (fun _ _ _ => rfl) rfl rfl ?_
    refine bh_cv (pc' := 24) (st := []) (args := []) bt_100_21 rfl rfl (by decide) hP1624 (by omega) rfl (Nat.le_of_ble_eq_true rfl) (Nat.le_of_ble_eq_true rfl) ?_
    refine sp_26 hP1624 (by simp only [List.length_cons]; omega) (by omega) (by omega) (by omega) (by omega) (by omega) (by omega) (by omega) (by omega) (fun h1637 s1638 A1639 hP1640 y1641 => ?_)
    obtain ⟨f1642, a1643, w1644, w1645, w1646, w1647, w1648, w1649, w1650, w1651, w1652⟩ := y1641
    show bh_G E FIN ((100, 24, _, [], 0, 0) :: gs, _, none)
    refine bh_ld (pc' := 25) bt_100_24 rfl rfl (fun _ _ _ => rfl) rfl rfl ?_
    refine bh_gr (pc' := 28) (c := 112) bt_100_25 rfl rfl (fun _ _ _ => rfl) hP1640 bx_r38 ?_
    refine bh_ld (pc' := 29) bt_100_28 rfl rfl (fun _ _ _ => rfl) rfl rfl ?_
    refine bh_gi (pc' := 32) bt_100_29 rfl rfl (fun _ _ _ => rfl) hP1640 bx_i33 (f1642 33 (by decide) (by decide) (by decide) (by decide) (by decide) (by decide)) ?_
    refine bh_ld (pc' := 33) bt_100_32 rfl rfl (fun _ _ _ => rfl) rfl rfl ?_
    refine bh_gi (pc' := 36) bt_100_33 rfl rfl (fun _ _ _ => rfl) hP1640 bx_i39 rfl ?_
    refine bh_ias (pc' := 37) bt_100_36 rfl rfl (fun _ _ _ => rfl) hP1640 bx_a112 (Or.inl rfl) (by omega) (by omega) (fun h1653 hP1654 => ?_)
    refine bh_ld (pc' := 38) bt_100_37 rfl rfl (fun _ _ _ => rfl) rfl rfl ?_
    refine bh_dup (pc' := 39) bt_100_38 rfl rfl ?_
    refine bh_gi (pc' := 42) bt_100_39 rfl rfl (fun _ _ _ => rfl) hP1654 bx_i33 (f1642 33 (by decide) (by decide) (by decide) (by decide) (by decide) (by decide)) ?_
    refine bh_c (pc' := 43) (n := 1) bt_100_42 rfl rfl (fun _ _ _ => rfl) (by decide) (fun c1655 e1656 => ?_)
    refine bh_add (pc' := 44) bt_100_43 rfl (by omega) (by omega) (fun v1657 e1658 => ?_)
    refine bh_pf (pc' := 47) bt_100_44 rfl rfl (fun _ _ _ => rfl) hP1654 bx_i33 rfl (fun h1659 s1660 hP1661 e1662 f1663 => ?_)
    refine bh_rv bt_100_47 ?_
    have z11 := congrArg Int32.toInt (f1663 11 (by decide))
    have z12 := congrArg Int32.toInt (f1663 12 (by decide))
    have z13 := congrArg Int32.toInt (f1663 13 (by decide))
    have z33 := congrArg Int32.toInt e1662
    have z39 := congrArg Int32.toInt (f1663 39 (by decide))
    have q1 : (A1639 111 (s0 33).toInt.toNat).toInt = (s0 39).toInt := by
      rw [a1643 111 _ (by omega) (by omega), bh_up_i]
      rfl
    have q2 : ((bh_up A1639 112 ((s0 33)).toInt.toNat (mm_nar 0 (s1638 39))) 112 (s0 33).toInt.toNat).toInt = (s1638 39).toInt := by
      rw [bh_up_i]
      rfl
    refine kk _ _ _ hP1661 ⟨(fun j j11 j12 j13 j14 j33 j39 j43 => ((f1663 j j33).trans (f1642 j j11 j12 j13 j14 j39 j43))), fun k j u1 u2 u3 => ((bh_up_o (by omega)).trans ((a1643 k j (by omega) (by omega)).trans (bh_up_o (by omega)))), by omega, by omega, by omega, by omega, by omega, by omega, by omega, by omega, by omega, fun hF => ⟨by omega, by omega, by omega, q1, by omega, ?_⟩⟩
    rw [(f1663 39 (by decide))]
    exact (w1652 (by omega)).2.2.2
set_option maxHeartbeats 40000000 in
theorem rd_law {s0 : Nat → Int32} {A0 : Nat → Nat → Int32} (hd : gs.length + 6 ≤ 999) (hT0 : 0 ≤ (s0 11).toInt) (hT4 : (s0 11).toInt ≤ 400) (hF0 : 0 ≤ (s0 13).toInt) (hO0 : 0 ≤ (s0 12).toInt) (hO7 : (s0 12).toInt ≤ 7) (hO6 : (s0 13).toInt = 0 → (s0 12).toInt ≤ 6) (hC0 : 0 ≤ (s0 39).toInt) (hCb : (s0 13).toInt = 0 → (s0 39).toInt ≤ (s0 11).toInt + 420) (hB0 : 0 ≤ (s0 33).toInt) (hB1 : 4 * (s0 33).toInt ≤ (s0 11).toInt + 520) (hs0 : 0 ≤ (s0 19).toInt) (hs1 : (s0 19).toInt ≤ 1) {k : Int32} (hk0 : 0 ≤ k.toInt) (hk6 : k.toInt ≤ 6) (kk : ∀ (h' : mm_H) (s' : Nat → Int32) (A' : Nat → Nat → Int32), bh_P bx_T E h0 h' s' A' L → rd_R k s0 s' A0 A' → bh_G E FIN (mm_back none gs h')) : ∀ N : Nat, ∀ (h : mm_H) (s : Nat → Int32) (A : Nat → Nat → Int32) (lv : mm_V) (o : Option Value) (q : Int32), bh_P bx_T E h0 h s A L → mm_get lv 0 = some (.ref (E.1 + 88)) → mm_get lv 1 = some (.int k) → mm_get lv 2 = some (.int (s0 33)) → mm_get lv 3 = some (.int q) → 0 ≤ q.toInt → q.toInt ≤ 4 → (0 : Int) < N → ((s 13).toInt = 0 → 401 - (s 11).toInt < N) → rd_V s0 s A0 A → bh_G E FIN ((97, 12, lv, [], 0, 0) :: gs, h, o) := by
  intro N
  induction N with
  | zero => intro h s A lv o q _ _ _ _ _ _ _ h1; exact absurd h1 (by omega)
  | succ N ih =>
    intro h s A lv o q hP g0 g1 g2 g3 q0 q4 hN1 hN2 hV
    obtain ⟨x1, x2, x3, x4, x5, x6, x7, x8, x9, x10, x11, x12, x13⟩ := hV
    have z19 := congrArg Int32.toInt (x1 19 (by decide) (by decide) (by decide) (by decide) (by decide) (by decide) (by decide))
    refine bh_ld (pc' := 13) bt_97_12 rfl rfl (fun _ _ _ => rfl) g0 rfl ?_
    refine bh_gi (pc' := 16) bt_97_13 rfl rfl (fun _ _ _ => rfl) hP bx_i13 rfl ?_
    refine bh_i0 (pc' := 19) (pt := 129) bt_97_16 rfl rfl (fun k1664 => ?_) (fun k1664 => ?_)
    · replace k1664 : ((s 13)).toInt ≠ 0 := k1664
      refine bh_ld (pc' := 130) bt_97_129 rfl rfl (fun _ _ _ => rfl) g0 rfl ?_
      refine bh_gr (pc' := 133) (c := 108) bt_97_130 rfl rfl (fun _ _ _ => rfl) hP bx_r34 ?_
      refine bh_ld (pc' := 134) bt_97_133 rfl rfl (fun _ _ _ => rfl) g0 rfl ?_
      refine bh_gi (pc' := 137) bt_97_134 rfl rfl (fun _ _ _ => rfl) hP bx_i33 rfl ?_
      refine bh_c (pc' := 138) (n := 0) bt_97_137 rfl rfl (fun _ _ _ => rfl) (by decide) (fun c1665 e1666 => ?_)
      refine bh_ias (pc' := 139) bt_97_138 rfl rfl (fun _ _ _ => rfl) hP bx_a108 (Or.inr rfl) (by omega) (by omega) (fun h1667 hP1668 => ?_)
      refine bh_ld (pc' := 140) bt_97_139 rfl rfl (fun _ _ _ => rfl) g0 rfl ?_
      refine bh_cv (pc' := 143) (st := []) (args := []) bt_97_140 rfl rfl (by decide) hP1668 (by omega) rfl (Nat.le_of_ble_eq_true rfl) (Nat.le_of_ble_eq_true rfl) ?_
      refine sp_100 hP1668 (by simp only [List.length_cons]; omega) (by omega) (by omega) (by omega) (by omega) (by omega) (by omega) (by omega) (by omega) (by omega) (by omega) (fun h1669 s1670 A1671 hP1672 y1673 => ?_)
      obtain ⟨f1674, a1675, w1676, w1677, w1678, w1679, w1680, w1681, w1682, w1683, w1684, w1685⟩ := y1673
      show bh_G E FIN ((97, 143, lv, [], 0, 0) :: gs, _, none)
      refine bh_ld (pc' := 144) bt_97_143 rfl rfl (fun _ _ _ => rfl) g0 rfl ?_
      refine bh_c (pc' := 145) (n := 4) bt_97_144 rfl rfl (fun _ _ _ => rfl) (by decide) (fun c1686 e1687 => ?_)
      refine bh_cv (pc' := 148) (st := []) (args := [.int c1686]) bt_97_145 rfl rfl (by decide) hP1672 (by omega) rfl (Nat.le_of_ble_eq_true rfl) (Nat.le_of_ble_eq_true rfl) ?_
      refine sp_67 (k := c1686) hP1672 (by simp only [List.length_cons]; omega) rfl rfl (by omega) (by omega) (by omega) (fun h1688 s1689 hP1690 f1691 p1692 => ?_)
      show bh_G E FIN ((97, 148, lv, [], 0, 0) :: gs, _, none)
      refine bh_ld (pc' := 149) bt_97_148 rfl rfl (fun _ _ _ => rfl) g0 rfl ?_
      refine bh_gi (pc' := 152) bt_97_149 rfl rfl (fun _ _ _ => rfl) hP1690 bx_i13 rfl ?_
      refine bh_i0 (pc' := 155) (pt := 156) bt_97_152 rfl rfl (fun k1693 => ?_) (fun k1693 => ?_)
      · replace k1693 : ((s1689 13)).toInt ≤ 0 := k1693
        refine bh_ld (pc' := 157) bt_97_156 rfl rfl (fun _ _ _ => rfl) g0 rfl ?_
        refine bh_gr (pc' := 160) (c := 106) bt_97_157 rfl rfl (fun _ _ _ => rfl) hP1690 bx_r31 ?_
        refine bh_c (pc' := 162) (n := 7) bt_97_160 rfl rfl (fun _ _ _ => rfl) (by decide) (fun c1694 e1695 => ?_)
        refine bh_ld (pc' := 163) bt_97_162 rfl rfl (fun _ _ _ => rfl) g0 rfl ?_
        refine bh_gi (pc' := 166) bt_97_163 rfl rfl (fun _ _ _ => rfl) hP1690 bx_i19 ((f1691 19 (by decide) (by decide) (by decide)).trans (f1674 19 (by decide) (by decide) (by decide) (by decide) (by decide) (by decide) (by decide))) ?_
        refine bh_mul (pc' := 167) bt_97_166 rfl (by rw [e1695]; omega) (by rw [e1695]; omega) (fun v1696 e1697 => ?_)
        rw [e1695] at e1697
        refine bh_ld (pc' := 168) bt_97_167 rfl rfl (fun _ _ _ => rfl) g1 rfl ?_
        refine bh_add (pc' := 169) bt_97_168 rfl (by omega) (by omega) (fun v1698 e1699 => ?_)
        refine bh_ld (pc' := 170) bt_97_169 rfl rfl (fun _ _ _ => rfl) g2 rfl ?_
        refine bh_ias (pc' := 171) bt_97_170 rfl rfl (fun _ _ _ => rfl) hP1690 bx_a106 (Or.inl rfl) (by omega) (by omega) (fun h1700 hP1701 => ?_)
        refine bh_ld (pc' := 172) bt_97_171 rfl rfl (fun _ _ _ => rfl) g0 rfl ?_
        refine bh_gr (pc' := 175) (c := 107) bt_97_172 rfl rfl (fun _ _ _ => rfl) hP1701 bx_r32 ?_
        refine bh_c (pc' := 177) (n := 7) bt_97_175 rfl rfl (fun _ _ _ => rfl) (by decide) (fun c1702 e1703 => ?_)
        refine bh_ld (pc' := 178) bt_97_177 rfl rfl (fun _ _ _ => rfl) g0 rfl ?_
        refine bh_gi (pc' := 181) bt_97_178 rfl rfl (fun _ _ _ => rfl) hP1701 bx_i19 ((f1691 19 (by decide) (by decide) (by decide)).trans (f1674 19 (by decide) (by decide) (by decide) (by decide) (by decide) (by decide) (by decide))) ?_
        refine bh_mul (pc' := 182) bt_97_181 rfl (by rw [e1703]; omega) (by rw [e1703]; omega) (fun v1704 e1705 => ?_)
        rw [e1703] at e1705
        refine bh_ld (pc' := 183) bt_97_182 rfl rfl (fun _ _ _ => rfl) g1 rfl ?_
        refine bh_add (pc' := 184) bt_97_183 rfl (by omega) (by omega) (fun v1706 e1707 => ?_)
        refine bh_ld (pc' := 185) bt_97_184 rfl rfl (fun _ _ _ => rfl) g0 rfl ?_
        refine bh_gi (pc' := 188) bt_97_185 rfl rfl (fun _ _ _ => rfl) hP1701 bx_i33 (f1691 33 (by decide) (by decide) (by decide)) ?_
        refine bh_ias (pc' := 189) bt_97_188 rfl rfl (fun _ _ _ => rfl) hP1701 bx_a107 (Or.inl rfl) (by omega) (by omega) (fun h1708 hP1709 => ?_)
        refine bh_rv bt_97_189 ?_
        have z12 := congrArg Int32.toInt (f1691 12 (by decide) (by decide) (by decide))
        have z19 := congrArg Int32.toInt ((f1691 19 (by decide) (by decide) (by decide)).trans (f1674 19 (by decide) (by decide) (by decide) (by decide) (by decide) (by decide) (by decide)))
        have z33 := congrArg Int32.toInt (f1691 33 (by decide) (by decide) (by decide))
        have z39 := congrArg Int32.toInt (f1691 39 (by decide) (by decide) (by decide))
        have i3 := (w1685 (by omega)).2.2.2
        have ei1 : (v1698).toInt.toNat = (7 * (s0 19).toInt + k.toInt).toNat := by omega
        have ei2 : (v1706).toInt.toNat = (7 * (s0 19).toInt + k.toInt).toNat := by omega
        have r106 : ((bh_up (bh_up A1671 106 (v1698).toInt.toNat (mm_nar 0 (s0 33))) 107 (v1706).toInt.toNat (mm_nar 0 (s1670 33))) 106 (7 * (s0 19).toInt + k.toInt).toNat).toInt = (s0 33).toInt := by
          rw [bh_up_o (by omega), ← ei1, bh_up_i]
          rfl
        have r107 : ((bh_up (bh_up A1671 106 (v1698).toInt.toNat (mm_nar 0 (s0 33))) 107 (v1706).toInt.toNat (mm_nar 0 (s1670 33))) 107 (7 * (s0 19).toInt + k.toInt).toNat).toInt = ((s1670 33)).toInt := by
          rw [← ei2, bh_up_i]
          rfl
        refine kk _ _ _ hP1709 ⟨(fun j j11 j12 j13 j14 j33 j39 j43 => ((fun j j11 j12 j13 j14 j33 j39 j43 => ((f1691 j j11 j13 j14).trans (f1674 j j11 j12 j13 j14 j33 j39 j43))) j j11 j12 j13 j14 j33 j39 j43).trans (x1 j j11 j12 j13 j14 j33 j39 j43)), fun k' j u1 u2 u4 u3 => ((bh_up_o (by omega)).trans ((bh_up_o (by omega)).trans ((a1675 k' j (by omega) (by omega) (by omega)).trans ((bh_up_o (by omega)).trans (x2 k' j (by omega) (by omega) u3))))), by omega, by omega, by omega, by omega, by omega, by omega, by omega, by omega, by omega, by omega, fun hF => ⟨by omega, by omega, by omega, by omega, r106, by omega, fun b b1 b2 => ?_⟩⟩
        rw [(f1691 39 (by decide) (by decide) (by decide))]
        by_cases hb : b = (s 33).toInt.toNat
        · have v108 : ((bh_up (bh_up A1671 106 (v1698).toInt.toNat (mm_nar 0 (s0 33))) 107 (v1706).toInt.toNat (mm_nar 0 (s1670 33))) 108 b).toInt = 0 := by
            rw [bh_up_o (by omega), bh_up_o (by omega), a1675 108 b (by omega) (by omega) (by omega), hb, bh_up_i]
            show (mm_nar 2 c1665).toInt = 0
            have e0 : c1665 = 0 := Int32.toInt_inj.mp (by rw [e1666]; rfl)
            rw [e0]
            decide
          have v111 : ((bh_up (bh_up A1671 106 (v1698).toInt.toNat (mm_nar 0 (s0 33))) 107 (v1706).toInt.toNat (mm_nar 0 (s1670 33))) 111 b).toInt = (s 39).toInt := by
            rw [bh_up_o (by omega), bh_up_o (by omega), hb]
            exact i3.1
          have v112 : ((bh_up (bh_up A1671 106 (v1698).toInt.toNat (mm_nar 0 (s0 33))) 107 (v1706).toInt.toNat (mm_nar 0 (s1670 33))) 112 b).toInt = (s1670 39).toInt := by
            rw [bh_up_o (by omega), bh_up_o (by omega), hb]
            exact i3.2.1
          exact ⟨Or.inl v108, rd_W_of (A1 := A1671) v111 v112 (by omega) (by omega) (by omega) i3.2.2 (fun j hj => ⟨rfl, rfl⟩)⟩
        · have ob := (x13 (by omega)).2.2.2 b b1 (by omega)
          refine rd_B_congr (Nat.le_refl _) (by omega) (fun j g1 g2 => ⟨?_, ?_⟩) (fun k2 g1 g2 => ?_) ob
          · exact (bh_up_o (by omega)).trans ((bh_up_o (by omega)).trans ((a1675 113 j (by omega) (by omega) (by omega)).trans (bh_up_o (by omega))))
          · exact (bh_up_o (by omega)).trans ((bh_up_o (by omega)).trans ((a1675 114 j (by omega) (by omega) (by omega)).trans (bh_up_o (by omega))))
          · exact (bh_up_o (by omega)).trans ((bh_up_o (by omega)).trans ((a1675 k2 b (by omega) (by omega) (by omega)).trans (bh_up_o (by omega))))
      · replace k1693 : ¬ (((s1689 13)).toInt ≤ 0) := k1693
        refine bh_rv bt_97_155 ?_
        have z12 := congrArg Int32.toInt (f1691 12 (by decide) (by decide) (by decide))
        have z19 := congrArg Int32.toInt ((f1691 19 (by decide) (by decide) (by decide)).trans (f1674 19 (by decide) (by decide) (by decide) (by decide) (by decide) (by decide) (by decide)))
        have z33 := congrArg Int32.toInt (f1691 33 (by decide) (by decide) (by decide))
        have z39 := congrArg Int32.toInt (f1691 39 (by decide) (by decide) (by decide))
        exact kk _ _ _ hP1690 ⟨(fun j j11 j12 j13 j14 j33 j39 j43 => ((fun j j11 j12 j13 j14 j33 j39 j43 => ((f1691 j j11 j13 j14).trans (f1674 j j11 j12 j13 j14 j33 j39 j43))) j j11 j12 j13 j14 j33 j39 j43).trans (x1 j j11 j12 j13 j14 j33 j39 j43)), fun k' j u1 u2 u4 u3 => ((a1675 k' j (by omega) (by omega) (by omega)).trans ((bh_up_o (by omega)).trans (x2 k' j (by omega) (by omega) u3))), by omega, by omega, by omega, by omega, by omega, by omega, by omega, by omega, by omega, by omega, fun hF => by omega⟩
    · replace k1664 : ¬ (((s 13)).toInt ≠ 0) := k1664
      refine bh_ld (pc' := 20) bt_97_19 rfl rfl (fun _ _ _ => rfl) g0 rfl ?_
      refine bh_c (pc' := 22) (n := 32) bt_97_20 rfl rfl (fun _ _ _ => rfl) (by decide) (fun c1710 e1711 => ?_)
      refine bh_cv (pc' := 25) (st := []) (args := [.int c1710]) bt_97_22 rfl rfl (by decide) hP (by omega) rfl (Nat.le_of_ble_eq_true rfl) (Nat.le_of_ble_eq_true rfl) ?_
      refine sp_45 (k := c1710) hP rfl rfl (by omega) (by omega) (fun r1712 p1713 => ?_)
      show bh_G E FIN ((97, 25, lv, [.int r1712], 0, 0) :: gs, _, none)
      refine bh_i0 (pc' := 28) (pt := 129) bt_97_25 rfl rfl (fun k1714 => ?_) (fun k1714 => ?_)
      · replace k1714 : (r1712).toInt = 0 := k1714
        refine bh_ld (pc' := 130) bt_97_129 rfl rfl (fun _ _ _ => rfl) g0 rfl ?_
        refine bh_gr (pc' := 133) (c := 108) bt_97_130 rfl rfl (fun _ _ _ => rfl) hP bx_r34 ?_
        refine bh_ld (pc' := 134) bt_97_133 rfl rfl (fun _ _ _ => rfl) g0 rfl ?_
        refine bh_gi (pc' := 137) bt_97_134 rfl rfl (fun _ _ _ => rfl) hP bx_i33 rfl ?_
        refine bh_c (pc' := 138) (n := 0) bt_97_137 rfl rfl (fun _ _ _ => rfl) (by decide) (fun c1715 e1716 => ?_)
        refine bh_ias (pc' := 139) bt_97_138 rfl rfl (fun _ _ _ => rfl) hP bx_a108 (Or.inr rfl) (by omega) (by omega) (fun h1717 hP1718 => ?_)
        refine bh_ld (pc' := 140) bt_97_139 rfl rfl (fun _ _ _ => rfl) g0 rfl ?_
        refine bh_cv (pc' := 143) (st := []) (args := []) bt_97_140 rfl rfl (by decide) hP1718 (by omega) rfl (Nat.le_of_ble_eq_true rfl) (Nat.le_of_ble_eq_true rfl) ?_
        refine sp_100 hP1718 (by simp only [List.length_cons]; omega) (by omega) (by omega) (by omega) (by omega) (by omega) (by omega) (by omega) (by omega) (by omega) (by omega) (fun h1719 s1720 A1721 hP1722 y1723 => ?_)
        obtain ⟨f1724, a1725, w1726, w1727, w1728, w1729, w1730, w1731, w1732, w1733, w1734, w1735⟩ := y1723
        show bh_G E FIN ((97, 143, lv, [], 0, 0) :: gs, _, none)
        refine bh_ld (pc' := 144) bt_97_143 rfl rfl (fun _ _ _ => rfl) g0 rfl ?_
        refine bh_c (pc' := 145) (n := 4) bt_97_144 rfl rfl (fun _ _ _ => rfl) (by decide) (fun c1736 e1737 => ?_)
        refine bh_cv (pc' := 148) (st := []) (args := [.int c1736]) bt_97_145 rfl rfl (by decide) hP1722 (by omega) rfl (Nat.le_of_ble_eq_true rfl) (Nat.le_of_ble_eq_true rfl) ?_
        refine sp_67 (k := c1736) hP1722 (by simp only [List.length_cons]; omega) rfl rfl (by omega) (by omega) (by omega) (fun h1738 s1739 hP1740 f1741 p1742 => ?_)
        show bh_G E FIN ((97, 148, lv, [], 0, 0) :: gs, _, none)
        refine bh_ld (pc' := 149) bt_97_148 rfl rfl (fun _ _ _ => rfl) g0 rfl ?_
        refine bh_gi (pc' := 152) bt_97_149 rfl rfl (fun _ _ _ => rfl) hP1740 bx_i13 rfl ?_
        refine bh_i0 (pc' := 155) (pt := 156) bt_97_152 rfl rfl (fun k1743 => ?_) (fun k1743 => ?_)
        · replace k1743 : ((s1739 13)).toInt ≤ 0 := k1743
          refine bh_ld (pc' := 157) bt_97_156 rfl rfl (fun _ _ _ => rfl) g0 rfl ?_
          refine bh_gr (pc' := 160) (c := 106) bt_97_157 rfl rfl (fun _ _ _ => rfl) hP1740 bx_r31 ?_
          refine bh_c (pc' := 162) (n := 7) bt_97_160 rfl rfl (fun _ _ _ => rfl) (by decide) (fun c1744 e1745 => ?_)
          refine bh_ld (pc' := 163) bt_97_162 rfl rfl (fun _ _ _ => rfl) g0 rfl ?_
          refine bh_gi (pc' := 166) bt_97_163 rfl rfl (fun _ _ _ => rfl) hP1740 bx_i19 ((f1741 19 (by decide) (by decide) (by decide)).trans (f1724 19 (by decide) (by decide) (by decide) (by decide) (by decide) (by decide) (by decide))) ?_
          refine bh_mul (pc' := 167) bt_97_166 rfl (by rw [e1745]; omega) (by rw [e1745]; omega) (fun v1746 e1747 => ?_)
          rw [e1745] at e1747
          refine bh_ld (pc' := 168) bt_97_167 rfl rfl (fun _ _ _ => rfl) g1 rfl ?_
          refine bh_add (pc' := 169) bt_97_168 rfl (by omega) (by omega) (fun v1748 e1749 => ?_)
          refine bh_ld (pc' := 170) bt_97_169 rfl rfl (fun _ _ _ => rfl) g2 rfl ?_
          refine bh_ias (pc' := 171) bt_97_170 rfl rfl (fun _ _ _ => rfl) hP1740 bx_a106 (Or.inl rfl) (by omega) (by omega) (fun h1750 hP1751 => ?_)
          refine bh_ld (pc' := 172) bt_97_171 rfl rfl (fun _ _ _ => rfl) g0 rfl ?_
          refine bh_gr (pc' := 175) (c := 107) bt_97_172 rfl rfl (fun _ _ _ => rfl) hP1751 bx_r32 ?_
          refine bh_c (pc' := 177) (n := 7) bt_97_175 rfl rfl (fun _ _ _ => rfl) (by decide) (fun c1752 e1753 => ?_)
          refine bh_ld (pc' := 178) bt_97_177 rfl rfl (fun _ _ _ => rfl) g0 rfl ?_
          refine bh_gi (pc' := 181) bt_97_178 rfl rfl (fun _ _ _ => rfl) hP1751 bx_i19 ((f1741 19 (by decide) (by decide) (by decide)).trans (f1724 19 (by decide) (by decide) (by decide) (by decide) (by decide) (by decide) (by decide))) ?_
          refine bh_mul (pc' := 182) bt_97_181 rfl (by rw [e1753]; omega) (by rw [e1753]; omega) (fun v1754 e1755 => ?_)
          rw [e1753] at e1755
          refine bh_ld (pc' := 183) bt_97_182 rfl rfl (fun _ _ _ => rfl) g1 rfl ?_
          refine bh_add (pc' := 184) bt_97_183 rfl (by omega) (by omega) (fun v1756 e1757 => ?_)
          refine bh_ld (pc' := 185) bt_97_184 rfl rfl (fun _ _ _ => rfl) g0 rfl ?_
          refine bh_gi (pc' := 188) bt_97_185 rfl rfl (fun _ _ _ => rfl) hP1751 bx_i33 (f1741 33 (by decide) (by decide) (by decide)) ?_
          refine bh_ias (pc' := 189) bt_97_188 rfl rfl (fun _ _ _ => rfl) hP1751 bx_a107 (Or.inl rfl) (by omega) (by omega) (fun h1758 hP1759 => ?_)
          refine bh_rv bt_97_189 ?_
          have z12 := congrArg Int32.toInt (f1741 12 (by decide) (by decide) (by decide))
          have z19 := congrArg Int32.toInt ((f1741 19 (by decide) (by decide) (by decide)).trans (f1724 19 (by decide) (by decide) (by decide) (by decide) (by decide) (by decide) (by decide)))
          have z33 := congrArg Int32.toInt (f1741 33 (by decide) (by decide) (by decide))
          have z39 := congrArg Int32.toInt (f1741 39 (by decide) (by decide) (by decide))
          have i3 := (w1735 (by omega)).2.2.2
          have ei1 : (v1748).toInt.toNat = (7 * (s0 19).toInt + k.toInt).toNat := by omega
          have ei2 : (v1756).toInt.toNat = (7 * (s0 19).toInt + k.toInt).toNat := by omega
          have r106 : ((bh_up (bh_up A1721 106 (v1748).toInt.toNat (mm_nar 0 (s0 33))) 107 (v1756).toInt.toNat (mm_nar 0 (s1720 33))) 106 (7 * (s0 19).toInt + k.toInt).toNat).toInt = (s0 33).toInt := by
            rw [bh_up_o (by omega), ← ei1, bh_up_i]
            rfl
          have r107 : ((bh_up (bh_up A1721 106 (v1748).toInt.toNat (mm_nar 0 (s0 33))) 107 (v1756).toInt.toNat (mm_nar 0 (s1720 33))) 107 (7 * (s0 19).toInt + k.toInt).toNat).toInt = ((s1720 33)).toInt := by
            rw [← ei2, bh_up_i]
            rfl
          refine kk _ _ _ hP1759 ⟨(fun j j11 j12 j13 j14 j33 j39 j43 => ((fun j j11 j12 j13 j14 j33 j39 j43 => ((f1741 j j11 j13 j14).trans (f1724 j j11 j12 j13 j14 j33 j39 j43))) j j11 j12 j13 j14 j33 j39 j43).trans (x1 j j11 j12 j13 j14 j33 j39 j43)), fun k' j u1 u2 u4 u3 => ((bh_up_o (by omega)).trans ((bh_up_o (by omega)).trans ((a1725 k' j (by omega) (by omega) (by omega)).trans ((bh_up_o (by omega)).trans (x2 k' j (by omega) (by omega) u3))))), by omega, by omega, by omega, by omega, by omega, by omega, by omega, by omega, by omega, by omega, fun hF => ⟨by omega, by omega, by omega, by omega, r106, by omega, fun b b1 b2 => ?_⟩⟩
          rw [(f1741 39 (by decide) (by decide) (by decide))]
          by_cases hb : b = (s 33).toInt.toNat
          · have v108 : ((bh_up (bh_up A1721 106 (v1748).toInt.toNat (mm_nar 0 (s0 33))) 107 (v1756).toInt.toNat (mm_nar 0 (s1720 33))) 108 b).toInt = 0 := by
              rw [bh_up_o (by omega), bh_up_o (by omega), a1725 108 b (by omega) (by omega) (by omega), hb, bh_up_i]
              show (mm_nar 2 c1715).toInt = 0
              have e0 : c1715 = 0 := Int32.toInt_inj.mp (by rw [e1716]; rfl)
              rw [e0]
              decide
            have v111 : ((bh_up (bh_up A1721 106 (v1748).toInt.toNat (mm_nar 0 (s0 33))) 107 (v1756).toInt.toNat (mm_nar 0 (s1720 33))) 111 b).toInt = (s 39).toInt := by
              rw [bh_up_o (by omega), bh_up_o (by omega), hb]
              exact i3.1
            have v112 : ((bh_up (bh_up A1721 106 (v1748).toInt.toNat (mm_nar 0 (s0 33))) 107 (v1756).toInt.toNat (mm_nar 0 (s1720 33))) 112 b).toInt = (s1720 39).toInt := by
              rw [bh_up_o (by omega), bh_up_o (by omega), hb]
              exact i3.2.1
            exact ⟨Or.inl v108, rd_W_of (A1 := A1721) v111 v112 (by omega) (by omega) (by omega) i3.2.2 (fun j hj => ⟨rfl, rfl⟩)⟩
          · have ob := (x13 (by omega)).2.2.2 b b1 (by omega)
            refine rd_B_congr (Nat.le_refl _) (by omega) (fun j g1 g2 => ⟨?_, ?_⟩) (fun k2 g1 g2 => ?_) ob
            · exact (bh_up_o (by omega)).trans ((bh_up_o (by omega)).trans ((a1725 113 j (by omega) (by omega) (by omega)).trans (bh_up_o (by omega))))
            · exact (bh_up_o (by omega)).trans ((bh_up_o (by omega)).trans ((a1725 114 j (by omega) (by omega) (by omega)).trans (bh_up_o (by omega))))
            · exact (bh_up_o (by omega)).trans ((bh_up_o (by omega)).trans ((a1725 k2 b (by omega) (by omega) (by omega)).trans (bh_up_o (by omega))))
        · replace k1743 : ¬ (((s1739 13)).toInt ≤ 0) := k1743
          refine bh_rv bt_97_155 ?_
          have z12 := congrArg Int32.toInt (f1741 12 (by decide) (by decide) (by decide))
          have z19 := congrArg Int32.toInt ((f1741 19 (by decide) (by decide) (by decide)).trans (f1724 19 (by decide) (by decide) (by decide) (by decide) (by decide) (by decide) (by decide)))
          have z33 := congrArg Int32.toInt (f1741 33 (by decide) (by decide) (by decide))
          have z39 := congrArg Int32.toInt (f1741 39 (by decide) (by decide) (by decide))
          exact kk _ _ _ hP1740 ⟨(fun j j11 j12 j13 j14 j33 j39 j43 => ((fun j j11 j12 j13 j14 j33 j39 j43 => ((f1741 j j11 j13 j14).trans (f1724 j j11 j12 j13 j14 j33 j39 j43))) j j11 j12 j13 j14 j33 j39 j43).trans (x1 j j11 j12 j13 j14 j33 j39 j43)), fun k' j u1 u2 u4 u3 => ((a1725 k' j (by omega) (by omega) (by omega)).trans ((bh_up_o (by omega)).trans (x2 k' j (by omega) (by omega) u3))), by omega, by omega, by omega, by omega, by omega, by omega, by omega, by omega, by omega, by omega, fun hF => by omega⟩
      · replace k1714 : ¬ ((r1712).toInt = 0) := k1714
        refine bh_ld (pc' := 29) bt_97_28 rfl rfl (fun _ _ _ => rfl) g3 rfl ?_
        refine bh_c (pc' := 30) (n := 4) bt_97_29 rfl rfl (fun _ _ _ => rfl) (by decide) (fun c1760 e1761 => ?_)
        refine bh_ic (pc' := 33) (pt := 38) bt_97_30 rfl rfl (fun k1762 => ?_) (fun k1762 => ?_)
        · replace k1762 : (q).toInt ≠ (c1760).toInt := k1762
          refine bh_ld (pc' := 39) bt_97_38 rfl rfl (fun _ _ _ => rfl) g0 rfl ?_
          refine bh_gi (pc' := 42) bt_97_39 rfl rfl (fun _ _ _ => rfl) hP bx_i13 rfl ?_
          refine bh_i0 (pc' := 45) (pt := 46) bt_97_42 rfl rfl (fun k1763 => ?_) (fun k1763 => ?_)
          · replace k1763 : ((s 13)).toInt ≤ 0 := k1763
            refine bh_inc (pc' := 49) bt_97_46 rfl (by decide) g3 (by decide) (by omega) (by omega) (fun lv1764 y1767 F1765 g1766 e1768 => ?_)
            have g1769 := F1765 0 (.ref (E.1 + 88)) g0 (by decide) (Or.inl rfl)
            have g1770 := F1765 1 (.int k) g1 (by decide) (Or.inl rfl)
            have g1771 := F1765 2 (.int (s0 33)) g2 (by decide) (Or.inl rfl)
            refine bh_ld (pc' := 50) bt_97_49 rfl rfl (fun _ _ _ => rfl) g1769 rfl ?_
            refine bh_cv (pc' := 53) (st := []) (args := []) bt_97_50 rfl rfl (by decide) hP (by omega) rfl (Nat.le_of_ble_eq_true rfl) (Nat.le_of_ble_eq_true rfl) ?_
            refine sp_37 hP (by simp only [List.length_cons]; omega) rfl rfl (by omega) (by omega) (by omega) (fun h1772 s1773 hP1774 f1775 p1776 => ?_)
            show bh_G E FIN ((97, 53, lv1764, [], 0, 0) :: gs, _, none)
            refine bh_ld (pc' := 54) bt_97_53 rfl rfl (fun _ _ _ => rfl) g1769 rfl ?_
            refine bh_gr (pc' := 57) (c := 108) bt_97_54 rfl rfl (fun _ _ _ => rfl) hP1774 bx_r34 ?_
            refine bh_ld (pc' := 58) bt_97_57 rfl rfl (fun _ _ _ => rfl) g1769 rfl ?_
            refine bh_gi (pc' := 61) bt_97_58 rfl rfl (fun _ _ _ => rfl) hP1774 bx_i33 (f1775 33 (by decide) (by decide) (by decide)) ?_
            refine bh_c (pc' := 62) (n := 1) bt_97_61 rfl rfl (fun _ _ _ => rfl) (by decide) (fun c1777 e1778 => ?_)
            refine bh_ias (pc' := 63) bt_97_62 rfl rfl (fun _ _ _ => rfl) hP1774 bx_a108 (Or.inr rfl) (by omega) (by omega) (fun h1779 hP1780 => ?_)
            refine bh_ld (pc' := 64) bt_97_63 rfl rfl (fun _ _ _ => rfl) g1769 rfl ?_
            refine bh_gr (pc' := 67) (c := 109) bt_97_64 rfl rfl (fun _ _ _ => rfl) hP1780 bx_r35 ?_
            refine bh_ld (pc' := 68) bt_97_67 rfl rfl (fun _ _ _ => rfl) g1769 rfl ?_
            refine bh_gi (pc' := 71) bt_97_68 rfl rfl (fun _ _ _ => rfl) hP1780 bx_i33 (f1775 33 (by decide) (by decide) (by decide)) ?_
            refine bh_ld (pc' := 72) bt_97_71 rfl rfl (fun _ _ _ => rfl) g1769 rfl ?_
            refine bh_gi (pc' := 75) bt_97_72 rfl rfl (fun _ _ _ => rfl) hP1780 bx_i39 (f1775 39 (by decide) (by decide) (by decide)) ?_
            refine bh_ias (pc' := 76) bt_97_75 rfl rfl (fun _ _ _ => rfl) hP1780 bx_a109 (Or.inl rfl) (by omega) (by omega) (fun h1781 hP1782 => ?_)
            refine bh_ld (pc' := 77) bt_97_76 rfl rfl (fun _ _ _ => rfl) g1769 rfl ?_
            refine bh_cv (pc' := 80) (st := []) (args := []) bt_97_77 rfl rfl (by decide) hP1782 (by omega) rfl (Nat.le_of_ble_eq_true rfl) (Nat.le_of_ble_eq_true rfl) ?_
            have z1788 := congrArg Int32.toInt (f1775 12 (by decide) (by decide) (by decide))
            have z1789 := congrArg Int32.toInt (f1775 19 (by decide) (by decide) (by decide))
            have z1790 := congrArg Int32.toInt (f1775 33 (by decide) (by decide) (by decide))
            have z1791 := congrArg Int32.toInt (f1775 39 (by decide) (by decide) (by decide))
            refine sp_26 hP1782 (by simp only [List.length_cons]; omega) (by omega) (by omega) (by omega) (by omega) (by omega) (by omega) (by omega) (by omega) (fun h1783 s1784 A1785 hP1786 y1787 => ?_)
            obtain ⟨f1792, a1793, w1794, w1795, w1796, w1797, w1798, w1799, w1800, w1801, w1802⟩ := y1787
            show bh_G E FIN ((97, 80, lv1764, [], 0, 0) :: gs, _, none)
            refine bh_ld (pc' := 81) bt_97_80 rfl rfl (fun _ _ _ => rfl) g1769 rfl ?_
            refine bh_c (pc' := 83) (n := 13) bt_97_81 rfl rfl (fun _ _ _ => rfl) (by decide) (fun c1803 e1804 => ?_)
            refine bh_cv (pc' := 86) (st := []) (args := [.int c1803]) bt_97_83 rfl rfl (by decide) hP1786 (by omega) rfl (Nat.le_of_ble_eq_true rfl) (Nat.le_of_ble_eq_true rfl) ?_
            refine sp_67 (k := c1803) hP1786 (by simp only [List.length_cons]; omega) rfl rfl (by omega) (by omega) (by omega) (fun h1805 s1806 hP1807 f1808 p1809 => ?_)
            show bh_G E FIN ((97, 86, lv1764, [], 0, 0) :: gs, _, none)
            refine bh_ld (pc' := 87) bt_97_86 rfl rfl (fun _ _ _ => rfl) g1769 rfl ?_
            refine bh_gr (pc' := 90) (c := 110) bt_97_87 rfl rfl (fun _ _ _ => rfl) hP1807 bx_r36 ?_
            refine bh_ld (pc' := 91) bt_97_90 rfl rfl (fun _ _ _ => rfl) g1769 rfl ?_
            refine bh_gi (pc' := 94) bt_97_91 rfl rfl (fun _ _ _ => rfl) hP1807 bx_i33 ((f1808 33 (by decide) (by decide) (by decide)).trans ((f1792 33 (by decide) (by decide) (by decide) (by decide) (by decide) (by decide)).trans (f1775 33 (by decide) (by decide) (by decide)))) ?_
            refine bh_ld (pc' := 95) bt_97_94 rfl rfl (fun _ _ _ => rfl) g1769 rfl ?_
            refine bh_gi (pc' := 98) bt_97_95 rfl rfl (fun _ _ _ => rfl) hP1807 bx_i39 (f1808 39 (by decide) (by decide) (by decide)) ?_
            refine bh_ias (pc' := 99) bt_97_98 rfl rfl (fun _ _ _ => rfl) hP1807 bx_a110 (Or.inl rfl) (by omega) (by omega) (fun h1810 hP1811 => ?_)
            refine bh_ld (pc' := 100) bt_97_99 rfl rfl (fun _ _ _ => rfl) g1769 rfl ?_
            refine bh_gi (pc' := 103) bt_97_100 rfl rfl (fun _ _ _ => rfl) hP1811 bx_i13 rfl ?_
            refine bh_i0 (pc' := 106) (pt := 110) bt_97_103 rfl rfl (fun k1812 => ?_) (fun k1812 => ?_)
            · replace k1812 : ((s1806 13)).toInt ≠ 0 := k1812
              refine bh_ld (pc' := 111) bt_97_110 rfl rfl (fun _ _ _ => rfl) g1769 rfl ?_
              refine bh_c (pc' := 113) (n := 33) bt_97_111 rfl rfl (fun _ _ _ => rfl) (by decide) (fun c1813 e1814 => ?_)
              refine bh_cv (pc' := 116) (st := []) (args := [.int c1813]) bt_97_113 rfl rfl (by decide) hP1811 (by omega) rfl (Nat.le_of_ble_eq_true rfl) (Nat.le_of_ble_eq_true rfl) ?_
              refine sp_67 (k := c1813) hP1811 (by simp only [List.length_cons]; omega) rfl rfl (by omega) (by omega) (by omega) (fun h1815 s1816 hP1817 f1818 p1819 => ?_)
              show bh_G E FIN ((97, 116, lv1764, [], 0, 0) :: gs, _, none)
              refine bh_ld (pc' := 117) bt_97_116 rfl rfl (fun _ _ _ => rfl) g1769 rfl ?_
              refine bh_cv (pc' := 120) (st := []) (args := []) bt_97_117 rfl rfl (by decide) hP1817 (by omega) rfl (Nat.le_of_ble_eq_true rfl) (Nat.le_of_ble_eq_true rfl) ?_
              have z1825 := congrArg Int32.toInt ((f1818 12 (by decide) (by decide) (by decide)).trans (f1808 12 (by decide) (by decide) (by decide)))
              have z1826 := congrArg Int32.toInt ((f1818 19 (by decide) (by decide) (by decide)).trans ((f1808 19 (by decide) (by decide) (by decide)).trans ((f1792 19 (by decide) (by decide) (by decide) (by decide) (by decide) (by decide)).trans (f1775 19 (by decide) (by decide) (by decide)))))
              have z1827 := congrArg Int32.toInt ((f1818 33 (by decide) (by decide) (by decide)).trans ((f1808 33 (by decide) (by decide) (by decide)).trans ((f1792 33 (by decide) (by decide) (by decide) (by decide) (by decide) (by decide)).trans (f1775 33 (by decide) (by decide) (by decide)))))
              have z1828 := congrArg Int32.toInt ((f1818 39 (by decide) (by decide) (by decide)).trans (f1808 39 (by decide) (by decide) (by decide)))
              refine sp_100 hP1817 (by simp only [List.length_cons]; omega) (by omega) (by omega) (by omega) (by omega) (by omega) (by omega) (by omega) (by omega) (by omega) (by omega) (fun h1820 s1821 A1822 hP1823 y1824 => ?_)
              obtain ⟨f1829, a1830, w1831, w1832, w1833, w1834, w1835, w1836, w1837, w1838, w1839, w1840⟩ := y1824
              show bh_G E FIN ((97, 120, lv1764, [], 0, 0) :: gs, _, none)
              refine bh_ld (pc' := 121) bt_97_120 rfl rfl (fun _ _ _ => rfl) g1769 rfl ?_
              refine bh_c (pc' := 123) (n := 34) bt_97_121 rfl rfl (fun _ _ _ => rfl) (by decide) (fun c1841 e1842 => ?_)
              refine bh_cv (pc' := 126) (st := []) (args := [.int c1841]) bt_97_123 rfl rfl (by decide) hP1823 (by omega) rfl (Nat.le_of_ble_eq_true rfl) (Nat.le_of_ble_eq_true rfl) ?_
              refine sp_67 (k := c1841) hP1823 (by simp only [List.length_cons]; omega) rfl rfl (by omega) (by omega) (by omega) (fun h1843 s1844 hP1845 f1846 p1847 => ?_)
              show bh_G E FIN ((97, 126, lv1764, [], 0, 0) :: gs, _, none)
              refine bh_go (pc' := 12) bt_97_126 rfl ?_
              have z12 := congrArg Int32.toInt (f1846 12 (by decide) (by decide) (by decide))
              have z19 := congrArg Int32.toInt ((f1846 19 (by decide) (by decide) (by decide)).trans ((f1829 19 (by decide) (by decide) (by decide) (by decide) (by decide) (by decide) (by decide)).trans ((f1818 19 (by decide) (by decide) (by decide)).trans ((f1808 19 (by decide) (by decide) (by decide)).trans ((f1792 19 (by decide) (by decide) (by decide) (by decide) (by decide) (by decide)).trans (f1775 19 (by decide) (by decide) (by decide)))))))
              have z33 := congrArg Int32.toInt (f1846 33 (by decide) (by decide) (by decide))
              have z39 := congrArg Int32.toInt (f1846 39 (by decide) (by decide) (by decide))
              exact ih _ _ _ _ _ _ hP1845 g1769 g1770 g1771 g1766 (by omega) (by omega) (by omega) (by omega) ⟨(fun j j11 j12 j13 j14 j33 j39 j43 => ((fun j j11 j12 j13 j14 j33 j39 j43 => ((f1846 j j11 j13 j14).trans ((f1829 j j11 j12 j13 j14 j33 j39 j43).trans ((f1818 j j11 j13 j14).trans ((f1808 j j11 j13 j14).trans ((f1792 j j11 j12 j13 j14 j39 j43).trans (f1775 j j11 j13 j14))))))) j j11 j12 j13 j14 j33 j39 j43).trans (x1 j j11 j12 j13 j14 j33 j39 j43)), fun k j u1 u2 u3 => ((a1830 k j (by omega) (by omega) (by omega)).trans ((bh_up_o (by omega)).trans ((a1793 k j (by omega) (by omega)).trans ((bh_up_o (by omega)).trans ((bh_up_o (by omega)).trans (x2 k j (by omega) (by omega) u3)))))), by omega, by omega, by omega, by omega, by omega, by omega, by omega, by omega, by omega, by omega, fun hF => by omega⟩
            · replace k1812 : ¬ (((s1806 13)).toInt ≠ 0) := k1812
              refine bh_ld (pc' := 107) bt_97_106 rfl rfl (fun _ _ _ => rfl) g1769 rfl ?_
              refine bh_cv (pc' := 110) (st := []) (args := []) bt_97_107 rfl rfl (by decide) hP1811 (by omega) rfl (Nat.le_of_ble_eq_true rfl) (Nat.le_of_ble_eq_true rfl) ?_
              have z1853 := congrArg Int32.toInt (f1808 12 (by decide) (by decide) (by decide))
              have z1854 := congrArg Int32.toInt ((f1808 19 (by decide) (by decide) (by decide)).trans ((f1792 19 (by decide) (by decide) (by decide) (by decide) (by decide) (by decide)).trans (f1775 19 (by decide) (by decide) (by decide))))
              have z1855 := congrArg Int32.toInt ((f1808 33 (by decide) (by decide) (by decide)).trans ((f1792 33 (by decide) (by decide) (by decide) (by decide) (by decide) (by decide)).trans (f1775 33 (by decide) (by decide) (by decide))))
              have z1856 := congrArg Int32.toInt (f1808 39 (by decide) (by decide) (by decide))
              refine sp_26 hP1811 (by simp only [List.length_cons]; omega) (by omega) (by omega) (by omega) (by omega) (by omega) (by omega) (by omega) (by omega) (fun h1848 s1849 A1850 hP1851 y1852 => ?_)
              obtain ⟨f1857, a1858, w1859, w1860, w1861, w1862, w1863, w1864, w1865, w1866, w1867⟩ := y1852
              show bh_G E FIN ((97, 110, lv1764, [], 0, 0) :: gs, _, none)
              refine bh_ld (pc' := 111) bt_97_110 rfl rfl (fun _ _ _ => rfl) g1769 rfl ?_
              refine bh_c (pc' := 113) (n := 33) bt_97_111 rfl rfl (fun _ _ _ => rfl) (by decide) (fun c1868 e1869 => ?_)
              refine bh_cv (pc' := 116) (st := []) (args := [.int c1868]) bt_97_113 rfl rfl (by decide) hP1851 (by omega) rfl (Nat.le_of_ble_eq_true rfl) (Nat.le_of_ble_eq_true rfl) ?_
              refine sp_67 (k := c1868) hP1851 (by simp only [List.length_cons]; omega) rfl rfl (by omega) (by omega) (by omega) (fun h1870 s1871 hP1872 f1873 p1874 => ?_)
              show bh_G E FIN ((97, 116, lv1764, [], 0, 0) :: gs, _, none)
              refine bh_ld (pc' := 117) bt_97_116 rfl rfl (fun _ _ _ => rfl) g1769 rfl ?_
              refine bh_cv (pc' := 120) (st := []) (args := []) bt_97_117 rfl rfl (by decide) hP1872 (by omega) rfl (Nat.le_of_ble_eq_true rfl) (Nat.le_of_ble_eq_true rfl) ?_
              have z1880 := congrArg Int32.toInt (f1873 12 (by decide) (by decide) (by decide))
              have z1881 := congrArg Int32.toInt ((f1873 19 (by decide) (by decide) (by decide)).trans ((f1857 19 (by decide) (by decide) (by decide) (by decide) (by decide) (by decide)).trans ((f1808 19 (by decide) (by decide) (by decide)).trans ((f1792 19 (by decide) (by decide) (by decide) (by decide) (by decide) (by decide)).trans (f1775 19 (by decide) (by decide) (by decide))))))
              have z1882 := congrArg Int32.toInt ((f1873 33 (by decide) (by decide) (by decide)).trans ((f1857 33 (by decide) (by decide) (by decide) (by decide) (by decide) (by decide)).trans ((f1808 33 (by decide) (by decide) (by decide)).trans ((f1792 33 (by decide) (by decide) (by decide) (by decide) (by decide) (by decide)).trans (f1775 33 (by decide) (by decide) (by decide))))))
              have z1883 := congrArg Int32.toInt (f1873 39 (by decide) (by decide) (by decide))
              refine sp_100 hP1872 (by simp only [List.length_cons]; omega) (by omega) (by omega) (by omega) (by omega) (by omega) (by omega) (by omega) (by omega) (by omega) (by omega) (fun h1875 s1876 A1877 hP1878 y1879 => ?_)
              obtain ⟨f1884, a1885, w1886, w1887, w1888, w1889, w1890, w1891, w1892, w1893, w1894, w1895⟩ := y1879
              show bh_G E FIN ((97, 120, lv1764, [], 0, 0) :: gs, _, none)
              refine bh_ld (pc' := 121) bt_97_120 rfl rfl (fun _ _ _ => rfl) g1769 rfl ?_
              refine bh_c (pc' := 123) (n := 34) bt_97_121 rfl rfl (fun _ _ _ => rfl) (by decide) (fun c1896 e1897 => ?_)
              refine bh_cv (pc' := 126) (st := []) (args := [.int c1896]) bt_97_123 rfl rfl (by decide) hP1878 (by omega) rfl (Nat.le_of_ble_eq_true rfl) (Nat.le_of_ble_eq_true rfl) ?_
              refine sp_67 (k := c1896) hP1878 (by simp only [List.length_cons]; omega) rfl rfl (by omega) (by omega) (by omega) (fun h1898 s1899 hP1900 f1901 p1902 => ?_)
              show bh_G E FIN ((97, 126, lv1764, [], 0, 0) :: gs, _, none)
              refine bh_go (pc' := 12) bt_97_126 rfl ?_
              have z12 := congrArg Int32.toInt (f1901 12 (by decide) (by decide) (by decide))
              have z19 := congrArg Int32.toInt ((f1901 19 (by decide) (by decide) (by decide)).trans ((f1884 19 (by decide) (by decide) (by decide) (by decide) (by decide) (by decide) (by decide)).trans ((f1873 19 (by decide) (by decide) (by decide)).trans ((f1857 19 (by decide) (by decide) (by decide) (by decide) (by decide) (by decide)).trans ((f1808 19 (by decide) (by decide) (by decide)).trans ((f1792 19 (by decide) (by decide) (by decide) (by decide) (by decide) (by decide)).trans (f1775 19 (by decide) (by decide) (by decide))))))))
              have z33 := congrArg Int32.toInt (f1901 33 (by decide) (by decide) (by decide))
              have z39 := congrArg Int32.toInt (f1901 39 (by decide) (by decide) (by decide))
              refine ih _ _ _ _ _ _ hP1900 g1769 g1770 g1771 g1766 (by omega) (by omega) (by omega) (by omega) ⟨(fun j j11 j12 j13 j14 j33 j39 j43 => ((fun j j11 j12 j13 j14 j33 j39 j43 => ((f1901 j j11 j13 j14).trans ((f1884 j j11 j12 j13 j14 j33 j39 j43).trans ((f1873 j j11 j13 j14).trans ((f1857 j j11 j12 j13 j14 j39 j43).trans ((f1808 j j11 j13 j14).trans ((f1792 j j11 j12 j13 j14 j39 j43).trans (f1775 j j11 j13 j14)))))))) j j11 j12 j13 j14 j33 j39 j43).trans (x1 j j11 j12 j13 j14 j33 j39 j43)), fun k j u1 u2 u3 => ((a1885 k j (by omega) (by omega) (by omega)).trans ((a1858 k j (by omega) (by omega)).trans ((bh_up_o (by omega)).trans ((a1793 k j (by omega) (by omega)).trans ((bh_up_o (by omega)).trans ((bh_up_o (by omega)).trans (x2 k j (by omega) (by omega) u3))))))), by omega, by omega, by omega, by omega, by omega, by omega, by omega, by omega, by omega, by omega, fun hF => ⟨by omega, by omega, by omega, fun b b1 b2 => ?_⟩⟩
              have i1 := (w1802 (by omega)).2.2.2
              rw [(f1775 39 (by decide) (by decide) (by decide))] at i1
              have i2 := (w1867 (by omega)).2.2.2
              rw [(f1808 39 (by decide) (by decide) (by decide))] at i2
              have i3 := (w1895 (by omega)).2.2.2
              rw [(f1873 39 (by decide) (by decide) (by decide))] at i3
              rw [((f1873 33 (by decide) (by decide) (by decide)).trans ((f1857 33 (by decide) (by decide) (by decide) (by decide) (by decide) (by decide)).trans ((f1808 33 (by decide) (by decide) (by decide)).trans ((f1792 33 (by decide) (by decide) (by decide) (by decide) (by decide) (by decide)).trans (f1775 33 (by decide) (by decide) (by decide))))))] at i3
              rw [(f1901 39 (by decide) (by decide) (by decide))]
              by_cases hb : b = (s 33).toInt.toNat
              · have v109 : (A1877 109 b).toInt = (s 39).toInt := by
                  rw [a1885 109 b (by omega) (by omega) (by omega), a1858 109 b (by omega) (by omega), bh_up_o (by omega), a1793 109 b (by omega) (by omega), hb, bh_up_i]
                  rfl
                have v110 : (A1877 110 b).toInt = (s1784 39).toInt := by
                  rw [a1885 110 b (by omega) (by omega) (by omega), a1858 110 b (by omega) (by omega), hb, bh_up_i]
                  rfl
                have v111 : (A1877 111 b).toInt = (s1849 39).toInt := by
                  rw [hb]
                  exact i3.1
                have v112 : (A1877 112 b).toInt = (s1876 39).toInt := by
                  rw [hb]
                  exact i3.2.1
                exact ⟨Or.inr ⟨rd_W_of (A1 := A1785) v109 v110 (by omega) (by omega) (by omega) i1 (fun j hj => ⟨(a1885 113 j (by omega) (by omega) (by omega)).trans ((a1858 113 j (by omega) (by omega)).trans (bh_up_o (by omega))), (a1885 114 j (by omega) (by omega) (by omega)).trans ((a1858 114 j (by omega) (by omega)).trans (bh_up_o (by omega)))⟩), rd_W_of (A1 := A1850) v110 v111 (by omega) (by omega) (by omega) i2 (fun j hj => ⟨a1885 113 j (by omega) (by omega) (by omega), a1885 114 j (by omega) (by omega) (by omega)⟩)⟩, rd_W_of (A1 := A1877) v111 v112 (by omega) (by omega) (by omega) i3.2.2 (fun j hj => ⟨rfl, rfl⟩)⟩
              · have ob := (x13 (by omega)).2.2.2 b b1 (by omega)
                refine rd_B_congr (Nat.le_refl _) (by omega) (fun j g1 g2 => ⟨?_, ?_⟩) (fun k g1 g2 => ?_) ob
                · exact (a1885 113 j (by omega) (by omega) (by omega)).trans ((a1858 113 j (by omega) (by omega)).trans ((bh_up_o (by omega)).trans ((a1793 113 j (by omega) (by omega)).trans ((bh_up_o (by omega)).trans (bh_up_o (by omega))))))
                · exact (a1885 114 j (by omega) (by omega) (by omega)).trans ((a1858 114 j (by omega) (by omega)).trans ((bh_up_o (by omega)).trans ((a1793 114 j (by omega) (by omega)).trans ((bh_up_o (by omega)).trans (bh_up_o (by omega))))))
                · exact (a1885 k b (by omega) (by omega) (by omega)).trans ((a1858 k b (by omega) (by omega)).trans ((bh_up_o (by omega)).trans ((a1793 k b (by omega) (by omega)).trans ((bh_up_o (by omega)).trans (bh_up_o (by omega))))))
          · replace k1763 : ¬ (((s 13)).toInt ≤ 0) := k1763
            refine bh_rv bt_97_45 ?_
            exact kk _ _ _ hP ⟨(fun j j11 j12 j13 j14 j33 j39 j43 => ((fun j j11 j12 j13 j14 j33 j39 j43 => rfl) j j11 j12 j13 j14 j33 j39 j43).trans (x1 j j11 j12 j13 j14 j33 j39 j43)), fun k' j u1 u2 u4 u3 => (x2 k' j (by omega) (by omega) u3), by omega, by omega, by omega, by omega, by omega, by omega, by omega, by omega, by omega, by omega, fun hF => by omega⟩
        · replace k1762 : ¬ ((q).toInt ≠ (c1760).toInt) := k1762
          refine bh_ld (pc' := 34) bt_97_33 rfl rfl (fun _ _ _ => rfl) g0 rfl ?_
          refine bh_c (pc' := 35) (n := 2) bt_97_34 rfl rfl (fun _ _ _ => rfl) (by decide) (fun c1903 e1904 => ?_)
          refine bh_cv (pc' := 38) (st := []) (args := [.int c1903]) bt_97_35 rfl rfl (by decide) hP (by omega) rfl (Nat.le_of_ble_eq_true rfl) (Nat.le_of_ble_eq_true rfl) ?_
          refine sp_27 (k := c1903) hP rfl rfl (by omega) (by omega) (fun h1905 s1906 hP1907 f1908 p1909 => ?_)
          show bh_G E FIN ((97, 38, lv, [], 0, 0) :: gs, _, none)
          refine bh_ld (pc' := 39) bt_97_38 rfl rfl (fun _ _ _ => rfl) g0 rfl ?_
          refine bh_gi (pc' := 42) bt_97_39 rfl rfl (fun _ _ _ => rfl) hP1907 bx_i13 rfl ?_
          refine bh_i0 (pc' := 45) (pt := 46) bt_97_42 rfl rfl (fun k1910 => ?_) (fun k1910 => ?_)
          · replace k1910 : ((s1906 13)).toInt ≤ 0 := k1910
            refine bh_inc (pc' := 49) bt_97_46 rfl (by decide) g3 (by decide) (by omega) (by omega) (fun lv1911 y1914 F1912 g1913 e1915 => ?_)
            have g1916 := F1912 0 (.ref (E.1 + 88)) g0 (by decide) (Or.inl rfl)
            have g1917 := F1912 1 (.int k) g1 (by decide) (Or.inl rfl)
            have g1918 := F1912 2 (.int (s0 33)) g2 (by decide) (Or.inl rfl)
            refine bh_ld (pc' := 50) bt_97_49 rfl rfl (fun _ _ _ => rfl) g1916 rfl ?_
            refine bh_cv (pc' := 53) (st := []) (args := []) bt_97_50 rfl rfl (by decide) hP1907 (by omega) rfl (Nat.le_of_ble_eq_true rfl) (Nat.le_of_ble_eq_true rfl) ?_
            refine sp_37 hP1907 (by simp only [List.length_cons]; omega) (f1908 11 (by decide) (by decide)) rfl (by omega) (by omega) (by omega) (fun h1919 s1920 hP1921 f1922 p1923 => ?_)
            show bh_G E FIN ((97, 53, lv1911, [], 0, 0) :: gs, _, none)
            refine bh_ld (pc' := 54) bt_97_53 rfl rfl (fun _ _ _ => rfl) g1916 rfl ?_
            refine bh_gr (pc' := 57) (c := 108) bt_97_54 rfl rfl (fun _ _ _ => rfl) hP1921 bx_r34 ?_
            refine bh_ld (pc' := 58) bt_97_57 rfl rfl (fun _ _ _ => rfl) g1916 rfl ?_
            refine bh_gi (pc' := 61) bt_97_58 rfl rfl (fun _ _ _ => rfl) hP1921 bx_i33 ((f1922 33 (by decide) (by decide) (by decide)).trans (f1908 33 (by decide) (by decide))) ?_
            refine bh_c (pc' := 62) (n := 1) bt_97_61 rfl rfl (fun _ _ _ => rfl) (by decide) (fun c1924 e1925 => ?_)
            refine bh_ias (pc' := 63) bt_97_62 rfl rfl (fun _ _ _ => rfl) hP1921 bx_a108 (Or.inr rfl) (by omega) (by omega) (fun h1926 hP1927 => ?_)
            refine bh_ld (pc' := 64) bt_97_63 rfl rfl (fun _ _ _ => rfl) g1916 rfl ?_
            refine bh_gr (pc' := 67) (c := 109) bt_97_64 rfl rfl (fun _ _ _ => rfl) hP1927 bx_r35 ?_
            refine bh_ld (pc' := 68) bt_97_67 rfl rfl (fun _ _ _ => rfl) g1916 rfl ?_
            refine bh_gi (pc' := 71) bt_97_68 rfl rfl (fun _ _ _ => rfl) hP1927 bx_i33 ((f1922 33 (by decide) (by decide) (by decide)).trans (f1908 33 (by decide) (by decide))) ?_
            refine bh_ld (pc' := 72) bt_97_71 rfl rfl (fun _ _ _ => rfl) g1916 rfl ?_
            refine bh_gi (pc' := 75) bt_97_72 rfl rfl (fun _ _ _ => rfl) hP1927 bx_i39 ((f1922 39 (by decide) (by decide) (by decide)).trans (f1908 39 (by decide) (by decide))) ?_
            refine bh_ias (pc' := 76) bt_97_75 rfl rfl (fun _ _ _ => rfl) hP1927 bx_a109 (Or.inl rfl) (by omega) (by omega) (fun h1928 hP1929 => ?_)
            refine bh_ld (pc' := 77) bt_97_76 rfl rfl (fun _ _ _ => rfl) g1916 rfl ?_
            refine bh_cv (pc' := 80) (st := []) (args := []) bt_97_77 rfl rfl (by decide) hP1929 (by omega) rfl (Nat.le_of_ble_eq_true rfl) (Nat.le_of_ble_eq_true rfl) ?_
            have z1935 := congrArg Int32.toInt ((f1922 12 (by decide) (by decide) (by decide)).trans (f1908 12 (by decide) (by decide)))
            have z1936 := congrArg Int32.toInt ((f1922 19 (by decide) (by decide) (by decide)).trans (f1908 19 (by decide) (by decide)))
            have z1937 := congrArg Int32.toInt ((f1922 33 (by decide) (by decide) (by decide)).trans (f1908 33 (by decide) (by decide)))
            have z1938 := congrArg Int32.toInt ((f1922 39 (by decide) (by decide) (by decide)).trans (f1908 39 (by decide) (by decide)))
            refine sp_26 hP1929 (by simp only [List.length_cons]; omega) (by omega) (by omega) (by omega) (by omega) (by omega) (by omega) (by omega) (by omega) (fun h1930 s1931 A1932 hP1933 y1934 => ?_)
            obtain ⟨f1939, a1940, w1941, w1942, w1943, w1944, w1945, w1946, w1947, w1948, w1949⟩ := y1934
            show bh_G E FIN ((97, 80, lv1911, [], 0, 0) :: gs, _, none)
            refine bh_ld (pc' := 81) bt_97_80 rfl rfl (fun _ _ _ => rfl) g1916 rfl ?_
            refine bh_c (pc' := 83) (n := 13) bt_97_81 rfl rfl (fun _ _ _ => rfl) (by decide) (fun c1950 e1951 => ?_)
            refine bh_cv (pc' := 86) (st := []) (args := [.int c1950]) bt_97_83 rfl rfl (by decide) hP1933 (by omega) rfl (Nat.le_of_ble_eq_true rfl) (Nat.le_of_ble_eq_true rfl) ?_
            refine sp_67 (k := c1950) hP1933 (by simp only [List.length_cons]; omega) rfl rfl (by omega) (by omega) (by omega) (fun h1952 s1953 hP1954 f1955 p1956 => ?_)
            show bh_G E FIN ((97, 86, lv1911, [], 0, 0) :: gs, _, none)
            refine bh_ld (pc' := 87) bt_97_86 rfl rfl (fun _ _ _ => rfl) g1916 rfl ?_
            refine bh_gr (pc' := 90) (c := 110) bt_97_87 rfl rfl (fun _ _ _ => rfl) hP1954 bx_r36 ?_
            refine bh_ld (pc' := 91) bt_97_90 rfl rfl (fun _ _ _ => rfl) g1916 rfl ?_
            refine bh_gi (pc' := 94) bt_97_91 rfl rfl (fun _ _ _ => rfl) hP1954 bx_i33 ((f1955 33 (by decide) (by decide) (by decide)).trans ((f1939 33 (by decide) (by decide) (by decide) (by decide) (by decide) (by decide)).trans ((f1922 33 (by decide) (by decide) (by decide)).trans (f1908 33 (by decide) (by decide))))) ?_
            refine bh_ld (pc' := 95) bt_97_94 rfl rfl (fun _ _ _ => rfl) g1916 rfl ?_
            refine bh_gi (pc' := 98) bt_97_95 rfl rfl (fun _ _ _ => rfl) hP1954 bx_i39 (f1955 39 (by decide) (by decide) (by decide)) ?_
            refine bh_ias (pc' := 99) bt_97_98 rfl rfl (fun _ _ _ => rfl) hP1954 bx_a110 (Or.inl rfl) (by omega) (by omega) (fun h1957 hP1958 => ?_)
            refine bh_ld (pc' := 100) bt_97_99 rfl rfl (fun _ _ _ => rfl) g1916 rfl ?_
            refine bh_gi (pc' := 103) bt_97_100 rfl rfl (fun _ _ _ => rfl) hP1958 bx_i13 rfl ?_
            refine bh_i0 (pc' := 106) (pt := 110) bt_97_103 rfl rfl (fun k1959 => ?_) (fun k1959 => ?_)
            · replace k1959 : ((s1953 13)).toInt ≠ 0 := k1959
              refine bh_ld (pc' := 111) bt_97_110 rfl rfl (fun _ _ _ => rfl) g1916 rfl ?_
              refine bh_c (pc' := 113) (n := 33) bt_97_111 rfl rfl (fun _ _ _ => rfl) (by decide) (fun c1960 e1961 => ?_)
              refine bh_cv (pc' := 116) (st := []) (args := [.int c1960]) bt_97_113 rfl rfl (by decide) hP1958 (by omega) rfl (Nat.le_of_ble_eq_true rfl) (Nat.le_of_ble_eq_true rfl) ?_
              refine sp_67 (k := c1960) hP1958 (by simp only [List.length_cons]; omega) rfl rfl (by omega) (by omega) (by omega) (fun h1962 s1963 hP1964 f1965 p1966 => ?_)
              show bh_G E FIN ((97, 116, lv1911, [], 0, 0) :: gs, _, none)
              refine bh_ld (pc' := 117) bt_97_116 rfl rfl (fun _ _ _ => rfl) g1916 rfl ?_
              refine bh_cv (pc' := 120) (st := []) (args := []) bt_97_117 rfl rfl (by decide) hP1964 (by omega) rfl (Nat.le_of_ble_eq_true rfl) (Nat.le_of_ble_eq_true rfl) ?_
              have z1972 := congrArg Int32.toInt ((f1965 12 (by decide) (by decide) (by decide)).trans (f1955 12 (by decide) (by decide) (by decide)))
              have z1973 := congrArg Int32.toInt ((f1965 19 (by decide) (by decide) (by decide)).trans ((f1955 19 (by decide) (by decide) (by decide)).trans ((f1939 19 (by decide) (by decide) (by decide) (by decide) (by decide) (by decide)).trans ((f1922 19 (by decide) (by decide) (by decide)).trans (f1908 19 (by decide) (by decide))))))
              have z1974 := congrArg Int32.toInt ((f1965 33 (by decide) (by decide) (by decide)).trans ((f1955 33 (by decide) (by decide) (by decide)).trans ((f1939 33 (by decide) (by decide) (by decide) (by decide) (by decide) (by decide)).trans ((f1922 33 (by decide) (by decide) (by decide)).trans (f1908 33 (by decide) (by decide))))))
              have z1975 := congrArg Int32.toInt ((f1965 39 (by decide) (by decide) (by decide)).trans (f1955 39 (by decide) (by decide) (by decide)))
              refine sp_100 hP1964 (by simp only [List.length_cons]; omega) (by omega) (by omega) (by omega) (by omega) (by omega) (by omega) (by omega) (by omega) (by omega) (by omega) (fun h1967 s1968 A1969 hP1970 y1971 => ?_)
              obtain ⟨f1976, a1977, w1978, w1979, w1980, w1981, w1982, w1983, w1984, w1985, w1986, w1987⟩ := y1971
              show bh_G E FIN ((97, 120, lv1911, [], 0, 0) :: gs, _, none)
              refine bh_ld (pc' := 121) bt_97_120 rfl rfl (fun _ _ _ => rfl) g1916 rfl ?_
              refine bh_c (pc' := 123) (n := 34) bt_97_121 rfl rfl (fun _ _ _ => rfl) (by decide) (fun c1988 e1989 => ?_)
              refine bh_cv (pc' := 126) (st := []) (args := [.int c1988]) bt_97_123 rfl rfl (by decide) hP1970 (by omega) rfl (Nat.le_of_ble_eq_true rfl) (Nat.le_of_ble_eq_true rfl) ?_
              refine sp_67 (k := c1988) hP1970 (by simp only [List.length_cons]; omega) rfl rfl (by omega) (by omega) (by omega) (fun h1990 s1991 hP1992 f1993 p1994 => ?_)
              show bh_G E FIN ((97, 126, lv1911, [], 0, 0) :: gs, _, none)
              refine bh_go (pc' := 12) bt_97_126 rfl ?_
              have z12 := congrArg Int32.toInt (f1993 12 (by decide) (by decide) (by decide))
              have z19 := congrArg Int32.toInt ((f1993 19 (by decide) (by decide) (by decide)).trans ((f1976 19 (by decide) (by decide) (by decide) (by decide) (by decide) (by decide) (by decide)).trans ((f1965 19 (by decide) (by decide) (by decide)).trans ((f1955 19 (by decide) (by decide) (by decide)).trans ((f1939 19 (by decide) (by decide) (by decide) (by decide) (by decide) (by decide)).trans ((f1922 19 (by decide) (by decide) (by decide)).trans (f1908 19 (by decide) (by decide))))))))
              have z33 := congrArg Int32.toInt (f1993 33 (by decide) (by decide) (by decide))
              have z39 := congrArg Int32.toInt (f1993 39 (by decide) (by decide) (by decide))
              exact ih _ _ _ _ _ _ hP1992 g1916 g1917 g1918 g1913 (by omega) (by omega) (by omega) (by omega) ⟨(fun j j11 j12 j13 j14 j33 j39 j43 => ((fun j j11 j12 j13 j14 j33 j39 j43 => ((f1993 j j11 j13 j14).trans ((f1976 j j11 j12 j13 j14 j33 j39 j43).trans ((f1965 j j11 j13 j14).trans ((f1955 j j11 j13 j14).trans ((f1939 j j11 j12 j13 j14 j39 j43).trans ((f1922 j j11 j13 j14).trans (f1908 j j13 j14)))))))) j j11 j12 j13 j14 j33 j39 j43).trans (x1 j j11 j12 j13 j14 j33 j39 j43)), fun k j u1 u2 u3 => ((a1977 k j (by omega) (by omega) (by omega)).trans ((bh_up_o (by omega)).trans ((a1940 k j (by omega) (by omega)).trans ((bh_up_o (by omega)).trans ((bh_up_o (by omega)).trans (x2 k j (by omega) (by omega) u3)))))), by omega, by omega, by omega, by omega, by omega, by omega, by omega, by omega, by omega, by omega, fun hF => by omega⟩
            · replace k1959 : ¬ (((s1953 13)).toInt ≠ 0) := k1959
              refine bh_ld (pc' := 107) bt_97_106 rfl rfl (fun _ _ _ => rfl) g1916 rfl ?_
              refine bh_cv (pc' := 110) (st := []) (args := []) bt_97_107 rfl rfl (by decide) hP1958 (by omega) rfl (Nat.le_of_ble_eq_true rfl) (Nat.le_of_ble_eq_true rfl) ?_
              have z2000 := congrArg Int32.toInt (f1955 12 (by decide) (by decide) (by decide))
              have z2001 := congrArg Int32.toInt ((f1955 19 (by decide) (by decide) (by decide)).trans ((f1939 19 (by decide) (by decide) (by decide) (by decide) (by decide) (by decide)).trans ((f1922 19 (by decide) (by decide) (by decide)).trans (f1908 19 (by decide) (by decide)))))
              have z2002 := congrArg Int32.toInt ((f1955 33 (by decide) (by decide) (by decide)).trans ((f1939 33 (by decide) (by decide) (by decide) (by decide) (by decide) (by decide)).trans ((f1922 33 (by decide) (by decide) (by decide)).trans (f1908 33 (by decide) (by decide)))))
              have z2003 := congrArg Int32.toInt (f1955 39 (by decide) (by decide) (by decide))
              refine sp_26 hP1958 (by simp only [List.length_cons]; omega) (by omega) (by omega) (by omega) (by omega) (by omega) (by omega) (by omega) (by omega) (fun h1995 s1996 A1997 hP1998 y1999 => ?_)
              obtain ⟨f2004, a2005, w2006, w2007, w2008, w2009, w2010, w2011, w2012, w2013, w2014⟩ := y1999
              show bh_G E FIN ((97, 110, lv1911, [], 0, 0) :: gs, _, none)
              refine bh_ld (pc' := 111) bt_97_110 rfl rfl (fun _ _ _ => rfl) g1916 rfl ?_
              refine bh_c (pc' := 113) (n := 33) bt_97_111 rfl rfl (fun _ _ _ => rfl) (by decide) (fun c2015 e2016 => ?_)
              refine bh_cv (pc' := 116) (st := []) (args := [.int c2015]) bt_97_113 rfl rfl (by decide) hP1998 (by omega) rfl (Nat.le_of_ble_eq_true rfl) (Nat.le_of_ble_eq_true rfl) ?_
              refine sp_67 (k := c2015) hP1998 (by simp only [List.length_cons]; omega) rfl rfl (by omega) (by omega) (by omega) (fun h2017 s2018 hP2019 f2020 p2021 => ?_)
              show bh_G E FIN ((97, 116, lv1911, [], 0, 0) :: gs, _, none)
              refine bh_ld (pc' := 117) bt_97_116 rfl rfl (fun _ _ _ => rfl) g1916 rfl ?_
              refine bh_cv (pc' := 120) (st := []) (args := []) bt_97_117 rfl rfl (by decide) hP2019 (by omega) rfl (Nat.le_of_ble_eq_true rfl) (Nat.le_of_ble_eq_true rfl) ?_
              have z2027 := congrArg Int32.toInt (f2020 12 (by decide) (by decide) (by decide))
              have z2028 := congrArg Int32.toInt ((f2020 19 (by decide) (by decide) (by decide)).trans ((f2004 19 (by decide) (by decide) (by decide) (by decide) (by decide) (by decide)).trans ((f1955 19 (by decide) (by decide) (by decide)).trans ((f1939 19 (by decide) (by decide) (by decide) (by decide) (by decide) (by decide)).trans ((f1922 19 (by decide) (by decide) (by decide)).trans (f1908 19 (by decide) (by decide)))))))
              have z2029 := congrArg Int32.toInt ((f2020 33 (by decide) (by decide) (by decide)).trans ((f2004 33 (by decide) (by decide) (by decide) (by decide) (by decide) (by decide)).trans ((f1955 33 (by decide) (by decide) (by decide)).trans ((f1939 33 (by decide) (by decide) (by decide) (by decide) (by decide) (by decide)).trans ((f1922 33 (by decide) (by decide) (by decide)).trans (f1908 33 (by decide) (by decide)))))))
              have z2030 := congrArg Int32.toInt (f2020 39 (by decide) (by decide) (by decide))
              refine sp_100 hP2019 (by simp only [List.length_cons]; omega) (by omega) (by omega) (by omega) (by omega) (by omega) (by omega) (by omega) (by omega) (by omega) (by omega) (fun h2022 s2023 A2024 hP2025 y2026 => ?_)
              obtain ⟨f2031, a2032, w2033, w2034, w2035, w2036, w2037, w2038, w2039, w2040, w2041, w2042⟩ := y2026
              show bh_G E FIN ((97, 120, lv1911, [], 0, 0) :: gs, _, none)
              refine bh_ld (pc' := 121) bt_97_120 rfl rfl (fun _ _ _ => rfl) g1916 rfl ?_
              refine bh_c (pc' := 123) (n := 34) bt_97_121 rfl rfl (fun _ _ _ => rfl) (by decide) (fun c2043 e2044 => ?_)
              refine bh_cv (pc' := 126) (st := []) (args := [.int c2043]) bt_97_123 rfl rfl (by decide) hP2025 (by omega) rfl (Nat.le_of_ble_eq_true rfl) (Nat.le_of_ble_eq_true rfl) ?_
              refine sp_67 (k := c2043) hP2025 (by simp only [List.length_cons]; omega) rfl rfl (by omega) (by omega) (by omega) (fun h2045 s2046 hP2047 f2048 p2049 => ?_)
              show bh_G E FIN ((97, 126, lv1911, [], 0, 0) :: gs, _, none)
              refine bh_go (pc' := 12) bt_97_126 rfl ?_
              have z12 := congrArg Int32.toInt (f2048 12 (by decide) (by decide) (by decide))
              have z19 := congrArg Int32.toInt ((f2048 19 (by decide) (by decide) (by decide)).trans ((f2031 19 (by decide) (by decide) (by decide) (by decide) (by decide) (by decide) (by decide)).trans ((f2020 19 (by decide) (by decide) (by decide)).trans ((f2004 19 (by decide) (by decide) (by decide) (by decide) (by decide) (by decide)).trans ((f1955 19 (by decide) (by decide) (by decide)).trans ((f1939 19 (by decide) (by decide) (by decide) (by decide) (by decide) (by decide)).trans ((f1922 19 (by decide) (by decide) (by decide)).trans (f1908 19 (by decide) (by decide)))))))))
              have z33 := congrArg Int32.toInt (f2048 33 (by decide) (by decide) (by decide))
              have z39 := congrArg Int32.toInt (f2048 39 (by decide) (by decide) (by decide))
              refine ih _ _ _ _ _ _ hP2047 g1916 g1917 g1918 g1913 (by omega) (by omega) (by omega) (by omega) ⟨(fun j j11 j12 j13 j14 j33 j39 j43 => ((fun j j11 j12 j13 j14 j33 j39 j43 => ((f2048 j j11 j13 j14).trans ((f2031 j j11 j12 j13 j14 j33 j39 j43).trans ((f2020 j j11 j13 j14).trans ((f2004 j j11 j12 j13 j14 j39 j43).trans ((f1955 j j11 j13 j14).trans ((f1939 j j11 j12 j13 j14 j39 j43).trans ((f1922 j j11 j13 j14).trans (f1908 j j13 j14))))))))) j j11 j12 j13 j14 j33 j39 j43).trans (x1 j j11 j12 j13 j14 j33 j39 j43)), fun k j u1 u2 u3 => ((a2032 k j (by omega) (by omega) (by omega)).trans ((a2005 k j (by omega) (by omega)).trans ((bh_up_o (by omega)).trans ((a1940 k j (by omega) (by omega)).trans ((bh_up_o (by omega)).trans ((bh_up_o (by omega)).trans (x2 k j (by omega) (by omega) u3))))))), by omega, by omega, by omega, by omega, by omega, by omega, by omega, by omega, by omega, by omega, fun hF => ⟨by omega, by omega, by omega, fun b b1 b2 => ?_⟩⟩
              have i1 := (w1949 (by omega)).2.2.2
              rw [((f1922 39 (by decide) (by decide) (by decide)).trans (f1908 39 (by decide) (by decide)))] at i1
              have i2 := (w2014 (by omega)).2.2.2
              rw [(f1955 39 (by decide) (by decide) (by decide))] at i2
              have i3 := (w2042 (by omega)).2.2.2
              rw [(f2020 39 (by decide) (by decide) (by decide))] at i3
              rw [((f2020 33 (by decide) (by decide) (by decide)).trans ((f2004 33 (by decide) (by decide) (by decide) (by decide) (by decide) (by decide)).trans ((f1955 33 (by decide) (by decide) (by decide)).trans ((f1939 33 (by decide) (by decide) (by decide) (by decide) (by decide) (by decide)).trans ((f1922 33 (by decide) (by decide) (by decide)).trans (f1908 33 (by decide) (by decide)))))))] at i3
              rw [(f2048 39 (by decide) (by decide) (by decide))]
              by_cases hb : b = (s 33).toInt.toNat
              · have v109 : (A2024 109 b).toInt = (s 39).toInt := by
                  rw [a2032 109 b (by omega) (by omega) (by omega), a2005 109 b (by omega) (by omega), bh_up_o (by omega), a1940 109 b (by omega) (by omega), hb, bh_up_i]
                  rfl
                have v110 : (A2024 110 b).toInt = (s1931 39).toInt := by
                  rw [a2032 110 b (by omega) (by omega) (by omega), a2005 110 b (by omega) (by omega), hb, bh_up_i]
                  rfl
                have v111 : (A2024 111 b).toInt = (s1996 39).toInt := by
                  rw [hb]
                  exact i3.1
                have v112 : (A2024 112 b).toInt = (s2023 39).toInt := by
                  rw [hb]
                  exact i3.2.1
                exact ⟨Or.inr ⟨rd_W_of (A1 := A1932) v109 v110 (by omega) (by omega) (by omega) i1 (fun j hj => ⟨(a2032 113 j (by omega) (by omega) (by omega)).trans ((a2005 113 j (by omega) (by omega)).trans (bh_up_o (by omega))), (a2032 114 j (by omega) (by omega) (by omega)).trans ((a2005 114 j (by omega) (by omega)).trans (bh_up_o (by omega)))⟩), rd_W_of (A1 := A1997) v110 v111 (by omega) (by omega) (by omega) i2 (fun j hj => ⟨a2032 113 j (by omega) (by omega) (by omega), a2032 114 j (by omega) (by omega) (by omega)⟩)⟩, rd_W_of (A1 := A2024) v111 v112 (by omega) (by omega) (by omega) i3.2.2 (fun j hj => ⟨rfl, rfl⟩)⟩
              · have ob := (x13 (by omega)).2.2.2 b b1 (by omega)
                refine rd_B_congr (Nat.le_refl _) (by omega) (fun j g1 g2 => ⟨?_, ?_⟩) (fun k g1 g2 => ?_) ob
                · exact (a2032 113 j (by omega) (by omega) (by omega)).trans ((a2005 113 j (by omega) (by omega)).trans ((bh_up_o (by omega)).trans ((a1940 113 j (by omega) (by omega)).trans ((bh_up_o (by omega)).trans (bh_up_o (by omega))))))
                · exact (a2032 114 j (by omega) (by omega) (by omega)).trans ((a2005 114 j (by omega) (by omega)).trans ((bh_up_o (by omega)).trans ((a1940 114 j (by omega) (by omega)).trans ((bh_up_o (by omega)).trans (bh_up_o (by omega))))))
                · exact (a2032 k b (by omega) (by omega) (by omega)).trans ((a2005 k b (by omega) (by omega)).trans ((bh_up_o (by omega)).trans ((a1940 k b (by omega) (by omega)).trans ((bh_up_o (by omega)).trans (bh_up_o (by omega))))))
          · replace k1910 : ¬ (((s1906 13)).toInt ≤ 0) := k1910
            refine bh_rv bt_97_45 ?_
            have z11 := congrArg Int32.toInt (f1908 11 (by decide) (by decide))
            have z12 := congrArg Int32.toInt (f1908 12 (by decide) (by decide))
            have z19 := congrArg Int32.toInt (f1908 19 (by decide) (by decide))
            have z33 := congrArg Int32.toInt (f1908 33 (by decide) (by decide))
            have z39 := congrArg Int32.toInt (f1908 39 (by decide) (by decide))
            exact kk _ _ _ hP1907 ⟨(fun j j11 j12 j13 j14 j33 j39 j43 => ((fun j j11 j12 j13 j14 j33 j39 j43 => (f1908 j j13 j14)) j j11 j12 j13 j14 j33 j39 j43).trans (x1 j j11 j12 j13 j14 j33 j39 j43)), fun k' j u1 u2 u4 u3 => (x2 k' j (by omega) (by omega) u3), by omega, by omega, by omega, by omega, by omega, by omega, by omega, by omega, by omega, by omega, fun hF => by omega⟩
set_option maxHeartbeats 40000000 in
theorem sp_97 {s0 : Nat → Int32} {A0 : Nat → Nat → Int32} (hP : bh_P bx_T E h0 h s0 A0 L) (hd : gs.length + 6 ≤ 999) (hT0 : 0 ≤ (s0 11).toInt) (hT4 : (s0 11).toInt ≤ 400) (hF0 : 0 ≤ (s0 13).toInt) (hO0 : 0 ≤ (s0 12).toInt) (hO7 : (s0 12).toInt ≤ 7) (hO6 : (s0 13).toInt = 0 → (s0 12).toInt ≤ 6) (hC0 : 0 ≤ (s0 39).toInt) (hCb : (s0 13).toInt = 0 → (s0 39).toInt ≤ (s0 11).toInt + 420) (hB0 : 0 ≤ (s0 33).toInt) (hB1 : 4 * (s0 33).toInt ≤ (s0 11).toInt + 520) (hs0 : 0 ≤ (s0 19).toInt) (hs1 : (s0 19).toInt ≤ 1) {k : Int32} (hk0 : 0 ≤ k.toInt) (hk6 : k.toInt ≤ 6) (kk : ∀ (h' : mm_H) (s' : Nat → Int32) (A' : Nat → Nat → Int32), bh_P bx_T E h0 h' s' A' L → rd_R k s0 s' A0 A' → bh_G E FIN (mm_back none gs h')) : bh_G E FIN ((97, 0, [(0, .ref (E.1 + 88)), (1, .int k)], [], 0, 0) :: gs, h, none) := by
  refine bh_ld (pc' := 1) bt_97_0 rfl rfl (fun _ _ _ => rfl) rfl rfl ?_
  refine bh_c (pc' := 2) (n := 5) bt_97_1 rfl rfl (fun _ _ _ => rfl) (by decide) (fun c2050 e2051 => ?_)
  refine bh_cv (pc' := 5) (st := []) (args := [.int c2050]) bt_97_2 rfl rfl (by decide) hP (by omega) rfl (Nat.le_of_ble_eq_true rfl) (Nat.le_of_ble_eq_true rfl) ?_
  refine sp_67 (k := c2050) hP (by simp only [List.length_cons]; omega) rfl rfl (by omega) (by omega) (by omega) (fun h2052 s2053 hP2054 f2055 p2056 => ?_)
  show bh_G E FIN ((97, 5, _, [], 0, 0) :: gs, _, none)
  refine bh_ld (pc' := 6) bt_97_5 rfl rfl (fun _ _ _ => rfl) rfl rfl ?_
  refine bh_gi (pc' := 9) bt_97_6 rfl rfl (fun _ _ _ => rfl) hP2054 bx_i33 (f2055 33 (by decide) (by decide) (by decide)) ?_
  refine bh_st (pc' := 10) bt_97_9 rfl rfl (fun _ _ _ => rfl) rfl (by decide) (by decide) (fun lv2057 F2058 g2059 => ?_)
  have g2060 := F2058 0 (.ref (E.1 + 88)) rfl (by decide) (Or.inl rfl)
  have g2061 := F2058 1 (.int k) rfl (by decide) (Or.inl rfl)
  refine bh_c (pc' := 11) (n := 0) bt_97_10 rfl rfl (fun _ _ _ => rfl) (by decide) (fun c2062 e2063 => ?_)
  refine bh_st (pc' := 12) bt_97_11 rfl rfl (fun _ _ _ => rfl) rfl (by decide) (by decide) (fun lv2064 F2065 g2066 => ?_)
  have g2067 := F2065 0 (.ref (E.1 + 88)) g2060 (by decide) (Or.inl rfl)
  have g2068 := F2065 1 (.int k) g2061 (by decide) (Or.inl rfl)
  have g2069 := F2065 2 (.int (s0 33)) g2059 (by decide) (Or.inl rfl)
  have z12 := congrArg Int32.toInt (f2055 12 (by decide) (by decide) (by decide))
  have z19 := congrArg Int32.toInt (f2055 19 (by decide) (by decide) (by decide))
  have z33 := congrArg Int32.toInt (f2055 33 (by decide) (by decide) (by decide))
  have z39 := congrArg Int32.toInt (f2055 39 (by decide) (by decide) (by decide))
  exact rd_law hd hT0 hT4 hF0 hO0 hO7 hO6 hC0 hCb hB0 hB1 hs0 hs1 hk0 hk6 kk 402 _ _ _ _ _ _ hP2054 g2067 g2068 g2069 g2066 (by omega) (by omega) (by omega) (by omega) ⟨(fun j j11 j12 j13 j14 j33 j39 j43 => (f2055 j j11 j13 j14)), fun _ _ _ _ _ => rfl, by omega, by omega, by omega, by omega, by omega, by omega, by omega, by omega, by omega, by omega, fun hF => ⟨by omega, by omega, by omega, fun b b1 b2 => absurd b2 (by omega)⟩⟩
end BX
