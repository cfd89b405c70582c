/-! BY HAND: the reference's reader, 6: tokens (wip/p3/bh6.py) -/
/-- the byte at a place of the text -/
def rd_byte (A : Nat → Nat → Int32) (z i : Int32) : Int32 := if z.toInt ≤ i.toInt then 0 else A 90 i.toInt.toNat &&& 255
theorem rd_byte_c {A : Nat → Nat → Int32} {z v i : Int32} (e : v.toInt = i.toInt) : (rd_byte A z v).toInt = (rd_byte A z i).toInt := by
  unfold rd_byte
  rw [e]
theorem bt_2_0 : mm_at mt_P 2 0 = some ((0, 1, .iload_n 2, 0, 0, 0, 0), 3, 2, 0, 9, 3, 0, 0) := rfl
theorem bt_2_1 : mm_at mt_P 2 1 = some ((1, 3, .ifCond .ne 7, 0, 0, 0, 0), 3, 2, 0, 9, 3, 0, 0) := rfl
theorem bt_2_4 : mm_at mt_P 2 4 = some ((4, 1, .lload_n 0, 0, 0, 0, 0), 3, 2, 0, 9, 3, 0, 0) := rfl
theorem bt_2_5 : mm_at mt_P 2 5 = some ((5, 3, .goto 16, 0, 0, 0, 0), 3, 2, 0, 9, 3, 0, 0) := rfl
theorem bt_2_8 : mm_at mt_P 2 8 = some ((8, 3, .ldc2_w 175, 0, 0, 27, 1201), 3, 2, 0, 9, 3, 0, 0) := rfl
theorem bt_2_11 : mm_at mt_P 2 11 = some ((11, 1, .lload_n 0, 0, 0, 0, 0), 3, 2, 0, 9, 3, 0, 0) := rfl
theorem bt_2_12 : mm_at mt_P 2 12 = some ((12, 1, .lmul, 0, 0, 0, 0), 3, 2, 0, 9, 3, 0, 0) := rfl
theorem bt_2_13 : mm_at mt_P 2 13 = some ((13, 1, .iload_n 2, 0, 0, 0, 0), 3, 2, 0, 9, 3, 0, 0) := rfl
theorem bt_2_14 : mm_at mt_P 2 14 = some ((14, 2, .bipush 97, 0, 0, 0, 0), 3, 2, 0, 9, 3, 0, 0) := rfl
theorem bt_2_16 : mm_at mt_P 2 16 = some ((16, 1, .isub, 0, 0, 0, 0), 3, 2, 0, 9, 3, 0, 0) := rfl
theorem bt_2_17 : mm_at mt_P 2 17 = some ((17, 1, .iconst 1, 0, 0, 0, 0), 3, 2, 0, 9, 3, 0, 0) := rfl
theorem bt_2_18 : mm_at mt_P 2 18 = some ((18, 1, .iadd, 0, 0, 0, 0), 3, 2, 0, 9, 3, 0, 0) := rfl
theorem bt_2_19 : mm_at mt_P 2 19 = some ((19, 1, .i2l, 0, 0, 0, 0), 3, 2, 0, 9, 3, 0, 0) := rfl
theorem bt_2_20 : mm_at mt_P 2 20 = some ((20, 1, .ladd, 0, 0, 0, 0), 3, 2, 0, 9, 3, 0, 0) := rfl
theorem bt_2_21 : mm_at mt_P 2 21 = some ((21, 1, .lreturn, 0, 0, 0, 0), 3, 2, 0, 9, 3, 0, 0) := rfl
theorem bt_12_0 : mm_at mt_P 12 0 = some ((0, 1, .iload_n 1, 0, 0, 0, 0), 2, 1, 1, 9, 1, 0, 0) := rfl
theorem bt_12_1 : mm_at mt_P 12 1 = some ((1, 1, .aload_n 0, 0, 0, 0, 0), 2, 1, 1, 9, 1, 0, 0) := rfl
theorem bt_12_2 : mm_at mt_P 12 2 = some ((2, 3, .getfield 172, 9, 4, 0, 1221), 2, 1, 1, 9, 1, 0, 0) := rfl
theorem bt_12_5 : mm_at mt_P 12 5 = some ((5, 3, .if_icmp .ge 16, 0, 0, 0, 0), 2, 1, 1, 9, 1, 0, 0) := rfl
theorem bt_12_8 : mm_at mt_P 12 8 = some ((8, 1, .aload_n 0, 0, 0, 0, 0), 2, 1, 1, 9, 1, 0, 0) := rfl
theorem bt_12_9 : mm_at mt_P 12 9 = some ((9, 3, .getfield 17, 9, 3, 0, 1220), 2, 1, 1, 9, 1, 0, 0) := rfl
theorem bt_12_12 : mm_at mt_P 12 12 = some ((12, 1, .iload_n 1, 0, 0, 0, 0), 2, 1, 1, 9, 1, 0, 0) := rfl
theorem bt_12_13 : mm_at mt_P 12 13 = some ((13, 1, .baload, 0, 0, 0, 0), 2, 1, 1, 9, 1, 0, 0) := rfl
theorem bt_12_14 : mm_at mt_P 12 14 = some ((14, 3, .sipush 255, 0, 0, 0, 0), 2, 1, 1, 9, 1, 0, 0) := rfl
theorem bt_12_17 : mm_at mt_P 12 17 = some ((17, 1, .iand, 0, 0, 0, 0), 2, 1, 1, 9, 1, 0, 0) := rfl
theorem bt_12_18 : mm_at mt_P 12 18 = some ((18, 3, .goto 4, 0, 0, 0, 0), 2, 1, 1, 9, 1, 0, 0) := rfl
theorem bt_12_21 : mm_at mt_P 12 21 = some ((21, 1, .iconst 0, 0, 0, 0, 0), 2, 1, 1, 9, 1, 0, 0) := rfl
theorem bt_12_22 : mm_at mt_P 12 22 = some ((22, 1, .ireturn, 0, 0, 0, 0), 2, 1, 1, 9, 1, 0, 0) := rfl
theorem bt_19_0 : mm_at mt_P 19 0 = some ((0, 1, .aload_n 0, 0, 0, 0, 0), 8, 0, 1, 9, 0, 0, 0) := rfl
theorem bt_19_1 : mm_at mt_P 19 1 = some ((1, 1, .iconst 0, 0, 0, 0, 0), 8, 0, 1, 9, 0, 0, 0) := rfl
theorem bt_19_2 : mm_at mt_P 19 2 = some ((2, 3, .putfield 181, 9, 10, 0, 1227), 8, 0, 1, 9, 0, 0, 0) := rfl
theorem bt_19_5 : mm_at mt_P 19 5 = some ((5, 1, .iconst 0, 0, 0, 0, 0), 8, 0, 1, 9, 0, 0, 0) := rfl
theorem bt_19_6 : mm_at mt_P 19 6 = some ((6, 1, .istore_n 1, 0, 0, 0, 0), 8, 0, 1, 9, 0, 0, 0) := rfl
theorem bt_19_7 : mm_at mt_P 19 7 = some ((7, 1, .aload_n 0, 0, 0, 0, 0), 8, 0, 1, 9, 0, 0, 0) := rfl
theorem bt_19_8 : mm_at mt_P 19 8 = some ((8, 3, .getfield 181, 9, 10, 0, 1227), 8, 0, 1, 9, 0, 0, 0) := rfl
theorem bt_19_11 : mm_at mt_P 19 11 = some ((11, 3, .sipush 400, 0, 0, 0, 0), 8, 0, 1, 9, 0, 0, 0) := rfl
theorem bt_19_14 : mm_at mt_P 19 14 = some ((14, 3, .if_icmp .gt 280, 0, 0, 0, 0), 8, 0, 1, 9, 0, 0, 0) := rfl
theorem bt_19_17 : mm_at mt_P 19 17 = some ((17, 1, .aload_n 0, 0, 0, 0, 0), 8, 0, 1, 9, 0, 0, 0) := rfl
theorem bt_19_18 : mm_at mt_P 19 18 = some ((18, 1, .iload_n 1, 0, 0, 0, 0), 8, 0, 1, 9, 0, 0, 0) := rfl
theorem bt_19_19 : mm_at mt_P 19 19 = some ((19, 3, .invokevirtual 184, 12, 0, 0, 1457), 8, 0, 1, 9, 0, 0, 0) := rfl
theorem bt_19_22 : mm_at mt_P 19 22 = some ((22, 1, .istore_n 2, 0, 0, 0, 0), 8, 0, 1, 9, 0, 0, 0) := rfl
theorem bt_19_23 : mm_at mt_P 19 23 = some ((23, 1, .iload_n 1, 0, 0, 0, 0), 8, 0, 1, 9, 0, 0, 0) := rfl
theorem bt_19_24 : mm_at mt_P 19 24 = some ((24, 1, .aload_n 0, 0, 0, 0, 0), 8, 0, 1, 9, 0, 0, 0) := rfl
theorem bt_19_25 : mm_at mt_P 19 25 = some ((25, 3, .getfield 172, 9, 4, 0, 1221), 8, 0, 1, 9, 0, 0, 0) := rfl
theorem bt_19_28 : mm_at mt_P 19 28 = some ((28, 3, .if_icmp .lt 15, 0, 0, 0, 0), 8, 0, 1, 9, 0, 0, 0) := rfl
theorem bt_19_31 : mm_at mt_P 19 31 = some ((31, 1, .aload_n 0, 0, 0, 0, 0), 8, 0, 1, 9, 0, 0, 0) := rfl
theorem bt_19_32 : mm_at mt_P 19 32 = some ((32, 1, .iconst 0, 0, 0, 0, 0), 8, 0, 1, 9, 0, 0, 0) := rfl
theorem bt_19_33 : mm_at mt_P 19 33 = some ((33, 1, .aload_n 0, 0, 0, 0, 0), 8, 0, 1, 9, 0, 0, 0) := rfl
theorem bt_19_34 : mm_at mt_P 19 34 = some ((34, 3, .getfield 172, 9, 4, 0, 1221), 8, 0, 1, 9, 0, 0, 0) := rfl
theorem bt_19_37 : mm_at mt_P 19 37 = some ((37, 1, .iconst 0, 0, 0, 0, 0), 8, 0, 1, 9, 0, 0, 0) := rfl
theorem bt_19_38 : mm_at mt_P 19 38 = some ((38, 1, .lconst 0, 0, 0, 0, 0), 8, 0, 1, 9, 0, 0, 0) := rfl
theorem bt_19_39 : mm_at mt_P 19 39 = some ((39, 3, .invokevirtual 188, 103, 0, 0, 1461), 8, 0, 1, 9, 0, 0, 0) := rfl
theorem bt_19_42 : mm_at mt_P 19 42 = some ((42, 1, .return_, 0, 0, 0, 0), 8, 0, 1, 9, 0, 0, 0) := rfl
theorem bt_19_43 : mm_at mt_P 19 43 = some ((43, 1, .iload_n 2, 0, 0, 0, 0), 8, 0, 1, 9, 0, 0, 0) := rfl
theorem bt_19_44 : mm_at mt_P 19 44 = some ((44, 2, .bipush 9, 0, 0, 0, 0), 8, 0, 1, 9, 0, 0, 0) := rfl
theorem bt_19_46 : mm_at mt_P 19 46 = some ((46, 3, .if_icmp .eq 21, 0, 0, 0, 0), 8, 0, 1, 9, 0, 0, 0) := rfl
theorem bt_19_49 : mm_at mt_P 19 49 = some ((49, 1, .iload_n 2, 0, 0, 0, 0), 8, 0, 1, 9, 0, 0, 0) := rfl
theorem bt_19_50 : mm_at mt_P 19 50 = some ((50, 2, .bipush 10, 0, 0, 0, 0), 8, 0, 1, 9, 0, 0, 0) := rfl
theorem bt_19_52 : mm_at mt_P 19 52 = some ((52, 3, .if_icmp .eq 15, 0, 0, 0, 0), 8, 0, 1, 9, 0, 0, 0) := rfl
theorem bt_19_55 : mm_at mt_P 19 55 = some ((55, 1, .iload_n 2, 0, 0, 0, 0), 8, 0, 1, 9, 0, 0, 0) := rfl
theorem bt_19_56 : mm_at mt_P 19 56 = some ((56, 2, .bipush 13, 0, 0, 0, 0), 8, 0, 1, 9, 0, 0, 0) := rfl
theorem bt_19_58 : mm_at mt_P 19 58 = some ((58, 3, .if_icmp .eq 9, 0, 0, 0, 0), 8, 0, 1, 9, 0, 0, 0) := rfl
theorem bt_19_61 : mm_at mt_P 19 61 = some ((61, 1, .iload_n 2, 0, 0, 0, 0), 8, 0, 1, 9, 0, 0, 0) := rfl
theorem bt_19_62 : mm_at mt_P 19 62 = some ((62, 2, .bipush 32, 0, 0, 0, 0), 8, 0, 1, 9, 0, 0, 0) := rfl
theorem bt_19_64 : mm_at mt_P 19 64 = some ((64, 3, .if_icmp .ne 9, 0, 0, 0, 0), 8, 0, 1, 9, 0, 0, 0) := rfl
theorem bt_19_67 : mm_at mt_P 19 67 = some ((67, 3, .iinc 1 1, 0, 0, 0, 0), 8, 0, 1, 9, 0, 0, 0) := rfl
theorem bt_19_70 : mm_at mt_P 19 70 = some ((70, 3, .goto 221, 0, 0, 0, 0), 8, 0, 1, 9, 0, 0, 0) := rfl
theorem bt_19_73 : mm_at mt_P 19 73 = some ((73, 1, .iload_n 2, 0, 0, 0, 0), 8, 0, 1, 9, 0, 0, 0) := rfl
theorem bt_19_74 : mm_at mt_P 19 74 = some ((74, 3, .invokestatic 192, 50, 0, 0, 1465), 8, 0, 1, 9, 0, 0, 0) := rfl
theorem bt_19_77 : mm_at mt_P 19 77 = some ((77, 3, .ifCond .eq 119, 0, 0, 0, 0), 8, 0, 1, 9, 0, 0, 0) := rfl
theorem bt_19_80 : mm_at mt_P 19 80 = some ((80, 1, .iconst 0, 0, 0, 0, 0), 8, 0, 1, 9, 0, 0, 0) := rfl
theorem bt_19_81 : mm_at mt_P 19 81 = some ((81, 1, .istore_n 3, 0, 0, 0, 0), 8, 0, 1, 9, 0, 0, 0) := rfl
theorem bt_19_82 : mm_at mt_P 19 82 = some ((82, 1, .lconst 0, 0, 0, 0, 0), 8, 0, 1, 9, 0, 0, 0) := rfl
theorem bt_19_83 : mm_at mt_P 19 83 = some ((83, 2, .lstore 4, 0, 0, 0, 0), 8, 0, 1, 9, 0, 0, 0) := rfl
theorem bt_19_85 : mm_at mt_P 19 85 = some ((85, 1, .aload_n 0, 0, 0, 0, 0), 8, 0, 1, 9, 0, 0, 0) := rfl
theorem bt_19_86 : mm_at mt_P 19 86 = some ((86, 1, .iload_n 1, 0, 0, 0, 0), 8, 0, 1, 9, 0, 0, 0) := rfl
theorem bt_19_87 : mm_at mt_P 19 87 = some ((87, 1, .iload_n 3, 0, 0, 0, 0), 8, 0, 1, 9, 0, 0, 0) := rfl
theorem bt_19_88 : mm_at mt_P 19 88 = some ((88, 1, .iadd, 0, 0, 0, 0), 8, 0, 1, 9, 0, 0, 0) := rfl
theorem bt_19_89 : mm_at mt_P 19 89 = some ((89, 3, .invokevirtual 184, 12, 0, 0, 1457), 8, 0, 1, 9, 0, 0, 0) := rfl
theorem bt_19_92 : mm_at mt_P 19 92 = some ((92, 3, .invokestatic 192, 50, 0, 0, 1465), 8, 0, 1, 9, 0, 0, 0) := rfl
theorem bt_19_95 : mm_at mt_P 19 95 = some ((95, 3, .ifCond .eq 29, 0, 0, 0, 0), 8, 0, 1, 9, 0, 0, 0) := rfl
theorem bt_19_98 : mm_at mt_P 19 98 = some ((98, 1, .iload_n 3, 0, 0, 0, 0), 8, 0, 1, 9, 0, 0, 0) := rfl
theorem bt_19_99 : mm_at mt_P 19 99 = some ((99, 2, .bipush 8, 0, 0, 0, 0), 8, 0, 1, 9, 0, 0, 0) := rfl
theorem bt_19_101 : mm_at mt_P 19 101 = some ((101, 3, .if_icmp .ge 17, 0, 0, 0, 0), 8, 0, 1, 9, 0, 0, 0) := rfl
theorem bt_19_104 : mm_at mt_P 19 104 = some ((104, 2, .lload 4, 0, 0, 0, 0), 8, 0, 1, 9, 0, 0, 0) := rfl
theorem bt_19_106 : mm_at mt_P 19 106 = some ((106, 1, .aload_n 0, 0, 0, 0, 0), 8, 0, 1, 9, 0, 0, 0) := rfl
theorem bt_19_107 : mm_at mt_P 19 107 = some ((107, 1, .iload_n 1, 0, 0, 0, 0), 8, 0, 1, 9, 0, 0, 0) := rfl
theorem bt_19_108 : mm_at mt_P 19 108 = some ((108, 1, .iload_n 3, 0, 0, 0, 0), 8, 0, 1, 9, 0, 0, 0) := rfl
theorem bt_19_109 : mm_at mt_P 19 109 = some ((109, 1, .iadd, 0, 0, 0, 0), 8, 0, 1, 9, 0, 0, 0) := rfl
theorem bt_19_110 : mm_at mt_P 19 110 = some ((110, 3, .invokevirtual 184, 12, 0, 0, 1457), 8, 0, 1, 9, 0, 0, 0) := rfl
theorem bt_19_113 : mm_at mt_P 19 113 = some ((113, 3, .invokestatic 177, 2, 0, 0, 1198), 8, 0, 1, 9, 0, 0, 0) := rfl
theorem bt_19_116 : mm_at mt_P 19 116 = some ((116, 2, .lstore 4, 0, 0, 0, 0), 8, 0, 1, 9, 0, 0, 0) := rfl
theorem bt_19_118 : mm_at mt_P 19 118 = some ((118, 3, .iinc 3 1, 0, 0, 0, 0), 8, 0, 1, 9, 0, 0, 0) := rfl
theorem bt_19_121 : mm_at mt_P 19 121 = some ((121, 3, .goto (-36), 0, 0, 0, 0), 8, 0, 1, 9, 0, 0, 0) := rfl
theorem bt_19_124 : mm_at mt_P 19 124 = some ((124, 1, .iload_n 3, 0, 0, 0, 0), 8, 0, 1, 9, 0, 0, 0) := rfl
theorem bt_19_125 : mm_at mt_P 19 125 = some ((125, 2, .bipush 8, 0, 0, 0, 0), 8, 0, 1, 9, 0, 0, 0) := rfl
theorem bt_19_127 : mm_at mt_P 19 127 = some ((127, 3, .if_icmp .le 7, 0, 0, 0, 0), 8, 0, 1, 9, 0, 0, 0) := rfl
theorem bt_19_130 : mm_at mt_P 19 130 = some ((130, 1, .iconst 3, 0, 0, 0, 0), 8, 0, 1, 9, 0, 0, 0) := rfl
theorem bt_19_131 : mm_at mt_P 19 131 = some ((131, 3, .goto 4, 0, 0, 0, 0), 8, 0, 1, 9, 0, 0, 0) := rfl
theorem bt_19_134 : mm_at mt_P 19 134 = some ((134, 1, .iconst 1, 0, 0, 0, 0), 8, 0, 1, 9, 0, 0, 0) := rfl
theorem bt_19_135 : mm_at mt_P 19 135 = some ((135, 2, .istore 6, 0, 0, 0, 0), 8, 0, 1, 9, 0, 0, 0) := rfl
theorem bt_19_137 : mm_at mt_P 19 137 = some ((137, 1, .iload_n 3, 0, 0, 0, 0), 8, 0, 1, 9, 0, 0, 0) := rfl
theorem bt_19_138 : mm_at mt_P 19 138 = some ((138, 2, .bipush 7, 0, 0, 0, 0), 8, 0, 1, 9, 0, 0, 0) := rfl
theorem bt_19_140 : mm_at mt_P 19 140 = some ((140, 3, .if_icmp .gt 39, 0, 0, 0, 0), 8, 0, 1, 9, 0, 0, 0) := rfl
theorem bt_19_143 : mm_at mt_P 19 143 = some ((143, 1, .iconst 0, 0, 0, 0, 0), 8, 0, 1, 9, 0, 0, 0) := rfl
theorem bt_19_144 : mm_at mt_P 19 144 = some ((144, 2, .istore 7, 0, 0, 0, 0), 8, 0, 1, 9, 0, 0, 0) := rfl
theorem bt_19_146 : mm_at mt_P 19 146 = some ((146, 2, .iload 7, 0, 0, 0, 0), 8, 0, 1, 9, 0, 0, 0) := rfl
theorem bt_19_148 : mm_at mt_P 19 148 = some ((148, 2, .bipush 24, 0, 0, 0, 0), 8, 0, 1, 9, 0, 0, 0) := rfl
theorem bt_19_150 : mm_at mt_P 19 150 = some ((150, 3, .if_icmp .ge 29, 0, 0, 0, 0), 8, 0, 1, 9, 0, 0, 0) := rfl
theorem bt_19_153 : mm_at mt_P 19 153 = some ((153, 1, .aload_n 0, 0, 0, 0, 0), 8, 0, 1, 9, 0, 0, 0) := rfl
theorem bt_19_154 : mm_at mt_P 19 154 = some ((154, 3, .getfield 34, 9, 9, 0, 1226), 8, 0, 1, 9, 0, 0, 0) := rfl
theorem bt_19_157 : mm_at mt_P 19 157 = some ((157, 2, .iload 7, 0, 0, 0, 0), 8, 0, 1, 9, 0, 0, 0) := rfl
theorem bt_19_159 : mm_at mt_P 19 159 = some ((159, 1, .laload, 0, 0, 0, 0), 8, 0, 1, 9, 0, 0, 0) := rfl
theorem bt_19_160 : mm_at mt_P 19 160 = some ((160, 2, .lload 4, 0, 0, 0, 0), 8, 0, 1, 9, 0, 0, 0) := rfl
theorem bt_19_162 : mm_at mt_P 19 162 = some ((162, 1, .lcmp, 0, 0, 0, 0), 8, 0, 1, 9, 0, 0, 0) := rfl
theorem bt_19_163 : mm_at mt_P 19 163 = some ((163, 3, .ifCond .ne 10, 0, 0, 0, 0), 8, 0, 1, 9, 0, 0, 0) := rfl
theorem bt_19_166 : mm_at mt_P 19 166 = some ((166, 2, .bipush 20, 0, 0, 0, 0), 8, 0, 1, 9, 0, 0, 0) := rfl
theorem bt_19_168 : mm_at mt_P 19 168 = some ((168, 2, .iload 7, 0, 0, 0, 0), 8, 0, 1, 9, 0, 0, 0) := rfl
theorem bt_19_170 : mm_at mt_P 19 170 = some ((170, 1, .iadd, 0, 0, 0, 0), 8, 0, 1, 9, 0, 0, 0) := rfl
theorem bt_19_171 : mm_at mt_P 19 171 = some ((171, 2, .istore 6, 0, 0, 0, 0), 8, 0, 1, 9, 0, 0, 0) := rfl
theorem bt_19_173 : mm_at mt_P 19 173 = some ((173, 3, .iinc 7 1, 0, 0, 0, 0), 8, 0, 1, 9, 0, 0, 0) := rfl
theorem bt_19_176 : mm_at mt_P 19 176 = some ((176, 3, .goto (-30), 0, 0, 0, 0), 8, 0, 1, 9, 0, 0, 0) := rfl
theorem bt_19_179 : mm_at mt_P 19 179 = some ((179, 1, .aload_n 0, 0, 0, 0, 0), 8, 0, 1, 9, 0, 0, 0) := rfl
theorem bt_19_180 : mm_at mt_P 19 180 = some ((180, 2, .iload 6, 0, 0, 0, 0), 8, 0, 1, 9, 0, 0, 0) := rfl
theorem bt_19_182 : mm_at mt_P 19 182 = some ((182, 1, .iload_n 1, 0, 0, 0, 0), 8, 0, 1, 9, 0, 0, 0) := rfl
theorem bt_19_183 : mm_at mt_P 19 183 = some ((183, 1, .iconst 0, 0, 0, 0, 0), 8, 0, 1, 9, 0, 0, 0) := rfl
theorem bt_19_184 : mm_at mt_P 19 184 = some ((184, 2, .lload 4, 0, 0, 0, 0), 8, 0, 1, 9, 0, 0, 0) := rfl
theorem bt_19_186 : mm_at mt_P 19 186 = some ((186, 3, .invokevirtual 188, 103, 0, 0, 1461), 8, 0, 1, 9, 0, 0, 0) := rfl
theorem bt_19_189 : mm_at mt_P 19 189 = some ((189, 1, .iload_n 1, 0, 0, 0, 0), 8, 0, 1, 9, 0, 0, 0) := rfl
theorem bt_19_190 : mm_at mt_P 19 190 = some ((190, 1, .iload_n 3, 0, 0, 0, 0), 8, 0, 1, 9, 0, 0, 0) := rfl
theorem bt_19_191 : mm_at mt_P 19 191 = some ((191, 1, .iadd, 0, 0, 0, 0), 8, 0, 1, 9, 0, 0, 0) := rfl
theorem bt_19_192 : mm_at mt_P 19 192 = some ((192, 1, .istore_n 1, 0, 0, 0, 0), 8, 0, 1, 9, 0, 0, 0) := rfl
theorem bt_19_193 : mm_at mt_P 19 193 = some ((193, 3, .goto 98, 0, 0, 0, 0), 8, 0, 1, 9, 0, 0, 0) := rfl
theorem bt_19_196 : mm_at mt_P 19 196 = some ((196, 1, .iload_n 2, 0, 0, 0, 0), 8, 0, 1, 9, 0, 0, 0) := rfl
theorem bt_19_197 : mm_at mt_P 19 197 = some ((197, 3, .invokestatic 196, 48, 0, 0, 1468), 8, 0, 1, 9, 0, 0, 0) := rfl
theorem bt_19_200 : mm_at mt_P 19 200 = some ((200, 3, .ifCond .eq 75, 0, 0, 0, 0), 8, 0, 1, 9, 0, 0, 0) := rfl
theorem bt_19_203 : mm_at mt_P 19 203 = some ((203, 1, .iconst 0, 0, 0, 0, 0), 8, 0, 1, 9, 0, 0, 0) := rfl
theorem bt_19_204 : mm_at mt_P 19 204 = some ((204, 1, .istore_n 3, 0, 0, 0, 0), 8, 0, 1, 9, 0, 0, 0) := rfl
theorem bt_19_205 : mm_at mt_P 19 205 = some ((205, 1, .iconst 0, 0, 0, 0, 0), 8, 0, 1, 9, 0, 0, 0) := rfl
theorem bt_19_206 : mm_at mt_P 19 206 = some ((206, 2, .istore 4, 0, 0, 0, 0), 8, 0, 1, 9, 0, 0, 0) := rfl
theorem bt_19_208 : mm_at mt_P 19 208 = some ((208, 1, .aload_n 0, 0, 0, 0, 0), 8, 0, 1, 9, 0, 0, 0) := rfl
theorem bt_19_209 : mm_at mt_P 19 209 = some ((209, 1, .iload_n 1, 0, 0, 0, 0), 8, 0, 1, 9, 0, 0, 0) := rfl
theorem bt_19_210 : mm_at mt_P 19 210 = some ((210, 1, .iload_n 3, 0, 0, 0, 0), 8, 0, 1, 9, 0, 0, 0) := rfl
theorem bt_19_211 : mm_at mt_P 19 211 = some ((211, 1, .iadd, 0, 0, 0, 0), 8, 0, 1, 9, 0, 0, 0) := rfl
theorem bt_19_212 : mm_at mt_P 19 212 = some ((212, 3, .invokevirtual 184, 12, 0, 0, 1457), 8, 0, 1, 9, 0, 0, 0) := rfl
theorem bt_19_215 : mm_at mt_P 19 215 = some ((215, 3, .invokestatic 196, 48, 0, 0, 1468), 8, 0, 1, 9, 0, 0, 0) := rfl
theorem bt_19_218 : mm_at mt_P 19 218 = some ((218, 3, .ifCond .eq 32, 0, 0, 0, 0), 8, 0, 1, 9, 0, 0, 0) := rfl
theorem bt_19_221 : mm_at mt_P 19 221 = some ((221, 1, .iload_n 3, 0, 0, 0, 0), 8, 0, 1, 9, 0, 0, 0) := rfl
theorem bt_19_222 : mm_at mt_P 19 222 = some ((222, 1, .iconst 4, 0, 0, 0, 0), 8, 0, 1, 9, 0, 0, 0) := rfl
theorem bt_19_223 : mm_at mt_P 19 223 = some ((223, 3, .if_icmp .ge 21, 0, 0, 0, 0), 8, 0, 1, 9, 0, 0, 0) := rfl
theorem bt_19_226 : mm_at mt_P 19 226 = some ((226, 2, .bipush 10, 0, 0, 0, 0), 8, 0, 1, 9, 0, 0, 0) := rfl
theorem bt_19_228 : mm_at mt_P 19 228 = some ((228, 2, .iload 4, 0, 0, 0, 0), 8, 0, 1, 9, 0, 0, 0) := rfl
theorem bt_19_230 : mm_at mt_P 19 230 = some ((230, 1, .imul, 0, 0, 0, 0), 8, 0, 1, 9, 0, 0, 0) := rfl
theorem bt_19_231 : mm_at mt_P 19 231 = some ((231, 1, .aload_n 0, 0, 0, 0, 0), 8, 0, 1, 9, 0, 0, 0) := rfl
theorem bt_19_232 : mm_at mt_P 19 232 = some ((232, 1, .iload_n 1, 0, 0, 0, 0), 8, 0, 1, 9, 0, 0, 0) := rfl
theorem bt_19_233 : mm_at mt_P 19 233 = some ((233, 1, .iload_n 3, 0, 0, 0, 0), 8, 0, 1, 9, 0, 0, 0) := rfl
theorem bt_19_234 : mm_at mt_P 19 234 = some ((234, 1, .iadd, 0, 0, 0, 0), 8, 0, 1, 9, 0, 0, 0) := rfl
theorem bt_19_235 : mm_at mt_P 19 235 = some ((235, 3, .invokevirtual 184, 12, 0, 0, 1457), 8, 0, 1, 9, 0, 0, 0) := rfl
theorem bt_19_238 : mm_at mt_P 19 238 = some ((238, 1, .iadd, 0, 0, 0, 0), 8, 0, 1, 9, 0, 0, 0) := rfl
theorem bt_19_239 : mm_at mt_P 19 239 = some ((239, 2, .bipush 48, 0, 0, 0, 0), 8, 0, 1, 9, 0, 0, 0) := rfl
theorem bt_19_241 : mm_at mt_P 19 241 = some ((241, 1, .isub, 0, 0, 0, 0), 8, 0, 1, 9, 0, 0, 0) := rfl
theorem bt_19_242 : mm_at mt_P 19 242 = some ((242, 2, .istore 4, 0, 0, 0, 0), 8, 0, 1, 9, 0, 0, 0) := rfl
theorem bt_19_244 : mm_at mt_P 19 244 = some ((244, 3, .iinc 3 1, 0, 0, 0, 0), 8, 0, 1, 9, 0, 0, 0) := rfl
theorem bt_19_247 : mm_at mt_P 19 247 = some ((247, 3, .goto (-39), 0, 0, 0, 0), 8, 0, 1, 9, 0, 0, 0) := rfl
theorem bt_19_250 : mm_at mt_P 19 250 = some ((250, 1, .aload_n 0, 0, 0, 0, 0), 8, 0, 1, 9, 0, 0, 0) := rfl
theorem bt_19_251 : mm_at mt_P 19 251 = some ((251, 1, .iload_n 3, 0, 0, 0, 0), 8, 0, 1, 9, 0, 0, 0) := rfl
theorem bt_19_252 : mm_at mt_P 19 252 = some ((252, 1, .iconst 4, 0, 0, 0, 0), 8, 0, 1, 9, 0, 0, 0) := rfl
theorem bt_19_253 : mm_at mt_P 19 253 = some ((253, 3, .if_icmp .le 7, 0, 0, 0, 0), 8, 0, 1, 9, 0, 0, 0) := rfl
theorem bt_19_256 : mm_at mt_P 19 256 = some ((256, 1, .iconst 3, 0, 0, 0, 0), 8, 0, 1, 9, 0, 0, 0) := rfl
theorem bt_19_257 : mm_at mt_P 19 257 = some ((257, 3, .goto 4, 0, 0, 0, 0), 8, 0, 1, 9, 0, 0, 0) := rfl
theorem bt_19_260 : mm_at mt_P 19 260 = some ((260, 1, .iconst 2, 0, 0, 0, 0), 8, 0, 1, 9, 0, 0, 0) := rfl
theorem bt_19_261 : mm_at mt_P 19 261 = some ((261, 1, .iload_n 1, 0, 0, 0, 0), 8, 0, 1, 9, 0, 0, 0) := rfl
theorem bt_19_262 : mm_at mt_P 19 262 = some ((262, 2, .iload 4, 0, 0, 0, 0), 8, 0, 1, 9, 0, 0, 0) := rfl
theorem bt_19_264 : mm_at mt_P 19 264 = some ((264, 1, .lconst 0, 0, 0, 0, 0), 8, 0, 1, 9, 0, 0, 0) := rfl
theorem bt_19_265 : mm_at mt_P 19 265 = some ((265, 3, .invokevirtual 188, 103, 0, 0, 1461), 8, 0, 1, 9, 0, 0, 0) := rfl
theorem bt_19_268 : mm_at mt_P 19 268 = some ((268, 1, .iload_n 1, 0, 0, 0, 0), 8, 0, 1, 9, 0, 0, 0) := rfl
theorem bt_19_269 : mm_at mt_P 19 269 = some ((269, 1, .iload_n 3, 0, 0, 0, 0), 8, 0, 1, 9, 0, 0, 0) := rfl
theorem bt_19_270 : mm_at mt_P 19 270 = some ((270, 1, .iadd, 0, 0, 0, 0), 8, 0, 1, 9, 0, 0, 0) := rfl
theorem bt_19_271 : mm_at mt_P 19 271 = some ((271, 1, .istore_n 1, 0, 0, 0, 0), 8, 0, 1, 9, 0, 0, 0) := rfl
theorem bt_19_272 : mm_at mt_P 19 272 = some ((272, 3, .goto 19, 0, 0, 0, 0), 8, 0, 1, 9, 0, 0, 0) := rfl
theorem bt_19_275 : mm_at mt_P 19 275 = some ((275, 1, .iload_n 1, 0, 0, 0, 0), 8, 0, 1, 9, 0, 0, 0) := rfl
theorem bt_19_276 : mm_at mt_P 19 276 = some ((276, 1, .aload_n 0, 0, 0, 0, 0), 8, 0, 1, 9, 0, 0, 0) := rfl
theorem bt_19_277 : mm_at mt_P 19 277 = some ((277, 1, .iload_n 1, 0, 0, 0, 0), 8, 0, 1, 9, 0, 0, 0) := rfl
theorem bt_19_278 : mm_at mt_P 19 278 = some ((278, 1, .iload_n 2, 0, 0, 0, 0), 8, 0, 1, 9, 0, 0, 0) := rfl
theorem bt_19_279 : mm_at mt_P 19 279 = some ((279, 1, .aload_n 0, 0, 0, 0, 0), 8, 0, 1, 9, 0, 0, 0) := rfl
theorem bt_19_280 : mm_at mt_P 19 280 = some ((280, 1, .iload_n 1, 0, 0, 0, 0), 8, 0, 1, 9, 0, 0, 0) := rfl
theorem bt_19_281 : mm_at mt_P 19 281 = some ((281, 1, .iconst 1, 0, 0, 0, 0), 8, 0, 1, 9, 0, 0, 0) := rfl
theorem bt_19_282 : mm_at mt_P 19 282 = some ((282, 1, .iadd, 0, 0, 0, 0), 8, 0, 1, 9, 0, 0, 0) := rfl
theorem bt_19_283 : mm_at mt_P 19 283 = some ((283, 3, .invokevirtual 184, 12, 0, 0, 1457), 8, 0, 1, 9, 0, 0, 0) := rfl
theorem bt_19_286 : mm_at mt_P 19 286 = some ((286, 3, .invokevirtual 199, 89, 0, 0, 1471), 8, 0, 1, 9, 0, 0, 0) := rfl
theorem bt_19_289 : mm_at mt_P 19 289 = some ((289, 1, .iadd, 0, 0, 0, 0), 8, 0, 1, 9, 0, 0, 0) := rfl
theorem bt_19_290 : mm_at mt_P 19 290 = some ((290, 1, .istore_n 1, 0, 0, 0, 0), 8, 0, 1, 9, 0, 0, 0) := rfl
theorem bt_19_291 : mm_at mt_P 19 291 = some ((291, 3, .goto (-284), 0, 0, 0, 0), 8, 0, 1, 9, 0, 0, 0) := rfl
theorem bt_19_294 : mm_at mt_P 19 294 = some ((294, 1, .return_, 0, 0, 0, 0), 8, 0, 1, 9, 0, 0, 0) := rfl
theorem bt_48_0 : mm_at mt_P 48 0 = some ((0, 1, .iload_n 0, 0, 0, 0, 0), 1, 1, 0, 9, 2, 0, 0) := rfl
theorem bt_48_1 : mm_at mt_P 48 1 = some ((1, 2, .bipush 48, 0, 0, 0, 0), 1, 1, 0, 9, 2, 0, 0) := rfl
theorem bt_48_3 : mm_at mt_P 48 3 = some ((3, 3, .if_icmp .lt 13, 0, 0, 0, 0), 1, 1, 0, 9, 2, 0, 0) := rfl
theorem bt_48_6 : mm_at mt_P 48 6 = some ((6, 1, .iload_n 0, 0, 0, 0, 0), 1, 1, 0, 9, 2, 0, 0) := rfl
theorem bt_48_7 : mm_at mt_P 48 7 = some ((7, 2, .bipush 57, 0, 0, 0, 0), 1, 1, 0, 9, 2, 0, 0) := rfl
theorem bt_48_9 : mm_at mt_P 48 9 = some ((9, 3, .if_icmp .gt 7, 0, 0, 0, 0), 1, 1, 0, 9, 2, 0, 0) := rfl
theorem bt_48_12 : mm_at mt_P 48 12 = some ((12, 1, .iconst 1, 0, 0, 0, 0), 1, 1, 0, 9, 2, 0, 0) := rfl
theorem bt_48_13 : mm_at mt_P 48 13 = some ((13, 3, .goto 4, 0, 0, 0, 0), 1, 1, 0, 9, 2, 0, 0) := rfl
theorem bt_48_16 : mm_at mt_P 48 16 = some ((16, 1, .iconst 0, 0, 0, 0, 0), 1, 1, 0, 9, 2, 0, 0) := rfl
theorem bt_48_17 : mm_at mt_P 48 17 = some ((17, 1, .ireturn, 0, 0, 0, 0), 1, 1, 0, 9, 2, 0, 0) := rfl
theorem bt_50_0 : mm_at mt_P 50 0 = some ((0, 1, .iload_n 0, 0, 0, 0, 0), 1, 1, 0, 9, 2, 0, 0) := rfl
theorem bt_50_1 : mm_at mt_P 50 1 = some ((1, 2, .bipush 97, 0, 0, 0, 0), 1, 1, 0, 9, 2, 0, 0) := rfl
theorem bt_50_3 : mm_at mt_P 50 3 = some ((3, 3, .if_icmp .lt 13, 0, 0, 0, 0), 1, 1, 0, 9, 2, 0, 0) := rfl
theorem bt_50_6 : mm_at mt_P 50 6 = some ((6, 1, .iload_n 0, 0, 0, 0, 0), 1, 1, 0, 9, 2, 0, 0) := rfl
theorem bt_50_7 : mm_at mt_P 50 7 = some ((7, 2, .bipush 122, 0, 0, 0, 0), 1, 1, 0, 9, 2, 0, 0) := rfl
theorem bt_50_9 : mm_at mt_P 50 9 = some ((9, 3, .if_icmp .gt 7, 0, 0, 0, 0), 1, 1, 0, 9, 2, 0, 0) := rfl
theorem bt_50_12 : mm_at mt_P 50 12 = some ((12, 1, .iconst 1, 0, 0, 0, 0), 1, 1, 0, 9, 2, 0, 0) := rfl
theorem bt_50_13 : mm_at mt_P 50 13 = some ((13, 3, .goto 4, 0, 0, 0, 0), 1, 1, 0, 9, 2, 0, 0) := rfl
theorem bt_50_16 : mm_at mt_P 50 16 = some ((16, 1, .iconst 0, 0, 0, 0, 0), 1, 1, 0, 9, 2, 0, 0) := rfl
theorem bt_50_17 : mm_at mt_P 50 17 = some ((17, 1, .ireturn, 0, 0, 0, 0), 1, 1, 0, 9, 2, 0, 0) := rfl
theorem bt_89_0 : mm_at mt_P 89 0 = some ((0, 1, .iload_n 2, 0, 0, 0, 0), 5, 3, 1, 9, 1, 0, 0) := rfl
theorem bt_89_1 : mm_at mt_P 89 1 = some ((1, 2, .bipush 59, 0, 0, 0, 0), 5, 3, 1, 9, 1, 0, 0) := rfl
theorem bt_89_3 : mm_at mt_P 89 3 = some ((3, 3, .if_icmp .ne 7, 0, 0, 0, 0), 5, 3, 1, 9, 1, 0, 0) := rfl
theorem bt_89_6 : mm_at mt_P 89 6 = some ((6, 1, .iconst 4, 0, 0, 0, 0), 5, 3, 1, 9, 1, 0, 0) := rfl
theorem bt_89_7 : mm_at mt_P 89 7 = some ((7, 3, .goto 36, 0, 0, 0, 0), 5, 3, 1, 9, 1, 0, 0) := rfl
theorem bt_89_10 : mm_at mt_P 89 10 = some ((10, 1, .iload_n 2, 0, 0, 0, 0), 5, 3, 1, 9, 1, 0, 0) := rfl
theorem bt_89_11 : mm_at mt_P 89 11 = some ((11, 2, .bipush 61, 0, 0, 0, 0), 5, 3, 1, 9, 1, 0, 0) := rfl
theorem bt_89_13 : mm_at mt_P 89 13 = some ((13, 3, .if_icmp .ne 7, 0, 0, 0, 0), 5, 3, 1, 9, 1, 0, 0) := rfl
theorem bt_89_16 : mm_at mt_P 89 16 = some ((16, 1, .iconst 5, 0, 0, 0, 0), 5, 3, 1, 9, 1, 0, 0) := rfl
theorem bt_89_17 : mm_at mt_P 89 17 = some ((17, 3, .goto 26, 0, 0, 0, 0), 5, 3, 1, 9, 1, 0, 0) := rfl
theorem bt_89_20 : mm_at mt_P 89 20 = some ((20, 1, .iload_n 2, 0, 0, 0, 0), 5, 3, 1, 9, 1, 0, 0) := rfl
theorem bt_89_21 : mm_at mt_P 89 21 = some ((21, 2, .bipush 40, 0, 0, 0, 0), 5, 3, 1, 9, 1, 0, 0) := rfl
theorem bt_89_23 : mm_at mt_P 89 23 = some ((23, 3, .if_icmp .ne 8, 0, 0, 0, 0), 5, 3, 1, 9, 1, 0, 0) := rfl
theorem bt_89_26 : mm_at mt_P 89 26 = some ((26, 2, .bipush 6, 0, 0, 0, 0), 5, 3, 1, 9, 1, 0, 0) := rfl
theorem bt_89_28 : mm_at mt_P 89 28 = some ((28, 3, .goto 15, 0, 0, 0, 0), 5, 3, 1, 9, 1, 0, 0) := rfl
theorem bt_89_31 : mm_at mt_P 89 31 = some ((31, 1, .iload_n 2, 0, 0, 0, 0), 5, 3, 1, 9, 1, 0, 0) := rfl
theorem bt_89_32 : mm_at mt_P 89 32 = some ((32, 2, .bipush 41, 0, 0, 0, 0), 5, 3, 1, 9, 1, 0, 0) := rfl
theorem bt_89_34 : mm_at mt_P 89 34 = some ((34, 3, .if_icmp .ne 8, 0, 0, 0, 0), 5, 3, 1, 9, 1, 0, 0) := rfl
theorem bt_89_37 : mm_at mt_P 89 37 = some ((37, 2, .bipush 7, 0, 0, 0, 0), 5, 3, 1, 9, 1, 0, 0) := rfl
theorem bt_89_39 : mm_at mt_P 89 39 = some ((39, 3, .goto 4, 0, 0, 0, 0), 5, 3, 1, 9, 1, 0, 0) := rfl
theorem bt_89_42 : mm_at mt_P 89 42 = some ((42, 1, .iconst 3, 0, 0, 0, 0), 5, 3, 1, 9, 1, 0, 0) := rfl
theorem bt_89_43 : mm_at mt_P 89 43 = some ((43, 2, .istore 4, 0, 0, 0, 0), 5, 3, 1, 9, 1, 0, 0) := rfl
theorem bt_89_45 : mm_at mt_P 89 45 = some ((45, 1, .iload_n 2, 0, 0, 0, 0), 5, 3, 1, 9, 1, 0, 0) := rfl
theorem bt_89_46 : mm_at mt_P 89 46 = some ((46, 2, .bipush 43, 0, 0, 0, 0), 5, 3, 1, 9, 1, 0, 0) := rfl
theorem bt_89_48 : mm_at mt_P 89 48 = some ((48, 3, .if_icmp .ne 7, 0, 0, 0, 0), 5, 3, 1, 9, 1, 0, 0) := rfl
theorem bt_89_51 : mm_at mt_P 89 51 = some ((51, 2, .bipush 8, 0, 0, 0, 0), 5, 3, 1, 9, 1, 0, 0) := rfl
theorem bt_89_53 : mm_at mt_P 89 53 = some ((53, 2, .istore 4, 0, 0, 0, 0), 5, 3, 1, 9, 1, 0, 0) := rfl
theorem bt_89_55 : mm_at mt_P 89 55 = some ((55, 1, .iload_n 2, 0, 0, 0, 0), 5, 3, 1, 9, 1, 0, 0) := rfl
theorem bt_89_56 : mm_at mt_P 89 56 = some ((56, 2, .bipush 45, 0, 0, 0, 0), 5, 3, 1, 9, 1, 0, 0) := rfl
theorem bt_89_58 : mm_at mt_P 89 58 = some ((58, 3, .if_icmp .ne 7, 0, 0, 0, 0), 5, 3, 1, 9, 1, 0, 0) := rfl
theorem bt_89_61 : mm_at mt_P 89 61 = some ((61, 2, .bipush 9, 0, 0, 0, 0), 5, 3, 1, 9, 1, 0, 0) := rfl
theorem bt_89_63 : mm_at mt_P 89 63 = some ((63, 2, .istore 4, 0, 0, 0, 0), 5, 3, 1, 9, 1, 0, 0) := rfl
theorem bt_89_65 : mm_at mt_P 89 65 = some ((65, 1, .iload_n 2, 0, 0, 0, 0), 5, 3, 1, 9, 1, 0, 0) := rfl
theorem bt_89_66 : mm_at mt_P 89 66 = some ((66, 2, .bipush 42, 0, 0, 0, 0), 5, 3, 1, 9, 1, 0, 0) := rfl
theorem bt_89_68 : mm_at mt_P 89 68 = some ((68, 3, .if_icmp .ne 7, 0, 0, 0, 0), 5, 3, 1, 9, 1, 0, 0) := rfl
theorem bt_89_71 : mm_at mt_P 89 71 = some ((71, 2, .bipush 10, 0, 0, 0, 0), 5, 3, 1, 9, 1, 0, 0) := rfl
theorem bt_89_73 : mm_at mt_P 89 73 = some ((73, 2, .istore 4, 0, 0, 0, 0), 5, 3, 1, 9, 1, 0, 0) := rfl
theorem bt_89_75 : mm_at mt_P 89 75 = some ((75, 1, .iload_n 2, 0, 0, 0, 0), 5, 3, 1, 9, 1, 0, 0) := rfl
theorem bt_89_76 : mm_at mt_P 89 76 = some ((76, 2, .bipush 47, 0, 0, 0, 0), 5, 3, 1, 9, 1, 0, 0) := rfl
theorem bt_89_78 : mm_at mt_P 89 78 = some ((78, 3, .if_icmp .ne 7, 0, 0, 0, 0), 5, 3, 1, 9, 1, 0, 0) := rfl
theorem bt_89_81 : mm_at mt_P 89 81 = some ((81, 2, .bipush 15, 0, 0, 0, 0), 5, 3, 1, 9, 1, 0, 0) := rfl
theorem bt_89_83 : mm_at mt_P 89 83 = some ((83, 2, .istore 4, 0, 0, 0, 0), 5, 3, 1, 9, 1, 0, 0) := rfl
theorem bt_89_85 : mm_at mt_P 89 85 = some ((85, 1, .iload_n 2, 0, 0, 0, 0), 5, 3, 1, 9, 1, 0, 0) := rfl
theorem bt_89_86 : mm_at mt_P 89 86 = some ((86, 2, .bipush 60, 0, 0, 0, 0), 5, 3, 1, 9, 1, 0, 0) := rfl
theorem bt_89_88 : mm_at mt_P 89 88 = some ((88, 3, .if_icmp .ne 7, 0, 0, 0, 0), 5, 3, 1, 9, 1, 0, 0) := rfl
theorem bt_89_91 : mm_at mt_P 89 91 = some ((91, 2, .bipush 13, 0, 0, 0, 0), 5, 3, 1, 9, 1, 0, 0) := rfl
theorem bt_89_93 : mm_at mt_P 89 93 = some ((93, 2, .istore 4, 0, 0, 0, 0), 5, 3, 1, 9, 1, 0, 0) := rfl
theorem bt_89_95 : mm_at mt_P 89 95 = some ((95, 1, .aload_n 0, 0, 0, 0, 0), 5, 3, 1, 9, 1, 0, 0) := rfl
theorem bt_89_96 : mm_at mt_P 89 96 = some ((96, 2, .iload 4, 0, 0, 0, 0), 5, 3, 1, 9, 1, 0, 0) := rfl
theorem bt_89_98 : mm_at mt_P 89 98 = some ((98, 1, .iload_n 1, 0, 0, 0, 0), 5, 3, 1, 9, 1, 0, 0) := rfl
theorem bt_89_99 : mm_at mt_P 89 99 = some ((99, 1, .iconst 0, 0, 0, 0, 0), 5, 3, 1, 9, 1, 0, 0) := rfl
theorem bt_89_100 : mm_at mt_P 89 100 = some ((100, 1, .lconst 0, 0, 0, 0, 0), 5, 3, 1, 9, 1, 0, 0) := rfl
theorem bt_89_101 : mm_at mt_P 89 101 = some ((101, 3, .invokevirtual 188, 103, 0, 0, 1461), 5, 3, 1, 9, 1, 0, 0) := rfl
theorem bt_89_104 : mm_at mt_P 89 104 = some ((104, 1, .iconst 1, 0, 0, 0, 0), 5, 3, 1, 9, 1, 0, 0) := rfl
theorem bt_89_105 : mm_at mt_P 89 105 = some ((105, 1, .ireturn, 0, 0, 0, 0), 5, 3, 1, 9, 1, 0, 0) := rfl
theorem bt_103_0 : mm_at mt_P 103 0 = some ((0, 1, .aload_n 0, 0, 0, 0, 0), 6, 4, 1, 9, 0, 0, 0) := rfl
theorem bt_103_1 : mm_at mt_P 103 1 = some ((1, 3, .getfield 20, 9, 5, 0, 1222), 6, 4, 1, 9, 0, 0, 0) := rfl
theorem bt_103_4 : mm_at mt_P 103 4 = some ((4, 1, .aload_n 0, 0, 0, 0, 0), 6, 4, 1, 9, 0, 0, 0) := rfl
theorem bt_103_5 : mm_at mt_P 103 5 = some ((5, 3, .getfield 181, 9, 10, 0, 1227), 6, 4, 1, 9, 0, 0, 0) := rfl
theorem bt_103_8 : mm_at mt_P 103 8 = some ((8, 1, .iload_n 1, 0, 0, 0, 0), 6, 4, 1, 9, 0, 0, 0) := rfl
theorem bt_103_9 : mm_at mt_P 103 9 = some ((9, 1, .iastore, 0, 0, 0, 0), 6, 4, 1, 9, 0, 0, 0) := rfl
theorem bt_103_10 : mm_at mt_P 103 10 = some ((10, 1, .aload_n 0, 0, 0, 0, 0), 6, 4, 1, 9, 0, 0, 0) := rfl
theorem bt_103_11 : mm_at mt_P 103 11 = some ((11, 3, .getfield 24, 9, 6, 0, 1223), 6, 4, 1, 9, 0, 0, 0) := rfl
theorem bt_103_14 : mm_at mt_P 103 14 = some ((14, 1, .aload_n 0, 0, 0, 0, 0), 6, 4, 1, 9, 0, 0, 0) := rfl
theorem bt_103_15 : mm_at mt_P 103 15 = some ((15, 3, .getfield 181, 9, 10, 0, 1227), 6, 4, 1, 9, 0, 0, 0) := rfl
theorem bt_103_18 : mm_at mt_P 103 18 = some ((18, 1, .iload_n 2, 0, 0, 0, 0), 6, 4, 1, 9, 0, 0, 0) := rfl
theorem bt_103_19 : mm_at mt_P 103 19 = some ((19, 1, .iastore, 0, 0, 0, 0), 6, 4, 1, 9, 0, 0, 0) := rfl
theorem bt_103_20 : mm_at mt_P 103 20 = some ((20, 1, .aload_n 0, 0, 0, 0, 0), 6, 4, 1, 9, 0, 0, 0) := rfl
theorem bt_103_21 : mm_at mt_P 103 21 = some ((21, 3, .getfield 27, 9, 7, 0, 1224), 6, 4, 1, 9, 0, 0, 0) := rfl
theorem bt_103_24 : mm_at mt_P 103 24 = some ((24, 1, .aload_n 0, 0, 0, 0, 0), 6, 4, 1, 9, 0, 0, 0) := rfl
theorem bt_103_25 : mm_at mt_P 103 25 = some ((25, 3, .getfield 181, 9, 10, 0, 1227), 6, 4, 1, 9, 0, 0, 0) := rfl
theorem bt_103_28 : mm_at mt_P 103 28 = some ((28, 1, .iload_n 3, 0, 0, 0, 0), 6, 4, 1, 9, 0, 0, 0) := rfl
theorem bt_103_29 : mm_at mt_P 103 29 = some ((29, 1, .iastore, 0, 0, 0, 0), 6, 4, 1, 9, 0, 0, 0) := rfl
theorem bt_103_30 : mm_at mt_P 103 30 = some ((30, 1, .aload_n 0, 0, 0, 0, 0), 6, 4, 1, 9, 0, 0, 0) := rfl
theorem bt_103_31 : mm_at mt_P 103 31 = some ((31, 3, .getfield 30, 9, 8, 0, 1225), 6, 4, 1, 9, 0, 0, 0) := rfl
theorem bt_103_34 : mm_at mt_P 103 34 = some ((34, 1, .aload_n 0, 0, 0, 0, 0), 6, 4, 1, 9, 0, 0, 0) := rfl
theorem bt_103_35 : mm_at mt_P 103 35 = some ((35, 3, .getfield 181, 9, 10, 0, 1227), 6, 4, 1, 9, 0, 0, 0) := rfl
theorem bt_103_38 : mm_at mt_P 103 38 = some ((38, 2, .lload 4, 0, 0, 0, 0), 6, 4, 1, 9, 0, 0, 0) := rfl
theorem bt_103_40 : mm_at mt_P 103 40 = some ((40, 1, .lastore, 0, 0, 0, 0), 6, 4, 1, 9, 0, 0, 0) := rfl
theorem bt_103_41 : mm_at mt_P 103 41 = some ((41, 1, .aload_n 0, 0, 0, 0, 0), 6, 4, 1, 9, 0, 0, 0) := rfl
theorem bt_103_42 : mm_at mt_P 103 42 = some ((42, 1, .dup, 0, 0, 0, 0), 6, 4, 1, 9, 0, 0, 0) := rfl
theorem bt_103_43 : mm_at mt_P 103 43 = some ((43, 3, .getfield 181, 9, 10, 0, 1227), 6, 4, 1, 9, 0, 0, 0) := rfl
theorem bt_103_46 : mm_at mt_P 103 46 = some ((46, 1, .iconst 1, 0, 0, 0, 0), 6, 4, 1, 9, 0, 0, 0) := rfl
theorem bt_103_47 : mm_at mt_P 103 47 = some ((47, 1, .iadd, 0, 0, 0, 0), 6, 4, 1, 9, 0, 0, 0) := rfl
theorem bt_103_48 : mm_at mt_P 103 48 = some ((48, 3, .putfield 181, 9, 10, 0, 1227), 6, 4, 1, 9, 0, 0, 0) := rfl
theorem bt_103_51 : mm_at mt_P 103 51 = some ((51, 1, .return_, 0, 0, 0, 0), 6, 4, 1, 9, 0, 0, 0) := rfl
section BX
variable {E : mm_E} {FIN : mm_C → Prop} {h0 h : mm_H} {s : Nat → Int32} {A : Nat → Nat → Int32} {L : Nat → Nat → Int64} {gs : List mm_F}
theorem sp_12 {i z : Int32} (hP : bh_P bx_T E h0 h s A L) (hz : s 4 = z) (b1 : 0 ≤ i.toInt) (b2 : z.toInt ≤ 2000) (kk : ∀ r : Int32, r.toInt = (rd_byte A z i).toInt → (z.toInt ≤ i.toInt → r.toInt = 0) → bh_G E FIN (mm_back (some (.int r)) gs h)) : bh_G E FIN ((12, 0, [(0, .ref (E.1 + 88)), (1, .int i)], [], 0, 0) :: gs, h, none) := by
  refine bh_ld (pc' := 1) bt_12_0 rfl rfl (fun _ _ _ => rfl) rfl rfl ?_
  refine bh_ld (pc' := 2) bt_12_1 rfl rfl (fun _ _ _ => rfl) rfl rfl ?_
  refine bh_gi (pc' := 5) bt_12_2 rfl rfl (fun _ _ _ => rfl) hP bx_i4 hz ?_
  refine bh_ic (pc' := 8) (pt := 21) bt_12_5 rfl rfl (fun k2695 => ?_) (fun k2695 => ?_)
  · replace k2695 : (z).toInt ≤ (i).toInt := k2695
    refine bh_c (pc' := 22) (n := 0) bt_12_21 rfl rfl (fun _ _ _ => rfl) (by decide) (fun c2696 e2697 => ?_)
    refine bh_ri bt_12_22 ?_
    refine kk _ ?_ (by omega)
    unfold rd_byte
    rw [if_pos (by omega)]
    rw [e2697]
    rfl
  · replace k2695 : ¬ ((z).toInt ≤ (i).toInt) := k2695
    refine bh_ld (pc' := 9) bt_12_8 rfl rfl (fun _ _ _ => rfl) rfl rfl ?_
    refine bh_gr (pc' := 12) (c := 90) bt_12_9 rfl rfl (fun _ _ _ => rfl) hP bx_r3 ?_
    refine bh_ld (pc' := 13) bt_12_12 rfl rfl (fun _ _ _ => rfl) rfl rfl ?_
    refine bh_ia (pc' := 14) bt_12_13 rfl rfl (fun _ _ _ => rfl) hP bx_a90 (Or.inl rfl) (by omega) (by omega) ?_
    refine bh_c (pc' := 17) (n := 255) bt_12_14 rfl rfl (fun _ _ _ => rfl) (by decide) (fun c2698 e2699 => ?_)
    refine bh_bin (pc' := 18) (v := (A 90 (i).toInt.toNat) &&& c2698) bt_12_17 rfl rfl (fun _ _ _ => rfl) rfl ?_
    refine bh_go (pc' := 22) bt_12_18 rfl ?_
    refine bh_ri bt_12_22 ?_
    have ec : c2698 = 255 := Int32.toInt_inj.mp (by rw [e2699]; rfl)
    refine kk _ ?_ (by omega)
    unfold rd_byte
    rw [if_neg (by omega), ec]
theorem sp_50 {c : Int32} (kk : ∀ r : Int32, (r.toInt = 0 ∨ r.toInt = 1) → (r.toInt ≠ 0 → 97 ≤ c.toInt ∧ c.toInt ≤ 122) → (r.toInt = 0 → c.toInt < 97 ∨ 122 < c.toInt) → bh_G E FIN (mm_back (some (.int r)) gs h)) : bh_G E FIN ((50, 0, [(0, .int c)], [], 0, 0) :: gs, h, none) := by
  refine bh_ld (pc' := 1) bt_50_0 rfl rfl (fun _ _ _ => rfl) rfl rfl ?_
  refine bh_c (pc' := 3) (n := 97) bt_50_1 rfl rfl (fun _ _ _ => rfl) (by decide) (fun c2702 e2703 => ?_)
  refine bh_ic (pc' := 6) (pt := 16) bt_50_3 rfl rfl (fun k2704 => ?_) (fun k2704 => ?_)
  · replace k2704 : (c).toInt < (c2702).toInt := k2704
    refine bh_c (pc' := 17) (n := 0) bt_50_16 rfl rfl (fun _ _ _ => rfl) (by decide) (fun c2705 e2706 => ?_)
    refine bh_rb bt_50_17 (by omega) ?_
    exact kk _ (by omega) (by omega) (by omega)
  · replace k2704 : ¬ ((c).toInt < (c2702).toInt) := k2704
    refine bh_ld (pc' := 7) bt_50_6 rfl rfl (fun _ _ _ => rfl) rfl rfl ?_
    refine bh_c (pc' := 9) (n := 122) bt_50_7 rfl rfl (fun _ _ _ => rfl) (by decide) (fun c2707 e2708 => ?_)
    refine bh_ic (pc' := 12) (pt := 16) bt_50_9 rfl rfl (fun k2709 => ?_) (fun k2709 => ?_)
    · replace k2709 : (c2707).toInt < (c).toInt := k2709
      refine bh_c (pc' := 17) (n := 0) bt_50_16 rfl rfl (fun _ _ _ => rfl) (by decide) (fun c2710 e2711 => ?_)
      refine bh_rb bt_50_17 (by omega) ?_
      exact kk _ (by omega) (by omega) (by omega)
    · replace k2709 : ¬ ((c2707).toInt < (c).toInt) := k2709
      refine bh_c (pc' := 13) (n := 1) bt_50_12 rfl rfl (fun _ _ _ => rfl) (by decide) (fun c2712 e2713 => ?_)
      refine bh_go (pc' := 17) bt_50_13 rfl ?_
      refine bh_rb bt_50_17 (by omega) ?_
      exact kk _ (by omega) (by omega) (by omega)
theorem sp_48 {c : Int32} (kk : ∀ r : Int32, (r.toInt = 0 ∨ r.toInt = 1) → (r.toInt ≠ 0 → 48 ≤ c.toInt ∧ c.toInt ≤ 57) → (r.toInt = 0 → c.toInt < 48 ∨ 57 < c.toInt) → bh_G E FIN (mm_back (some (.int r)) gs h)) : bh_G E FIN ((48, 0, [(0, .int c)], [], 0, 0) :: gs, h, none) := by
  refine bh_ld (pc' := 1) bt_48_0 rfl rfl (fun _ _ _ => rfl) rfl rfl ?_
  refine bh_c (pc' := 3) (n := 48) bt_48_1 rfl rfl (fun _ _ _ => rfl) (by decide) (fun c2714 e2715 => ?_)
  refine bh_ic (pc' := 6) (pt := 16) bt_48_3 rfl rfl (fun k2716 => ?_) (fun k2716 => ?_)
  · replace k2716 : (c).toInt < (c2714).toInt := k2716
    refine bh_c (pc' := 17) (n := 0) bt_48_16 rfl rfl (fun _ _ _ => rfl) (by decide) (fun c2717 e2718 => ?_)
    refine bh_rb bt_48_17 (by omega) ?_
    exact kk _ (by omega) (by omega) (by omega)
  · replace k2716 : ¬ ((c).toInt < (c2714).toInt) := k2716
    refine bh_ld (pc' := 7) bt_48_6 rfl rfl (fun _ _ _ => rfl) rfl rfl ?_
    refine bh_c (pc' := 9) (n := 57) bt_48_7 rfl rfl (fun _ _ _ => rfl) (by decide) (fun c2719 e2720 => ?_)
    refine bh_ic (pc' := 12) (pt := 16) bt_48_9 rfl rfl (fun k2721 => ?_) (fun k2721 => ?_)
    · replace k2721 : (c2719).toInt < (c).toInt := k2721
      refine bh_c (pc' := 17) (n := 0) bt_48_16 rfl rfl (fun _ _ _ => rfl) (by decide) (fun c2722 e2723 => ?_)
      refine bh_rb bt_48_17 (by omega) ?_
      exact kk _ (by omega) (by omega) (by omega)
    · replace k2721 : ¬ ((c2719).toInt < (c).toInt) := k2721
      refine bh_c (pc' := 13) (n := 1) bt_48_12 rfl rfl (fun _ _ _ => rfl) (by decide) (fun c2724 e2725 => ?_)
      refine bh_go (pc' := 17) bt_48_13 rfl ?_
      refine bh_rb bt_48_17 (by omega) ?_
      exact kk _ (by omega) (by omega) (by omega)
theorem sp_2 {x : Int64} {c : Int32} (kk : ∀ x' : Int64, bh_G E FIN (mm_back (some (.long x')) gs h)) : bh_G E FIN ((2, 0, [(0, .long x), (2, .int c)], [], 0, 0) :: gs, h, none) := by
  refine bh_ld (pc' := 1) bt_2_0 rfl rfl (fun _ _ _ => rfl) rfl rfl ?_
  refine bh_i0 (pc' := 4) (pt := 8) bt_2_1 rfl rfl (fun k2726 => ?_) (fun k2726 => ?_)
  · replace k2726 : (c).toInt ≠ 0 := k2726
    refine bh_cL (pc' := 11) bt_2_8 rfl rfl (fun _ _ _ => rfl) (fun x2727 => ?_)
    refine bh_ld (pc' := 12) bt_2_11 rfl rfl (fun _ _ _ => rfl) rfl rfl ?_
    refine bh_lmul (pc' := 13) bt_2_12 rfl (fun x2728 => ?_)
    refine bh_ld (pc' := 14) bt_2_13 rfl rfl (fun _ _ _ => rfl) rfl rfl ?_
    refine bh_c (pc' := 16) (n := 97) bt_2_14 rfl rfl (fun _ _ _ => rfl) (by decide) (fun c2729 e2730 => ?_)
    refine bh_subA (pc' := 17) bt_2_16 rfl (fun v2731 => ?_)
    refine bh_c (pc' := 18) (n := 1) bt_2_17 rfl rfl (fun _ _ _ => rfl) (by decide) (fun c2733 e2734 => ?_)
    refine bh_addA (pc' := 19) bt_2_18 rfl (fun v2735 => ?_)
    refine bh_i2l (pc' := 20) bt_2_19 rfl (fun x2737 => ?_)
    refine bh_ladd (pc' := 21) bt_2_20 rfl (fun x2738 => ?_)
    refine bh_rl bt_2_21 ?_
    exact kk _
  · replace k2726 : ¬ ((c).toInt ≠ 0) := k2726
    refine bh_ld (pc' := 5) bt_2_4 rfl rfl (fun _ _ _ => rfl) rfl rfl ?_
    refine bh_go (pc' := 21) bt_2_5 rfl ?_
    refine bh_rl bt_2_21 ?_
    exact kk _
theorem sp_103 {k w v n : Int32} {x : Int64} (hP : bh_P bx_T E h0 h s A L) (hn : s 10 = n) (b1 : 0 ≤ n.toInt) (b2 : n.toInt ≤ 402) (hk0 : 0 ≤ k.toInt) (hk1 : k.toInt ≤ 43) (hq : ∀ j, j < 403 → 0 ≤ (A 91 j).toInt ∧ (A 91 j).toInt ≤ 43) (kk : (∀ (h' : mm_H) (s' : Nat → Int32) (A' : Nat → Nat → Int32) (L' : Nat → Nat → Int64), bh_P bx_T E h0 h' s' A' L' → (∀ j, j ≠ 10 → s' j = s j) → (∀ k j, (k < 91 ∨ 93 < k) → A' k j = A k j) → (∀ j, j < 403 → 0 ≤ (A' 91 j).toInt ∧ (A' 91 j).toInt ≤ 43) → (s' 10).toInt = n.toInt + 1 → bh_G E FIN (mm_back none gs h'))) : bh_G E FIN ((103, 0, [(0, .ref (E.1 + 88)), (1, .int k), (2, .int w), (3, .int v), (4, .long x)], [], 0, 0) :: gs, h, none) := by
  refine bh_ld (pc' := 1) bt_103_0 rfl rfl (fun _ _ _ => rfl) rfl rfl ?_
  refine bh_gr (pc' := 4) (c := 91) bt_103_1 rfl rfl (fun _ _ _ => rfl) hP bx_r5 ?_
  refine bh_ld (pc' := 5) bt_103_4 rfl rfl (fun _ _ _ => rfl) rfl rfl ?_
  refine bh_gi (pc' := 8) bt_103_5 rfl rfl (fun _ _ _ => rfl) hP bx_i10 hn ?_
  refine bh_ld (pc' := 9) bt_103_8 rfl rfl (fun _ _ _ => rfl) rfl rfl ?_
  refine bh_ias (pc' := 10) bt_103_9 rfl rfl (fun _ _ _ => rfl) hP bx_a91 (Or.inl rfl) (by omega) (by omega) (fun h2739 hP2740 => ?_)
  refine bh_ld (pc' := 11) bt_103_10 rfl rfl (fun _ _ _ => rfl) rfl rfl ?_
  refine bh_gr (pc' := 14) (c := 92) bt_103_11 rfl rfl (fun _ _ _ => rfl) hP2740 bx_r6 ?_
  refine bh_ld (pc' := 15) bt_103_14 rfl rfl (fun _ _ _ => rfl) rfl rfl ?_
  refine bh_gi (pc' := 18) bt_103_15 rfl rfl (fun _ _ _ => rfl) hP2740 bx_i10 hn ?_
  refine bh_ld (pc' := 19) bt_103_18 rfl rfl (fun _ _ _ => rfl) rfl rfl ?_
  refine bh_ias (pc' := 20) bt_103_19 rfl rfl (fun _ _ _ => rfl) hP2740 bx_a92 (Or.inl rfl) (by omega) (by omega) (fun h2741 hP2742 => ?_)
  refine bh_ld (pc' := 21) bt_103_20 rfl rfl (fun _ _ _ => rfl) rfl rfl ?_
  refine bh_gr (pc' := 24) (c := 93) bt_103_21 rfl rfl (fun _ _ _ => rfl) hP2742 bx_r7 ?_
  refine bh_ld (pc' := 25) bt_103_24 rfl rfl (fun _ _ _ => rfl) rfl rfl ?_
  refine bh_gi (pc' := 28) bt_103_25 rfl rfl (fun _ _ _ => rfl) hP2742 bx_i10 hn ?_
  refine bh_ld (pc' := 29) bt_103_28 rfl rfl (fun _ _ _ => rfl) rfl rfl ?_
  refine bh_ias (pc' := 30) bt_103_29 rfl rfl (fun _ _ _ => rfl) hP2742 bx_a93 (Or.inl rfl) (by omega) (by omega) (fun h2743 hP2744 => ?_)
  refine bh_ld (pc' := 31) bt_103_30 rfl rfl (fun _ _ _ => rfl) rfl rfl ?_
  refine bh_gr (pc' := 34) (c := 94) bt_103_31 rfl rfl (fun _ _ _ => rfl) hP2744 bx_r8 ?_
  refine bh_ld (pc' := 35) bt_103_34 rfl rfl (fun _ _ _ => rfl) rfl rfl ?_
  refine bh_gi (pc' := 38) bt_103_35 rfl rfl (fun _ _ _ => rfl) hP2744 bx_i10 hn ?_
  refine bh_ld (pc' := 40) bt_103_38 rfl rfl (fun _ _ _ => rfl) rfl rfl ?_
  refine bh_las (pc' := 41) bt_103_40 rfl rfl (fun _ _ _ => rfl) hP2744 bx_l94 (by omega) (by omega) (fun h2745 L2747 hP2746 => ?_)
  refine bh_ld (pc' := 42) bt_103_41 rfl rfl (fun _ _ _ => rfl) rfl rfl ?_
  refine bh_dup (pc' := 43) bt_103_42 rfl rfl ?_
  refine bh_gi (pc' := 46) bt_103_43 rfl rfl (fun _ _ _ => rfl) hP2746 bx_i10 hn ?_
  refine bh_c (pc' := 47) (n := 1) bt_103_46 rfl rfl (fun _ _ _ => rfl) (by decide) (fun c2748 e2749 => ?_)
  refine bh_add (pc' := 48) bt_103_47 rfl (by omega) (by omega) (fun v2750 e2751 => ?_)
  refine bh_pf (pc' := 51) bt_103_48 rfl rfl (fun _ _ _ => rfl) hP2746 bx_i10 rfl (fun h2752 s2753 hP2754 e2755 f2756 => ?_)
  refine bh_rv bt_103_51 ?_
  have hh : ∀ j, j < 403 → 0 ≤ ((bh_up (bh_up (bh_up A 91 (n).toInt.toNat (mm_nar 0 k)) 92 (n).toInt.toNat (mm_nar 0 w)) 93 (n).toInt.toNat (mm_nar 0 v)) 91 j).toInt ∧ ((bh_up (bh_up (bh_up A 91 (n).toInt.toNat (mm_nar 0 k)) 92 (n).toInt.toNat (mm_nar 0 w)) 93 (n).toInt.toNat (mm_nar 0 v)) 91 j).toInt ≤ 43 := by
    intro j hj
    by_cases e : j = n.toInt.toNat
    · have v : ((bh_up (bh_up (bh_up A 91 (n).toInt.toNat (mm_nar 0 k)) 92 (n).toInt.toNat (mm_nar 0 w)) 93 (n).toInt.toNat (mm_nar 0 v)) 91 j).toInt = k.toInt := by
        rw [e, bh_up_o (Or.inl (by decide)), bh_up_o (Or.inl (by decide)), bh_up_i]
        rfl
      omega
    · rw [bh_up_o (Or.inl (by decide)), bh_up_o (Or.inl (by decide)), bh_up_j e]
      exact hq j hj
  have z10 := congrArg Int32.toInt e2755
  exact kk _ _ _ _ hP2754 (fun j j10 => (f2756 j j10)) (fun k' j u => (bh_up_o (by omega)).trans ((bh_up_o (by omega)).trans (bh_up_o (by omega)))) hh (by omega)
set_option maxHeartbeats 40000000 in
theorem sp_89 {i c d n : Int32} (hP : bh_P bx_T E h0 h s A L) (hd : gs.length + 1 ≤ 999) (hn : s 10 = n) (b1 : 0 ≤ n.toInt) (b2 : n.toInt ≤ 402) (hq : ∀ j, j < 403 → 0 ≤ (A 91 j).toInt ∧ (A 91 j).toInt ≤ 43) (kk : ∀ (h' : mm_H) (s' : Nat → Int32) (A' : Nat → Nat → Int32) (L' : Nat → Nat → Int64) (r : Int32), bh_P bx_T E h0 h' s' A' L' → (∀ j, j ≠ 10 → s' j = s j) → (∀ k j, (k < 91 ∨ 93 < k) → A' k j = A k j) → (∀ j, j < 403 → 0 ≤ (A' 91 j).toInt ∧ (A' 91 j).toInt ≤ 43) → (s' 10).toInt = n.toInt + 1 → r.toInt = 1 → bh_G E FIN (mm_back (some (.int r)) gs h')) : bh_G E FIN ((89, 0, [(0, .ref (E.1 + 88)), (1, .int i), (2, .int c), (3, .int d)], [], 0, 0) :: gs, h, none) := by
  refine bh_ld (pc' := 1) bt_89_0 rfl rfl (fun _ _ _ => rfl) rfl rfl ?_
  refine bh_c (pc' := 3) (n := 59) bt_89_1 rfl rfl (fun _ _ _ => rfl) (by decide) (fun c2757 e2758 => ?_)
  refine bh_ic (pc' := 6) (pt := 10) bt_89_3 rfl rfl (fun k2759 => ?_) (fun k2759 => ?_)
  · replace k2759 : (c).toInt ≠ (c2757).toInt := k2759
    refine bh_ld (pc' := 11) bt_89_10 rfl rfl (fun _ _ _ => rfl) rfl rfl ?_
    refine bh_c (pc' := 13) (n := 61) bt_89_11 rfl rfl (fun _ _ _ => rfl) (by decide) (fun c2760 e2761 => ?_)
    refine bh_ic (pc' := 16) (pt := 20) bt_89_13 rfl rfl (fun k2762 => ?_) (fun k2762 => ?_)
    · replace k2762 : (c).toInt ≠ (c2760).toInt := k2762
      refine bh_ld (pc' := 21) bt_89_20 rfl rfl (fun _ _ _ => rfl) rfl rfl ?_
      refine bh_c (pc' := 23) (n := 40) bt_89_21 rfl rfl (fun _ _ _ => rfl) (by decide) (fun c2763 e2764 => ?_)
      refine bh_ic (pc' := 26) (pt := 31) bt_89_23 rfl rfl (fun k2765 => ?_) (fun k2765 => ?_)
      · replace k2765 : (c).toInt ≠ (c2763).toInt := k2765
        refine bh_ld (pc' := 32) bt_89_31 rfl rfl (fun _ _ _ => rfl) rfl rfl ?_
        refine bh_c (pc' := 34) (n := 41) bt_89_32 rfl rfl (fun _ _ _ => rfl) (by decide) (fun c2766 e2767 => ?_)
        refine bh_ic (pc' := 37) (pt := 42) bt_89_34 rfl rfl (fun k2768 => ?_) (fun k2768 => ?_)
        · replace k2768 : (c).toInt ≠ (c2766).toInt := k2768
          refine bh_c (pc' := 43) (n := 3) bt_89_42 rfl rfl (fun _ _ _ => rfl) (by decide) (fun c2769 e2770 => ?_)
          refine bh_st (pc' := 45) bt_89_43 rfl rfl (fun _ _ _ => rfl) rfl (by decide) (by decide) (fun lv2771 F2772 g2773 => ?_)
          have g2774 := F2772 0 (.ref (E.1 + 88)) rfl (by decide) (Or.inl rfl)
          have g2775 := F2772 1 (.int i) rfl (by decide) (Or.inl rfl)
          have g2776 := F2772 2 (.int c) rfl (by decide) (Or.inl rfl)
          have g2777 := F2772 3 (.int d) rfl (by decide) (Or.inl rfl)
          refine bh_ld (pc' := 46) bt_89_45 rfl rfl (fun _ _ _ => rfl) g2776 rfl ?_
          refine bh_c (pc' := 48) (n := 43) bt_89_46 rfl rfl (fun _ _ _ => rfl) (by decide) (fun c2778 e2779 => ?_)
          refine bh_ic (pc' := 51) (pt := 55) bt_89_48 rfl rfl (fun k2780 => ?_) (fun k2780 => ?_)
          · replace k2780 : (c).toInt ≠ (c2778).toInt := k2780
            refine bh_ld (pc' := 56) bt_89_55 rfl rfl (fun _ _ _ => rfl) g2776 rfl ?_
            refine bh_c (pc' := 58) (n := 45) bt_89_56 rfl rfl (fun _ _ _ => rfl) (by decide) (fun c2781 e2782 => ?_)
            refine bh_ic (pc' := 61) (pt := 65) bt_89_58 rfl rfl (fun k2783 => ?_) (fun k2783 => ?_)
            · replace k2783 : (c).toInt ≠ (c2781).toInt := k2783
              refine bh_ld (pc' := 66) bt_89_65 rfl rfl (fun _ _ _ => rfl) g2776 rfl ?_
              refine bh_c (pc' := 68) (n := 42) bt_89_66 rfl rfl (fun _ _ _ => rfl) (by decide) (fun c2784 e2785 => ?_)
              refine bh_ic (pc' := 71) (pt := 75) bt_89_68 rfl rfl (fun k2786 => ?_) (fun k2786 => ?_)
              · replace k2786 : (c).toInt ≠ (c2784).toInt := k2786
                refine bh_ld (pc' := 76) bt_89_75 rfl rfl (fun _ _ _ => rfl) g2776 rfl ?_
                refine bh_c (pc' := 78) (n := 47) bt_89_76 rfl rfl (fun _ _ _ => rfl) (by decide) (fun c2787 e2788 => ?_)
                refine bh_ic (pc' := 81) (pt := 85) bt_89_78 rfl rfl (fun k2789 => ?_) (fun k2789 => ?_)
                · replace k2789 : (c).toInt ≠ (c2787).toInt := k2789
                  refine bh_ld (pc' := 86) bt_89_85 rfl rfl (fun _ _ _ => rfl) g2776 rfl ?_
                  refine bh_c (pc' := 88) (n := 60) bt_89_86 rfl rfl (fun _ _ _ => rfl) (by decide) (fun c2790 e2791 => ?_)
                  refine bh_ic (pc' := 91) (pt := 95) bt_89_88 rfl rfl (fun k2792 => ?_) (fun k2792 => ?_)
                  · replace k2792 : (c).toInt ≠ (c2790).toInt := k2792
                    refine bh_ld (pc' := 96) bt_89_95 rfl rfl (fun _ _ _ => rfl) g2774 rfl ?_
                    refine bh_ld (pc' := 98) bt_89_96 rfl rfl (fun _ _ _ => rfl) g2773 rfl ?_
                    refine bh_ld (pc' := 99) bt_89_98 rfl rfl (fun _ _ _ => rfl) g2775 rfl ?_
                    refine bh_c (pc' := 100) (n := 0) bt_89_99 rfl rfl (fun _ _ _ => rfl) (by decide) (fun c2793 e2794 => ?_)
                    refine bh_cL (pc' := 101) bt_89_100 rfl rfl (fun _ _ _ => rfl) (fun x2795 => ?_)
                    refine bh_cv (pc' := 104) (st := []) (args := [.long x2795, .int c2793, .int i, .int c2769]) bt_89_101 rfl rfl (by decide) hP (by omega) rfl (Nat.le_of_ble_eq_true rfl) (Nat.le_of_ble_eq_true rfl) ?_
                    refine sp_103 (k := c2769) (w := i) (v := c2793) (x := x2795) hP hn (by omega) (by omega) (by omega) (by omega) hq (fun h2796 s2797 A2798 L2799 hP2800 f2801 a2802 q2803 p2804 => ?_)
                    show bh_G E FIN ((89, 104, lv2771, [], 0, 0) :: gs, _, none)
                    refine bh_c (pc' := 105) (n := 1) bt_89_104 rfl rfl (fun _ _ _ => rfl) (by decide) (fun c2805 e2806 => ?_)
                    refine bh_ri bt_89_105 ?_
                    exact kk _ _ _ _ _ hP2800 (fun j j10 => (f2801 j j10)) (fun k j u => (a2802 k j u)) q2803 (by omega) (by omega)
                  · replace k2792 : ¬ ((c).toInt ≠ (c2790).toInt) := k2792
                    refine bh_c (pc' := 93) (n := 13) bt_89_91 rfl rfl (fun _ _ _ => rfl) (by decide) (fun c2807 e2808 => ?_)
                    refine bh_st (pc' := 95) bt_89_93 rfl rfl (fun _ _ _ => rfl) rfl (by decide) (by decide) (fun lv2809 F2810 g2811 => ?_)
                    have g2812 := F2810 0 (.ref (E.1 + 88)) g2774 (by decide) (Or.inl rfl)
                    have g2813 := F2810 1 (.int i) g2775 (by decide) (Or.inl rfl)
                    have g2814 := F2810 2 (.int c) g2776 (by decide) (Or.inl rfl)
                    have g2815 := F2810 3 (.int d) g2777 (by decide) (Or.inl rfl)
                    refine bh_ld (pc' := 96) bt_89_95 rfl rfl (fun _ _ _ => rfl) g2812 rfl ?_
                    refine bh_ld (pc' := 98) bt_89_96 rfl rfl (fun _ _ _ => rfl) g2811 rfl ?_
                    refine bh_ld (pc' := 99) bt_89_98 rfl rfl (fun _ _ _ => rfl) g2813 rfl ?_
                    refine bh_c (pc' := 100) (n := 0) bt_89_99 rfl rfl (fun _ _ _ => rfl) (by decide) (fun c2816 e2817 => ?_)
                    refine bh_cL (pc' := 101) bt_89_100 rfl rfl (fun _ _ _ => rfl) (fun x2818 => ?_)
                    refine bh_cv (pc' := 104) (st := []) (args := [.long x2818, .int c2816, .int i, .int c2807]) bt_89_101 rfl rfl (by decide) hP (by omega) rfl (Nat.le_of_ble_eq_true rfl) (Nat.le_of_ble_eq_true rfl) ?_
                    refine sp_103 (k := c2807) (w := i) (v := c2816) (x := x2818) hP hn (by omega) (by omega) (by omega) (by omega) hq (fun h2819 s2820 A2821 L2822 hP2823 f2824 a2825 q2826 p2827 => ?_)
                    show bh_G E FIN ((89, 104, lv2809, [], 0, 0) :: gs, _, none)
                    refine bh_c (pc' := 105) (n := 1) bt_89_104 rfl rfl (fun _ _ _ => rfl) (by decide) (fun c2828 e2829 => ?_)
                    refine bh_ri bt_89_105 ?_
                    exact kk _ _ _ _ _ hP2823 (fun j j10 => (f2824 j j10)) (fun k j u => (a2825 k j u)) q2826 (by omega) (by omega)
                · replace k2789 : ¬ ((c).toInt ≠ (c2787).toInt) := k2789
                  refine bh_c (pc' := 83) (n := 15) bt_89_81 rfl rfl (fun _ _ _ => rfl) (by decide) (fun c2830 e2831 => ?_)
                  refine bh_st (pc' := 85) bt_89_83 rfl rfl (fun _ _ _ => rfl) rfl (by decide) (by decide) (fun lv2832 F2833 g2834 => ?_)
                  have g2835 := F2833 0 (.ref (E.1 + 88)) g2774 (by decide) (Or.inl rfl)
                  have g2836 := F2833 1 (.int i) g2775 (by decide) (Or.inl rfl)
                  have g2837 := F2833 2 (.int c) g2776 (by decide) (Or.inl rfl)
                  have g2838 := F2833 3 (.int d) g2777 (by decide) (Or.inl rfl)
                  refine bh_ld (pc' := 86) bt_89_85 rfl rfl (fun _ _ _ => rfl) g2837 rfl ?_
                  refine bh_c (pc' := 88) (n := 60) bt_89_86 rfl rfl (fun _ _ _ => rfl) (by decide) (fun c2839 e2840 => ?_)
                  refine bh_ic (pc' := 91) (pt := 95) bt_89_88 rfl rfl (fun k2841 => ?_) (fun k2841 => ?_)
                  · replace k2841 : (c).toInt ≠ (c2839).toInt := k2841
                    refine bh_ld (pc' := 96) bt_89_95 rfl rfl (fun _ _ _ => rfl) g2835 rfl ?_
                    refine bh_ld (pc' := 98) bt_89_96 rfl rfl (fun _ _ _ => rfl) g2834 rfl ?_
                    refine bh_ld (pc' := 99) bt_89_98 rfl rfl (fun _ _ _ => rfl) g2836 rfl ?_
                    refine bh_c (pc' := 100) (n := 0) bt_89_99 rfl rfl (fun _ _ _ => rfl) (by decide) (fun c2842 e2843 => ?_)
                    refine bh_cL (pc' := 101) bt_89_100 rfl rfl (fun _ _ _ => rfl) (fun x2844 => ?_)
                    refine bh_cv (pc' := 104) (st := []) (args := [.long x2844, .int c2842, .int i, .int c2830]) bt_89_101 rfl rfl (by decide) hP (by omega) rfl (Nat.le_of_ble_eq_true rfl) (Nat.le_of_ble_eq_true rfl) ?_
                    refine sp_103 (k := c2830) (w := i) (v := c2842) (x := x2844) hP hn (by omega) (by omega) (by omega) (by omega) hq (fun h2845 s2846 A2847 L2848 hP2849 f2850 a2851 q2852 p2853 => ?_)
                    show bh_G E FIN ((89, 104, lv2832, [], 0, 0) :: gs, _, none)
                    refine bh_c (pc' := 105) (n := 1) bt_89_104 rfl rfl (fun _ _ _ => rfl) (by decide) (fun c2854 e2855 => ?_)
                    refine bh_ri bt_89_105 ?_
                    exact kk _ _ _ _ _ hP2849 (fun j j10 => (f2850 j j10)) (fun k j u => (a2851 k j u)) q2852 (by omega) (by omega)
                  · replace k2841 : ¬ ((c).toInt ≠ (c2839).toInt) := k2841
                    omega
              · replace k2786 : ¬ ((c).toInt ≠ (c2784).toInt) := k2786
                refine bh_c (pc' := 73) (n := 10) bt_89_71 rfl rfl (fun _ _ _ => rfl) (by decide) (fun c2856 e2857 => ?_)
                refine bh_st (pc' := 75) bt_89_73 rfl rfl (fun _ _ _ => rfl) rfl (by decide) (by decide) (fun lv2858 F2859 g2860 => ?_)
                have g2861 := F2859 0 (.ref (E.1 + 88)) g2774 (by decide) (Or.inl rfl)
                have g2862 := F2859 1 (.int i) g2775 (by decide) (Or.inl rfl)
                have g2863 := F2859 2 (.int c) g2776 (by decide) (Or.inl rfl)
                have g2864 := F2859 3 (.int d) g2777 (by decide) (Or.inl rfl)
                refine bh_ld (pc' := 76) bt_89_75 rfl rfl (fun _ _ _ => rfl) g2863 rfl ?_
                refine bh_c (pc' := 78) (n := 47) bt_89_76 rfl rfl (fun _ _ _ => rfl) (by decide) (fun c2865 e2866 => ?_)
                refine bh_ic (pc' := 81) (pt := 85) bt_89_78 rfl rfl (fun k2867 => ?_) (fun k2867 => ?_)
                · replace k2867 : (c).toInt ≠ (c2865).toInt := k2867
                  refine bh_ld (pc' := 86) bt_89_85 rfl rfl (fun _ _ _ => rfl) g2863 rfl ?_
                  refine bh_c (pc' := 88) (n := 60) bt_89_86 rfl rfl (fun _ _ _ => rfl) (by decide) (fun c2868 e2869 => ?_)
                  refine bh_ic (pc' := 91) (pt := 95) bt_89_88 rfl rfl (fun k2870 => ?_) (fun k2870 => ?_)
                  · replace k2870 : (c).toInt ≠ (c2868).toInt := k2870
                    refine bh_ld (pc' := 96) bt_89_95 rfl rfl (fun _ _ _ => rfl) g2861 rfl ?_
                    refine bh_ld (pc' := 98) bt_89_96 rfl rfl (fun _ _ _ => rfl) g2860 rfl ?_
                    refine bh_ld (pc' := 99) bt_89_98 rfl rfl (fun _ _ _ => rfl) g2862 rfl ?_
                    refine bh_c (pc' := 100) (n := 0) bt_89_99 rfl rfl (fun _ _ _ => rfl) (by decide) (fun c2871 e2872 => ?_)
                    refine bh_cL (pc' := 101) bt_89_100 rfl rfl (fun _ _ _ => rfl) (fun x2873 => ?_)
                    refine bh_cv (pc' := 104) (st := []) (args := [.long x2873, .int c2871, .int i, .int c2856]) bt_89_101 rfl rfl (by decide) hP (by omega) rfl (Nat.le_of_ble_eq_true rfl) (Nat.le_of_ble_eq_true rfl) ?_
                    refine sp_103 (k := c2856) (w := i) (v := c2871) (x := x2873) hP hn (by omega) (by omega) (by omega) (by omega) hq (fun h2874 s2875 A2876 L2877 hP2878 f2879 a2880 q2881 p2882 => ?_)
                    show bh_G E FIN ((89, 104, lv2858, [], 0, 0) :: gs, _, none)
                    refine bh_c (pc' := 105) (n := 1) bt_89_104 rfl rfl (fun _ _ _ => rfl) (by decide) (fun c2883 e2884 => ?_)
                    refine bh_ri bt_89_105 ?_
                    exact kk _ _ _ _ _ hP2878 (fun j j10 => (f2879 j j10)) (fun k j u => (a2880 k j u)) q2881 (by omega) (by omega)
                  · replace k2870 : ¬ ((c).toInt ≠ (c2868).toInt) := k2870
                    omega
                · replace k2867 : ¬ ((c).toInt ≠ (c2865).toInt) := k2867
                  omega
            · replace k2783 : ¬ ((c).toInt ≠ (c2781).toInt) := k2783
              refine bh_c (pc' := 63) (n := 9) bt_89_61 rfl rfl (fun _ _ _ => rfl) (by decide) (fun c2885 e2886 => ?_)
              refine bh_st (pc' := 65) bt_89_63 rfl rfl (fun _ _ _ => rfl) rfl (by decide) (by decide) (fun lv2887 F2888 g2889 => ?_)
              have g2890 := F2888 0 (.ref (E.1 + 88)) g2774 (by decide) (Or.inl rfl)
              have g2891 := F2888 1 (.int i) g2775 (by decide) (Or.inl rfl)
              have g2892 := F2888 2 (.int c) g2776 (by decide) (Or.inl rfl)
              have g2893 := F2888 3 (.int d) g2777 (by decide) (Or.inl rfl)
              refine bh_ld (pc' := 66) bt_89_65 rfl rfl (fun _ _ _ => rfl) g2892 rfl ?_
              refine bh_c (pc' := 68) (n := 42) bt_89_66 rfl rfl (fun _ _ _ => rfl) (by decide) (fun c2894 e2895 => ?_)
              refine bh_ic (pc' := 71) (pt := 75) bt_89_68 rfl rfl (fun k2896 => ?_) (fun k2896 => ?_)
              · replace k2896 : (c).toInt ≠ (c2894).toInt := k2896
                refine bh_ld (pc' := 76) bt_89_75 rfl rfl (fun _ _ _ => rfl) g2892 rfl ?_
                refine bh_c (pc' := 78) (n := 47) bt_89_76 rfl rfl (fun _ _ _ => rfl) (by decide) (fun c2897 e2898 => ?_)
                refine bh_ic (pc' := 81) (pt := 85) bt_89_78 rfl rfl (fun k2899 => ?_) (fun k2899 => ?_)
                · replace k2899 : (c).toInt ≠ (c2897).toInt := k2899
                  refine bh_ld (pc' := 86) bt_89_85 rfl rfl (fun _ _ _ => rfl) g2892 rfl ?_
                  refine bh_c (pc' := 88) (n := 60) bt_89_86 rfl rfl (fun _ _ _ => rfl) (by decide) (fun c2900 e2901 => ?_)
                  refine bh_ic (pc' := 91) (pt := 95) bt_89_88 rfl rfl (fun k2902 => ?_) (fun k2902 => ?_)
                  · replace k2902 : (c).toInt ≠ (c2900).toInt := k2902
                    refine bh_ld (pc' := 96) bt_89_95 rfl rfl (fun _ _ _ => rfl) g2890 rfl ?_
                    refine bh_ld (pc' := 98) bt_89_96 rfl rfl (fun _ _ _ => rfl) g2889 rfl ?_
                    refine bh_ld (pc' := 99) bt_89_98 rfl rfl (fun _ _ _ => rfl) g2891 rfl ?_
                    refine bh_c (pc' := 100) (n := 0) bt_89_99 rfl rfl (fun _ _ _ => rfl) (by decide) (fun c2903 e2904 => ?_)
                    refine bh_cL (pc' := 101) bt_89_100 rfl rfl (fun _ _ _ => rfl) (fun x2905 => ?_)
                    refine bh_cv (pc' := 104) (st := []) (args := [.long x2905, .int c2903, .int i, .int c2885]) bt_89_101 rfl rfl (by decide) hP (by omega) rfl (Nat.le_of_ble_eq_true rfl) (Nat.le_of_ble_eq_true rfl) ?_
                    refine sp_103 (k := c2885) (w := i) (v := c2903) (x := x2905) hP hn (by omega) (by omega) (by omega) (by omega) hq (fun h2906 s2907 A2908 L2909 hP2910 f2911 a2912 q2913 p2914 => ?_)
                    show bh_G E FIN ((89, 104, lv2887, [], 0, 0) :: gs, _, none)
                    refine bh_c (pc' := 105) (n := 1) bt_89_104 rfl rfl (fun _ _ _ => rfl) (by decide) (fun c2915 e2916 => ?_)
                    refine bh_ri bt_89_105 ?_
                    exact kk _ _ _ _ _ hP2910 (fun j j10 => (f2911 j j10)) (fun k j u => (a2912 k j u)) q2913 (by omega) (by omega)
                  · replace k2902 : ¬ ((c).toInt ≠ (c2900).toInt) := k2902
                    omega
                · replace k2899 : ¬ ((c).toInt ≠ (c2897).toInt) := k2899
                  omega
              · replace k2896 : ¬ ((c).toInt ≠ (c2894).toInt) := k2896
                omega
          · replace k2780 : ¬ ((c).toInt ≠ (c2778).toInt) := k2780
            refine bh_c (pc' := 53) (n := 8) bt_89_51 rfl rfl (fun _ _ _ => rfl) (by decide) (fun c2917 e2918 => ?_)
            refine bh_st (pc' := 55) bt_89_53 rfl rfl (fun _ _ _ => rfl) rfl (by decide) (by decide) (fun lv2919 F2920 g2921 => ?_)
            have g2922 := F2920 0 (.ref (E.1 + 88)) g2774 (by decide) (Or.inl rfl)
            have g2923 := F2920 1 (.int i) g2775 (by decide) (Or.inl rfl)
            have g2924 := F2920 2 (.int c) g2776 (by decide) (Or.inl rfl)
            have g2925 := F2920 3 (.int d) g2777 (by decide) (Or.inl rfl)
            refine bh_ld (pc' := 56) bt_89_55 rfl rfl (fun _ _ _ => rfl) g2924 rfl ?_
            refine bh_c (pc' := 58) (n := 45) bt_89_56 rfl rfl (fun _ _ _ => rfl) (by decide) (fun c2926 e2927 => ?_)
            refine bh_ic (pc' := 61) (pt := 65) bt_89_58 rfl rfl (fun k2928 => ?_) (fun k2928 => ?_)
            · replace k2928 : (c).toInt ≠ (c2926).toInt := k2928
              refine bh_ld (pc' := 66) bt_89_65 rfl rfl (fun _ _ _ => rfl) g2924 rfl ?_
              refine bh_c (pc' := 68) (n := 42) bt_89_66 rfl rfl (fun _ _ _ => rfl) (by decide) (fun c2929 e2930 => ?_)
              refine bh_ic (pc' := 71) (pt := 75) bt_89_68 rfl rfl (fun k2931 => ?_) (fun k2931 => ?_)
              · replace k2931 : (c).toInt ≠ (c2929).toInt := k2931
                refine bh_ld (pc' := 76) bt_89_75 rfl rfl (fun _ _ _ => rfl) g2924 rfl ?_
                refine bh_c (pc' := 78) (n := 47) bt_89_76 rfl rfl (fun _ _ _ => rfl) (by decide) (fun c2932 e2933 => ?_)
                refine bh_ic (pc' := 81) (pt := 85) bt_89_78 rfl rfl (fun k2934 => ?_) (fun k2934 => ?_)
                · replace k2934 : (c).toInt ≠ (c2932).toInt := k2934
                  refine bh_ld (pc' := 86) bt_89_85 rfl rfl (fun _ _ _ => rfl) g2924 rfl ?_
                  refine bh_c (pc' := 88) (n := 60) bt_89_86 rfl rfl (fun _ _ _ => rfl) (by decide) (fun c2935 e2936 => ?_)
                  refine bh_ic (pc' := 91) (pt := 95) bt_89_88 rfl rfl (fun k2937 => ?_) (fun k2937 => ?_)
                  · replace k2937 : (c).toInt ≠ (c2935).toInt := k2937
                    refine bh_ld (pc' := 96) bt_89_95 rfl rfl (fun _ _ _ => rfl) g2922 rfl ?_
                    refine bh_ld (pc' := 98) bt_89_96 rfl rfl (fun _ _ _ => rfl) g2921 rfl ?_
                    refine bh_ld (pc' := 99) bt_89_98 rfl rfl (fun _ _ _ => rfl) g2923 rfl ?_
                    refine bh_c (pc' := 100) (n := 0) bt_89_99 rfl rfl (fun _ _ _ => rfl) (by decide) (fun c2938 e2939 => ?_)
                    refine bh_cL (pc' := 101) bt_89_100 rfl rfl (fun _ _ _ => rfl) (fun x2940 => ?_)
                    refine bh_cv (pc' := 104) (st := []) (args := [.long x2940, .int c2938, .int i, .int c2917]) bt_89_101 rfl rfl (by decide) hP (by omega) rfl (Nat.le_of_ble_eq_true rfl) (Nat.le_of_ble_eq_true rfl) ?_
                    refine sp_103 (k := c2917) (w := i) (v := c2938) (x := x2940) hP hn (by omega) (by omega) (by omega) (by omega) hq (fun h2941 s2942 A2943 L2944 hP2945 f2946 a2947 q2948 p2949 => ?_)
                    show bh_G E FIN ((89, 104, lv2919, [], 0, 0) :: gs, _, none)
                    refine bh_c (pc' := 105) (n := 1) bt_89_104 rfl rfl (fun _ _ _ => rfl) (by decide) (fun c2950 e2951 => ?_)
                    refine bh_ri bt_89_105 ?_
                    exact kk _ _ _ _ _ hP2945 (fun j j10 => (f2946 j j10)) (fun k j u => (a2947 k j u)) q2948 (by omega) (by omega)
                  · replace k2937 : ¬ ((c).toInt ≠ (c2935).toInt) := k2937
                    omega
                · replace k2934 : ¬ ((c).toInt ≠ (c2932).toInt) := k2934
                  omega
              · replace k2931 : ¬ ((c).toInt ≠ (c2929).toInt) := k2931
                omega
            · replace k2928 : ¬ ((c).toInt ≠ (c2926).toInt) := k2928
              omega
        · replace k2768 : ¬ ((c).toInt ≠ (c2766).toInt) := k2768
          refine bh_c (pc' := 39) (n := 7) bt_89_37 rfl rfl (fun _ _ _ => rfl) (by decide) (fun c2952 e2953 => ?_)
          refine bh_go (pc' := 43) bt_89_39 rfl ?_
          refine bh_st (pc' := 45) bt_89_43 rfl rfl (fun _ _ _ => rfl) rfl (by decide) (by decide) (fun lv2954 F2955 g2956 => ?_)
          have g2957 := F2955 0 (.ref (E.1 + 88)) rfl (by decide) (Or.inl rfl)
          have g2958 := F2955 1 (.int i) rfl (by decide) (Or.inl rfl)
          have g2959 := F2955 2 (.int c) rfl (by decide) (Or.inl rfl)
          have g2960 := F2955 3 (.int d) rfl (by decide) (Or.inl rfl)
          refine bh_ld (pc' := 46) bt_89_45 rfl rfl (fun _ _ _ => rfl) g2959 rfl ?_
          refine bh_c (pc' := 48) (n := 43) bt_89_46 rfl rfl (fun _ _ _ => rfl) (by decide) (fun c2961 e2962 => ?_)
          refine bh_ic (pc' := 51) (pt := 55) bt_89_48 rfl rfl (fun k2963 => ?_) (fun k2963 => ?_)
          · replace k2963 : (c).toInt ≠ (c2961).toInt := k2963
            refine bh_ld (pc' := 56) bt_89_55 rfl rfl (fun _ _ _ => rfl) g2959 rfl ?_
            refine bh_c (pc' := 58) (n := 45) bt_89_56 rfl rfl (fun _ _ _ => rfl) (by decide) (fun c2964 e2965 => ?_)
            refine bh_ic (pc' := 61) (pt := 65) bt_89_58 rfl rfl (fun k2966 => ?_) (fun k2966 => ?_)
            · replace k2966 : (c).toInt ≠ (c2964).toInt := k2966
              refine bh_ld (pc' := 66) bt_89_65 rfl rfl (fun _ _ _ => rfl) g2959 rfl ?_
              refine bh_c (pc' := 68) (n := 42) bt_89_66 rfl rfl (fun _ _ _ => rfl) (by decide) (fun c2967 e2968 => ?_)
              refine bh_ic (pc' := 71) (pt := 75) bt_89_68 rfl rfl (fun k2969 => ?_) (fun k2969 => ?_)
              · replace k2969 : (c).toInt ≠ (c2967).toInt := k2969
                refine bh_ld (pc' := 76) bt_89_75 rfl rfl (fun _ _ _ => rfl) g2959 rfl ?_
                refine bh_c (pc' := 78) (n := 47) bt_89_76 rfl rfl (fun _ _ _ => rfl) (by decide) (fun c2970 e2971 => ?_)
                refine bh_ic (pc' := 81) (pt := 85) bt_89_78 rfl rfl (fun k2972 => ?_) (fun k2972 => ?_)
                · replace k2972 : (c).toInt ≠ (c2970).toInt := k2972
                  refine bh_ld (pc' := 86) bt_89_85 rfl rfl (fun _ _ _ => rfl) g2959 rfl ?_
                  refine bh_c (pc' := 88) (n := 60) bt_89_86 rfl rfl (fun _ _ _ => rfl) (by decide) (fun c2973 e2974 => ?_)
                  refine bh_ic (pc' := 91) (pt := 95) bt_89_88 rfl rfl (fun k2975 => ?_) (fun k2975 => ?_)
                  · replace k2975 : (c).toInt ≠ (c2973).toInt := k2975
                    refine bh_ld (pc' := 96) bt_89_95 rfl rfl (fun _ _ _ => rfl) g2957 rfl ?_
                    refine bh_ld (pc' := 98) bt_89_96 rfl rfl (fun _ _ _ => rfl) g2956 rfl ?_
                    refine bh_ld (pc' := 99) bt_89_98 rfl rfl (fun _ _ _ => rfl) g2958 rfl ?_
                    refine bh_c (pc' := 100) (n := 0) bt_89_99 rfl rfl (fun _ _ _ => rfl) (by decide) (fun c2976 e2977 => ?_)
                    refine bh_cL (pc' := 101) bt_89_100 rfl rfl (fun _ _ _ => rfl) (fun x2978 => ?_)
                    refine bh_cv (pc' := 104) (st := []) (args := [.long x2978, .int c2976, .int i, .int c2952]) bt_89_101 rfl rfl (by decide) hP (by omega) rfl (Nat.le_of_ble_eq_true rfl) (Nat.le_of_ble_eq_true rfl) ?_
                    refine sp_103 (k := c2952) (w := i) (v := c2976) (x := x2978) hP hn (by omega) (by omega) (by omega) (by omega) hq (fun h2979 s2980 A2981 L2982 hP2983 f2984 a2985 q2986 p2987 => ?_)
                    show bh_G E FIN ((89, 104, lv2954, [], 0, 0) :: gs, _, none)
                    refine bh_c (pc' := 105) (n := 1) bt_89_104 rfl rfl (fun _ _ _ => rfl) (by decide) (fun c2988 e2989 => ?_)
                    refine bh_ri bt_89_105 ?_
                    exact kk _ _ _ _ _ hP2983 (fun j j10 => (f2984 j j10)) (fun k j u => (a2985 k j u)) q2986 (by omega) (by omega)
                  · replace k2975 : ¬ ((c).toInt ≠ (c2973).toInt) := k2975
                    omega
                · replace k2972 : ¬ ((c).toInt ≠ (c2970).toInt) := k2972
                  omega
              · replace k2969 : ¬ ((c).toInt ≠ (c2967).toInt) := k2969
                omega
            · replace k2966 : ¬ ((c).toInt ≠ (c2964).toInt) := k2966
              omega
          · replace k2963 : ¬ ((c).toInt ≠ (c2961).toInt) := k2963
            omega
      · replace k2765 : ¬ ((c).toInt ≠ (c2763).toInt) := k2765
        refine bh_c (pc' := 28) (n := 6) bt_89_26 rfl rfl (fun _ _ _ => rfl) (by decide) (fun c2990 e2991 => ?_)
        refine bh_go (pc' := 43) bt_89_28 rfl ?_
        refine bh_st (pc' := 45) bt_89_43 rfl rfl (fun _ _ _ => rfl) rfl (by decide) (by decide) (fun lv2992 F2993 g2994 => ?_)
        have g2995 := F2993 0 (.ref (E.1 + 88)) rfl (by decide) (Or.inl rfl)
        have g2996 := F2993 1 (.int i) rfl (by decide) (Or.inl rfl)
        have g2997 := F2993 2 (.int c) rfl (by decide) (Or.inl rfl)
        have g2998 := F2993 3 (.int d) rfl (by decide) (Or.inl rfl)
        refine bh_ld (pc' := 46) bt_89_45 rfl rfl (fun _ _ _ => rfl) g2997 rfl ?_
        refine bh_c (pc' := 48) (n := 43) bt_89_46 rfl rfl (fun _ _ _ => rfl) (by decide) (fun c2999 e3000 => ?_)
        refine bh_ic (pc' := 51) (pt := 55) bt_89_48 rfl rfl (fun k3001 => ?_) (fun k3001 => ?_)
        · replace k3001 : (c).toInt ≠ (c2999).toInt := k3001
          refine bh_ld (pc' := 56) bt_89_55 rfl rfl (fun _ _ _ => rfl) g2997 rfl ?_
          refine bh_c (pc' := 58) (n := 45) bt_89_56 rfl rfl (fun _ _ _ => rfl) (by decide) (fun c3002 e3003 => ?_)
          refine bh_ic (pc' := 61) (pt := 65) bt_89_58 rfl rfl (fun k3004 => ?_) (fun k3004 => ?_)
          · replace k3004 : (c).toInt ≠ (c3002).toInt := k3004
            refine bh_ld (pc' := 66) bt_89_65 rfl rfl (fun _ _ _ => rfl) g2997 rfl ?_
            refine bh_c (pc' := 68) (n := 42) bt_89_66 rfl rfl (fun _ _ _ => rfl) (by decide) (fun c3005 e3006 => ?_)
            refine bh_ic (pc' := 71) (pt := 75) bt_89_68 rfl rfl (fun k3007 => ?_) (fun k3007 => ?_)
            · replace k3007 : (c).toInt ≠ (c3005).toInt := k3007
              refine bh_ld (pc' := 76) bt_89_75 rfl rfl (fun _ _ _ => rfl) g2997 rfl ?_
              refine bh_c (pc' := 78) (n := 47) bt_89_76 rfl rfl (fun _ _ _ => rfl) (by decide) (fun c3008 e3009 => ?_)
              refine bh_ic (pc' := 81) (pt := 85) bt_89_78 rfl rfl (fun k3010 => ?_) (fun k3010 => ?_)
              · replace k3010 : (c).toInt ≠ (c3008).toInt := k3010
                refine bh_ld (pc' := 86) bt_89_85 rfl rfl (fun _ _ _ => rfl) g2997 rfl ?_
                refine bh_c (pc' := 88) (n := 60) bt_89_86 rfl rfl (fun _ _ _ => rfl) (by decide) (fun c3011 e3012 => ?_)
                refine bh_ic (pc' := 91) (pt := 95) bt_89_88 rfl rfl (fun k3013 => ?_) (fun k3013 => ?_)
                · replace k3013 : (c).toInt ≠ (c3011).toInt := k3013
                  refine bh_ld (pc' := 96) bt_89_95 rfl rfl (fun _ _ _ => rfl) g2995 rfl ?_
                  refine bh_ld (pc' := 98) bt_89_96 rfl rfl (fun _ _ _ => rfl) g2994 rfl ?_
                  refine bh_ld (pc' := 99) bt_89_98 rfl rfl (fun _ _ _ => rfl) g2996 rfl ?_
                  refine bh_c (pc' := 100) (n := 0) bt_89_99 rfl rfl (fun _ _ _ => rfl) (by decide) (fun c3014 e3015 => ?_)
                  refine bh_cL (pc' := 101) bt_89_100 rfl rfl (fun _ _ _ => rfl) (fun x3016 => ?_)
                  refine bh_cv (pc' := 104) (st := []) (args := [.long x3016, .int c3014, .int i, .int c2990]) bt_89_101 rfl rfl (by decide) hP (by omega) rfl (Nat.le_of_ble_eq_true rfl) (Nat.le_of_ble_eq_true rfl) ?_
                  refine sp_103 (k := c2990) (w := i) (v := c3014) (x := x3016) hP hn (by omega) (by omega) (by omega) (by omega) hq (fun h3017 s3018 A3019 L3020 hP3021 f3022 a3023 q3024 p3025 => ?_)
                  show bh_G E FIN ((89, 104, lv2992, [], 0, 0) :: gs, _, none)
                  refine bh_c (pc' := 105) (n := 1) bt_89_104 rfl rfl (fun _ _ _ => rfl) (by decide) (fun c3026 e3027 => ?_)
                  refine bh_ri bt_89_105 ?_
                  exact kk _ _ _ _ _ hP3021 (fun j j10 => (f3022 j j10)) (fun k j u => (a3023 k j u)) q3024 (by omega) (by omega)
                · replace k3013 : ¬ ((c).toInt ≠ (c3011).toInt) := k3013
                  omega
              · replace k3010 : ¬ ((c).toInt ≠ (c3008).toInt) := k3010
                omega
            · replace k3007 : ¬ ((c).toInt ≠ (c3005).toInt) := k3007
              omega
          · replace k3004 : ¬ ((c).toInt ≠ (c3002).toInt) := k3004
            omega
        · replace k3001 : ¬ ((c).toInt ≠ (c2999).toInt) := k3001
          omega
    · replace k2762 : ¬ ((c).toInt ≠ (c2760).toInt) := k2762
      refine bh_c (pc' := 17) (n := 5) bt_89_16 rfl rfl (fun _ _ _ => rfl) (by decide) (fun c3028 e3029 => ?_)
      refine bh_go (pc' := 43) bt_89_17 rfl ?_
      refine bh_st (pc' := 45) bt_89_43 rfl rfl (fun _ _ _ => rfl) rfl (by decide) (by decide) (fun lv3030 F3031 g3032 => ?_)
      have g3033 := F3031 0 (.ref (E.1 + 88)) rfl (by decide) (Or.inl rfl)
      have g3034 := F3031 1 (.int i) rfl (by decide) (Or.inl rfl)
      have g3035 := F3031 2 (.int c) rfl (by decide) (Or.inl rfl)
      have g3036 := F3031 3 (.int d) rfl (by decide) (Or.inl rfl)
      refine bh_ld (pc' := 46) bt_89_45 rfl rfl (fun _ _ _ => rfl) g3035 rfl ?_
      refine bh_c (pc' := 48) (n := 43) bt_89_46 rfl rfl (fun _ _ _ => rfl) (by decide) (fun c3037 e3038 => ?_)
      refine bh_ic (pc' := 51) (pt := 55) bt_89_48 rfl rfl (fun k3039 => ?_) (fun k3039 => ?_)
      · replace k3039 : (c).toInt ≠ (c3037).toInt := k3039
        refine bh_ld (pc' := 56) bt_89_55 rfl rfl (fun _ _ _ => rfl) g3035 rfl ?_
        refine bh_c (pc' := 58) (n := 45) bt_89_56 rfl rfl (fun _ _ _ => rfl) (by decide) (fun c3040 e3041 => ?_)
        refine bh_ic (pc' := 61) (pt := 65) bt_89_58 rfl rfl (fun k3042 => ?_) (fun k3042 => ?_)
        · replace k3042 : (c).toInt ≠ (c3040).toInt := k3042
          refine bh_ld (pc' := 66) bt_89_65 rfl rfl (fun _ _ _ => rfl) g3035 rfl ?_
          refine bh_c (pc' := 68) (n := 42) bt_89_66 rfl rfl (fun _ _ _ => rfl) (by decide) (fun c3043 e3044 => ?_)
          refine bh_ic (pc' := 71) (pt := 75) bt_89_68 rfl rfl (fun k3045 => ?_) (fun k3045 => ?_)
          · replace k3045 : (c).toInt ≠ (c3043).toInt := k3045
            refine bh_ld (pc' := 76) bt_89_75 rfl rfl (fun _ _ _ => rfl) g3035 rfl ?_
            refine bh_c (pc' := 78) (n := 47) bt_89_76 rfl rfl (fun _ _ _ => rfl) (by decide) (fun c3046 e3047 => ?_)
            refine bh_ic (pc' := 81) (pt := 85) bt_89_78 rfl rfl (fun k3048 => ?_) (fun k3048 => ?_)
            · replace k3048 : (c).toInt ≠ (c3046).toInt := k3048
              refine bh_ld (pc' := 86) bt_89_85 rfl rfl (fun _ _ _ => rfl) g3035 rfl ?_
              refine bh_c (pc' := 88) (n := 60) bt_89_86 rfl rfl (fun _ _ _ => rfl) (by decide) (fun c3049 e3050 => ?_)
              refine bh_ic (pc' := 91) (pt := 95) bt_89_88 rfl rfl (fun k3051 => ?_) (fun k3051 => ?_)
              · replace k3051 : (c).toInt ≠ (c3049).toInt := k3051
                refine bh_ld (pc' := 96) bt_89_95 rfl rfl (fun _ _ _ => rfl) g3033 rfl ?_
                refine bh_ld (pc' := 98) bt_89_96 rfl rfl (fun _ _ _ => rfl) g3032 rfl ?_
                refine bh_ld (pc' := 99) bt_89_98 rfl rfl (fun _ _ _ => rfl) g3034 rfl ?_
                refine bh_c (pc' := 100) (n := 0) bt_89_99 rfl rfl (fun _ _ _ => rfl) (by decide) (fun c3052 e3053 => ?_)
                refine bh_cL (pc' := 101) bt_89_100 rfl rfl (fun _ _ _ => rfl) (fun x3054 => ?_)
                refine bh_cv (pc' := 104) (st := []) (args := [.long x3054, .int c3052, .int i, .int c3028]) bt_89_101 rfl rfl (by decide) hP (by omega) rfl (Nat.le_of_ble_eq_true rfl) (Nat.le_of_ble_eq_true rfl) ?_
                refine sp_103 (k := c3028) (w := i) (v := c3052) (x := x3054) hP hn (by omega) (by omega) (by omega) (by omega) hq (fun h3055 s3056 A3057 L3058 hP3059 f3060 a3061 q3062 p3063 => ?_)
                show bh_G E FIN ((89, 104, lv3030, [], 0, 0) :: gs, _, none)
                refine bh_c (pc' := 105) (n := 1) bt_89_104 rfl rfl (fun _ _ _ => rfl) (by decide) (fun c3064 e3065 => ?_)
                refine bh_ri bt_89_105 ?_
                exact kk _ _ _ _ _ hP3059 (fun j j10 => (f3060 j j10)) (fun k j u => (a3061 k j u)) q3062 (by omega) (by omega)
              · replace k3051 : ¬ ((c).toInt ≠ (c3049).toInt) := k3051
                omega
            · replace k3048 : ¬ ((c).toInt ≠ (c3046).toInt) := k3048
              omega
          · replace k3045 : ¬ ((c).toInt ≠ (c3043).toInt) := k3045
            omega
        · replace k3042 : ¬ ((c).toInt ≠ (c3040).toInt) := k3042
          omega
      · replace k3039 : ¬ ((c).toInt ≠ (c3037).toInt) := k3039
        omega
  · replace k2759 : ¬ ((c).toInt ≠ (c2757).toInt) := k2759
    refine bh_c (pc' := 7) (n := 4) bt_89_6 rfl rfl (fun _ _ _ => rfl) (by decide) (fun c3066 e3067 => ?_)
    refine bh_go (pc' := 43) bt_89_7 rfl ?_
    refine bh_st (pc' := 45) bt_89_43 rfl rfl (fun _ _ _ => rfl) rfl (by decide) (by decide) (fun lv3068 F3069 g3070 => ?_)
    have g3071 := F3069 0 (.ref (E.1 + 88)) rfl (by decide) (Or.inl rfl)
    have g3072 := F3069 1 (.int i) rfl (by decide) (Or.inl rfl)
    have g3073 := F3069 2 (.int c) rfl (by decide) (Or.inl rfl)
    have g3074 := F3069 3 (.int d) rfl (by decide) (Or.inl rfl)
    refine bh_ld (pc' := 46) bt_89_45 rfl rfl (fun _ _ _ => rfl) g3073 rfl ?_
    refine bh_c (pc' := 48) (n := 43) bt_89_46 rfl rfl (fun _ _ _ => rfl) (by decide) (fun c3075 e3076 => ?_)
    refine bh_ic (pc' := 51) (pt := 55) bt_89_48 rfl rfl (fun k3077 => ?_) (fun k3077 => ?_)
    · replace k3077 : (c).toInt ≠ (c3075).toInt := k3077
      refine bh_ld (pc' := 56) bt_89_55 rfl rfl (fun _ _ _ => rfl) g3073 rfl ?_
      refine bh_c (pc' := 58) (n := 45) bt_89_56 rfl rfl (fun _ _ _ => rfl) (by decide) (fun c3078 e3079 => ?_)
      refine bh_ic (pc' := 61) (pt := 65) bt_89_58 rfl rfl (fun k3080 => ?_) (fun k3080 => ?_)
      · replace k3080 : (c).toInt ≠ (c3078).toInt := k3080
        refine bh_ld (pc' := 66) bt_89_65 rfl rfl (fun _ _ _ => rfl) g3073 rfl ?_
        refine bh_c (pc' := 68) (n := 42) bt_89_66 rfl rfl (fun _ _ _ => rfl) (by decide) (fun c3081 e3082 => ?_)
        refine bh_ic (pc' := 71) (pt := 75) bt_89_68 rfl rfl (fun k3083 => ?_) (fun k3083 => ?_)
        · replace k3083 : (c).toInt ≠ (c3081).toInt := k3083
          refine bh_ld (pc' := 76) bt_89_75 rfl rfl (fun _ _ _ => rfl) g3073 rfl ?_
          refine bh_c (pc' := 78) (n := 47) bt_89_76 rfl rfl (fun _ _ _ => rfl) (by decide) (fun c3084 e3085 => ?_)
          refine bh_ic (pc' := 81) (pt := 85) bt_89_78 rfl rfl (fun k3086 => ?_) (fun k3086 => ?_)
          · replace k3086 : (c).toInt ≠ (c3084).toInt := k3086
            refine bh_ld (pc' := 86) bt_89_85 rfl rfl (fun _ _ _ => rfl) g3073 rfl ?_
            refine bh_c (pc' := 88) (n := 60) bt_89_86 rfl rfl (fun _ _ _ => rfl) (by decide) (fun c3087 e3088 => ?_)
            refine bh_ic (pc' := 91) (pt := 95) bt_89_88 rfl rfl (fun k3089 => ?_) (fun k3089 => ?_)
            · replace k3089 : (c).toInt ≠ (c3087).toInt := k3089
              refine bh_ld (pc' := 96) bt_89_95 rfl rfl (fun _ _ _ => rfl) g3071 rfl ?_
              refine bh_ld (pc' := 98) bt_89_96 rfl rfl (fun _ _ _ => rfl) g3070 rfl ?_
              refine bh_ld (pc' := 99) bt_89_98 rfl rfl (fun _ _ _ => rfl) g3072 rfl ?_
              refine bh_c (pc' := 100) (n := 0) bt_89_99 rfl rfl (fun _ _ _ => rfl) (by decide) (fun c3090 e3091 => ?_)
              refine bh_cL (pc' := 101) bt_89_100 rfl rfl (fun _ _ _ => rfl) (fun x3092 => ?_)
              refine bh_cv (pc' := 104) (st := []) (args := [.long x3092, .int c3090, .int i, .int c3066]) bt_89_101 rfl rfl (by decide) hP (by omega) rfl (Nat.le_of_ble_eq_true rfl) (Nat.le_of_ble_eq_true rfl) ?_
              refine sp_103 (k := c3066) (w := i) (v := c3090) (x := x3092) hP hn (by omega) (by omega) (by omega) (by omega) hq (fun h3093 s3094 A3095 L3096 hP3097 f3098 a3099 q3100 p3101 => ?_)
              show bh_G E FIN ((89, 104, lv3068, [], 0, 0) :: gs, _, none)
              refine bh_c (pc' := 105) (n := 1) bt_89_104 rfl rfl (fun _ _ _ => rfl) (by decide) (fun c3102 e3103 => ?_)
              refine bh_ri bt_89_105 ?_
              exact kk _ _ _ _ _ hP3097 (fun j j10 => (f3098 j j10)) (fun k j u => (a3099 k j u)) q3100 (by omega) (by omega)
            · replace k3089 : ¬ ((c).toInt ≠ (c3087).toInt) := k3089
              omega
          · replace k3086 : ¬ ((c).toInt ≠ (c3084).toInt) := k3086
            omega
        · replace k3083 : ¬ ((c).toInt ≠ (c3081).toInt) := k3083
          omega
      · replace k3080 : ¬ ((c).toInt ≠ (c3078).toInt) := k3080
        omega
    · replace k3077 : ¬ ((c).toInt ≠ (c3075).toInt) := k3077
      omega
set_option maxHeartbeats 40000000 in
theorem rd_let (hP : bh_P bx_T E h0 h s A L) (hd : gs.length + 1 ≤ 999) (hz2 : (s 4).toInt ≤ 2000) {i : Int32} (hi0 : 0 ≤ i.toInt) (hl1 : 97 ≤ (rd_byte A (s 4) i).toInt) (hl2 : (rd_byte A (s 4) i).toInt ≤ 122) : ∀ N : Nat, ∀ (lv : mm_V) (o : Option Value) (n : Int32) (x : Int64), mm_get lv 0 = some (.ref (E.1 + 88)) → mm_get lv 1 = some (.int i) → mm_get lv 3 = some (.int n) → mm_get lv 4 = some (.long x) → 0 ≤ n.toInt → i.toInt + n.toInt ≤ (s 4).toInt → (s 4).toInt - (i.toInt + n.toInt) < N → (∀ (lv : mm_V) (o : Option Value) (n : Int32) (x : Int64), mm_get lv 0 = some (.ref (E.1 + 88)) → mm_get lv 1 = some (.int i) → mm_get lv 3 = some (.int n) → mm_get lv 4 = some (.long x) → 1 ≤ n.toInt → i.toInt + n.toInt ≤ (s 4).toInt → bh_G E FIN ((19, 124, lv, [], 0, 0) :: gs, h, o)) → bh_G E FIN ((19, 85, lv, [], 0, 0) :: gs, h, o) := by
  intro N
  induction N with
  | zero =>
    intro lv o n x g0 g1 g3 g4 n0 nz hN kk
    refine bh_ld (pc' := 86) bt_19_85 rfl rfl (fun _ _ _ => rfl) g0 rfl ?_
    refine bh_ld (pc' := 87) bt_19_86 rfl rfl (fun _ _ _ => rfl) g1 rfl ?_
    refine bh_ld (pc' := 88) bt_19_87 rfl rfl (fun _ _ _ => rfl) g3 rfl ?_
    refine bh_add (pc' := 89) bt_19_88 rfl (by omega) (by omega) (fun v3104 e3105 => ?_)
    have hb := rd_byte_c (A := A) (z := (s 4)) (v := v3104) (i := i)
    refine bh_cv (pc' := 92) (st := []) (args := [.int v3104]) bt_19_89 rfl rfl (by decide) hP (by omega) rfl (Nat.le_of_ble_eq_true rfl) (Nat.le_of_ble_eq_true rfl) ?_
    refine sp_12 (i := v3104) hP rfl (by omega) (by omega) (fun r3106 p3107 p3108 => ?_)
    show bh_G E FIN ((19, 92, lv, [.int r3106], 0, 0) :: gs, _, none)
    refine bh_cs (pc' := 95) (st := []) (args := [.int r3106]) bt_19_92 rfl rfl (by decide) (by omega) rfl (Nat.le_of_ble_eq_true rfl) (Nat.le_of_ble_eq_true rfl) ?_
    refine sp_50 (c := r3106) (fun r3109 p3110 p3111 p3112 => ?_)
    show bh_G E FIN ((19, 95, lv, [.int r3109], 0, 0) :: gs, _, none)
    refine bh_i0 (pc' := 98) (pt := 124) bt_19_95 rfl rfl (fun k3113 => ?_) (fun k3113 => ?_)
    · replace k3113 : (r3109).toInt = 0 := k3113
      exact kk _ _ _ _ g0 g1 g3 g4 (by omega) (by omega)
    · replace k3113 : ¬ ((r3109).toInt = 0) := k3113
      refine bh_ld (pc' := 99) bt_19_98 rfl rfl (fun _ _ _ => rfl) g3 rfl ?_
      refine bh_c (pc' := 101) (n := 8) bt_19_99 rfl rfl (fun _ _ _ => rfl) (by decide) (fun c3114 e3115 => ?_)
      refine bh_ic (pc' := 104) (pt := 118) bt_19_101 rfl rfl (fun k3116 => ?_) (fun k3116 => ?_)
      · replace k3116 : (c3114).toInt ≤ (n).toInt := k3116
        refine bh_inc (pc' := 121) bt_19_118 rfl (by decide) g3 (by decide) (by omega) (by omega) (fun lv3117 y3120 F3118 g3119 e3121 => ?_)
        have g3122 := F3118 0 (.ref (E.1 + 88)) g0 (by decide) (Or.inl rfl)
        have g3123 := F3118 1 (.int i) g1 (by decide) (Or.inl rfl)
        have g3124 := F3118 4 (.long x) g4 (by decide) (Or.inr (by decide))
        refine bh_go (pc' := 85) bt_19_121 rfl ?_
        exfalso
        omega
      · replace k3116 : ¬ ((c3114).toInt ≤ (n).toInt) := k3116
        refine bh_ld (pc' := 106) bt_19_104 rfl rfl (fun _ _ _ => rfl) g4 rfl ?_
        refine bh_ld (pc' := 107) bt_19_106 rfl rfl (fun _ _ _ => rfl) g0 rfl ?_
        refine bh_ld (pc' := 108) bt_19_107 rfl rfl (fun _ _ _ => rfl) g1 rfl ?_
        refine bh_ld (pc' := 109) bt_19_108 rfl rfl (fun _ _ _ => rfl) g3 rfl ?_
        refine bh_add (pc' := 110) bt_19_109 rfl (by omega) (by omega) (fun v3125 e3126 => ?_)
        refine bh_cv (pc' := 113) (st := [.long x]) (args := [.int v3125]) bt_19_110 rfl rfl (by decide) hP (by omega) rfl (Nat.le_of_ble_eq_true rfl) (Nat.le_of_ble_eq_true rfl) ?_
        refine sp_12 (i := v3125) hP rfl (by omega) (by omega) (fun r3127 p3128 p3129 => ?_)
        show bh_G E FIN ((19, 113, lv, [.int r3127, .long x], 0, 0) :: gs, _, none)
        refine bh_cs (pc' := 116) (st := []) (args := [.int r3127, .long x]) bt_19_113 rfl rfl (by decide) (by omega) rfl (Nat.le_of_ble_eq_true rfl) (Nat.le_of_ble_eq_true rfl) ?_
        refine sp_2 (x := x) (c := r3127) (fun x3130 => ?_)
        show bh_G E FIN ((19, 116, lv, [.long x3130], 0, 0) :: gs, _, none)
        refine bh_stL (pc' := 118) bt_19_116 rfl rfl (fun _ _ _ => rfl) (by decide) (fun lv3131 F3132 g3133 => ?_)
        have g3134 := F3132 0 (.ref (E.1 + 88)) g0 (by decide) (by decide) (Or.inl rfl)
        have g3135 := F3132 1 (.int i) g1 (by decide) (by decide) (Or.inl rfl)
        have g3136 := F3132 3 (.int n) g3 (by decide) (by decide) (Or.inl rfl)
        refine bh_inc (pc' := 121) bt_19_118 rfl (by decide) g3136 (by decide) (by omega) (by omega) (fun lv3137 y3140 F3138 g3139 e3141 => ?_)
        have g3142 := F3138 0 (.ref (E.1 + 88)) g3134 (by decide) (Or.inl rfl)
        have g3143 := F3138 1 (.int i) g3135 (by decide) (Or.inl rfl)
        have g3144 := F3138 4 (.long x3130) g3133 (by decide) (Or.inr (by decide))
        refine bh_go (pc' := 85) bt_19_121 rfl ?_
        exfalso
        omega
  | succ N ih =>
    intro lv o n x g0 g1 g3 g4 n0 nz hN kk
    refine bh_ld (pc' := 86) bt_19_85 rfl rfl (fun _ _ _ => rfl) g0 rfl ?_
    refine bh_ld (pc' := 87) bt_19_86 rfl rfl (fun _ _ _ => rfl) g1 rfl ?_
    refine bh_ld (pc' := 88) bt_19_87 rfl rfl (fun _ _ _ => rfl) g3 rfl ?_
    refine bh_add (pc' := 89) bt_19_88 rfl (by omega) (by omega) (fun v3145 e3146 => ?_)
    have hb := rd_byte_c (A := A) (z := (s 4)) (v := v3145) (i := i)
    refine bh_cv (pc' := 92) (st := []) (args := [.int v3145]) bt_19_89 rfl rfl (by decide) hP (by omega) rfl (Nat.le_of_ble_eq_true rfl) (Nat.le_of_ble_eq_true rfl) ?_
    refine sp_12 (i := v3145) hP rfl (by omega) (by omega) (fun r3147 p3148 p3149 => ?_)
    show bh_G E FIN ((19, 92, lv, [.int r3147], 0, 0) :: gs, _, none)
    refine bh_cs (pc' := 95) (st := []) (args := [.int r3147]) bt_19_92 rfl rfl (by decide) (by omega) rfl (Nat.le_of_ble_eq_true rfl) (Nat.le_of_ble_eq_true rfl) ?_
    refine sp_50 (c := r3147) (fun r3150 p3151 p3152 p3153 => ?_)
    show bh_G E FIN ((19, 95, lv, [.int r3150], 0, 0) :: gs, _, none)
    refine bh_i0 (pc' := 98) (pt := 124) bt_19_95 rfl rfl (fun k3154 => ?_) (fun k3154 => ?_)
    · replace k3154 : (r3150).toInt = 0 := k3154
      exact kk _ _ _ _ g0 g1 g3 g4 (by omega) (by omega)
    · replace k3154 : ¬ ((r3150).toInt = 0) := k3154
      refine bh_ld (pc' := 99) bt_19_98 rfl rfl (fun _ _ _ => rfl) g3 rfl ?_
      refine bh_c (pc' := 101) (n := 8) bt_19_99 rfl rfl (fun _ _ _ => rfl) (by decide) (fun c3155 e3156 => ?_)
      refine bh_ic (pc' := 104) (pt := 118) bt_19_101 rfl rfl (fun k3157 => ?_) (fun k3157 => ?_)
      · replace k3157 : (c3155).toInt ≤ (n).toInt := k3157
        refine bh_inc (pc' := 121) bt_19_118 rfl (by decide) g3 (by decide) (by omega) (by omega) (fun lv3158 y3161 F3159 g3160 e3162 => ?_)
        have g3163 := F3159 0 (.ref (E.1 + 88)) g0 (by decide) (Or.inl rfl)
        have g3164 := F3159 1 (.int i) g1 (by decide) (Or.inl rfl)
        have g3165 := F3159 4 (.long x) g4 (by decide) (Or.inr (by decide))
        refine bh_go (pc' := 85) bt_19_121 rfl ?_
        exact ih _ _ _ _ g3163 g3164 g3160 g3165 (by omega) (by omega) (by omega) kk
      · replace k3157 : ¬ ((c3155).toInt ≤ (n).toInt) := k3157
        refine bh_ld (pc' := 106) bt_19_104 rfl rfl (fun _ _ _ => rfl) g4 rfl ?_
        refine bh_ld (pc' := 107) bt_19_106 rfl rfl (fun _ _ _ => rfl) g0 rfl ?_
        refine bh_ld (pc' := 108) bt_19_107 rfl rfl (fun _ _ _ => rfl) g1 rfl ?_
        refine bh_ld (pc' := 109) bt_19_108 rfl rfl (fun _ _ _ => rfl) g3 rfl ?_
        refine bh_add (pc' := 110) bt_19_109 rfl (by omega) (by omega) (fun v3166 e3167 => ?_)
        refine bh_cv (pc' := 113) (st := [.long x]) (args := [.int v3166]) bt_19_110 rfl rfl (by decide) hP (by omega) rfl (Nat.le_of_ble_eq_true rfl) (Nat.le_of_ble_eq_true rfl) ?_
        refine sp_12 (i := v3166) hP rfl (by omega) (by omega) (fun r3168 p3169 p3170 => ?_)
        show bh_G E FIN ((19, 113, lv, [.int r3168, .long x], 0, 0) :: gs, _, none)
        refine bh_cs (pc' := 116) (st := []) (args := [.int r3168, .long x]) bt_19_113 rfl rfl (by decide) (by omega) rfl (Nat.le_of_ble_eq_true rfl) (Nat.le_of_ble_eq_true rfl) ?_
        refine sp_2 (x := x) (c := r3168) (fun x3171 => ?_)
        show bh_G E FIN ((19, 116, lv, [.long x3171], 0, 0) :: gs, _, none)
        refine bh_stL (pc' := 118) bt_19_116 rfl rfl (fun _ _ _ => rfl) (by decide) (fun lv3172 F3173 g3174 => ?_)
        have g3175 := F3173 0 (.ref (E.1 + 88)) g0 (by decide) (by decide) (Or.inl rfl)
        have g3176 := F3173 1 (.int i) g1 (by decide) (by decide) (Or.inl rfl)
        have g3177 := F3173 3 (.int n) g3 (by decide) (by decide) (Or.inl rfl)
        refine bh_inc (pc' := 121) bt_19_118 rfl (by decide) g3177 (by decide) (by omega) (by omega) (fun lv3178 y3181 F3179 g3180 e3182 => ?_)
        have g3183 := F3179 0 (.ref (E.1 + 88)) g3175 (by decide) (Or.inl rfl)
        have g3184 := F3179 1 (.int i) g3176 (by decide) (Or.inl rfl)
        have g3185 := F3179 4 (.long x3171) g3174 (by decide) (Or.inr (by decide))
        refine bh_go (pc' := 85) bt_19_121 rfl ?_
        exact ih _ _ _ _ g3183 g3184 g3180 g3185 (by omega) (by omega) (by omega) kk
set_option maxHeartbeats 40000000 in
theorem rd_dig (hP : bh_P bx_T E h0 h s A L) (hd : gs.length + 1 ≤ 999) (hz2 : (s 4).toInt ≤ 2000) {i : Int32} (hi0 : 0 ≤ i.toInt) (hl1 : 48 ≤ (rd_byte A (s 4) i).toInt) (hl2 : (rd_byte A (s 4) i).toInt ≤ 57) : ∀ N : Nat, ∀ (lv : mm_V) (o : Option Value) (n : Int32) (x : Int32), mm_get lv 0 = some (.ref (E.1 + 88)) → mm_get lv 1 = some (.int i) → mm_get lv 3 = some (.int n) → mm_get lv 4 = some (.int x) → 0 ≤ n.toInt → i.toInt + n.toInt ≤ (s 4).toInt → (s 4).toInt - (i.toInt + n.toInt) < N → (∀ (lv : mm_V) (o : Option Value) (n : Int32) (x : Int32), mm_get lv 0 = some (.ref (E.1 + 88)) → mm_get lv 1 = some (.int i) → mm_get lv 3 = some (.int n) → mm_get lv 4 = some (.int x) → 1 ≤ n.toInt → i.toInt + n.toInt ≤ (s 4).toInt → bh_G E FIN ((19, 250, lv, [], 0, 0) :: gs, h, o)) → bh_G E FIN ((19, 208, lv, [], 0, 0) :: gs, h, o) := by
  intro N
  induction N with
  | zero =>
    intro lv o n x g0 g1 g3 g4 n0 nz hN kk
    refine bh_ld (pc' := 209) bt_19_208 rfl rfl (fun _ _ _ => rfl) g0 rfl ?_
    refine bh_ld (pc' := 210) bt_19_209 rfl rfl (fun _ _ _ => rfl) g1 rfl ?_
    refine bh_ld (pc' := 211) bt_19_210 rfl rfl (fun _ _ _ => rfl) g3 rfl ?_
    refine bh_add (pc' := 212) bt_19_211 rfl (by omega) (by omega) (fun v3186 e3187 => ?_)
    have hb := rd_byte_c (A := A) (z := (s 4)) (v := v3186) (i := i)
    refine bh_cv (pc' := 215) (st := []) (args := [.int v3186]) bt_19_212 rfl rfl (by decide) hP (by omega) rfl (Nat.le_of_ble_eq_true rfl) (Nat.le_of_ble_eq_true rfl) ?_
    refine sp_12 (i := v3186) hP rfl (by omega) (by omega) (fun r3188 p3189 p3190 => ?_)
    show bh_G E FIN ((19, 215, lv, [.int r3188], 0, 0) :: gs, _, none)
    refine bh_cs (pc' := 218) (st := []) (args := [.int r3188]) bt_19_215 rfl rfl (by decide) (by omega) rfl (Nat.le_of_ble_eq_true rfl) (Nat.le_of_ble_eq_true rfl) ?_
    refine sp_48 (c := r3188) (fun r3191 p3192 p3193 p3194 => ?_)
    show bh_G E FIN ((19, 218, lv, [.int r3191], 0, 0) :: gs, _, none)
    refine bh_i0 (pc' := 221) (pt := 250) bt_19_218 rfl rfl (fun k3195 => ?_) (fun k3195 => ?_)
    · replace k3195 : (r3191).toInt = 0 := k3195
      exact kk _ _ _ _ g0 g1 g3 g4 (by omega) (by omega)
    · replace k3195 : ¬ ((r3191).toInt = 0) := k3195
      refine bh_ld (pc' := 222) bt_19_221 rfl rfl (fun _ _ _ => rfl) g3 rfl ?_
      refine bh_c (pc' := 223) (n := 4) bt_19_222 rfl rfl (fun _ _ _ => rfl) (by decide) (fun c3196 e3197 => ?_)
      refine bh_ic (pc' := 226) (pt := 244) bt_19_223 rfl rfl (fun k3198 => ?_) (fun k3198 => ?_)
      · replace k3198 : (c3196).toInt ≤ (n).toInt := k3198
        refine bh_inc (pc' := 247) bt_19_244 rfl (by decide) g3 (by decide) (by omega) (by omega) (fun lv3199 y3202 F3200 g3201 e3203 => ?_)
        have g3204 := F3200 0 (.ref (E.1 + 88)) g0 (by decide) (Or.inl rfl)
        have g3205 := F3200 1 (.int i) g1 (by decide) (Or.inl rfl)
        have g3206 := F3200 4 (.int x) g4 (by decide) (Or.inl rfl)
        refine bh_go (pc' := 208) bt_19_247 rfl ?_
        exfalso
        omega
      · replace k3198 : ¬ ((c3196).toInt ≤ (n).toInt) := k3198
        refine bh_c (pc' := 228) (n := 10) bt_19_226 rfl rfl (fun _ _ _ => rfl) (by decide) (fun c3207 e3208 => ?_)
        refine bh_ld (pc' := 230) bt_19_228 rfl rfl (fun _ _ _ => rfl) g4 rfl ?_
        refine bh_mulA (pc' := 231) bt_19_230 rfl (fun v3209 => ?_)
        refine bh_ld (pc' := 232) bt_19_231 rfl rfl (fun _ _ _ => rfl) g0 rfl ?_
        refine bh_ld (pc' := 233) bt_19_232 rfl rfl (fun _ _ _ => rfl) g1 rfl ?_
        refine bh_ld (pc' := 234) bt_19_233 rfl rfl (fun _ _ _ => rfl) g3 rfl ?_
        refine bh_add (pc' := 235) bt_19_234 rfl (by omega) (by omega) (fun v3211 e3212 => ?_)
        refine bh_cv (pc' := 238) (st := [.int v3209]) (args := [.int v3211]) bt_19_235 rfl rfl (by decide) hP (by omega) rfl (Nat.le_of_ble_eq_true rfl) (Nat.le_of_ble_eq_true rfl) ?_
        refine sp_12 (i := v3211) hP rfl (by omega) (by omega) (fun r3213 p3214 p3215 => ?_)
        show bh_G E FIN ((19, 238, lv, [.int r3213, .int v3209], 0, 0) :: gs, _, none)
        refine bh_addA (pc' := 239) bt_19_238 rfl (fun v3216 => ?_)
        refine bh_c (pc' := 241) (n := 48) bt_19_239 rfl rfl (fun _ _ _ => rfl) (by decide) (fun c3218 e3219 => ?_)
        refine bh_subA (pc' := 242) bt_19_241 rfl (fun v3220 => ?_)
        refine bh_st (pc' := 244) bt_19_242 rfl rfl (fun _ _ _ => rfl) rfl (by decide) (by decide) (fun lv3222 F3223 g3224 => ?_)
        have g3225 := F3223 0 (.ref (E.1 + 88)) g0 (by decide) (Or.inl rfl)
        have g3226 := F3223 1 (.int i) g1 (by decide) (Or.inl rfl)
        have g3227 := F3223 3 (.int n) g3 (by decide) (Or.inl rfl)
        refine bh_inc (pc' := 247) bt_19_244 rfl (by decide) g3227 (by decide) (by omega) (by omega) (fun lv3228 y3231 F3229 g3230 e3232 => ?_)
        have g3233 := F3229 0 (.ref (E.1 + 88)) g3225 (by decide) (Or.inl rfl)
        have g3234 := F3229 1 (.int i) g3226 (by decide) (Or.inl rfl)
        have g3235 := F3229 4 (.int v3220) g3224 (by decide) (Or.inl rfl)
        refine bh_go (pc' := 208) bt_19_247 rfl ?_
        exfalso
        omega
  | succ N ih =>
    intro lv o n x g0 g1 g3 g4 n0 nz hN kk
    refine bh_ld (pc' := 209) bt_19_208 rfl rfl (fun _ _ _ => rfl) g0 rfl ?_
    refine bh_ld (pc' := 210) bt_19_209 rfl rfl (fun _ _ _ => rfl) g1 rfl ?_
    refine bh_ld (pc' := 211) bt_19_210 rfl rfl (fun _ _ _ => rfl) g3 rfl ?_
    refine bh_add (pc' := 212) bt_19_211 rfl (by omega) (by omega) (fun v3236 e3237 => ?_)
    have hb := rd_byte_c (A := A) (z := (s 4)) (v := v3236) (i := i)
    refine bh_cv (pc' := 215) (st := []) (args := [.int v3236]) bt_19_212 rfl rfl (by decide) hP (by omega) rfl (Nat.le_of_ble_eq_true rfl) (Nat.le_of_ble_eq_true rfl) ?_
    refine sp_12 (i := v3236) hP rfl (by omega) (by omega) (fun r3238 p3239 p3240 => ?_)
    show bh_G E FIN ((19, 215, lv, [.int r3238], 0, 0) :: gs, _, none)
    refine bh_cs (pc' := 218) (st := []) (args := [.int r3238]) bt_19_215 rfl rfl (by decide) (by omega) rfl (Nat.le_of_ble_eq_true rfl) (Nat.le_of_ble_eq_true rfl) ?_
    refine sp_48 (c := r3238) (fun r3241 p3242 p3243 p3244 => ?_)
    show bh_G E FIN ((19, 218, lv, [.int r3241], 0, 0) :: gs, _, none)
    refine bh_i0 (pc' := 221) (pt := 250) bt_19_218 rfl rfl (fun k3245 => ?_) (fun k3245 => ?_)
    · replace k3245 : (r3241).toInt = 0 := k3245
      exact kk _ _ _ _ g0 g1 g3 g4 (by omega) (by omega)
    · replace k3245 : ¬ ((r3241).toInt = 0) := k3245
      refine bh_ld (pc' := 222) bt_19_221 rfl rfl (fun _ _ _ => rfl) g3 rfl ?_
      refine bh_c (pc' := 223) (n := 4) bt_19_222 rfl rfl (fun _ _ _ => rfl) (by decide) (fun c3246 e3247 => ?_)
      refine bh_ic (pc' := 226) (pt := 244) bt_19_223 rfl rfl (fun k3248 => ?_) (fun k3248 => ?_)
      · replace k3248 : (c3246).toInt ≤ (n).toInt := k3248
        refine bh_inc (pc' := 247) bt_19_244 rfl (by decide) g3 (by decide) (by omega) (by omega) (fun lv3249 y3252 F3250 g3251 e3253 => ?_)
        have g3254 := F3250 0 (.ref (E.1 + 88)) g0 (by decide) (Or.inl rfl)
        have g3255 := F3250 1 (.int i) g1 (by decide) (Or.inl rfl)
        have g3256 := F3250 4 (.int x) g4 (by decide) (Or.inl rfl)
        refine bh_go (pc' := 208) bt_19_247 rfl ?_
        exact ih _ _ _ _ g3254 g3255 g3251 g3256 (by omega) (by omega) (by omega) kk
      · replace k3248 : ¬ ((c3246).toInt ≤ (n).toInt) := k3248
        refine bh_c (pc' := 228) (n := 10) bt_19_226 rfl rfl (fun _ _ _ => rfl) (by decide) (fun c3257 e3258 => ?_)
        refine bh_ld (pc' := 230) bt_19_228 rfl rfl (fun _ _ _ => rfl) g4 rfl ?_
        refine bh_mulA (pc' := 231) bt_19_230 rfl (fun v3259 => ?_)
        refine bh_ld (pc' := 232) bt_19_231 rfl rfl (fun _ _ _ => rfl) g0 rfl ?_
        refine bh_ld (pc' := 233) bt_19_232 rfl rfl (fun _ _ _ => rfl) g1 rfl ?_
        refine bh_ld (pc' := 234) bt_19_233 rfl rfl (fun _ _ _ => rfl) g3 rfl ?_
        refine bh_add (pc' := 235) bt_19_234 rfl (by omega) (by omega) (fun v3261 e3262 => ?_)
        refine bh_cv (pc' := 238) (st := [.int v3259]) (args := [.int v3261]) bt_19_235 rfl rfl (by decide) hP (by omega) rfl (Nat.le_of_ble_eq_true rfl) (Nat.le_of_ble_eq_true rfl) ?_
        refine sp_12 (i := v3261) hP rfl (by omega) (by omega) (fun r3263 p3264 p3265 => ?_)
        show bh_G E FIN ((19, 238, lv, [.int r3263, .int v3259], 0, 0) :: gs, _, none)
        refine bh_addA (pc' := 239) bt_19_238 rfl (fun v3266 => ?_)
        refine bh_c (pc' := 241) (n := 48) bt_19_239 rfl rfl (fun _ _ _ => rfl) (by decide) (fun c3268 e3269 => ?_)
        refine bh_subA (pc' := 242) bt_19_241 rfl (fun v3270 => ?_)
        refine bh_st (pc' := 244) bt_19_242 rfl rfl (fun _ _ _ => rfl) rfl (by decide) (by decide) (fun lv3272 F3273 g3274 => ?_)
        have g3275 := F3273 0 (.ref (E.1 + 88)) g0 (by decide) (Or.inl rfl)
        have g3276 := F3273 1 (.int i) g1 (by decide) (Or.inl rfl)
        have g3277 := F3273 3 (.int n) g3 (by decide) (Or.inl rfl)
        refine bh_inc (pc' := 247) bt_19_244 rfl (by decide) g3277 (by decide) (by omega) (by omega) (fun lv3278 y3281 F3279 g3280 e3282 => ?_)
        have g3283 := F3279 0 (.ref (E.1 + 88)) g3275 (by decide) (Or.inl rfl)
        have g3284 := F3279 1 (.int i) g3276 (by decide) (Or.inl rfl)
        have g3285 := F3279 4 (.int v3270) g3274 (by decide) (Or.inl rfl)
        refine bh_go (pc' := 208) bt_19_247 rfl ?_
        exact ih _ _ _ _ g3283 g3284 g3280 g3285 (by omega) (by omega) (by omega) kk
set_option maxHeartbeats 40000000 in
theorem rd_key (hP : bh_P bx_T E h0 h s A L) {i n : Int32} {x : Int64} : ∀ N : Nat, ∀ (lv : mm_V) (o : Option Value) (k q : Int32), mm_get lv 0 = some (.ref (E.1 + 88)) → mm_get lv 1 = some (.int i) → mm_get lv 3 = some (.int n) → mm_get lv 4 = some (.long x) → mm_get lv 6 = some (.int k) → mm_get lv 7 = some (.int q) → 0 ≤ k.toInt → k.toInt ≤ 43 → 0 ≤ q.toInt → q.toInt ≤ 24 → 24 - q.toInt < N → (∀ (lv : mm_V) (o : Option Value) (k : Int32), mm_get lv 0 = some (.ref (E.1 + 88)) → mm_get lv 1 = some (.int i) → mm_get lv 3 = some (.int n) → mm_get lv 4 = some (.long x) → mm_get lv 6 = some (.int k) → 0 ≤ k.toInt → k.toInt ≤ 43 → bh_G E FIN ((19, 179, lv, [], 0, 0) :: gs, h, o)) → bh_G E FIN ((19, 146, lv, [], 0, 0) :: gs, h, o) := by
  intro N
  induction N with
  | zero =>
    intro lv o k q g0 g1 g3 g4 g6 g7 k0 k1 q0 q1 hN kk
    refine bh_ld (pc' := 148) bt_19_146 rfl rfl (fun _ _ _ => rfl) g7 rfl ?_
    refine bh_c (pc' := 150) (n := 24) bt_19_148 rfl rfl (fun _ _ _ => rfl) (by decide) (fun c3286 e3287 => ?_)
    refine bh_ic (pc' := 153) (pt := 179) bt_19_150 rfl rfl (fun k3288 => ?_) (fun k3288 => ?_)
    · replace k3288 : (c3286).toInt ≤ (q).toInt := k3288
      exact kk _ _ _ g0 g1 g3 g4 g6 (by omega) (by omega)
    · replace k3288 : ¬ ((c3286).toInt ≤ (q).toInt) := k3288
      refine bh_ld (pc' := 154) bt_19_153 rfl rfl (fun _ _ _ => rfl) g0 rfl ?_
      refine bh_gr (pc' := 157) (c := 95) bt_19_154 rfl rfl (fun _ _ _ => rfl) hP bx_r9 ?_
      refine bh_ld (pc' := 159) bt_19_157 rfl rfl (fun _ _ _ => rfl) g7 rfl ?_
      refine bh_la (pc' := 160) bt_19_159 rfl rfl (fun _ _ _ => rfl) hP bx_l95 (by omega) (by omega) (fun x3289 => ?_)
      refine bh_ld (pc' := 162) bt_19_160 rfl rfl (fun _ _ _ => rfl) g4 rfl ?_
      refine bh_lcmp (pc' := 163) bt_19_162 rfl (fun v3290 => ?_)
      refine bh_i0 (pc' := 166) (pt := 173) bt_19_163 rfl rfl (fun k3291 => ?_) (fun k3291 => ?_)
      · replace k3291 : (v3290).toInt ≠ 0 := k3291
        refine bh_inc (pc' := 176) bt_19_173 rfl (by decide) g7 (by decide) (by omega) (by omega) (fun lv3292 y3295 F3293 g3294 e3296 => ?_)
        have g3297 := F3293 0 (.ref (E.1 + 88)) g0 (by decide) (Or.inl rfl)
        have g3298 := F3293 1 (.int i) g1 (by decide) (Or.inl rfl)
        have g3299 := F3293 3 (.int n) g3 (by decide) (Or.inl rfl)
        have g3300 := F3293 4 (.long x) g4 (by decide) (Or.inr (by decide))
        have g3301 := F3293 6 (.int k) g6 (by decide) (Or.inl rfl)
        refine bh_go (pc' := 146) bt_19_176 rfl ?_
        exfalso
        omega
      · replace k3291 : ¬ ((v3290).toInt ≠ 0) := k3291
        refine bh_c (pc' := 168) (n := 20) bt_19_166 rfl rfl (fun _ _ _ => rfl) (by decide) (fun c3302 e3303 => ?_)
        refine bh_ld (pc' := 170) bt_19_168 rfl rfl (fun _ _ _ => rfl) g7 rfl ?_
        refine bh_add (pc' := 171) bt_19_170 rfl (by omega) (by omega) (fun v3304 e3305 => ?_)
        refine bh_st (pc' := 173) bt_19_171 rfl rfl (fun _ _ _ => rfl) rfl (by decide) (by decide) (fun lv3306 F3307 g3308 => ?_)
        have g3309 := F3307 0 (.ref (E.1 + 88)) g0 (by decide) (Or.inl rfl)
        have g3310 := F3307 1 (.int i) g1 (by decide) (Or.inl rfl)
        have g3311 := F3307 3 (.int n) g3 (by decide) (Or.inl rfl)
        have g3312 := F3307 4 (.long x) g4 (by decide) (Or.inr (by decide))
        have g3313 := F3307 7 (.int q) g7 (by decide) (Or.inl rfl)
        refine bh_inc (pc' := 176) bt_19_173 rfl (by decide) g3313 (by decide) (by omega) (by omega) (fun lv3314 y3317 F3315 g3316 e3318 => ?_)
        have g3319 := F3315 0 (.ref (E.1 + 88)) g3309 (by decide) (Or.inl rfl)
        have g3320 := F3315 1 (.int i) g3310 (by decide) (Or.inl rfl)
        have g3321 := F3315 3 (.int n) g3311 (by decide) (Or.inl rfl)
        have g3322 := F3315 4 (.long x) g3312 (by decide) (Or.inr (by decide))
        have g3323 := F3315 6 (.int v3304) g3308 (by decide) (Or.inl rfl)
        refine bh_go (pc' := 146) bt_19_176 rfl ?_
        exfalso
        omega
  | succ N ih =>
    intro lv o k q g0 g1 g3 g4 g6 g7 k0 k1 q0 q1 hN kk
    refine bh_ld (pc' := 148) bt_19_146 rfl rfl (fun _ _ _ => rfl) g7 rfl ?_
    refine bh_c (pc' := 150) (n := 24) bt_19_148 rfl rfl (fun _ _ _ => rfl) (by decide) (fun c3324 e3325 => ?_)
    refine bh_ic (pc' := 153) (pt := 179) bt_19_150 rfl rfl (fun k3326 => ?_) (fun k3326 => ?_)
    · replace k3326 : (c3324).toInt ≤ (q).toInt := k3326
      exact kk _ _ _ g0 g1 g3 g4 g6 (by omega) (by omega)
    · replace k3326 : ¬ ((c3324).toInt ≤ (q).toInt) := k3326
      refine bh_ld (pc' := 154) bt_19_153 rfl rfl (fun _ _ _ => rfl) g0 rfl ?_
      refine bh_gr (pc' := 157) (c := 95) bt_19_154 rfl rfl (fun _ _ _ => rfl) hP bx_r9 ?_
      refine bh_ld (pc' := 159) bt_19_157 rfl rfl (fun _ _ _ => rfl) g7 rfl ?_
      refine bh_la (pc' := 160) bt_19_159 rfl rfl (fun _ _ _ => rfl) hP bx_l95 (by omega) (by omega) (fun x3327 => ?_)
      refine bh_ld (pc' := 162) bt_19_160 rfl rfl (fun _ _ _ => rfl) g4 rfl ?_
      refine bh_lcmp (pc' := 163) bt_19_162 rfl (fun v3328 => ?_)
      refine bh_i0 (pc' := 166) (pt := 173) bt_19_163 rfl rfl (fun k3329 => ?_) (fun k3329 => ?_)
      · replace k3329 : (v3328).toInt ≠ 0 := k3329
        refine bh_inc (pc' := 176) bt_19_173 rfl (by decide) g7 (by decide) (by omega) (by omega) (fun lv3330 y3333 F3331 g3332 e3334 => ?_)
        have g3335 := F3331 0 (.ref (E.1 + 88)) g0 (by decide) (Or.inl rfl)
        have g3336 := F3331 1 (.int i) g1 (by decide) (Or.inl rfl)
        have g3337 := F3331 3 (.int n) g3 (by decide) (Or.inl rfl)
        have g3338 := F3331 4 (.long x) g4 (by decide) (Or.inr (by decide))
        have g3339 := F3331 6 (.int k) g6 (by decide) (Or.inl rfl)
        refine bh_go (pc' := 146) bt_19_176 rfl ?_
        exact ih _ _ _ _ g3335 g3336 g3337 g3338 g3339 g3332 (by omega) (by omega) (by omega) (by omega) (by omega) kk
      · replace k3329 : ¬ ((v3328).toInt ≠ 0) := k3329
        refine bh_c (pc' := 168) (n := 20) bt_19_166 rfl rfl (fun _ _ _ => rfl) (by decide) (fun c3340 e3341 => ?_)
        refine bh_ld (pc' := 170) bt_19_168 rfl rfl (fun _ _ _ => rfl) g7 rfl ?_
        refine bh_add (pc' := 171) bt_19_170 rfl (by omega) (by omega) (fun v3342 e3343 => ?_)
        refine bh_st (pc' := 173) bt_19_171 rfl rfl (fun _ _ _ => rfl) rfl (by decide) (by decide) (fun lv3344 F3345 g3346 => ?_)
        have g3347 := F3345 0 (.ref (E.1 + 88)) g0 (by decide) (Or.inl rfl)
        have g3348 := F3345 1 (.int i) g1 (by decide) (Or.inl rfl)
        have g3349 := F3345 3 (.int n) g3 (by decide) (Or.inl rfl)
        have g3350 := F3345 4 (.long x) g4 (by decide) (Or.inr (by decide))
        have g3351 := F3345 7 (.int q) g7 (by decide) (Or.inl rfl)
        refine bh_inc (pc' := 176) bt_19_173 rfl (by decide) g3351 (by decide) (by omega) (by omega) (fun lv3352 y3355 F3353 g3354 e3356 => ?_)
        have g3357 := F3353 0 (.ref (E.1 + 88)) g3347 (by decide) (Or.inl rfl)
        have g3358 := F3353 1 (.int i) g3348 (by decide) (Or.inl rfl)
        have g3359 := F3353 3 (.int n) g3349 (by decide) (Or.inl rfl)
        have g3360 := F3353 4 (.long x) g3350 (by decide) (Or.inr (by decide))
        have g3361 := F3353 6 (.int v3342) g3346 (by decide) (Or.inl rfl)
        refine bh_go (pc' := 146) bt_19_176 rfl ?_
        exact ih _ _ _ _ g3357 g3358 g3359 g3360 g3361 g3354 (by omega) (by omega) (by omega) (by omega) (by omega) kk
set_option maxHeartbeats 40000000 in
theorem rd_cut (hd : gs.length + 2 ≤ 999) : ∀ N : Nat, ∀ (h : mm_H) (s : Nat → Int32) (A : Nat → Nat → Int32) (L : Nat → Nat → Int64) (lv : mm_V) (o : Option Value) (i : Int32), bh_P bx_T E h0 h s A L → mm_get lv 0 = some (.ref (E.1 + 88)) → mm_get lv 1 = some (.int i) → (∀ j, j < 403 → 0 ≤ (A 91 j).toInt ∧ (A 91 j).toInt ≤ 43) → 0 ≤ i.toInt → i.toInt ≤ (s 4).toInt → (s 4).toInt ≤ 2000 → 0 ≤ (s 10).toInt → (s 10).toInt ≤ 401 → (s 4).toInt - i.toInt < N → (∀ (h' : mm_H) (s' : Nat → Int32) (A' : Nat → Nat → Int32) (L' : Nat → Nat → Int64), bh_P bx_T E h0 h' s' A' L' → (∀ j, j ≠ 10 → s' j = s j) → (∀ k j, (k < 91 ∨ 93 < k) → A' k j = A k j) → (∀ j, j < 403 → 0 ≤ (A' 91 j).toInt ∧ (A' 91 j).toInt ≤ 43) → (0 ≤ (s' 10).toInt ∧ (s' 10).toInt ≤ 401) → bh_G E FIN (mm_back none gs h')) → bh_G E FIN ((19, 7, lv, [], 0, 0) :: gs, h, o) := by
  intro N
  induction N with
  | zero =>
    intro h s A L lv o i hP g0 g1 hq i0 i1 z2 t0 t1 hN kk
    exfalso
    omega
  | succ N ih =>
    intro h s A L lv o i hP g0 g1 hq i0 i1 z2 t0 t1 hN kk
    refine bh_ld (pc' := 8) bt_19_7 rfl rfl (fun _ _ _ => rfl) g0 rfl ?_
    refine bh_gi (pc' := 11) bt_19_8 rfl rfl (fun _ _ _ => rfl) hP bx_i10 rfl ?_
    refine bh_c (pc' := 14) (n := 400) bt_19_11 rfl rfl (fun _ _ _ => rfl) (by decide) (fun c3362 e3363 => ?_)
    refine bh_ic (pc' := 17) (pt := 294) bt_19_14 rfl rfl (fun k3364 => ?_) (fun k3364 => ?_)
    · replace k3364 : (c3362).toInt < ((s 10)).toInt := k3364
      refine bh_rv bt_19_294 ?_
      exact kk _ _ _ _ hP (fun j j10 => rfl) (fun k j u => rfl) hq (by omega)
    · replace k3364 : ¬ ((c3362).toInt < ((s 10)).toInt) := k3364
      refine bh_ld (pc' := 18) bt_19_17 rfl rfl (fun _ _ _ => rfl) g0 rfl ?_
      refine bh_ld (pc' := 19) bt_19_18 rfl rfl (fun _ _ _ => rfl) g1 rfl ?_
      refine bh_cv (pc' := 22) (st := []) (args := [.int i]) bt_19_19 rfl rfl (by decide) hP (by omega) rfl (Nat.le_of_ble_eq_true rfl) (Nat.le_of_ble_eq_true rfl) ?_
      refine sp_12 (i := i) hP rfl (by omega) (by omega) (fun r3365 p3366 p3367 => ?_)
      show bh_G E FIN ((19, 22, lv, [.int r3365], 0, 0) :: gs, _, none)
      refine bh_st (pc' := 23) bt_19_22 rfl rfl (fun _ _ _ => rfl) rfl (by decide) (by decide) (fun lv3368 F3369 g3370 => ?_)
      have g3371 := F3369 0 (.ref (E.1 + 88)) g0 (by decide) (Or.inl rfl)
      have g3372 := F3369 1 (.int i) g1 (by decide) (Or.inl rfl)
      refine bh_ld (pc' := 24) bt_19_23 rfl rfl (fun _ _ _ => rfl) g3372 rfl ?_
      refine bh_ld (pc' := 25) bt_19_24 rfl rfl (fun _ _ _ => rfl) g3371 rfl ?_
      refine bh_gi (pc' := 28) bt_19_25 rfl rfl (fun _ _ _ => rfl) hP bx_i4 rfl ?_
      refine bh_ic (pc' := 31) (pt := 43) bt_19_28 rfl rfl (fun k3373 => ?_) (fun k3373 => ?_)
      · replace k3373 : (i).toInt < ((s 4)).toInt := k3373
        refine bh_ld (pc' := 44) bt_19_43 rfl rfl (fun _ _ _ => rfl) g3370 rfl ?_
        refine bh_c (pc' := 46) (n := 9) bt_19_44 rfl rfl (fun _ _ _ => rfl) (by decide) (fun c3374 e3375 => ?_)
        refine bh_ic (pc' := 49) (pt := 67) bt_19_46 rfl rfl (fun k3376 => ?_) (fun k3376 => ?_)
        · replace k3376 : (r3365).toInt = (c3374).toInt := k3376
          refine bh_inc (pc' := 70) bt_19_67 rfl (by decide) g3372 (by decide) (by omega) (by omega) (fun lv3377 y3380 F3378 g3379 e3381 => ?_)
          have g3382 := F3378 0 (.ref (E.1 + 88)) g3371 (by decide) (Or.inl rfl)
          have g3383 := F3378 2 (.int r3365) g3370 (by decide) (Or.inl rfl)
          refine bh_go (pc' := 291) bt_19_70 rfl ?_
          refine bh_go (pc' := 7) bt_19_291 rfl ?_
          exact ih _ _ _ _ _ _ _ hP g3382 g3379 hq (by omega) (by omega) (by omega) (by omega) (by omega) (by omega) (fun h' s' A' L' hP' f' a' q' p' => kk h' s' A' L' hP' (fun j j10 => (f' j j10).trans ((fun j j10 => rfl) j j10)) (fun k j u => (a' k j u).trans (rfl)) q' p')
        · replace k3376 : ¬ ((r3365).toInt = (c3374).toInt) := k3376
          refine bh_ld (pc' := 50) bt_19_49 rfl rfl (fun _ _ _ => rfl) g3370 rfl ?_
          refine bh_c (pc' := 52) (n := 10) bt_19_50 rfl rfl (fun _ _ _ => rfl) (by decide) (fun c3384 e3385 => ?_)
          refine bh_ic (pc' := 55) (pt := 67) bt_19_52 rfl rfl (fun k3386 => ?_) (fun k3386 => ?_)
          · replace k3386 : (r3365).toInt = (c3384).toInt := k3386
            refine bh_inc (pc' := 70) bt_19_67 rfl (by decide) g3372 (by decide) (by omega) (by omega) (fun lv3387 y3390 F3388 g3389 e3391 => ?_)
            have g3392 := F3388 0 (.ref (E.1 + 88)) g3371 (by decide) (Or.inl rfl)
            have g3393 := F3388 2 (.int r3365) g3370 (by decide) (Or.inl rfl)
            refine bh_go (pc' := 291) bt_19_70 rfl ?_
            refine bh_go (pc' := 7) bt_19_291 rfl ?_
            exact ih _ _ _ _ _ _ _ hP g3392 g3389 hq (by omega) (by omega) (by omega) (by omega) (by omega) (by omega) (fun h' s' A' L' hP' f' a' q' p' => kk h' s' A' L' hP' (fun j j10 => (f' j j10).trans ((fun j j10 => rfl) j j10)) (fun k j u => (a' k j u).trans (rfl)) q' p')
          · replace k3386 : ¬ ((r3365).toInt = (c3384).toInt) := k3386
            refine bh_ld (pc' := 56) bt_19_55 rfl rfl (fun _ _ _ => rfl) g3370 rfl ?_
            refine bh_c (pc' := 58) (n := 13) bt_19_56 rfl rfl (fun _ _ _ => rfl) (by decide) (fun c3394 e3395 => ?_)
            refine bh_ic (pc' := 61) (pt := 67) bt_19_58 rfl rfl (fun k3396 => ?_) (fun k3396 => ?_)
            · replace k3396 : (r3365).toInt = (c3394).toInt := k3396
              refine bh_inc (pc' := 70) bt_19_67 rfl (by decide) g3372 (by decide) (by omega) (by omega) (fun lv3397 y3400 F3398 g3399 e3401 => ?_)
              have g3402 := F3398 0 (.ref (E.1 + 88)) g3371 (by decide) (Or.inl rfl)
              have g3403 := F3398 2 (.int r3365) g3370 (by decide) (Or.inl rfl)
              refine bh_go (pc' := 291) bt_19_70 rfl ?_
              refine bh_go (pc' := 7) bt_19_291 rfl ?_
              exact ih _ _ _ _ _ _ _ hP g3402 g3399 hq (by omega) (by omega) (by omega) (by omega) (by omega) (by omega) (fun h' s' A' L' hP' f' a' q' p' => kk h' s' A' L' hP' (fun j j10 => (f' j j10).trans ((fun j j10 => rfl) j j10)) (fun k j u => (a' k j u).trans (rfl)) q' p')
            · replace k3396 : ¬ ((r3365).toInt = (c3394).toInt) := k3396
              refine bh_ld (pc' := 62) bt_19_61 rfl rfl (fun _ _ _ => rfl) g3370 rfl ?_
              refine bh_c (pc' := 64) (n := 32) bt_19_62 rfl rfl (fun _ _ _ => rfl) (by decide) (fun c3404 e3405 => ?_)
              refine bh_ic (pc' := 67) (pt := 73) bt_19_64 rfl rfl (fun k3406 => ?_) (fun k3406 => ?_)
              · replace k3406 : (r3365).toInt ≠ (c3404).toInt := k3406
                refine bh_ld (pc' := 74) bt_19_73 rfl rfl (fun _ _ _ => rfl) g3370 rfl ?_
                refine bh_cs (pc' := 77) (st := []) (args := [.int r3365]) bt_19_74 rfl rfl (by decide) (by omega) rfl (Nat.le_of_ble_eq_true rfl) (Nat.le_of_ble_eq_true rfl) ?_
                refine sp_50 (c := r3365) (fun r3407 p3408 p3409 p3410 => ?_)
                show bh_G E FIN ((19, 77, lv3368, [.int r3407], 0, 0) :: gs, _, none)
                refine bh_i0 (pc' := 80) (pt := 196) bt_19_77 rfl rfl (fun k3411 => ?_) (fun k3411 => ?_)
                · replace k3411 : (r3407).toInt = 0 := k3411
                  refine bh_ld (pc' := 197) bt_19_196 rfl rfl (fun _ _ _ => rfl) g3370 rfl ?_
                  refine bh_cs (pc' := 200) (st := []) (args := [.int r3365]) bt_19_197 rfl rfl (by decide) (by omega) rfl (Nat.le_of_ble_eq_true rfl) (Nat.le_of_ble_eq_true rfl) ?_
                  refine sp_48 (c := r3365) (fun r3412 p3413 p3414 p3415 => ?_)
                  show bh_G E FIN ((19, 200, lv3368, [.int r3412], 0, 0) :: gs, _, none)
                  refine bh_i0 (pc' := 203) (pt := 275) bt_19_200 rfl rfl (fun k3416 => ?_) (fun k3416 => ?_)
                  · replace k3416 : (r3412).toInt = 0 := k3416
                    refine bh_ld (pc' := 276) bt_19_275 rfl rfl (fun _ _ _ => rfl) g3372 rfl ?_
                    refine bh_ld (pc' := 277) bt_19_276 rfl rfl (fun _ _ _ => rfl) g3371 rfl ?_
                    refine bh_ld (pc' := 278) bt_19_277 rfl rfl (fun _ _ _ => rfl) g3372 rfl ?_
                    refine bh_ld (pc' := 279) bt_19_278 rfl rfl (fun _ _ _ => rfl) g3370 rfl ?_
                    refine bh_ld (pc' := 280) bt_19_279 rfl rfl (fun _ _ _ => rfl) g3371 rfl ?_
                    refine bh_ld (pc' := 281) bt_19_280 rfl rfl (fun _ _ _ => rfl) g3372 rfl ?_
                    refine bh_c (pc' := 282) (n := 1) bt_19_281 rfl rfl (fun _ _ _ => rfl) (by decide) (fun c3417 e3418 => ?_)
                    refine bh_add (pc' := 283) bt_19_282 rfl (by omega) (by omega) (fun v3419 e3420 => ?_)
                    refine bh_cv (pc' := 286) (st := [.int r3365, .int i, .ref (E.1 + 88), .int i]) (args := [.int v3419]) bt_19_283 rfl rfl (by decide) hP (by omega) rfl (Nat.le_of_ble_eq_true rfl) (Nat.le_of_ble_eq_true rfl) ?_
                    refine sp_12 (i := v3419) hP rfl (by omega) (by omega) (fun r3421 p3422 p3423 => ?_)
                    show bh_G E FIN ((19, 286, lv3368, [.int r3421, .int r3365, .int i, .ref (E.1 + 88), .int i], 0, 0) :: gs, _, none)
                    refine bh_cv (pc' := 289) (st := [.int i]) (args := [.int r3421, .int r3365, .int i]) bt_19_286 rfl rfl (by decide) hP (by omega) rfl (Nat.le_of_ble_eq_true rfl) (Nat.le_of_ble_eq_true rfl) ?_
                    refine sp_89 (i := i) (c := r3365) (d := r3421) hP (by simp only [List.length_cons]; omega) rfl (by omega) (by omega) hq (fun h3424 s3425 A3426 L3427 r3428 hP3429 f3430 a3431 q3432 p3433 p3434 => ?_)
                    show bh_G E FIN ((19, 289, lv3368, [.int r3428, .int i], 0, 0) :: gs, _, none)
                    refine bh_add (pc' := 290) bt_19_289 rfl (by omega) (by omega) (fun v3435 e3436 => ?_)
                    refine bh_st (pc' := 291) bt_19_290 rfl rfl (fun _ _ _ => rfl) rfl (by decide) (by decide) (fun lv3437 F3438 g3439 => ?_)
                    have g3440 := F3438 0 (.ref (E.1 + 88)) g3371 (by decide) (Or.inl rfl)
                    have g3441 := F3438 2 (.int r3365) g3370 (by decide) (Or.inl rfl)
                    refine bh_go (pc' := 7) bt_19_291 rfl ?_
                    have z4 := congrArg Int32.toInt (f3430 4 (by decide))
                    exact ih _ _ _ _ _ _ _ hP3429 g3440 g3439 q3432 (by omega) (by omega) (by omega) (by omega) (by omega) (by omega) (fun h' s' A' L' hP' f' a' q' p' => kk h' s' A' L' hP' (fun j j10 => (f' j j10).trans ((fun j j10 => (f3430 j j10)) j j10)) (fun k j u => (a' k j u).trans ((a3431 k j u))) q' p')
                  · replace k3416 : ¬ ((r3412).toInt = 0) := k3416
                    refine bh_c (pc' := 204) (n := 0) bt_19_203 rfl rfl (fun _ _ _ => rfl) (by decide) (fun c3442 e3443 => ?_)
                    refine bh_st (pc' := 205) bt_19_204 rfl rfl (fun _ _ _ => rfl) rfl (by decide) (by decide) (fun lv3444 F3445 g3446 => ?_)
                    have g3447 := F3445 0 (.ref (E.1 + 88)) g3371 (by decide) (Or.inl rfl)
                    have g3448 := F3445 1 (.int i) g3372 (by decide) (Or.inl rfl)
                    have g3449 := F3445 2 (.int r3365) g3370 (by decide) (Or.inl rfl)
                    refine bh_c (pc' := 206) (n := 0) bt_19_205 rfl rfl (fun _ _ _ => rfl) (by decide) (fun c3450 e3451 => ?_)
                    refine bh_st (pc' := 208) bt_19_206 rfl rfl (fun _ _ _ => rfl) rfl (by decide) (by decide) (fun lv3452 F3453 g3454 => ?_)
                    have g3455 := F3453 0 (.ref (E.1 + 88)) g3447 (by decide) (Or.inl rfl)
                    have g3456 := F3453 1 (.int i) g3448 (by decide) (Or.inl rfl)
                    have g3457 := F3453 2 (.int r3365) g3449 (by decide) (Or.inl rfl)
                    have g3458 := F3453 3 (.int c3442) g3446 (by decide) (Or.inl rfl)
                    refine rd_dig hP (by omega) (by omega) (by omega) (by omega) (by omega) 2001 _ _ _ _ g3455 g3456 g3458 g3454 (by omega) (by omega) (by omega) (fun lv3459 o3460 n3461 x3462 g3463 g3464 g3465 g3466 p3467 p3468 => ?_)
                    refine bh_ld (pc' := 251) bt_19_250 rfl rfl (fun _ _ _ => rfl) g3463 rfl ?_
                    refine bh_ld (pc' := 252) bt_19_251 rfl rfl (fun _ _ _ => rfl) g3465 rfl ?_
                    refine bh_c (pc' := 253) (n := 4) bt_19_252 rfl rfl (fun _ _ _ => rfl) (by decide) (fun c3469 e3470 => ?_)
                    refine bh_ic (pc' := 256) (pt := 260) bt_19_253 rfl rfl (fun k3471 => ?_) (fun k3471 => ?_)
                    · replace k3471 : (n3461).toInt ≤ (c3469).toInt := k3471
                      refine bh_c (pc' := 261) (n := 2) bt_19_260 rfl rfl (fun _ _ _ => rfl) (by decide) (fun c3472 e3473 => ?_)
                      refine bh_ld (pc' := 262) bt_19_261 rfl rfl (fun _ _ _ => rfl) g3464 rfl ?_
                      refine bh_ld (pc' := 264) bt_19_262 rfl rfl (fun _ _ _ => rfl) g3466 rfl ?_
                      refine bh_cL (pc' := 265) bt_19_264 rfl rfl (fun _ _ _ => rfl) (fun x3474 => ?_)
                      refine bh_cv (pc' := 268) (st := []) (args := [.long x3474, .int x3462, .int i, .int c3472]) bt_19_265 rfl rfl (by decide) hP (by omega) rfl (Nat.le_of_ble_eq_true rfl) (Nat.le_of_ble_eq_true rfl) ?_
                      refine sp_103 (k := c3472) (w := i) (v := x3462) (x := x3474) hP rfl (by omega) (by omega) (by omega) (by omega) hq (fun h3475 s3476 A3477 L3478 hP3479 f3480 a3481 q3482 p3483 => ?_)
                      show bh_G E FIN ((19, 268, lv3459, [], 0, 0) :: gs, _, none)
                      refine bh_ld (pc' := 269) bt_19_268 rfl rfl (fun _ _ _ => rfl) g3464 rfl ?_
                      refine bh_ld (pc' := 270) bt_19_269 rfl rfl (fun _ _ _ => rfl) g3465 rfl ?_
                      refine bh_add (pc' := 271) bt_19_270 rfl (by omega) (by omega) (fun v3484 e3485 => ?_)
                      refine bh_st (pc' := 272) bt_19_271 rfl rfl (fun _ _ _ => rfl) rfl (by decide) (by decide) (fun lv3486 F3487 g3488 => ?_)
                      have g3489 := F3487 0 (.ref (E.1 + 88)) g3463 (by decide) (Or.inl rfl)
                      have g3490 := F3487 3 (.int n3461) g3465 (by decide) (Or.inl rfl)
                      have g3491 := F3487 4 (.int x3462) g3466 (by decide) (Or.inl rfl)
                      refine bh_go (pc' := 291) bt_19_272 rfl ?_
                      refine bh_go (pc' := 7) bt_19_291 rfl ?_
                      have z4 := congrArg Int32.toInt (f3480 4 (by decide))
                      exact ih _ _ _ _ _ _ _ hP3479 g3489 g3488 q3482 (by omega) (by omega) (by omega) (by omega) (by omega) (by omega) (fun h' s' A' L' hP' f' a' q' p' => kk h' s' A' L' hP' (fun j j10 => (f' j j10).trans ((fun j j10 => (f3480 j j10)) j j10)) (fun k j u => (a' k j u).trans ((a3481 k j u))) q' p')
                    · replace k3471 : ¬ ((n3461).toInt ≤ (c3469).toInt) := k3471
                      refine bh_c (pc' := 257) (n := 3) bt_19_256 rfl rfl (fun _ _ _ => rfl) (by decide) (fun c3492 e3493 => ?_)
                      refine bh_go (pc' := 261) bt_19_257 rfl ?_
                      refine bh_ld (pc' := 262) bt_19_261 rfl rfl (fun _ _ _ => rfl) g3464 rfl ?_
                      refine bh_ld (pc' := 264) bt_19_262 rfl rfl (fun _ _ _ => rfl) g3466 rfl ?_
                      refine bh_cL (pc' := 265) bt_19_264 rfl rfl (fun _ _ _ => rfl) (fun x3494 => ?_)
                      refine bh_cv (pc' := 268) (st := []) (args := [.long x3494, .int x3462, .int i, .int c3492]) bt_19_265 rfl rfl (by decide) hP (by omega) rfl (Nat.le_of_ble_eq_true rfl) (Nat.le_of_ble_eq_true rfl) ?_
                      refine sp_103 (k := c3492) (w := i) (v := x3462) (x := x3494) hP rfl (by omega) (by omega) (by omega) (by omega) hq (fun h3495 s3496 A3497 L3498 hP3499 f3500 a3501 q3502 p3503 => ?_)
                      show bh_G E FIN ((19, 268, lv3459, [], 0, 0) :: gs, _, none)
                      refine bh_ld (pc' := 269) bt_19_268 rfl rfl (fun _ _ _ => rfl) g3464 rfl ?_
                      refine bh_ld (pc' := 270) bt_19_269 rfl rfl (fun _ _ _ => rfl) g3465 rfl ?_
                      refine bh_add (pc' := 271) bt_19_270 rfl (by omega) (by omega) (fun v3504 e3505 => ?_)
                      refine bh_st (pc' := 272) bt_19_271 rfl rfl (fun _ _ _ => rfl) rfl (by decide) (by decide) (fun lv3506 F3507 g3508 => ?_)
                      have g3509 := F3507 0 (.ref (E.1 + 88)) g3463 (by decide) (Or.inl rfl)
                      have g3510 := F3507 3 (.int n3461) g3465 (by decide) (Or.inl rfl)
                      have g3511 := F3507 4 (.int x3462) g3466 (by decide) (Or.inl rfl)
                      refine bh_go (pc' := 291) bt_19_272 rfl ?_
                      refine bh_go (pc' := 7) bt_19_291 rfl ?_
                      have z4 := congrArg Int32.toInt (f3500 4 (by decide))
                      exact ih _ _ _ _ _ _ _ hP3499 g3509 g3508 q3502 (by omega) (by omega) (by omega) (by omega) (by omega) (by omega) (fun h' s' A' L' hP' f' a' q' p' => kk h' s' A' L' hP' (fun j j10 => (f' j j10).trans ((fun j j10 => (f3500 j j10)) j j10)) (fun k j u => (a' k j u).trans ((a3501 k j u))) q' p')
                · replace k3411 : ¬ ((r3407).toInt = 0) := k3411
                  refine bh_c (pc' := 81) (n := 0) bt_19_80 rfl rfl (fun _ _ _ => rfl) (by decide) (fun c3512 e3513 => ?_)
                  refine bh_st (pc' := 82) bt_19_81 rfl rfl (fun _ _ _ => rfl) rfl (by decide) (by decide) (fun lv3514 F3515 g3516 => ?_)
                  have g3517 := F3515 0 (.ref (E.1 + 88)) g3371 (by decide) (Or.inl rfl)
                  have g3518 := F3515 1 (.int i) g3372 (by decide) (Or.inl rfl)
                  have g3519 := F3515 2 (.int r3365) g3370 (by decide) (Or.inl rfl)
                  refine bh_cL (pc' := 83) bt_19_82 rfl rfl (fun _ _ _ => rfl) (fun x3520 => ?_)
                  refine bh_stL (pc' := 85) bt_19_83 rfl rfl (fun _ _ _ => rfl) (by decide) (fun lv3521 F3522 g3523 => ?_)
                  have g3524 := F3522 0 (.ref (E.1 + 88)) g3517 (by decide) (by decide) (Or.inl rfl)
                  have g3525 := F3522 1 (.int i) g3518 (by decide) (by decide) (Or.inl rfl)
                  have g3526 := F3522 2 (.int r3365) g3519 (by decide) (by decide) (Or.inl rfl)
                  have g3527 := F3522 3 (.int c3512) g3516 (by decide) (by decide) (Or.inl rfl)
                  refine rd_let hP (by omega) (by omega) (by omega) (by omega) (by omega) 2001 _ _ _ _ g3524 g3525 g3527 g3523 (by omega) (by omega) (by omega) (fun lv3528 o3529 n3530 x3531 g3532 g3533 g3534 g3535 p3536 p3537 => ?_)
                  refine bh_ld (pc' := 125) bt_19_124 rfl rfl (fun _ _ _ => rfl) g3534 rfl ?_
                  refine bh_c (pc' := 127) (n := 8) bt_19_125 rfl rfl (fun _ _ _ => rfl) (by decide) (fun c3538 e3539 => ?_)
                  refine bh_ic (pc' := 130) (pt := 134) bt_19_127 rfl rfl (fun k3540 => ?_) (fun k3540 => ?_)
                  · replace k3540 : (n3530).toInt ≤ (c3538).toInt := k3540
                    refine bh_c (pc' := 135) (n := 1) bt_19_134 rfl rfl (fun _ _ _ => rfl) (by decide) (fun c3541 e3542 => ?_)
                    refine bh_st (pc' := 137) bt_19_135 rfl rfl (fun _ _ _ => rfl) rfl (by decide) (by decide) (fun lv3543 F3544 g3545 => ?_)
                    have g3546 := F3544 0 (.ref (E.1 + 88)) g3532 (by decide) (Or.inl rfl)
                    have g3547 := F3544 1 (.int i) g3533 (by decide) (Or.inl rfl)
                    have g3548 := F3544 3 (.int n3530) g3534 (by decide) (Or.inl rfl)
                    have g3549 := F3544 4 (.long x3531) g3535 (by decide) (Or.inr (by decide))
                    refine bh_ld (pc' := 138) bt_19_137 rfl rfl (fun _ _ _ => rfl) g3548 rfl ?_
                    refine bh_c (pc' := 140) (n := 7) bt_19_138 rfl rfl (fun _ _ _ => rfl) (by decide) (fun c3550 e3551 => ?_)
                    refine bh_ic (pc' := 143) (pt := 179) bt_19_140 rfl rfl (fun k3552 => ?_) (fun k3552 => ?_)
                    · replace k3552 : (c3550).toInt < (n3530).toInt := k3552
                      refine bh_ld (pc' := 180) bt_19_179 rfl rfl (fun _ _ _ => rfl) g3546 rfl ?_
                      refine bh_ld (pc' := 182) bt_19_180 rfl rfl (fun _ _ _ => rfl) g3545 rfl ?_
                      refine bh_ld (pc' := 183) bt_19_182 rfl rfl (fun _ _ _ => rfl) g3547 rfl ?_
                      refine bh_c (pc' := 184) (n := 0) bt_19_183 rfl rfl (fun _ _ _ => rfl) (by decide) (fun c3553 e3554 => ?_)
                      refine bh_ld (pc' := 186) bt_19_184 rfl rfl (fun _ _ _ => rfl) g3549 rfl ?_
                      refine bh_cv (pc' := 189) (st := []) (args := [.long x3531, .int c3553, .int i, .int c3541]) bt_19_186 rfl rfl (by decide) hP (by omega) rfl (Nat.le_of_ble_eq_true rfl) (Nat.le_of_ble_eq_true rfl) ?_
                      refine sp_103 (k := c3541) (w := i) (v := c3553) (x := x3531) hP rfl (by omega) (by omega) (by omega) (by omega) hq (fun h3555 s3556 A3557 L3558 hP3559 f3560 a3561 q3562 p3563 => ?_)
                      show bh_G E FIN ((19, 189, lv3543, [], 0, 0) :: gs, _, none)
                      refine bh_ld (pc' := 190) bt_19_189 rfl rfl (fun _ _ _ => rfl) g3547 rfl ?_
                      refine bh_ld (pc' := 191) bt_19_190 rfl rfl (fun _ _ _ => rfl) g3548 rfl ?_
                      refine bh_add (pc' := 192) bt_19_191 rfl (by omega) (by omega) (fun v3564 e3565 => ?_)
                      refine bh_st (pc' := 193) bt_19_192 rfl rfl (fun _ _ _ => rfl) rfl (by decide) (by decide) (fun lv3566 F3567 g3568 => ?_)
                      have g3569 := F3567 0 (.ref (E.1 + 88)) g3546 (by decide) (Or.inl rfl)
                      have g3570 := F3567 3 (.int n3530) g3548 (by decide) (Or.inl rfl)
                      have g3571 := F3567 4 (.long x3531) g3549 (by decide) (Or.inr (by decide))
                      have g3572 := F3567 6 (.int c3541) g3545 (by decide) (Or.inl rfl)
                      refine bh_go (pc' := 291) bt_19_193 rfl ?_
                      refine bh_go (pc' := 7) bt_19_291 rfl ?_
                      have z4 := congrArg Int32.toInt (f3560 4 (by decide))
                      exact ih _ _ _ _ _ _ _ hP3559 g3569 g3568 q3562 (by omega) (by omega) (by omega) (by omega) (by omega) (by omega) (fun h' s' A' L' hP' f' a' q' p' => kk h' s' A' L' hP' (fun j j10 => (f' j j10).trans ((fun j j10 => (f3560 j j10)) j j10)) (fun k j u => (a' k j u).trans ((a3561 k j u))) q' p')
                    · replace k3552 : ¬ ((c3550).toInt < (n3530).toInt) := k3552
                      refine bh_c (pc' := 144) (n := 0) bt_19_143 rfl rfl (fun _ _ _ => rfl) (by decide) (fun c3573 e3574 => ?_)
                      refine bh_st (pc' := 146) bt_19_144 rfl rfl (fun _ _ _ => rfl) rfl (by decide) (by decide) (fun lv3575 F3576 g3577 => ?_)
                      have g3578 := F3576 0 (.ref (E.1 + 88)) g3546 (by decide) (Or.inl rfl)
                      have g3579 := F3576 1 (.int i) g3547 (by decide) (Or.inl rfl)
                      have g3580 := F3576 3 (.int n3530) g3548 (by decide) (Or.inl rfl)
                      have g3581 := F3576 4 (.long x3531) g3549 (by decide) (Or.inr (by decide))
                      have g3582 := F3576 6 (.int c3541) g3545 (by decide) (Or.inl rfl)
                      refine rd_key hP 25 _ _ _ _ g3578 g3579 g3580 g3581 g3582 g3577 (by omega) (by omega) (by omega) (by omega) (by omega) (fun lv3583 o3584 k3585 g3586 g3587 g3588 g3589 g3590 p3591 p3592 => ?_)
                      refine bh_ld (pc' := 180) bt_19_179 rfl rfl (fun _ _ _ => rfl) g3586 rfl ?_
                      refine bh_ld (pc' := 182) bt_19_180 rfl rfl (fun _ _ _ => rfl) g3590 rfl ?_
                      refine bh_ld (pc' := 183) bt_19_182 rfl rfl (fun _ _ _ => rfl) g3587 rfl ?_
                      refine bh_c (pc' := 184) (n := 0) bt_19_183 rfl rfl (fun _ _ _ => rfl) (by decide) (fun c3593 e3594 => ?_)
                      refine bh_ld (pc' := 186) bt_19_184 rfl rfl (fun _ _ _ => rfl) g3589 rfl ?_
                      refine bh_cv (pc' := 189) (st := []) (args := [.long x3531, .int c3593, .int i, .int k3585]) bt_19_186 rfl rfl (by decide) hP (by omega) rfl (Nat.le_of_ble_eq_true rfl) (Nat.le_of_ble_eq_true rfl) ?_
                      refine sp_103 (k := k3585) (w := i) (v := c3593) (x := x3531) hP rfl (by omega) (by omega) (by omega) (by omega) hq (fun h3595 s3596 A3597 L3598 hP3599 f3600 a3601 q3602 p3603 => ?_)
                      show bh_G E FIN ((19, 189, lv3583, [], 0, 0) :: gs, _, none)
                      refine bh_ld (pc' := 190) bt_19_189 rfl rfl (fun _ _ _ => rfl) g3587 rfl ?_
                      refine bh_ld (pc' := 191) bt_19_190 rfl rfl (fun _ _ _ => rfl) g3588 rfl ?_
                      refine bh_add (pc' := 192) bt_19_191 rfl (by omega) (by omega) (fun v3604 e3605 => ?_)
                      refine bh_st (pc' := 193) bt_19_192 rfl rfl (fun _ _ _ => rfl) rfl (by decide) (by decide) (fun lv3606 F3607 g3608 => ?_)
                      have g3609 := F3607 0 (.ref (E.1 + 88)) g3586 (by decide) (Or.inl rfl)
                      have g3610 := F3607 3 (.int n3530) g3588 (by decide) (Or.inl rfl)
                      have g3611 := F3607 4 (.long x3531) g3589 (by decide) (Or.inr (by decide))
                      have g3612 := F3607 6 (.int k3585) g3590 (by decide) (Or.inl rfl)
                      refine bh_go (pc' := 291) bt_19_193 rfl ?_
                      refine bh_go (pc' := 7) bt_19_291 rfl ?_
                      have z4 := congrArg Int32.toInt (f3600 4 (by decide))
                      exact ih _ _ _ _ _ _ _ hP3599 g3609 g3608 q3602 (by omega) (by omega) (by omega) (by omega) (by omega) (by omega) (fun h' s' A' L' hP' f' a' q' p' => kk h' s' A' L' hP' (fun j j10 => (f' j j10).trans ((fun j j10 => (f3600 j j10)) j j10)) (fun k j u => (a' k j u).trans ((a3601 k j u))) q' p')
                  · replace k3540 : ¬ ((n3530).toInt ≤ (c3538).toInt) := k3540
                    refine bh_c (pc' := 131) (n := 3) bt_19_130 rfl rfl (fun _ _ _ => rfl) (by decide) (fun c3613 e3614 => ?_)
                    refine bh_go (pc' := 135) bt_19_131 rfl ?_
                    refine bh_st (pc' := 137) bt_19_135 rfl rfl (fun _ _ _ => rfl) rfl (by decide) (by decide) (fun lv3615 F3616 g3617 => ?_)
                    have g3618 := F3616 0 (.ref (E.1 + 88)) g3532 (by decide) (Or.inl rfl)
                    have g3619 := F3616 1 (.int i) g3533 (by decide) (Or.inl rfl)
                    have g3620 := F3616 3 (.int n3530) g3534 (by decide) (Or.inl rfl)
                    have g3621 := F3616 4 (.long x3531) g3535 (by decide) (Or.inr (by decide))
                    refine bh_ld (pc' := 138) bt_19_137 rfl rfl (fun _ _ _ => rfl) g3620 rfl ?_
                    refine bh_c (pc' := 140) (n := 7) bt_19_138 rfl rfl (fun _ _ _ => rfl) (by decide) (fun c3622 e3623 => ?_)
                    refine bh_ic (pc' := 143) (pt := 179) bt_19_140 rfl rfl (fun k3624 => ?_) (fun k3624 => ?_)
                    · replace k3624 : (c3622).toInt < (n3530).toInt := k3624
                      refine bh_ld (pc' := 180) bt_19_179 rfl rfl (fun _ _ _ => rfl) g3618 rfl ?_
                      refine bh_ld (pc' := 182) bt_19_180 rfl rfl (fun _ _ _ => rfl) g3617 rfl ?_
                      refine bh_ld (pc' := 183) bt_19_182 rfl rfl (fun _ _ _ => rfl) g3619 rfl ?_
                      refine bh_c (pc' := 184) (n := 0) bt_19_183 rfl rfl (fun _ _ _ => rfl) (by decide) (fun c3625 e3626 => ?_)
                      refine bh_ld (pc' := 186) bt_19_184 rfl rfl (fun _ _ _ => rfl) g3621 rfl ?_
                      refine bh_cv (pc' := 189) (st := []) (args := [.long x3531, .int c3625, .int i, .int c3613]) bt_19_186 rfl rfl (by decide) hP (by omega) rfl (Nat.le_of_ble_eq_true rfl) (Nat.le_of_ble_eq_true rfl) ?_
                      refine sp_103 (k := c3613) (w := i) (v := c3625) (x := x3531) hP rfl (by omega) (by omega) (by omega) (by omega) hq (fun h3627 s3628 A3629 L3630 hP3631 f3632 a3633 q3634 p3635 => ?_)
                      show bh_G E FIN ((19, 189, lv3615, [], 0, 0) :: gs, _, none)
                      refine bh_ld (pc' := 190) bt_19_189 rfl rfl (fun _ _ _ => rfl) g3619 rfl ?_
                      refine bh_ld (pc' := 191) bt_19_190 rfl rfl (fun _ _ _ => rfl) g3620 rfl ?_
                      refine bh_add (pc' := 192) bt_19_191 rfl (by omega) (by omega) (fun v3636 e3637 => ?_)
                      refine bh_st (pc' := 193) bt_19_192 rfl rfl (fun _ _ _ => rfl) rfl (by decide) (by decide) (fun lv3638 F3639 g3640 => ?_)
                      have g3641 := F3639 0 (.ref (E.1 + 88)) g3618 (by decide) (Or.inl rfl)
                      have g3642 := F3639 3 (.int n3530) g3620 (by decide) (Or.inl rfl)
                      have g3643 := F3639 4 (.long x3531) g3621 (by decide) (Or.inr (by decide))
                      have g3644 := F3639 6 (.int c3613) g3617 (by decide) (Or.inl rfl)
                      refine bh_go (pc' := 291) bt_19_193 rfl ?_
                      refine bh_go (pc' := 7) bt_19_291 rfl ?_
                      have z4 := congrArg Int32.toInt (f3632 4 (by decide))
                      exact ih _ _ _ _ _ _ _ hP3631 g3641 g3640 q3634 (by omega) (by omega) (by omega) (by omega) (by omega) (by omega) (fun h' s' A' L' hP' f' a' q' p' => kk h' s' A' L' hP' (fun j j10 => (f' j j10).trans ((fun j j10 => (f3632 j j10)) j j10)) (fun k j u => (a' k j u).trans ((a3633 k j u))) q' p')
                    · replace k3624 : ¬ ((c3622).toInt < (n3530).toInt) := k3624
                      refine bh_c (pc' := 144) (n := 0) bt_19_143 rfl rfl (fun _ _ _ => rfl) (by decide) (fun c3645 e3646 => ?_)
                      refine bh_st (pc' := 146) bt_19_144 rfl rfl (fun _ _ _ => rfl) rfl (by decide) (by decide) (fun lv3647 F3648 g3649 => ?_)
                      have g3650 := F3648 0 (.ref (E.1 + 88)) g3618 (by decide) (Or.inl rfl)
                      have g3651 := F3648 1 (.int i) g3619 (by decide) (Or.inl rfl)
                      have g3652 := F3648 3 (.int n3530) g3620 (by decide) (Or.inl rfl)
                      have g3653 := F3648 4 (.long x3531) g3621 (by decide) (Or.inr (by decide))
                      have g3654 := F3648 6 (.int c3613) g3617 (by decide) (Or.inl rfl)
                      refine rd_key hP 25 _ _ _ _ g3650 g3651 g3652 g3653 g3654 g3649 (by omega) (by omega) (by omega) (by omega) (by omega) (fun lv3655 o3656 k3657 g3658 g3659 g3660 g3661 g3662 p3663 p3664 => ?_)
                      refine bh_ld (pc' := 180) bt_19_179 rfl rfl (fun _ _ _ => rfl) g3658 rfl ?_
                      refine bh_ld (pc' := 182) bt_19_180 rfl rfl (fun _ _ _ => rfl) g3662 rfl ?_
                      refine bh_ld (pc' := 183) bt_19_182 rfl rfl (fun _ _ _ => rfl) g3659 rfl ?_
                      refine bh_c (pc' := 184) (n := 0) bt_19_183 rfl rfl (fun _ _ _ => rfl) (by decide) (fun c3665 e3666 => ?_)
                      refine bh_ld (pc' := 186) bt_19_184 rfl rfl (fun _ _ _ => rfl) g3661 rfl ?_
                      refine bh_cv (pc' := 189) (st := []) (args := [.long x3531, .int c3665, .int i, .int k3657]) bt_19_186 rfl rfl (by decide) hP (by omega) rfl (Nat.le_of_ble_eq_true rfl) (Nat.le_of_ble_eq_true rfl) ?_
                      refine sp_103 (k := k3657) (w := i) (v := c3665) (x := x3531) hP rfl (by omega) (by omega) (by omega) (by omega) hq (fun h3667 s3668 A3669 L3670 hP3671 f3672 a3673 q3674 p3675 => ?_)
                      show bh_G E FIN ((19, 189, lv3655, [], 0, 0) :: gs, _, none)
                      refine bh_ld (pc' := 190) bt_19_189 rfl rfl (fun _ _ _ => rfl) g3659 rfl ?_
                      refine bh_ld (pc' := 191) bt_19_190 rfl rfl (fun _ _ _ => rfl) g3660 rfl ?_
                      refine bh_add (pc' := 192) bt_19_191 rfl (by omega) (by omega) (fun v3676 e3677 => ?_)
                      refine bh_st (pc' := 193) bt_19_192 rfl rfl (fun _ _ _ => rfl) rfl (by decide) (by decide) (fun lv3678 F3679 g3680 => ?_)
                      have g3681 := F3679 0 (.ref (E.1 + 88)) g3658 (by decide) (Or.inl rfl)
                      have g3682 := F3679 3 (.int n3530) g3660 (by decide) (Or.inl rfl)
                      have g3683 := F3679 4 (.long x3531) g3661 (by decide) (Or.inr (by decide))
                      have g3684 := F3679 6 (.int k3657) g3662 (by decide) (Or.inl rfl)
                      refine bh_go (pc' := 291) bt_19_193 rfl ?_
                      refine bh_go (pc' := 7) bt_19_291 rfl ?_
                      have z4 := congrArg Int32.toInt (f3672 4 (by decide))
                      exact ih _ _ _ _ _ _ _ hP3671 g3681 g3680 q3674 (by omega) (by omega) (by omega) (by omega) (by omega) (by omega) (fun h' s' A' L' hP' f' a' q' p' => kk h' s' A' L' hP' (fun j j10 => (f' j j10).trans ((fun j j10 => (f3672 j j10)) j j10)) (fun k j u => (a' k j u).trans ((a3673 k j u))) q' p')
              · replace k3406 : ¬ ((r3365).toInt ≠ (c3404).toInt) := k3406
                refine bh_inc (pc' := 70) bt_19_67 rfl (by decide) g3372 (by decide) (by omega) (by omega) (fun lv3685 y3688 F3686 g3687 e3689 => ?_)
                have g3690 := F3686 0 (.ref (E.1 + 88)) g3371 (by decide) (Or.inl rfl)
                have g3691 := F3686 2 (.int r3365) g3370 (by decide) (Or.inl rfl)
                refine bh_go (pc' := 291) bt_19_70 rfl ?_
                refine bh_go (pc' := 7) bt_19_291 rfl ?_
                exact ih _ _ _ _ _ _ _ hP g3690 g3687 hq (by omega) (by omega) (by omega) (by omega) (by omega) (by omega) (fun h' s' A' L' hP' f' a' q' p' => kk h' s' A' L' hP' (fun j j10 => (f' j j10).trans ((fun j j10 => rfl) j j10)) (fun k j u => (a' k j u).trans (rfl)) q' p')
      · replace k3373 : ¬ ((i).toInt < ((s 4)).toInt) := k3373
        refine bh_ld (pc' := 32) bt_19_31 rfl rfl (fun _ _ _ => rfl) g3371 rfl ?_
        refine bh_c (pc' := 33) (n := 0) bt_19_32 rfl rfl (fun _ _ _ => rfl) (by decide) (fun c3692 e3693 => ?_)
        refine bh_ld (pc' := 34) bt_19_33 rfl rfl (fun _ _ _ => rfl) g3371 rfl ?_
        refine bh_gi (pc' := 37) bt_19_34 rfl rfl (fun _ _ _ => rfl) hP bx_i4 rfl ?_
        refine bh_c (pc' := 38) (n := 0) bt_19_37 rfl rfl (fun _ _ _ => rfl) (by decide) (fun c3694 e3695 => ?_)
        refine bh_cL (pc' := 39) bt_19_38 rfl rfl (fun _ _ _ => rfl) (fun x3696 => ?_)
        refine bh_cv (pc' := 42) (st := []) (args := [.long x3696, .int c3694, .int (s 4), .int c3692]) bt_19_39 rfl rfl (by decide) hP (by omega) rfl (Nat.le_of_ble_eq_true rfl) (Nat.le_of_ble_eq_true rfl) ?_
        refine sp_103 (k := c3692) (w := (s 4)) (v := c3694) (x := x3696) hP rfl (by omega) (by omega) (by omega) (by omega) hq (fun h3697 s3698 A3699 L3700 hP3701 f3702 a3703 q3704 p3705 => ?_)
        show bh_G E FIN ((19, 42, lv3368, [], 0, 0) :: gs, _, none)
        refine bh_rv bt_19_42 ?_
        have z4 := congrArg Int32.toInt (f3702 4 (by decide))
        exact kk _ _ _ _ hP3701 (fun j j10 => (f3702 j j10)) (fun k j u => (a3703 k j u)) q3704 (by omega)
theorem sp_19 (hP : bh_P bx_T E h0 h s A L) (hd : gs.length + 2 ≤ 999) (hq : ∀ j, j < 403 → 0 ≤ (A 91 j).toInt ∧ (A 91 j).toInt ≤ 43) (b1 : 0 ≤ (s 4).toInt) (b2 : (s 4).toInt ≤ 2000) (kk : ∀ (h' : mm_H) (s' : Nat → Int32) (A' : Nat → Nat → Int32) (L' : Nat → Nat → Int64), bh_P bx_T E h0 h' s' A' L' → (∀ j, j ≠ 10 → s' j = s j) → (∀ k j, (k < 91 ∨ 93 < k) → A' k j = A k j) → (∀ j, j < 403 → 0 ≤ (A' 91 j).toInt ∧ (A' 91 j).toInt ≤ 43) → (0 ≤ (s' 10).toInt ∧ (s' 10).toInt ≤ 401) → bh_G E FIN (mm_back none gs h')) : bh_G E FIN ((19, 0, [(0, .ref (E.1 + 88))], [], 0, 0) :: gs, h, none) := by
  refine bh_ld (pc' := 1) bt_19_0 rfl rfl (fun _ _ _ => rfl) rfl rfl ?_
  refine bh_c (pc' := 2) (n := 0) bt_19_1 rfl rfl (fun _ _ _ => rfl) (by decide) (fun c3706 e3707 => ?_)
  refine bh_pf (pc' := 5) bt_19_2 rfl rfl (fun _ _ _ => rfl) hP bx_i10 rfl (fun h3708 s3709 hP3710 e3711 f3712 => ?_)
  refine bh_c (pc' := 6) (n := 0) bt_19_5 rfl rfl (fun _ _ _ => rfl) (by decide) (fun c3713 e3714 => ?_)
  refine bh_st (pc' := 7) bt_19_6 rfl rfl (fun _ _ _ => rfl) rfl (by decide) (by decide) (fun lv3715 F3716 g3717 => ?_)
  have g3718 := F3716 0 (.ref (E.1 + 88)) rfl (by decide) (Or.inl rfl)
  have z4 := congrArg Int32.toInt (f3712 4 (by decide))
  have z10 := congrArg Int32.toInt e3711
  exact rd_cut (by omega) 2002 _ _ _ _ _ _ _ hP3710 g3718 g3717 hq (by omega) (by omega) (by omega) (by omega) (by omega) (by omega) (fun h' s' A' L' hP' f' a' q' p' => kk h' s' A' L' hP' (fun j j10 => (f' j j10).trans ((fun j j10 => (f3712 j j10)) j j10)) a' q' p')
end BX
