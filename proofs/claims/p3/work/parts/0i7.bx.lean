/-! BY HAND: the reference's reader, 6: tokens (wip/p3/bh6.py) -/
/-- the byte at a place of the text -/
def rd_byte (A : Nat → Nat → Int32) (z i : Int32) : Int32 := if z.toInt ≤ i.toInt then 0 else A 90 i.toInt.toNat &&& 255
theorem rd_byte_c {A : Nat → Nat → Int32} {z v i : Int32} (e : v.toInt = i.toInt) : (rd_byte A z v).toInt = (rd_byte A z i).toInt := by
  unfold rd_byte
  rw [e]
theorem bt_2_0 : mm_at mt_P 2 0 = some ((0, 1, .iload_n 2, 0, 0, 0, 0), 3, 2, 0, 9, 3, 0, 0) := rfl
theorem bt_2_1 : mm_at mt_P 2 1 = some ((1, 3, .ifCond .ne 7, 0, 0, 0, 0), 3, 2, 0, 9, 3, 0, 0) := rfl
theorem bt_2_4 : mm_at mt_P 2 4 = some ((4, 1, .lload_n 0, 0, 0, 0, 0), 3, 2, 0, 9, 3, 0, 0) := rfl
theorem bt_2_5 : mm_at mt_P 2 5 = some ((5, 3, .goto 16, 0, 0, 0, 0), 3, 2, 0, 9, 3, 0, 0) := rfl
theorem bt_2_8 : mm_at mt_P 2 8 = some ((8, 3, .ldc2_w 175, 0, 0, 27, 1201), 3, 2, 0, 9, 3, 0, 0) := rfl
theorem bt_2_11 : mm_at mt_P 2 11 = some ((11, 1, .lload_n 0, 0, 0, 0, 0), 3, 2, 0, 9, 3, 0, 0) := rfl
theorem bt_2_12 : mm_at mt_P 2 12 = some ((12, 1, .lmul, 0, 0, 0, 0), 3, 2, 0, 9, 3, 0, 0) := rfl
theorem bt_2_13 : mm_at mt_P 2 13 = some ((13, 1, .iload_n 2, 0, 0, 0, 0), 3, 2, 0, 9, 3, 0, 0) := rfl
theorem bt_2_14 : mm_at mt_P 2 14 = some ((14, 2, .bipush 97, 0, 0, 0, 0), 3, 2, 0, 9, 3, 0, 0) := rfl
theorem bt_2_16 : mm_at mt_P 2 16 = some ((16, 1, .isub, 0, 0, 0, 0), 3, 2, 0, 9, 3, 0, 0) := rfl
theorem bt_2_17 : mm_at mt_P 2 17 = some ((17, 1, .iconst 1, 0, 0, 0, 0), 3, 2, 0, 9, 3, 0, 0) := rfl
theorem bt_2_18 : mm_at mt_P 2 18 = some ((18, 1, .iadd, 0, 0, 0, 0), 3, 2, 0, 9, 3, 0, 0) := rfl
theorem bt_2_19 : mm_at mt_P 2 19 = some ((19, 1, .i2l, 0, 0, 0, 0), 3, 2, 0, 9, 3, 0, 0) := rfl
theorem bt_2_20 : mm_at mt_P 2 20 = some ((20, 1, .ladd, 0, 0, 0, 0), 3, 2, 0, 9, 3, 0, 0) := rfl
theorem bt_2_21 : mm_at mt_P 2 21 = some ((21, 1, .lreturn, 0, 0, 0, 0), 3, 2, 0, 9, 3, 0, 0) := rfl
theorem bt_12_0 : mm_at mt_P 12 0 = some ((0, 1, .iload_n 1, 0, 0, 0, 0), 2, 1, 1, 9, 1, 0, 0) := rfl
theorem bt_12_1 : mm_at mt_P 12 1 = some ((1, 1, .aload_n 0, 0, 0, 0, 0), 2, 1, 1, 9, 1, 0, 0) := rfl
theorem bt_12_2 : mm_at mt_P 12 2 = some ((2, 3, .getfield 172, 9, 4, 0, 1221), 2, 1, 1, 9, 1, 0, 0) := rfl
theorem bt_12_5 : mm_at mt_P 12 5 = some ((5, 3, .if_icmp .ge 16, 0, 0, 0, 0), 2, 1, 1, 9, 1, 0, 0) := rfl
theorem bt_12_8 : mm_at mt_P 12 8 = some ((8, 1, .aload_n 0, 0, 0, 0, 0), 2, 1, 1, 9, 1, 0, 0) := rfl
theorem bt_12_9 : mm_at mt_P 12 9 = some ((9, 3, .getfield 17, 9, 3, 0, 1220), 2, 1, 1, 9, 1, 0, 0) := rfl
theorem bt_12_12 : mm_at mt_P 12 12 = some ((12, 1, .iload_n 1, 0, 0, 0, 0), 2, 1, 1, 9, 1, 0, 0) := rfl
theorem bt_12_13 : mm_at mt_P 12 13 = some ((13, 1, .baload, 0, 0, 0, 0), 2, 1, 1, 9, 1, 0, 0) := rfl
theorem bt_12_14 : mm_at mt_P 12 14 = some ((14, 3, .sipush 255, 0, 0, 0, 0), 2, 1, 1, 9, 1, 0, 0) := rfl
theorem bt_12_17 : mm_at mt_P 12 17 = some ((17, 1, .iand, 0, 0, 0, 0), 2, 1, 1, 9, 1, 0, 0) := rfl
theorem bt_12_18 : mm_at mt_P 12 18 = some ((18, 3, .goto 4, 0, 0, 0, 0), 2, 1, 1, 9, 1, 0, 0) := rfl
theorem bt_12_21 : mm_at mt_P 12 21 = some ((21, 1, .iconst 0, 0, 0, 0, 0), 2, 1, 1, 9, 1, 0, 0) := rfl
theorem bt_12_22 : mm_at mt_P 12 22 = some ((22, 1, .ireturn, 0, 0, 0, 0), 2, 1, 1, 9, 1, 0, 0) := rfl
theorem bt_19_0 : mm_at mt_P 19 0 = some ((0, 1, .aload_n 0, 0, 0, 0, 0), 8, 0, 1, 9, 0, 0, 0) := rfl
theorem bt_19_1 : mm_at mt_P 19 1 = some ((1, 1, .iconst 0, 0, 0, 0, 0), 8, 0, 1, 9, 0, 0, 0) := rfl
theorem bt_19_2 : mm_at mt_P 19 2 = some ((2, 3, .putfield 181, 9, 10, 0, 1227), 8, 0, 1, 9, 0, 0, 0) := rfl
theorem bt_19_5 : mm_at mt_P 19 5 = some ((5, 1, .iconst 0, 0, 0, 0, 0), 8, 0, 1, 9, 0, 0, 0) := rfl
theorem bt_19_6 : mm_at mt_P 19 6 = some ((6, 1, .istore_n 1, 0, 0, 0, 0), 8, 0, 1, 9, 0, 0, 0) := rfl
theorem bt_19_7 : mm_at mt_P 19 7 = some ((7, 1, .aload_n 0, 0, 0, 0, 0), 8, 0, 1, 9, 0, 0, 0) := rfl
theorem bt_19_8 : mm_at mt_P 19 8 = some ((8, 3, .getfield 181, 9, 10, 0, 1227), 8, 0, 1, 9, 0, 0, 0) := rfl
theorem bt_19_11 : mm_at mt_P 19 11 = some ((11, 3, .sipush 400, 0, 0, 0, 0), 8, 0, 1, 9, 0, 0, 0) := rfl
theorem bt_19_14 : mm_at mt_P 19 14 = some ((14, 3, .if_icmp .gt 280, 0, 0, 0, 0), 8, 0, 1, 9, 0, 0, 0) := rfl
theorem bt_19_17 : mm_at mt_P 19 17 = some ((17, 1, .aload_n 0, 0, 0, 0, 0), 8, 0, 1, 9, 0, 0, 0) := rfl
theorem bt_19_18 : mm_at mt_P 19 18 = some ((18, 1, .iload_n 1, 0, 0, 0, 0), 8, 0, 1, 9, 0, 0, 0) := rfl
theorem bt_19_19 : mm_at mt_P 19 19 = some ((19, 3, .invokevirtual 184, 12, 0, 0, 1457), 8, 0, 1, 9, 0, 0, 0) := rfl
theorem bt_19_22 : mm_at mt_P 19 22 = some ((22, 1, .istore_n 2, 0, 0, 0, 0), 8, 0, 1, 9, 0, 0, 0) := rfl
theorem bt_19_23 : mm_at mt_P 19 23 = some ((23, 1, .iload_n 1, 0, 0, 0, 0), 8, 0, 1, 9, 0, 0, 0) := rfl
theorem bt_19_24 : mm_at mt_P 19 24 = some ((24, 1, .aload_n 0, 0, 0, 0, 0), 8, 0, 1, 9, 0, 0, 0) := rfl
theorem bt_19_25 : mm_at mt_P 19 25 = some ((25, 3, .getfield 172, 9, 4, 0, 1221), 8, 0, 1, 9, 0, 0, 0) := rfl
theorem bt_19_28 : mm_at mt_P 19 28 = some ((28, 3, .if_icmp .lt 15, 0, 0, 0, 0), 8, 0, 1, 9, 0, 0, 0) := rfl
theorem bt_19_31 : mm_at mt_P 19 31 = some ((31, 1, .aload_n 0, 0, 0, 0, 0), 8, 0, 1, 9, 0, 0, 0) := rfl
theorem bt_19_32 : mm_at mt_P 19 32 = some ((32, 1, .iconst 0, 0, 0, 0, 0), 8, 0, 1, 9, 0, 0, 0) := rfl
theorem bt_19_33 : mm_at mt_P 19 33 = some ((33, 1, .aload_n 0, 0, 0, 0, 0), 8, 0, 1, 9, 0, 0, 0) := rfl
theorem bt_19_34 : mm_at mt_P 19 34 = some ((34, 3, .getfield 172, 9, 4, 0, 1221), 8, 0, 1, 9, 0, 0, 0) := rfl
theorem bt_19_37 : mm_at mt_P 19 37 = some ((37, 1, .iconst 0, 0, 0, 0, 0), 8, 0, 1, 9, 0, 0, 0) := rfl
theorem bt_19_38 : mm_at mt_P 19 38 = some ((38, 1, .lconst 0, 0, 0, 0, 0), 8, 0, 1, 9, 0, 0, 0) := rfl
theorem bt_19_39 : mm_at mt_P 19 39 = some ((39, 3, .invokevirtual 188, 103, 0, 0, 1461), 8, 0, 1, 9, 0, 0, 0) := rfl
theorem bt_19_42 : mm_at mt_P 19 42 = some ((42, 1, .return_, 0, 0, 0, 0), 8, 0, 1, 9, 0, 0, 0) := rfl
theorem bt_19_43 : mm_at mt_P 19 43 = some ((43, 1, .iload_n 2, 0, 0, 0, 0), 8, 0, 1, 9, 0, 0, 0) := rfl
theorem bt_19_44 : mm_at mt_P 19 44 = some ((44, 2, .bipush 9, 0, 0, 0, 0), 8, 0, 1, 9, 0, 0, 0) := rfl
theorem bt_19_46 : mm_at mt_P 19 46 = some ((46, 3, .if_icmp .eq 21, 0, 0, 0, 0), 8, 0, 1, 9, 0, 0, 0) := rfl
theorem bt_19_49 : mm_at mt_P 19 49 = some ((49, 1, .iload_n 2, 0, 0, 0, 0), 8, 0, 1, 9, 0, 0, 0) := rfl
theorem bt_19_50 : mm_at mt_P 19 50 = some ((50, 2, .bipush 10, 0, 0, 0, 0), 8, 0, 1, 9, 0, 0, 0) := rfl
theorem bt_19_52 : mm_at mt_P 19 52 = some ((52, 3, .if_icmp .eq 15, 0, 0, 0, 0), 8, 0, 1, 9, 0, 0, 0) := rfl
theorem bt_19_55 : mm_at mt_P 19 55 = some ((55, 1, .iload_n 2, 0, 0, 0, 0), 8, 0, 1, 9, 0, 0, 0) := rfl
theorem bt_19_56 : mm_at mt_P 19 56 = some ((56, 2, .bipush 13, 0, 0, 0, 0), 8, 0, 1, 9, 0, 0, 0) := rfl
theorem bt_19_58 : mm_at mt_P 19 58 = some ((58, 3, .if_icmp .eq 9, 0, 0, 0, 0), 8, 0, 1, 9, 0, 0, 0) := rfl
theorem bt_19_61 : mm_at mt_P 19 61 = some ((61, 1, .iload_n 2, 0, 0, 0, 0), 8, 0, 1, 9, 0, 0, 0) := rfl
theorem bt_19_62 : mm_at mt_P 19 62 = some ((62, 2, .bipush 32, 0, 0, 0, 0), 8, 0, 1, 9, 0, 0, 0) := rfl
theorem bt_19_64 : mm_at mt_P 19 64 = some ((64, 3, .if_icmp .ne 9, 0, 0, 0, 0), 8, 0, 1, 9, 0, 0, 0) := rfl
theorem bt_19_67 : mm_at mt_P 19 67 = some ((67, 3, .iinc 1 1, 0, 0, 0, 0), 8, 0, 1, 9, 0, 0, 0) := rfl
theorem bt_19_70 : mm_at mt_P 19 70 = some ((70, 3, .goto 221, 0, 0, 0, 0), 8, 0, 1, 9, 0, 0, 0) := rfl
theorem bt_19_73 : mm_at mt_P 19 73 = some ((73, 1, .iload_n 2, 0, 0, 0, 0), 8, 0, 1, 9, 0, 0, 0) := rfl
theorem bt_19_74 : mm_at mt_P 19 74 = some ((74, 3, .invokestatic 192, 50, 0, 0, 1465), 8, 0, 1, 9, 0, 0, 0) := rfl
theorem bt_19_77 : mm_at mt_P 19 77 = some ((77, 3, .ifCond .eq 119, 0, 0, 0, 0), 8, 0, 1, 9, 0, 0, 0) := rfl
theorem bt_19_80 : mm_at mt_P 19 80 = some ((80, 1, .iconst 0, 0, 0, 0, 0), 8, 0, 1, 9, 0, 0, 0) := rfl
theorem bt_19_81 : mm_at mt_P 19 81 = some ((81, 1, .istore_n 3, 0, 0, 0, 0), 8, 0, 1, 9, 0, 0, 0) := rfl
theorem bt_19_82 : mm_at mt_P 19 82 = some ((82, 1, .lconst 0, 0, 0, 0, 0), 8, 0, 1, 9, 0, 0, 0) := rfl
theorem bt_19_83 : mm_at mt_P 19 83 = some ((83, 2, .lstore 4, 0, 0, 0, 0), 8, 0, 1, 9, 0, 0, 0) := rfl
theorem bt_19_85 : mm_at mt_P 19 85 = some ((85, 1, .aload_n 0, 0, 0, 0, 0), 8, 0, 1, 9, 0, 0, 0) := rfl
theorem bt_19_86 : mm_at mt_P 19 86 = some ((86, 1, .iload_n 1, 0, 0, 0, 0), 8, 0, 1, 9, 0, 0, 0) := rfl
theorem bt_19_87 : mm_at mt_P 19 87 = some ((87, 1, .iload_n 3, 0, 0, 0, 0), 8, 0, 1, 9, 0, 0, 0) := rfl
theorem bt_19_88 : mm_at mt_P 19 88 = some ((88, 1, .iadd, 0, 0, 0, 0), 8, 0, 1, 9, 0, 0, 0) := rfl
theorem bt_19_89 : mm_at mt_P 19 89 = some ((89, 3, .invokevirtual 184, 12, 0, 0, 1457), 8, 0, 1, 9, 0, 0, 0) := rfl
theorem bt_19_92 : mm_at mt_P 19 92 = some ((92, 3, .invokestatic 192, 50, 0, 0, 1465), 8, 0, 1, 9, 0, 0, 0) := rfl
theorem bt_19_95 : mm_at mt_P 19 95 = some ((95, 3, .ifCond .eq 29, 0, 0, 0, 0), 8, 0, 1, 9, 0, 0, 0) := rfl
theorem bt_19_98 : mm_at mt_P 19 98 = some ((98, 1, .iload_n 3, 0, 0, 0, 0), 8, 0, 1, 9, 0, 0, 0) := rfl
theorem bt_19_99 : mm_at mt_P 19 99 = some ((99, 2, .bipush 8, 0, 0, 0, 0), 8, 0, 1, 9, 0, 0, 0) := rfl
theorem bt_19_101 : mm_at mt_P 19 101 = some ((101, 3, .if_icmp .ge 17, 0, 0, 0, 0), 8, 0, 1, 9, 0, 0, 0) := rfl
theorem bt_19_104 : mm_at mt_P 19 104 = some ((104, 2, .lload 4, 0, 0, 0, 0), 8, 0, 1, 9, 0, 0, 0) := rfl
theorem bt_19_106 : mm_at mt_P 19 106 = some ((106, 1, .aload_n 0, 0, 0, 0, 0), 8, 0, 1, 9, 0, 0, 0) := rfl
theorem bt_19_107 : mm_at mt_P 19 107 = some ((107, 1, .iload_n 1, 0, 0, 0, 0), 8, 0, 1, 9, 0, 0, 0) := rfl
theorem bt_19_108 : mm_at mt_P 19 108 = some ((108, 1, .iload_n 3, 0, 0, 0, 0), 8, 0, 1, 9, 0, 0, 0) := rfl
theorem bt_19_109 : mm_at mt_P 19 109 = some ((109, 1, .iadd, 0, 0, 0, 0), 8, 0, 1, 9, 0, 0, 0) := rfl
theorem bt_19_110 : mm_at mt_P 19 110 = some ((110, 3, .invokevirtual 184, 12, 0, 0, 1457), 8, 0, 1, 9, 0, 0, 0) := rfl
theorem bt_19_113 : mm_at mt_P 19 113 = some ((113, 3, .invokestatic 177, 2, 0, 0, 1198), 8, 0, 1, 9, 0, 0, 0) := rfl
theorem bt_19_116 : mm_at mt_P 19 116 = some ((116, 2, .lstore 4, 0, 0, 0, 0), 8, 0, 1, 9, 0, 0, 0) := rfl
theorem bt_19_118 : mm_at mt_P 19 118 = some ((118, 3, .iinc 3 1, 0, 0, 0, 0), 8, 0, 1, 9, 0, 0, 0) := rfl
theorem bt_19_121 : mm_at mt_P 19 121 = some ((121, 3, .goto (-36), 0, 0, 0, 0), 8, 0, 1, 9, 0, 0, 0) := rfl
theorem bt_19_124 : mm_at mt_P 19 124 = some ((124, 1, .iload_n 3, 0, 0, 0, 0), 8, 0, 1, 9, 0, 0, 0) := rfl
theorem bt_19_125 : mm_at mt_P 19 125 = some ((125, 2, .bipush 8, 0, 0, 0, 0), 8, 0, 1, 9, 0, 0, 0) := rfl
theorem bt_19_127 : mm_at mt_P 19 127 = some ((127, 3, .if_icmp .le 7, 0, 0, 0, 0), 8, 0, 1, 9, 0, 0, 0) := rfl
theorem bt_19_130 : mm_at mt_P 19 130 = some ((130, 1, .iconst 3, 0, 0, 0, 0), 8, 0, 1, 9, 0, 0, 0) := rfl
theorem bt_19_131 : mm_at mt_P 19 131 = some ((131, 3, .goto 4, 0, 0, 0, 0), 8, 0, 1, 9, 0, 0, 0) := rfl
theorem bt_19_134 : mm_at mt_P 19 134 = some ((134, 1, .iconst 1, 0, 0, 0, 0), 8, 0, 1, 9, 0, 0, 0) := rfl
theorem bt_19_135 : mm_at mt_P 19 135 = some ((135, 2, .istore 6, 0, 0, 0, 0), 8, 0, 1, 9, 0, 0, 0) := rfl
theorem bt_19_137 : mm_at mt_P 19 137 = some ((137, 1, .iload_n 3, 0, 0, 0, 0), 8, 0, 1, 9, 0, 0, 0) := rfl
theorem bt_19_138 : mm_at mt_P 19 138 = some ((138, 2, .bipush 7, 0, 0, 0, 0), 8, 0, 1, 9, 0, 0, 0) := rfl
theorem bt_19_140 : mm_at mt_P 19 140 = some ((140, 3, .if_icmp .gt 39, 0, 0, 0, 0), 8, 0, 1, 9, 0, 0, 0) := rfl
theorem bt_19_143 : mm_at mt_P 19 143 = some ((143, 1, .iconst 0, 0, 0, 0, 0), 8, 0, 1, 9, 0, 0, 0) := rfl
theorem bt_19_144 : mm_at mt_P 19 144 = some ((144, 2, .istore 7, 0, 0, 0, 0), 8, 0, 1, 9, 0, 0, 0) := rfl
theorem bt_19_146 : mm_at mt_P 19 146 = some ((146, 2, .iload 7, 0, 0, 0, 0), 8, 0, 1, 9, 0, 0, 0) := rfl
theorem bt_19_148 : mm_at mt_P 19 148 = some ((148, 2, .bipush 24, 0, 0, 0, 0), 8, 0, 1, 9, 0, 0, 0) := rfl
theorem bt_19_150 : mm_at mt_P 19 150 = some ((150, 3, .if_icmp .ge 29, 0, 0, 0, 0), 8, 0, 1, 9, 0, 0, 0) := rfl
theorem bt_19_153 : mm_at mt_P 19 153 = some ((153, 1, .aload_n 0, 0, 0, 0, 0), 8, 0, 1, 9, 0, 0, 0) := rfl
theorem bt_19_154 : mm_at mt_P 19 154 = some ((154, 3, .getfield 34, 9, 9, 0, 1226), 8, 0, 1, 9, 0, 0, 0) := rfl
theorem bt_19_157 : mm_at mt_P 19 157 = some ((157, 2, .iload 7, 0, 0, 0, 0), 8, 0, 1, 9, 0, 0, 0) := rfl
theorem bt_19_159 : mm_at mt_P 19 159 = some ((159, 1, .laload, 0, 0, 0, 0), 8, 0, 1, 9, 0, 0, 0) := rfl
theorem bt_19_160 : mm_at mt_P 19 160 = some ((160, 2, .lload 4, 0, 0, 0, 0), 8, 0, 1, 9, 0, 0, 0) := rfl
theorem bt_19_162 : mm_at mt_P 19 162 = some ((162, 1, .lcmp, 0, 0, 0, 0), 8, 0, 1, 9, 0, 0, 0) := rfl
theorem bt_19_163 : mm_at mt_P 19 163 = some ((163, 3, .ifCond .ne 10, 0, 0, 0, 0), 8, 0, 1, 9, 0, 0, 0) := rfl
theorem bt_19_166 : mm_at mt_P 19 166 = some ((166, 2, .bipush 20, 0, 0, 0, 0), 8, 0, 1, 9, 0, 0, 0) := rfl
theorem bt_19_168 : mm_at mt_P 19 168 = some ((168, 2, .iload 7, 0, 0, 0, 0), 8, 0, 1, 9, 0, 0, 0) := rfl
theorem bt_19_170 : mm_at mt_P 19 170 = some ((170, 1, .iadd, 0, 0, 0, 0), 8, 0, 1, 9, 0, 0, 0) := rfl
theorem bt_19_171 : mm_at mt_P 19 171 = some ((171, 2, .istore 6, 0, 0, 0, 0), 8, 0, 1, 9, 0, 0, 0) := rfl
theorem bt_19_173 : mm_at mt_P 19 173 = some ((173, 3, .iinc 7 1, 0, 0, 0, 0), 8, 0, 1, 9, 0, 0, 0) := rfl
theorem bt_19_176 : mm_at mt_P 19 176 = some ((176, 3, .goto (-30), 0, 0, 0, 0), 8, 0, 1, 9, 0, 0, 0) := rfl
theorem bt_19_179 : mm_at mt_P 19 179 = some ((179, 1, .aload_n 0, 0, 0, 0, 0), 8, 0, 1, 9, 0, 0, 0) := rfl
theorem bt_19_180 : mm_at mt_P 19 180 = some ((180, 2, .iload 6, 0, 0, 0, 0), 8, 0, 1, 9, 0, 0, 0) := rfl
theorem bt_19_182 : mm_at mt_P 19 182 = some ((182, 1, .iload_n 1, 0, 0, 0, 0), 8, 0, 1, 9, 0, 0, 0) := rfl
theorem bt_19_183 : mm_at mt_P 19 183 = some ((183, 1, .iconst 0, 0, 0, 0, 0), 8, 0, 1, 9, 0, 0, 0) := rfl
theorem bt_19_184 : mm_at mt_P 19 184 = some ((184, 2, .lload 4, 0, 0, 0, 0), 8, 0, 1, 9, 0, 0, 0) := rfl
theorem bt_19_186 : mm_at mt_P 19 186 = some ((186, 3, .invokevirtual 188, 103, 0, 0, 1461), 8, 0, 1, 9, 0, 0, 0) := rfl
theorem bt_19_189 : mm_at mt_P 19 189 = some ((189, 1, .iload_n 1, 0, 0, 0, 0), 8, 0, 1, 9, 0, 0, 0) := rfl
theorem bt_19_190 : mm_at mt_P 19 190 = some ((190, 1, .iload_n 3, 0, 0, 0, 0), 8, 0, 1, 9, 0, 0, 0) := rfl
theorem bt_19_191 : mm_at mt_P 19 191 = some ((191, 1, .iadd, 0, 0, 0, 0), 8, 0, 1, 9, 0, 0, 0) := rfl
theorem bt_19_192 : mm_at mt_P 19 192 = some ((192, 1, .istore_n 1, 0, 0, 0, 0), 8, 0, 1, 9, 0, 0, 0) := rfl
theorem bt_19_193 : mm_at mt_P 19 193 = some ((193, 3, .goto 98, 0, 0, 0, 0), 8, 0, 1, 9, 0, 0, 0) := rfl
theorem bt_19_196 : mm_at mt_P 19 196 = some ((196, 1, .iload_n 2, 0, 0, 0, 0), 8, 0, 1, 9, 0, 0, 0) := rfl
theorem bt_19_197 : mm_at mt_P 19 197 = some ((197, 3, .invokestatic 196, 48, 0, 0, 1468), 8, 0, 1, 9, 0, 0, 0) := rfl
theorem bt_19_200 : mm_at mt_P 19 200 = some ((200, 3, .ifCond .eq 75, 0, 0, 0, 0), 8, 0, 1, 9, 0, 0, 0) := rfl
theorem bt_19_203 : mm_at mt_P 19 203 = some ((203, 1, .iconst 0, 0, 0, 0, 0), 8, 0, 1, 9, 0, 0, 0) := rfl
theorem bt_19_204 : mm_at mt_P 19 204 = some ((204, 1, .istore_n 3, 0, 0, 0, 0), 8, 0, 1, 9, 0, 0, 0) := rfl
theorem bt_19_205 : mm_at mt_P 19 205 = some ((205, 1, .iconst 0, 0, 0, 0, 0), 8, 0, 1, 9, 0, 0, 0) := rfl
theorem bt_19_206 : mm_at mt_P 19 206 = some ((206, 2, .istore 4, 0, 0, 0, 0), 8, 0, 1, 9, 0, 0, 0) := rfl
theorem bt_19_208 : mm_at mt_P 19 208 = some ((208, 1, .aload_n 0, 0, 0, 0, 0), 8, 0, 1, 9, 0, 0, 0) := rfl
theorem bt_19_209 : mm_at mt_P 19 209 = some ((209, 1, .iload_n 1, 0, 0, 0, 0), 8, 0, 1, 9, 0, 0, 0) := rfl
theorem bt_19_210 : mm_at mt_P 19 210 = some ((210, 1, .iload_n 3, 0, 0, 0, 0), 8, 0, 1, 9, 0, 0, 0) := rfl
theorem bt_19_211 : mm_at mt_P 19 211 = some ((211, 1, .iadd, 0, 0, 0, 0), 8, 0, 1, 9, 0, 0, 0) := rfl
theorem bt_19_212 : mm_at mt_P 19 212 = some ((212, 3, .invokevirtual 184, 12, 0, 0, 1457), 8, 0, 1, 9, 0, 0, 0) := rfl
theorem bt_19_215 : mm_at mt_P 19 215 = some ((215, 3, .invokestatic 196, 48, 0, 0, 1468), 8, 0, 1, 9, 0, 0, 0) := rfl
theorem bt_19_218 : mm_at mt_P 19 218 = some ((218, 3, .ifCond .eq 32, 0, 0, 0, 0), 8, 0, 1, 9, 0, 0, 0) := rfl
theorem bt_19_221 : mm_at mt_P 19 221 = some ((221, 1, .iload_n 3, 0, 0, 0, 0), 8, 0, 1, 9, 0, 0, 0) := rfl
theorem bt_19_222 : mm_at mt_P 19 222 = some ((222, 1, .iconst 4, 0, 0, 0, 0), 8, 0, 1, 9, 0, 0, 0) := rfl
theorem bt_19_223 : mm_at mt_P 19 223 = some ((223, 3, .if_icmp .ge 21, 0, 0, 0, 0), 8, 0, 1, 9, 0, 0, 0) := rfl
theorem bt_19_226 : mm_at mt_P 19 226 = some ((226, 2, .bipush 10, 0, 0, 0, 0), 8, 0, 1, 9, 0, 0, 0) := rfl
theorem bt_19_228 : mm_at mt_P 19 228 = some ((228, 2, .iload 4, 0, 0, 0, 0), 8, 0, 1, 9, 0, 0, 0) := rfl
theorem bt_19_230 : mm_at mt_P 19 230 = some ((230, 1, .imul, 0, 0, 0, 0), 8, 0, 1, 9, 0, 0, 0) := rfl
theorem bt_19_231 : mm_at mt_P 19 231 = some ((231, 1, .aload_n 0, 0, 0, 0, 0), 8, 0, 1, 9, 0, 0, 0) := rfl
theorem bt_19_232 : mm_at mt_P 19 232 = some ((232, 1, .iload_n 1, 0, 0, 0, 0), 8, 0, 1, 9, 0, 0, 0) := rfl
theorem bt_19_233 : mm_at mt_P 19 233 = some ((233, 1, .iload_n 3, 0, 0, 0, 0), 8, 0, 1, 9, 0, 0, 0) := rfl
theorem bt_19_234 : mm_at mt_P 19 234 = some ((234, 1, .iadd, 0, 0, 0, 0), 8, 0, 1, 9, 0, 0, 0) := rfl
theorem bt_19_235 : mm_at mt_P 19 235 = some ((235, 3, .invokevirtual 184, 12, 0, 0, 1457), 8, 0, 1, 9, 0, 0, 0) := rfl
theorem bt_19_238 : mm_at mt_P 19 238 = some ((238, 1, .iadd, 0, 0, 0, 0), 8, 0, 1, 9, 0, 0, 0) := rfl
theorem bt_19_239 : mm_at mt_P 19 239 = some ((239, 2, .bipush 48, 0, 0, 0, 0), 8, 0, 1, 9, 0, 0, 0) := rfl
theorem bt_19_241 : mm_at mt_P 19 241 = some ((241, 1, .isub, 0, 0, 0, 0), 8, 0, 1, 9, 0, 0, 0) := rfl
theorem bt_19_242 : mm_at mt_P 19 242 = some ((242, 2, .istore 4, 0, 0, 0, 0), 8, 0, 1, 9, 0, 0, 0) := rfl
theorem bt_19_244 : mm_at mt_P 19 244 = some ((244, 3, .iinc 3 1, 0, 0, 0, 0), 8, 0, 1, 9, 0, 0, 0) := rfl
theorem bt_19_247 : mm_at mt_P 19 247 = some ((247, 3, .goto (-39), 0, 0, 0, 0), 8, 0, 1, 9, 0, 0, 0) := rfl
theorem bt_19_250 : mm_at mt_P 19 250 = some ((250, 1, .aload_n 0, 0, 0, 0, 0), 8, 0, 1, 9, 0, 0, 0) := rfl
theorem bt_19_251 : mm_at mt_P 19 251 = some ((251, 1, .iload_n 3, 0, 0, 0, 0), 8, 0, 1, 9, 0, 0, 0) := rfl
theorem bt_19_252 : mm_at mt_P 19 252 = some ((252, 1, .iconst 4, 0, 0, 0, 0), 8, 0, 1, 9, 0, 0, 0) := rfl
theorem bt_19_253 : mm_at mt_P 19 253 = some ((253, 3, .if_icmp .le 7, 0, 0, 0, 0), 8, 0, 1, 9, 0, 0, 0) := rfl
theorem bt_19_256 : mm_at mt_P 19 256 = some ((256, 1, .iconst 3, 0, 0, 0, 0), 8, 0, 1, 9, 0, 0, 0) := rfl
theorem bt_19_257 : mm_at mt_P 19 257 = some ((257, 3, .goto 4, 0, 0, 0, 0), 8, 0, 1, 9, 0, 0, 0) := rfl
theorem bt_19_260 : mm_at mt_P 19 260 = some ((260, 1, .iconst 2, 0, 0, 0, 0), 8, 0, 1, 9, 0, 0, 0) := rfl
theorem bt_19_261 : mm_at mt_P 19 261 = some ((261, 1, .iload_n 1, 0, 0, 0, 0), 8, 0, 1, 9, 0, 0, 0) := rfl
theorem bt_19_262 : mm_at mt_P 19 262 = some ((262, 2, .iload 4, 0, 0, 0, 0), 8, 0, 1, 9, 0, 0, 0) := rfl
theorem bt_19_264 : mm_at mt_P 19 264 = some ((264, 1, .lconst 0, 0, 0, 0, 0), 8, 0, 1, 9, 0, 0, 0) := rfl
theorem bt_19_265 : mm_at mt_P 19 265 = some ((265, 3, .invokevirtual 188, 103, 0, 0, 1461), 8, 0, 1, 9, 0, 0, 0) := rfl
theorem bt_19_268 : mm_at mt_P 19 268 = some ((268, 1, .iload_n 1, 0, 0, 0, 0), 8, 0, 1, 9, 0, 0, 0) := rfl
theorem bt_19_269 : mm_at mt_P 19 269 = some ((269, 1, .iload_n 3, 0, 0, 0, 0), 8, 0, 1, 9, 0, 0, 0) := rfl
theorem bt_19_270 : mm_at mt_P 19 270 = some ((270, 1, .iadd, 0, 0, 0, 0), 8, 0, 1, 9, 0, 0, 0) := rfl
theorem bt_19_271 : mm_at mt_P 19 271 = some ((271, 1, .istore_n 1, 0, 0, 0, 0), 8, 0, 1, 9, 0, 0, 0) := rfl
theorem bt_19_272 : mm_at mt_P 19 272 = some ((272, 3, .goto 19, 0, 0, 0, 0), 8, 0, 1, 9, 0, 0, 0) := rfl
theorem bt_19_275 : mm_at mt_P 19 275 = some ((275, 1, .iload_n 1, 0, 0, 0, 0), 8, 0, 1, 9, 0, 0, 0) := rfl
theorem bt_19_276 : mm_at mt_P 19 276 = some ((276, 1, .aload_n 0, 0, 0, 0, 0), 8, 0, 1, 9, 0, 0, 0) := rfl
theorem bt_19_277 : mm_at mt_P 19 277 = some ((277, 1, .iload_n 1, 0, 0, 0, 0), 8, 0, 1, 9, 0, 0, 0) := rfl
theorem bt_19_278 : mm_at mt_P 19 278 = some ((278, 1, .iload_n 2, 0, 0, 0, 0), 8, 0, 1, 9, 0, 0, 0) := rfl
theorem bt_19_279 : mm_at mt_P 19 279 = some ((279, 1, .aload_n 0, 0, 0, 0, 0), 8, 0, 1, 9, 0, 0, 0) := rfl
theorem bt_19_280 : mm_at mt_P 19 280 = some ((280, 1, .iload_n 1, 0, 0, 0, 0), 8, 0, 1, 9, 0, 0, 0) := rfl
theorem bt_19_281 : mm_at mt_P 19 281 = some ((281, 1, .iconst 1, 0, 0, 0, 0), 8, 0, 1, 9, 0, 0, 0) := rfl
theorem bt_19_282 : mm_at mt_P 19 282 = some ((282, 1, .iadd, 0, 0, 0, 0), 8, 0, 1, 9, 0, 0, 0) := rfl
theorem bt_19_283 : mm_at mt_P 19 283 = some ((283, 3, .invokevirtual 184, 12, 0, 0, 1457), 8, 0, 1, 9, 0, 0, 0) := rfl
theorem bt_19_286 : mm_at mt_P 19 286 = some ((286, 3, .invokevirtual 199, 89, 0, 0, 1471), 8, 0, 1, 9, 0, 0, 0) := rfl
theorem bt_19_289 : mm_at mt_P 19 289 = some ((289, 1, .iadd, 0, 0, 0, 0), 8, 0, 1, 9, 0, 0, 0) := rfl
theorem bt_19_290 : mm_at mt_P 19 290 = some ((290, 1, .istore_n 1, 0, 0, 0, 0), 8, 0, 1, 9, 0, 0, 0) := rfl
theorem bt_19_291 : mm_at mt_P 19 291 = some ((291, 3, .goto (-284), 0, 0, 0, 0), 8, 0, 1, 9, 0, 0, 0) := rfl
theorem bt_19_294 : mm_at mt_P 19 294 = some ((294, 1, .return_, 0, 0, 0, 0), 8, 0, 1, 9, 0, 0, 0) := rfl
theorem bt_48_0 : mm_at mt_P 48 0 = some ((0, 1, .iload_n 0, 0, 0, 0, 0), 1, 1, 0, 9, 2, 0, 0) := rfl
theorem bt_48_1 : mm_at mt_P 48 1 = some ((1, 2, .bipush 48, 0, 0, 0, 0), 1, 1, 0, 9, 2, 0, 0) := rfl
theorem bt_48_3 : mm_at mt_P 48 3 = some ((3, 3, .if_icmp .lt 13, 0, 0, 0, 0), 1, 1, 0, 9, 2, 0, 0) := rfl
theorem bt_48_6 : mm_at mt_P 48 6 = some ((6, 1, .iload_n 0, 0, 0, 0, 0), 1, 1, 0, 9, 2, 0, 0) := rfl
theorem bt_48_7 : mm_at mt_P 48 7 = some ((7, 2, .bipush 57, 0, 0, 0, 0), 1, 1, 0, 9, 2, 0, 0) := rfl
theorem bt_48_9 : mm_at mt_P 48 9 = some ((9, 3, .if_icmp .gt 7, 0, 0, 0, 0), 1, 1, 0, 9, 2, 0, 0) := rfl
theorem bt_48_12 : mm_at mt_P 48 12 = some ((12, 1, .iconst 1, 0, 0, 0, 0), 1, 1, 0, 9, 2, 0, 0) := rfl
theorem bt_48_13 : mm_at mt_P 48 13 = some ((13, 3, .goto 4, 0, 0, 0, 0), 1, 1, 0, 9, 2, 0, 0) := rfl
theorem bt_48_16 : mm_at mt_P 48 16 = some ((16, 1, .iconst 0, 0, 0, 0, 0), 1, 1, 0, 9, 2, 0, 0) := rfl
theorem bt_48_17 : mm_at mt_P 48 17 = some ((17, 1, .ireturn, 0, 0, 0, 0), 1, 1, 0, 9, 2, 0, 0) := rfl
theorem bt_50_0 : mm_at mt_P 50 0 = some ((0, 1, .iload_n 0, 0, 0, 0, 0), 1, 1, 0, 9, 2, 0, 0) := rfl
theorem bt_50_1 : mm_at mt_P 50 1 = some ((1, 2, .bipush 97, 0, 0, 0, 0), 1, 1, 0, 9, 2, 0, 0) := rfl
theorem bt_50_3 : mm_at mt_P 50 3 = some ((3, 3, .if_icmp .lt 13, 0, 0, 0, 0), 1, 1, 0, 9, 2, 0, 0) := rfl
theorem bt_50_6 : mm_at mt_P 50 6 = some ((6, 1, .iload_n 0, 0, 0, 0, 0), 1, 1, 0, 9, 2, 0, 0) := rfl
theorem bt_50_7 : mm_at mt_P 50 7 = some ((7, 2, .bipush 122, 0, 0, 0, 0), 1, 1, 0, 9, 2, 0, 0) := rfl
theorem bt_50_9 : mm_at mt_P 50 9 = some ((9, 3, .if_icmp .gt 7, 0, 0, 0, 0), 1, 1, 0, 9, 2, 0, 0) := rfl
theorem bt_50_12 : mm_at mt_P 50 12 = some ((12, 1, .iconst 1, 0, 0, 0, 0), 1, 1, 0, 9, 2, 0, 0) := rfl
theorem bt_50_13 : mm_at mt_P 50 13 = some ((13, 3, .goto 4, 0, 0, 0, 0), 1, 1, 0, 9, 2, 0, 0) := rfl
theorem bt_50_16 : mm_at mt_P 50 16 = some ((16, 1, .iconst 0, 0, 0, 0, 0), 1, 1, 0, 9, 2, 0, 0) := rfl
theorem bt_50_17 : mm_at mt_P 50 17 = some ((17, 1, .ireturn, 0, 0, 0, 0), 1, 1, 0, 9, 2, 0, 0) := rfl
theorem bt_89_0 : mm_at mt_P 89 0 = some ((0, 1, .iload_n 2, 0, 0, 0, 0), 5, 3, 1, 9, 1, 0, 0) := rfl
theorem bt_89_1 : mm_at mt_P 89 1 = some ((1, 2, .bipush 59, 0, 0, 0, 0), 5, 3, 1, 9, 1, 0, 0) := rfl
theorem bt_89_3 : mm_at mt_P 89 3 = some ((3, 3, .if_icmp .ne 7, 0, 0, 0, 0), 5, 3, 1, 9, 1, 0, 0) := rfl
theorem bt_89_6 : mm_at mt_P 89 6 = some ((6, 1, .iconst 4, 0, 0, 0, 0), 5, 3, 1, 9, 1, 0, 0) := rfl
theorem bt_89_7 : mm_at mt_P 89 7 = some ((7, 3, .goto 36, 0, 0, 0, 0), 5, 3, 1, 9, 1, 0, 0) := rfl
theorem bt_89_10 : mm_at mt_P 89 10 = some ((10, 1, .iload_n 2, 0, 0, 0, 0), 5, 3, 1, 9, 1, 0, 0) := rfl
theorem bt_89_11 : mm_at mt_P 89 11 = some ((11, 2, .bipush 61, 0, 0, 0, 0), 5, 3, 1, 9, 1, 0, 0) := rfl
theorem bt_89_13 : mm_at mt_P 89 13 = some ((13, 3, .if_icmp .ne 7, 0, 0, 0, 0), 5, 3, 1, 9, 1, 0, 0) := rfl
theorem bt_89_16 : mm_at mt_P 89 16 = some ((16, 1, .iconst 5, 0, 0, 0, 0), 5, 3, 1, 9, 1, 0, 0) := rfl
theorem bt_89_17 : mm_at mt_P 89 17 = some ((17, 3, .goto 26, 0, 0, 0, 0), 5, 3, 1, 9, 1, 0, 0) := rfl
theorem bt_89_20 : mm_at mt_P 89 20 = some ((20, 1, .iload_n 2, 0, 0, 0, 0), 5, 3, 1, 9, 1, 0, 0) := rfl
theorem bt_89_21 : mm_at mt_P 89 21 = some ((21, 2, .bipush 40, 0, 0, 0, 0), 5, 3, 1, 9, 1, 0, 0) := rfl
theorem bt_89_23 : mm_at mt_P 89 23 = some ((23, 3, .if_icmp .ne 8, 0, 0, 0, 0), 5, 3, 1, 9, 1, 0, 0) := rfl
theorem bt_89_26 : mm_at mt_P 89 26 = some ((26, 2, .bipush 6, 0, 0, 0, 0), 5, 3, 1, 9, 1, 0, 0) := rfl
theorem bt_89_28 : mm_at mt_P 89 28 = some ((28, 3, .goto 15, 0, 0, 0, 0), 5, 3, 1, 9, 1, 0, 0) := rfl
theorem bt_89_31 : mm_at mt_P 89 31 = some ((31, 1, .iload_n 2, 0, 0, 0, 0), 5, 3, 1, 9, 1, 0, 0) := rfl
theorem bt_89_32 : mm_at mt_P 89 32 = some ((32, 2, .bipush 41, 0, 0, 0, 0), 5, 3, 1, 9, 1, 0, 0) := rfl
theorem bt_89_34 : mm_at mt_P 89 34 = some ((34, 3, .if_icmp .ne 8, 0, 0, 0, 0), 5, 3, 1, 9, 1, 0, 0) := rfl
theorem bt_89_37 : mm_at mt_P 89 37 = some ((37, 2, .bipush 7, 0, 0, 0, 0), 5, 3, 1, 9, 1, 0, 0) := rfl
theorem bt_89_39 : mm_at mt_P 89 39 = some ((39, 3, .goto 4, 0, 0, 0, 0), 5, 3, 1, 9, 1, 0, 0) := rfl
theorem bt_89_42 : mm_at mt_P 89 42 = some ((42, 1, .iconst 3, 0, 0, 0, 0), 5, 3, 1, 9, 1, 0, 0) := rfl
theorem bt_89_43 : mm_at mt_P 89 43 = some ((43, 2, .istore 4, 0, 0, 0, 0), 5, 3, 1, 9, 1, 0, 0) := rfl
theorem bt_89_45 : mm_at mt_P 89 45 = some ((45, 1, .iload_n 2, 0, 0, 0, 0), 5, 3, 1, 9, 1, 0, 0) := rfl
theorem bt_89_46 : mm_at mt_P 89 46 = some ((46, 2, .bipush 43, 0, 0, 0, 0), 5, 3, 1, 9, 1, 0, 0) := rfl
theorem bt_89_48 : mm_at mt_P 89 48 = some ((48, 3, .if_icmp .ne 7, 0, 0, 0, 0), 5, 3, 1, 9, 1, 0, 0) := rfl
theorem bt_89_51 : mm_at mt_P 89 51 = some ((51, 2, .bipush 8, 0, 0, 0, 0), 5, 3, 1, 9, 1, 0, 0) := rfl
theorem bt_89_53 : mm_at mt_P 89 53 = some ((53, 2, .istore 4, 0, 0, 0, 0), 5, 3, 1, 9, 1, 0, 0) := rfl
theorem bt_89_55 : mm_at mt_P 89 55 = some ((55, 1, .iload_n 2, 0, 0, 0, 0), 5, 3, 1, 9, 1, 0, 0) := rfl
theorem bt_89_56 : mm_at mt_P 89 56 = some ((56, 2, .bipush 45, 0, 0, 0, 0), 5, 3, 1, 9, 1, 0, 0) := rfl
theorem bt_89_58 : mm_at mt_P 89 58 = some ((58, 3, .if_icmp .ne 7, 0, 0, 0, 0), 5, 3, 1, 9, 1, 0, 0) := rfl
theorem bt_89_61 : mm_at mt_P 89 61 = some ((61, 2, .bipush 9, 0, 0, 0, 0), 5, 3, 1, 9, 1, 0, 0) := rfl
theorem bt_89_63 : mm_at mt_P 89 63 = some ((63, 2, .istore 4, 0, 0, 0, 0), 5, 3, 1, 9, 1, 0, 0) := rfl
theorem bt_89_65 : mm_at mt_P 89 65 = some ((65, 1, .iload_n 2, 0, 0, 0, 0), 5, 3, 1, 9, 1, 0, 0) := rfl
theorem bt_89_66 : mm_at mt_P 89 66 = some ((66, 2, .bipush 42, 0, 0, 0, 0), 5, 3, 1, 9, 1, 0, 0) := rfl
theorem bt_89_68 : mm_at mt_P 89 68 = some ((68, 3, .if_icmp .ne 7, 0, 0, 0, 0), 5, 3, 1, 9, 1, 0, 0) := rfl
theorem bt_89_71 : mm_at mt_P 89 71 = some ((71, 2, .bipush 10, 0, 0, 0, 0), 5, 3, 1, 9, 1, 0, 0) := rfl
theorem bt_89_73 : mm_at mt_P 89 73 = some ((73, 2, .istore 4, 0, 0, 0, 0), 5, 3, 1, 9, 1, 0, 0) := rfl
theorem bt_89_75 : mm_at mt_P 89 75 = some ((75, 1, .iload_n 2, 0, 0, 0, 0), 5, 3, 1, 9, 1, 0, 0) := rfl
theorem bt_89_76 : mm_at mt_P 89 76 = some ((76, 2, .bipush 47, 0, 0, 0, 0), 5, 3, 1, 9, 1, 0, 0) := rfl
theorem bt_89_78 : mm_at mt_P 89 78 = some ((78, 3, .if_icmp .ne 7, 0, 0, 0, 0), 5, 3, 1, 9, 1, 0, 0) := rfl
theorem bt_89_81 : mm_at mt_P 89 81 = some ((81, 2, .bipush 15, 0, 0, 0, 0), 5, 3, 1, 9, 1, 0, 0) := rfl
theorem bt_89_83 : mm_at mt_P 89 83 = some ((83, 2, .istore 4, 0, 0, 0, 0), 5, 3, 1, 9, 1, 0, 0) := rfl
theorem bt_89_85 : mm_at mt_P 89 85 = some ((85, 1, .iload_n 2, 0, 0, 0, 0), 5, 3, 1, 9, 1, 0, 0) := rfl
theorem bt_89_86 : mm_at mt_P 89 86 = some ((86, 2, .bipush 60, 0, 0, 0, 0), 5, 3, 1, 9, 1, 0, 0) := rfl
theorem bt_89_88 : mm_at mt_P 89 88 = some ((88, 3, .if_icmp .ne 7, 0, 0, 0, 0), 5, 3, 1, 9, 1, 0, 0) := rfl
theorem bt_89_91 : mm_at mt_P 89 91 = some ((91, 2, .bipush 13, 0, 0, 0, 0), 5, 3, 1, 9, 1, 0, 0) := rfl
theorem bt_89_93 : mm_at mt_P 89 93 = some ((93, 2, .istore 4, 0, 0, 0, 0), 5, 3, 1, 9, 1, 0, 0) := rfl
theorem bt_89_95 : mm_at mt_P 89 95 = some ((95, 1, .aload_n 0, 0, 0, 0, 0), 5, 3, 1, 9, 1, 0, 0) := rfl
theorem bt_89_96 : mm_at mt_P 89 96 = some ((96, 2, .iload 4, 0, 0, 0, 0), 5, 3, 1, 9, 1, 0, 0) := rfl
theorem bt_89_98 : mm_at mt_P 89 98 = some ((98, 1, .iload_n 1, 0, 0, 0, 0), 5, 3, 1, 9, 1, 0, 0) := rfl
theorem bt_89_99 : mm_at mt_P 89 99 = some ((99, 1, .iconst 0, 0, 0, 0, 0), 5, 3, 1, 9, 1, 0, 0) := rfl
theorem bt_89_100 : mm_at mt_P 89 100 = some ((100, 1, .lconst 0, 0, 0, 0, 0), 5, 3, 1, 9, 1, 0, 0) := rfl
theorem bt_89_101 : mm_at mt_P 89 101 = some ((101, 3, .invokevirtual 188, 103, 0, 0, 1461), 5, 3, 1, 9, 1, 0, 0) := rfl
theorem bt_89_104 : mm_at mt_P 89 104 = some ((104, 1, .iconst 1, 0, 0, 0, 0), 5, 3, 1, 9, 1, 0, 0) := rfl
theorem bt_89_105 : mm_at mt_P 89 105 = some ((105, 1, .ireturn, 0, 0, 0, 0), 5, 3, 1, 9, 1, 0, 0) := rfl
theorem bt_103_0 : mm_at mt_P 103 0 = some ((0, 1, .aload_n 0, 0, 0, 0, 0), 6, 4, 1, 9, 0, 0, 0) := rfl
theorem bt_103_1 : mm_at mt_P 103 1 = some ((1, 3, .getfield 20, 9, 5, 0, 1222), 6, 4, 1, 9, 0, 0, 0) := rfl
theorem bt_103_4 : mm_at mt_P 103 4 = some ((4, 1, .aload_n 0, 0, 0, 0, 0), 6, 4, 1, 9, 0, 0, 0) := rfl
theorem bt_103_5 : mm_at mt_P 103 5 = some ((5, 3, .getfield 181, 9, 10, 0, 1227), 6, 4, 1, 9, 0, 0, 0) := rfl
theorem bt_103_8 : mm_at mt_P 103 8 = some ((8, 1, .iload_n 1, 0, 0, 0, 0), 6, 4, 1, 9, 0, 0, 0) := rfl
theorem bt_103_9 : mm_at mt_P 103 9 = some ((9, 1, .iastore, 0, 0, 0, 0), 6, 4, 1, 9, 0, 0, 0) := rfl
theorem bt_103_10 : mm_at mt_P 103 10 = some ((10, 1, .aload_n 0, 0, 0, 0, 0), 6, 4, 1, 9, 0, 0, 0) := rfl
theorem bt_103_11 : mm_at mt_P 103 11 = some ((11, 3, .getfield 24, 9, 6, 0, 1223), 6, 4, 1, 9, 0, 0, 0) := rfl
theorem bt_103_14 : mm_at mt_P 103 14 = some ((14, 1, .aload_n 0, 0, 0, 0, 0), 6, 4, 1, 9, 0, 0, 0) := rfl
theorem bt_103_15 : mm_at mt_P 103 15 = some ((15, 3, .getfield 181, 9, 10, 0, 1227), 6, 4, 1, 9, 0, 0, 0) := rfl
theorem bt_103_18 : mm_at mt_P 103 18 = some ((18, 1, .iload_n 2, 0, 0, 0, 0), 6, 4, 1, 9, 0, 0, 0) := rfl
theorem bt_103_19 : mm_at mt_P 103 19 = some ((19, 1, .iastore, 0, 0, 0, 0), 6, 4, 1, 9, 0, 0, 0) := rfl
theorem bt_103_20 : mm_at mt_P 103 20 = some ((20, 1, .aload_n 0, 0, 0, 0, 0), 6, 4, 1, 9, 0, 0, 0) := rfl
theorem bt_103_21 : mm_at mt_P 103 21 = some ((21, 3, .getfield 27, 9, 7, 0, 1224), 6, 4, 1, 9, 0, 0, 0) := rfl
theorem bt_103_24 : mm_at mt_P 103 24 = some ((24, 1, .aload_n 0, 0, 0, 0, 0), 6, 4, 1, 9, 0, 0, 0) := rfl
theorem bt_103_25 : mm_at mt_P 103 25 = some ((25, 3, .getfield 181, 9, 10, 0, 1227), 6, 4, 1, 9, 0, 0, 0) := rfl
theorem bt_103_28 : mm_at mt_P 103 28 = some ((28, 1, .iload_n 3, 0, 0, 0, 0), 6, 4, 1, 9, 0, 0, 0) := rfl
theorem bt_103_29 : mm_at mt_P 103 29 = some ((29, 1, .iastore, 0, 0, 0, 0), 6, 4, 1, 9, 0, 0, 0) := rfl
theorem bt_103_30 : mm_at mt_P 103 30 = some ((30, 1, .aload_n 0, 0, 0, 0, 0), 6, 4, 1, 9, 0, 0, 0) := rfl
theorem bt_103_31 : mm_at mt_P 103 31 = some ((31, 3, .getfield 30, 9, 8, 0, 1225), 6, 4, 1, 9, 0, 0, 0) := rfl
theorem bt_103_34 : mm_at mt_P 103 34 = some ((34, 1, .aload_n 0, 0, 0, 0, 0), 6, 4, 1, 9, 0, 0, 0) := rfl
theorem bt_103_35 : mm_at mt_P 103 35 = some ((35, 3, .getfield 181, 9, 10, 0, 1227), 6, 4, 1, 9, 0, 0, 0) := rfl
theorem bt_103_38 : mm_at mt_P 103 38 = some ((38, 2, .lload 4, 0, 0, 0, 0), 6, 4, 1, 9, 0, 0, 0) := rfl
theorem bt_103_40 : mm_at mt_P 103 40 = some ((40, 1, .lastore, 0, 0, 0, 0), 6, 4, 1, 9, 0, 0, 0) := rfl
theorem bt_103_41 : mm_at mt_P 103 41 = some ((41, 1, .aload_n 0, 0, 0, 0, 0), 6, 4, 1, 9, 0, 0, 0) := rfl
theorem bt_103_42 : mm_at mt_P 103 42 = some ((42, 1, .dup, 0, 0, 0, 0), 6, 4, 1, 9, 0, 0, 0) := rfl
theorem bt_103_43 : mm_at mt_P 103 43 = some ((43, 3, .getfield 181, 9, 10, 0, 1227), 6, 4, 1, 9, 0, 0, 0) := rfl
theorem bt_103_46 : mm_at mt_P 103 46 = some ((46, 1, .iconst 1, 0, 0, 0, 0), 6, 4, 1, 9, 0, 0, 0) := rfl
theorem bt_103_47 : mm_at mt_P 103 47 = some ((47, 1, .iadd, 0, 0, 0, 0), 6, 4, 1, 9, 0, 0, 0) := rfl
theorem bt_103_48 : mm_at mt_P 103 48 = some ((48, 3, .putfield 181, 9, 10, 0, 1227), 6, 4, 1, 9, 0, 0, 0) := rfl
theorem bt_103_51 : mm_at mt_P 103 51 = some ((51, 1, .return_, 0, 0, 0, 0), 6, 4, 1, 9, 0, 0, 0) := rfl
section BX
variable {E : mm_E} {FIN : mm_C → Prop} {h0 h : mm_H} {s : Nat → Int32} {A : Nat → Nat → Int32} {L : Nat → Nat → Int64} {gs : List mm_F}
theorem sp_12 {i z : Int32} (hP : bh_P bx_T E h0 h s A L) (hz : s 4 = z) (b1 : 0 ≤ i.toInt) (b2 : z.toInt ≤ 2000) (kk : ∀ r : Int32, r.toInt = (rd_byte A z i).toInt → (z.toInt ≤ i.toInt → r.toInt = 0) → bh_G E FIN (mm_back (some (.int r)) gs h)) : bh_G E FIN ((12, 0, [(0, .ref (E.1 + 88)), (1, .int i)], [], 0, 0) :: gs, h, none) := by
  refine bh_ld (pc' := 1) bt_12_0 rfl rfl (fun _ _ _ => rfl) rfl rfl ?_
  refine bh_ld (pc' := 2) bt_12_1 rfl rfl (fun _ _ _ => rfl) rfl rfl ?_
  refine bh_gi (pc' := 5) bt_12_2 rfl rfl (fun _ _ _ => rfl) hP bx_i4 hz ?_
  refine bh_ic (pc' := 8) (pt := 21) bt_12_5 rfl rfl (fun k2695 => ?_) (fun k2695 => ?_)
  · replace k2695 : (z).toInt ≤ (i).toInt := k2695
    refine bh_c (pc' := 22) (n := 0) bt_12_21 rfl rfl (fun _ _ _ => rfl) (by decide) (fun c2696 e2697 => ?_)
    refine bh_ri bt_12_22 ?_
    refine kk _ ?_ (by omega)
    unfold rd_byte
    rw [if_pos (by omega)]
    rw [e2697]
    rfl
  · replace k2695 : ¬ ((z).toInt ≤ (i).toInt) := k2695
    refine bh_ld (pc' := 9) bt_12_8 rfl rfl (fun _ _ _ => rfl) rfl rfl ?_
    refine bh_gr (pc' := 12) (c := 90) bt_12_9 rfl rfl (fun _ _ _ => rfl) hP bx_r3 ?_
    refine bh_ld (pc' := 13) bt_12_12 rfl rfl (fun _ _ _ => rfl) rfl rfl ?_
    refine bh_ia (pc' := 14) bt_12_13 rfl rfl (fun _ _ _ => rfl) hP bx_a90 (Or.inl rfl) (by omega) (by omega) ?_
    refine bh_c (pc' := 17) (n := 255) bt_12_14 rfl rfl (fun _ _ _ => rfl) (by decide) (fun c2698 e2699 => ?_)
    refine bh_bin (pc' := 18) (v := (A 90 (i).toInt.toNat) &&& c2698) bt_12_17 rfl rfl (fun _ _ _ => rfl) rfl ?_
    refine bh_go (pc' := 22) bt_12_18 rfl ?_
    refine bh_ri bt_12_22 ?_
    have ec : c2698 = 255 := Int32.toInt_inj.mp (by rw [e2699]; rfl)
    refine kk _ ?_ (by omega)
    unfold rd_byte
    rw [if_neg (by omega), ec]
theorem sp_50 {c : Int32} (kk : ∀ r : Int32, (r.toInt = 0 ∨ r.toInt = 1) → (r.toInt ≠ 0 → 97 ≤ c.toInt ∧ c.toInt ≤ 122) → bh_G E FIN (mm_back (some (.int r)) gs h)) : bh_G E FIN ((50, 0, [(0, .int c)], [], 0, 0) :: gs, h, none) := by
  refine bh_ld (pc' := 1) bt_50_0 rfl rfl (fun _ _ _ => rfl) rfl rfl ?_
  refine bh_c (pc' := 3) (n := 97) bt_50_1 rfl rfl (fun _ _ _ => rfl) (by decide) (fun c2702 e2703 => ?_)
  refine bh_ic (pc' := 6) (pt := 16) bt_50_3 rfl rfl (fun k2704 => ?_) (fun k2704 => ?_)
  · replace k2704 : (c).toInt < (c2702).toInt := k2704
    refine bh_c (pc' := 17) (n := 0) bt_50_16 rfl rfl (fun _ _ _ => rfl) (by decide) (fun c2705 e2706 => ?_)
    refine bh_rb bt_50_17 (by omega) ?_
    exact kk _ (by omega) (by omega)
  · replace k2704 : ¬ ((c).toInt < (c2702).toInt) := k2704
    refine bh_ld (pc' := 7) bt_50_6 rfl rfl (fun _ _ _ => rfl) rfl rfl ?_
    refine bh_c (pc' := 9) (n := 122) bt_50_7 rfl rfl (fun _ _ _ => rfl) (by decide) (fun c2707 e2708 => ?_)
    refine bh_ic (pc' := 12) (pt := 16) bt_50_9 rfl rfl (fun k2709 => ?_) (fun k2709 => ?_)
    · replace k2709 : (c2707).toInt < (c).toInt := k2709
      refine bh_c (pc' := 17) (n := 0) bt_50_16 rfl rfl (fun _ _ _ => rfl) (by decide) (fun c2710 e2711 => ?_)
      refine bh_rb bt_50_17 (by omega) ?_
      exact kk _ (by omega) (by omega)
    · replace k2709 : ¬ ((c2707).toInt < (c).toInt) := k2709
      refine bh_c (pc' := 13) (n := 1) bt_50_12 rfl rfl (fun _ _ _ => rfl) (by decide) (fun c2712 e2713 => ?_)
      refine bh_go (pc' := 17) bt_50_13 rfl ?_
      refine bh_rb bt_50_17 (by omega) ?_
      exact kk _ (by omega) (by omega)
theorem sp_48 {c : Int32} (kk : ∀ r : Int32, (r.toInt = 0 ∨ r.toInt = 1) → (r.toInt ≠ 0 → 48 ≤ c.toInt ∧ c.toInt ≤ 57) → bh_G E FIN (mm_back (some (.int r)) gs h)) : bh_G E FIN ((48, 0, [(0, .int c)], [], 0, 0) :: gs, h, none) := by
  refine bh_ld (pc' := 1) bt_48_0 rfl rfl (fun _ _ _ => rfl) rfl rfl ?_
  refine bh_c (pc' := 3) (n := 48) bt_48_1 rfl rfl (fun _ _ _ => rfl) (by decide) (fun c2714 e2715 => ?_)
  refine bh_ic (pc' := 6) (pt := 16) bt_48_3 rfl rfl (fun k2716 => ?_) (fun k2716 => ?_)
  · replace k2716 : (c).toInt < (c2714).toInt := k2716
    refine bh_c (pc' := 17) (n := 0) bt_48_16 rfl rfl (fun _ _ _ => rfl) (by decide) (fun c2717 e2718 => ?_)
    refine bh_rb bt_48_17 (by omega) ?_
    exact kk _ (by omega) (by omega)
  · replace k2716 : ¬ ((c).toInt < (c2714).toInt) := k2716
    refine bh_ld (pc' := 7) bt_48_6 rfl rfl (fun _ _ _ => rfl) rfl rfl ?_
    refine bh_c (pc' := 9) (n := 57) bt_48_7 rfl rfl (fun _ _ _ => rfl) (by decide) (fun c2719 e2720 => ?_)
    refine bh_ic (pc' := 12) (pt := 16) bt_48_9 rfl rfl (fun k2721 => ?_) (fun k2721 => ?_)
    · replace k2721 : (c2719).toInt < (c).toInt := k2721
      refine bh_c (pc' := 17) (n := 0) bt_48_16 rfl rfl (fun _ _ _ => rfl) (by decide) (fun c2722 e2723 => ?_)
      refine bh_rb bt_48_17 (by omega) ?_
      exact kk _ (by omega) (by omega)
    · replace k2721 : ¬ ((c2719).toInt < (c).toInt) := k2721
      refine bh_c (pc' := 13) (n := 1) bt_48_12 rfl rfl (fun _ _ _ => rfl) (by decide) (fun c2724 e2725 => ?_)
      refine bh_go (pc' := 17) bt_48_13 rfl ?_
      refine bh_rb bt_48_17 (by omega) ?_
      exact kk _ (by omega) (by omega)
theorem sp_2 {x : Int64} {c : Int32} (kk : ∀ x' : Int64, bh_G E FIN (mm_back (some (.long x')) gs h)) : bh_G E FIN ((2, 0, [(0, .long x), (2, .int c)], [], 0, 0) :: gs, h, none) := by
  refine bh_ld (pc' := 1) bt_2_0 rfl rfl (fun _ _ _ => rfl) rfl rfl ?_
  refine bh_i0 (pc' := 4) (pt := 8) bt_2_1 rfl rfl (fun k2726 => ?_) (fun k2726 => ?_)
  · replace k2726 : (c).toInt ≠ 0 := k2726
    refine bh_cL (pc' := 11) bt_2_8 rfl rfl (fun _ _ _ => rfl) (fun x2727 => ?_)
    refine bh_ld (pc' := 12) bt_2_11 rfl rfl (fun _ _ _ => rfl) rfl rfl ?_
    refine bh_lmul (pc' := 13) bt_2_12 rfl (fun x2728 => ?_)
    refine bh_ld (pc' := 14) bt_2_13 rfl rfl (fun _ _ _ => rfl) rfl rfl ?_
    refine bh_c (pc' := 16) (n := 97) bt_2_14 rfl rfl (fun _ _ _ => rfl) (by decide) (fun c2729 e2730 => ?_)
    refine bh_subA (pc' := 17) bt_2_16 rfl (fun v2731 => ?_)
    refine bh_c (pc' := 18) (n := 1) bt_2_17 rfl rfl (fun _ _ _ => rfl) (by decide) (fun c2733 e2734 => ?_)
    refine bh_addA (pc' := 19) bt_2_18 rfl (fun v2735 => ?_)
    refine bh_i2l (pc' := 20) bt_2_19 rfl (fun x2737 => ?_)
    refine bh_ladd (pc' := 21) bt_2_20 rfl (fun x2738 => ?_)
    refine bh_rl bt_2_21 ?_
    exact kk _
  · replace k2726 : ¬ ((c).toInt ≠ 0) := k2726
    refine bh_ld (pc' := 5) bt_2_4 rfl rfl (fun _ _ _ => rfl) rfl rfl ?_
    refine bh_go (pc' := 21) bt_2_5 rfl ?_
    refine bh_rl bt_2_21 ?_
    exact kk _
theorem sp_103 {k w v n : Int32} {x : Int64} (hP : bh_P bx_T E h0 h s A L) (hn : s 10 = n) (b1 : 0 ≤ n.toInt) (b2 : n.toInt ≤ 402) (hk0 : 0 ≤ k.toInt) (hk1 : k.toInt ≤ 43) (hq : ∀ j, j < 403 → 0 ≤ (A 91 j).toInt ∧ (A 91 j).toInt ≤ 43) (kk : (∀ (h' : mm_H) (s' : Nat → Int32) (A' : Nat → Nat → Int32) (L' : Nat → Nat → Int64), bh_P bx_T E h0 h' s' A' L' → (∀ j, j ≠ 10 → s' j = s j) → (∀ k j, (k < 91 ∨ 93 < k) → A' k j = A k j) → (∀ j, j < 403 → 0 ≤ (A' 91 j).toInt ∧ (A' 91 j).toInt ≤ 43) → (s' 10).toInt = n.toInt + 1 → bh_G E FIN (mm_back none gs h'))) : bh_G E FIN ((103, 0, [(0, .ref (E.1 + 88)), (1, .int k), (2, .int w), (3, .int v), (4, .long x)], [], 0, 0) :: gs, h, none) := by
  refine bh_ld (pc' := 1) bt_103_0 rfl rfl (fun _ _ _ => rfl) rfl rfl ?_
  refine bh_gr (pc' := 4) (c := 91) bt_103_1 rfl rfl (fun _ _ _ => rfl) hP bx_r5 ?_
  refine bh_ld (pc' := 5) bt_103_4 rfl rfl (fun _ _ _ => rfl) rfl rfl ?_
  refine bh_gi (pc' := 8) bt_103_5 rfl rfl (fun _ _ _ => rfl) hP bx_i10 hn ?_
  refine bh_ld (pc' := 9) bt_103_8 rfl rfl (fun _ _ _ => rfl) rfl rfl ?_
  refine bh_ias (pc' := 10) bt_103_9 rfl rfl (fun _ _ _ => rfl) hP bx_a91 (Or.inl rfl) (by omega) (by omega) (fun h2739 hP2740 => ?_)
  refine bh_ld (pc' := 11) bt_103_10 rfl rfl (fun _ _ _ => rfl) rfl rfl ?_
  refine bh_gr (pc' := 14) (c := 92) bt_103_11 rfl rfl (fun _ _ _ => rfl) hP2740 bx_r6 ?_
  refine bh_ld (pc' := 15) bt_103_14 rfl rfl (fun _ _ _ => rfl) rfl rfl ?_
  refine bh_gi (pc' := 18) bt_103_15 rfl rfl (fun _ _ _ => rfl) hP2740 bx_i10 hn ?_
  refine bh_ld (pc' := 19) bt_103_18 rfl rfl (fun _ _ _ => rfl) rfl rfl ?_
  refine bh_ias (pc' := 20) bt_103_19 rfl rfl (fun _ _ _ => rfl) hP2740 bx_a92 (Or.inl rfl) (by omega) (by omega) (fun h2741 hP2742 => ?_)
  refine bh_ld (pc' := 21) bt_103_20 rfl rfl (fun _ _ _ => rfl) rfl rfl ?_
  refine bh_gr (pc' := 24) (c := 93) bt_103_21 rfl rfl (fun _ _ _ => rfl) hP2742 bx_r7 ?_
  refine bh_ld (pc' := 25) bt_103_24 rfl rfl (fun _ _ _ => rfl) rfl rfl ?_
  refine bh_gi (pc' := 28) bt_103_25 rfl rfl (fun _ _ _ => rfl) hP2742 bx_i10 hn ?_
  refine bh_ld (pc' := 29) bt_103_28 rfl rfl (fun _ _ _ => rfl) rfl rfl ?_
  refine bh_ias (pc' := 30) bt_103_29 rfl rfl (fun _ _ _ => rfl) hP2742 bx_a93 (Or.inl rfl) (by omega) (by omega) (fun h2743 hP2744 => ?_)
  refine bh_ld (pc' := 31) bt_103_30 rfl rfl (fun _ _ _ => rfl) rfl rfl ?_
  refine bh_gr (pc' := 34) (c := 94) bt_103_31 rfl rfl (fun _ _ _ => rfl) hP2744 bx_r8 ?_
  refine bh_ld (pc' := 35) bt_103_34 rfl rfl (fun _ _ _ => rfl) rfl rfl ?_
  refine bh_gi (pc' := 38) bt_103_35 rfl rfl (fun _ _ _ => rfl) hP2744 bx_i10 hn ?_
  refine bh_ld (pc' := 40) bt_103_38 rfl rfl (fun _ _ _ => rfl) rfl rfl ?_
  refine bh_las (pc' := 41) bt_103_40 rfl rfl (fun _ _ _ => rfl) hP2744 bx_l94 (by omega) (by omega) (fun h2745 L2747 hP2746 => ?_)
  refine bh_ld (pc' := 42) bt_103_41 rfl rfl (fun _ _ _ => rfl) rfl rfl ?_
  refine bh_dup (pc' := 43) bt_103_42 rfl rfl ?_
  refine bh_gi (pc' := 46) bt_103_43 rfl rfl (fun _ _ _ => rfl) hP2746 bx_i10 hn ?_
  refine bh_c (pc' := 47) (n := 1) bt_103_46 rfl rfl (fun _ _ _ => rfl) (by decide) (fun c2748 e2749 => ?_)
  refine bh_add (pc' := 48) bt_103_47 rfl (by omega) (by omega) (fun v2750 e2751 => ?_)
  refine bh_pf (pc' := 51) bt_103_48 rfl rfl (fun _ _ _ => rfl) hP2746 bx_i10 rfl (fun h2752 s2753 hP2754 e2755 f2756 => ?_)
  refine bh_rv bt_103_51 ?_
  have hh : ∀ j, j < 403 → 0 ≤ ((bh_up (bh_up (bh_up A 91 (n).toInt.toNat (mm_nar 0 k)) 92 (n).toInt.toNat (mm_nar 0 w)) 93 (n).toInt.toNat (mm_nar 0 v)) 91 j).toInt ∧ ((bh_up (bh_up (bh_up A 91 (n).toInt.toNat (mm_nar 0 k)) 92 (n).toInt.toNat (mm_nar 0 w)) 93 (n).toInt.toNat (mm_nar 0 v)) 91 j).toInt ≤ 43 := by
    intro j hj
    by_cases e : j = n.toInt.toNat
    · have v : ((bh_up (bh_up (bh_up A 91 (n).toInt.toNat (mm_nar 0 k)) 92 (n).toInt.toNat (mm_nar 0 w)) 93 (n).toInt.toNat (mm_nar 0 v)) 91 j).toInt = k.toInt := by
        rw [e, bh_up_o (Or.inl (by decide)), bh_up_o (Or.inl (by decide)), bh_up_i]
        rfl
      omega
    · rw [bh_up_o (Or.inl (by decide)), bh_up_o (Or.inl (by decide)), bh_up_j e]
      exact hq j hj
  have z10 := congrArg Int32.toInt e2755
  exact kk _ _ _ _ hP2754 (fun j j10 => (f2756 j j10)) (fun k' j u => (bh_up_o (by omega)).trans ((bh_up_o (by omega)).trans (bh_up_o (by omega)))) hh (by omega)
set_option maxHeartbeats 40000000 in
theorem sp_89 {i c d n : Int32} (hP : bh_P bx_T E h0 h s A L) (hd : gs.length + 1 ≤ 999) (hn : s 10 = n) (b1 : 0 ≤ n.toInt) (b2 : n.toInt ≤ 402) (hq : ∀ j, j < 403 → 0 ≤ (A 91 j).toInt ∧ (A 91 j).toInt ≤ 43) (kk : ∀ (h' : mm_H) (s' : Nat → Int32) (A' : Nat → Nat → Int32) (L' : Nat → Nat → Int64) (r : Int32), bh_P bx_T E h0 h' s' A' L' → (∀ j, j ≠ 10 → s' j = s j) → (∀ k j, (k < 91 ∨ 93 < k) → A' k j = A k j) → (∀ j, j < 403 → 0 ≤ (A' 91 j).toInt ∧ (A' 91 j).toInt ≤ 43) → (s' 10).toInt = n.toInt + 1 → r.toInt = 1 → bh_G E FIN (mm_back (some (.int r)) gs h')) : bh_G E FIN ((89, 0, [(0, .ref (E.1 + 88)), (1, .int i), (2, .int c), (3, .int d)], [], 0, 0) :: gs, h, none) := by
  refine bh_ld (pc' := 1) bt_89_0 rfl rfl (fun _ _ _ => rfl) rfl rfl ?_
  refine bh_c (pc' := 3) (n := 59) bt_89_1 rfl rfl (fun _ _ _ => rfl) (by decide) (fun c2757 e2758 => ?_)
  refine bh_ic (pc' := 6) (pt := 10) bt_89_3 rfl rfl (fun k2759 => ?_) (fun k2759 => ?_)
  · replace k2759 : (c).toInt ≠ (c2757).toInt := k2759
    refine bh_ld (pc' := 11) bt_89_10 rfl rfl (fun _ _ _ => rfl) rfl rfl ?_
    refine bh_c (pc' := 13) (n := 61) bt_89_11 rfl rfl (fun _ _ _ => rfl) (by decide) (fun c2760 e2761 => ?_)
    refine bh_ic (pc' := 16) (pt := 20) bt_89_13 rfl rfl (fun k2762 => ?_) (fun k2762 => ?_)
    · replace k2762 : (c).toInt ≠ (c2760).toInt := k2762
      refine bh_ld (pc' := 21) bt_89_20 rfl rfl (fun _ _ _ => rfl) rfl rfl ?_
      refine bh_c (pc' := 23) (n := 40) bt_89_21 rfl rfl (fun _ _ _ => rfl) (by decide) (fun c2763 e2764 => ?_)
      refine bh_ic (pc' := 26) (pt := 31) bt_89_23 rfl rfl (fun k2765 => ?_) (fun k2765 => ?_)
      · replace k2765 : (c).toInt ≠ (c2763).toInt := k2765
        refine bh_ld (pc' := 32) bt_89_31 rfl rfl (fun _ _ _ => rfl) rfl rfl ?_
        refine bh_c (pc' := 34) (n := 41) bt_89_32 rfl rfl (fun _ _ _ => rfl) (by decide) (fun c2766 e2767 => ?_)
        refine bh_ic (pc' := 37) (pt := 42) bt_89_34 rfl rfl (fun k2768 => ?_) (fun k2768 => ?_)
        · replace k2768 : (c).toInt ≠ (c2766).toInt := k2768
          refine bh_c (pc' := 43) (n := 3) bt_89_42 rfl rfl (fun _ _ _ => rfl) (by decide) (fun c2769 e2770 => ?_)
          refine bh_st (pc' := 45) bt_89_43 rfl rfl (fun _ _ _ => rfl) rfl (by decide) (by decide) (fun lv2771 F2772 g2773 => ?_)
          have g2774 := F2772 0 (.ref (E.1 + 88)) rfl (by decide) (Or.inl rfl)
          have g2775 := F2772 1 (.int i) rfl (by decide) (Or.inl rfl)
          have g2776 := F2772 2 (.int c) rfl (by decide) (Or.inl rfl)
          have g2777 := F2772 3 (.int d) rfl (by decide) (Or.inl rfl)
          refine bh_ld (pc' := 46) bt_89_45 rfl rfl (fun _ _ _ => rfl) g2776 rfl ?_
          refine bh_c (pc' := 48) (n := 43) bt_89_46 rfl rfl (fun _ _ _ => rfl) (by decide) (fun c2778 e2779 => ?_)
          refine bh_ic (pc' := 51) (pt := 55) bt_89_48 rfl rfl (fun k2780 => ?_) (fun k2780 => ?_)
          · replace k2780 : (c).toInt ≠ (c2778).toInt := k2780
            refine bh_ld (pc' := 56) bt_89_55 rfl rfl (fun _ _ _ => rfl) g2776 rfl ?_
            refine bh_c (pc' := 58) (n := 45) bt_89_56 rfl rfl (fun _ _ _ => rfl) (by decide) (fun c2781 e2782 => ?_)
            refine bh_ic (pc' := 61) (pt := 65) bt_89_58 rfl rfl (fun k2783 => ?_) (fun k2783 => ?_)
            · replace k2783 : (c).toInt ≠ (c2781).toInt := k2783
              refine bh_ld (pc' := 66) bt_89_65 rfl rfl (fun _ _ _ => rfl) g2776 rfl ?_
              refine bh_c (pc' := 68) (n := 42) bt_89_66 rfl rfl (fun _ _ _ => rfl) (by decide) (fun c2784 e2785 => ?_)
              refine bh_ic (pc' := 71) (pt := 75) bt_89_68 rfl rfl (fun k2786 => ?_) (fun k2786 => ?_)
              · replace k2786 : (c).toInt ≠ (c2784).toInt := k2786
                refine bh_ld (pc' := 76) bt_89_75 rfl rfl (fun _ _ _ => rfl) g2776 rfl ?_
                refine bh_c (pc' := 78) (n := 47) bt_89_76 rfl rfl (fun _ _ _ => rfl) (by decide) (fun c2787 e2788 => ?_)
                refine bh_ic (pc' := 81) (pt := 85) bt_89_78 rfl rfl (fun k2789 => ?_) (fun k2789 => ?_)
                · replace k2789 : (c).toInt ≠ (c2787).toInt := k2789
                  refine bh_ld (pc' := 86) bt_89_85 rfl rfl (fun _ _ _ => rfl) g2776 rfl ?_
                  refine bh_c (pc' := 88) (n := 60) bt_89_86 rfl rfl (fun _ _ _ => rfl) (by decide) (fun c2790 e2791 => ?_)
                  refine bh_ic (pc' := 91) (pt := 95) bt_89_88 rfl rfl (fun k2792 => ?_) (fun k2792 => ?_)
                  · replace k2792 : (c).toInt ≠ (c2790).toInt := k2792
                    refine bh_ld (pc' := 96) bt_89_95 rfl rfl (fun _ _ _ => rfl) g2774 rfl ?_
                    refine bh_ld (pc' := 98) bt_89_96 rfl rfl (fun _ _ _ => rfl) g2773 rfl ?_
                    refine bh_ld (pc' := 99) bt_89_98 rfl rfl (fun _ _ _ => rfl) g2775 rfl ?_
                    refine bh_c (pc' := 100) (n := 0) bt_89_99 rfl rfl (fun _ _ _ => rfl) (by decide) (fun c2793 e2794 => ?_)
                    refine bh_cL (pc' := 101) bt_89_100 rfl rfl (fun _ _ _ => rfl) (fun x2795 => ?_)
                    refine bh_cv (pc' := 104) (st := []) (args := [.long x2795, .int c2793, .int i, .int c2769]) bt_89_101 rfl rfl (by decide) hP (by omega) rfl (Nat.le_of_ble_eq_true rfl) (Nat.le_of_ble_eq_true rfl) ?_
                    refine sp_103 (k := c2769) (w := i) (v := c2793) (x := x2795) hP hn (by omega) (by omega) (by omega) (by omega) hq (fun h2796 s2797 A2798 L2799 hP2800 f2801 a2802 q2803 p2804 => ?_)
                    show bh_G E FIN ((89, 104, lv2771, [], 0, 0) :: gs, _, none)
                    refine bh_c (pc' := 105) (n := 1) bt_89_104 rfl rfl (fun _ _ _ => rfl) (by decide) (fun c2805 e2806 => ?_)
                    refine bh_ri bt_89_105 ?_
                    exact kk _ _ _ _ _ hP2800 (fun j j10 => (f2801 j j10)) (fun k j u => (a2802 k j u)) q2803 (by omega) (by omega)
                  · replace k2792 : ¬ ((c).toInt ≠ (c2790).toInt) := k2792
                    refine bh_c (pc' := 93) (n := 13) bt_89_91 rfl rfl (fun _ _ _ => rfl) (by decide) (fun c2807 e2808 => ?_)
                    refine bh_st (pc' := 95) bt_89_93 rfl rfl (fun _ _ _ => rfl) rfl (by decide) (by decide) (fun lv2809 F2810 g2811 => ?_)
                    have g2812 := F2810 0 (.ref (E.1 + 88)) g2774 (by decide) (Or.inl rfl)
                    have g2813 := F2810 1 (.int i) g2775 (by decide) (Or.inl rfl)
                    have g2814 := F2810 2 (.int c) g2776 (by decide) (Or.inl rfl)
                    have g2815 := F2810 3 (.int d) g2777 (by decide) (Or.inl rfl)
                    refine bh_ld (pc' := 96) bt_89_95 rfl rfl (fun _ _ _ => rfl) g2812 rfl ?_
                    refine bh_ld (pc' := 98) bt_89_96 rfl rfl (fun _ _ _ => rfl) g2811 rfl ?_
                    refine bh_ld (pc' := 99) bt_89_98 rfl rfl (fun _ _ _ => rfl) g2813 rfl ?_
                    refine bh_c (pc' := 100) (n := 0) bt_89_99 rfl rfl (fun _ _ _ => rfl) (by decide) (fun c2816 e2817 => ?_)
                    refine bh_cL (pc' := 101) bt_89_100 rfl rfl (fun _ _ _ => rfl) (fun x2818 => ?_)
                    refine bh_cv (pc' := 104) (st := []) (args := [.long x2818, .int c2816, .int i, .int c2807]) bt_89_101 rfl rfl (by decide) hP (by omega) rfl (Nat.le_of_ble_eq_true rfl) (Nat.le_of_ble_eq_true rfl) ?_
                    refine sp_103 (k := c2807) (w := i) (v := c2816) (x := x2818) hP hn (by omega) (by omega) (by omega) (by omega) hq (fun h2819 s2820 A2821 L2822 hP2823 f2824 a2825 q2826 p2827 => ?_)
                    show bh_G E FIN ((89, 104, lv2809, [], 0, 0) :: gs, _, none)
                    refine bh_c (pc' := 105) (n := 1) bt_89_104 rfl rfl (fun _ _ _ => rfl) (by decide) (fun c2828 e2829 => ?_)
                    refine bh_ri bt_89_105 ?_
                    exact kk _ _ _ _ _ hP2823 (fun j j10 => (f2824 j j10)) (fun k j u => (a2825 k j u)) q2826 (by omega) (by omega)
                · replace k2789 : ¬ ((c).toInt ≠ (c2787).toInt) := k2789
                  refine bh_c (pc' := 83) (n := 15) bt_89_81 rfl rfl (fun _ _ _ => rfl) (by decide) (fun c2830 e2831 => ?_)
                  refine bh_st (pc' := 85) bt_89_83 rfl rfl (fun _ _ _ => rfl) rfl (by decide) (by decide) (fun lv2832 F2833 g2834 => ?_)
                  have g2835 := F2833 0 (.ref (E.1 + 88)) g2774 (by decide) (Or.inl rfl)
                  have g2836 := F2833 1 (.int i) g2775 (by decide) (Or.inl rfl)
                  have g2837 := F2833 2 (.int c) g2776 (by decide) (Or.inl rfl)
                  have g2838 := F2833 3 (.int d) g2777 (by decide) (Or.inl rfl)
                  refine bh_ld (pc' := 86) bt_89_85 rfl rfl (fun _ _ _ => rfl) g2837 rfl ?_
                  refine bh_c (pc' := 88) (n := 60) bt_89_86 rfl rfl (fun _ _ _ => rfl) (by decide) (fun c2839 e2840 => ?_)
                  refine bh_ic (pc' := 91) (pt := 95) bt_89_88 rfl rfl (fun k2841 => ?_) (fun k2841 => ?_)
                  · replace k2841 : (c).toInt ≠ (c2839).toInt := k2841
                    refine bh_ld (pc' := 96) bt_89_95 rfl rfl (fun _ _ _ => rfl) g2835 rfl ?_
                    refine bh_ld (pc' := 98) bt_89_96 rfl rfl (fun _ _ _ => rfl) g2834 rfl ?_
                    refine bh_ld (pc' := 99) bt_89_98 rfl rfl (fun _ _ _ => rfl) g2836 rfl ?_
                    refine bh_c (pc' := 100) (n := 0) bt_89_99 rfl rfl (fun _ _ _ => rfl) (by decide) (fun c2842 e2843 => ?_)
                    refine bh_cL (pc' := 101) bt_89_100 rfl rfl (fun _ _ _ => rfl) (fun x2844 => ?_)
                    refine bh_cv (pc' := 104) (st := []) (args := [.long x2844, .int c2842, .int i, .int c2830]) bt_89_101 rfl rfl (by decide) hP (by omega) rfl (Nat.le_of_ble_eq_true rfl) (Nat.le_of_ble_eq_true rfl) ?_
                    refine sp_103 (k := c2830) (w := i) (v := c2842) (x := x2844) hP hn (by omega) (by omega) (by omega) (by omega) hq (fun h2845 s2846 A2847 L2848 hP2849 f2850 a2851 q2852 p2853 => ?_)
                    show bh_G E FIN ((89, 104, lv2832, [], 0, 0) :: gs, _, none)
                    refine bh_c (pc' := 105) (n := 1) bt_89_104 rfl rfl (fun _ _ _ => rfl) (by decide) (fun c2854 e2855 => ?_)
                    refine bh_ri bt_89_105 ?_
                    exact kk _ _ _ _ _ hP2849 (fun j j10 => (f2850 j j10)) (fun k j u => (a2851 k j u)) q2852 (by omega) (by omega)
                  · replace k2841 : ¬ ((c).toInt ≠ (c2839).toInt) := k2841
                    omega
              · replace k2786 : ¬ ((c).toInt ≠ (c2784).toInt) := k2786
                refine bh_c (pc' := 73) (n := 10) bt_89_71 rfl rfl (fun _ _ _ => rfl) (by decide) (fun c2856 e2857 => ?_)
                refine bh_st (pc' := 75) bt_89_73 rfl rfl (fun _ _ _ => rfl) rfl (by decide) (by decide) (fun lv2858 F2859 g2860 => ?_)
                have g2861 := F2859 0 (.ref (E.1 + 88)) g2774 (by decide) (Or.inl rfl)
                have g2862 := F2859 1 (.int i) g2775 (by decide) (Or.inl rfl)
                have g2863 := F2859 2 (.int c) g2776 (by decide) (Or.inl rfl)
                have g2864 := F2859 3 (.int d) g2777 (by decide) (Or.inl rfl)
                refine bh_ld (pc' := 76) bt_89_75 rfl rfl (fun _ _ _ => rfl) g2863 rfl ?_
                refine bh_c (pc' := 78) (n := 47) bt_89_76 rfl rfl (fun _ _ _ => rfl) (by decide) (fun c2865 e2866 => ?_)
                refine bh_ic (pc' := 81) (pt := 85) bt_89_78 rfl rfl (fun k2867 => ?_) (fun k2867 => ?_)
                · replace k2867 : (c).toInt ≠ (c2865).toInt := k2867
                  refine bh_ld (pc' := 86) bt_89_85 rfl rfl (fun _ _ _ => rfl) g2863 rfl ?_
                  refine bh_c (pc' := 88) (n := 60) bt_89_86 rfl rfl (fun _ _ _ => rfl) (by decide) (fun c2868 e2869 => ?_)
                  refine bh_ic (pc' := 91) (pt := 95) bt_89_88 rfl rfl (fun k2870 => ?_) (fun k2870 => ?_)
                  · replace k2870 : (c).toInt ≠ (c2868).toInt := k2870
                    refine bh_ld (pc' := 96) bt_89_95 rfl rfl (fun _ _ _ => rfl) g2861 rfl ?_
                    refine bh_ld (pc' := 98) bt_89_96 rfl rfl (fun _ _ _ => rfl) g2860 rfl ?_
                    refine bh_ld (pc' := 99) bt_89_98 rfl rfl (fun _ _ _ => rfl) g2862 rfl ?_
                    refine bh_c (pc' := 100) (n := 0) bt_89_99 rfl rfl (fun _ _ _ => rfl) (by decide) (fun c2871 e2872 => ?_)
                    refine bh_cL (pc' := 101) bt_89_100 rfl rfl (fun _ _ _ => rfl) (fun x2873 => ?_)
                    refine bh_cv (pc' := 104) (st := []) (args := [.long x2873, .int c2871, .int i, .int c2856]) bt_89_101 rfl rfl (by decide) hP (by omega) rfl (Nat.le_of_ble_eq_true rfl) (Nat.le_of_ble_eq_true rfl) ?_
                    refine sp_103 (k := c2856) (w := i) (v := c2871) (x := x2873) hP hn (by omega) (by omega) (by omega) (by omega) hq (fun h2874 s2875 A2876 L2877 hP2878 f2879 a2880 q2881 p2882 => ?_)
                    show bh_G E FIN ((89, 104, lv2858, [], 0, 0) :: gs, _, none)
                    refine bh_c (pc' := 105) (n := 1) bt_89_104 rfl rfl (fun _ _ _ => rfl) (by decide) (fun c2883 e2884 => ?_)
                    refine bh_ri bt_89_105 ?_
                    exact kk _ _ _ _ _ hP2878 (fun j j10 => (f2879 j j10)) (fun k j u => (a2880 k j u)) q2881 (by omega) (by omega)
                  · replace k2870 : ¬ ((c).toInt ≠ (c2868).toInt) := k2870
                    omega
                · replace k2867 : ¬ ((c).toInt ≠ (c2865).toInt) := k2867
                  omega
            · replace k2783 : ¬ ((c).toInt ≠ (c2781).toInt) := k2783
              refine bh_c (pc' := 63) (n := 9) bt_89_61 rfl rfl (fun _ _ _ => rfl) (by decide) (fun c2885 e2886 => ?_)
              refine bh_st (pc' := 65) bt_89_63 rfl rfl (fun _ _ _ => rfl) rfl (by decide) (by decide) (fun lv2887 F2888 g2889 => ?_)
              have g2890 := F2888 0 (.ref (E.1 + 88)) g2774 (by decide) (Or.inl rfl)
              have g2891 := F2888 1 (.int i) g2775 (by decide) (Or.inl rfl)
              have g2892 := F2888 2 (.int c) g2776 (by decide) (Or.inl rfl)
              have g2893 := F2888 3 (.int d) g2777 (by decide) (Or.inl rfl)
              refine bh_ld (pc' := 66) bt_89_65 rfl rfl (fun _ _ _ => rfl) g2892 rfl ?_
              refine bh_c (pc' := 68) (n := 42) bt_89_66 rfl rfl (fun _ _ _ => rfl) (by decide) (fun c2894 e2895 => ?_)
              refine bh_ic (pc' := 71) (pt := 75) bt_89_68 rfl rfl (fun k2896 => ?_) (fun k2896 => ?_)
              · replace k2896 : (c).toInt ≠ (c2894).toInt := k2896
                refine bh_ld (pc' := 76) bt_89_75 rfl rfl (fun _ _ _ => rfl) g2892 rfl ?_
                refine bh_c (pc' := 78) (n := 47) bt_89_76 rfl rfl (fun _ _ _ => rfl) (by decide) (fun c2897 e2898 => ?_)
                refine bh_ic (pc' := 81) (pt := 85) bt_89_78 rfl rfl (fun k2899 => ?_) (fun k2899 => ?_)
                · replace k2899 : (c).toInt ≠ (c2897).toInt := k2899
                  refine bh_ld (pc' := 86) bt_89_85 rfl rfl (fun _ _ _ => rfl) g2892 rfl ?_
                  refine bh_c (pc' := 88) (n := 60) bt_89_86 rfl rfl (fun _ _ _ => rfl) (by decide) (fun c2900 e2901 => ?_)
                  refine bh_ic (pc' := 91) (pt := 95) bt_89_88 rfl rfl (fun k2902 => ?_) (fun k2902 => ?_)
                  · replace k2902 : (c).toInt ≠ (c2900).toInt := k2902
                    refine bh_ld (pc' := 96) bt_89_95 rfl rfl (fun _ _ _ => rfl) g2890 rfl ?_
                    refine bh_ld (pc' := 98) bt_89_96 rfl rfl (fun _ _ _ => rfl) g2889 rfl ?_
                    refine bh_ld (pc' := 99) bt_89_98 rfl rfl (fun _ _ _ => rfl) g2891 rfl ?_
                    refine bh_c (pc' := 100) (n := 0) bt_89_99 rfl rfl (fun _ _ _ => rfl) (by decide) (fun c2903 e2904 => ?_)
                    refine bh_cL (pc' := 101) bt_89_100 rfl rfl (fun _ _ _ => rfl) (fun x2905 => ?_)
                    refine bh_cv (pc' := 104) (st := []) (args := [.long x2905, .int c2903, .int i, .int c2885]) bt_89_101 rfl rfl (by decide) hP (by omega) rfl (Nat.le_of_ble_eq_true rfl) (Nat.le_of_ble_eq_true rfl) ?_
                    refine sp_103 (k := c2885) (w := i) (v := c2903) (x := x2905) hP hn (by omega) (by omega) (by omega) (by omega) hq (fun h2906 s2907 A2908 L2909 hP2910 f2911 a2912 q2913 p2914 => ?_)
                    show bh_G E FIN ((89, 104, lv2887, [], 0, 0) :: gs, _, none)
                    refine bh_c (pc' := 105) (n := 1) bt_89_104 rfl rfl (fun _ _ _ => rfl) (by decide) (fun c2915 e2916 => ?_)
                    refine bh_ri bt_89_105 ?_
                    exact kk _ _ _ _ _ hP2910 (fun j j10 => (f2911 j j10)) (fun k j u => (a2912 k j u)) q2913 (by omega) (by omega)
                  · replace k2902 : ¬ ((c).toInt ≠ (c2900).toInt) := k2902
                    omega
                · replace k2899 : ¬ ((c).toInt ≠ (c2897).toInt) := k2899
                  omega
              · replace k2896 : ¬ ((c).toInt ≠ (c2894).toInt) := k2896
                omega
          · replace k2780 : ¬ ((c).toInt ≠ (c2778).toInt) := k2780
            refine bh_c (pc' := 53) (n := 8) bt_89_51 rfl rfl (fun _ _ _ => rfl) (by decide) (fun c2917 e2918 => ?_)
            refine bh_st (pc' := 55) bt_89_53 rfl rfl (fun _ _ _ => rfl) rfl (by decide) (by decide) (fun lv2919 F2920 g2921 => ?_)
            have g2922 := F2920 0 (.ref (E.1 + 88)) g2774 (by decide) (Or.inl rfl)
            have g2923 := F2920 1 (.int i) g2775 (by decide) (Or.inl rfl)
            have g2924 := F2920 2 (.int c) g2776 (by decide) (Or.inl rfl)
            have g2925 := F2920 3 (.int d) g2777 (by decide) (Or.inl rfl)
            refine bh_ld (pc' := 56) bt_89_55 rfl rfl (fun _ _ _ => rfl) g2924 rfl ?_
            refine bh_c (pc' := 58) (n := 45) bt_89_56 rfl rfl (fun _ _ _ => rfl) (by decide) (fun c2926 e2927 => ?_)
            refine bh_ic (pc' := 61) (pt := 65) bt_89_58 rfl rfl (fun k2928 => ?_) (fun k2928 => ?_)
            · replace k2928 : (c).toInt ≠ (c2926).toInt := k2928
              refine bh_ld (pc' := 66) bt_89_65 rfl rfl (fun _ _ _ => rfl) g2924 rfl ?_
              refine bh_c (pc' := 68) (n := 42) bt_89_66 rfl rfl (fun _ _ _ => rfl) (by decide) (fun c2929 e2930 => ?_)
              refine bh_ic (pc' := 71) (pt := 75) bt_89_68 rfl rfl (fun k2931 => ?_) (fun k2931 => ?_)
              · replace k2931 : (c).toInt ≠ (c2929).toInt := k2931
                refine bh_ld (pc' := 76) bt_89_75 rfl rfl (fun _ _ _ => rfl) g2924 rfl ?_
                refine bh_c (pc' := 78) (n := 47) bt_89_76 rfl rfl (fun _ _ _ => rfl) (by decide) (fun c2932 e2933 => ?_)
                refine bh_ic (pc' := 81) (pt := 85) bt_89_78 rfl rfl (fun k2934 => ?_) (fun k2934 => ?_)
                · replace k2934 : (c).toInt ≠ (c2932).toInt := k2934
                  refine bh_ld (pc' := 86) bt_89_85 rfl rfl (fun _ _ _ => rfl) g2924 rfl ?_
                  refine bh_c (pc' := 88) (n := 60) bt_89_86 rfl rfl (fun _ _ _ => rfl) (by decide) (fun c2935 e2936 => ?_)
                  refine bh_ic (pc' := 91) (pt := 95) bt_89_88 rfl rfl (fun k2937 => ?_) (fun k2937 => ?_)
                  · replace k2937 : (c).toInt ≠ (c2935).toInt := k2937
                    refine bh_ld (pc' := 96) bt_89_95 rfl rfl (fun _ _ _ => rfl) g2922 rfl ?_
                    refine bh_ld (pc' := 98) bt_89_96 rfl rfl (fun _ _ _ => rfl) g2921 rfl ?_
                    refine bh_ld (pc' := 99) bt_89_98 rfl rfl (fun _ _ _ => rfl) g2923 rfl ?_
                    refine bh_c (pc' := 100) (n := 0) bt_89_99 rfl rfl (fun _ _ _ => rfl) (by decide) (fun c2938 e2939 => ?_)
                    refine bh_cL (pc' := 101) bt_89_100 rfl rfl (fun _ _ _ => rfl) (fun x2940 => ?_)
                    refine bh_cv (pc' := 104) (st := []) (args := [.long x2940, .int c2938, .int i, .int c2917]) bt_89_101 rfl rfl (by decide) hP (by omega) rfl (Nat.le_of_ble_eq_true rfl) (Nat.le_of_ble_eq_true rfl) ?_
                    refine sp_103 (k := c2917) (w := i) (v := c2938) (x := x2940) hP hn (by omega) (by omega) (by omega) (by omega) hq (fun h2941 s2942 A2943 L2944 hP2945 f2946 a2947 q2948 p2949 => ?_)
                    show bh_G E FIN ((89, 104, lv2919, [], 0, 0) :: gs, _, none)
                    refine bh_c (pc' := 105) (n := 1) bt_89_104 rfl rfl (fun _ _ _ => rfl) (by decide) (fun c2950 e2951 => ?_)
                    refine bh_ri bt_89_105 ?_
                    exact kk _ _ _ _ _ hP2945 (fun j j10 => (f2946 j j10)) (fun k j u => (a2947 k j u)) q2948 (by omega) (by omega)
                  · replace k2937 : ¬ ((c).toInt ≠ (c2935).toInt) := k2937
                    omega
                · replace k2934 : ¬ ((c).toInt ≠ (c2932).toInt) := k2934
                  omega
              · replace k2931 : ¬ ((c).toInt ≠ (c2929).toInt) := k2931
                omega
            · replace k2928 : ¬ ((c).toInt ≠ (c2926).toInt) := k2928
              omega
        · replace k2768 : ¬ ((c).toInt ≠ (c2766).toInt) := k2768
          refine bh_c (pc' := 39) (n := 7) bt_89_37 rfl rfl (fun _ _ _ => rfl) (by decide) (fun c2952 e2953 => ?_)
          refine bh_go (pc' := 43) bt_89_39 rfl ?_
          refine bh_st (pc' := 45) bt_89_43 rfl rfl (fun _ _ _ => rfl) rfl (by decide) (by decide) (fun lv2954 F2955 g2956 => ?_)
          have g2957 := F2955 0 (.ref (E.1 + 88)) rfl (by decide) (Or.inl rfl)
          have g2958 := F2955 1 (.int i) rfl (by decide) (Or.inl rfl)
          have g2959 := F2955 2 (.int c) rfl (by decide) (Or.inl rfl)
          have g2960 := F2955 3 (.int d) rfl (by decide) (Or.inl rfl)
          refine bh_ld (pc' := 46) bt_89_45 rfl rfl (fun _ _ _ => rfl) g2959 rfl ?_
          refine bh_c (pc' := 48) (n := 43) bt_89_46 rfl rfl (fun _ _ _ => rfl) (by decide) (fun c2961 e2962 => ?_)
          refine bh_ic (pc' := 51) (pt := 55) bt_89_48 rfl rfl (fun k2963 => ?_) (fun k2963 => ?_)
          · replace k2963 : (c).toInt ≠ (c2961).toInt := k2963
            refine bh_ld (pc' := 56) bt_89_55 rfl rfl (fun _ _ _ => rfl) g2959 rfl ?_
            refine bh_c (pc' := 58) (n := 45) bt_89_56 rfl rfl (fun _ _ _ => rfl) (by decide) (fun c2964 e2965 => ?_)
            refine bh_ic (pc' := 61) (pt := 65) bt_89_58 rfl rfl (fun k2966 => ?_) (fun k2966 => ?_)
            · replace k2966 : (c).toInt ≠ (c2964).toInt := k2966
              refine bh_ld (pc' := 66) bt_89_65 rfl rfl (fun _ _ _ => rfl) g2959 rfl ?_
              refine bh_c (pc' := 68) (n := 42) bt_89_66 rfl rfl (fun _ _ _ => rfl) (by decide) (fun c2967 e2968 => ?_)
              refine bh_ic (pc' := 71) (pt := 75) bt_89_68 rfl rfl (fun k2969 => ?_) (fun k2969 => ?_)
              · replace k2969 : (c).toInt ≠ (c2967).toInt := k2969
                refine bh_ld (pc' := 76) bt_89_75 rfl rfl (fun _ _ _ => rfl) g2959 rfl ?_
                refine bh_c (pc' := 78) (n := 47) bt_89_76 rfl rfl (fun _ _ _ => rfl) (by decide) (fun c2970 e2971 => ?_)
                refine bh_ic (pc' := 81) (pt := 85) bt_89_78 rfl rfl (fun k2972 => ?_) (fun k2972 => ?_)
                · replace k2972 : (c).toInt ≠ (c2970).toInt := k2972
                  refine bh_ld (pc' := 86) bt_89_85 rfl rfl (fun _ _ _ => rfl) g2959 rfl ?_
                  refine bh_c (pc' := 88) (n := 60) bt_89_86 rfl rfl (fun _ _ _ => rfl) (by decide) (fun c2973 e2974 => ?_)
                  refine bh_ic (pc' := 91) (pt := 95) bt_89_88 rfl rfl (fun k2975 => ?_) (fun k2975 => ?_)
                  · replace k2975 : (c).toInt ≠ (c2973).toInt := k2975
                    refine bh_ld (pc' := 96) bt_89_95 rfl rfl (fun _ _ _ => rfl) g2957 rfl ?_
                    refine bh_ld (pc' := 98) bt_89_96 rfl rfl (fun _ _ _ => rfl) g2956 rfl ?_
                    refine bh_ld (pc' := 99) bt_89_98 rfl rfl (fun _ _ _ => rfl) g2958 rfl ?_
                    refine bh_c (pc' := 100) (n := 0) bt_89_99 rfl rfl (fun _ _ _ => rfl) (by decide) (fun c2976 e2977 => ?_)
                    refine bh_cL (pc' := 101) bt_89_100 rfl rfl (fun _ _ _ => rfl) (fun x2978 => ?_)
                    refine bh_cv (pc' := 104) (st := []) (args := [.long x2978, .int c2976, .int i, .int c2952]) bt_89_101 rfl rfl (by decide) hP (by omega) rfl (Nat.le_of_ble_eq_true rfl) (Nat.le_of_ble_eq_true rfl) ?_
                    refine sp_103 (k := c2952) (w := i) (v := c2976) (x := x2978) hP hn (by omega) (by omega) (by omega) (by omega) hq (fun h2979 s2980 A2981 L2982 hP2983 f2984 a2985 q2986 p2987 => ?_)
                    show bh_G E FIN ((89, 104, lv2954, [], 0, 0) :: gs, _, none)
                    refine bh_c (pc' := 105) (n := 1) bt_89_104 rfl rfl (fun _ _ _ => rfl) (by decide) (fun c2988 e2989 => ?_)
                    refine bh_ri bt_89_105 ?_
                    exact kk _ _ _ _ _ hP2983 (fun j j10 => (f2984 j j10)) (fun k j u => (a2985 k j u)) q2986 (by omega) (by omega)
                  · replace k2975 : ¬ ((c).toInt ≠ (c2973).toInt) := k2975
                    omega
                · replace k2972 : ¬ ((c).toInt ≠ (c2970).toInt) := k2972
                  omega
              · replace k2969 : ¬ ((c).toInt ≠ (c2967).toInt) := k2969
                omega
            · replace k2966 : ¬ ((c).toInt ≠ (c2964).toInt) := k2966
              omega
          · replace k2963 : ¬ ((c).toInt ≠ (c2961).toInt) := k2963
            omega
      · replace k2765 : ¬ ((c).toInt ≠ (c2763).toInt) := k2765
        refine bh_c (pc' := 28) (n := 6) bt_89_26 rfl rfl (fun _ _ _ => rfl) (by decide) (fun c2990 e2991 => ?_)
        refine bh_go (pc' := 43) bt_89_28 rfl ?_
        refine bh_st (pc' := 45) bt_89_43 rfl rfl (fun _ _ _ => rfl) rfl (by decide) (by decide) (fun lv2992 F2993 g2994 => ?_)
        have g2995 := F2993 0 (.ref (E.1 + 88)) rfl (by decide) (Or.inl rfl)
        have g2996 := F2993 1 (.int i) rfl (by decide) (Or.inl rfl)
        have g2997 := F2993 2 (.int c) rfl (by decide) (Or.inl rfl)
        have g2998 := F2993 3 (.int d) rfl (by decide) (Or.inl rfl)
        refine bh_ld (pc' := 46) bt_89_45 rfl rfl (fun _ _ _ => rfl) g2997 rfl ?_
        refine bh_c (pc' := 48) (n := 43) bt_89_46 rfl rfl (fun _ _ _ => rfl) (by decide) (fun c2999 e3000 => ?_)
        refine bh_ic (pc' := 51) (pt := 55) bt_89_48 rfl rfl (fun k3001 => ?_) (fun k3001 => ?_)
        · replace k3001 : (c).toInt ≠ (c2999).toInt := k3001
          refine bh_ld (pc' := 56) bt_89_55 rfl rfl (fun _ _ _ => rfl) g2997 rfl ?_
          refine bh_c (pc' := 58) (n := 45) bt_89_56 rfl rfl (fun _ _ _ => rfl) (by decide) (fun c3002 e3003 => ?_)
          refine bh_ic (pc' := 61) (pt := 65) bt_89_58 rfl rfl (fun k3004 => ?_) (fun k3004 => ?_)
          · replace k3004 : (c).toInt ≠ (c3002).toInt := k3004
            refine bh_ld (pc' := 66) bt_89_65 rfl rfl (fun _ _ _ => rfl) g2997 rfl ?_
            refine bh_c (pc' := 68) (n := 42) bt_89_66 rfl rfl (fun _ _ _ => rfl) (by decide) (fun c3005 e3006 => ?_)
            refine bh_ic (pc' := 71) (pt := 75) bt_89_68 rfl rfl (fun k3007 => ?_) (fun k3007 => ?_)
            · replace k3007 : (c).toInt ≠ (c3005).toInt := k3007
              refine bh_ld (pc' := 76) bt_89_75 rfl rfl (fun _ _ _ => rfl) g2997 rfl ?_
              refine bh_c (pc' := 78) (n := 47) bt_89_76 rfl rfl (fun _ _ _ => rfl) (by decide) (fun c3008 e3009 => ?_)
              refine bh_ic (pc' := 81) (pt := 85) bt_89_78 rfl rfl (fun k3010 => ?_) (fun k3010 => ?_)
              · replace k3010 : (c).toInt ≠ (c3008).toInt := k3010
                refine bh_ld (pc' := 86) bt_89_85 rfl rfl (fun _ _ _ => rfl) g2997 rfl ?_
                refine bh_c (pc' := 88) (n := 60) bt_89_86 rfl rfl (fun _ _ _ => rfl) (by decide) (fun c3011 e3012 => ?_)
                refine bh_ic (pc' := 91) (pt := 95) bt_89_88 rfl rfl (fun k3013 => ?_) (fun k3013 => ?_)
                · replace k3013 : (c).toInt ≠ (c3011).toInt := k3013
                  refine bh_ld (pc' := 96) bt_89_95 rfl rfl (fun _ _ _ => rfl) g2995 rfl ?_
                  refine bh_ld (pc' := 98) bt_89_96 rfl rfl (fun _ _ _ => rfl) g2994 rfl ?_
                  refine bh_ld (pc' := 99) bt_89_98 rfl rfl (fun _ _ _ => rfl) g2996 rfl ?_
                  refine bh_c (pc' := 100) (n := 0) bt_89_99 rfl rfl (fun _ _ _ => rfl) (by decide) (fun c3014 e3015 => ?_)
                  refine bh_cL (pc' := 101) bt_89_100 rfl rfl (fun _ _ _ => rfl) (fun x3016 => ?_)
                  refine bh_cv (pc' := 104) (st := []) (args := [.long x3016, .int c3014, .int i, .int c2990]) bt_89_101 rfl rfl (by decide) hP (by omega) rfl (Nat.le_of_ble_eq_true rfl) (Nat.le_of_ble_eq_true rfl) ?_
                  refine sp_103 (k := c2990) (w := i) (v := c3014) (x := x3016) hP hn (by omega) (by omega) (by omega) (by omega) hq (fun h3017 s3018 A3019 L3020 hP3021 f3022 a3023 q3024 p3025 => ?_)
                  show bh_G E FIN ((89, 104, lv2992, [], 0, 0) :: gs, _, none)
                  refine bh_c (pc' := 105) (n := 1) bt_89_104 rfl rfl (fun _ _ _ => rfl) (by decide) (fun c3026 e3027 => ?_)
                  refine bh_ri bt_89_105 ?_
                  exact kk _ _ _ _ _ hP3021 (fun j j10 => (f3022 j j10)) (fun k j u => (a3023 k j u)) q3024 (by omega) (by omega)
                · replace k3013 : ¬ ((c).toInt ≠ (c3011).toInt) := k3013
                  omega
              · replace k3010 : ¬ ((c).toInt ≠ (c3008).toInt) := k3010
                omega
            · replace k3007 : ¬ ((c).toInt ≠ (c3005).toInt) := k3007
              omega
          · replace k3004 : ¬ ((c).toInt ≠ (c3002).toInt) := k3004
            omega
        · replace k3001 : ¬ ((c).toInt ≠ (c2999).toInt) := k3001
          omega
    · replace k2762 : ¬ ((c).toInt ≠ (c2760).toInt) := k2762
      refine bh_c (pc' := 17) (n := 5) bt_89_16 rfl rfl (fun _ _ _ => rfl) (by decide) (fun c3028 e3029 => ?_)
      refine bh_go (pc' := 43) bt_89_17 rfl ?_
      refine bh_st (pc' := 45) bt_89_43 rfl rfl (fun _ _ _ => rfl) rfl (by decide) (by decide) (fun lv3030 F3031 g3032 => ?_)
      have g3033 := F3031 0 (.ref (E.1 + 88)) rfl (by decide) (Or.inl rfl)
      have g3034 := F3031 1 (.int i) rfl (by decide) (Or.inl rfl)
      have g3035 := F3031 2 (.int c) rfl (by decide) (Or.inl rfl)
      have g3036 := F3031 3 (.int d) rfl (by decide) (Or.inl rfl)
      refine bh_ld (pc' := 46) bt_89_45 rfl rfl (fun _ _ _ => rfl) g3035 rfl ?_
      refine bh_c (pc' := 48) (n := 43) bt_89_46 rfl rfl (fun _ _ _ => rfl) (by decide) (fun c3037 e3038 => ?_)
      refine bh_ic (pc' := 51) (pt := 55) bt_89_48 rfl rfl (fun k3039 => ?_) (fun k3039 => ?_)
      · replace k3039 : (c).toInt ≠ (c3037).toInt := k3039
        refine bh_ld (pc' := 56) bt_89_55 rfl rfl (fun _ _ _ => rfl) g3035 rfl ?_
        refine bh_c (pc' := 58) (n := 45) bt_89_56 rfl rfl (fun _ _ _ => rfl) (by decide) (fun c3040 e3041 => ?_)
        refine bh_ic (pc' := 61) (pt := 65) bt_89_58 rfl rfl (fun k3042 => ?_) (fun k3042 => ?_)
        · replace k3042 : (c).toInt ≠ (c3040).toInt := k3042
          refine bh_ld (pc' := 66) bt_89_65 rfl rfl (fun _ _ _ => rfl) g3035 rfl ?_
          refine bh_c (pc' := 68) (n := 42) bt_89_66 rfl rfl (fun _ _ _ => rfl) (by decide) (fun c3043 e3044 => ?_)
          refine bh_ic (pc' := 71) (pt := 75) bt_89_68 rfl rfl (fun k3045 => ?_) (fun k3045 => ?_)
          · replace k3045 : (c).toInt ≠ (c3043).toInt := k3045
            refine bh_ld (pc' := 76) bt_89_75 rfl rfl (fun _ _ _ => rfl) g3035 rfl ?_
            refine bh_c (pc' := 78) (n := 47) bt_89_76 rfl rfl (fun _ _ _ => rfl) (by decide) (fun c3046 e3047 => ?_)
            refine bh_ic (pc' := 81) (pt := 85) bt_89_78 rfl rfl (fun k3048 => ?_) (fun k3048 => ?_)
            · replace k3048 : (c).toInt ≠ (c3046).toInt := k3048
              refine bh_ld (pc' := 86) bt_89_85 rfl rfl (fun _ _ _ => rfl) g3035 rfl ?_
              refine bh_c (pc' := 88) (n := 60) bt_89_86 rfl rfl (fun _ _ _ => rfl) (by decide) (fun c3049 e3050 => ?_)
              refine bh_ic (pc' := 91) (pt := 95) bt_89_88 rfl rfl (fun k3051 => ?_) (fun k3051 => ?_)
              · replace k3051 : (c).toInt ≠ (c3049).toInt := k3051
                refine bh_ld (pc' := 96) bt_89_95 rfl rfl (fun _ _ _ => rfl) g3033 rfl ?_
                refine bh_ld (pc' := 98) bt_89_96 rfl rfl (fun _ _ _ => rfl) g3032 rfl ?_
                refine bh_ld (pc' := 99) bt_89_98 rfl rfl (fun _ _ _ => rfl) g3034 rfl ?_
                refine bh_c (pc' := 100) (n := 0) bt_89_99 rfl rfl (fun _ _ _ => rfl) (by decide) (fun c3052 e3053 => ?_)
                refine bh_cL (pc' := 101) bt_89_100 rfl rfl (fun _ _ _ => rfl) (fun x3054 => ?_)
                refine bh_cv (pc' := 104) (st := []) (args := [.long x3054, .int c3052, .int i, .int c3028]) bt_89_101 rfl rfl (by decide) hP (by omega) rfl (Nat.le_of_ble_eq_true rfl) (Nat.le_of_ble_eq_true rfl) ?_
                refine sp_103 (k := c3028) (w := i) (v := c3052) (x := x3054) hP hn (by omega) (by omega) (by omega) (by omega) hq (fun h3055 s3056 A3057 L3058 hP3059 f3060 a3061 q3062 p3063 => ?_)
                show bh_G E FIN ((89, 104, lv3030, [], 0, 0) :: gs, _, none)
                refine bh_c (pc' := 105) (n := 1) bt_89_104 rfl rfl (fun _ _ _ => rfl) (by decide) (fun c3064 e3065 => ?_)
                refine bh_ri bt_89_105 ?_
                exact kk _ _ _ _ _ hP3059 (fun j j10 => (f3060 j j10)) (fun k j u => (a3061 k j u)) q3062 (by omega) (by omega)
              · replace k3051 : ¬ ((c).toInt ≠ (c3049).toInt) := k3051
                omega
            · replace k3048 : ¬ ((c).toInt ≠ (c3046).toInt) := k3048
              omega
          · replace k3045 : ¬ ((c).toInt ≠ (c3043).toInt) := k3045
            omega
        · replace k3042 : ¬ ((c).toInt ≠ (c3040).toInt) := k3042
          omega
      · replace k3039 : ¬ ((c).toInt ≠ (c3037).toInt) := k3039
        omega
  · replace k2759 : ¬ ((c).toInt ≠ (c2757).toInt) := k2759
    refine bh_c (pc' := 7) (n := 4) bt_89_6 rfl rfl (fun _ _ _ => rfl) (by decide) (fun c3066 e3067 => ?_)
    refine bh_go (pc' := 43) bt_89_7 rfl ?_
    refine bh_st (pc' := 45) bt_89_43 rfl rfl (fun _ _ _ => rfl) rfl (by decide) (by decide) (fun lv3068 F3069 g3070 => ?_)
    have g3071 := F3069 0 (.ref (E.1 + 88)) rfl (by decide) (Or.inl rfl)
    have g3072 := F3069 1 (.int i) rfl (by decide) (Or.inl rfl)
    have g3073 := F3069 2 (.int c) rfl (by decide) (Or.inl rfl)
    have g3074 := F3069 3 (.int d) rfl (by decide) (Or.inl rfl)
    refine bh_ld (pc' := 46) bt_89_45 rfl rfl (fun _ _ _ => rfl) g3073 rfl ?_
    refine bh_c (pc' := 48) (n := 43) bt_89_46 rfl rfl (fun _ _ _ => rfl) (by decide) (fun c3075 e3076 => ?_)
    refine bh_ic (pc' := 51) (pt := 55) bt_89_48 rfl rfl (fun k3077 => ?_) (fun k3077 => ?_)
    · replace k3077 : (c).toInt ≠ (c3075).toInt := k3077
      refine bh_ld (pc' := 56) bt_89_55 rfl rfl (fun _ _ _ => rfl) g3073 rfl ?_
      refine bh_c (pc' := 58) (n := 45) bt_89_56 rfl rfl (fun _ _ _ => rfl) (by decide) (fun c3078 e3079 => ?_)
      refine bh_ic (pc' := 61) (pt := 65) bt_89_58 rfl rfl (fun k3080 => ?_) (fun k3080 => ?_)
      · replace k3080 : (c).toInt ≠ (c3078).toInt := k3080
        refine bh_ld (pc' := 66) bt_89_65 rfl rfl (fun _ _ _ => rfl) g3073 rfl ?_
        refine bh_c (pc' := 68) (n := 42) bt_89_66 rfl rfl (fun _ _ _ => rfl) (by decide) (fun c3081 e3082 => ?_)
        refine bh_ic (pc' := 71) (pt := 75) bt_89_68 rfl rfl (fun k3083 => ?_) (fun k3083 => ?_)
        · replace k3083 : (c).toInt ≠ (c3081).toInt := k3083
          refine bh_ld (pc' := 76) bt_89_75 rfl rfl (fun _ _ _ => rfl) g3073 rfl ?_
          refine bh_c (pc' := 78) (n := 47) bt_89_76 rfl rfl (fun _ _ _ => rfl) (by decide) (fun c3084 e3085 => ?_)
          refine bh_ic (pc' := 81) (pt := 85) bt_89_78 rfl rfl (fun k3086 => ?_) (fun k3086 => ?_)
          · replace k3086 : (c).toInt ≠ (c3084).toInt := k3086
            refine bh_ld (pc' := 86) bt_89_85 rfl rfl (fun _ _ _ => rfl) g3073 rfl ?_
            refine bh_c (pc' := 88) (n := 60) bt_89_86 rfl rfl (fun _ _ _ => rfl) (by decide) (fun c3087 e3088 => ?_)
            refine bh_ic (pc' := 91) (pt := 95) bt_89_88 rfl rfl (fun k3089 => ?_) (fun k3089 => ?_)
            · replace k3089 : (c).toInt ≠ (c3087).toInt := k3089
              refine bh_ld (pc' := 96) bt_89_95 rfl rfl (fun _ _ _ => rfl) g3071 rfl ?_
              refine bh_ld (pc' := 98) bt_89_96 rfl rfl (fun _ _ _ => rfl) g3070 rfl ?_
              refine bh_ld (pc' := 99) bt_89_98 rfl rfl (fun _ _ _ => rfl) g3072 rfl ?_
              refine bh_c (pc' := 100) (n := 0) bt_89_99 rfl rfl (fun _ _ _ => rfl) (by decide) (fun c3090 e3091 => ?_)
              refine bh_cL (pc' := 101) bt_89_100 rfl rfl (fun _ _ _ => rfl) (fun x3092 => ?_)
              refine bh_cv (pc' := 104) (st := []) (args := [.long x3092, .int c3090, .int i, .int c3066]) bt_89_101 rfl rfl (by decide) hP (by omega) rfl (Nat.le_of_ble_eq_true rfl) (Nat.le_of_ble_eq_true rfl) ?_
              refine sp_103 (k := c3066) (w := i) (v := c3090) (x := x3092) hP hn (by omega) (by omega) (by omega) (by omega) hq (fun h3093 s3094 A3095 L3096 hP3097 f3098 a3099 q3100 p3101 => ?_)
              show bh_G E FIN ((89, 104, lv3068, [], 0, 0) :: gs, _, none)
              refine bh_c (pc' := 105) (n := 1) bt_89_104 rfl rfl (fun _ _ _ => rfl) (by decide) (fun c3102 e3103 => ?_)
              refine bh_ri bt_89_105 ?_
              exact kk _ _ _ _ _ hP3097 (fun j j10 => (f3098 j j10)) (fun k j u => (a3099 k j u)) q3100 (by omega) (by omega)
            · replace k3089 : ¬ ((c).toInt ≠ (c3087).toInt) := k3089
              omega
          · replace k3086 : ¬ ((c).toInt ≠ (c3084).toInt) := k3086
            omega
        · replace k3083 : ¬ ((c).toInt ≠ (c3081).toInt) := k3083
          omega
      · replace k3080 : ¬ ((c).toInt ≠ (c3078).toInt) := k3080
        omega
    · replace k3077 : ¬ ((c).toInt ≠ (c3075).toInt) := k3077
      omega
set_option maxHeartbeats 40000000 in
theorem rd_let (hP : bh_P bx_T E h0 h s A L) (hd : gs.length + 1 ≤ 999) (hz2 : (s 4).toInt ≤ 2000) {i : Int32} (hi0 : 0 ≤ i.toInt) (hl1 : 97 ≤ (rd_byte A (s 4) i).toInt) (hl2 : (rd_byte A (s 4) i).toInt ≤ 122) : ∀ N : Nat, ∀ (lv : mm_V) (o : Option Value) (n : Int32) (x : Int64), mm_get lv 0 = some (.ref (E.1 + 88)) → mm_get lv 1 = some (.int i) → mm_get lv 3 = some (.int n) → mm_get lv 4 = some (.long x) → 0 ≤ n.toInt → i.toInt + n.toInt ≤ (s 4).toInt → (s 4).toInt - (i.toInt + n.toInt) < N → (∀ (lv : mm_V) (o : Option Value) (n : Int32) (x : Int64), mm_get lv 0 = some (.ref (E.1 + 88)) → mm_get lv 1 = some (.int i) → mm_get lv 3 = some (.int n) → mm_get lv 4 = some (.long x) → 1 ≤ n.toInt → i.toInt + n.toInt ≤ (s 4).toInt → bh_G E FIN ((19, 124, lv, [], 0, 0) :: gs, h, o)) → bh_G E FIN ((19, 85, lv, [], 0, 0) :: gs, h, o) := by
  intro N
  induction N with
  | zero =>
    intro lv o n x g0 g1 g3 g4 n0 nz hN kk
    refine bh_ld (pc' := 86) bt_19_85 rfl rfl (fun _ _ _ => rfl) g0 rfl ?_
    refine bh_ld (pc' := 87) bt_19_86 rfl rfl (fun _ _ _ => rfl) g1 rfl ?_
    refine bh_ld (pc' := 88) bt_19_87 rfl rfl (fun _ _ _ => rfl) g3 rfl ?_
    refine bh_add (pc' := 89) bt_19_88 rfl (by omega) (by omega) (fun v3104 e3105 => ?_)
    have hb := rd_byte_c (A := A) (z := (s 4)) (v := v3104) (i := i)
    refine bh_cv (pc' := 92) (st := []) (args := [.int v3104]) bt_19_89 rfl rfl (by decide) hP (by omega) rfl (Nat.le_of_ble_eq_true rfl) (Nat.le_of_ble_eq_true rfl) ?_
    refine sp_12 (i := v3104) hP rfl (by omega) (by omega) (fun r3106 p3107 p3108 => ?_)
    show bh_G E FIN ((19, 92, lv, [.int r3106], 0, 0) :: gs, _, none)
    refine bh_cs (pc' := 95) (st := []) (args := [.int r3106]) bt_19_92 rfl rfl (by decide) (by omega) rfl (Nat.le_of_ble_eq_true rfl) (Nat.le_of_ble_eq_true rfl) ?_
    refine sp_50 (c := r3106) (fun r3109 p3110 p3111 => ?_)
    show bh_G E FIN ((19, 95, lv, [.int r3109], 0, 0) :: gs, _, none)
    refine bh_i0 (pc' := 98) (pt := 124) bt_19_95 rfl rfl (fun k3112 => ?_) (fun k3112 => ?_)
    · replace k3112 : (r3109).toInt = 0 := k3112
      exact kk _ _ _ _ g0 g1 g3 g4 (by omega) (by omega)
    · replace k3112 : ¬ ((r3109).toInt = 0) := k3112
      refine bh_ld (pc' := 99) bt_19_98 rfl rfl (fun _ _ _ => rfl) g3 rfl ?_
      refine bh_c (pc' := 101) (n := 8) bt_19_99 rfl rfl (fun _ _ _ => rfl) (by decide) (fun c3113 e3114 => ?_)
      refine bh_ic (pc' := 104) (pt := 118) bt_19_101 rfl rfl (fun k3115 => ?_) (fun k3115 => ?_)
      · replace k3115 : (c3113).toInt ≤ (n).toInt := k3115
        refine bh_inc (pc' := 121) bt_19_118 rfl (by decide) g3 (by decide) (by omega) (by omega) (fun lv3116 y3119 F3117 g3118 e3120 => ?_)
        have g3121 := F3117 0 (.ref (E.1 + 88)) g0 (by decide) (Or.inl rfl)
        have g3122 := F3117 1 (.int i) g1 (by decide) (Or.inl rfl)
        have g3123 := F3117 4 (.long x) g4 (by decide) (Or.inr (by decide))
        refine bh_go (pc' := 85) bt_19_121 rfl ?_
        exfalso
        omega
      · replace k3115 : ¬ ((c3113).toInt ≤ (n).toInt) := k3115
        refine bh_ld (pc' := 106) bt_19_104 rfl rfl (fun _ _ _ => rfl) g4 rfl ?_
        refine bh_ld (pc' := 107) bt_19_106 rfl rfl (fun _ _ _ => rfl) g0 rfl ?_
        refine bh_ld (pc' := 108) bt_19_107 rfl rfl (fun _ _ _ => rfl) g1 rfl ?_
        refine bh_ld (pc' := 109) bt_19_108 rfl rfl (fun _ _ _ => rfl) g3 rfl ?_
        refine bh_add (pc' := 110) bt_19_109 rfl (by omega) (by omega) (fun v3124 e3125 => ?_)
        refine bh_cv (pc' := 113) (st := [.long x]) (args := [.int v3124]) bt_19_110 rfl rfl (by decide) hP (by omega) rfl (Nat.le_of_ble_eq_true rfl) (Nat.le_of_ble_eq_true rfl) ?_
        refine sp_12 (i := v3124) hP rfl (by omega) (by omega) (fun r3126 p3127 p3128 => ?_)
        show bh_G E FIN ((19, 113, lv, [.int r3126, .long x], 0, 0) :: gs, _, none)
        refine bh_cs (pc' := 116) (st := []) (args := [.int r3126, .long x]) bt_19_113 rfl rfl (by decide) (by omega) rfl (Nat.le_of_ble_eq_true rfl) (Nat.le_of_ble_eq_true rfl) ?_
        refine sp_2 (x := x) (c := r3126) (fun x3129 => ?_)
        show bh_G E FIN ((19, 116, lv, [.long x3129], 0, 0) :: gs, _, none)
        refine bh_stL (pc' := 118) bt_19_116 rfl rfl (fun _ _ _ => rfl) (by decide) (fun lv3130 F3131 g3132 => ?_)
        have g3133 := F3131 0 (.ref (E.1 + 88)) g0 (by decide) (by decide) (Or.inl rfl)
        have g3134 := F3131 1 (.int i) g1 (by decide) (by decide) (Or.inl rfl)
        have g3135 := F3131 3 (.int n) g3 (by decide) (by decide) (Or.inl rfl)
        refine bh_inc (pc' := 121) bt_19_118 rfl (by decide) g3135 (by decide) (by omega) (by omega) (fun lv3136 y3139 F3137 g3138 e3140 => ?_)
        have g3141 := F3137 0 (.ref (E.1 + 88)) g3133 (by decide) (Or.inl rfl)
        have g3142 := F3137 1 (.int i) g3134 (by decide) (Or.inl rfl)
        have g3143 := F3137 4 (.long x3129) g3132 (by decide) (Or.inr (by decide))
        refine bh_go (pc' := 85) bt_19_121 rfl ?_
        exfalso
        omega
  | succ N ih =>
    intro lv o n x g0 g1 g3 g4 n0 nz hN kk
    refine bh_ld (pc' := 86) bt_19_85 rfl rfl (fun _ _ _ => rfl) g0 rfl ?_
    refine bh_ld (pc' := 87) bt_19_86 rfl rfl (fun _ _ _ => rfl) g1 rfl ?_
    refine bh_ld (pc' := 88) bt_19_87 rfl rfl (fun _ _ _ => rfl) g3 rfl ?_
    refine bh_add (pc' := 89) bt_19_88 rfl (by omega) (by omega) (fun v3144 e3145 => ?_)
    have hb := rd_byte_c (A := A) (z := (s 4)) (v := v3144) (i := i)
    refine bh_cv (pc' := 92) (st := []) (args := [.int v3144]) bt_19_89 rfl rfl (by decide) hP (by omega) rfl (Nat.le_of_ble_eq_true rfl) (Nat.le_of_ble_eq_true rfl) ?_
    refine sp_12 (i := v3144) hP rfl (by omega) (by omega) (fun r3146 p3147 p3148 => ?_)
    show bh_G E FIN ((19, 92, lv, [.int r3146], 0, 0) :: gs, _, none)
    refine bh_cs (pc' := 95) (st := []) (args := [.int r3146]) bt_19_92 rfl rfl (by decide) (by omega) rfl (Nat.le_of_ble_eq_true rfl) (Nat.le_of_ble_eq_true rfl) ?_
    refine sp_50 (c := r3146) (fun r3149 p3150 p3151 => ?_)
    show bh_G E FIN ((19, 95, lv, [.int r3149], 0, 0) :: gs, _, none)
    refine bh_i0 (pc' := 98) (pt := 124) bt_19_95 rfl rfl (fun k3152 => ?_) (fun k3152 => ?_)
    · replace k3152 : (r3149).toInt = 0 := k3152
      exact kk _ _ _ _ g0 g1 g3 g4 (by omega) (by omega)
    · replace k3152 : ¬ ((r3149).toInt = 0) := k3152
      refine bh_ld (pc' := 99) bt_19_98 rfl rfl (fun _ _ _ => rfl) g3 rfl ?_
      refine bh_c (pc' := 101) (n := 8) bt_19_99 rfl rfl (fun _ _ _ => rfl) (by decide) (fun c3153 e3154 => ?_)
      refine bh_ic (pc' := 104) (pt := 118) bt_19_101 rfl rfl (fun k3155 => ?_) (fun k3155 => ?_)
      · replace k3155 : (c3153).toInt ≤ (n).toInt := k3155
        refine bh_inc (pc' := 121) bt_19_118 rfl (by decide) g3 (by decide) (by omega) (by omega) (fun lv3156 y3159 F3157 g3158 e3160 => ?_)
        have g3161 := F3157 0 (.ref (E.1 + 88)) g0 (by decide) (Or.inl rfl)
        have g3162 := F3157 1 (.int i) g1 (by decide) (Or.inl rfl)
        have g3163 := F3157 4 (.long x) g4 (by decide) (Or.inr (by decide))
        refine bh_go (pc' := 85) bt_19_121 rfl ?_
        exact ih _ _ _ _ g3161 g3162 g3158 g3163 (by omega) (by omega) (by omega) kk
      · replace k3155 : ¬ ((c3153).toInt ≤ (n).toInt) := k3155
        refine bh_ld (pc' := 106) bt_19_104 rfl rfl (fun _ _ _ => rfl) g4 rfl ?_
        refine bh_ld (pc' := 107) bt_19_106 rfl rfl (fun _ _ _ => rfl) g0 rfl ?_
        refine bh_ld (pc' := 108) bt_19_107 rfl rfl (fun _ _ _ => rfl) g1 rfl ?_
        refine bh_ld (pc' := 109) bt_19_108 rfl rfl (fun _ _ _ => rfl) g3 rfl ?_
        refine bh_add (pc' := 110) bt_19_109 rfl (by omega) (by omega) (fun v3164 e3165 => ?_)
        refine bh_cv (pc' := 113) (st := [.long x]) (args := [.int v3164]) bt_19_110 rfl rfl (by decide) hP (by omega) rfl (Nat.le_of_ble_eq_true rfl) (Nat.le_of_ble_eq_true rfl) ?_
        refine sp_12 (i := v3164) hP rfl (by omega) (by omega) (fun r3166 p3167 p3168 => ?_)
        show bh_G E FIN ((19, 113, lv, [.int r3166, .long x], 0, 0) :: gs, _, none)
        refine bh_cs (pc' := 116) (st := []) (args := [.int r3166, .long x]) bt_19_113 rfl rfl (by decide) (by omega) rfl (Nat.le_of_ble_eq_true rfl) (Nat.le_of_ble_eq_true rfl) ?_
        refine sp_2 (x := x) (c := r3166) (fun x3169 => ?_)
        show bh_G E FIN ((19, 116, lv, [.long x3169], 0, 0) :: gs, _, none)
        refine bh_stL (pc' := 118) bt_19_116 rfl rfl (fun _ _ _ => rfl) (by decide) (fun lv3170 F3171 g3172 => ?_)
        have g3173 := F3171 0 (.ref (E.1 + 88)) g0 (by decide) (by decide) (Or.inl rfl)
        have g3174 := F3171 1 (.int i) g1 (by decide) (by decide) (Or.inl rfl)
        have g3175 := F3171 3 (.int n) g3 (by decide) (by decide) (Or.inl rfl)
        refine bh_inc (pc' := 121) bt_19_118 rfl (by decide) g3175 (by decide) (by omega) (by omega) (fun lv3176 y3179 F3177 g3178 e3180 => ?_)
        have g3181 := F3177 0 (.ref (E.1 + 88)) g3173 (by decide) (Or.inl rfl)
        have g3182 := F3177 1 (.int i) g3174 (by decide) (Or.inl rfl)
        have g3183 := F3177 4 (.long x3169) g3172 (by decide) (Or.inr (by decide))
        refine bh_go (pc' := 85) bt_19_121 rfl ?_
        exact ih _ _ _ _ g3181 g3182 g3178 g3183 (by omega) (by omega) (by omega) kk
set_option maxHeartbeats 40000000 in
theorem rd_dig (hP : bh_P bx_T E h0 h s A L) (hd : gs.length + 1 ≤ 999) (hz2 : (s 4).toInt ≤ 2000) {i : Int32} (hi0 : 0 ≤ i.toInt) (hl1 : 48 ≤ (rd_byte A (s 4) i).toInt) (hl2 : (rd_byte A (s 4) i).toInt ≤ 57) : ∀ N : Nat, ∀ (lv : mm_V) (o : Option Value) (n : Int32) (x : Int32), mm_get lv 0 = some (.ref (E.1 + 88)) → mm_get lv 1 = some (.int i) → mm_get lv 3 = some (.int n) → mm_get lv 4 = some (.int x) → 0 ≤ n.toInt → i.toInt + n.toInt ≤ (s 4).toInt → (s 4).toInt - (i.toInt + n.toInt) < N → (∀ (lv : mm_V) (o : Option Value) (n : Int32) (x : Int32), mm_get lv 0 = some (.ref (E.1 + 88)) → mm_get lv 1 = some (.int i) → mm_get lv 3 = some (.int n) → mm_get lv 4 = some (.int x) → 1 ≤ n.toInt → i.toInt + n.toInt ≤ (s 4).toInt → bh_G E FIN ((19, 250, lv, [], 0, 0) :: gs, h, o)) → bh_G E FIN ((19, 208, lv, [], 0, 0) :: gs, h, o) := by
  intro N
  induction N with
  | zero =>
    intro lv o n x g0 g1 g3 g4 n0 nz hN kk
    refine bh_ld (pc' := 209) bt_19_208 rfl rfl (fun _ _ _ => rfl) g0 rfl ?_
    refine bh_ld (pc' := 210) bt_19_209 rfl rfl (fun _ _ _ => rfl) g1 rfl ?_
    refine bh_ld (pc' := 211) bt_19_210 rfl rfl (fun _ _ _ => rfl) g3 rfl ?_
    refine bh_add (pc' := 212) bt_19_211 rfl (by omega) (by omega) (fun v3184 e3185 => ?_)
    have hb := rd_byte_c (A := A) (z := (s 4)) (v := v3184) (i := i)
    refine bh_cv (pc' := 215) (st := []) (args := [.int v3184]) bt_19_212 rfl rfl (by decide) hP (by omega) rfl (Nat.le_of_ble_eq_true rfl) (Nat.le_of_ble_eq_true rfl) ?_
    refine sp_12 (i := v3184) hP rfl (by omega) (by omega) (fun r3186 p3187 p3188 => ?_)
    show bh_G E FIN ((19, 215, lv, [.int r3186], 0, 0) :: gs, _, none)
    refine bh_cs (pc' := 218) (st := []) (args := [.int r3186]) bt_19_215 rfl rfl (by decide) (by omega) rfl (Nat.le_of_ble_eq_true rfl) (Nat.le_of_ble_eq_true rfl) ?_
    refine sp_48 (c := r3186) (fun r3189 p3190 p3191 => ?_)
    show bh_G E FIN ((19, 218, lv, [.int r3189], 0, 0) :: gs, _, none)
    refine bh_i0 (pc' := 221) (pt := 250) bt_19_218 rfl rfl (fun k3192 => ?_) (fun k3192 => ?_)
    · replace k3192 : (r3189).toInt = 0 := k3192
      exact kk _ _ _ _ g0 g1 g3 g4 (by omega) (by omega)
    · replace k3192 : ¬ ((r3189).toInt = 0) := k3192
      refine bh_ld (pc' := 222) bt_19_221 rfl rfl (fun _ _ _ => rfl) g3 rfl ?_
      refine bh_c (pc' := 223) (n := 4) bt_19_222 rfl rfl (fun _ _ _ => rfl) (by decide) (fun c3193 e3194 => ?_)
      refine bh_ic (pc' := 226) (pt := 244) bt_19_223 rfl rfl (fun k3195 => ?_) (fun k3195 => ?_)
      · replace k3195 : (c3193).toInt ≤ (n).toInt := k3195
        refine bh_inc (pc' := 247) bt_19_244 rfl (by decide) g3 (by decide) (by omega) (by omega) (fun lv3196 y3199 F3197 g3198 e3200 => ?_)
        have g3201 := F3197 0 (.ref (E.1 + 88)) g0 (by decide) (Or.inl rfl)
        have g3202 := F3197 1 (.int i) g1 (by decide) (Or.inl rfl)
        have g3203 := F3197 4 (.int x) g4 (by decide) (Or.inl rfl)
        refine bh_go (pc' := 208) bt_19_247 rfl ?_
        exfalso
        omega
      · replace k3195 : ¬ ((c3193).toInt ≤ (n).toInt) := k3195
        refine bh_c (pc' := 228) (n := 10) bt_19_226 rfl rfl (fun _ _ _ => rfl) (by decide) (fun c3204 e3205 => ?_)
        refine bh_ld (pc' := 230) bt_19_228 rfl rfl (fun _ _ _ => rfl) g4 rfl ?_
        refine bh_mulA (pc' := 231) bt_19_230 rfl (fun v3206 => ?_)
        refine bh_ld (pc' := 232) bt_19_231 rfl rfl (fun _ _ _ => rfl) g0 rfl ?_
        refine bh_ld (pc' := 233) bt_19_232 rfl rfl (fun _ _ _ => rfl) g1 rfl ?_
        refine bh_ld (pc' := 234) bt_19_233 rfl rfl (fun _ _ _ => rfl) g3 rfl ?_
        refine bh_add (pc' := 235) bt_19_234 rfl (by omega) (by omega) (fun v3208 e3209 => ?_)
        refine bh_cv (pc' := 238) (st := [.int v3206]) (args := [.int v3208]) bt_19_235 rfl rfl (by decide) hP (by omega) rfl (Nat.le_of_ble_eq_true rfl) (Nat.le_of_ble_eq_true rfl) ?_
        refine sp_12 (i := v3208) hP rfl (by omega) (by omega) (fun r3210 p3211 p3212 => ?_)
        show bh_G E FIN ((19, 238, lv, [.int r3210, .int v3206], 0, 0) :: gs, _, none)
        refine bh_addA (pc' := 239) bt_19_238 rfl (fun v3213 => ?_)
        refine bh_c (pc' := 241) (n := 48) bt_19_239 rfl rfl (fun _ _ _ => rfl) (by decide) (fun c3215 e3216 => ?_)
        refine bh_subA (pc' := 242) bt_19_241 rfl (fun v3217 => ?_)
        refine bh_st (pc' := 244) bt_19_242 rfl rfl (fun _ _ _ => rfl) rfl (by decide) (by decide) (fun lv3219 F3220 g3221 => ?_)
        have g3222 := F3220 0 (.ref (E.1 + 88)) g0 (by decide) (Or.inl rfl)
        have g3223 := F3220 1 (.int i) g1 (by decide) (Or.inl rfl)
        have g3224 := F3220 3 (.int n) g3 (by decide) (Or.inl rfl)
        refine bh_inc (pc' := 247) bt_19_244 rfl (by decide) g3224 (by decide) (by omega) (by omega) (fun lv3225 y3228 F3226 g3227 e3229 => ?_)
        have g3230 := F3226 0 (.ref (E.1 + 88)) g3222 (by decide) (Or.inl rfl)
        have g3231 := F3226 1 (.int i) g3223 (by decide) (Or.inl rfl)
        have g3232 := F3226 4 (.int v3217) g3221 (by decide) (Or.inl rfl)
        refine bh_go (pc' := 208) bt_19_247 rfl ?_
        exfalso
        omega
  | succ N ih =>
    intro lv o n x g0 g1 g3 g4 n0 nz hN kk
    refine bh_ld (pc' := 209) bt_19_208 rfl rfl (fun _ _ _ => rfl) g0 rfl ?_
    refine bh_ld (pc' := 210) bt_19_209 rfl rfl (fun _ _ _ => rfl) g1 rfl ?_
    refine bh_ld (pc' := 211) bt_19_210 rfl rfl (fun _ _ _ => rfl) g3 rfl ?_
    refine bh_add (pc' := 212) bt_19_211 rfl (by omega) (by omega) (fun v3233 e3234 => ?_)
    have hb := rd_byte_c (A := A) (z := (s 4)) (v := v3233) (i := i)
    refine bh_cv (pc' := 215) (st := []) (args := [.int v3233]) bt_19_212 rfl rfl (by decide) hP (by omega) rfl (Nat.le_of_ble_eq_true rfl) (Nat.le_of_ble_eq_true rfl) ?_
    refine sp_12 (i := v3233) hP rfl (by omega) (by omega) (fun r3235 p3236 p3237 => ?_)
    show bh_G E FIN ((19, 215, lv, [.int r3235], 0, 0) :: gs, _, none)
    refine bh_cs (pc' := 218) (st := []) (args := [.int r3235]) bt_19_215 rfl rfl (by decide) (by omega) rfl (Nat.le_of_ble_eq_true rfl) (Nat.le_of_ble_eq_true rfl) ?_
    refine sp_48 (c := r3235) (fun r3238 p3239 p3240 => ?_)
    show bh_G E FIN ((19, 218, lv, [.int r3238], 0, 0) :: gs, _, none)
    refine bh_i0 (pc' := 221) (pt := 250) bt_19_218 rfl rfl (fun k3241 => ?_) (fun k3241 => ?_)
    · replace k3241 : (r3238).toInt = 0 := k3241
      exact kk _ _ _ _ g0 g1 g3 g4 (by omega) (by omega)
    · replace k3241 : ¬ ((r3238).toInt = 0) := k3241
      refine bh_ld (pc' := 222) bt_19_221 rfl rfl (fun _ _ _ => rfl) g3 rfl ?_
      refine bh_c (pc' := 223) (n := 4) bt_19_222 rfl rfl (fun _ _ _ => rfl) (by decide) (fun c3242 e3243 => ?_)
      refine bh_ic (pc' := 226) (pt := 244) bt_19_223 rfl rfl (fun k3244 => ?_) (fun k3244 => ?_)
      · replace k3244 : (c3242).toInt ≤ (n).toInt := k3244
        refine bh_inc (pc' := 247) bt_19_244 rfl (by decide) g3 (by decide) (by omega) (by omega) (fun lv3245 y3248 F3246 g3247 e3249 => ?_)
        have g3250 := F3246 0 (.ref (E.1 + 88)) g0 (by decide) (Or.inl rfl)
        have g3251 := F3246 1 (.int i) g1 (by decide) (Or.inl rfl)
        have g3252 := F3246 4 (.int x) g4 (by decide) (Or.inl rfl)
        refine bh_go (pc' := 208) bt_19_247 rfl ?_
        exact ih _ _ _ _ g3250 g3251 g3247 g3252 (by omega) (by omega) (by omega) kk
      · replace k3244 : ¬ ((c3242).toInt ≤ (n).toInt) := k3244
        refine bh_c (pc' := 228) (n := 10) bt_19_226 rfl rfl (fun _ _ _ => rfl) (by decide) (fun c3253 e3254 => ?_)
        refine bh_ld (pc' := 230) bt_19_228 rfl rfl (fun _ _ _ => rfl) g4 rfl ?_
        refine bh_mulA (pc' := 231) bt_19_230 rfl (fun v3255 => ?_)
        refine bh_ld (pc' := 232) bt_19_231 rfl rfl (fun _ _ _ => rfl) g0 rfl ?_
        refine bh_ld (pc' := 233) bt_19_232 rfl rfl (fun _ _ _ => rfl) g1 rfl ?_
        refine bh_ld (pc' := 234) bt_19_233 rfl rfl (fun _ _ _ => rfl) g3 rfl ?_
        refine bh_add (pc' := 235) bt_19_234 rfl (by omega) (by omega) (fun v3257 e3258 => ?_)
        refine bh_cv (pc' := 238) (st := [.int v3255]) (args := [.int v3257]) bt_19_235 rfl rfl (by decide) hP (by omega) rfl (Nat.le_of_ble_eq_true rfl) (Nat.le_of_ble_eq_true rfl) ?_
        refine sp_12 (i := v3257) hP rfl (by omega) (by omega) (fun r3259 p3260 p3261 => ?_)
        show bh_G E FIN ((19, 238, lv, [.int r3259, .int v3255], 0, 0) :: gs, _, none)
        refine bh_addA (pc' := 239) bt_19_238 rfl (fun v3262 => ?_)
        refine bh_c (pc' := 241) (n := 48) bt_19_239 rfl rfl (fun _ _ _ => rfl) (by decide) (fun c3264 e3265 => ?_)
        refine bh_subA (pc' := 242) bt_19_241 rfl (fun v3266 => ?_)
        refine bh_st (pc' := 244) bt_19_242 rfl rfl (fun _ _ _ => rfl) rfl (by decide) (by decide) (fun lv3268 F3269 g3270 => ?_)
        have g3271 := F3269 0 (.ref (E.1 + 88)) g0 (by decide) (Or.inl rfl)
        have g3272 := F3269 1 (.int i) g1 (by decide) (Or.inl rfl)
        have g3273 := F3269 3 (.int n) g3 (by decide) (Or.inl rfl)
        refine bh_inc (pc' := 247) bt_19_244 rfl (by decide) g3273 (by decide) (by omega) (by omega) (fun lv3274 y3277 F3275 g3276 e3278 => ?_)
        have g3279 := F3275 0 (.ref (E.1 + 88)) g3271 (by decide) (Or.inl rfl)
        have g3280 := F3275 1 (.int i) g3272 (by decide) (Or.inl rfl)
        have g3281 := F3275 4 (.int v3266) g3270 (by decide) (Or.inl rfl)
        refine bh_go (pc' := 208) bt_19_247 rfl ?_
        exact ih _ _ _ _ g3279 g3280 g3276 g3281 (by omega) (by omega) (by omega) kk
set_option maxHeartbeats 40000000 in
theorem rd_key (hP : bh_P bx_T E h0 h s A L) {i n : Int32} {x : Int64} : ∀ N : Nat, ∀ (lv : mm_V) (o : Option Value) (k q : Int32), mm_get lv 0 = some (.ref (E.1 + 88)) → mm_get lv 1 = some (.int i) → mm_get lv 3 = some (.int n) → mm_get lv 4 = some (.long x) → mm_get lv 6 = some (.int k) → mm_get lv 7 = some (.int q) → 0 ≤ k.toInt → k.toInt ≤ 43 → 0 ≤ q.toInt → q.toInt ≤ 24 → 24 - q.toInt < N → (∀ (lv : mm_V) (o : Option Value) (k : Int32), mm_get lv 0 = some (.ref (E.1 + 88)) → mm_get lv 1 = some (.int i) → mm_get lv 3 = some (.int n) → mm_get lv 4 = some (.long x) → mm_get lv 6 = some (.int k) → 0 ≤ k.toInt → k.toInt ≤ 43 → bh_G E FIN ((19, 179, lv, [], 0, 0) :: gs, h, o)) → bh_G E FIN ((19, 146, lv, [], 0, 0) :: gs, h, o) := by
  intro N
  induction N with
  | zero =>
    intro lv o k q g0 g1 g3 g4 g6 g7 k0 k1 q0 q1 hN kk
    refine bh_ld (pc' := 148) bt_19_146 rfl rfl (fun _ _ _ => rfl) g7 rfl ?_
    refine bh_c (pc' := 150) (n := 24) bt_19_148 rfl rfl (fun _ _ _ => rfl) (by decide) (fun c3282 e3283 => ?_)
    refine bh_ic (pc' := 153) (pt := 179) bt_19_150 rfl rfl (fun k3284 => ?_) (fun k3284 => ?_)
    · replace k3284 : (c3282).toInt ≤ (q).toInt := k3284
      exact kk _ _ _ g0 g1 g3 g4 g6 (by omega) (by omega)
    · replace k3284 : ¬ ((c3282).toInt ≤ (q).toInt) := k3284
      refine bh_ld (pc' := 154) bt_19_153 rfl rfl (fun _ _ _ => rfl) g0 rfl ?_
      refine bh_gr (pc' := 157) (c := 95) bt_19_154 rfl rfl (fun _ _ _ => rfl) hP bx_r9 ?_
      refine bh_ld (pc' := 159) bt_19_157 rfl rfl (fun _ _ _ => rfl) g7 rfl ?_
      refine bh_la (pc' := 160) bt_19_159 rfl rfl (fun _ _ _ => rfl) hP bx_l95 (by omega) (by omega) (fun x3285 => ?_)
      refine bh_ld (pc' := 162) bt_19_160 rfl rfl (fun _ _ _ => rfl) g4 rfl ?_
      refine bh_lcmp (pc' := 163) bt_19_162 rfl (fun v3286 => ?_)
      refine bh_i0 (pc' := 166) (pt := 173) bt_19_163 rfl rfl (fun k3287 => ?_) (fun k3287 => ?_)
      · replace k3287 : (v3286).toInt ≠ 0 := k3287
        refine bh_inc (pc' := 176) bt_19_173 rfl (by decide) g7 (by decide) (by omega) (by omega) (fun lv3288 y3291 F3289 g3290 e3292 => ?_)
        have g3293 := F3289 0 (.ref (E.1 + 88)) g0 (by decide) (Or.inl rfl)
        have g3294 := F3289 1 (.int i) g1 (by decide) (Or.inl rfl)
        have g3295 := F3289 3 (.int n) g3 (by decide) (Or.inl rfl)
        have g3296 := F3289 4 (.long x) g4 (by decide) (Or.inr (by decide))
        have g3297 := F3289 6 (.int k) g6 (by decide) (Or.inl rfl)
        refine bh_go (pc' := 146) bt_19_176 rfl ?_
        exfalso
        omega
      · replace k3287 : ¬ ((v3286).toInt ≠ 0) := k3287
        refine bh_c (pc' := 168) (n := 20) bt_19_166 rfl rfl (fun _ _ _ => rfl) (by decide) (fun c3298 e3299 => ?_)
        refine bh_ld (pc' := 170) bt_19_168 rfl rfl (fun _ _ _ => rfl) g7 rfl ?_
        refine bh_add (pc' := 171) bt_19_170 rfl (by omega) (by omega) (fun v3300 e3301 => ?_)
        refine bh_st (pc' := 173) bt_19_171 rfl rfl (fun _ _ _ => rfl) rfl (by decide) (by decide) (fun lv3302 F3303 g3304 => ?_)
        have g3305 := F3303 0 (.ref (E.1 + 88)) g0 (by decide) (Or.inl rfl)
        have g3306 := F3303 1 (.int i) g1 (by decide) (Or.inl rfl)
        have g3307 := F3303 3 (.int n) g3 (by decide) (Or.inl rfl)
        have g3308 := F3303 4 (.long x) g4 (by decide) (Or.inr (by decide))
        have g3309 := F3303 7 (.int q) g7 (by decide) (Or.inl rfl)
        refine bh_inc (pc' := 176) bt_19_173 rfl (by decide) g3309 (by decide) (by omega) (by omega) (fun lv3310 y3313 F3311 g3312 e3314 => ?_)
        have g3315 := F3311 0 (.ref (E.1 + 88)) g3305 (by decide) (Or.inl rfl)
        have g3316 := F3311 1 (.int i) g3306 (by decide) (Or.inl rfl)
        have g3317 := F3311 3 (.int n) g3307 (by decide) (Or.inl rfl)
        have g3318 := F3311 4 (.long x) g3308 (by decide) (Or.inr (by decide))
        have g3319 := F3311 6 (.int v3300) g3304 (by decide) (Or.inl rfl)
        refine bh_go (pc' := 146) bt_19_176 rfl ?_
        exfalso
        omega
  | succ N ih =>
    intro lv o k q g0 g1 g3 g4 g6 g7 k0 k1 q0 q1 hN kk
    refine bh_ld (pc' := 148) bt_19_146 rfl rfl (fun _ _ _ => rfl) g7 rfl ?_
    refine bh_c (pc' := 150) (n := 24) bt_19_148 rfl rfl (fun _ _ _ => rfl) (by decide) (fun c3320 e3321 => ?_)
    refine bh_ic (pc' := 153) (pt := 179) bt_19_150 rfl rfl (fun k3322 => ?_) (fun k3322 => ?_)
    · replace k3322 : (c3320).toInt ≤ (q).toInt := k3322
      exact kk _ _ _ g0 g1 g3 g4 g6 (by omega) (by omega)
    · replace k3322 : ¬ ((c3320).toInt ≤ (q).toInt) := k3322
      refine bh_ld (pc' := 154) bt_19_153 rfl rfl (fun _ _ _ => rfl) g0 rfl ?_
      refine bh_gr (pc' := 157) (c := 95) bt_19_154 rfl rfl (fun _ _ _ => rfl) hP bx_r9 ?_
      refine bh_ld (pc' := 159) bt_19_157 rfl rfl (fun _ _ _ => rfl) g7 rfl ?_
      refine bh_la (pc' := 160) bt_19_159 rfl rfl (fun _ _ _ => rfl) hP bx_l95 (by omega) (by omega) (fun x3323 => ?_)
      refine bh_ld (pc' := 162) bt_19_160 rfl rfl (fun _ _ _ => rfl) g4 rfl ?_
      refine bh_lcmp (pc' := 163) bt_19_162 rfl (fun v3324 => ?_)
      refine bh_i0 (pc' := 166) (pt := 173) bt_19_163 rfl rfl (fun k3325 => ?_) (fun k3325 => ?_)
      · replace k3325 : (v3324).toInt ≠ 0 := k3325
        refine bh_inc (pc' := 176) bt_19_173 rfl (by decide) g7 (by decide) (by omega) (by omega) (fun lv3326 y3329 F3327 g3328 e3330 => ?_)
        have g3331 := F3327 0 (.ref (E.1 + 88)) g0 (by decide) (Or.inl rfl)
        have g3332 := F3327 1 (.int i) g1 (by decide) (Or.inl rfl)
        have g3333 := F3327 3 (.int n) g3 (by decide) (Or.inl rfl)
        have g3334 := F3327 4 (.long x) g4 (by decide) (Or.inr (by decide))
        have g3335 := F3327 6 (.int k) g6 (by decide) (Or.inl rfl)
        refine bh_go (pc' := 146) bt_19_176 rfl ?_
        exact ih _ _ _ _ g3331 g3332 g3333 g3334 g3335 g3328 (by omega) (by omega) (by omega) (by omega) (by omega) kk
      · replace k3325 : ¬ ((v3324).toInt ≠ 0) := k3325
        refine bh_c (pc' := 168) (n := 20) bt_19_166 rfl rfl (fun _ _ _ => rfl) (by decide) (fun c3336 e3337 => ?_)
        refine bh_ld (pc' := 170) bt_19_168 rfl rfl (fun _ _ _ => rfl) g7 rfl ?_
        refine bh_add (pc' := 171) bt_19_170 rfl (by omega) (by omega) (fun v3338 e3339 => ?_)
        refine bh_st (pc' := 173) bt_19_171 rfl rfl (fun _ _ _ => rfl) rfl (by decide) (by decide) (fun lv3340 F3341 g3342 => ?_)
        have g3343 := F3341 0 (.ref (E.1 + 88)) g0 (by decide) (Or.inl rfl)
        have g3344 := F3341 1 (.int i) g1 (by decide) (Or.inl rfl)
        have g3345 := F3341 3 (.int n) g3 (by decide) (Or.inl rfl)
        have g3346 := F3341 4 (.long x) g4 (by decide) (Or.inr (by decide))
        have g3347 := F3341 7 (.int q) g7 (by decide) (Or.inl rfl)
        refine bh_inc (pc' := 176) bt_19_173 rfl (by decide) g3347 (by decide) (by omega) (by omega) (fun lv3348 y3351 F3349 g3350 e3352 => ?_)
        have g3353 := F3349 0 (.ref (E.1 + 88)) g3343 (by decide) (Or.inl rfl)
        have g3354 := F3349 1 (.int i) g3344 (by decide) (Or.inl rfl)
        have g3355 := F3349 3 (.int n) g3345 (by decide) (Or.inl rfl)
        have g3356 := F3349 4 (.long x) g3346 (by decide) (Or.inr (by decide))
        have g3357 := F3349 6 (.int v3338) g3342 (by decide) (Or.inl rfl)
        refine bh_go (pc' := 146) bt_19_176 rfl ?_
        exact ih _ _ _ _ g3353 g3354 g3355 g3356 g3357 g3350 (by omega) (by omega) (by omega) (by omega) (by omega) kk
set_option maxHeartbeats 40000000 in
theorem rd_cut (hd : gs.length + 2 ≤ 999) : ∀ N : Nat, ∀ (h : mm_H) (s : Nat → Int32) (A : Nat → Nat → Int32) (L : Nat → Nat → Int64) (lv : mm_V) (o : Option Value) (i : Int32), bh_P bx_T E h0 h s A L → mm_get lv 0 = some (.ref (E.1 + 88)) → mm_get lv 1 = some (.int i) → (∀ j, j < 403 → 0 ≤ (A 91 j).toInt ∧ (A 91 j).toInt ≤ 43) → 0 ≤ i.toInt → i.toInt ≤ (s 4).toInt → (s 4).toInt ≤ 2000 → 0 ≤ (s 10).toInt → (s 10).toInt ≤ 401 → (s 4).toInt - i.toInt < N → (∀ (h' : mm_H) (s' : Nat → Int32) (A' : Nat → Nat → Int32) (L' : Nat → Nat → Int64), bh_P bx_T E h0 h' s' A' L' → (∀ j, j ≠ 10 → s' j = s j) → (∀ k j, (k < 91 ∨ 93 < k) → A' k j = A k j) → (∀ j, j < 403 → 0 ≤ (A' 91 j).toInt ∧ (A' 91 j).toInt ≤ 43) → (0 ≤ (s' 10).toInt ∧ (s' 10).toInt ≤ 401) → bh_G E FIN (mm_back none gs h')) → bh_G E FIN ((19, 7, lv, [], 0, 0) :: gs, h, o) := by
  intro N
  induction N with
  | zero =>
    intro h s A L lv o i hP g0 g1 hq i0 i1 z2 t0 t1 hN kk
    exfalso
    omega
  | succ N ih =>
    intro h s A L lv o i hP g0 g1 hq i0 i1 z2 t0 t1 hN kk
    refine bh_ld (pc' := 8) bt_19_7 rfl rfl (fun _ _ _ => rfl) g0 rfl ?_
    refine bh_gi (pc' := 11) bt_19_8 rfl rfl (fun _ _ _ => rfl) hP bx_i10 rfl ?_
    refine bh_c (pc' := 14) (n := 400) bt_19_11 rfl rfl (fun _ _ _ => rfl) (by decide) (fun c3358 e3359 => ?_)
    refine bh_ic (pc' := 17) (pt := 294) bt_19_14 rfl rfl (fun k3360 => ?_) (fun k3360 => ?_)
    · replace k3360 : (c3358).toInt < ((s 10)).toInt := k3360
      refine bh_rv bt_19_294 ?_
      exact kk _ _ _ _ hP (fun j j10 => rfl) (fun k j u => rfl) hq (by omega)
    · replace k3360 : ¬ ((c3358).toInt < ((s 10)).toInt) := k3360
      refine bh_ld (pc' := 18) bt_19_17 rfl rfl (fun _ _ _ => rfl) g0 rfl ?_
      refine bh_ld (pc' := 19) bt_19_18 rfl rfl (fun _ _ _ => rfl) g1 rfl ?_
      refine bh_cv (pc' := 22) (st := []) (args := [.int i]) bt_19_19 rfl rfl (by decide) hP (by omega) rfl (Nat.le_of_ble_eq_true rfl) (Nat.le_of_ble_eq_true rfl) ?_
      refine sp_12 (i := i) hP rfl (by omega) (by omega) (fun r3361 p3362 p3363 => ?_)
      show bh_G E FIN ((19, 22, lv, [.int r3361], 0, 0) :: gs, _, none)
      refine bh_st (pc' := 23) bt_19_22 rfl rfl (fun _ _ _ => rfl) rfl (by decide) (by decide) (fun lv3364 F3365 g3366 => ?_)
      have g3367 := F3365 0 (.ref (E.1 + 88)) g0 (by decide) (Or.inl rfl)
      have g3368 := F3365 1 (.int i) g1 (by decide) (Or.inl rfl)
      refine bh_ld (pc' := 24) bt_19_23 rfl rfl (fun _ _ _ => rfl) g3368 rfl ?_
      refine bh_ld (pc' := 25) bt_19_24 rfl rfl (fun _ _ _ => rfl) g3367 rfl ?_
      refine bh_gi (pc' := 28) bt_19_25 rfl rfl (fun _ _ _ => rfl) hP bx_i4 rfl ?_
      refine bh_ic (pc' := 31) (pt := 43) bt_19_28 rfl rfl (fun k3369 => ?_) (fun k3369 => ?_)
      · replace k3369 : (i).toInt < ((s 4)).toInt := k3369
        refine bh_ld (pc' := 44) bt_19_43 rfl rfl (fun _ _ _ => rfl) g3366 rfl ?_
        refine bh_c (pc' := 46) (n := 9) bt_19_44 rfl rfl (fun _ _ _ => rfl) (by decide) (fun c3370 e3371 => ?_)
        refine bh_ic (pc' := 49) (pt := 67) bt_19_46 rfl rfl (fun k3372 => ?_) (fun k3372 => ?_)
        · replace k3372 : (r3361).toInt = (c3370).toInt := k3372
          refine bh_inc (pc' := 70) bt_19_67 rfl (by decide) g3368 (by decide) (by omega) (by omega) (fun lv3373 y3376 F3374 g3375 e3377 => ?_)
          have g3378 := F3374 0 (.ref (E.1 + 88)) g3367 (by decide) (Or.inl rfl)
          have g3379 := F3374 2 (.int r3361) g3366 (by decide) (Or.inl rfl)
          refine bh_go (pc' := 291) bt_19_70 rfl ?_
          refine bh_go (pc' := 7) bt_19_291 rfl ?_
          exact ih _ _ _ _ _ _ _ hP g3378 g3375 hq (by omega) (by omega) (by omega) (by omega) (by omega) (by omega) (fun h' s' A' L' hP' f' a' q' p' => kk h' s' A' L' hP' (fun j j10 => (f' j j10).trans ((fun j j10 => rfl) j j10)) (fun k j u => (a' k j u).trans (rfl)) q' p')
        · replace k3372 : ¬ ((r3361).toInt = (c3370).toInt) := k3372
          refine bh_ld (pc' := 50) bt_19_49 rfl rfl (fun _ _ _ => rfl) g3366 rfl ?_
          refine bh_c (pc' := 52) (n := 10) bt_19_50 rfl rfl (fun _ _ _ => rfl) (by decide) (fun c3380 e3381 => ?_)
          refine bh_ic (pc' := 55) (pt := 67) bt_19_52 rfl rfl (fun k3382 => ?_) (fun k3382 => ?_)
          · replace k3382 : (r3361).toInt = (c3380).toInt := k3382
            refine bh_inc (pc' := 70) bt_19_67 rfl (by decide) g3368 (by decide) (by omega) (by omega) (fun lv3383 y3386 F3384 g3385 e3387 => ?_)
            have g3388 := F3384 0 (.ref (E.1 + 88)) g3367 (by decide) (Or.inl rfl)
            have g3389 := F3384 2 (.int r3361) g3366 (by decide) (Or.inl rfl)
            refine bh_go (pc' := 291) bt_19_70 rfl ?_
            refine bh_go (pc' := 7) bt_19_291 rfl ?_
            exact ih _ _ _ _ _ _ _ hP g3388 g3385 hq (by omega) (by omega) (by omega) (by omega) (by omega) (by omega) (fun h' s' A' L' hP' f' a' q' p' => kk h' s' A' L' hP' (fun j j10 => (f' j j10).trans ((fun j j10 => rfl) j j10)) (fun k j u => (a' k j u).trans (rfl)) q' p')
          · replace k3382 : ¬ ((r3361).toInt = (c3380).toInt) := k3382
            refine bh_ld (pc' := 56) bt_19_55 rfl rfl (fun _ _ _ => rfl) g3366 rfl ?_
            refine bh_c (pc' := 58) (n := 13) bt_19_56 rfl rfl (fun _ _ _ => rfl) (by decide) (fun c3390 e3391 => ?_)
            refine bh_ic (pc' := 61) (pt := 67) bt_19_58 rfl rfl (fun k3392 => ?_) (fun k3392 => ?_)
            · replace k3392 : (r3361).toInt = (c3390).toInt := k3392
              refine bh_inc (pc' := 70) bt_19_67 rfl (by decide) g3368 (by decide) (by omega) (by omega) (fun lv3393 y3396 F3394 g3395 e3397 => ?_)
              have g3398 := F3394 0 (.ref (E.1 + 88)) g3367 (by decide) (Or.inl rfl)
              have g3399 := F3394 2 (.int r3361) g3366 (by decide) (Or.inl rfl)
              refine bh_go (pc' := 291) bt_19_70 rfl ?_
              refine bh_go (pc' := 7) bt_19_291 rfl ?_
              exact ih _ _ _ _ _ _ _ hP g3398 g3395 hq (by omega) (by omega) (by omega) (by omega) (by omega) (by omega) (fun h' s' A' L' hP' f' a' q' p' => kk h' s' A' L' hP' (fun j j10 => (f' j j10).trans ((fun j j10 => rfl) j j10)) (fun k j u => (a' k j u).trans (rfl)) q' p')
            · replace k3392 : ¬ ((r3361).toInt = (c3390).toInt) := k3392
              refine bh_ld (pc' := 62) bt_19_61 rfl rfl (fun _ _ _ => rfl) g3366 rfl ?_
              refine bh_c (pc' := 64) (n := 32) bt_19_62 rfl rfl (fun _ _ _ => rfl) (by decide) (fun c3400 e3401 => ?_)
              refine bh_ic (pc' := 67) (pt := 73) bt_19_64 rfl rfl (fun k3402 => ?_) (fun k3402 => ?_)
              · replace k3402 : (r3361).toInt ≠ (c3400).toInt := k3402
                refine bh_ld (pc' := 74) bt_19_73 rfl rfl (fun _ _ _ => rfl) g3366 rfl ?_
                refine bh_cs (pc' := 77) (st := []) (args := [.int r3361]) bt_19_74 rfl rfl (by decide) (by omega) rfl (Nat.le_of_ble_eq_true rfl) (Nat.le_of_ble_eq_true rfl) ?_
                refine sp_50 (c := r3361) (fun r3403 p3404 p3405 => ?_)
                show bh_G E FIN ((19, 77, lv3364, [.int r3403], 0, 0) :: gs, _, none)
                refine bh_i0 (pc' := 80) (pt := 196) bt_19_77 rfl rfl (fun k3406 => ?_) (fun k3406 => ?_)
                · replace k3406 : (r3403).toInt = 0 := k3406
                  refine bh_ld (pc' := 197) bt_19_196 rfl rfl (fun _ _ _ => rfl) g3366 rfl ?_
                  refine bh_cs (pc' := 200) (st := []) (args := [.int r3361]) bt_19_197 rfl rfl (by decide) (by omega) rfl (Nat.le_of_ble_eq_true rfl) (Nat.le_of_ble_eq_true rfl) ?_
                  refine sp_48 (c := r3361) (fun r3407 p3408 p3409 => ?_)
                  show bh_G E FIN ((19, 200, lv3364, [.int r3407], 0, 0) :: gs, _, none)
                  refine bh_i0 (pc' := 203) (pt := 275) bt_19_200 rfl rfl (fun k3410 => ?_) (fun k3410 => ?_)
                  · replace k3410 : (r3407).toInt = 0 := k3410
                    refine bh_ld (pc' := 276) bt_19_275 rfl rfl (fun _ _ _ => rfl) g3368 rfl ?_
                    refine bh_ld (pc' := 277) bt_19_276 rfl rfl (fun _ _ _ => rfl) g3367 rfl ?_
                    refine bh_ld (pc' := 278) bt_19_277 rfl rfl (fun _ _ _ => rfl) g3368 rfl ?_
                    refine bh_ld (pc' := 279) bt_19_278 rfl rfl (fun _ _ _ => rfl) g3366 rfl ?_
                    refine bh_ld (pc' := 280) bt_19_279 rfl rfl (fun _ _ _ => rfl) g3367 rfl ?_
                    refine bh_ld (pc' := 281) bt_19_280 rfl rfl (fun _ _ _ => rfl) g3368 rfl ?_
                    refine bh_c (pc' := 282) (n := 1) bt_19_281 rfl rfl (fun _ _ _ => rfl) (by decide) (fun c3411 e3412 => ?_)
                    refine bh_add (pc' := 283) bt_19_282 rfl (by omega) (by omega) (fun v3413 e3414 => ?_)
                    refine bh_cv (pc' := 286) (st := [.int r3361, .int i, .ref (E.1 + 88), .int i]) (args := [.int v3413]) bt_19_283 rfl rfl (by decide) hP (by omega) rfl (Nat.le_of_ble_eq_true rfl) (Nat.le_of_ble_eq_true rfl) ?_
                    refine sp_12 (i := v3413) hP rfl (by omega) (by omega) (fun r3415 p3416 p3417 => ?_)
                    show bh_G E FIN ((19, 286, lv3364, [.int r3415, .int r3361, .int i, .ref (E.1 + 88), .int i], 0, 0) :: gs, _, none)
                    refine bh_cv (pc' := 289) (st := [.int i]) (args := [.int r3415, .int r3361, .int i]) bt_19_286 rfl rfl (by decide) hP (by omega) rfl (Nat.le_of_ble_eq_true rfl) (Nat.le_of_ble_eq_true rfl) ?_
                    refine sp_89 (i := i) (c := r3361) (d := r3415) hP (by simp only [List.length_cons]; omega) rfl (by omega) (by omega) hq (fun h3418 s3419 A3420 L3421 r3422 hP3423 f3424 a3425 q3426 p3427 p3428 => ?_)
                    show bh_G E FIN ((19, 289, lv3364, [.int r3422, .int i], 0, 0) :: gs, _, none)
                    refine bh_add (pc' := 290) bt_19_289 rfl (by omega) (by omega) (fun v3429 e3430 => ?_)
                    refine bh_st (pc' := 291) bt_19_290 rfl rfl (fun _ _ _ => rfl) rfl (by decide) (by decide) (fun lv3431 F3432 g3433 => ?_)
                    have g3434 := F3432 0 (.ref (E.1 + 88)) g3367 (by decide) (Or.inl rfl)
                    have g3435 := F3432 2 (.int r3361) g3366 (by decide) (Or.inl rfl)
                    refine bh_go (pc' := 7) bt_19_291 rfl ?_
                    have z4 := congrArg Int32.toInt (f3424 4 (by decide))
                    exact ih _ _ _ _ _ _ _ hP3423 g3434 g3433 q3426 (by omega) (by omega) (by omega) (by omega) (by omega) (by omega) (fun h' s' A' L' hP' f' a' q' p' => kk h' s' A' L' hP' (fun j j10 => (f' j j10).trans ((fun j j10 => (f3424 j j10)) j j10)) (fun k j u => (a' k j u).trans ((a3425 k j u))) q' p')
                  · replace k3410 : ¬ ((r3407).toInt = 0) := k3410
                    refine bh_c (pc' := 204) (n := 0) bt_19_203 rfl rfl (fun _ _ _ => rfl) (by decide) (fun c3436 e3437 => ?_)
                    refine bh_st (pc' := 205) bt_19_204 rfl rfl (fun _ _ _ => rfl) rfl (by decide) (by decide) (fun lv3438 F3439 g3440 => ?_)
                    have g3441 := F3439 0 (.ref (E.1 + 88)) g3367 (by decide) (Or.inl rfl)
                    have g3442 := F3439 1 (.int i) g3368 (by decide) (Or.inl rfl)
                    have g3443 := F3439 2 (.int r3361) g3366 (by decide) (Or.inl rfl)
                    refine bh_c (pc' := 206) (n := 0) bt_19_205 rfl rfl (fun _ _ _ => rfl) (by decide) (fun c3444 e3445 => ?_)
                    refine bh_st (pc' := 208) bt_19_206 rfl rfl (fun _ _ _ => rfl) rfl (by decide) (by decide) (fun lv3446 F3447 g3448 => ?_)
                    have g3449 := F3447 0 (.ref (E.1 + 88)) g3441 (by decide) (Or.inl rfl)
                    have g3450 := F3447 1 (.int i) g3442 (by decide) (Or.inl rfl)
                    have g3451 := F3447 2 (.int r3361) g3443 (by decide) (Or.inl rfl)
                    have g3452 := F3447 3 (.int c3436) g3440 (by decide) (Or.inl rfl)
                    refine rd_dig hP (by omega) (by omega) (by omega) (by omega) (by omega) 2001 _ _ _ _ g3449 g3450 g3452 g3448 (by omega) (by omega) (by omega) (fun lv3453 o3454 n3455 x3456 g3457 g3458 g3459 g3460 p3461 p3462 => ?_)
                    refine bh_ld (pc' := 251) bt_19_250 rfl rfl (fun _ _ _ => rfl) g3457 rfl ?_
                    refine bh_ld (pc' := 252) bt_19_251 rfl rfl (fun _ _ _ => rfl) g3459 rfl ?_
                    refine bh_c (pc' := 253) (n := 4) bt_19_252 rfl rfl (fun _ _ _ => rfl) (by decide) (fun c3463 e3464 => ?_)
                    refine bh_ic (pc' := 256) (pt := 260) bt_19_253 rfl rfl (fun k3465 => ?_) (fun k3465 => ?_)
                    · replace k3465 : (n3455).toInt ≤ (c3463).toInt := k3465
                      refine bh_c (pc' := 261) (n := 2) bt_19_260 rfl rfl (fun _ _ _ => rfl) (by decide) (fun c3466 e3467 => ?_)
                      refine bh_ld (pc' := 262) bt_19_261 rfl rfl (fun _ _ _ => rfl) g3458 rfl ?_
                      refine bh_ld (pc' := 264) bt_19_262 rfl rfl (fun _ _ _ => rfl) g3460 rfl ?_
                      refine bh_cL (pc' := 265) bt_19_264 rfl rfl (fun _ _ _ => rfl) (fun x3468 => ?_)
                      refine bh_cv (pc' := 268) (st := []) (args := [.long x3468, .int x3456, .int i, .int c3466]) bt_19_265 rfl rfl (by decide) hP (by omega) rfl (Nat.le_of_ble_eq_true rfl) (Nat.le_of_ble_eq_true rfl) ?_
                      refine sp_103 (k := c3466) (w := i) (v := x3456) (x := x3468) hP rfl (by omega) (by omega) (by omega) (by omega) hq (fun h3469 s3470 A3471 L3472 hP3473 f3474 a3475 q3476 p3477 => ?_)
                      show bh_G E FIN ((19, 268, lv3453, [], 0, 0) :: gs, _, none)
                      refine bh_ld (pc' := 269) bt_19_268 rfl rfl (fun _ _ _ => rfl) g3458 rfl ?_
                      refine bh_ld (pc' := 270) bt_19_269 rfl rfl (fun _ _ _ => rfl) g3459 rfl ?_
                      refine bh_add (pc' := 271) bt_19_270 rfl (by omega) (by omega) (fun v3478 e3479 => ?_)
                      refine bh_st (pc' := 272) bt_19_271 rfl rfl (fun _ _ _ => rfl) rfl (by decide) (by decide) (fun lv3480 F3481 g3482 => ?_)
                      have g3483 := F3481 0 (.ref (E.1 + 88)) g3457 (by decide) (Or.inl rfl)
                      have g3484 := F3481 3 (.int n3455) g3459 (by decide) (Or.inl rfl)
                      have g3485 := F3481 4 (.int x3456) g3460 (by decide) (Or.inl rfl)
                      refine bh_go (pc' := 291) bt_19_272 rfl ?_
                      refine bh_go (pc' := 7) bt_19_291 rfl ?_
                      have z4 := congrArg Int32.toInt (f3474 4 (by decide))
                      exact ih _ _ _ _ _ _ _ hP3473 g3483 g3482 q3476 (by omega) (by omega) (by omega) (by omega) (by omega) (by omega) (fun h' s' A' L' hP' f' a' q' p' => kk h' s' A' L' hP' (fun j j10 => (f' j j10).trans ((fun j j10 => (f3474 j j10)) j j10)) (fun k j u => (a' k j u).trans ((a3475 k j u))) q' p')
                    · replace k3465 : ¬ ((n3455).toInt ≤ (c3463).toInt) := k3465
                      refine bh_c (pc' := 257) (n := 3) bt_19_256 rfl rfl (fun _ _ _ => rfl) (by decide) (fun c3486 e3487 => ?_)
                      refine bh_go (pc' := 261) bt_19_257 rfl ?_
                      refine bh_ld (pc' := 262) bt_19_261 rfl rfl (fun _ _ _ => rfl) g3458 rfl ?_
                      refine bh_ld (pc' := 264) bt_19_262 rfl rfl (fun _ _ _ => rfl) g3460 rfl ?_
                      refine bh_cL (pc' := 265) bt_19_264 rfl rfl (fun _ _ _ => rfl) (fun x3488 => ?_)
                      refine bh_cv (pc' := 268) (st := []) (args := [.long x3488, .int x3456, .int i, .int c3486]) bt_19_265 rfl rfl (by decide) hP (by omega) rfl (Nat.le_of_ble_eq_true rfl) (Nat.le_of_ble_eq_true rfl) ?_
                      refine sp_103 (k := c3486) (w := i) (v := x3456) (x := x3488) hP rfl (by omega) (by omega) (by omega) (by omega) hq (fun h3489 s3490 A3491 L3492 hP3493 f3494 a3495 q3496 p3497 => ?_)
                      show bh_G E FIN ((19, 268, lv3453, [], 0, 0) :: gs, _, none)
                      refine bh_ld (pc' := 269) bt_19_268 rfl rfl (fun _ _ _ => rfl) g3458 rfl ?_
                      refine bh_ld (pc' := 270) bt_19_269 rfl rfl (fun _ _ _ => rfl) g3459 rfl ?_
                      refine bh_add (pc' := 271) bt_19_270 rfl (by omega) (by omega) (fun v3498 e3499 => ?_)
                      refine bh_st (pc' := 272) bt_19_271 rfl rfl (fun _ _ _ => rfl) rfl (by decide) (by decide) (fun lv3500 F3501 g3502 => ?_)
                      have g3503 := F3501 0 (.ref (E.1 + 88)) g3457 (by decide) (Or.inl rfl)
                      have g3504 := F3501 3 (.int n3455) g3459 (by decide) (Or.inl rfl)
                      have g3505 := F3501 4 (.int x3456) g3460 (by decide) (Or.inl rfl)
                      refine bh_go (pc' := 291) bt_19_272 rfl ?_
                      refine bh_go (pc' := 7) bt_19_291 rfl ?_
                      have z4 := congrArg Int32.toInt (f3494 4 (by decide))
                      exact ih _ _ _ _ _ _ _ hP3493 g3503 g3502 q3496 (by omega) (by omega) (by omega) (by omega) (by omega) (by omega) (fun h' s' A' L' hP' f' a' q' p' => kk h' s' A' L' hP' (fun j j10 => (f' j j10).trans ((fun j j10 => (f3494 j j10)) j j10)) (fun k j u => (a' k j u).trans ((a3495 k j u))) q' p')
                · replace k3406 : ¬ ((r3403).toInt = 0) := k3406
                  refine bh_c (pc' := 81) (n := 0) bt_19_80 rfl rfl (fun _ _ _ => rfl) (by decide) (fun c3506 e3507 => ?_)
                  refine bh_st (pc' := 82) bt_19_81 rfl rfl (fun _ _ _ => rfl) rfl (by decide) (by decide) (fun lv3508 F3509 g3510 => ?_)
                  have g3511 := F3509 0 (.ref (E.1 + 88)) g3367 (by decide) (Or.inl rfl)
                  have g3512 := F3509 1 (.int i) g3368 (by decide) (Or.inl rfl)
                  have g3513 := F3509 2 (.int r3361) g3366 (by decide) (Or.inl rfl)
                  refine bh_cL (pc' := 83) bt_19_82 rfl rfl (fun _ _ _ => rfl) (fun x3514 => ?_)
                  refine bh_stL (pc' := 85) bt_19_83 rfl rfl (fun _ _ _ => rfl) (by decide) (fun lv3515 F3516 g3517 => ?_)
                  have g3518 := F3516 0 (.ref (E.1 + 88)) g3511 (by decide) (by decide) (Or.inl rfl)
                  have g3519 := F3516 1 (.int i) g3512 (by decide) (by decide) (Or.inl rfl)
                  have g3520 := F3516 2 (.int r3361) g3513 (by decide) (by decide) (Or.inl rfl)
                  have g3521 := F3516 3 (.int c3506) g3510 (by decide) (by decide) (Or.inl rfl)
                  refine rd_let hP (by omega) (by omega) (by omega) (by omega) (by omega) 2001 _ _ _ _ g3518 g3519 g3521 g3517 (by omega) (by omega) (by omega) (fun lv3522 o3523 n3524 x3525 g3526 g3527 g3528 g3529 p3530 p3531 => ?_)
                  refine bh_ld (pc' := 125) bt_19_124 rfl rfl (fun _ _ _ => rfl) g3528 rfl ?_
                  refine bh_c (pc' := 127) (n := 8) bt_19_125 rfl rfl (fun _ _ _ => rfl) (by decide) (fun c3532 e3533 => ?_)
                  refine bh_ic (pc' := 130) (pt := 134) bt_19_127 rfl rfl (fun k3534 => ?_) (fun k3534 => ?_)
                  · replace k3534 : (n3524).toInt ≤ (c3532).toInt := k3534
                    refine bh_c (pc' := 135) (n := 1) bt_19_134 rfl rfl (fun _ _ _ => rfl) (by decide) (fun c3535 e3536 => ?_)
                    refine bh_st (pc' := 137) bt_19_135 rfl rfl (fun _ _ _ => rfl) rfl (by decide) (by decide) (fun lv3537 F3538 g3539 => ?_)
                    have g3540 := F3538 0 (.ref (E.1 + 88)) g3526 (by decide) (Or.inl rfl)
                    have g3541 := F3538 1 (.int i) g3527 (by decide) (Or.inl rfl)
                    have g3542 := F3538 3 (.int n3524) g3528 (by decide) (Or.inl rfl)
                    have g3543 := F3538 4 (.long x3525) g3529 (by decide) (Or.inr (by decide))
                    refine bh_ld (pc' := 138) bt_19_137 rfl rfl (fun _ _ _ => rfl) g3542 rfl ?_
                    refine bh_c (pc' := 140) (n := 7) bt_19_138 rfl rfl (fun _ _ _ => rfl) (by decide) (fun c3544 e3545 => ?_)
                    refine bh_ic (pc' := 143) (pt := 179) bt_19_140 rfl rfl (fun k3546 => ?_) (fun k3546 => ?_)
                    · replace k3546 : (c3544).toInt < (n3524).toInt := k3546
                      refine bh_ld (pc' := 180) bt_19_179 rfl rfl (fun _ _ _ => rfl) g3540 rfl ?_
                      refine bh_ld (pc' := 182) bt_19_180 rfl rfl (fun _ _ _ => rfl) g3539 rfl ?_
                      refine bh_ld (pc' := 183) bt_19_182 rfl rfl (fun _ _ _ => rfl) g3541 rfl ?_
                      refine bh_c (pc' := 184) (n := 0) bt_19_183 rfl rfl (fun _ _ _ => rfl) (by decide) (fun c3547 e3548 => ?_)
                      refine bh_ld (pc' := 186) bt_19_184 rfl rfl (fun _ _ _ => rfl) g3543 rfl ?_
                      refine bh_cv (pc' := 189) (st := []) (args := [.long x3525, .int c3547, .int i, .int c3535]) bt_19_186 rfl rfl (by decide) hP (by omega) rfl (Nat.le_of_ble_eq_true rfl) (Nat.le_of_ble_eq_true rfl) ?_
                      refine sp_103 (k := c3535) (w := i) (v := c3547) (x := x3525) hP rfl (by omega) (by omega) (by omega) (by omega) hq (fun h3549 s3550 A3551 L3552 hP3553 f3554 a3555 q3556 p3557 => ?_)
                      show bh_G E FIN ((19, 189, lv3537, [], 0, 0) :: gs, _, none)
                      refine bh_ld (pc' := 190) bt_19_189 rfl rfl (fun _ _ _ => rfl) g3541 rfl ?_
                      refine bh_ld (pc' := 191) bt_19_190 rfl rfl (fun _ _ _ => rfl) g3542 rfl ?_
                      refine bh_add (pc' := 192) bt_19_191 rfl (by omega) (by omega) (fun v3558 e3559 => ?_)
                      refine bh_st (pc' := 193) bt_19_192 rfl rfl (fun _ _ _ => rfl) rfl (by decide) (by decide) (fun lv3560 F3561 g3562 => ?_)
                      have g3563 := F3561 0 (.ref (E.1 + 88)) g3540 (by decide) (Or.inl rfl)
                      have g3564 := F3561 3 (.int n3524) g3542 (by decide) (Or.inl rfl)
                      have g3565 := F3561 4 (.long x3525) g3543 (by decide) (Or.inr (by decide))
                      have g3566 := F3561 6 (.int c3535) g3539 (by decide) (Or.inl rfl)
                      refine bh_go (pc' := 291) bt_19_193 rfl ?_
                      refine bh_go (pc' := 7) bt_19_291 rfl ?_
                      have z4 := congrArg Int32.toInt (f3554 4 (by decide))
                      exact ih _ _ _ _ _ _ _ hP3553 g3563 g3562 q3556 (by omega) (by omega) (by omega) (by omega) (by omega) (by omega) (fun h' s' A' L' hP' f' a' q' p' => kk h' s' A' L' hP' (fun j j10 => (f' j j10).trans ((fun j j10 => (f3554 j j10)) j j10)) (fun k j u => (a' k j u).trans ((a3555 k j u))) q' p')
                    · replace k3546 : ¬ ((c3544).toInt < (n3524).toInt) := k3546
                      refine bh_c (pc' := 144) (n := 0) bt_19_143 rfl rfl (fun _ _ _ => rfl) (by decide) (fun c3567 e3568 => ?_)
                      refine bh_st (pc' := 146) bt_19_144 rfl rfl (fun _ _ _ => rfl) rfl (by decide) (by decide) (fun lv3569 F3570 g3571 => ?_)
                      have g3572 := F3570 0 (.ref (E.1 + 88)) g3540 (by decide) (Or.inl rfl)
                      have g3573 := F3570 1 (.int i) g3541 (by decide) (Or.inl rfl)
                      have g3574 := F3570 3 (.int n3524) g3542 (by decide) (Or.inl rfl)
                      have g3575 := F3570 4 (.long x3525) g3543 (by decide) (Or.inr (by decide))
                      have g3576 := F3570 6 (.int c3535) g3539 (by decide) (Or.inl rfl)
                      refine rd_key hP 25 _ _ _ _ g3572 g3573 g3574 g3575 g3576 g3571 (by omega) (by omega) (by omega) (by omega) (by omega) (fun lv3577 o3578 k3579 g3580 g3581 g3582 g3583 g3584 p3585 p3586 => ?_)
                      refine bh_ld (pc' := 180) bt_19_179 rfl rfl (fun _ _ _ => rfl) g3580 rfl ?_
                      refine bh_ld (pc' := 182) bt_19_180 rfl rfl (fun _ _ _ => rfl) g3584 rfl ?_
                      refine bh_ld (pc' := 183) bt_19_182 rfl rfl (fun _ _ _ => rfl) g3581 rfl ?_
                      refine bh_c (pc' := 184) (n := 0) bt_19_183 rfl rfl (fun _ _ _ => rfl) (by decide) (fun c3587 e3588 => ?_)
                      refine bh_ld (pc' := 186) bt_19_184 rfl rfl (fun _ _ _ => rfl) g3583 rfl ?_
                      refine bh_cv (pc' := 189) (st := []) (args := [.long x3525, .int c3587, .int i, .int k3579]) bt_19_186 rfl rfl (by decide) hP (by omega) rfl (Nat.le_of_ble_eq_true rfl) (Nat.le_of_ble_eq_true rfl) ?_
                      refine sp_103 (k := k3579) (w := i) (v := c3587) (x := x3525) hP rfl (by omega) (by omega) (by omega) (by omega) hq (fun h3589 s3590 A3591 L3592 hP3593 f3594 a3595 q3596 p3597 => ?_)
                      show bh_G E FIN ((19, 189, lv3577, [], 0, 0) :: gs, _, none)
                      refine bh_ld (pc' := 190) bt_19_189 rfl rfl (fun _ _ _ => rfl) g3581 rfl ?_
                      refine bh_ld (pc' := 191) bt_19_190 rfl rfl (fun _ _ _ => rfl) g3582 rfl ?_
                      refine bh_add (pc' := 192) bt_19_191 rfl (by omega) (by omega) (fun v3598 e3599 => ?_)
                      refine bh_st (pc' := 193) bt_19_192 rfl rfl (fun _ _ _ => rfl) rfl (by decide) (by decide) (fun lv3600 F3601 g3602 => ?_)
                      have g3603 := F3601 0 (.ref (E.1 + 88)) g3580 (by decide) (Or.inl rfl)
                      have g3604 := F3601 3 (.int n3524) g3582 (by decide) (Or.inl rfl)
                      have g3605 := F3601 4 (.long x3525) g3583 (by decide) (Or.inr (by decide))
                      have g3606 := F3601 6 (.int k3579) g3584 (by decide) (Or.inl rfl)
                      refine bh_go (pc' := 291) bt_19_193 rfl ?_
                      refine bh_go (pc' := 7) bt_19_291 rfl ?_
                      have z4 := congrArg Int32.toInt (f3594 4 (by decide))
                      exact ih _ _ _ _ _ _ _ hP3593 g3603 g3602 q3596 (by omega) (by omega) (by omega) (by omega) (by omega) (by omega) (fun h' s' A' L' hP' f' a' q' p' => kk h' s' A' L' hP' (fun j j10 => (f' j j10).trans ((fun j j10 => (f3594 j j10)) j j10)) (fun k j u => (a' k j u).trans ((a3595 k j u))) q' p')
                  · replace k3534 : ¬ ((n3524).toInt ≤ (c3532).toInt) := k3534
                    refine bh_c (pc' := 131) (n := 3) bt_19_130 rfl rfl (fun _ _ _ => rfl) (by decide) (fun c3607 e3608 => ?_)
                    refine bh_go (pc' := 135) bt_19_131 rfl ?_
                    refine bh_st (pc' := 137) bt_19_135 rfl rfl (fun _ _ _ => rfl) rfl (by decide) (by decide) (fun lv3609 F3610 g3611 => ?_)
                    have g3612 := F3610 0 (.ref (E.1 + 88)) g3526 (by decide) (Or.inl rfl)
                    have g3613 := F3610 1 (.int i) g3527 (by decide) (Or.inl rfl)
                    have g3614 := F3610 3 (.int n3524) g3528 (by decide) (Or.inl rfl)
                    have g3615 := F3610 4 (.long x3525) g3529 (by decide) (Or.inr (by decide))
                    refine bh_ld (pc' := 138) bt_19_137 rfl rfl (fun _ _ _ => rfl) g3614 rfl ?_
                    refine bh_c (pc' := 140) (n := 7) bt_19_138 rfl rfl (fun _ _ _ => rfl) (by decide) (fun c3616 e3617 => ?_)
                    refine bh_ic (pc' := 143) (pt := 179) bt_19_140 rfl rfl (fun k3618 => ?_) (fun k3618 => ?_)
                    · replace k3618 : (c3616).toInt < (n3524).toInt := k3618
                      refine bh_ld (pc' := 180) bt_19_179 rfl rfl (fun _ _ _ => rfl) g3612 rfl ?_
                      refine bh_ld (pc' := 182) bt_19_180 rfl rfl (fun _ _ _ => rfl) g3611 rfl ?_
                      refine bh_ld (pc' := 183) bt_19_182 rfl rfl (fun _ _ _ => rfl) g3613 rfl ?_
                      refine bh_c (pc' := 184) (n := 0) bt_19_183 rfl rfl (fun _ _ _ => rfl) (by decide) (fun c3619 e3620 => ?_)
                      refine bh_ld (pc' := 186) bt_19_184 rfl rfl (fun _ _ _ => rfl) g3615 rfl ?_
                      refine bh_cv (pc' := 189) (st := []) (args := [.long x3525, .int c3619, .int i, .int c3607]) bt_19_186 rfl rfl (by decide) hP (by omega) rfl (Nat.le_of_ble_eq_true rfl) (Nat.le_of_ble_eq_true rfl) ?_
                      refine sp_103 (k := c3607) (w := i) (v := c3619) (x := x3525) hP rfl (by omega) (by omega) (by omega) (by omega) hq (fun h3621 s3622 A3623 L3624 hP3625 f3626 a3627 q3628 p3629 => ?_)
                      show bh_G E FIN ((19, 189, lv3609, [], 0, 0) :: gs, _, none)
                      refine bh_ld (pc' := 190) bt_19_189 rfl rfl (fun _ _ _ => rfl) g3613 rfl ?_
                      refine bh_ld (pc' := 191) bt_19_190 rfl rfl (fun _ _ _ => rfl) g3614 rfl ?_
                      refine bh_add (pc' := 192) bt_19_191 rfl (by omega) (by omega) (fun v3630 e3631 => ?_)
                      refine bh_st (pc' := 193) bt_19_192 rfl rfl (fun _ _ _ => rfl) rfl (by decide) (by decide) (fun lv3632 F3633 g3634 => ?_)
                      have g3635 := F3633 0 (.ref (E.1 + 88)) g3612 (by decide) (Or.inl rfl)
                      have g3636 := F3633 3 (.int n3524) g3614 (by decide) (Or.inl rfl)
                      have g3637 := F3633 4 (.long x3525) g3615 (by decide) (Or.inr (by decide))
                      have g3638 := F3633 6 (.int c3607) g3611 (by decide) (Or.inl rfl)
                      refine bh_go (pc' := 291) bt_19_193 rfl ?_
                      refine bh_go (pc' := 7) bt_19_291 rfl ?_
                      have z4 := congrArg Int32.toInt (f3626 4 (by decide))
                      exact ih _ _ _ _ _ _ _ hP3625 g3635 g3634 q3628 (by omega) (by omega) (by omega) (by omega) (by omega) (by omega) (fun h' s' A' L' hP' f' a' q' p' => kk h' s' A' L' hP' (fun j j10 => (f' j j10).trans ((fun j j10 => (f3626 j j10)) j j10)) (fun k j u => (a' k j u).trans ((a3627 k j u))) q' p')
                    · replace k3618 : ¬ ((c3616).toInt < (n3524).toInt) := k3618
                      refine bh_c (pc' := 144) (n := 0) bt_19_143 rfl rfl (fun _ _ _ => rfl) (by decide) (fun c3639 e3640 => ?_)
                      refine bh_st (pc' := 146) bt_19_144 rfl rfl (fun _ _ _ => rfl) rfl (by decide) (by decide) (fun lv3641 F3642 g3643 => ?_)
                      have g3644 := F3642 0 (.ref (E.1 + 88)) g3612 (by decide) (Or.inl rfl)
                      have g3645 := F3642 1 (.int i) g3613 (by decide) (Or.inl rfl)
                      have g3646 := F3642 3 (.int n3524) g3614 (by decide) (Or.inl rfl)
                      have g3647 := F3642 4 (.long x3525) g3615 (by decide) (Or.inr (by decide))
                      have g3648 := F3642 6 (.int c3607) g3611 (by decide) (Or.inl rfl)
                      refine rd_key hP 25 _ _ _ _ g3644 g3645 g3646 g3647 g3648 g3643 (by omega) (by omega) (by omega) (by omega) (by omega) (fun lv3649 o3650 k3651 g3652 g3653 g3654 g3655 g3656 p3657 p3658 => ?_)
                      refine bh_ld (pc' := 180) bt_19_179 rfl rfl (fun _ _ _ => rfl) g3652 rfl ?_
                      refine bh_ld (pc' := 182) bt_19_180 rfl rfl (fun _ _ _ => rfl) g3656 rfl ?_
                      refine bh_ld (pc' := 183) bt_19_182 rfl rfl (fun _ _ _ => rfl) g3653 rfl ?_
                      refine bh_c (pc' := 184) (n := 0) bt_19_183 rfl rfl (fun _ _ _ => rfl) (by decide) (fun c3659 e3660 => ?_)
                      refine bh_ld (pc' := 186) bt_19_184 rfl rfl (fun _ _ _ => rfl) g3655 rfl ?_
                      refine bh_cv (pc' := 189) (st := []) (args := [.long x3525, .int c3659, .int i, .int k3651]) bt_19_186 rfl rfl (by decide) hP (by omega) rfl (Nat.le_of_ble_eq_true rfl) (Nat.le_of_ble_eq_true rfl) ?_
                      refine sp_103 (k := k3651) (w := i) (v := c3659) (x := x3525) hP rfl (by omega) (by omega) (by omega) (by omega) hq (fun h3661 s3662 A3663 L3664 hP3665 f3666 a3667 q3668 p3669 => ?_)
                      show bh_G E FIN ((19, 189, lv3649, [], 0, 0) :: gs, _, none)
                      refine bh_ld (pc' := 190) bt_19_189 rfl rfl (fun _ _ _ => rfl) g3653 rfl ?_
                      refine bh_ld (pc' := 191) bt_19_190 rfl rfl (fun _ _ _ => rfl) g3654 rfl ?_
                      refine bh_add (pc' := 192) bt_19_191 rfl (by omega) (by omega) (fun v3670 e3671 => ?_)
                      refine bh_st (pc' := 193) bt_19_192 rfl rfl (fun _ _ _ => rfl) rfl (by decide) (by decide) (fun lv3672 F3673 g3674 => ?_)
                      have g3675 := F3673 0 (.ref (E.1 + 88)) g3652 (by decide) (Or.inl rfl)
                      have g3676 := F3673 3 (.int n3524) g3654 (by decide) (Or.inl rfl)
                      have g3677 := F3673 4 (.long x3525) g3655 (by decide) (Or.inr (by decide))
                      have g3678 := F3673 6 (.int k3651) g3656 (by decide) (Or.inl rfl)
                      refine bh_go (pc' := 291) bt_19_193 rfl ?_
                      refine bh_go (pc' := 7) bt_19_291 rfl ?_
                      have z4 := congrArg Int32.toInt (f3666 4 (by decide))
                      exact ih _ _ _ _ _ _ _ hP3665 g3675 g3674 q3668 (by omega) (by omega) (by omega) (by omega) (by omega) (by omega) (fun h' s' A' L' hP' f' a' q' p' => kk h' s' A' L' hP' (fun j j10 => (f' j j10).trans ((fun j j10 => (f3666 j j10)) j j10)) (fun k j u => (a' k j u).trans ((a3667 k j u))) q' p')
              · replace k3402 : ¬ ((r3361).toInt ≠ (c3400).toInt) := k3402
                refine bh_inc (pc' := 70) bt_19_67 rfl (by decide) g3368 (by decide) (by omega) (by omega) (fun lv3679 y3682 F3680 g3681 e3683 => ?_)
                have g3684 := F3680 0 (.ref (E.1 + 88)) g3367 (by decide) (Or.inl rfl)
                have g3685 := F3680 2 (.int r3361) g3366 (by decide) (Or.inl rfl)
                refine bh_go (pc' := 291) bt_19_70 rfl ?_
                refine bh_go (pc' := 7) bt_19_291 rfl ?_
                exact ih _ _ _ _ _ _ _ hP g3684 g3681 hq (by omega) (by omega) (by omega) (by omega) (by omega) (by omega) (fun h' s' A' L' hP' f' a' q' p' => kk h' s' A' L' hP' (fun j j10 => (f' j j10).trans ((fun j j10 => rfl) j j10)) (fun k j u => (a' k j u).trans (rfl)) q' p')
      · replace k3369 : ¬ ((i).toInt < ((s 4)).toInt) := k3369
        refine bh_ld (pc' := 32) bt_19_31 rfl rfl (fun _ _ _ => rfl) g3367 rfl ?_
        refine bh_c (pc' := 33) (n := 0) bt_19_32 rfl rfl (fun _ _ _ => rfl) (by decide) (fun c3686 e3687 => ?_)
        refine bh_ld (pc' := 34) bt_19_33 rfl rfl (fun _ _ _ => rfl) g3367 rfl ?_
        refine bh_gi (pc' := 37) bt_19_34 rfl rfl (fun _ _ _ => rfl) hP bx_i4 rfl ?_
        refine bh_c (pc' := 38) (n := 0) bt_19_37 rfl rfl (fun _ _ _ => rfl) (by decide) (fun c3688 e3689 => ?_)
        refine bh_cL (pc' := 39) bt_19_38 rfl rfl (fun _ _ _ => rfl) (fun x3690 => ?_)
        refine bh_cv (pc' := 42) (st := []) (args := [.long x3690, .int c3688, .int (s 4), .int c3686]) bt_19_39 rfl rfl (by decide) hP (by omega) rfl (Nat.le_of_ble_eq_true rfl) (Nat.le_of_ble_eq_true rfl) ?_
        refine sp_103 (k := c3686) (w := (s 4)) (v := c3688) (x := x3690) hP rfl (by omega) (by omega) (by omega) (by omega) hq (fun h3691 s3692 A3693 L3694 hP3695 f3696 a3697 q3698 p3699 => ?_)
        show bh_G E FIN ((19, 42, lv3364, [], 0, 0) :: gs, _, none)
        refine bh_rv bt_19_42 ?_
        have z4 := congrArg Int32.toInt (f3696 4 (by decide))
        exact kk _ _ _ _ hP3695 (fun j j10 => (f3696 j j10)) (fun k j u => (a3697 k j u)) q3698 (by omega)
theorem sp_19 (hP : bh_P bx_T E h0 h s A L) (hd : gs.length + 2 ≤ 999) (hq : ∀ j, j < 403 → 0 ≤ (A 91 j).toInt ∧ (A 91 j).toInt ≤ 43) (b1 : 0 ≤ (s 4).toInt) (b2 : (s 4).toInt ≤ 2000) (kk : ∀ (h' : mm_H) (s' : Nat → Int32) (A' : Nat → Nat → Int32) (L' : Nat → Nat → Int64), bh_P bx_T E h0 h' s' A' L' → (∀ j, j ≠ 10 → s' j = s j) → (∀ k j, (k < 91 ∨ 93 < k) → A' k j = A k j) → (∀ j, j < 403 → 0 ≤ (A' 91 j).toInt ∧ (A' 91 j).toInt ≤ 43) → (0 ≤ (s' 10).toInt ∧ (s' 10).toInt ≤ 401) → bh_G E FIN (mm_back none gs h')) : bh_G E FIN ((19, 0, [(0, .ref (E.1 + 88))], [], 0, 0) :: gs, h, none) := by
  refine bh_ld (pc' := 1) bt_19_0 rfl rfl (fun _ _ _ => rfl) rfl rfl ?_
  refine bh_c (pc' := 2) (n := 0) bt_19_1 rfl rfl (fun _ _ _ => rfl) (by decide) (fun c3700 e3701 => ?_)
  refine bh_pf (pc' := 5) bt_19_2 rfl rfl (fun _ _ _ => rfl) hP bx_i10 rfl (fun h3702 s3703 hP3704 e3705 f3706 => ?_)
  refine bh_c (pc' := 6) (n := 0) bt_19_5 rfl rfl (fun _ _ _ => rfl) (by decide) (fun c3707 e3708 => ?_)
  refine bh_st (pc' := 7) bt_19_6 rfl rfl (fun _ _ _ => rfl) rfl (by decide) (by decide) (fun lv3709 F3710 g3711 => ?_)
  have g3712 := F3710 0 (.ref (E.1 + 88)) rfl (by decide) (Or.inl rfl)
  have z4 := congrArg Int32.toInt (f3706 4 (by decide))
  have z10 := congrArg Int32.toInt e3705
  exact rd_cut (by omega) 2002 _ _ _ _ _ _ _ hP3704 g3712 g3711 hq (by omega) (by omega) (by omega) (by omega) (by omega) (by omega) (fun h' s' A' L' hP' f' a' q' p' => kk h' s' A' L' hP' (fun j j10 => (f' j j10).trans ((fun j j10 => (f3706 j j10)) j j10)) a' q' p')
end BX
