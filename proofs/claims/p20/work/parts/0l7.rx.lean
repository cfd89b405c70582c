/-! PARTIAL: the reference reads, exact (wip/p5/mkr7.py) -/
theorem bu_7_0 : mm_at mt_P 7 0 = some ((0, 1, .aload_n 0, 0, 0, 0, 0), 1, 0, 1, 9, 0, 0, 0) := rfl
theorem bu_7_1 : mm_at mt_P 7 1 = some ((1, 1, .iconst 0, 0, 0, 0, 0), 1, 0, 1, 9, 0, 0, 0) := rfl
theorem bu_7_2 : mm_at mt_P 7 2 = some ((2, 3, .invokevirtual 314, 8, 0, 0, 1206), 1, 0, 1, 9, 0, 0, 0) := rfl
theorem bu_7_5 : mm_at mt_P 7 5 = some ((5, 1, .return_, 0, 0, 0, 0), 1, 0, 1, 9, 0, 0, 0) := rfl
theorem bu_8_0 : mm_at mt_P 8 0 = some ((0, 1, .iconst 0, 0, 0, 0, 0), 3, 1, 1, 9, 0, 0, 0) := rfl
theorem bu_8_1 : mm_at mt_P 8 1 = some ((1, 1, .istore_n 2, 0, 0, 0, 0), 3, 1, 1, 9, 0, 0, 0) := rfl
theorem bu_8_2 : mm_at mt_P 8 2 = some ((2, 1, .iload_n 2, 0, 0, 0, 0), 3, 1, 1, 9, 0, 0, 0) := rfl
theorem bu_8_3 : mm_at mt_P 8 3 = some ((3, 2, .bipush 60, 0, 0, 0, 0), 3, 1, 1, 9, 0, 0, 0) := rfl
theorem bu_8_5 : mm_at mt_P 8 5 = some ((5, 3, .if_icmp .ge 16, 0, 0, 0, 0), 3, 1, 1, 9, 0, 0, 0) := rfl
theorem bu_8_8 : mm_at mt_P 8 8 = some ((8, 1, .aload_n 0, 0, 0, 0, 0), 3, 1, 1, 9, 0, 0, 0) := rfl
theorem bu_8_9 : mm_at mt_P 8 9 = some ((9, 3, .getfield 110, 9, 48, 0, 1265), 3, 1, 1, 9, 0, 0, 0) := rfl
theorem bu_8_12 : mm_at mt_P 8 12 = some ((12, 1, .iload_n 2, 0, 0, 0, 0), 3, 1, 1, 9, 0, 0, 0) := rfl
theorem bu_8_13 : mm_at mt_P 8 13 = some ((13, 1, .iconst 0, 0, 0, 0, 0), 3, 1, 1, 9, 0, 0, 0) := rfl
theorem bu_8_14 : mm_at mt_P 8 14 = some ((14, 1, .iastore, 0, 0, 0, 0), 3, 1, 1, 9, 0, 0, 0) := rfl
theorem bu_8_15 : mm_at mt_P 8 15 = some ((15, 3, .iinc 2 1, 0, 0, 0, 0), 3, 1, 1, 9, 0, 0, 0) := rfl
theorem bu_8_18 : mm_at mt_P 8 18 = some ((18, 3, .goto (-16), 0, 0, 0, 0), 3, 1, 1, 9, 0, 0, 0) := rfl
theorem bu_8_21 : mm_at mt_P 8 21 = some ((21, 1, .iconst 0, 0, 0, 0, 0), 3, 1, 1, 9, 0, 0, 0) := rfl
theorem bu_8_22 : mm_at mt_P 8 22 = some ((22, 1, .istore_n 2, 0, 0, 0, 0), 3, 1, 1, 9, 0, 0, 0) := rfl
theorem bu_8_23 : mm_at mt_P 8 23 = some ((23, 1, .iload_n 2, 0, 0, 0, 0), 3, 1, 1, 9, 0, 0, 0) := rfl
theorem bu_8_24 : mm_at mt_P 8 24 = some ((24, 1, .aload_n 0, 0, 0, 0, 0), 3, 1, 1, 9, 0, 0, 0) := rfl
theorem bu_8_25 : mm_at mt_P 8 25 = some ((25, 3, .getfield 43, 9, 22, 0, 1239), 3, 1, 1, 9, 0, 0, 0) := rfl
theorem bu_8_28 : mm_at mt_P 8 28 = some ((28, 1, .aload_n 0, 0, 0, 0, 0), 3, 1, 1, 9, 0, 0, 0) := rfl
theorem bu_8_29 : mm_at mt_P 8 29 = some ((29, 3, .getfield 233, 9, 18, 0, 1235), 3, 1, 1, 9, 0, 0, 0) := rfl
theorem bu_8_32 : mm_at mt_P 8 32 = some ((32, 1, .iaload, 0, 0, 0, 0), 3, 1, 1, 9, 0, 0, 0) := rfl
theorem bu_8_33 : mm_at mt_P 8 33 = some ((33, 3, .if_icmp .ge 29, 0, 0, 0, 0), 3, 1, 1, 9, 0, 0, 0) := rfl
theorem bu_8_36 : mm_at mt_P 8 36 = some ((36, 1, .aload_n 0, 0, 0, 0, 0), 3, 1, 1, 9, 0, 0, 0) := rfl
theorem bu_8_37 : mm_at mt_P 8 37 = some ((37, 3, .getfield 110, 9, 48, 0, 1265), 3, 1, 1, 9, 0, 0, 0) := rfl
theorem bu_8_40 : mm_at mt_P 8 40 = some ((40, 1, .iload_n 2, 0, 0, 0, 0), 3, 1, 1, 9, 0, 0, 0) := rfl
theorem bu_8_41 : mm_at mt_P 8 41 = some ((41, 1, .aload_n 0, 0, 0, 0, 0), 3, 1, 1, 9, 0, 0, 0) := rfl
theorem bu_8_42 : mm_at mt_P 8 42 = some ((42, 3, .getfield 49, 9, 24, 0, 1241), 3, 1, 1, 9, 0, 0, 0) := rfl
theorem bu_8_45 : mm_at mt_P 8 45 = some ((45, 2, .bipush 6, 0, 0, 0, 0), 3, 1, 1, 9, 0, 0, 0) := rfl
theorem bu_8_47 : mm_at mt_P 8 47 = some ((47, 1, .aload_n 0, 0, 0, 0, 0), 3, 1, 1, 9, 0, 0, 0) := rfl
theorem bu_8_48 : mm_at mt_P 8 48 = some ((48, 3, .getfield 233, 9, 18, 0, 1235), 3, 1, 1, 9, 0, 0, 0) := rfl
theorem bu_8_51 : mm_at mt_P 8 51 = some ((51, 1, .imul, 0, 0, 0, 0), 3, 1, 1, 9, 0, 0, 0) := rfl
theorem bu_8_52 : mm_at mt_P 8 52 = some ((52, 1, .iload_n 2, 0, 0, 0, 0), 3, 1, 1, 9, 0, 0, 0) := rfl
theorem bu_8_53 : mm_at mt_P 8 53 = some ((53, 1, .iadd, 0, 0, 0, 0), 3, 1, 1, 9, 0, 0, 0) := rfl
theorem bu_8_54 : mm_at mt_P 8 54 = some ((54, 1, .iaload, 0, 0, 0, 0), 3, 1, 1, 9, 0, 0, 0) := rfl
theorem bu_8_55 : mm_at mt_P 8 55 = some ((55, 1, .iastore, 0, 0, 0, 0), 3, 1, 1, 9, 0, 0, 0) := rfl
theorem bu_8_56 : mm_at mt_P 8 56 = some ((56, 3, .iinc 2 1, 0, 0, 0, 0), 3, 1, 1, 9, 0, 0, 0) := rfl
theorem bu_8_59 : mm_at mt_P 8 59 = some ((59, 3, .goto (-36), 0, 0, 0, 0), 3, 1, 1, 9, 0, 0, 0) := rfl
theorem bu_8_62 : mm_at mt_P 8 62 = some ((62, 1, .iconst 0, 0, 0, 0, 0), 3, 1, 1, 9, 0, 0, 0) := rfl
theorem bu_8_63 : mm_at mt_P 8 63 = some ((63, 1, .istore_n 2, 0, 0, 0, 0), 3, 1, 1, 9, 0, 0, 0) := rfl
theorem bu_8_64 : mm_at mt_P 8 64 = some ((64, 1, .iload_n 2, 0, 0, 0, 0), 3, 1, 1, 9, 0, 0, 0) := rfl
theorem bu_8_65 : mm_at mt_P 8 65 = some ((65, 1, .iconst 4, 0, 0, 0, 0), 3, 1, 1, 9, 0, 0, 0) := rfl
theorem bu_8_66 : mm_at mt_P 8 66 = some ((66, 3, .if_icmp .ge 20, 0, 0, 0, 0), 3, 1, 1, 9, 0, 0, 0) := rfl
theorem bu_8_69 : mm_at mt_P 8 69 = some ((69, 1, .aload_n 0, 0, 0, 0, 0), 3, 1, 1, 9, 0, 0, 0) := rfl
theorem bu_8_70 : mm_at mt_P 8 70 = some ((70, 3, .getfield 110, 9, 48, 0, 1265), 3, 1, 1, 9, 0, 0, 0) := rfl
theorem bu_8_73 : mm_at mt_P 8 73 = some ((73, 2, .bipush 18, 0, 0, 0, 0), 3, 1, 1, 9, 0, 0, 0) := rfl
theorem bu_8_75 : mm_at mt_P 8 75 = some ((75, 1, .iload_n 2, 0, 0, 0, 0), 3, 1, 1, 9, 0, 0, 0) := rfl
theorem bu_8_76 : mm_at mt_P 8 76 = some ((76, 1, .iadd, 0, 0, 0, 0), 3, 1, 1, 9, 0, 0, 0) := rfl
theorem bu_8_77 : mm_at mt_P 8 77 = some ((77, 2, .bipush (-2), 0, 0, 0, 0), 3, 1, 1, 9, 0, 0, 0) := rfl
theorem bu_8_79 : mm_at mt_P 8 79 = some ((79, 1, .iastore, 0, 0, 0, 0), 3, 1, 1, 9, 0, 0, 0) := rfl
theorem bu_8_80 : mm_at mt_P 8 80 = some ((80, 3, .iinc 2 1, 0, 0, 0, 0), 3, 1, 1, 9, 0, 0, 0) := rfl
theorem bu_8_83 : mm_at mt_P 8 83 = some ((83, 3, .goto (-19), 0, 0, 0, 0), 3, 1, 1, 9, 0, 0, 0) := rfl
theorem bu_8_86 : mm_at mt_P 8 86 = some ((86, 1, .aload_n 0, 0, 0, 0, 0), 3, 1, 1, 9, 0, 0, 0) := rfl
theorem bu_8_87 : mm_at mt_P 8 87 = some ((87, 3, .getfield 110, 9, 48, 0, 1265), 3, 1, 1, 9, 0, 0, 0) := rfl
theorem bu_8_90 : mm_at mt_P 8 90 = some ((90, 2, .bipush 46, 0, 0, 0, 0), 3, 1, 1, 9, 0, 0, 0) := rfl
theorem bu_8_92 : mm_at mt_P 8 92 = some ((92, 1, .iload_n 1, 0, 0, 0, 0), 3, 1, 1, 9, 0, 0, 0) := rfl
theorem bu_8_93 : mm_at mt_P 8 93 = some ((93, 1, .iastore, 0, 0, 0, 0), 3, 1, 1, 9, 0, 0, 0) := rfl
theorem bu_8_94 : mm_at mt_P 8 94 = some ((94, 1, .aload_n 0, 0, 0, 0, 0), 3, 1, 1, 9, 0, 0, 0) := rfl
theorem bu_8_95 : mm_at mt_P 8 95 = some ((95, 3, .getfield 110, 9, 48, 0, 1265), 3, 1, 1, 9, 0, 0, 0) := rfl
theorem bu_8_98 : mm_at mt_P 8 98 = some ((98, 2, .bipush 47, 0, 0, 0, 0), 3, 1, 1, 9, 0, 0, 0) := rfl
theorem bu_8_100 : mm_at mt_P 8 100 = some ((100, 1, .aload_n 0, 0, 0, 0, 0), 3, 1, 1, 9, 0, 0, 0) := rfl
theorem bu_8_101 : mm_at mt_P 8 101 = some ((101, 3, .getfield 52, 9, 25, 0, 1242), 3, 1, 1, 9, 0, 0, 0) := rfl
theorem bu_8_104 : mm_at mt_P 8 104 = some ((104, 1, .aload_n 0, 0, 0, 0, 0), 3, 1, 1, 9, 0, 0, 0) := rfl
theorem bu_8_105 : mm_at mt_P 8 105 = some ((105, 3, .getfield 233, 9, 18, 0, 1235), 3, 1, 1, 9, 0, 0, 0) := rfl
theorem bu_8_108 : mm_at mt_P 8 108 = some ((108, 1, .iaload, 0, 0, 0, 0), 3, 1, 1, 9, 0, 0, 0) := rfl
theorem bu_8_109 : mm_at mt_P 8 109 = some ((109, 1, .iastore, 0, 0, 0, 0), 3, 1, 1, 9, 0, 0, 0) := rfl
theorem bu_8_110 : mm_at mt_P 8 110 = some ((110, 1, .aload_n 0, 0, 0, 0, 0), 3, 1, 1, 9, 0, 0, 0) := rfl
theorem bu_8_111 : mm_at mt_P 8 111 = some ((111, 3, .getfield 110, 9, 48, 0, 1265), 3, 1, 1, 9, 0, 0, 0) := rfl
theorem bu_8_114 : mm_at mt_P 8 114 = some ((114, 2, .bipush 48, 0, 0, 0, 0), 3, 1, 1, 9, 0, 0, 0) := rfl
theorem bu_8_116 : mm_at mt_P 8 116 = some ((116, 1, .aload_n 0, 0, 0, 0, 0), 3, 1, 1, 9, 0, 0, 0) := rfl
theorem bu_8_117 : mm_at mt_P 8 117 = some ((117, 3, .getfield 55, 9, 26, 0, 1243), 3, 1, 1, 9, 0, 0, 0) := rfl
theorem bu_8_120 : mm_at mt_P 8 120 = some ((120, 1, .aload_n 0, 0, 0, 0, 0), 3, 1, 1, 9, 0, 0, 0) := rfl
theorem bu_8_121 : mm_at mt_P 8 121 = some ((121, 3, .getfield 233, 9, 18, 0, 1235), 3, 1, 1, 9, 0, 0, 0) := rfl
theorem bu_8_124 : mm_at mt_P 8 124 = some ((124, 1, .iaload, 0, 0, 0, 0), 3, 1, 1, 9, 0, 0, 0) := rfl
theorem bu_8_125 : mm_at mt_P 8 125 = some ((125, 1, .iastore, 0, 0, 0, 0), 3, 1, 1, 9, 0, 0, 0) := rfl
theorem bu_8_126 : mm_at mt_P 8 126 = some ((126, 1, .aload_n 0, 0, 0, 0, 0), 3, 1, 1, 9, 0, 0, 0) := rfl
theorem bu_8_127 : mm_at mt_P 8 127 = some ((127, 3, .getfield 110, 9, 48, 0, 1265), 3, 1, 1, 9, 0, 0, 0) := rfl
theorem bu_8_130 : mm_at mt_P 8 130 = some ((130, 2, .bipush 49, 0, 0, 0, 0), 3, 1, 1, 9, 0, 0, 0) := rfl
theorem bu_8_132 : mm_at mt_P 8 132 = some ((132, 1, .aload_n 0, 0, 0, 0, 0), 3, 1, 1, 9, 0, 0, 0) := rfl
theorem bu_8_133 : mm_at mt_P 8 133 = some ((133, 3, .getfield 58, 9, 27, 0, 1244), 3, 1, 1, 9, 0, 0, 0) := rfl
theorem bu_8_136 : mm_at mt_P 8 136 = some ((136, 1, .aload_n 0, 0, 0, 0, 0), 3, 1, 1, 9, 0, 0, 0) := rfl
theorem bu_8_137 : mm_at mt_P 8 137 = some ((137, 3, .getfield 233, 9, 18, 0, 1235), 3, 1, 1, 9, 0, 0, 0) := rfl
theorem bu_8_140 : mm_at mt_P 8 140 = some ((140, 1, .iaload, 0, 0, 0, 0), 3, 1, 1, 9, 0, 0, 0) := rfl
theorem bu_8_141 : mm_at mt_P 8 141 = some ((141, 1, .iastore, 0, 0, 0, 0), 3, 1, 1, 9, 0, 0, 0) := rfl
theorem bu_8_142 : mm_at mt_P 8 142 = some ((142, 1, .aload_n 0, 0, 0, 0, 0), 3, 1, 1, 9, 0, 0, 0) := rfl
theorem bu_8_143 : mm_at mt_P 8 143 = some ((143, 3, .getfield 110, 9, 48, 0, 1265), 3, 1, 1, 9, 0, 0, 0) := rfl
theorem bu_8_146 : mm_at mt_P 8 146 = some ((146, 2, .bipush 51, 0, 0, 0, 0), 3, 1, 1, 9, 0, 0, 0) := rfl
theorem bu_8_148 : mm_at mt_P 8 148 = some ((148, 1, .aload_n 0, 0, 0, 0, 0), 3, 1, 1, 9, 0, 0, 0) := rfl
theorem bu_8_149 : mm_at mt_P 8 149 = some ((149, 3, .getfield 64, 9, 29, 0, 1246), 3, 1, 1, 9, 0, 0, 0) := rfl
theorem bu_8_152 : mm_at mt_P 8 152 = some ((152, 1, .aload_n 0, 0, 0, 0, 0), 3, 1, 1, 9, 0, 0, 0) := rfl
theorem bu_8_153 : mm_at mt_P 8 153 = some ((153, 3, .getfield 233, 9, 18, 0, 1235), 3, 1, 1, 9, 0, 0, 0) := rfl
theorem bu_8_156 : mm_at mt_P 8 156 = some ((156, 1, .iaload, 0, 0, 0, 0), 3, 1, 1, 9, 0, 0, 0) := rfl
theorem bu_8_157 : mm_at mt_P 8 157 = some ((157, 1, .iastore, 0, 0, 0, 0), 3, 1, 1, 9, 0, 0, 0) := rfl
theorem bu_8_158 : mm_at mt_P 8 158 = some ((158, 1, .aload_n 0, 0, 0, 0, 0), 3, 1, 1, 9, 0, 0, 0) := rfl
theorem bu_8_159 : mm_at mt_P 8 159 = some ((159, 3, .getfield 110, 9, 48, 0, 1265), 3, 1, 1, 9, 0, 0, 0) := rfl
theorem bu_8_162 : mm_at mt_P 8 162 = some ((162, 2, .bipush 54, 0, 0, 0, 0), 3, 1, 1, 9, 0, 0, 0) := rfl
theorem bu_8_164 : mm_at mt_P 8 164 = some ((164, 2, .bipush (-2), 0, 0, 0, 0), 3, 1, 1, 9, 0, 0, 0) := rfl
theorem bu_8_166 : mm_at mt_P 8 166 = some ((166, 1, .iastore, 0, 0, 0, 0), 3, 1, 1, 9, 0, 0, 0) := rfl
theorem bu_8_167 : mm_at mt_P 8 167 = some ((167, 1, .aload_n 0, 0, 0, 0, 0), 3, 1, 1, 9, 0, 0, 0) := rfl
theorem bu_8_168 : mm_at mt_P 8 168 = some ((168, 3, .getfield 110, 9, 48, 0, 1265), 3, 1, 1, 9, 0, 0, 0) := rfl
theorem bu_8_171 : mm_at mt_P 8 171 = some ((171, 2, .bipush 52, 0, 0, 0, 0), 3, 1, 1, 9, 0, 0, 0) := rfl
theorem bu_8_173 : mm_at mt_P 8 173 = some ((173, 1, .aload_n 0, 0, 0, 0, 0), 3, 1, 1, 9, 0, 0, 0) := rfl
theorem bu_8_174 : mm_at mt_P 8 174 = some ((174, 3, .invokevirtual 304, 42, 0, 0, 1210), 3, 1, 1, 9, 0, 0, 0) := rfl
theorem bu_8_177 : mm_at mt_P 8 177 = some ((177, 1, .iastore, 0, 0, 0, 0), 3, 1, 1, 9, 0, 0, 0) := rfl
theorem bu_8_178 : mm_at mt_P 8 178 = some ((178, 1, .aload_n 0, 0, 0, 0, 0), 3, 1, 1, 9, 0, 0, 0) := rfl
theorem bu_8_179 : mm_at mt_P 8 179 = some ((179, 1, .aload_n 0, 0, 0, 0, 0), 3, 1, 1, 9, 0, 0, 0) := rfl
theorem bu_8_180 : mm_at mt_P 8 180 = some ((180, 3, .getfield 67, 9, 30, 0, 1247), 3, 1, 1, 9, 0, 0, 0) := rfl
theorem bu_8_183 : mm_at mt_P 8 183 = some ((183, 1, .aload_n 0, 0, 0, 0, 0), 3, 1, 1, 9, 0, 0, 0) := rfl
theorem bu_8_184 : mm_at mt_P 8 184 = some ((184, 3, .getfield 233, 9, 18, 0, 1235), 3, 1, 1, 9, 0, 0, 0) := rfl
theorem bu_8_187 : mm_at mt_P 8 187 = some ((187, 1, .iaload, 0, 0, 0, 0), 3, 1, 1, 9, 0, 0, 0) := rfl
theorem bu_8_188 : mm_at mt_P 8 188 = some ((188, 3, .putfield 308, 9, 49, 0, 1266), 3, 1, 1, 9, 0, 0, 0) := rfl
theorem bu_8_191 : mm_at mt_P 8 191 = some ((191, 1, .aload_n 0, 0, 0, 0, 0), 3, 1, 1, 9, 0, 0, 0) := rfl
theorem bu_8_192 : mm_at mt_P 8 192 = some ((192, 1, .iconst (-1), 0, 0, 0, 0), 3, 1, 1, 9, 0, 0, 0) := rfl
theorem bu_8_193 : mm_at mt_P 8 193 = some ((193, 3, .putfield 311, 9, 50, 0, 1267), 3, 1, 1, 9, 0, 0, 0) := rfl
theorem bu_8_196 : mm_at mt_P 8 196 = some ((196, 1, .return_, 0, 0, 0, 0), 3, 1, 1, 9, 0, 0, 0) := rfl
theorem bu_42_0 : mm_at mt_P 42 0 = some ((0, 1, .aload_n 0, 0, 0, 0, 0), 1, 0, 1, 9, 1, 0, 0) := rfl
theorem bu_42_1 : mm_at mt_P 42 1 = some ((1, 3, .getfield 110, 9, 48, 0, 1265), 1, 0, 1, 9, 1, 0, 0) := rfl
theorem bu_42_4 : mm_at mt_P 42 4 = some ((4, 2, .bipush 46, 0, 0, 0, 0), 1, 0, 1, 9, 1, 0, 0) := rfl
theorem bu_42_6 : mm_at mt_P 42 6 = some ((6, 1, .iaload, 0, 0, 0, 0), 1, 0, 1, 9, 1, 0, 0) := rfl
theorem bu_42_7 : mm_at mt_P 42 7 = some ((7, 1, .aload_n 0, 0, 0, 0, 0), 1, 0, 1, 9, 1, 0, 0) := rfl
theorem bu_42_8 : mm_at mt_P 42 8 = some ((8, 3, .getfield 61, 9, 28, 0, 1245), 1, 0, 1, 9, 1, 0, 0) := rfl
theorem bu_42_11 : mm_at mt_P 42 11 = some ((11, 1, .aload_n 0, 0, 0, 0, 0), 1, 0, 1, 9, 1, 0, 0) := rfl
theorem bu_42_12 : mm_at mt_P 42 12 = some ((12, 3, .getfield 233, 9, 18, 0, 1235), 1, 0, 1, 9, 1, 0, 0) := rfl
theorem bu_42_15 : mm_at mt_P 42 15 = some ((15, 1, .iaload, 0, 0, 0, 0), 1, 0, 1, 9, 1, 0, 0) := rfl
theorem bu_42_16 : mm_at mt_P 42 16 = some ((16, 3, .if_icmp .ne 7, 0, 0, 0, 0), 1, 0, 1, 9, 1, 0, 0) := rfl
theorem bu_42_19 : mm_at mt_P 42 19 = some ((19, 1, .iconst 1, 0, 0, 0, 0), 1, 0, 1, 9, 1, 0, 0) := rfl
theorem bu_42_20 : mm_at mt_P 42 20 = some ((20, 3, .goto 32, 0, 0, 0, 0), 1, 0, 1, 9, 1, 0, 0) := rfl
theorem bu_42_23 : mm_at mt_P 42 23 = some ((23, 1, .aload_n 0, 0, 0, 0, 0), 1, 0, 1, 9, 1, 0, 0) := rfl
theorem bu_42_24 : mm_at mt_P 42 24 = some ((24, 3, .getfield 110, 9, 48, 0, 1265), 1, 0, 1, 9, 1, 0, 0) := rfl
theorem bu_42_27 : mm_at mt_P 42 27 = some ((27, 2, .bipush 47, 0, 0, 0, 0), 1, 0, 1, 9, 1, 0, 0) := rfl
theorem bu_42_29 : mm_at mt_P 42 29 = some ((29, 1, .iaload, 0, 0, 0, 0), 1, 0, 1, 9, 1, 0, 0) := rfl
theorem bu_42_30 : mm_at mt_P 42 30 = some ((30, 3, .ifCond .ne 7, 0, 0, 0, 0), 1, 0, 1, 9, 1, 0, 0) := rfl
theorem bu_42_33 : mm_at mt_P 42 33 = some ((33, 1, .iconst 2, 0, 0, 0, 0), 1, 0, 1, 9, 1, 0, 0) := rfl
theorem bu_42_34 : mm_at mt_P 42 34 = some ((34, 3, .goto 18, 0, 0, 0, 0), 1, 0, 1, 9, 1, 0, 0) := rfl
theorem bu_42_37 : mm_at mt_P 42 37 = some ((37, 1, .aload_n 0, 0, 0, 0, 0), 1, 0, 1, 9, 1, 0, 0) := rfl
theorem bu_42_38 : mm_at mt_P 42 38 = some ((38, 3, .getfield 110, 9, 48, 0, 1265), 1, 0, 1, 9, 1, 0, 0) := rfl
theorem bu_42_41 : mm_at mt_P 42 41 = some ((41, 2, .bipush 48, 0, 0, 0, 0), 1, 0, 1, 9, 1, 0, 0) := rfl
theorem bu_42_43 : mm_at mt_P 42 43 = some ((43, 1, .iaload, 0, 0, 0, 0), 1, 0, 1, 9, 1, 0, 0) := rfl
theorem bu_42_44 : mm_at mt_P 42 44 = some ((44, 3, .ifCond .ne 7, 0, 0, 0, 0), 1, 0, 1, 9, 1, 0, 0) := rfl
theorem bu_42_47 : mm_at mt_P 42 47 = some ((47, 1, .iconst 3, 0, 0, 0, 0), 1, 0, 1, 9, 1, 0, 0) := rfl
theorem bu_42_48 : mm_at mt_P 42 48 = some ((48, 3, .goto 4, 0, 0, 0, 0), 1, 0, 1, 9, 1, 0, 0) := rfl
theorem bu_42_51 : mm_at mt_P 42 51 = some ((51, 1, .iconst 0, 0, 0, 0, 0), 1, 0, 1, 9, 1, 0, 0) := rfl
theorem bu_42_52 : mm_at mt_P 42 52 = some ((52, 1, .ireturn, 0, 0, 0, 0), 1, 0, 1, 9, 1, 0, 0) := rfl
theorem bu_56_0 : mm_at mt_P 56 0 = some ((0, 1, .iconst 0, 0, 0, 0, 0), 2, 0, 1, 9, 0, 0, 0) := rfl
theorem bu_56_1 : mm_at mt_P 56 1 = some ((1, 1, .istore_n 1, 0, 0, 0, 0), 2, 0, 1, 9, 0, 0, 0) := rfl
theorem bu_56_2 : mm_at mt_P 56 2 = some ((2, 1, .iload_n 1, 0, 0, 0, 0), 2, 0, 1, 9, 0, 0, 0) := rfl
theorem bu_56_3 : mm_at mt_P 56 3 = some ((3, 2, .bipush 60, 0, 0, 0, 0), 2, 0, 1, 9, 0, 0, 0) := rfl
theorem bu_56_5 : mm_at mt_P 56 5 = some ((5, 3, .if_icmp .ge 21, 0, 0, 0, 0), 2, 0, 1, 9, 0, 0, 0) := rfl
theorem bu_56_8 : mm_at mt_P 56 8 = some ((8, 1, .aload_n 0, 0, 0, 0, 0), 2, 0, 1, 9, 0, 0, 0) := rfl
theorem bu_56_9 : mm_at mt_P 56 9 = some ((9, 3, .getfield 107, 9, 47, 0, 1264), 2, 0, 1, 9, 0, 0, 0) := rfl
theorem bu_56_12 : mm_at mt_P 56 12 = some ((12, 1, .iload_n 1, 0, 0, 0, 0), 2, 0, 1, 9, 0, 0, 0) := rfl
theorem bu_56_13 : mm_at mt_P 56 13 = some ((13, 1, .aload_n 0, 0, 0, 0, 0), 2, 0, 1, 9, 0, 0, 0) := rfl
theorem bu_56_14 : mm_at mt_P 56 14 = some ((14, 3, .getfield 110, 9, 48, 0, 1265), 2, 0, 1, 9, 0, 0, 0) := rfl
theorem bu_56_17 : mm_at mt_P 56 17 = some ((17, 1, .iload_n 1, 0, 0, 0, 0), 2, 0, 1, 9, 0, 0, 0) := rfl
theorem bu_56_18 : mm_at mt_P 56 18 = some ((18, 1, .iaload, 0, 0, 0, 0), 2, 0, 1, 9, 0, 0, 0) := rfl
theorem bu_56_19 : mm_at mt_P 56 19 = some ((19, 1, .iastore, 0, 0, 0, 0), 2, 0, 1, 9, 0, 0, 0) := rfl
theorem bu_56_20 : mm_at mt_P 56 20 = some ((20, 3, .iinc 1 1, 0, 0, 0, 0), 2, 0, 1, 9, 0, 0, 0) := rfl
theorem bu_56_23 : mm_at mt_P 56 23 = some ((23, 3, .goto (-21), 0, 0, 0, 0), 2, 0, 1, 9, 0, 0, 0) := rfl
theorem bu_56_26 : mm_at mt_P 56 26 = some ((26, 1, .return_, 0, 0, 0, 0), 2, 0, 1, 9, 0, 0, 0) := rfl
theorem bu_72_0 : mm_at mt_P 72 0 = some ((0, 1, .aload_n 0, 0, 0, 0, 0), 3, 1, 1, 9, 0, 0, 0) := rfl
theorem bu_72_1 : mm_at mt_P 72 1 = some ((1, 3, .getfield 43, 9, 22, 0, 1239), 3, 1, 1, 9, 0, 0, 0) := rfl
theorem bu_72_4 : mm_at mt_P 72 4 = some ((4, 1, .iload_n 1, 0, 0, 0, 0), 3, 1, 1, 9, 0, 0, 0) := rfl
theorem bu_72_5 : mm_at mt_P 72 5 = some ((5, 1, .iconst 0, 0, 0, 0, 0), 3, 1, 1, 9, 0, 0, 0) := rfl
theorem bu_72_6 : mm_at mt_P 72 6 = some ((6, 1, .iastore, 0, 0, 0, 0), 3, 1, 1, 9, 0, 0, 0) := rfl
theorem bu_72_7 : mm_at mt_P 72 7 = some ((7, 1, .aload_n 0, 0, 0, 0, 0), 3, 1, 1, 9, 0, 0, 0) := rfl
theorem bu_72_8 : mm_at mt_P 72 8 = some ((8, 3, .getfield 52, 9, 25, 0, 1242), 3, 1, 1, 9, 0, 0, 0) := rfl
theorem bu_72_11 : mm_at mt_P 72 11 = some ((11, 1, .iload_n 1, 0, 0, 0, 0), 3, 1, 1, 9, 0, 0, 0) := rfl
theorem bu_72_12 : mm_at mt_P 72 12 = some ((12, 2, .bipush 20, 0, 0, 0, 0), 3, 1, 1, 9, 0, 0, 0) := rfl
theorem bu_72_14 : mm_at mt_P 72 14 = some ((14, 1, .iastore, 0, 0, 0, 0), 3, 1, 1, 9, 0, 0, 0) := rfl
theorem bu_72_15 : mm_at mt_P 72 15 = some ((15, 1, .aload_n 0, 0, 0, 0, 0), 3, 1, 1, 9, 0, 0, 0) := rfl
theorem bu_72_16 : mm_at mt_P 72 16 = some ((16, 3, .getfield 55, 9, 26, 0, 1243), 3, 1, 1, 9, 0, 0, 0) := rfl
theorem bu_72_19 : mm_at mt_P 72 19 = some ((19, 1, .iload_n 1, 0, 0, 0, 0), 3, 1, 1, 9, 0, 0, 0) := rfl
theorem bu_72_20 : mm_at mt_P 72 20 = some ((20, 2, .bipush 99, 0, 0, 0, 0), 3, 1, 1, 9, 0, 0, 0) := rfl
theorem bu_72_22 : mm_at mt_P 72 22 = some ((22, 1, .iastore, 0, 0, 0, 0), 3, 1, 1, 9, 0, 0, 0) := rfl
theorem bu_72_23 : mm_at mt_P 72 23 = some ((23, 1, .aload_n 0, 0, 0, 0, 0), 3, 1, 1, 9, 0, 0, 0) := rfl
theorem bu_72_24 : mm_at mt_P 72 24 = some ((24, 3, .getfield 58, 9, 27, 0, 1244), 3, 1, 1, 9, 0, 0, 0) := rfl
theorem bu_72_27 : mm_at mt_P 72 27 = some ((27, 1, .iload_n 1, 0, 0, 0, 0), 3, 1, 1, 9, 0, 0, 0) := rfl
theorem bu_72_28 : mm_at mt_P 72 28 = some ((28, 2, .bipush 50, 0, 0, 0, 0), 3, 1, 1, 9, 0, 0, 0) := rfl
theorem bu_72_30 : mm_at mt_P 72 30 = some ((30, 1, .iastore, 0, 0, 0, 0), 3, 1, 1, 9, 0, 0, 0) := rfl
theorem bu_72_31 : mm_at mt_P 72 31 = some ((31, 1, .aload_n 0, 0, 0, 0, 0), 3, 1, 1, 9, 0, 0, 0) := rfl
theorem bu_72_32 : mm_at mt_P 72 32 = some ((32, 3, .getfield 61, 9, 28, 0, 1245), 3, 1, 1, 9, 0, 0, 0) := rfl
theorem bu_72_35 : mm_at mt_P 72 35 = some ((35, 1, .iload_n 1, 0, 0, 0, 0), 3, 1, 1, 9, 0, 0, 0) := rfl
theorem bu_72_36 : mm_at mt_P 72 36 = some ((36, 2, .bipush 60, 0, 0, 0, 0), 3, 1, 1, 9, 0, 0, 0) := rfl
theorem bu_72_38 : mm_at mt_P 72 38 = some ((38, 1, .iastore, 0, 0, 0, 0), 3, 1, 1, 9, 0, 0, 0) := rfl
theorem bu_72_39 : mm_at mt_P 72 39 = some ((39, 1, .aload_n 0, 0, 0, 0, 0), 3, 1, 1, 9, 0, 0, 0) := rfl
theorem bu_72_40 : mm_at mt_P 72 40 = some ((40, 3, .getfield 64, 9, 29, 0, 1246), 3, 1, 1, 9, 0, 0, 0) := rfl
theorem bu_72_43 : mm_at mt_P 72 43 = some ((43, 1, .iload_n 1, 0, 0, 0, 0), 3, 1, 1, 9, 0, 0, 0) := rfl
theorem bu_72_44 : mm_at mt_P 72 44 = some ((44, 3, .sipush 999, 0, 0, 0, 0), 3, 1, 1, 9, 0, 0, 0) := rfl
theorem bu_72_47 : mm_at mt_P 72 47 = some ((47, 1, .iastore, 0, 0, 0, 0), 3, 1, 1, 9, 0, 0, 0) := rfl
theorem bu_72_48 : mm_at mt_P 72 48 = some ((48, 1, .aload_n 0, 0, 0, 0, 0), 3, 1, 1, 9, 0, 0, 0) := rfl
theorem bu_72_49 : mm_at mt_P 72 49 = some ((49, 3, .getfield 67, 9, 30, 0, 1247), 3, 1, 1, 9, 0, 0, 0) := rfl
theorem bu_72_52 : mm_at mt_P 72 52 = some ((52, 1, .iload_n 1, 0, 0, 0, 0), 3, 1, 1, 9, 0, 0, 0) := rfl
theorem bu_72_53 : mm_at mt_P 72 53 = some ((53, 1, .iconst 0, 0, 0, 0, 0), 3, 1, 1, 9, 0, 0, 0) := rfl
theorem bu_72_54 : mm_at mt_P 72 54 = some ((54, 1, .iastore, 0, 0, 0, 0), 3, 1, 1, 9, 0, 0, 0) := rfl
theorem bu_72_55 : mm_at mt_P 72 55 = some ((55, 1, .iconst 0, 0, 0, 0, 0), 3, 1, 1, 9, 0, 0, 0) := rfl
theorem bu_72_56 : mm_at mt_P 72 56 = some ((56, 1, .istore_n 2, 0, 0, 0, 0), 3, 1, 1, 9, 0, 0, 0) := rfl
theorem bu_72_57 : mm_at mt_P 72 57 = some ((57, 1, .iload_n 2, 0, 0, 0, 0), 3, 1, 1, 9, 0, 0, 0) := rfl
theorem bu_72_58 : mm_at mt_P 72 58 = some ((58, 2, .bipush 7, 0, 0, 0, 0), 3, 1, 1, 9, 0, 0, 0) := rfl
theorem bu_72_60 : mm_at mt_P 72 60 = some ((60, 3, .if_icmp .ge 33, 0, 0, 0, 0), 3, 1, 1, 9, 0, 0, 0) := rfl
theorem bu_72_63 : mm_at mt_P 72 63 = some ((63, 1, .aload_n 0, 0, 0, 0, 0), 3, 1, 1, 9, 0, 0, 0) := rfl
theorem bu_72_64 : mm_at mt_P 72 64 = some ((64, 3, .getfield 70, 9, 31, 0, 1248), 3, 1, 1, 9, 0, 0, 0) := rfl
theorem bu_72_67 : mm_at mt_P 72 67 = some ((67, 2, .bipush 7, 0, 0, 0, 0), 3, 1, 1, 9, 0, 0, 0) := rfl
theorem bu_72_69 : mm_at mt_P 72 69 = some ((69, 1, .iload_n 1, 0, 0, 0, 0), 3, 1, 1, 9, 0, 0, 0) := rfl
theorem bu_72_70 : mm_at mt_P 72 70 = some ((70, 1, .imul, 0, 0, 0, 0), 3, 1, 1, 9, 0, 0, 0) := rfl
theorem bu_72_71 : mm_at mt_P 72 71 = some ((71, 1, .iload_n 2, 0, 0, 0, 0), 3, 1, 1, 9, 0, 0, 0) := rfl
theorem bu_72_72 : mm_at mt_P 72 72 = some ((72, 1, .iadd, 0, 0, 0, 0), 3, 1, 1, 9, 0, 0, 0) := rfl
theorem bu_72_73 : mm_at mt_P 72 73 = some ((73, 1, .iconst 0, 0, 0, 0, 0), 3, 1, 1, 9, 0, 0, 0) := rfl
theorem bu_72_74 : mm_at mt_P 72 74 = some ((74, 1, .iastore, 0, 0, 0, 0), 3, 1, 1, 9, 0, 0, 0) := rfl
theorem bu_72_75 : mm_at mt_P 72 75 = some ((75, 1, .aload_n 0, 0, 0, 0, 0), 3, 1, 1, 9, 0, 0, 0) := rfl
theorem bu_72_76 : mm_at mt_P 72 76 = some ((76, 3, .getfield 73, 9, 32, 0, 1249), 3, 1, 1, 9, 0, 0, 0) := rfl
theorem bu_72_79 : mm_at mt_P 72 79 = some ((79, 2, .bipush 7, 0, 0, 0, 0), 3, 1, 1, 9, 0, 0, 0) := rfl
theorem bu_72_81 : mm_at mt_P 72 81 = some ((81, 1, .iload_n 1, 0, 0, 0, 0), 3, 1, 1, 9, 0, 0, 0) := rfl
theorem bu_72_82 : mm_at mt_P 72 82 = some ((82, 1, .imul, 0, 0, 0, 0), 3, 1, 1, 9, 0, 0, 0) := rfl
theorem bu_72_83 : mm_at mt_P 72 83 = some ((83, 1, .iload_n 2, 0, 0, 0, 0), 3, 1, 1, 9, 0, 0, 0) := rfl
theorem bu_72_84 : mm_at mt_P 72 84 = some ((84, 1, .iadd, 0, 0, 0, 0), 3, 1, 1, 9, 0, 0, 0) := rfl
theorem bu_72_85 : mm_at mt_P 72 85 = some ((85, 1, .iconst 0, 0, 0, 0, 0), 3, 1, 1, 9, 0, 0, 0) := rfl
theorem bu_72_86 : mm_at mt_P 72 86 = some ((86, 1, .iastore, 0, 0, 0, 0), 3, 1, 1, 9, 0, 0, 0) := rfl
theorem bu_72_87 : mm_at mt_P 72 87 = some ((87, 3, .iinc 2 1, 0, 0, 0, 0), 3, 1, 1, 9, 0, 0, 0) := rfl
theorem bu_72_90 : mm_at mt_P 72 90 = some ((90, 3, .goto (-33), 0, 0, 0, 0), 3, 1, 1, 9, 0, 0, 0) := rfl
theorem bu_72_93 : mm_at mt_P 72 93 = some ((93, 1, .return_, 0, 0, 0, 0), 3, 1, 1, 9, 0, 0, 0) := rfl
section RQB
variable {K V P : Nat → Int} {Q : Nat → Nat → Bool} {σ : py_S} {M : Nat} {ns : List Nat} {oo e : Nat} {E : mm_E} {PO : mm_C → Prop} {NN : Nat} {h0 h : mm_H} {s : Nat → Int32} {A : Nat → Nat → Int32} {L : Nat → Nat → Int64} {gs : List mm_F}
set_option maxHeartbeats 4000000 in
theorem rr_72l {A0 : Nat → Nat → Int32} : ∀ NN : Nat, (∀ (h' : mm_H) (A' : Nat → Nat → Int32), bm_P rz_T E h0 h' s A' L → (∀ c, c ≠ 106 → c ≠ 107 → A' c = A0 c) → bp_G E PO NN (mm_back none gs h')) → (∀ (h : mm_H) (A : Nat → Nat → Int32) (lv : mm_V) (o : Option Value) (a q : Int32), bm_P rz_T E h0 h s A L → (∀ c, c ≠ 106 → c ≠ 107 → A c = A0 c) → mm_get lv 0 = some (.ref (E.1 + 88)) → mm_get lv 1 = some (.int a) → mm_get lv 2 = some (.int q) → bp_G E PO NN ((72, 57, lv, [], 0, 0) :: gs, h, o)) := by
  intro NN
  induction NN with
  | zero => intro kk h A lv o a q hP hA g0 g1 g2; exact bp_zero bu_72_57
  | succ NN ih =>
    intro kk h A lv o a q hP hA g0 g1 g2
    refine bp_ld (pc' := 58) bu_72_57 rfl rfl (fun _ _ _ => rfl) g2 rfl ?_
    refine bp_c (pc' := 60) (n := 7) bu_72_58 rfl rfl (fun _ _ _ => rfl) (by decide) (fun c4058 e4059 => ?_)
    refine bp_ic (pc' := 63) (pt := 93) bu_72_60 rfl rfl (fun k4060 => ?_) (fun k4060 => ?_)
    · replace k4060 : (c4058).toInt ≤ (q).toInt := k4060
      refine bp_rv bu_72_93 ?_
      exact kk _ _ hP hA
    · replace k4060 : ¬ ((c4058).toInt ≤ (q).toInt) := k4060
      refine bp_ld (pc' := 64) bu_72_63 rfl rfl (fun _ _ _ => rfl) g0 rfl ?_
      refine bn_gr (pc' := 67) (t := 106) bu_72_64 rfl rfl (fun _ _ _ => rfl) hP rz_o88 rz_r88_31 ?_
      refine bp_c (pc' := 69) (n := 7) bu_72_67 rfl rfl (fun _ _ _ => rfl) (by decide) (fun c4061 e4062 => ?_)
      refine bp_ld (pc' := 70) bu_72_69 rfl rfl (fun _ _ _ => rfl) g1 rfl ?_
      refine bp_mulA (pc' := 71) bu_72_70 rfl (fun v4063 => ?_)
      refine bp_ld (pc' := 72) bu_72_71 rfl rfl (fun _ _ _ => rfl) g2 rfl ?_
      refine bp_addA (pc' := 73) bu_72_72 rfl (fun v4064 => ?_)
      refine bp_c (pc' := 74) (n := 0) bu_72_73 rfl rfl (fun _ _ _ => rfl) (by decide) (fun c4065 e4066 => ?_)
      refine bn_iasF (pc' := 75) bu_72_74 rfl rfl (fun _ _ _ => rfl) hP rz_a106 (Or.inl rfl) (fun b4069 b4070 h4067 hP4068 => ?_)
      refine bp_ld (pc' := 76) bu_72_75 rfl rfl (fun _ _ _ => rfl) g0 rfl ?_
      refine bn_gr (pc' := 79) (t := 107) bu_72_76 rfl rfl (fun _ _ _ => rfl) hP4068 rz_o88 rz_r88_32 ?_
      refine bp_c (pc' := 81) (n := 7) bu_72_79 rfl rfl (fun _ _ _ => rfl) (by decide) (fun c4071 e4072 => ?_)
      refine bp_ld (pc' := 82) bu_72_81 rfl rfl (fun _ _ _ => rfl) g1 rfl ?_
      refine bp_mulA (pc' := 83) bu_72_82 rfl (fun v4073 => ?_)
      refine bp_ld (pc' := 84) bu_72_83 rfl rfl (fun _ _ _ => rfl) g2 rfl ?_
      refine bp_addA (pc' := 85) bu_72_84 rfl (fun v4074 => ?_)
      refine bp_c (pc' := 86) (n := 0) bu_72_85 rfl rfl (fun _ _ _ => rfl) (by decide) (fun c4075 e4076 => ?_)
      refine bn_iasF (pc' := 87) bu_72_86 rfl rfl (fun _ _ _ => rfl) hP4068 rz_a107 (Or.inl rfl) (fun b4079 b4080 h4077 hP4078 => ?_)
      refine bn_incx (pc' := 90) bu_72_87 rfl (by decide) g2 (by decide) (fun lv4081 y4084 F4082 g4083 e4085 => ?_)
      have g4086 := F4082 0 (.ref (E.1 + 88)) g0 (by decide) (Or.inl rfl)
      have g4087 := F4082 1 (.int a) g1 (by decide) (Or.inl rfl)
      refine bp_goD (pc' := 57) bu_72_90 rfl ?_
      exact ih (fun h' A'  a0 a1  => bp_mono (Nat.le_succ NN) (kk h' A'  a0 a1 )) _ _ _ _ _ _ hP4078 (fun c c106 c107 => ((bh_up_ne c107).trans ((bh_up_ne c106).trans (hA c c106 c107)))) g4086 g4087 g4083
theorem rr_72 {a : Int32} (hP : bm_P rz_T E h0 h s A L) (kk : ∀ (h' : mm_H) (A' : Nat → Nat → Int32), bm_P rz_T E h0 h' s A' L → (∀ c, c ≠ 97 → c ≠ 100 → c ≠ 101 → c ≠ 102 → c ≠ 103 → c ≠ 104 → c ≠ 105 → c ≠ 106 → c ≠ 107 → A' c = A c) → ((A' 97 a.toInt.toNat).toInt = 0 ∧ (A' 100 a.toInt.toNat).toInt = 20 ∧ (A' 101 a.toInt.toNat).toInt = 99 ∧ (A' 102 a.toInt.toNat).toInt = 50 ∧ (A' 103 a.toInt.toNat).toInt = 60 ∧ (A' 104 a.toInt.toNat).toInt = 999 ∧ (A' 105 a.toInt.toNat).toInt = 0) → (∀ c j, 97 ≤ c → c ≤ 105 → (c = 98 ∨ c = 99 ∨ j ≠ a.toInt.toNat) → A' c j = A c j) → bp_G E PO NN (mm_back none gs h')) : bp_G E PO NN ((72, 0, [(0, .ref (E.1 + 88)), (1, .int a)], [], 0, 0) :: gs, h, none) := by
  refine bp_ld (pc' := 1) bu_72_0 rfl rfl (fun _ _ _ => rfl) rfl rfl ?_
  refine bn_gr (pc' := 4) (t := 97) bu_72_1 rfl rfl (fun _ _ _ => rfl) hP rz_o88 rz_r88_22 ?_
  refine bp_ld (pc' := 5) bu_72_4 rfl rfl (fun _ _ _ => rfl) rfl rfl ?_
  refine bp_c (pc' := 6) (n := 0) bu_72_5 rfl rfl (fun _ _ _ => rfl) (by decide) (fun c4088 e4089 => ?_)
  refine bn_iasF (pc' := 7) bu_72_6 rfl rfl (fun _ _ _ => rfl) hP rz_a97 (Or.inl rfl) (fun b4092 b4093 h4090 hP4091 => ?_)
  refine bp_ld (pc' := 8) bu_72_7 rfl rfl (fun _ _ _ => rfl) rfl rfl ?_
  refine bn_gr (pc' := 11) (t := 100) bu_72_8 rfl rfl (fun _ _ _ => rfl) hP4091 rz_o88 rz_r88_25 ?_
  refine bp_ld (pc' := 12) bu_72_11 rfl rfl (fun _ _ _ => rfl) rfl rfl ?_
  refine bp_c (pc' := 14) (n := 20) bu_72_12 rfl rfl (fun _ _ _ => rfl) (by decide) (fun c4094 e4095 => ?_)
  refine bn_iasF (pc' := 15) bu_72_14 rfl rfl (fun _ _ _ => rfl) hP4091 rz_a100 (Or.inl rfl) (fun b4098 b4099 h4096 hP4097 => ?_)
  refine bp_ld (pc' := 16) bu_72_15 rfl rfl (fun _ _ _ => rfl) rfl rfl ?_
  refine bn_gr (pc' := 19) (t := 101) bu_72_16 rfl rfl (fun _ _ _ => rfl) hP4097 rz_o88 rz_r88_26 ?_
  refine bp_ld (pc' := 20) bu_72_19 rfl rfl (fun _ _ _ => rfl) rfl rfl ?_
  refine bp_c (pc' := 22) (n := 99) bu_72_20 rfl rfl (fun _ _ _ => rfl) (by decide) (fun c4100 e4101 => ?_)
  refine bn_iasF (pc' := 23) bu_72_22 rfl rfl (fun _ _ _ => rfl) hP4097 rz_a101 (Or.inl rfl) (fun b4104 b4105 h4102 hP4103 => ?_)
  refine bp_ld (pc' := 24) bu_72_23 rfl rfl (fun _ _ _ => rfl) rfl rfl ?_
  refine bn_gr (pc' := 27) (t := 102) bu_72_24 rfl rfl (fun _ _ _ => rfl) hP4103 rz_o88 rz_r88_27 ?_
  refine bp_ld (pc' := 28) bu_72_27 rfl rfl (fun _ _ _ => rfl) rfl rfl ?_
  refine bp_c (pc' := 30) (n := 50) bu_72_28 rfl rfl (fun _ _ _ => rfl) (by decide) (fun c4106 e4107 => ?_)
  refine bn_iasF (pc' := 31) bu_72_30 rfl rfl (fun _ _ _ => rfl) hP4103 rz_a102 (Or.inl rfl) (fun b4110 b4111 h4108 hP4109 => ?_)
  refine bp_ld (pc' := 32) bu_72_31 rfl rfl (fun _ _ _ => rfl) rfl rfl ?_
  refine bn_gr (pc' := 35) (t := 103) bu_72_32 rfl rfl (fun _ _ _ => rfl) hP4109 rz_o88 rz_r88_28 ?_
  refine bp_ld (pc' := 36) bu_72_35 rfl rfl (fun _ _ _ => rfl) rfl rfl ?_
  refine bp_c (pc' := 38) (n := 60) bu_72_36 rfl rfl (fun _ _ _ => rfl) (by decide) (fun c4112 e4113 => ?_)
  refine bn_iasF (pc' := 39) bu_72_38 rfl rfl (fun _ _ _ => rfl) hP4109 rz_a103 (Or.inl rfl) (fun b4116 b4117 h4114 hP4115 => ?_)
  refine bp_ld (pc' := 40) bu_72_39 rfl rfl (fun _ _ _ => rfl) rfl rfl ?_
  refine bn_gr (pc' := 43) (t := 104) bu_72_40 rfl rfl (fun _ _ _ => rfl) hP4115 rz_o88 rz_r88_29 ?_
  refine bp_ld (pc' := 44) bu_72_43 rfl rfl (fun _ _ _ => rfl) rfl rfl ?_
  refine bp_c (pc' := 47) (n := 999) bu_72_44 rfl rfl (fun _ _ _ => rfl) (by decide) (fun c4118 e4119 => ?_)
  refine bn_iasF (pc' := 48) bu_72_47 rfl rfl (fun _ _ _ => rfl) hP4115 rz_a104 (Or.inl rfl) (fun b4122 b4123 h4120 hP4121 => ?_)
  refine bp_ld (pc' := 49) bu_72_48 rfl rfl (fun _ _ _ => rfl) rfl rfl ?_
  refine bn_gr (pc' := 52) (t := 105) bu_72_49 rfl rfl (fun _ _ _ => rfl) hP4121 rz_o88 rz_r88_30 ?_
  refine bp_ld (pc' := 53) bu_72_52 rfl rfl (fun _ _ _ => rfl) rfl rfl ?_
  refine bp_c (pc' := 54) (n := 0) bu_72_53 rfl rfl (fun _ _ _ => rfl) (by decide) (fun c4124 e4125 => ?_)
  refine bn_iasF (pc' := 55) bu_72_54 rfl rfl (fun _ _ _ => rfl) hP4121 rz_a105 (Or.inl rfl) (fun b4128 b4129 h4126 hP4127 => ?_)
  refine bp_c (pc' := 56) (n := 0) bu_72_55 rfl rfl (fun _ _ _ => rfl) (by decide) (fun c4130 e4131 => ?_)
  refine bp_st (pc' := 57) bu_72_56 rfl rfl (fun _ _ _ => rfl) rfl (by decide) (by decide) (fun lv4132 F4133 g4134 => ?_)
  have g4135 := F4133 0 (.ref (E.1 + 88)) rfl (by decide) (Or.inl rfl)
  have g4136 := F4133 1 (.int a) rfl (by decide) (Or.inl rfl)
  refine rr_72l (A0 := (bh_up (bh_up (bh_up (bh_up (bh_up (bh_up (bh_up A 97 (a).toInt.toNat (mm_nar 0 c4088)) 100 (a).toInt.toNat (mm_nar 0 c4094)) 101 (a).toInt.toNat (mm_nar 0 c4100)) 102 (a).toInt.toNat (mm_nar 0 c4106)) 103 (a).toInt.toNat (mm_nar 0 c4112)) 104 (a).toInt.toNat (mm_nar 0 c4118)) 105 (a).toInt.toNat (mm_nar 0 c4124))) NN (fun h' A' a0 a1 => kk h' A' a0 (fun c c97 c100 c101 c102 c103 c104 c105 c106 c107 => (a1 c c106 c107).trans ((bh_up_ne c105).trans ((bh_up_ne c104).trans ((bh_up_ne c103).trans ((bh_up_ne c102).trans ((bh_up_ne c101).trans ((bh_up_ne c100).trans (bh_up_ne c97)))))))) ⟨?_, ?_, ?_, ?_, ?_, ?_, ?_⟩ ?_) _ _ _ _ _ _ hP4127 (fun _ _ _ => rfl) g4135 g4136 g4134
  · rw [a1 97 (by decide) (by decide), bh_up_o (Or.inl (by decide)), bh_up_o (Or.inl (by decide)), bh_up_o (Or.inl (by decide)), bh_up_o (Or.inl (by decide)), bh_up_o (Or.inl (by decide)), bh_up_o (Or.inl (by decide)), bh_up_i]
    show (c4088 : Int32).toInt = 0
    omega
  · rw [a1 100 (by decide) (by decide), bh_up_o (Or.inl (by decide)), bh_up_o (Or.inl (by decide)), bh_up_o (Or.inl (by decide)), bh_up_o (Or.inl (by decide)), bh_up_o (Or.inl (by decide)), bh_up_i]
    show (c4094 : Int32).toInt = 20
    omega
  · rw [a1 101 (by decide) (by decide), bh_up_o (Or.inl (by decide)), bh_up_o (Or.inl (by decide)), bh_up_o (Or.inl (by decide)), bh_up_o (Or.inl (by decide)), bh_up_i]
    show (c4100 : Int32).toInt = 99
    omega
  · rw [a1 102 (by decide) (by decide), bh_up_o (Or.inl (by decide)), bh_up_o (Or.inl (by decide)), bh_up_o (Or.inl (by decide)), bh_up_i]
    show (c4106 : Int32).toInt = 50
    omega
  · rw [a1 103 (by decide) (by decide), bh_up_o (Or.inl (by decide)), bh_up_o (Or.inl (by decide)), bh_up_i]
    show (c4112 : Int32).toInt = 60
    omega
  · rw [a1 104 (by decide) (by decide), bh_up_o (Or.inl (by decide)), bh_up_i]
    show (c4118 : Int32).toInt = 999
    omega
  · rw [a1 105 (by decide) (by decide), bh_up_i]
    show (c4124 : Int32).toInt = 0
    omega
  · intro c j c1 c2 hn
    rw [a1 c (by omega) (by omega), bh_up_o (by omega), bh_up_o (by omega), bh_up_o (by omega), bh_up_o (by omega), bh_up_o (by omega), bh_up_o (by omega), bh_up_o (by omega)]
theorem rr_42 (hP : bm_P rz_T E h0 h s A L) (kk : ∀ r : Int32, bp_G E PO NN (mm_back (some (.int r)) gs h)) : bp_G E PO NN ((42, 0, [(0, .ref (E.1 + 88))], [], 0, 0) :: gs, h, none) := by
  refine bp_ld (pc' := 1) bu_42_0 rfl rfl (fun _ _ _ => rfl) rfl rfl ?_
  refine bn_gr (pc' := 4) (t := 119) bu_42_1 rfl rfl (fun _ _ _ => rfl) hP rz_o88 rz_r88_48 ?_
  refine bp_c (pc' := 6) (n := 46) bu_42_4 rfl rfl (fun _ _ _ => rfl) (by decide) (fun c4137 e4138 => ?_)
  refine bn_iaF (pc' := 7) bu_42_6 rfl rfl (fun _ _ _ => rfl) hP rz_a119 (Or.inl rfl) (fun b4139 b4140 => ?_)
  refine bp_ld (pc' := 8) bu_42_7 rfl rfl (fun _ _ _ => rfl) rfl rfl ?_
  refine bn_gr (pc' := 11) (t := 103) bu_42_8 rfl rfl (fun _ _ _ => rfl) hP rz_o88 rz_r88_28 ?_
  refine bp_ld (pc' := 12) bu_42_11 rfl rfl (fun _ _ _ => rfl) rfl rfl ?_
  refine bn_gi (pc' := 15) (K := 8818) bu_42_12 rfl rfl (fun _ _ _ => rfl) hP rz_o88 rz_i88_18 rfl rfl ?_
  refine bn_iaF (pc' := 16) bu_42_15 rfl rfl (fun _ _ _ => rfl) hP rz_a103 (Or.inl rfl) (fun b4141 b4142 => ?_)
  refine bp_ic (pc' := 19) (pt := 23) bu_42_16 rfl rfl (fun k4143 => ?_) (fun k4143 => ?_)
  · replace k4143 : ((A 119 (c4137).toInt.toNat)).toInt ≠ ((A 103 ((s 8818)).toInt.toNat)).toInt := k4143
    refine bp_ld (pc' := 24) bu_42_23 rfl rfl (fun _ _ _ => rfl) rfl rfl ?_
    refine bn_gr (pc' := 27) (t := 119) bu_42_24 rfl rfl (fun _ _ _ => rfl) hP rz_o88 rz_r88_48 ?_
    refine bp_c (pc' := 29) (n := 47) bu_42_27 rfl rfl (fun _ _ _ => rfl) (by decide) (fun c4144 e4145 => ?_)
    refine bn_iaF (pc' := 30) bu_42_29 rfl rfl (fun _ _ _ => rfl) hP rz_a119 (Or.inl rfl) (fun b4146 b4147 => ?_)
    refine bp_i0 (pc' := 33) (pt := 37) bu_42_30 rfl rfl (fun k4148 => ?_) (fun k4148 => ?_)
    · replace k4148 : ((A 119 (c4144).toInt.toNat)).toInt ≠ 0 := k4148
      refine bp_ld (pc' := 38) bu_42_37 rfl rfl (fun _ _ _ => rfl) rfl rfl ?_
      refine bn_gr (pc' := 41) (t := 119) bu_42_38 rfl rfl (fun _ _ _ => rfl) hP rz_o88 rz_r88_48 ?_
      refine bp_c (pc' := 43) (n := 48) bu_42_41 rfl rfl (fun _ _ _ => rfl) (by decide) (fun c4149 e4150 => ?_)
      refine bn_iaF (pc' := 44) bu_42_43 rfl rfl (fun _ _ _ => rfl) hP rz_a119 (Or.inl rfl) (fun b4151 b4152 => ?_)
      refine bp_i0 (pc' := 47) (pt := 51) bu_42_44 rfl rfl (fun k4153 => ?_) (fun k4153 => ?_)
      · replace k4153 : ((A 119 (c4149).toInt.toNat)).toInt ≠ 0 := k4153
        refine bp_c (pc' := 52) (n := 0) bu_42_51 rfl rfl (fun _ _ _ => rfl) (by decide) (fun c4154 e4155 => ?_)
        refine bp_ri bu_42_52 ?_
        exact kk _
      · replace k4153 : ¬ (((A 119 (c4149).toInt.toNat)).toInt ≠ 0) := k4153
        refine bp_c (pc' := 48) (n := 3) bu_42_47 rfl rfl (fun _ _ _ => rfl) (by decide) (fun c4156 e4157 => ?_)
        refine bp_go (pc' := 52) bu_42_48 rfl ?_
        refine bp_ri bu_42_52 ?_
        exact kk _
    · replace k4148 : ¬ (((A 119 (c4144).toInt.toNat)).toInt ≠ 0) := k4148
      refine bp_c (pc' := 34) (n := 2) bu_42_33 rfl rfl (fun _ _ _ => rfl) (by decide) (fun c4158 e4159 => ?_)
      refine bp_go (pc' := 52) bu_42_34 rfl ?_
      refine bp_ri bu_42_52 ?_
      exact kk _
  · replace k4143 : ¬ (((A 119 (c4137).toInt.toNat)).toInt ≠ ((A 103 ((s 8818)).toInt.toNat)).toInt) := k4143
    refine bp_c (pc' := 20) (n := 1) bu_42_19 rfl rfl (fun _ _ _ => rfl) (by decide) (fun c4160 e4161 => ?_)
    refine bp_go (pc' := 52) bu_42_20 rfl ?_
    refine bp_ri bu_42_52 ?_
    exact kk _
set_option maxHeartbeats 4000000 in
theorem rr_8c {A0 : Nat → Nat → Int32} : ∀ NN : Nat, (∀ (h' : mm_H) (s' : Nat → Int32) (A' : Nat → Nat → Int32), bm_P rz_T E h0 h' s' A' L → (∀ j, j ≠ 8849 → j ≠ 8850 → s' j = s j) → (∀ c, c ≠ 119 → A' c = A0 c) → bp_G E PO NN (mm_back none gs h')) → (∀ (h : mm_H) (A : Nat → Nat → Int32) (lv : mm_V) (o : Option Value) (l k : Int32), bm_P rz_T E h0 h s A L → (∀ c, c ≠ 119 → A c = A0 c) → mm_get lv 0 = some (.ref (E.1 + 88)) → mm_get lv 1 = some (.int l) → mm_get lv 2 = some (.int k) → bp_G E PO NN ((8, 64, lv, [], 0, 0) :: gs, h, o)) := by
  intro NN
  induction NN with
  | zero => intro kk h A lv o l k hP hA g0 g1 g2; exact bp_zero bu_8_64
  | succ NN ih =>
    intro kk h A lv o l k hP hA g0 g1 g2
    refine bp_ld (pc' := 65) bu_8_64 rfl rfl (fun _ _ _ => rfl) g2 rfl ?_
    refine bp_c (pc' := 66) (n := 4) bu_8_65 rfl rfl (fun _ _ _ => rfl) (by decide) (fun c4162 e4163 => ?_)
    refine bp_ic (pc' := 69) (pt := 86) bu_8_66 rfl rfl (fun k4164 => ?_) (fun k4164 => ?_)
    · replace k4164 : (c4162).toInt ≤ (k).toInt := k4164
      refine bp_ld (pc' := 87) bu_8_86 rfl rfl (fun _ _ _ => rfl) g0 rfl ?_
      refine bn_gr (pc' := 90) (t := 119) bu_8_87 rfl rfl (fun _ _ _ => rfl) hP rz_o88 rz_r88_48 ?_
      refine bp_c (pc' := 92) (n := 46) bu_8_90 rfl rfl (fun _ _ _ => rfl) (by decide) (fun c4165 e4166 => ?_)
      refine bp_ld (pc' := 93) bu_8_92 rfl rfl (fun _ _ _ => rfl) g1 rfl ?_
      refine bn_iasF (pc' := 94) bu_8_93 rfl rfl (fun _ _ _ => rfl) hP rz_a119 (Or.inl rfl) (fun b4169 b4170 h4167 hP4168 => ?_)
      refine bp_ld (pc' := 95) bu_8_94 rfl rfl (fun _ _ _ => rfl) g0 rfl ?_
      refine bn_gr (pc' := 98) (t := 119) bu_8_95 rfl rfl (fun _ _ _ => rfl) hP4168 rz_o88 rz_r88_48 ?_
      refine bp_c (pc' := 100) (n := 47) bu_8_98 rfl rfl (fun _ _ _ => rfl) (by decide) (fun c4171 e4172 => ?_)
      refine bp_ld (pc' := 101) bu_8_100 rfl rfl (fun _ _ _ => rfl) g0 rfl ?_
      refine bn_gr (pc' := 104) (t := 100) bu_8_101 rfl rfl (fun _ _ _ => rfl) hP4168 rz_o88 rz_r88_25 ?_
      refine bp_ld (pc' := 105) bu_8_104 rfl rfl (fun _ _ _ => rfl) g0 rfl ?_
      refine bn_gi (pc' := 108) (K := 8818) bu_8_105 rfl rfl (fun _ _ _ => rfl) hP4168 rz_o88 rz_i88_18 rfl rfl ?_
      refine bn_iaF (pc' := 109) bu_8_108 rfl rfl (fun _ _ _ => rfl) hP4168 rz_a100 (Or.inl rfl) (fun b4173 b4174 => ?_)
      refine bn_iasF (pc' := 110) bu_8_109 rfl rfl (fun _ _ _ => rfl) hP4168 rz_a119 (Or.inl rfl) (fun b4177 b4178 h4175 hP4176 => ?_)
      refine bp_ld (pc' := 111) bu_8_110 rfl rfl (fun _ _ _ => rfl) g0 rfl ?_
      refine bn_gr (pc' := 114) (t := 119) bu_8_111 rfl rfl (fun _ _ _ => rfl) hP4176 rz_o88 rz_r88_48 ?_
      refine bp_c (pc' := 116) (n := 48) bu_8_114 rfl rfl (fun _ _ _ => rfl) (by decide) (fun c4179 e4180 => ?_)
      refine bp_ld (pc' := 117) bu_8_116 rfl rfl (fun _ _ _ => rfl) g0 rfl ?_
      refine bn_gr (pc' := 120) (t := 101) bu_8_117 rfl rfl (fun _ _ _ => rfl) hP4176 rz_o88 rz_r88_26 ?_
      refine bp_ld (pc' := 121) bu_8_120 rfl rfl (fun _ _ _ => rfl) g0 rfl ?_
      refine bn_gi (pc' := 124) (K := 8818) bu_8_121 rfl rfl (fun _ _ _ => rfl) hP4176 rz_o88 rz_i88_18 rfl rfl ?_
      refine bn_iaF (pc' := 125) bu_8_124 rfl rfl (fun _ _ _ => rfl) hP4176 rz_a101 (Or.inl rfl) (fun b4181 b4182 => ?_)
      refine bn_iasF (pc' := 126) bu_8_125 rfl rfl (fun _ _ _ => rfl) hP4176 rz_a119 (Or.inl rfl) (fun b4185 b4186 h4183 hP4184 => ?_)
      refine bp_ld (pc' := 127) bu_8_126 rfl rfl (fun _ _ _ => rfl) g0 rfl ?_
      refine bn_gr (pc' := 130) (t := 119) bu_8_127 rfl rfl (fun _ _ _ => rfl) hP4184 rz_o88 rz_r88_48 ?_
      refine bp_c (pc' := 132) (n := 49) bu_8_130 rfl rfl (fun _ _ _ => rfl) (by decide) (fun c4187 e4188 => ?_)
      refine bp_ld (pc' := 133) bu_8_132 rfl rfl (fun _ _ _ => rfl) g0 rfl ?_
      refine bn_gr (pc' := 136) (t := 102) bu_8_133 rfl rfl (fun _ _ _ => rfl) hP4184 rz_o88 rz_r88_27 ?_
      refine bp_ld (pc' := 137) bu_8_136 rfl rfl (fun _ _ _ => rfl) g0 rfl ?_
      refine bn_gi (pc' := 140) (K := 8818) bu_8_137 rfl rfl (fun _ _ _ => rfl) hP4184 rz_o88 rz_i88_18 rfl rfl ?_
      refine bn_iaF (pc' := 141) bu_8_140 rfl rfl (fun _ _ _ => rfl) hP4184 rz_a102 (Or.inl rfl) (fun b4189 b4190 => ?_)
      refine bn_iasF (pc' := 142) bu_8_141 rfl rfl (fun _ _ _ => rfl) hP4184 rz_a119 (Or.inl rfl) (fun b4193 b4194 h4191 hP4192 => ?_)
      refine bp_ld (pc' := 143) bu_8_142 rfl rfl (fun _ _ _ => rfl) g0 rfl ?_
      refine bn_gr (pc' := 146) (t := 119) bu_8_143 rfl rfl (fun _ _ _ => rfl) hP4192 rz_o88 rz_r88_48 ?_
      refine bp_c (pc' := 148) (n := 51) bu_8_146 rfl rfl (fun _ _ _ => rfl) (by decide) (fun c4195 e4196 => ?_)
      refine bp_ld (pc' := 149) bu_8_148 rfl rfl (fun _ _ _ => rfl) g0 rfl ?_
      refine bn_gr (pc' := 152) (t := 104) bu_8_149 rfl rfl (fun _ _ _ => rfl) hP4192 rz_o88 rz_r88_29 ?_
      refine bp_ld (pc' := 153) bu_8_152 rfl rfl (fun _ _ _ => rfl) g0 rfl ?_
      refine bn_gi (pc' := 156) (K := 8818) bu_8_153 rfl rfl (fun _ _ _ => rfl) hP4192 rz_o88 rz_i88_18 rfl rfl ?_
      refine bn_iaF (pc' := 157) bu_8_156 rfl rfl (fun _ _ _ => rfl) hP4192 rz_a104 (Or.inl rfl) (fun b4197 b4198 => ?_)
      refine bn_iasF (pc' := 158) bu_8_157 rfl rfl (fun _ _ _ => rfl) hP4192 rz_a119 (Or.inl rfl) (fun b4201 b4202 h4199 hP4200 => ?_)
      refine bp_ld (pc' := 159) bu_8_158 rfl rfl (fun _ _ _ => rfl) g0 rfl ?_
      refine bn_gr (pc' := 162) (t := 119) bu_8_159 rfl rfl (fun _ _ _ => rfl) hP4200 rz_o88 rz_r88_48 ?_
      refine bp_c (pc' := 164) (n := 54) bu_8_162 rfl rfl (fun _ _ _ => rfl) (by decide) (fun c4203 e4204 => ?_)
      refine bp_c (pc' := 166) (n := -2) bu_8_164 rfl rfl (fun _ _ _ => rfl) (by decide) (fun c4205 e4206 => ?_)
      refine bn_iasF (pc' := 167) bu_8_166 rfl rfl (fun _ _ _ => rfl) hP4200 rz_a119 (Or.inl rfl) (fun b4209 b4210 h4207 hP4208 => ?_)
      refine bp_ld (pc' := 168) bu_8_167 rfl rfl (fun _ _ _ => rfl) g0 rfl ?_
      refine bn_gr (pc' := 171) (t := 119) bu_8_168 rfl rfl (fun _ _ _ => rfl) hP4208 rz_o88 rz_r88_48 ?_
      refine bp_c (pc' := 173) (n := 52) bu_8_171 rfl rfl (fun _ _ _ => rfl) (by decide) (fun c4211 e4212 => ?_)
      refine bp_ld (pc' := 174) bu_8_173 rfl rfl (fun _ _ _ => rfl) g0 rfl ?_
      refine bn_cvF (pc' := 177) (st := [.int c4211, .ref (E.1 + 119)]) (args := []) bu_8_174 rfl rfl rfl (by decide) hP4208 rz_o88 (by decide) rfl (Nat.le_of_ble_eq_true rfl) (Nat.le_of_ble_eq_true rfl) ?_
      refine rr_42 hP4208 (fun r4213 => ?_)
      show bp_G E PO (NN + 1) ((8, 177, lv, [.int r4213, .int c4211, .ref (E.1 + 119)], 0, 0) :: gs, h4207, none)
      refine bn_iasF (pc' := 178) bu_8_177 rfl rfl (fun _ _ _ => rfl) hP4208 rz_a119 (Or.inl rfl) (fun b4216 b4217 h4214 hP4215 => ?_)
      refine bp_ld (pc' := 179) bu_8_178 rfl rfl (fun _ _ _ => rfl) g0 rfl ?_
      refine bp_ld (pc' := 180) bu_8_179 rfl rfl (fun _ _ _ => rfl) g0 rfl ?_
      refine bn_gr (pc' := 183) (t := 105) bu_8_180 rfl rfl (fun _ _ _ => rfl) hP4215 rz_o88 rz_r88_30 ?_
      refine bp_ld (pc' := 184) bu_8_183 rfl rfl (fun _ _ _ => rfl) g0 rfl ?_
      refine bn_gi (pc' := 187) (K := 8818) bu_8_184 rfl rfl (fun _ _ _ => rfl) hP4215 rz_o88 rz_i88_18 rfl rfl ?_
      refine bn_iaF (pc' := 188) bu_8_187 rfl rfl (fun _ _ _ => rfl) hP4215 rz_a105 (Or.inl rfl) (fun b4218 b4219 => ?_)
      refine bn_pf (pc' := 191) (K := 8849) bu_8_188 rfl rfl (fun _ _ _ => rfl) hP4215 rz_o88 rz_i88_49 rfl rfl (fun h4220 s4221 hP4222 e4223 f4224 => ?_)
      refine bp_ld (pc' := 192) bu_8_191 rfl rfl (fun _ _ _ => rfl) g0 rfl ?_
      refine bp_c (pc' := 193) (n := -1) bu_8_192 rfl rfl (fun _ _ _ => rfl) (by decide) (fun c4225 e4226 => ?_)
      refine bn_pf (pc' := 196) (K := 8850) bu_8_193 rfl rfl (fun _ _ _ => rfl) hP4222 rz_o88 rz_i88_50 rfl rfl (fun h4227 s4228 hP4229 e4230 f4231 => ?_)
      refine bp_rv bu_8_196 ?_
      exact kk _ _ _ hP4229 (fun j u1 u2 => (f4231 j u2).trans (f4224 j u1)) (fun c c119 => ((bh_up_ne c119).trans ((bh_up_ne c119).trans ((bh_up_ne c119).trans ((bh_up_ne c119).trans ((bh_up_ne c119).trans ((bh_up_ne c119).trans ((bh_up_ne c119).trans (hA c c119)))))))))
    · replace k4164 : ¬ ((c4162).toInt ≤ (k).toInt) := k4164
      refine bp_ld (pc' := 70) bu_8_69 rfl rfl (fun _ _ _ => rfl) g0 rfl ?_
      refine bn_gr (pc' := 73) (t := 119) bu_8_70 rfl rfl (fun _ _ _ => rfl) hP rz_o88 rz_r88_48 ?_
      refine bp_c (pc' := 75) (n := 18) bu_8_73 rfl rfl (fun _ _ _ => rfl) (by decide) (fun c4232 e4233 => ?_)
      refine bp_ld (pc' := 76) bu_8_75 rfl rfl (fun _ _ _ => rfl) g2 rfl ?_
      refine bp_addA (pc' := 77) bu_8_76 rfl (fun v4234 => ?_)
      refine bp_c (pc' := 79) (n := -2) bu_8_77 rfl rfl (fun _ _ _ => rfl) (by decide) (fun c4235 e4236 => ?_)
      refine bn_iasF (pc' := 80) bu_8_79 rfl rfl (fun _ _ _ => rfl) hP rz_a119 (Or.inl rfl) (fun b4239 b4240 h4237 hP4238 => ?_)
      refine bn_incx (pc' := 83) bu_8_80 rfl (by decide) g2 (by decide) (fun lv4241 y4244 F4242 g4243 e4245 => ?_)
      have g4246 := F4242 0 (.ref (E.1 + 88)) g0 (by decide) (Or.inl rfl)
      have g4247 := F4242 1 (.int l) g1 (by decide) (Or.inl rfl)
      refine bp_goD (pc' := 64) bu_8_83 rfl ?_
      exact ih (fun h' s' A' a0 a1 a2 => bp_mono (Nat.le_succ NN) (kk h' s' A' a0 a1 a2)) _ _ _ _ _ _ hP4238 (fun c c119 => ((bh_up_ne c119).trans (hA c c119))) g4246 g4247 g4243
set_option maxHeartbeats 4000000 in
theorem rr_8b {A0 : Nat → Nat → Int32} : ∀ NN : Nat, (∀ (h' : mm_H) (s' : Nat → Int32) (A' : Nat → Nat → Int32), bm_P rz_T E h0 h' s' A' L → (∀ j, j ≠ 8849 → j ≠ 8850 → s' j = s j) → (∀ c, c ≠ 119 → A' c = A0 c) → bp_G E PO NN (mm_back none gs h')) → (∀ (h : mm_H) (A : Nat → Nat → Int32) (lv : mm_V) (o : Option Value) (l k : Int32), bm_P rz_T E h0 h s A L → (∀ c, c ≠ 119 → A c = A0 c) → mm_get lv 0 = some (.ref (E.1 + 88)) → mm_get lv 1 = some (.int l) → mm_get lv 2 = some (.int k) → bp_G E PO NN ((8, 23, lv, [], 0, 0) :: gs, h, o)) := by
  intro NN
  induction NN with
  | zero => intro kk h A lv o l k hP hA g0 g1 g2; exact bp_zero bu_8_23
  | succ NN ih =>
    intro kk h A lv o l k hP hA g0 g1 g2
    refine bp_ld (pc' := 24) bu_8_23 rfl rfl (fun _ _ _ => rfl) g2 rfl ?_
    refine bp_ld (pc' := 25) bu_8_24 rfl rfl (fun _ _ _ => rfl) g0 rfl ?_
    refine bn_gr (pc' := 28) (t := 97) bu_8_25 rfl rfl (fun _ _ _ => rfl) hP rz_o88 rz_r88_22 ?_
    refine bp_ld (pc' := 29) bu_8_28 rfl rfl (fun _ _ _ => rfl) g0 rfl ?_
    refine bn_gi (pc' := 32) (K := 8818) bu_8_29 rfl rfl (fun _ _ _ => rfl) hP rz_o88 rz_i88_18 rfl rfl ?_
    refine bn_iaF (pc' := 33) bu_8_32 rfl rfl (fun _ _ _ => rfl) hP rz_a97 (Or.inl rfl) (fun b4248 b4249 => ?_)
    refine bp_ic (pc' := 36) (pt := 62) bu_8_33 rfl rfl (fun k4250 => ?_) (fun k4250 => ?_)
    · replace k4250 : ((A 97 ((s 8818)).toInt.toNat)).toInt ≤ (k).toInt := k4250
      refine bp_c (pc' := 63) (n := 0) bu_8_62 rfl rfl (fun _ _ _ => rfl) (by decide) (fun c4251 e4252 => ?_)
      refine bp_st (pc' := 64) bu_8_63 rfl rfl (fun _ _ _ => rfl) rfl (by decide) (by decide) (fun lv4253 F4254 g4255 => ?_)
      have g4256 := F4254 0 (.ref (E.1 + 88)) g0 (by decide) (Or.inl rfl)
      have g4257 := F4254 1 (.int l) g1 (by decide) (Or.inl rfl)
      exact rr_8c (NN + 1) kk _ _ _ _ _ _ hP hA g4256 g4257 g4255
    · replace k4250 : ¬ (((A 97 ((s 8818)).toInt.toNat)).toInt ≤ (k).toInt) := k4250
      refine bp_ld (pc' := 37) bu_8_36 rfl rfl (fun _ _ _ => rfl) g0 rfl ?_
      refine bn_gr (pc' := 40) (t := 119) bu_8_37 rfl rfl (fun _ _ _ => rfl) hP rz_o88 rz_r88_48 ?_
      refine bp_ld (pc' := 41) bu_8_40 rfl rfl (fun _ _ _ => rfl) g2 rfl ?_
      refine bp_ld (pc' := 42) bu_8_41 rfl rfl (fun _ _ _ => rfl) g0 rfl ?_
      refine bn_gr (pc' := 45) (t := 99) bu_8_42 rfl rfl (fun _ _ _ => rfl) hP rz_o88 rz_r88_24 ?_
      refine bp_c (pc' := 47) (n := 6) bu_8_45 rfl rfl (fun _ _ _ => rfl) (by decide) (fun c4258 e4259 => ?_)
      refine bp_ld (pc' := 48) bu_8_47 rfl rfl (fun _ _ _ => rfl) g0 rfl ?_
      refine bn_gi (pc' := 51) (K := 8818) bu_8_48 rfl rfl (fun _ _ _ => rfl) hP rz_o88 rz_i88_18 rfl rfl ?_
      refine bp_mulA (pc' := 52) bu_8_51 rfl (fun v4260 => ?_)
      refine bp_ld (pc' := 53) bu_8_52 rfl rfl (fun _ _ _ => rfl) g2 rfl ?_
      refine bp_addA (pc' := 54) bu_8_53 rfl (fun v4261 => ?_)
      refine bn_iaF (pc' := 55) bu_8_54 rfl rfl (fun _ _ _ => rfl) hP rz_a99 (Or.inl rfl) (fun b4262 b4263 => ?_)
      refine bn_iasF (pc' := 56) bu_8_55 rfl rfl (fun _ _ _ => rfl) hP rz_a119 (Or.inl rfl) (fun b4266 b4267 h4264 hP4265 => ?_)
      refine bn_incx (pc' := 59) bu_8_56 rfl (by decide) g2 (by decide) (fun lv4268 y4271 F4269 g4270 e4272 => ?_)
      have g4273 := F4269 0 (.ref (E.1 + 88)) g0 (by decide) (Or.inl rfl)
      have g4274 := F4269 1 (.int l) g1 (by decide) (Or.inl rfl)
      refine bp_goD (pc' := 23) bu_8_59 rfl ?_
      exact ih (fun h' s' A' a0 a1 a2 => bp_mono (Nat.le_succ NN) (kk h' s' A' a0 a1 a2)) _ _ _ _ _ _ hP4265 (fun c c119 => ((bh_up_ne c119).trans (hA c c119))) g4273 g4274 g4270
set_option maxHeartbeats 4000000 in
theorem rr_8a {A0 : Nat → Nat → Int32} : ∀ NN : Nat, (∀ (h' : mm_H) (s' : Nat → Int32) (A' : Nat → Nat → Int32), bm_P rz_T E h0 h' s' A' L → (∀ j, j ≠ 8849 → j ≠ 8850 → s' j = s j) → (∀ c, c ≠ 119 → A' c = A0 c) → bp_G E PO NN (mm_back none gs h')) → (∀ (h : mm_H) (A : Nat → Nat → Int32) (lv : mm_V) (o : Option Value) (l k : Int32), bm_P rz_T E h0 h s A L → (∀ c, c ≠ 119 → A c = A0 c) → mm_get lv 0 = some (.ref (E.1 + 88)) → mm_get lv 1 = some (.int l) → mm_get lv 2 = some (.int k) → bp_G E PO NN ((8, 2, lv, [], 0, 0) :: gs, h, o)) := by
  intro NN
  induction NN with
  | zero => intro kk h A lv o l k hP hA g0 g1 g2; exact bp_zero bu_8_2
  | succ NN ih =>
    intro kk h A lv o l k hP hA g0 g1 g2
    refine bp_ld (pc' := 3) bu_8_2 rfl rfl (fun _ _ _ => rfl) g2 rfl ?_
    refine bp_c (pc' := 5) (n := 60) bu_8_3 rfl rfl (fun _ _ _ => rfl) (by decide) (fun c4275 e4276 => ?_)
    refine bp_ic (pc' := 8) (pt := 21) bu_8_5 rfl rfl (fun k4277 => ?_) (fun k4277 => ?_)
    · replace k4277 : (c4275).toInt ≤ (k).toInt := k4277
      refine bp_c (pc' := 22) (n := 0) bu_8_21 rfl rfl (fun _ _ _ => rfl) (by decide) (fun c4278 e4279 => ?_)
      refine bp_st (pc' := 23) bu_8_22 rfl rfl (fun _ _ _ => rfl) rfl (by decide) (by decide) (fun lv4280 F4281 g4282 => ?_)
      have g4283 := F4281 0 (.ref (E.1 + 88)) g0 (by decide) (Or.inl rfl)
      have g4284 := F4281 1 (.int l) g1 (by decide) (Or.inl rfl)
      exact rr_8b (NN + 1) kk _ _ _ _ _ _ hP hA g4283 g4284 g4282
    · replace k4277 : ¬ ((c4275).toInt ≤ (k).toInt) := k4277
      refine bp_ld (pc' := 9) bu_8_8 rfl rfl (fun _ _ _ => rfl) g0 rfl ?_
      refine bn_gr (pc' := 12) (t := 119) bu_8_9 rfl rfl (fun _ _ _ => rfl) hP rz_o88 rz_r88_48 ?_
      refine bp_ld (pc' := 13) bu_8_12 rfl rfl (fun _ _ _ => rfl) g2 rfl ?_
      refine bp_c (pc' := 14) (n := 0) bu_8_13 rfl rfl (fun _ _ _ => rfl) (by decide) (fun c4285 e4286 => ?_)
      refine bn_iasF (pc' := 15) bu_8_14 rfl rfl (fun _ _ _ => rfl) hP rz_a119 (Or.inl rfl) (fun b4289 b4290 h4287 hP4288 => ?_)
      refine bn_incx (pc' := 18) bu_8_15 rfl (by decide) g2 (by decide) (fun lv4291 y4294 F4292 g4293 e4295 => ?_)
      have g4296 := F4292 0 (.ref (E.1 + 88)) g0 (by decide) (Or.inl rfl)
      have g4297 := F4292 1 (.int l) g1 (by decide) (Or.inl rfl)
      refine bp_goD (pc' := 2) bu_8_18 rfl ?_
      exact ih (fun h' s' A' a0 a1 a2 => bp_mono (Nat.le_succ NN) (kk h' s' A' a0 a1 a2)) _ _ _ _ _ _ hP4288 (fun c c119 => ((bh_up_ne c119).trans (hA c c119))) g4296 g4297 g4293
theorem rr_8 {l : Int32} (hP : bm_P rz_T E h0 h s A L) (kk : (∀ (h' : mm_H) (s' : Nat → Int32) (A' : Nat → Nat → Int32), bm_P rz_T E h0 h' s' A' L → (∀ j, j ≠ 8849 → j ≠ 8850 → s' j = s j) → (∀ c, c ≠ 119 → A' c = A c) → bp_G E PO NN (mm_back none gs h'))) : bp_G E PO NN ((8, 0, [(0, .ref (E.1 + 88)), (1, .int l)], [], 0, 0) :: gs, h, none) := by
  refine bp_c (pc' := 1) (n := 0) bu_8_0 rfl rfl (fun _ _ _ => rfl) (by decide) (fun c4298 e4299 => ?_)
  refine bp_st (pc' := 2) bu_8_1 rfl rfl (fun _ _ _ => rfl) rfl (by decide) (by decide) (fun lv4300 F4301 g4302 => ?_)
  have g4303 := F4301 0 (.ref (E.1 + 88)) rfl (by decide) (Or.inl rfl)
  have g4304 := F4301 1 (.int l) rfl (by decide) (Or.inl rfl)
  exact rr_8a NN kk _ _ _ _ _ _ hP (fun _ _ => rfl) g4303 g4304 g4302
theorem rr_7 (hP : bm_P rz_T E h0 h s A L) (kk : (∀ (h' : mm_H) (s' : Nat → Int32) (A' : Nat → Nat → Int32), bm_P rz_T E h0 h' s' A' L → (∀ j, j ≠ 8849 → j ≠ 8850 → s' j = s j) → (∀ c, c ≠ 119 → A' c = A c) → bp_G E PO NN (mm_back none gs h'))) : bp_G E PO NN ((7, 0, [(0, .ref (E.1 + 88))], [], 0, 0) :: gs, h, none) := by
  refine bp_ld (pc' := 1) bu_7_0 rfl rfl (fun _ _ _ => rfl) rfl rfl ?_
  refine bp_c (pc' := 2) (n := 0) bu_7_1 rfl rfl (fun _ _ _ => rfl) (by decide) (fun c4305 e4306 => ?_)
  refine bn_cvF (pc' := 5) (st := []) (args := [.int c4305]) bu_7_2 rfl rfl rfl (by decide) hP rz_o88 (by decide) rfl (Nat.le_of_ble_eq_true rfl) (Nat.le_of_ble_eq_true rfl) ?_
  refine rr_8 (l := c4305) hP (fun h4307 s4308 A4309 hP4310 f4311 a4312 => ?_)
  show bp_G E PO NN ((7, 5, _, [], 0, 0) :: gs, h4307, none)
  refine bp_rv bu_7_5 ?_
  exact kk _ _ _ hP4310 f4311 a4312
set_option maxHeartbeats 4000000 in
theorem rr_56l {A0 : Nat → Nat → Int32} : ∀ NN : Nat, (∀ (h' : mm_H) (A' : Nat → Nat → Int32), bm_P rz_T E h0 h' s A' L → (∀ c, c ≠ 118 → A' c = A0 c) → bp_G E PO NN (mm_back none gs h')) → (∀ (h : mm_H) (A : Nat → Nat → Int32) (lv : mm_V) (o : Option Value) (k : Int32), bm_P rz_T E h0 h s A L → (∀ c, c ≠ 118 → A c = A0 c) → mm_get lv 0 = some (.ref (E.1 + 88)) → mm_get lv 1 = some (.int k) → bp_G E PO NN ((56, 2, lv, [], 0, 0) :: gs, h, o)) := by
  intro NN
  induction NN with
  | zero => intro kk h A lv o k hP hA g0 g1; exact bp_zero bu_56_2
  | succ NN ih =>
    intro kk h A lv o k hP hA g0 g1
    refine bp_ld (pc' := 3) bu_56_2 rfl rfl (fun _ _ _ => rfl) g1 rfl ?_
    refine bp_c (pc' := 5) (n := 60) bu_56_3 rfl rfl (fun _ _ _ => rfl) (by decide) (fun c4313 e4314 => ?_)
    refine bp_ic (pc' := 8) (pt := 26) bu_56_5 rfl rfl (fun k4315 => ?_) (fun k4315 => ?_)
    · replace k4315 : (c4313).toInt ≤ (k).toInt := k4315
      refine bp_rv bu_56_26 ?_
      exact kk _ _ hP hA
    · replace k4315 : ¬ ((c4313).toInt ≤ (k).toInt) := k4315
      refine bp_ld (pc' := 9) bu_56_8 rfl rfl (fun _ _ _ => rfl) g0 rfl ?_
      refine bn_gr (pc' := 12) (t := 118) bu_56_9 rfl rfl (fun _ _ _ => rfl) hP rz_o88 rz_r88_47 ?_
      refine bp_ld (pc' := 13) bu_56_12 rfl rfl (fun _ _ _ => rfl) g1 rfl ?_
      refine bp_ld (pc' := 14) bu_56_13 rfl rfl (fun _ _ _ => rfl) g0 rfl ?_
      refine bn_gr (pc' := 17) (t := 119) bu_56_14 rfl rfl (fun _ _ _ => rfl) hP rz_o88 rz_r88_48 ?_
      refine bp_ld (pc' := 18) bu_56_17 rfl rfl (fun _ _ _ => rfl) g1 rfl ?_
      refine bn_iaF (pc' := 19) bu_56_18 rfl rfl (fun _ _ _ => rfl) hP rz_a119 (Or.inl rfl) (fun b4316 b4317 => ?_)
      refine bn_iasF (pc' := 20) bu_56_19 rfl rfl (fun _ _ _ => rfl) hP rz_a118 (Or.inl rfl) (fun b4320 b4321 h4318 hP4319 => ?_)
      refine bn_incx (pc' := 23) bu_56_20 rfl (by decide) g1 (by decide) (fun lv4322 y4325 F4323 g4324 e4326 => ?_)
      have g4327 := F4323 0 (.ref (E.1 + 88)) g0 (by decide) (Or.inl rfl)
      refine bp_goD (pc' := 2) bu_56_23 rfl ?_
      exact ih (fun h' A'  a0 a1  => bp_mono (Nat.le_succ NN) (kk h' A'  a0 a1 )) _ _ _ _ _ hP4319 (fun c c118 => ((bh_up_ne c118).trans (hA c c118))) g4327 g4324
theorem rr_56 (hP : bm_P rz_T E h0 h s A L) (kk : ∀ (h' : mm_H) (A' : Nat → Nat → Int32), bm_P rz_T E h0 h' s A' L → (∀ c, c ≠ 118 → A' c = A c) → bp_G E PO NN (mm_back none gs h')) : bp_G E PO NN ((56, 0, [(0, .ref (E.1 + 88))], [], 0, 0) :: gs, h, none) := by
  refine bp_c (pc' := 1) (n := 0) bu_56_0 rfl rfl (fun _ _ _ => rfl) (by decide) (fun c4328 e4329 => ?_)
  refine bp_st (pc' := 2) bu_56_1 rfl rfl (fun _ _ _ => rfl) rfl (by decide) (by decide) (fun lv4330 F4331 g4332 => ?_)
  have g4333 := F4331 0 (.ref (E.1 + 88)) rfl (by decide) (Or.inl rfl)
  exact rr_56l (A0 := A) NN (fun h' A' a0 a1 => kk h' A' a0 a1) _ _ _ _ _ hP (fun _ _ => rfl) g4333 g4332
end RQB
