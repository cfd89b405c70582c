/-! BY HAND: the reference's reader, 5: one thing told (wip/p3/bh5.py) -/
/-- between two things that are told: the side that is written -/
def rd_Q (σ : Nat) (s : Nat → Int32) (A : Nat → Nat → Int32) : Prop := (σ ≤ 1 ∧ (s 19).toInt = (σ : Int) ∧ 0 ≤ (s 11).toInt ∧ (s 11).toInt ≤ 400 ∧ 0 ≤ (s 13).toInt ∧ 0 ≤ (s 12).toInt ∧ (s 12).toInt ≤ 7 ∧ ((s 13).toInt = 0 → (s 12).toInt = 0) ∧ 420 * (σ : Int) ≤ (s 39).toInt ∧ (s 39).toInt ≤ 420 * (σ : Int) + 401 ∧ ((s 13).toInt = 0 → (s 39).toInt ≤ 420 * (σ : Int) + (s 11).toInt) ∧ 130 * (σ : Int) ≤ (s 33).toInt ∧ (s 33).toInt ≤ 130 * (σ : Int) + 103 ∧ ((s 13).toInt = 0 → 4 * ((s 33).toInt - 130 * (σ : Int)) ≤ (s 11).toInt) ∧ 0 ≤ (s 20).toInt ∧ (s 20).toInt ≤ 6 ∧ (A 97 σ).toInt = (s 20).toInt ∧ 0 ≤ (A 97 (1 - σ)).toInt ∧ (A 97 (1 - σ)).toInt ≤ 6) ∧ (∀ j, j < 403 → 0 ≤ (A 91 j).toInt ∧ (A 91 j).toInt ≤ 43) ∧ rd_S A σ (s 33).toInt.toNat (s 39).toInt.toNat ∧ rd_S A (1 - σ) (130 * (1 - σ) + 130) (420 * (1 - σ) + 420)
theorem bt_99_0 : mm_at mt_P 99 0 = some ((0, 1, .aload_n 0, 0, 0, 0, 0), 2, 0, 1, 9, 0, 0, 0) := rfl
theorem bt_99_1 : mm_at mt_P 99 1 = some ((1, 3, .getfield 20, 9, 5, 0, 1222), 2, 0, 1, 9, 0, 0, 0) := rfl
theorem bt_99_4 : mm_at mt_P 99 4 = some ((4, 1, .aload_n 0, 0, 0, 0, 0), 2, 0, 1, 9, 0, 0, 0) := rfl
theorem bt_99_5 : mm_at mt_P 99 5 = some ((5, 3, .getfield 206, 9, 11, 0, 1228), 2, 0, 1, 9, 0, 0, 0) := rfl
theorem bt_99_8 : mm_at mt_P 99 8 = some ((8, 1, .iaload, 0, 0, 0, 0), 2, 0, 1, 9, 0, 0, 0) := rfl
theorem bt_99_9 : mm_at mt_P 99 9 = some ((9, 63, .tableswitch 244 20 31 #[63, 244, 244, 244, 244, 244, 244, 244, 96, 157, 186, 215], 0, 0, 0, 0), 2, 0, 1, 9, 0, 0, 0) := rfl
theorem bt_99_72 : mm_at mt_P 99 72 = some ((72, 1, .aload_n 0, 0, 0, 0, 0), 2, 0, 1, 9, 0, 0, 0) := rfl
theorem bt_99_73 : mm_at mt_P 99 73 = some ((73, 3, .getfield 43, 9, 22, 0, 1239), 2, 0, 1, 9, 0, 0, 0) := rfl
theorem bt_99_76 : mm_at mt_P 99 76 = some ((76, 1, .aload_n 0, 0, 0, 0, 0), 2, 0, 1, 9, 0, 0, 0) := rfl
theorem bt_99_77 : mm_at mt_P 99 77 = some ((77, 3, .getfield 236, 9, 19, 0, 1236), 2, 0, 1, 9, 0, 0, 0) := rfl
theorem bt_99_80 : mm_at mt_P 99 80 = some ((80, 1, .iaload, 0, 0, 0, 0), 2, 0, 1, 9, 0, 0, 0) := rfl
theorem bt_99_81 : mm_at mt_P 99 81 = some ((81, 2, .bipush 6, 0, 0, 0, 0), 2, 0, 1, 9, 0, 0, 0) := rfl
theorem bt_99_83 : mm_at mt_P 99 83 = some ((83, 3, .if_icmp .ne 8, 0, 0, 0, 0), 2, 0, 1, 9, 0, 0, 0) := rfl
theorem bt_99_86 : mm_at mt_P 99 86 = some ((86, 1, .aload_n 0, 0, 0, 0, 0), 2, 0, 1, 9, 0, 0, 0) := rfl
theorem bt_99_87 : mm_at mt_P 99 87 = some ((87, 1, .iconst 2, 0, 0, 0, 0), 2, 0, 1, 9, 0, 0, 0) := rfl
theorem bt_99_88 : mm_at mt_P 99 88 = some ((88, 3, .invokevirtual 218, 27, 0, 0, 1483), 2, 0, 1, 9, 0, 0, 0) := rfl
theorem bt_99_91 : mm_at mt_P 99 91 = some ((91, 1, .aload_n 0, 0, 0, 0, 0), 2, 0, 1, 9, 0, 0, 0) := rfl
theorem bt_99_92 : mm_at mt_P 99 92 = some ((92, 3, .getfield 203, 9, 13, 0, 1230), 2, 0, 1, 9, 0, 0, 0) := rfl
theorem bt_99_95 : mm_at mt_P 99 95 = some ((95, 3, .ifCond .ne 211, 0, 0, 0, 0), 2, 0, 1, 9, 0, 0, 0) := rfl
theorem bt_99_98 : mm_at mt_P 99 98 = some ((98, 1, .aload_n 0, 0, 0, 0, 0), 2, 0, 1, 9, 0, 0, 0) := rfl
theorem bt_99_99 : mm_at mt_P 99 99 = some ((99, 3, .invokevirtual 260, 98, 0, 0, 1487), 2, 0, 1, 9, 0, 0, 0) := rfl
theorem bt_99_102 : mm_at mt_P 99 102 = some ((102, 3, .goto 204, 0, 0, 0, 0), 2, 0, 1, 9, 0, 0, 0) := rfl
theorem bt_99_105 : mm_at mt_P 99 105 = some ((105, 1, .aload_n 0, 0, 0, 0, 0), 2, 0, 1, 9, 0, 0, 0) := rfl
theorem bt_99_106 : mm_at mt_P 99 106 = some ((106, 3, .invokevirtual 224, 37, 0, 0, 1491), 2, 0, 1, 9, 0, 0, 0) := rfl
theorem bt_99_109 : mm_at mt_P 99 109 = some ((109, 1, .aload_n 0, 0, 0, 0, 0), 2, 0, 1, 9, 0, 0, 0) := rfl
theorem bt_99_110 : mm_at mt_P 99 110 = some ((110, 3, .getfield 52, 9, 25, 0, 1242), 2, 0, 1, 9, 0, 0, 0) := rfl
theorem bt_99_113 : mm_at mt_P 99 113 = some ((113, 1, .aload_n 0, 0, 0, 0, 0), 2, 0, 1, 9, 0, 0, 0) := rfl
theorem bt_99_114 : mm_at mt_P 99 114 = some ((114, 3, .getfield 236, 9, 19, 0, 1236), 2, 0, 1, 9, 0, 0, 0) := rfl
theorem bt_99_117 : mm_at mt_P 99 117 = some ((117, 1, .aload_n 0, 0, 0, 0, 0), 2, 0, 1, 9, 0, 0, 0) := rfl
theorem bt_99_118 : mm_at mt_P 99 118 = some ((118, 1, .iconst 1, 0, 0, 0, 0), 2, 0, 1, 9, 0, 0, 0) := rfl
theorem bt_99_119 : mm_at mt_P 99 119 = some ((119, 2, .bipush 99, 0, 0, 0, 0), 2, 0, 1, 9, 0, 0, 0) := rfl
theorem bt_99_121 : mm_at mt_P 99 121 = some ((121, 3, .invokevirtual 263, 10, 0, 0, 1503), 2, 0, 1, 9, 0, 0, 0) := rfl
theorem bt_99_124 : mm_at mt_P 99 124 = some ((124, 1, .iastore, 0, 0, 0, 0), 2, 0, 1, 9, 0, 0, 0) := rfl
theorem bt_99_125 : mm_at mt_P 99 125 = some ((125, 1, .aload_n 0, 0, 0, 0, 0), 2, 0, 1, 9, 0, 0, 0) := rfl
theorem bt_99_126 : mm_at mt_P 99 126 = some ((126, 3, .getfield 55, 9, 26, 0, 1243), 2, 0, 1, 9, 0, 0, 0) := rfl
theorem bt_99_129 : mm_at mt_P 99 129 = some ((129, 1, .aload_n 0, 0, 0, 0, 0), 2, 0, 1, 9, 0, 0, 0) := rfl
theorem bt_99_130 : mm_at mt_P 99 130 = some ((130, 3, .getfield 236, 9, 19, 0, 1236), 2, 0, 1, 9, 0, 0, 0) := rfl
theorem bt_99_133 : mm_at mt_P 99 133 = some ((133, 1, .aload_n 0, 0, 0, 0, 0), 2, 0, 1, 9, 0, 0, 0) := rfl
theorem bt_99_134 : mm_at mt_P 99 134 = some ((134, 1, .iconst 0, 0, 0, 0, 0), 2, 0, 1, 9, 0, 0, 0) := rfl
theorem bt_99_135 : mm_at mt_P 99 135 = some ((135, 3, .sipush 999, 0, 0, 0, 0), 2, 0, 1, 9, 0, 0, 0) := rfl
theorem bt_99_138 : mm_at mt_P 99 138 = some ((138, 3, .invokevirtual 263, 10, 0, 0, 1503), 2, 0, 1, 9, 0, 0, 0) := rfl
theorem bt_99_141 : mm_at mt_P 99 141 = some ((141, 1, .iastore, 0, 0, 0, 0), 2, 0, 1, 9, 0, 0, 0) := rfl
theorem bt_99_142 : mm_at mt_P 99 142 = some ((142, 1, .aload_n 0, 0, 0, 0, 0), 2, 0, 1, 9, 0, 0, 0) := rfl
theorem bt_99_143 : mm_at mt_P 99 143 = some ((143, 3, .getfield 58, 9, 27, 0, 1244), 2, 0, 1, 9, 0, 0, 0) := rfl
theorem bt_99_146 : mm_at mt_P 99 146 = some ((146, 1, .aload_n 0, 0, 0, 0, 0), 2, 0, 1, 9, 0, 0, 0) := rfl
theorem bt_99_147 : mm_at mt_P 99 147 = some ((147, 3, .getfield 236, 9, 19, 0, 1236), 2, 0, 1, 9, 0, 0, 0) := rfl
theorem bt_99_150 : mm_at mt_P 99 150 = some ((150, 1, .aload_n 0, 0, 0, 0, 0), 2, 0, 1, 9, 0, 0, 0) := rfl
theorem bt_99_151 : mm_at mt_P 99 151 = some ((151, 1, .iconst 0, 0, 0, 0, 0), 2, 0, 1, 9, 0, 0, 0) := rfl
theorem bt_99_152 : mm_at mt_P 99 152 = some ((152, 2, .bipush 99, 0, 0, 0, 0), 2, 0, 1, 9, 0, 0, 0) := rfl
theorem bt_99_154 : mm_at mt_P 99 154 = some ((154, 3, .invokevirtual 263, 10, 0, 0, 1503), 2, 0, 1, 9, 0, 0, 0) := rfl
theorem bt_99_157 : mm_at mt_P 99 157 = some ((157, 1, .iastore, 0, 0, 0, 0), 2, 0, 1, 9, 0, 0, 0) := rfl
theorem bt_99_158 : mm_at mt_P 99 158 = some ((158, 1, .aload_n 0, 0, 0, 0, 0), 2, 0, 1, 9, 0, 0, 0) := rfl
theorem bt_99_159 : mm_at mt_P 99 159 = some ((159, 1, .iconst 4, 0, 0, 0, 0), 2, 0, 1, 9, 0, 0, 0) := rfl
theorem bt_99_160 : mm_at mt_P 99 160 = some ((160, 3, .invokevirtual 267, 67, 0, 0, 1495), 2, 0, 1, 9, 0, 0, 0) := rfl
theorem bt_99_163 : mm_at mt_P 99 163 = some ((163, 3, .goto 143, 0, 0, 0, 0), 2, 0, 1, 9, 0, 0, 0) := rfl
theorem bt_99_166 : mm_at mt_P 99 166 = some ((166, 1, .aload_n 0, 0, 0, 0, 0), 2, 0, 1, 9, 0, 0, 0) := rfl
theorem bt_99_167 : mm_at mt_P 99 167 = some ((167, 3, .invokevirtual 224, 37, 0, 0, 1491), 2, 0, 1, 9, 0, 0, 0) := rfl
theorem bt_99_170 : mm_at mt_P 99 170 = some ((170, 1, .aload_n 0, 0, 0, 0, 0), 2, 0, 1, 9, 0, 0, 0) := rfl
theorem bt_99_171 : mm_at mt_P 99 171 = some ((171, 3, .getfield 61, 9, 28, 0, 1245), 2, 0, 1, 9, 0, 0, 0) := rfl
theorem bt_99_174 : mm_at mt_P 99 174 = some ((174, 1, .aload_n 0, 0, 0, 0, 0), 2, 0, 1, 9, 0, 0, 0) := rfl
theorem bt_99_175 : mm_at mt_P 99 175 = some ((175, 3, .getfield 236, 9, 19, 0, 1236), 2, 0, 1, 9, 0, 0, 0) := rfl
theorem bt_99_178 : mm_at mt_P 99 178 = some ((178, 1, .aload_n 0, 0, 0, 0, 0), 2, 0, 1, 9, 0, 0, 0) := rfl
theorem bt_99_179 : mm_at mt_P 99 179 = some ((179, 1, .iconst 1, 0, 0, 0, 0), 2, 0, 1, 9, 0, 0, 0) := rfl
theorem bt_99_180 : mm_at mt_P 99 180 = some ((180, 3, .sipush 999, 0, 0, 0, 0), 2, 0, 1, 9, 0, 0, 0) := rfl
theorem bt_99_183 : mm_at mt_P 99 183 = some ((183, 3, .invokevirtual 263, 10, 0, 0, 1503), 2, 0, 1, 9, 0, 0, 0) := rfl
theorem bt_99_186 : mm_at mt_P 99 186 = some ((186, 1, .iastore, 0, 0, 0, 0), 2, 0, 1, 9, 0, 0, 0) := rfl
theorem bt_99_187 : mm_at mt_P 99 187 = some ((187, 1, .aload_n 0, 0, 0, 0, 0), 2, 0, 1, 9, 0, 0, 0) := rfl
theorem bt_99_188 : mm_at mt_P 99 188 = some ((188, 1, .iconst 4, 0, 0, 0, 0), 2, 0, 1, 9, 0, 0, 0) := rfl
theorem bt_99_189 : mm_at mt_P 99 189 = some ((189, 3, .invokevirtual 267, 67, 0, 0, 1495), 2, 0, 1, 9, 0, 0, 0) := rfl
theorem bt_99_192 : mm_at mt_P 99 192 = some ((192, 3, .goto 114, 0, 0, 0, 0), 2, 0, 1, 9, 0, 0, 0) := rfl
theorem bt_99_195 : mm_at mt_P 99 195 = some ((195, 1, .aload_n 0, 0, 0, 0, 0), 2, 0, 1, 9, 0, 0, 0) := rfl
theorem bt_99_196 : mm_at mt_P 99 196 = some ((196, 3, .invokevirtual 224, 37, 0, 0, 1491), 2, 0, 1, 9, 0, 0, 0) := rfl
theorem bt_99_199 : mm_at mt_P 99 199 = some ((199, 1, .aload_n 0, 0, 0, 0, 0), 2, 0, 1, 9, 0, 0, 0) := rfl
theorem bt_99_200 : mm_at mt_P 99 200 = some ((200, 3, .getfield 64, 9, 29, 0, 1246), 2, 0, 1, 9, 0, 0, 0) := rfl
theorem bt_99_203 : mm_at mt_P 99 203 = some ((203, 1, .aload_n 0, 0, 0, 0, 0), 2, 0, 1, 9, 0, 0, 0) := rfl
theorem bt_99_204 : mm_at mt_P 99 204 = some ((204, 3, .getfield 236, 9, 19, 0, 1236), 2, 0, 1, 9, 0, 0, 0) := rfl
theorem bt_99_207 : mm_at mt_P 99 207 = some ((207, 1, .aload_n 0, 0, 0, 0, 0), 2, 0, 1, 9, 0, 0, 0) := rfl
theorem bt_99_208 : mm_at mt_P 99 208 = some ((208, 1, .iconst 0, 0, 0, 0, 0), 2, 0, 1, 9, 0, 0, 0) := rfl
theorem bt_99_209 : mm_at mt_P 99 209 = some ((209, 3, .sipush 9999, 0, 0, 0, 0), 2, 0, 1, 9, 0, 0, 0) := rfl
theorem bt_99_212 : mm_at mt_P 99 212 = some ((212, 3, .invokevirtual 263, 10, 0, 0, 1503), 2, 0, 1, 9, 0, 0, 0) := rfl
theorem bt_99_215 : mm_at mt_P 99 215 = some ((215, 1, .iastore, 0, 0, 0, 0), 2, 0, 1, 9, 0, 0, 0) := rfl
theorem bt_99_216 : mm_at mt_P 99 216 = some ((216, 1, .aload_n 0, 0, 0, 0, 0), 2, 0, 1, 9, 0, 0, 0) := rfl
theorem bt_99_217 : mm_at mt_P 99 217 = some ((217, 1, .iconst 4, 0, 0, 0, 0), 2, 0, 1, 9, 0, 0, 0) := rfl
theorem bt_99_218 : mm_at mt_P 99 218 = some ((218, 3, .invokevirtual 267, 67, 0, 0, 1495), 2, 0, 1, 9, 0, 0, 0) := rfl
theorem bt_99_221 : mm_at mt_P 99 221 = some ((221, 3, .goto 85, 0, 0, 0, 0), 2, 0, 1, 9, 0, 0, 0) := rfl
theorem bt_99_224 : mm_at mt_P 99 224 = some ((224, 1, .aload_n 0, 0, 0, 0, 0), 2, 0, 1, 9, 0, 0, 0) := rfl
theorem bt_99_225 : mm_at mt_P 99 225 = some ((225, 3, .invokevirtual 224, 37, 0, 0, 1491), 2, 0, 1, 9, 0, 0, 0) := rfl
theorem bt_99_228 : mm_at mt_P 99 228 = some ((228, 1, .aload_n 0, 0, 0, 0, 0), 2, 0, 1, 9, 0, 0, 0) := rfl
theorem bt_99_229 : mm_at mt_P 99 229 = some ((229, 3, .getfield 67, 9, 30, 0, 1247), 2, 0, 1, 9, 0, 0, 0) := rfl
theorem bt_99_232 : mm_at mt_P 99 232 = some ((232, 1, .aload_n 0, 0, 0, 0, 0), 2, 0, 1, 9, 0, 0, 0) := rfl
theorem bt_99_233 : mm_at mt_P 99 233 = some ((233, 3, .getfield 236, 9, 19, 0, 1236), 2, 0, 1, 9, 0, 0, 0) := rfl
theorem bt_99_236 : mm_at mt_P 99 236 = some ((236, 1, .aload_n 0, 0, 0, 0, 0), 2, 0, 1, 9, 0, 0, 0) := rfl
theorem bt_99_237 : mm_at mt_P 99 237 = some ((237, 1, .iconst 0, 0, 0, 0, 0), 2, 0, 1, 9, 0, 0, 0) := rfl
theorem bt_99_238 : mm_at mt_P 99 238 = some ((238, 3, .sipush 9999, 0, 0, 0, 0), 2, 0, 1, 9, 0, 0, 0) := rfl
theorem bt_99_241 : mm_at mt_P 99 241 = some ((241, 3, .invokevirtual 263, 10, 0, 0, 1503), 2, 0, 1, 9, 0, 0, 0) := rfl
theorem bt_99_244 : mm_at mt_P 99 244 = some ((244, 1, .iastore, 0, 0, 0, 0), 2, 0, 1, 9, 0, 0, 0) := rfl
theorem bt_99_245 : mm_at mt_P 99 245 = some ((245, 1, .aload_n 0, 0, 0, 0, 0), 2, 0, 1, 9, 0, 0, 0) := rfl
theorem bt_99_246 : mm_at mt_P 99 246 = some ((246, 1, .iconst 4, 0, 0, 0, 0), 2, 0, 1, 9, 0, 0, 0) := rfl
theorem bt_99_247 : mm_at mt_P 99 247 = some ((247, 3, .invokevirtual 267, 67, 0, 0, 1495), 2, 0, 1, 9, 0, 0, 0) := rfl
theorem bt_99_250 : mm_at mt_P 99 250 = some ((250, 3, .goto 56, 0, 0, 0, 0), 2, 0, 1, 9, 0, 0, 0) := rfl
theorem bt_99_253 : mm_at mt_P 99 253 = some ((253, 1, .aload_n 0, 0, 0, 0, 0), 2, 0, 1, 9, 0, 0, 0) := rfl
theorem bt_99_254 : mm_at mt_P 99 254 = some ((254, 3, .getfield 20, 9, 5, 0, 1222), 2, 0, 1, 9, 0, 0, 0) := rfl
theorem bt_99_257 : mm_at mt_P 99 257 = some ((257, 1, .aload_n 0, 0, 0, 0, 0), 2, 0, 1, 9, 0, 0, 0) := rfl
theorem bt_99_258 : mm_at mt_P 99 258 = some ((258, 3, .getfield 206, 9, 11, 0, 1228), 2, 0, 1, 9, 0, 0, 0) := rfl
theorem bt_99_261 : mm_at mt_P 99 261 = some ((261, 1, .iaload, 0, 0, 0, 0), 2, 0, 1, 9, 0, 0, 0) := rfl
theorem bt_99_262 : mm_at mt_P 99 262 = some ((262, 2, .bipush 21, 0, 0, 0, 0), 2, 0, 1, 9, 0, 0, 0) := rfl
theorem bt_99_264 : mm_at mt_P 99 264 = some ((264, 1, .isub, 0, 0, 0, 0), 2, 0, 1, 9, 0, 0, 0) := rfl
theorem bt_99_265 : mm_at mt_P 99 265 = some ((265, 1, .istore_n 1, 0, 0, 0, 0), 2, 0, 1, 9, 0, 0, 0) := rfl
theorem bt_99_266 : mm_at mt_P 99 266 = some ((266, 1, .iload_n 1, 0, 0, 0, 0), 2, 0, 1, 9, 0, 0, 0) := rfl
theorem bt_99_267 : mm_at mt_P 99 267 = some ((267, 3, .ifCond .lt 17, 0, 0, 0, 0), 2, 0, 1, 9, 0, 0, 0) := rfl
theorem bt_99_270 : mm_at mt_P 99 270 = some ((270, 1, .aload_n 0, 0, 0, 0, 0), 2, 0, 1, 9, 0, 0, 0) := rfl
theorem bt_99_271 : mm_at mt_P 99 271 = some ((271, 3, .getfield 20, 9, 5, 0, 1222), 2, 0, 1, 9, 0, 0, 0) := rfl
theorem bt_99_274 : mm_at mt_P 99 274 = some ((274, 1, .aload_n 0, 0, 0, 0, 0), 2, 0, 1, 9, 0, 0, 0) := rfl
theorem bt_99_275 : mm_at mt_P 99 275 = some ((275, 3, .getfield 206, 9, 11, 0, 1228), 2, 0, 1, 9, 0, 0, 0) := rfl
theorem bt_99_278 : mm_at mt_P 99 278 = some ((278, 1, .iaload, 0, 0, 0, 0), 2, 0, 1, 9, 0, 0, 0) := rfl
theorem bt_99_279 : mm_at mt_P 99 279 = some ((279, 2, .bipush 27, 0, 0, 0, 0), 2, 0, 1, 9, 0, 0, 0) := rfl
theorem bt_99_281 : mm_at mt_P 99 281 = some ((281, 3, .if_icmp .le 8, 0, 0, 0, 0), 2, 0, 1, 9, 0, 0, 0) := rfl
theorem bt_99_284 : mm_at mt_P 99 284 = some ((284, 1, .aload_n 0, 0, 0, 0, 0), 2, 0, 1, 9, 0, 0, 0) := rfl
theorem bt_99_285 : mm_at mt_P 99 285 = some ((285, 1, .iconst 1, 0, 0, 0, 0), 2, 0, 1, 9, 0, 0, 0) := rfl
theorem bt_99_286 : mm_at mt_P 99 286 = some ((286, 3, .invokevirtual 218, 27, 0, 0, 1483), 2, 0, 1, 9, 0, 0, 0) := rfl
theorem bt_99_289 : mm_at mt_P 99 289 = some ((289, 1, .aload_n 0, 0, 0, 0, 0), 2, 0, 1, 9, 0, 0, 0) := rfl
theorem bt_99_290 : mm_at mt_P 99 290 = some ((290, 3, .getfield 203, 9, 13, 0, 1230), 2, 0, 1, 9, 0, 0, 0) := rfl
theorem bt_99_293 : mm_at mt_P 99 293 = some ((293, 3, .ifCond .le 4, 0, 0, 0, 0), 2, 0, 1, 9, 0, 0, 0) := rfl
theorem bt_99_296 : mm_at mt_P 99 296 = some ((296, 1, .return_, 0, 0, 0, 0), 2, 0, 1, 9, 0, 0, 0) := rfl
theorem bt_99_297 : mm_at mt_P 99 297 = some ((297, 1, .aload_n 0, 0, 0, 0, 0), 2, 0, 1, 9, 0, 0, 0) := rfl
theorem bt_99_298 : mm_at mt_P 99 298 = some ((298, 3, .invokevirtual 224, 37, 0, 0, 1491), 2, 0, 1, 9, 0, 0, 0) := rfl
theorem bt_99_301 : mm_at mt_P 99 301 = some ((301, 1, .aload_n 0, 0, 0, 0, 0), 2, 0, 1, 9, 0, 0, 0) := rfl
theorem bt_99_302 : mm_at mt_P 99 302 = some ((302, 1, .iload_n 1, 0, 0, 0, 0), 2, 0, 1, 9, 0, 0, 0) := rfl
theorem bt_99_303 : mm_at mt_P 99 303 = some ((303, 3, .invokevirtual 270, 97, 0, 0, 1507), 2, 0, 1, 9, 0, 0, 0) := rfl
theorem bt_99_306 : mm_at mt_P 99 306 = some ((306, 1, .return_, 0, 0, 0, 0), 2, 0, 1, 9, 0, 0, 0) := rfl
section BX
variable {E : mm_E} {FIN : mm_C → Prop} {h0 h : mm_H} {s : Nat → Int32} {A : Nat → Nat → Int32} {L : Nat → Nat → Int64} {gs : List mm_F}
set_option maxHeartbeats 40000000 in
theorem sp_99 {σ : Nat} (hP : bh_P bx_T E h0 h s A L) (hd : gs.length + 7 ≤ 999) (hQ : rd_Q σ s A) (hF : (s 13).toInt = 0) (kk : ∀ (h' : mm_H) (s' : Nat → Int32) (A' : Nat → Nat → Int32) (L' : Nat → Nat → Int64), bh_P bx_T E h0 h' s' A' L' → (∀ j, j ≠ 11 → j ≠ 12 → j ≠ 13 → j ≠ 14 → j ≠ 15 → j ≠ 16 → j ≠ 20 → j ≠ 33 → j ≠ 39 → j ≠ 43 → s' j = s j) → rd_Q σ s' A' → ((s' 13).toInt = 0 → (s 11).toInt + 1 ≤ (s' 11).toInt) → bh_G E FIN (mm_back none gs h')) : bh_G E FIN ((99, 0, [(0, .ref (E.1 + 88))], [], 0, 0) :: gs, h, none) := by
  obtain ⟨⟨qσ, q19, qT0, qT4, qF, qO0, qO7, qO, qC0, qC1, qC, qB0, qB1, qB, qN0, qN6, q97, q97a, q97b⟩, q91, qS, qS2⟩ := hQ
  have h9 := q91 (s 11).toInt.toNat (by omega)
  have q19n : (s 19).toInt.toNat = σ := by omega
  have q97n : (A 97 (s 19).toInt.toNat).toInt = (s 20).toInt := by
    rw [q19n]
    exact q97
  refine bh_ld (pc' := 1) bt_99_0 rfl rfl (fun _ _ _ => rfl) rfl rfl ?_
  refine bh_gr (pc' := 4) (c := 91) bt_99_1 rfl rfl (fun _ _ _ => rfl) hP bx_r5 ?_
  refine bh_ld (pc' := 5) bt_99_4 rfl rfl (fun _ _ _ => rfl) rfl rfl ?_
  refine bh_gi (pc' := 8) bt_99_5 rfl rfl (fun _ _ _ => rfl) hP bx_i11 rfl ?_
  refine bh_ia (pc' := 9) bt_99_8 rfl rfl (fun _ _ _ => rfl) hP bx_a91 (Or.inl rfl) (by omega) (by omega) ?_
  by_cases k2395 : ((A 91 ((s 11)).toInt.toNat)).toInt = 20
  · refine bh_sw (pc' := 72) (off := 63) bt_99_9 (by rw [k2395]; rfl) rfl ?_
    refine bh_ld (pc' := 73) bt_99_72 rfl rfl (fun _ _ _ => rfl) rfl rfl ?_
    refine bh_gr (pc' := 76) (c := 97) bt_99_73 rfl rfl (fun _ _ _ => rfl) hP bx_r22 ?_
    refine bh_ld (pc' := 77) bt_99_76 rfl rfl (fun _ _ _ => rfl) rfl rfl ?_
    refine bh_gi (pc' := 80) bt_99_77 rfl rfl (fun _ _ _ => rfl) hP bx_i19 rfl ?_
    refine bh_ia (pc' := 81) bt_99_80 rfl rfl (fun _ _ _ => rfl) hP bx_a97 (Or.inl rfl) (by omega) (by omega) ?_
    refine bh_c (pc' := 83) (n := 6) bt_99_81 rfl rfl (fun _ _ _ => rfl) (by decide) (fun c2396 e2397 => ?_)
    refine bh_ic (pc' := 86) (pt := 91) bt_99_83 rfl rfl (fun k2398 => ?_) (fun k2398 => ?_)
    · replace k2398 : ((A 97 ((s 19)).toInt.toNat)).toInt ≠ (c2396).toInt := k2398
      refine bh_ld (pc' := 92) bt_99_91 rfl rfl (fun _ _ _ => rfl) rfl rfl ?_
      refine bh_gi (pc' := 95) bt_99_92 rfl rfl (fun _ _ _ => rfl) hP bx_i13 rfl ?_
      refine bh_i0 (pc' := 98) (pt := 306) bt_99_95 rfl rfl (fun k2399 => ?_) (fun k2399 => ?_)
      · replace k2399 : ((s 13)).toInt ≠ 0 := k2399
        refine bh_rv bt_99_306 ?_
        have c9 : ∀ k j, (k = 91 ∨ k = 97 ∨ 106 ≤ k) → A k j = A k j := fun k j u => rfl
        have d1 := congrArg Int32.toInt (c9 97 σ (by omega))
        have d2 := congrArg Int32.toInt (c9 97 (1 - σ) (by omega))
        exact kk _ _ _ _ hP (fun j j11 j12 j13 j14 j15 j16 j20 j33 j39 j43 => rfl) ⟨⟨qσ, by omega, by omega, by omega, by omega, by omega, by omega, by omega, by omega, by omega, by omega, by omega, by omega, by omega, by omega, by omega, by omega, by omega, by omega⟩, fun j hj => by rw [c9 91 j (by omega)]; exact q91 j hj, rd_S_congr (A := A) (by omega) (by omega) (fun j g1 g2 => ⟨c9 113 j (by omega), c9 114 j (by omega)⟩) (fun b g1 g2 k g3 g4 => c9 k b (by omega)) (fun k g1 g2 => ⟨c9 106 k (by omega), c9 107 k (by omega)⟩) qS, rd_S_congr (A := A) (by omega) (by omega) (fun j g1 g2 => ⟨c9 113 j (by omega), c9 114 j (by omega)⟩) (fun b g1 g2 k g3 g4 => c9 k b (by omega)) (fun k g1 g2 => ⟨c9 106 k (by omega), c9 107 k (by omega)⟩) qS2⟩ (by omega)
      · replace k2399 : ¬ (((s 13)).toInt ≠ 0) := k2399
        refine bh_ld (pc' := 99) bt_99_98 rfl rfl (fun _ _ _ => rfl) rfl rfl ?_
        refine bh_cv (pc' := 102) (st := []) (args := []) bt_99_99 rfl rfl (by decide) hP (by omega) rfl (Nat.le_of_ble_eq_true rfl) (Nat.le_of_ble_eq_true rfl) ?_
        refine sp_98 hP (by simp only [List.length_cons]; omega) (by omega) (by omega) (by omega) (by omega) (by omega) (by omega) (by omega) (by rw [q19n]; exact q97) (fun h2400 s2401 A2402 L2403 hP2404 y2405 => ?_)
        obtain ⟨f2406, a2407, w2408, w2409, w2410, w2411, w2412, w2413, w2414, w2415⟩ := y2405
        show bh_G E FIN ((99, 102, _, [], 0, 0) :: gs, _, none)
        refine bh_go (pc' := 306) bt_99_102 rfl ?_
        refine bh_rv bt_99_306 ?_
        have z12 := congrArg Int32.toInt (f2406 12 (by decide) (by decide) (by decide) (by decide) (by decide) (by decide))
        have z19 := congrArg Int32.toInt (f2406 19 (by decide) (by decide) (by decide) (by decide) (by decide) (by decide))
        have z33 := congrArg Int32.toInt (f2406 33 (by decide) (by decide) (by decide) (by decide) (by decide) (by decide))
        have z39 := congrArg Int32.toInt (f2406 39 (by decide) (by decide) (by decide) (by decide) (by decide) (by decide))
        have c9 : ∀ k j, (k = 91 ∨ 106 ≤ k) → A2402 k j = A k j := fun k j u => (a2407 k j (by omega))
        have d2 := congrArg Int32.toInt (w2408 (1 - σ) (by omega))
        have d1 := w2414
        rw [q19n] at d1
        exact kk _ _ _ _ hP2404 (fun j j11 j12 j13 j14 j15 j16 j20 j33 j39 j43 => (f2406 j j11 j13 j14 j15 j16 j20)) ⟨⟨qσ, by omega, by omega, by omega, by omega, by omega, by omega, by omega, by omega, by omega, by omega, by omega, by omega, by omega, by omega, by omega, by omega, by omega, by omega⟩, fun j hj => by rw [c9 91 j (by omega)]; exact q91 j hj, rd_S_congr (A := A) (by omega) (by omega) (fun j g1 g2 => ⟨c9 113 j (by omega), c9 114 j (by omega)⟩) (fun b g1 g2 k g3 g4 => c9 k b (by omega)) (fun k g1 g2 => ⟨c9 106 k (by omega), c9 107 k (by omega)⟩) qS, rd_S_congr (A := A) (by omega) (by omega) (fun j g1 g2 => ⟨c9 113 j (by omega), c9 114 j (by omega)⟩) (fun b g1 g2 k g3 g4 => c9 k b (by omega)) (fun k g1 g2 => ⟨c9 106 k (by omega), c9 107 k (by omega)⟩) qS2⟩ (by omega)
    · replace k2398 : ¬ (((A 97 ((s 19)).toInt.toNat)).toInt ≠ (c2396).toInt) := k2398
      refine bh_ld (pc' := 87) bt_99_86 rfl rfl (fun _ _ _ => rfl) rfl rfl ?_
      refine bh_c (pc' := 88) (n := 2) bt_99_87 rfl rfl (fun _ _ _ => rfl) (by decide) (fun c2416 e2417 => ?_)
      refine bh_cv (pc' := 91) (st := []) (args := [.int c2416]) bt_99_88 rfl rfl (by decide) hP (by omega) rfl (Nat.le_of_ble_eq_true rfl) (Nat.le_of_ble_eq_true rfl) ?_
      refine sp_27 (k := c2416) hP rfl rfl (by omega) (by omega) (fun h2418 s2419 hP2420 f2421 p2422 => ?_)
      show bh_G E FIN ((99, 91, _, [], 0, 0) :: gs, _, none)
      refine bh_ld (pc' := 92) bt_99_91 rfl rfl (fun _ _ _ => rfl) rfl rfl ?_
      refine bh_gi (pc' := 95) bt_99_92 rfl rfl (fun _ _ _ => rfl) hP2420 bx_i13 rfl ?_
      refine bh_i0 (pc' := 98) (pt := 306) bt_99_95 rfl rfl (fun k2423 => ?_) (fun k2423 => ?_)
      · replace k2423 : ((s2419 13)).toInt ≠ 0 := k2423
        refine bh_rv bt_99_306 ?_
        have z11 := congrArg Int32.toInt (f2421 11 (by decide) (by decide))
        have z12 := congrArg Int32.toInt (f2421 12 (by decide) (by decide))
        have z19 := congrArg Int32.toInt (f2421 19 (by decide) (by decide))
        have z20 := congrArg Int32.toInt (f2421 20 (by decide) (by decide))
        have z33 := congrArg Int32.toInt (f2421 33 (by decide) (by decide))
        have z39 := congrArg Int32.toInt (f2421 39 (by decide) (by decide))
        have c9 : ∀ k j, (k = 91 ∨ k = 97 ∨ 106 ≤ k) → A k j = A k j := fun k j u => rfl
        have d1 := congrArg Int32.toInt (c9 97 σ (by omega))
        have d2 := congrArg Int32.toInt (c9 97 (1 - σ) (by omega))
        exact kk _ _ _ _ hP2420 (fun j j11 j12 j13 j14 j15 j16 j20 j33 j39 j43 => (f2421 j j13 j14)) ⟨⟨qσ, by omega, by omega, by omega, by omega, by omega, by omega, by omega, by omega, by omega, by omega, by omega, by omega, by omega, by omega, by omega, by omega, by omega, by omega⟩, fun j hj => by rw [c9 91 j (by omega)]; exact q91 j hj, rd_S_congr (A := A) (by omega) (by omega) (fun j g1 g2 => ⟨c9 113 j (by omega), c9 114 j (by omega)⟩) (fun b g1 g2 k g3 g4 => c9 k b (by omega)) (fun k g1 g2 => ⟨c9 106 k (by omega), c9 107 k (by omega)⟩) qS, rd_S_congr (A := A) (by omega) (by omega) (fun j g1 g2 => ⟨c9 113 j (by omega), c9 114 j (by omega)⟩) (fun b g1 g2 k g3 g4 => c9 k b (by omega)) (fun k g1 g2 => ⟨c9 106 k (by omega), c9 107 k (by omega)⟩) qS2⟩ (by omega)
      · replace k2423 : ¬ (((s2419 13)).toInt ≠ 0) := k2423
        refine bh_ld (pc' := 99) bt_99_98 rfl rfl (fun _ _ _ => rfl) rfl rfl ?_
        refine bh_cv (pc' := 102) (st := []) (args := []) bt_99_99 rfl rfl (by decide) hP2420 (by omega) rfl (Nat.le_of_ble_eq_true rfl) (Nat.le_of_ble_eq_true rfl) ?_
        have z2424 := congrArg Int32.toInt (f2421 11 (by decide) (by decide))
        have z2425 := congrArg Int32.toInt (f2421 19 (by decide) (by decide))
        have z2426 := congrArg Int32.toInt (f2421 20 (by decide) (by decide))
        refine sp_98 hP2420 (by simp only [List.length_cons]; omega) (by omega) (by omega) (by omega) (by omega) (by omega) (by omega) (by omega) (by rw [(f2421 19 (by decide) (by decide)), q19n, (f2421 20 (by decide) (by decide))]; exact q97) (fun h2427 s2428 A2429 L2430 hP2431 y2432 => ?_)
        obtain ⟨f2433, a2434, w2435, w2436, w2437, w2438, w2439, w2440, w2441, w2442⟩ := y2432
        show bh_G E FIN ((99, 102, _, [], 0, 0) :: gs, _, none)
        refine bh_go (pc' := 306) bt_99_102 rfl ?_
        refine bh_rv bt_99_306 ?_
        have z12 := congrArg Int32.toInt ((f2433 12 (by decide) (by decide) (by decide) (by decide) (by decide) (by decide)).trans (f2421 12 (by decide) (by decide)))
        have z19 := congrArg Int32.toInt ((f2433 19 (by decide) (by decide) (by decide) (by decide) (by decide) (by decide)).trans (f2421 19 (by decide) (by decide)))
        have z33 := congrArg Int32.toInt ((f2433 33 (by decide) (by decide) (by decide) (by decide) (by decide) (by decide)).trans (f2421 33 (by decide) (by decide)))
        have z39 := congrArg Int32.toInt ((f2433 39 (by decide) (by decide) (by decide) (by decide) (by decide) (by decide)).trans (f2421 39 (by decide) (by decide)))
        have c9 : ∀ k j, (k = 91 ∨ 106 ≤ k) → A2429 k j = A k j := fun k j u => (a2434 k j (by omega))
        have d2 := congrArg Int32.toInt (w2435 (1 - σ) (by omega))
        have d1 := w2441
        rw [(f2421 19 (by decide) (by decide)), q19n] at d1
        exact kk _ _ _ _ hP2431 (fun j j11 j12 j13 j14 j15 j16 j20 j33 j39 j43 => ((f2433 j j11 j13 j14 j15 j16 j20).trans (f2421 j j13 j14))) ⟨⟨qσ, by omega, by omega, by omega, by omega, by omega, by omega, by omega, by omega, by omega, by omega, by omega, by omega, by omega, by omega, by omega, by omega, by omega, by omega⟩, fun j hj => by rw [c9 91 j (by omega)]; exact q91 j hj, rd_S_congr (A := A) (by omega) (by omega) (fun j g1 g2 => ⟨c9 113 j (by omega), c9 114 j (by omega)⟩) (fun b g1 g2 k g3 g4 => c9 k b (by omega)) (fun k g1 g2 => ⟨c9 106 k (by omega), c9 107 k (by omega)⟩) qS, rd_S_congr (A := A) (by omega) (by omega) (fun j g1 g2 => ⟨c9 113 j (by omega), c9 114 j (by omega)⟩) (fun b g1 g2 k g3 g4 => c9 k b (by omega)) (fun k g1 g2 => ⟨c9 106 k (by omega), c9 107 k (by omega)⟩) qS2⟩ (by omega)
  by_cases k2443 : ((A 91 ((s 11)).toInt.toNat)).toInt = 28
  · refine bh_sw (pc' := 105) (off := 96) bt_99_9 (by rw [k2443]; rfl) rfl ?_
    refine bh_ld (pc' := 106) bt_99_105 rfl rfl (fun _ _ _ => rfl) rfl rfl ?_
    refine bh_cv (pc' := 109) (st := []) (args := []) bt_99_106 rfl rfl (by decide) hP (by omega) rfl (Nat.le_of_ble_eq_true rfl) (Nat.le_of_ble_eq_true rfl) ?_
    refine sp_37 hP (by simp only [List.length_cons]; omega) rfl rfl (by omega) (by omega) (by omega) (fun h2444 s2445 hP2446 f2447 p2448 => ?_)
    show bh_G E FIN ((99, 109, _, [], 0, 0) :: gs, _, none)
    refine bh_ld (pc' := 110) bt_99_109 rfl rfl (fun _ _ _ => rfl) rfl rfl ?_
    refine bh_gr (pc' := 113) (c := 100) bt_99_110 rfl rfl (fun _ _ _ => rfl) hP2446 bx_r25 ?_
    refine bh_ld (pc' := 114) bt_99_113 rfl rfl (fun _ _ _ => rfl) rfl rfl ?_
    refine bh_gi (pc' := 117) bt_99_114 rfl rfl (fun _ _ _ => rfl) hP2446 bx_i19 (f2447 19 (by decide) (by decide) (by decide)) ?_
    refine bh_ld (pc' := 118) bt_99_117 rfl rfl (fun _ _ _ => rfl) rfl rfl ?_
    refine bh_c (pc' := 119) (n := 1) bt_99_118 rfl rfl (fun _ _ _ => rfl) (by decide) (fun c2449 e2450 => ?_)
    refine bh_c (pc' := 121) (n := 99) bt_99_119 rfl rfl (fun _ _ _ => rfl) (by decide) (fun c2451 e2452 => ?_)
    refine bh_cv (pc' := 124) (st := [.int (s 19), .ref (E.1 + 100)]) (args := [.int c2451, .int c2449]) bt_99_121 rfl rfl (by decide) hP2446 (by omega) rfl (Nat.le_of_ble_eq_true rfl) (Nat.le_of_ble_eq_true rfl) ?_
    refine sp_10 (x := c2449) (y := c2451) hP2446 (by simp only [List.length_cons]; omega) rfl rfl (by omega) (by omega) (by omega) (fun h2453 s2454 r2457 hP2455 f2456 p2458 p2459 p2460 p2461 => ?_)
    show bh_G E FIN ((99, 124, _, [.int r2457, .int (s 19), .ref (E.1 + 100)], 0, 0) :: gs, _, none)
    refine bh_ias (pc' := 125) bt_99_124 rfl rfl (fun _ _ _ => rfl) hP2455 bx_a100 (Or.inl rfl) (by omega) (by omega) (fun h2462 hP2463 => ?_)
    refine bh_ld (pc' := 126) bt_99_125 rfl rfl (fun _ _ _ => rfl) rfl rfl ?_
    refine bh_gr (pc' := 129) (c := 101) bt_99_126 rfl rfl (fun _ _ _ => rfl) hP2463 bx_r26 ?_
    refine bh_ld (pc' := 130) bt_99_129 rfl rfl (fun _ _ _ => rfl) rfl rfl ?_
    refine bh_gi (pc' := 133) bt_99_130 rfl rfl (fun _ _ _ => rfl) hP2463 bx_i19 ((f2456 19 (by decide) (by decide) (by decide) (by decide) (by decide)).trans (f2447 19 (by decide) (by decide) (by decide))) ?_
    refine bh_ld (pc' := 134) bt_99_133 rfl rfl (fun _ _ _ => rfl) rfl rfl ?_
    refine bh_c (pc' := 135) (n := 0) bt_99_134 rfl rfl (fun _ _ _ => rfl) (by decide) (fun c2464 e2465 => ?_)
    refine bh_c (pc' := 138) (n := 999) bt_99_135 rfl rfl (fun _ _ _ => rfl) (by decide) (fun c2466 e2467 => ?_)
    refine bh_cv (pc' := 141) (st := [.int (s 19), .ref (E.1 + 101)]) (args := [.int c2466, .int c2464]) bt_99_138 rfl rfl (by decide) hP2463 (by omega) rfl (Nat.le_of_ble_eq_true rfl) (Nat.le_of_ble_eq_true rfl) ?_
    refine sp_10 (x := c2464) (y := c2466) hP2463 (by simp only [List.length_cons]; omega) rfl rfl (by omega) (by omega) (by omega) (fun h2468 s2469 r2472 hP2470 f2471 p2473 p2474 p2475 p2476 => ?_)
    show bh_G E FIN ((99, 141, _, [.int r2472, .int (s 19), .ref (E.1 + 101)], 0, 0) :: gs, _, none)
    refine bh_ias (pc' := 142) bt_99_141 rfl rfl (fun _ _ _ => rfl) hP2470 bx_a101 (Or.inl rfl) (by omega) (by omega) (fun h2477 hP2478 => ?_)
    refine bh_ld (pc' := 143) bt_99_142 rfl rfl (fun _ _ _ => rfl) rfl rfl ?_
    refine bh_gr (pc' := 146) (c := 102) bt_99_143 rfl rfl (fun _ _ _ => rfl) hP2478 bx_r27 ?_
    refine bh_ld (pc' := 147) bt_99_146 rfl rfl (fun _ _ _ => rfl) rfl rfl ?_
    refine bh_gi (pc' := 150) bt_99_147 rfl rfl (fun _ _ _ => rfl) hP2478 bx_i19 ((f2471 19 (by decide) (by decide) (by decide) (by decide) (by decide)).trans ((f2456 19 (by decide) (by decide) (by decide) (by decide) (by decide)).trans (f2447 19 (by decide) (by decide) (by decide)))) ?_
    refine bh_ld (pc' := 151) bt_99_150 rfl rfl (fun _ _ _ => rfl) rfl rfl ?_
    refine bh_c (pc' := 152) (n := 0) bt_99_151 rfl rfl (fun _ _ _ => rfl) (by decide) (fun c2479 e2480 => ?_)
    refine bh_c (pc' := 154) (n := 99) bt_99_152 rfl rfl (fun _ _ _ => rfl) (by decide) (fun c2481 e2482 => ?_)
    refine bh_cv (pc' := 157) (st := [.int (s 19), .ref (E.1 + 102)]) (args := [.int c2481, .int c2479]) bt_99_154 rfl rfl (by decide) hP2478 (by omega) rfl (Nat.le_of_ble_eq_true rfl) (Nat.le_of_ble_eq_true rfl) ?_
    refine sp_10 (x := c2479) (y := c2481) hP2478 (by simp only [List.length_cons]; omega) rfl rfl (by omega) (by omega) (by omega) (fun h2483 s2484 r2487 hP2485 f2486 p2488 p2489 p2490 p2491 => ?_)
    show bh_G E FIN ((99, 157, _, [.int r2487, .int (s 19), .ref (E.1 + 102)], 0, 0) :: gs, _, none)
    refine bh_ias (pc' := 158) bt_99_157 rfl rfl (fun _ _ _ => rfl) hP2485 bx_a102 (Or.inl rfl) (by omega) (by omega) (fun h2492 hP2493 => ?_)
    refine bh_ld (pc' := 159) bt_99_158 rfl rfl (fun _ _ _ => rfl) rfl rfl ?_
    refine bh_c (pc' := 160) (n := 4) bt_99_159 rfl rfl (fun _ _ _ => rfl) (by decide) (fun c2494 e2495 => ?_)
    refine bh_cv (pc' := 163) (st := []) (args := [.int c2494]) bt_99_160 rfl rfl (by decide) hP2493 (by omega) rfl (Nat.le_of_ble_eq_true rfl) (Nat.le_of_ble_eq_true rfl) ?_
    refine sp_67 (k := c2494) hP2493 (by simp only [List.length_cons]; omega) rfl rfl (by omega) (by omega) (by omega) (fun h2496 s2497 hP2498 f2499 p2500 => ?_)
    show bh_G E FIN ((99, 163, _, [], 0, 0) :: gs, _, none)
    refine bh_go (pc' := 306) bt_99_163 rfl ?_
    refine bh_rv bt_99_306 ?_
    have z12 := congrArg Int32.toInt ((f2499 12 (by decide) (by decide) (by decide)).trans ((f2486 12 (by decide) (by decide) (by decide) (by decide) (by decide)).trans ((f2471 12 (by decide) (by decide) (by decide) (by decide) (by decide)).trans ((f2456 12 (by decide) (by decide) (by decide) (by decide) (by decide)).trans (f2447 12 (by decide) (by decide) (by decide))))))
    have z19 := congrArg Int32.toInt ((f2499 19 (by decide) (by decide) (by decide)).trans ((f2486 19 (by decide) (by decide) (by decide) (by decide) (by decide)).trans ((f2471 19 (by decide) (by decide) (by decide) (by decide) (by decide)).trans ((f2456 19 (by decide) (by decide) (by decide) (by decide) (by decide)).trans (f2447 19 (by decide) (by decide) (by decide))))))
    have z20 := congrArg Int32.toInt ((f2499 20 (by decide) (by decide) (by decide)).trans ((f2486 20 (by decide) (by decide) (by decide) (by decide) (by decide)).trans ((f2471 20 (by decide) (by decide) (by decide) (by decide) (by decide)).trans ((f2456 20 (by decide) (by decide) (by decide) (by decide) (by decide)).trans (f2447 20 (by decide) (by decide) (by decide))))))
    have z33 := congrArg Int32.toInt ((f2499 33 (by decide) (by decide) (by decide)).trans ((f2486 33 (by decide) (by decide) (by decide) (by decide) (by decide)).trans ((f2471 33 (by decide) (by decide) (by decide) (by decide) (by decide)).trans ((f2456 33 (by decide) (by decide) (by decide) (by decide) (by decide)).trans (f2447 33 (by decide) (by decide) (by decide))))))
    have z39 := congrArg Int32.toInt ((f2499 39 (by decide) (by decide) (by decide)).trans ((f2486 39 (by decide) (by decide) (by decide) (by decide) (by decide)).trans ((f2471 39 (by decide) (by decide) (by decide) (by decide) (by decide)).trans ((f2456 39 (by decide) (by decide) (by decide) (by decide) (by decide)).trans (f2447 39 (by decide) (by decide) (by decide))))))
    have c9 : ∀ k j, (k = 91 ∨ k = 97 ∨ 106 ≤ k) → (bh_up (bh_up (bh_up A 100 ((s 19)).toInt.toNat (mm_nar 0 r2457)) 101 ((s 19)).toInt.toNat (mm_nar 0 r2472)) 102 ((s 19)).toInt.toNat (mm_nar 0 r2487)) k j = A k j := fun k j u => ((bh_up_o (by omega)).trans ((bh_up_o (by omega)).trans (bh_up_o (by omega))))
    have d1 := congrArg Int32.toInt (c9 97 σ (by omega))
    have d2 := congrArg Int32.toInt (c9 97 (1 - σ) (by omega))
    exact kk _ _ _ _ hP2498 (fun j j11 j12 j13 j14 j15 j16 j20 j33 j39 j43 => ((f2499 j j11 j13 j14).trans ((f2486 j j11 j13 j14 j15 j16).trans ((f2471 j j11 j13 j14 j15 j16).trans ((f2456 j j11 j13 j14 j15 j16).trans (f2447 j j11 j13 j14)))))) ⟨⟨qσ, by omega, by omega, by omega, by omega, by omega, by omega, by omega, by omega, by omega, by omega, by omega, by omega, by omega, by omega, by omega, by omega, by omega, by omega⟩, fun j hj => by rw [c9 91 j (by omega)]; exact q91 j hj, rd_S_congr (A := A) (by omega) (by omega) (fun j g1 g2 => ⟨c9 113 j (by omega), c9 114 j (by omega)⟩) (fun b g1 g2 k g3 g4 => c9 k b (by omega)) (fun k g1 g2 => ⟨c9 106 k (by omega), c9 107 k (by omega)⟩) qS, rd_S_congr (A := A) (by omega) (by omega) (fun j g1 g2 => ⟨c9 113 j (by omega), c9 114 j (by omega)⟩) (fun b g1 g2 k g3 g4 => c9 k b (by omega)) (fun k g1 g2 => ⟨c9 106 k (by omega), c9 107 k (by omega)⟩) qS2⟩ (by omega)
  by_cases k2501 : ((A 91 ((s 11)).toInt.toNat)).toInt = 29
  · refine bh_sw (pc' := 166) (off := 157) bt_99_9 (by rw [k2501]; rfl) rfl ?_
    refine bh_ld (pc' := 167) bt_99_166 rfl rfl (fun _ _ _ => rfl) rfl rfl ?_
    refine bh_cv (pc' := 170) (st := []) (args := []) bt_99_167 rfl rfl (by decide) hP (by omega) rfl (Nat.le_of_ble_eq_true rfl) (Nat.le_of_ble_eq_true rfl) ?_
    refine sp_37 hP (by simp only [List.length_cons]; omega) rfl rfl (by omega) (by omega) (by omega) (fun h2502 s2503 hP2504 f2505 p2506 => ?_)
    show bh_G E FIN ((99, 170, _, [], 0, 0) :: gs, _, none)
    refine bh_ld (pc' := 171) bt_99_170 rfl rfl (fun _ _ _ => rfl) rfl rfl ?_
    refine bh_gr (pc' := 174) (c := 103) bt_99_171 rfl rfl (fun _ _ _ => rfl) hP2504 bx_r28 ?_
    refine bh_ld (pc' := 175) bt_99_174 rfl rfl (fun _ _ _ => rfl) rfl rfl ?_
    refine bh_gi (pc' := 178) bt_99_175 rfl rfl (fun _ _ _ => rfl) hP2504 bx_i19 (f2505 19 (by decide) (by decide) (by decide)) ?_
    refine bh_ld (pc' := 179) bt_99_178 rfl rfl (fun _ _ _ => rfl) rfl rfl ?_
    refine bh_c (pc' := 180) (n := 1) bt_99_179 rfl rfl (fun _ _ _ => rfl) (by decide) (fun c2507 e2508 => ?_)
    refine bh_c (pc' := 183) (n := 999) bt_99_180 rfl rfl (fun _ _ _ => rfl) (by decide) (fun c2509 e2510 => ?_)
    refine bh_cv (pc' := 186) (st := [.int (s 19), .ref (E.1 + 103)]) (args := [.int c2509, .int c2507]) bt_99_183 rfl rfl (by decide) hP2504 (by omega) rfl (Nat.le_of_ble_eq_true rfl) (Nat.le_of_ble_eq_true rfl) ?_
    refine sp_10 (x := c2507) (y := c2509) hP2504 (by simp only [List.length_cons]; omega) rfl rfl (by omega) (by omega) (by omega) (fun h2511 s2512 r2515 hP2513 f2514 p2516 p2517 p2518 p2519 => ?_)
    show bh_G E FIN ((99, 186, _, [.int r2515, .int (s 19), .ref (E.1 + 103)], 0, 0) :: gs, _, none)
    refine bh_ias (pc' := 187) bt_99_186 rfl rfl (fun _ _ _ => rfl) hP2513 bx_a103 (Or.inl rfl) (by omega) (by omega) (fun h2520 hP2521 => ?_)
    refine bh_ld (pc' := 188) bt_99_187 rfl rfl (fun _ _ _ => rfl) rfl rfl ?_
    refine bh_c (pc' := 189) (n := 4) bt_99_188 rfl rfl (fun _ _ _ => rfl) (by decide) (fun c2522 e2523 => ?_)
    refine bh_cv (pc' := 192) (st := []) (args := [.int c2522]) bt_99_189 rfl rfl (by decide) hP2521 (by omega) rfl (Nat.le_of_ble_eq_true rfl) (Nat.le_of_ble_eq_true rfl) ?_
    refine sp_67 (k := c2522) hP2521 (by simp only [List.length_cons]; omega) rfl rfl (by omega) (by omega) (by omega) (fun h2524 s2525 hP2526 f2527 p2528 => ?_)
    show bh_G E FIN ((99, 192, _, [], 0, 0) :: gs, _, none)
    refine bh_go (pc' := 306) bt_99_192 rfl ?_
    refine bh_rv bt_99_306 ?_
    have z12 := congrArg Int32.toInt ((f2527 12 (by decide) (by decide) (by decide)).trans ((f2514 12 (by decide) (by decide) (by decide) (by decide) (by decide)).trans (f2505 12 (by decide) (by decide) (by decide))))
    have z19 := congrArg Int32.toInt ((f2527 19 (by decide) (by decide) (by decide)).trans ((f2514 19 (by decide) (by decide) (by decide) (by decide) (by decide)).trans (f2505 19 (by decide) (by decide) (by decide))))
    have z20 := congrArg Int32.toInt ((f2527 20 (by decide) (by decide) (by decide)).trans ((f2514 20 (by decide) (by decide) (by decide) (by decide) (by decide)).trans (f2505 20 (by decide) (by decide) (by decide))))
    have z33 := congrArg Int32.toInt ((f2527 33 (by decide) (by decide) (by decide)).trans ((f2514 33 (by decide) (by decide) (by decide) (by decide) (by decide)).trans (f2505 33 (by decide) (by decide) (by decide))))
    have z39 := congrArg Int32.toInt ((f2527 39 (by decide) (by decide) (by decide)).trans ((f2514 39 (by decide) (by decide) (by decide) (by decide) (by decide)).trans (f2505 39 (by decide) (by decide) (by decide))))
    have c9 : ∀ k j, (k = 91 ∨ k = 97 ∨ 106 ≤ k) → (bh_up A 103 ((s 19)).toInt.toNat (mm_nar 0 r2515)) k j = A k j := fun k j u => (bh_up_o (by omega))
    have d1 := congrArg Int32.toInt (c9 97 σ (by omega))
    have d2 := congrArg Int32.toInt (c9 97 (1 - σ) (by omega))
    exact kk _ _ _ _ hP2526 (fun j j11 j12 j13 j14 j15 j16 j20 j33 j39 j43 => ((f2527 j j11 j13 j14).trans ((f2514 j j11 j13 j14 j15 j16).trans (f2505 j j11 j13 j14)))) ⟨⟨qσ, by omega, by omega, by omega, by omega, by omega, by omega, by omega, by omega, by omega, by omega, by omega, by omega, by omega, by omega, by omega, by omega, by omega, by omega⟩, fun j hj => by rw [c9 91 j (by omega)]; exact q91 j hj, rd_S_congr (A := A) (by omega) (by omega) (fun j g1 g2 => ⟨c9 113 j (by omega), c9 114 j (by omega)⟩) (fun b g1 g2 k g3 g4 => c9 k b (by omega)) (fun k g1 g2 => ⟨c9 106 k (by omega), c9 107 k (by omega)⟩) qS, rd_S_congr (A := A) (by omega) (by omega) (fun j g1 g2 => ⟨c9 113 j (by omega), c9 114 j (by omega)⟩) (fun b g1 g2 k g3 g4 => c9 k b (by omega)) (fun k g1 g2 => ⟨c9 106 k (by omega), c9 107 k (by omega)⟩) qS2⟩ (by omega)
  by_cases k2529 : ((A 91 ((s 11)).toInt.toNat)).toInt = 30
  · refine bh_sw (pc' := 195) (off := 186) bt_99_9 (by rw [k2529]; rfl) rfl ?_
    refine bh_ld (pc' := 196) bt_99_195 rfl rfl (fun _ _ _ => rfl) rfl rfl ?_
    refine bh_cv (pc' := 199) (st := []) (args := []) bt_99_196 rfl rfl (by decide) hP (by omega) rfl (Nat.le_of_ble_eq_true rfl) (Nat.le_of_ble_eq_true rfl) ?_
    refine sp_37 hP (by simp only [List.length_cons]; omega) rfl rfl (by omega) (by omega) (by omega) (fun h2530 s2531 hP2532 f2533 p2534 => ?_)
    show bh_G E FIN ((99, 199, _, [], 0, 0) :: gs, _, none)
    refine bh_ld (pc' := 200) bt_99_199 rfl rfl (fun _ _ _ => rfl) rfl rfl ?_
    refine bh_gr (pc' := 203) (c := 104) bt_99_200 rfl rfl (fun _ _ _ => rfl) hP2532 bx_r29 ?_
    refine bh_ld (pc' := 204) bt_99_203 rfl rfl (fun _ _ _ => rfl) rfl rfl ?_
    refine bh_gi (pc' := 207) bt_99_204 rfl rfl (fun _ _ _ => rfl) hP2532 bx_i19 (f2533 19 (by decide) (by decide) (by decide)) ?_
    refine bh_ld (pc' := 208) bt_99_207 rfl rfl (fun _ _ _ => rfl) rfl rfl ?_
    refine bh_c (pc' := 209) (n := 0) bt_99_208 rfl rfl (fun _ _ _ => rfl) (by decide) (fun c2535 e2536 => ?_)
    refine bh_c (pc' := 212) (n := 9999) bt_99_209 rfl rfl (fun _ _ _ => rfl) (by decide) (fun c2537 e2538 => ?_)
    refine bh_cv (pc' := 215) (st := [.int (s 19), .ref (E.1 + 104)]) (args := [.int c2537, .int c2535]) bt_99_212 rfl rfl (by decide) hP2532 (by omega) rfl (Nat.le_of_ble_eq_true rfl) (Nat.le_of_ble_eq_true rfl) ?_
    refine sp_10 (x := c2535) (y := c2537) hP2532 (by simp only [List.length_cons]; omega) rfl rfl (by omega) (by omega) (by omega) (fun h2539 s2540 r2543 hP2541 f2542 p2544 p2545 p2546 p2547 => ?_)
    show bh_G E FIN ((99, 215, _, [.int r2543, .int (s 19), .ref (E.1 + 104)], 0, 0) :: gs, _, none)
    refine bh_ias (pc' := 216) bt_99_215 rfl rfl (fun _ _ _ => rfl) hP2541 bx_a104 (Or.inl rfl) (by omega) (by omega) (fun h2548 hP2549 => ?_)
    refine bh_ld (pc' := 217) bt_99_216 rfl rfl (fun _ _ _ => rfl) rfl rfl ?_
    refine bh_c (pc' := 218) (n := 4) bt_99_217 rfl rfl (fun _ _ _ => rfl) (by decide) (fun c2550 e2551 => ?_)
    refine bh_cv (pc' := 221) (st := []) (args := [.int c2550]) bt_99_218 rfl rfl (by decide) hP2549 (by omega) rfl (Nat.le_of_ble_eq_true rfl) (Nat.le_of_ble_eq_true rfl) ?_
    refine sp_67 (k := c2550) hP2549 (by simp only [List.length_cons]; omega) rfl rfl (by omega) (by omega) (by omega) (fun h2552 s2553 hP2554 f2555 p2556 => ?_)
    show bh_G E FIN ((99, 221, _, [], 0, 0) :: gs, _, none)
    refine bh_go (pc' := 306) bt_99_221 rfl ?_
    refine bh_rv bt_99_306 ?_
    have z12 := congrArg Int32.toInt ((f2555 12 (by decide) (by decide) (by decide)).trans ((f2542 12 (by decide) (by decide) (by decide) (by decide) (by decide)).trans (f2533 12 (by decide) (by decide) (by decide))))
    have z19 := congrArg Int32.toInt ((f2555 19 (by decide) (by decide) (by decide)).trans ((f2542 19 (by decide) (by decide) (by decide) (by decide) (by decide)).trans (f2533 19 (by decide) (by decide) (by decide))))
    have z20 := congrArg Int32.toInt ((f2555 20 (by decide) (by decide) (by decide)).trans ((f2542 20 (by decide) (by decide) (by decide) (by decide) (by decide)).trans (f2533 20 (by decide) (by decide) (by decide))))
    have z33 := congrArg Int32.toInt ((f2555 33 (by decide) (by decide) (by decide)).trans ((f2542 33 (by decide) (by decide) (by decide) (by decide) (by decide)).trans (f2533 33 (by decide) (by decide) (by decide))))
    have z39 := congrArg Int32.toInt ((f2555 39 (by decide) (by decide) (by decide)).trans ((f2542 39 (by decide) (by decide) (by decide) (by decide) (by decide)).trans (f2533 39 (by decide) (by decide) (by decide))))
    have c9 : ∀ k j, (k = 91 ∨ k = 97 ∨ 106 ≤ k) → (bh_up A 104 ((s 19)).toInt.toNat (mm_nar 0 r2543)) k j = A k j := fun k j u => (bh_up_o (by omega))
    have d1 := congrArg Int32.toInt (c9 97 σ (by omega))
    have d2 := congrArg Int32.toInt (c9 97 (1 - σ) (by omega))
    exact kk _ _ _ _ hP2554 (fun j j11 j12 j13 j14 j15 j16 j20 j33 j39 j43 => ((f2555 j j11 j13 j14).trans ((f2542 j j11 j13 j14 j15 j16).trans (f2533 j j11 j13 j14)))) ⟨⟨qσ, by omega, by omega, by omega, by omega, by omega, by omega, by omega, by omega, by omega, by omega, by omega, by omega, by omega, by omega, by omega, by omega, by omega, by omega⟩, fun j hj => by rw [c9 91 j (by omega)]; exact q91 j hj, rd_S_congr (A := A) (by omega) (by omega) (fun j g1 g2 => ⟨c9 113 j (by omega), c9 114 j (by omega)⟩) (fun b g1 g2 k g3 g4 => c9 k b (by omega)) (fun k g1 g2 => ⟨c9 106 k (by omega), c9 107 k (by omega)⟩) qS, rd_S_congr (A := A) (by omega) (by omega) (fun j g1 g2 => ⟨c9 113 j (by omega), c9 114 j (by omega)⟩) (fun b g1 g2 k g3 g4 => c9 k b (by omega)) (fun k g1 g2 => ⟨c9 106 k (by omega), c9 107 k (by omega)⟩) qS2⟩ (by omega)
  by_cases k2557 : ((A 91 ((s 11)).toInt.toNat)).toInt = 31
  · refine bh_sw (pc' := 224) (off := 215) bt_99_9 (by rw [k2557]; rfl) rfl ?_
    refine bh_ld (pc' := 225) bt_99_224 rfl rfl (fun _ _ _ => rfl) rfl rfl ?_
    refine bh_cv (pc' := 228) (st := []) (args := []) bt_99_225 rfl rfl (by decide) hP (by omega) rfl (Nat.le_of_ble_eq_true rfl) (Nat.le_of_ble_eq_true rfl) ?_
    refine sp_37 hP (by simp only [List.length_cons]; omega) rfl rfl (by omega) (by omega) (by omega) (fun h2558 s2559 hP2560 f2561 p2562 => ?_)
    show bh_G E FIN ((99, 228, _, [], 0, 0) :: gs, _, none)
    refine bh_ld (pc' := 229) bt_99_228 rfl rfl (fun _ _ _ => rfl) rfl rfl ?_
    refine bh_gr (pc' := 232) (c := 105) bt_99_229 rfl rfl (fun _ _ _ => rfl) hP2560 bx_r30 ?_
    refine bh_ld (pc' := 233) bt_99_232 rfl rfl (fun _ _ _ => rfl) rfl rfl ?_
    refine bh_gi (pc' := 236) bt_99_233 rfl rfl (fun _ _ _ => rfl) hP2560 bx_i19 (f2561 19 (by decide) (by decide) (by decide)) ?_
    refine bh_ld (pc' := 237) bt_99_236 rfl rfl (fun _ _ _ => rfl) rfl rfl ?_
    refine bh_c (pc' := 238) (n := 0) bt_99_237 rfl rfl (fun _ _ _ => rfl) (by decide) (fun c2563 e2564 => ?_)
    refine bh_c (pc' := 241) (n := 9999) bt_99_238 rfl rfl (fun _ _ _ => rfl) (by decide) (fun c2565 e2566 => ?_)
    refine bh_cv (pc' := 244) (st := [.int (s 19), .ref (E.1 + 105)]) (args := [.int c2565, .int c2563]) bt_99_241 rfl rfl (by decide) hP2560 (by omega) rfl (Nat.le_of_ble_eq_true rfl) (Nat.le_of_ble_eq_true rfl) ?_
    refine sp_10 (x := c2563) (y := c2565) hP2560 (by simp only [List.length_cons]; omega) rfl rfl (by omega) (by omega) (by omega) (fun h2567 s2568 r2571 hP2569 f2570 p2572 p2573 p2574 p2575 => ?_)
    show bh_G E FIN ((99, 244, _, [.int r2571, .int (s 19), .ref (E.1 + 105)], 0, 0) :: gs, _, none)
    refine bh_ias (pc' := 245) bt_99_244 rfl rfl (fun _ _ _ => rfl) hP2569 bx_a105 (Or.inl rfl) (by omega) (by omega) (fun h2576 hP2577 => ?_)
    refine bh_ld (pc' := 246) bt_99_245 rfl rfl (fun _ _ _ => rfl) rfl rfl ?_
    refine bh_c (pc' := 247) (n := 4) bt_99_246 rfl rfl (fun _ _ _ => rfl) (by decide) (fun c2578 e2579 => ?_)
    refine bh_cv (pc' := 250) (st := []) (args := [.int c2578]) bt_99_247 rfl rfl (by decide) hP2577 (by omega) rfl (Nat.le_of_ble_eq_true rfl) (Nat.le_of_ble_eq_true rfl) ?_
    refine sp_67 (k := c2578) hP2577 (by simp only [List.length_cons]; omega) rfl rfl (by omega) (by omega) (by omega) (fun h2580 s2581 hP2582 f2583 p2584 => ?_)
    show bh_G E FIN ((99, 250, _, [], 0, 0) :: gs, _, none)
    refine bh_go (pc' := 306) bt_99_250 rfl ?_
    refine bh_rv bt_99_306 ?_
    have z12 := congrArg Int32.toInt ((f2583 12 (by decide) (by decide) (by decide)).trans ((f2570 12 (by decide) (by decide) (by decide) (by decide) (by decide)).trans (f2561 12 (by decide) (by decide) (by decide))))
    have z19 := congrArg Int32.toInt ((f2583 19 (by decide) (by decide) (by decide)).trans ((f2570 19 (by decide) (by decide) (by decide) (by decide) (by decide)).trans (f2561 19 (by decide) (by decide) (by decide))))
    have z20 := congrArg Int32.toInt ((f2583 20 (by decide) (by decide) (by decide)).trans ((f2570 20 (by decide) (by decide) (by decide) (by decide) (by decide)).trans (f2561 20 (by decide) (by decide) (by decide))))
    have z33 := congrArg Int32.toInt ((f2583 33 (by decide) (by decide) (by decide)).trans ((f2570 33 (by decide) (by decide) (by decide) (by decide) (by decide)).trans (f2561 33 (by decide) (by decide) (by decide))))
    have z39 := congrArg Int32.toInt ((f2583 39 (by decide) (by decide) (by decide)).trans ((f2570 39 (by decide) (by decide) (by decide) (by decide) (by decide)).trans (f2561 39 (by decide) (by decide) (by decide))))
    have c9 : ∀ k j, (k = 91 ∨ k = 97 ∨ 106 ≤ k) → (bh_up A 105 ((s 19)).toInt.toNat (mm_nar 0 r2571)) k j = A k j := fun k j u => (bh_up_o (by omega))
    have d1 := congrArg Int32.toInt (c9 97 σ (by omega))
    have d2 := congrArg Int32.toInt (c9 97 (1 - σ) (by omega))
    exact kk _ _ _ _ hP2582 (fun j j11 j12 j13 j14 j15 j16 j20 j33 j39 j43 => ((f2583 j j11 j13 j14).trans ((f2570 j j11 j13 j14 j15 j16).trans (f2561 j j11 j13 j14)))) ⟨⟨qσ, by omega, by omega, by omega, by omega, by omega, by omega, by omega, by omega, by omega, by omega, by omega, by omega, by omega, by omega, by omega, by omega, by omega, by omega⟩, fun j hj => by rw [c9 91 j (by omega)]; exact q91 j hj, rd_S_congr (A := A) (by omega) (by omega) (fun j g1 g2 => ⟨c9 113 j (by omega), c9 114 j (by omega)⟩) (fun b g1 g2 k g3 g4 => c9 k b (by omega)) (fun k g1 g2 => ⟨c9 106 k (by omega), c9 107 k (by omega)⟩) qS, rd_S_congr (A := A) (by omega) (by omega) (fun j g1 g2 => ⟨c9 113 j (by omega), c9 114 j (by omega)⟩) (fun b g1 g2 k g3 g4 => c9 k b (by omega)) (fun k g1 g2 => ⟨c9 106 k (by omega), c9 107 k (by omega)⟩) qS2⟩ (by omega)
  refine bh_sw (pc' := 253) (off := 244) bt_99_9 ?_ rfl ?_
  · by_cases hc : ((A 91 ((s 11)).toInt.toNat)).toInt < 20 ∨ 31 < ((A 91 ((s 11)).toInt.toNat)).toInt
    · rw [if_pos hc]
    · rw [if_neg hc]
      have hd9 : (((A 91 ((s 11)).toInt.toNat)).toInt - 20).toNat = 1 ∨ (((A 91 ((s 11)).toInt.toNat)).toInt - 20).toNat = 2 ∨ (((A 91 ((s 11)).toInt.toNat)).toInt - 20).toNat = 3 ∨ (((A 91 ((s 11)).toInt.toNat)).toInt - 20).toNat = 4 ∨ (((A 91 ((s 11)).toInt.toNat)).toInt - 20).toNat = 5 ∨ (((A 91 ((s 11)).toInt.toNat)).toInt - 20).toNat = 6 ∨ (((A 91 ((s 11)).toInt.toNat)).toInt - 20).toNat = 7 := by omega
      rcases hd9 with hd9 | hd9 | hd9 | hd9 | hd9 | hd9 | hd9 <;> rw [hd9] <;> rfl
  · skip
    refine bh_ld (pc' := 254) bt_99_253 rfl rfl (fun _ _ _ => rfl) rfl rfl ?_
    refine bh_gr (pc' := 257) (c := 91) bt_99_254 rfl rfl (fun _ _ _ => rfl) hP bx_r5 ?_
    refine bh_ld (pc' := 258) bt_99_257 rfl rfl (fun _ _ _ => rfl) rfl rfl ?_
    refine bh_gi (pc' := 261) bt_99_258 rfl rfl (fun _ _ _ => rfl) hP bx_i11 rfl ?_
    refine bh_ia (pc' := 262) bt_99_261 rfl rfl (fun _ _ _ => rfl) hP bx_a91 (Or.inl rfl) (by omega) (by omega) ?_
    refine bh_c (pc' := 264) (n := 21) bt_99_262 rfl rfl (fun _ _ _ => rfl) (by decide) (fun c2585 e2586 => ?_)
    refine bh_sub (pc' := 265) bt_99_264 rfl (by omega) (by omega) (fun v2587 e2588 => ?_)
    refine bh_st (pc' := 266) bt_99_265 rfl rfl (fun _ _ _ => rfl) rfl (by decide) (by decide) (fun lv2589 F2590 g2591 => ?_)
    have g2592 := F2590 0 (.ref (E.1 + 88)) rfl (by decide) (Or.inl rfl)
    refine bh_ld (pc' := 267) bt_99_266 rfl rfl (fun _ _ _ => rfl) g2591 rfl ?_
    refine bh_i0 (pc' := 270) (pt := 284) bt_99_267 rfl rfl (fun k2593 => ?_) (fun k2593 => ?_)
    · replace k2593 : (v2587).toInt < 0 := k2593
      refine bh_ld (pc' := 285) bt_99_284 rfl rfl (fun _ _ _ => rfl) g2592 rfl ?_
      refine bh_c (pc' := 286) (n := 1) bt_99_285 rfl rfl (fun _ _ _ => rfl) (by decide) (fun c2594 e2595 => ?_)
      refine bh_cv (pc' := 289) (st := []) (args := [.int c2594]) bt_99_286 rfl rfl (by decide) hP (by omega) rfl (Nat.le_of_ble_eq_true rfl) (Nat.le_of_ble_eq_true rfl) ?_
      refine sp_27 (k := c2594) hP rfl rfl (by omega) (by omega) (fun h2596 s2597 hP2598 f2599 p2600 => ?_)
      show bh_G E FIN ((99, 289, lv2589, [], 0, 0) :: gs, _, none)
      refine bh_ld (pc' := 290) bt_99_289 rfl rfl (fun _ _ _ => rfl) g2592 rfl ?_
      refine bh_gi (pc' := 293) bt_99_290 rfl rfl (fun _ _ _ => rfl) hP2598 bx_i13 rfl ?_
      refine bh_i0 (pc' := 296) (pt := 297) bt_99_293 rfl rfl (fun k2601 => ?_) (fun k2601 => ?_)
      · replace k2601 : ((s2597 13)).toInt ≤ 0 := k2601
        refine bh_ld (pc' := 298) bt_99_297 rfl rfl (fun _ _ _ => rfl) g2592 rfl ?_
        refine bh_cv (pc' := 301) (st := []) (args := []) bt_99_298 rfl rfl (by decide) hP2598 (by omega) rfl (Nat.le_of_ble_eq_true rfl) (Nat.le_of_ble_eq_true rfl) ?_
        refine sp_37 hP2598 (by simp only [List.length_cons]; omega) (f2599 11 (by decide) (by decide)) rfl (by omega) (by omega) (by omega) (fun h2602 s2603 hP2604 f2605 p2606 => ?_)
        show bh_G E FIN ((99, 301, lv2589, [], 0, 0) :: gs, _, none)
        refine bh_ld (pc' := 302) bt_99_301 rfl rfl (fun _ _ _ => rfl) g2592 rfl ?_
        refine bh_ld (pc' := 303) bt_99_302 rfl rfl (fun _ _ _ => rfl) g2591 rfl ?_
        refine bh_cv (pc' := 306) (st := []) (args := [.int v2587]) bt_99_303 rfl rfl (by decide) hP2604 (by omega) rfl (Nat.le_of_ble_eq_true rfl) (Nat.le_of_ble_eq_true rfl) ?_
        have z2607 := congrArg Int32.toInt ((f2605 12 (by decide) (by decide) (by decide)).trans (f2599 12 (by decide) (by decide)))
        have z2608 := congrArg Int32.toInt ((f2605 19 (by decide) (by decide) (by decide)).trans (f2599 19 (by decide) (by decide)))
        have z2609 := congrArg Int32.toInt ((f2605 33 (by decide) (by decide) (by decide)).trans (f2599 33 (by decide) (by decide)))
        have z2610 := congrArg Int32.toInt ((f2605 39 (by decide) (by decide) (by decide)).trans (f2599 39 (by decide) (by decide)))
        refine sp_97 (k := v2587) hP2604 (by simp only [List.length_cons]; omega) (by omega) (by omega) (by omega) (by omega) (by omega) (by omega) (by omega) (by omega) (by omega) (by omega) (by omega) (by omega) (by omega) (by omega) (fun h2611 s2612 A2613 hP2614 y2615 => ?_)
        obtain ⟨f2616, a2617, w2618, w2619, w2620, w2621, w2622, w2623, w2624, w2625, w2626, w2627, w2628⟩ := y2615
        show bh_G E FIN ((99, 306, lv2589, [], 0, 0) :: gs, _, none)
        refine bh_rv bt_99_306 ?_
        have z19 := congrArg Int32.toInt ((f2616 19 (by decide) (by decide) (by decide) (by decide) (by decide) (by decide) (by decide)).trans ((f2605 19 (by decide) (by decide) (by decide)).trans (f2599 19 (by decide) (by decide))))
        have z20 := congrArg Int32.toInt ((f2616 20 (by decide) (by decide) (by decide) (by decide) (by decide) (by decide) (by decide)).trans ((f2605 20 (by decide) (by decide) (by decide)).trans (f2599 20 (by decide) (by decide))))
        have c91 : ∀ j, A2613 91 j = A 91 j := fun j => a2617 91 j (by omega) (by omega) (by omega) (by omega)
        have d1 := congrArg Int32.toInt (a2617 97 σ (by omega) (by omega) (by omega) (by omega))
        have d2 := congrArg Int32.toInt (a2617 97 (1 - σ) (by omega) (by omega) (by omega) (by omega))
        refine kk _ _ _ _ hP2614 (fun j j11 j12 j13 j14 j15 j16 j20 j33 j39 j43 => ((f2616 j j11 j12 j13 j14 j33 j39 j43).trans ((f2605 j j11 j13 j14).trans (f2599 j j13 j14)))) ⟨⟨qσ, by omega, by omega, by omega, by omega, by omega, by omega, by omega, by omega, by omega, by omega, by omega, by omega, by omega, by omega, by omega, by omega, by omega, by omega⟩, fun j hj => by rw [c91]; exact q91 j hj, ?_, ?_⟩ (by omega)
        · intro k7 hk7
          by_cases hnew : (s2612 13).toInt = 0 ∧ 7 * σ + k7 = (7 * (s2603 19).toInt + (v2587).toInt).toNat
          · obtain ⟨hF, hkk⟩ := hnew
            obtain ⟨v1, v2, v3, v4, v5, v6, v7⟩ := w2628 hF
            rw [← hkk] at v5 v6
            refine ⟨by omega, fun b b1 b2 => ?_⟩
            exact ⟨by omega, by omega, rd_B_congr (by omega) (by omega) (fun j g1 g2 => ⟨rfl, rfl⟩) (fun k g1 g2 => rfl) (v7 b (by omega) (by omega))⟩
          · exact rd_L_congr (A := A) (Nat.le_refl _) (by omega) (Nat.le_refl _) (by omega) (fun j g1 g2 => ⟨a2617 113 j (by omega) (by omega) (by omega) (by omega), a2617 114 j (by omega) (by omega) (by omega) (by omega)⟩) (fun b g1 g2 k g3 g4 => a2617 k b (by omega) (by omega) (by omega) (by omega)) ⟨a2617 106 _ (by omega) (by omega) (by omega) (by omega), a2617 107 _ (by omega) (by omega) (by omega) (by omega)⟩ (qS k7 hk7)
        · exact rd_S_congr (A := A) (Nat.le_refl _) (Nat.le_refl _) (fun j g1 g2 => ⟨a2617 113 j (by omega) (by omega) (by omega) (by omega), a2617 114 j (by omega) (by omega) (by omega) (by omega)⟩) (fun b g1 g2 k g3 g4 => a2617 k b (by omega) (by omega) (by omega) (by omega)) (fun k g1 g2 => ⟨a2617 106 k (by omega) (by omega) (by omega) (by omega), a2617 107 k (by omega) (by omega) (by omega) (by omega)⟩) qS2
      · replace k2601 : ¬ (((s2597 13)).toInt ≤ 0) := k2601
        refine bh_rv bt_99_296 ?_
        have z11 := congrArg Int32.toInt (f2599 11 (by decide) (by decide))
        have z12 := congrArg Int32.toInt (f2599 12 (by decide) (by decide))
        have z19 := congrArg Int32.toInt (f2599 19 (by decide) (by decide))
        have z20 := congrArg Int32.toInt (f2599 20 (by decide) (by decide))
        have z33 := congrArg Int32.toInt (f2599 33 (by decide) (by decide))
        have z39 := congrArg Int32.toInt (f2599 39 (by decide) (by decide))
        have c9 : ∀ k j, (k = 91 ∨ k = 97 ∨ 106 ≤ k) → A k j = A k j := fun k j u => rfl
        have d1 := congrArg Int32.toInt (c9 97 σ (by omega))
        have d2 := congrArg Int32.toInt (c9 97 (1 - σ) (by omega))
        exact kk _ _ _ _ hP2598 (fun j j11 j12 j13 j14 j15 j16 j20 j33 j39 j43 => (f2599 j j13 j14)) ⟨⟨qσ, by omega, by omega, by omega, by omega, by omega, by omega, by omega, by omega, by omega, by omega, by omega, by omega, by omega, by omega, by omega, by omega, by omega, by omega⟩, fun j hj => by rw [c9 91 j (by omega)]; exact q91 j hj, rd_S_congr (A := A) (by omega) (by omega) (fun j g1 g2 => ⟨c9 113 j (by omega), c9 114 j (by omega)⟩) (fun b g1 g2 k g3 g4 => c9 k b (by omega)) (fun k g1 g2 => ⟨c9 106 k (by omega), c9 107 k (by omega)⟩) qS, rd_S_congr (A := A) (by omega) (by omega) (fun j g1 g2 => ⟨c9 113 j (by omega), c9 114 j (by omega)⟩) (fun b g1 g2 k g3 g4 => c9 k b (by omega)) (fun k g1 g2 => ⟨c9 106 k (by omega), c9 107 k (by omega)⟩) qS2⟩ (by omega)
    · replace k2593 : ¬ ((v2587).toInt < 0) := k2593
      refine bh_ld (pc' := 271) bt_99_270 rfl rfl (fun _ _ _ => rfl) g2592 rfl ?_
      refine bh_gr (pc' := 274) (c := 91) bt_99_271 rfl rfl (fun _ _ _ => rfl) hP bx_r5 ?_
      refine bh_ld (pc' := 275) bt_99_274 rfl rfl (fun _ _ _ => rfl) g2592 rfl ?_
      refine bh_gi (pc' := 278) bt_99_275 rfl rfl (fun _ _ _ => rfl) hP bx_i11 rfl ?_
      refine bh_ia (pc' := 279) bt_99_278 rfl rfl (fun _ _ _ => rfl) hP bx_a91 (Or.inl rfl) (by omega) (by omega) ?_
      refine bh_c (pc' := 281) (n := 27) bt_99_279 rfl rfl (fun _ _ _ => rfl) (by decide) (fun c2629 e2630 => ?_)
      refine bh_ic (pc' := 284) (pt := 289) bt_99_281 rfl rfl (fun k2631 => ?_) (fun k2631 => ?_)
      · replace k2631 : ((A 91 ((s 11)).toInt.toNat)).toInt ≤ (c2629).toInt := k2631
        refine bh_ld (pc' := 290) bt_99_289 rfl rfl (fun _ _ _ => rfl) g2592 rfl ?_
        refine bh_gi (pc' := 293) bt_99_290 rfl rfl (fun _ _ _ => rfl) hP bx_i13 rfl ?_
        refine bh_i0 (pc' := 296) (pt := 297) bt_99_293 rfl rfl (fun k2632 => ?_) (fun k2632 => ?_)
        · replace k2632 : ((s 13)).toInt ≤ 0 := k2632
          refine bh_ld (pc' := 298) bt_99_297 rfl rfl (fun _ _ _ => rfl) g2592 rfl ?_
          refine bh_cv (pc' := 301) (st := []) (args := []) bt_99_298 rfl rfl (by decide) hP (by omega) rfl (Nat.le_of_ble_eq_true rfl) (Nat.le_of_ble_eq_true rfl) ?_
          refine sp_37 hP (by simp only [List.length_cons]; omega) rfl rfl (by omega) (by omega) (by omega) (fun h2633 s2634 hP2635 f2636 p2637 => ?_)
          show bh_G E FIN ((99, 301, lv2589, [], 0, 0) :: gs, _, none)
          refine bh_ld (pc' := 302) bt_99_301 rfl rfl (fun _ _ _ => rfl) g2592 rfl ?_
          refine bh_ld (pc' := 303) bt_99_302 rfl rfl (fun _ _ _ => rfl) g2591 rfl ?_
          refine bh_cv (pc' := 306) (st := []) (args := [.int v2587]) bt_99_303 rfl rfl (by decide) hP2635 (by omega) rfl (Nat.le_of_ble_eq_true rfl) (Nat.le_of_ble_eq_true rfl) ?_
          have z2638 := congrArg Int32.toInt (f2636 12 (by decide) (by decide) (by decide))
          have z2639 := congrArg Int32.toInt (f2636 19 (by decide) (by decide) (by decide))
          have z2640 := congrArg Int32.toInt (f2636 33 (by decide) (by decide) (by decide))
          have z2641 := congrArg Int32.toInt (f2636 39 (by decide) (by decide) (by decide))
          refine sp_97 (k := v2587) hP2635 (by simp only [List.length_cons]; omega) (by omega) (by omega) (by omega) (by omega) (by omega) (by omega) (by omega) (by omega) (by omega) (by omega) (by omega) (by omega) (by omega) (by omega) (fun h2642 s2643 A2644 hP2645 y2646 => ?_)
          obtain ⟨f2647, a2648, w2649, w2650, w2651, w2652, w2653, w2654, w2655, w2656, w2657, w2658, w2659⟩ := y2646
          show bh_G E FIN ((99, 306, lv2589, [], 0, 0) :: gs, _, none)
          refine bh_rv bt_99_306 ?_
          have z19 := congrArg Int32.toInt ((f2647 19 (by decide) (by decide) (by decide) (by decide) (by decide) (by decide) (by decide)).trans (f2636 19 (by decide) (by decide) (by decide)))
          have z20 := congrArg Int32.toInt ((f2647 20 (by decide) (by decide) (by decide) (by decide) (by decide) (by decide) (by decide)).trans (f2636 20 (by decide) (by decide) (by decide)))
          have c91 : ∀ j, A2644 91 j = A 91 j := fun j => a2648 91 j (by omega) (by omega) (by omega) (by omega)
          have d1 := congrArg Int32.toInt (a2648 97 σ (by omega) (by omega) (by omega) (by omega))
          have d2 := congrArg Int32.toInt (a2648 97 (1 - σ) (by omega) (by omega) (by omega) (by omega))
          refine kk _ _ _ _ hP2645 (fun j j11 j12 j13 j14 j15 j16 j20 j33 j39 j43 => ((f2647 j j11 j12 j13 j14 j33 j39 j43).trans (f2636 j j11 j13 j14))) ⟨⟨qσ, by omega, by omega, by omega, by omega, by omega, by omega, by omega, by omega, by omega, by omega, by omega, by omega, by omega, by omega, by omega, by omega, by omega, by omega⟩, fun j hj => by rw [c91]; exact q91 j hj, ?_, ?_⟩ (by omega)
          · intro k7 hk7
            by_cases hnew : (s2643 13).toInt = 0 ∧ 7 * σ + k7 = (7 * (s2634 19).toInt + (v2587).toInt).toNat
            · obtain ⟨hF, hkk⟩ := hnew
              obtain ⟨v1, v2, v3, v4, v5, v6, v7⟩ := w2659 hF
              rw [← hkk] at v5 v6
              refine ⟨by omega, fun b b1 b2 => ?_⟩
              exact ⟨by omega, by omega, rd_B_congr (by omega) (by omega) (fun j g1 g2 => ⟨rfl, rfl⟩) (fun k g1 g2 => rfl) (v7 b (by omega) (by omega))⟩
            · exact rd_L_congr (A := A) (Nat.le_refl _) (by omega) (Nat.le_refl _) (by omega) (fun j g1 g2 => ⟨a2648 113 j (by omega) (by omega) (by omega) (by omega), a2648 114 j (by omega) (by omega) (by omega) (by omega)⟩) (fun b g1 g2 k g3 g4 => a2648 k b (by omega) (by omega) (by omega) (by omega)) ⟨a2648 106 _ (by omega) (by omega) (by omega) (by omega), a2648 107 _ (by omega) (by omega) (by omega) (by omega)⟩ (qS k7 hk7)
          · exact rd_S_congr (A := A) (Nat.le_refl _) (Nat.le_refl _) (fun j g1 g2 => ⟨a2648 113 j (by omega) (by omega) (by omega) (by omega), a2648 114 j (by omega) (by omega) (by omega) (by omega)⟩) (fun b g1 g2 k g3 g4 => a2648 k b (by omega) (by omega) (by omega) (by omega)) (fun k g1 g2 => ⟨a2648 106 k (by omega) (by omega) (by omega) (by omega), a2648 107 k (by omega) (by omega) (by omega) (by omega)⟩) qS2
        · replace k2632 : ¬ (((s 13)).toInt ≤ 0) := k2632
          refine bh_rv bt_99_296 ?_
          have c9 : ∀ k j, (k = 91 ∨ k = 97 ∨ 106 ≤ k) → A k j = A k j := fun k j u => rfl
          have d1 := congrArg Int32.toInt (c9 97 σ (by omega))
          have d2 := congrArg Int32.toInt (c9 97 (1 - σ) (by omega))
          exact kk _ _ _ _ hP (fun j j11 j12 j13 j14 j15 j16 j20 j33 j39 j43 => rfl) ⟨⟨qσ, by omega, by omega, by omega, by omega, by omega, by omega, by omega, by omega, by omega, by omega, by omega, by omega, by omega, by omega, by omega, by omega, by omega, by omega⟩, fun j hj => by rw [c9 91 j (by omega)]; exact q91 j hj, rd_S_congr (A := A) (by omega) (by omega) (fun j g1 g2 => ⟨c9 113 j (by omega), c9 114 j (by omega)⟩) (fun b g1 g2 k g3 g4 => c9 k b (by omega)) (fun k g1 g2 => ⟨c9 106 k (by omega), c9 107 k (by omega)⟩) qS, rd_S_congr (A := A) (by omega) (by omega) (fun j g1 g2 => ⟨c9 113 j (by omega), c9 114 j (by omega)⟩) (fun b g1 g2 k g3 g4 => c9 k b (by omega)) (fun k g1 g2 => ⟨c9 106 k (by omega), c9 107 k (by omega)⟩) qS2⟩ (by omega)
      · replace k2631 : ¬ (((A 91 ((s 11)).toInt.toNat)).toInt ≤ (c2629).toInt) := k2631
        refine bh_ld (pc' := 285) bt_99_284 rfl rfl (fun _ _ _ => rfl) g2592 rfl ?_
        refine bh_c (pc' := 286) (n := 1) bt_99_285 rfl rfl (fun _ _ _ => rfl) (by decide) (fun c2660 e2661 => ?_)
        refine bh_cv (pc' := 289) (st := []) (args := [.int c2660]) bt_99_286 rfl rfl (by decide) hP (by omega) rfl (Nat.le_of_ble_eq_true rfl) (Nat.le_of_ble_eq_true rfl) ?_
        refine sp_27 (k := c2660) hP rfl rfl (by omega) (by omega) (fun h2662 s2663 hP2664 f2665 p2666 => ?_)
        show bh_G E FIN ((99, 289, lv2589, [], 0, 0) :: gs, _, none)
        refine bh_ld (pc' := 290) bt_99_289 rfl rfl (fun _ _ _ => rfl) g2592 rfl ?_
        refine bh_gi (pc' := 293) bt_99_290 rfl rfl (fun _ _ _ => rfl) hP2664 bx_i13 rfl ?_
        refine bh_i0 (pc' := 296) (pt := 297) bt_99_293 rfl rfl (fun k2667 => ?_) (fun k2667 => ?_)
        · replace k2667 : ((s2663 13)).toInt ≤ 0 := k2667
          refine bh_ld (pc' := 298) bt_99_297 rfl rfl (fun _ _ _ => rfl) g2592 rfl ?_
          refine bh_cv (pc' := 301) (st := []) (args := []) bt_99_298 rfl rfl (by decide) hP2664 (by omega) rfl (Nat.le_of_ble_eq_true rfl) (Nat.le_of_ble_eq_true rfl) ?_
          refine sp_37 hP2664 (by simp only [List.length_cons]; omega) (f2665 11 (by decide) (by decide)) rfl (by omega) (by omega) (by omega) (fun h2668 s2669 hP2670 f2671 p2672 => ?_)
          show bh_G E FIN ((99, 301, lv2589, [], 0, 0) :: gs, _, none)
          refine bh_ld (pc' := 302) bt_99_301 rfl rfl (fun _ _ _ => rfl) g2592 rfl ?_
          refine bh_ld (pc' := 303) bt_99_302 rfl rfl (fun _ _ _ => rfl) g2591 rfl ?_
          refine bh_cv (pc' := 306) (st := []) (args := [.int v2587]) bt_99_303 rfl rfl (by decide) hP2670 (by omega) rfl (Nat.le_of_ble_eq_true rfl) (Nat.le_of_ble_eq_true rfl) ?_
          have z2673 := congrArg Int32.toInt ((f2671 12 (by decide) (by decide) (by decide)).trans (f2665 12 (by decide) (by decide)))
          have z2674 := congrArg Int32.toInt ((f2671 19 (by decide) (by decide) (by decide)).trans (f2665 19 (by decide) (by decide)))
          have z2675 := congrArg Int32.toInt ((f2671 33 (by decide) (by decide) (by decide)).trans (f2665 33 (by decide) (by decide)))
          have z2676 := congrArg Int32.toInt ((f2671 39 (by decide) (by decide) (by decide)).trans (f2665 39 (by decide) (by decide)))
          refine sp_97 (k := v2587) hP2670 (by simp only [List.length_cons]; omega) (by omega) (by omega) (by omega) (by omega) (by omega) (by omega) (by omega) (by omega) (by omega) (by omega) (by omega) (by omega) (by omega) (by omega) (fun h2677 s2678 A2679 hP2680 y2681 => ?_)
          obtain ⟨f2682, a2683, w2684, w2685, w2686, w2687, w2688, w2689, w2690, w2691, w2692, w2693, w2694⟩ := y2681
          show bh_G E FIN ((99, 306, lv2589, [], 0, 0) :: gs, _, none)
          refine bh_rv bt_99_306 ?_
          have z19 := congrArg Int32.toInt ((f2682 19 (by decide) (by decide) (by decide) (by decide) (by decide) (by decide) (by decide)).trans ((f2671 19 (by decide) (by decide) (by decide)).trans (f2665 19 (by decide) (by decide))))
          have z20 := congrArg Int32.toInt ((f2682 20 (by decide) (by decide) (by decide) (by decide) (by decide) (by decide) (by decide)).trans ((f2671 20 (by decide) (by decide) (by decide)).trans (f2665 20 (by decide) (by decide))))
          have c91 : ∀ j, A2679 91 j = A 91 j := fun j => a2683 91 j (by omega) (by omega) (by omega) (by omega)
          have d1 := congrArg Int32.toInt (a2683 97 σ (by omega) (by omega) (by omega) (by omega))
          have d2 := congrArg Int32.toInt (a2683 97 (1 - σ) (by omega) (by omega) (by omega) (by omega))
          refine kk _ _ _ _ hP2680 (fun j j11 j12 j13 j14 j15 j16 j20 j33 j39 j43 => ((f2682 j j11 j12 j13 j14 j33 j39 j43).trans ((f2671 j j11 j13 j14).trans (f2665 j j13 j14)))) ⟨⟨qσ, by omega, by omega, by omega, by omega, by omega, by omega, by omega, by omega, by omega, by omega, by omega, by omega, by omega, by omega, by omega, by omega, by omega, by omega⟩, fun j hj => by rw [c91]; exact q91 j hj, ?_, ?_⟩ (by omega)
          · intro k7 hk7
            by_cases hnew : (s2678 13).toInt = 0 ∧ 7 * σ + k7 = (7 * (s2669 19).toInt + (v2587).toInt).toNat
            · obtain ⟨hF, hkk⟩ := hnew
              obtain ⟨v1, v2, v3, v4, v5, v6, v7⟩ := w2694 hF
              rw [← hkk] at v5 v6
              refine ⟨by omega, fun b b1 b2 => ?_⟩
              exact ⟨by omega, by omega, rd_B_congr (by omega) (by omega) (fun j g1 g2 => ⟨rfl, rfl⟩) (fun k g1 g2 => rfl) (v7 b (by omega) (by omega))⟩
            · exact rd_L_congr (A := A) (Nat.le_refl _) (by omega) (Nat.le_refl _) (by omega) (fun j g1 g2 => ⟨a2683 113 j (by omega) (by omega) (by omega) (by omega), a2683 114 j (by omega) (by omega) (by omega) (by omega)⟩) (fun b g1 g2 k g3 g4 => a2683 k b (by omega) (by omega) (by omega) (by omega)) ⟨a2683 106 _ (by omega) (by omega) (by omega) (by omega), a2683 107 _ (by omega) (by omega) (by omega) (by omega)⟩ (qS k7 hk7)
          · exact rd_S_congr (A := A) (Nat.le_refl _) (Nat.le_refl _) (fun j g1 g2 => ⟨a2683 113 j (by omega) (by omega) (by omega) (by omega), a2683 114 j (by omega) (by omega) (by omega) (by omega)⟩) (fun b g1 g2 k g3 g4 => a2683 k b (by omega) (by omega) (by omega) (by omega)) (fun k g1 g2 => ⟨a2683 106 k (by omega) (by omega) (by omega) (by omega), a2683 107 k (by omega) (by omega) (by omega) (by omega)⟩) qS2
        · replace k2667 : ¬ (((s2663 13)).toInt ≤ 0) := k2667
          refine bh_rv bt_99_296 ?_
          have z11 := congrArg Int32.toInt (f2665 11 (by decide) (by decide))
          have z12 := congrArg Int32.toInt (f2665 12 (by decide) (by decide))
          have z19 := congrArg Int32.toInt (f2665 19 (by decide) (by decide))
          have z20 := congrArg Int32.toInt (f2665 20 (by decide) (by decide))
          have z33 := congrArg Int32.toInt (f2665 33 (by decide) (by decide))
          have z39 := congrArg Int32.toInt (f2665 39 (by decide) (by decide))
          have c9 : ∀ k j, (k = 91 ∨ k = 97 ∨ 106 ≤ k) → A k j = A k j := fun k j u => rfl
          have d1 := congrArg Int32.toInt (c9 97 σ (by omega))
          have d2 := congrArg Int32.toInt (c9 97 (1 - σ) (by omega))
          exact kk _ _ _ _ hP2664 (fun j j11 j12 j13 j14 j15 j16 j20 j33 j39 j43 => (f2665 j j13 j14)) ⟨⟨qσ, by omega, by omega, by omega, by omega, by omega, by omega, by omega, by omega, by omega, by omega, by omega, by omega, by omega, by omega, by omega, by omega, by omega, by omega⟩, fun j hj => by rw [c9 91 j (by omega)]; exact q91 j hj, rd_S_congr (A := A) (by omega) (by omega) (fun j g1 g2 => ⟨c9 113 j (by omega), c9 114 j (by omega)⟩) (fun b g1 g2 k g3 g4 => c9 k b (by omega)) (fun k g1 g2 => ⟨c9 106 k (by omega), c9 107 k (by omega)⟩) qS, rd_S_congr (A := A) (by omega) (by omega) (fun j g1 g2 => ⟨c9 113 j (by omega), c9 114 j (by omega)⟩) (fun b g1 g2 k g3 g4 => c9 k b (by omega)) (fun k g1 g2 => ⟨c9 106 k (by omega), c9 107 k (by omega)⟩) qS2⟩ (by omega)
end BX
