/-! PARTIAL: the reference's tokens, exact, 3: the cut, whole (wip/p5/mkr6.py) -/
theorem px_kd_e {X : Nat → Int32} {n p : Nat} (h : n ≤ p) : px_kd X n p = 0 := if_pos h
theorem px_kd_l {X : Nat → Int32} {n p : Nat} (h : p < n) (hl : px_lt (px_c X n p) = true) : px_kd X n p = (if 8 < px_tl X n p then 3 else if px_wd X n p (px_tl X n p) < 24 then 20 + (px_wd X n p (px_tl X n p) : Nat) else 1) := by
  unfold px_kd
  rw [if_neg (by omega), if_pos hl]
  by_cases h8 : 8 < px_tl X n p
  · rw [if_pos h8, if_pos h8]
    rfl
  · rw [if_neg h8, if_neg h8]
    by_cases w : px_wd X n p (px_tl X n p) < 24
    · rw [if_pos w, if_pos w]
      omega
    · rw [if_neg w, if_neg w]
      rfl
theorem px_kd_d {X : Nat → Int32} {n p : Nat} (h : p < n) (hl : ¬ px_lt (px_c X n p) = true) (hd : px_dg (px_c X n p) = true) : px_kd X n p = (if 4 < px_tl X n p then 3 else 2) := by
  unfold px_kd
  rw [if_neg (by omega), if_neg hl, if_pos hd]
theorem px_kd_s {X : Nat → Int32} {n p : Nat} (h : p < n) (hl : ¬ px_lt (px_c X n p) = true) (hd : ¬ px_dg (px_c X n p) = true) : px_kd X n p = px_sg (px_c X n p) := by
  unfold px_kd
  rw [if_neg (by omega), if_neg hl, if_neg hd]
theorem px_tl_l {X : Nat → Int32} {n p : Nat} (hl : px_lt (px_c X n p) = true) : px_tl X n p = px_rn px_lt X n p - p := if_pos hl
theorem px_tl_d {X : Nat → Int32} {n p : Nat} (hl : ¬ px_lt (px_c X n p) = true) (hd : px_dg (px_c X n p) = true) : px_tl X n p = px_rn px_dg X n p - p := by
  unfold px_tl
  rw [if_neg hl, if_pos hd]
theorem px_tl_s {X : Nat → Int32} {n p : Nat} (hl : ¬ px_lt (px_c X n p) = true) (hd : ¬ px_dg (px_c X n p) = true) : px_tl X n p = 1 := by
  unfold px_tl
  rw [if_neg hl, if_neg hd]
theorem px_sg_n {c : Int} : px_sg c ≠ 1 ∧ px_sg c ≠ 2 := by
  unfold px_sg
  (repeat' split) <;> omega
theorem px_at_lt {X : Nat → Int32} {n i j : Nat} (h : i < j) (hi : px_at X n i < n) : px_at X n i < px_at X n j := Nat.lt_of_lt_of_le (px_at_s.2 hi) (px_at_m j (i + 1) h)
theorem px_at_nx {X : Nat → Int32} {n m p p' : Nat} (h : px_at X n m = p) (hp : p < n) (hq : p + px_tl X n p = p') : px_rn px_bl X n p' = px_at X n (m + 1) := by
  show _ = px_rn px_bl X n (px_nx X n (px_at X n m))
  have e : px_nx X n p = p + px_tl X n p := if_neg (by omega)
  rw [h, e, hq]
theorem bu_19_0 : mm_at mt_P 19 0 = some ((0, 1, .aload_n 0, 0, 0, 0, 0), 8, 0, 1, 9, 0, 0, 0) := rfl
theorem bu_19_1 : mm_at mt_P 19 1 = some ((1, 1, .iconst 0, 0, 0, 0, 0), 8, 0, 1, 9, 0, 0, 0) := rfl
theorem bu_19_2 : mm_at mt_P 19 2 = some ((2, 3, .putfield 181, 9, 10, 0, 1227), 8, 0, 1, 9, 0, 0, 0) := rfl
theorem bu_19_5 : mm_at mt_P 19 5 = some ((5, 1, .iconst 0, 0, 0, 0, 0), 8, 0, 1, 9, 0, 0, 0) := rfl
theorem bu_19_6 : mm_at mt_P 19 6 = some ((6, 1, .istore_n 1, 0, 0, 0, 0), 8, 0, 1, 9, 0, 0, 0) := rfl
theorem bu_19_7 : mm_at mt_P 19 7 = some ((7, 1, .aload_n 0, 0, 0, 0, 0), 8, 0, 1, 9, 0, 0, 0) := rfl
theorem bu_19_8 : mm_at mt_P 19 8 = some ((8, 3, .getfield 181, 9, 10, 0, 1227), 8, 0, 1, 9, 0, 0, 0) := rfl
theorem bu_19_11 : mm_at mt_P 19 11 = some ((11, 3, .sipush 400, 0, 0, 0, 0), 8, 0, 1, 9, 0, 0, 0) := rfl
theorem bu_19_14 : mm_at mt_P 19 14 = some ((14, 3, .if_icmp .gt 280, 0, 0, 0, 0), 8, 0, 1, 9, 0, 0, 0) := rfl
theorem bu_19_17 : mm_at mt_P 19 17 = some ((17, 1, .aload_n 0, 0, 0, 0, 0), 8, 0, 1, 9, 0, 0, 0) := rfl
theorem bu_19_18 : mm_at mt_P 19 18 = some ((18, 1, .iload_n 1, 0, 0, 0, 0), 8, 0, 1, 9, 0, 0, 0) := rfl
theorem bu_19_19 : mm_at mt_P 19 19 = some ((19, 3, .invokevirtual 184, 12, 0, 0, 1457), 8, 0, 1, 9, 0, 0, 0) := rfl
theorem bu_19_22 : mm_at mt_P 19 22 = some ((22, 1, .istore_n 2, 0, 0, 0, 0), 8, 0, 1, 9, 0, 0, 0) := rfl
theorem bu_19_23 : mm_at mt_P 19 23 = some ((23, 1, .iload_n 1, 0, 0, 0, 0), 8, 0, 1, 9, 0, 0, 0) := rfl
theorem bu_19_24 : mm_at mt_P 19 24 = some ((24, 1, .aload_n 0, 0, 0, 0, 0), 8, 0, 1, 9, 0, 0, 0) := rfl
theorem bu_19_25 : mm_at mt_P 19 25 = some ((25, 3, .getfield 172, 9, 4, 0, 1221), 8, 0, 1, 9, 0, 0, 0) := rfl
theorem bu_19_28 : mm_at mt_P 19 28 = some ((28, 3, .if_icmp .lt 15, 0, 0, 0, 0), 8, 0, 1, 9, 0, 0, 0) := rfl
theorem bu_19_31 : mm_at mt_P 19 31 = some ((31, 1, .aload_n 0, 0, 0, 0, 0), 8, 0, 1, 9, 0, 0, 0) := rfl
theorem bu_19_32 : mm_at mt_P 19 32 = some ((32, 1, .iconst 0, 0, 0, 0, 0), 8, 0, 1, 9, 0, 0, 0) := rfl
theorem bu_19_33 : mm_at mt_P 19 33 = some ((33, 1, .aload_n 0, 0, 0, 0, 0), 8, 0, 1, 9, 0, 0, 0) := rfl
theorem bu_19_34 : mm_at mt_P 19 34 = some ((34, 3, .getfield 172, 9, 4, 0, 1221), 8, 0, 1, 9, 0, 0, 0) := rfl
theorem bu_19_37 : mm_at mt_P 19 37 = some ((37, 1, .iconst 0, 0, 0, 0, 0), 8, 0, 1, 9, 0, 0, 0) := rfl
theorem bu_19_38 : mm_at mt_P 19 38 = some ((38, 1, .lconst 0, 0, 0, 0, 0), 8, 0, 1, 9, 0, 0, 0) := rfl
theorem bu_19_39 : mm_at mt_P 19 39 = some ((39, 3, .invokevirtual 188, 103, 0, 0, 1461), 8, 0, 1, 9, 0, 0, 0) := rfl
theorem bu_19_42 : mm_at mt_P 19 42 = some ((42, 1, .return_, 0, 0, 0, 0), 8, 0, 1, 9, 0, 0, 0) := rfl
theorem bu_19_43 : mm_at mt_P 19 43 = some ((43, 1, .iload_n 2, 0, 0, 0, 0), 8, 0, 1, 9, 0, 0, 0) := rfl
theorem bu_19_44 : mm_at mt_P 19 44 = some ((44, 2, .bipush 9, 0, 0, 0, 0), 8, 0, 1, 9, 0, 0, 0) := rfl
theorem bu_19_46 : mm_at mt_P 19 46 = some ((46, 3, .if_icmp .eq 21, 0, 0, 0, 0), 8, 0, 1, 9, 0, 0, 0) := rfl
theorem bu_19_49 : mm_at mt_P 19 49 = some ((49, 1, .iload_n 2, 0, 0, 0, 0), 8, 0, 1, 9, 0, 0, 0) := rfl
theorem bu_19_50 : mm_at mt_P 19 50 = some ((50, 2, .bipush 10, 0, 0, 0, 0), 8, 0, 1, 9, 0, 0, 0) := rfl
theorem bu_19_52 : mm_at mt_P 19 52 = some ((52, 3, .if_icmp .eq 15, 0, 0, 0, 0), 8, 0, 1, 9, 0, 0, 0) := rfl
theorem bu_19_55 : mm_at mt_P 19 55 = some ((55, 1, .iload_n 2, 0, 0, 0, 0), 8, 0, 1, 9, 0, 0, 0) := rfl
theorem bu_19_56 : mm_at mt_P 19 56 = some ((56, 2, .bipush 13, 0, 0, 0, 0), 8, 0, 1, 9, 0, 0, 0) := rfl
theorem bu_19_58 : mm_at mt_P 19 58 = some ((58, 3, .if_icmp .eq 9, 0, 0, 0, 0), 8, 0, 1, 9, 0, 0, 0) := rfl
theorem bu_19_61 : mm_at mt_P 19 61 = some ((61, 1, .iload_n 2, 0, 0, 0, 0), 8, 0, 1, 9, 0, 0, 0) := rfl
theorem bu_19_62 : mm_at mt_P 19 62 = some ((62, 2, .bipush 32, 0, 0, 0, 0), 8, 0, 1, 9, 0, 0, 0) := rfl
theorem bu_19_64 : mm_at mt_P 19 64 = some ((64, 3, .if_icmp .ne 9, 0, 0, 0, 0), 8, 0, 1, 9, 0, 0, 0) := rfl
theorem bu_19_67 : mm_at mt_P 19 67 = some ((67, 3, .iinc 1 1, 0, 0, 0, 0), 8, 0, 1, 9, 0, 0, 0) := rfl
theorem bu_19_70 : mm_at mt_P 19 70 = some ((70, 3, .goto 221, 0, 0, 0, 0), 8, 0, 1, 9, 0, 0, 0) := rfl
theorem bu_19_73 : mm_at mt_P 19 73 = some ((73, 1, .iload_n 2, 0, 0, 0, 0), 8, 0, 1, 9, 0, 0, 0) := rfl
theorem bu_19_74 : mm_at mt_P 19 74 = some ((74, 3, .invokestatic 192, 50, 0, 0, 1465), 8, 0, 1, 9, 0, 0, 0) := rfl
theorem bu_19_77 : mm_at mt_P 19 77 = some ((77, 3, .ifCond .eq 119, 0, 0, 0, 0), 8, 0, 1, 9, 0, 0, 0) := rfl
theorem bu_19_80 : mm_at mt_P 19 80 = some ((80, 1, .iconst 0, 0, 0, 0, 0), 8, 0, 1, 9, 0, 0, 0) := rfl
theorem bu_19_81 : mm_at mt_P 19 81 = some ((81, 1, .istore_n 3, 0, 0, 0, 0), 8, 0, 1, 9, 0, 0, 0) := rfl
theorem bu_19_82 : mm_at mt_P 19 82 = some ((82, 1, .lconst 0, 0, 0, 0, 0), 8, 0, 1, 9, 0, 0, 0) := rfl
theorem bu_19_83 : mm_at mt_P 19 83 = some ((83, 2, .lstore 4, 0, 0, 0, 0), 8, 0, 1, 9, 0, 0, 0) := rfl
theorem bu_19_124 : mm_at mt_P 19 124 = some ((124, 1, .iload_n 3, 0, 0, 0, 0), 8, 0, 1, 9, 0, 0, 0) := rfl
theorem bu_19_125 : mm_at mt_P 19 125 = some ((125, 2, .bipush 8, 0, 0, 0, 0), 8, 0, 1, 9, 0, 0, 0) := rfl
theorem bu_19_127 : mm_at mt_P 19 127 = some ((127, 3, .if_icmp .le 7, 0, 0, 0, 0), 8, 0, 1, 9, 0, 0, 0) := rfl
theorem bu_19_130 : mm_at mt_P 19 130 = some ((130, 1, .iconst 3, 0, 0, 0, 0), 8, 0, 1, 9, 0, 0, 0) := rfl
theorem bu_19_131 : mm_at mt_P 19 131 = some ((131, 3, .goto 4, 0, 0, 0, 0), 8, 0, 1, 9, 0, 0, 0) := rfl
theorem bu_19_134 : mm_at mt_P 19 134 = some ((134, 1, .iconst 1, 0, 0, 0, 0), 8, 0, 1, 9, 0, 0, 0) := rfl
theorem bu_19_135 : mm_at mt_P 19 135 = some ((135, 2, .istore 6, 0, 0, 0, 0), 8, 0, 1, 9, 0, 0, 0) := rfl
theorem bu_19_137 : mm_at mt_P 19 137 = some ((137, 1, .iload_n 3, 0, 0, 0, 0), 8, 0, 1, 9, 0, 0, 0) := rfl
theorem bu_19_138 : mm_at mt_P 19 138 = some ((138, 2, .bipush 7, 0, 0, 0, 0), 8, 0, 1, 9, 0, 0, 0) := rfl
theorem bu_19_140 : mm_at mt_P 19 140 = some ((140, 3, .if_icmp .gt 39, 0, 0, 0, 0), 8, 0, 1, 9, 0, 0, 0) := rfl
theorem bu_19_143 : mm_at mt_P 19 143 = some ((143, 1, .iconst 0, 0, 0, 0, 0), 8, 0, 1, 9, 0, 0, 0) := rfl
theorem bu_19_144 : mm_at mt_P 19 144 = some ((144, 2, .istore 7, 0, 0, 0, 0), 8, 0, 1, 9, 0, 0, 0) := rfl
theorem bu_19_179 : mm_at mt_P 19 179 = some ((179, 1, .aload_n 0, 0, 0, 0, 0), 8, 0, 1, 9, 0, 0, 0) := rfl
theorem bu_19_180 : mm_at mt_P 19 180 = some ((180, 2, .iload 6, 0, 0, 0, 0), 8, 0, 1, 9, 0, 0, 0) := rfl
theorem bu_19_182 : mm_at mt_P 19 182 = some ((182, 1, .iload_n 1, 0, 0, 0, 0), 8, 0, 1, 9, 0, 0, 0) := rfl
theorem bu_19_183 : mm_at mt_P 19 183 = some ((183, 1, .iconst 0, 0, 0, 0, 0), 8, 0, 1, 9, 0, 0, 0) := rfl
theorem bu_19_184 : mm_at mt_P 19 184 = some ((184, 2, .lload 4, 0, 0, 0, 0), 8, 0, 1, 9, 0, 0, 0) := rfl
theorem bu_19_186 : mm_at mt_P 19 186 = some ((186, 3, .invokevirtual 188, 103, 0, 0, 1461), 8, 0, 1, 9, 0, 0, 0) := rfl
theorem bu_19_189 : mm_at mt_P 19 189 = some ((189, 1, .iload_n 1, 0, 0, 0, 0), 8, 0, 1, 9, 0, 0, 0) := rfl
theorem bu_19_190 : mm_at mt_P 19 190 = some ((190, 1, .iload_n 3, 0, 0, 0, 0), 8, 0, 1, 9, 0, 0, 0) := rfl
theorem bu_19_191 : mm_at mt_P 19 191 = some ((191, 1, .iadd, 0, 0, 0, 0), 8, 0, 1, 9, 0, 0, 0) := rfl
theorem bu_19_192 : mm_at mt_P 19 192 = some ((192, 1, .istore_n 1, 0, 0, 0, 0), 8, 0, 1, 9, 0, 0, 0) := rfl
theorem bu_19_193 : mm_at mt_P 19 193 = some ((193, 3, .goto 98, 0, 0, 0, 0), 8, 0, 1, 9, 0, 0, 0) := rfl
theorem bu_19_196 : mm_at mt_P 19 196 = some ((196, 1, .iload_n 2, 0, 0, 0, 0), 8, 0, 1, 9, 0, 0, 0) := rfl
theorem bu_19_197 : mm_at mt_P 19 197 = some ((197, 3, .invokestatic 196, 48, 0, 0, 1468), 8, 0, 1, 9, 0, 0, 0) := rfl
theorem bu_19_200 : mm_at mt_P 19 200 = some ((200, 3, .ifCond .eq 75, 0, 0, 0, 0), 8, 0, 1, 9, 0, 0, 0) := rfl
theorem bu_19_203 : mm_at mt_P 19 203 = some ((203, 1, .iconst 0, 0, 0, 0, 0), 8, 0, 1, 9, 0, 0, 0) := rfl
theorem bu_19_204 : mm_at mt_P 19 204 = some ((204, 1, .istore_n 3, 0, 0, 0, 0), 8, 0, 1, 9, 0, 0, 0) := rfl
theorem bu_19_205 : mm_at mt_P 19 205 = some ((205, 1, .iconst 0, 0, 0, 0, 0), 8, 0, 1, 9, 0, 0, 0) := rfl
theorem bu_19_206 : mm_at mt_P 19 206 = some ((206, 2, .istore 4, 0, 0, 0, 0), 8, 0, 1, 9, 0, 0, 0) := rfl
theorem bu_19_250 : mm_at mt_P 19 250 = some ((250, 1, .aload_n 0, 0, 0, 0, 0), 8, 0, 1, 9, 0, 0, 0) := rfl
theorem bu_19_251 : mm_at mt_P 19 251 = some ((251, 1, .iload_n 3, 0, 0, 0, 0), 8, 0, 1, 9, 0, 0, 0) := rfl
theorem bu_19_252 : mm_at mt_P 19 252 = some ((252, 1, .iconst 4, 0, 0, 0, 0), 8, 0, 1, 9, 0, 0, 0) := rfl
theorem bu_19_253 : mm_at mt_P 19 253 = some ((253, 3, .if_icmp .le 7, 0, 0, 0, 0), 8, 0, 1, 9, 0, 0, 0) := rfl
theorem bu_19_256 : mm_at mt_P 19 256 = some ((256, 1, .iconst 3, 0, 0, 0, 0), 8, 0, 1, 9, 0, 0, 0) := rfl
theorem bu_19_257 : mm_at mt_P 19 257 = some ((257, 3, .goto 4, 0, 0, 0, 0), 8, 0, 1, 9, 0, 0, 0) := rfl
theorem bu_19_260 : mm_at mt_P 19 260 = some ((260, 1, .iconst 2, 0, 0, 0, 0), 8, 0, 1, 9, 0, 0, 0) := rfl
theorem bu_19_261 : mm_at mt_P 19 261 = some ((261, 1, .iload_n 1, 0, 0, 0, 0), 8, 0, 1, 9, 0, 0, 0) := rfl
theorem bu_19_262 : mm_at mt_P 19 262 = some ((262, 2, .iload 4, 0, 0, 0, 0), 8, 0, 1, 9, 0, 0, 0) := rfl
theorem bu_19_264 : mm_at mt_P 19 264 = some ((264, 1, .lconst 0, 0, 0, 0, 0), 8, 0, 1, 9, 0, 0, 0) := rfl
theorem bu_19_265 : mm_at mt_P 19 265 = some ((265, 3, .invokevirtual 188, 103, 0, 0, 1461), 8, 0, 1, 9, 0, 0, 0) := rfl
theorem bu_19_268 : mm_at mt_P 19 268 = some ((268, 1, .iload_n 1, 0, 0, 0, 0), 8, 0, 1, 9, 0, 0, 0) := rfl
theorem bu_19_269 : mm_at mt_P 19 269 = some ((269, 1, .iload_n 3, 0, 0, 0, 0), 8, 0, 1, 9, 0, 0, 0) := rfl
theorem bu_19_270 : mm_at mt_P 19 270 = some ((270, 1, .iadd, 0, 0, 0, 0), 8, 0, 1, 9, 0, 0, 0) := rfl
theorem bu_19_271 : mm_at mt_P 19 271 = some ((271, 1, .istore_n 1, 0, 0, 0, 0), 8, 0, 1, 9, 0, 0, 0) := rfl
theorem bu_19_272 : mm_at mt_P 19 272 = some ((272, 3, .goto 19, 0, 0, 0, 0), 8, 0, 1, 9, 0, 0, 0) := rfl
theorem bu_19_275 : mm_at mt_P 19 275 = some ((275, 1, .iload_n 1, 0, 0, 0, 0), 8, 0, 1, 9, 0, 0, 0) := rfl
theorem bu_19_276 : mm_at mt_P 19 276 = some ((276, 1, .aload_n 0, 0, 0, 0, 0), 8, 0, 1, 9, 0, 0, 0) := rfl
theorem bu_19_277 : mm_at mt_P 19 277 = some ((277, 1, .iload_n 1, 0, 0, 0, 0), 8, 0, 1, 9, 0, 0, 0) := rfl
theorem bu_19_278 : mm_at mt_P 19 278 = some ((278, 1, .iload_n 2, 0, 0, 0, 0), 8, 0, 1, 9, 0, 0, 0) := rfl
theorem bu_19_279 : mm_at mt_P 19 279 = some ((279, 1, .aload_n 0, 0, 0, 0, 0), 8, 0, 1, 9, 0, 0, 0) := rfl
theorem bu_19_280 : mm_at mt_P 19 280 = some ((280, 1, .iload_n 1, 0, 0, 0, 0), 8, 0, 1, 9, 0, 0, 0) := rfl
theorem bu_19_281 : mm_at mt_P 19 281 = some ((281, 1, .iconst 1, 0, 0, 0, 0), 8, 0, 1, 9, 0, 0, 0) := rfl
theorem bu_19_282 : mm_at mt_P 19 282 = some ((282, 1, .iadd, 0, 0, 0, 0), 8, 0, 1, 9, 0, 0, 0) := rfl
theorem bu_19_283 : mm_at mt_P 19 283 = some ((283, 3, .invokevirtual 184, 12, 0, 0, 1457), 8, 0, 1, 9, 0, 0, 0) := rfl
theorem bu_19_286 : mm_at mt_P 19 286 = some ((286, 3, .invokevirtual 199, 89, 0, 0, 1471), 8, 0, 1, 9, 0, 0, 0) := rfl
theorem bu_19_289 : mm_at mt_P 19 289 = some ((289, 1, .iadd, 0, 0, 0, 0), 8, 0, 1, 9, 0, 0, 0) := rfl
theorem bu_19_290 : mm_at mt_P 19 290 = some ((290, 1, .istore_n 1, 0, 0, 0, 0), 8, 0, 1, 9, 0, 0, 0) := rfl
theorem bu_19_291 : mm_at mt_P 19 291 = some ((291, 3, .goto (-284), 0, 0, 0, 0), 8, 0, 1, 9, 0, 0, 0) := rfl
theorem bu_19_294 : mm_at mt_P 19 294 = some ((294, 1, .return_, 0, 0, 0, 0), 8, 0, 1, 9, 0, 0, 0) := rfl
section RQB
variable {K V P : Nat → Int} {Q : Nat → Nat → Bool} {σ : py_S} {M : Nat} {ns : List Nat} {oo e : Nat} {E : mm_E} {PO : mm_C → Prop} {NN : Nat} {h0 h : mm_H} {s : Nat → Int32} {A : Nat → Nat → Int32} {L : Nat → Nat → Int64} {gs : List mm_F}
set_option maxHeartbeats 8000000 in
theorem rr_19l {X : Nat → Int32} {n : Nat} {s0 : Nat → Int32} {A0 : Nat → Nat → Int32} {L0 : Nat → Nat → Int64} (hn : (s0 8804).toInt = (n : Int)) (hX : ∀ j, px_c (A0 90) n j = px_c X n j) (hn2 : n ≤ 2000) (hky : ∀ j, j < 24 → (L0 95 j).toInt = (px_ky j : Nat)) : ∀ NN : Nat, (∀ (h' : mm_H) (s' : Nat → Int32) (A' : Nat → Nat → Int32) (L' : Nat → Nat → Int64) (M : Nat), bm_P rz_T E h0 h' s' A' L' → (∀ j, j ≠ 8810 → s' j = s0 j) → (∀ c, c ≠ 91 → c ≠ 92 → c ≠ 93 → A' c = A0 c) → (∀ c, c ≠ 94 → L' c = L0 c) → (s' 8810).toInt = (M : Int) → 0 < M → M ≤ 401 → (∀ j, j < M → j < 400 → px_kd X n (px_at X n j) ≠ 0 → j + 1 < M) → (∀ i j, i < j → j < M → px_at X n i < px_at X n j) → rq_K X n M A' L' → bp_G E PO NN (mm_back none gs h')) → (∀ (h : mm_H) (s : Nat → Int32) (A : Nat → Nat → Int32) (L : Nat → Nat → Int64) (lv : mm_V) (o : Option Value) (i : Int32) (m p : Nat), bm_P rz_T E h0 h s A L → (∀ j, j ≠ 8810 → s j = s0 j) → (∀ c, c ≠ 91 → c ≠ 92 → c ≠ 93 → A c = A0 c) → (∀ c, c ≠ 94 → L c = L0 c) → mm_get lv 0 = some (.ref (E.1 + 88)) → mm_get lv 1 = some (.int i) → (s 8810).toInt = (m : Int) → m ≤ 401 → i.toInt = (p : Int) → p ≤ n → px_rn px_bl X n p = px_at X n m → (∀ j, j < m → px_at X n j < n) → rq_K X n m A L → bp_G E PO NN ((19, 7, lv, [], 0, 0) :: gs, h, o)) := by
  intro NN
  induction NN with
  | zero => intro kk h s A L lv o i m p hP hf hA hL g0 g1 hm hm2 hi hpn0 hat hlt hK; exact bp_zero bu_19_7
  | succ NN ih =>
    intro kk h s A L lv o i m p hP hf hA hL g0 g1 hm hm2 hi hpn0 hat hlt hK
    have kk2 := fun h' s' A' L' M a0 a1 a2 a3 a4 a5 a6 a7 a8 a9 => bp_mono (Nat.le_succ NN) (kk h' s' A' L' M a0 a1 a2 a3 a4 a5 a6 a7 a8 a9)
    have hn' : (s 8804).toInt = (n : Int) := by rw [hf 8804 (by decide)]; exact hn
    have hX' : ∀ j, px_c (A 90) n j = px_c X n j := by rw [hA 90 (by decide) (by decide) (by decide)]; exact hX
    have hky' : ∀ j, j < 24 → (L 95 j).toInt = (px_ky j : Nat) := by rw [hL 95 (by decide)]; exact hky
    refine bp_ld (pc' := 8) bu_19_7 rfl rfl (fun _ _ _ => rfl) g0 rfl ?_
    refine bn_gi (pc' := 11) (K := 8810) bu_19_8 rfl rfl (fun _ _ _ => rfl) hP rz_o88 rz_i88_10 rfl rfl ?_
    refine bp_c (pc' := 14) (n := 400) bu_19_11 rfl rfl (fun _ _ _ => rfl) (by decide) (fun c3741 e3742 => ?_)
    refine bp_ic (pc' := 17) (pt := 294) bu_19_14 rfl rfl (fun k3743 => ?_) (fun k3743 => ?_)
    · replace k3743 : (c3741).toInt < ((s 8810)).toInt := k3743
      refine bp_rv bu_19_294 ?_
      have hmm : m = 401 := by omega
      exact kk _ _ _ _ m hP hf hA hL hm (by omega) hm2 (fun j a b c => by omega) (fun i j a b => px_at_lt a (hlt i (by omega))) hK
    · replace k3743 : ¬ ((c3741).toInt < ((s 8810)).toInt) := k3743
      refine bp_ld (pc' := 18) bu_19_17 rfl rfl (fun _ _ _ => rfl) g0 rfl ?_
      refine bp_ld (pc' := 19) bu_19_18 rfl rfl (fun _ _ _ => rfl) g1 rfl ?_
      refine bn_cvF (pc' := 22) (st := []) (args := [.int i]) bu_19_19 rfl rfl rfl (by decide) hP rz_o88 (by decide) rfl (Nat.le_of_ble_eq_true rfl) (Nat.le_of_ble_eq_true rfl) ?_
      refine rr_12 (n := n) hP hn' (by omega) (fun r3744 e3745 => ?_)
      rw [show (i).toInt.toNat = p by omega, hX'] at e3745
      show bp_G E PO (NN + 1) ((19, 22, lv, [.int r3744], 0, 0) :: gs, h, none)
      refine bp_st (pc' := 23) bu_19_22 rfl rfl (fun _ _ _ => rfl) rfl (by decide) (by decide) (fun lv3746 F3747 g3748 => ?_)
      have g3749 := F3747 0 (.ref (E.1 + 88)) g0 (by decide) (Or.inl rfl)
      have g3750 := F3747 1 (.int i) g1 (by decide) (Or.inl rfl)
      refine bp_ld (pc' := 24) bu_19_23 rfl rfl (fun _ _ _ => rfl) g3750 rfl ?_
      refine bp_ld (pc' := 25) bu_19_24 rfl rfl (fun _ _ _ => rfl) g3749 rfl ?_
      refine bn_gi (pc' := 28) (K := 8804) bu_19_25 rfl rfl (fun _ _ _ => rfl) hP rz_o88 rz_i88_4 rfl rfl ?_
      refine bp_ic (pc' := 31) (pt := 43) bu_19_28 rfl rfl (fun k3751 => ?_) (fun k3751 => ?_)
      · replace k3751 : (i).toInt < ((s 8804)).toInt := k3751
        refine bp_ld (pc' := 44) bu_19_43 rfl rfl (fun _ _ _ => rfl) g3748 rfl ?_
        refine bp_c (pc' := 46) (n := 9) bu_19_44 rfl rfl (fun _ _ _ => rfl) (by decide) (fun c3752 e3753 => ?_)
        refine bp_ic (pc' := 49) (pt := 67) bu_19_46 rfl rfl (fun k3754 => ?_) (fun k3754 => ?_)
        · replace k3754 : (r3744).toInt = (c3752).toInt := k3754
          refine bp_inc (pc' := 70) bu_19_67 rfl (by decide) g3750 (by decide) (by omega) (by omega) (fun lv3755 y3758 F3756 g3757 e3759 => ?_)
          have g3760 := F3756 0 (.ref (E.1 + 88)) g3749 (by decide) (Or.inl rfl)
          have g3761 := F3756 2 (.int r3744) g3748 (by decide) (Or.inl rfl)
          refine bp_go (pc' := 291) bu_19_70 rfl ?_
          refine bp_goD (pc' := 7) bu_19_291 rfl ?_
          exact ih kk2 _ _ _ _ _ _ _ m (p + 1) hP hf hA hL g3760 g3757 hm hm2 (by omega) (by omega) ((px_rn_s (by omega) (px_bl_iff.mpr (by omega))).symm.trans hat) hlt hK
        · replace k3754 : ¬ ((r3744).toInt = (c3752).toInt) := k3754
          refine bp_ld (pc' := 50) bu_19_49 rfl rfl (fun _ _ _ => rfl) g3748 rfl ?_
          refine bp_c (pc' := 52) (n := 10) bu_19_50 rfl rfl (fun _ _ _ => rfl) (by decide) (fun c3762 e3763 => ?_)
          refine bp_ic (pc' := 55) (pt := 67) bu_19_52 rfl rfl (fun k3764 => ?_) (fun k3764 => ?_)
          · replace k3764 : (r3744).toInt = (c3762).toInt := k3764
            refine bp_inc (pc' := 70) bu_19_67 rfl (by decide) g3750 (by decide) (by omega) (by omega) (fun lv3765 y3768 F3766 g3767 e3769 => ?_)
            have g3770 := F3766 0 (.ref (E.1 + 88)) g3749 (by decide) (Or.inl rfl)
            have g3771 := F3766 2 (.int r3744) g3748 (by decide) (Or.inl rfl)
            refine bp_go (pc' := 291) bu_19_70 rfl ?_
            refine bp_goD (pc' := 7) bu_19_291 rfl ?_
            exact ih kk2 _ _ _ _ _ _ _ m (p + 1) hP hf hA hL g3770 g3767 hm hm2 (by omega) (by omega) ((px_rn_s (by omega) (px_bl_iff.mpr (by omega))).symm.trans hat) hlt hK
          · replace k3764 : ¬ ((r3744).toInt = (c3762).toInt) := k3764
            refine bp_ld (pc' := 56) bu_19_55 rfl rfl (fun _ _ _ => rfl) g3748 rfl ?_
            refine bp_c (pc' := 58) (n := 13) bu_19_56 rfl rfl (fun _ _ _ => rfl) (by decide) (fun c3772 e3773 => ?_)
            refine bp_ic (pc' := 61) (pt := 67) bu_19_58 rfl rfl (fun k3774 => ?_) (fun k3774 => ?_)
            · replace k3774 : (r3744).toInt = (c3772).toInt := k3774
              refine bp_inc (pc' := 70) bu_19_67 rfl (by decide) g3750 (by decide) (by omega) (by omega) (fun lv3775 y3778 F3776 g3777 e3779 => ?_)
              have g3780 := F3776 0 (.ref (E.1 + 88)) g3749 (by decide) (Or.inl rfl)
              have g3781 := F3776 2 (.int r3744) g3748 (by decide) (Or.inl rfl)
              refine bp_go (pc' := 291) bu_19_70 rfl ?_
              refine bp_goD (pc' := 7) bu_19_291 rfl ?_
              exact ih kk2 _ _ _ _ _ _ _ m (p + 1) hP hf hA hL g3780 g3777 hm hm2 (by omega) (by omega) ((px_rn_s (by omega) (px_bl_iff.mpr (by omega))).symm.trans hat) hlt hK
            · replace k3774 : ¬ ((r3744).toInt = (c3772).toInt) := k3774
              refine bp_ld (pc' := 62) bu_19_61 rfl rfl (fun _ _ _ => rfl) g3748 rfl ?_
              refine bp_c (pc' := 64) (n := 32) bu_19_62 rfl rfl (fun _ _ _ => rfl) (by decide) (fun c3782 e3783 => ?_)
              refine bp_ic (pc' := 67) (pt := 73) bu_19_64 rfl rfl (fun k3784 => ?_) (fun k3784 => ?_)
              · replace k3784 : (r3744).toInt ≠ (c3782).toInt := k3784
                refine bp_ld (pc' := 74) bu_19_73 rfl rfl (fun _ _ _ => rfl) g3748 rfl ?_
                refine bp_csF (pc' := 77) (st := []) (args := [.int r3744]) bu_19_74 rfl rfl (by decide) rfl (Nat.le_of_ble_eq_true rfl) (Nat.le_of_ble_eq_true rfl) ?_
                refine rr_50 (c := r3744) (fun r3785 p3786 => ?_)
                show bp_G E PO (NN + 1) ((19, 77, lv3746, [.int r3785], 0, 0) :: gs, h, none)
                refine bp_i0 (pc' := 80) (pt := 196) bu_19_77 rfl rfl (fun k3787 => ?_) (fun k3787 => ?_)
                · replace k3787 : (r3785).toInt = 0 := k3787
                  refine bp_ld (pc' := 197) bu_19_196 rfl rfl (fun _ _ _ => rfl) g3748 rfl ?_
                  refine bp_csF (pc' := 200) (st := []) (args := [.int r3744]) bu_19_197 rfl rfl (by decide) rfl (Nat.le_of_ble_eq_true rfl) (Nat.le_of_ble_eq_true rfl) ?_
                  refine rr_48 (c := r3744) (fun r3788 p3789 => ?_)
                  show bp_G E PO (NN + 1) ((19, 200, lv3746, [.int r3788], 0, 0) :: gs, h, none)
                  refine bp_i0 (pc' := 203) (pt := 275) bu_19_200 rfl rfl (fun k3790 => ?_) (fun k3790 => ?_)
                  · replace k3790 : (r3788).toInt = 0 := k3790
                    have hpn : p < n := by omega
                    have hlp : ¬ px_lt (px_c X n p) = true := fun q => by have q := px_lt_iff.mp q; omega
                    have hdp : ¬ px_dg (px_c X n p) = true := fun q => by have q := px_dg_iff.mp q; omega
                    have hc9 := e3745
                    refine bp_ld (pc' := 276) bu_19_275 rfl rfl (fun _ _ _ => rfl) g3750 rfl ?_
                    refine bp_ld (pc' := 277) bu_19_276 rfl rfl (fun _ _ _ => rfl) g3749 rfl ?_
                    refine bp_ld (pc' := 278) bu_19_277 rfl rfl (fun _ _ _ => rfl) g3750 rfl ?_
                    refine bp_ld (pc' := 279) bu_19_278 rfl rfl (fun _ _ _ => rfl) g3748 rfl ?_
                    refine bp_ld (pc' := 280) bu_19_279 rfl rfl (fun _ _ _ => rfl) g3749 rfl ?_
                    refine bp_ld (pc' := 281) bu_19_280 rfl rfl (fun _ _ _ => rfl) g3750 rfl ?_
                    refine bp_c (pc' := 282) (n := 1) bu_19_281 rfl rfl (fun _ _ _ => rfl) (by decide) (fun c3791 e3792 => ?_)
                    refine bp_add (pc' := 283) bu_19_282 rfl (by omega) (by omega) (fun v3793 e3794 => ?_)
                    refine bn_cvF (pc' := 286) (st := [.int r3744, .int i, .ref (E.1 + 88), .int i]) (args := [.int v3793]) bu_19_283 rfl rfl rfl (by decide) hP rz_o88 (by decide) rfl (Nat.le_of_ble_eq_true rfl) (Nat.le_of_ble_eq_true rfl) ?_
                    refine rr_12 (n := n) hP hn' (by omega) (fun r3795 e3796 => ?_)
                    show bp_G E PO (NN + 1) ((19, 286, lv3746, [.int r3795, .int r3744, .int i, .ref (E.1 + 88), .int i], 0, 0) :: gs, h, none)
                    refine bn_cvF (pc' := 289) (st := [.int i]) (args := [.int r3795, .int r3744, .int i]) bu_19_286 rfl rfl rfl (by decide) hP rz_o88 (by decide) rfl (Nat.le_of_ble_eq_true rfl) (Nat.le_of_ble_eq_true rfl) ?_
                    refine rr_89 (i := i) (c := r3744) (d := r3795) hP hm hm2 (fun h3797 s3798 k3799 v3800 x3801 r3802 hP3803 p3804 f3805 e3806 e3807 e3808 => ?_)
                    show bp_G E PO (NN + 1) ((19, 289, lv3746, [.int r3802, .int i], 0, 0) :: gs, h3797, none)
                    refine bp_add (pc' := 290) bu_19_289 rfl (by omega) (by omega) (fun v3809 e3810 => ?_)
                    refine bp_st (pc' := 291) bu_19_290 rfl rfl (fun _ _ _ => rfl) rfl (by decide) (by decide) (fun lv3811 F3812 g3813 => ?_)
                    have g3814 := F3812 0 (.ref (E.1 + 88)) g3749 (by decide) (Or.inl rfl)
                    have g3815 := F3812 2 (.int r3744) g3748 (by decide) (Or.inl rfl)
                    refine bp_goD (pc' := 7) bu_19_291 rfl ?_
                    have hpm : px_at X n m = p := by rw [← hat]; exact px_rn_e (fun q => by have q2 := px_bl_iff.mp q.2; omega)
                    have hkd := px_kd_s hpn hlp hdp
                    have htl := px_tl_s hlp hdp
                    have hsg := px_sg_n (c := px_c X n p)
                    have hck : k3799.toInt = px_kd X n p := by rw [hkd, e3806, hc9]
                    have hK2 := rq_K_s (k := k3799) (w := i) (v := v3800) (x := x3801) hK (by rw [hpm]; exact hck) (by omega) (fun q => by rw [hpm] at q; omega) (fun q => by rw [hpm] at q; omega)
                    have hA2 : ∀ c, c ≠ 91 → c ≠ 92 → c ≠ 93 → (bh_up (bh_up (bh_up A 91 m (mm_nar 0 k3799)) 92 m (mm_nar 0 i)) 93 m (mm_nar 0 v3800)) c = A0 c := fun c c1 c2 c3 => (bh_up_ne c3).trans ((bh_up_ne c2).trans ((bh_up_ne c1).trans (hA c c1 c2 c3)))
                    have hL2 : ∀ c, c ≠ 94 → (bh_upL L 94 m x3801) c = L0 c := fun c c1 => (show _ = L c from if_neg c1).trans (hL c c1)
                    have hf2 : ∀ j, j ≠ 8810 → s3798 j = s0 j := fun j j1 => (f3805 j j1).trans (hf j j1)
                    exact ih kk2 _ _ _ _ _ _ _ (m + 1) (p + 1) hP3803 hf2 hA2 hL2 g3814 g3813 (by omega) (by omega) (by omega) (by omega) (px_at_nx hpm hpn (by omega)) (fun j hj => by
                      by_cases e : j = m
                      · rw [e, hpm]
                        exact hpn
                      · exact hlt j (by omega)) hK2
                  · replace k3790 : ¬ ((r3788).toInt = 0) := k3790
                    refine bp_c (pc' := 204) (n := 0) bu_19_203 rfl rfl (fun _ _ _ => rfl) (by decide) (fun c3816 e3817 => ?_)
                    refine bp_st (pc' := 205) bu_19_204 rfl rfl (fun _ _ _ => rfl) rfl (by decide) (by decide) (fun lv3818 F3819 g3820 => ?_)
                    have g3821 := F3819 0 (.ref (E.1 + 88)) g3749 (by decide) (Or.inl rfl)
                    have g3822 := F3819 1 (.int i) g3750 (by decide) (Or.inl rfl)
                    have g3823 := F3819 2 (.int r3744) g3748 (by decide) (Or.inl rfl)
                    refine bp_c (pc' := 206) (n := 0) bu_19_205 rfl rfl (fun _ _ _ => rfl) (by decide) (fun c3824 e3825 => ?_)
                    refine bp_st (pc' := 208) bu_19_206 rfl rfl (fun _ _ _ => rfl) rfl (by decide) (by decide) (fun lv3826 F3827 g3828 => ?_)
                    have g3829 := F3827 0 (.ref (E.1 + 88)) g3821 (by decide) (Or.inl rfl)
                    have g3830 := F3827 1 (.int i) g3822 (by decide) (Or.inl rfl)
                    have g3831 := F3827 2 (.int r3744) g3823 (by decide) (Or.inl rfl)
                    have g3832 := F3827 3 (.int c3816) g3820 (by decide) (Or.inl rfl)
                    have hpn : p < n := px_dg0 (X := X) (n := n) (j := p) (by omega)
                    have hlp : ¬ px_lt (px_c X n p) = true := fun q => by have q := px_lt_iff.mp q; omega
                    have hdp : px_dg (px_c X n p) = true := px_dg_iff.mpr (by omega)
                    refine rr_19c hP hn' hX' hn2 hi (NN + 1) (fun lv3833 o3834 k v ki g3835 g3836 g3837 g3838 hk hp hl hv hnl => ?_) _ _ _ _ 0 g3829 g3830 g3832 g3828 (by omega) (by omega) (fun j hj => absurd hj (by omega)) (by rw [show px_dv X n p (min 0 4) = 0 from rfl]; omega)
                    have hrn : px_rn px_dg X n p = p + ki := px_rn_k ki p (fun j hj => ⟨px_dg0 (px_dg_iff.mp (hl j hj)).1, hl j hj⟩) (fun q => hnl q.2)
                    have htl : px_tl X n p = ki := by rw [px_tl_d hlp hdp, hrn]; omega
                    refine bp_ld (pc' := 251) bu_19_250 rfl rfl (fun _ _ _ => rfl) g3835 rfl ?_
                    refine bp_ld (pc' := 252) bu_19_251 rfl rfl (fun _ _ _ => rfl) g3837 rfl ?_
                    refine bp_c (pc' := 253) (n := 4) bu_19_252 rfl rfl (fun _ _ _ => rfl) (by decide) (fun c3839 e3840 => ?_)
                    refine bp_ic (pc' := 256) (pt := 260) bu_19_253 rfl rfl (fun k3841 => ?_) (fun k3841 => ?_)
                    · replace k3841 : (k).toInt ≤ (c3839).toInt := k3841
                      refine bp_c (pc' := 261) (n := 2) bu_19_260 rfl rfl (fun _ _ _ => rfl) (by decide) (fun c3842 e3843 => ?_)
                      refine bp_ld (pc' := 262) bu_19_261 rfl rfl (fun _ _ _ => rfl) g3836 rfl ?_
                      refine bp_ld (pc' := 264) bu_19_262 rfl rfl (fun _ _ _ => rfl) g3838 rfl ?_
                      refine bn_cL (pc' := 265) (n := 0) bu_19_264 rfl rfl (fun _ _ _ => rfl) (by decide) (fun x3844 e3845 => ?_)
                      refine bn_cvF (pc' := 268) (st := []) (args := [.long x3844, .int v, .int i, .int c3842]) bu_19_265 rfl rfl rfl (by decide) hP rz_o88 (by decide) rfl (Nat.le_of_ble_eq_true rfl) (Nat.le_of_ble_eq_true rfl) ?_
                      refine rr_103 (k := c3842) (w := i) (v := v) (x := x3844) hP hm hm2 (fun h3846 s3847 hP3848 p3849 f3850 => ?_)
                      show bp_G E PO (NN + 1) ((19, 268, lv3833, [], 0, 0) :: gs, h3846, none)
                      refine bp_ld (pc' := 269) bu_19_268 rfl rfl (fun _ _ _ => rfl) g3836 rfl ?_
                      refine bp_ld (pc' := 270) bu_19_269 rfl rfl (fun _ _ _ => rfl) g3837 rfl ?_
                      refine bp_add (pc' := 271) bu_19_270 rfl (by omega) (by omega) (fun v3851 e3852 => ?_)
                      refine bp_st (pc' := 272) bu_19_271 rfl rfl (fun _ _ _ => rfl) rfl (by decide) (by decide) (fun lv3853 F3854 g3855 => ?_)
                      have g3856 := F3854 0 (.ref (E.1 + 88)) g3835 (by decide) (Or.inl rfl)
                      have g3857 := F3854 3 (.int k) g3837 (by decide) (Or.inl rfl)
                      have g3858 := F3854 4 (.int v) g3838 (by decide) (Or.inl rfl)
                      refine bp_go (pc' := 291) bu_19_272 rfl ?_
                      refine bp_goD (pc' := 7) bu_19_291 rfl ?_
                      have hpm : px_at X n m = p := by rw [← hat]; exact px_rn_e (fun q => by have q2 := px_bl_iff.mp q.2; omega)
                      have hkd := px_kd_d hpn hlp hdp
                      rw [htl] at hkd
                      rw [if_neg (by omega)] at hkd
                      have hK2 := rq_K_s (k := c3842) (w := i) (v := v) (x := x3844) hK (by rw [hpm]; omega) (by omega) (fun q => by rw [hpm] at q ⊢; (rw [show px_vl X n p = px_dv X n p (px_tl X n p) from if_pos q, htl]; rw [show min ki 4 = ki by omega] at hv; exact hv)) (fun q => by rw [hpm] at q; omega)
                      have hA2 : ∀ c, c ≠ 91 → c ≠ 92 → c ≠ 93 → (bh_up (bh_up (bh_up A 91 m (mm_nar 0 c3842)) 92 m (mm_nar 0 i)) 93 m (mm_nar 0 v)) c = A0 c := fun c c1 c2 c3 => (bh_up_ne c3).trans ((bh_up_ne c2).trans ((bh_up_ne c1).trans (hA c c1 c2 c3)))
                      have hL2 : ∀ c, c ≠ 94 → (bh_upL L 94 m x3844) c = L0 c := fun c c1 => (show _ = L c from if_neg c1).trans (hL c c1)
                      have hf2 : ∀ j, j ≠ 8810 → s3847 j = s0 j := fun j j1 => (f3850 j j1).trans (hf j j1)
                      exact ih kk2 _ _ _ _ _ _ _ (m + 1) (p + ki) hP3848 hf2 hA2 hL2 g3856 g3855 (by omega) (by omega) (by omega) (by omega) (px_at_nx hpm hpn (by omega)) (fun j hj => by
                        by_cases e : j = m
                        · rw [e, hpm]
                          exact hpn
                        · exact hlt j (by omega)) hK2
                    · replace k3841 : ¬ ((k).toInt ≤ (c3839).toInt) := k3841
                      refine bp_c (pc' := 257) (n := 3) bu_19_256 rfl rfl (fun _ _ _ => rfl) (by decide) (fun c3859 e3860 => ?_)
                      refine bp_go (pc' := 261) bu_19_257 rfl ?_
                      refine bp_ld (pc' := 262) bu_19_261 rfl rfl (fun _ _ _ => rfl) g3836 rfl ?_
                      refine bp_ld (pc' := 264) bu_19_262 rfl rfl (fun _ _ _ => rfl) g3838 rfl ?_
                      refine bn_cL (pc' := 265) (n := 0) bu_19_264 rfl rfl (fun _ _ _ => rfl) (by decide) (fun x3861 e3862 => ?_)
                      refine bn_cvF (pc' := 268) (st := []) (args := [.long x3861, .int v, .int i, .int c3859]) bu_19_265 rfl rfl rfl (by decide) hP rz_o88 (by decide) rfl (Nat.le_of_ble_eq_true rfl) (Nat.le_of_ble_eq_true rfl) ?_
                      refine rr_103 (k := c3859) (w := i) (v := v) (x := x3861) hP hm hm2 (fun h3863 s3864 hP3865 p3866 f3867 => ?_)
                      show bp_G E PO (NN + 1) ((19, 268, lv3833, [], 0, 0) :: gs, h3863, none)
                      refine bp_ld (pc' := 269) bu_19_268 rfl rfl (fun _ _ _ => rfl) g3836 rfl ?_
                      refine bp_ld (pc' := 270) bu_19_269 rfl rfl (fun _ _ _ => rfl) g3837 rfl ?_
                      refine bp_add (pc' := 271) bu_19_270 rfl (by omega) (by omega) (fun v3868 e3869 => ?_)
                      refine bp_st (pc' := 272) bu_19_271 rfl rfl (fun _ _ _ => rfl) rfl (by decide) (by decide) (fun lv3870 F3871 g3872 => ?_)
                      have g3873 := F3871 0 (.ref (E.1 + 88)) g3835 (by decide) (Or.inl rfl)
                      have g3874 := F3871 3 (.int k) g3837 (by decide) (Or.inl rfl)
                      have g3875 := F3871 4 (.int v) g3838 (by decide) (Or.inl rfl)
                      refine bp_go (pc' := 291) bu_19_272 rfl ?_
                      refine bp_goD (pc' := 7) bu_19_291 rfl ?_
                      have hpm : px_at X n m = p := by rw [← hat]; exact px_rn_e (fun q => by have q2 := px_bl_iff.mp q.2; omega)
                      have hkd := px_kd_d hpn hlp hdp
                      rw [htl] at hkd
                      rw [if_pos (by omega)] at hkd
                      have hK2 := rq_K_s (k := c3859) (w := i) (v := v) (x := x3861) hK (by rw [hpm]; omega) (by omega) (fun q => by rw [hpm] at q ⊢; omega) (fun q => by rw [hpm] at q; omega)
                      have hA2 : ∀ c, c ≠ 91 → c ≠ 92 → c ≠ 93 → (bh_up (bh_up (bh_up A 91 m (mm_nar 0 c3859)) 92 m (mm_nar 0 i)) 93 m (mm_nar 0 v)) c = A0 c := fun c c1 c2 c3 => (bh_up_ne c3).trans ((bh_up_ne c2).trans ((bh_up_ne c1).trans (hA c c1 c2 c3)))
                      have hL2 : ∀ c, c ≠ 94 → (bh_upL L 94 m x3861) c = L0 c := fun c c1 => (show _ = L c from if_neg c1).trans (hL c c1)
                      have hf2 : ∀ j, j ≠ 8810 → s3864 j = s0 j := fun j j1 => (f3867 j j1).trans (hf j j1)
                      exact ih kk2 _ _ _ _ _ _ _ (m + 1) (p + ki) hP3865 hf2 hA2 hL2 g3873 g3872 (by omega) (by omega) (by omega) (by omega) (px_at_nx hpm hpn (by omega)) (fun j hj => by
                        by_cases e : j = m
                        · rw [e, hpm]
                          exact hpn
                        · exact hlt j (by omega)) hK2
                · replace k3787 : ¬ ((r3785).toInt = 0) := k3787
                  refine bp_c (pc' := 81) (n := 0) bu_19_80 rfl rfl (fun _ _ _ => rfl) (by decide) (fun c3876 e3877 => ?_)
                  refine bp_st (pc' := 82) bu_19_81 rfl rfl (fun _ _ _ => rfl) rfl (by decide) (by decide) (fun lv3878 F3879 g3880 => ?_)
                  have g3881 := F3879 0 (.ref (E.1 + 88)) g3749 (by decide) (Or.inl rfl)
                  have g3882 := F3879 1 (.int i) g3750 (by decide) (Or.inl rfl)
                  have g3883 := F3879 2 (.int r3744) g3748 (by decide) (Or.inl rfl)
                  refine bn_cL (pc' := 83) (n := 0) bu_19_82 rfl rfl (fun _ _ _ => rfl) (by decide) (fun x3884 e3885 => ?_)
                  refine bp_stL (pc' := 85) bu_19_83 rfl rfl (fun _ _ _ => rfl) (by decide) (fun lv3886 F3887 g3888 => ?_)
                  have g3889 := F3887 0 (.ref (E.1 + 88)) g3881 (by decide) (by decide) (Or.inl rfl)
                  have g3890 := F3887 1 (.int i) g3882 (by decide) (by decide) (Or.inl rfl)
                  have g3891 := F3887 2 (.int r3744) g3883 (by decide) (by decide) (Or.inl rfl)
                  have g3892 := F3887 3 (.int c3876) g3880 (by decide) (by decide) (Or.inl rfl)
                  have hpn : p < n := px_lt0 (X := X) (n := n) (j := p) (by omega)
                  have hlp : px_lt (px_c X n p) = true := px_lt_iff.mpr (by omega)
                  refine rr_19a hP hn' hX' hn2 hi (NN + 1) (fun lv3893 o3894 k x ki g3898 g3899 g3900 g3901 hk hp hl hx hnl => ?_) _ _ _ _ 0 g3889 g3890 g3892 g3888 (by omega) (by omega) (fun j hj => absurd hj (by omega)) (by rw [show px_nm 27 X n p (min 0 8) = 0 from rfl]; omega)
                  have hrn : px_rn px_lt X n p = p + ki := px_rn_k ki p (fun j hj => ⟨px_lt0 (px_lt_iff.mp (hl j hj)).1, hl j hj⟩) (fun q => hnl q.2)
                  have htl : px_tl X n p = ki := by rw [px_tl_l hlp, hrn]; omega
                  refine bp_ld (pc' := 125) bu_19_124 rfl rfl (fun _ _ _ => rfl) g3900 rfl ?_
                  refine bp_c (pc' := 127) (n := 8) bu_19_125 rfl rfl (fun _ _ _ => rfl) (by decide) (fun c3902 e3903 => ?_)
                  refine bp_ic (pc' := 130) (pt := 134) bu_19_127 rfl rfl (fun k3904 => ?_) (fun k3904 => ?_)
                  · replace k3904 : (k).toInt ≤ (c3902).toInt := k3904
                    refine bp_c (pc' := 135) (n := 1) bu_19_134 rfl rfl (fun _ _ _ => rfl) (by decide) (fun c3905 e3906 => ?_)
                    refine bp_st (pc' := 137) bu_19_135 rfl rfl (fun _ _ _ => rfl) rfl (by decide) (by decide) (fun lv3907 F3908 g3909 => ?_)
                    have g3910 := F3908 0 (.ref (E.1 + 88)) g3898 (by decide) (Or.inl rfl)
                    have g3911 := F3908 1 (.int i) g3899 (by decide) (Or.inl rfl)
                    have g3912 := F3908 3 (.int k) g3900 (by decide) (Or.inl rfl)
                    have g3913 := F3908 4 (.long x) g3901 (by decide) (Or.inr (by decide))
                    refine bp_ld (pc' := 138) bu_19_137 rfl rfl (fun _ _ _ => rfl) g3912 rfl ?_
                    refine bp_c (pc' := 140) (n := 7) bu_19_138 rfl rfl (fun _ _ _ => rfl) (by decide) (fun c3914 e3915 => ?_)
                    refine bp_ic (pc' := 143) (pt := 179) bu_19_140 rfl rfl (fun k3916 => ?_) (fun k3916 => ?_)
                    · replace k3916 : (c3914).toInt < (k).toInt := k3916
                      refine bp_ld (pc' := 180) bu_19_179 rfl rfl (fun _ _ _ => rfl) g3910 rfl ?_
                      refine bp_ld (pc' := 182) bu_19_180 rfl rfl (fun _ _ _ => rfl) g3909 rfl ?_
                      refine bp_ld (pc' := 183) bu_19_182 rfl rfl (fun _ _ _ => rfl) g3911 rfl ?_
                      refine bp_c (pc' := 184) (n := 0) bu_19_183 rfl rfl (fun _ _ _ => rfl) (by decide) (fun c3917 e3918 => ?_)
                      refine bp_ld (pc' := 186) bu_19_184 rfl rfl (fun _ _ _ => rfl) g3913 rfl ?_
                      refine bn_cvF (pc' := 189) (st := []) (args := [.long x, .int c3917, .int i, .int c3905]) bu_19_186 rfl rfl rfl (by decide) hP rz_o88 (by decide) rfl (Nat.le_of_ble_eq_true rfl) (Nat.le_of_ble_eq_true rfl) ?_
                      refine rr_103 (k := c3905) (w := i) (v := c3917) (x := x) hP hm hm2 (fun h3919 s3920 hP3921 p3922 f3923 => ?_)
                      show bp_G E PO (NN + 1) ((19, 189, lv3907, [], 0, 0) :: gs, h3919, none)
                      refine bp_ld (pc' := 190) bu_19_189 rfl rfl (fun _ _ _ => rfl) g3911 rfl ?_
                      refine bp_ld (pc' := 191) bu_19_190 rfl rfl (fun _ _ _ => rfl) g3912 rfl ?_
                      refine bp_add (pc' := 192) bu_19_191 rfl (by omega) (by omega) (fun v3924 e3925 => ?_)
                      refine bp_st (pc' := 193) bu_19_192 rfl rfl (fun _ _ _ => rfl) rfl (by decide) (by decide) (fun lv3926 F3927 g3928 => ?_)
                      have g3929 := F3927 0 (.ref (E.1 + 88)) g3910 (by decide) (Or.inl rfl)
                      have g3930 := F3927 3 (.int k) g3912 (by decide) (Or.inl rfl)
                      have g3931 := F3927 4 (.long x) g3913 (by decide) (Or.inr (by decide))
                      have g3932 := F3927 6 (.int c3905) g3909 (by decide) (Or.inl rfl)
                      refine bp_go (pc' := 291) bu_19_193 rfl ?_
                      refine bp_goD (pc' := 7) bu_19_291 rfl ?_
                      have hpm : px_at X n m = p := by rw [← hat]; exact px_rn_e (fun q => by have q2 := px_bl_iff.mp q.2; omega)
                      have hkd := px_kd_l hpn hlp
                      rw [htl] at hkd
                      rw [if_neg (by omega)] at hkd
                      rw [px_wd_8 (by omega), if_neg (by decide)] at hkd
                      have hK2 := rq_K_s (k := c3905) (w := i) (v := c3917) (x := x) hK (by rw [hpm]; omega) (by omega) (fun q => by rw [hpm, hkd] at q; omega) (fun q => by rw [hpm] at q ⊢; rw [htl]; (rw [show min ki 8 = ki by omega] at hx); exact hx)
                      have hA2 : ∀ c, c ≠ 91 → c ≠ 92 → c ≠ 93 → (bh_up (bh_up (bh_up A 91 m (mm_nar 0 c3905)) 92 m (mm_nar 0 i)) 93 m (mm_nar 0 c3917)) c = A0 c := fun c c1 c2 c3 => (bh_up_ne c3).trans ((bh_up_ne c2).trans ((bh_up_ne c1).trans (hA c c1 c2 c3)))
                      have hL2 : ∀ c, c ≠ 94 → (bh_upL L 94 m x) c = L0 c := fun c c1 => (show _ = L c from if_neg c1).trans (hL c c1)
                      have hf2 : ∀ j, j ≠ 8810 → s3920 j = s0 j := fun j j1 => (f3923 j j1).trans (hf j j1)
                      exact ih kk2 _ _ _ _ _ _ _ (m + 1) (p + ki) hP3921 hf2 hA2 hL2 g3929 g3928 (by omega) (by omega) (by omega) (by omega) (px_at_nx hpm hpn (by omega)) (fun j hj => by
                        by_cases e : j = m
                        · rw [e, hpm]
                          exact hpn
                        · exact hlt j (by omega)) hK2
                    · replace k3916 : ¬ ((c3914).toInt < (k).toInt) := k3916
                      refine bp_c (pc' := 144) (n := 0) bu_19_143 rfl rfl (fun _ _ _ => rfl) (by decide) (fun c3933 e3934 => ?_)
                      refine bp_st (pc' := 146) bu_19_144 rfl rfl (fun _ _ _ => rfl) rfl (by decide) (by decide) (fun lv3935 F3936 g3937 => ?_)
                      have g3938 := F3936 0 (.ref (E.1 + 88)) g3910 (by decide) (Or.inl rfl)
                      have g3939 := F3936 1 (.int i) g3911 (by decide) (Or.inl rfl)
                      have g3940 := F3936 3 (.int k) g3912 (by decide) (Or.inl rfl)
                      have g3941 := F3936 4 (.long x) g3913 (by decide) (Or.inr (by decide))
                      have g3942 := F3936 6 (.int c3905) g3909 (by decide) (Or.inl rfl)
                      have hx7 := hx
                      rw [show min ki 8 = ki by omega] at hx7
                      refine rr_19b (X := X) (n := n) (p := p) (len := ki) hP hky' hl hx7 (NN + 1) (fun lv3943 o3944 kd g3945 g3946 g3947 g3948 g3949 hkd6 => ?_) _ _ _ _ 0 g3938 g3939 g3940 g3941 g3942 g3937 (by omega) (by omega) (Or.inl ⟨by omega, fun j hj => absurd hj (by omega)⟩)
                      refine bp_ld (pc' := 180) bu_19_179 rfl rfl (fun _ _ _ => rfl) g3945 rfl ?_
                      refine bp_ld (pc' := 182) bu_19_180 rfl rfl (fun _ _ _ => rfl) g3949 rfl ?_
                      refine bp_ld (pc' := 183) bu_19_182 rfl rfl (fun _ _ _ => rfl) g3946 rfl ?_
                      refine bp_c (pc' := 184) (n := 0) bu_19_183 rfl rfl (fun _ _ _ => rfl) (by decide) (fun c3950 e3951 => ?_)
                      refine bp_ld (pc' := 186) bu_19_184 rfl rfl (fun _ _ _ => rfl) g3948 rfl ?_
                      refine bn_cvF (pc' := 189) (st := []) (args := [.long x, .int c3950, .int i, .int kd]) bu_19_186 rfl rfl rfl (by decide) hP rz_o88 (by decide) rfl (Nat.le_of_ble_eq_true rfl) (Nat.le_of_ble_eq_true rfl) ?_
                      refine rr_103 (k := kd) (w := i) (v := c3950) (x := x) hP hm hm2 (fun h3952 s3953 hP3954 p3955 f3956 => ?_)
                      show bp_G E PO (NN + 1) ((19, 189, lv3943, [], 0, 0) :: gs, h3952, none)
                      refine bp_ld (pc' := 190) bu_19_189 rfl rfl (fun _ _ _ => rfl) g3946 rfl ?_
                      refine bp_ld (pc' := 191) bu_19_190 rfl rfl (fun _ _ _ => rfl) g3947 rfl ?_
                      refine bp_add (pc' := 192) bu_19_191 rfl (by omega) (by omega) (fun v3957 e3958 => ?_)
                      refine bp_st (pc' := 193) bu_19_192 rfl rfl (fun _ _ _ => rfl) rfl (by decide) (by decide) (fun lv3959 F3960 g3961 => ?_)
                      have g3962 := F3960 0 (.ref (E.1 + 88)) g3945 (by decide) (Or.inl rfl)
                      have g3963 := F3960 3 (.int k) g3947 (by decide) (Or.inl rfl)
                      have g3964 := F3960 4 (.long x) g3948 (by decide) (Or.inr (by decide))
                      have g3965 := F3960 6 (.int kd) g3949 (by decide) (Or.inl rfl)
                      refine bp_go (pc' := 291) bu_19_193 rfl ?_
                      refine bp_goD (pc' := 7) bu_19_291 rfl ?_
                      have hpm : px_at X n m = p := by rw [← hat]; exact px_rn_e (fun q => by have q2 := px_bl_iff.mp q.2; omega)
                      have hkd := px_kd_l hpn hlp
                      rw [htl] at hkd
                      rw [if_neg (by omega)] at hkd
                      have hK2 := rq_K_s (k := kd) (w := i) (v := c3950) (x := x) hK (by rw [hpm]; omega) (by omega) (fun q => by rw [hpm, hkd] at q; split at q <;> omega) (fun q => by rw [hpm] at q ⊢; rw [htl]; (rw [show min ki 8 = ki by omega] at hx); exact hx)
                      have hA2 : ∀ c, c ≠ 91 → c ≠ 92 → c ≠ 93 → (bh_up (bh_up (bh_up A 91 m (mm_nar 0 kd)) 92 m (mm_nar 0 i)) 93 m (mm_nar 0 c3950)) c = A0 c := fun c c1 c2 c3 => (bh_up_ne c3).trans ((bh_up_ne c2).trans ((bh_up_ne c1).trans (hA c c1 c2 c3)))
                      have hL2 : ∀ c, c ≠ 94 → (bh_upL L 94 m x) c = L0 c := fun c c1 => (show _ = L c from if_neg c1).trans (hL c c1)
                      have hf2 : ∀ j, j ≠ 8810 → s3953 j = s0 j := fun j j1 => (f3956 j j1).trans (hf j j1)
                      exact ih kk2 _ _ _ _ _ _ _ (m + 1) (p + ki) hP3954 hf2 hA2 hL2 g3962 g3961 (by omega) (by omega) (by omega) (by omega) (px_at_nx hpm hpn (by omega)) (fun j hj => by
                        by_cases e : j = m
                        · rw [e, hpm]
                          exact hpn
                        · exact hlt j (by omega)) hK2
                  · replace k3904 : ¬ ((k).toInt ≤ (c3902).toInt) := k3904
                    refine bp_c (pc' := 131) (n := 3) bu_19_130 rfl rfl (fun _ _ _ => rfl) (by decide) (fun c3966 e3967 => ?_)
                    refine bp_go (pc' := 135) bu_19_131 rfl ?_
                    refine bp_st (pc' := 137) bu_19_135 rfl rfl (fun _ _ _ => rfl) rfl (by decide) (by decide) (fun lv3968 F3969 g3970 => ?_)
                    have g3971 := F3969 0 (.ref (E.1 + 88)) g3898 (by decide) (Or.inl rfl)
                    have g3972 := F3969 1 (.int i) g3899 (by decide) (Or.inl rfl)
                    have g3973 := F3969 3 (.int k) g3900 (by decide) (Or.inl rfl)
                    have g3974 := F3969 4 (.long x) g3901 (by decide) (Or.inr (by decide))
                    refine bp_ld (pc' := 138) bu_19_137 rfl rfl (fun _ _ _ => rfl) g3973 rfl ?_
                    refine bp_c (pc' := 140) (n := 7) bu_19_138 rfl rfl (fun _ _ _ => rfl) (by decide) (fun c3975 e3976 => ?_)
                    refine bp_ic (pc' := 143) (pt := 179) bu_19_140 rfl rfl (fun k3977 => ?_) (fun k3977 => ?_)
                    · replace k3977 : (c3975).toInt < (k).toInt := k3977
                      refine bp_ld (pc' := 180) bu_19_179 rfl rfl (fun _ _ _ => rfl) g3971 rfl ?_
                      refine bp_ld (pc' := 182) bu_19_180 rfl rfl (fun _ _ _ => rfl) g3970 rfl ?_
                      refine bp_ld (pc' := 183) bu_19_182 rfl rfl (fun _ _ _ => rfl) g3972 rfl ?_
                      refine bp_c (pc' := 184) (n := 0) bu_19_183 rfl rfl (fun _ _ _ => rfl) (by decide) (fun c3978 e3979 => ?_)
                      refine bp_ld (pc' := 186) bu_19_184 rfl rfl (fun _ _ _ => rfl) g3974 rfl ?_
                      refine bn_cvF (pc' := 189) (st := []) (args := [.long x, .int c3978, .int i, .int c3966]) bu_19_186 rfl rfl rfl (by decide) hP rz_o88 (by decide) rfl (Nat.le_of_ble_eq_true rfl) (Nat.le_of_ble_eq_true rfl) ?_
                      refine rr_103 (k := c3966) (w := i) (v := c3978) (x := x) hP hm hm2 (fun h3980 s3981 hP3982 p3983 f3984 => ?_)
                      show bp_G E PO (NN + 1) ((19, 189, lv3968, [], 0, 0) :: gs, h3980, none)
                      refine bp_ld (pc' := 190) bu_19_189 rfl rfl (fun _ _ _ => rfl) g3972 rfl ?_
                      refine bp_ld (pc' := 191) bu_19_190 rfl rfl (fun _ _ _ => rfl) g3973 rfl ?_
                      refine bp_add (pc' := 192) bu_19_191 rfl (by omega) (by omega) (fun v3985 e3986 => ?_)
                      refine bp_st (pc' := 193) bu_19_192 rfl rfl (fun _ _ _ => rfl) rfl (by decide) (by decide) (fun lv3987 F3988 g3989 => ?_)
                      have g3990 := F3988 0 (.ref (E.1 + 88)) g3971 (by decide) (Or.inl rfl)
                      have g3991 := F3988 3 (.int k) g3973 (by decide) (Or.inl rfl)
                      have g3992 := F3988 4 (.long x) g3974 (by decide) (Or.inr (by decide))
                      have g3993 := F3988 6 (.int c3966) g3970 (by decide) (Or.inl rfl)
                      refine bp_go (pc' := 291) bu_19_193 rfl ?_
                      refine bp_goD (pc' := 7) bu_19_291 rfl ?_
                      have hpm : px_at X n m = p := by rw [← hat]; exact px_rn_e (fun q => by have q2 := px_bl_iff.mp q.2; omega)
                      have hkd := px_kd_l hpn hlp
                      rw [htl] at hkd
                      rw [if_pos (by omega)] at hkd
                      have hK2 := rq_K_s (k := c3966) (w := i) (v := c3978) (x := x) hK (by rw [hpm]; omega) (by omega) (fun q => by rw [hpm, hkd] at q; omega) (fun q => by rw [hpm] at q ⊢; rw [htl]; omega)
                      have hA2 : ∀ c, c ≠ 91 → c ≠ 92 → c ≠ 93 → (bh_up (bh_up (bh_up A 91 m (mm_nar 0 c3966)) 92 m (mm_nar 0 i)) 93 m (mm_nar 0 c3978)) c = A0 c := fun c c1 c2 c3 => (bh_up_ne c3).trans ((bh_up_ne c2).trans ((bh_up_ne c1).trans (hA c c1 c2 c3)))
                      have hL2 : ∀ c, c ≠ 94 → (bh_upL L 94 m x) c = L0 c := fun c c1 => (show _ = L c from if_neg c1).trans (hL c c1)
                      have hf2 : ∀ j, j ≠ 8810 → s3981 j = s0 j := fun j j1 => (f3984 j j1).trans (hf j j1)
                      exact ih kk2 _ _ _ _ _ _ _ (m + 1) (p + ki) hP3982 hf2 hA2 hL2 g3990 g3989 (by omega) (by omega) (by omega) (by omega) (px_at_nx hpm hpn (by omega)) (fun j hj => by
                        by_cases e : j = m
                        · rw [e, hpm]
                          exact hpn
                        · exact hlt j (by omega)) hK2
                    · replace k3977 : ¬ ((c3975).toInt < (k).toInt) := k3977
                      refine bp_c (pc' := 144) (n := 0) bu_19_143 rfl rfl (fun _ _ _ => rfl) (by decide) (fun c3994 e3995 => ?_)
                      refine bp_st (pc' := 146) bu_19_144 rfl rfl (fun _ _ _ => rfl) rfl (by decide) (by decide) (fun lv3996 F3997 g3998 => ?_)
                      have g3999 := F3997 0 (.ref (E.1 + 88)) g3971 (by decide) (Or.inl rfl)
                      have g4000 := F3997 1 (.int i) g3972 (by decide) (Or.inl rfl)
                      have g4001 := F3997 3 (.int k) g3973 (by decide) (Or.inl rfl)
                      have g4002 := F3997 4 (.long x) g3974 (by decide) (Or.inr (by decide))
                      have g4003 := F3997 6 (.int c3966) g3970 (by decide) (Or.inl rfl)
                      have hx7 := hx
                      rw [show min ki 8 = ki by omega] at hx7
                      refine rr_19b (X := X) (n := n) (p := p) (len := ki) hP hky' hl hx7 (NN + 1) (fun lv4004 o4005 kd g4006 g4007 g4008 g4009 g4010 hkd6 => ?_) _ _ _ _ 0 g3999 g4000 g4001 g4002 g4003 g3998 (by omega) (by omega) (Or.inl ⟨by omega, fun j hj => absurd hj (by omega)⟩)
                      refine bp_ld (pc' := 180) bu_19_179 rfl rfl (fun _ _ _ => rfl) g4006 rfl ?_
                      refine bp_ld (pc' := 182) bu_19_180 rfl rfl (fun _ _ _ => rfl) g4010 rfl ?_
                      refine bp_ld (pc' := 183) bu_19_182 rfl rfl (fun _ _ _ => rfl) g4007 rfl ?_
                      refine bp_c (pc' := 184) (n := 0) bu_19_183 rfl rfl (fun _ _ _ => rfl) (by decide) (fun c4011 e4012 => ?_)
                      refine bp_ld (pc' := 186) bu_19_184 rfl rfl (fun _ _ _ => rfl) g4009 rfl ?_
                      refine bn_cvF (pc' := 189) (st := []) (args := [.long x, .int c4011, .int i, .int kd]) bu_19_186 rfl rfl rfl (by decide) hP rz_o88 (by decide) rfl (Nat.le_of_ble_eq_true rfl) (Nat.le_of_ble_eq_true rfl) ?_
                      refine rr_103 (k := kd) (w := i) (v := c4011) (x := x) hP hm hm2 (fun h4013 s4014 hP4015 p4016 f4017 => ?_)
                      show bp_G E PO (NN + 1) ((19, 189, lv4004, [], 0, 0) :: gs, h4013, none)
                      refine bp_ld (pc' := 190) bu_19_189 rfl rfl (fun _ _ _ => rfl) g4007 rfl ?_
                      refine bp_ld (pc' := 191) bu_19_190 rfl rfl (fun _ _ _ => rfl) g4008 rfl ?_
                      refine bp_add (pc' := 192) bu_19_191 rfl (by omega) (by omega) (fun v4018 e4019 => ?_)
                      refine bp_st (pc' := 193) bu_19_192 rfl rfl (fun _ _ _ => rfl) rfl (by decide) (by decide) (fun lv4020 F4021 g4022 => ?_)
                      have g4023 := F4021 0 (.ref (E.1 + 88)) g4006 (by decide) (Or.inl rfl)
                      have g4024 := F4021 3 (.int k) g4008 (by decide) (Or.inl rfl)
                      have g4025 := F4021 4 (.long x) g4009 (by decide) (Or.inr (by decide))
                      have g4026 := F4021 6 (.int kd) g4010 (by decide) (Or.inl rfl)
                      refine bp_go (pc' := 291) bu_19_193 rfl ?_
                      refine bp_goD (pc' := 7) bu_19_291 rfl ?_
                      have hpm : px_at X n m = p := by rw [← hat]; exact px_rn_e (fun q => by have q2 := px_bl_iff.mp q.2; omega)
                      have hkd := px_kd_l hpn hlp
                      rw [htl] at hkd
                      rw [if_neg (by omega)] at hkd
                      have hK2 := rq_K_s (k := kd) (w := i) (v := c4011) (x := x) hK (by rw [hpm]; omega) (by omega) (fun q => by rw [hpm, hkd] at q; split at q <;> omega) (fun q => by rw [hpm] at q ⊢; rw [htl]; (rw [show min ki 8 = ki by omega] at hx); exact hx)
                      have hA2 : ∀ c, c ≠ 91 → c ≠ 92 → c ≠ 93 → (bh_up (bh_up (bh_up A 91 m (mm_nar 0 kd)) 92 m (mm_nar 0 i)) 93 m (mm_nar 0 c4011)) c = A0 c := fun c c1 c2 c3 => (bh_up_ne c3).trans ((bh_up_ne c2).trans ((bh_up_ne c1).trans (hA c c1 c2 c3)))
                      have hL2 : ∀ c, c ≠ 94 → (bh_upL L 94 m x) c = L0 c := fun c c1 => (show _ = L c from if_neg c1).trans (hL c c1)
                      have hf2 : ∀ j, j ≠ 8810 → s4014 j = s0 j := fun j j1 => (f4017 j j1).trans (hf j j1)
                      exact ih kk2 _ _ _ _ _ _ _ (m + 1) (p + ki) hP4015 hf2 hA2 hL2 g4023 g4022 (by omega) (by omega) (by omega) (by omega) (px_at_nx hpm hpn (by omega)) (fun j hj => by
                        by_cases e : j = m
                        · rw [e, hpm]
                          exact hpn
                        · exact hlt j (by omega)) hK2
              · replace k3784 : ¬ ((r3744).toInt ≠ (c3782).toInt) := k3784
                refine bp_inc (pc' := 70) bu_19_67 rfl (by decide) g3750 (by decide) (by omega) (by omega) (fun lv4027 y4030 F4028 g4029 e4031 => ?_)
                have g4032 := F4028 0 (.ref (E.1 + 88)) g3749 (by decide) (Or.inl rfl)
                have g4033 := F4028 2 (.int r3744) g3748 (by decide) (Or.inl rfl)
                refine bp_go (pc' := 291) bu_19_70 rfl ?_
                refine bp_goD (pc' := 7) bu_19_291 rfl ?_
                exact ih kk2 _ _ _ _ _ _ _ m (p + 1) hP hf hA hL g4032 g4029 hm hm2 (by omega) (by omega) ((px_rn_s (by omega) (px_bl_iff.mpr (by omega))).symm.trans hat) hlt hK
      · replace k3751 : ¬ ((i).toInt < ((s 8804)).toInt) := k3751
        refine bp_ld (pc' := 32) bu_19_31 rfl rfl (fun _ _ _ => rfl) g3749 rfl ?_
        refine bp_c (pc' := 33) (n := 0) bu_19_32 rfl rfl (fun _ _ _ => rfl) (by decide) (fun c4034 e4035 => ?_)
        refine bp_ld (pc' := 34) bu_19_33 rfl rfl (fun _ _ _ => rfl) g3749 rfl ?_
        refine bn_gi (pc' := 37) (K := 8804) bu_19_34 rfl rfl (fun _ _ _ => rfl) hP rz_o88 rz_i88_4 rfl rfl ?_
        refine bp_c (pc' := 38) (n := 0) bu_19_37 rfl rfl (fun _ _ _ => rfl) (by decide) (fun c4036 e4037 => ?_)
        refine bn_cL (pc' := 39) (n := 0) bu_19_38 rfl rfl (fun _ _ _ => rfl) (by decide) (fun x4038 e4039 => ?_)
        refine bn_cvF (pc' := 42) (st := []) (args := [.long x4038, .int c4036, .int (s 8804), .int c4034]) bu_19_39 rfl rfl rfl (by decide) hP rz_o88 (by decide) rfl (Nat.le_of_ble_eq_true rfl) (Nat.le_of_ble_eq_true rfl) ?_
        refine rr_103 (k := c4034) (w := (s 8804)) (v := c4036) (x := x4038) hP hm hm2 (fun h4040 s4041 hP4042 p4043 f4044 => ?_)
        show bp_G E PO (NN + 1) ((19, 42, lv3746, [], 0, 0) :: gs, h4040, none)
        refine bp_rv bu_19_42 ?_
        have hpn : p = n := by omega
        have hpm : px_at X n m = p := by rw [← hat]; exact px_rn_e (fun q => by omega)
        have h0K : px_kd X n (px_at X n m) = 0 := px_kd_e (by omega)
        have hK2 := rq_K_s (k := c4034) (w := (s 8804)) (v := c4036) (x := x4038) hK (by omega) (by omega) (fun q => by omega) (fun q => by omega)
        have hA2 : ∀ c, c ≠ 91 → c ≠ 92 → c ≠ 93 → (bh_up (bh_up (bh_up A 91 m (mm_nar 0 c4034)) 92 m (mm_nar 0 (s 8804))) 93 m (mm_nar 0 c4036)) c = A0 c := fun c c1 c2 c3 => (bh_up_ne c3).trans ((bh_up_ne c2).trans ((bh_up_ne c1).trans (hA c c1 c2 c3)))
        have hL2 : ∀ c, c ≠ 94 → (bh_upL L 94 m x4038) c = L0 c := fun c c1 => (show _ = L c from if_neg c1).trans (hL c c1)
        have hf2 : ∀ j, j ≠ 8810 → s4041 j = s0 j := fun j j1 => (f4044 j j1).trans (hf j j1)
        exact kk _ _ _ _ (m + 1) hP4042 hf2 hA2 hL2 (by omega) (Nat.succ_pos m) (by omega) (fun j a b c => by
          by_cases e : j = m
          · rw [e] at c
            exact absurd h0K c
          · omega) (fun i j a b => px_at_lt a (hlt i (by omega))) hK2
theorem rr_19 {X : Nat → Int32} {n : Nat} (hP : bm_P rz_T E h0 h s A L) (hn : (s 8804).toInt = (n : Int)) (hX : ∀ j, px_c (A 90) n j = px_c X n j) (hn2 : n ≤ 2000) (hky : ∀ j, j < 24 → (L 95 j).toInt = (px_ky j : Nat)) (kk : ∀ (h' : mm_H) (s' : Nat → Int32) (A' : Nat → Nat → Int32) (L' : Nat → Nat → Int64) (M : Nat), bm_P rz_T E h0 h' s' A' L' → (∀ j, j ≠ 8810 → s' j = s j) → (∀ c, c ≠ 91 → c ≠ 92 → c ≠ 93 → A' c = A c) → (∀ c, c ≠ 94 → L' c = L c) → rq_T (fun j => px_kd X n (px_at X n j)) (fun j => px_vl X n (px_at X n j)) (fun j => (px_at X n j : Int)) M A' → (∀ j, j < M → px_kd X n (px_at X n j) = 1 → (L' 94 j).toInt = (px_nm 27 X n (px_at X n j) (px_tl X n (px_at X n j)) : Nat)) → bp_G E PO NN (mm_back none gs h')) : bp_G E PO NN ((19, 0, [(0, .ref (E.1 + 88))], [], 0, 0) :: gs, h, none) := by
  refine bp_ld (pc' := 1) bu_19_0 rfl rfl (fun _ _ _ => rfl) rfl rfl ?_
  refine bp_c (pc' := 2) (n := 0) bu_19_1 rfl rfl (fun _ _ _ => rfl) (by decide) (fun c4045 e4046 => ?_)
  refine bn_pf (pc' := 5) (K := 8810) bu_19_2 rfl rfl (fun _ _ _ => rfl) hP rz_o88 rz_i88_10 rfl rfl (fun h4047 s4048 hP4049 e4050 f4051 => ?_)
  refine bp_c (pc' := 6) (n := 0) bu_19_5 rfl rfl (fun _ _ _ => rfl) (by decide) (fun c4052 e4053 => ?_)
  refine bp_st (pc' := 7) bu_19_6 rfl rfl (fun _ _ _ => rfl) rfl (by decide) (by decide) (fun lv4054 F4055 g4056 => ?_)
  have g4057 := F4055 0 (.ref (E.1 + 88)) rfl (by decide) (Or.inl rfl)
  have z8810 := congrArg Int32.toInt e4050
  exact rr_19l hn hX hn2 hky NN (fun h' s' A' L' M a0 a1 a2 a3 a4 a5 a6 a7 a8 a9 => kk h' s' A' L' M a0 (fun j j1 => (a1 j j1).trans (rfl)) a2 a3 ⟨a6, a5, fun j hj => ⟨(a9 j hj).1, (a9 j hj).2.1, (a9 j hj).2.2.1⟩, a7, fun i j b c => Int.ofNat_lt.mpr (a8 i j b c)⟩ (fun j hj => (a9 j hj).2.2.2)) _ _ _ _ _ _ _ 0 0 hP4049 f4051 (fun _ _ _ _ => rfl) (fun _ _ => rfl) g4057 g4056 (by omega) (by omega) (by omega) (by omega) rfl (fun j hj => absurd hj (Nat.not_lt_zero j)) (fun j hj => absurd hj (Nat.not_lt_zero j))
end RQB
