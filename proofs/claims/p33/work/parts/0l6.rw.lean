/-! PARTIAL: the reference's tokens, exact, 3: the cut, whole (wip/p5/mkr6.py) -/
theorem px_kd_e {X : Nat → Int32} {n p : Nat} (h : n ≤ p) : px_kd X n p = 0 := if_pos h
theorem px_kd_l {X : Nat → Int32} {n p : Nat} (h : p < n) (hl : px_lt (px_c X n p) = true) : px_kd X n p = (if 8 < px_tl X n p then 3 else if px_wd X n p (px_tl X n p) < 24 then 20 + (px_wd X n p (px_tl X n p) : Nat) else 1) := by
  unfold px_kd
  rw [if_neg (by omega), if_pos hl]
  by_cases h8 : 8 < px_tl X n p
  · rw [if_pos h8, if_pos h8]
    rfl
  · rw [if_neg h8, if_neg h8]
    by_cases w : px_wd X n p (px_tl X n p) < 24
    · rw [if_pos w, if_pos w]
      omega
    · rw [if_neg w, if_neg w]
      rfl
theorem px_kd_d {X : Nat → Int32} {n p : Nat} (h : p < n) (hl : ¬ px_lt (px_c X n p) = true) (hd : px_dg (px_c X n p) = true) : px_kd X n p = (if 4 < px_tl X n p then 3 else 2) := by
  unfold px_kd
  rw [if_neg (by omega), if_neg hl, if_pos hd]
theorem px_kd_s {X : Nat → Int32} {n p : Nat} (h : p < n) (hl : ¬ px_lt (px_c X n p) = true) (hd : ¬ px_dg (px_c X n p) = true) : px_kd X n p = px_sg (px_c X n p) := by
  unfold px_kd
  rw [if_neg (by omega), if_neg hl, if_neg hd]
theorem px_tl_l {X : Nat → Int32} {n p : Nat} (hl : px_lt (px_c X n p) = true) : px_tl X n p = px_rn px_lt X n p - p := if_pos hl
theorem px_tl_d {X : Nat → Int32} {n p : Nat} (hl : ¬ px_lt (px_c X n p) = true) (hd : px_dg (px_c X n p) = true) : px_tl X n p = px_rn px_dg X n p - p := by
  unfold px_tl
  rw [if_neg hl, if_pos hd]
theorem px_tl_s {X : Nat → Int32} {n p : Nat} (hl : ¬ px_lt (px_c X n p) = true) (hd : ¬ px_dg (px_c X n p) = true) : px_tl X n p = 1 := by
  unfold px_tl
  rw [if_neg hl, if_neg hd]
theorem px_sg_n {c : Int} : px_sg c ≠ 1 ∧ px_sg c ≠ 2 := by
  unfold px_sg
  (repeat' split) <;> omega
theorem px_at_lt {X : Nat → Int32} {n i j : Nat} (h : i < j) (hi : px_at X n i < n) : px_at X n i < px_at X n j := Nat.lt_of_lt_of_le (px_at_s.2 hi) (px_at_m j (i + 1) h)
theorem px_at_nx {X : Nat → Int32} {n m p p' : Nat} (h : px_at X n m = p) (hp : p < n) (hq : p + px_tl X n p = p') : px_rn px_bl X n p' = px_at X n (m + 1) := by
  show _ = px_rn px_bl X n (px_nx X n (px_at X n m))
  have e : px_nx X n p = p + px_tl X n p := if_neg (by omega)
  rw [h, e, hq]
theorem bu_19_0 : mm_at mt_P 19 0 = some ((0, 1, .aload_n 0, 0, 0, 0, 0), 8, 0, 1, 9, 0, 0, 0) := rfl
theorem bu_19_1 : mm_at mt_P 19 1 = some ((1, 1, .iconst 0, 0, 0, 0, 0), 8, 0, 1, 9, 0, 0, 0) := rfl
theorem bu_19_2 : mm_at mt_P 19 2 = some ((2, 3, .putfield 181, 9, 10, 0, 1227), 8, 0, 1, 9, 0, 0, 0) := rfl
theorem bu_19_5 : mm_at mt_P 19 5 = some ((5, 1, .iconst 0, 0, 0, 0, 0), 8, 0, 1, 9, 0, 0, 0) := rfl
theorem bu_19_6 : mm_at mt_P 19 6 = some ((6, 1, .istore_n 1, 0, 0, 0, 0), 8, 0, 1, 9, 0, 0, 0) := rfl
theorem bu_19_7 : mm_at mt_P 19 7 = some ((7, 1, .aload_n 0, 0, 0, 0, 0), 8, 0, 1, 9, 0, 0, 0) := rfl
theorem bu_19_8 : mm_at mt_P 19 8 = some ((8, 3, .getfield 181, 9, 10, 0, 1227), 8, 0, 1, 9, 0, 0, 0) := rfl
theorem bu_19_11 : mm_at mt_P 19 11 = some ((11, 3, .sipush 400, 0, 0, 0, 0), 8, 0, 1, 9, 0, 0, 0) := rfl
theorem bu_19_14 : mm_at mt_P 19 14 = some ((14, 3, .if_icmp .gt 280, 0, 0, 0, 0), 8, 0, 1, 9, 0, 0, 0) := rfl
theorem bu_19_17 : mm_at mt_P 19 17 = some ((17, 1, .aload_n 0, 0, 0, 0, 0), 8, 0, 1, 9, 0, 0, 0) := rfl
theorem bu_19_18 : mm_at mt_P 19 18 = some ((18, 1, .iload_n 1, 0, 0, 0, 0), 8, 0, 1, 9, 0, 0, 0) := rfl
theorem bu_19_19 : mm_at mt_P 19 19 = some ((19, 3, .invokevirtual 184, 12, 0, 0, 1457), 8, 0, 1, 9, 0, 0, 0) := rfl
theorem bu_19_22 : mm_at mt_P 19 22 = some ((22, 1, .istore_n 2, 0, 0, 0, 0), 8, 0, 1, 9, 0, 0, 0) := rfl
theorem bu_19_23 : mm_at mt_P 19 23 = some ((23, 1, .iload_n 1, 0, 0, 0, 0), 8, 0, 1, 9, 0, 0, 0) := rfl
theorem bu_19_24 : mm_at mt_P 19 24 = some ((24, 1, .aload_n 0, 0, 0, 0, 0), 8, 0, 1, 9, 0, 0, 0) := rfl
theorem bu_19_25 : mm_at mt_P 19 25 = some ((25, 3, .getfield 172, 9, 4, 0, 1221), 8, 0, 1, 9, 0, 0, 0) := rfl
theorem bu_19_28 : mm_at mt_P 19 28 = some ((28, 3, .if_icmp .lt 15, 0, 0, 0, 0), 8, 0, 1, 9, 0, 0, 0) := rfl
theorem bu_19_31 : mm_at mt_P 19 31 = some ((31, 1, .aload_n 0, 0, 0, 0, 0), 8, 0, 1, 9, 0, 0, 0) := rfl
theorem bu_19_32 : mm_at mt_P 19 32 = some ((32, 1, .iconst 0, 0, 0, 0, 0), 8, 0, 1, 9, 0, 0, 0) := rfl
theorem bu_19_33 : mm_at mt_P 19 33 = some ((33, 1, .aload_n 0, 0, 0, 0, 0), 8, 0, 1, 9, 0, 0, 0) := rfl
theorem bu_19_34 : mm_at mt_P 19 34 = some ((34, 3, .getfield 172, 9, 4, 0, 1221), 8, 0, 1, 9, 0, 0, 0) := rfl
theorem bu_19_37 : mm_at mt_P 19 37 = some ((37, 1, .iconst 0, 0, 0, 0, 0), 8, 0, 1, 9, 0, 0, 0) := rfl
theorem bu_19_38 : mm_at mt_P 19 38 = some ((38, 1, .lconst 0, 0, 0, 0, 0), 8, 0, 1, 9, 0, 0, 0) := rfl
theorem bu_19_39 : mm_at mt_P 19 39 = some ((39, 3, .invokevirtual 188, 103, 0, 0, 1461), 8, 0, 1, 9, 0, 0, 0) := rfl
theorem bu_19_42 : mm_at mt_P 19 42 = some ((42, 1, .return_, 0, 0, 0, 0), 8, 0, 1, 9, 0, 0, 0) := rfl
theorem bu_19_43 : mm_at mt_P 19 43 = some ((43, 1, .iload_n 2, 0, 0, 0, 0), 8, 0, 1, 9, 0, 0, 0) := rfl
theorem bu_19_44 : mm_at mt_P 19 44 = some ((44, 2, .bipush 9, 0, 0, 0, 0), 8, 0, 1, 9, 0, 0, 0) := rfl
theorem bu_19_46 : mm_at mt_P 19 46 = some ((46, 3, .if_icmp .eq 21, 0, 0, 0, 0), 8, 0, 1, 9, 0, 0, 0) := rfl
theorem bu_19_49 : mm_at mt_P 19 49 = some ((49, 1, .iload_n 2, 0, 0, 0, 0), 8, 0, 1, 9, 0, 0, 0) := rfl
theorem bu_19_50 : mm_at mt_P 19 50 = some ((50, 2, .bipush 10, 0, 0, 0, 0), 8, 0, 1, 9, 0, 0, 0) := rfl
theorem bu_19_52 : mm_at mt_P 19 52 = some ((52, 3, .if_icmp .eq 15, 0, 0, 0, 0), 8, 0, 1, 9, 0, 0, 0) := rfl
theorem bu_19_55 : mm_at mt_P 19 55 = some ((55, 1, .iload_n 2, 0, 0, 0, 0), 8, 0, 1, 9, 0, 0, 0) := rfl
theorem bu_19_56 : mm_at mt_P 19 56 = some ((56, 2, .bipush 13, 0, 0, 0, 0), 8, 0, 1, 9, 0, 0, 0) := rfl
theorem bu_19_58 : mm_at mt_P 19 58 = some ((58, 3, .if_icmp .eq 9, 0, 0, 0, 0), 8, 0, 1, 9, 0, 0, 0) := rfl
theorem bu_19_61 : mm_at mt_P 19 61 = some ((61, 1, .iload_n 2, 0, 0, 0, 0), 8, 0, 1, 9, 0, 0, 0) := rfl
theorem bu_19_62 : mm_at mt_P 19 62 = some ((62, 2, .bipush 32, 0, 0, 0, 0), 8, 0, 1, 9, 0, 0, 0) := rfl
theorem bu_19_64 : mm_at mt_P 19 64 = some ((64, 3, .if_icmp .ne 9, 0, 0, 0, 0), 8, 0, 1, 9, 0, 0, 0) := rfl
theorem bu_19_67 : mm_at mt_P 19 67 = some ((67, 3, .iinc 1 1, 0, 0, 0, 0), 8, 0, 1, 9, 0, 0, 0) := rfl
theorem bu_19_70 : mm_at mt_P 19 70 = some ((70, 3, .goto 221, 0, 0, 0, 0), 8, 0, 1, 9, 0, 0, 0) := rfl
theorem bu_19_73 : mm_at mt_P 19 73 = some ((73, 1, .iload_n 2, 0, 0, 0, 0), 8, 0, 1, 9, 0, 0, 0) := rfl
theorem bu_19_74 : mm_at mt_P 19 74 = some ((74, 3, .invokestatic 192, 50, 0, 0, 1465), 8, 0, 1, 9, 0, 0, 0) := rfl
theorem bu_19_77 : mm_at mt_P 19 77 = some ((77, 3, .ifCond .eq 119, 0, 0, 0, 0), 8, 0, 1, 9, 0, 0, 0) := rfl
theorem bu_19_80 : mm_at mt_P 19 80 = some ((80, 1, .iconst 0, 0, 0, 0, 0), 8, 0, 1, 9, 0, 0, 0) := rfl
theorem bu_19_81 : mm_at mt_P 19 81 = some ((81, 1, .istore_n 3, 0, 0, 0, 0), 8, 0, 1, 9, 0, 0, 0) := rfl
theorem bu_19_82 : mm_at mt_P 19 82 = some ((82, 1, .lconst 0, 0, 0, 0, 0), 8, 0, 1, 9, 0, 0, 0) := rfl
theorem bu_19_83 : mm_at mt_P 19 83 = some ((83, 2, .lstore 4, 0, 0, 0, 0), 8, 0, 1, 9, 0, 0, 0) := rfl
theorem bu_19_124 : mm_at mt_P 19 124 = some ((124, 1, .iload_n 3, 0, 0, 0, 0), 8, 0, 1, 9, 0, 0, 0) := rfl
theorem bu_19_125 : mm_at mt_P 19 125 = some ((125, 2, .bipush 8, 0, 0, 0, 0), 8, 0, 1, 9, 0, 0, 0) := rfl
theorem bu_19_127 : mm_at mt_P 19 127 = some ((127, 3, .if_icmp .le 7, 0, 0, 0, 0), 8, 0, 1, 9, 0, 0, 0) := rfl
theorem bu_19_130 : mm_at mt_P 19 130 = some ((130, 1, .iconst 3, 0, 0, 0, 0), 8, 0, 1, 9, 0, 0, 0) := rfl
theorem bu_19_131 : mm_at mt_P 19 131 = some ((131, 3, .goto 4, 0, 0, 0, 0), 8, 0, 1, 9, 0, 0, 0) := rfl
theorem bu_19_134 : mm_at mt_P 19 134 = some ((134, 1, .iconst 1, 0, 0, 0, 0), 8, 0, 1, 9, 0, 0, 0) := rfl
theorem bu_19_135 : mm_at mt_P 19 135 = some ((135, 2, .istore 6, 0, 0, 0, 0), 8, 0, 1, 9, 0, 0, 0) := rfl
theorem bu_19_137 : mm_at mt_P 19 137 = some ((137, 1, .iload_n 3, 0, 0, 0, 0), 8, 0, 1, 9, 0, 0, 0) := rfl
theorem bu_19_138 : mm_at mt_P 19 138 = some ((138, 2, .bipush 7, 0, 0, 0, 0), 8, 0, 1, 9, 0, 0, 0) := rfl
theorem bu_19_140 : mm_at mt_P 19 140 = some ((140, 3, .if_icmp .gt 39, 0, 0, 0, 0), 8, 0, 1, 9, 0, 0, 0) := rfl
theorem bu_19_143 : mm_at mt_P 19 143 = some ((143, 1, .iconst 0, 0, 0, 0, 0), 8, 0, 1, 9, 0, 0, 0) := rfl
theorem bu_19_144 : mm_at mt_P 19 144 = some ((144, 2, .istore 7, 0, 0, 0, 0), 8, 0, 1, 9, 0, 0, 0) := rfl
theorem bu_19_179 : mm_at mt_P 19 179 = some ((179, 1, .aload_n 0, 0, 0, 0, 0), 8, 0, 1, 9, 0, 0, 0) := rfl
theorem bu_19_180 : mm_at mt_P 19 180 = some ((180, 2, .iload 6, 0, 0, 0, 0), 8, 0, 1, 9, 0, 0, 0) := rfl
theorem bu_19_182 : mm_at mt_P 19 182 = some ((182, 1, .iload_n 1, 0, 0, 0, 0), 8, 0, 1, 9, 0, 0, 0) := rfl
theorem bu_19_183 : mm_at mt_P 19 183 = some ((183, 1, .iconst 0, 0, 0, 0, 0), 8, 0, 1, 9, 0, 0, 0) := rfl
theorem bu_19_184 : mm_at mt_P 19 184 = some ((184, 2, .lload 4, 0, 0, 0, 0), 8, 0, 1, 9, 0, 0, 0) := rfl
theorem bu_19_186 : mm_at mt_P 19 186 = some ((186, 3, .invokevirtual 188, 103, 0, 0, 1461), 8, 0, 1, 9, 0, 0, 0) := rfl
theorem bu_19_189 : mm_at mt_P 19 189 = some ((189, 1, .iload_n 1, 0, 0, 0, 0), 8, 0, 1, 9, 0, 0, 0) := rfl
theorem bu_19_190 : mm_at mt_P 19 190 = some ((190, 1, .iload_n 3, 0, 0, 0, 0), 8, 0, 1, 9, 0, 0, 0) := rfl
theorem bu_19_191 : mm_at mt_P 19 191 = some ((191, 1, .iadd, 0, 0, 0, 0), 8, 0, 1, 9, 0, 0, 0) := rfl
theorem bu_19_192 : mm_at mt_P 19 192 = some ((192, 1, .istore_n 1, 0, 0, 0, 0), 8, 0, 1, 9, 0, 0, 0) := rfl
theorem bu_19_193 : mm_at mt_P 19 193 = some ((193, 3, .goto 98, 0, 0, 0, 0), 8, 0, 1, 9, 0, 0, 0) := rfl
theorem bu_19_196 : mm_at mt_P 19 196 = some ((196, 1, .iload_n 2, 0, 0, 0, 0), 8, 0, 1, 9, 0, 0, 0) := rfl
theorem bu_19_197 : mm_at mt_P 19 197 = some ((197, 3, .invokestatic 196, 48, 0, 0, 1468), 8, 0, 1, 9, 0, 0, 0) := rfl
theorem bu_19_200 : mm_at mt_P 19 200 = some ((200, 3, .ifCond .eq 75, 0, 0, 0, 0), 8, 0, 1, 9, 0, 0, 0) := rfl
theorem bu_19_203 : mm_at mt_P 19 203 = some ((203, 1, .iconst 0, 0, 0, 0, 0), 8, 0, 1, 9, 0, 0, 0) := rfl
theorem bu_19_204 : mm_at mt_P 19 204 = some ((204, 1, .istore_n 3, 0, 0, 0, 0), 8, 0, 1, 9, 0, 0, 0) := rfl
theorem bu_19_205 : mm_at mt_P 19 205 = some ((205, 1, .iconst 0, 0, 0, 0, 0), 8, 0, 1, 9, 0, 0, 0) := rfl
theorem bu_19_206 : mm_at mt_P 19 206 = some ((206, 2, .istore 4, 0, 0, 0, 0), 8, 0, 1, 9, 0, 0, 0) := rfl
theorem bu_19_250 : mm_at mt_P 19 250 = some ((250, 1, .aload_n 0, 0, 0, 0, 0), 8, 0, 1, 9, 0, 0, 0) := rfl
theorem bu_19_251 : mm_at mt_P 19 251 = some ((251, 1, .iload_n 3, 0, 0, 0, 0), 8, 0, 1, 9, 0, 0, 0) := rfl
theorem bu_19_252 : mm_at mt_P 19 252 = some ((252, 1, .iconst 4, 0, 0, 0, 0), 8, 0, 1, 9, 0, 0, 0) := rfl
theorem bu_19_253 : mm_at mt_P 19 253 = some ((253, 3, .if_icmp .le 7, 0, 0, 0, 0), 8, 0, 1, 9, 0, 0, 0) := rfl
theorem bu_19_256 : mm_at mt_P 19 256 = some ((256, 1, .iconst 3, 0, 0, 0, 0), 8, 0, 1, 9, 0, 0, 0) := rfl
theorem bu_19_257 : mm_at mt_P 19 257 = some ((257, 3, .goto 4, 0, 0, 0, 0), 8, 0, 1, 9, 0, 0, 0) := rfl
theorem bu_19_260 : mm_at mt_P 19 260 = some ((260, 1, .iconst 2, 0, 0, 0, 0), 8, 0, 1, 9, 0, 0, 0) := rfl
theorem bu_19_261 : mm_at mt_P 19 261 = some ((261, 1, .iload_n 1, 0, 0, 0, 0), 8, 0, 1, 9, 0, 0, 0) := rfl
theorem bu_19_262 : mm_at mt_P 19 262 = some ((262, 2, .iload 4, 0, 0, 0, 0), 8, 0, 1, 9, 0, 0, 0) := rfl
theorem bu_19_264 : mm_at mt_P 19 264 = some ((264, 1, .lconst 0, 0, 0, 0, 0), 8, 0, 1, 9, 0, 0, 0) := rfl
theorem bu_19_265 : mm_at mt_P 19 265 = some ((265, 3, .invokevirtual 188, 103, 0, 0, 1461), 8, 0, 1, 9, 0, 0, 0) := rfl
theorem bu_19_268 : mm_at mt_P 19 268 = some ((268, 1, .iload_n 1, 0, 0, 0, 0), 8, 0, 1, 9, 0, 0, 0) := rfl
theorem bu_19_269 : mm_at mt_P 19 269 = some ((269, 1, .iload_n 3, 0, 0, 0, 0), 8, 0, 1, 9, 0, 0, 0) := rfl
theorem bu_19_270 : mm_at mt_P 19 270 = some ((270, 1, .iadd, 0, 0, 0, 0), 8, 0, 1, 9, 0, 0, 0) := rfl
theorem bu_19_271 : mm_at mt_P 19 271 = some ((271, 1, .istore_n 1, 0, 0, 0, 0), 8, 0, 1, 9, 0, 0, 0) := rfl
theorem bu_19_272 : mm_at mt_P 19 272 = some ((272, 3, .goto 19, 0, 0, 0, 0), 8, 0, 1, 9, 0, 0, 0) := rfl
theorem bu_19_275 : mm_at mt_P 19 275 = some ((275, 1, .iload_n 1, 0, 0, 0, 0), 8, 0, 1, 9, 0, 0, 0) := rfl
theorem bu_19_276 : mm_at mt_P 19 276 = some ((276, 1, .aload_n 0, 0, 0, 0, 0), 8, 0, 1, 9, 0, 0, 0) := rfl
theorem bu_19_277 : mm_at mt_P 19 277 = some ((277, 1, .iload_n 1, 0, 0, 0, 0), 8, 0, 1, 9, 0, 0, 0) := rfl
theorem bu_19_278 : mm_at mt_P 19 278 = some ((278, 1, .iload_n 2, 0, 0, 0, 0), 8, 0, 1, 9, 0, 0, 0) := rfl
theorem bu_19_279 : mm_at mt_P 19 279 = some ((279, 1, .aload_n 0, 0, 0, 0, 0), 8, 0, 1, 9, 0, 0, 0) := rfl
theorem bu_19_280 : mm_at mt_P 19 280 = some ((280, 1, .iload_n 1, 0, 0, 0, 0), 8, 0, 1, 9, 0, 0, 0) := rfl
theorem bu_19_281 : mm_at mt_P 19 281 = some ((281, 1, .iconst 1, 0, 0, 0, 0), 8, 0, 1, 9, 0, 0, 0) := rfl
theorem bu_19_282 : mm_at mt_P 19 282 = some ((282, 1, .iadd, 0, 0, 0, 0), 8, 0, 1, 9, 0, 0, 0) := rfl
theorem bu_19_283 : mm_at mt_P 19 283 = some ((283, 3, .invokevirtual 184, 12, 0, 0, 1457), 8, 0, 1, 9, 0, 0, 0) := rfl
theorem bu_19_286 : mm_at mt_P 19 286 = some ((286, 3, .invokevirtual 199, 89, 0, 0, 1471), 8, 0, 1, 9, 0, 0, 0) := rfl
theorem bu_19_289 : mm_at mt_P 19 289 = some ((289, 1, .iadd, 0, 0, 0, 0), 8, 0, 1, 9, 0, 0, 0) := rfl
theorem bu_19_290 : mm_at mt_P 19 290 = some ((290, 1, .istore_n 1, 0, 0, 0, 0), 8, 0, 1, 9, 0, 0, 0) := rfl
theorem bu_19_291 : mm_at mt_P 19 291 = some ((291, 3, .goto (-284), 0, 0, 0, 0), 8, 0, 1, 9, 0, 0, 0) := rfl
theorem bu_19_294 : mm_at mt_P 19 294 = some ((294, 1, .return_, 0, 0, 0, 0), 8, 0, 1, 9, 0, 0, 0) := rfl
section RQB
variable {K V P : Nat → Int} {Q : Nat → Nat → Bool} {σ : py_S} {M : Nat} {ns : List Nat} {oo e : Nat} {E : mm_E} {PO : mm_C → Prop} {NN : Nat} {h0 h : mm_H} {s : Nat → Int32} {A : Nat → Nat → Int32} {L : Nat → Nat → Int64} {gs : List mm_F}
set_option maxHeartbeats 8000000 in
theorem rr_19l {X : Nat → Int32} {n : Nat} {s0 : Nat → Int32} {A0 : Nat → Nat → Int32} {L0 : Nat → Nat → Int64} (hn : (s0 8804).toInt = (n : Int)) (hX : ∀ j, px_c (A0 90) n j = px_c X n j) (hn2 : n ≤ 2000) (hky : ∀ j, j < 24 → (L0 95 j).toInt = (px_ky j : Nat)) : ∀ NN : Nat, (∀ (h' : mm_H) (s' : Nat → Int32) (A' : Nat → Nat → Int32) (L' : Nat → Nat → Int64) (M : Nat), bm_P rz_T E h0 h' s' A' L' → (∀ j, j ≠ 8810 → s' j = s0 j) → (∀ c, c ≠ 91 → c ≠ 92 → c ≠ 93 → A' c = A0 c) → (∀ c, c ≠ 94 → L' c = L0 c) → (s' 8810).toInt = (M : Int) → 0 < M → M ≤ 401 → (∀ j, j < M → j < 400 → px_kd X n (px_at X n j) ≠ 0 → j + 1 < M) → (∀ i j, i < j → j < M → px_at X n i < px_at X n j) → rq_K X n M A' L' → bp_G E PO NN (mm_back none gs h')) → (∀ (h : mm_H) (s : Nat → Int32) (A : Nat → Nat → Int32) (L : Nat → Nat → Int64) (lv : mm_V) (o : Option Value) (i : Int32) (m p : Nat), bm_P rz_T E h0 h s A L → (∀ j, j ≠ 8810 → s j = s0 j) → (∀ c, c ≠ 91 → c ≠ 92 → c ≠ 93 → A c = A0 c) → (∀ c, c ≠ 94 → L c = L0 c) → mm_get lv 0 = some (.ref (E.1 + 88)) → mm_get lv 1 = some (.int i) → (s 8810).toInt = (m : Int) → m ≤ 401 → i.toInt = (p : Int) → p ≤ n → px_rn px_bl X n p = px_at X n m → (∀ j, j < m → px_at X n j < n) → rq_K X n m A L → bp_G E PO NN ((19, 7, lv, [], 0, 0) :: gs, h, o)) := by
  intro NN
  induction NN with
  | zero => intro kk h s A L lv o i m p hP hf hA hL g0 g1 hm hm2 hi hpn0 hat hlt hK; exact bp_zero bu_19_7
  | succ NN ih =>
    intro kk h s A L lv o i m p hP hf hA hL g0 g1 hm hm2 hi hpn0 hat hlt hK
    have kk2 := fun h' s' A' L' M a0 a1 a2 a3 a4 a5 a6 a7 a8 a9 => bp_mono (Nat.le_succ NN) (kk h' s' A' L' M a0 a1 a2 a3 a4 a5 a6 a7 a8 a9)
    have hn' : (s 8804).toInt = (n : Int) := by rw [hf 8804 (by decide)]; exact hn
    have hX' : ∀ j, px_c (A 90) n j = px_c X n j := by rw [hA 90 (by decide) (by decide) (by decide)]; exact hX
    have hky' : ∀ j, j < 24 → (L 95 j).toInt = (px_ky j : Nat) := by rw [hL 95 (by decide)]; exact hky
    refine bp_ld (pc' := 8) bu_19_7 rfl rfl (fun _ _ _ => rfl) g0 rfl ?_
    refine bn_gi (pc' := 11) (K := 8810) bu_19_8 rfl rfl (fun _ _ _ => rfl) hP rz_o88 rz_i88_10 rfl rfl ?_
    refine bp_c (pc' := 14) (n := 400) bu_19_11 rfl rfl (fun _ _ _ => rfl) (by decide) (fun c3439 e3440 => ?_)
    refine bp_ic (pc' := 17) (pt := 294) bu_19_14 rfl rfl (fun k3441 => ?_) (fun k3441 => ?_)
    · replace k3441 : (c3439).toInt < ((s 8810)).toInt := k3441
      refine bp_rv bu_19_294 ?_
      have hmm : m = 401 := by omega
      exact kk _ _ _ _ m hP hf hA hL hm (by omega) hm2 (fun j a b c => by omega) (fun i j a b => px_at_lt a (hlt i (by omega))) hK
    · replace k3441 : ¬ ((c3439).toInt < ((s 8810)).toInt) := k3441
      refine bp_ld (pc' := 18) bu_19_17 rfl rfl (fun _ _ _ => rfl) g0 rfl ?_
      refine bp_ld (pc' := 19) bu_19_18 rfl rfl (fun _ _ _ => rfl) g1 rfl ?_
      refine bn_cvF (pc' := 22) (st := []) (args := [.int i]) bu_19_19 rfl rfl rfl (by decide) hP rz_o88 (by decide) rfl (Nat.le_of_ble_eq_true rfl) (Nat.le_of_ble_eq_true rfl) ?_
      refine rr_12 (n := n) hP hn' (by omega) (fun r3442 e3443 => ?_)
      rw [show (i).toInt.toNat = p by omega, hX'] at e3443
      show bp_G E PO (NN + 1) ((19, 22, lv, [.int r3442], 0, 0) :: gs, h, none)
      refine bp_st (pc' := 23) bu_19_22 rfl rfl (fun _ _ _ => rfl) rfl (by decide) (by decide) (fun lv3444 F3445 g3446 => ?_)
      have g3447 := F3445 0 (.ref (E.1 + 88)) g0 (by decide) (Or.inl rfl)
      have g3448 := F3445 1 (.int i) g1 (by decide) (Or.inl rfl)
      refine bp_ld (pc' := 24) bu_19_23 rfl rfl (fun _ _ _ => rfl) g3448 rfl ?_
      refine bp_ld (pc' := 25) bu_19_24 rfl rfl (fun _ _ _ => rfl) g3447 rfl ?_
      refine bn_gi (pc' := 28) (K := 8804) bu_19_25 rfl rfl (fun _ _ _ => rfl) hP rz_o88 rz_i88_4 rfl rfl ?_
      refine bp_ic (pc' := 31) (pt := 43) bu_19_28 rfl rfl (fun k3449 => ?_) (fun k3449 => ?_)
      · replace k3449 : (i).toInt < ((s 8804)).toInt := k3449
        refine bp_ld (pc' := 44) bu_19_43 rfl rfl (fun _ _ _ => rfl) g3446 rfl ?_
        refine bp_c (pc' := 46) (n := 9) bu_19_44 rfl rfl (fun _ _ _ => rfl) (by decide) (fun c3450 e3451 => ?_)
        refine bp_ic (pc' := 49) (pt := 67) bu_19_46 rfl rfl (fun k3452 => ?_) (fun k3452 => ?_)
        · replace k3452 : (r3442).toInt = (c3450).toInt := k3452
          refine bp_inc (pc' := 70) bu_19_67 rfl (by decide) g3448 (by decide) (by omega) (by omega) (fun lv3453 y3456 F3454 g3455 e3457 => ?_)
          have g3458 := F3454 0 (.ref (E.1 + 88)) g3447 (by decide) (Or.inl rfl)
          have g3459 := F3454 2 (.int r3442) g3446 (by decide) (Or.inl rfl)
          refine bp_go (pc' := 291) bu_19_70 rfl ?_
          refine bp_goD (pc' := 7) bu_19_291 rfl ?_
          exact ih kk2 _ _ _ _ _ _ _ m (p + 1) hP hf hA hL g3458 g3455 hm hm2 (by omega) (by omega) ((px_rn_s (by omega) (px_bl_iff.mpr (by omega))).symm.trans hat) hlt hK
        · replace k3452 : ¬ ((r3442).toInt = (c3450).toInt) := k3452
          refine bp_ld (pc' := 50) bu_19_49 rfl rfl (fun _ _ _ => rfl) g3446 rfl ?_
          refine bp_c (pc' := 52) (n := 10) bu_19_50 rfl rfl (fun _ _ _ => rfl) (by decide) (fun c3460 e3461 => ?_)
          refine bp_ic (pc' := 55) (pt := 67) bu_19_52 rfl rfl (fun k3462 => ?_) (fun k3462 => ?_)
          · replace k3462 : (r3442).toInt = (c3460).toInt := k3462
            refine bp_inc (pc' := 70) bu_19_67 rfl (by decide) g3448 (by decide) (by omega) (by omega) (fun lv3463 y3466 F3464 g3465 e3467 => ?_)
            have g3468 := F3464 0 (.ref (E.1 + 88)) g3447 (by decide) (Or.inl rfl)
            have g3469 := F3464 2 (.int r3442) g3446 (by decide) (Or.inl rfl)
            refine bp_go (pc' := 291) bu_19_70 rfl ?_
            refine bp_goD (pc' := 7) bu_19_291 rfl ?_
            exact ih kk2 _ _ _ _ _ _ _ m (p + 1) hP hf hA hL g3468 g3465 hm hm2 (by omega) (by omega) ((px_rn_s (by omega) (px_bl_iff.mpr (by omega))).symm.trans hat) hlt hK
          · replace k3462 : ¬ ((r3442).toInt = (c3460).toInt) := k3462
            refine bp_ld (pc' := 56) bu_19_55 rfl rfl (fun _ _ _ => rfl) g3446 rfl ?_
            refine bp_c (pc' := 58) (n := 13) bu_19_56 rfl rfl (fun _ _ _ => rfl) (by decide) (fun c3470 e3471 => ?_)
            refine bp_ic (pc' := 61) (pt := 67) bu_19_58 rfl rfl (fun k3472 => ?_) (fun k3472 => ?_)
            · replace k3472 : (r3442).toInt = (c3470).toInt := k3472
              refine bp_inc (pc' := 70) bu_19_67 rfl (by decide) g3448 (by decide) (by omega) (by omega) (fun lv3473 y3476 F3474 g3475 e3477 => ?_)
              have g3478 := F3474 0 (.ref (E.1 + 88)) g3447 (by decide) (Or.inl rfl)
              have g3479 := F3474 2 (.int r3442) g3446 (by decide) (Or.inl rfl)
              refine bp_go (pc' := 291) bu_19_70 rfl ?_
              refine bp_goD (pc' := 7) bu_19_291 rfl ?_
              exact ih kk2 _ _ _ _ _ _ _ m (p + 1) hP hf hA hL g3478 g3475 hm hm2 (by omega) (by omega) ((px_rn_s (by omega) (px_bl_iff.mpr (by omega))).symm.trans hat) hlt hK
            · replace k3472 : ¬ ((r3442).toInt = (c3470).toInt) := k3472
              refine bp_ld (pc' := 62) bu_19_61 rfl rfl (fun _ _ _ => rfl) g3446 rfl ?_
              refine bp_c (pc' := 64) (n := 32) bu_19_62 rfl rfl (fun _ _ _ => rfl) (by decide) (fun c3480 e3481 => ?_)
              refine bp_ic (pc' := 67) (pt := 73) bu_19_64 rfl rfl (fun k3482 => ?_) (fun k3482 => ?_)
              · replace k3482 : (r3442).toInt ≠ (c3480).toInt := k3482
                refine bp_ld (pc' := 74) bu_19_73 rfl rfl (fun _ _ _ => rfl) g3446 rfl ?_
                refine bp_csF (pc' := 77) (st := []) (args := [.int r3442]) bu_19_74 rfl rfl (by decide) rfl (Nat.le_of_ble_eq_true rfl) (Nat.le_of_ble_eq_true rfl) ?_
                refine rr_50 (c := r3442) (fun r3483 p3484 => ?_)
                show bp_G E PO (NN + 1) ((19, 77, lv3444, [.int r3483], 0, 0) :: gs, h, none)
                refine bp_i0 (pc' := 80) (pt := 196) bu_19_77 rfl rfl (fun k3485 => ?_) (fun k3485 => ?_)
                · replace k3485 : (r3483).toInt = 0 := k3485
                  refine bp_ld (pc' := 197) bu_19_196 rfl rfl (fun _ _ _ => rfl) g3446 rfl ?_
                  refine bp_csF (pc' := 200) (st := []) (args := [.int r3442]) bu_19_197 rfl rfl (by decide) rfl (Nat.le_of_ble_eq_true rfl) (Nat.le_of_ble_eq_true rfl) ?_
                  refine rr_48 (c := r3442) (fun r3486 p3487 => ?_)
                  show bp_G E PO (NN + 1) ((19, 200, lv3444, [.int r3486], 0, 0) :: gs, h, none)
                  refine bp_i0 (pc' := 203) (pt := 275) bu_19_200 rfl rfl (fun k3488 => ?_) (fun k3488 => ?_)
                  · replace k3488 : (r3486).toInt = 0 := k3488
                    have hpn : p < n := by omega
                    have hlp : ¬ px_lt (px_c X n p) = true := fun q => by have q := px_lt_iff.mp q; omega
                    have hdp : ¬ px_dg (px_c X n p) = true := fun q => by have q := px_dg_iff.mp q; omega
                    have hc9 := e3443
                    refine bp_ld (pc' := 276) bu_19_275 rfl rfl (fun _ _ _ => rfl) g3448 rfl ?_
                    refine bp_ld (pc' := 277) bu_19_276 rfl rfl (fun _ _ _ => rfl) g3447 rfl ?_
                    refine bp_ld (pc' := 278) bu_19_277 rfl rfl (fun _ _ _ => rfl) g3448 rfl ?_
                    refine bp_ld (pc' := 279) bu_19_278 rfl rfl (fun _ _ _ => rfl) g3446 rfl ?_
                    refine bp_ld (pc' := 280) bu_19_279 rfl rfl (fun _ _ _ => rfl) g3447 rfl ?_
                    refine bp_ld (pc' := 281) bu_19_280 rfl rfl (fun _ _ _ => rfl) g3448 rfl ?_
                    refine bp_c (pc' := 282) (n := 1) bu_19_281 rfl rfl (fun _ _ _ => rfl) (by decide) (fun c3489 e3490 => ?_)
                    refine bp_add (pc' := 283) bu_19_282 rfl (by omega) (by omega) (fun v3491 e3492 => ?_)
                    refine bn_cvF (pc' := 286) (st := [.int r3442, .int i, .ref (E.1 + 88), .int i]) (args := [.int v3491]) bu_19_283 rfl rfl rfl (by decide) hP rz_o88 (by decide) rfl (Nat.le_of_ble_eq_true rfl) (Nat.le_of_ble_eq_true rfl) ?_
                    refine rr_12 (n := n) hP hn' (by omega) (fun r3493 e3494 => ?_)
                    show bp_G E PO (NN + 1) ((19, 286, lv3444, [.int r3493, .int r3442, .int i, .ref (E.1 + 88), .int i], 0, 0) :: gs, h, none)
                    refine bn_cvF (pc' := 289) (st := [.int i]) (args := [.int r3493, .int r3442, .int i]) bu_19_286 rfl rfl rfl (by decide) hP rz_o88 (by decide) rfl (Nat.le_of_ble_eq_true rfl) (Nat.le_of_ble_eq_true rfl) ?_
                    refine rr_89 (i := i) (c := r3442) (d := r3493) hP hm hm2 (fun h3495 s3496 k3497 v3498 x3499 r3500 hP3501 p3502 f3503 e3504 e3505 e3506 => ?_)
                    show bp_G E PO (NN + 1) ((19, 289, lv3444, [.int r3500, .int i], 0, 0) :: gs, h3495, none)
                    refine bp_add (pc' := 290) bu_19_289 rfl (by omega) (by omega) (fun v3507 e3508 => ?_)
                    refine bp_st (pc' := 291) bu_19_290 rfl rfl (fun _ _ _ => rfl) rfl (by decide) (by decide) (fun lv3509 F3510 g3511 => ?_)
                    have g3512 := F3510 0 (.ref (E.1 + 88)) g3447 (by decide) (Or.inl rfl)
                    have g3513 := F3510 2 (.int r3442) g3446 (by decide) (Or.inl rfl)
                    refine bp_goD (pc' := 7) bu_19_291 rfl ?_
                    have hpm : px_at X n m = p := by rw [← hat]; exact px_rn_e (fun q => by have q2 := px_bl_iff.mp q.2; omega)
                    have hkd := px_kd_s hpn hlp hdp
                    have htl := px_tl_s hlp hdp
                    have hsg := px_sg_n (c := px_c X n p)
                    have hck : k3497.toInt = px_kd X n p := by rw [hkd, e3504, hc9]
                    have hK2 := rq_K_s (k := k3497) (w := i) (v := v3498) (x := x3499) hK (by rw [hpm]; exact hck) (by omega) (fun q => by rw [hpm] at q; omega) (fun q => by rw [hpm] at q; omega)
                    have hA2 : ∀ c, c ≠ 91 → c ≠ 92 → c ≠ 93 → (bh_up (bh_up (bh_up A 91 m (mm_nar 0 k3497)) 92 m (mm_nar 0 i)) 93 m (mm_nar 0 v3498)) c = A0 c := fun c c1 c2 c3 => (bh_up_ne c3).trans ((bh_up_ne c2).trans ((bh_up_ne c1).trans (hA c c1 c2 c3)))
                    have hL2 : ∀ c, c ≠ 94 → (bh_upL L 94 m x3499) c = L0 c := fun c c1 => (show _ = L c from if_neg c1).trans (hL c c1)
                    have hf2 : ∀ j, j ≠ 8810 → s3496 j = s0 j := fun j j1 => (f3503 j j1).trans (hf j j1)
                    exact ih kk2 _ _ _ _ _ _ _ (m + 1) (p + 1) hP3501 hf2 hA2 hL2 g3512 g3511 (by omega) (by omega) (by omega) (by omega) (px_at_nx hpm hpn (by omega)) (fun j hj => by
                      by_cases e : j = m
                      · rw [e, hpm]
                        exact hpn
                      · exact hlt j (by omega)) hK2
                  · replace k3488 : ¬ ((r3486).toInt = 0) := k3488
                    refine bp_c (pc' := 204) (n := 0) bu_19_203 rfl rfl (fun _ _ _ => rfl) (by decide) (fun c3514 e3515 => ?_)
                    refine bp_st (pc' := 205) bu_19_204 rfl rfl (fun _ _ _ => rfl) rfl (by decide) (by decide) (fun lv3516 F3517 g3518 => ?_)
                    have g3519 := F3517 0 (.ref (E.1 + 88)) g3447 (by decide) (Or.inl rfl)
                    have g3520 := F3517 1 (.int i) g3448 (by decide) (Or.inl rfl)
                    have g3521 := F3517 2 (.int r3442) g3446 (by decide) (Or.inl rfl)
                    refine bp_c (pc' := 206) (n := 0) bu_19_205 rfl rfl (fun _ _ _ => rfl) (by decide) (fun c3522 e3523 => ?_)
                    refine bp_st (pc' := 208) bu_19_206 rfl rfl (fun _ _ _ => rfl) rfl (by decide) (by decide) (fun lv3524 F3525 g3526 => ?_)
                    have g3527 := F3525 0 (.ref (E.1 + 88)) g3519 (by decide) (Or.inl rfl)
                    have g3528 := F3525 1 (.int i) g3520 (by decide) (Or.inl rfl)
                    have g3529 := F3525 2 (.int r3442) g3521 (by decide) (Or.inl rfl)
                    have g3530 := F3525 3 (.int c3514) g3518 (by decide) (Or.inl rfl)
                    have hpn : p < n := px_dg0 (X := X) (n := n) (j := p) (by omega)
                    have hlp : ¬ px_lt (px_c X n p) = true := fun q => by have q := px_lt_iff.mp q; omega
                    have hdp : px_dg (px_c X n p) = true := px_dg_iff.mpr (by omega)
                    refine rr_19c hP hn' hX' hn2 hi (NN + 1) (fun lv3531 o3532 k v ki g3533 g3534 g3535 g3536 hk hp hl hv hnl => ?_) _ _ _ _ 0 g3527 g3528 g3530 g3526 (by omega) (by omega) (fun j hj => absurd hj (by omega)) (by rw [show px_dv X n p (min 0 4) = 0 from rfl]; omega)
                    have hrn : px_rn px_dg X n p = p + ki := px_rn_k ki p (fun j hj => ⟨px_dg0 (px_dg_iff.mp (hl j hj)).1, hl j hj⟩) (fun q => hnl q.2)
                    have htl : px_tl X n p = ki := by rw [px_tl_d hlp hdp, hrn]; omega
                    refine bp_ld (pc' := 251) bu_19_250 rfl rfl (fun _ _ _ => rfl) g3533 rfl ?_
                    refine bp_ld (pc' := 252) bu_19_251 rfl rfl (fun _ _ _ => rfl) g3535 rfl ?_
                    refine bp_c (pc' := 253) (n := 4) bu_19_252 rfl rfl (fun _ _ _ => rfl) (by decide) (fun c3537 e3538 => ?_)
                    refine bp_ic (pc' := 256) (pt := 260) bu_19_253 rfl rfl (fun k3539 => ?_) (fun k3539 => ?_)
                    · replace k3539 : (k).toInt ≤ (c3537).toInt := k3539
                      refine bp_c (pc' := 261) (n := 2) bu_19_260 rfl rfl (fun _ _ _ => rfl) (by decide) (fun c3540 e3541 => ?_)
                      refine bp_ld (pc' := 262) bu_19_261 rfl rfl (fun _ _ _ => rfl) g3534 rfl ?_
                      refine bp_ld (pc' := 264) bu_19_262 rfl rfl (fun _ _ _ => rfl) g3536 rfl ?_
                      refine bn_cL (pc' := 265) (n := 0) bu_19_264 rfl rfl (fun _ _ _ => rfl) (by decide) (fun x3542 e3543 => ?_)
                      refine bn_cvF (pc' := 268) (st := []) (args := [.long x3542, .int v, .int i, .int c3540]) bu_19_265 rfl rfl rfl (by decide) hP rz_o88 (by decide) rfl (Nat.le_of_ble_eq_true rfl) (Nat.le_of_ble_eq_true rfl) ?_
                      refine rr_103 (k := c3540) (w := i) (v := v) (x := x3542) hP hm hm2 (fun h3544 s3545 hP3546 p3547 f3548 => ?_)
                      show bp_G E PO (NN + 1) ((19, 268, lv3531, [], 0, 0) :: gs, h3544, none)
                      refine bp_ld (pc' := 269) bu_19_268 rfl rfl (fun _ _ _ => rfl) g3534 rfl ?_
                      refine bp_ld (pc' := 270) bu_19_269 rfl rfl (fun _ _ _ => rfl) g3535 rfl ?_
                      refine bp_add (pc' := 271) bu_19_270 rfl (by omega) (by omega) (fun v3549 e3550 => ?_)
                      refine bp_st (pc' := 272) bu_19_271 rfl rfl (fun _ _ _ => rfl) rfl (by decide) (by decide) (fun lv3551 F3552 g3553 => ?_)
                      have g3554 := F3552 0 (.ref (E.1 + 88)) g3533 (by decide) (Or.inl rfl)
                      have g3555 := F3552 3 (.int k) g3535 (by decide) (Or.inl rfl)
                      have g3556 := F3552 4 (.int v) g3536 (by decide) (Or.inl rfl)
                      refine bp_go (pc' := 291) bu_19_272 rfl ?_
                      refine bp_goD (pc' := 7) bu_19_291 rfl ?_
                      have hpm : px_at X n m = p := by rw [← hat]; exact px_rn_e (fun q => by have q2 := px_bl_iff.mp q.2; omega)
                      have hkd := px_kd_d hpn hlp hdp
                      rw [htl] at hkd
                      rw [if_neg (by omega)] at hkd
                      have hK2 := rq_K_s (k := c3540) (w := i) (v := v) (x := x3542) hK (by rw [hpm]; omega) (by omega) (fun q => by rw [hpm] at q ⊢; (rw [show px_vl X n p = px_dv X n p (px_tl X n p) from if_pos q, htl]; rw [show min ki 4 = ki by omega] at hv; exact hv)) (fun q => by rw [hpm] at q; omega)
                      have hA2 : ∀ c, c ≠ 91 → c ≠ 92 → c ≠ 93 → (bh_up (bh_up (bh_up A 91 m (mm_nar 0 c3540)) 92 m (mm_nar 0 i)) 93 m (mm_nar 0 v)) c = A0 c := fun c c1 c2 c3 => (bh_up_ne c3).trans ((bh_up_ne c2).trans ((bh_up_ne c1).trans (hA c c1 c2 c3)))
                      have hL2 : ∀ c, c ≠ 94 → (bh_upL L 94 m x3542) c = L0 c := fun c c1 => (show _ = L c from if_neg c1).trans (hL c c1)
                      have hf2 : ∀ j, j ≠ 8810 → s3545 j = s0 j := fun j j1 => (f3548 j j1).trans (hf j j1)
                      exact ih kk2 _ _ _ _ _ _ _ (m + 1) (p + ki) hP3546 hf2 hA2 hL2 g3554 g3553 (by omega) (by omega) (by omega) (by omega) (px_at_nx hpm hpn (by omega)) (fun j hj => by
                        by_cases e : j = m
                        · rw [e, hpm]
                          exact hpn
                        · exact hlt j (by omega)) hK2
                    · replace k3539 : ¬ ((k).toInt ≤ (c3537).toInt) := k3539
                      refine bp_c (pc' := 257) (n := 3) bu_19_256 rfl rfl (fun _ _ _ => rfl) (by decide) (fun c3557 e3558 => ?_)
                      refine bp_go (pc' := 261) bu_19_257 rfl ?_
                      refine bp_ld (pc' := 262) bu_19_261 rfl rfl (fun _ _ _ => rfl) g3534 rfl ?_
                      refine bp_ld (pc' := 264) bu_19_262 rfl rfl (fun _ _ _ => rfl) g3536 rfl ?_
                      refine bn_cL (pc' := 265) (n := 0) bu_19_264 rfl rfl (fun _ _ _ => rfl) (by decide) (fun x3559 e3560 => ?_)
                      refine bn_cvF (pc' := 268) (st := []) (args := [.long x3559, .int v, .int i, .int c3557]) bu_19_265 rfl rfl rfl (by decide) hP rz_o88 (by decide) rfl (Nat.le_of_ble_eq_true rfl) (Nat.le_of_ble_eq_true rfl) ?_
                      refine rr_103 (k := c3557) (w := i) (v := v) (x := x3559) hP hm hm2 (fun h3561 s3562 hP3563 p3564 f3565 => ?_)
                      show bp_G E PO (NN + 1) ((19, 268, lv3531, [], 0, 0) :: gs, h3561, none)
                      refine bp_ld (pc' := 269) bu_19_268 rfl rfl (fun _ _ _ => rfl) g3534 rfl ?_
                      refine bp_ld (pc' := 270) bu_19_269 rfl rfl (fun _ _ _ => rfl) g3535 rfl ?_
                      refine bp_add (pc' := 271) bu_19_270 rfl (by omega) (by omega) (fun v3566 e3567 => ?_)
                      refine bp_st (pc' := 272) bu_19_271 rfl rfl (fun _ _ _ => rfl) rfl (by decide) (by decide) (fun lv3568 F3569 g3570 => ?_)
                      have g3571 := F3569 0 (.ref (E.1 + 88)) g3533 (by decide) (Or.inl rfl)
                      have g3572 := F3569 3 (.int k) g3535 (by decide) (Or.inl rfl)
                      have g3573 := F3569 4 (.int v) g3536 (by decide) (Or.inl rfl)
                      refine bp_go (pc' := 291) bu_19_272 rfl ?_
                      refine bp_goD (pc' := 7) bu_19_291 rfl ?_
                      have hpm : px_at X n m = p := by rw [← hat]; exact px_rn_e (fun q => by have q2 := px_bl_iff.mp q.2; omega)
                      have hkd := px_kd_d hpn hlp hdp
                      rw [htl] at hkd
                      rw [if_pos (by omega)] at hkd
                      have hK2 := rq_K_s (k := c3557) (w := i) (v := v) (x := x3559) hK (by rw [hpm]; omega) (by omega) (fun q => by rw [hpm] at q ⊢; omega) (fun q => by rw [hpm] at q; omega)
                      have hA2 : ∀ c, c ≠ 91 → c ≠ 92 → c ≠ 93 → (bh_up (bh_up (bh_up A 91 m (mm_nar 0 c3557)) 92 m (mm_nar 0 i)) 93 m (mm_nar 0 v)) c = A0 c := fun c c1 c2 c3 => (bh_up_ne c3).trans ((bh_up_ne c2).trans ((bh_up_ne c1).trans (hA c c1 c2 c3)))
                      have hL2 : ∀ c, c ≠ 94 → (bh_upL L 94 m x3559) c = L0 c := fun c c1 => (show _ = L c from if_neg c1).trans (hL c c1)
                      have hf2 : ∀ j, j ≠ 8810 → s3562 j = s0 j := fun j j1 => (f3565 j j1).trans (hf j j1)
                      exact ih kk2 _ _ _ _ _ _ _ (m + 1) (p + ki) hP3563 hf2 hA2 hL2 g3571 g3570 (by omega) (by omega) (by omega) (by omega) (px_at_nx hpm hpn (by omega)) (fun j hj => by
                        by_cases e : j = m
                        · rw [e, hpm]
                          exact hpn
                        · exact hlt j (by omega)) hK2
                · replace k3485 : ¬ ((r3483).toInt = 0) := k3485
                  refine bp_c (pc' := 81) (n := 0) bu_19_80 rfl rfl (fun _ _ _ => rfl) (by decide) (fun c3574 e3575 => ?_)
                  refine bp_st (pc' := 82) bu_19_81 rfl rfl (fun _ _ _ => rfl) rfl (by decide) (by decide) (fun lv3576 F3577 g3578 => ?_)
                  have g3579 := F3577 0 (.ref (E.1 + 88)) g3447 (by decide) (Or.inl rfl)
                  have g3580 := F3577 1 (.int i) g3448 (by decide) (Or.inl rfl)
                  have g3581 := F3577 2 (.int r3442) g3446 (by decide) (Or.inl rfl)
                  refine bn_cL (pc' := 83) (n := 0) bu_19_82 rfl rfl (fun _ _ _ => rfl) (by decide) (fun x3582 e3583 => ?_)
                  refine bp_stL (pc' := 85) bu_19_83 rfl rfl (fun _ _ _ => rfl) (by decide) (fun lv3584 F3585 g3586 => ?_)
                  have g3587 := F3585 0 (.ref (E.1 + 88)) g3579 (by decide) (by decide) (Or.inl rfl)
                  have g3588 := F3585 1 (.int i) g3580 (by decide) (by decide) (Or.inl rfl)
                  have g3589 := F3585 2 (.int r3442) g3581 (by decide) (by decide) (Or.inl rfl)
                  have g3590 := F3585 3 (.int c3574) g3578 (by decide) (by decide) (Or.inl rfl)
                  have hpn : p < n := px_lt0 (X := X) (n := n) (j := p) (by omega)
                  have hlp : px_lt (px_c X n p) = true := px_lt_iff.mpr (by omega)
                  refine rr_19a hP hn' hX' hn2 hi (NN + 1) (fun lv3591 o3592 k x ki g3596 g3597 g3598 g3599 hk hp hl hx hnl => ?_) _ _ _ _ 0 g3587 g3588 g3590 g3586 (by omega) (by omega) (fun j hj => absurd hj (by omega)) (by rw [show px_nm 27 X n p (min 0 8) = 0 from rfl]; omega)
                  have hrn : px_rn px_lt X n p = p + ki := px_rn_k ki p (fun j hj => ⟨px_lt0 (px_lt_iff.mp (hl j hj)).1, hl j hj⟩) (fun q => hnl q.2)
                  have htl : px_tl X n p = ki := by rw [px_tl_l hlp, hrn]; omega
                  refine bp_ld (pc' := 125) bu_19_124 rfl rfl (fun _ _ _ => rfl) g3598 rfl ?_
                  refine bp_c (pc' := 127) (n := 8) bu_19_125 rfl rfl (fun _ _ _ => rfl) (by decide) (fun c3600 e3601 => ?_)
                  refine bp_ic (pc' := 130) (pt := 134) bu_19_127 rfl rfl (fun k3602 => ?_) (fun k3602 => ?_)
                  · replace k3602 : (k).toInt ≤ (c3600).toInt := k3602
                    refine bp_c (pc' := 135) (n := 1) bu_19_134 rfl rfl (fun _ _ _ => rfl) (by decide) (fun c3603 e3604 => ?_)
                    refine bp_st (pc' := 137) bu_19_135 rfl rfl (fun _ _ _ => rfl) rfl (by decide) (by decide) (fun lv3605 F3606 g3607 => ?_)
                    have g3608 := F3606 0 (.ref (E.1 + 88)) g3596 (by decide) (Or.inl rfl)
                    have g3609 := F3606 1 (.int i) g3597 (by decide) (Or.inl rfl)
                    have g3610 := F3606 3 (.int k) g3598 (by decide) (Or.inl rfl)
                    have g3611 := F3606 4 (.long x) g3599 (by decide) (Or.inr (by decide))
                    refine bp_ld (pc' := 138) bu_19_137 rfl rfl (fun _ _ _ => rfl) g3610 rfl ?_
                    refine bp_c (pc' := 140) (n := 7) bu_19_138 rfl rfl (fun _ _ _ => rfl) (by decide) (fun c3612 e3613 => ?_)
                    refine bp_ic (pc' := 143) (pt := 179) bu_19_140 rfl rfl (fun k3614 => ?_) (fun k3614 => ?_)
                    · replace k3614 : (c3612).toInt < (k).toInt := k3614
                      refine bp_ld (pc' := 180) bu_19_179 rfl rfl (fun _ _ _ => rfl) g3608 rfl ?_
                      refine bp_ld (pc' := 182) bu_19_180 rfl rfl (fun _ _ _ => rfl) g3607 rfl ?_
                      refine bp_ld (pc' := 183) bu_19_182 rfl rfl (fun _ _ _ => rfl) g3609 rfl ?_
                      refine bp_c (pc' := 184) (n := 0) bu_19_183 rfl rfl (fun _ _ _ => rfl) (by decide) (fun c3615 e3616 => ?_)
                      refine bp_ld (pc' := 186) bu_19_184 rfl rfl (fun _ _ _ => rfl) g3611 rfl ?_
                      refine bn_cvF (pc' := 189) (st := []) (args := [.long x, .int c3615, .int i, .int c3603]) bu_19_186 rfl rfl rfl (by decide) hP rz_o88 (by decide) rfl (Nat.le_of_ble_eq_true rfl) (Nat.le_of_ble_eq_true rfl) ?_
                      refine rr_103 (k := c3603) (w := i) (v := c3615) (x := x) hP hm hm2 (fun h3617 s3618 hP3619 p3620 f3621 => ?_)
                      show bp_G E PO (NN + 1) ((19, 189, lv3605, [], 0, 0) :: gs, h3617, none)
                      refine bp_ld (pc' := 190) bu_19_189 rfl rfl (fun _ _ _ => rfl) g3609 rfl ?_
                      refine bp_ld (pc' := 191) bu_19_190 rfl rfl (fun _ _ _ => rfl) g3610 rfl ?_
                      refine bp_add (pc' := 192) bu_19_191 rfl (by omega) (by omega) (fun v3622 e3623 => ?_)
                      refine bp_st (pc' := 193) bu_19_192 rfl rfl (fun _ _ _ => rfl) rfl (by decide) (by decide) (fun lv3624 F3625 g3626 => ?_)
                      have g3627 := F3625 0 (.ref (E.1 + 88)) g3608 (by decide) (Or.inl rfl)
                      have g3628 := F3625 3 (.int k) g3610 (by decide) (Or.inl rfl)
                      have g3629 := F3625 4 (.long x) g3611 (by decide) (Or.inr (by decide))
                      have g3630 := F3625 6 (.int c3603) g3607 (by decide) (Or.inl rfl)
                      refine bp_go (pc' := 291) bu_19_193 rfl ?_
                      refine bp_goD (pc' := 7) bu_19_291 rfl ?_
                      have hpm : px_at X n m = p := by rw [← hat]; exact px_rn_e (fun q => by have q2 := px_bl_iff.mp q.2; omega)
                      have hkd := px_kd_l hpn hlp
                      rw [htl] at hkd
                      rw [if_neg (by omega)] at hkd
                      rw [px_wd_8 (by omega), if_neg (by decide)] at hkd
                      have hK2 := rq_K_s (k := c3603) (w := i) (v := c3615) (x := x) hK (by rw [hpm]; omega) (by omega) (fun q => by rw [hpm, hkd] at q; omega) (fun q => by rw [hpm] at q ⊢; rw [htl]; (rw [show min ki 8 = ki by omega] at hx); exact hx)
                      have hA2 : ∀ c, c ≠ 91 → c ≠ 92 → c ≠ 93 → (bh_up (bh_up (bh_up A 91 m (mm_nar 0 c3603)) 92 m (mm_nar 0 i)) 93 m (mm_nar 0 c3615)) c = A0 c := fun c c1 c2 c3 => (bh_up_ne c3).trans ((bh_up_ne c2).trans ((bh_up_ne c1).trans (hA c c1 c2 c3)))
                      have hL2 : ∀ c, c ≠ 94 → (bh_upL L 94 m x) c = L0 c := fun c c1 => (show _ = L c from if_neg c1).trans (hL c c1)
                      have hf2 : ∀ j, j ≠ 8810 → s3618 j = s0 j := fun j j1 => (f3621 j j1).trans (hf j j1)
                      exact ih kk2 _ _ _ _ _ _ _ (m + 1) (p + ki) hP3619 hf2 hA2 hL2 g3627 g3626 (by omega) (by omega) (by omega) (by omega) (px_at_nx hpm hpn (by omega)) (fun j hj => by
                        by_cases e : j = m
                        · rw [e, hpm]
                          exact hpn
                        · exact hlt j (by omega)) hK2
                    · replace k3614 : ¬ ((c3612).toInt < (k).toInt) := k3614
                      refine bp_c (pc' := 144) (n := 0) bu_19_143 rfl rfl (fun _ _ _ => rfl) (by decide) (fun c3631 e3632 => ?_)
                      refine bp_st (pc' := 146) bu_19_144 rfl rfl (fun _ _ _ => rfl) rfl (by decide) (by decide) (fun lv3633 F3634 g3635 => ?_)
                      have g3636 := F3634 0 (.ref (E.1 + 88)) g3608 (by decide) (Or.inl rfl)
                      have g3637 := F3634 1 (.int i) g3609 (by decide) (Or.inl rfl)
                      have g3638 := F3634 3 (.int k) g3610 (by decide) (Or.inl rfl)
                      have g3639 := F3634 4 (.long x) g3611 (by decide) (Or.inr (by decide))
                      have g3640 := F3634 6 (.int c3603) g3607 (by decide) (Or.inl rfl)
                      have hx7 := hx
                      rw [show min ki 8 = ki by omega] at hx7
                      refine rr_19b (X := X) (n := n) (p := p) (len := ki) hP hky' hl hx7 (NN + 1) (fun lv3641 o3642 kd g3643 g3644 g3645 g3646 g3647 hkd6 => ?_) _ _ _ _ 0 g3636 g3637 g3638 g3639 g3640 g3635 (by omega) (by omega) (Or.inl ⟨by omega, fun j hj => absurd hj (by omega)⟩)
                      refine bp_ld (pc' := 180) bu_19_179 rfl rfl (fun _ _ _ => rfl) g3643 rfl ?_
                      refine bp_ld (pc' := 182) bu_19_180 rfl rfl (fun _ _ _ => rfl) g3647 rfl ?_
                      refine bp_ld (pc' := 183) bu_19_182 rfl rfl (fun _ _ _ => rfl) g3644 rfl ?_
                      refine bp_c (pc' := 184) (n := 0) bu_19_183 rfl rfl (fun _ _ _ => rfl) (by decide) (fun c3648 e3649 => ?_)
                      refine bp_ld (pc' := 186) bu_19_184 rfl rfl (fun _ _ _ => rfl) g3646 rfl ?_
                      refine bn_cvF (pc' := 189) (st := []) (args := [.long x, .int c3648, .int i, .int kd]) bu_19_186 rfl rfl rfl (by decide) hP rz_o88 (by decide) rfl (Nat.le_of_ble_eq_true rfl) (Nat.le_of_ble_eq_true rfl) ?_
                      refine rr_103 (k := kd) (w := i) (v := c3648) (x := x) hP hm hm2 (fun h3650 s3651 hP3652 p3653 f3654 => ?_)
                      show bp_G E PO (NN + 1) ((19, 189, lv3641, [], 0, 0) :: gs, h3650, none)
                      refine bp_ld (pc' := 190) bu_19_189 rfl rfl (fun _ _ _ => rfl) g3644 rfl ?_
                      refine bp_ld (pc' := 191) bu_19_190 rfl rfl (fun _ _ _ => rfl) g3645 rfl ?_
                      refine bp_add (pc' := 192) bu_19_191 rfl (by omega) (by omega) (fun v3655 e3656 => ?_)
                      refine bp_st (pc' := 193) bu_19_192 rfl rfl (fun _ _ _ => rfl) rfl (by decide) (by decide) (fun lv3657 F3658 g3659 => ?_)
                      have g3660 := F3658 0 (.ref (E.1 + 88)) g3643 (by decide) (Or.inl rfl)
                      have g3661 := F3658 3 (.int k) g3645 (by decide) (Or.inl rfl)
                      have g3662 := F3658 4 (.long x) g3646 (by decide) (Or.inr (by decide))
                      have g3663 := F3658 6 (.int kd) g3647 (by decide) (Or.inl rfl)
                      refine bp_go (pc' := 291) bu_19_193 rfl ?_
                      refine bp_goD (pc' := 7) bu_19_291 rfl ?_
                      have hpm : px_at X n m = p := by rw [← hat]; exact px_rn_e (fun q => by have q2 := px_bl_iff.mp q.2; omega)
                      have hkd := px_kd_l hpn hlp
                      rw [htl] at hkd
                      rw [if_neg (by omega)] at hkd
                      have hK2 := rq_K_s (k := kd) (w := i) (v := c3648) (x := x) hK (by rw [hpm]; omega) (by omega) (fun q => by rw [hpm, hkd] at q; split at q <;> omega) (fun q => by rw [hpm] at q ⊢; rw [htl]; (rw [show min ki 8 = ki by omega] at hx); exact hx)
                      have hA2 : ∀ c, c ≠ 91 → c ≠ 92 → c ≠ 93 → (bh_up (bh_up (bh_up A 91 m (mm_nar 0 kd)) 92 m (mm_nar 0 i)) 93 m (mm_nar 0 c3648)) c = A0 c := fun c c1 c2 c3 => (bh_up_ne c3).trans ((bh_up_ne c2).trans ((bh_up_ne c1).trans (hA c c1 c2 c3)))
                      have hL2 : ∀ c, c ≠ 94 → (bh_upL L 94 m x) c = L0 c := fun c c1 => (show _ = L c from if_neg c1).trans (hL c c1)
                      have hf2 : ∀ j, j ≠ 8810 → s3651 j = s0 j := fun j j1 => (f3654 j j1).trans (hf j j1)
                      exact ih kk2 _ _ _ _ _ _ _ (m + 1) (p + ki) hP3652 hf2 hA2 hL2 g3660 g3659 (by omega) (by omega) (by omega) (by omega) (px_at_nx hpm hpn (by omega)) (fun j hj => by
                        by_cases e : j = m
                        · rw [e, hpm]
                          exact hpn
                        · exact hlt j (by omega)) hK2
                  · replace k3602 : ¬ ((k).toInt ≤ (c3600).toInt) := k3602
                    refine bp_c (pc' := 131) (n := 3) bu_19_130 rfl rfl (fun _ _ _ => rfl) (by decide) (fun c3664 e3665 => ?_)
                    refine bp_go (pc' := 135) bu_19_131 rfl ?_
                    refine bp_st (pc' := 137) bu_19_135 rfl rfl (fun _ _ _ => rfl) rfl (by decide) (by decide) (fun lv3666 F3667 g3668 => ?_)
                    have g3669 := F3667 0 (.ref (E.1 + 88)) g3596 (by decide) (Or.inl rfl)
                    have g3670 := F3667 1 (.int i) g3597 (by decide) (Or.inl rfl)
                    have g3671 := F3667 3 (.int k) g3598 (by decide) (Or.inl rfl)
                    have g3672 := F3667 4 (.long x) g3599 (by decide) (Or.inr (by decide))
                    refine bp_ld (pc' := 138) bu_19_137 rfl rfl (fun _ _ _ => rfl) g3671 rfl ?_
                    refine bp_c (pc' := 140) (n := 7) bu_19_138 rfl rfl (fun _ _ _ => rfl) (by decide) (fun c3673 e3674 => ?_)
                    refine bp_ic (pc' := 143) (pt := 179) bu_19_140 rfl rfl (fun k3675 => ?_) (fun k3675 => ?_)
                    · replace k3675 : (c3673).toInt < (k).toInt := k3675
                      refine bp_ld (pc' := 180) bu_19_179 rfl rfl (fun _ _ _ => rfl) g3669 rfl ?_
                      refine bp_ld (pc' := 182) bu_19_180 rfl rfl (fun _ _ _ => rfl) g3668 rfl ?_
                      refine bp_ld (pc' := 183) bu_19_182 rfl rfl (fun _ _ _ => rfl) g3670 rfl ?_
                      refine bp_c (pc' := 184) (n := 0) bu_19_183 rfl rfl (fun _ _ _ => rfl) (by decide) (fun c3676 e3677 => ?_)
                      refine bp_ld (pc' := 186) bu_19_184 rfl rfl (fun _ _ _ => rfl) g3672 rfl ?_
                      refine bn_cvF (pc' := 189) (st := []) (args := [.long x, .int c3676, .int i, .int c3664]) bu_19_186 rfl rfl rfl (by decide) hP rz_o88 (by decide) rfl (Nat.le_of_ble_eq_true rfl) (Nat.le_of_ble_eq_true rfl) ?_
                      refine rr_103 (k := c3664) (w := i) (v := c3676) (x := x) hP hm hm2 (fun h3678 s3679 hP3680 p3681 f3682 => ?_)
                      show bp_G E PO (NN + 1) ((19, 189, lv3666, [], 0, 0) :: gs, h3678, none)
                      refine bp_ld (pc' := 190) bu_19_189 rfl rfl (fun _ _ _ => rfl) g3670 rfl ?_
                      refine bp_ld (pc' := 191) bu_19_190 rfl rfl (fun _ _ _ => rfl) g3671 rfl ?_
                      refine bp_add (pc' := 192) bu_19_191 rfl (by omega) (by omega) (fun v3683 e3684 => ?_)
                      refine bp_st (pc' := 193) bu_19_192 rfl rfl (fun _ _ _ => rfl) rfl (by decide) (by decide) (fun lv3685 F3686 g3687 => ?_)
                      have g3688 := F3686 0 (.ref (E.1 + 88)) g3669 (by decide) (Or.inl rfl)
                      have g3689 := F3686 3 (.int k) g3671 (by decide) (Or.inl rfl)
                      have g3690 := F3686 4 (.long x) g3672 (by decide) (Or.inr (by decide))
                      have g3691 := F3686 6 (.int c3664) g3668 (by decide) (Or.inl rfl)
                      refine bp_go (pc' := 291) bu_19_193 rfl ?_
                      refine bp_goD (pc' := 7) bu_19_291 rfl ?_
                      have hpm : px_at X n m = p := by rw [← hat]; exact px_rn_e (fun q => by have q2 := px_bl_iff.mp q.2; omega)
                      have hkd := px_kd_l hpn hlp
                      rw [htl] at hkd
                      rw [if_pos (by omega)] at hkd
                      have hK2 := rq_K_s (k := c3664) (w := i) (v := c3676) (x := x) hK (by rw [hpm]; omega) (by omega) (fun q => by rw [hpm, hkd] at q; omega) (fun q => by rw [hpm] at q ⊢; rw [htl]; omega)
                      have hA2 : ∀ c, c ≠ 91 → c ≠ 92 → c ≠ 93 → (bh_up (bh_up (bh_up A 91 m (mm_nar 0 c3664)) 92 m (mm_nar 0 i)) 93 m (mm_nar 0 c3676)) c = A0 c := fun c c1 c2 c3 => (bh_up_ne c3).trans ((bh_up_ne c2).trans ((bh_up_ne c1).trans (hA c c1 c2 c3)))
                      have hL2 : ∀ c, c ≠ 94 → (bh_upL L 94 m x) c = L0 c := fun c c1 => (show _ = L c from if_neg c1).trans (hL c c1)
                      have hf2 : ∀ j, j ≠ 8810 → s3679 j = s0 j := fun j j1 => (f3682 j j1).trans (hf j j1)
                      exact ih kk2 _ _ _ _ _ _ _ (m + 1) (p + ki) hP3680 hf2 hA2 hL2 g3688 g3687 (by omega) (by omega) (by omega) (by omega) (px_at_nx hpm hpn (by omega)) (fun j hj => by
                        by_cases e : j = m
                        · rw [e, hpm]
                          exact hpn
                        · exact hlt j (by omega)) hK2
                    · replace k3675 : ¬ ((c3673).toInt < (k).toInt) := k3675
                      refine bp_c (pc' := 144) (n := 0) bu_19_143 rfl rfl (fun _ _ _ => rfl) (by decide) (fun c3692 e3693 => ?_)
                      refine bp_st (pc' := 146) bu_19_144 rfl rfl (fun _ _ _ => rfl) rfl (by decide) (by decide) (fun lv3694 F3695 g3696 => ?_)
                      have g3697 := F3695 0 (.ref (E.1 + 88)) g3669 (by decide) (Or.inl rfl)
                      have g3698 := F3695 1 (.int i) g3670 (by decide) (Or.inl rfl)
                      have g3699 := F3695 3 (.int k) g3671 (by decide) (Or.inl rfl)
                      have g3700 := F3695 4 (.long x) g3672 (by decide) (Or.inr (by decide))
                      have g3701 := F3695 6 (.int c3664) g3668 (by decide) (Or.inl rfl)
                      have hx7 := hx
                      rw [show min ki 8 = ki by omega] at hx7
                      refine rr_19b (X := X) (n := n) (p := p) (len := ki) hP hky' hl hx7 (NN + 1) (fun lv3702 o3703 kd g3704 g3705 g3706 g3707 g3708 hkd6 => ?_) _ _ _ _ 0 g3697 g3698 g3699 g3700 g3701 g3696 (by omega) (by omega) (Or.inl ⟨by omega, fun j hj => absurd hj (by omega)⟩)
                      refine bp_ld (pc' := 180) bu_19_179 rfl rfl (fun _ _ _ => rfl) g3704 rfl ?_
                      refine bp_ld (pc' := 182) bu_19_180 rfl rfl (fun _ _ _ => rfl) g3708 rfl ?_
                      refine bp_ld (pc' := 183) bu_19_182 rfl rfl (fun _ _ _ => rfl) g3705 rfl ?_
                      refine bp_c (pc' := 184) (n := 0) bu_19_183 rfl rfl (fun _ _ _ => rfl) (by decide) (fun c3709 e3710 => ?_)
                      refine bp_ld (pc' := 186) bu_19_184 rfl rfl (fun _ _ _ => rfl) g3707 rfl ?_
                      refine bn_cvF (pc' := 189) (st := []) (args := [.long x, .int c3709, .int i, .int kd]) bu_19_186 rfl rfl rfl (by decide) hP rz_o88 (by decide) rfl (Nat.le_of_ble_eq_true rfl) (Nat.le_of_ble_eq_true rfl) ?_
                      refine rr_103 (k := kd) (w := i) (v := c3709) (x := x) hP hm hm2 (fun h3711 s3712 hP3713 p3714 f3715 => ?_)
                      show bp_G E PO (NN + 1) ((19, 189, lv3702, [], 0, 0) :: gs, h3711, none)
                      refine bp_ld (pc' := 190) bu_19_189 rfl rfl (fun _ _ _ => rfl) g3705 rfl ?_
                      refine bp_ld (pc' := 191) bu_19_190 rfl rfl (fun _ _ _ => rfl) g3706 rfl ?_
                      refine bp_add (pc' := 192) bu_19_191 rfl (by omega) (by omega) (fun v3716 e3717 => ?_)
                      refine bp_st (pc' := 193) bu_19_192 rfl rfl (fun _ _ _ => rfl) rfl (by decide) (by decide) (fun lv3718 F3719 g3720 => ?_)
                      have g3721 := F3719 0 (.ref (E.1 + 88)) g3704 (by decide) (Or.inl rfl)
                      have g3722 := F3719 3 (.int k) g3706 (by decide) (Or.inl rfl)
                      have g3723 := F3719 4 (.long x) g3707 (by decide) (Or.inr (by decide))
                      have g3724 := F3719 6 (.int kd) g3708 (by decide) (Or.inl rfl)
                      refine bp_go (pc' := 291) bu_19_193 rfl ?_
                      refine bp_goD (pc' := 7) bu_19_291 rfl ?_
                      have hpm : px_at X n m = p := by rw [← hat]; exact px_rn_e (fun q => by have q2 := px_bl_iff.mp q.2; omega)
                      have hkd := px_kd_l hpn hlp
                      rw [htl] at hkd
                      rw [if_neg (by omega)] at hkd
                      have hK2 := rq_K_s (k := kd) (w := i) (v := c3709) (x := x) hK (by rw [hpm]; omega) (by omega) (fun q => by rw [hpm, hkd] at q; split at q <;> omega) (fun q => by rw [hpm] at q ⊢; rw [htl]; (rw [show min ki 8 = ki by omega] at hx); exact hx)
                      have hA2 : ∀ c, c ≠ 91 → c ≠ 92 → c ≠ 93 → (bh_up (bh_up (bh_up A 91 m (mm_nar 0 kd)) 92 m (mm_nar 0 i)) 93 m (mm_nar 0 c3709)) c = A0 c := fun c c1 c2 c3 => (bh_up_ne c3).trans ((bh_up_ne c2).trans ((bh_up_ne c1).trans (hA c c1 c2 c3)))
                      have hL2 : ∀ c, c ≠ 94 → (bh_upL L 94 m x) c = L0 c := fun c c1 => (show _ = L c from if_neg c1).trans (hL c c1)
                      have hf2 : ∀ j, j ≠ 8810 → s3712 j = s0 j := fun j j1 => (f3715 j j1).trans (hf j j1)
                      exact ih kk2 _ _ _ _ _ _ _ (m + 1) (p + ki) hP3713 hf2 hA2 hL2 g3721 g3720 (by omega) (by omega) (by omega) (by omega) (px_at_nx hpm hpn (by omega)) (fun j hj => by
                        by_cases e : j = m
                        · rw [e, hpm]
                          exact hpn
                        · exact hlt j (by omega)) hK2
              · replace k3482 : ¬ ((r3442).toInt ≠ (c3480).toInt) := k3482
                refine bp_inc (pc' := 70) bu_19_67 rfl (by decide) g3448 (by decide) (by omega) (by omega) (fun lv3725 y3728 F3726 g3727 e3729 => ?_)
                have g3730 := F3726 0 (.ref (E.1 + 88)) g3447 (by decide) (Or.inl rfl)
                have g3731 := F3726 2 (.int r3442) g3446 (by decide) (Or.inl rfl)
                refine bp_go (pc' := 291) bu_19_70 rfl ?_
                refine bp_goD (pc' := 7) bu_19_291 rfl ?_
                exact ih kk2 _ _ _ _ _ _ _ m (p + 1) hP hf hA hL g3730 g3727 hm hm2 (by omega) (by omega) ((px_rn_s (by omega) (px_bl_iff.mpr (by omega))).symm.trans hat) hlt hK
      · replace k3449 : ¬ ((i).toInt < ((s 8804)).toInt) := k3449
        refine bp_ld (pc' := 32) bu_19_31 rfl rfl (fun _ _ _ => rfl) g3447 rfl ?_
        refine bp_c (pc' := 33) (n := 0) bu_19_32 rfl rfl (fun _ _ _ => rfl) (by decide) (fun c3732 e3733 => ?_)
        refine bp_ld (pc' := 34) bu_19_33 rfl rfl (fun _ _ _ => rfl) g3447 rfl ?_
        refine bn_gi (pc' := 37) (K := 8804) bu_19_34 rfl rfl (fun _ _ _ => rfl) hP rz_o88 rz_i88_4 rfl rfl ?_
        refine bp_c (pc' := 38) (n := 0) bu_19_37 rfl rfl (fun _ _ _ => rfl) (by decide) (fun c3734 e3735 => ?_)
        refine bn_cL (pc' := 39) (n := 0) bu_19_38 rfl rfl (fun _ _ _ => rfl) (by decide) (fun x3736 e3737 => ?_)
        refine bn_cvF (pc' := 42) (st := []) (args := [.long x3736, .int c3734, .int (s 8804), .int c3732]) bu_19_39 rfl rfl rfl (by decide) hP rz_o88 (by decide) rfl (Nat.le_of_ble_eq_true rfl) (Nat.le_of_ble_eq_true rfl) ?_
        refine rr_103 (k := c3732) (w := (s 8804)) (v := c3734) (x := x3736) hP hm hm2 (fun h3738 s3739 hP3740 p3741 f3742 => ?_)
        show bp_G E PO (NN + 1) ((19, 42, lv3444, [], 0, 0) :: gs, h3738, none)
        refine bp_rv bu_19_42 ?_
        have hpn : p = n := by omega
        have hpm : px_at X n m = p := by rw [← hat]; exact px_rn_e (fun q => by omega)
        have h0K : px_kd X n (px_at X n m) = 0 := px_kd_e (by omega)
        have hK2 := rq_K_s (k := c3732) (w := (s 8804)) (v := c3734) (x := x3736) hK (by omega) (by omega) (fun q => by omega) (fun q => by omega)
        have hA2 : ∀ c, c ≠ 91 → c ≠ 92 → c ≠ 93 → (bh_up (bh_up (bh_up A 91 m (mm_nar 0 c3732)) 92 m (mm_nar 0 (s 8804))) 93 m (mm_nar 0 c3734)) c = A0 c := fun c c1 c2 c3 => (bh_up_ne c3).trans ((bh_up_ne c2).trans ((bh_up_ne c1).trans (hA c c1 c2 c3)))
        have hL2 : ∀ c, c ≠ 94 → (bh_upL L 94 m x3736) c = L0 c := fun c c1 => (show _ = L c from if_neg c1).trans (hL c c1)
        have hf2 : ∀ j, j ≠ 8810 → s3739 j = s0 j := fun j j1 => (f3742 j j1).trans (hf j j1)
        exact kk _ _ _ _ (m + 1) hP3740 hf2 hA2 hL2 (by omega) (Nat.succ_pos m) (by omega) (fun j a b c => by
          by_cases e : j = m
          · rw [e] at c
            exact absurd h0K c
          · omega) (fun i j a b => px_at_lt a (hlt i (by omega))) hK2
theorem rr_19 {X : Nat → Int32} {n : Nat} (hP : bm_P rz_T E h0 h s A L) (hn : (s 8804).toInt = (n : Int)) (hX : ∀ j, px_c (A 90) n j = px_c X n j) (hn2 : n ≤ 2000) (hky : ∀ j, j < 24 → (L 95 j).toInt = (px_ky j : Nat)) (kk : ∀ (h' : mm_H) (s' : Nat → Int32) (A' : Nat → Nat → Int32) (L' : Nat → Nat → Int64) (M : Nat), bm_P rz_T E h0 h' s' A' L' → (∀ j, j ≠ 8810 → s' j = s j) → (∀ c, c ≠ 91 → c ≠ 92 → c ≠ 93 → A' c = A c) → (∀ c, c ≠ 94 → L' c = L c) → rq_T (fun j => px_kd X n (px_at X n j)) (fun j => px_vl X n (px_at X n j)) (fun j => (px_at X n j : Int)) M A' → (∀ j, j < M → px_kd X n (px_at X n j) = 1 → (L' 94 j).toInt = (px_nm 27 X n (px_at X n j) (px_tl X n (px_at X n j)) : Nat)) → bp_G E PO NN (mm_back none gs h')) : bp_G E PO NN ((19, 0, [(0, .ref (E.1 + 88))], [], 0, 0) :: gs, h, none) := by
  refine bp_ld (pc' := 1) bu_19_0 rfl rfl (fun _ _ _ => rfl) rfl rfl ?_
  refine bp_c (pc' := 2) (n := 0) bu_19_1 rfl rfl (fun _ _ _ => rfl) (by decide) (fun c3743 e3744 => ?_)
  refine bn_pf (pc' := 5) (K := 8810) bu_19_2 rfl rfl (fun _ _ _ => rfl) hP rz_o88 rz_i88_10 rfl rfl (fun h3745 s3746 hP3747 e3748 f3749 => ?_)
  refine bp_c (pc' := 6) (n := 0) bu_19_5 rfl rfl (fun _ _ _ => rfl) (by decide) (fun c3750 e3751 => ?_)
  refine bp_st (pc' := 7) bu_19_6 rfl rfl (fun _ _ _ => rfl) rfl (by decide) (by decide) (fun lv3752 F3753 g3754 => ?_)
  have g3755 := F3753 0 (.ref (E.1 + 88)) rfl (by decide) (Or.inl rfl)
  have z8810 := congrArg Int32.toInt e3748
  exact rr_19l hn hX hn2 hky NN (fun h' s' A' L' M a0 a1 a2 a3 a4 a5 a6 a7 a8 a9 => kk h' s' A' L' M a0 (fun j j1 => (a1 j j1).trans (rfl)) a2 a3 ⟨a6, a5, fun j hj => ⟨(a9 j hj).1, (a9 j hj).2.1, (a9 j hj).2.2.1⟩, a7, fun i j b c => Int.ofNat_lt.mpr (a8 i j b c)⟩ (fun j hj => (a9 j hj).2.2.2)) _ _ _ _ _ _ _ 0 0 hP3747 f3749 (fun _ _ _ _ => rfl) (fun _ _ => rfl) g3755 g3754 (by omega) (by omega) (by omega) (by omega) rfl (fun j hj => absurd hj (Nat.not_lt_zero j)) (fun j hj => absurd hj (Nat.not_lt_zero j))
end RQB
