/-! PARTIAL: the reference's tokens, exact (wip/p5/mkr4.py) -/
theorem bp_and255 (x : Int32) : (x &&& 255).toInt = x.toInt % 256 := by
  have e1 : (x &&& 255).toBitVec = x.toBitVec &&& 255#32 := rfl
  have e2 : (x.toBitVec &&& 255#32).toNat = x.toBitVec.toNat % 256 := by
    rw [BitVec.toNat_and]
    exact Nat.and_two_pow_sub_one_eq_mod _ 8
  have e3 : (x &&& 255).toInt = (x &&& 255).toBitVec.toInt := rfl
  have e4 : x.toInt = x.toBitVec.toInt := rfl
  rw [e3, e1, e4, BitVec.toInt_eq_toNat_cond, BitVec.toInt_eq_toNat_cond, e2]
  have := x.toBitVec.isLt
  split <;> split <;> omega
theorem px_rn_k {Q : Int → Bool} {X : Nat → Int32} {n : Nat} : ∀ (k i : Nat), (∀ j, j < k → i + j < n ∧ Q (px_c X n (i + j)) = true) → ¬ (i + k < n ∧ Q (px_c X n (i + k)) = true) → px_rn Q X n i = i + k := by
  intro k
  induction k with
  | zero => exact fun i _ h => px_rn_e h
  | succ k ih =>
    intro i h1 h2
    have a : i < n ∧ Q (px_c X n i) = true := h1 0 (Nat.succ_pos k)
    rw [px_rn_s a.1 a.2, ih (i + 1) (fun j hj => by
      have b := h1 (j + 1) (by omega)
      rw [show i + 1 + j = i + (j + 1) by omega]
      exact b) (by
      rw [show i + 1 + k = i + (k + 1) by omega]
      exact h2)]
    omega
theorem px_at_m {X : Nat → Int32} {n : Nat} : ∀ (j i : Nat), i ≤ j → px_at X n i ≤ px_at X n j := by
  intro j
  induction j with
  | zero =>
    intro i h
    have e : i = 0 := by omega
    rw [e]
    exact Nat.le_refl _
  | succ j ih =>
    intro i h
    by_cases e : i = j + 1
    · rw [e]
      exact Nat.le_refl _
    · exact Nat.le_trans (ih i (by omega)) px_at_s.1
theorem px_nm_b {X : Nat → Int32} {n p k : Nat} (hk : k ≤ 8) (h : ∀ j, j < k → px_lt (px_c X n (p + j)) = true) : px_nm 27 X n p k < 282429536481 := by
  have h1 : px_nm 27 X n p k < 27 ^ k := px_nv_lt (by decide) k (fun j hj => by
    have g := px_lt_iff.mp (h j hj)
    unfold px_ld
    omega)
  have h2 : 27 ^ k ≤ 27 ^ 8 := Nat.pow_le_pow_right (by decide) hk
  have h3 : 27 ^ 8 = 282429536481 := by decide
  omega
theorem px_lt0 {X : Nat → Int32} {n j : Nat} (h : 97 ≤ px_c X n j) : j < n := by
  by_cases e : j < n
  · exact e
  · rw [px_c_out e] at h
    omega
theorem px_dg0 {X : Nat → Int32} {n j : Nat} (h : 48 ≤ px_c X n j) : j < n := by
  by_cases e : j < n
  · exact e
  · rw [px_c_out e] at h
    omega
theorem px_dv_b {X : Nat → Int32} {n p : Nat} : ∀ k, k ≤ 4 → (∀ j, j < k → px_dg (px_c X n (p + j)) = true) → 0 ≤ px_dv X n p k ∧ px_dv X n p k < 10 ^ k := by
  intro k
  induction k with
  | zero => exact fun _ _ => ⟨Int.le_refl 0, (by decide : (0 : Int) < 10 ^ 0)⟩
  | succ k ih =>
    intro h1 h2
    have a := ih (by omega) (fun j hj => h2 j (by omega))
    have b := px_dg_iff.mp (h2 k (by omega))
    have e : px_dv X n p (k + 1) = 10 * px_dv X n p k + (px_c X n (p + k) - 48) := rfl
    rw [e]
    have e2 : (10 : Int) ^ (k + 1) = 10 ^ k * 10 := Int.pow_succ 10 k
    rw [e2]
    generalize (10 : Int) ^ k = z at a
    omega
theorem bp_app {x y z w v : Int64} {c : Int} (h0 : 0 ≤ x.toInt) (h1 : x.toInt < 282429536481) (hc : 97 ≤ c ∧ c ≤ 122) (h27 : y.toInt = 27) (hz : z = y * x) (hw : w.toInt = c - 96) (hv : v = z + w) : v.toInt = 27 * x.toInt + (c - 96) := by
  have e1 : z.toInt = 27 * x.toInt := by
    rw [hz, Int64.toInt_mul, h27]
    exact Int.bmod_eq_of_le (by omega) (by omega)
  rw [hv, Int64.toInt_add, e1, hw]
  exact Int.bmod_eq_of_le (by omega) (by omega)
theorem bu_2_0 : mm_at mt_P 2 0 = some ((0, 1, .iload_n 2, 0, 0, 0, 0), 3, 2, 0, 9, 3, 0, 0) := rfl
theorem bu_2_1 : mm_at mt_P 2 1 = some ((1, 3, .ifCond .ne 7, 0, 0, 0, 0), 3, 2, 0, 9, 3, 0, 0) := rfl
theorem bu_2_4 : mm_at mt_P 2 4 = some ((4, 1, .lload_n 0, 0, 0, 0, 0), 3, 2, 0, 9, 3, 0, 0) := rfl
theorem bu_2_5 : mm_at mt_P 2 5 = some ((5, 3, .goto 16, 0, 0, 0, 0), 3, 2, 0, 9, 3, 0, 0) := rfl
theorem bu_2_8 : mm_at mt_P 2 8 = some ((8, 3, .ldc2_w 175, 0, 0, 27, 1201), 3, 2, 0, 9, 3, 0, 0) := rfl
theorem bu_2_11 : mm_at mt_P 2 11 = some ((11, 1, .lload_n 0, 0, 0, 0, 0), 3, 2, 0, 9, 3, 0, 0) := rfl
theorem bu_2_12 : mm_at mt_P 2 12 = some ((12, 1, .lmul, 0, 0, 0, 0), 3, 2, 0, 9, 3, 0, 0) := rfl
theorem bu_2_13 : mm_at mt_P 2 13 = some ((13, 1, .iload_n 2, 0, 0, 0, 0), 3, 2, 0, 9, 3, 0, 0) := rfl
theorem bu_2_14 : mm_at mt_P 2 14 = some ((14, 2, .bipush 97, 0, 0, 0, 0), 3, 2, 0, 9, 3, 0, 0) := rfl
theorem bu_2_16 : mm_at mt_P 2 16 = some ((16, 1, .isub, 0, 0, 0, 0), 3, 2, 0, 9, 3, 0, 0) := rfl
theorem bu_2_17 : mm_at mt_P 2 17 = some ((17, 1, .iconst 1, 0, 0, 0, 0), 3, 2, 0, 9, 3, 0, 0) := rfl
theorem bu_2_18 : mm_at mt_P 2 18 = some ((18, 1, .iadd, 0, 0, 0, 0), 3, 2, 0, 9, 3, 0, 0) := rfl
theorem bu_2_19 : mm_at mt_P 2 19 = some ((19, 1, .i2l, 0, 0, 0, 0), 3, 2, 0, 9, 3, 0, 0) := rfl
theorem bu_2_20 : mm_at mt_P 2 20 = some ((20, 1, .ladd, 0, 0, 0, 0), 3, 2, 0, 9, 3, 0, 0) := rfl
theorem bu_2_21 : mm_at mt_P 2 21 = some ((21, 1, .lreturn, 0, 0, 0, 0), 3, 2, 0, 9, 3, 0, 0) := rfl
theorem bu_12_0 : mm_at mt_P 12 0 = some ((0, 1, .iload_n 1, 0, 0, 0, 0), 2, 1, 1, 9, 1, 0, 0) := rfl
theorem bu_12_1 : mm_at mt_P 12 1 = some ((1, 1, .aload_n 0, 0, 0, 0, 0), 2, 1, 1, 9, 1, 0, 0) := rfl
theorem bu_12_2 : mm_at mt_P 12 2 = some ((2, 3, .getfield 172, 9, 4, 0, 1221), 2, 1, 1, 9, 1, 0, 0) := rfl
theorem bu_12_5 : mm_at mt_P 12 5 = some ((5, 3, .if_icmp .ge 16, 0, 0, 0, 0), 2, 1, 1, 9, 1, 0, 0) := rfl
theorem bu_12_8 : mm_at mt_P 12 8 = some ((8, 1, .aload_n 0, 0, 0, 0, 0), 2, 1, 1, 9, 1, 0, 0) := rfl
theorem bu_12_9 : mm_at mt_P 12 9 = some ((9, 3, .getfield 17, 9, 3, 0, 1220), 2, 1, 1, 9, 1, 0, 0) := rfl
theorem bu_12_12 : mm_at mt_P 12 12 = some ((12, 1, .iload_n 1, 0, 0, 0, 0), 2, 1, 1, 9, 1, 0, 0) := rfl
theorem bu_12_13 : mm_at mt_P 12 13 = some ((13, 1, .baload, 0, 0, 0, 0), 2, 1, 1, 9, 1, 0, 0) := rfl
theorem bu_12_14 : mm_at mt_P 12 14 = some ((14, 3, .sipush 255, 0, 0, 0, 0), 2, 1, 1, 9, 1, 0, 0) := rfl
theorem bu_12_17 : mm_at mt_P 12 17 = some ((17, 1, .iand, 0, 0, 0, 0), 2, 1, 1, 9, 1, 0, 0) := rfl
theorem bu_12_18 : mm_at mt_P 12 18 = some ((18, 3, .goto 4, 0, 0, 0, 0), 2, 1, 1, 9, 1, 0, 0) := rfl
theorem bu_12_21 : mm_at mt_P 12 21 = some ((21, 1, .iconst 0, 0, 0, 0, 0), 2, 1, 1, 9, 1, 0, 0) := rfl
theorem bu_12_22 : mm_at mt_P 12 22 = some ((22, 1, .ireturn, 0, 0, 0, 0), 2, 1, 1, 9, 1, 0, 0) := rfl
theorem bu_48_0 : mm_at mt_P 48 0 = some ((0, 1, .iload_n 0, 0, 0, 0, 0), 1, 1, 0, 9, 2, 0, 0) := rfl
theorem bu_48_1 : mm_at mt_P 48 1 = some ((1, 2, .bipush 48, 0, 0, 0, 0), 1, 1, 0, 9, 2, 0, 0) := rfl
theorem bu_48_3 : mm_at mt_P 48 3 = some ((3, 3, .if_icmp .lt 13, 0, 0, 0, 0), 1, 1, 0, 9, 2, 0, 0) := rfl
theorem bu_48_6 : mm_at mt_P 48 6 = some ((6, 1, .iload_n 0, 0, 0, 0, 0), 1, 1, 0, 9, 2, 0, 0) := rfl
theorem bu_48_7 : mm_at mt_P 48 7 = some ((7, 2, .bipush 57, 0, 0, 0, 0), 1, 1, 0, 9, 2, 0, 0) := rfl
theorem bu_48_9 : mm_at mt_P 48 9 = some ((9, 3, .if_icmp .gt 7, 0, 0, 0, 0), 1, 1, 0, 9, 2, 0, 0) := rfl
theorem bu_48_12 : mm_at mt_P 48 12 = some ((12, 1, .iconst 1, 0, 0, 0, 0), 1, 1, 0, 9, 2, 0, 0) := rfl
theorem bu_48_13 : mm_at mt_P 48 13 = some ((13, 3, .goto 4, 0, 0, 0, 0), 1, 1, 0, 9, 2, 0, 0) := rfl
theorem bu_48_16 : mm_at mt_P 48 16 = some ((16, 1, .iconst 0, 0, 0, 0, 0), 1, 1, 0, 9, 2, 0, 0) := rfl
theorem bu_48_17 : mm_at mt_P 48 17 = some ((17, 1, .ireturn, 0, 0, 0, 0), 1, 1, 0, 9, 2, 0, 0) := rfl
theorem bu_50_0 : mm_at mt_P 50 0 = some ((0, 1, .iload_n 0, 0, 0, 0, 0), 1, 1, 0, 9, 2, 0, 0) := rfl
theorem bu_50_1 : mm_at mt_P 50 1 = some ((1, 2, .bipush 97, 0, 0, 0, 0), 1, 1, 0, 9, 2, 0, 0) := rfl
theorem bu_50_3 : mm_at mt_P 50 3 = some ((3, 3, .if_icmp .lt 13, 0, 0, 0, 0), 1, 1, 0, 9, 2, 0, 0) := rfl
theorem bu_50_6 : mm_at mt_P 50 6 = some ((6, 1, .iload_n 0, 0, 0, 0, 0), 1, 1, 0, 9, 2, 0, 0) := rfl
theorem bu_50_7 : mm_at mt_P 50 7 = some ((7, 2, .bipush 122, 0, 0, 0, 0), 1, 1, 0, 9, 2, 0, 0) := rfl
theorem bu_50_9 : mm_at mt_P 50 9 = some ((9, 3, .if_icmp .gt 7, 0, 0, 0, 0), 1, 1, 0, 9, 2, 0, 0) := rfl
theorem bu_50_12 : mm_at mt_P 50 12 = some ((12, 1, .iconst 1, 0, 0, 0, 0), 1, 1, 0, 9, 2, 0, 0) := rfl
theorem bu_50_13 : mm_at mt_P 50 13 = some ((13, 3, .goto 4, 0, 0, 0, 0), 1, 1, 0, 9, 2, 0, 0) := rfl
theorem bu_50_16 : mm_at mt_P 50 16 = some ((16, 1, .iconst 0, 0, 0, 0, 0), 1, 1, 0, 9, 2, 0, 0) := rfl
theorem bu_50_17 : mm_at mt_P 50 17 = some ((17, 1, .ireturn, 0, 0, 0, 0), 1, 1, 0, 9, 2, 0, 0) := rfl
theorem bu_89_0 : mm_at mt_P 89 0 = some ((0, 1, .iload_n 2, 0, 0, 0, 0), 5, 3, 1, 9, 1, 0, 0) := rfl
theorem bu_89_1 : mm_at mt_P 89 1 = some ((1, 2, .bipush 59, 0, 0, 0, 0), 5, 3, 1, 9, 1, 0, 0) := rfl
theorem bu_89_3 : mm_at mt_P 89 3 = some ((3, 3, .if_icmp .ne 7, 0, 0, 0, 0), 5, 3, 1, 9, 1, 0, 0) := rfl
theorem bu_89_6 : mm_at mt_P 89 6 = some ((6, 1, .iconst 4, 0, 0, 0, 0), 5, 3, 1, 9, 1, 0, 0) := rfl
theorem bu_89_7 : mm_at mt_P 89 7 = some ((7, 3, .goto 36, 0, 0, 0, 0), 5, 3, 1, 9, 1, 0, 0) := rfl
theorem bu_89_10 : mm_at mt_P 89 10 = some ((10, 1, .iload_n 2, 0, 0, 0, 0), 5, 3, 1, 9, 1, 0, 0) := rfl
theorem bu_89_11 : mm_at mt_P 89 11 = some ((11, 2, .bipush 61, 0, 0, 0, 0), 5, 3, 1, 9, 1, 0, 0) := rfl
theorem bu_89_13 : mm_at mt_P 89 13 = some ((13, 3, .if_icmp .ne 7, 0, 0, 0, 0), 5, 3, 1, 9, 1, 0, 0) := rfl
theorem bu_89_16 : mm_at mt_P 89 16 = some ((16, 1, .iconst 5, 0, 0, 0, 0), 5, 3, 1, 9, 1, 0, 0) := rfl
theorem bu_89_17 : mm_at mt_P 89 17 = some ((17, 3, .goto 26, 0, 0, 0, 0), 5, 3, 1, 9, 1, 0, 0) := rfl
theorem bu_89_20 : mm_at mt_P 89 20 = some ((20, 1, .iload_n 2, 0, 0, 0, 0), 5, 3, 1, 9, 1, 0, 0) := rfl
theorem bu_89_21 : mm_at mt_P 89 21 = some ((21, 2, .bipush 40, 0, 0, 0, 0), 5, 3, 1, 9, 1, 0, 0) := rfl
theorem bu_89_23 : mm_at mt_P 89 23 = some ((23, 3, .if_icmp .ne 8, 0, 0, 0, 0), 5, 3, 1, 9, 1, 0, 0) := rfl
theorem bu_89_26 : mm_at mt_P 89 26 = some ((26, 2, .bipush 6, 0, 0, 0, 0), 5, 3, 1, 9, 1, 0, 0) := rfl
theorem bu_89_28 : mm_at mt_P 89 28 = some ((28, 3, .goto 15, 0, 0, 0, 0), 5, 3, 1, 9, 1, 0, 0) := rfl
theorem bu_89_31 : mm_at mt_P 89 31 = some ((31, 1, .iload_n 2, 0, 0, 0, 0), 5, 3, 1, 9, 1, 0, 0) := rfl
theorem bu_89_32 : mm_at mt_P 89 32 = some ((32, 2, .bipush 41, 0, 0, 0, 0), 5, 3, 1, 9, 1, 0, 0) := rfl
theorem bu_89_34 : mm_at mt_P 89 34 = some ((34, 3, .if_icmp .ne 8, 0, 0, 0, 0), 5, 3, 1, 9, 1, 0, 0) := rfl
theorem bu_89_37 : mm_at mt_P 89 37 = some ((37, 2, .bipush 7, 0, 0, 0, 0), 5, 3, 1, 9, 1, 0, 0) := rfl
theorem bu_89_39 : mm_at mt_P 89 39 = some ((39, 3, .goto 4, 0, 0, 0, 0), 5, 3, 1, 9, 1, 0, 0) := rfl
theorem bu_89_42 : mm_at mt_P 89 42 = some ((42, 1, .iconst 3, 0, 0, 0, 0), 5, 3, 1, 9, 1, 0, 0) := rfl
theorem bu_89_43 : mm_at mt_P 89 43 = some ((43, 2, .istore 4, 0, 0, 0, 0), 5, 3, 1, 9, 1, 0, 0) := rfl
theorem bu_89_45 : mm_at mt_P 89 45 = some ((45, 1, .iload_n 2, 0, 0, 0, 0), 5, 3, 1, 9, 1, 0, 0) := rfl
theorem bu_89_46 : mm_at mt_P 89 46 = some ((46, 2, .bipush 43, 0, 0, 0, 0), 5, 3, 1, 9, 1, 0, 0) := rfl
theorem bu_89_48 : mm_at mt_P 89 48 = some ((48, 3, .if_icmp .ne 7, 0, 0, 0, 0), 5, 3, 1, 9, 1, 0, 0) := rfl
theorem bu_89_51 : mm_at mt_P 89 51 = some ((51, 2, .bipush 8, 0, 0, 0, 0), 5, 3, 1, 9, 1, 0, 0) := rfl
theorem bu_89_53 : mm_at mt_P 89 53 = some ((53, 2, .istore 4, 0, 0, 0, 0), 5, 3, 1, 9, 1, 0, 0) := rfl
theorem bu_89_55 : mm_at mt_P 89 55 = some ((55, 1, .iload_n 2, 0, 0, 0, 0), 5, 3, 1, 9, 1, 0, 0) := rfl
theorem bu_89_56 : mm_at mt_P 89 56 = some ((56, 2, .bipush 45, 0, 0, 0, 0), 5, 3, 1, 9, 1, 0, 0) := rfl
theorem bu_89_58 : mm_at mt_P 89 58 = some ((58, 3, .if_icmp .ne 7, 0, 0, 0, 0), 5, 3, 1, 9, 1, 0, 0) := rfl
theorem bu_89_61 : mm_at mt_P 89 61 = some ((61, 2, .bipush 9, 0, 0, 0, 0), 5, 3, 1, 9, 1, 0, 0) := rfl
theorem bu_89_63 : mm_at mt_P 89 63 = some ((63, 2, .istore 4, 0, 0, 0, 0), 5, 3, 1, 9, 1, 0, 0) := rfl
theorem bu_89_65 : mm_at mt_P 89 65 = some ((65, 1, .iload_n 2, 0, 0, 0, 0), 5, 3, 1, 9, 1, 0, 0) := rfl
theorem bu_89_66 : mm_at mt_P 89 66 = some ((66, 2, .bipush 42, 0, 0, 0, 0), 5, 3, 1, 9, 1, 0, 0) := rfl
theorem bu_89_68 : mm_at mt_P 89 68 = some ((68, 3, .if_icmp .ne 7, 0, 0, 0, 0), 5, 3, 1, 9, 1, 0, 0) := rfl
theorem bu_89_71 : mm_at mt_P 89 71 = some ((71, 2, .bipush 10, 0, 0, 0, 0), 5, 3, 1, 9, 1, 0, 0) := rfl
theorem bu_89_73 : mm_at mt_P 89 73 = some ((73, 2, .istore 4, 0, 0, 0, 0), 5, 3, 1, 9, 1, 0, 0) := rfl
theorem bu_89_75 : mm_at mt_P 89 75 = some ((75, 1, .iload_n 2, 0, 0, 0, 0), 5, 3, 1, 9, 1, 0, 0) := rfl
theorem bu_89_76 : mm_at mt_P 89 76 = some ((76, 2, .bipush 47, 0, 0, 0, 0), 5, 3, 1, 9, 1, 0, 0) := rfl
theorem bu_89_78 : mm_at mt_P 89 78 = some ((78, 3, .if_icmp .ne 7, 0, 0, 0, 0), 5, 3, 1, 9, 1, 0, 0) := rfl
theorem bu_89_81 : mm_at mt_P 89 81 = some ((81, 2, .bipush 15, 0, 0, 0, 0), 5, 3, 1, 9, 1, 0, 0) := rfl
theorem bu_89_83 : mm_at mt_P 89 83 = some ((83, 2, .istore 4, 0, 0, 0, 0), 5, 3, 1, 9, 1, 0, 0) := rfl
theorem bu_89_85 : mm_at mt_P 89 85 = some ((85, 1, .iload_n 2, 0, 0, 0, 0), 5, 3, 1, 9, 1, 0, 0) := rfl
theorem bu_89_86 : mm_at mt_P 89 86 = some ((86, 2, .bipush 60, 0, 0, 0, 0), 5, 3, 1, 9, 1, 0, 0) := rfl
theorem bu_89_88 : mm_at mt_P 89 88 = some ((88, 3, .if_icmp .ne 7, 0, 0, 0, 0), 5, 3, 1, 9, 1, 0, 0) := rfl
theorem bu_89_91 : mm_at mt_P 89 91 = some ((91, 2, .bipush 13, 0, 0, 0, 0), 5, 3, 1, 9, 1, 0, 0) := rfl
theorem bu_89_93 : mm_at mt_P 89 93 = some ((93, 2, .istore 4, 0, 0, 0, 0), 5, 3, 1, 9, 1, 0, 0) := rfl
theorem bu_89_95 : mm_at mt_P 89 95 = some ((95, 1, .aload_n 0, 0, 0, 0, 0), 5, 3, 1, 9, 1, 0, 0) := rfl
theorem bu_89_96 : mm_at mt_P 89 96 = some ((96, 2, .iload 4, 0, 0, 0, 0), 5, 3, 1, 9, 1, 0, 0) := rfl
theorem bu_89_98 : mm_at mt_P 89 98 = some ((98, 1, .iload_n 1, 0, 0, 0, 0), 5, 3, 1, 9, 1, 0, 0) := rfl
theorem bu_89_99 : mm_at mt_P 89 99 = some ((99, 1, .iconst 0, 0, 0, 0, 0), 5, 3, 1, 9, 1, 0, 0) := rfl
theorem bu_89_100 : mm_at mt_P 89 100 = some ((100, 1, .lconst 0, 0, 0, 0, 0), 5, 3, 1, 9, 1, 0, 0) := rfl
theorem bu_89_101 : mm_at mt_P 89 101 = some ((101, 3, .invokevirtual 188, 103, 0, 0, 1461), 5, 3, 1, 9, 1, 0, 0) := rfl
theorem bu_89_104 : mm_at mt_P 89 104 = some ((104, 1, .iconst 1, 0, 0, 0, 0), 5, 3, 1, 9, 1, 0, 0) := rfl
theorem bu_89_105 : mm_at mt_P 89 105 = some ((105, 1, .ireturn, 0, 0, 0, 0), 5, 3, 1, 9, 1, 0, 0) := rfl
theorem bu_103_0 : mm_at mt_P 103 0 = some ((0, 1, .aload_n 0, 0, 0, 0, 0), 6, 4, 1, 9, 0, 0, 0) := rfl
theorem bu_103_1 : mm_at mt_P 103 1 = some ((1, 3, .getfield 20, 9, 5, 0, 1222), 6, 4, 1, 9, 0, 0, 0) := rfl
theorem bu_103_4 : mm_at mt_P 103 4 = some ((4, 1, .aload_n 0, 0, 0, 0, 0), 6, 4, 1, 9, 0, 0, 0) := rfl
theorem bu_103_5 : mm_at mt_P 103 5 = some ((5, 3, .getfield 181, 9, 10, 0, 1227), 6, 4, 1, 9, 0, 0, 0) := rfl
theorem bu_103_8 : mm_at mt_P 103 8 = some ((8, 1, .iload_n 1, 0, 0, 0, 0), 6, 4, 1, 9, 0, 0, 0) := rfl
theorem bu_103_9 : mm_at mt_P 103 9 = some ((9, 1, .iastore, 0, 0, 0, 0), 6, 4, 1, 9, 0, 0, 0) := rfl
theorem bu_103_10 : mm_at mt_P 103 10 = some ((10, 1, .aload_n 0, 0, 0, 0, 0), 6, 4, 1, 9, 0, 0, 0) := rfl
theorem bu_103_11 : mm_at mt_P 103 11 = some ((11, 3, .getfield 24, 9, 6, 0, 1223), 6, 4, 1, 9, 0, 0, 0) := rfl
theorem bu_103_14 : mm_at mt_P 103 14 = some ((14, 1, .aload_n 0, 0, 0, 0, 0), 6, 4, 1, 9, 0, 0, 0) := rfl
theorem bu_103_15 : mm_at mt_P 103 15 = some ((15, 3, .getfield 181, 9, 10, 0, 1227), 6, 4, 1, 9, 0, 0, 0) := rfl
theorem bu_103_18 : mm_at mt_P 103 18 = some ((18, 1, .iload_n 2, 0, 0, 0, 0), 6, 4, 1, 9, 0, 0, 0) := rfl
theorem bu_103_19 : mm_at mt_P 103 19 = some ((19, 1, .iastore, 0, 0, 0, 0), 6, 4, 1, 9, 0, 0, 0) := rfl
theorem bu_103_20 : mm_at mt_P 103 20 = some ((20, 1, .aload_n 0, 0, 0, 0, 0), 6, 4, 1, 9, 0, 0, 0) := rfl
theorem bu_103_21 : mm_at mt_P 103 21 = some ((21, 3, .getfield 27, 9, 7, 0, 1224), 6, 4, 1, 9, 0, 0, 0) := rfl
theorem bu_103_24 : mm_at mt_P 103 24 = some ((24, 1, .aload_n 0, 0, 0, 0, 0), 6, 4, 1, 9, 0, 0, 0) := rfl
theorem bu_103_25 : mm_at mt_P 103 25 = some ((25, 3, .getfield 181, 9, 10, 0, 1227), 6, 4, 1, 9, 0, 0, 0) := rfl
theorem bu_103_28 : mm_at mt_P 103 28 = some ((28, 1, .iload_n 3, 0, 0, 0, 0), 6, 4, 1, 9, 0, 0, 0) := rfl
theorem bu_103_29 : mm_at mt_P 103 29 = some ((29, 1, .iastore, 0, 0, 0, 0), 6, 4, 1, 9, 0, 0, 0) := rfl
theorem bu_103_30 : mm_at mt_P 103 30 = some ((30, 1, .aload_n 0, 0, 0, 0, 0), 6, 4, 1, 9, 0, 0, 0) := rfl
theorem bu_103_31 : mm_at mt_P 103 31 = some ((31, 3, .getfield 30, 9, 8, 0, 1225), 6, 4, 1, 9, 0, 0, 0) := rfl
theorem bu_103_34 : mm_at mt_P 103 34 = some ((34, 1, .aload_n 0, 0, 0, 0, 0), 6, 4, 1, 9, 0, 0, 0) := rfl
theorem bu_103_35 : mm_at mt_P 103 35 = some ((35, 3, .getfield 181, 9, 10, 0, 1227), 6, 4, 1, 9, 0, 0, 0) := rfl
theorem bu_103_38 : mm_at mt_P 103 38 = some ((38, 2, .lload 4, 0, 0, 0, 0), 6, 4, 1, 9, 0, 0, 0) := rfl
theorem bu_103_40 : mm_at mt_P 103 40 = some ((40, 1, .lastore, 0, 0, 0, 0), 6, 4, 1, 9, 0, 0, 0) := rfl
theorem bu_103_41 : mm_at mt_P 103 41 = some ((41, 1, .aload_n 0, 0, 0, 0, 0), 6, 4, 1, 9, 0, 0, 0) := rfl
theorem bu_103_42 : mm_at mt_P 103 42 = some ((42, 1, .dup, 0, 0, 0, 0), 6, 4, 1, 9, 0, 0, 0) := rfl
theorem bu_103_43 : mm_at mt_P 103 43 = some ((43, 3, .getfield 181, 9, 10, 0, 1227), 6, 4, 1, 9, 0, 0, 0) := rfl
theorem bu_103_46 : mm_at mt_P 103 46 = some ((46, 1, .iconst 1, 0, 0, 0, 0), 6, 4, 1, 9, 0, 0, 0) := rfl
theorem bu_103_47 : mm_at mt_P 103 47 = some ((47, 1, .iadd, 0, 0, 0, 0), 6, 4, 1, 9, 0, 0, 0) := rfl
theorem bu_103_48 : mm_at mt_P 103 48 = some ((48, 3, .putfield 181, 9, 10, 0, 1227), 6, 4, 1, 9, 0, 0, 0) := rfl
theorem bu_103_51 : mm_at mt_P 103 51 = some ((51, 1, .return_, 0, 0, 0, 0), 6, 4, 1, 9, 0, 0, 0) := rfl
section RQB
variable {K V P : Nat → Int} {Q : Nat → Nat → Bool} {σ : py_S} {M : Nat} {ns : List Nat} {oo e : Nat} {E : mm_E} {PO : mm_C → Prop} {NN : Nat} {h0 h : mm_H} {s : Nat → Int32} {A : Nat → Nat → Int32} {L : Nat → Nat → Int64} {gs : List mm_F}
theorem rr_12 {i : Int32} {n : Nat} (hP : bm_P rz_T E h0 h s A L) (hn : (s 8804).toInt = (n : Int)) (b1 : 0 ≤ i.toInt) (kk : ∀ r : Int32, r.toInt = px_c (A 90) n i.toInt.toNat → bp_G E PO NN (mm_back (some (.int r)) gs h)) : bp_G E PO NN ((12, 0, [(0, .ref (E.1 + 88)), (1, .int i)], [], 0, 0) :: gs, h, none) := by
  refine bp_ld (pc' := 1) bu_12_0 rfl rfl (fun _ _ _ => rfl) rfl rfl ?_
  refine bp_ld (pc' := 2) bu_12_1 rfl rfl (fun _ _ _ => rfl) rfl rfl ?_
  refine bn_gi (pc' := 5) (K := 8804) bu_12_2 rfl rfl (fun _ _ _ => rfl) hP rz_o88 rz_i88_4 rfl rfl ?_
  refine bp_ic (pc' := 8) (pt := 21) bu_12_5 rfl rfl (fun k3221 => ?_) (fun k3221 => ?_)
  · replace k3221 : ((s 8804)).toInt ≤ (i).toInt := k3221
    refine bp_c (pc' := 22) (n := 0) bu_12_21 rfl rfl (fun _ _ _ => rfl) (by decide) (fun c3222 e3223 => ?_)
    refine bp_ri bu_12_22 ?_
    refine kk _ ?_
    rw [px_c_out (by omega)]
    omega
  · replace k3221 : ¬ (((s 8804)).toInt ≤ (i).toInt) := k3221
    refine bp_ld (pc' := 9) bu_12_8 rfl rfl (fun _ _ _ => rfl) rfl rfl ?_
    refine bn_gr (pc' := 12) (t := 90) bu_12_9 rfl rfl (fun _ _ _ => rfl) hP rz_o88 rz_r88_3 ?_
    refine bp_ld (pc' := 13) bu_12_12 rfl rfl (fun _ _ _ => rfl) rfl rfl ?_
    refine bn_iaF (pc' := 14) bu_12_13 rfl rfl (fun _ _ _ => rfl) hP rz_a90 (Or.inl rfl) (fun b3224 b3225 => ?_)
    refine bp_c (pc' := 17) (n := 255) bu_12_14 rfl rfl (fun _ _ _ => rfl) (by decide) (fun c3226 e3227 => ?_)
    refine bp_bin (pc' := 18) (v := (A 90 (i).toInt.toNat) &&& c3226) bu_12_17 rfl rfl (fun _ _ _ => rfl) rfl ?_
    refine bp_go (pc' := 22) bu_12_18 rfl ?_
    refine bp_ri bu_12_22 ?_
    have ec : c3226 = 255 := Int32.toInt_inj.mp (by rw [e3227]; rfl)
    refine kk _ ?_
    rw [ec, bp_and255]
    exact (px_c_in (by omega)).symm
theorem rr_50 {c : Int32} (kk : ∀ r : Int32, ((r.toInt = 1 ∧ 97 ≤ c.toInt ∧ c.toInt ≤ 122) ∨ (r.toInt = 0 ∧ ¬ (97 ≤ c.toInt ∧ c.toInt ≤ 122))) → bp_G E PO NN (mm_back (some (.int r)) gs h)) : bp_G E PO NN ((50, 0, [(0, .int c)], [], 0, 0) :: gs, h, none) := by
  refine bp_ld (pc' := 1) bu_50_0 rfl rfl (fun _ _ _ => rfl) rfl rfl ?_
  refine bp_c (pc' := 3) (n := 97) bu_50_1 rfl rfl (fun _ _ _ => rfl) (by decide) (fun c3228 e3229 => ?_)
  refine bp_ic (pc' := 6) (pt := 16) bu_50_3 rfl rfl (fun k3230 => ?_) (fun k3230 => ?_)
  · replace k3230 : (c).toInt < (c3228).toInt := k3230
    refine bp_c (pc' := 17) (n := 0) bu_50_16 rfl rfl (fun _ _ _ => rfl) (by decide) (fun c3231 e3232 => ?_)
    refine bp_rbF bu_50_17 (fun rb3233 => ?_)
    exact kk _ (by omega)
  · replace k3230 : ¬ ((c).toInt < (c3228).toInt) := k3230
    refine bp_ld (pc' := 7) bu_50_6 rfl rfl (fun _ _ _ => rfl) rfl rfl ?_
    refine bp_c (pc' := 9) (n := 122) bu_50_7 rfl rfl (fun _ _ _ => rfl) (by decide) (fun c3234 e3235 => ?_)
    refine bp_ic (pc' := 12) (pt := 16) bu_50_9 rfl rfl (fun k3236 => ?_) (fun k3236 => ?_)
    · replace k3236 : (c3234).toInt < (c).toInt := k3236
      refine bp_c (pc' := 17) (n := 0) bu_50_16 rfl rfl (fun _ _ _ => rfl) (by decide) (fun c3237 e3238 => ?_)
      refine bp_rbF bu_50_17 (fun rb3239 => ?_)
      exact kk _ (by omega)
    · replace k3236 : ¬ ((c3234).toInt < (c).toInt) := k3236
      refine bp_c (pc' := 13) (n := 1) bu_50_12 rfl rfl (fun _ _ _ => rfl) (by decide) (fun c3240 e3241 => ?_)
      refine bp_go (pc' := 17) bu_50_13 rfl ?_
      refine bp_rbF bu_50_17 (fun rb3242 => ?_)
      exact kk _ (by omega)
theorem rr_48 {c : Int32} (kk : ∀ r : Int32, ((r.toInt = 1 ∧ 48 ≤ c.toInt ∧ c.toInt ≤ 57) ∨ (r.toInt = 0 ∧ ¬ (48 ≤ c.toInt ∧ c.toInt ≤ 57))) → bp_G E PO NN (mm_back (some (.int r)) gs h)) : bp_G E PO NN ((48, 0, [(0, .int c)], [], 0, 0) :: gs, h, none) := by
  refine bp_ld (pc' := 1) bu_48_0 rfl rfl (fun _ _ _ => rfl) rfl rfl ?_
  refine bp_c (pc' := 3) (n := 48) bu_48_1 rfl rfl (fun _ _ _ => rfl) (by decide) (fun c3243 e3244 => ?_)
  refine bp_ic (pc' := 6) (pt := 16) bu_48_3 rfl rfl (fun k3245 => ?_) (fun k3245 => ?_)
  · replace k3245 : (c).toInt < (c3243).toInt := k3245
    refine bp_c (pc' := 17) (n := 0) bu_48_16 rfl rfl (fun _ _ _ => rfl) (by decide) (fun c3246 e3247 => ?_)
    refine bp_rbF bu_48_17 (fun rb3248 => ?_)
    exact kk _ (by omega)
  · replace k3245 : ¬ ((c).toInt < (c3243).toInt) := k3245
    refine bp_ld (pc' := 7) bu_48_6 rfl rfl (fun _ _ _ => rfl) rfl rfl ?_
    refine bp_c (pc' := 9) (n := 57) bu_48_7 rfl rfl (fun _ _ _ => rfl) (by decide) (fun c3249 e3250 => ?_)
    refine bp_ic (pc' := 12) (pt := 16) bu_48_9 rfl rfl (fun k3251 => ?_) (fun k3251 => ?_)
    · replace k3251 : (c3249).toInt < (c).toInt := k3251
      refine bp_c (pc' := 17) (n := 0) bu_48_16 rfl rfl (fun _ _ _ => rfl) (by decide) (fun c3252 e3253 => ?_)
      refine bp_rbF bu_48_17 (fun rb3254 => ?_)
      exact kk _ (by omega)
    · replace k3251 : ¬ ((c3249).toInt < (c).toInt) := k3251
      refine bp_c (pc' := 13) (n := 1) bu_48_12 rfl rfl (fun _ _ _ => rfl) (by decide) (fun c3255 e3256 => ?_)
      refine bp_go (pc' := 17) bu_48_13 rfl ?_
      refine bp_rbF bu_48_17 (fun rb3257 => ?_)
      exact kk _ (by omega)
theorem rr_2 {x : Int64} {c : Int32} (b0 : 0 ≤ x.toInt) (b1 : x.toInt < 282429536481) (hc : 97 ≤ c.toInt ∧ c.toInt ≤ 122) (kk : ∀ x' : Int64, x'.toInt = 27 * x.toInt + (c.toInt - 96) → bp_G E PO NN (mm_back (some (.long x')) gs h)) : bp_G E PO NN ((2, 0, [(0, .long x), (2, .int c)], [], 0, 0) :: gs, h, none) := by
  refine bp_ld (pc' := 1) bu_2_0 rfl rfl (fun _ _ _ => rfl) rfl rfl ?_
  refine bp_i0 (pc' := 4) (pt := 8) bu_2_1 rfl rfl (fun k3258 => ?_) (fun k3258 => ?_)
  · replace k3258 : (c).toInt ≠ 0 := k3258
    refine bn_cL (pc' := 11) (n := 27) bu_2_8 rfl rfl (fun _ _ _ => rfl) (by decide) (fun x3259 e3260 => ?_)
    refine bp_ld (pc' := 12) bu_2_11 rfl rfl (fun _ _ _ => rfl) rfl rfl ?_
    refine bn_lmul (pc' := 13) bu_2_12 rfl (fun x3261 e3262 => ?_)
    refine bp_ld (pc' := 14) bu_2_13 rfl rfl (fun _ _ _ => rfl) rfl rfl ?_
    refine bp_c (pc' := 16) (n := 97) bu_2_14 rfl rfl (fun _ _ _ => rfl) (by decide) (fun c3263 e3264 => ?_)
    refine bp_sub (pc' := 17) bu_2_16 rfl (by omega) (by omega) (fun v3265 e3266 => ?_)
    refine bp_c (pc' := 18) (n := 1) bu_2_17 rfl rfl (fun _ _ _ => rfl) (by decide) (fun c3267 e3268 => ?_)
    refine bp_add (pc' := 19) bu_2_18 rfl (by omega) (by omega) (fun v3269 e3270 => ?_)
    refine bn_i2l (pc' := 20) bu_2_19 rfl (fun x3271 e3272 => ?_)
    refine bn_ladd (pc' := 21) bu_2_20 rfl (fun x3273 e3274 => ?_)
    refine bp_rl bu_2_21 ?_
    exact kk _ (bp_app b0 b1 hc e3260 e3262 (by omega) e3274)
  · replace k3258 : ¬ ((c).toInt ≠ 0) := k3258
    refine bp_ld (pc' := 5) bu_2_4 rfl rfl (fun _ _ _ => rfl) rfl rfl ?_
    refine bp_go (pc' := 21) bu_2_5 rfl ?_
    refine bp_rl bu_2_21 ?_
    exfalso
    omega
theorem rr_103 {k w v : Int32} {x : Int64} {m : Nat} (hP : bm_P rz_T E h0 h s A L) (hm : (s 8810).toInt = (m : Int)) (hm2 : m ≤ 401) (kk : ∀ (h' : mm_H) (s' : Nat → Int32), bm_P rz_T E h0 h' s' (bh_up (bh_up (bh_up A 91 m (mm_nar 0 k)) 92 m (mm_nar 0 w)) 93 m (mm_nar 0 v)) (bh_upL L 94 m x) → (s' 8810).toInt = (m : Int) + 1 → (∀ j, j ≠ 8810 → s' j = s j) → bp_G E PO NN (mm_back none gs h')) : bp_G E PO NN ((103, 0, [(0, .ref (E.1 + 88)), (1, .int k), (2, .int w), (3, .int v), (4, .long x)], [], 0, 0) :: gs, h, none) := by
  have em : (s 8810).toInt.toNat = m := by omega
  refine bp_ld (pc' := 1) bu_103_0 rfl rfl (fun _ _ _ => rfl) rfl rfl ?_
  refine bn_gr (pc' := 4) (t := 91) bu_103_1 rfl rfl (fun _ _ _ => rfl) hP rz_o88 rz_r88_5 ?_
  refine bp_ld (pc' := 5) bu_103_4 rfl rfl (fun _ _ _ => rfl) rfl rfl ?_
  refine bn_gi (pc' := 8) (K := 8810) bu_103_5 rfl rfl (fun _ _ _ => rfl) hP rz_o88 rz_i88_10 rfl rfl ?_
  refine bp_ld (pc' := 9) bu_103_8 rfl rfl (fun _ _ _ => rfl) rfl rfl ?_
  refine bn_iasF (pc' := 10) bu_103_9 rfl rfl (fun _ _ _ => rfl) hP rz_a91 (Or.inl rfl) (fun b3277 b3278 h3275 hP3276 => ?_)
  refine bp_ld (pc' := 11) bu_103_10 rfl rfl (fun _ _ _ => rfl) rfl rfl ?_
  refine bn_gr (pc' := 14) (t := 92) bu_103_11 rfl rfl (fun _ _ _ => rfl) hP3276 rz_o88 rz_r88_6 ?_
  refine bp_ld (pc' := 15) bu_103_14 rfl rfl (fun _ _ _ => rfl) rfl rfl ?_
  refine bn_gi (pc' := 18) (K := 8810) bu_103_15 rfl rfl (fun _ _ _ => rfl) hP3276 rz_o88 rz_i88_10 rfl rfl ?_
  refine bp_ld (pc' := 19) bu_103_18 rfl rfl (fun _ _ _ => rfl) rfl rfl ?_
  refine bn_iasF (pc' := 20) bu_103_19 rfl rfl (fun _ _ _ => rfl) hP3276 rz_a92 (Or.inl rfl) (fun b3281 b3282 h3279 hP3280 => ?_)
  refine bp_ld (pc' := 21) bu_103_20 rfl rfl (fun _ _ _ => rfl) rfl rfl ?_
  refine bn_gr (pc' := 24) (t := 93) bu_103_21 rfl rfl (fun _ _ _ => rfl) hP3280 rz_o88 rz_r88_7 ?_
  refine bp_ld (pc' := 25) bu_103_24 rfl rfl (fun _ _ _ => rfl) rfl rfl ?_
  refine bn_gi (pc' := 28) (K := 8810) bu_103_25 rfl rfl (fun _ _ _ => rfl) hP3280 rz_o88 rz_i88_10 rfl rfl ?_
  refine bp_ld (pc' := 29) bu_103_28 rfl rfl (fun _ _ _ => rfl) rfl rfl ?_
  refine bn_iasF (pc' := 30) bu_103_29 rfl rfl (fun _ _ _ => rfl) hP3280 rz_a93 (Or.inl rfl) (fun b3285 b3286 h3283 hP3284 => ?_)
  refine bp_ld (pc' := 31) bu_103_30 rfl rfl (fun _ _ _ => rfl) rfl rfl ?_
  refine bn_gr (pc' := 34) (t := 94) bu_103_31 rfl rfl (fun _ _ _ => rfl) hP3284 rz_o88 rz_r88_8 ?_
  refine bp_ld (pc' := 35) bu_103_34 rfl rfl (fun _ _ _ => rfl) rfl rfl ?_
  refine bn_gi (pc' := 38) (K := 8810) bu_103_35 rfl rfl (fun _ _ _ => rfl) hP3284 rz_o88 rz_i88_10 rfl rfl ?_
  refine bp_ld (pc' := 40) bu_103_38 rfl rfl (fun _ _ _ => rfl) rfl rfl ?_
  refine bn_lasF (pc' := 41) bu_103_40 rfl rfl (fun _ _ _ => rfl) hP3284 rz_l94 (fun b3289 b3290 h3287 hP3288 => ?_)
  refine bp_ld (pc' := 42) bu_103_41 rfl rfl (fun _ _ _ => rfl) rfl rfl ?_
  refine bp_dup (pc' := 43) bu_103_42 rfl rfl ?_
  refine bn_gi (pc' := 46) (K := 8810) bu_103_43 rfl rfl (fun _ _ _ => rfl) hP3288 rz_o88 rz_i88_10 rfl rfl ?_
  refine bp_c (pc' := 47) (n := 1) bu_103_46 rfl rfl (fun _ _ _ => rfl) (by decide) (fun c3291 e3292 => ?_)
  refine bp_add (pc' := 48) bu_103_47 rfl (by omega) (by omega) (fun v3293 e3294 => ?_)
  refine bn_pf (pc' := 51) (K := 8810) bu_103_48 rfl rfl (fun _ _ _ => rfl) hP3288 rz_o88 rz_i88_10 rfl rfl (fun h3295 s3296 hP3297 e3298 f3299 => ?_)
  refine bp_rv bu_103_51 ?_
  have z8810 := congrArg Int32.toInt e3298
  have hPe := hP3297
  rw [em] at hPe
  exact kk _ _ hPe (by omega) f3299
set_option maxHeartbeats 4000000 in
theorem rr_89 {i c d : Int32} {m : Nat} (hP : bm_P rz_T E h0 h s A L) (hm : (s 8810).toInt = (m : Int)) (hm2 : m ≤ 401) (kk : ∀ (h' : mm_H) (s' : Nat → Int32) (k v : Int32) (x : Int64) (r : Int32), bm_P rz_T E h0 h' s' (bh_up (bh_up (bh_up A 91 m (mm_nar 0 k)) 92 m (mm_nar 0 i)) 93 m (mm_nar 0 v)) (bh_upL L 94 m x) → (s' 8810).toInt = (m : Int) + 1 → (∀ j, j ≠ 8810 → s' j = s j) → k.toInt = px_sg c.toInt → v.toInt = 0 → r.toInt = 1 → bp_G E PO NN (mm_back (some (.int r)) gs h')) : bp_G E PO NN ((89, 0, [(0, .ref (E.1 + 88)), (1, .int i), (2, .int c), (3, .int d)], [], 0, 0) :: gs, h, none) := by
  refine bp_ld (pc' := 1) bu_89_0 rfl rfl (fun _ _ _ => rfl) rfl rfl ?_
  refine bp_c (pc' := 3) (n := 59) bu_89_1 rfl rfl (fun _ _ _ => rfl) (by decide) (fun c3300 e3301 => ?_)
  refine bp_ic (pc' := 6) (pt := 10) bu_89_3 rfl rfl (fun k3302 => ?_) (fun k3302 => ?_)
  · replace k3302 : (c).toInt ≠ (c3300).toInt := k3302
    refine bp_ld (pc' := 11) bu_89_10 rfl rfl (fun _ _ _ => rfl) rfl rfl ?_
    refine bp_c (pc' := 13) (n := 61) bu_89_11 rfl rfl (fun _ _ _ => rfl) (by decide) (fun c3303 e3304 => ?_)
    refine bp_ic (pc' := 16) (pt := 20) bu_89_13 rfl rfl (fun k3305 => ?_) (fun k3305 => ?_)
    · replace k3305 : (c).toInt ≠ (c3303).toInt := k3305
      refine bp_ld (pc' := 21) bu_89_20 rfl rfl (fun _ _ _ => rfl) rfl rfl ?_
      refine bp_c (pc' := 23) (n := 40) bu_89_21 rfl rfl (fun _ _ _ => rfl) (by decide) (fun c3306 e3307 => ?_)
      refine bp_ic (pc' := 26) (pt := 31) bu_89_23 rfl rfl (fun k3308 => ?_) (fun k3308 => ?_)
      · replace k3308 : (c).toInt ≠ (c3306).toInt := k3308
        refine bp_ld (pc' := 32) bu_89_31 rfl rfl (fun _ _ _ => rfl) rfl rfl ?_
        refine bp_c (pc' := 34) (n := 41) bu_89_32 rfl rfl (fun _ _ _ => rfl) (by decide) (fun c3309 e3310 => ?_)
        refine bp_ic (pc' := 37) (pt := 42) bu_89_34 rfl rfl (fun k3311 => ?_) (fun k3311 => ?_)
        · replace k3311 : (c).toInt ≠ (c3309).toInt := k3311
          refine bp_c (pc' := 43) (n := 3) bu_89_42 rfl rfl (fun _ _ _ => rfl) (by decide) (fun c3312 e3313 => ?_)
          refine bp_st (pc' := 45) bu_89_43 rfl rfl (fun _ _ _ => rfl) rfl (by decide) (by decide) (fun lv3314 F3315 g3316 => ?_)
          have g3317 := F3315 0 (.ref (E.1 + 88)) rfl (by decide) (Or.inl rfl)
          have g3318 := F3315 1 (.int i) rfl (by decide) (Or.inl rfl)
          have g3319 := F3315 2 (.int c) rfl (by decide) (Or.inl rfl)
          have g3320 := F3315 3 (.int d) rfl (by decide) (Or.inl rfl)
          refine bp_ld (pc' := 46) bu_89_45 rfl rfl (fun _ _ _ => rfl) g3319 rfl ?_
          refine bp_c (pc' := 48) (n := 43) bu_89_46 rfl rfl (fun _ _ _ => rfl) (by decide) (fun c3321 e3322 => ?_)
          refine bp_ic (pc' := 51) (pt := 55) bu_89_48 rfl rfl (fun k3323 => ?_) (fun k3323 => ?_)
          · replace k3323 : (c).toInt ≠ (c3321).toInt := k3323
            refine bp_ld (pc' := 56) bu_89_55 rfl rfl (fun _ _ _ => rfl) g3319 rfl ?_
            refine bp_c (pc' := 58) (n := 45) bu_89_56 rfl rfl (fun _ _ _ => rfl) (by decide) (fun c3324 e3325 => ?_)
            refine bp_ic (pc' := 61) (pt := 65) bu_89_58 rfl rfl (fun k3326 => ?_) (fun k3326 => ?_)
            · replace k3326 : (c).toInt ≠ (c3324).toInt := k3326
              refine bp_ld (pc' := 66) bu_89_65 rfl rfl (fun _ _ _ => rfl) g3319 rfl ?_
              refine bp_c (pc' := 68) (n := 42) bu_89_66 rfl rfl (fun _ _ _ => rfl) (by decide) (fun c3327 e3328 => ?_)
              refine bp_ic (pc' := 71) (pt := 75) bu_89_68 rfl rfl (fun k3329 => ?_) (fun k3329 => ?_)
              · replace k3329 : (c).toInt ≠ (c3327).toInt := k3329
                refine bp_ld (pc' := 76) bu_89_75 rfl rfl (fun _ _ _ => rfl) g3319 rfl ?_
                refine bp_c (pc' := 78) (n := 47) bu_89_76 rfl rfl (fun _ _ _ => rfl) (by decide) (fun c3330 e3331 => ?_)
                refine bp_ic (pc' := 81) (pt := 85) bu_89_78 rfl rfl (fun k3332 => ?_) (fun k3332 => ?_)
                · replace k3332 : (c).toInt ≠ (c3330).toInt := k3332
                  refine bp_ld (pc' := 86) bu_89_85 rfl rfl (fun _ _ _ => rfl) g3319 rfl ?_
                  refine bp_c (pc' := 88) (n := 60) bu_89_86 rfl rfl (fun _ _ _ => rfl) (by decide) (fun c3333 e3334 => ?_)
                  refine bp_ic (pc' := 91) (pt := 95) bu_89_88 rfl rfl (fun k3335 => ?_) (fun k3335 => ?_)
                  · replace k3335 : (c).toInt ≠ (c3333).toInt := k3335
                    refine bp_ld (pc' := 96) bu_89_95 rfl rfl (fun _ _ _ => rfl) g3317 rfl ?_
                    refine bp_ld (pc' := 98) bu_89_96 rfl rfl (fun _ _ _ => rfl) g3316 rfl ?_
                    refine bp_ld (pc' := 99) bu_89_98 rfl rfl (fun _ _ _ => rfl) g3318 rfl ?_
                    refine bp_c (pc' := 100) (n := 0) bu_89_99 rfl rfl (fun _ _ _ => rfl) (by decide) (fun c3336 e3337 => ?_)
                    refine bn_cL (pc' := 101) (n := 0) bu_89_100 rfl rfl (fun _ _ _ => rfl) (by decide) (fun x3338 e3339 => ?_)
                    refine bn_cvF (pc' := 104) (st := []) (args := [.long x3338, .int c3336, .int i, .int c3312]) bu_89_101 rfl rfl rfl (by decide) hP rz_o88 (by decide) rfl (Nat.le_of_ble_eq_true rfl) (Nat.le_of_ble_eq_true rfl) ?_
                    refine rr_103 (k := c3312) (w := i) (v := c3336) (x := x3338) hP hm hm2 (fun h3340 s3341 hP3342 p3343 f3344 => ?_)
                    show bp_G E PO NN ((89, 104, lv3314, [], 0, 0) :: gs, h3340, none)
                    refine bp_c (pc' := 105) (n := 1) bu_89_104 rfl rfl (fun _ _ _ => rfl) (by decide) (fun c3345 e3346 => ?_)
                    refine bp_ri bu_89_105 ?_
                    exact kk _ _ _ _ _ _ hP3342 p3343 f3344 (by unfold px_sg; (repeat' split) <;> omega) (by omega) (by omega)
                  · replace k3335 : ¬ ((c).toInt ≠ (c3333).toInt) := k3335
                    refine bp_c (pc' := 93) (n := 13) bu_89_91 rfl rfl (fun _ _ _ => rfl) (by decide) (fun c3347 e3348 => ?_)
                    refine bp_st (pc' := 95) bu_89_93 rfl rfl (fun _ _ _ => rfl) rfl (by decide) (by decide) (fun lv3349 F3350 g3351 => ?_)
                    have g3352 := F3350 0 (.ref (E.1 + 88)) g3317 (by decide) (Or.inl rfl)
                    have g3353 := F3350 1 (.int i) g3318 (by decide) (Or.inl rfl)
                    have g3354 := F3350 2 (.int c) g3319 (by decide) (Or.inl rfl)
                    have g3355 := F3350 3 (.int d) g3320 (by decide) (Or.inl rfl)
                    refine bp_ld (pc' := 96) bu_89_95 rfl rfl (fun _ _ _ => rfl) g3352 rfl ?_
                    refine bp_ld (pc' := 98) bu_89_96 rfl rfl (fun _ _ _ => rfl) g3351 rfl ?_
                    refine bp_ld (pc' := 99) bu_89_98 rfl rfl (fun _ _ _ => rfl) g3353 rfl ?_
                    refine bp_c (pc' := 100) (n := 0) bu_89_99 rfl rfl (fun _ _ _ => rfl) (by decide) (fun c3356 e3357 => ?_)
                    refine bn_cL (pc' := 101) (n := 0) bu_89_100 rfl rfl (fun _ _ _ => rfl) (by decide) (fun x3358 e3359 => ?_)
                    refine bn_cvF (pc' := 104) (st := []) (args := [.long x3358, .int c3356, .int i, .int c3347]) bu_89_101 rfl rfl rfl (by decide) hP rz_o88 (by decide) rfl (Nat.le_of_ble_eq_true rfl) (Nat.le_of_ble_eq_true rfl) ?_
                    refine rr_103 (k := c3347) (w := i) (v := c3356) (x := x3358) hP hm hm2 (fun h3360 s3361 hP3362 p3363 f3364 => ?_)
                    show bp_G E PO NN ((89, 104, lv3349, [], 0, 0) :: gs, h3360, none)
                    refine bp_c (pc' := 105) (n := 1) bu_89_104 rfl rfl (fun _ _ _ => rfl) (by decide) (fun c3365 e3366 => ?_)
                    refine bp_ri bu_89_105 ?_
                    exact kk _ _ _ _ _ _ hP3362 p3363 f3364 (by unfold px_sg; (repeat' split) <;> omega) (by omega) (by omega)
                · replace k3332 : ¬ ((c).toInt ≠ (c3330).toInt) := k3332
                  refine bp_c (pc' := 83) (n := 15) bu_89_81 rfl rfl (fun _ _ _ => rfl) (by decide) (fun c3367 e3368 => ?_)
                  refine bp_st (pc' := 85) bu_89_83 rfl rfl (fun _ _ _ => rfl) rfl (by decide) (by decide) (fun lv3369 F3370 g3371 => ?_)
                  have g3372 := F3370 0 (.ref (E.1 + 88)) g3317 (by decide) (Or.inl rfl)
                  have g3373 := F3370 1 (.int i) g3318 (by decide) (Or.inl rfl)
                  have g3374 := F3370 2 (.int c) g3319 (by decide) (Or.inl rfl)
                  have g3375 := F3370 3 (.int d) g3320 (by decide) (Or.inl rfl)
                  refine bp_ld (pc' := 86) bu_89_85 rfl rfl (fun _ _ _ => rfl) g3374 rfl ?_
                  refine bp_c (pc' := 88) (n := 60) bu_89_86 rfl rfl (fun _ _ _ => rfl) (by decide) (fun c3376 e3377 => ?_)
                  refine bp_ic (pc' := 91) (pt := 95) bu_89_88 rfl rfl (fun k3378 => ?_) (fun k3378 => ?_)
                  · replace k3378 : (c).toInt ≠ (c3376).toInt := k3378
                    refine bp_ld (pc' := 96) bu_89_95 rfl rfl (fun _ _ _ => rfl) g3372 rfl ?_
                    refine bp_ld (pc' := 98) bu_89_96 rfl rfl (fun _ _ _ => rfl) g3371 rfl ?_
                    refine bp_ld (pc' := 99) bu_89_98 rfl rfl (fun _ _ _ => rfl) g3373 rfl ?_
                    refine bp_c (pc' := 100) (n := 0) bu_89_99 rfl rfl (fun _ _ _ => rfl) (by decide) (fun c3379 e3380 => ?_)
                    refine bn_cL (pc' := 101) (n := 0) bu_89_100 rfl rfl (fun _ _ _ => rfl) (by decide) (fun x3381 e3382 => ?_)
                    refine bn_cvF (pc' := 104) (st := []) (args := [.long x3381, .int c3379, .int i, .int c3367]) bu_89_101 rfl rfl rfl (by decide) hP rz_o88 (by decide) rfl (Nat.le_of_ble_eq_true rfl) (Nat.le_of_ble_eq_true rfl) ?_
                    refine rr_103 (k := c3367) (w := i) (v := c3379) (x := x3381) hP hm hm2 (fun h3383 s3384 hP3385 p3386 f3387 => ?_)
                    show bp_G E PO NN ((89, 104, lv3369, [], 0, 0) :: gs, h3383, none)
                    refine bp_c (pc' := 105) (n := 1) bu_89_104 rfl rfl (fun _ _ _ => rfl) (by decide) (fun c3388 e3389 => ?_)
                    refine bp_ri bu_89_105 ?_
                    exact kk _ _ _ _ _ _ hP3385 p3386 f3387 (by unfold px_sg; (repeat' split) <;> omega) (by omega) (by omega)
                  · replace k3378 : ¬ ((c).toInt ≠ (c3376).toInt) := k3378
                    omega
              · replace k3329 : ¬ ((c).toInt ≠ (c3327).toInt) := k3329
                refine bp_c (pc' := 73) (n := 10) bu_89_71 rfl rfl (fun _ _ _ => rfl) (by decide) (fun c3390 e3391 => ?_)
                refine bp_st (pc' := 75) bu_89_73 rfl rfl (fun _ _ _ => rfl) rfl (by decide) (by decide) (fun lv3392 F3393 g3394 => ?_)
                have g3395 := F3393 0 (.ref (E.1 + 88)) g3317 (by decide) (Or.inl rfl)
                have g3396 := F3393 1 (.int i) g3318 (by decide) (Or.inl rfl)
                have g3397 := F3393 2 (.int c) g3319 (by decide) (Or.inl rfl)
                have g3398 := F3393 3 (.int d) g3320 (by decide) (Or.inl rfl)
                refine bp_ld (pc' := 76) bu_89_75 rfl rfl (fun _ _ _ => rfl) g3397 rfl ?_
                refine bp_c (pc' := 78) (n := 47) bu_89_76 rfl rfl (fun _ _ _ => rfl) (by decide) (fun c3399 e3400 => ?_)
                refine bp_ic (pc' := 81) (pt := 85) bu_89_78 rfl rfl (fun k3401 => ?_) (fun k3401 => ?_)
                · replace k3401 : (c).toInt ≠ (c3399).toInt := k3401
                  refine bp_ld (pc' := 86) bu_89_85 rfl rfl (fun _ _ _ => rfl) g3397 rfl ?_
                  refine bp_c (pc' := 88) (n := 60) bu_89_86 rfl rfl (fun _ _ _ => rfl) (by decide) (fun c3402 e3403 => ?_)
                  refine bp_ic (pc' := 91) (pt := 95) bu_89_88 rfl rfl (fun k3404 => ?_) (fun k3404 => ?_)
                  · replace k3404 : (c).toInt ≠ (c3402).toInt := k3404
                    refine bp_ld (pc' := 96) bu_89_95 rfl rfl (fun _ _ _ => rfl) g3395 rfl ?_
                    refine bp_ld (pc' := 98) bu_89_96 rfl rfl (fun _ _ _ => rfl) g3394 rfl ?_
                    refine bp_ld (pc' := 99) bu_89_98 rfl rfl (fun _ _ _ => rfl) g3396 rfl ?_
                    refine bp_c (pc' := 100) (n := 0) bu_89_99 rfl rfl (fun _ _ _ => rfl) (by decide) (fun c3405 e3406 => ?_)
                    refine bn_cL (pc' := 101) (n := 0) bu_89_100 rfl rfl (fun _ _ _ => rfl) (by decide) (fun x3407 e3408 => ?_)
                    refine bn_cvF (pc' := 104) (st := []) (args := [.long x3407, .int c3405, .int i, .int c3390]) bu_89_101 rfl rfl rfl (by decide) hP rz_o88 (by decide) rfl (Nat.le_of_ble_eq_true rfl) (Nat.le_of_ble_eq_true rfl) ?_
                    refine rr_103 (k := c3390) (w := i) (v := c3405) (x := x3407) hP hm hm2 (fun h3409 s3410 hP3411 p3412 f3413 => ?_)
                    show bp_G E PO NN ((89, 104, lv3392, [], 0, 0) :: gs, h3409, none)
                    refine bp_c (pc' := 105) (n := 1) bu_89_104 rfl rfl (fun _ _ _ => rfl) (by decide) (fun c3414 e3415 => ?_)
                    refine bp_ri bu_89_105 ?_
                    exact kk _ _ _ _ _ _ hP3411 p3412 f3413 (by unfold px_sg; (repeat' split) <;> omega) (by omega) (by omega)
                  · replace k3404 : ¬ ((c).toInt ≠ (c3402).toInt) := k3404
                    omega
                · replace k3401 : ¬ ((c).toInt ≠ (c3399).toInt) := k3401
                  omega
            · replace k3326 : ¬ ((c).toInt ≠ (c3324).toInt) := k3326
              refine bp_c (pc' := 63) (n := 9) bu_89_61 rfl rfl (fun _ _ _ => rfl) (by decide) (fun c3416 e3417 => ?_)
              refine bp_st (pc' := 65) bu_89_63 rfl rfl (fun _ _ _ => rfl) rfl (by decide) (by decide) (fun lv3418 F3419 g3420 => ?_)
              have g3421 := F3419 0 (.ref (E.1 + 88)) g3317 (by decide) (Or.inl rfl)
              have g3422 := F3419 1 (.int i) g3318 (by decide) (Or.inl rfl)
              have g3423 := F3419 2 (.int c) g3319 (by decide) (Or.inl rfl)
              have g3424 := F3419 3 (.int d) g3320 (by decide) (Or.inl rfl)
              refine bp_ld (pc' := 66) bu_89_65 rfl rfl (fun _ _ _ => rfl) g3423 rfl ?_
              refine bp_c (pc' := 68) (n := 42) bu_89_66 rfl rfl (fun _ _ _ => rfl) (by decide) (fun c3425 e3426 => ?_)
              refine bp_ic (pc' := 71) (pt := 75) bu_89_68 rfl rfl (fun k3427 => ?_) (fun k3427 => ?_)
              · replace k3427 : (c).toInt ≠ (c3425).toInt := k3427
                refine bp_ld (pc' := 76) bu_89_75 rfl rfl (fun _ _ _ => rfl) g3423 rfl ?_
                refine bp_c (pc' := 78) (n := 47) bu_89_76 rfl rfl (fun _ _ _ => rfl) (by decide) (fun c3428 e3429 => ?_)
                refine bp_ic (pc' := 81) (pt := 85) bu_89_78 rfl rfl (fun k3430 => ?_) (fun k3430 => ?_)
                · replace k3430 : (c).toInt ≠ (c3428).toInt := k3430
                  refine bp_ld (pc' := 86) bu_89_85 rfl rfl (fun _ _ _ => rfl) g3423 rfl ?_
                  refine bp_c (pc' := 88) (n := 60) bu_89_86 rfl rfl (fun _ _ _ => rfl) (by decide) (fun c3431 e3432 => ?_)
                  refine bp_ic (pc' := 91) (pt := 95) bu_89_88 rfl rfl (fun k3433 => ?_) (fun k3433 => ?_)
                  · replace k3433 : (c).toInt ≠ (c3431).toInt := k3433
                    refine bp_ld (pc' := 96) bu_89_95 rfl rfl (fun _ _ _ => rfl) g3421 rfl ?_
                    refine bp_ld (pc' := 98) bu_89_96 rfl rfl (fun _ _ _ => rfl) g3420 rfl ?_
                    refine bp_ld (pc' := 99) bu_89_98 rfl rfl (fun _ _ _ => rfl) g3422 rfl ?_
                    refine bp_c (pc' := 100) (n := 0) bu_89_99 rfl rfl (fun _ _ _ => rfl) (by decide) (fun c3434 e3435 => ?_)
                    refine bn_cL (pc' := 101) (n := 0) bu_89_100 rfl rfl (fun _ _ _ => rfl) (by decide) (fun x3436 e3437 => ?_)
                    refine bn_cvF (pc' := 104) (st := []) (args := [.long x3436, .int c3434, .int i, .int c3416]) bu_89_101 rfl rfl rfl (by decide) hP rz_o88 (by decide) rfl (Nat.le_of_ble_eq_true rfl) (Nat.le_of_ble_eq_true rfl) ?_
                    refine rr_103 (k := c3416) (w := i) (v := c3434) (x := x3436) hP hm hm2 (fun h3438 s3439 hP3440 p3441 f3442 => ?_)
                    show bp_G E PO NN ((89, 104, lv3418, [], 0, 0) :: gs, h3438, none)
                    refine bp_c (pc' := 105) (n := 1) bu_89_104 rfl rfl (fun _ _ _ => rfl) (by decide) (fun c3443 e3444 => ?_)
                    refine bp_ri bu_89_105 ?_
                    exact kk _ _ _ _ _ _ hP3440 p3441 f3442 (by unfold px_sg; (repeat' split) <;> omega) (by omega) (by omega)
                  · replace k3433 : ¬ ((c).toInt ≠ (c3431).toInt) := k3433
                    omega
                · replace k3430 : ¬ ((c).toInt ≠ (c3428).toInt) := k3430
                  omega
              · replace k3427 : ¬ ((c).toInt ≠ (c3425).toInt) := k3427
                omega
          · replace k3323 : ¬ ((c).toInt ≠ (c3321).toInt) := k3323
            refine bp_c (pc' := 53) (n := 8) bu_89_51 rfl rfl (fun _ _ _ => rfl) (by decide) (fun c3445 e3446 => ?_)
            refine bp_st (pc' := 55) bu_89_53 rfl rfl (fun _ _ _ => rfl) rfl (by decide) (by decide) (fun lv3447 F3448 g3449 => ?_)
            have g3450 := F3448 0 (.ref (E.1 + 88)) g3317 (by decide) (Or.inl rfl)
            have g3451 := F3448 1 (.int i) g3318 (by decide) (Or.inl rfl)
            have g3452 := F3448 2 (.int c) g3319 (by decide) (Or.inl rfl)
            have g3453 := F3448 3 (.int d) g3320 (by decide) (Or.inl rfl)
            refine bp_ld (pc' := 56) bu_89_55 rfl rfl (fun _ _ _ => rfl) g3452 rfl ?_
            refine bp_c (pc' := 58) (n := 45) bu_89_56 rfl rfl (fun _ _ _ => rfl) (by decide) (fun c3454 e3455 => ?_)
            refine bp_ic (pc' := 61) (pt := 65) bu_89_58 rfl rfl (fun k3456 => ?_) (fun k3456 => ?_)
            · replace k3456 : (c).toInt ≠ (c3454).toInt := k3456
              refine bp_ld (pc' := 66) bu_89_65 rfl rfl (fun _ _ _ => rfl) g3452 rfl ?_
              refine bp_c (pc' := 68) (n := 42) bu_89_66 rfl rfl (fun _ _ _ => rfl) (by decide) (fun c3457 e3458 => ?_)
              refine bp_ic (pc' := 71) (pt := 75) bu_89_68 rfl rfl (fun k3459 => ?_) (fun k3459 => ?_)
              · replace k3459 : (c).toInt ≠ (c3457).toInt := k3459
                refine bp_ld (pc' := 76) bu_89_75 rfl rfl (fun _ _ _ => rfl) g3452 rfl ?_
                refine bp_c (pc' := 78) (n := 47) bu_89_76 rfl rfl (fun _ _ _ => rfl) (by decide) (fun c3460 e3461 => ?_)
                refine bp_ic (pc' := 81) (pt := 85) bu_89_78 rfl rfl (fun k3462 => ?_) (fun k3462 => ?_)
                · replace k3462 : (c).toInt ≠ (c3460).toInt := k3462
                  refine bp_ld (pc' := 86) bu_89_85 rfl rfl (fun _ _ _ => rfl) g3452 rfl ?_
                  refine bp_c (pc' := 88) (n := 60) bu_89_86 rfl rfl (fun _ _ _ => rfl) (by decide) (fun c3463 e3464 => ?_)
                  refine bp_ic (pc' := 91) (pt := 95) bu_89_88 rfl rfl (fun k3465 => ?_) (fun k3465 => ?_)
                  · replace k3465 : (c).toInt ≠ (c3463).toInt := k3465
                    refine bp_ld (pc' := 96) bu_89_95 rfl rfl (fun _ _ _ => rfl) g3450 rfl ?_
                    refine bp_ld (pc' := 98) bu_89_96 rfl rfl (fun _ _ _ => rfl) g3449 rfl ?_
                    refine bp_ld (pc' := 99) bu_89_98 rfl rfl (fun _ _ _ => rfl) g3451 rfl ?_
                    refine bp_c (pc' := 100) (n := 0) bu_89_99 rfl rfl (fun _ _ _ => rfl) (by decide) (fun c3466 e3467 => ?_)
                    refine bn_cL (pc' := 101) (n := 0) bu_89_100 rfl rfl (fun _ _ _ => rfl) (by decide) (fun x3468 e3469 => ?_)
                    refine bn_cvF (pc' := 104) (st := []) (args := [.long x3468, .int c3466, .int i, .int c3445]) bu_89_101 rfl rfl rfl (by decide) hP rz_o88 (by decide) rfl (Nat.le_of_ble_eq_true rfl) (Nat.le_of_ble_eq_true rfl) ?_
                    refine rr_103 (k := c3445) (w := i) (v := c3466) (x := x3468) hP hm hm2 (fun h3470 s3471 hP3472 p3473 f3474 => ?_)
                    show bp_G E PO NN ((89, 104, lv3447, [], 0, 0) :: gs, h3470, none)
                    refine bp_c (pc' := 105) (n := 1) bu_89_104 rfl rfl (fun _ _ _ => rfl) (by decide) (fun c3475 e3476 => ?_)
                    refine bp_ri bu_89_105 ?_
                    exact kk _ _ _ _ _ _ hP3472 p3473 f3474 (by unfold px_sg; (repeat' split) <;> omega) (by omega) (by omega)
                  · replace k3465 : ¬ ((c).toInt ≠ (c3463).toInt) := k3465
                    omega
                · replace k3462 : ¬ ((c).toInt ≠ (c3460).toInt) := k3462
                  omega
              · replace k3459 : ¬ ((c).toInt ≠ (c3457).toInt) := k3459
                omega
            · replace k3456 : ¬ ((c).toInt ≠ (c3454).toInt) := k3456
              omega
        · replace k3311 : ¬ ((c).toInt ≠ (c3309).toInt) := k3311
          refine bp_c (pc' := 39) (n := 7) bu_89_37 rfl rfl (fun _ _ _ => rfl) (by decide) (fun c3477 e3478 => ?_)
          refine bp_go (pc' := 43) bu_89_39 rfl ?_
          refine bp_st (pc' := 45) bu_89_43 rfl rfl (fun _ _ _ => rfl) rfl (by decide) (by decide) (fun lv3479 F3480 g3481 => ?_)
          have g3482 := F3480 0 (.ref (E.1 + 88)) rfl (by decide) (Or.inl rfl)
          have g3483 := F3480 1 (.int i) rfl (by decide) (Or.inl rfl)
          have g3484 := F3480 2 (.int c) rfl (by decide) (Or.inl rfl)
          have g3485 := F3480 3 (.int d) rfl (by decide) (Or.inl rfl)
          refine bp_ld (pc' := 46) bu_89_45 rfl rfl (fun _ _ _ => rfl) g3484 rfl ?_
          refine bp_c (pc' := 48) (n := 43) bu_89_46 rfl rfl (fun _ _ _ => rfl) (by decide) (fun c3486 e3487 => ?_)
          refine bp_ic (pc' := 51) (pt := 55) bu_89_48 rfl rfl (fun k3488 => ?_) (fun k3488 => ?_)
          · replace k3488 : (c).toInt ≠ (c3486).toInt := k3488
            refine bp_ld (pc' := 56) bu_89_55 rfl rfl (fun _ _ _ => rfl) g3484 rfl ?_
            refine bp_c (pc' := 58) (n := 45) bu_89_56 rfl rfl (fun _ _ _ => rfl) (by decide) (fun c3489 e3490 => ?_)
            refine bp_ic (pc' := 61) (pt := 65) bu_89_58 rfl rfl (fun k3491 => ?_) (fun k3491 => ?_)
            · replace k3491 : (c).toInt ≠ (c3489).toInt := k3491
              refine bp_ld (pc' := 66) bu_89_65 rfl rfl (fun _ _ _ => rfl) g3484 rfl ?_
              refine bp_c (pc' := 68) (n := 42) bu_89_66 rfl rfl (fun _ _ _ => rfl) (by decide) (fun c3492 e3493 => ?_)
              refine bp_ic (pc' := 71) (pt := 75) bu_89_68 rfl rfl (fun k3494 => ?_) (fun k3494 => ?_)
              · replace k3494 : (c).toInt ≠ (c3492).toInt := k3494
                refine bp_ld (pc' := 76) bu_89_75 rfl rfl (fun _ _ _ => rfl) g3484 rfl ?_
                refine bp_c (pc' := 78) (n := 47) bu_89_76 rfl rfl (fun _ _ _ => rfl) (by decide) (fun c3495 e3496 => ?_)
                refine bp_ic (pc' := 81) (pt := 85) bu_89_78 rfl rfl (fun k3497 => ?_) (fun k3497 => ?_)
                · replace k3497 : (c).toInt ≠ (c3495).toInt := k3497
                  refine bp_ld (pc' := 86) bu_89_85 rfl rfl (fun _ _ _ => rfl) g3484 rfl ?_
                  refine bp_c (pc' := 88) (n := 60) bu_89_86 rfl rfl (fun _ _ _ => rfl) (by decide) (fun c3498 e3499 => ?_)
                  refine bp_ic (pc' := 91) (pt := 95) bu_89_88 rfl rfl (fun k3500 => ?_) (fun k3500 => ?_)
                  · replace k3500 : (c).toInt ≠ (c3498).toInt := k3500
                    refine bp_ld (pc' := 96) bu_89_95 rfl rfl (fun _ _ _ => rfl) g3482 rfl ?_
                    refine bp_ld (pc' := 98) bu_89_96 rfl rfl (fun _ _ _ => rfl) g3481 rfl ?_
                    refine bp_ld (pc' := 99) bu_89_98 rfl rfl (fun _ _ _ => rfl) g3483 rfl ?_
                    refine bp_c (pc' := 100) (n := 0) bu_89_99 rfl rfl (fun _ _ _ => rfl) (by decide) (fun c3501 e3502 => ?_)
                    refine bn_cL (pc' := 101) (n := 0) bu_89_100 rfl rfl (fun _ _ _ => rfl) (by decide) (fun x3503 e3504 => ?_)
                    refine bn_cvF (pc' := 104) (st := []) (args := [.long x3503, .int c3501, .int i, .int c3477]) bu_89_101 rfl rfl rfl (by decide) hP rz_o88 (by decide) rfl (Nat.le_of_ble_eq_true rfl) (Nat.le_of_ble_eq_true rfl) ?_
                    refine rr_103 (k := c3477) (w := i) (v := c3501) (x := x3503) hP hm hm2 (fun h3505 s3506 hP3507 p3508 f3509 => ?_)
                    show bp_G E PO NN ((89, 104, lv3479, [], 0, 0) :: gs, h3505, none)
                    refine bp_c (pc' := 105) (n := 1) bu_89_104 rfl rfl (fun _ _ _ => rfl) (by decide) (fun c3510 e3511 => ?_)
                    refine bp_ri bu_89_105 ?_
                    exact kk _ _ _ _ _ _ hP3507 p3508 f3509 (by unfold px_sg; (repeat' split) <;> omega) (by omega) (by omega)
                  · replace k3500 : ¬ ((c).toInt ≠ (c3498).toInt) := k3500
                    omega
                · replace k3497 : ¬ ((c).toInt ≠ (c3495).toInt) := k3497
                  omega
              · replace k3494 : ¬ ((c).toInt ≠ (c3492).toInt) := k3494
                omega
            · replace k3491 : ¬ ((c).toInt ≠ (c3489).toInt) := k3491
              omega
          · replace k3488 : ¬ ((c).toInt ≠ (c3486).toInt) := k3488
            omega
      · replace k3308 : ¬ ((c).toInt ≠ (c3306).toInt) := k3308
        refine bp_c (pc' := 28) (n := 6) bu_89_26 rfl rfl (fun _ _ _ => rfl) (by decide) (fun c3512 e3513 => ?_)
        refine bp_go (pc' := 43) bu_89_28 rfl ?_
        refine bp_st (pc' := 45) bu_89_43 rfl rfl (fun _ _ _ => rfl) rfl (by decide) (by decide) (fun lv3514 F3515 g3516 => ?_)
        have g3517 := F3515 0 (.ref (E.1 + 88)) rfl (by decide) (Or.inl rfl)
        have g3518 := F3515 1 (.int i) rfl (by decide) (Or.inl rfl)
        have g3519 := F3515 2 (.int c) rfl (by decide) (Or.inl rfl)
        have g3520 := F3515 3 (.int d) rfl (by decide) (Or.inl rfl)
        refine bp_ld (pc' := 46) bu_89_45 rfl rfl (fun _ _ _ => rfl) g3519 rfl ?_
        refine bp_c (pc' := 48) (n := 43) bu_89_46 rfl rfl (fun _ _ _ => rfl) (by decide) (fun c3521 e3522 => ?_)
        refine bp_ic (pc' := 51) (pt := 55) bu_89_48 rfl rfl (fun k3523 => ?_) (fun k3523 => ?_)
        · replace k3523 : (c).toInt ≠ (c3521).toInt := k3523
          refine bp_ld (pc' := 56) bu_89_55 rfl rfl (fun _ _ _ => rfl) g3519 rfl ?_
          refine bp_c (pc' := 58) (n := 45) bu_89_56 rfl rfl (fun _ _ _ => rfl) (by decide) (fun c3524 e3525 => ?_)
          refine bp_ic (pc' := 61) (pt := 65) bu_89_58 rfl rfl (fun k3526 => ?_) (fun k3526 => ?_)
          · replace k3526 : (c).toInt ≠ (c3524).toInt := k3526
            refine bp_ld (pc' := 66) bu_89_65 rfl rfl (fun _ _ _ => rfl) g3519 rfl ?_
            refine bp_c (pc' := 68) (n := 42) bu_89_66 rfl rfl (fun _ _ _ => rfl) (by decide) (fun c3527 e3528 => ?_)
            refine bp_ic (pc' := 71) (pt := 75) bu_89_68 rfl rfl (fun k3529 => ?_) (fun k3529 => ?_)
            · replace k3529 : (c).toInt ≠ (c3527).toInt := k3529
              refine bp_ld (pc' := 76) bu_89_75 rfl rfl (fun _ _ _ => rfl) g3519 rfl ?_
              refine bp_c (pc' := 78) (n := 47) bu_89_76 rfl rfl (fun _ _ _ => rfl) (by decide) (fun c3530 e3531 => ?_)
              refine bp_ic (pc' := 81) (pt := 85) bu_89_78 rfl rfl (fun k3532 => ?_) (fun k3532 => ?_)
              · replace k3532 : (c).toInt ≠ (c3530).toInt := k3532
                refine bp_ld (pc' := 86) bu_89_85 rfl rfl (fun _ _ _ => rfl) g3519 rfl ?_
                refine bp_c (pc' := 88) (n := 60) bu_89_86 rfl rfl (fun _ _ _ => rfl) (by decide) (fun c3533 e3534 => ?_)
                refine bp_ic (pc' := 91) (pt := 95) bu_89_88 rfl rfl (fun k3535 => ?_) (fun k3535 => ?_)
                · replace k3535 : (c).toInt ≠ (c3533).toInt := k3535
                  refine bp_ld (pc' := 96) bu_89_95 rfl rfl (fun _ _ _ => rfl) g3517 rfl ?_
                  refine bp_ld (pc' := 98) bu_89_96 rfl rfl (fun _ _ _ => rfl) g3516 rfl ?_
                  refine bp_ld (pc' := 99) bu_89_98 rfl rfl (fun _ _ _ => rfl) g3518 rfl ?_
                  refine bp_c (pc' := 100) (n := 0) bu_89_99 rfl rfl (fun _ _ _ => rfl) (by decide) (fun c3536 e3537 => ?_)
                  refine bn_cL (pc' := 101) (n := 0) bu_89_100 rfl rfl (fun _ _ _ => rfl) (by decide) (fun x3538 e3539 => ?_)
                  refine bn_cvF (pc' := 104) (st := []) (args := [.long x3538, .int c3536, .int i, .int c3512]) bu_89_101 rfl rfl rfl (by decide) hP rz_o88 (by decide) rfl (Nat.le_of_ble_eq_true rfl) (Nat.le_of_ble_eq_true rfl) ?_
                  refine rr_103 (k := c3512) (w := i) (v := c3536) (x := x3538) hP hm hm2 (fun h3540 s3541 hP3542 p3543 f3544 => ?_)
                  show bp_G E PO NN ((89, 104, lv3514, [], 0, 0) :: gs, h3540, none)
                  refine bp_c (pc' := 105) (n := 1) bu_89_104 rfl rfl (fun _ _ _ => rfl) (by decide) (fun c3545 e3546 => ?_)
                  refine bp_ri bu_89_105 ?_
                  exact kk _ _ _ _ _ _ hP3542 p3543 f3544 (by unfold px_sg; (repeat' split) <;> omega) (by omega) (by omega)
                · replace k3535 : ¬ ((c).toInt ≠ (c3533).toInt) := k3535
                  omega
              · replace k3532 : ¬ ((c).toInt ≠ (c3530).toInt) := k3532
                omega
            · replace k3529 : ¬ ((c).toInt ≠ (c3527).toInt) := k3529
              omega
          · replace k3526 : ¬ ((c).toInt ≠ (c3524).toInt) := k3526
            omega
        · replace k3523 : ¬ ((c).toInt ≠ (c3521).toInt) := k3523
          omega
    · replace k3305 : ¬ ((c).toInt ≠ (c3303).toInt) := k3305
      refine bp_c (pc' := 17) (n := 5) bu_89_16 rfl rfl (fun _ _ _ => rfl) (by decide) (fun c3547 e3548 => ?_)
      refine bp_go (pc' := 43) bu_89_17 rfl ?_
      refine bp_st (pc' := 45) bu_89_43 rfl rfl (fun _ _ _ => rfl) rfl (by decide) (by decide) (fun lv3549 F3550 g3551 => ?_)
      have g3552 := F3550 0 (.ref (E.1 + 88)) rfl (by decide) (Or.inl rfl)
      have g3553 := F3550 1 (.int i) rfl (by decide) (Or.inl rfl)
      have g3554 := F3550 2 (.int c) rfl (by decide) (Or.inl rfl)
      have g3555 := F3550 3 (.int d) rfl (by decide) (Or.inl rfl)
      refine bp_ld (pc' := 46) bu_89_45 rfl rfl (fun _ _ _ => rfl) g3554 rfl ?_
      refine bp_c (pc' := 48) (n := 43) bu_89_46 rfl rfl (fun _ _ _ => rfl) (by decide) (fun c3556 e3557 => ?_)
      refine bp_ic (pc' := 51) (pt := 55) bu_89_48 rfl rfl (fun k3558 => ?_) (fun k3558 => ?_)
      · replace k3558 : (c).toInt ≠ (c3556).toInt := k3558
        refine bp_ld (pc' := 56) bu_89_55 rfl rfl (fun _ _ _ => rfl) g3554 rfl ?_
        refine bp_c (pc' := 58) (n := 45) bu_89_56 rfl rfl (fun _ _ _ => rfl) (by decide) (fun c3559 e3560 => ?_)
        refine bp_ic (pc' := 61) (pt := 65) bu_89_58 rfl rfl (fun k3561 => ?_) (fun k3561 => ?_)
        · replace k3561 : (c).toInt ≠ (c3559).toInt := k3561
          refine bp_ld (pc' := 66) bu_89_65 rfl rfl (fun _ _ _ => rfl) g3554 rfl ?_
          refine bp_c (pc' := 68) (n := 42) bu_89_66 rfl rfl (fun _ _ _ => rfl) (by decide) (fun c3562 e3563 => ?_)
          refine bp_ic (pc' := 71) (pt := 75) bu_89_68 rfl rfl (fun k3564 => ?_) (fun k3564 => ?_)
          · replace k3564 : (c).toInt ≠ (c3562).toInt := k3564
            refine bp_ld (pc' := 76) bu_89_75 rfl rfl (fun _ _ _ => rfl) g3554 rfl ?_
            refine bp_c (pc' := 78) (n := 47) bu_89_76 rfl rfl (fun _ _ _ => rfl) (by decide) (fun c3565 e3566 => ?_)
            refine bp_ic (pc' := 81) (pt := 85) bu_89_78 rfl rfl (fun k3567 => ?_) (fun k3567 => ?_)
            · replace k3567 : (c).toInt ≠ (c3565).toInt := k3567
              refine bp_ld (pc' := 86) bu_89_85 rfl rfl (fun _ _ _ => rfl) g3554 rfl ?_
              refine bp_c (pc' := 88) (n := 60) bu_89_86 rfl rfl (fun _ _ _ => rfl) (by decide) (fun c3568 e3569 => ?_)
              refine bp_ic (pc' := 91) (pt := 95) bu_89_88 rfl rfl (fun k3570 => ?_) (fun k3570 => ?_)
              · replace k3570 : (c).toInt ≠ (c3568).toInt := k3570
                refine bp_ld (pc' := 96) bu_89_95 rfl rfl (fun _ _ _ => rfl) g3552 rfl ?_
                refine bp_ld (pc' := 98) bu_89_96 rfl rfl (fun _ _ _ => rfl) g3551 rfl ?_
                refine bp_ld (pc' := 99) bu_89_98 rfl rfl (fun _ _ _ => rfl) g3553 rfl ?_
                refine bp_c (pc' := 100) (n := 0) bu_89_99 rfl rfl (fun _ _ _ => rfl) (by decide) (fun c3571 e3572 => ?_)
                refine bn_cL (pc' := 101) (n := 0) bu_89_100 rfl rfl (fun _ _ _ => rfl) (by decide) (fun x3573 e3574 => ?_)
                refine bn_cvF (pc' := 104) (st := []) (args := [.long x3573, .int c3571, .int i, .int c3547]) bu_89_101 rfl rfl rfl (by decide) hP rz_o88 (by decide) rfl (Nat.le_of_ble_eq_true rfl) (Nat.le_of_ble_eq_true rfl) ?_
                refine rr_103 (k := c3547) (w := i) (v := c3571) (x := x3573) hP hm hm2 (fun h3575 s3576 hP3577 p3578 f3579 => ?_)
                show bp_G E PO NN ((89, 104, lv3549, [], 0, 0) :: gs, h3575, none)
                refine bp_c (pc' := 105) (n := 1) bu_89_104 rfl rfl (fun _ _ _ => rfl) (by decide) (fun c3580 e3581 => ?_)
                refine bp_ri bu_89_105 ?_
                exact kk _ _ _ _ _ _ hP3577 p3578 f3579 (by unfold px_sg; (repeat' split) <;> omega) (by omega) (by omega)
              · replace k3570 : ¬ ((c).toInt ≠ (c3568).toInt) := k3570
                omega
            · replace k3567 : ¬ ((c).toInt ≠ (c3565).toInt) := k3567
              omega
          · replace k3564 : ¬ ((c).toInt ≠ (c3562).toInt) := k3564
            omega
        · replace k3561 : ¬ ((c).toInt ≠ (c3559).toInt) := k3561
          omega
      · replace k3558 : ¬ ((c).toInt ≠ (c3556).toInt) := k3558
        omega
  · replace k3302 : ¬ ((c).toInt ≠ (c3300).toInt) := k3302
    refine bp_c (pc' := 7) (n := 4) bu_89_6 rfl rfl (fun _ _ _ => rfl) (by decide) (fun c3582 e3583 => ?_)
    refine bp_go (pc' := 43) bu_89_7 rfl ?_
    refine bp_st (pc' := 45) bu_89_43 rfl rfl (fun _ _ _ => rfl) rfl (by decide) (by decide) (fun lv3584 F3585 g3586 => ?_)
    have g3587 := F3585 0 (.ref (E.1 + 88)) rfl (by decide) (Or.inl rfl)
    have g3588 := F3585 1 (.int i) rfl (by decide) (Or.inl rfl)
    have g3589 := F3585 2 (.int c) rfl (by decide) (Or.inl rfl)
    have g3590 := F3585 3 (.int d) rfl (by decide) (Or.inl rfl)
    refine bp_ld (pc' := 46) bu_89_45 rfl rfl (fun _ _ _ => rfl) g3589 rfl ?_
    refine bp_c (pc' := 48) (n := 43) bu_89_46 rfl rfl (fun _ _ _ => rfl) (by decide) (fun c3591 e3592 => ?_)
    refine bp_ic (pc' := 51) (pt := 55) bu_89_48 rfl rfl (fun k3593 => ?_) (fun k3593 => ?_)
    · replace k3593 : (c).toInt ≠ (c3591).toInt := k3593
      refine bp_ld (pc' := 56) bu_89_55 rfl rfl (fun _ _ _ => rfl) g3589 rfl ?_
      refine bp_c (pc' := 58) (n := 45) bu_89_56 rfl rfl (fun _ _ _ => rfl) (by decide) (fun c3594 e3595 => ?_)
      refine bp_ic (pc' := 61) (pt := 65) bu_89_58 rfl rfl (fun k3596 => ?_) (fun k3596 => ?_)
      · replace k3596 : (c).toInt ≠ (c3594).toInt := k3596
        refine bp_ld (pc' := 66) bu_89_65 rfl rfl (fun _ _ _ => rfl) g3589 rfl ?_
        refine bp_c (pc' := 68) (n := 42) bu_89_66 rfl rfl (fun _ _ _ => rfl) (by decide) (fun c3597 e3598 => ?_)
        refine bp_ic (pc' := 71) (pt := 75) bu_89_68 rfl rfl (fun k3599 => ?_) (fun k3599 => ?_)
        · replace k3599 : (c).toInt ≠ (c3597).toInt := k3599
          refine bp_ld (pc' := 76) bu_89_75 rfl rfl (fun _ _ _ => rfl) g3589 rfl ?_
          refine bp_c (pc' := 78) (n := 47) bu_89_76 rfl rfl (fun _ _ _ => rfl) (by decide) (fun c3600 e3601 => ?_)
          refine bp_ic (pc' := 81) (pt := 85) bu_89_78 rfl rfl (fun k3602 => ?_) (fun k3602 => ?_)
          · replace k3602 : (c).toInt ≠ (c3600).toInt := k3602
            refine bp_ld (pc' := 86) bu_89_85 rfl rfl (fun _ _ _ => rfl) g3589 rfl ?_
            refine bp_c (pc' := 88) (n := 60) bu_89_86 rfl rfl (fun _ _ _ => rfl) (by decide) (fun c3603 e3604 => ?_)
            refine bp_ic (pc' := 91) (pt := 95) bu_89_88 rfl rfl (fun k3605 => ?_) (fun k3605 => ?_)
            · replace k3605 : (c).toInt ≠ (c3603).toInt := k3605
              refine bp_ld (pc' := 96) bu_89_95 rfl rfl (fun _ _ _ => rfl) g3587 rfl ?_
              refine bp_ld (pc' := 98) bu_89_96 rfl rfl (fun _ _ _ => rfl) g3586 rfl ?_
              refine bp_ld (pc' := 99) bu_89_98 rfl rfl (fun _ _ _ => rfl) g3588 rfl ?_
              refine bp_c (pc' := 100) (n := 0) bu_89_99 rfl rfl (fun _ _ _ => rfl) (by decide) (fun c3606 e3607 => ?_)
              refine bn_cL (pc' := 101) (n := 0) bu_89_100 rfl rfl (fun _ _ _ => rfl) (by decide) (fun x3608 e3609 => ?_)
              refine bn_cvF (pc' := 104) (st := []) (args := [.long x3608, .int c3606, .int i, .int c3582]) bu_89_101 rfl rfl rfl (by decide) hP rz_o88 (by decide) rfl (Nat.le_of_ble_eq_true rfl) (Nat.le_of_ble_eq_true rfl) ?_
              refine rr_103 (k := c3582) (w := i) (v := c3606) (x := x3608) hP hm hm2 (fun h3610 s3611 hP3612 p3613 f3614 => ?_)
              show bp_G E PO NN ((89, 104, lv3584, [], 0, 0) :: gs, h3610, none)
              refine bp_c (pc' := 105) (n := 1) bu_89_104 rfl rfl (fun _ _ _ => rfl) (by decide) (fun c3615 e3616 => ?_)
              refine bp_ri bu_89_105 ?_
              exact kk _ _ _ _ _ _ hP3612 p3613 f3614 (by unfold px_sg; (repeat' split) <;> omega) (by omega) (by omega)
            · replace k3605 : ¬ ((c).toInt ≠ (c3603).toInt) := k3605
              omega
          · replace k3602 : ¬ ((c).toInt ≠ (c3600).toInt) := k3602
            omega
        · replace k3599 : ¬ ((c).toInt ≠ (c3597).toInt) := k3599
          omega
      · replace k3596 : ¬ ((c).toInt ≠ (c3594).toInt) := k3596
        omega
    · replace k3593 : ¬ ((c).toInt ≠ (c3591).toInt) := k3593
      omega
end RQB
