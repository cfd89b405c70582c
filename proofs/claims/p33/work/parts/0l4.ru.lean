/-! PARTIAL: the reference's tokens, exact (wip/p5/mkr4.py) -/
theorem bp_and255 (x : Int32) : (x &&& 255).toInt = x.toInt % 256 := by
  have e1 : (x &&& 255).toBitVec = x.toBitVec &&& 255#32 := rfl
  have e2 : (x.toBitVec &&& 255#32).toNat = x.toBitVec.toNat % 256 := by
    rw [BitVec.toNat_and]
    exact Nat.and_two_pow_sub_one_eq_mod _ 8
  have e3 : (x &&& 255).toInt = (x &&& 255).toBitVec.toInt := rfl
  have e4 : x.toInt = x.toBitVec.toInt := rfl
  rw [e3, e1, e4, BitVec.toInt_eq_toNat_cond, BitVec.toInt_eq_toNat_cond, e2]
  have := x.toBitVec.isLt
  split <;> split <;> omega
theorem px_rn_k {Q : Int → Bool} {X : Nat → Int32} {n : Nat} : ∀ (k i : Nat), (∀ j, j < k → i + j < n ∧ Q (px_c X n (i + j)) = true) → ¬ (i + k < n ∧ Q (px_c X n (i + k)) = true) → px_rn Q X n i = i + k := by
  intro k
  induction k with
  | zero => exact fun i _ h => px_rn_e h
  | succ k ih =>
    intro i h1 h2
    have a : i < n ∧ Q (px_c X n i) = true := h1 0 (Nat.succ_pos k)
    rw [px_rn_s a.1 a.2, ih (i + 1) (fun j hj => by
      have b := h1 (j + 1) (by omega)
      rw [show i + 1 + j = i + (j + 1) by omega]
      exact b) (by
      rw [show i + 1 + k = i + (k + 1) by omega]
      exact h2)]
    omega
theorem px_at_m {X : Nat → Int32} {n : Nat} : ∀ (j i : Nat), i ≤ j → px_at X n i ≤ px_at X n j := by
  intro j
  induction j with
  | zero =>
    intro i h
    have e : i = 0 := by omega
    rw [e]
    exact Nat.le_refl _
  | succ j ih =>
    intro i h
    by_cases e : i = j + 1
    · rw [e]
      exact Nat.le_refl _
    · exact Nat.le_trans (ih i (by omega)) px_at_s.1
theorem px_nm_b {X : Nat → Int32} {n p k : Nat} (hk : k ≤ 8) (h : ∀ j, j < k → px_lt (px_c X n (p + j)) = true) : px_nm 27 X n p k < 282429536481 := by
  have h1 : px_nm 27 X n p k < 27 ^ k := px_nv_lt (by decide) k (fun j hj => by
    have g := px_lt_iff.mp (h j hj)
    unfold px_ld
    omega)
  have h2 : 27 ^ k ≤ 27 ^ 8 := Nat.pow_le_pow_right (by decide) hk
  have h3 : 27 ^ 8 = 282429536481 := by decide
  omega
theorem px_lt0 {X : Nat → Int32} {n j : Nat} (h : 97 ≤ px_c X n j) : j < n := by
  by_cases e : j < n
  · exact e
  · rw [px_c_out e] at h
    omega
theorem px_dg0 {X : Nat → Int32} {n j : Nat} (h : 48 ≤ px_c X n j) : j < n := by
  by_cases e : j < n
  · exact e
  · rw [px_c_out e] at h
    omega
theorem px_dv_b {X : Nat → Int32} {n p : Nat} : ∀ k, k ≤ 4 → (∀ j, j < k → px_dg (px_c X n (p + j)) = true) → 0 ≤ px_dv X n p k ∧ px_dv X n p k < 10 ^ k := by
  intro k
  induction k with
  | zero => exact fun _ _ => ⟨Int.le_refl 0, (by decide : (0 : Int) < 10 ^ 0)⟩
  | succ k ih =>
    intro h1 h2
    have a := ih (by omega) (fun j hj => h2 j (by omega))
    have b := px_dg_iff.mp (h2 k (by omega))
    have e : px_dv X n p (k + 1) = 10 * px_dv X n p k + (px_c X n (p + k) - 48) := rfl
    rw [e]
    have e2 : (10 : Int) ^ (k + 1) = 10 ^ k * 10 := Int.pow_succ 10 k
    rw [e2]
    generalize (10 : Int) ^ k = z at a
    omega
theorem bp_app {x y z w v : Int64} {c : Int} (h0 : 0 ≤ x.toInt) (h1 : x.toInt < 282429536481) (hc : 97 ≤ c ∧ c ≤ 122) (h27 : y.toInt = 27) (hz : z = y * x) (hw : w.toInt = c - 96) (hv : v = z + w) : v.toInt = 27 * x.toInt + (c - 96) := by
  have e1 : z.toInt = 27 * x.toInt := by
    rw [hz, Int64.toInt_mul, h27]
    exact Int.bmod_eq_of_le (by omega) (by omega)
  rw [hv, Int64.toInt_add, e1, hw]
  exact Int.bmod_eq_of_le (by omega) (by omega)
theorem bu_2_0 : mm_at mt_P 2 0 = some ((0, 1, .iload_n 2, 0, 0, 0, 0), 3, 2, 0, 9, 3, 0, 0) := rfl
theorem bu_2_1 : mm_at mt_P 2 1 = some ((1, 3, .ifCond .ne 7, 0, 0, 0, 0), 3, 2, 0, 9, 3, 0, 0) := rfl
theorem bu_2_4 : mm_at mt_P 2 4 = some ((4, 1, .lload_n 0, 0, 0, 0, 0), 3, 2, 0, 9, 3, 0, 0) := rfl
theorem bu_2_5 : mm_at mt_P 2 5 = some ((5, 3, .goto 16, 0, 0, 0, 0), 3, 2, 0, 9, 3, 0, 0) := rfl
theorem bu_2_8 : mm_at mt_P 2 8 = some ((8, 3, .ldc2_w 175, 0, 0, 27, 1201), 3, 2, 0, 9, 3, 0, 0) := rfl
theorem bu_2_11 : mm_at mt_P 2 11 = some ((11, 1, .lload_n 0, 0, 0, 0, 0), 3, 2, 0, 9, 3, 0, 0) := rfl
theorem bu_2_12 : mm_at mt_P 2 12 = some ((12, 1, .lmul, 0, 0, 0, 0), 3, 2, 0, 9, 3, 0, 0) := rfl
theorem bu_2_13 : mm_at mt_P 2 13 = some ((13, 1, .iload_n 2, 0, 0, 0, 0), 3, 2, 0, 9, 3, 0, 0) := rfl
theorem bu_2_14 : mm_at mt_P 2 14 = some ((14, 2, .bipush 97, 0, 0, 0, 0), 3, 2, 0, 9, 3, 0, 0) := rfl
theorem bu_2_16 : mm_at mt_P 2 16 = some ((16, 1, .isub, 0, 0, 0, 0), 3, 2, 0, 9, 3, 0, 0) := rfl
theorem bu_2_17 : mm_at mt_P 2 17 = some ((17, 1, .iconst 1, 0, 0, 0, 0), 3, 2, 0, 9, 3, 0, 0) := rfl
theorem bu_2_18 : mm_at mt_P 2 18 = some ((18, 1, .iadd, 0, 0, 0, 0), 3, 2, 0, 9, 3, 0, 0) := rfl
theorem bu_2_19 : mm_at mt_P 2 19 = some ((19, 1, .i2l, 0, 0, 0, 0), 3, 2, 0, 9, 3, 0, 0) := rfl
theorem bu_2_20 : mm_at mt_P 2 20 = some ((20, 1, .ladd, 0, 0, 0, 0), 3, 2, 0, 9, 3, 0, 0) := rfl
theorem bu_2_21 : mm_at mt_P 2 21 = some ((21, 1, .lreturn, 0, 0, 0, 0), 3, 2, 0, 9, 3, 0, 0) := rfl
theorem bu_12_0 : mm_at mt_P 12 0 = some ((0, 1, .iload_n 1, 0, 0, 0, 0), 2, 1, 1, 9, 1, 0, 0) := rfl
theorem bu_12_1 : mm_at mt_P 12 1 = some ((1, 1, .aload_n 0, 0, 0, 0, 0), 2, 1, 1, 9, 1, 0, 0) := rfl
theorem bu_12_2 : mm_at mt_P 12 2 = some ((2, 3, .getfield 172, 9, 4, 0, 1221), 2, 1, 1, 9, 1, 0, 0) := rfl
theorem bu_12_5 : mm_at mt_P 12 5 = some ((5, 3, .if_icmp .ge 16, 0, 0, 0, 0), 2, 1, 1, 9, 1, 0, 0) := rfl
theorem bu_12_8 : mm_at mt_P 12 8 = some ((8, 1, .aload_n 0, 0, 0, 0, 0), 2, 1, 1, 9, 1, 0, 0) := rfl
theorem bu_12_9 : mm_at mt_P 12 9 = some ((9, 3, .getfield 17, 9, 3, 0, 1220), 2, 1, 1, 9, 1, 0, 0) := rfl
theorem bu_12_12 : mm_at mt_P 12 12 = some ((12, 1, .iload_n 1, 0, 0, 0, 0), 2, 1, 1, 9, 1, 0, 0) := rfl
theorem bu_12_13 : mm_at mt_P 12 13 = some ((13, 1, .baload, 0, 0, 0, 0), 2, 1, 1, 9, 1, 0, 0) := rfl
theorem bu_12_14 : mm_at mt_P 12 14 = some ((14, 3, .sipush 255, 0, 0, 0, 0), 2, 1, 1, 9, 1, 0, 0) := rfl
theorem bu_12_17 : mm_at mt_P 12 17 = some ((17, 1, .iand, 0, 0, 0, 0), 2, 1, 1, 9, 1, 0, 0) := rfl
theorem bu_12_18 : mm_at mt_P 12 18 = some ((18, 3, .goto 4, 0, 0, 0, 0), 2, 1, 1, 9, 1, 0, 0) := rfl
theorem bu_12_21 : mm_at mt_P 12 21 = some ((21, 1, .iconst 0, 0, 0, 0, 0), 2, 1, 1, 9, 1, 0, 0) := rfl
theorem bu_12_22 : mm_at mt_P 12 22 = some ((22, 1, .ireturn, 0, 0, 0, 0), 2, 1, 1, 9, 1, 0, 0) := rfl
theorem bu_48_0 : mm_at mt_P 48 0 = some ((0, 1, .iload_n 0, 0, 0, 0, 0), 1, 1, 0, 9, 2, 0, 0) := rfl
theorem bu_48_1 : mm_at mt_P 48 1 = some ((1, 2, .bipush 48, 0, 0, 0, 0), 1, 1, 0, 9, 2, 0, 0) := rfl
theorem bu_48_3 : mm_at mt_P 48 3 = some ((3, 3, .if_icmp .lt 13, 0, 0, 0, 0), 1, 1, 0, 9, 2, 0, 0) := rfl
theorem bu_48_6 : mm_at mt_P 48 6 = some ((6, 1, .iload_n 0, 0, 0, 0, 0), 1, 1, 0, 9, 2, 0, 0) := rfl
theorem bu_48_7 : mm_at mt_P 48 7 = some ((7, 2, .bipush 57, 0, 0, 0, 0), 1, 1, 0, 9, 2, 0, 0) := rfl
theorem bu_48_9 : mm_at mt_P 48 9 = some ((9, 3, .if_icmp .gt 7, 0, 0, 0, 0), 1, 1, 0, 9, 2, 0, 0) := rfl
theorem bu_48_12 : mm_at mt_P 48 12 = some ((12, 1, .iconst 1, 0, 0, 0, 0), 1, 1, 0, 9, 2, 0, 0) := rfl
theorem bu_48_13 : mm_at mt_P 48 13 = some ((13, 3, .goto 4, 0, 0, 0, 0), 1, 1, 0, 9, 2, 0, 0) := rfl
theorem bu_48_16 : mm_at mt_P 48 16 = some ((16, 1, .iconst 0, 0, 0, 0, 0), 1, 1, 0, 9, 2, 0, 0) := rfl
theorem bu_48_17 : mm_at mt_P 48 17 = some ((17, 1, .ireturn, 0, 0, 0, 0), 1, 1, 0, 9, 2, 0, 0) := rfl
theorem bu_50_0 : mm_at mt_P 50 0 = some ((0, 1, .iload_n 0, 0, 0, 0, 0), 1, 1, 0, 9, 2, 0, 0) := rfl
theorem bu_50_1 : mm_at mt_P 50 1 = some ((1, 2, .bipush 97, 0, 0, 0, 0), 1, 1, 0, 9, 2, 0, 0) := rfl
theorem bu_50_3 : mm_at mt_P 50 3 = some ((3, 3, .if_icmp .lt 13, 0, 0, 0, 0), 1, 1, 0, 9, 2, 0, 0) := rfl
theorem bu_50_6 : mm_at mt_P 50 6 = some ((6, 1, .iload_n 0, 0, 0, 0, 0), 1, 1, 0, 9, 2, 0, 0) := rfl
theorem bu_50_7 : mm_at mt_P 50 7 = some ((7, 2, .bipush 122, 0, 0, 0, 0), 1, 1, 0, 9, 2, 0, 0) := rfl
theorem bu_50_9 : mm_at mt_P 50 9 = some ((9, 3, .if_icmp .gt 7, 0, 0, 0, 0), 1, 1, 0, 9, 2, 0, 0) := rfl
theorem bu_50_12 : mm_at mt_P 50 12 = some ((12, 1, .iconst 1, 0, 0, 0, 0), 1, 1, 0, 9, 2, 0, 0) := rfl
theorem bu_50_13 : mm_at mt_P 50 13 = some ((13, 3, .goto 4, 0, 0, 0, 0), 1, 1, 0, 9, 2, 0, 0) := rfl
theorem bu_50_16 : mm_at mt_P 50 16 = some ((16, 1, .iconst 0, 0, 0, 0, 0), 1, 1, 0, 9, 2, 0, 0) := rfl
theorem bu_50_17 : mm_at mt_P 50 17 = some ((17, 1, .ireturn, 0, 0, 0, 0), 1, 1, 0, 9, 2, 0, 0) := rfl
theorem bu_89_0 : mm_at mt_P 89 0 = some ((0, 1, .iload_n 2, 0, 0, 0, 0), 5, 3, 1, 9, 1, 0, 0) := rfl
theorem bu_89_1 : mm_at mt_P 89 1 = some ((1, 2, .bipush 59, 0, 0, 0, 0), 5, 3, 1, 9, 1, 0, 0) := rfl
theorem bu_89_3 : mm_at mt_P 89 3 = some ((3, 3, .if_icmp .ne 7, 0, 0, 0, 0), 5, 3, 1, 9, 1, 0, 0) := rfl
theorem bu_89_6 : mm_at mt_P 89 6 = some ((6, 1, .iconst 4, 0, 0, 0, 0), 5, 3, 1, 9, 1, 0, 0) := rfl
theorem bu_89_7 : mm_at mt_P 89 7 = some ((7, 3, .goto 36, 0, 0, 0, 0), 5, 3, 1, 9, 1, 0, 0) := rfl
theorem bu_89_10 : mm_at mt_P 89 10 = some ((10, 1, .iload_n 2, 0, 0, 0, 0), 5, 3, 1, 9, 1, 0, 0) := rfl
theorem bu_89_11 : mm_at mt_P 89 11 = some ((11, 2, .bipush 61, 0, 0, 0, 0), 5, 3, 1, 9, 1, 0, 0) := rfl
theorem bu_89_13 : mm_at mt_P 89 13 = some ((13, 3, .if_icmp .ne 7, 0, 0, 0, 0), 5, 3, 1, 9, 1, 0, 0) := rfl
theorem bu_89_16 : mm_at mt_P 89 16 = some ((16, 1, .iconst 5, 0, 0, 0, 0), 5, 3, 1, 9, 1, 0, 0) := rfl
theorem bu_89_17 : mm_at mt_P 89 17 = some ((17, 3, .goto 26, 0, 0, 0, 0), 5, 3, 1, 9, 1, 0, 0) := rfl
theorem bu_89_20 : mm_at mt_P 89 20 = some ((20, 1, .iload_n 2, 0, 0, 0, 0), 5, 3, 1, 9, 1, 0, 0) := rfl
theorem bu_89_21 : mm_at mt_P 89 21 = some ((21, 2, .bipush 40, 0, 0, 0, 0), 5, 3, 1, 9, 1, 0, 0) := rfl
theorem bu_89_23 : mm_at mt_P 89 23 = some ((23, 3, .if_icmp .ne 8, 0, 0, 0, 0), 5, 3, 1, 9, 1, 0, 0) := rfl
theorem bu_89_26 : mm_at mt_P 89 26 = some ((26, 2, .bipush 6, 0, 0, 0, 0), 5, 3, 1, 9, 1, 0, 0) := rfl
theorem bu_89_28 : mm_at mt_P 89 28 = some ((28, 3, .goto 15, 0, 0, 0, 0), 5, 3, 1, 9, 1, 0, 0) := rfl
theorem bu_89_31 : mm_at mt_P 89 31 = some ((31, 1, .iload_n 2, 0, 0, 0, 0), 5, 3, 1, 9, 1, 0, 0) := rfl
theorem bu_89_32 : mm_at mt_P 89 32 = some ((32, 2, .bipush 41, 0, 0, 0, 0), 5, 3, 1, 9, 1, 0, 0) := rfl
theorem bu_89_34 : mm_at mt_P 89 34 = some ((34, 3, .if_icmp .ne 8, 0, 0, 0, 0), 5, 3, 1, 9, 1, 0, 0) := rfl
theorem bu_89_37 : mm_at mt_P 89 37 = some ((37, 2, .bipush 7, 0, 0, 0, 0), 5, 3, 1, 9, 1, 0, 0) := rfl
theorem bu_89_39 : mm_at mt_P 89 39 = some ((39, 3, .goto 4, 0, 0, 0, 0), 5, 3, 1, 9, 1, 0, 0) := rfl
theorem bu_89_42 : mm_at mt_P 89 42 = some ((42, 1, .iconst 3, 0, 0, 0, 0), 5, 3, 1, 9, 1, 0, 0) := rfl
theorem bu_89_43 : mm_at mt_P 89 43 = some ((43, 2, .istore 4, 0, 0, 0, 0), 5, 3, 1, 9, 1, 0, 0) := rfl
theorem bu_89_45 : mm_at mt_P 89 45 = some ((45, 1, .iload_n 2, 0, 0, 0, 0), 5, 3, 1, 9, 1, 0, 0) := rfl
theorem bu_89_46 : mm_at mt_P 89 46 = some ((46, 2, .bipush 43, 0, 0, 0, 0), 5, 3, 1, 9, 1, 0, 0) := rfl
theorem bu_89_48 : mm_at mt_P 89 48 = some ((48, 3, .if_icmp .ne 7, 0, 0, 0, 0), 5, 3, 1, 9, 1, 0, 0) := rfl
theorem bu_89_51 : mm_at mt_P 89 51 = some ((51, 2, .bipush 8, 0, 0, 0, 0), 5, 3, 1, 9, 1, 0, 0) := rfl
theorem bu_89_53 : mm_at mt_P 89 53 = some ((53, 2, .istore 4, 0, 0, 0, 0), 5, 3, 1, 9, 1, 0, 0) := rfl
theorem bu_89_55 : mm_at mt_P 89 55 = some ((55, 1, .iload_n 2, 0, 0, 0, 0), 5, 3, 1, 9, 1, 0, 0) := rfl
theorem bu_89_56 : mm_at mt_P 89 56 = some ((56, 2, .bipush 45, 0, 0, 0, 0), 5, 3, 1, 9, 1, 0, 0) := rfl
theorem bu_89_58 : mm_at mt_P 89 58 = some ((58, 3, .if_icmp .ne 7, 0, 0, 0, 0), 5, 3, 1, 9, 1, 0, 0) := rfl
theorem bu_89_61 : mm_at mt_P 89 61 = some ((61, 2, .bipush 9, 0, 0, 0, 0), 5, 3, 1, 9, 1, 0, 0) := rfl
theorem bu_89_63 : mm_at mt_P 89 63 = some ((63, 2, .istore 4, 0, 0, 0, 0), 5, 3, 1, 9, 1, 0, 0) := rfl
theorem bu_89_65 : mm_at mt_P 89 65 = some ((65, 1, .iload_n 2, 0, 0, 0, 0), 5, 3, 1, 9, 1, 0, 0) := rfl
theorem bu_89_66 : mm_at mt_P 89 66 = some ((66, 2, .bipush 42, 0, 0, 0, 0), 5, 3, 1, 9, 1, 0, 0) := rfl
theorem bu_89_68 : mm_at mt_P 89 68 = some ((68, 3, .if_icmp .ne 7, 0, 0, 0, 0), 5, 3, 1, 9, 1, 0, 0) := rfl
theorem bu_89_71 : mm_at mt_P 89 71 = some ((71, 2, .bipush 10, 0, 0, 0, 0), 5, 3, 1, 9, 1, 0, 0) := rfl
theorem bu_89_73 : mm_at mt_P 89 73 = some ((73, 2, .istore 4, 0, 0, 0, 0), 5, 3, 1, 9, 1, 0, 0) := rfl
theorem bu_89_75 : mm_at mt_P 89 75 = some ((75, 1, .iload_n 2, 0, 0, 0, 0), 5, 3, 1, 9, 1, 0, 0) := rfl
theorem bu_89_76 : mm_at mt_P 89 76 = some ((76, 2, .bipush 47, 0, 0, 0, 0), 5, 3, 1, 9, 1, 0, 0) := rfl
theorem bu_89_78 : mm_at mt_P 89 78 = some ((78, 3, .if_icmp .ne 7, 0, 0, 0, 0), 5, 3, 1, 9, 1, 0, 0) := rfl
theorem bu_89_81 : mm_at mt_P 89 81 = some ((81, 2, .bipush 15, 0, 0, 0, 0), 5, 3, 1, 9, 1, 0, 0) := rfl
theorem bu_89_83 : mm_at mt_P 89 83 = some ((83, 2, .istore 4, 0, 0, 0, 0), 5, 3, 1, 9, 1, 0, 0) := rfl
theorem bu_89_85 : mm_at mt_P 89 85 = some ((85, 1, .iload_n 2, 0, 0, 0, 0), 5, 3, 1, 9, 1, 0, 0) := rfl
theorem bu_89_86 : mm_at mt_P 89 86 = some ((86, 2, .bipush 60, 0, 0, 0, 0), 5, 3, 1, 9, 1, 0, 0) := rfl
theorem bu_89_88 : mm_at mt_P 89 88 = some ((88, 3, .if_icmp .ne 7, 0, 0, 0, 0), 5, 3, 1, 9, 1, 0, 0) := rfl
theorem bu_89_91 : mm_at mt_P 89 91 = some ((91, 2, .bipush 13, 0, 0, 0, 0), 5, 3, 1, 9, 1, 0, 0) := rfl
theorem bu_89_93 : mm_at mt_P 89 93 = some ((93, 2, .istore 4, 0, 0, 0, 0), 5, 3, 1, 9, 1, 0, 0) := rfl
theorem bu_89_95 : mm_at mt_P 89 95 = some ((95, 1, .aload_n 0, 0, 0, 0, 0), 5, 3, 1, 9, 1, 0, 0) := rfl
theorem bu_89_96 : mm_at mt_P 89 96 = some ((96, 2, .iload 4, 0, 0, 0, 0), 5, 3, 1, 9, 1, 0, 0) := rfl
theorem bu_89_98 : mm_at mt_P 89 98 = some ((98, 1, .iload_n 1, 0, 0, 0, 0), 5, 3, 1, 9, 1, 0, 0) := rfl
theorem bu_89_99 : mm_at mt_P 89 99 = some ((99, 1, .iconst 0, 0, 0, 0, 0), 5, 3, 1, 9, 1, 0, 0) := rfl
theorem bu_89_100 : mm_at mt_P 89 100 = some ((100, 1, .lconst 0, 0, 0, 0, 0), 5, 3, 1, 9, 1, 0, 0) := rfl
theorem bu_89_101 : mm_at mt_P 89 101 = some ((101, 3, .invokevirtual 188, 103, 0, 0, 1461), 5, 3, 1, 9, 1, 0, 0) := rfl
theorem bu_89_104 : mm_at mt_P 89 104 = some ((104, 1, .iconst 1, 0, 0, 0, 0), 5, 3, 1, 9, 1, 0, 0) := rfl
theorem bu_89_105 : mm_at mt_P 89 105 = some ((105, 1, .ireturn, 0, 0, 0, 0), 5, 3, 1, 9, 1, 0, 0) := rfl
theorem bu_103_0 : mm_at mt_P 103 0 = some ((0, 1, .aload_n 0, 0, 0, 0, 0), 6, 4, 1, 9, 0, 0, 0) := rfl
theorem bu_103_1 : mm_at mt_P 103 1 = some ((1, 3, .getfield 20, 9, 5, 0, 1222), 6, 4, 1, 9, 0, 0, 0) := rfl
theorem bu_103_4 : mm_at mt_P 103 4 = some ((4, 1, .aload_n 0, 0, 0, 0, 0), 6, 4, 1, 9, 0, 0, 0) := rfl
theorem bu_103_5 : mm_at mt_P 103 5 = some ((5, 3, .getfield 181, 9, 10, 0, 1227), 6, 4, 1, 9, 0, 0, 0) := rfl
theorem bu_103_8 : mm_at mt_P 103 8 = some ((8, 1, .iload_n 1, 0, 0, 0, 0), 6, 4, 1, 9, 0, 0, 0) := rfl
theorem bu_103_9 : mm_at mt_P 103 9 = some ((9, 1, .iastore, 0, 0, 0, 0), 6, 4, 1, 9, 0, 0, 0) := rfl
theorem bu_103_10 : mm_at mt_P 103 10 = some ((10, 1, .aload_n 0, 0, 0, 0, 0), 6, 4, 1, 9, 0, 0, 0) := rfl
theorem bu_103_11 : mm_at mt_P 103 11 = some ((11, 3, .getfield 24, 9, 6, 0, 1223), 6, 4, 1, 9, 0, 0, 0) := rfl
theorem bu_103_14 : mm_at mt_P 103 14 = some ((14, 1, .aload_n 0, 0, 0, 0, 0), 6, 4, 1, 9, 0, 0, 0) := rfl
theorem bu_103_15 : mm_at mt_P 103 15 = some ((15, 3, .getfield 181, 9, 10, 0, 1227), 6, 4, 1, 9, 0, 0, 0) := rfl
theorem bu_103_18 : mm_at mt_P 103 18 = some ((18, 1, .iload_n 2, 0, 0, 0, 0), 6, 4, 1, 9, 0, 0, 0) := rfl
theorem bu_103_19 : mm_at mt_P 103 19 = some ((19, 1, .iastore, 0, 0, 0, 0), 6, 4, 1, 9, 0, 0, 0) := rfl
theorem bu_103_20 : mm_at mt_P 103 20 = some ((20, 1, .aload_n 0, 0, 0, 0, 0), 6, 4, 1, 9, 0, 0, 0) := rfl
theorem bu_103_21 : mm_at mt_P 103 21 = some ((21, 3, .getfield 27, 9, 7, 0, 1224), 6, 4, 1, 9, 0, 0, 0) := rfl
theorem bu_103_24 : mm_at mt_P 103 24 = some ((24, 1, .aload_n 0, 0, 0, 0, 0), 6, 4, 1, 9, 0, 0, 0) := rfl
theorem bu_103_25 : mm_at mt_P 103 25 = some ((25, 3, .getfield 181, 9, 10, 0, 1227), 6, 4, 1, 9, 0, 0, 0) := rfl
theorem bu_103_28 : mm_at mt_P 103 28 = some ((28, 1, .iload_n 3, 0, 0, 0, 0), 6, 4, 1, 9, 0, 0, 0) := rfl
theorem bu_103_29 : mm_at mt_P 103 29 = some ((29, 1, .iastore, 0, 0, 0, 0), 6, 4, 1, 9, 0, 0, 0) := rfl
theorem bu_103_30 : mm_at mt_P 103 30 = some ((30, 1, .aload_n 0, 0, 0, 0, 0), 6, 4, 1, 9, 0, 0, 0) := rfl
theorem bu_103_31 : mm_at mt_P 103 31 = some ((31, 3, .getfield 30, 9, 8, 0, 1225), 6, 4, 1, 9, 0, 0, 0) := rfl
theorem bu_103_34 : mm_at mt_P 103 34 = some ((34, 1, .aload_n 0, 0, 0, 0, 0), 6, 4, 1, 9, 0, 0, 0) := rfl
theorem bu_103_35 : mm_at mt_P 103 35 = some ((35, 3, .getfield 181, 9, 10, 0, 1227), 6, 4, 1, 9, 0, 0, 0) := rfl
theorem bu_103_38 : mm_at mt_P 103 38 = some ((38, 2, .lload 4, 0, 0, 0, 0), 6, 4, 1, 9, 0, 0, 0) := rfl
theorem bu_103_40 : mm_at mt_P 103 40 = some ((40, 1, .lastore, 0, 0, 0, 0), 6, 4, 1, 9, 0, 0, 0) := rfl
theorem bu_103_41 : mm_at mt_P 103 41 = some ((41, 1, .aload_n 0, 0, 0, 0, 0), 6, 4, 1, 9, 0, 0, 0) := rfl
theorem bu_103_42 : mm_at mt_P 103 42 = some ((42, 1, .dup, 0, 0, 0, 0), 6, 4, 1, 9, 0, 0, 0) := rfl
theorem bu_103_43 : mm_at mt_P 103 43 = some ((43, 3, .getfield 181, 9, 10, 0, 1227), 6, 4, 1, 9, 0, 0, 0) := rfl
theorem bu_103_46 : mm_at mt_P 103 46 = some ((46, 1, .iconst 1, 0, 0, 0, 0), 6, 4, 1, 9, 0, 0, 0) := rfl
theorem bu_103_47 : mm_at mt_P 103 47 = some ((47, 1, .iadd, 0, 0, 0, 0), 6, 4, 1, 9, 0, 0, 0) := rfl
theorem bu_103_48 : mm_at mt_P 103 48 = some ((48, 3, .putfield 181, 9, 10, 0, 1227), 6, 4, 1, 9, 0, 0, 0) := rfl
theorem bu_103_51 : mm_at mt_P 103 51 = some ((51, 1, .return_, 0, 0, 0, 0), 6, 4, 1, 9, 0, 0, 0) := rfl
section RQB
variable {K V P : Nat → Int} {Q : Nat → Nat → Bool} {σ : py_S} {M : Nat} {ns : List Nat} {oo e : Nat} {E : mm_E} {PO : mm_C → Prop} {NN : Nat} {h0 h : mm_H} {s : Nat → Int32} {A : Nat → Nat → Int32} {L : Nat → Nat → Int64} {gs : List mm_F}
theorem rr_12 {i : Int32} {n : Nat} (hP : bm_P rz_T E h0 h s A L) (hn : (s 8804).toInt = (n : Int)) (b1 : 0 ≤ i.toInt) (kk : ∀ r : Int32, r.toInt = px_c (A 90) n i.toInt.toNat → bp_G E PO NN (mm_back (some (.int r)) gs h)) : bp_G E PO NN ((12, 0, [(0, .ref (E.1 + 88)), (1, .int i)], [], 0, 0) :: gs, h, none) := by
  refine bp_ld (pc' := 1) bu_12_0 rfl rfl (fun _ _ _ => rfl) rfl rfl ?_
  refine bp_ld (pc' := 2) bu_12_1 rfl rfl (fun _ _ _ => rfl) rfl rfl ?_
  refine bn_gi (pc' := 5) (K := 8804) bu_12_2 rfl rfl (fun _ _ _ => rfl) hP rz_o88 rz_i88_4 rfl rfl ?_
  refine bp_ic (pc' := 8) (pt := 21) bu_12_5 rfl rfl (fun k2919 => ?_) (fun k2919 => ?_)
  · replace k2919 : ((s 8804)).toInt ≤ (i).toInt := k2919
    refine bp_c (pc' := 22) (n := 0) bu_12_21 rfl rfl (fun _ _ _ => rfl) (by decide) (fun c2920 e2921 => ?_)
    refine bp_ri bu_12_22 ?_
    refine kk _ ?_
    rw [px_c_out (by omega)]
    omega
  · replace k2919 : ¬ (((s 8804)).toInt ≤ (i).toInt) := k2919
    refine bp_ld (pc' := 9) bu_12_8 rfl rfl (fun _ _ _ => rfl) rfl rfl ?_
    refine bn_gr (pc' := 12) (t := 90) bu_12_9 rfl rfl (fun _ _ _ => rfl) hP rz_o88 rz_r88_3 ?_
    refine bp_ld (pc' := 13) bu_12_12 rfl rfl (fun _ _ _ => rfl) rfl rfl ?_
    refine bn_iaF (pc' := 14) bu_12_13 rfl rfl (fun _ _ _ => rfl) hP rz_a90 (Or.inl rfl) (fun b2922 b2923 => ?_)
    refine bp_c (pc' := 17) (n := 255) bu_12_14 rfl rfl (fun _ _ _ => rfl) (by decide) (fun c2924 e2925 => ?_)
    refine bp_bin (pc' := 18) (v := (A 90 (i).toInt.toNat) &&& c2924) bu_12_17 rfl rfl (fun _ _ _ => rfl) rfl ?_
    refine bp_go (pc' := 22) bu_12_18 rfl ?_
    refine bp_ri bu_12_22 ?_
    have ec : c2924 = 255 := Int32.toInt_inj.mp (by rw [e2925]; rfl)
    refine kk _ ?_
    rw [ec, bp_and255]
    exact (px_c_in (by omega)).symm
theorem rr_50 {c : Int32} (kk : ∀ r : Int32, ((r.toInt = 1 ∧ 97 ≤ c.toInt ∧ c.toInt ≤ 122) ∨ (r.toInt = 0 ∧ ¬ (97 ≤ c.toInt ∧ c.toInt ≤ 122))) → bp_G E PO NN (mm_back (some (.int r)) gs h)) : bp_G E PO NN ((50, 0, [(0, .int c)], [], 0, 0) :: gs, h, none) := by
  refine bp_ld (pc' := 1) bu_50_0 rfl rfl (fun _ _ _ => rfl) rfl rfl ?_
  refine bp_c (pc' := 3) (n := 97) bu_50_1 rfl rfl (fun _ _ _ => rfl) (by decide) (fun c2926 e2927 => ?_)
  refine bp_ic (pc' := 6) (pt := 16) bu_50_3 rfl rfl (fun k2928 => ?_) (fun k2928 => ?_)
  · replace k2928 : (c).toInt < (c2926).toInt := k2928
    refine bp_c (pc' := 17) (n := 0) bu_50_16 rfl rfl (fun _ _ _ => rfl) (by decide) (fun c2929 e2930 => ?_)
    refine bp_rbF bu_50_17 (fun rb2931 => ?_)
    exact kk _ (by omega)
  · replace k2928 : ¬ ((c).toInt < (c2926).toInt) := k2928
    refine bp_ld (pc' := 7) bu_50_6 rfl rfl (fun _ _ _ => rfl) rfl rfl ?_
    refine bp_c (pc' := 9) (n := 122) bu_50_7 rfl rfl (fun _ _ _ => rfl) (by decide) (fun c2932 e2933 => ?_)
    refine bp_ic (pc' := 12) (pt := 16) bu_50_9 rfl rfl (fun k2934 => ?_) (fun k2934 => ?_)
    · replace k2934 : (c2932).toInt < (c).toInt := k2934
      refine bp_c (pc' := 17) (n := 0) bu_50_16 rfl rfl (fun _ _ _ => rfl) (by decide) (fun c2935 e2936 => ?_)
      refine bp_rbF bu_50_17 (fun rb2937 => ?_)
      exact kk _ (by omega)
    · replace k2934 : ¬ ((c2932).toInt < (c).toInt) := k2934
      refine bp_c (pc' := 13) (n := 1) bu_50_12 rfl rfl (fun _ _ _ => rfl) (by decide) (fun c2938 e2939 => ?_)
      refine bp_go (pc' := 17) bu_50_13 rfl ?_
      refine bp_rbF bu_50_17 (fun rb2940 => ?_)
      exact kk _ (by omega)
theorem rr_48 {c : Int32} (kk : ∀ r : Int32, ((r.toInt = 1 ∧ 48 ≤ c.toInt ∧ c.toInt ≤ 57) ∨ (r.toInt = 0 ∧ ¬ (48 ≤ c.toInt ∧ c.toInt ≤ 57))) → bp_G E PO NN (mm_back (some (.int r)) gs h)) : bp_G E PO NN ((48, 0, [(0, .int c)], [], 0, 0) :: gs, h, none) := by
  refine bp_ld (pc' := 1) bu_48_0 rfl rfl (fun _ _ _ => rfl) rfl rfl ?_
  refine bp_c (pc' := 3) (n := 48) bu_48_1 rfl rfl (fun _ _ _ => rfl) (by decide) (fun c2941 e2942 => ?_)
  refine bp_ic (pc' := 6) (pt := 16) bu_48_3 rfl rfl (fun k2943 => ?_) (fun k2943 => ?_)
  · replace k2943 : (c).toInt < (c2941).toInt := k2943
    refine bp_c (pc' := 17) (n := 0) bu_48_16 rfl rfl (fun _ _ _ => rfl) (by decide) (fun c2944 e2945 => ?_)
    refine bp_rbF bu_48_17 (fun rb2946 => ?_)
    exact kk _ (by omega)
  · replace k2943 : ¬ ((c).toInt < (c2941).toInt) := k2943
    refine bp_ld (pc' := 7) bu_48_6 rfl rfl (fun _ _ _ => rfl) rfl rfl ?_
    refine bp_c (pc' := 9) (n := 57) bu_48_7 rfl rfl (fun _ _ _ => rfl) (by decide) (fun c2947 e2948 => ?_)
    refine bp_ic (pc' := 12) (pt := 16) bu_48_9 rfl rfl (fun k2949 => ?_) (fun k2949 => ?_)
    · replace k2949 : (c2947).toInt < (c).toInt := k2949
      refine bp_c (pc' := 17) (n := 0) bu_48_16 rfl rfl (fun _ _ _ => rfl) (by decide) (fun c2950 e2951 => ?_)
      refine bp_rbF bu_48_17 (fun rb2952 => ?_)
      exact kk _ (by omega)
    · replace k2949 : ¬ ((c2947).toInt < (c).toInt) := k2949
      refine bp_c (pc' := 13) (n := 1) bu_48_12 rfl rfl (fun _ _ _ => rfl) (by decide) (fun c2953 e2954 => ?_)
      refine bp_go (pc' := 17) bu_48_13 rfl ?_
      refine bp_rbF bu_48_17 (fun rb2955 => ?_)
      exact kk _ (by omega)
theorem rr_2 {x : Int64} {c : Int32} (b0 : 0 ≤ x.toInt) (b1 : x.toInt < 282429536481) (hc : 97 ≤ c.toInt ∧ c.toInt ≤ 122) (kk : ∀ x' : Int64, x'.toInt = 27 * x.toInt + (c.toInt - 96) → bp_G E PO NN (mm_back (some (.long x')) gs h)) : bp_G E PO NN ((2, 0, [(0, .long x), (2, .int c)], [], 0, 0) :: gs, h, none) := by
  refine bp_ld (pc' := 1) bu_2_0 rfl rfl (fun _ _ _ => rfl) rfl rfl ?_
  refine bp_i0 (pc' := 4) (pt := 8) bu_2_1 rfl rfl (fun k2956 => ?_) (fun k2956 => ?_)
  · replace k2956 : (c).toInt ≠ 0 := k2956
    refine bn_cL (pc' := 11) (n := 27) bu_2_8 rfl rfl (fun _ _ _ => rfl) (by decide) (fun x2957 e2958 => ?_)
    refine bp_ld (pc' := 12) bu_2_11 rfl rfl (fun _ _ _ => rfl) rfl rfl ?_
    refine bn_lmul (pc' := 13) bu_2_12 rfl (fun x2959 e2960 => ?_)
    refine bp_ld (pc' := 14) bu_2_13 rfl rfl (fun _ _ _ => rfl) rfl rfl ?_
    refine bp_c (pc' := 16) (n := 97) bu_2_14 rfl rfl (fun _ _ _ => rfl) (by decide) (fun c2961 e2962 => ?_)
    refine bp_sub (pc' := 17) bu_2_16 rfl (by omega) (by omega) (fun v2963 e2964 => ?_)
    refine bp_c (pc' := 18) (n := 1) bu_2_17 rfl rfl (fun _ _ _ => rfl) (by decide) (fun c2965 e2966 => ?_)
    refine bp_add (pc' := 19) bu_2_18 rfl (by omega) (by omega) (fun v2967 e2968 => ?_)
    refine bn_i2l (pc' := 20) bu_2_19 rfl (fun x2969 e2970 => ?_)
    refine bn_ladd (pc' := 21) bu_2_20 rfl (fun x2971 e2972 => ?_)
    refine bp_rl bu_2_21 ?_
    exact kk _ (bp_app b0 b1 hc e2958 e2960 (by omega) e2972)
  · replace k2956 : ¬ ((c).toInt ≠ 0) := k2956
    refine bp_ld (pc' := 5) bu_2_4 rfl rfl (fun _ _ _ => rfl) rfl rfl ?_
    refine bp_go (pc' := 21) bu_2_5 rfl ?_
    refine bp_rl bu_2_21 ?_
    exfalso
    omega
theorem rr_103 {k w v : Int32} {x : Int64} {m : Nat} (hP : bm_P rz_T E h0 h s A L) (hm : (s 8810).toInt = (m : Int)) (hm2 : m ≤ 401) (kk : ∀ (h' : mm_H) (s' : Nat → Int32), bm_P rz_T E h0 h' s' (bh_up (bh_up (bh_up A 91 m (mm_nar 0 k)) 92 m (mm_nar 0 w)) 93 m (mm_nar 0 v)) (bh_upL L 94 m x) → (s' 8810).toInt = (m : Int) + 1 → (∀ j, j ≠ 8810 → s' j = s j) → bp_G E PO NN (mm_back none gs h')) : bp_G E PO NN ((103, 0, [(0, .ref (E.1 + 88)), (1, .int k), (2, .int w), (3, .int v), (4, .long x)], [], 0, 0) :: gs, h, none) := by
  have em : (s 8810).toInt.toNat = m := by omega
  refine bp_ld (pc' := 1) bu_103_0 rfl rfl (fun _ _ _ => rfl) rfl rfl ?_
  refine bn_gr (pc' := 4) (t := 91) bu_103_1 rfl rfl (fun _ _ _ => rfl) hP rz_o88 rz_r88_5 ?_
  refine bp_ld (pc' := 5) bu_103_4 rfl rfl (fun _ _ _ => rfl) rfl rfl ?_
  refine bn_gi (pc' := 8) (K := 8810) bu_103_5 rfl rfl (fun _ _ _ => rfl) hP rz_o88 rz_i88_10 rfl rfl ?_
  refine bp_ld (pc' := 9) bu_103_8 rfl rfl (fun _ _ _ => rfl) rfl rfl ?_
  refine bn_iasF (pc' := 10) bu_103_9 rfl rfl (fun _ _ _ => rfl) hP rz_a91 (Or.inl rfl) (fun b2975 b2976 h2973 hP2974 => ?_)
  refine bp_ld (pc' := 11) bu_103_10 rfl rfl (fun _ _ _ => rfl) rfl rfl ?_
  refine bn_gr (pc' := 14) (t := 92) bu_103_11 rfl rfl (fun _ _ _ => rfl) hP2974 rz_o88 rz_r88_6 ?_
  refine bp_ld (pc' := 15) bu_103_14 rfl rfl (fun _ _ _ => rfl) rfl rfl ?_
  refine bn_gi (pc' := 18) (K := 8810) bu_103_15 rfl rfl (fun _ _ _ => rfl) hP2974 rz_o88 rz_i88_10 rfl rfl ?_
  refine bp_ld (pc' := 19) bu_103_18 rfl rfl (fun _ _ _ => rfl) rfl rfl ?_
  refine bn_iasF (pc' := 20) bu_103_19 rfl rfl (fun _ _ _ => rfl) hP2974 rz_a92 (Or.inl rfl) (fun b2979 b2980 h2977 hP2978 => ?_)
  refine bp_ld (pc' := 21) bu_103_20 rfl rfl (fun _ _ _ => rfl) rfl rfl ?_
  refine bn_gr (pc' := 24) (t := 93) bu_103_21 rfl rfl (fun _ _ _ => rfl) hP2978 rz_o88 rz_r88_7 ?_
  refine bp_ld (pc' := 25) bu_103_24 rfl rfl (fun _ _ _ => rfl) rfl rfl ?_
  refine bn_gi (pc' := 28) (K := 8810) bu_103_25 rfl rfl (fun _ _ _ => rfl) hP2978 rz_o88 rz_i88_10 rfl rfl ?_
  refine bp_ld (pc' := 29) bu_103_28 rfl rfl (fun _ _ _ => rfl) rfl rfl ?_
  refine bn_iasF (pc' := 30) bu_103_29 rfl rfl (fun _ _ _ => rfl) hP2978 rz_a93 (Or.inl rfl) (fun b2983 b2984 h2981 hP2982 => ?_)
  refine bp_ld (pc' := 31) bu_103_30 rfl rfl (fun _ _ _ => rfl) rfl rfl ?_
  refine bn_gr (pc' := 34) (t := 94) bu_103_31 rfl rfl (fun _ _ _ => rfl) hP2982 rz_o88 rz_r88_8 ?_
  refine bp_ld (pc' := 35) bu_103_34 rfl rfl (fun _ _ _ => rfl) rfl rfl ?_
  refine bn_gi (pc' := 38) (K := 8810) bu_103_35 rfl rfl (fun _ _ _ => rfl) hP2982 rz_o88 rz_i88_10 rfl rfl ?_
  refine bp_ld (pc' := 40) bu_103_38 rfl rfl (fun _ _ _ => rfl) rfl rfl ?_
  refine bn_lasF (pc' := 41) bu_103_40 rfl rfl (fun _ _ _ => rfl) hP2982 rz_l94 (fun b2987 b2988 h2985 hP2986 => ?_)
  refine bp_ld (pc' := 42) bu_103_41 rfl rfl (fun _ _ _ => rfl) rfl rfl ?_
  refine bp_dup (pc' := 43) bu_103_42 rfl rfl ?_
  refine bn_gi (pc' := 46) (K := 8810) bu_103_43 rfl rfl (fun _ _ _ => rfl) hP2986 rz_o88 rz_i88_10 rfl rfl ?_
  refine bp_c (pc' := 47) (n := 1) bu_103_46 rfl rfl (fun _ _ _ => rfl) (by decide) (fun c2989 e2990 => ?_)
  refine bp_add (pc' := 48) bu_103_47 rfl (by omega) (by omega) (fun v2991 e2992 => ?_)
  refine bn_pf (pc' := 51) (K := 8810) bu_103_48 rfl rfl (fun _ _ _ => rfl) hP2986 rz_o88 rz_i88_10 rfl rfl (fun h2993 s2994 hP2995 e2996 f2997 => ?_)
  refine bp_rv bu_103_51 ?_
  have z8810 := congrArg Int32.toInt e2996
  have hPe := hP2995
  rw [em] at hPe
  exact kk _ _ hPe (by omega) f2997
set_option maxHeartbeats 4000000 in
theorem rr_89 {i c d : Int32} {m : Nat} (hP : bm_P rz_T E h0 h s A L) (hm : (s 8810).toInt = (m : Int)) (hm2 : m ≤ 401) (kk : ∀ (h' : mm_H) (s' : Nat → Int32) (k v : Int32) (x : Int64) (r : Int32), bm_P rz_T E h0 h' s' (bh_up (bh_up (bh_up A 91 m (mm_nar 0 k)) 92 m (mm_nar 0 i)) 93 m (mm_nar 0 v)) (bh_upL L 94 m x) → (s' 8810).toInt = (m : Int) + 1 → (∀ j, j ≠ 8810 → s' j = s j) → k.toInt = px_sg c.toInt → v.toInt = 0 → r.toInt = 1 → bp_G E PO NN (mm_back (some (.int r)) gs h')) : bp_G E PO NN ((89, 0, [(0, .ref (E.1 + 88)), (1, .int i), (2, .int c), (3, .int d)], [], 0, 0) :: gs, h, none) := by
  refine bp_ld (pc' := 1) bu_89_0 rfl rfl (fun _ _ _ => rfl) rfl rfl ?_
  refine bp_c (pc' := 3) (n := 59) bu_89_1 rfl rfl (fun _ _ _ => rfl) (by decide) (fun c2998 e2999 => ?_)
  refine bp_ic (pc' := 6) (pt := 10) bu_89_3 rfl rfl (fun k3000 => ?_) (fun k3000 => ?_)
  · replace k3000 : (c).toInt ≠ (c2998).toInt := k3000
    refine bp_ld (pc' := 11) bu_89_10 rfl rfl (fun _ _ _ => rfl) rfl rfl ?_
    refine bp_c (pc' := 13) (n := 61) bu_89_11 rfl rfl (fun _ _ _ => rfl) (by decide) (fun c3001 e3002 => ?_)
    refine bp_ic (pc' := 16) (pt := 20) bu_89_13 rfl rfl (fun k3003 => ?_) (fun k3003 => ?_)
    · replace k3003 : (c).toInt ≠ (c3001).toInt := k3003
      refine bp_ld (pc' := 21) bu_89_20 rfl rfl (fun _ _ _ => rfl) rfl rfl ?_
      refine bp_c (pc' := 23) (n := 40) bu_89_21 rfl rfl (fun _ _ _ => rfl) (by decide) (fun c3004 e3005 => ?_)
      refine bp_ic (pc' := 26) (pt := 31) bu_89_23 rfl rfl (fun k3006 => ?_) (fun k3006 => ?_)
      · replace k3006 : (c).toInt ≠ (c3004).toInt := k3006
        refine bp_ld (pc' := 32) bu_89_31 rfl rfl (fun _ _ _ => rfl) rfl rfl ?_
        refine bp_c (pc' := 34) (n := 41) bu_89_32 rfl rfl (fun _ _ _ => rfl) (by decide) (fun c3007 e3008 => ?_)
        refine bp_ic (pc' := 37) (pt := 42) bu_89_34 rfl rfl (fun k3009 => ?_) (fun k3009 => ?_)
        · replace k3009 : (c).toInt ≠ (c3007).toInt := k3009
          refine bp_c (pc' := 43) (n := 3) bu_89_42 rfl rfl (fun _ _ _ => rfl) (by decide) (fun c3010 e3011 => ?_)
          refine bp_st (pc' := 45) bu_89_43 rfl rfl (fun _ _ _ => rfl) rfl (by decide) (by decide) (fun lv3012 F3013 g3014 => ?_)
          have g3015 := F3013 0 (.ref (E.1 + 88)) rfl (by decide) (Or.inl rfl)
          have g3016 := F3013 1 (.int i) rfl (by decide) (Or.inl rfl)
          have g3017 := F3013 2 (.int c) rfl (by decide) (Or.inl rfl)
          have g3018 := F3013 3 (.int d) rfl (by decide) (Or.inl rfl)
          refine bp_ld (pc' := 46) bu_89_45 rfl rfl (fun _ _ _ => rfl) g3017 rfl ?_
          refine bp_c (pc' := 48) (n := 43) bu_89_46 rfl rfl (fun _ _ _ => rfl) (by decide) (fun c3019 e3020 => ?_)
          refine bp_ic (pc' := 51) (pt := 55) bu_89_48 rfl rfl (fun k3021 => ?_) (fun k3021 => ?_)
          · replace k3021 : (c).toInt ≠ (c3019).toInt := k3021
            refine bp_ld (pc' := 56) bu_89_55 rfl rfl (fun _ _ _ => rfl) g3017 rfl ?_
            refine bp_c (pc' := 58) (n := 45) bu_89_56 rfl rfl (fun _ _ _ => rfl) (by decide) (fun c3022 e3023 => ?_)
            refine bp_ic (pc' := 61) (pt := 65) bu_89_58 rfl rfl (fun k3024 => ?_) (fun k3024 => ?_)
            · replace k3024 : (c).toInt ≠ (c3022).toInt := k3024
              refine bp_ld (pc' := 66) bu_89_65 rfl rfl (fun _ _ _ => rfl) g3017 rfl ?_
              refine bp_c (pc' := 68) (n := 42) bu_89_66 rfl rfl (fun _ _ _ => rfl) (by decide) (fun c3025 e3026 => ?_)
              refine bp_ic (pc' := 71) (pt := 75) bu_89_68 rfl rfl (fun k3027 => ?_) (fun k3027 => ?_)
              · replace k3027 : (c).toInt ≠ (c3025).toInt := k3027
                refine bp_ld (pc' := 76) bu_89_75 rfl rfl (fun _ _ _ => rfl) g3017 rfl ?_
                refine bp_c (pc' := 78) (n := 47) bu_89_76 rfl rfl (fun _ _ _ => rfl) (by decide) (fun c3028 e3029 => ?_)
                refine bp_ic (pc' := 81) (pt := 85) bu_89_78 rfl rfl (fun k3030 => ?_) (fun k3030 => ?_)
                · replace k3030 : (c).toInt ≠ (c3028).toInt := k3030
                  refine bp_ld (pc' := 86) bu_89_85 rfl rfl (fun _ _ _ => rfl) g3017 rfl ?_
                  refine bp_c (pc' := 88) (n := 60) bu_89_86 rfl rfl (fun _ _ _ => rfl) (by decide) (fun c3031 e3032 => ?_)
                  refine bp_ic (pc' := 91) (pt := 95) bu_89_88 rfl rfl (fun k3033 => ?_) (fun k3033 => ?_)
                  · replace k3033 : (c).toInt ≠ (c3031).toInt := k3033
                    refine bp_ld (pc' := 96) bu_89_95 rfl rfl (fun _ _ _ => rfl) g3015 rfl ?_
                    refine bp_ld (pc' := 98) bu_89_96 rfl rfl (fun _ _ _ => rfl) g3014 rfl ?_
                    refine bp_ld (pc' := 99) bu_89_98 rfl rfl (fun _ _ _ => rfl) g3016 rfl ?_
                    refine bp_c (pc' := 100) (n := 0) bu_89_99 rfl rfl (fun _ _ _ => rfl) (by decide) (fun c3034 e3035 => ?_)
                    refine bn_cL (pc' := 101) (n := 0) bu_89_100 rfl rfl (fun _ _ _ => rfl) (by decide) (fun x3036 e3037 => ?_)
                    refine bn_cvF (pc' := 104) (st := []) (args := [.long x3036, .int c3034, .int i, .int c3010]) bu_89_101 rfl rfl rfl (by decide) hP rz_o88 (by decide) rfl (Nat.le_of_ble_eq_true rfl) (Nat.le_of_ble_eq_true rfl) ?_
                    refine rr_103 (k := c3010) (w := i) (v := c3034) (x := x3036) hP hm hm2 (fun h3038 s3039 hP3040 p3041 f3042 => ?_)
                    show bp_G E PO NN ((89, 104, lv3012, [], 0, 0) :: gs, h3038, none)
                    refine bp_c (pc' := 105) (n := 1) bu_89_104 rfl rfl (fun _ _ _ => rfl) (by decide) (fun c3043 e3044 => ?_)
                    refine bp_ri bu_89_105 ?_
                    exact kk _ _ _ _ _ _ hP3040 p3041 f3042 (by unfold px_sg; (repeat' split) <;> omega) (by omega) (by omega)
                  · replace k3033 : ¬ ((c).toInt ≠ (c3031).toInt) := k3033
                    refine bp_c (pc' := 93) (n := 13) bu_89_91 rfl rfl (fun _ _ _ => rfl) (by decide) (fun c3045 e3046 => ?_)
                    refine bp_st (pc' := 95) bu_89_93 rfl rfl (fun _ _ _ => rfl) rfl (by decide) (by decide) (fun lv3047 F3048 g3049 => ?_)
                    have g3050 := F3048 0 (.ref (E.1 + 88)) g3015 (by decide) (Or.inl rfl)
                    have g3051 := F3048 1 (.int i) g3016 (by decide) (Or.inl rfl)
                    have g3052 := F3048 2 (.int c) g3017 (by decide) (Or.inl rfl)
                    have g3053 := F3048 3 (.int d) g3018 (by decide) (Or.inl rfl)
                    refine bp_ld (pc' := 96) bu_89_95 rfl rfl (fun _ _ _ => rfl) g3050 rfl ?_
                    refine bp_ld (pc' := 98) bu_89_96 rfl rfl (fun _ _ _ => rfl) g3049 rfl ?_
                    refine bp_ld (pc' := 99) bu_89_98 rfl rfl (fun _ _ _ => rfl) g3051 rfl ?_
                    refine bp_c (pc' := 100) (n := 0) bu_89_99 rfl rfl (fun _ _ _ => rfl) (by decide) (fun c3054 e3055 => ?_)
                    refine bn_cL (pc' := 101) (n := 0) bu_89_100 rfl rfl (fun _ _ _ => rfl) (by decide) (fun x3056 e3057 => ?_)
                    refine bn_cvF (pc' := 104) (st := []) (args := [.long x3056, .int c3054, .int i, .int c3045]) bu_89_101 rfl rfl rfl (by decide) hP rz_o88 (by decide) rfl (Nat.le_of_ble_eq_true rfl) (Nat.le_of_ble_eq_true rfl) ?_
                    refine rr_103 (k := c3045) (w := i) (v := c3054) (x := x3056) hP hm hm2 (fun h3058 s3059 hP3060 p3061 f3062 => ?_)
                    show bp_G E PO NN ((89, 104, lv3047, [], 0, 0) :: gs, h3058, none)
                    refine bp_c (pc' := 105) (n := 1) bu_89_104 rfl rfl (fun _ _ _ => rfl) (by decide) (fun c3063 e3064 => ?_)
                    refine bp_ri bu_89_105 ?_
                    exact kk _ _ _ _ _ _ hP3060 p3061 f3062 (by unfold px_sg; (repeat' split) <;> omega) (by omega) (by omega)
                · replace k3030 : ¬ ((c).toInt ≠ (c3028).toInt) := k3030
                  refine bp_c (pc' := 83) (n := 15) bu_89_81 rfl rfl (fun _ _ _ => rfl) (by decide) (fun c3065 e3066 => ?_)
                  refine bp_st (pc' := 85) bu_89_83 rfl rfl (fun _ _ _ => rfl) rfl (by decide) (by decide) (fun lv3067 F3068 g3069 => ?_)
                  have g3070 := F3068 0 (.ref (E.1 + 88)) g3015 (by decide) (Or.inl rfl)
                  have g3071 := F3068 1 (.int i) g3016 (by decide) (Or.inl rfl)
                  have g3072 := F3068 2 (.int c) g3017 (by decide) (Or.inl rfl)
                  have g3073 := F3068 3 (.int d) g3018 (by decide) (Or.inl rfl)
                  refine bp_ld (pc' := 86) bu_89_85 rfl rfl (fun _ _ _ => rfl) g3072 rfl ?_
                  refine bp_c (pc' := 88) (n := 60) bu_89_86 rfl rfl (fun _ _ _ => rfl) (by decide) (fun c3074 e3075 => ?_)
                  refine bp_ic (pc' := 91) (pt := 95) bu_89_88 rfl rfl (fun k3076 => ?_) (fun k3076 => ?_)
                  · replace k3076 : (c).toInt ≠ (c3074).toInt := k3076
                    refine bp_ld (pc' := 96) bu_89_95 rfl rfl (fun _ _ _ => rfl) g3070 rfl ?_
                    refine bp_ld (pc' := 98) bu_89_96 rfl rfl (fun _ _ _ => rfl) g3069 rfl ?_
                    refine bp_ld (pc' := 99) bu_89_98 rfl rfl (fun _ _ _ => rfl) g3071 rfl ?_
                    refine bp_c (pc' := 100) (n := 0) bu_89_99 rfl rfl (fun _ _ _ => rfl) (by decide) (fun c3077 e3078 => ?_)
                    refine bn_cL (pc' := 101) (n := 0) bu_89_100 rfl rfl (fun _ _ _ => rfl) (by decide) (fun x3079 e3080 => ?_)
                    refine bn_cvF (pc' := 104) (st := []) (args := [.long x3079, .int c3077, .int i, .int c3065]) bu_89_101 rfl rfl rfl (by decide) hP rz_o88 (by decide) rfl (Nat.le_of_ble_eq_true rfl) (Nat.le_of_ble_eq_true rfl) ?_
                    refine rr_103 (k := c3065) (w := i) (v := c3077) (x := x3079) hP hm hm2 (fun h3081 s3082 hP3083 p3084 f3085 => ?_)
                    show bp_G E PO NN ((89, 104, lv3067, [], 0, 0) :: gs, h3081, none)
                    refine bp_c (pc' := 105) (n := 1) bu_89_104 rfl rfl (fun _ _ _ => rfl) (by decide) (fun c3086 e3087 => ?_)
                    refine bp_ri bu_89_105 ?_
                    exact kk _ _ _ _ _ _ hP3083 p3084 f3085 (by unfold px_sg; (repeat' split) <;> omega) (by omega) (by omega)
                  · replace k3076 : ¬ ((c).toInt ≠ (c3074).toInt) := k3076
                    omega
              · replace k3027 : ¬ ((c).toInt ≠ (c3025).toInt) := k3027
                refine bp_c (pc' := 73) (n := 10) bu_89_71 rfl rfl (fun _ _ _ => rfl) (by decide) (fun c3088 e3089 => ?_)
                refine bp_st (pc' := 75) bu_89_73 rfl rfl (fun _ _ _ => rfl) rfl (by decide) (by decide) (fun lv3090 F3091 g3092 => ?_)
                have g3093 := F3091 0 (.ref (E.1 + 88)) g3015 (by decide) (Or.inl rfl)
                have g3094 := F3091 1 (.int i) g3016 (by decide) (Or.inl rfl)
                have g3095 := F3091 2 (.int c) g3017 (by decide) (Or.inl rfl)
                have g3096 := F3091 3 (.int d) g3018 (by decide) (Or.inl rfl)
                refine bp_ld (pc' := 76) bu_89_75 rfl rfl (fun _ _ _ => rfl) g3095 rfl ?_
                refine bp_c (pc' := 78) (n := 47) bu_89_76 rfl rfl (fun _ _ _ => rfl) (by decide) (fun c3097 e3098 => ?_)
                refine bp_ic (pc' := 81) (pt := 85) bu_89_78 rfl rfl (fun k3099 => ?_) (fun k3099 => ?_)
                · replace k3099 : (c).toInt ≠ (c3097).toInt := k3099
                  refine bp_ld (pc' := 86) bu_89_85 rfl rfl (fun _ _ _ => rfl) g3095 rfl ?_
                  refine bp_c (pc' := 88) (n := 60) bu_89_86 rfl rfl (fun _ _ _ => rfl) (by decide) (fun c3100 e3101 => ?_)
                  refine bp_ic (pc' := 91) (pt := 95) bu_89_88 rfl rfl (fun k3102 => ?_) (fun k3102 => ?_)
                  · replace k3102 : (c).toInt ≠ (c3100).toInt := k3102
                    refine bp_ld (pc' := 96) bu_89_95 rfl rfl (fun _ _ _ => rfl) g3093 rfl ?_
                    refine bp_ld (pc' := 98) bu_89_96 rfl rfl (fun _ _ _ => rfl) g3092 rfl ?_
                    refine bp_ld (pc' := 99) bu_89_98 rfl rfl (fun _ _ _ => rfl) g3094 rfl ?_
                    refine bp_c (pc' := 100) (n := 0) bu_89_99 rfl rfl (fun _ _ _ => rfl) (by decide) (fun c3103 e3104 => ?_)
                    refine bn_cL (pc' := 101) (n := 0) bu_89_100 rfl rfl (fun _ _ _ => rfl) (by decide) (fun x3105 e3106 => ?_)
                    refine bn_cvF (pc' := 104) (st := []) (args := [.long x3105, .int c3103, .int i, .int c3088]) bu_89_101 rfl rfl rfl (by decide) hP rz_o88 (by decide) rfl (Nat.le_of_ble_eq_true rfl) (Nat.le_of_ble_eq_true rfl) ?_
                    refine rr_103 (k := c3088) (w := i) (v := c3103) (x := x3105) hP hm hm2 (fun h3107 s3108 hP3109 p3110 f3111 => ?_)
                    show bp_G E PO NN ((89, 104, lv3090, [], 0, 0) :: gs, h3107, none)
                    refine bp_c (pc' := 105) (n := 1) bu_89_104 rfl rfl (fun _ _ _ => rfl) (by decide) (fun c3112 e3113 => ?_)
                    refine bp_ri bu_89_105 ?_
                    exact kk _ _ _ _ _ _ hP3109 p3110 f3111 (by unfold px_sg; (repeat' split) <;> omega) (by omega) (by omega)
                  · replace k3102 : ¬ ((c).toInt ≠ (c3100).toInt) := k3102
                    omega
                · replace k3099 : ¬ ((c).toInt ≠ (c3097).toInt) := k3099
                  omega
            · replace k3024 : ¬ ((c).toInt ≠ (c3022).toInt) := k3024
              refine bp_c (pc' := 63) (n := 9) bu_89_61 rfl rfl (fun _ _ _ => rfl) (by decide) (fun c3114 e3115 => ?_)
              refine bp_st (pc' := 65) bu_89_63 rfl rfl (fun _ _ _ => rfl) rfl (by decide) (by decide) (fun lv3116 F3117 g3118 => ?_)
              have g3119 := F3117 0 (.ref (E.1 + 88)) g3015 (by decide) (Or.inl rfl)
              have g3120 := F3117 1 (.int i) g3016 (by decide) (Or.inl rfl)
              have g3121 := F3117 2 (.int c) g3017 (by decide) (Or.inl rfl)
              have g3122 := F3117 3 (.int d) g3018 (by decide) (Or.inl rfl)
              refine bp_ld (pc' := 66) bu_89_65 rfl rfl (fun _ _ _ => rfl) g3121 rfl ?_
              refine bp_c (pc' := 68) (n := 42) bu_89_66 rfl rfl (fun _ _ _ => rfl) (by decide) (fun c3123 e3124 => ?_)
              refine bp_ic (pc' := 71) (pt := 75) bu_89_68 rfl rfl (fun k3125 => ?_) (fun k3125 => ?_)
              · replace k3125 : (c).toInt ≠ (c3123).toInt := k3125
                refine bp_ld (pc' := 76) bu_89_75 rfl rfl (fun _ _ _ => rfl) g3121 rfl ?_
                refine bp_c (pc' := 78) (n := 47) bu_89_76 rfl rfl (fun _ _ _ => rfl) (by decide) (fun c3126 e3127 => ?_)
                refine bp_ic (pc' := 81) (pt := 85) bu_89_78 rfl rfl (fun k3128 => ?_) (fun k3128 => ?_)
                · replace k3128 : (c).toInt ≠ (c3126).toInt := k3128
                  refine bp_ld (pc' := 86) bu_89_85 rfl rfl (fun _ _ _ => rfl) g3121 rfl ?_
                  refine bp_c (pc' := 88) (n := 60) bu_89_86 rfl rfl (fun _ _ _ => rfl) (by decide) (fun c3129 e3130 => ?_)
                  refine bp_ic (pc' := 91) (pt := 95) bu_89_88 rfl rfl (fun k3131 => ?_) (fun k3131 => ?_)
                  · replace k3131 : (c).toInt ≠ (c3129).toInt := k3131
                    refine bp_ld (pc' := 96) bu_89_95 rfl rfl (fun _ _ _ => rfl) g3119 rfl ?_
                    refine bp_ld (pc' := 98) bu_89_96 rfl rfl (fun _ _ _ => rfl) g3118 rfl ?_
                    refine bp_ld (pc' := 99) bu_89_98 rfl rfl (fun _ _ _ => rfl) g3120 rfl ?_
                    refine bp_c (pc' := 100) (n := 0) bu_89_99 rfl rfl (fun _ _ _ => rfl) (by decide) (fun c3132 e3133 => ?_)
                    refine bn_cL (pc' := 101) (n := 0) bu_89_100 rfl rfl (fun _ _ _ => rfl) (by decide) (fun x3134 e3135 => ?_)
                    refine bn_cvF (pc' := 104) (st := []) (args := [.long x3134, .int c3132, .int i, .int c3114]) bu_89_101 rfl rfl rfl (by decide) hP rz_o88 (by decide) rfl (Nat.le_of_ble_eq_true rfl) (Nat.le_of_ble_eq_true rfl) ?_
                    refine rr_103 (k := c3114) (w := i) (v := c3132) (x := x3134) hP hm hm2 (fun h3136 s3137 hP3138 p3139 f3140 => ?_)
                    show bp_G E PO NN ((89, 104, lv3116, [], 0, 0) :: gs, h3136, none)
                    refine bp_c (pc' := 105) (n := 1) bu_89_104 rfl rfl (fun _ _ _ => rfl) (by decide) (fun c3141 e3142 => ?_)
                    refine bp_ri bu_89_105 ?_
                    exact kk _ _ _ _ _ _ hP3138 p3139 f3140 (by unfold px_sg; (repeat' split) <;> omega) (by omega) (by omega)
                  · replace k3131 : ¬ ((c).toInt ≠ (c3129).toInt) := k3131
                    omega
                · replace k3128 : ¬ ((c).toInt ≠ (c3126).toInt) := k3128
                  omega
              · replace k3125 : ¬ ((c).toInt ≠ (c3123).toInt) := k3125
                omega
          · replace k3021 : ¬ ((c).toInt ≠ (c3019).toInt) := k3021
            refine bp_c (pc' := 53) (n := 8) bu_89_51 rfl rfl (fun _ _ _ => rfl) (by decide) (fun c3143 e3144 => ?_)
            refine bp_st (pc' := 55) bu_89_53 rfl rfl (fun _ _ _ => rfl) rfl (by decide) (by decide) (fun lv3145 F3146 g3147 => ?_)
            have g3148 := F3146 0 (.ref (E.1 + 88)) g3015 (by decide) (Or.inl rfl)
            have g3149 := F3146 1 (.int i) g3016 (by decide) (Or.inl rfl)
            have g3150 := F3146 2 (.int c) g3017 (by decide) (Or.inl rfl)
            have g3151 := F3146 3 (.int d) g3018 (by decide) (Or.inl rfl)
            refine bp_ld (pc' := 56) bu_89_55 rfl rfl (fun _ _ _ => rfl) g3150 rfl ?_
            refine bp_c (pc' := 58) (n := 45) bu_89_56 rfl rfl (fun _ _ _ => rfl) (by decide) (fun c3152 e3153 => ?_)
            refine bp_ic (pc' := 61) (pt := 65) bu_89_58 rfl rfl (fun k3154 => ?_) (fun k3154 => ?_)
            · replace k3154 : (c).toInt ≠ (c3152).toInt := k3154
              refine bp_ld (pc' := 66) bu_89_65 rfl rfl (fun _ _ _ => rfl) g3150 rfl ?_
              refine bp_c (pc' := 68) (n := 42) bu_89_66 rfl rfl (fun _ _ _ => rfl) (by decide) (fun c3155 e3156 => ?_)
              refine bp_ic (pc' := 71) (pt := 75) bu_89_68 rfl rfl (fun k3157 => ?_) (fun k3157 => ?_)
              · replace k3157 : (c).toInt ≠ (c3155).toInt := k3157
                refine bp_ld (pc' := 76) bu_89_75 rfl rfl (fun _ _ _ => rfl) g3150 rfl ?_
                refine bp_c (pc' := 78) (n := 47) bu_89_76 rfl rfl (fun _ _ _ => rfl) (by decide) (fun c3158 e3159 => ?_)
                refine bp_ic (pc' := 81) (pt := 85) bu_89_78 rfl rfl (fun k3160 => ?_) (fun k3160 => ?_)
                · replace k3160 : (c).toInt ≠ (c3158).toInt := k3160
                  refine bp_ld (pc' := 86) bu_89_85 rfl rfl (fun _ _ _ => rfl) g3150 rfl ?_
                  refine bp_c (pc' := 88) (n := 60) bu_89_86 rfl rfl (fun _ _ _ => rfl) (by decide) (fun c3161 e3162 => ?_)
                  refine bp_ic (pc' := 91) (pt := 95) bu_89_88 rfl rfl (fun k3163 => ?_) (fun k3163 => ?_)
                  · replace k3163 : (c).toInt ≠ (c3161).toInt := k3163
                    refine bp_ld (pc' := 96) bu_89_95 rfl rfl (fun _ _ _ => rfl) g3148 rfl ?_
                    refine bp_ld (pc' := 98) bu_89_96 rfl rfl (fun _ _ _ => rfl) g3147 rfl ?_
                    refine bp_ld (pc' := 99) bu_89_98 rfl rfl (fun _ _ _ => rfl) g3149 rfl ?_
                    refine bp_c (pc' := 100) (n := 0) bu_89_99 rfl rfl (fun _ _ _ => rfl) (by decide) (fun c3164 e3165 => ?_)
                    refine bn_cL (pc' := 101) (n := 0) bu_89_100 rfl rfl (fun _ _ _ => rfl) (by decide) (fun x3166 e3167 => ?_)
                    refine bn_cvF (pc' := 104) (st := []) (args := [.long x3166, .int c3164, .int i, .int c3143]) bu_89_101 rfl rfl rfl (by decide) hP rz_o88 (by decide) rfl (Nat.le_of_ble_eq_true rfl) (Nat.le_of_ble_eq_true rfl) ?_
                    refine rr_103 (k := c3143) (w := i) (v := c3164) (x := x3166) hP hm hm2 (fun h3168 s3169 hP3170 p3171 f3172 => ?_)
                    show bp_G E PO NN ((89, 104, lv3145, [], 0, 0) :: gs, h3168, none)
                    refine bp_c (pc' := 105) (n := 1) bu_89_104 rfl rfl (fun _ _ _ => rfl) (by decide) (fun c3173 e3174 => ?_)
                    refine bp_ri bu_89_105 ?_
                    exact kk _ _ _ _ _ _ hP3170 p3171 f3172 (by unfold px_sg; (repeat' split) <;> omega) (by omega) (by omega)
                  · replace k3163 : ¬ ((c).toInt ≠ (c3161).toInt) := k3163
                    omega
                · replace k3160 : ¬ ((c).toInt ≠ (c3158).toInt) := k3160
                  omega
              · replace k3157 : ¬ ((c).toInt ≠ (c3155).toInt) := k3157
                omega
            · replace k3154 : ¬ ((c).toInt ≠ (c3152).toInt) := k3154
              omega
        · replace k3009 : ¬ ((c).toInt ≠ (c3007).toInt) := k3009
          refine bp_c (pc' := 39) (n := 7) bu_89_37 rfl rfl (fun _ _ _ => rfl) (by decide) (fun c3175 e3176 => ?_)
          refine bp_go (pc' := 43) bu_89_39 rfl ?_
          refine bp_st (pc' := 45) bu_89_43 rfl rfl (fun _ _ _ => rfl) rfl (by decide) (by decide) (fun lv3177 F3178 g3179 => ?_)
          have g3180 := F3178 0 (.ref (E.1 + 88)) rfl (by decide) (Or.inl rfl)
          have g3181 := F3178 1 (.int i) rfl (by decide) (Or.inl rfl)
          have g3182 := F3178 2 (.int c) rfl (by decide) (Or.inl rfl)
          have g3183 := F3178 3 (.int d) rfl (by decide) (Or.inl rfl)
          refine bp_ld (pc' := 46) bu_89_45 rfl rfl (fun _ _ _ => rfl) g3182 rfl ?_
          refine bp_c (pc' := 48) (n := 43) bu_89_46 rfl rfl (fun _ _ _ => rfl) (by decide) (fun c3184 e3185 => ?_)
          refine bp_ic (pc' := 51) (pt := 55) bu_89_48 rfl rfl (fun k3186 => ?_) (fun k3186 => ?_)
          · replace k3186 : (c).toInt ≠ (c3184).toInt := k3186
            refine bp_ld (pc' := 56) bu_89_55 rfl rfl (fun _ _ _ => rfl) g3182 rfl ?_
            refine bp_c (pc' := 58) (n := 45) bu_89_56 rfl rfl (fun _ _ _ => rfl) (by decide) (fun c3187 e3188 => ?_)
            refine bp_ic (pc' := 61) (pt := 65) bu_89_58 rfl rfl (fun k3189 => ?_) (fun k3189 => ?_)
            · replace k3189 : (c).toInt ≠ (c3187).toInt := k3189
              refine bp_ld (pc' := 66) bu_89_65 rfl rfl (fun _ _ _ => rfl) g3182 rfl ?_
              refine bp_c (pc' := 68) (n := 42) bu_89_66 rfl rfl (fun _ _ _ => rfl) (by decide) (fun c3190 e3191 => ?_)
              refine bp_ic (pc' := 71) (pt := 75) bu_89_68 rfl rfl (fun k3192 => ?_) (fun k3192 => ?_)
              · replace k3192 : (c).toInt ≠ (c3190).toInt := k3192
                refine bp_ld (pc' := 76) bu_89_75 rfl rfl (fun _ _ _ => rfl) g3182 rfl ?_
                refine bp_c (pc' := 78) (n := 47) bu_89_76 rfl rfl (fun _ _ _ => rfl) (by decide) (fun c3193 e3194 => ?_)
                refine bp_ic (pc' := 81) (pt := 85) bu_89_78 rfl rfl (fun k3195 => ?_) (fun k3195 => ?_)
                · replace k3195 : (c).toInt ≠ (c3193).toInt := k3195
                  refine bp_ld (pc' := 86) bu_89_85 rfl rfl (fun _ _ _ => rfl) g3182 rfl ?_
                  refine bp_c (pc' := 88) (n := 60) bu_89_86 rfl rfl (fun _ _ _ => rfl) (by decide) (fun c3196 e3197 => ?_)
                  refine bp_ic (pc' := 91) (pt := 95) bu_89_88 rfl rfl (fun k3198 => ?_) (fun k3198 => ?_)
                  · replace k3198 : (c).toInt ≠ (c3196).toInt := k3198
                    refine bp_ld (pc' := 96) bu_89_95 rfl rfl (fun _ _ _ => rfl) g3180 rfl ?_
                    refine bp_ld (pc' := 98) bu_89_96 rfl rfl (fun _ _ _ => rfl) g3179 rfl ?_
                    refine bp_ld (pc' := 99) bu_89_98 rfl rfl (fun _ _ _ => rfl) g3181 rfl ?_
                    refine bp_c (pc' := 100) (n := 0) bu_89_99 rfl rfl (fun _ _ _ => rfl) (by decide) (fun c3199 e3200 => ?_)
                    refine bn_cL (pc' := 101) (n := 0) bu_89_100 rfl rfl (fun _ _ _ => rfl) (by decide) (fun x3201 e3202 => ?_)
                    refine bn_cvF (pc' := 104) (st := []) (args := [.long x3201, .int c3199, .int i, .int c3175]) bu_89_101 rfl rfl rfl (by decide) hP rz_o88 (by decide) rfl (Nat.le_of_ble_eq_true rfl) (Nat.le_of_ble_eq_true rfl) ?_
                    refine rr_103 (k := c3175) (w := i) (v := c3199) (x := x3201) hP hm hm2 (fun h3203 s3204 hP3205 p3206 f3207 => ?_)
                    show bp_G E PO NN ((89, 104, lv3177, [], 0, 0) :: gs, h3203, none)
                    refine bp_c (pc' := 105) (n := 1) bu_89_104 rfl rfl (fun _ _ _ => rfl) (by decide) (fun c3208 e3209 => ?_)
                    refine bp_ri bu_89_105 ?_
                    exact kk _ _ _ _ _ _ hP3205 p3206 f3207 (by unfold px_sg; (repeat' split) <;> omega) (by omega) (by omega)
                  · replace k3198 : ¬ ((c).toInt ≠ (c3196).toInt) := k3198
                    omega
                · replace k3195 : ¬ ((c).toInt ≠ (c3193).toInt) := k3195
                  omega
              · replace k3192 : ¬ ((c).toInt ≠ (c3190).toInt) := k3192
                omega
            · replace k3189 : ¬ ((c).toInt ≠ (c3187).toInt) := k3189
              omega
          · replace k3186 : ¬ ((c).toInt ≠ (c3184).toInt) := k3186
            omega
      · replace k3006 : ¬ ((c).toInt ≠ (c3004).toInt) := k3006
        refine bp_c (pc' := 28) (n := 6) bu_89_26 rfl rfl (fun _ _ _ => rfl) (by decide) (fun c3210 e3211 => ?_)
        refine bp_go (pc' := 43) bu_89_28 rfl ?_
        refine bp_st (pc' := 45) bu_89_43 rfl rfl (fun _ _ _ => rfl) rfl (by decide) (by decide) (fun lv3212 F3213 g3214 => ?_)
        have g3215 := F3213 0 (.ref (E.1 + 88)) rfl (by decide) (Or.inl rfl)
        have g3216 := F3213 1 (.int i) rfl (by decide) (Or.inl rfl)
        have g3217 := F3213 2 (.int c) rfl (by decide) (Or.inl rfl)
        have g3218 := F3213 3 (.int d) rfl (by decide) (Or.inl rfl)
        refine bp_ld (pc' := 46) bu_89_45 rfl rfl (fun _ _ _ => rfl) g3217 rfl ?_
        refine bp_c (pc' := 48) (n := 43) bu_89_46 rfl rfl (fun _ _ _ => rfl) (by decide) (fun c3219 e3220 => ?_)
        refine bp_ic (pc' := 51) (pt := 55) bu_89_48 rfl rfl (fun k3221 => ?_) (fun k3221 => ?_)
        · replace k3221 : (c).toInt ≠ (c3219).toInt := k3221
          refine bp_ld (pc' := 56) bu_89_55 rfl rfl (fun _ _ _ => rfl) g3217 rfl ?_
          refine bp_c (pc' := 58) (n := 45) bu_89_56 rfl rfl (fun _ _ _ => rfl) (by decide) (fun c3222 e3223 => ?_)
          refine bp_ic (pc' := 61) (pt := 65) bu_89_58 rfl rfl (fun k3224 => ?_) (fun k3224 => ?_)
          · replace k3224 : (c).toInt ≠ (c3222).toInt := k3224
            refine bp_ld (pc' := 66) bu_89_65 rfl rfl (fun _ _ _ => rfl) g3217 rfl ?_
            refine bp_c (pc' := 68) (n := 42) bu_89_66 rfl rfl (fun _ _ _ => rfl) (by decide) (fun c3225 e3226 => ?_)
            refine bp_ic (pc' := 71) (pt := 75) bu_89_68 rfl rfl (fun k3227 => ?_) (fun k3227 => ?_)
            · replace k3227 : (c).toInt ≠ (c3225).toInt := k3227
              refine bp_ld (pc' := 76) bu_89_75 rfl rfl (fun _ _ _ => rfl) g3217 rfl ?_
              refine bp_c (pc' := 78) (n := 47) bu_89_76 rfl rfl (fun _ _ _ => rfl) (by decide) (fun c3228 e3229 => ?_)
              refine bp_ic (pc' := 81) (pt := 85) bu_89_78 rfl rfl (fun k3230 => ?_) (fun k3230 => ?_)
              · replace k3230 : (c).toInt ≠ (c3228).toInt := k3230
                refine bp_ld (pc' := 86) bu_89_85 rfl rfl (fun _ _ _ => rfl) g3217 rfl ?_
                refine bp_c (pc' := 88) (n := 60) bu_89_86 rfl rfl (fun _ _ _ => rfl) (by decide) (fun c3231 e3232 => ?_)
                refine bp_ic (pc' := 91) (pt := 95) bu_89_88 rfl rfl (fun k3233 => ?_) (fun k3233 => ?_)
                · replace k3233 : (c).toInt ≠ (c3231).toInt := k3233
                  refine bp_ld (pc' := 96) bu_89_95 rfl rfl (fun _ _ _ => rfl) g3215 rfl ?_
                  refine bp_ld (pc' := 98) bu_89_96 rfl rfl (fun _ _ _ => rfl) g3214 rfl ?_
                  refine bp_ld (pc' := 99) bu_89_98 rfl rfl (fun _ _ _ => rfl) g3216 rfl ?_
                  refine bp_c (pc' := 100) (n := 0) bu_89_99 rfl rfl (fun _ _ _ => rfl) (by decide) (fun c3234 e3235 => ?_)
                  refine bn_cL (pc' := 101) (n := 0) bu_89_100 rfl rfl (fun _ _ _ => rfl) (by decide) (fun x3236 e3237 => ?_)
                  refine bn_cvF (pc' := 104) (st := []) (args := [.long x3236, .int c3234, .int i, .int c3210]) bu_89_101 rfl rfl rfl (by decide) hP rz_o88 (by decide) rfl (Nat.le_of_ble_eq_true rfl) (Nat.le_of_ble_eq_true rfl) ?_
                  refine rr_103 (k := c3210) (w := i) (v := c3234) (x := x3236) hP hm hm2 (fun h3238 s3239 hP3240 p3241 f3242 => ?_)
                  show bp_G E PO NN ((89, 104, lv3212, [], 0, 0) :: gs, h3238, none)
                  refine bp_c (pc' := 105) (n := 1) bu_89_104 rfl rfl (fun _ _ _ => rfl) (by decide) (fun c3243 e3244 => ?_)
                  refine bp_ri bu_89_105 ?_
                  exact kk _ _ _ _ _ _ hP3240 p3241 f3242 (by unfold px_sg; (repeat' split) <;> omega) (by omega) (by omega)
                · replace k3233 : ¬ ((c).toInt ≠ (c3231).toInt) := k3233
                  omega
              · replace k3230 : ¬ ((c).toInt ≠ (c3228).toInt) := k3230
                omega
            · replace k3227 : ¬ ((c).toInt ≠ (c3225).toInt) := k3227
              omega
          · replace k3224 : ¬ ((c).toInt ≠ (c3222).toInt) := k3224
            omega
        · replace k3221 : ¬ ((c).toInt ≠ (c3219).toInt) := k3221
          omega
    · replace k3003 : ¬ ((c).toInt ≠ (c3001).toInt) := k3003
      refine bp_c (pc' := 17) (n := 5) bu_89_16 rfl rfl (fun _ _ _ => rfl) (by decide) (fun c3245 e3246 => ?_)
      refine bp_go (pc' := 43) bu_89_17 rfl ?_
      refine bp_st (pc' := 45) bu_89_43 rfl rfl (fun _ _ _ => rfl) rfl (by decide) (by decide) (fun lv3247 F3248 g3249 => ?_)
      have g3250 := F3248 0 (.ref (E.1 + 88)) rfl (by decide) (Or.inl rfl)
      have g3251 := F3248 1 (.int i) rfl (by decide) (Or.inl rfl)
      have g3252 := F3248 2 (.int c) rfl (by decide) (Or.inl rfl)
      have g3253 := F3248 3 (.int d) rfl (by decide) (Or.inl rfl)
      refine bp_ld (pc' := 46) bu_89_45 rfl rfl (fun _ _ _ => rfl) g3252 rfl ?_
      refine bp_c (pc' := 48) (n := 43) bu_89_46 rfl rfl (fun _ _ _ => rfl) (by decide) (fun c3254 e3255 => ?_)
      refine bp_ic (pc' := 51) (pt := 55) bu_89_48 rfl rfl (fun k3256 => ?_) (fun k3256 => ?_)
      · replace k3256 : (c).toInt ≠ (c3254).toInt := k3256
        refine bp_ld (pc' := 56) bu_89_55 rfl rfl (fun _ _ _ => rfl) g3252 rfl ?_
        refine bp_c (pc' := 58) (n := 45) bu_89_56 rfl rfl (fun _ _ _ => rfl) (by decide) (fun c3257 e3258 => ?_)
        refine bp_ic (pc' := 61) (pt := 65) bu_89_58 rfl rfl (fun k3259 => ?_) (fun k3259 => ?_)
        · replace k3259 : (c).toInt ≠ (c3257).toInt := k3259
          refine bp_ld (pc' := 66) bu_89_65 rfl rfl (fun _ _ _ => rfl) g3252 rfl ?_
          refine bp_c (pc' := 68) (n := 42) bu_89_66 rfl rfl (fun _ _ _ => rfl) (by decide) (fun c3260 e3261 => ?_)
          refine bp_ic (pc' := 71) (pt := 75) bu_89_68 rfl rfl (fun k3262 => ?_) (fun k3262 => ?_)
          · replace k3262 : (c).toInt ≠ (c3260).toInt := k3262
            refine bp_ld (pc' := 76) bu_89_75 rfl rfl (fun _ _ _ => rfl) g3252 rfl ?_
            refine bp_c (pc' := 78) (n := 47) bu_89_76 rfl rfl (fun _ _ _ => rfl) (by decide) (fun c3263 e3264 => ?_)
            refine bp_ic (pc' := 81) (pt := 85) bu_89_78 rfl rfl (fun k3265 => ?_) (fun k3265 => ?_)
            · replace k3265 : (c).toInt ≠ (c3263).toInt := k3265
              refine bp_ld (pc' := 86) bu_89_85 rfl rfl (fun _ _ _ => rfl) g3252 rfl ?_
              refine bp_c (pc' := 88) (n := 60) bu_89_86 rfl rfl (fun _ _ _ => rfl) (by decide) (fun c3266 e3267 => ?_)
              refine bp_ic (pc' := 91) (pt := 95) bu_89_88 rfl rfl (fun k3268 => ?_) (fun k3268 => ?_)
              · replace k3268 : (c).toInt ≠ (c3266).toInt := k3268
                refine bp_ld (pc' := 96) bu_89_95 rfl rfl (fun _ _ _ => rfl) g3250 rfl ?_
                refine bp_ld (pc' := 98) bu_89_96 rfl rfl (fun _ _ _ => rfl) g3249 rfl ?_
                refine bp_ld (pc' := 99) bu_89_98 rfl rfl (fun _ _ _ => rfl) g3251 rfl ?_
                refine bp_c (pc' := 100) (n := 0) bu_89_99 rfl rfl (fun _ _ _ => rfl) (by decide) (fun c3269 e3270 => ?_)
                refine bn_cL (pc' := 101) (n := 0) bu_89_100 rfl rfl (fun _ _ _ => rfl) (by decide) (fun x3271 e3272 => ?_)
                refine bn_cvF (pc' := 104) (st := []) (args := [.long x3271, .int c3269, .int i, .int c3245]) bu_89_101 rfl rfl rfl (by decide) hP rz_o88 (by decide) rfl (Nat.le_of_ble_eq_true rfl) (Nat.le_of_ble_eq_true rfl) ?_
                refine rr_103 (k := c3245) (w := i) (v := c3269) (x := x3271) hP hm hm2 (fun h3273 s3274 hP3275 p3276 f3277 => ?_)
                show bp_G E PO NN ((89, 104, lv3247, [], 0, 0) :: gs, h3273, none)
                refine bp_c (pc' := 105) (n := 1) bu_89_104 rfl rfl (fun _ _ _ => rfl) (by decide) (fun c3278 e3279 => ?_)
                refine bp_ri bu_89_105 ?_
                exact kk _ _ _ _ _ _ hP3275 p3276 f3277 (by unfold px_sg; (repeat' split) <;> omega) (by omega) (by omega)
              · replace k3268 : ¬ ((c).toInt ≠ (c3266).toInt) := k3268
                omega
            · replace k3265 : ¬ ((c).toInt ≠ (c3263).toInt) := k3265
              omega
          · replace k3262 : ¬ ((c).toInt ≠ (c3260).toInt) := k3262
            omega
        · replace k3259 : ¬ ((c).toInt ≠ (c3257).toInt) := k3259
          omega
      · replace k3256 : ¬ ((c).toInt ≠ (c3254).toInt) := k3256
        omega
  · replace k3000 : ¬ ((c).toInt ≠ (c2998).toInt) := k3000
    refine bp_c (pc' := 7) (n := 4) bu_89_6 rfl rfl (fun _ _ _ => rfl) (by decide) (fun c3280 e3281 => ?_)
    refine bp_go (pc' := 43) bu_89_7 rfl ?_
    refine bp_st (pc' := 45) bu_89_43 rfl rfl (fun _ _ _ => rfl) rfl (by decide) (by decide) (fun lv3282 F3283 g3284 => ?_)
    have g3285 := F3283 0 (.ref (E.1 + 88)) rfl (by decide) (Or.inl rfl)
    have g3286 := F3283 1 (.int i) rfl (by decide) (Or.inl rfl)
    have g3287 := F3283 2 (.int c) rfl (by decide) (Or.inl rfl)
    have g3288 := F3283 3 (.int d) rfl (by decide) (Or.inl rfl)
    refine bp_ld (pc' := 46) bu_89_45 rfl rfl (fun _ _ _ => rfl) g3287 rfl ?_
    refine bp_c (pc' := 48) (n := 43) bu_89_46 rfl rfl (fun _ _ _ => rfl) (by decide) (fun c3289 e3290 => ?_)
    refine bp_ic (pc' := 51) (pt := 55) bu_89_48 rfl rfl (fun k3291 => ?_) (fun k3291 => ?_)
    · replace k3291 : (c).toInt ≠ (c3289).toInt := k3291
      refine bp_ld (pc' := 56) bu_89_55 rfl rfl (fun _ _ _ => rfl) g3287 rfl ?_
      refine bp_c (pc' := 58) (n := 45) bu_89_56 rfl rfl (fun _ _ _ => rfl) (by decide) (fun c3292 e3293 => ?_)
      refine bp_ic (pc' := 61) (pt := 65) bu_89_58 rfl rfl (fun k3294 => ?_) (fun k3294 => ?_)
      · replace k3294 : (c).toInt ≠ (c3292).toInt := k3294
        refine bp_ld (pc' := 66) bu_89_65 rfl rfl (fun _ _ _ => rfl) g3287 rfl ?_
        refine bp_c (pc' := 68) (n := 42) bu_89_66 rfl rfl (fun _ _ _ => rfl) (by decide) (fun c3295 e3296 => ?_)
        refine bp_ic (pc' := 71) (pt := 75) bu_89_68 rfl rfl (fun k3297 => ?_) (fun k3297 => ?_)
        · replace k3297 : (c).toInt ≠ (c3295).toInt := k3297
          refine bp_ld (pc' := 76) bu_89_75 rfl rfl (fun _ _ _ => rfl) g3287 rfl ?_
          refine bp_c (pc' := 78) (n := 47) bu_89_76 rfl rfl (fun _ _ _ => rfl) (by decide) (fun c3298 e3299 => ?_)
          refine bp_ic (pc' := 81) (pt := 85) bu_89_78 rfl rfl (fun k3300 => ?_) (fun k3300 => ?_)
          · replace k3300 : (c).toInt ≠ (c3298).toInt := k3300
            refine bp_ld (pc' := 86) bu_89_85 rfl rfl (fun _ _ _ => rfl) g3287 rfl ?_
            refine bp_c (pc' := 88) (n := 60) bu_89_86 rfl rfl (fun _ _ _ => rfl) (by decide) (fun c3301 e3302 => ?_)
            refine bp_ic (pc' := 91) (pt := 95) bu_89_88 rfl rfl (fun k3303 => ?_) (fun k3303 => ?_)
            · replace k3303 : (c).toInt ≠ (c3301).toInt := k3303
              refine bp_ld (pc' := 96) bu_89_95 rfl rfl (fun _ _ _ => rfl) g3285 rfl ?_
              refine bp_ld (pc' := 98) bu_89_96 rfl rfl (fun _ _ _ => rfl) g3284 rfl ?_
              refine bp_ld (pc' := 99) bu_89_98 rfl rfl (fun _ _ _ => rfl) g3286 rfl ?_
              refine bp_c (pc' := 100) (n := 0) bu_89_99 rfl rfl (fun _ _ _ => rfl) (by decide) (fun c3304 e3305 => ?_)
              refine bn_cL (pc' := 101) (n := 0) bu_89_100 rfl rfl (fun _ _ _ => rfl) (by decide) (fun x3306 e3307 => ?_)
              refine bn_cvF (pc' := 104) (st := []) (args := [.long x3306, .int c3304, .int i, .int c3280]) bu_89_101 rfl rfl rfl (by decide) hP rz_o88 (by decide) rfl (Nat.le_of_ble_eq_true rfl) (Nat.le_of_ble_eq_true rfl) ?_
              refine rr_103 (k := c3280) (w := i) (v := c3304) (x := x3306) hP hm hm2 (fun h3308 s3309 hP3310 p3311 f3312 => ?_)
              show bp_G E PO NN ((89, 104, lv3282, [], 0, 0) :: gs, h3308, none)
              refine bp_c (pc' := 105) (n := 1) bu_89_104 rfl rfl (fun _ _ _ => rfl) (by decide) (fun c3313 e3314 => ?_)
              refine bp_ri bu_89_105 ?_
              exact kk _ _ _ _ _ _ hP3310 p3311 f3312 (by unfold px_sg; (repeat' split) <;> omega) (by omega) (by omega)
            · replace k3303 : ¬ ((c).toInt ≠ (c3301).toInt) := k3303
              omega
          · replace k3300 : ¬ ((c).toInt ≠ (c3298).toInt) := k3300
            omega
        · replace k3297 : ¬ ((c).toInt ≠ (c3295).toInt) := k3297
          omega
      · replace k3294 : ¬ ((c).toInt ≠ (c3292).toInt) := k3294
        omega
    · replace k3291 : ¬ ((c).toInt ≠ (c3289).toInt) := k3291
      omega
end RQB
