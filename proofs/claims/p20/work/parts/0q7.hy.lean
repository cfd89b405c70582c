/-! PARTIAL: handy of both sides (wip/p8/mkhy.py) -/
def kw_T : bm_T := ([(0, 8), (2, 6), (31, 0)], [(0, 3, 2), (0, 8, 31), (2, 1, 8), (31, 0, 2), (31, 1, 32)], [(2, 4), (31, 6)], [], [(8, 0, 24), (32, 0, 1440)], [])
theorem kw_o0 : (0, 8) ∈ kw_T.1 := by decide
theorem kw_o2 : (2, 6) ∈ kw_T.1 := by decide
theorem kw_o31 : (31, 0) ∈ kw_T.1 := by decide
theorem kw_r0_3 : (0, 3, 2) ∈ kw_T.2.1 := by decide
theorem kw_r0_8 : (0, 8, 31) ∈ kw_T.2.1 := by decide
theorem kw_r2_1 : (2, 1, 8) ∈ kw_T.2.1 := by decide
theorem kw_r31_0 : (31, 0, 2) ∈ kw_T.2.1 := by decide
theorem kw_r31_1 : (31, 1, 32) ∈ kw_T.2.1 := by decide
theorem kw_i2_4 : (2, 4) ∈ kw_T.2.2.1 := by decide
theorem kw_i31_6 : (31, 6) ∈ kw_T.2.2.1 := by decide
theorem kw_a8 : (8, 0, 24) ∈ kw_T.2.2.2.2.1 := by decide
theorem kw_a32 : (32, 0, 1440) ∈ kw_T.2.2.2.2.1 := by decide
theorem kw_W : bm_W kw_T := by unfold bm_W; decide
def nw_T : bm_T := ([(88, 9)], [(88, 22, 97), (88, 23, 98)], [(88, 18), (88, 63), (88, 64)], [], [(97, 0, 2), (98, 0, 48)], [])
theorem nw_o88 : (88, 9) ∈ nw_T.1 := by decide
theorem nw_r88_22 : (88, 22, 97) ∈ nw_T.2.1 := by decide
theorem nw_r88_23 : (88, 23, 98) ∈ nw_T.2.1 := by decide
theorem nw_i88_18 : (88, 18) ∈ nw_T.2.2.1 := by decide
theorem nw_i88_63 : (88, 63) ∈ nw_T.2.2.1 := by decide
theorem nw_i88_64 : (88, 64) ∈ nw_T.2.2.1 := by decide
theorem nw_a97 : (97, 0, 2) ∈ nw_T.2.2.2.2.1 := by decide
theorem nw_a98 : (98, 0, 48) ∈ nw_T.2.2.2.2.1 := by decide
theorem nw_W : bm_W nw_T := by unfold bm_W; decide
/-- the first of the n that is as great as any -/
def hy_P (f : Nat → Int) (n : Nat) (b : Int) : Prop := (n = 0 → b = -2) ∧ (0 < n → ∃ j : Nat, j < n ∧ b = (j : Int) ∧ (∀ i, i < n → f i ≤ f j) ∧ ∀ i, i < j → f i < f j)
theorem hy_0 {f : Nat → Int} {n : Nat} {b : Int} (hn : n = 0) (hb : b = -2) : hy_P f n b := ⟨fun _ => hb, fun h => absurd hn (by omega)⟩
theorem hy_m {f : Nat → Int} {n : Nat} {b : Int} (h : hy_P f n b) (hn : n = 0) : b = -2 := h.1 hn
theorem hy_b {f : Nat → Int} {n : Nat} {b : Int} (h : hy_P f n b) (hn : 0 < n) : 0 ≤ b ∧ b < (n : Int) := by
  obtain ⟨j, h1, h2, -⟩ := h.2 hn
  omega
theorem hy_s1 {f : Nat → Int} {n n' : Nat} {b b' : Int} (h : hy_P f n b) (e : n' = n + 1) (e2 : b' = (n : Int)) (g : n = 0 ∨ f b.toNat < f n) : hy_P f n' b' := by
  subst e
  subst e2
  refine ⟨fun q => absurd q (Nat.succ_ne_zero _), fun _ => ⟨n, Nat.lt_succ_self _, rfl, fun i hi => ?_, fun i hi => ?_⟩⟩
  · by_cases e : i = n
    · rw [e]
      exact Int.le_refl _
    · rcases g with g | g
      · omega
      · obtain ⟨j, h1, h2, h3, h4⟩ := h.2 (by omega)
        rw [h2, Int.toNat_natCast] at g
        have := h3 i (by omega)
        omega
  · rcases g with g | g
    · omega
    · obtain ⟨j, h1, h2, h3, h4⟩ := h.2 (by omega)
      rw [h2, Int.toNat_natCast] at g
      have := h3 i (by omega)
      omega
theorem hy_s2 {f : Nat → Int} {n n' : Nat} {b : Int} (h : hy_P f n b) (e : n' = n + 1) (hn : 0 < n) (g : f n ≤ f b.toNat) : hy_P f n' b := by
  subst e
  obtain ⟨j, h1, h2, h3, h4⟩ := h.2 hn
  rw [h2, Int.toNat_natCast] at g
  refine ⟨fun q => absurd q (Nat.succ_ne_zero _), fun _ => ⟨j, by omega, h2, fun i hi => ?_, h4⟩⟩
  by_cases e : i = n
  · rw [e]
    exact g
  · exact h3 i (by omega)
theorem hy_U {f f' : Nat → Int} {n : Nat} {b b' : Int} (e : ∀ i, i < n → f i = f' i) (h : hy_P f n b) (h' : hy_P f' n b') : b = b' := by
  by_cases hn : n = 0
  · rw [h.1 hn, h'.1 hn]
  · obtain ⟨j, h1, h2, h3, h4⟩ := h.2 (by omega)
    obtain ⟨j', k1, k2, k3, k4⟩ := h'.2 (by omega)
    rw [h2, k2]
    have a := h3 j' k1
    have b := k3 j h1
    rw [← e j' k1, ← e j h1] at b
    rcases Nat.lt_trichotomy j j' with q | q | q
    · have c := k4 j q
      rw [← e j' k1, ← e j h1] at c
      omega
    · rw [q]
    · have c := h4 j' q
      omega
/-- what handy answers -/
def kd_Phy (men : Int32) (f : Nat → Nat → Int32) (p r : Int32) : Prop := (¬ (0 ≤ p.toInt ∧ p.toInt < 4) ∧ r.toInt = -1) ∨ ((0 ≤ p.toInt ∧ p.toInt < 4) ∧ hy_P (fun i => (f i p.toInt.toNat).toInt) men.toInt.toNat r.toInt)
theorem kd_Uhy {men p r r' : Int32} {f f' : Nat → Nat → Int32} (e : ∀ i : Nat, (i : Int) < men.toInt → ∀ q, q < 4 → f i q = f' i q) (h : kd_Phy men f p r) (h' : kd_Phy men f' p r') : r = r' := by
  refine Int32.toInt_inj.mp ?_
  rcases h with ⟨a, b⟩ | ⟨a, b⟩ <;> rcases h' with ⟨c, d⟩ | ⟨c, d⟩
  · omega
  · exact absurd c a
  · exact absurd a c
  · exact hy_U (fun i hi => by show (f i _).toInt = (f' i _).toInt; rw [e i (by omega) _ (by omega)]) b d
theorem bu_38_0 : mm_at mt_P 38 0 = some ((0, 1, .iload_n 1, 0, 0, 0, 0), 4, 1, 1, 9, 1, 0, 0) := rfl
theorem bu_38_1 : mm_at mt_P 38 1 = some ((1, 1, .iconst 0, 0, 0, 0, 0), 4, 1, 1, 9, 1, 0, 0) := rfl
theorem bu_38_2 : mm_at mt_P 38 2 = some ((2, 1, .iconst 3, 0, 0, 0, 0), 4, 1, 1, 9, 1, 0, 0) := rfl
theorem bu_38_3 : mm_at mt_P 38 3 = some ((3, 3, .invokestatic 300, 43, 0, 0, 1543), 4, 1, 1, 9, 1, 0, 0) := rfl
theorem bu_38_6 : mm_at mt_P 38 6 = some ((6, 3, .ifCond .ne 5, 0, 0, 0, 0), 4, 1, 1, 9, 1, 0, 0) := rfl
theorem bu_38_9 : mm_at mt_P 38 9 = some ((9, 1, .iconst (-1), 0, 0, 0, 0), 4, 1, 1, 9, 1, 0, 0) := rfl
theorem bu_38_10 : mm_at mt_P 38 10 = some ((10, 1, .ireturn, 0, 0, 0, 0), 4, 1, 1, 9, 1, 0, 0) := rfl
theorem bu_38_11 : mm_at mt_P 38 11 = some ((11, 2, .bipush (-2), 0, 0, 0, 0), 4, 1, 1, 9, 1, 0, 0) := rfl
theorem bu_38_13 : mm_at mt_P 38 13 = some ((13, 1, .istore_n 2, 0, 0, 0, 0), 4, 1, 1, 9, 1, 0, 0) := rfl
theorem bu_38_14 : mm_at mt_P 38 14 = some ((14, 1, .iconst 0, 0, 0, 0, 0), 4, 1, 1, 9, 1, 0, 0) := rfl
theorem bu_38_15 : mm_at mt_P 38 15 = some ((15, 1, .istore_n 3, 0, 0, 0, 0), 4, 1, 1, 9, 1, 0, 0) := rfl
theorem bu_38_16 : mm_at mt_P 38 16 = some ((16, 1, .iload_n 3, 0, 0, 0, 0), 4, 1, 1, 9, 1, 0, 0) := rfl
theorem bu_38_17 : mm_at mt_P 38 17 = some ((17, 1, .aload_n 0, 0, 0, 0, 0), 4, 1, 1, 9, 1, 0, 0) := rfl
theorem bu_38_18 : mm_at mt_P 38 18 = some ((18, 3, .getfield 43, 9, 22, 0, 1239), 4, 1, 1, 9, 1, 0, 0) := rfl
theorem bu_38_21 : mm_at mt_P 38 21 = some ((21, 1, .aload_n 0, 0, 0, 0, 0), 4, 1, 1, 9, 1, 0, 0) := rfl
theorem bu_38_22 : mm_at mt_P 38 22 = some ((22, 3, .getfield 233, 9, 18, 0, 1235), 4, 1, 1, 9, 1, 0, 0) := rfl
theorem bu_38_25 : mm_at mt_P 38 25 = some ((25, 1, .iaload, 0, 0, 0, 0), 4, 1, 1, 9, 1, 0, 0) := rfl
theorem bu_38_26 : mm_at mt_P 38 26 = some ((26, 3, .if_icmp .ge 30, 0, 0, 0, 0), 4, 1, 1, 9, 1, 0, 0) := rfl
theorem bu_38_29 : mm_at mt_P 38 29 = some ((29, 1, .iload_n 2, 0, 0, 0, 0), 4, 1, 1, 9, 1, 0, 0) := rfl
theorem bu_38_30 : mm_at mt_P 38 30 = some ((30, 3, .ifCond .lt 18, 0, 0, 0, 0), 4, 1, 1, 9, 1, 0, 0) := rfl
theorem bu_38_33 : mm_at mt_P 38 33 = some ((33, 1, .aload_n 0, 0, 0, 0, 0), 4, 1, 1, 9, 1, 0, 0) := rfl
theorem bu_38_34 : mm_at mt_P 38 34 = some ((34, 1, .iload_n 3, 0, 0, 0, 0), 4, 1, 1, 9, 1, 0, 0) := rfl
theorem bu_38_35 : mm_at mt_P 38 35 = some ((35, 1, .iload_n 1, 0, 0, 0, 0), 4, 1, 1, 9, 1, 0, 0) := rfl
theorem bu_38_36 : mm_at mt_P 38 36 = some ((36, 3, .invokevirtual 346, 90, 0, 0, 1550), 4, 1, 1, 9, 1, 0, 0) := rfl
theorem bu_38_39 : mm_at mt_P 38 39 = some ((39, 1, .aload_n 0, 0, 0, 0, 0), 4, 1, 1, 9, 1, 0, 0) := rfl
theorem bu_38_40 : mm_at mt_P 38 40 = some ((40, 1, .iload_n 2, 0, 0, 0, 0), 4, 1, 1, 9, 1, 0, 0) := rfl
theorem bu_38_41 : mm_at mt_P 38 41 = some ((41, 1, .iload_n 1, 0, 0, 0, 0), 4, 1, 1, 9, 1, 0, 0) := rfl
theorem bu_38_42 : mm_at mt_P 38 42 = some ((42, 3, .invokevirtual 346, 90, 0, 0, 1550), 4, 1, 1, 9, 1, 0, 0) := rfl
theorem bu_38_45 : mm_at mt_P 38 45 = some ((45, 3, .if_icmp .le 5, 0, 0, 0, 0), 4, 1, 1, 9, 1, 0, 0) := rfl
theorem bu_38_48 : mm_at mt_P 38 48 = some ((48, 1, .iload_n 3, 0, 0, 0, 0), 4, 1, 1, 9, 1, 0, 0) := rfl
theorem bu_38_49 : mm_at mt_P 38 49 = some ((49, 1, .istore_n 2, 0, 0, 0, 0), 4, 1, 1, 9, 1, 0, 0) := rfl
theorem bu_38_50 : mm_at mt_P 38 50 = some ((50, 3, .iinc 3 1, 0, 0, 0, 0), 4, 1, 1, 9, 1, 0, 0) := rfl
theorem bu_38_53 : mm_at mt_P 38 53 = some ((53, 3, .goto (-37), 0, 0, 0, 0), 4, 1, 1, 9, 1, 0, 0) := rfl
theorem bu_38_56 : mm_at mt_P 38 56 = some ((56, 1, .iload_n 2, 0, 0, 0, 0), 4, 1, 1, 9, 1, 0, 0) := rfl
theorem bu_38_57 : mm_at mt_P 38 57 = some ((57, 1, .ireturn, 0, 0, 0, 0), 4, 1, 1, 9, 1, 0, 0) := rfl
theorem bu_90_0 : mm_at mt_P 90 0 = some ((0, 1, .iload_n 1, 0, 0, 0, 0), 3, 2, 1, 9, 1, 0, 0) := rfl
theorem bu_90_1 : mm_at mt_P 90 1 = some ((1, 3, .ifCond .ge 7, 0, 0, 0, 0), 3, 2, 1, 9, 1, 0, 0) := rfl
theorem bu_90_4 : mm_at mt_P 90 4 = some ((4, 1, .iconst 0, 0, 0, 0, 0), 3, 2, 1, 9, 1, 0, 0) := rfl
theorem bu_90_5 : mm_at mt_P 90 5 = some ((5, 3, .goto 21, 0, 0, 0, 0), 3, 2, 1, 9, 1, 0, 0) := rfl
theorem bu_90_8 : mm_at mt_P 90 8 = some ((8, 1, .aload_n 0, 0, 0, 0, 0), 3, 2, 1, 9, 1, 0, 0) := rfl
theorem bu_90_9 : mm_at mt_P 90 9 = some ((9, 3, .getfield 46, 9, 23, 0, 1240), 3, 2, 1, 9, 1, 0, 0) := rfl
theorem bu_90_12 : mm_at mt_P 90 12 = some ((12, 1, .iconst 4, 0, 0, 0, 0), 3, 2, 1, 9, 1, 0, 0) := rfl
theorem bu_90_13 : mm_at mt_P 90 13 = some ((13, 2, .bipush 6, 0, 0, 0, 0), 3, 2, 1, 9, 1, 0, 0) := rfl
theorem bu_90_15 : mm_at mt_P 90 15 = some ((15, 1, .aload_n 0, 0, 0, 0, 0), 3, 2, 1, 9, 1, 0, 0) := rfl
theorem bu_90_16 : mm_at mt_P 90 16 = some ((16, 3, .getfield 233, 9, 18, 0, 1235), 3, 2, 1, 9, 1, 0, 0) := rfl
theorem bu_90_19 : mm_at mt_P 90 19 = some ((19, 1, .imul, 0, 0, 0, 0), 3, 2, 1, 9, 1, 0, 0) := rfl
theorem bu_90_20 : mm_at mt_P 90 20 = some ((20, 1, .iload_n 1, 0, 0, 0, 0), 3, 2, 1, 9, 1, 0, 0) := rfl
theorem bu_90_21 : mm_at mt_P 90 21 = some ((21, 1, .iadd, 0, 0, 0, 0), 3, 2, 1, 9, 1, 0, 0) := rfl
theorem bu_90_22 : mm_at mt_P 90 22 = some ((22, 1, .imul, 0, 0, 0, 0), 3, 2, 1, 9, 1, 0, 0) := rfl
theorem bu_90_23 : mm_at mt_P 90 23 = some ((23, 1, .iload_n 2, 0, 0, 0, 0), 3, 2, 1, 9, 1, 0, 0) := rfl
theorem bu_90_24 : mm_at mt_P 90 24 = some ((24, 1, .iadd, 0, 0, 0, 0), 3, 2, 1, 9, 1, 0, 0) := rfl
theorem bu_90_25 : mm_at mt_P 90 25 = some ((25, 1, .iaload, 0, 0, 0, 0), 3, 2, 1, 9, 1, 0, 0) := rfl
theorem bu_90_26 : mm_at mt_P 90 26 = some ((26, 1, .ireturn, 0, 0, 0, 0), 3, 2, 1, 9, 1, 0, 0) := rfl
theorem bu_208_0 : mm_at mt_P 208 0 = some ((0, 1, .aload_n 0, 0, 0, 0, 0), 3, 2, 1, 6, 1, 0, 0) := rfl
theorem bu_208_1 : mm_at mt_P 208 1 = some ((1, 1, .iload_n 1, 0, 0, 0, 0), 3, 2, 1, 6, 1, 0, 0) := rfl
theorem bu_208_2 : mm_at mt_P 208 2 = some ((2, 3, .invokevirtual 65, 203, 0, 0, 770), 3, 2, 1, 6, 1, 0, 0) := rfl
theorem bu_208_5 : mm_at mt_P 208 5 = some ((5, 3, .ifCond .eq 23, 0, 0, 0, 0), 3, 2, 1, 6, 1, 0, 0) := rfl
theorem bu_208_8 : mm_at mt_P 208 8 = some ((8, 1, .iload_n 2, 0, 0, 0, 0), 3, 2, 1, 6, 1, 0, 0) := rfl
theorem bu_208_9 : mm_at mt_P 208 9 = some ((9, 3, .invokestatic 69, 239, 0, 0, 771), 3, 2, 1, 6, 1, 0, 0) := rfl
theorem bu_208_12 : mm_at mt_P 208 12 = some ((12, 3, .ifCond .eq 16, 0, 0, 0, 0), 3, 2, 1, 6, 1, 0, 0) := rfl
theorem bu_208_15 : mm_at mt_P 208 15 = some ((15, 1, .aload_n 0, 0, 0, 0, 0), 3, 2, 1, 6, 1, 0, 0) := rfl
theorem bu_208_16 : mm_at mt_P 208 16 = some ((16, 3, .getfield 18, 6, 1, 0, 182), 3, 2, 1, 6, 1, 0, 0) := rfl
theorem bu_208_19 : mm_at mt_P 208 19 = some ((19, 1, .iload_n 1, 0, 0, 0, 0), 3, 2, 1, 6, 1, 0, 0) := rfl
theorem bu_208_20 : mm_at mt_P 208 20 = some ((20, 1, .iconst 4, 0, 0, 0, 0), 3, 2, 1, 6, 1, 0, 0) := rfl
theorem bu_208_21 : mm_at mt_P 208 21 = some ((21, 1, .imul, 0, 0, 0, 0), 3, 2, 1, 6, 1, 0, 0) := rfl
theorem bu_208_22 : mm_at mt_P 208 22 = some ((22, 1, .iload_n 2, 0, 0, 0, 0), 3, 2, 1, 6, 1, 0, 0) := rfl
theorem bu_208_23 : mm_at mt_P 208 23 = some ((23, 1, .iadd, 0, 0, 0, 0), 3, 2, 1, 6, 1, 0, 0) := rfl
theorem bu_208_24 : mm_at mt_P 208 24 = some ((24, 1, .iaload, 0, 0, 0, 0), 3, 2, 1, 6, 1, 0, 0) := rfl
theorem bu_208_25 : mm_at mt_P 208 25 = some ((25, 3, .goto 4, 0, 0, 0, 0), 3, 2, 1, 6, 1, 0, 0) := rfl
theorem bu_208_28 : mm_at mt_P 208 28 = some ((28, 1, .iconst 0, 0, 0, 0, 0), 3, 2, 1, 6, 1, 0, 0) := rfl
theorem bu_208_29 : mm_at mt_P 208 29 = some ((29, 1, .ireturn, 0, 0, 0, 0), 3, 2, 1, 6, 1, 0, 0) := rfl
theorem bu_234_0 : mm_at mt_P 234 0 = some ((0, 1, .iload_n 1, 0, 0, 0, 0), 6, 1, 1, 8, 1, 0, 0) := rfl
theorem bu_234_1 : mm_at mt_P 234 1 = some ((1, 3, .invokestatic 120, 239, 0, 0, 786), 6, 1, 1, 8, 1, 0, 0) := rfl
theorem bu_234_4 : mm_at mt_P 234 4 = some ((4, 3, .ifCond .ne 5, 0, 0, 0, 0), 6, 1, 1, 8, 1, 0, 0) := rfl
theorem bu_234_7 : mm_at mt_P 234 7 = some ((7, 1, .iconst (-1), 0, 0, 0, 0), 6, 1, 1, 8, 1, 0, 0) := rfl
theorem bu_234_8 : mm_at mt_P 234 8 = some ((8, 1, .ireturn, 0, 0, 0, 0), 6, 1, 1, 8, 1, 0, 0) := rfl
theorem bu_234_9 : mm_at mt_P 234 9 = some ((9, 2, .bipush (-2), 0, 0, 0, 0), 6, 1, 1, 8, 1, 0, 0) := rfl
theorem bu_234_11 : mm_at mt_P 234 11 = some ((11, 1, .istore_n 2, 0, 0, 0, 0), 6, 1, 1, 8, 1, 0, 0) := rfl
theorem bu_234_12 : mm_at mt_P 234 12 = some ((12, 1, .iconst (-1), 0, 0, 0, 0), 6, 1, 1, 8, 1, 0, 0) := rfl
theorem bu_234_13 : mm_at mt_P 234 13 = some ((13, 1, .istore_n 3, 0, 0, 0, 0), 6, 1, 1, 8, 1, 0, 0) := rfl
theorem bu_234_14 : mm_at mt_P 234 14 = some ((14, 1, .iconst 0, 0, 0, 0, 0), 6, 1, 1, 8, 1, 0, 0) := rfl
theorem bu_234_15 : mm_at mt_P 234 15 = some ((15, 2, .istore 4, 0, 0, 0, 0), 6, 1, 1, 8, 1, 0, 0) := rfl
theorem bu_234_17 : mm_at mt_P 234 17 = some ((17, 2, .iload 4, 0, 0, 0, 0), 6, 1, 1, 8, 1, 0, 0) := rfl
theorem bu_234_19 : mm_at mt_P 234 19 = some ((19, 1, .aload_n 0, 0, 0, 0, 0), 6, 1, 1, 8, 1, 0, 0) := rfl
theorem bu_234_20 : mm_at mt_P 234 20 = some ((20, 3, .getfield 23, 8, 3, 0, 435), 6, 1, 1, 8, 1, 0, 0) := rfl
theorem bu_234_23 : mm_at mt_P 234 23 = some ((23, 3, .getfield 155, 6, 4, 0, 190), 6, 1, 1, 8, 1, 0, 0) := rfl
theorem bu_234_26 : mm_at mt_P 234 26 = some ((26, 3, .if_icmp .ge 33, 0, 0, 0, 0), 6, 1, 1, 8, 1, 0, 0) := rfl
theorem bu_234_29 : mm_at mt_P 234 29 = some ((29, 1, .aload_n 0, 0, 0, 0, 0), 6, 1, 1, 8, 1, 0, 0) := rfl
theorem bu_234_30 : mm_at mt_P 234 30 = some ((30, 3, .getfield 23, 8, 3, 0, 435), 6, 1, 1, 8, 1, 0, 0) := rfl
theorem bu_234_33 : mm_at mt_P 234 33 = some ((33, 2, .iload 4, 0, 0, 0, 0), 6, 1, 1, 8, 1, 0, 0) := rfl
theorem bu_234_35 : mm_at mt_P 234 35 = some ((35, 1, .iload_n 1, 0, 0, 0, 0), 6, 1, 1, 8, 1, 0, 0) := rfl
theorem bu_234_36 : mm_at mt_P 234 36 = some ((36, 3, .invokevirtual 106, 208, 0, 0, 766), 6, 1, 1, 8, 1, 0, 0) := rfl
theorem bu_234_39 : mm_at mt_P 234 39 = some ((39, 2, .istore 5, 0, 0, 0, 0), 6, 1, 1, 8, 1, 0, 0) := rfl
theorem bu_234_41 : mm_at mt_P 234 41 = some ((41, 2, .iload 5, 0, 0, 0, 0), 6, 1, 1, 8, 1, 0, 0) := rfl
theorem bu_234_43 : mm_at mt_P 234 43 = some ((43, 1, .iload_n 3, 0, 0, 0, 0), 6, 1, 1, 8, 1, 0, 0) := rfl
theorem bu_234_44 : mm_at mt_P 234 44 = some ((44, 3, .if_icmp .le 9, 0, 0, 0, 0), 6, 1, 1, 8, 1, 0, 0) := rfl
theorem bu_234_47 : mm_at mt_P 234 47 = some ((47, 2, .iload 4, 0, 0, 0, 0), 6, 1, 1, 8, 1, 0, 0) := rfl
theorem bu_234_49 : mm_at mt_P 234 49 = some ((49, 1, .istore_n 2, 0, 0, 0, 0), 6, 1, 1, 8, 1, 0, 0) := rfl
theorem bu_234_50 : mm_at mt_P 234 50 = some ((50, 2, .iload 5, 0, 0, 0, 0), 6, 1, 1, 8, 1, 0, 0) := rfl
theorem bu_234_52 : mm_at mt_P 234 52 = some ((52, 1, .istore_n 3, 0, 0, 0, 0), 6, 1, 1, 8, 1, 0, 0) := rfl
theorem bu_234_53 : mm_at mt_P 234 53 = some ((53, 3, .iinc 4 1, 0, 0, 0, 0), 6, 1, 1, 8, 1, 0, 0) := rfl
theorem bu_234_56 : mm_at mt_P 234 56 = some ((56, 3, .goto (-39), 0, 0, 0, 0), 6, 1, 1, 8, 1, 0, 0) := rfl
theorem bu_234_59 : mm_at mt_P 234 59 = some ((59, 1, .iload_n 2, 0, 0, 0, 0), 6, 1, 1, 8, 1, 0, 0) := rfl
theorem bu_234_60 : mm_at mt_P 234 60 = some ((60, 1, .ireturn, 0, 0, 0, 0), 6, 1, 1, 8, 1, 0, 0) := rfl
section HY
variable {E : mm_E} {PO : mm_C → Prop} {NN : Nat} {h0 h : mm_H} {s : Nat → Int32} {A : Nat → Nat → Int32} {L : Nat → Nat → Int64} {gs : List mm_F}
set_option maxHeartbeats 4000000 in
theorem hy_203 {a : Int32} (hP : bm_P kw_T E h0 h s A L) (kk : ∀ r : Int32, ((r.toInt = 1 ∧ 0 ≤ a.toInt ∧ a.toInt < (s 204).toInt) ∨ (r.toInt = 0 ∧ ¬ (0 ≤ a.toInt ∧ a.toInt < (s 204).toInt))) → bp_G E PO NN (mm_back (some (.int r)) gs h)) : bp_G E PO NN ((203, 0, [(0, .ref (E.1 + 2)), (1, .int a)], [], 0, 0) :: gs, h, none) := by
  refine bp_ld (pc' := 1) bu_203_0 rfl rfl (fun _ _ _ => rfl) rfl rfl ?_
  refine bp_i0 (pc' := 4) (pt := 16) bu_203_1 rfl rfl (fun k1 => ?_) (fun k1 => ?_)
  · replace k1 : (a).toInt < 0 := k1
    refine bp_c (pc' := 17) (n := 0) bu_203_16 rfl rfl (fun _ _ _ => rfl) (by decide) (fun c2 e3 => ?_)
    refine bp_rbF bu_203_17 (fun rb4 => ?_)
    exact kk _ (by omega)
  · replace k1 : ¬ ((a).toInt < 0) := k1
    refine bp_ld (pc' := 5) bu_203_4 rfl rfl (fun _ _ _ => rfl) rfl rfl ?_
    refine bp_ld (pc' := 6) bu_203_5 rfl rfl (fun _ _ _ => rfl) rfl rfl ?_
    refine bn_gi (pc' := 9) (K := 204) bu_203_6 rfl rfl (fun _ _ _ => rfl) hP kw_o2 kw_i2_4 rfl rfl ?_
    refine bp_ic (pc' := 12) (pt := 16) bu_203_9 rfl rfl (fun k5 => ?_) (fun k5 => ?_)
    · replace k5 : ((s 204)).toInt ≤ (a).toInt := k5
      refine bp_c (pc' := 17) (n := 0) bu_203_16 rfl rfl (fun _ _ _ => rfl) (by decide) (fun c6 e7 => ?_)
      refine bp_rbF bu_203_17 (fun rb8 => ?_)
      exact kk _ (by omega)
    · replace k5 : ¬ (((s 204)).toInt ≤ (a).toInt) := k5
      refine bp_c (pc' := 13) (n := 1) bu_203_12 rfl rfl (fun _ _ _ => rfl) (by decide) (fun c9 e10 => ?_)
      refine bp_go (pc' := 17) bu_203_13 rfl ?_
      refine bp_rbF bu_203_17 (fun rb11 => ?_)
      exact kk _ (by omega)
set_option maxHeartbeats 4000000 in
theorem hy_208 {a p : Int32} (hP : bm_P kw_T E h0 h s A L) (hm : 0 ≤ (s 204).toInt ∧ (s 204).toInt ≤ 6) (kk : ∀ r : Int32, (((0 ≤ a.toInt ∧ a.toInt < (s 204).toInt) ∧ (0 ≤ p.toInt ∧ p.toInt < 4)) → r = A 8 (4 * a.toInt.toNat + p.toInt.toNat)) → (¬ ((0 ≤ a.toInt ∧ a.toInt < (s 204).toInt) ∧ (0 ≤ p.toInt ∧ p.toInt < 4)) → r.toInt = 0) → bp_G E PO NN (mm_back (some (.int r)) gs h)) : bp_G E PO NN ((208, 0, [(0, .ref (E.1 + 2)), (1, .int a), (2, .int p)], [], 0, 0) :: gs, h, none) := by
  refine bp_ld (pc' := 1) bu_208_0 rfl rfl (fun _ _ _ => rfl) rfl rfl ?_
  refine bp_ld (pc' := 2) bu_208_1 rfl rfl (fun _ _ _ => rfl) rfl rfl ?_
  refine bn_cvF (pc' := 5) (st := []) (args := [.int a]) bu_208_2 rfl rfl rfl (by decide) hP kw_o2 (by decide) rfl (Nat.le_of_ble_eq_true rfl) (Nat.le_of_ble_eq_true rfl) ?_
  refine hy_203 (a := a) hP (fun r12 e13 => ?_)
  show bp_G E PO NN ((208, 5, _, [.int r12], 0, 0) :: gs, h, none)
  refine bp_i0 (pc' := 8) (pt := 28) bu_208_5 rfl rfl (fun k14 => ?_) (fun k14 => ?_)
  · replace k14 : (r12).toInt = 0 := k14
    refine bp_c (pc' := 29) (n := 0) bu_208_28 rfl rfl (fun _ _ _ => rfl) (by decide) (fun c15 e16 => ?_)
    refine bp_ri bu_208_29 ?_
    exact kk _ (fun q => absurd q (by omega)) (fun _ => by omega)
  · replace k14 : ¬ ((r12).toInt = 0) := k14
    refine bp_ld (pc' := 9) bu_208_8 rfl rfl (fun _ _ _ => rfl) rfl rfl ?_
    refine bp_csF (pc' := 12) (st := []) (args := [.int p]) bu_208_9 rfl rfl (by decide) rfl (Nat.le_of_ble_eq_true rfl) (Nat.le_of_ble_eq_true rfl) ?_
    refine kd_239 (a := p) (fun r17 e18 => ?_)
    show bp_G E PO NN ((208, 12, _, [.int r17], 0, 0) :: gs, h, none)
    refine bp_i0 (pc' := 15) (pt := 28) bu_208_12 rfl rfl (fun k19 => ?_) (fun k19 => ?_)
    · replace k19 : (r17).toInt = 0 := k19
      refine bp_c (pc' := 29) (n := 0) bu_208_28 rfl rfl (fun _ _ _ => rfl) (by decide) (fun c20 e21 => ?_)
      refine bp_ri bu_208_29 ?_
      exact kk _ (fun q => absurd q (by omega)) (fun _ => by omega)
    · replace k19 : ¬ ((r17).toInt = 0) := k19
      refine bp_ld (pc' := 16) bu_208_15 rfl rfl (fun _ _ _ => rfl) rfl rfl ?_
      refine bn_gr (pc' := 19) (t := 8) bu_208_16 rfl rfl (fun _ _ _ => rfl) hP kw_o2 kw_r2_1 ?_
      refine bp_ld (pc' := 20) bu_208_19 rfl rfl (fun _ _ _ => rfl) rfl rfl ?_
      refine bp_c (pc' := 21) (n := 4) bu_208_20 rfl rfl (fun _ _ _ => rfl) (by decide) (fun c22 e23 => ?_)
      refine bp_mul (pc' := 22) bu_208_21 rfl (by rw [e23]; omega) (by rw [e23]; omega) (fun v24 e25 => ?_)
      rw [e23] at e25
      refine bp_ld (pc' := 23) bu_208_22 rfl rfl (fun _ _ _ => rfl) rfl rfl ?_
      refine bp_add (pc' := 24) bu_208_23 rfl (by omega) (by omega) (fun v26 e27 => ?_)
      refine bn_iaF (pc' := 25) bu_208_24 rfl rfl (fun _ _ _ => rfl) hP kw_a8 (Or.inl rfl) (fun b28 b29 => ?_)
      refine bp_go (pc' := 29) bu_208_25 rfl ?_
      refine bp_ri bu_208_29 ?_
      exact kk _ (fun _ => by rw [show (v26).toInt.toNat = 4 * a.toInt.toNat + p.toInt.toNat by omega]) (fun q => absurd (by omega) q)
set_option maxHeartbeats 4000000 in
theorem hy_90 {a p : Int32} (hP : bm_P nw_T E h0 h s A L) (hv : 0 ≤ (s 8818).toInt ∧ (s 8818).toInt ≤ 1) (ha : a.toInt < 6) (hp : 0 ≤ p.toInt ∧ p.toInt < 4) (kk : ∀ r : Int32, (a.toInt < 0 → r.toInt = 0) → (0 ≤ a.toInt → r = A 98 (4 * (6 * (s 8818).toInt.toNat + a.toInt.toNat) + p.toInt.toNat)) → bp_G E PO NN (mm_back (some (.int r)) gs h)) : bp_G E PO NN ((90, 0, [(0, .ref (E.1 + 88)), (1, .int a), (2, .int p)], [], 0, 0) :: gs, h, none) := by
  refine bp_ld (pc' := 1) bu_90_0 rfl rfl (fun _ _ _ => rfl) rfl rfl ?_
  refine bp_i0 (pc' := 4) (pt := 8) bu_90_1 rfl rfl (fun k30 => ?_) (fun k30 => ?_)
  · replace k30 : 0 ≤ (a).toInt := k30
    refine bp_ld (pc' := 9) bu_90_8 rfl rfl (fun _ _ _ => rfl) rfl rfl ?_
    refine bn_gr (pc' := 12) (t := 98) bu_90_9 rfl rfl (fun _ _ _ => rfl) hP nw_o88 nw_r88_23 ?_
    refine bp_c (pc' := 13) (n := 4) bu_90_12 rfl rfl (fun _ _ _ => rfl) (by decide) (fun c31 e32 => ?_)
    refine bp_c (pc' := 15) (n := 6) bu_90_13 rfl rfl (fun _ _ _ => rfl) (by decide) (fun c33 e34 => ?_)
    refine bp_ld (pc' := 16) bu_90_15 rfl rfl (fun _ _ _ => rfl) rfl rfl ?_
    refine bn_gi (pc' := 19) (K := 8818) bu_90_16 rfl rfl (fun _ _ _ => rfl) hP nw_o88 nw_i88_18 rfl rfl ?_
    refine bp_mul (pc' := 20) bu_90_19 rfl (by rw [e34]; omega) (by rw [e34]; omega) (fun v35 e36 => ?_)
    rw [e34] at e36
    refine bp_ld (pc' := 21) bu_90_20 rfl rfl (fun _ _ _ => rfl) rfl rfl ?_
    refine bp_add (pc' := 22) bu_90_21 rfl (by omega) (by omega) (fun v37 e38 => ?_)
    refine bp_mul (pc' := 23) bu_90_22 rfl (by rw [e32]; omega) (by rw [e32]; omega) (fun v39 e40 => ?_)
    rw [e32] at e40
    refine bp_ld (pc' := 24) bu_90_23 rfl rfl (fun _ _ _ => rfl) rfl rfl ?_
    refine bp_add (pc' := 25) bu_90_24 rfl (by omega) (by omega) (fun v41 e42 => ?_)
    refine bn_iaF (pc' := 26) bu_90_25 rfl rfl (fun _ _ _ => rfl) hP nw_a98 (Or.inl rfl) (fun b43 b44 => ?_)
    refine bp_ri bu_90_26 ?_
    exact kk _ (fun q => absurd q (by omega)) (fun _ => by rw [show (v41).toInt.toNat = 4 * (6 * (s 8818).toInt.toNat + a.toInt.toNat) + p.toInt.toNat by omega])
  · replace k30 : ¬ (0 ≤ (a).toInt) := k30
    refine bp_c (pc' := 5) (n := 0) bu_90_4 rfl rfl (fun _ _ _ => rfl) (by decide) (fun c45 e46 => ?_)
    refine bp_go (pc' := 26) bu_90_5 rfl ?_
    refine bp_ri bu_90_26 ?_
    exact kk _ (fun _ => by omega) (fun q => absurd q (by omega))
set_option maxHeartbeats 4000000 in
theorem hy_234l {p : Int32} (hP : bm_P kw_T E h0 h s A L) (hm : 0 ≤ (s 204).toInt ∧ (s 204).toInt ≤ 6) (hp : 0 ≤ p.toInt ∧ p.toInt < 4) (hg : ∀ i : Nat, (i : Int) < (s 204).toInt → 0 ≤ (A 8 (4 * i + p.toInt.toNat)).toInt) : ∀ NN : Nat, (∀ r : Int32, hy_P (fun i => (A 8 (4 * i + p.toInt.toNat)).toInt) (s 204).toInt.toNat r.toInt → bp_G E PO NN (mm_back (some (.int r)) gs h)) → (∀ (lv : mm_V) (o : Option Value) (best : Int32) (bs : Int32) (m : Int32), mm_get lv 0 = some (.ref (E.1 + 0)) → mm_get lv 1 = some (.int p) → mm_get lv 2 = some (.int best) → mm_get lv 3 = some (.int bs) → mm_get lv 4 = some (.int m) → (0 ≤ m.toInt ∧ m.toInt ≤ (s 204).toInt) → (hy_P (fun i => (A 8 (4 * i + p.toInt.toNat)).toInt) m.toInt.toNat best.toInt) → (m.toInt = 0 → bs.toInt = -1) → (0 < m.toInt → bs.toInt = (A 8 (4 * best.toInt.toNat + p.toInt.toNat)).toInt) → bp_G E PO NN ((234, 17, lv, [], 0, 0) :: gs, h, o)) := by
  intro NN
  induction NN with
  | zero => intro kk lv o best bs m g0 g1 g2 g3 g4 i1 i2 i3 i4; exact bp_zero bu_234_17
  | succ NN ih =>
    intro kk lv o best bs m g0 g1 g2 g3 g4 i1 i2 i3 i4
    refine bp_ld (pc' := 19) bu_234_17 rfl rfl (fun _ _ _ => rfl) g4 rfl ?_
    refine bp_ld (pc' := 20) bu_234_19 rfl rfl (fun _ _ _ => rfl) g0 rfl ?_
    refine bn_gr (pc' := 23) (t := 2) bu_234_20 rfl rfl (fun _ _ _ => rfl) hP kw_o0 kw_r0_3 ?_
    refine bn_gi (pc' := 26) (K := 204) bu_234_23 rfl rfl (fun _ _ _ => rfl) hP kw_o2 kw_i2_4 rfl rfl ?_
    refine bp_ic (pc' := 29) (pt := 59) bu_234_26 rfl rfl (fun k47 => ?_) (fun k47 => ?_)
    · replace k47 : ((s 204)).toInt ≤ (m).toInt := k47
      refine bp_ld (pc' := 60) bu_234_59 rfl rfl (fun _ _ _ => rfl) g2 rfl ?_
      refine bp_ri bu_234_60 ?_
      exact kk _ (by rw [show (s 204).toInt.toNat = m.toInt.toNat by omega]; exact i2)
    · replace k47 : ¬ (((s 204)).toInt ≤ (m).toInt) := k47
      refine bp_ld (pc' := 30) bu_234_29 rfl rfl (fun _ _ _ => rfl) g0 rfl ?_
      refine bn_gr (pc' := 33) (t := 2) bu_234_30 rfl rfl (fun _ _ _ => rfl) hP kw_o0 kw_r0_3 ?_
      refine bp_ld (pc' := 35) bu_234_33 rfl rfl (fun _ _ _ => rfl) g4 rfl ?_
      refine bp_ld (pc' := 36) bu_234_35 rfl rfl (fun _ _ _ => rfl) g1 rfl ?_
      refine bn_cvF (pc' := 39) (st := []) (args := [.int p, .int m]) bu_234_36 rfl rfl rfl (by decide) hP kw_o2 (by decide) rfl (Nat.le_of_ble_eq_true rfl) (Nat.le_of_ble_eq_true rfl) ?_
      refine hy_208 (a := m) (p := p) hP hm (fun r48 e49 e50 => ?_)
      show bp_G E PO (NN + 1) ((234, 39, lv, [.int r48], 0, 0) :: gs, h, none)
      refine bp_st (pc' := 41) bu_234_39 rfl rfl (fun _ _ _ => rfl) rfl (by decide) (by decide) (fun lv51 F52 g53 => ?_)
      have g54 := F52 0 (.ref (E.1 + 0)) g0 (by decide) (Or.inl rfl)
      have g55 := F52 1 (.int p) g1 (by decide) (Or.inl rfl)
      have g56 := F52 2 (.int best) g2 (by decide) (Or.inl rfl)
      have g57 := F52 3 (.int bs) g3 (by decide) (Or.inl rfl)
      have g58 := F52 4 (.int m) g4 (by decide) (Or.inl rfl)
      refine bp_ld (pc' := 43) bu_234_41 rfl rfl (fun _ _ _ => rfl) g53 rfl ?_
      refine bp_ld (pc' := 44) bu_234_43 rfl rfl (fun _ _ _ => rfl) g57 rfl ?_
      refine bp_ic (pc' := 47) (pt := 53) bu_234_44 rfl rfl (fun k59 => ?_) (fun k59 => ?_)
      · replace k59 : (r48).toInt ≤ (bs).toInt := k59
        refine bp_inc (pc' := 56) bu_234_53 rfl (by decide) g58 (by decide) (by omega) (by omega) (fun lv60 y63 F61 g62 e64 => ?_)
        have g65 := F61 0 (.ref (E.1 + 0)) g54 (by decide) (Or.inl rfl)
        have g66 := F61 1 (.int p) g55 (by decide) (Or.inl rfl)
        have g67 := F61 2 (.int best) g56 (by decide) (Or.inl rfl)
        have g68 := F61 3 (.int bs) g57 (by decide) (Or.inl rfl)
        have g69 := F61 5 (.int r48) g53 (by decide) (Or.inl rfl)
        refine bp_goD (pc' := 17) bu_234_56 rfl ?_
        have ek := e49 ⟨by omega, by omega⟩
        have ge := hg m.toInt.toNat (by omega)
        have et := congrArg Int32.toInt ek
        have eb := hy_b i2
        have em := hy_m i2
        exact ih (fun r q => bp_mono (Nat.le_succ NN) (kk r q)) _ _ (best) (bs) (y63) g65 g66 g67 g68 g62 (by omega) (hy_s2 i2 (by omega) (by
          by_cases z : m.toInt = 0
          · have y := i3 z
            omega
          · omega) (by
          show (A 8 (4 * m.toInt.toNat + p.toInt.toNat)).toInt ≤ (A 8 (4 * best.toInt.toNat + p.toInt.toNat)).toInt
          by_cases z : m.toInt = 0
          · have y := i3 z
            omega
          · have y := i4 (by omega)
            omega)) (fun z => absurd z (by omega)) (fun _ => by
          by_cases z : m.toInt = 0
          · have y := i3 z
            omega
          · exact i4 (by omega))
      · replace k59 : ¬ ((r48).toInt ≤ (bs).toInt) := k59
        refine bp_ld (pc' := 49) bu_234_47 rfl rfl (fun _ _ _ => rfl) g58 rfl ?_
        refine bp_st (pc' := 50) bu_234_49 rfl rfl (fun _ _ _ => rfl) rfl (by decide) (by decide) (fun lv70 F71 g72 => ?_)
        have g73 := F71 0 (.ref (E.1 + 0)) g54 (by decide) (Or.inl rfl)
        have g74 := F71 1 (.int p) g55 (by decide) (Or.inl rfl)
        have g75 := F71 3 (.int bs) g57 (by decide) (Or.inl rfl)
        have g76 := F71 4 (.int m) g58 (by decide) (Or.inl rfl)
        have g77 := F71 5 (.int r48) g53 (by decide) (Or.inl rfl)
        refine bp_ld (pc' := 52) bu_234_50 rfl rfl (fun _ _ _ => rfl) g77 rfl ?_
        refine bp_st (pc' := 53) bu_234_52 rfl rfl (fun _ _ _ => rfl) rfl (by decide) (by decide) (fun lv78 F79 g80 => ?_)
        have g81 := F79 0 (.ref (E.1 + 0)) g73 (by decide) (Or.inl rfl)
        have g82 := F79 1 (.int p) g74 (by decide) (Or.inl rfl)
        have g83 := F79 4 (.int m) g76 (by decide) (Or.inl rfl)
        have g84 := F79 5 (.int r48) g77 (by decide) (Or.inl rfl)
        have g85 := F79 2 (.int m) g72 (by decide) (Or.inl rfl)
        refine bp_inc (pc' := 56) bu_234_53 rfl (by decide) g83 (by decide) (by omega) (by omega) (fun lv86 y89 F87 g88 e90 => ?_)
        have g91 := F87 0 (.ref (E.1 + 0)) g81 (by decide) (Or.inl rfl)
        have g92 := F87 1 (.int p) g82 (by decide) (Or.inl rfl)
        have g93 := F87 5 (.int r48) g84 (by decide) (Or.inl rfl)
        have g94 := F87 2 (.int m) g85 (by decide) (Or.inl rfl)
        have g95 := F87 3 (.int r48) g80 (by decide) (Or.inl rfl)
        refine bp_goD (pc' := 17) bu_234_56 rfl ?_
        have ek := e49 ⟨by omega, by omega⟩
        have ge := hg m.toInt.toNat (by omega)
        have et := congrArg Int32.toInt ek
        have eb := hy_b i2
        have em := hy_m i2
        exact ih (fun r q => bp_mono (Nat.le_succ NN) (kk r q)) _ _ (m) (r48) (y89) g91 g92 g94 g95 g88 (by omega) (hy_s1 i2 (by omega) (by omega) (by
          by_cases z : m.toInt.toNat = 0
          · exact Or.inl z
          · refine Or.inr ?_
            have y := i4 (by omega)
            show (A 8 (4 * best.toInt.toNat + p.toInt.toNat)).toInt < (A 8 (4 * m.toInt.toNat + p.toInt.toNat)).toInt
            omega)) (fun z => absurd z (by omega)) (fun _ => et)
set_option maxHeartbeats 4000000 in
theorem hy_234 {p : Int32} (hP : bm_P kw_T E h0 h s A L) (hm : 0 ≤ (s 204).toInt ∧ (s 204).toInt ≤ 6) (hg : 0 ≤ p.toInt ∧ p.toInt < 4 → ∀ i : Nat, (i : Int) < (s 204).toInt → 0 ≤ (A 8 (4 * i + p.toInt.toNat)).toInt) (kk : ∀ r : Int32, kd_Phy (s 204) (fun i q => A 8 (4 * i + q)) p r → bp_G E PO NN (mm_back (some (.int r)) gs h)) : bp_G E PO NN ((234, 0, [(0, .ref (E.1 + 0)), (1, .int p)], [], 0, 0) :: gs, h, none) := by
  refine bp_ld (pc' := 1) bu_234_0 rfl rfl (fun _ _ _ => rfl) rfl rfl ?_
  refine bp_csF (pc' := 4) (st := []) (args := [.int p]) bu_234_1 rfl rfl (by decide) rfl (Nat.le_of_ble_eq_true rfl) (Nat.le_of_ble_eq_true rfl) ?_
  refine kd_239 (a := p) (fun r96 e97 => ?_)
  show bp_G E PO NN ((234, 4, _, [.int r96], 0, 0) :: gs, h, none)
  refine bp_i0 (pc' := 7) (pt := 9) bu_234_4 rfl rfl (fun k98 => ?_) (fun k98 => ?_)
  · replace k98 : (r96).toInt ≠ 0 := k98
    refine bp_c (pc' := 11) (n := -2) bu_234_9 rfl rfl (fun _ _ _ => rfl) (by decide) (fun c99 e100 => ?_)
    refine bp_st (pc' := 12) bu_234_11 rfl rfl (fun _ _ _ => rfl) rfl (by decide) (by decide) (fun lv101 F102 g103 => ?_)
    have g104 := F102 0 (.ref (E.1 + 0)) rfl (by decide) (Or.inl rfl)
    have g105 := F102 1 (.int p) rfl (by decide) (Or.inl rfl)
    refine bp_c (pc' := 13) (n := -1) bu_234_12 rfl rfl (fun _ _ _ => rfl) (by decide) (fun c106 e107 => ?_)
    refine bp_st (pc' := 14) bu_234_13 rfl rfl (fun _ _ _ => rfl) rfl (by decide) (by decide) (fun lv108 F109 g110 => ?_)
    have g111 := F109 0 (.ref (E.1 + 0)) g104 (by decide) (Or.inl rfl)
    have g112 := F109 1 (.int p) g105 (by decide) (Or.inl rfl)
    have g113 := F109 2 (.int c99) g103 (by decide) (Or.inl rfl)
    refine bp_c (pc' := 15) (n := 0) bu_234_14 rfl rfl (fun _ _ _ => rfl) (by decide) (fun c114 e115 => ?_)
    refine bp_st (pc' := 17) bu_234_15 rfl rfl (fun _ _ _ => rfl) rfl (by decide) (by decide) (fun lv116 F117 g118 => ?_)
    have g119 := F117 0 (.ref (E.1 + 0)) g111 (by decide) (Or.inl rfl)
    have g120 := F117 1 (.int p) g112 (by decide) (Or.inl rfl)
    have g121 := F117 2 (.int c99) g113 (by decide) (Or.inl rfl)
    have g122 := F117 3 (.int c106) g110 (by decide) (Or.inl rfl)
    exact hy_234l hP hm (by omega) (hg (by omega)) NN (fun r q => kk r (Or.inr ⟨by omega, q⟩)) _ _ _ _ _ g119 g120 g121 g122 g118 (by omega) (hy_0 (by omega) (by omega)) (fun _ => by omega) (fun q => absurd q (by omega))
  · replace k98 : ¬ ((r96).toInt ≠ 0) := k98
    refine bp_c (pc' := 8) (n := -1) bu_234_7 rfl rfl (fun _ _ _ => rfl) (by decide) (fun c123 e124 => ?_)
    refine bp_ri bu_234_8 ?_
    exact kk _ (Or.inl ⟨by omega, by omega⟩)
set_option maxHeartbeats 4000000 in
theorem hy_38l {p : Int32} (hP : bm_P nw_T E h0 h s A L) (hm : 0 ≤ (A 97 (s 8818).toInt.toNat).toInt ∧ (A 97 (s 8818).toInt.toNat).toInt ≤ 6) (hv : 0 ≤ (s 8818).toInt ∧ (s 8818).toInt ≤ 1) (hp : 0 ≤ p.toInt ∧ p.toInt < 4) : ∀ NN : Nat, (∀ r : Int32, hy_P (fun i => (A 98 (4 * (6 * (s 8818).toInt.toNat + i) + p.toInt.toNat)).toInt) (A 97 (s 8818).toInt.toNat).toInt.toNat r.toInt → bp_G E PO NN (mm_back (some (.int r)) gs h)) → (∀ (lv : mm_V) (o : Option Value) (best : Int32) (a : Int32), mm_get lv 0 = some (.ref (E.1 + 88)) → mm_get lv 1 = some (.int p) → mm_get lv 2 = some (.int best) → mm_get lv 3 = some (.int a) → (0 ≤ a.toInt ∧ a.toInt ≤ (A 97 (s 8818).toInt.toNat).toInt) → (hy_P (fun i => (A 98 (4 * (6 * (s 8818).toInt.toNat + i) + p.toInt.toNat)).toInt) a.toInt.toNat best.toInt) → bp_G E PO NN ((38, 16, lv, [], 0, 0) :: gs, h, o)) := by
  intro NN
  induction NN with
  | zero => intro kk lv o best a g0 g1 g2 g3 i1 i2; exact bp_zero bu_38_16
  | succ NN ih =>
    intro kk lv o best a g0 g1 g2 g3 i1 i2
    have hbb : best.toInt < 6 := by
      by_cases z : a.toInt.toNat = 0
      · have := hy_m i2 z
        omega
      · have := hy_b i2 (by omega)
        omega
    refine bp_ld (pc' := 17) bu_38_16 rfl rfl (fun _ _ _ => rfl) g3 rfl ?_
    refine bp_ld (pc' := 18) bu_38_17 rfl rfl (fun _ _ _ => rfl) g0 rfl ?_
    refine bn_gr (pc' := 21) (t := 97) bu_38_18 rfl rfl (fun _ _ _ => rfl) hP nw_o88 nw_r88_22 ?_
    refine bp_ld (pc' := 22) bu_38_21 rfl rfl (fun _ _ _ => rfl) g0 rfl ?_
    refine bn_gi (pc' := 25) (K := 8818) bu_38_22 rfl rfl (fun _ _ _ => rfl) hP nw_o88 nw_i88_18 rfl rfl ?_
    refine bn_iaF (pc' := 26) bu_38_25 rfl rfl (fun _ _ _ => rfl) hP nw_a97 (Or.inl rfl) (fun b125 b126 => ?_)
    refine bp_ic (pc' := 29) (pt := 56) bu_38_26 rfl rfl (fun k127 => ?_) (fun k127 => ?_)
    · replace k127 : ((A 97 ((s 8818)).toInt.toNat)).toInt ≤ (a).toInt := k127
      refine bp_ld (pc' := 57) bu_38_56 rfl rfl (fun _ _ _ => rfl) g2 rfl ?_
      refine bp_ri bu_38_57 ?_
      exact kk _ (by rw [show (A 97 (s 8818).toInt.toNat).toInt.toNat = a.toInt.toNat by omega]; exact i2)
    · replace k127 : ¬ (((A 97 ((s 8818)).toInt.toNat)).toInt ≤ (a).toInt) := k127
      refine bp_ld (pc' := 30) bu_38_29 rfl rfl (fun _ _ _ => rfl) g2 rfl ?_
      refine bp_i0 (pc' := 33) (pt := 48) bu_38_30 rfl rfl (fun k128 => ?_) (fun k128 => ?_)
      · replace k128 : (best).toInt < 0 := k128
        refine bp_ld (pc' := 49) bu_38_48 rfl rfl (fun _ _ _ => rfl) g3 rfl ?_
        refine bp_st (pc' := 50) bu_38_49 rfl rfl (fun _ _ _ => rfl) rfl (by decide) (by decide) (fun lv129 F130 g131 => ?_)
        have g132 := F130 0 (.ref (E.1 + 88)) g0 (by decide) (Or.inl rfl)
        have g133 := F130 1 (.int p) g1 (by decide) (Or.inl rfl)
        have g134 := F130 3 (.int a) g3 (by decide) (Or.inl rfl)
        refine bp_inc (pc' := 53) bu_38_50 rfl (by decide) g134 (by decide) (by omega) (by omega) (fun lv135 y138 F136 g137 e139 => ?_)
        have g140 := F136 0 (.ref (E.1 + 88)) g132 (by decide) (Or.inl rfl)
        have g141 := F136 1 (.int p) g133 (by decide) (Or.inl rfl)
        have g142 := F136 2 (.int a) g131 (by decide) (Or.inl rfl)
        refine bp_goD (pc' := 16) bu_38_53 rfl ?_
        have eb := hy_b i2
        have em := hy_m i2
        exact ih (fun r q => bp_mono (Nat.le_succ NN) (kk r q)) _ _ (a) (y138) g140 g141 g142 g137 (by omega) (hy_s1 i2 (by omega) (by omega) (Or.inl (by omega)))
      · replace k128 : ¬ ((best).toInt < 0) := k128
        refine bp_ld (pc' := 34) bu_38_33 rfl rfl (fun _ _ _ => rfl) g0 rfl ?_
        refine bp_ld (pc' := 35) bu_38_34 rfl rfl (fun _ _ _ => rfl) g3 rfl ?_
        refine bp_ld (pc' := 36) bu_38_35 rfl rfl (fun _ _ _ => rfl) g1 rfl ?_
        refine bn_cvF (pc' := 39) (st := []) (args := [.int p, .int a]) bu_38_36 rfl rfl rfl (by decide) hP nw_o88 (by decide) rfl (Nat.le_of_ble_eq_true rfl) (Nat.le_of_ble_eq_true rfl) ?_
        refine hy_90 (a := a) (p := p) hP hv (by omega) (by omega) (fun r143 e144 e145 => ?_)
        show bp_G E PO (NN + 1) ((38, 39, lv, [.int r143], 0, 0) :: gs, h, none)
        refine bp_ld (pc' := 40) bu_38_39 rfl rfl (fun _ _ _ => rfl) g0 rfl ?_
        refine bp_ld (pc' := 41) bu_38_40 rfl rfl (fun _ _ _ => rfl) g2 rfl ?_
        refine bp_ld (pc' := 42) bu_38_41 rfl rfl (fun _ _ _ => rfl) g1 rfl ?_
        refine bn_cvF (pc' := 45) (st := [.int r143]) (args := [.int p, .int best]) bu_38_42 rfl rfl rfl (by decide) hP nw_o88 (by decide) rfl (Nat.le_of_ble_eq_true rfl) (Nat.le_of_ble_eq_true rfl) ?_
        refine hy_90 (a := best) (p := p) hP hv (by omega) (by omega) (fun r146 e147 e148 => ?_)
        show bp_G E PO (NN + 1) ((38, 45, lv, [.int r146, .int r143], 0, 0) :: gs, h, none)
        refine bp_ic (pc' := 48) (pt := 50) bu_38_45 rfl rfl (fun k149 => ?_) (fun k149 => ?_)
        · replace k149 : (r143).toInt ≤ (r146).toInt := k149
          refine bp_inc (pc' := 53) bu_38_50 rfl (by decide) g3 (by decide) (by omega) (by omega) (fun lv150 y153 F151 g152 e154 => ?_)
          have g155 := F151 0 (.ref (E.1 + 88)) g0 (by decide) (Or.inl rfl)
          have g156 := F151 1 (.int p) g1 (by decide) (Or.inl rfl)
          have g157 := F151 2 (.int best) g2 (by decide) (Or.inl rfl)
          refine bp_goD (pc' := 16) bu_38_53 rfl ?_
          have eb := hy_b i2
          have em := hy_m i2
          have e1 := congrArg Int32.toInt (e145 (by omega))
          have e2 := congrArg Int32.toInt (e148 (by omega))
          exact ih (fun r q => bp_mono (Nat.le_succ NN) (kk r q)) _ _ (best) (y153) g155 g156 g157 g152 (by omega) (hy_s2 i2 (by omega) (by omega) (by
            show (A 98 (4 * (6 * (s 8818).toInt.toNat + a.toInt.toNat) + p.toInt.toNat)).toInt ≤ (A 98 (4 * (6 * (s 8818).toInt.toNat + best.toInt.toNat) + p.toInt.toNat)).toInt
            omega))
        · replace k149 : ¬ ((r143).toInt ≤ (r146).toInt) := k149
          refine bp_ld (pc' := 49) bu_38_48 rfl rfl (fun _ _ _ => rfl) g3 rfl ?_
          refine bp_st (pc' := 50) bu_38_49 rfl rfl (fun _ _ _ => rfl) rfl (by decide) (by decide) (fun lv158 F159 g160 => ?_)
          have g161 := F159 0 (.ref (E.1 + 88)) g0 (by decide) (Or.inl rfl)
          have g162 := F159 1 (.int p) g1 (by decide) (Or.inl rfl)
          have g163 := F159 3 (.int a) g3 (by decide) (Or.inl rfl)
          refine bp_inc (pc' := 53) bu_38_50 rfl (by decide) g163 (by decide) (by omega) (by omega) (fun lv164 y167 F165 g166 e168 => ?_)
          have g169 := F165 0 (.ref (E.1 + 88)) g161 (by decide) (Or.inl rfl)
          have g170 := F165 1 (.int p) g162 (by decide) (Or.inl rfl)
          have g171 := F165 2 (.int a) g160 (by decide) (Or.inl rfl)
          refine bp_goD (pc' := 16) bu_38_53 rfl ?_
          have eb := hy_b i2
          have em := hy_m i2
          have e1 := congrArg Int32.toInt (e145 (by omega))
          have e2 := congrArg Int32.toInt (e148 (by omega))
          exact ih (fun r q => bp_mono (Nat.le_succ NN) (kk r q)) _ _ (a) (y167) g169 g170 g171 g166 (by omega) (hy_s1 i2 (by omega) (by omega) (Or.inr (by
            show (A 98 (4 * (6 * (s 8818).toInt.toNat + best.toInt.toNat) + p.toInt.toNat)).toInt < (A 98 (4 * (6 * (s 8818).toInt.toNat + a.toInt.toNat) + p.toInt.toNat)).toInt
            omega)))
set_option maxHeartbeats 4000000 in
theorem hy_38 {p : Int32} (hP : bm_P nw_T E h0 h s A L) (hm : 0 ≤ (A 97 (s 8818).toInt.toNat).toInt ∧ (A 97 (s 8818).toInt.toNat).toInt ≤ 6) (hv : 0 ≤ (s 8818).toInt ∧ (s 8818).toInt ≤ 1) (kk : ∀ r : Int32, kd_Phy (A 97 (s 8818).toInt.toNat) (fun i q => A 98 (4 * (6 * (s 8818).toInt.toNat + i) + q)) p r → bp_G E PO NN (mm_back (some (.int r)) gs h)) : bp_G E PO NN ((38, 0, [(0, .ref (E.1 + 88)), (1, .int p)], [], 0, 0) :: gs, h, none) := by
  refine bp_ld (pc' := 1) bu_38_0 rfl rfl (fun _ _ _ => rfl) rfl rfl ?_
  refine bp_c (pc' := 2) (n := 0) bu_38_1 rfl rfl (fun _ _ _ => rfl) (by decide) (fun c172 e173 => ?_)
  refine bp_c (pc' := 3) (n := 3) bu_38_2 rfl rfl (fun _ _ _ => rfl) (by decide) (fun c174 e175 => ?_)
  refine bp_csF (pc' := 6) (st := []) (args := [.int c174, .int c172, .int p]) bu_38_3 rfl rfl (by decide) rfl (Nat.le_of_ble_eq_true rfl) (Nat.le_of_ble_eq_true rfl) ?_
  refine kd_43 (x := p) (y := c172) (z := c174) (fun r176 e177 => ?_)
  show bp_G E PO NN ((38, 6, _, [.int r176], 0, 0) :: gs, h, none)
  refine bp_i0 (pc' := 9) (pt := 11) bu_38_6 rfl rfl (fun k178 => ?_) (fun k178 => ?_)
  · replace k178 : (r176).toInt ≠ 0 := k178
    refine bp_c (pc' := 13) (n := -2) bu_38_11 rfl rfl (fun _ _ _ => rfl) (by decide) (fun c179 e180 => ?_)
    refine bp_st (pc' := 14) bu_38_13 rfl rfl (fun _ _ _ => rfl) rfl (by decide) (by decide) (fun lv181 F182 g183 => ?_)
    have g184 := F182 0 (.ref (E.1 + 88)) rfl (by decide) (Or.inl rfl)
    have g185 := F182 1 (.int p) rfl (by decide) (Or.inl rfl)
    refine bp_c (pc' := 15) (n := 0) bu_38_14 rfl rfl (fun _ _ _ => rfl) (by decide) (fun c186 e187 => ?_)
    refine bp_st (pc' := 16) bu_38_15 rfl rfl (fun _ _ _ => rfl) rfl (by decide) (by decide) (fun lv188 F189 g190 => ?_)
    have g191 := F189 0 (.ref (E.1 + 88)) g184 (by decide) (Or.inl rfl)
    have g192 := F189 1 (.int p) g185 (by decide) (Or.inl rfl)
    have g193 := F189 2 (.int c179) g183 (by decide) (Or.inl rfl)
    exact hy_38l hP hm hv (by omega) NN (fun r q => kk r (Or.inr ⟨by omega, q⟩)) _ _ _ _ g191 g192 g193 g190 (by omega) (hy_0 (by omega) (by omega))
  · replace k178 : ¬ ((r176).toInt ≠ 0) := k178
    refine bp_c (pc' := 10) (n := -1) bu_38_9 rfl rfl (fun _ _ _ => rfl) (by decide) (fun c194 e195 => ?_)
    refine bp_ri bu_38_10 ?_
    exact kk _ (Or.inl ⟨by omega, by omega⟩)
end HY
