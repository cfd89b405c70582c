/-! BY HAND: the class's Reader, 2: sums (wip/p4/mkc2.py) -/
section PYU
variable {K V : Nat → Int} {σ τ : py_S} {o : Nat}
theorem py_u_no (ht : σ.2.1 = 0 → σ.1 ≤ 400) (h : ¬ (σ.2.1 = 0 ∧ (K σ.1 = 2 ∨ (35 ≤ K σ.1 ∧ K σ.1 ≤ 43) ∨ K σ.1 = 6))) : py_x K true o σ = py_x K false o (py_fl 1 σ) := by
  rw [py_x_f (py_fl_f (by decide))]
  by_cases e : σ.2.1 = 0
  · exact py_x_n (ht e) e (fun g => h ⟨e, g.elim Or.inl (fun g => Or.inr (Or.inl g))⟩) (fun g => h ⟨e, Or.inr (Or.inr g)⟩)
  · rw [py_x_f e]
    exact (if_neg e).symm
theorem py_u_rm (ht : σ.1 ≤ 400) (h : σ.2.1 = 0) (hk : K σ.1 = 6) (ho : o = 6) : py_x K true o σ = py_x K false o (py_fl 2 σ) := by
  rw [py_x_f (py_fl_f (by decide)), py_x_o ht h hk, if_pos ho]
theorem py_u_in (ht : σ.1 ≤ 400) (h : σ.2.1 = 0) (hk : K σ.1 = 6) (ho : o ≠ 6) (h1 : py_x K true (o + 1) (py_go σ) = py_x K false (o + 1) τ) (h2 : τ.2.1 = 0 → τ.1 ≤ 400 ∧ ¬ (K τ.1 = 8 ∨ K τ.1 = 9 ∨ K τ.1 = 10 ∨ K τ.1 = 15)) : py_x K true o σ = py_x K false o (py_mu K 7 τ) := by
  rw [py_x_o ht h hk, if_neg ho, h1]
  by_cases e : τ.2.1 = 0
  · obtain ⟨t4, tn⟩ := h2 e
    by_cases e7 : K τ.1 = 7
    · rw [py_x_c t4 e e7 (Nat.succ_pos o)]
      have : py_mu K 7 τ = py_go τ := if_pos ⟨e, e7⟩
      rw [this]
      rfl
    · rw [py_x_d t4 e tn (Or.inl e7), if_pos (Nat.succ_pos o)]
      have : py_mu K 7 τ = py_fl 1 τ := if_neg (fun g => e7 g.2)
      rw [this, py_x_f (py_fl_f (by decide))]
  · rw [py_x_f e]
    have : py_mu K 7 τ = τ := by
      unfold py_mu
      rw [if_neg (fun g => e g.1)]
      exact if_neg e
    rw [this, py_x_f e]
end PYU
/-- what a sum of depth dn leaves -/
def rc_Y (K V P : Nat → Int) (N dn : Nat) (op : Bool) (σ σ' : py_S) : Prop := py_x K true dn σ = py_x K false dn σ' ∧ (σ'.2.1 = 0 → σ.2.1 = 0 ∧ σ.1 + 1 ≤ σ'.1 ∧ (op = true → ¬ (K σ'.1 = 8 ∨ K σ'.1 = 9 ∨ K σ'.1 = 10 ∨ K σ'.1 = 15)))
def rc_SUM (K V P : Nat → Int) (N : Nat) (E : mm_E) (PO : mm_C → Prop) (NN : Nat) (h0 : mm_H) (m cn : Nat) (op : Bool) (dn : Nat) : Prop := ∀ (σ : py_S) (h : mm_H) (s : Nat → Int32) (A : Nat → Nat → Int32) (L : Nat → Nat → Int64) (gs : List mm_F) (l d : Int32), d.toInt = (dn : Int) → gs.length + 4 * (7 - dn) + cn ≤ 999 → bm_P bq_T E h0 h s A L → rc_R K V P N σ s L → rc_T K V P N s A L → (0 ≤ (s 1204).toInt ∧ (s 1204).toInt ≤ 432 ∧ 0 ≤ (s 1104).toInt ∧ (s 1104).toInt ≤ 6) → (∀ (h' : mm_H) (s' : Nat → Int32) (A' : Nat → Nat → Int32) (L' : Nat → Nat → Int64) (σ' : py_S), bm_P bq_T E h0 h' s' A' L' → rc_F s A L s' A' L' → rc_R K V P N σ' s' L' → rc_Y K V P N dn op σ σ' → bp_G E PO NN (mm_back none gs h')) → bp_G E PO NN ((m, 0, [(0, .ref (E.1 + 20)), (1, .int l), (2, .int d)], [], 0, 0) :: gs, h, none)
theorem bu_172_0 : mm_at mt_P 172 0 = some ((0, 1, .aload_n 0, 0, 0, 0, 0), 8, 2, 1, 4, 0, 0, 0) := rfl
theorem bu_172_1 : mm_at mt_P 172 1 = some ((1, 3, .getfield 9, 4, 1, 0, 275), 8, 2, 1, 4, 0, 0, 0) := rfl
theorem bu_172_4 : mm_at mt_P 172 4 = some ((4, 3, .getfield 118, 6, 0, 0, 178), 8, 2, 1, 4, 0, 0, 0) := rfl
theorem bu_172_7 : mm_at mt_P 172 7 = some ((7, 1, .astore_n 3, 0, 0, 0, 0), 8, 2, 1, 4, 0, 0, 0) := rfl
theorem bu_172_8 : mm_at mt_P 172 8 = some ((8, 1, .iconst (-1), 0, 0, 0, 0), 8, 2, 1, 4, 0, 0, 0) := rfl
theorem bu_172_9 : mm_at mt_P 172 9 = some ((9, 2, .istore 4, 0, 0, 0, 0), 8, 2, 1, 4, 0, 0, 0) := rfl
theorem bu_172_11 : mm_at mt_P 172 11 = some ((11, 1, .aload_n 0, 0, 0, 0, 0), 8, 2, 1, 4, 0, 0, 0) := rfl
theorem bu_172_12 : mm_at mt_P 172 12 = some ((12, 1, .iload_n 1, 0, 0, 0, 0), 8, 2, 1, 4, 0, 0, 0) := rfl
theorem bu_172_13 : mm_at mt_P 172 13 = some ((13, 1, .iload_n 2, 0, 0, 0, 0), 8, 2, 1, 4, 0, 0, 0) := rfl
theorem bu_172_14 : mm_at mt_P 172 14 = some ((14, 3, .invokevirtual 147, 175, 0, 0, 693), 8, 2, 1, 4, 0, 0, 0) := rfl
theorem bu_172_17 : mm_at mt_P 172 17 = some ((17, 1, .aload_n 0, 0, 0, 0, 0), 8, 2, 1, 4, 0, 0, 0) := rfl
theorem bu_172_18 : mm_at mt_P 172 18 = some ((18, 3, .invokevirtual 150, 167, 0, 0, 706), 8, 2, 1, 4, 0, 0, 0) := rfl
theorem bu_172_21 : mm_at mt_P 172 21 = some ((21, 2, .istore 5, 0, 0, 0, 0), 8, 2, 1, 4, 0, 0, 0) := rfl
theorem bu_172_23 : mm_at mt_P 172 23 = some ((23, 1, .iconst 0, 0, 0, 0, 0), 8, 2, 1, 4, 0, 0, 0) := rfl
theorem bu_172_24 : mm_at mt_P 172 24 = some ((24, 2, .istore 6, 0, 0, 0, 0), 8, 2, 1, 4, 0, 0, 0) := rfl
theorem bu_172_26 : mm_at mt_P 172 26 = some ((26, 2, .iload 6, 0, 0, 0, 0), 8, 2, 1, 4, 0, 0, 0) := rfl
theorem bu_172_28 : mm_at mt_P 172 28 = some ((28, 3, .sipush 400, 0, 0, 0, 0), 8, 2, 1, 4, 0, 0, 0) := rfl
theorem bu_172_31 : mm_at mt_P 172 31 = some ((31, 3, .if_icmp .ge 87, 0, 0, 0, 0), 8, 2, 1, 4, 0, 0, 0) := rfl
theorem bu_172_34 : mm_at mt_P 172 34 = some ((34, 2, .iload 5, 0, 0, 0, 0), 8, 2, 1, 4, 0, 0, 0) := rfl
theorem bu_172_36 : mm_at mt_P 172 36 = some ((36, 1, .iconst (-1), 0, 0, 0, 0), 8, 2, 1, 4, 0, 0, 0) := rfl
theorem bu_172_37 : mm_at mt_P 172 37 = some ((37, 3, .if_icmp .eq 81, 0, 0, 0, 0), 8, 2, 1, 4, 0, 0, 0) := rfl
theorem bu_172_40 : mm_at mt_P 172 40 = some ((40, 2, .iload 5, 0, 0, 0, 0), 8, 2, 1, 4, 0, 0, 0) := rfl
theorem bu_172_42 : mm_at mt_P 172 42 = some ((42, 1, .iconst 4, 0, 0, 0, 0), 8, 2, 1, 4, 0, 0, 0) := rfl
theorem bu_172_43 : mm_at mt_P 172 43 = some ((43, 3, .if_icmp .eq 9, 0, 0, 0, 0), 8, 2, 1, 4, 0, 0, 0) := rfl
theorem bu_172_46 : mm_at mt_P 172 46 = some ((46, 2, .iload 5, 0, 0, 0, 0), 8, 2, 1, 4, 0, 0, 0) := rfl
theorem bu_172_48 : mm_at mt_P 172 48 = some ((48, 1, .iconst 5, 0, 0, 0, 0), 8, 2, 1, 4, 0, 0, 0) := rfl
theorem bu_172_49 : mm_at mt_P 172 49 = some ((49, 3, .if_icmp .ne 7, 0, 0, 0, 0), 8, 2, 1, 4, 0, 0, 0) := rfl
theorem bu_172_52 : mm_at mt_P 172 52 = some ((52, 1, .iconst 1, 0, 0, 0, 0), 8, 2, 1, 4, 0, 0, 0) := rfl
theorem bu_172_53 : mm_at mt_P 172 53 = some ((53, 3, .goto 4, 0, 0, 0, 0), 8, 2, 1, 4, 0, 0, 0) := rfl
theorem bu_172_56 : mm_at mt_P 172 56 = some ((56, 1, .iconst 0, 0, 0, 0, 0), 8, 2, 1, 4, 0, 0, 0) := rfl
theorem bu_172_57 : mm_at mt_P 172 57 = some ((57, 2, .istore 7, 0, 0, 0, 0), 8, 2, 1, 4, 0, 0, 0) := rfl
theorem bu_172_59 : mm_at mt_P 172 59 = some ((59, 2, .iload 7, 0, 0, 0, 0), 8, 2, 1, 4, 0, 0, 0) := rfl
theorem bu_172_61 : mm_at mt_P 172 61 = some ((61, 3, .ifCond .eq 16, 0, 0, 0, 0), 8, 2, 1, 4, 0, 0, 0) := rfl
theorem bu_172_64 : mm_at mt_P 172 64 = some ((64, 2, .iload 4, 0, 0, 0, 0), 8, 2, 1, 4, 0, 0, 0) := rfl
theorem bu_172_66 : mm_at mt_P 172 66 = some ((66, 1, .iconst (-1), 0, 0, 0, 0), 8, 2, 1, 4, 0, 0, 0) := rfl
theorem bu_172_67 : mm_at mt_P 172 67 = some ((67, 3, .if_icmp .eq 10, 0, 0, 0, 0), 8, 2, 1, 4, 0, 0, 0) := rfl
theorem bu_172_70 : mm_at mt_P 172 70 = some ((70, 1, .aload_n 3, 0, 0, 0, 0), 8, 2, 1, 4, 0, 0, 0) := rfl
theorem bu_172_71 : mm_at mt_P 172 71 = some ((71, 2, .iload 4, 0, 0, 0, 0), 8, 2, 1, 4, 0, 0, 0) := rfl
theorem bu_172_73 : mm_at mt_P 172 73 = some ((73, 1, .iconst 0, 0, 0, 0, 0), 8, 2, 1, 4, 0, 0, 0) := rfl
theorem bu_172_74 : mm_at mt_P 172 74 = some ((74, 3, .invokevirtual 135, 136, 0, 0, 697), 8, 2, 1, 4, 0, 0, 0) := rfl
theorem bu_172_77 : mm_at mt_P 172 77 = some ((77, 1, .aload_n 0, 0, 0, 0, 0), 8, 2, 1, 4, 0, 0, 0) := rfl
theorem bu_172_78 : mm_at mt_P 172 78 = some ((78, 3, .invokevirtual 49, 161, 0, 0, 633), 8, 2, 1, 4, 0, 0, 0) := rfl
theorem bu_172_81 : mm_at mt_P 172 81 = some ((81, 1, .aload_n 0, 0, 0, 0, 0), 8, 2, 1, 4, 0, 0, 0) := rfl
theorem bu_172_82 : mm_at mt_P 172 82 = some ((82, 1, .iload_n 1, 0, 0, 0, 0), 8, 2, 1, 4, 0, 0, 0) := rfl
theorem bu_172_83 : mm_at mt_P 172 83 = some ((83, 1, .iload_n 2, 0, 0, 0, 0), 8, 2, 1, 4, 0, 0, 0) := rfl
theorem bu_172_84 : mm_at mt_P 172 84 = some ((84, 3, .invokevirtual 147, 175, 0, 0, 693), 8, 2, 1, 4, 0, 0, 0) := rfl
theorem bu_172_87 : mm_at mt_P 172 87 = some ((87, 2, .iload 7, 0, 0, 0, 0), 8, 2, 1, 4, 0, 0, 0) := rfl
theorem bu_172_89 : mm_at mt_P 172 89 = some ((89, 3, .ifCond .eq 10, 0, 0, 0, 0), 8, 2, 1, 4, 0, 0, 0) := rfl
theorem bu_172_92 : mm_at mt_P 172 92 = some ((92, 2, .iload 5, 0, 0, 0, 0), 8, 2, 1, 4, 0, 0, 0) := rfl
theorem bu_172_94 : mm_at mt_P 172 94 = some ((94, 2, .istore 4, 0, 0, 0, 0), 8, 2, 1, 4, 0, 0, 0) := rfl
theorem bu_172_96 : mm_at mt_P 172 96 = some ((96, 3, .goto 10, 0, 0, 0, 0), 8, 2, 1, 4, 0, 0, 0) := rfl
theorem bu_172_99 : mm_at mt_P 172 99 = some ((99, 1, .aload_n 3, 0, 0, 0, 0), 8, 2, 1, 4, 0, 0, 0) := rfl
theorem bu_172_100 : mm_at mt_P 172 100 = some ((100, 2, .iload 5, 0, 0, 0, 0), 8, 2, 1, 4, 0, 0, 0) := rfl
theorem bu_172_102 : mm_at mt_P 172 102 = some ((102, 1, .iconst 0, 0, 0, 0, 0), 8, 2, 1, 4, 0, 0, 0) := rfl
theorem bu_172_103 : mm_at mt_P 172 103 = some ((103, 3, .invokevirtual 135, 136, 0, 0, 697), 8, 2, 1, 4, 0, 0, 0) := rfl
theorem bu_172_106 : mm_at mt_P 172 106 = some ((106, 1, .aload_n 0, 0, 0, 0, 0), 8, 2, 1, 4, 0, 0, 0) := rfl
theorem bu_172_107 : mm_at mt_P 172 107 = some ((107, 3, .invokevirtual 150, 167, 0, 0, 706), 8, 2, 1, 4, 0, 0, 0) := rfl
theorem bu_172_110 : mm_at mt_P 172 110 = some ((110, 2, .istore 5, 0, 0, 0, 0), 8, 2, 1, 4, 0, 0, 0) := rfl
theorem bu_172_112 : mm_at mt_P 172 112 = some ((112, 3, .iinc 6 1, 0, 0, 0, 0), 8, 2, 1, 4, 0, 0, 0) := rfl
theorem bu_172_115 : mm_at mt_P 172 115 = some ((115, 3, .goto (-89), 0, 0, 0, 0), 8, 2, 1, 4, 0, 0, 0) := rfl
theorem bu_172_118 : mm_at mt_P 172 118 = some ((118, 2, .iload 4, 0, 0, 0, 0), 8, 2, 1, 4, 0, 0, 0) := rfl
theorem bu_172_120 : mm_at mt_P 172 120 = some ((120, 1, .iconst (-1), 0, 0, 0, 0), 8, 2, 1, 4, 0, 0, 0) := rfl
theorem bu_172_121 : mm_at mt_P 172 121 = some ((121, 3, .if_icmp .eq 10, 0, 0, 0, 0), 8, 2, 1, 4, 0, 0, 0) := rfl
theorem bu_172_124 : mm_at mt_P 172 124 = some ((124, 1, .aload_n 3, 0, 0, 0, 0), 8, 2, 1, 4, 0, 0, 0) := rfl
theorem bu_172_125 : mm_at mt_P 172 125 = some ((125, 2, .iload 4, 0, 0, 0, 0), 8, 2, 1, 4, 0, 0, 0) := rfl
theorem bu_172_127 : mm_at mt_P 172 127 = some ((127, 1, .iconst 0, 0, 0, 0, 0), 8, 2, 1, 4, 0, 0, 0) := rfl
theorem bu_172_128 : mm_at mt_P 172 128 = some ((128, 3, .invokevirtual 135, 136, 0, 0, 697), 8, 2, 1, 4, 0, 0, 0) := rfl
theorem bu_172_131 : mm_at mt_P 172 131 = some ((131, 1, .return_, 0, 0, 0, 0), 8, 2, 1, 4, 0, 0, 0) := rfl
theorem bu_175_0 : mm_at mt_P 175 0 = some ((0, 1, .aload_n 0, 0, 0, 0, 0), 3, 2, 1, 4, 0, 0, 0) := rfl
theorem bu_175_1 : mm_at mt_P 175 1 = some ((1, 3, .getfield 52, 4, 3, 0, 277), 3, 2, 1, 4, 0, 0, 0) := rfl
theorem bu_175_4 : mm_at mt_P 175 4 = some ((4, 1, .iconst 3, 0, 0, 0, 0), 3, 2, 1, 4, 0, 0, 0) := rfl
theorem bu_175_5 : mm_at mt_P 175 5 = some ((5, 3, .if_icmp .ne 26, 0, 0, 0, 0), 3, 2, 1, 4, 0, 0, 0) := rfl
theorem bu_175_8 : mm_at mt_P 175 8 = some ((8, 1, .aload_n 0, 0, 0, 0, 0), 3, 2, 1, 4, 0, 0, 0) := rfl
theorem bu_175_9 : mm_at mt_P 175 9 = some ((9, 3, .getfield 9, 4, 1, 0, 275), 3, 2, 1, 4, 0, 0, 0) := rfl
theorem bu_175_12 : mm_at mt_P 175 12 = some ((12, 3, .getfield 118, 6, 0, 0, 178), 3, 2, 1, 4, 0, 0, 0) := rfl
theorem bu_175_15 : mm_at mt_P 175 15 = some ((15, 1, .iconst 0, 0, 0, 0, 0), 3, 2, 1, 4, 0, 0, 0) := rfl
theorem bu_175_16 : mm_at mt_P 175 16 = some ((16, 1, .aload_n 0, 0, 0, 0, 0), 3, 2, 1, 4, 0, 0, 0) := rfl
theorem bu_175_17 : mm_at mt_P 175 17 = some ((17, 3, .getfield 58, 4, 4, 0, 278), 3, 2, 1, 4, 0, 0, 0) := rfl
theorem bu_175_20 : mm_at mt_P 175 20 = some ((20, 1, .l2i, 0, 0, 0, 0), 3, 2, 1, 4, 0, 0, 0) := rfl
theorem bu_175_21 : mm_at mt_P 175 21 = some ((21, 3, .invokevirtual 135, 136, 0, 0, 697), 3, 2, 1, 4, 0, 0, 0) := rfl
theorem bu_175_24 : mm_at mt_P 175 24 = some ((24, 1, .aload_n 0, 0, 0, 0, 0), 3, 2, 1, 4, 0, 0, 0) := rfl
theorem bu_175_25 : mm_at mt_P 175 25 = some ((25, 3, .invokevirtual 49, 161, 0, 0, 633), 3, 2, 1, 4, 0, 0, 0) := rfl
theorem bu_175_28 : mm_at mt_P 175 28 = some ((28, 3, .goto 108, 0, 0, 0, 0), 3, 2, 1, 4, 0, 0, 0) := rfl
theorem bu_175_31 : mm_at mt_P 175 31 = some ((31, 1, .aload_n 0, 0, 0, 0, 0), 3, 2, 1, 4, 0, 0, 0) := rfl
theorem bu_175_32 : mm_at mt_P 175 32 = some ((32, 3, .getfield 52, 4, 3, 0, 277), 3, 2, 1, 4, 0, 0, 0) := rfl
theorem bu_175_35 : mm_at mt_P 175 35 = some ((35, 1, .iconst 5, 0, 0, 0, 0), 3, 2, 1, 4, 0, 0, 0) := rfl
theorem bu_175_36 : mm_at mt_P 175 36 = some ((36, 3, .if_icmp .ne 51, 0, 0, 0, 0), 3, 2, 1, 4, 0, 0, 0) := rfl
theorem bu_175_39 : mm_at mt_P 175 39 = some ((39, 1, .aload_n 0, 0, 0, 0, 0), 3, 2, 1, 4, 0, 0, 0) := rfl
theorem bu_175_40 : mm_at mt_P 175 40 = some ((40, 3, .getfield 58, 4, 4, 0, 278), 3, 2, 1, 4, 0, 0, 0) := rfl
theorem bu_175_43 : mm_at mt_P 175 43 = some ((43, 3, .ldc2_w 153, 0, 0, 15, 698), 3, 2, 1, 4, 0, 0, 0) := rfl
theorem bu_175_46 : mm_at mt_P 175 46 = some ((46, 1, .lcmp, 0, 0, 0, 0), 3, 2, 1, 4, 0, 0, 0) := rfl
theorem bu_175_47 : mm_at mt_P 175 47 = some ((47, 3, .ifCond .lt 40, 0, 0, 0, 0), 3, 2, 1, 4, 0, 0, 0) := rfl
theorem bu_175_50 : mm_at mt_P 175 50 = some ((50, 1, .aload_n 0, 0, 0, 0, 0), 3, 2, 1, 4, 0, 0, 0) := rfl
theorem bu_175_51 : mm_at mt_P 175 51 = some ((51, 3, .getfield 58, 4, 4, 0, 278), 3, 2, 1, 4, 0, 0, 0) := rfl
theorem bu_175_54 : mm_at mt_P 175 54 = some ((54, 3, .ldc2_w 155, 0, 0, 23, 699), 3, 2, 1, 4, 0, 0, 0) := rfl
theorem bu_175_57 : mm_at mt_P 175 57 = some ((57, 1, .lcmp, 0, 0, 0, 0), 3, 2, 1, 4, 0, 0, 0) := rfl
theorem bu_175_58 : mm_at mt_P 175 58 = some ((58, 3, .ifCond .gt 29, 0, 0, 0, 0), 3, 2, 1, 4, 0, 0, 0) := rfl
theorem bu_175_61 : mm_at mt_P 175 61 = some ((61, 1, .aload_n 0, 0, 0, 0, 0), 3, 2, 1, 4, 0, 0, 0) := rfl
theorem bu_175_62 : mm_at mt_P 175 62 = some ((62, 3, .getfield 9, 4, 1, 0, 275), 3, 2, 1, 4, 0, 0, 0) := rfl
theorem bu_175_65 : mm_at mt_P 175 65 = some ((65, 3, .getfield 118, 6, 0, 0, 178), 3, 2, 1, 4, 0, 0, 0) := rfl
theorem bu_175_68 : mm_at mt_P 175 68 = some ((68, 1, .iload_n 1, 0, 0, 0, 0), 3, 2, 1, 4, 0, 0, 0) := rfl
theorem bu_175_69 : mm_at mt_P 175 69 = some ((69, 1, .aload_n 0, 0, 0, 0, 0), 3, 2, 1, 4, 0, 0, 0) := rfl
theorem bu_175_70 : mm_at mt_P 175 70 = some ((70, 3, .getfield 58, 4, 4, 0, 278), 3, 2, 1, 4, 0, 0, 0) := rfl
theorem bu_175_73 : mm_at mt_P 175 73 = some ((73, 1, .l2i, 0, 0, 0, 0), 3, 2, 1, 4, 0, 0, 0) := rfl
theorem bu_175_74 : mm_at mt_P 175 74 = some ((74, 2, .bipush 15, 0, 0, 0, 0), 3, 2, 1, 4, 0, 0, 0) := rfl
theorem bu_175_76 : mm_at mt_P 175 76 = some ((76, 1, .isub, 0, 0, 0, 0), 3, 2, 1, 4, 0, 0, 0) := rfl
theorem bu_175_77 : mm_at mt_P 175 77 = some ((77, 3, .invokevirtual 157, 137, 0, 0, 700), 3, 2, 1, 4, 0, 0, 0) := rfl
theorem bu_175_80 : mm_at mt_P 175 80 = some ((80, 1, .aload_n 0, 0, 0, 0, 0), 3, 2, 1, 4, 0, 0, 0) := rfl
theorem bu_175_81 : mm_at mt_P 175 81 = some ((81, 3, .invokevirtual 49, 161, 0, 0, 633), 3, 2, 1, 4, 0, 0, 0) := rfl
theorem bu_175_84 : mm_at mt_P 175 84 = some ((84, 3, .goto 52, 0, 0, 0, 0), 3, 2, 1, 4, 0, 0, 0) := rfl
theorem bu_175_87 : mm_at mt_P 175 87 = some ((87, 1, .aload_n 0, 0, 0, 0, 0), 3, 2, 1, 4, 0, 0, 0) := rfl
theorem bu_175_88 : mm_at mt_P 175 88 = some ((88, 2, .bipush 40, 0, 0, 0, 0), 3, 2, 1, 4, 0, 0, 0) := rfl
theorem bu_175_90 : mm_at mt_P 175 90 = some ((90, 3, .invokevirtual 160, 163, 0, 0, 673), 3, 2, 1, 4, 0, 0, 0) := rfl
theorem bu_175_93 : mm_at mt_P 175 93 = some ((93, 3, .ifCond .ne 11, 0, 0, 0, 0), 3, 2, 1, 4, 0, 0, 0) := rfl
theorem bu_175_96 : mm_at mt_P 175 96 = some ((96, 1, .aload_n 0, 0, 0, 0, 0), 3, 2, 1, 4, 0, 0, 0) := rfl
theorem bu_175_97 : mm_at mt_P 175 97 = some ((97, 1, .iconst 1, 0, 0, 0, 0), 3, 2, 1, 4, 0, 0, 0) := rfl
theorem bu_175_98 : mm_at mt_P 175 98 = some ((98, 3, .invokevirtual 71, 176, 0, 0, 645), 3, 2, 1, 4, 0, 0, 0) := rfl
theorem bu_175_101 : mm_at mt_P 175 101 = some ((101, 3, .goto 35, 0, 0, 0, 0), 3, 2, 1, 4, 0, 0, 0) := rfl
theorem bu_175_104 : mm_at mt_P 175 104 = some ((104, 1, .iload_n 2, 0, 0, 0, 0), 3, 2, 1, 4, 0, 0, 0) := rfl
theorem bu_175_105 : mm_at mt_P 175 105 = some ((105, 2, .bipush 6, 0, 0, 0, 0), 3, 2, 1, 4, 0, 0, 0) := rfl
theorem bu_175_107 : mm_at mt_P 175 107 = some ((107, 3, .if_icmp .lt 11, 0, 0, 0, 0), 3, 2, 1, 4, 0, 0, 0) := rfl
theorem bu_175_110 : mm_at mt_P 175 110 = some ((110, 1, .aload_n 0, 0, 0, 0, 0), 3, 2, 1, 4, 0, 0, 0) := rfl
theorem bu_175_111 : mm_at mt_P 175 111 = some ((111, 1, .iconst 2, 0, 0, 0, 0), 3, 2, 1, 4, 0, 0, 0) := rfl
theorem bu_175_112 : mm_at mt_P 175 112 = some ((112, 3, .invokevirtual 71, 176, 0, 0, 645), 3, 2, 1, 4, 0, 0, 0) := rfl
theorem bu_175_115 : mm_at mt_P 175 115 = some ((115, 3, .goto 21, 0, 0, 0, 0), 3, 2, 1, 4, 0, 0, 0) := rfl
theorem bu_175_118 : mm_at mt_P 175 118 = some ((118, 1, .aload_n 0, 0, 0, 0, 0), 3, 2, 1, 4, 0, 0, 0) := rfl
theorem bu_175_119 : mm_at mt_P 175 119 = some ((119, 3, .invokevirtual 49, 161, 0, 0, 633), 3, 2, 1, 4, 0, 0, 0) := rfl
theorem bu_175_122 : mm_at mt_P 175 122 = some ((122, 1, .aload_n 0, 0, 0, 0, 0), 3, 2, 1, 4, 0, 0, 0) := rfl
theorem bu_175_123 : mm_at mt_P 175 123 = some ((123, 1, .iload_n 1, 0, 0, 0, 0), 3, 2, 1, 4, 0, 0, 0) := rfl
theorem bu_175_124 : mm_at mt_P 175 124 = some ((124, 1, .iload_n 2, 0, 0, 0, 0), 3, 2, 1, 4, 0, 0, 0) := rfl
theorem bu_175_125 : mm_at mt_P 175 125 = some ((125, 1, .iconst 1, 0, 0, 0, 0), 3, 2, 1, 4, 0, 0, 0) := rfl
theorem bu_175_126 : mm_at mt_P 175 126 = some ((126, 1, .iadd, 0, 0, 0, 0), 3, 2, 1, 4, 0, 0, 0) := rfl
theorem bu_175_127 : mm_at mt_P 175 127 = some ((127, 3, .invokevirtual 132, 172, 0, 0, 689), 3, 2, 1, 4, 0, 0, 0) := rfl
theorem bu_175_130 : mm_at mt_P 175 130 = some ((130, 1, .aload_n 0, 0, 0, 0, 0), 3, 2, 1, 4, 0, 0, 0) := rfl
theorem bu_175_131 : mm_at mt_P 175 131 = some ((131, 2, .bipush 41, 0, 0, 0, 0), 3, 2, 1, 4, 0, 0, 0) := rfl
theorem bu_175_133 : mm_at mt_P 175 133 = some ((133, 3, .invokevirtual 96, 177, 0, 0, 669), 3, 2, 1, 4, 0, 0, 0) := rfl
theorem bu_175_136 : mm_at mt_P 175 136 = some ((136, 1, .return_, 0, 0, 0, 0), 3, 2, 1, 4, 0, 0, 0) := rfl
section CR
variable {K V P : Nat → Int} {σ : py_S} {N : Nat} {E : mm_E} {PO : mm_C → Prop} {NN : Nat} {h0 h : mm_H} {s : Nat → Int32} {A : Nat → Nat → Int32} {L : Nat → Nat → Int64} {gs : List mm_F}
theorem cr_175 {x9 y9 : Int32} (hS : ∀ ρ, en_SA E ρ (wl_o x9 y9) mt_SB) {dn : Nat} (hdn : dn ≤ 6) (hs : dn < 6 → rc_SUM K V P N E PO NN h0 172 8 true (dn + 1)) : rc_SUM K V P N E PO NN h0 175 6 false dn := by
  intro σ h s A L gs l d hdd hd hP hR hT hc kk
  have q1 := hR.1
  have q2 := fun e => (hR.2.1 e).2.2.1
  have q3 := fun e => (hR.2.2 e).1
  unfold rc_k at q2
  refine bp_ld (pc' := 1) bu_175_0 rfl rfl (fun _ _ _ => rfl) rfl rfl ?_
  refine bn_gi (pc' := 4) (K := 2003) bu_175_1 rfl rfl (fun _ _ _ => rfl) hP bq_o20 bq_i20_3 rfl rfl ?_
  refine bp_c (pc' := 5) (n := 3) bu_175_4 rfl rfl (fun _ _ _ => rfl) (by decide) (fun c330 e331 => ?_)
  refine bp_ic (pc' := 8) (pt := 31) bu_175_5 rfl rfl (fun k332 => ?_) (fun k332 => ?_)
  · replace k332 : ((s 2003)).toInt ≠ (c330).toInt := k332
    refine bp_ld (pc' := 32) bu_175_31 rfl rfl (fun _ _ _ => rfl) rfl rfl ?_
    refine bn_gi (pc' := 35) (K := 2003) bu_175_32 rfl rfl (fun _ _ _ => rfl) hP bq_o20 bq_i20_3 rfl rfl ?_
    refine bp_c (pc' := 36) (n := 5) bu_175_35 rfl rfl (fun _ _ _ => rfl) (by decide) (fun c333 e334 => ?_)
    refine bp_ic (pc' := 39) (pt := 87) bu_175_36 rfl rfl (fun k335 => ?_) (fun k335 => ?_)
    · replace k335 : ((s 2003)).toInt ≠ (c333).toInt := k335
      refine bp_ld (pc' := 88) bu_175_87 rfl rfl (fun _ _ _ => rfl) rfl rfl ?_
      refine bp_c (pc' := 90) (n := 40) bu_175_88 rfl rfl (fun _ _ _ => rfl) (by decide) (fun c336 e337 => ?_)
      refine bn_cv (pc' := 93) (st := []) (args := [.int c336]) bu_175_90 rfl rfl rfl (by decide) hP bq_o20 (by decide) (by omega) rfl (Nat.le_of_ble_eq_true rfl) (Nat.le_of_ble_eq_true rfl) ?_
      refine cr_163 (c := c336) hP (fun r338 p339 => ?_)
      show bp_G E PO NN ((175, 93, _, [.int r338], 0, 0) :: gs, h, none)
      refine bp_i0 (pc' := 96) (pt := 104) bu_175_93 rfl rfl (fun k340 => ?_) (fun k340 => ?_)
      · replace k340 : (r338).toInt ≠ 0 := k340
        have hf : σ.2.1 = 0 := by
          by_cases e : σ.2.1 = 0
          · exact e
          · have := q3 e
            omega
        have q2 := q2 hf
        have r2 := hR.2.1 hf
        refine bp_ld (pc' := 105) bu_175_104 rfl rfl (fun _ _ _ => rfl) rfl rfl ?_
        refine bp_c (pc' := 107) (n := 6) bu_175_105 rfl rfl (fun _ _ _ => rfl) (by decide) (fun c341 e342 => ?_)
        refine bp_ic (pc' := 110) (pt := 118) bu_175_107 rfl rfl (fun k343 => ?_) (fun k343 => ?_)
        · replace k343 : (d).toInt < (c341).toInt := k343
          refine bp_ld (pc' := 119) bu_175_118 rfl rfl (fun _ _ _ => rfl) rfl rfl ?_
          refine bn_cv (pc' := 122) (st := []) (args := []) bu_175_119 rfl rfl rfl (by decide) hP bq_o20 (by decide) (by omega) rfl (Nat.le_of_ble_eq_true rfl) (Nat.le_of_ble_eq_true rfl) ?_
          refine cr_161 (σ := σ) hP hR hT hf (by omega) (by omega) (fun h344 s345 A346 L347 hP348 F349 R350 => ?_)
          show bp_G E PO NN ((175, 122, _, [], 0, 0) :: gs, h344, none)
          refine bp_ld (pc' := 123) bu_175_122 rfl rfl (fun _ _ _ => rfl) rfl rfl ?_
          refine bp_ld (pc' := 124) bu_175_123 rfl rfl (fun _ _ _ => rfl) rfl rfl ?_
          refine bp_ld (pc' := 125) bu_175_124 rfl rfl (fun _ _ _ => rfl) rfl rfl ?_
          refine bp_c (pc' := 126) (n := 1) bu_175_125 rfl rfl (fun _ _ _ => rfl) (by decide) (fun c351 e352 => ?_)
          refine bp_add (pc' := 127) bu_175_126 rfl (by omega) (by omega) (fun v353 e354 => ?_)
          refine bn_cv (pc' := 130) (st := []) (args := [.int v353, .int l]) bu_175_127 rfl rfl rfl (by decide) hP348 bq_o20 (by decide) (by omega) rfl (Nat.le_of_ble_eq_true rfl) (Nat.le_of_ble_eq_true rfl) ?_
          refine hs (by omega) (py_go σ) _ _ _ _ _ _ _ (by omega) (by simp only [List.length_cons]; omega) hP348 R350 (rc_T_F hT F349) (F349.2.2.2 hc) (fun h355 s356 A357 L358 σ362 hP359 F360 R361 Y363 => ?_)
          show bp_G E PO NN ((175, 130, _, [], 0, 0) :: gs, h355, none)
          refine bp_ld (pc' := 131) bu_175_130 rfl rfl (fun _ _ _ => rfl) rfl rfl ?_
          refine bp_c (pc' := 133) (n := 41) bu_175_131 rfl rfl (fun _ _ _ => rfl) (by decide) (fun c364 e365 => ?_)
          refine bn_cv (pc' := 136) (st := []) (args := [.int c364]) bu_175_133 rfl rfl rfl (by decide) hP359 bq_o20 (by decide) (by omega) rfl (Nat.le_of_ble_eq_true rfl) (Nat.le_of_ble_eq_true rfl) ?_
          refine cr_177 (σ := σ362) (kc := 7) (by omega) hP359 (by simp only [List.length_cons]; omega) R361 (rc_T_F hT (rc_F_t F349 F360)) (fun h366 s367 A368 L369 hP370 F371 R372 => ?_)
          show bp_G E PO NN ((175, 136, _, [], 0, 0) :: gs, h366, none)
          refine bp_rv bu_175_136 ?_
          have hY : rc_Y K V P N dn false σ (py_mu K 7 σ362) := by
            refine ⟨py_u_in r2.2.1.1 hf (by omega) (by omega) Y363.1 (fun e => ⟨(R361.2.1 e).2.1.1, (Y363.2 e).2.2 rfl⟩), fun u => ?_⟩
            have y1 := Y363.2 ((py_mo_mu (σ := σ362)).2 u).1
            have y2 := ((py_mo_mu (K := K) (k := 7) (σ := σ362)).2 u).2
            have y3 := py_go_st y1.1
            exact ⟨hf, by omega, fun u => by cases u⟩
          exact kk _ _ _ _ _ hP370 (rc_F_t (rc_F_t F349 F360) F371) R372 hY
        · replace k343 : ¬ ((d).toInt < (c341).toInt) := k343
          refine bp_ld (pc' := 111) bu_175_110 rfl rfl (fun _ _ _ => rfl) rfl rfl ?_
          refine bp_c (pc' := 112) (n := 2) bu_175_111 rfl rfl (fun _ _ _ => rfl) (by decide) (fun c373 e374 => ?_)
          refine bn_cv (pc' := 115) (st := []) (args := [.int c373]) bu_175_112 rfl rfl rfl (by decide) hP bq_o20 (by decide) (by omega) rfl (Nat.le_of_ble_eq_true rfl) (Nat.le_of_ble_eq_true rfl) ?_
          refine cr_176 (σ := σ) (kn := 2) (by omega) (by decide) hP hR (fun h375 s376 A377 L378 hP379 F380 R381 => ?_)
          show bp_G E PO NN ((175, 115, _, [], 0, 0) :: gs, h375, none)
          refine bp_go (pc' := 136) bu_175_115 rfl ?_
          refine bp_rv bu_175_136 ?_
          have hY : rc_Y K V P N dn false σ (py_fl 2 σ) := ⟨py_u_rm r2.2.1.1 hf (by omega) (by omega), fun u => absurd u (py_fl_f (by decide))⟩
          exact kk _ _ _ _ _ hP379 F380 R381 hY
      · replace k340 : ¬ ((r338).toInt ≠ 0) := k340
        refine bp_ld (pc' := 97) bu_175_96 rfl rfl (fun _ _ _ => rfl) rfl rfl ?_
        refine bp_c (pc' := 98) (n := 1) bu_175_97 rfl rfl (fun _ _ _ => rfl) (by decide) (fun c382 e383 => ?_)
        refine bn_cv (pc' := 101) (st := []) (args := [.int c382]) bu_175_98 rfl rfl rfl (by decide) hP bq_o20 (by decide) (by omega) rfl (Nat.le_of_ble_eq_true rfl) (Nat.le_of_ble_eq_true rfl) ?_
        refine cr_176 (σ := σ) (kn := 1) (by omega) (by decide) hP hR (fun h384 s385 A386 L387 hP388 F389 R390 => ?_)
        show bp_G E PO NN ((175, 101, _, [], 0, 0) :: gs, h384, none)
        refine bp_go (pc' := 136) bu_175_101 rfl ?_
        refine bp_rv bu_175_136 ?_
        have hY : rc_Y K V P N dn false σ (py_fl 1 σ) := ⟨py_u_no (fun e => (hR.2.1 e).2.1.1) (fun hh => by
            have q2 := q2 hh.1
            have q4 := hh.2
            omega), fun u => absurd u (py_fl_f (by decide))⟩
        exact kk _ _ _ _ _ hP388 F389 R390 hY
    · replace k335 : ¬ (((s 2003)).toInt ≠ (c333).toInt) := k335
      refine bp_ld (pc' := 40) bu_175_39 rfl rfl (fun _ _ _ => rfl) rfl rfl ?_
      refine bn_gl (pc' := 43) bu_175_40 rfl rfl (fun _ _ _ => rfl) hP bq_o20 bq_f20_4 ?_
      refine bn_cL (pc' := 46) (n := 15) bu_175_43 rfl rfl (fun _ _ _ => rfl) (by decide) (fun x391 e392 => ?_)
      refine bn_lcmp (pc' := 47) bu_175_46 rfl (fun v393 e394 => ?_)
      refine bp_i0 (pc' := 50) (pt := 87) bu_175_47 rfl rfl (fun k395 => ?_) (fun k395 => ?_)
      · replace k395 : (v393).toInt < 0 := k395
        refine bp_ld (pc' := 88) bu_175_87 rfl rfl (fun _ _ _ => rfl) rfl rfl ?_
        refine bp_c (pc' := 90) (n := 40) bu_175_88 rfl rfl (fun _ _ _ => rfl) (by decide) (fun c396 e397 => ?_)
        refine bn_cv (pc' := 93) (st := []) (args := [.int c396]) bu_175_90 rfl rfl rfl (by decide) hP bq_o20 (by decide) (by omega) rfl (Nat.le_of_ble_eq_true rfl) (Nat.le_of_ble_eq_true rfl) ?_
        refine cr_163 (c := c396) hP (fun r398 p399 => ?_)
        show bp_G E PO NN ((175, 93, _, [.int r398], 0, 0) :: gs, h, none)
        refine bp_i0 (pc' := 96) (pt := 104) bu_175_93 rfl rfl (fun k400 => ?_) (fun k400 => ?_)
        · replace k400 : (r398).toInt ≠ 0 := k400
          have hf : σ.2.1 = 0 := by
            by_cases e : σ.2.1 = 0
            · exact e
            · have := q3 e
              omega
          have q2 := q2 hf
          have r2 := hR.2.1 hf
          refine bp_ld (pc' := 105) bu_175_104 rfl rfl (fun _ _ _ => rfl) rfl rfl ?_
          refine bp_c (pc' := 107) (n := 6) bu_175_105 rfl rfl (fun _ _ _ => rfl) (by decide) (fun c401 e402 => ?_)
          refine bp_ic (pc' := 110) (pt := 118) bu_175_107 rfl rfl (fun k403 => ?_) (fun k403 => ?_)
          · replace k403 : (d).toInt < (c401).toInt := k403
            refine bp_ld (pc' := 119) bu_175_118 rfl rfl (fun _ _ _ => rfl) rfl rfl ?_
            refine bn_cv (pc' := 122) (st := []) (args := []) bu_175_119 rfl rfl rfl (by decide) hP bq_o20 (by decide) (by omega) rfl (Nat.le_of_ble_eq_true rfl) (Nat.le_of_ble_eq_true rfl) ?_
            refine cr_161 (σ := σ) hP hR hT hf (by omega) (by omega) (fun h404 s405 A406 L407 hP408 F409 R410 => ?_)
            show bp_G E PO NN ((175, 122, _, [], 0, 0) :: gs, h404, none)
            refine bp_ld (pc' := 123) bu_175_122 rfl rfl (fun _ _ _ => rfl) rfl rfl ?_
            refine bp_ld (pc' := 124) bu_175_123 rfl rfl (fun _ _ _ => rfl) rfl rfl ?_
            refine bp_ld (pc' := 125) bu_175_124 rfl rfl (fun _ _ _ => rfl) rfl rfl ?_
            refine bp_c (pc' := 126) (n := 1) bu_175_125 rfl rfl (fun _ _ _ => rfl) (by decide) (fun c411 e412 => ?_)
            refine bp_add (pc' := 127) bu_175_126 rfl (by omega) (by omega) (fun v413 e414 => ?_)
            refine bn_cv (pc' := 130) (st := []) (args := [.int v413, .int l]) bu_175_127 rfl rfl rfl (by decide) hP408 bq_o20 (by decide) (by omega) rfl (Nat.le_of_ble_eq_true rfl) (Nat.le_of_ble_eq_true rfl) ?_
            refine hs (by omega) (py_go σ) _ _ _ _ _ _ _ (by omega) (by simp only [List.length_cons]; omega) hP408 R410 (rc_T_F hT F409) (F409.2.2.2 hc) (fun h415 s416 A417 L418 σ422 hP419 F420 R421 Y423 => ?_)
            show bp_G E PO NN ((175, 130, _, [], 0, 0) :: gs, h415, none)
            refine bp_ld (pc' := 131) bu_175_130 rfl rfl (fun _ _ _ => rfl) rfl rfl ?_
            refine bp_c (pc' := 133) (n := 41) bu_175_131 rfl rfl (fun _ _ _ => rfl) (by decide) (fun c424 e425 => ?_)
            refine bn_cv (pc' := 136) (st := []) (args := [.int c424]) bu_175_133 rfl rfl rfl (by decide) hP419 bq_o20 (by decide) (by omega) rfl (Nat.le_of_ble_eq_true rfl) (Nat.le_of_ble_eq_true rfl) ?_
            refine cr_177 (σ := σ422) (kc := 7) (by omega) hP419 (by simp only [List.length_cons]; omega) R421 (rc_T_F hT (rc_F_t F409 F420)) (fun h426 s427 A428 L429 hP430 F431 R432 => ?_)
            show bp_G E PO NN ((175, 136, _, [], 0, 0) :: gs, h426, none)
            refine bp_rv bu_175_136 ?_
            have hY : rc_Y K V P N dn false σ (py_mu K 7 σ422) := by
              refine ⟨py_u_in r2.2.1.1 hf (by omega) (by omega) Y423.1 (fun e => ⟨(R421.2.1 e).2.1.1, (Y423.2 e).2.2 rfl⟩), fun u => ?_⟩
              have y1 := Y423.2 ((py_mo_mu (σ := σ422)).2 u).1
              have y2 := ((py_mo_mu (K := K) (k := 7) (σ := σ422)).2 u).2
              have y3 := py_go_st y1.1
              exact ⟨hf, by omega, fun u => by cases u⟩
            exact kk _ _ _ _ _ hP430 (rc_F_t (rc_F_t F409 F420) F431) R432 hY
          · replace k403 : ¬ ((d).toInt < (c401).toInt) := k403
            refine bp_ld (pc' := 111) bu_175_110 rfl rfl (fun _ _ _ => rfl) rfl rfl ?_
            refine bp_c (pc' := 112) (n := 2) bu_175_111 rfl rfl (fun _ _ _ => rfl) (by decide) (fun c433 e434 => ?_)
            refine bn_cv (pc' := 115) (st := []) (args := [.int c433]) bu_175_112 rfl rfl rfl (by decide) hP bq_o20 (by decide) (by omega) rfl (Nat.le_of_ble_eq_true rfl) (Nat.le_of_ble_eq_true rfl) ?_
            refine cr_176 (σ := σ) (kn := 2) (by omega) (by decide) hP hR (fun h435 s436 A437 L438 hP439 F440 R441 => ?_)
            show bp_G E PO NN ((175, 115, _, [], 0, 0) :: gs, h435, none)
            refine bp_go (pc' := 136) bu_175_115 rfl ?_
            refine bp_rv bu_175_136 ?_
            have hY : rc_Y K V P N dn false σ (py_fl 2 σ) := ⟨py_u_rm r2.2.1.1 hf (by omega) (by omega), fun u => absurd u (py_fl_f (by decide))⟩
            exact kk _ _ _ _ _ hP439 F440 R441 hY
        · replace k400 : ¬ ((r398).toInt ≠ 0) := k400
          refine bp_ld (pc' := 97) bu_175_96 rfl rfl (fun _ _ _ => rfl) rfl rfl ?_
          refine bp_c (pc' := 98) (n := 1) bu_175_97 rfl rfl (fun _ _ _ => rfl) (by decide) (fun c442 e443 => ?_)
          refine bn_cv (pc' := 101) (st := []) (args := [.int c442]) bu_175_98 rfl rfl rfl (by decide) hP bq_o20 (by decide) (by omega) rfl (Nat.le_of_ble_eq_true rfl) (Nat.le_of_ble_eq_true rfl) ?_
          refine cr_176 (σ := σ) (kn := 1) (by omega) (by decide) hP hR (fun h444 s445 A446 L447 hP448 F449 R450 => ?_)
          show bp_G E PO NN ((175, 101, _, [], 0, 0) :: gs, h444, none)
          refine bp_go (pc' := 136) bu_175_101 rfl ?_
          refine bp_rv bu_175_136 ?_
          have hY : rc_Y K V P N dn false σ (py_fl 1 σ) := ⟨py_u_no (fun e => (hR.2.1 e).2.1.1) (fun hh => by
              have q2 := q2 hh.1
              have q4 := hh.2
              omega), fun u => absurd u (py_fl_f (by decide))⟩
          exact kk _ _ _ _ _ hP448 F449 R450 hY
      · replace k395 : ¬ ((v393).toInt < 0) := k395
        refine bp_ld (pc' := 51) bu_175_50 rfl rfl (fun _ _ _ => rfl) rfl rfl ?_
        refine bn_gl (pc' := 54) bu_175_51 rfl rfl (fun _ _ _ => rfl) hP bq_o20 bq_f20_4 ?_
        refine bn_cL (pc' := 57) (n := 23) bu_175_54 rfl rfl (fun _ _ _ => rfl) (by decide) (fun x451 e452 => ?_)
        refine bn_lcmp (pc' := 58) bu_175_57 rfl (fun v453 e454 => ?_)
        refine bp_i0 (pc' := 61) (pt := 87) bu_175_58 rfl rfl (fun k455 => ?_) (fun k455 => ?_)
        · replace k455 : 0 < (v453).toInt := k455
          refine bp_ld (pc' := 88) bu_175_87 rfl rfl (fun _ _ _ => rfl) rfl rfl ?_
          refine bp_c (pc' := 90) (n := 40) bu_175_88 rfl rfl (fun _ _ _ => rfl) (by decide) (fun c456 e457 => ?_)
          refine bn_cv (pc' := 93) (st := []) (args := [.int c456]) bu_175_90 rfl rfl rfl (by decide) hP bq_o20 (by decide) (by omega) rfl (Nat.le_of_ble_eq_true rfl) (Nat.le_of_ble_eq_true rfl) ?_
          refine cr_163 (c := c456) hP (fun r458 p459 => ?_)
          show bp_G E PO NN ((175, 93, _, [.int r458], 0, 0) :: gs, h, none)
          refine bp_i0 (pc' := 96) (pt := 104) bu_175_93 rfl rfl (fun k460 => ?_) (fun k460 => ?_)
          · replace k460 : (r458).toInt ≠ 0 := k460
            have hf : σ.2.1 = 0 := by
              by_cases e : σ.2.1 = 0
              · exact e
              · have := q3 e
                omega
            have q2 := q2 hf
            have r2 := hR.2.1 hf
            refine bp_ld (pc' := 105) bu_175_104 rfl rfl (fun _ _ _ => rfl) rfl rfl ?_
            refine bp_c (pc' := 107) (n := 6) bu_175_105 rfl rfl (fun _ _ _ => rfl) (by decide) (fun c461 e462 => ?_)
            refine bp_ic (pc' := 110) (pt := 118) bu_175_107 rfl rfl (fun k463 => ?_) (fun k463 => ?_)
            · replace k463 : (d).toInt < (c461).toInt := k463
              refine bp_ld (pc' := 119) bu_175_118 rfl rfl (fun _ _ _ => rfl) rfl rfl ?_
              refine bn_cv (pc' := 122) (st := []) (args := []) bu_175_119 rfl rfl rfl (by decide) hP bq_o20 (by decide) (by omega) rfl (Nat.le_of_ble_eq_true rfl) (Nat.le_of_ble_eq_true rfl) ?_
              refine cr_161 (σ := σ) hP hR hT hf (by omega) (by omega) (fun h464 s465 A466 L467 hP468 F469 R470 => ?_)
              show bp_G E PO NN ((175, 122, _, [], 0, 0) :: gs, h464, none)
              refine bp_ld (pc' := 123) bu_175_122 rfl rfl (fun _ _ _ => rfl) rfl rfl ?_
              refine bp_ld (pc' := 124) bu_175_123 rfl rfl (fun _ _ _ => rfl) rfl rfl ?_
              refine bp_ld (pc' := 125) bu_175_124 rfl rfl (fun _ _ _ => rfl) rfl rfl ?_
              refine bp_c (pc' := 126) (n := 1) bu_175_125 rfl rfl (fun _ _ _ => rfl) (by decide) (fun c471 e472 => ?_)
              refine bp_add (pc' := 127) bu_175_126 rfl (by omega) (by omega) (fun v473 e474 => ?_)
              refine bn_cv (pc' := 130) (st := []) (args := [.int v473, .int l]) bu_175_127 rfl rfl rfl (by decide) hP468 bq_o20 (by decide) (by omega) rfl (Nat.le_of_ble_eq_true rfl) (Nat.le_of_ble_eq_true rfl) ?_
              refine hs (by omega) (py_go σ) _ _ _ _ _ _ _ (by omega) (by simp only [List.length_cons]; omega) hP468 R470 (rc_T_F hT F469) (F469.2.2.2 hc) (fun h475 s476 A477 L478 σ482 hP479 F480 R481 Y483 => ?_)
              show bp_G E PO NN ((175, 130, _, [], 0, 0) :: gs, h475, none)
              refine bp_ld (pc' := 131) bu_175_130 rfl rfl (fun _ _ _ => rfl) rfl rfl ?_
              refine bp_c (pc' := 133) (n := 41) bu_175_131 rfl rfl (fun _ _ _ => rfl) (by decide) (fun c484 e485 => ?_)
              refine bn_cv (pc' := 136) (st := []) (args := [.int c484]) bu_175_133 rfl rfl rfl (by decide) hP479 bq_o20 (by decide) (by omega) rfl (Nat.le_of_ble_eq_true rfl) (Nat.le_of_ble_eq_true rfl) ?_
              refine cr_177 (σ := σ482) (kc := 7) (by omega) hP479 (by simp only [List.length_cons]; omega) R481 (rc_T_F hT (rc_F_t F469 F480)) (fun h486 s487 A488 L489 hP490 F491 R492 => ?_)
              show bp_G E PO NN ((175, 136, _, [], 0, 0) :: gs, h486, none)
              refine bp_rv bu_175_136 ?_
              have hY : rc_Y K V P N dn false σ (py_mu K 7 σ482) := by
                refine ⟨py_u_in r2.2.1.1 hf (by omega) (by omega) Y483.1 (fun e => ⟨(R481.2.1 e).2.1.1, (Y483.2 e).2.2 rfl⟩), fun u => ?_⟩
                have y1 := Y483.2 ((py_mo_mu (σ := σ482)).2 u).1
                have y2 := ((py_mo_mu (K := K) (k := 7) (σ := σ482)).2 u).2
                have y3 := py_go_st y1.1
                exact ⟨hf, by omega, fun u => by cases u⟩
              exact kk _ _ _ _ _ hP490 (rc_F_t (rc_F_t F469 F480) F491) R492 hY
            · replace k463 : ¬ ((d).toInt < (c461).toInt) := k463
              refine bp_ld (pc' := 111) bu_175_110 rfl rfl (fun _ _ _ => rfl) rfl rfl ?_
              refine bp_c (pc' := 112) (n := 2) bu_175_111 rfl rfl (fun _ _ _ => rfl) (by decide) (fun c493 e494 => ?_)
              refine bn_cv (pc' := 115) (st := []) (args := [.int c493]) bu_175_112 rfl rfl rfl (by decide) hP bq_o20 (by decide) (by omega) rfl (Nat.le_of_ble_eq_true rfl) (Nat.le_of_ble_eq_true rfl) ?_
              refine cr_176 (σ := σ) (kn := 2) (by omega) (by decide) hP hR (fun h495 s496 A497 L498 hP499 F500 R501 => ?_)
              show bp_G E PO NN ((175, 115, _, [], 0, 0) :: gs, h495, none)
              refine bp_go (pc' := 136) bu_175_115 rfl ?_
              refine bp_rv bu_175_136 ?_
              have hY : rc_Y K V P N dn false σ (py_fl 2 σ) := ⟨py_u_rm r2.2.1.1 hf (by omega) (by omega), fun u => absurd u (py_fl_f (by decide))⟩
              exact kk _ _ _ _ _ hP499 F500 R501 hY
          · replace k460 : ¬ ((r458).toInt ≠ 0) := k460
            refine bp_ld (pc' := 97) bu_175_96 rfl rfl (fun _ _ _ => rfl) rfl rfl ?_
            refine bp_c (pc' := 98) (n := 1) bu_175_97 rfl rfl (fun _ _ _ => rfl) (by decide) (fun c502 e503 => ?_)
            refine bn_cv (pc' := 101) (st := []) (args := [.int c502]) bu_175_98 rfl rfl rfl (by decide) hP bq_o20 (by decide) (by omega) rfl (Nat.le_of_ble_eq_true rfl) (Nat.le_of_ble_eq_true rfl) ?_
            refine cr_176 (σ := σ) (kn := 1) (by omega) (by decide) hP hR (fun h504 s505 A506 L507 hP508 F509 R510 => ?_)
            show bp_G E PO NN ((175, 101, _, [], 0, 0) :: gs, h504, none)
            refine bp_go (pc' := 136) bu_175_101 rfl ?_
            refine bp_rv bu_175_136 ?_
            have hY : rc_Y K V P N dn false σ (py_fl 1 σ) := ⟨py_u_no (fun e => (hR.2.1 e).2.1.1) (fun hh => by
                have q2 := q2 hh.1
                have q4 := hh.2
                omega), fun u => absurd u (py_fl_f (by decide))⟩
            exact kk _ _ _ _ _ hP508 F509 R510 hY
        · replace k455 : ¬ (0 < (v453).toInt) := k455
          have hf : σ.2.1 = 0 := by
            by_cases e : σ.2.1 = 0
            · exact e
            · have := q3 e
              omega
          have q2 := q2 hf
          have r2 := hR.2.1 hf
          refine bp_ld (pc' := 62) bu_175_61 rfl rfl (fun _ _ _ => rfl) rfl rfl ?_
          refine bn_gr (pc' := 65) (t := 11) bu_175_62 rfl rfl (fun _ _ _ => rfl) hP bq_o20 bq_r20_1 ?_
          refine bn_gr (pc' := 68) (t := 12) bu_175_65 rfl rfl (fun _ _ _ => rfl) hP bq_o11 bq_r11_0 ?_
          refine bp_ld (pc' := 69) bu_175_68 rfl rfl (fun _ _ _ => rfl) rfl rfl ?_
          refine bp_ld (pc' := 70) bu_175_69 rfl rfl (fun _ _ _ => rfl) rfl rfl ?_
          refine bn_gl (pc' := 73) bu_175_70 rfl rfl (fun _ _ _ => rfl) hP bq_o20 bq_f20_4 ?_
          refine bn_l2i (pc' := 74) bu_175_73 rfl (fun x511 e512 => ?_)
          have w513 := e512 (by omega) (by omega)
          refine bp_c (pc' := 76) (n := 15) bu_175_74 rfl rfl (fun _ _ _ => rfl) (by decide) (fun c514 e515 => ?_)
          refine bp_sub (pc' := 77) bu_175_76 rfl (by omega) (by omega) (fun v516 e517 => ?_)
          refine bn_cv (pc' := 80) (st := []) (args := [.int v516, .int l]) bu_175_77 rfl rfl rfl (by decide) hP bq_o12 (by decide) (by omega) rfl (Nat.le_of_ble_eq_true rfl) (Nat.le_of_ble_eq_true rfl) ?_
          refine cr_137 hS hP (by simp only [List.length_cons]; omega) hc (fun h518 s519 A520 hP521 f522 a523 z524 => ?_)
          show bp_G E PO NN ((175, 80, _, [], 0, 0) :: gs, h518, none)
          refine bp_ld (pc' := 81) bu_175_80 rfl rfl (fun _ _ _ => rfl) rfl rfl ?_
          refine bn_cv (pc' := 84) (st := []) (args := []) bu_175_81 rfl rfl rfl (by decide) hP521 bq_o20 (by decide) (by omega) rfl (Nat.le_of_ble_eq_true rfl) (Nat.le_of_ble_eq_true rfl) ?_
          refine cr_161 (σ := σ) hP521 (rc_R_e hR f522) (rc_T_F hT (rc_F_e f522 a523 z524)) hf (by omega) (by omega) (fun h525 s526 A527 L528 hP529 F530 R531 => ?_)
          show bp_G E PO NN ((175, 84, _, [], 0, 0) :: gs, h525, none)
          refine bp_go (pc' := 136) bu_175_84 rfl ?_
          refine bp_rv bu_175_136 ?_
          have hY : rc_Y K V P N dn false σ (py_go σ) := ⟨py_x_u r2.2.1.1 hf (by omega), fun u => ⟨hf, by rw [(py_go_st u).2]; exact Nat.le_refl _, fun u => by cases u⟩⟩
          exact kk _ _ _ _ _ hP529 (rc_F_t (rc_F_e f522 a523 z524) F530) R531 hY
  · replace k332 : ¬ (((s 2003)).toInt ≠ (c330).toInt) := k332
    have hf : σ.2.1 = 0 := by
      by_cases e : σ.2.1 = 0
      · exact e
      · have := q3 e
        omega
    have q2 := q2 hf
    have r2 := hR.2.1 hf
    refine bp_ld (pc' := 9) bu_175_8 rfl rfl (fun _ _ _ => rfl) rfl rfl ?_
    refine bn_gr (pc' := 12) (t := 11) bu_175_9 rfl rfl (fun _ _ _ => rfl) hP bq_o20 bq_r20_1 ?_
    refine bn_gr (pc' := 15) (t := 12) bu_175_12 rfl rfl (fun _ _ _ => rfl) hP bq_o11 bq_r11_0 ?_
    refine bp_c (pc' := 16) (n := 0) bu_175_15 rfl rfl (fun _ _ _ => rfl) (by decide) (fun c532 e533 => ?_)
    refine bp_ld (pc' := 17) bu_175_16 rfl rfl (fun _ _ _ => rfl) rfl rfl ?_
    refine bn_gl (pc' := 20) bu_175_17 rfl rfl (fun _ _ _ => rfl) hP bq_o20 bq_f20_4 ?_
    refine bn_l2i (pc' := 21) bu_175_20 rfl (fun x534 e535 => ?_)
    refine bn_cv (pc' := 24) (st := []) (args := [.int x534, .int c532]) bu_175_21 rfl rfl rfl (by decide) hP bq_o12 (by decide) (by omega) rfl (Nat.le_of_ble_eq_true rfl) (Nat.le_of_ble_eq_true rfl) ?_
    refine cr_136 hP hc (fun h536 s537 A538 hP539 f540 a541 z542 => ?_)
    show bp_G E PO NN ((175, 24, _, [], 0, 0) :: gs, h536, none)
    refine bp_ld (pc' := 25) bu_175_24 rfl rfl (fun _ _ _ => rfl) rfl rfl ?_
    refine bn_cv (pc' := 28) (st := []) (args := []) bu_175_25 rfl rfl rfl (by decide) hP539 bq_o20 (by decide) (by omega) rfl (Nat.le_of_ble_eq_true rfl) (Nat.le_of_ble_eq_true rfl) ?_
    refine cr_161 (σ := σ) hP539 (rc_R_e hR f540) (rc_T_F hT (rc_F_e f540 a541 z542)) hf (by omega) (by omega) (fun h543 s544 A545 L546 hP547 F548 R549 => ?_)
    show bp_G E PO NN ((175, 28, _, [], 0, 0) :: gs, h543, none)
    refine bp_go (pc' := 136) bu_175_28 rfl ?_
    refine bp_rv bu_175_136 ?_
    have hY : rc_Y K V P N dn false σ (py_go σ) := ⟨py_x_u r2.2.1.1 hf (by omega), fun u => ⟨hf, by rw [(py_go_st u).2]; exact Nat.le_refl _, fun u => by cases u⟩⟩
    exact kk _ _ _ _ _ hP547 (rc_F_t (rc_F_e f540 a541 z542) F548) R549 hY
set_option maxHeartbeats 4000000 in
theorem cr_172l {dn : Nat} (hdn : dn ≤ 6) (hu : rc_SUM K V P N E PO NN h0 175 6 false dn) {σ0 : py_S} {s0 : Nat → Int32} {A0 : Nat → Nat → Int32} {L0 : Nat → Nat → Int64} (hT : rc_T K V P N s0 A0 L0) {l d : Int32} (hdd : d.toInt = (dn : Int)) (hd : gs.length + 4 * (7 - dn) + 8 ≤ 999) (kk : ∀ (h' : mm_H) (s' : Nat → Int32) (A' : Nat → Nat → Int32) (L' : Nat → Nat → Int64) (σ' : py_S), bm_P bq_T E h0 h' s' A' L' → rc_F s0 A0 L0 s' A' L' → rc_R K V P N σ' s' L' → rc_Y K V P N dn true σ0 σ' → bp_G E PO NN (mm_back none gs h')) : ∀ n : Nat, ∀ (h : mm_H) (s : Nat → Int32) (A : Nat → Nat → Int32) (L : Nat → Nat → Int64) (σ : py_S) (lv : mm_V) (o : Option Value) (w q i : Int32), bm_P bq_T E h0 h s A L → rc_F s0 A0 L0 s A L → rc_R K V P N σ s L → (0 ≤ (s 1204).toInt ∧ (s 1204).toInt ≤ 432 ∧ 0 ≤ (s 1104).toInt ∧ (s 1104).toInt ≤ 6) → mm_get lv 0 = some (.ref (E.1 + 20)) → mm_get lv 1 = some (.int l) → mm_get lv 2 = some (.int d) → mm_get lv 3 = some (.ref (E.1 + 12)) → mm_get lv 4 = some (.int w) → mm_get lv 5 = some (.int q) → mm_get lv 6 = some (.int i) → (w.toInt = -1 ∨ w.toInt = 4 ∨ w.toInt = 5) → ((q.toInt = -1 ∧ ¬ (σ.2.1 = 0 ∧ (K σ.1 = 8 ∨ K σ.1 = 9 ∨ K σ.1 = 10 ∨ K σ.1 = 15))) ∨ (q.toInt ≠ -1 ∧ σ.2.1 = 0 ∧ ((K σ.1 = 8 ∧ q.toInt = 4) ∨ (K σ.1 = 9 ∧ q.toInt = 5) ∨ (K σ.1 = 10 ∧ q.toInt = 6) ∨ (K σ.1 = 15 ∧ q.toInt = 7)))) → 0 ≤ i.toInt → i.toInt ≤ 400 → 400 - i.toInt < (n : Int) → py_x K true dn σ0 = py_x K false dn σ → (σ.2.1 = 0 → σ0.2.1 = 0 ∧ (σ0.1 : Int) + 1 + i.toInt ≤ σ.1) → bp_G E PO NN ((172, 26, lv, [], 0, 0) :: gs, h, o) := by
  intro n
  induction n with
  | zero =>
    intro h s A L σ lv o w q i hP hF hR hc g0 g1 g2 g3 g4 g5 g6 hw hq i0 i4 hN hx hm
    exfalso
    omega
  | succ n ih =>
    intro h s A L σ lv o w q i hP hF hR hc g0 g1 g2 g3 g4 g5 g6 hw hq i0 i4 hN hx hm
    refine bp_ld (pc' := 28) bu_172_26 rfl rfl (fun _ _ _ => rfl) g6 rfl ?_
    refine bp_c (pc' := 31) (n := 400) bu_172_28 rfl rfl (fun _ _ _ => rfl) (by decide) (fun c550 e551 => ?_)
    refine bp_ic (pc' := 34) (pt := 118) bu_172_31 rfl rfl (fun k552 => ?_) (fun k552 => ?_)
    · replace k552 : (c550).toInt ≤ (i).toInt := k552
      refine bp_ld (pc' := 120) bu_172_118 rfl rfl (fun _ _ _ => rfl) g4 rfl ?_
      refine bp_c (pc' := 121) (n := -1) bu_172_120 rfl rfl (fun _ _ _ => rfl) (by decide) (fun c553 e554 => ?_)
      refine bp_ic (pc' := 124) (pt := 131) bu_172_121 rfl rfl (fun k555 => ?_) (fun k555 => ?_)
      · replace k555 : (w).toInt = (c553).toInt := k555
        refine bp_rv bu_172_131 ?_
        exact kk _ _ _ _ _ hP hF hR ⟨hx, fun u => by
          have y3 := hm u
          have y4 := (hR.2.1 u).2.1.1
          exact ⟨y3.1, by omega, fun _ hz => by omega⟩⟩
      · replace k555 : ¬ ((w).toInt = (c553).toInt) := k555
        refine bp_ld (pc' := 125) bu_172_124 rfl rfl (fun _ _ _ => rfl) g3 rfl ?_
        refine bp_ld (pc' := 127) bu_172_125 rfl rfl (fun _ _ _ => rfl) g4 rfl ?_
        refine bp_c (pc' := 128) (n := 0) bu_172_127 rfl rfl (fun _ _ _ => rfl) (by decide) (fun c556 e557 => ?_)
        refine bn_cv (pc' := 131) (st := []) (args := [.int c556, .int w]) bu_172_128 rfl rfl rfl (by decide) hP bq_o12 (by decide) (by omega) rfl (Nat.le_of_ble_eq_true rfl) (Nat.le_of_ble_eq_true rfl) ?_
        refine cr_136 hP hc (fun h558 s559 A560 hP561 f562 a563 z564 => ?_)
        show bp_G E PO NN ((172, 131, lv, [], 0, 0) :: gs, h558, none)
        refine bp_rv bu_172_131 ?_
        exact kk _ _ _ _ _ hP561 (rc_F_t hF (rc_F_e f562 a563 z564)) (rc_R_e hR f562) ⟨hx, fun u => by
          have y3 := hm u
          have y4 := (hR.2.1 u).2.1.1
          exact ⟨y3.1, by omega, fun _ hz => by omega⟩⟩
    · replace k552 : ¬ ((c550).toInt ≤ (i).toInt) := k552
      refine bp_ld (pc' := 36) bu_172_34 rfl rfl (fun _ _ _ => rfl) g5 rfl ?_
      refine bp_c (pc' := 37) (n := -1) bu_172_36 rfl rfl (fun _ _ _ => rfl) (by decide) (fun c565 e566 => ?_)
      refine bp_ic (pc' := 40) (pt := 118) bu_172_37 rfl rfl (fun k567 => ?_) (fun k567 => ?_)
      · replace k567 : (q).toInt = (c565).toInt := k567
        refine bp_ld (pc' := 120) bu_172_118 rfl rfl (fun _ _ _ => rfl) g4 rfl ?_
        refine bp_c (pc' := 121) (n := -1) bu_172_120 rfl rfl (fun _ _ _ => rfl) (by decide) (fun c568 e569 => ?_)
        refine bp_ic (pc' := 124) (pt := 131) bu_172_121 rfl rfl (fun k570 => ?_) (fun k570 => ?_)
        · replace k570 : (w).toInt = (c568).toInt := k570
          refine bp_rv bu_172_131 ?_
          exact kk _ _ _ _ _ hP hF hR ⟨hx, fun u => by
            have y3 := hm u
            have y4 := (hR.2.1 u).2.1.1
            exact ⟨y3.1, by omega, fun _ hz => by omega⟩⟩
        · replace k570 : ¬ ((w).toInt = (c568).toInt) := k570
          refine bp_ld (pc' := 125) bu_172_124 rfl rfl (fun _ _ _ => rfl) g3 rfl ?_
          refine bp_ld (pc' := 127) bu_172_125 rfl rfl (fun _ _ _ => rfl) g4 rfl ?_
          refine bp_c (pc' := 128) (n := 0) bu_172_127 rfl rfl (fun _ _ _ => rfl) (by decide) (fun c571 e572 => ?_)
          refine bn_cv (pc' := 131) (st := []) (args := [.int c571, .int w]) bu_172_128 rfl rfl rfl (by decide) hP bq_o12 (by decide) (by omega) rfl (Nat.le_of_ble_eq_true rfl) (Nat.le_of_ble_eq_true rfl) ?_
          refine cr_136 hP hc (fun h573 s574 A575 hP576 f577 a578 z579 => ?_)
          show bp_G E PO NN ((172, 131, lv, [], 0, 0) :: gs, h573, none)
          refine bp_rv bu_172_131 ?_
          exact kk _ _ _ _ _ hP576 (rc_F_t hF (rc_F_e f577 a578 z579)) (rc_R_e hR f577) ⟨hx, fun u => by
            have y3 := hm u
            have y4 := (hR.2.1 u).2.1.1
            exact ⟨y3.1, by omega, fun _ hz => by omega⟩⟩
      · replace k567 : ¬ ((q).toInt = (c565).toInt) := k567
        refine bp_ld (pc' := 42) bu_172_40 rfl rfl (fun _ _ _ => rfl) g5 rfl ?_
        refine bp_c (pc' := 43) (n := 4) bu_172_42 rfl rfl (fun _ _ _ => rfl) (by decide) (fun c580 e581 => ?_)
        refine bp_ic (pc' := 46) (pt := 52) bu_172_43 rfl rfl (fun k582 => ?_) (fun k582 => ?_)
        · replace k582 : (q).toInt = (c580).toInt := k582
          refine bp_c (pc' := 53) (n := 1) bu_172_52 rfl rfl (fun _ _ _ => rfl) (by decide) (fun c583 e584 => ?_)
          refine bp_go (pc' := 57) bu_172_53 rfl ?_
          refine bp_st (pc' := 59) bu_172_57 rfl rfl (fun _ _ _ => rfl) rfl (by decide) (by decide) (fun lv585 F586 g587 => ?_)
          have g588 := F586 0 (.ref (E.1 + 20)) g0 (by decide) (Or.inl rfl)
          have g589 := F586 1 (.int l) g1 (by decide) (Or.inl rfl)
          have g590 := F586 2 (.int d) g2 (by decide) (Or.inl rfl)
          have g591 := F586 3 (.ref (E.1 + 12)) g3 (by decide) (Or.inl rfl)
          have g592 := F586 4 (.int w) g4 (by decide) (Or.inl rfl)
          have g593 := F586 5 (.int q) g5 (by decide) (Or.inl rfl)
          have g594 := F586 6 (.int i) g6 (by decide) (Or.inl rfl)
          refine bp_ld (pc' := 61) bu_172_59 rfl rfl (fun _ _ _ => rfl) g587 rfl ?_
          refine bp_i0 (pc' := 64) (pt := 77) bu_172_61 rfl rfl (fun k595 => ?_) (fun k595 => ?_)
          · replace k595 : (c583).toInt = 0 := k595
            omega
          · replace k595 : ¬ ((c583).toInt = 0) := k595
            refine bp_ld (pc' := 66) bu_172_64 rfl rfl (fun _ _ _ => rfl) g592 rfl ?_
            refine bp_c (pc' := 67) (n := -1) bu_172_66 rfl rfl (fun _ _ _ => rfl) (by decide) (fun c596 e597 => ?_)
            refine bp_ic (pc' := 70) (pt := 77) bu_172_67 rfl rfl (fun k598 => ?_) (fun k598 => ?_)
            · replace k598 : (w).toInt = (c596).toInt := k598
              refine bp_ld (pc' := 78) bu_172_77 rfl rfl (fun _ _ _ => rfl) g588 rfl ?_
              refine bn_cv (pc' := 81) (st := []) (args := []) bu_172_78 rfl rfl rfl (by decide) hP bq_o20 (by decide) (by omega) rfl (Nat.le_of_ble_eq_true rfl) (Nat.le_of_ble_eq_true rfl) ?_
              have hf : σ.2.1 = 0 := by omega
              have ho : K σ.1 = 8 ∨ K σ.1 = 9 ∨ K σ.1 = 10 ∨ K σ.1 = 15 := by omega
              refine cr_161 (σ := σ) hP hR (rc_T_F hT hF) hf (by omega) (by omega) (fun h599 s600 A601 L602 hP603 F604 R605 => ?_)
              show bp_G E PO NN ((172, 81, lv585, [], 0, 0) :: gs, h599, none)
              refine bp_ld (pc' := 82) bu_172_81 rfl rfl (fun _ _ _ => rfl) g588 rfl ?_
              refine bp_ld (pc' := 83) bu_172_82 rfl rfl (fun _ _ _ => rfl) g589 rfl ?_
              refine bp_ld (pc' := 84) bu_172_83 rfl rfl (fun _ _ _ => rfl) g590 rfl ?_
              refine bn_cv (pc' := 87) (st := []) (args := [.int d, .int l]) bu_172_84 rfl rfl rfl (by decide) hP603 bq_o20 (by decide) (by omega) rfl (Nat.le_of_ble_eq_true rfl) (Nat.le_of_ble_eq_true rfl) ?_
              refine hu (py_go σ) _ _ _ _ _ _ _ hdd (by simp only [List.length_cons]; omega) hP603 R605 (rc_T_F hT (rc_F_t hF F604)) (F604.2.2.2 hc) (fun h606 s607 A608 L609 σ613 hP610 F611 R612 Y614 => ?_)
              show bp_G E PO NN ((172, 87, lv585, [], 0, 0) :: gs, h606, none)
              refine bp_ld (pc' := 89) bu_172_87 rfl rfl (fun _ _ _ => rfl) g587 rfl ?_
              refine bp_i0 (pc' := 92) (pt := 99) bu_172_89 rfl rfl (fun k615 => ?_) (fun k615 => ?_)
              · replace k615 : (c583).toInt = 0 := k615
                omega
              · replace k615 : ¬ ((c583).toInt = 0) := k615
                refine bp_ld (pc' := 94) bu_172_92 rfl rfl (fun _ _ _ => rfl) g593 rfl ?_
                refine bp_st (pc' := 96) bu_172_94 rfl rfl (fun _ _ _ => rfl) rfl (by decide) (by decide) (fun lv616 F617 g618 => ?_)
                have g619 := F617 0 (.ref (E.1 + 20)) g588 (by decide) (Or.inl rfl)
                have g620 := F617 1 (.int l) g589 (by decide) (Or.inl rfl)
                have g621 := F617 2 (.int d) g590 (by decide) (Or.inl rfl)
                have g622 := F617 3 (.ref (E.1 + 12)) g591 (by decide) (Or.inl rfl)
                have g623 := F617 5 (.int q) g593 (by decide) (Or.inl rfl)
                have g624 := F617 6 (.int i) g594 (by decide) (Or.inl rfl)
                have g625 := F617 7 (.int c583) g587 (by decide) (Or.inl rfl)
                refine bp_go (pc' := 106) bu_172_96 rfl ?_
                refine bp_ld (pc' := 107) bu_172_106 rfl rfl (fun _ _ _ => rfl) g619 rfl ?_
                refine bn_cv (pc' := 110) (st := []) (args := []) bu_172_107 rfl rfl rfl (by decide) hP610 bq_o20 (by decide) (by omega) rfl (Nat.le_of_ble_eq_true rfl) (Nat.le_of_ble_eq_true rfl) ?_
                refine cr_167 (σ := σ613) hP610 (by simp only [List.length_cons]; omega) R612 (fun r626 p627 => ?_)
                show bp_G E PO NN ((172, 110, lv616, [.int r626], 0, 0) :: gs, h606, none)
                refine bp_st (pc' := 112) bu_172_110 rfl rfl (fun _ _ _ => rfl) rfl (by decide) (by decide) (fun lv628 F629 g630 => ?_)
                have g631 := F629 0 (.ref (E.1 + 20)) g619 (by decide) (Or.inl rfl)
                have g632 := F629 1 (.int l) g620 (by decide) (Or.inl rfl)
                have g633 := F629 2 (.int d) g621 (by decide) (Or.inl rfl)
                have g634 := F629 3 (.ref (E.1 + 12)) g622 (by decide) (Or.inl rfl)
                have g635 := F629 6 (.int i) g624 (by decide) (Or.inl rfl)
                have g636 := F629 7 (.int c583) g625 (by decide) (Or.inl rfl)
                have g637 := F629 4 (.int q) g618 (by decide) (Or.inl rfl)
                refine bp_inc (pc' := 115) bu_172_112 rfl (by decide) g635 (by decide) (by omega) (by omega) (fun lv638 y641 F639 g640 e642 => ?_)
                have g643 := F639 0 (.ref (E.1 + 20)) g631 (by decide) (Or.inl rfl)
                have g644 := F639 1 (.int l) g632 (by decide) (Or.inl rfl)
                have g645 := F639 2 (.int d) g633 (by decide) (Or.inl rfl)
                have g646 := F639 3 (.ref (E.1 + 12)) g634 (by decide) (Or.inl rfl)
                have g647 := F639 7 (.int c583) g636 (by decide) (Or.inl rfl)
                have g648 := F639 4 (.int q) g637 (by decide) (Or.inl rfl)
                have g649 := F639 5 (.int r626) g630 (by decide) (Or.inl rfl)
                refine bp_go (pc' := 26) bu_172_115 rfl ?_
                have y0 := Y614.2
                exact ih _ _ _ _ σ613 _ _ _ _ _ hP610 (rc_F_t (rc_F_t hF F604) F611) R612 (F611.2.2.2 (F604.2.2.2 hc)) g643 g644 g645 g646 g648 g649 g640   (by omega) p627 (by omega) (by omega) (by omega) ((hx.trans (py_x_p (hR.2.1 hf).2.1.1 hf ho)).trans Y614.1) (fun u => by
                  have y1 := y0 u
                  have y2 := (py_go_st y1.1).2
                  have y3 := hm hf
                  exact ⟨y3.1, by omega⟩)
            · replace k598 : ¬ ((w).toInt = (c596).toInt) := k598
              refine bp_ld (pc' := 71) bu_172_70 rfl rfl (fun _ _ _ => rfl) g591 rfl ?_
              refine bp_ld (pc' := 73) bu_172_71 rfl rfl (fun _ _ _ => rfl) g592 rfl ?_
              refine bp_c (pc' := 74) (n := 0) bu_172_73 rfl rfl (fun _ _ _ => rfl) (by decide) (fun c650 e651 => ?_)
              refine bn_cv (pc' := 77) (st := []) (args := [.int c650, .int w]) bu_172_74 rfl rfl rfl (by decide) hP bq_o12 (by decide) (by omega) rfl (Nat.le_of_ble_eq_true rfl) (Nat.le_of_ble_eq_true rfl) ?_
              refine cr_136 hP hc (fun h652 s653 A654 hP655 f656 a657 z658 => ?_)
              show bp_G E PO NN ((172, 77, lv585, [], 0, 0) :: gs, h652, none)
              refine bp_ld (pc' := 78) bu_172_77 rfl rfl (fun _ _ _ => rfl) g588 rfl ?_
              refine bn_cv (pc' := 81) (st := []) (args := []) bu_172_78 rfl rfl rfl (by decide) hP655 bq_o20 (by decide) (by omega) rfl (Nat.le_of_ble_eq_true rfl) (Nat.le_of_ble_eq_true rfl) ?_
              have hf : σ.2.1 = 0 := by omega
              have ho : K σ.1 = 8 ∨ K σ.1 = 9 ∨ K σ.1 = 10 ∨ K σ.1 = 15 := by omega
              refine cr_161 (σ := σ) hP655 (rc_R_e hR f656) (rc_T_F hT (rc_F_t hF (rc_F_e f656 a657 z658))) hf (by omega) (by omega) (fun h659 s660 A661 L662 hP663 F664 R665 => ?_)
              show bp_G E PO NN ((172, 81, lv585, [], 0, 0) :: gs, h659, none)
              refine bp_ld (pc' := 82) bu_172_81 rfl rfl (fun _ _ _ => rfl) g588 rfl ?_
              refine bp_ld (pc' := 83) bu_172_82 rfl rfl (fun _ _ _ => rfl) g589 rfl ?_
              refine bp_ld (pc' := 84) bu_172_83 rfl rfl (fun _ _ _ => rfl) g590 rfl ?_
              refine bn_cv (pc' := 87) (st := []) (args := [.int d, .int l]) bu_172_84 rfl rfl rfl (by decide) hP663 bq_o20 (by decide) (by omega) rfl (Nat.le_of_ble_eq_true rfl) (Nat.le_of_ble_eq_true rfl) ?_
              refine hu (py_go σ) _ _ _ _ _ _ _ hdd (by simp only [List.length_cons]; omega) hP663 R665 (rc_T_F hT (rc_F_t (rc_F_t hF (rc_F_e f656 a657 z658)) F664)) (F664.2.2.2 z658) (fun h666 s667 A668 L669 σ673 hP670 F671 R672 Y674 => ?_)
              show bp_G E PO NN ((172, 87, lv585, [], 0, 0) :: gs, h666, none)
              refine bp_ld (pc' := 89) bu_172_87 rfl rfl (fun _ _ _ => rfl) g587 rfl ?_
              refine bp_i0 (pc' := 92) (pt := 99) bu_172_89 rfl rfl (fun k675 => ?_) (fun k675 => ?_)
              · replace k675 : (c583).toInt = 0 := k675
                omega
              · replace k675 : ¬ ((c583).toInt = 0) := k675
                refine bp_ld (pc' := 94) bu_172_92 rfl rfl (fun _ _ _ => rfl) g593 rfl ?_
                refine bp_st (pc' := 96) bu_172_94 rfl rfl (fun _ _ _ => rfl) rfl (by decide) (by decide) (fun lv676 F677 g678 => ?_)
                have g679 := F677 0 (.ref (E.1 + 20)) g588 (by decide) (Or.inl rfl)
                have g680 := F677 1 (.int l) g589 (by decide) (Or.inl rfl)
                have g681 := F677 2 (.int d) g590 (by decide) (Or.inl rfl)
                have g682 := F677 3 (.ref (E.1 + 12)) g591 (by decide) (Or.inl rfl)
                have g683 := F677 5 (.int q) g593 (by decide) (Or.inl rfl)
                have g684 := F677 6 (.int i) g594 (by decide) (Or.inl rfl)
                have g685 := F677 7 (.int c583) g587 (by decide) (Or.inl rfl)
                refine bp_go (pc' := 106) bu_172_96 rfl ?_
                refine bp_ld (pc' := 107) bu_172_106 rfl rfl (fun _ _ _ => rfl) g679 rfl ?_
                refine bn_cv (pc' := 110) (st := []) (args := []) bu_172_107 rfl rfl rfl (by decide) hP670 bq_o20 (by decide) (by omega) rfl (Nat.le_of_ble_eq_true rfl) (Nat.le_of_ble_eq_true rfl) ?_
                refine cr_167 (σ := σ673) hP670 (by simp only [List.length_cons]; omega) R672 (fun r686 p687 => ?_)
                show bp_G E PO NN ((172, 110, lv676, [.int r686], 0, 0) :: gs, h666, none)
                refine bp_st (pc' := 112) bu_172_110 rfl rfl (fun _ _ _ => rfl) rfl (by decide) (by decide) (fun lv688 F689 g690 => ?_)
                have g691 := F689 0 (.ref (E.1 + 20)) g679 (by decide) (Or.inl rfl)
                have g692 := F689 1 (.int l) g680 (by decide) (Or.inl rfl)
                have g693 := F689 2 (.int d) g681 (by decide) (Or.inl rfl)
                have g694 := F689 3 (.ref (E.1 + 12)) g682 (by decide) (Or.inl rfl)
                have g695 := F689 6 (.int i) g684 (by decide) (Or.inl rfl)
                have g696 := F689 7 (.int c583) g685 (by decide) (Or.inl rfl)
                have g697 := F689 4 (.int q) g678 (by decide) (Or.inl rfl)
                refine bp_inc (pc' := 115) bu_172_112 rfl (by decide) g695 (by decide) (by omega) (by omega) (fun lv698 y701 F699 g700 e702 => ?_)
                have g703 := F699 0 (.ref (E.1 + 20)) g691 (by decide) (Or.inl rfl)
                have g704 := F699 1 (.int l) g692 (by decide) (Or.inl rfl)
                have g705 := F699 2 (.int d) g693 (by decide) (Or.inl rfl)
                have g706 := F699 3 (.ref (E.1 + 12)) g694 (by decide) (Or.inl rfl)
                have g707 := F699 7 (.int c583) g696 (by decide) (Or.inl rfl)
                have g708 := F699 4 (.int q) g697 (by decide) (Or.inl rfl)
                have g709 := F699 5 (.int r686) g690 (by decide) (Or.inl rfl)
                refine bp_go (pc' := 26) bu_172_115 rfl ?_
                have y0 := Y674.2
                exact ih _ _ _ _ σ673 _ _ _ _ _ hP670 (rc_F_t (rc_F_t (rc_F_t hF (rc_F_e f656 a657 z658)) F664) F671) R672 (F671.2.2.2 (F664.2.2.2 z658)) g703 g704 g705 g706 g708 g709 g700   (by omega) p687 (by omega) (by omega) (by omega) ((hx.trans (py_x_p (hR.2.1 hf).2.1.1 hf ho)).trans Y674.1) (fun u => by
                  have y1 := y0 u
                  have y2 := (py_go_st y1.1).2
                  have y3 := hm hf
                  exact ⟨y3.1, by omega⟩)
        · replace k582 : ¬ ((q).toInt = (c580).toInt) := k582
          refine bp_ld (pc' := 48) bu_172_46 rfl rfl (fun _ _ _ => rfl) g5 rfl ?_
          refine bp_c (pc' := 49) (n := 5) bu_172_48 rfl rfl (fun _ _ _ => rfl) (by decide) (fun c710 e711 => ?_)
          refine bp_ic (pc' := 52) (pt := 56) bu_172_49 rfl rfl (fun k712 => ?_) (fun k712 => ?_)
          · replace k712 : (q).toInt ≠ (c710).toInt := k712
            refine bp_c (pc' := 57) (n := 0) bu_172_56 rfl rfl (fun _ _ _ => rfl) (by decide) (fun c713 e714 => ?_)
            refine bp_st (pc' := 59) bu_172_57 rfl rfl (fun _ _ _ => rfl) rfl (by decide) (by decide) (fun lv715 F716 g717 => ?_)
            have g718 := F716 0 (.ref (E.1 + 20)) g0 (by decide) (Or.inl rfl)
            have g719 := F716 1 (.int l) g1 (by decide) (Or.inl rfl)
            have g720 := F716 2 (.int d) g2 (by decide) (Or.inl rfl)
            have g721 := F716 3 (.ref (E.1 + 12)) g3 (by decide) (Or.inl rfl)
            have g722 := F716 4 (.int w) g4 (by decide) (Or.inl rfl)
            have g723 := F716 5 (.int q) g5 (by decide) (Or.inl rfl)
            have g724 := F716 6 (.int i) g6 (by decide) (Or.inl rfl)
            refine bp_ld (pc' := 61) bu_172_59 rfl rfl (fun _ _ _ => rfl) g717 rfl ?_
            refine bp_i0 (pc' := 64) (pt := 77) bu_172_61 rfl rfl (fun k725 => ?_) (fun k725 => ?_)
            · replace k725 : (c713).toInt = 0 := k725
              refine bp_ld (pc' := 78) bu_172_77 rfl rfl (fun _ _ _ => rfl) g718 rfl ?_
              refine bn_cv (pc' := 81) (st := []) (args := []) bu_172_78 rfl rfl rfl (by decide) hP bq_o20 (by decide) (by omega) rfl (Nat.le_of_ble_eq_true rfl) (Nat.le_of_ble_eq_true rfl) ?_
              have hf : σ.2.1 = 0 := by omega
              have ho : K σ.1 = 8 ∨ K σ.1 = 9 ∨ K σ.1 = 10 ∨ K σ.1 = 15 := by omega
              refine cr_161 (σ := σ) hP hR (rc_T_F hT hF) hf (by omega) (by omega) (fun h726 s727 A728 L729 hP730 F731 R732 => ?_)
              show bp_G E PO NN ((172, 81, lv715, [], 0, 0) :: gs, h726, none)
              refine bp_ld (pc' := 82) bu_172_81 rfl rfl (fun _ _ _ => rfl) g718 rfl ?_
              refine bp_ld (pc' := 83) bu_172_82 rfl rfl (fun _ _ _ => rfl) g719 rfl ?_
              refine bp_ld (pc' := 84) bu_172_83 rfl rfl (fun _ _ _ => rfl) g720 rfl ?_
              refine bn_cv (pc' := 87) (st := []) (args := [.int d, .int l]) bu_172_84 rfl rfl rfl (by decide) hP730 bq_o20 (by decide) (by omega) rfl (Nat.le_of_ble_eq_true rfl) (Nat.le_of_ble_eq_true rfl) ?_
              refine hu (py_go σ) _ _ _ _ _ _ _ hdd (by simp only [List.length_cons]; omega) hP730 R732 (rc_T_F hT (rc_F_t hF F731)) (F731.2.2.2 hc) (fun h733 s734 A735 L736 σ740 hP737 F738 R739 Y741 => ?_)
              show bp_G E PO NN ((172, 87, lv715, [], 0, 0) :: gs, h733, none)
              refine bp_ld (pc' := 89) bu_172_87 rfl rfl (fun _ _ _ => rfl) g717 rfl ?_
              refine bp_i0 (pc' := 92) (pt := 99) bu_172_89 rfl rfl (fun k742 => ?_) (fun k742 => ?_)
              · replace k742 : (c713).toInt = 0 := k742
                refine bp_ld (pc' := 100) bu_172_99 rfl rfl (fun _ _ _ => rfl) g721 rfl ?_
                refine bp_ld (pc' := 102) bu_172_100 rfl rfl (fun _ _ _ => rfl) g723 rfl ?_
                refine bp_c (pc' := 103) (n := 0) bu_172_102 rfl rfl (fun _ _ _ => rfl) (by decide) (fun c743 e744 => ?_)
                refine bn_cv (pc' := 106) (st := []) (args := [.int c743, .int q]) bu_172_103 rfl rfl rfl (by decide) hP737 bq_o12 (by decide) (by omega) rfl (Nat.le_of_ble_eq_true rfl) (Nat.le_of_ble_eq_true rfl) ?_
                refine cr_136 hP737 (F738.2.2.2 (F731.2.2.2 hc)) (fun h745 s746 A747 hP748 f749 a750 z751 => ?_)
                show bp_G E PO NN ((172, 106, lv715, [], 0, 0) :: gs, h745, none)
                refine bp_ld (pc' := 107) bu_172_106 rfl rfl (fun _ _ _ => rfl) g718 rfl ?_
                refine bn_cv (pc' := 110) (st := []) (args := []) bu_172_107 rfl rfl rfl (by decide) hP748 bq_o20 (by decide) (by omega) rfl (Nat.le_of_ble_eq_true rfl) (Nat.le_of_ble_eq_true rfl) ?_
                refine cr_167 (σ := σ740) hP748 (by simp only [List.length_cons]; omega) (rc_R_e R739 f749) (fun r752 p753 => ?_)
                show bp_G E PO NN ((172, 110, lv715, [.int r752], 0, 0) :: gs, h745, none)
                refine bp_st (pc' := 112) bu_172_110 rfl rfl (fun _ _ _ => rfl) rfl (by decide) (by decide) (fun lv754 F755 g756 => ?_)
                have g757 := F755 0 (.ref (E.1 + 20)) g718 (by decide) (Or.inl rfl)
                have g758 := F755 1 (.int l) g719 (by decide) (Or.inl rfl)
                have g759 := F755 2 (.int d) g720 (by decide) (Or.inl rfl)
                have g760 := F755 3 (.ref (E.1 + 12)) g721 (by decide) (Or.inl rfl)
                have g761 := F755 4 (.int w) g722 (by decide) (Or.inl rfl)
                have g762 := F755 6 (.int i) g724 (by decide) (Or.inl rfl)
                have g763 := F755 7 (.int c713) g717 (by decide) (Or.inl rfl)
                refine bp_inc (pc' := 115) bu_172_112 rfl (by decide) g762 (by decide) (by omega) (by omega) (fun lv764 y767 F765 g766 e768 => ?_)
                have g769 := F765 0 (.ref (E.1 + 20)) g757 (by decide) (Or.inl rfl)
                have g770 := F765 1 (.int l) g758 (by decide) (Or.inl rfl)
                have g771 := F765 2 (.int d) g759 (by decide) (Or.inl rfl)
                have g772 := F765 3 (.ref (E.1 + 12)) g760 (by decide) (Or.inl rfl)
                have g773 := F765 4 (.int w) g761 (by decide) (Or.inl rfl)
                have g774 := F765 7 (.int c713) g763 (by decide) (Or.inl rfl)
                have g775 := F765 5 (.int r752) g756 (by decide) (Or.inl rfl)
                refine bp_go (pc' := 26) bu_172_115 rfl ?_
                have y0 := Y741.2
                exact ih _ _ _ _ σ740 _ _ _ _ _ hP748 (rc_F_t (rc_F_t (rc_F_t hF F731) F738) (rc_F_e f749 a750 z751)) (rc_R_e R739 f749) z751 g769 g770 g771 g772 g773 g775 g766   (by omega) p753 (by omega) (by omega) (by omega) ((hx.trans (py_x_p (hR.2.1 hf).2.1.1 hf ho)).trans Y741.1) (fun u => by
                  have y1 := y0 u
                  have y2 := (py_go_st y1.1).2
                  have y3 := hm hf
                  exact ⟨y3.1, by omega⟩)
              · replace k742 : ¬ ((c713).toInt = 0) := k742
                omega
            · replace k725 : ¬ ((c713).toInt = 0) := k725
              omega
          · replace k712 : ¬ ((q).toInt ≠ (c710).toInt) := k712
            refine bp_c (pc' := 53) (n := 1) bu_172_52 rfl rfl (fun _ _ _ => rfl) (by decide) (fun c776 e777 => ?_)
            refine bp_go (pc' := 57) bu_172_53 rfl ?_
            refine bp_st (pc' := 59) bu_172_57 rfl rfl (fun _ _ _ => rfl) rfl (by decide) (by decide) (fun lv778 F779 g780 => ?_)
            have g781 := F779 0 (.ref (E.1 + 20)) g0 (by decide) (Or.inl rfl)
            have g782 := F779 1 (.int l) g1 (by decide) (Or.inl rfl)
            have g783 := F779 2 (.int d) g2 (by decide) (Or.inl rfl)
            have g784 := F779 3 (.ref (E.1 + 12)) g3 (by decide) (Or.inl rfl)
            have g785 := F779 4 (.int w) g4 (by decide) (Or.inl rfl)
            have g786 := F779 5 (.int q) g5 (by decide) (Or.inl rfl)
            have g787 := F779 6 (.int i) g6 (by decide) (Or.inl rfl)
            refine bp_ld (pc' := 61) bu_172_59 rfl rfl (fun _ _ _ => rfl) g780 rfl ?_
            refine bp_i0 (pc' := 64) (pt := 77) bu_172_61 rfl rfl (fun k788 => ?_) (fun k788 => ?_)
            · replace k788 : (c776).toInt = 0 := k788
              omega
            · replace k788 : ¬ ((c776).toInt = 0) := k788
              refine bp_ld (pc' := 66) bu_172_64 rfl rfl (fun _ _ _ => rfl) g785 rfl ?_
              refine bp_c (pc' := 67) (n := -1) bu_172_66 rfl rfl (fun _ _ _ => rfl) (by decide) (fun c789 e790 => ?_)
              refine bp_ic (pc' := 70) (pt := 77) bu_172_67 rfl rfl (fun k791 => ?_) (fun k791 => ?_)
              · replace k791 : (w).toInt = (c789).toInt := k791
                refine bp_ld (pc' := 78) bu_172_77 rfl rfl (fun _ _ _ => rfl) g781 rfl ?_
                refine bn_cv (pc' := 81) (st := []) (args := []) bu_172_78 rfl rfl rfl (by decide) hP bq_o20 (by decide) (by omega) rfl (Nat.le_of_ble_eq_true rfl) (Nat.le_of_ble_eq_true rfl) ?_
                have hf : σ.2.1 = 0 := by omega
                have ho : K σ.1 = 8 ∨ K σ.1 = 9 ∨ K σ.1 = 10 ∨ K σ.1 = 15 := by omega
                refine cr_161 (σ := σ) hP hR (rc_T_F hT hF) hf (by omega) (by omega) (fun h792 s793 A794 L795 hP796 F797 R798 => ?_)
                show bp_G E PO NN ((172, 81, lv778, [], 0, 0) :: gs, h792, none)
                refine bp_ld (pc' := 82) bu_172_81 rfl rfl (fun _ _ _ => rfl) g781 rfl ?_
                refine bp_ld (pc' := 83) bu_172_82 rfl rfl (fun _ _ _ => rfl) g782 rfl ?_
                refine bp_ld (pc' := 84) bu_172_83 rfl rfl (fun _ _ _ => rfl) g783 rfl ?_
                refine bn_cv (pc' := 87) (st := []) (args := [.int d, .int l]) bu_172_84 rfl rfl rfl (by decide) hP796 bq_o20 (by decide) (by omega) rfl (Nat.le_of_ble_eq_true rfl) (Nat.le_of_ble_eq_true rfl) ?_
                refine hu (py_go σ) _ _ _ _ _ _ _ hdd (by simp only [List.length_cons]; omega) hP796 R798 (rc_T_F hT (rc_F_t hF F797)) (F797.2.2.2 hc) (fun h799 s800 A801 L802 σ806 hP803 F804 R805 Y807 => ?_)
                show bp_G E PO NN ((172, 87, lv778, [], 0, 0) :: gs, h799, none)
                refine bp_ld (pc' := 89) bu_172_87 rfl rfl (fun _ _ _ => rfl) g780 rfl ?_
                refine bp_i0 (pc' := 92) (pt := 99) bu_172_89 rfl rfl (fun k808 => ?_) (fun k808 => ?_)
                · replace k808 : (c776).toInt = 0 := k808
                  omega
                · replace k808 : ¬ ((c776).toInt = 0) := k808
                  refine bp_ld (pc' := 94) bu_172_92 rfl rfl (fun _ _ _ => rfl) g786 rfl ?_
                  refine bp_st (pc' := 96) bu_172_94 rfl rfl (fun _ _ _ => rfl) rfl (by decide) (by decide) (fun lv809 F810 g811 => ?_)
                  have g812 := F810 0 (.ref (E.1 + 20)) g781 (by decide) (Or.inl rfl)
                  have g813 := F810 1 (.int l) g782 (by decide) (Or.inl rfl)
                  have g814 := F810 2 (.int d) g783 (by decide) (Or.inl rfl)
                  have g815 := F810 3 (.ref (E.1 + 12)) g784 (by decide) (Or.inl rfl)
                  have g816 := F810 5 (.int q) g786 (by decide) (Or.inl rfl)
                  have g817 := F810 6 (.int i) g787 (by decide) (Or.inl rfl)
                  have g818 := F810 7 (.int c776) g780 (by decide) (Or.inl rfl)
                  refine bp_go (pc' := 106) bu_172_96 rfl ?_
                  refine bp_ld (pc' := 107) bu_172_106 rfl rfl (fun _ _ _ => rfl) g812 rfl ?_
                  refine bn_cv (pc' := 110) (st := []) (args := []) bu_172_107 rfl rfl rfl (by decide) hP803 bq_o20 (by decide) (by omega) rfl (Nat.le_of_ble_eq_true rfl) (Nat.le_of_ble_eq_true rfl) ?_
                  refine cr_167 (σ := σ806) hP803 (by simp only [List.length_cons]; omega) R805 (fun r819 p820 => ?_)
                  show bp_G E PO NN ((172, 110, lv809, [.int r819], 0, 0) :: gs, h799, none)
                  refine bp_st (pc' := 112) bu_172_110 rfl rfl (fun _ _ _ => rfl) rfl (by decide) (by decide) (fun lv821 F822 g823 => ?_)
                  have g824 := F822 0 (.ref (E.1 + 20)) g812 (by decide) (Or.inl rfl)
                  have g825 := F822 1 (.int l) g813 (by decide) (Or.inl rfl)
                  have g826 := F822 2 (.int d) g814 (by decide) (Or.inl rfl)
                  have g827 := F822 3 (.ref (E.1 + 12)) g815 (by decide) (Or.inl rfl)
                  have g828 := F822 6 (.int i) g817 (by decide) (Or.inl rfl)
                  have g829 := F822 7 (.int c776) g818 (by decide) (Or.inl rfl)
                  have g830 := F822 4 (.int q) g811 (by decide) (Or.inl rfl)
                  refine bp_inc (pc' := 115) bu_172_112 rfl (by decide) g828 (by decide) (by omega) (by omega) (fun lv831 y834 F832 g833 e835 => ?_)
                  have g836 := F832 0 (.ref (E.1 + 20)) g824 (by decide) (Or.inl rfl)
                  have g837 := F832 1 (.int l) g825 (by decide) (Or.inl rfl)
                  have g838 := F832 2 (.int d) g826 (by decide) (Or.inl rfl)
                  have g839 := F832 3 (.ref (E.1 + 12)) g827 (by decide) (Or.inl rfl)
                  have g840 := F832 7 (.int c776) g829 (by decide) (Or.inl rfl)
                  have g841 := F832 4 (.int q) g830 (by decide) (Or.inl rfl)
                  have g842 := F832 5 (.int r819) g823 (by decide) (Or.inl rfl)
                  refine bp_go (pc' := 26) bu_172_115 rfl ?_
                  have y0 := Y807.2
                  exact ih _ _ _ _ σ806 _ _ _ _ _ hP803 (rc_F_t (rc_F_t hF F797) F804) R805 (F804.2.2.2 (F797.2.2.2 hc)) g836 g837 g838 g839 g841 g842 g833   (by omega) p820 (by omega) (by omega) (by omega) ((hx.trans (py_x_p (hR.2.1 hf).2.1.1 hf ho)).trans Y807.1) (fun u => by
                    have y1 := y0 u
                    have y2 := (py_go_st y1.1).2
                    have y3 := hm hf
                    exact ⟨y3.1, by omega⟩)
              · replace k791 : ¬ ((w).toInt = (c789).toInt) := k791
                refine bp_ld (pc' := 71) bu_172_70 rfl rfl (fun _ _ _ => rfl) g784 rfl ?_
                refine bp_ld (pc' := 73) bu_172_71 rfl rfl (fun _ _ _ => rfl) g785 rfl ?_
                refine bp_c (pc' := 74) (n := 0) bu_172_73 rfl rfl (fun _ _ _ => rfl) (by decide) (fun c843 e844 => ?_)
                refine bn_cv (pc' := 77) (st := []) (args := [.int c843, .int w]) bu_172_74 rfl rfl rfl (by decide) hP bq_o12 (by decide) (by omega) rfl (Nat.le_of_ble_eq_true rfl) (Nat.le_of_ble_eq_true rfl) ?_
                refine cr_136 hP hc (fun h845 s846 A847 hP848 f849 a850 z851 => ?_)
                show bp_G E PO NN ((172, 77, lv778, [], 0, 0) :: gs, h845, none)
                refine bp_ld (pc' := 78) bu_172_77 rfl rfl (fun _ _ _ => rfl) g781 rfl ?_
                refine bn_cv (pc' := 81) (st := []) (args := []) bu_172_78 rfl rfl rfl (by decide) hP848 bq_o20 (by decide) (by omega) rfl (Nat.le_of_ble_eq_true rfl) (Nat.le_of_ble_eq_true rfl) ?_
                have hf : σ.2.1 = 0 := by omega
                have ho : K σ.1 = 8 ∨ K σ.1 = 9 ∨ K σ.1 = 10 ∨ K σ.1 = 15 := by omega
                refine cr_161 (σ := σ) hP848 (rc_R_e hR f849) (rc_T_F hT (rc_F_t hF (rc_F_e f849 a850 z851))) hf (by omega) (by omega) (fun h852 s853 A854 L855 hP856 F857 R858 => ?_)
                show bp_G E PO NN ((172, 81, lv778, [], 0, 0) :: gs, h852, none)
                refine bp_ld (pc' := 82) bu_172_81 rfl rfl (fun _ _ _ => rfl) g781 rfl ?_
                refine bp_ld (pc' := 83) bu_172_82 rfl rfl (fun _ _ _ => rfl) g782 rfl ?_
                refine bp_ld (pc' := 84) bu_172_83 rfl rfl (fun _ _ _ => rfl) g783 rfl ?_
                refine bn_cv (pc' := 87) (st := []) (args := [.int d, .int l]) bu_172_84 rfl rfl rfl (by decide) hP856 bq_o20 (by decide) (by omega) rfl (Nat.le_of_ble_eq_true rfl) (Nat.le_of_ble_eq_true rfl) ?_
                refine hu (py_go σ) _ _ _ _ _ _ _ hdd (by simp only [List.length_cons]; omega) hP856 R858 (rc_T_F hT (rc_F_t (rc_F_t hF (rc_F_e f849 a850 z851)) F857)) (F857.2.2.2 z851) (fun h859 s860 A861 L862 σ866 hP863 F864 R865 Y867 => ?_)
                show bp_G E PO NN ((172, 87, lv778, [], 0, 0) :: gs, h859, none)
                refine bp_ld (pc' := 89) bu_172_87 rfl rfl (fun _ _ _ => rfl) g780 rfl ?_
                refine bp_i0 (pc' := 92) (pt := 99) bu_172_89 rfl rfl (fun k868 => ?_) (fun k868 => ?_)
                · replace k868 : (c776).toInt = 0 := k868
                  omega
                · replace k868 : ¬ ((c776).toInt = 0) := k868
                  refine bp_ld (pc' := 94) bu_172_92 rfl rfl (fun _ _ _ => rfl) g786 rfl ?_
                  refine bp_st (pc' := 96) bu_172_94 rfl rfl (fun _ _ _ => rfl) rfl (by decide) (by decide) (fun lv869 F870 g871 => ?_)
                  have g872 := F870 0 (.ref (E.1 + 20)) g781 (by decide) (Or.inl rfl)
                  have g873 := F870 1 (.int l) g782 (by decide) (Or.inl rfl)
                  have g874 := F870 2 (.int d) g783 (by decide) (Or.inl rfl)
                  have g875 := F870 3 (.ref (E.1 + 12)) g784 (by decide) (Or.inl rfl)
                  have g876 := F870 5 (.int q) g786 (by decide) (Or.inl rfl)
                  have g877 := F870 6 (.int i) g787 (by decide) (Or.inl rfl)
                  have g878 := F870 7 (.int c776) g780 (by decide) (Or.inl rfl)
                  refine bp_go (pc' := 106) bu_172_96 rfl ?_
                  refine bp_ld (pc' := 107) bu_172_106 rfl rfl (fun _ _ _ => rfl) g872 rfl ?_
                  refine bn_cv (pc' := 110) (st := []) (args := []) bu_172_107 rfl rfl rfl (by decide) hP863 bq_o20 (by decide) (by omega) rfl (Nat.le_of_ble_eq_true rfl) (Nat.le_of_ble_eq_true rfl) ?_
                  refine cr_167 (σ := σ866) hP863 (by simp only [List.length_cons]; omega) R865 (fun r879 p880 => ?_)
                  show bp_G E PO NN ((172, 110, lv869, [.int r879], 0, 0) :: gs, h859, none)
                  refine bp_st (pc' := 112) bu_172_110 rfl rfl (fun _ _ _ => rfl) rfl (by decide) (by decide) (fun lv881 F882 g883 => ?_)
                  have g884 := F882 0 (.ref (E.1 + 20)) g872 (by decide) (Or.inl rfl)
                  have g885 := F882 1 (.int l) g873 (by decide) (Or.inl rfl)
                  have g886 := F882 2 (.int d) g874 (by decide) (Or.inl rfl)
                  have g887 := F882 3 (.ref (E.1 + 12)) g875 (by decide) (Or.inl rfl)
                  have g888 := F882 6 (.int i) g877 (by decide) (Or.inl rfl)
                  have g889 := F882 7 (.int c776) g878 (by decide) (Or.inl rfl)
                  have g890 := F882 4 (.int q) g871 (by decide) (Or.inl rfl)
                  refine bp_inc (pc' := 115) bu_172_112 rfl (by decide) g888 (by decide) (by omega) (by omega) (fun lv891 y894 F892 g893 e895 => ?_)
                  have g896 := F892 0 (.ref (E.1 + 20)) g884 (by decide) (Or.inl rfl)
                  have g897 := F892 1 (.int l) g885 (by decide) (Or.inl rfl)
                  have g898 := F892 2 (.int d) g886 (by decide) (Or.inl rfl)
                  have g899 := F892 3 (.ref (E.1 + 12)) g887 (by decide) (Or.inl rfl)
                  have g900 := F892 7 (.int c776) g889 (by decide) (Or.inl rfl)
                  have g901 := F892 4 (.int q) g890 (by decide) (Or.inl rfl)
                  have g902 := F892 5 (.int r879) g883 (by decide) (Or.inl rfl)
                  refine bp_go (pc' := 26) bu_172_115 rfl ?_
                  have y0 := Y867.2
                  exact ih _ _ _ _ σ866 _ _ _ _ _ hP863 (rc_F_t (rc_F_t (rc_F_t hF (rc_F_e f849 a850 z851)) F857) F864) R865 (F864.2.2.2 (F857.2.2.2 z851)) g896 g897 g898 g899 g901 g902 g893   (by omega) p880 (by omega) (by omega) (by omega) ((hx.trans (py_x_p (hR.2.1 hf).2.1.1 hf ho)).trans Y867.1) (fun u => by
                    have y1 := y0 u
                    have y2 := (py_go_st y1.1).2
                    have y3 := hm hf
                    exact ⟨y3.1, by omega⟩)
theorem cr_172 {dn : Nat} (hdn : dn ≤ 6) (hu : rc_SUM K V P N E PO NN h0 175 6 false dn) : rc_SUM K V P N E PO NN h0 172 8 true dn := by
  intro σ h s A L gs l d hdd hd hP hR hT hc kk
  refine bp_ld (pc' := 1) bu_172_0 rfl rfl (fun _ _ _ => rfl) rfl rfl ?_
  refine bn_gr (pc' := 4) (t := 11) bu_172_1 rfl rfl (fun _ _ _ => rfl) hP bq_o20 bq_r20_1 ?_
  refine bn_gr (pc' := 7) (t := 12) bu_172_4 rfl rfl (fun _ _ _ => rfl) hP bq_o11 bq_r11_0 ?_
  refine bp_st (pc' := 8) bu_172_7 rfl rfl (fun _ _ _ => rfl) rfl (by decide) (by decide) (fun lv903 F904 g905 => ?_)
  have g906 := F904 0 (.ref (E.1 + 20)) rfl (by decide) (Or.inl rfl)
  have g907 := F904 1 (.int l) rfl (by decide) (Or.inl rfl)
  have g908 := F904 2 (.int d) rfl (by decide) (Or.inl rfl)
  refine bp_c (pc' := 9) (n := -1) bu_172_8 rfl rfl (fun _ _ _ => rfl) (by decide) (fun c909 e910 => ?_)
  refine bp_st (pc' := 11) bu_172_9 rfl rfl (fun _ _ _ => rfl) rfl (by decide) (by decide) (fun lv911 F912 g913 => ?_)
  have g914 := F912 0 (.ref (E.1 + 20)) g906 (by decide) (Or.inl rfl)
  have g915 := F912 1 (.int l) g907 (by decide) (Or.inl rfl)
  have g916 := F912 2 (.int d) g908 (by decide) (Or.inl rfl)
  have g917 := F912 3 (.ref (E.1 + 12)) g905 (by decide) (Or.inl rfl)
  refine bp_ld (pc' := 12) bu_172_11 rfl rfl (fun _ _ _ => rfl) g914 rfl ?_
  refine bp_ld (pc' := 13) bu_172_12 rfl rfl (fun _ _ _ => rfl) g915 rfl ?_
  refine bp_ld (pc' := 14) bu_172_13 rfl rfl (fun _ _ _ => rfl) g916 rfl ?_
  refine bn_cv (pc' := 17) (st := []) (args := [.int d, .int l]) bu_172_14 rfl rfl rfl (by decide) hP bq_o20 (by decide) (by omega) rfl (Nat.le_of_ble_eq_true rfl) (Nat.le_of_ble_eq_true rfl) ?_
  refine hu σ _ _ _ _ _ _ _ hdd (by simp only [List.length_cons]; omega) hP hR hT hc (fun h918 s919 A920 L921 σ925 hP922 F923 R924 Y926 => ?_)
  show bp_G E PO NN ((172, 17, lv911, [], 0, 0) :: gs, h918, none)
  refine bp_ld (pc' := 18) bu_172_17 rfl rfl (fun _ _ _ => rfl) g914 rfl ?_
  refine bn_cv (pc' := 21) (st := []) (args := []) bu_172_18 rfl rfl rfl (by decide) hP922 bq_o20 (by decide) (by omega) rfl (Nat.le_of_ble_eq_true rfl) (Nat.le_of_ble_eq_true rfl) ?_
  refine cr_167 (σ := σ925) hP922 (by simp only [List.length_cons]; omega) R924 (fun r927 p928 => ?_)
  show bp_G E PO NN ((172, 21, lv911, [.int r927], 0, 0) :: gs, h918, none)
  refine bp_st (pc' := 23) bu_172_21 rfl rfl (fun _ _ _ => rfl) rfl (by decide) (by decide) (fun lv929 F930 g931 => ?_)
  have g932 := F930 0 (.ref (E.1 + 20)) g914 (by decide) (Or.inl rfl)
  have g933 := F930 1 (.int l) g915 (by decide) (Or.inl rfl)
  have g934 := F930 2 (.int d) g916 (by decide) (Or.inl rfl)
  have g935 := F930 3 (.ref (E.1 + 12)) g917 (by decide) (Or.inl rfl)
  have g936 := F930 4 (.int c909) g913 (by decide) (Or.inl rfl)
  refine bp_c (pc' := 24) (n := 0) bu_172_23 rfl rfl (fun _ _ _ => rfl) (by decide) (fun c937 e938 => ?_)
  refine bp_st (pc' := 26) bu_172_24 rfl rfl (fun _ _ _ => rfl) rfl (by decide) (by decide) (fun lv939 F940 g941 => ?_)
  have g942 := F940 0 (.ref (E.1 + 20)) g932 (by decide) (Or.inl rfl)
  have g943 := F940 1 (.int l) g933 (by decide) (Or.inl rfl)
  have g944 := F940 2 (.int d) g934 (by decide) (Or.inl rfl)
  have g945 := F940 3 (.ref (E.1 + 12)) g935 (by decide) (Or.inl rfl)
  have g946 := F940 4 (.int c909) g936 (by decide) (Or.inl rfl)
  have g947 := F940 5 (.int r927) g931 (by decide) (Or.inl rfl)
  exact cr_172l hdn hu hT hdd (by omega) kk 401 _ _ _ _ σ925 _ _ _ _ _ hP922 F923 R924 (F923.2.2.2 hc) g942 g943 g944 g945 g946 g947 g941 (by omega) p928 (by omega) (by omega) (by omega) Y926.1 (fun u => ⟨(Y926.2 u).1, by have := (Y926.2 u).2.1; omega⟩)
theorem cr_sum {x9 y9 : Int32} (hS : ∀ ρ, en_SA E ρ (wl_o x9 y9) mt_SB) : ∀ (e dn : Nat), dn + e = 6 → rc_SUM K V P N E PO NN h0 172 8 true dn := by
  intro e
  induction e with
  | zero => exact fun dn h => cr_172 (by omega) (cr_175 hS (by omega) (fun g => absurd g (by omega)))
  | succ e ih => exact fun dn h => cr_172 (by omega) (cr_175 hS (by omega) (fun _ => ih (dn + 1) (by omega)))
end CR
