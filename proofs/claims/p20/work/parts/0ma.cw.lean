/-! BY HAND: the class's Reader, 5: men, tells (wip/p4/mkc7.py) -/
theorem py_go_n {σ : py_S} : (py_go σ).2.2.2.2 = σ.2.2.2.2 := by
  unfold py_go
  split
  · split
    · rfl
    · rfl
  · rfl
theorem rc_nm_n {K V : Nat → Int} {w : Int} {σ : py_S} : (rc_nm K V w σ).2.2.2.2 = σ.2.2.2.2 := by
  unfold rc_nm
  split
  · rw [py_n_mu, py_n_nu, py_n_nu, py_n_nu, py_n_go]
  split
  · rw [py_n_mu, py_n_nu, py_n_go]
  · rw [py_n_mu, py_n_nu, py_n_go]
theorem rc_O_num {K V : Nat → Int} {σ : py_S} {ns : List Nat} {ω : Nat → Nat} {w : Int} {s s1 : Nat → Int32} {A A1 : Nat → Nat → Int32} (hK : 28 ≤ K σ.1 ∧ K σ.1 ≤ 31) (hw : w = K σ.1 - 20) (h : rc_O V ns ω s A) (h17 : A1 17 = A 17) (h18 : A1 18 = A 18) (hN : rc_NM V w (σ.1 + 1) s s1) : rc_O V ns (py_st K σ ω) s1 A1 := by
  obtain ⟨o1, o2, o3, o4, o5, o6, o7⟩ := h
  obtain ⟨n1, n2, n3, n4⟩ := hN
  unfold py_st
  by_cases c8 : K σ.1 = 28
  · obtain ⟨a, b, c, d, e, f⟩ := n1 (by omega)
    rw [if_pos c8]
    refine ⟨by rw [h17, h18]; exact o1, ?_, ?_, ?_, ?_, ?_, ?_⟩
    · rw [py_up_i, py_v_s (by omega)]
      exact a
    · rw [py_up_i, py_v_s (by omega)]
      exact b
    · rw [py_up_i, py_v_s (by omega)]
      exact c
    · rw [py_up_o (by decide), d]
      exact o5
    · rw [py_up_o (by decide), e]
      exact o6
    · rw [py_up_o (by decide), f]
      exact o7
  rw [if_neg c8]
  by_cases c9 : K σ.1 = 29
  · obtain ⟨a, b, c, d, e, f⟩ := n2 (by omega)
    rw [if_pos c9]
    refine ⟨by rw [h17, h18]; exact o1, ?_, ?_, ?_, ?_, ?_, ?_⟩
    · rw [py_up_o (by decide), b]
      exact o2
    · rw [py_up_o (by decide), c]
      exact o3
    · rw [py_up_o (by decide), d]
      exact o4
    · rw [py_up_i, py_v_s (by omega)]
      exact a
    · rw [py_up_o (by decide), e]
      exact o6
    · rw [py_up_o (by decide), f]
      exact o7
  rw [if_neg c9]
  by_cases c10 : K σ.1 = 30
  · obtain ⟨a, b, c, d, e, f⟩ := n3 (by omega)
    rw [if_pos c10]
    refine ⟨by rw [h17, h18]; exact o1, ?_, ?_, ?_, ?_, ?_, ?_⟩
    · rw [py_up_o (by decide), b]
      exact o2
    · rw [py_up_o (by decide), c]
      exact o3
    · rw [py_up_o (by decide), d]
      exact o4
    · rw [py_up_o (by decide), e]
      exact o5
    · rw [py_up_i, py_v_s (by omega)]
      exact a
    · rw [py_up_o (by decide), f]
      exact o7
  · obtain ⟨a, b, c, d, e, f⟩ := n4 (by omega)
    rw [if_neg c10, if_pos (by omega)]
    refine ⟨by rw [h17, h18]; exact o1, ?_, ?_, ?_, ?_, ?_, ?_⟩
    · rw [py_up_o (by decide), b]
      exact o2
    · rw [py_up_o (by decide), c]
      exact o3
    · rw [py_up_o (by decide), d]
      exact o4
    · rw [py_up_o (by decide), e]
      exact o5
    · rw [py_up_o (by decide), f]
      exact o6
    · rw [py_up_i, py_v_s (by omega)]
      exact a
theorem bu_170_0 : mm_at mt_P 170 0 = some ((0, 1, .aload_n 0, 0, 0, 0, 0), 2, 0, 1, 4, 0, 0, 0) := rfl
theorem bu_170_1 : mm_at mt_P 170 1 = some ((1, 3, .getfield 9, 4, 1, 0, 275), 2, 0, 1, 4, 0, 0, 0) := rfl
theorem bu_170_4 : mm_at mt_P 170 4 = some ((4, 3, .getfield 100, 6, 4, 0, 189), 2, 0, 1, 4, 0, 0, 0) := rfl
theorem bu_170_7 : mm_at mt_P 170 7 = some ((7, 2, .bipush 6, 0, 0, 0, 0), 2, 0, 1, 4, 0, 0, 0) := rfl
theorem bu_170_9 : mm_at mt_P 170 9 = some ((9, 3, .if_icmp .lt 9, 0, 0, 0, 0), 2, 0, 1, 4, 0, 0, 0) := rfl
theorem bu_170_12 : mm_at mt_P 170 12 = some ((12, 1, .aload_n 0, 0, 0, 0, 0), 2, 0, 1, 4, 0, 0, 0) := rfl
theorem bu_170_13 : mm_at mt_P 170 13 = some ((13, 1, .iconst 2, 0, 0, 0, 0), 2, 0, 1, 4, 0, 0, 0) := rfl
theorem bu_170_14 : mm_at mt_P 170 14 = some ((14, 3, .invokevirtual 71, 176, 0, 0, 645), 2, 0, 1, 4, 0, 0, 0) := rfl
theorem bu_170_17 : mm_at mt_P 170 17 = some ((17, 1, .return_, 0, 0, 0, 0), 2, 0, 1, 4, 0, 0, 0) := rfl
theorem bu_170_18 : mm_at mt_P 170 18 = some ((18, 1, .aload_n 0, 0, 0, 0, 0), 2, 0, 1, 4, 0, 0, 0) := rfl
theorem bu_170_19 : mm_at mt_P 170 19 = some ((19, 3, .invokevirtual 49, 161, 0, 0, 633), 2, 0, 1, 4, 0, 0, 0) := rfl
theorem bu_170_22 : mm_at mt_P 170 22 = some ((22, 1, .aload_n 0, 0, 0, 0, 0), 2, 0, 1, 4, 0, 0, 0) := rfl
theorem bu_170_23 : mm_at mt_P 170 23 = some ((23, 3, .getfield 52, 4, 3, 0, 277), 2, 0, 1, 4, 0, 0, 0) := rfl
theorem bu_170_26 : mm_at mt_P 170 26 = some ((26, 1, .iconst 2, 0, 0, 0, 0), 2, 0, 1, 4, 0, 0, 0) := rfl
theorem bu_170_27 : mm_at mt_P 170 27 = some ((27, 3, .if_icmp .eq 9, 0, 0, 0, 0), 2, 0, 1, 4, 0, 0, 0) := rfl
theorem bu_170_30 : mm_at mt_P 170 30 = some ((30, 1, .aload_n 0, 0, 0, 0, 0), 2, 0, 1, 4, 0, 0, 0) := rfl
theorem bu_170_31 : mm_at mt_P 170 31 = some ((31, 1, .iconst 1, 0, 0, 0, 0), 2, 0, 1, 4, 0, 0, 0) := rfl
theorem bu_170_32 : mm_at mt_P 170 32 = some ((32, 3, .invokevirtual 71, 176, 0, 0, 645), 2, 0, 1, 4, 0, 0, 0) := rfl
theorem bu_170_35 : mm_at mt_P 170 35 = some ((35, 1, .return_, 0, 0, 0, 0), 2, 0, 1, 4, 0, 0, 0) := rfl
theorem bu_170_36 : mm_at mt_P 170 36 = some ((36, 1, .aload_n 0, 0, 0, 0, 0), 2, 0, 1, 4, 0, 0, 0) := rfl
theorem bu_170_37 : mm_at mt_P 170 37 = some ((37, 3, .getfield 9, 4, 1, 0, 275), 2, 0, 1, 4, 0, 0, 0) := rfl
theorem bu_170_40 : mm_at mt_P 170 40 = some ((40, 1, .aload_n 0, 0, 0, 0, 0), 2, 0, 1, 4, 0, 0, 0) := rfl
theorem bu_170_41 : mm_at mt_P 170 41 = some ((41, 3, .getfield 58, 4, 4, 0, 278), 2, 0, 1, 4, 0, 0, 0) := rfl
theorem bu_170_44 : mm_at mt_P 170 44 = some ((44, 3, .invokevirtual 103, 205, 0, 0, 649), 2, 0, 1, 4, 0, 0, 0) := rfl
theorem bu_170_47 : mm_at mt_P 170 47 = some ((47, 3, .ifCond .eq 8, 0, 0, 0, 0), 2, 0, 1, 4, 0, 0, 0) := rfl
theorem bu_170_50 : mm_at mt_P 170 50 = some ((50, 1, .aload_n 0, 0, 0, 0, 0), 2, 0, 1, 4, 0, 0, 0) := rfl
theorem bu_170_51 : mm_at mt_P 170 51 = some ((51, 1, .iconst 3, 0, 0, 0, 0), 2, 0, 1, 4, 0, 0, 0) := rfl
theorem bu_170_52 : mm_at mt_P 170 52 = some ((52, 3, .invokevirtual 107, 165, 0, 0, 653), 2, 0, 1, 4, 0, 0, 0) := rfl
theorem bu_170_55 : mm_at mt_P 170 55 = some ((55, 1, .aload_n 0, 0, 0, 0, 0), 2, 0, 1, 4, 0, 0, 0) := rfl
theorem bu_170_56 : mm_at mt_P 170 56 = some ((56, 3, .getfield 9, 4, 1, 0, 275), 2, 0, 1, 4, 0, 0, 0) := rfl
theorem bu_170_59 : mm_at mt_P 170 59 = some ((59, 1, .aload_n 0, 0, 0, 0, 0), 2, 0, 1, 4, 0, 0, 0) := rfl
theorem bu_170_60 : mm_at mt_P 170 60 = some ((60, 3, .getfield 58, 4, 4, 0, 278), 2, 0, 1, 4, 0, 0, 0) := rfl
theorem bu_170_63 : mm_at mt_P 170 63 = some ((63, 3, .invokevirtual 110, 200, 0, 0, 657), 2, 0, 1, 4, 0, 0, 0) := rfl
theorem bu_170_66 : mm_at mt_P 170 66 = some ((66, 1, .aload_n 0, 0, 0, 0, 0), 2, 0, 1, 4, 0, 0, 0) := rfl
theorem bu_170_67 : mm_at mt_P 170 67 = some ((67, 3, .invokevirtual 49, 161, 0, 0, 633), 2, 0, 1, 4, 0, 0, 0) := rfl
theorem bu_170_70 : mm_at mt_P 170 70 = some ((70, 1, .iconst 0, 0, 0, 0, 0), 2, 0, 1, 4, 0, 0, 0) := rfl
theorem bu_170_71 : mm_at mt_P 170 71 = some ((71, 1, .istore_n 1, 0, 0, 0, 0), 2, 0, 1, 4, 0, 0, 0) := rfl
theorem bu_170_72 : mm_at mt_P 170 72 = some ((72, 1, .iload_n 1, 0, 0, 0, 0), 2, 0, 1, 4, 0, 0, 0) := rfl
theorem bu_170_73 : mm_at mt_P 170 73 = some ((73, 1, .iconst 4, 0, 0, 0, 0), 2, 0, 1, 4, 0, 0, 0) := rfl
theorem bu_170_74 : mm_at mt_P 170 74 = some ((74, 3, .if_icmp .gt 24, 0, 0, 0, 0), 2, 0, 1, 4, 0, 0, 0) := rfl
theorem bu_170_77 : mm_at mt_P 170 77 = some ((77, 1, .aload_n 0, 0, 0, 0, 0), 2, 0, 1, 4, 0, 0, 0) := rfl
theorem bu_170_78 : mm_at mt_P 170 78 = some ((78, 3, .getfield 9, 4, 1, 0, 275), 2, 0, 1, 4, 0, 0, 0) := rfl
theorem bu_170_81 : mm_at mt_P 170 81 = some ((81, 1, .iload_n 1, 0, 0, 0, 0), 2, 0, 1, 4, 0, 0, 0) := rfl
theorem bu_170_82 : mm_at mt_P 170 82 = some ((82, 1, .aload_n 0, 0, 0, 0, 0), 2, 0, 1, 4, 0, 0, 0) := rfl
theorem bu_170_83 : mm_at mt_P 170 83 = some ((83, 1, .iconst 0, 0, 0, 0, 0), 2, 0, 1, 4, 0, 0, 0) := rfl
theorem bu_170_84 : mm_at mt_P 170 84 = some ((84, 2, .bipush 9, 0, 0, 0, 0), 2, 0, 1, 4, 0, 0, 0) := rfl
theorem bu_170_86 : mm_at mt_P 170 86 = some ((86, 3, .invokevirtual 74, 166, 0, 0, 661), 2, 0, 1, 4, 0, 0, 0) := rfl
theorem bu_170_89 : mm_at mt_P 170 89 = some ((89, 3, .invokevirtual 114, 207, 0, 0, 665), 2, 0, 1, 4, 0, 0, 0) := rfl
theorem bu_170_92 : mm_at mt_P 170 92 = some ((92, 3, .iinc 1 1, 0, 0, 0, 0), 2, 0, 1, 4, 0, 0, 0) := rfl
theorem bu_170_95 : mm_at mt_P 170 95 = some ((95, 3, .goto (-23), 0, 0, 0, 0), 2, 0, 1, 4, 0, 0, 0) := rfl
theorem bu_170_98 : mm_at mt_P 170 98 = some ((98, 1, .aload_n 0, 0, 0, 0, 0), 2, 0, 1, 4, 0, 0, 0) := rfl
theorem bu_170_99 : mm_at mt_P 170 99 = some ((99, 2, .bipush 59, 0, 0, 0, 0), 2, 0, 1, 4, 0, 0, 0) := rfl
theorem bu_170_101 : mm_at mt_P 170 101 = some ((101, 3, .invokevirtual 96, 177, 0, 0, 669), 2, 0, 1, 4, 0, 0, 0) := rfl
theorem bu_170_104 : mm_at mt_P 170 104 = some ((104, 1, .return_, 0, 0, 0, 0), 2, 0, 1, 4, 0, 0, 0) := rfl
theorem bu_174_0 : mm_at mt_P 174 0 = some ((0, 1, .aload_n 0, 0, 0, 0, 0), 2, 0, 1, 4, 0, 0, 0) := rfl
theorem bu_174_1 : mm_at mt_P 174 1 = some ((1, 3, .getfield 52, 4, 3, 0, 277), 2, 0, 1, 4, 0, 0, 0) := rfl
theorem bu_174_4 : mm_at mt_P 174 4 = some ((4, 1, .iconst 5, 0, 0, 0, 0), 2, 0, 1, 4, 0, 0, 0) := rfl
theorem bu_174_5 : mm_at mt_P 174 5 = some ((5, 3, .if_icmp .ne 11, 0, 0, 0, 0), 2, 0, 1, 4, 0, 0, 0) := rfl
theorem bu_174_8 : mm_at mt_P 174 8 = some ((8, 1, .aload_n 0, 0, 0, 0, 0), 2, 0, 1, 4, 0, 0, 0) := rfl
theorem bu_174_9 : mm_at mt_P 174 9 = some ((9, 3, .getfield 58, 4, 4, 0, 278), 2, 0, 1, 4, 0, 0, 0) := rfl
theorem bu_174_12 : mm_at mt_P 174 12 = some ((12, 1, .l2i, 0, 0, 0, 0), 2, 0, 1, 4, 0, 0, 0) := rfl
theorem bu_174_13 : mm_at mt_P 174 13 = some ((13, 3, .goto 4, 0, 0, 0, 0), 2, 0, 1, 4, 0, 0, 0) := rfl
theorem bu_174_16 : mm_at mt_P 174 16 = some ((16, 1, .iconst (-1), 0, 0, 0, 0), 2, 0, 1, 4, 0, 0, 0) := rfl
theorem bu_174_17 : mm_at mt_P 174 17 = some ((17, 1, .istore_n 1, 0, 0, 0, 0), 2, 0, 1, 4, 0, 0, 0) := rfl
theorem bu_174_18 : mm_at mt_P 174 18 = some ((18, 1, .iload_n 1, 0, 0, 0, 0), 2, 0, 1, 4, 0, 0, 0) := rfl
theorem bu_174_19 : mm_at mt_P 174 19 = some ((19, 3, .ifCond .ne 10, 0, 0, 0, 0), 2, 0, 1, 4, 0, 0, 0) := rfl
theorem bu_174_22 : mm_at mt_P 174 22 = some ((22, 1, .aload_n 0, 0, 0, 0, 0), 2, 0, 1, 4, 0, 0, 0) := rfl
theorem bu_174_23 : mm_at mt_P 174 23 = some ((23, 3, .invokevirtual 62, 170, 0, 0, 641), 2, 0, 1, 4, 0, 0, 0) := rfl
theorem bu_174_26 : mm_at mt_P 174 26 = some ((26, 3, .goto 49, 0, 0, 0, 0), 2, 0, 1, 4, 0, 0, 0) := rfl
theorem bu_174_29 : mm_at mt_P 174 29 = some ((29, 1, .iload_n 1, 0, 0, 0, 0), 2, 0, 1, 4, 0, 0, 0) := rfl
theorem bu_174_30 : mm_at mt_P 174 30 = some ((30, 1, .iconst 1, 0, 0, 0, 0), 2, 0, 1, 4, 0, 0, 0) := rfl
theorem bu_174_31 : mm_at mt_P 174 31 = some ((31, 3, .if_icmp .lt 19, 0, 0, 0, 0), 2, 0, 1, 4, 0, 0, 0) := rfl
theorem bu_174_34 : mm_at mt_P 174 34 = some ((34, 1, .iload_n 1, 0, 0, 0, 0), 2, 0, 1, 4, 0, 0, 0) := rfl
theorem bu_174_35 : mm_at mt_P 174 35 = some ((35, 2, .bipush 7, 0, 0, 0, 0), 2, 0, 1, 4, 0, 0, 0) := rfl
theorem bu_174_37 : mm_at mt_P 174 37 = some ((37, 3, .if_icmp .gt 13, 0, 0, 0, 0), 2, 0, 1, 4, 0, 0, 0) := rfl
theorem bu_174_40 : mm_at mt_P 174 40 = some ((40, 1, .aload_n 0, 0, 0, 0, 0), 2, 0, 1, 4, 0, 0, 0) := rfl
theorem bu_174_41 : mm_at mt_P 174 41 = some ((41, 1, .iload_n 1, 0, 0, 0, 0), 2, 0, 1, 4, 0, 0, 0) := rfl
theorem bu_174_42 : mm_at mt_P 174 42 = some ((42, 1, .iconst 1, 0, 0, 0, 0), 2, 0, 1, 4, 0, 0, 0) := rfl
theorem bu_174_43 : mm_at mt_P 174 43 = some ((43, 1, .isub, 0, 0, 0, 0), 2, 0, 1, 4, 0, 0, 0) := rfl
theorem bu_174_44 : mm_at mt_P 174 44 = some ((44, 3, .invokevirtual 65, 169, 0, 0, 677), 2, 0, 1, 4, 0, 0, 0) := rfl
theorem bu_174_47 : mm_at mt_P 174 47 = some ((47, 3, .goto 28, 0, 0, 0, 0), 2, 0, 1, 4, 0, 0, 0) := rfl
theorem bu_174_50 : mm_at mt_P 174 50 = some ((50, 1, .iload_n 1, 0, 0, 0, 0), 2, 0, 1, 4, 0, 0, 0) := rfl
theorem bu_174_51 : mm_at mt_P 174 51 = some ((51, 2, .bipush 8, 0, 0, 0, 0), 2, 0, 1, 4, 0, 0, 0) := rfl
theorem bu_174_53 : mm_at mt_P 174 53 = some ((53, 3, .if_icmp .lt 17, 0, 0, 0, 0), 2, 0, 1, 4, 0, 0, 0) := rfl
theorem bu_174_56 : mm_at mt_P 174 56 = some ((56, 1, .iload_n 1, 0, 0, 0, 0), 2, 0, 1, 4, 0, 0, 0) := rfl
theorem bu_174_57 : mm_at mt_P 174 57 = some ((57, 2, .bipush 11, 0, 0, 0, 0), 2, 0, 1, 4, 0, 0, 0) := rfl
theorem bu_174_59 : mm_at mt_P 174 59 = some ((59, 3, .if_icmp .gt 11, 0, 0, 0, 0), 2, 0, 1, 4, 0, 0, 0) := rfl
theorem bu_174_62 : mm_at mt_P 174 62 = some ((62, 1, .aload_n 0, 0, 0, 0, 0), 2, 0, 1, 4, 0, 0, 0) := rfl
theorem bu_174_63 : mm_at mt_P 174 63 = some ((63, 1, .iload_n 1, 0, 0, 0, 0), 2, 0, 1, 4, 0, 0, 0) := rfl
theorem bu_174_64 : mm_at mt_P 174 64 = some ((64, 3, .invokevirtual 68, 171, 0, 0, 722), 2, 0, 1, 4, 0, 0, 0) := rfl
theorem bu_174_67 : mm_at mt_P 174 67 = some ((67, 3, .goto 8, 0, 0, 0, 0), 2, 0, 1, 4, 0, 0, 0) := rfl
theorem bu_174_70 : mm_at mt_P 174 70 = some ((70, 1, .aload_n 0, 0, 0, 0, 0), 2, 0, 1, 4, 0, 0, 0) := rfl
theorem bu_174_71 : mm_at mt_P 174 71 = some ((71, 1, .iconst 1, 0, 0, 0, 0), 2, 0, 1, 4, 0, 0, 0) := rfl
theorem bu_174_72 : mm_at mt_P 174 72 = some ((72, 3, .invokevirtual 71, 176, 0, 0, 645), 2, 0, 1, 4, 0, 0, 0) := rfl
theorem bu_174_75 : mm_at mt_P 174 75 = some ((75, 1, .return_, 0, 0, 0, 0), 2, 0, 1, 4, 0, 0, 0) := rfl
section CR
variable {K V P : Nat → Int} {Q : Nat → Nat → Bool} {σ : py_S} {N : Nat} {E : mm_E} {PO : mm_C → Prop} {NN : Nat} {h0 h : mm_H} {s : Nat → Int32} {A : Nat → Nat → Int32} {L : Nat → Nat → Int64} {gs : List mm_F}
theorem cr_170 (hQ : ∀ i j, i < N → j < N → K i = 1 → K j = 1 → (Q i j = true ↔ L 24 i = L 24 j)) (hP : bm_P bq_T E h0 h s A L) (hd : gs.length + 40 ≤ 999) (hR : rc_R K V P N σ s L) (hT : rc_T K V P N s A L) (hc : 0 ≤ (s 1204).toInt ∧ (s 1204).toInt ≤ 432 ∧ 0 ≤ (s 1104).toInt ∧ (s 1104).toInt ≤ 6) (hf : σ.2.1 = 0) (hk : K σ.1 = 20) (kk : ∀ (h' : mm_H) (s' : Nat → Int32) (A' : Nat → Nat → Int32) (L' : Nat → Nat → Int64), bm_P bq_T E h0 h' s' A' L' → rc_G s A L s' A' L' → rc_R K V P N (py_man K V Q σ) s' L' → ((py_man K V Q σ).2.1 = 0 → rc_M V (py_go σ).1 σ.2.2.2.2.length s A s' A') → bp_G E PO NN (mm_back none gs h')) : bp_G E PO NN ((170, 0, [(0, .ref (E.1 + 20))], [], 0, 0) :: gs, h, none) := by
  have r2 := hR.2.1 hf
  have rl := r2.2.2.2.2.2.2
  refine bp_ld (pc' := 1) bu_170_0 rfl rfl (fun _ _ _ => rfl) rfl rfl ?_
  refine bn_gr (pc' := 4) (t := 11) bu_170_1 rfl rfl (fun _ _ _ => rfl) hP bq_o20 bq_r20_1 ?_
  refine bn_gi (pc' := 7) (K := 1104) bu_170_4 rfl rfl (fun _ _ _ => rfl) hP bq_o11 bq_i11_4 rfl rfl ?_
  refine bp_c (pc' := 9) (n := 6) bu_170_7 rfl rfl (fun _ _ _ => rfl) (by decide) (fun c1846 e1847 => ?_)
  refine bp_ic (pc' := 12) (pt := 18) bu_170_9 rfl rfl (fun k1848 => ?_) (fun k1848 => ?_)
  · replace k1848 : ((s 1104)).toInt < (c1846).toInt := k1848
    refine bp_ld (pc' := 19) bu_170_18 rfl rfl (fun _ _ _ => rfl) rfl rfl ?_
    refine bn_cv (pc' := 22) (st := []) (args := []) bu_170_19 rfl rfl rfl (by decide) hP bq_o20 (by decide) (by omega) rfl (Nat.le_of_ble_eq_true rfl) (Nat.le_of_ble_eq_true rfl) ?_
    refine cr_161 (σ := σ) hP hR hT hf (by omega) (by omega) (fun h1849 s1850 A1851 L1852 hP1853 F1854 R1855 => ?_)
    have w1856 : s1850 1104 = (s 1104) := (F1854.1 1104 (Or.inr ⟨by decide, by decide⟩)).trans rfl
    have w1857 : s1850 1105 = (s 1105) := (F1854.1 1105 (Or.inr ⟨by decide, by decide⟩)).trans rfl
    have w1858 : s1850 1106 = (s 1106) := (F1854.1 1106 (Or.inr ⟨by decide, by decide⟩)).trans rfl
    have w1859 : s1850 1107 = (s 1107) := (F1854.1 1107 (Or.inr ⟨by decide, by decide⟩)).trans rfl
    have w1860 : s1850 1108 = (s 1108) := (F1854.1 1108 (Or.inr ⟨by decide, by decide⟩)).trans rfl
    have w1861 : s1850 1109 = (s 1109) := (F1854.1 1109 (Or.inr ⟨by decide, by decide⟩)).trans rfl
    have w1862 : s1850 1110 = (s 1110) := (F1854.1 1110 (Or.inr ⟨by decide, by decide⟩)).trans rfl
    have w1863 : A1851 17 = (A 17) := (F1854.2.1 17 (by decide)).trans rfl
    have w1864 : A1851 18 = (A 18) := (F1854.2.1 18 (by decide)).trans rfl
    show bp_G E PO NN ((170, 22, _, [], 0, 0) :: gs, h1849, none)
    have p1 := R1855.1
    have p2 := fun e => (R1855.2.1 e).2.2.1
    have p3 := fun e => (R1855.2.2 e).1
    unfold rc_k at p2
    refine bp_ld (pc' := 23) bu_170_22 rfl rfl (fun _ _ _ => rfl) rfl rfl ?_
    refine bn_gi (pc' := 26) (K := 2003) bu_170_23 rfl rfl (fun _ _ _ => rfl) hP1853 bq_o20 bq_i20_3 rfl rfl ?_
    refine bp_c (pc' := 27) (n := 2) bu_170_26 rfl rfl (fun _ _ _ => rfl) (by decide) (fun c1865 e1866 => ?_)
    refine bp_ic (pc' := 30) (pt := 36) bu_170_27 rfl rfl (fun k1867 => ?_) (fun k1867 => ?_)
    · replace k1867 : ((s1850 2003)).toInt = (c1865).toInt := k1867
      have hf1 : (py_go σ).2.1 = 0 := by
        by_cases e : (py_go σ).2.1 = 0
        · exact e
        · have := p3 e
          omega
      have p2 := p2 hf1
      have hk1 : K (py_go σ).1 = 1 := by omega
      have hb := (F1854.2.2.2 hc)
      have p4 := R1855.2.1 hf1
      have hq1 := rc_kn (Q := Q) R1855 hf1 hk1 (by rw [F1854.2.2.1]; exact hQ)
      refine bp_ld (pc' := 37) bu_170_36 rfl rfl (fun _ _ _ => rfl) rfl rfl ?_
      refine bn_gr (pc' := 40) (t := 11) bu_170_37 rfl rfl (fun _ _ _ => rfl) hP1853 bq_o20 bq_r20_1 ?_
      refine bp_ld (pc' := 41) bu_170_40 rfl rfl (fun _ _ _ => rfl) rfl rfl ?_
      refine bn_gl (pc' := 44) bu_170_41 rfl rfl (fun _ _ _ => rfl) hP1853 bq_o20 bq_f20_4 ?_
      refine bn_cv (pc' := 47) (st := []) (args := [.long (L1852 20 4)]) bu_170_44 rfl rfl rfl (by decide) hP1853 bq_o11 (by decide) (by omega) rfl (Nat.le_of_ble_eq_true rfl) (Nat.le_of_ble_eq_true rfl) ?_
      refine cx_205 hP1853 (by omega) (by omega) (fun r1868 p1869 => ?_)
      show bp_G E PO NN ((170, 47, _, [.int r1868], 0, 0) :: gs, h1849, none)
      refine bp_i0 (pc' := 50) (pt := 55) bu_170_47 rfl rfl (fun k1870 => ?_) (fun k1870 => ?_)
      · replace k1870 : (r1868).toInt = 0 := k1870
        refine bp_ld (pc' := 56) bu_170_55 rfl rfl (fun _ _ _ => rfl) rfl rfl ?_
        refine bn_gr (pc' := 59) (t := 11) bu_170_56 rfl rfl (fun _ _ _ => rfl) hP1853 bq_o20 bq_r20_1 ?_
        refine bp_ld (pc' := 60) bu_170_59 rfl rfl (fun _ _ _ => rfl) rfl rfl ?_
        refine bn_gl (pc' := 63) bu_170_60 rfl rfl (fun _ _ _ => rfl) hP1853 bq_o20 bq_f20_4 ?_
        refine bn_cv (pc' := 66) (st := []) (args := [.long (L1852 20 4)]) bu_170_63 rfl rfl rfl (by decide) hP1853 bq_o11 (by decide) (by omega) rfl (Nat.le_of_ble_eq_true rfl) (Nat.le_of_ble_eq_true rfl) ?_
        have en : py_nm Q (py_go σ).1 (py_go σ) = (py_go σ) := if_neg (fun hh => by
          obtain ⟨j, hj, ej⟩ := hq1.mp hh
          rcases p1869 with u | u
          · omega
          · exact u.2 j hj ej)
        have w1 : (py_go σ).1 = (py_go σ).1 ∧ (py_go σ).2.1 = (py_go σ).2.1 ∧ (py_go σ).2.2.2.2 = (py_go σ).2.2.2.2 := ⟨rfl, rfl, rfl⟩
        have hf2 : (py_go σ).2.1 = 0 := w1.2.1.trans hf1
        have hk2 : K (py_go σ).1 = 1 := by rw [w1.1]; exact hk1
        have hb2 := (F1854.2.2.2 hc)
        have a1 := (R1855.2.1 hf2).2.2.2.2.2.2.1
        have a2 : (py_go σ).2.2.2.2.length = σ.2.2.2.2.length := by
          rw [w1.2.2, (py_go_n (σ := σ))]
        refine cx_200 hP1853 (by omega) (by omega) (fun h1871 s1872 hP1873 z1874 f1875 => ?_)
        have R1876 := rc_ad R1855 hf2 (by omega) hk2 z1874 f1875
        have F1877 : rc_G s1850 A1851 L1852 s1872 A1851 (bh_upL L1852 19 (s1850 1104).toInt.toNat (L1852 20 4)) := ⟨fun j u => f1875 j (by omega), fun _ _ => rfl, if_neg (by decide), fun hq => by rw [f1875 1204 (by decide)]; exact ⟨hq.1, hq.2.1, by omega, by omega⟩⟩
        have w1879 : s1872 1105 = (s 1105) := (f1875 1105 (by decide)).trans w1857
        have w1880 : s1872 1106 = (s 1106) := (f1875 1106 (by decide)).trans w1858
        have w1881 : s1872 1107 = (s 1107) := (f1875 1107 (by decide)).trans w1859
        have w1882 : s1872 1108 = (s 1108) := (f1875 1108 (by decide)).trans w1860
        have w1883 : s1872 1109 = (s 1109) := (f1875 1109 (by decide)).trans w1861
        have w1884 : s1872 1110 = (s 1110) := (f1875 1110 (by decide)).trans w1862
        have n9 : (s1872 1104).toInt = (σ.2.2.2.2.length : Int) + 1 := by omega
        have G1885 := rc_G_t (rc_G_of F1854) F1877
        show bp_G E PO NN ((170, 66, _, [], 0, 0) :: gs, h1871, none)
        refine bp_ld (pc' := 67) bu_170_66 rfl rfl (fun _ _ _ => rfl) rfl rfl ?_
        refine bn_cv (pc' := 70) (st := []) (args := []) bu_170_67 rfl rfl rfl (by decide) hP1873 bq_o20 (by decide) (by omega) rfl (Nat.le_of_ble_eq_true rfl) (Nat.le_of_ble_eq_true rfl) ?_
        refine cr_161 (σ := (py_ad (py_go σ).1 (py_go σ))) hP1873 R1876 (rc_T_G hT G1885) hf2 (by show K (py_go σ).1 ≠ 0; rw [hk2]; decide) (by show K (py_go σ).1 ≠ 3; rw [hk2]; decide) (fun h1886 s1887 A1888 L1889 hP1890 F1891 R1892 => ?_)
        have w1893 : s1887 1104 = (s1872 1104) := ((rc_F_t rc_F_r F1891).1 1104 (Or.inr ⟨by decide, by decide⟩)).trans rfl
        have w1894 : s1887 1105 = (s 1105) := ((rc_F_t rc_F_r F1891).1 1105 (Or.inr ⟨by decide, by decide⟩)).trans w1879
        have w1895 : s1887 1106 = (s 1106) := ((rc_F_t rc_F_r F1891).1 1106 (Or.inr ⟨by decide, by decide⟩)).trans w1880
        have w1896 : s1887 1107 = (s 1107) := ((rc_F_t rc_F_r F1891).1 1107 (Or.inr ⟨by decide, by decide⟩)).trans w1881
        have w1897 : s1887 1108 = (s 1108) := ((rc_F_t rc_F_r F1891).1 1108 (Or.inr ⟨by decide, by decide⟩)).trans w1882
        have w1898 : s1887 1109 = (s 1109) := ((rc_F_t rc_F_r F1891).1 1109 (Or.inr ⟨by decide, by decide⟩)).trans w1883
        have w1899 : s1887 1110 = (s 1110) := ((rc_F_t rc_F_r F1891).1 1110 (Or.inr ⟨by decide, by decide⟩)).trans w1884
        have w1900 : A1888 17 = (A 17) := ((rc_F_t rc_F_r F1891).2.1 17 (by decide)).trans w1863
        have w1901 : A1888 18 = (A 18) := ((rc_F_t rc_F_r F1891).2.1 18 (by decide)).trans w1864
        have G1902 := rc_G_t G1885 (rc_G_of (rc_F_t rc_F_r F1891))
        show bp_G E PO NN ((170, 70, _, [], 0, 0) :: gs, h1886, none)
        refine bp_c (pc' := 71) (n := 0) bu_170_70 rfl rfl (fun _ _ _ => rfl) (by decide) (fun c1903 e1904 => ?_)
        refine bp_st (pc' := 72) bu_170_71 rfl rfl (fun _ _ _ => rfl) rfl (by decide) (by decide) (fun lv1905 F1906 g1907 => ?_)
        have g1908 := F1906 0 (.ref (E.1 + 20)) rfl (by decide) (Or.inl rfl)
        refine bp_ld (pc' := 73) bu_170_72 rfl rfl (fun _ _ _ => rfl) g1907 rfl ?_
        refine bp_c (pc' := 74) (n := 4) bu_170_73 rfl rfl (fun _ _ _ => rfl) (by decide) (fun c1909 e1910 => ?_)
        refine bp_ic (pc' := 77) (pt := 98) bu_170_74 rfl rfl (fun k1911 => ?_) (fun k1911 => ?_)
        · replace k1911 : (c1909).toInt < (c1903).toInt := k1911
          omega
        · replace k1911 : ¬ ((c1909).toInt < (c1903).toInt) := k1911
          refine bp_ld (pc' := 78) bu_170_77 rfl rfl (fun _ _ _ => rfl) g1908 rfl ?_
          refine bn_gr (pc' := 81) (t := 11) bu_170_78 rfl rfl (fun _ _ _ => rfl) hP1890 bq_o20 bq_r20_1 ?_
          refine bp_ld (pc' := 82) bu_170_81 rfl rfl (fun _ _ _ => rfl) g1907 rfl ?_
          refine bp_ld (pc' := 83) bu_170_82 rfl rfl (fun _ _ _ => rfl) g1908 rfl ?_
          refine bp_c (pc' := 84) (n := 0) bu_170_83 rfl rfl (fun _ _ _ => rfl) (by decide) (fun c1912 e1913 => ?_)
          refine bp_c (pc' := 86) (n := 9) bu_170_84 rfl rfl (fun _ _ _ => rfl) (by decide) (fun c1914 e1915 => ?_)
          refine bn_cv (pc' := 89) (st := [.int c1903, .ref (E.1 + 11)]) (args := [.int c1914, .int c1912]) bu_170_86 rfl rfl rfl (by decide) hP1890 bq_o20 (by decide) (by omega) rfl (Nat.le_of_ble_eq_true rfl) (Nat.le_of_ble_eq_true rfl) ?_
          refine cr_166 (σ := (py_go (py_ad (py_go σ).1 (py_go σ)))) hP1890 (by simp only [List.length_cons]; omega) R1892 (rc_T_G hT G1902) (fun h1916 s1917 A1918 L1919 r1923 hP1920 F1921 R1922 v1924 => ?_)
          rw [show (c1912 : Int32).toInt = 0 from e1913, show (c1914 : Int32).toInt = 9 from e1915] at R1922
          have w1925 : s1917 1104 = (s1872 1104) := (F1921.1 1104 (Or.inr ⟨by decide, by decide⟩)).trans w1893
          have w1926 : s1917 1105 = (s 1105) := (F1921.1 1105 (Or.inr ⟨by decide, by decide⟩)).trans w1894
          have w1927 : s1917 1106 = (s 1106) := (F1921.1 1106 (Or.inr ⟨by decide, by decide⟩)).trans w1895
          have w1928 : s1917 1107 = (s 1107) := (F1921.1 1107 (Or.inr ⟨by decide, by decide⟩)).trans w1896
          have w1929 : s1917 1108 = (s 1108) := (F1921.1 1108 (Or.inr ⟨by decide, by decide⟩)).trans w1897
          have w1930 : s1917 1109 = (s 1109) := (F1921.1 1109 (Or.inr ⟨by decide, by decide⟩)).trans w1898
          have w1931 : s1917 1110 = (s 1110) := (F1921.1 1110 (Or.inr ⟨by decide, by decide⟩)).trans w1899
          have w1932 : A1918 17 = (A 17) := (F1921.2.1 17 (by decide)).trans w1900
          have w1933 : A1918 18 = (A 18) := (F1921.2.1 18 (by decide)).trans w1901
          have G1934 := rc_G_t G1902 (rc_G_of F1921)
          show bp_G E PO NN ((170, 89, lv1905, [.int r1923, .int c1903, .ref (E.1 + 11)], 0, 0) :: gs, h1916, none)
          refine bn_cv (pc' := 92) (st := []) (args := [.int r1923, .int c1903]) bu_170_89 rfl rfl rfl (by decide) hP1920 bq_o11 (by decide) (by omega) rfl (Nat.le_of_ble_eq_true rfl) (Nat.le_of_ble_eq_true rfl) ?_
          have hb1940 := (F1921.2.2.2 (F1891.2.2.2 (F1877.2.2.2 (F1854.2.2.2 hc))))
          have m9 : (s1917 1104).toInt = (σ.2.2.2.2.length : Int) + 1 := by rw [w1925]; exact n9
          refine cx_207 hP1920 (by omega) (by omega) (fun h1935 A1936 hP1937 a1938 x1939 => ?_)
          have F1941 : rc_G s1917 A1918 L1919 s1917 A1936 L1919 := ⟨fun _ _ => rfl, fun c u => a1938 c (by omega) (by omega), rfl, id⟩
          have y1942 := (x1939 (by omega)).1 (by omega) (by omega)
          have w1943 : A1936 17 = (upd (A 17) (4 * σ.2.2.2.2.length) r1923) := by rw [y1942.1, show 4 * ((s1917 1104).toInt.toNat - 1) + (c1903).toInt.toNat = (4 * σ.2.2.2.2.length) by omega, w1932]
          have w1944 : A1936 18 = (A 18) := y1942.2.trans w1933
          have G1945 := rc_G_t G1934 F1941
          show bp_G E PO NN ((170, 92, lv1905, [], 0, 0) :: gs, h1935, none)
          refine bp_inc (pc' := 95) bu_170_92 rfl (by decide) g1907 (by decide) (by omega) (by omega) (fun lv1946 y1949 F1947 g1948 e1950 => ?_)
          have g1951 := F1947 0 (.ref (E.1 + 20)) g1908 (by decide) (Or.inl rfl)
          have e1952 : y1949.toInt = 1 := by omega
          refine bp_go (pc' := 72) bu_170_95 rfl ?_
          refine bp_ld (pc' := 73) bu_170_72 rfl rfl (fun _ _ _ => rfl) g1948 rfl ?_
          refine bp_c (pc' := 74) (n := 4) bu_170_73 rfl rfl (fun _ _ _ => rfl) (by decide) (fun c1953 e1954 => ?_)
          refine bp_ic (pc' := 77) (pt := 98) bu_170_74 rfl rfl (fun k1955 => ?_) (fun k1955 => ?_)
          · replace k1955 : (c1953).toInt < (y1949).toInt := k1955
            omega
          · replace k1955 : ¬ ((c1953).toInt < (y1949).toInt) := k1955
            refine bp_ld (pc' := 78) bu_170_77 rfl rfl (fun _ _ _ => rfl) g1951 rfl ?_
            refine bn_gr (pc' := 81) (t := 11) bu_170_78 rfl rfl (fun _ _ _ => rfl) hP1937 bq_o20 bq_r20_1 ?_
            refine bp_ld (pc' := 82) bu_170_81 rfl rfl (fun _ _ _ => rfl) g1948 rfl ?_
            refine bp_ld (pc' := 83) bu_170_82 rfl rfl (fun _ _ _ => rfl) g1951 rfl ?_
            refine bp_c (pc' := 84) (n := 0) bu_170_83 rfl rfl (fun _ _ _ => rfl) (by decide) (fun c1956 e1957 => ?_)
            refine bp_c (pc' := 86) (n := 9) bu_170_84 rfl rfl (fun _ _ _ => rfl) (by decide) (fun c1958 e1959 => ?_)
            refine bn_cv (pc' := 89) (st := [.int y1949, .ref (E.1 + 11)]) (args := [.int c1958, .int c1956]) bu_170_86 rfl rfl rfl (by decide) hP1937 bq_o20 (by decide) (by omega) rfl (Nat.le_of_ble_eq_true rfl) (Nat.le_of_ble_eq_true rfl) ?_
            refine cr_166 (σ := (py_nu K V 0 9 (py_go (py_ad (py_go σ).1 (py_go σ))))) hP1937 (by simp only [List.length_cons]; omega) R1922 (rc_T_G hT G1945) (fun h1960 s1961 A1962 L1963 r1967 hP1964 F1965 R1966 v1968 => ?_)
            rw [show (c1956 : Int32).toInt = 0 from e1957, show (c1958 : Int32).toInt = 9 from e1959] at R1966
            have w1969 : s1961 1104 = (s1872 1104) := (F1965.1 1104 (Or.inr ⟨by decide, by decide⟩)).trans w1925
            have w1970 : s1961 1105 = (s 1105) := (F1965.1 1105 (Or.inr ⟨by decide, by decide⟩)).trans w1926
            have w1971 : s1961 1106 = (s 1106) := (F1965.1 1106 (Or.inr ⟨by decide, by decide⟩)).trans w1927
            have w1972 : s1961 1107 = (s 1107) := (F1965.1 1107 (Or.inr ⟨by decide, by decide⟩)).trans w1928
            have w1973 : s1961 1108 = (s 1108) := (F1965.1 1108 (Or.inr ⟨by decide, by decide⟩)).trans w1929
            have w1974 : s1961 1109 = (s 1109) := (F1965.1 1109 (Or.inr ⟨by decide, by decide⟩)).trans w1930
            have w1975 : s1961 1110 = (s 1110) := (F1965.1 1110 (Or.inr ⟨by decide, by decide⟩)).trans w1931
            have w1976 : A1962 17 = (upd (A 17) (4 * σ.2.2.2.2.length) r1923) := (F1965.2.1 17 (by decide)).trans w1943
            have w1977 : A1962 18 = (A 18) := (F1965.2.1 18 (by decide)).trans w1944
            have G1978 := rc_G_t G1945 (rc_G_of F1965)
            show bp_G E PO NN ((170, 89, lv1946, [.int r1967, .int y1949, .ref (E.1 + 11)], 0, 0) :: gs, h1960, none)
            refine bn_cv (pc' := 92) (st := []) (args := [.int r1967, .int y1949]) bu_170_89 rfl rfl rfl (by decide) hP1964 bq_o11 (by decide) (by omega) rfl (Nat.le_of_ble_eq_true rfl) (Nat.le_of_ble_eq_true rfl) ?_
            have hb1984 := (F1965.2.2.2 (F1921.2.2.2 (F1891.2.2.2 (F1877.2.2.2 (F1854.2.2.2 hc)))))
            have m9 : (s1961 1104).toInt = (σ.2.2.2.2.length : Int) + 1 := by rw [w1969]; exact n9
            refine cx_207 hP1964 (by omega) (by omega) (fun h1979 A1980 hP1981 a1982 x1983 => ?_)
            have F1985 : rc_G s1961 A1962 L1963 s1961 A1980 L1963 := ⟨fun _ _ => rfl, fun c u => a1982 c (by omega) (by omega), rfl, id⟩
            have y1986 := (x1983 (by omega)).1 (by omega) (by omega)
            have w1987 : A1980 17 = (upd (upd (A 17) (4 * σ.2.2.2.2.length) r1923) (4 * σ.2.2.2.2.length + 1) r1967) := by rw [y1986.1, show 4 * ((s1961 1104).toInt.toNat - 1) + (y1949).toInt.toNat = (4 * σ.2.2.2.2.length + 1) by omega, w1976]
            have w1988 : A1980 18 = (A 18) := y1986.2.trans w1977
            have G1989 := rc_G_t G1978 F1985
            show bp_G E PO NN ((170, 92, lv1946, [], 0, 0) :: gs, h1979, none)
            refine bp_inc (pc' := 95) bu_170_92 rfl (by decide) g1948 (by decide) (by omega) (by omega) (fun lv1990 y1993 F1991 g1992 e1994 => ?_)
            have g1995 := F1991 0 (.ref (E.1 + 20)) g1951 (by decide) (Or.inl rfl)
            have e1996 : y1993.toInt = 2 := by omega
            refine bp_go (pc' := 72) bu_170_95 rfl ?_
            refine bp_ld (pc' := 73) bu_170_72 rfl rfl (fun _ _ _ => rfl) g1992 rfl ?_
            refine bp_c (pc' := 74) (n := 4) bu_170_73 rfl rfl (fun _ _ _ => rfl) (by decide) (fun c1997 e1998 => ?_)
            refine bp_ic (pc' := 77) (pt := 98) bu_170_74 rfl rfl (fun k1999 => ?_) (fun k1999 => ?_)
            · replace k1999 : (c1997).toInt < (y1993).toInt := k1999
              omega
            · replace k1999 : ¬ ((c1997).toInt < (y1993).toInt) := k1999
              refine bp_ld (pc' := 78) bu_170_77 rfl rfl (fun _ _ _ => rfl) g1995 rfl ?_
              refine bn_gr (pc' := 81) (t := 11) bu_170_78 rfl rfl (fun _ _ _ => rfl) hP1981 bq_o20 bq_r20_1 ?_
              refine bp_ld (pc' := 82) bu_170_81 rfl rfl (fun _ _ _ => rfl) g1992 rfl ?_
              refine bp_ld (pc' := 83) bu_170_82 rfl rfl (fun _ _ _ => rfl) g1995 rfl ?_
              refine bp_c (pc' := 84) (n := 0) bu_170_83 rfl rfl (fun _ _ _ => rfl) (by decide) (fun c2000 e2001 => ?_)
              refine bp_c (pc' := 86) (n := 9) bu_170_84 rfl rfl (fun _ _ _ => rfl) (by decide) (fun c2002 e2003 => ?_)
              refine bn_cv (pc' := 89) (st := [.int y1993, .ref (E.1 + 11)]) (args := [.int c2002, .int c2000]) bu_170_86 rfl rfl rfl (by decide) hP1981 bq_o20 (by decide) (by omega) rfl (Nat.le_of_ble_eq_true rfl) (Nat.le_of_ble_eq_true rfl) ?_
              refine cr_166 (σ := (py_nu K V 0 9 (py_nu K V 0 9 (py_go (py_ad (py_go σ).1 (py_go σ)))))) hP1981 (by simp only [List.length_cons]; omega) R1966 (rc_T_G hT G1989) (fun h2004 s2005 A2006 L2007 r2011 hP2008 F2009 R2010 v2012 => ?_)
              rw [show (c2000 : Int32).toInt = 0 from e2001, show (c2002 : Int32).toInt = 9 from e2003] at R2010
              have w2013 : s2005 1104 = (s1872 1104) := (F2009.1 1104 (Or.inr ⟨by decide, by decide⟩)).trans w1969
              have w2014 : s2005 1105 = (s 1105) := (F2009.1 1105 (Or.inr ⟨by decide, by decide⟩)).trans w1970
              have w2015 : s2005 1106 = (s 1106) := (F2009.1 1106 (Or.inr ⟨by decide, by decide⟩)).trans w1971
              have w2016 : s2005 1107 = (s 1107) := (F2009.1 1107 (Or.inr ⟨by decide, by decide⟩)).trans w1972
              have w2017 : s2005 1108 = (s 1108) := (F2009.1 1108 (Or.inr ⟨by decide, by decide⟩)).trans w1973
              have w2018 : s2005 1109 = (s 1109) := (F2009.1 1109 (Or.inr ⟨by decide, by decide⟩)).trans w1974
              have w2019 : s2005 1110 = (s 1110) := (F2009.1 1110 (Or.inr ⟨by decide, by decide⟩)).trans w1975
              have w2020 : A2006 17 = (upd (upd (A 17) (4 * σ.2.2.2.2.length) r1923) (4 * σ.2.2.2.2.length + 1) r1967) := (F2009.2.1 17 (by decide)).trans w1987
              have w2021 : A2006 18 = (A 18) := (F2009.2.1 18 (by decide)).trans w1988
              have G2022 := rc_G_t G1989 (rc_G_of F2009)
              show bp_G E PO NN ((170, 89, lv1990, [.int r2011, .int y1993, .ref (E.1 + 11)], 0, 0) :: gs, h2004, none)
              refine bn_cv (pc' := 92) (st := []) (args := [.int r2011, .int y1993]) bu_170_89 rfl rfl rfl (by decide) hP2008 bq_o11 (by decide) (by omega) rfl (Nat.le_of_ble_eq_true rfl) (Nat.le_of_ble_eq_true rfl) ?_
              have hb2028 := (F2009.2.2.2 (F1965.2.2.2 (F1921.2.2.2 (F1891.2.2.2 (F1877.2.2.2 (F1854.2.2.2 hc))))))
              have m9 : (s2005 1104).toInt = (σ.2.2.2.2.length : Int) + 1 := by rw [w2013]; exact n9
              refine cx_207 hP2008 (by omega) (by omega) (fun h2023 A2024 hP2025 a2026 x2027 => ?_)
              have F2029 : rc_G s2005 A2006 L2007 s2005 A2024 L2007 := ⟨fun _ _ => rfl, fun c u => a2026 c (by omega) (by omega), rfl, id⟩
              have y2030 := (x2027 (by omega)).1 (by omega) (by omega)
              have w2031 : A2024 17 = (upd (upd (upd (A 17) (4 * σ.2.2.2.2.length) r1923) (4 * σ.2.2.2.2.length + 1) r1967) (4 * σ.2.2.2.2.length + 2) r2011) := by rw [y2030.1, show 4 * ((s2005 1104).toInt.toNat - 1) + (y1993).toInt.toNat = (4 * σ.2.2.2.2.length + 2) by omega, w2020]
              have w2032 : A2024 18 = (A 18) := y2030.2.trans w2021
              have G2033 := rc_G_t G2022 F2029
              show bp_G E PO NN ((170, 92, lv1990, [], 0, 0) :: gs, h2023, none)
              refine bp_inc (pc' := 95) bu_170_92 rfl (by decide) g1992 (by decide) (by omega) (by omega) (fun lv2034 y2037 F2035 g2036 e2038 => ?_)
              have g2039 := F2035 0 (.ref (E.1 + 20)) g1995 (by decide) (Or.inl rfl)
              have e2040 : y2037.toInt = 3 := by omega
              refine bp_go (pc' := 72) bu_170_95 rfl ?_
              refine bp_ld (pc' := 73) bu_170_72 rfl rfl (fun _ _ _ => rfl) g2036 rfl ?_
              refine bp_c (pc' := 74) (n := 4) bu_170_73 rfl rfl (fun _ _ _ => rfl) (by decide) (fun c2041 e2042 => ?_)
              refine bp_ic (pc' := 77) (pt := 98) bu_170_74 rfl rfl (fun k2043 => ?_) (fun k2043 => ?_)
              · replace k2043 : (c2041).toInt < (y2037).toInt := k2043
                omega
              · replace k2043 : ¬ ((c2041).toInt < (y2037).toInt) := k2043
                refine bp_ld (pc' := 78) bu_170_77 rfl rfl (fun _ _ _ => rfl) g2039 rfl ?_
                refine bn_gr (pc' := 81) (t := 11) bu_170_78 rfl rfl (fun _ _ _ => rfl) hP2025 bq_o20 bq_r20_1 ?_
                refine bp_ld (pc' := 82) bu_170_81 rfl rfl (fun _ _ _ => rfl) g2036 rfl ?_
                refine bp_ld (pc' := 83) bu_170_82 rfl rfl (fun _ _ _ => rfl) g2039 rfl ?_
                refine bp_c (pc' := 84) (n := 0) bu_170_83 rfl rfl (fun _ _ _ => rfl) (by decide) (fun c2044 e2045 => ?_)
                refine bp_c (pc' := 86) (n := 9) bu_170_84 rfl rfl (fun _ _ _ => rfl) (by decide) (fun c2046 e2047 => ?_)
                refine bn_cv (pc' := 89) (st := [.int y2037, .ref (E.1 + 11)]) (args := [.int c2046, .int c2044]) bu_170_86 rfl rfl rfl (by decide) hP2025 bq_o20 (by decide) (by omega) rfl (Nat.le_of_ble_eq_true rfl) (Nat.le_of_ble_eq_true rfl) ?_
                refine cr_166 (σ := (py_nu K V 0 9 (py_nu K V 0 9 (py_nu K V 0 9 (py_go (py_ad (py_go σ).1 (py_go σ))))))) hP2025 (by simp only [List.length_cons]; omega) R2010 (rc_T_G hT G2033) (fun h2048 s2049 A2050 L2051 r2055 hP2052 F2053 R2054 v2056 => ?_)
                rw [show (c2044 : Int32).toInt = 0 from e2045, show (c2046 : Int32).toInt = 9 from e2047] at R2054
                have w2057 : s2049 1104 = (s1872 1104) := (F2053.1 1104 (Or.inr ⟨by decide, by decide⟩)).trans w2013
                have w2058 : s2049 1105 = (s 1105) := (F2053.1 1105 (Or.inr ⟨by decide, by decide⟩)).trans w2014
                have w2059 : s2049 1106 = (s 1106) := (F2053.1 1106 (Or.inr ⟨by decide, by decide⟩)).trans w2015
                have w2060 : s2049 1107 = (s 1107) := (F2053.1 1107 (Or.inr ⟨by decide, by decide⟩)).trans w2016
                have w2061 : s2049 1108 = (s 1108) := (F2053.1 1108 (Or.inr ⟨by decide, by decide⟩)).trans w2017
                have w2062 : s2049 1109 = (s 1109) := (F2053.1 1109 (Or.inr ⟨by decide, by decide⟩)).trans w2018
                have w2063 : s2049 1110 = (s 1110) := (F2053.1 1110 (Or.inr ⟨by decide, by decide⟩)).trans w2019
                have w2064 : A2050 17 = (upd (upd (upd (A 17) (4 * σ.2.2.2.2.length) r1923) (4 * σ.2.2.2.2.length + 1) r1967) (4 * σ.2.2.2.2.length + 2) r2011) := (F2053.2.1 17 (by decide)).trans w2031
                have w2065 : A2050 18 = (A 18) := (F2053.2.1 18 (by decide)).trans w2032
                have G2066 := rc_G_t G2033 (rc_G_of F2053)
                show bp_G E PO NN ((170, 89, lv2034, [.int r2055, .int y2037, .ref (E.1 + 11)], 0, 0) :: gs, h2048, none)
                refine bn_cv (pc' := 92) (st := []) (args := [.int r2055, .int y2037]) bu_170_89 rfl rfl rfl (by decide) hP2052 bq_o11 (by decide) (by omega) rfl (Nat.le_of_ble_eq_true rfl) (Nat.le_of_ble_eq_true rfl) ?_
                have hb2072 := (F2053.2.2.2 (F2009.2.2.2 (F1965.2.2.2 (F1921.2.2.2 (F1891.2.2.2 (F1877.2.2.2 (F1854.2.2.2 hc)))))))
                have m9 : (s2049 1104).toInt = (σ.2.2.2.2.length : Int) + 1 := by rw [w2057]; exact n9
                refine cx_207 hP2052 (by omega) (by omega) (fun h2067 A2068 hP2069 a2070 x2071 => ?_)
                have F2073 : rc_G s2049 A2050 L2051 s2049 A2068 L2051 := ⟨fun _ _ => rfl, fun c u => a2070 c (by omega) (by omega), rfl, id⟩
                have y2074 := (x2071 (by omega)).1 (by omega) (by omega)
                have w2075 : A2068 17 = (upd (upd (upd (upd (A 17) (4 * σ.2.2.2.2.length) r1923) (4 * σ.2.2.2.2.length + 1) r1967) (4 * σ.2.2.2.2.length + 2) r2011) (4 * σ.2.2.2.2.length + 3) r2055) := by rw [y2074.1, show 4 * ((s2049 1104).toInt.toNat - 1) + (y2037).toInt.toNat = (4 * σ.2.2.2.2.length + 3) by omega, w2064]
                have w2076 : A2068 18 = (A 18) := y2074.2.trans w2065
                have G2077 := rc_G_t G2066 F2073
                show bp_G E PO NN ((170, 92, lv2034, [], 0, 0) :: gs, h2067, none)
                refine bp_inc (pc' := 95) bu_170_92 rfl (by decide) g2036 (by decide) (by omega) (by omega) (fun lv2078 y2081 F2079 g2080 e2082 => ?_)
                have g2083 := F2079 0 (.ref (E.1 + 20)) g2039 (by decide) (Or.inl rfl)
                have e2084 : y2081.toInt = 4 := by omega
                refine bp_go (pc' := 72) bu_170_95 rfl ?_
                refine bp_ld (pc' := 73) bu_170_72 rfl rfl (fun _ _ _ => rfl) g2080 rfl ?_
                refine bp_c (pc' := 74) (n := 4) bu_170_73 rfl rfl (fun _ _ _ => rfl) (by decide) (fun c2085 e2086 => ?_)
                refine bp_ic (pc' := 77) (pt := 98) bu_170_74 rfl rfl (fun k2087 => ?_) (fun k2087 => ?_)
                · replace k2087 : (c2085).toInt < (y2081).toInt := k2087
                  omega
                · replace k2087 : ¬ ((c2085).toInt < (y2081).toInt) := k2087
                  refine bp_ld (pc' := 78) bu_170_77 rfl rfl (fun _ _ _ => rfl) g2083 rfl ?_
                  refine bn_gr (pc' := 81) (t := 11) bu_170_78 rfl rfl (fun _ _ _ => rfl) hP2069 bq_o20 bq_r20_1 ?_
                  refine bp_ld (pc' := 82) bu_170_81 rfl rfl (fun _ _ _ => rfl) g2080 rfl ?_
                  refine bp_ld (pc' := 83) bu_170_82 rfl rfl (fun _ _ _ => rfl) g2083 rfl ?_
                  refine bp_c (pc' := 84) (n := 0) bu_170_83 rfl rfl (fun _ _ _ => rfl) (by decide) (fun c2088 e2089 => ?_)
                  refine bp_c (pc' := 86) (n := 9) bu_170_84 rfl rfl (fun _ _ _ => rfl) (by decide) (fun c2090 e2091 => ?_)
                  refine bn_cv (pc' := 89) (st := [.int y2081, .ref (E.1 + 11)]) (args := [.int c2090, .int c2088]) bu_170_86 rfl rfl rfl (by decide) hP2069 bq_o20 (by decide) (by omega) rfl (Nat.le_of_ble_eq_true rfl) (Nat.le_of_ble_eq_true rfl) ?_
                  refine cr_166 (σ := (py_nu K V 0 9 (py_nu K V 0 9 (py_nu K V 0 9 (py_nu K V 0 9 (py_go (py_ad (py_go σ).1 (py_go σ)))))))) hP2069 (by simp only [List.length_cons]; omega) R2054 (rc_T_G hT G2077) (fun h2092 s2093 A2094 L2095 r2099 hP2096 F2097 R2098 v2100 => ?_)
                  rw [show (c2088 : Int32).toInt = 0 from e2089, show (c2090 : Int32).toInt = 9 from e2091] at R2098
                  have w2101 : s2093 1104 = (s1872 1104) := (F2097.1 1104 (Or.inr ⟨by decide, by decide⟩)).trans w2057
                  have w2102 : s2093 1105 = (s 1105) := (F2097.1 1105 (Or.inr ⟨by decide, by decide⟩)).trans w2058
                  have w2103 : s2093 1106 = (s 1106) := (F2097.1 1106 (Or.inr ⟨by decide, by decide⟩)).trans w2059
                  have w2104 : s2093 1107 = (s 1107) := (F2097.1 1107 (Or.inr ⟨by decide, by decide⟩)).trans w2060
                  have w2105 : s2093 1108 = (s 1108) := (F2097.1 1108 (Or.inr ⟨by decide, by decide⟩)).trans w2061
                  have w2106 : s2093 1109 = (s 1109) := (F2097.1 1109 (Or.inr ⟨by decide, by decide⟩)).trans w2062
                  have w2107 : s2093 1110 = (s 1110) := (F2097.1 1110 (Or.inr ⟨by decide, by decide⟩)).trans w2063
                  have w2108 : A2094 17 = (upd (upd (upd (upd (A 17) (4 * σ.2.2.2.2.length) r1923) (4 * σ.2.2.2.2.length + 1) r1967) (4 * σ.2.2.2.2.length + 2) r2011) (4 * σ.2.2.2.2.length + 3) r2055) := (F2097.2.1 17 (by decide)).trans w2075
                  have w2109 : A2094 18 = (A 18) := (F2097.2.1 18 (by decide)).trans w2076
                  have G2110 := rc_G_t G2077 (rc_G_of F2097)
                  show bp_G E PO NN ((170, 89, lv2078, [.int r2099, .int y2081, .ref (E.1 + 11)], 0, 0) :: gs, h2092, none)
                  refine bn_cv (pc' := 92) (st := []) (args := [.int r2099, .int y2081]) bu_170_89 rfl rfl rfl (by decide) hP2096 bq_o11 (by decide) (by omega) rfl (Nat.le_of_ble_eq_true rfl) (Nat.le_of_ble_eq_true rfl) ?_
                  have hb2116 := (F2097.2.2.2 (F2053.2.2.2 (F2009.2.2.2 (F1965.2.2.2 (F1921.2.2.2 (F1891.2.2.2 (F1877.2.2.2 (F1854.2.2.2 hc))))))))
                  have m9 : (s2093 1104).toInt = (σ.2.2.2.2.length : Int) + 1 := by rw [w2101]; exact n9
                  refine cx_207 hP2096 (by omega) (by omega) (fun h2111 A2112 hP2113 a2114 x2115 => ?_)
                  have F2117 : rc_G s2093 A2094 L2095 s2093 A2112 L2095 := ⟨fun _ _ => rfl, fun c u => a2114 c (by omega) (by omega), rfl, id⟩
                  have y2118 := (x2115 (by omega)).2 (by omega)
                  have w2119 : A2112 18 = (upd (A 18) σ.2.2.2.2.length r2099) := by rw [y2118.1, show (s2093 1104).toInt.toNat - 1 = σ.2.2.2.2.length by omega, w2109]
                  have w2120 : A2112 17 = (upd (upd (upd (upd (A 17) (4 * σ.2.2.2.2.length) r1923) (4 * σ.2.2.2.2.length + 1) r1967) (4 * σ.2.2.2.2.length + 2) r2011) (4 * σ.2.2.2.2.length + 3) r2055) := y2118.2.trans w2108
                  have G2121 := rc_G_t G2110 F2117
                  show bp_G E PO NN ((170, 92, lv2078, [], 0, 0) :: gs, h2111, none)
                  refine bp_inc (pc' := 95) bu_170_92 rfl (by decide) g2080 (by decide) (by omega) (by omega) (fun lv2122 y2125 F2123 g2124 e2126 => ?_)
                  have g2127 := F2123 0 (.ref (E.1 + 20)) g2083 (by decide) (Or.inl rfl)
                  have e2128 : y2125.toInt = 5 := by omega
                  refine bp_go (pc' := 72) bu_170_95 rfl ?_
                  refine bp_ld (pc' := 73) bu_170_72 rfl rfl (fun _ _ _ => rfl) g2124 rfl ?_
                  refine bp_c (pc' := 74) (n := 4) bu_170_73 rfl rfl (fun _ _ _ => rfl) (by decide) (fun c2129 e2130 => ?_)
                  refine bp_ic (pc' := 77) (pt := 98) bu_170_74 rfl rfl (fun k2131 => ?_) (fun k2131 => ?_)
                  · replace k2131 : (c2129).toInt < (y2125).toInt := k2131
                    refine bp_ld (pc' := 99) bu_170_98 rfl rfl (fun _ _ _ => rfl) g2127 rfl ?_
                    refine bp_c (pc' := 101) (n := 59) bu_170_99 rfl rfl (fun _ _ _ => rfl) (by decide) (fun c2132 e2133 => ?_)
                    refine bn_cv (pc' := 104) (st := []) (args := [.int c2132]) bu_170_101 rfl rfl rfl (by decide) hP2113 bq_o20 (by decide) (by omega) rfl (Nat.le_of_ble_eq_true rfl) (Nat.le_of_ble_eq_true rfl) ?_
                    refine cr_177 (σ := (py_nu K V 0 9 (py_nu K V 0 9 (py_nu K V 0 9 (py_nu K V 0 9 (py_nu K V 0 9 (py_go (py_ad (py_go σ).1 (py_go σ))))))))) (kc := 4) (by omega) hP2113 (by simp only [List.length_cons]; omega) R2098 (rc_T_G hT G2121) (fun h2134 s2135 A2136 L2137 hP2138 F2139 R2140 => ?_)
                    have w2141 : s2135 1104 = (s1872 1104) := (F2139.1 1104 (Or.inr ⟨by decide, by decide⟩)).trans w2101
                    have w2142 : s2135 1105 = (s 1105) := (F2139.1 1105 (Or.inr ⟨by decide, by decide⟩)).trans w2102
                    have w2143 : s2135 1106 = (s 1106) := (F2139.1 1106 (Or.inr ⟨by decide, by decide⟩)).trans w2103
                    have w2144 : s2135 1107 = (s 1107) := (F2139.1 1107 (Or.inr ⟨by decide, by decide⟩)).trans w2104
                    have w2145 : s2135 1108 = (s 1108) := (F2139.1 1108 (Or.inr ⟨by decide, by decide⟩)).trans w2105
                    have w2146 : s2135 1109 = (s 1109) := (F2139.1 1109 (Or.inr ⟨by decide, by decide⟩)).trans w2106
                    have w2147 : s2135 1110 = (s 1110) := (F2139.1 1110 (Or.inr ⟨by decide, by decide⟩)).trans w2107
                    have w2148 : A2136 17 = (upd (upd (upd (upd (A 17) (4 * σ.2.2.2.2.length) r1923) (4 * σ.2.2.2.2.length + 1) r1967) (4 * σ.2.2.2.2.length + 2) r2011) (4 * σ.2.2.2.2.length + 3) r2055) := (F2139.2.1 17 (by decide)).trans w2120
                    have w2149 : A2136 18 = (upd (A 18) σ.2.2.2.2.length r2099) := (F2139.2.1 18 (by decide)).trans w2119
                    have G2150 := rc_G_t G2121 (rc_G_of F2139)
                    show bp_G E PO NN ((170, 104, lv2122, [], 0, 0) :: gs, h2134, none)
                    refine bp_rv bu_170_104 ?_
                    have ee : py_man K V Q σ = (py_mu K 4 (py_nu K V 0 9 (py_nu K V 0 9 (py_nu K V 0 9 (py_nu K V 0 9 (py_nu K V 0 9 (py_go (py_ad (py_go σ).1 (py_go σ))))))))) := by
                      unfold py_man py_five
                      rw [if_neg (by omega), if_pos ⟨hf1, hk1⟩, en]
                    refine kk _ _ _ _ hP2138 G2150 (by rw [ee]; exact R2140) (fun q => ?_)
                    rw [ee] at q
                    have f5 := py_five_ok q
                    have eN : (py_go (py_ad (py_go σ).1 (py_go σ))).1 = (py_go σ).1 + 1 := (py_go_st f5.1).2.trans (congrArg (fun z => z + 1) (show (py_go σ).1 = (py_go σ).1 from w1.1))
                    rw [eN] at f5
                    have g0 := v1924 f5.1 (by rw [eN]; exact f5.2.1)
                    have g1 := v1968 f5.2.2.1.1 (by rw [f5.2.2.1.2.1]; exact f5.2.2.1.2.2)
                    have g2 := v2012 f5.2.2.2.1.1 (by rw [f5.2.2.2.1.2.1]; exact f5.2.2.2.1.2.2)
                    have g3 := v2056 f5.2.2.2.2.1.1 (by rw [f5.2.2.2.2.1.2.1]; exact f5.2.2.2.2.1.2.2)
                    have g4 := v2100 f5.2.2.2.2.2.1 (by rw [f5.2.2.2.2.2.2.1]; exact f5.2.2.2.2.2.2.2)
                    rw [eN] at g0
                    rw [f5.2.2.1.2.1] at g1
                    rw [f5.2.2.2.1.2.1] at g2
                    rw [f5.2.2.2.2.1.2.1] at g3
                    rw [f5.2.2.2.2.2.2.1] at g4
                    refine rc_M_of (fun j j1 j2 => ?_) w2148 w2149 g0 g1 g2 g3 g4
                    rcases (show j = 1105 ∨ j = 1106 ∨ j = 1107 ∨ j = 1108 ∨ j = 1109 ∨ j = 1110 by omega) with rfl | rfl | rfl | rfl | rfl | rfl
                    · exact w2142
                    · exact w2143
                    · exact w2144
                    · exact w2145
                    · exact w2146
                    · exact w2147
                  · replace k2131 : ¬ ((c2129).toInt < (y2125).toInt) := k2131
                    omega
      · replace k1870 : ¬ ((r1868).toInt = 0) := k1870
        refine bp_ld (pc' := 51) bu_170_50 rfl rfl (fun _ _ _ => rfl) rfl rfl ?_
        refine bp_c (pc' := 52) (n := 3) bu_170_51 rfl rfl (fun _ _ _ => rfl) (by decide) (fun c2151 e2152 => ?_)
        refine bn_cv (pc' := 55) (st := []) (args := [.int c2151]) bu_170_52 rfl rfl rfl (by decide) hP1853 bq_o20 (by decide) (by omega) rfl (Nat.le_of_ble_eq_true rfl) (Nat.le_of_ble_eq_true rfl) ?_
        refine cr_165 (σ := (py_go σ)) (kn := 3) (by omega) (by decide) hP1853 R1855 hf1 (fun h2153 s2154 A2155 L2156 hP2157 F2158 R2159 => ?_)
        have w2160 : s2154 1104 = (s 1104) := ((rc_F_t rc_F_r F2158).1 1104 (Or.inr ⟨by decide, by decide⟩)).trans w1856
        have w2161 : s2154 1105 = (s 1105) := ((rc_F_t rc_F_r F2158).1 1105 (Or.inr ⟨by decide, by decide⟩)).trans w1857
        have w2162 : s2154 1106 = (s 1106) := ((rc_F_t rc_F_r F2158).1 1106 (Or.inr ⟨by decide, by decide⟩)).trans w1858
        have w2163 : s2154 1107 = (s 1107) := ((rc_F_t rc_F_r F2158).1 1107 (Or.inr ⟨by decide, by decide⟩)).trans w1859
        have w2164 : s2154 1108 = (s 1108) := ((rc_F_t rc_F_r F2158).1 1108 (Or.inr ⟨by decide, by decide⟩)).trans w1860
        have w2165 : s2154 1109 = (s 1109) := ((rc_F_t rc_F_r F2158).1 1109 (Or.inr ⟨by decide, by decide⟩)).trans w1861
        have w2166 : s2154 1110 = (s 1110) := ((rc_F_t rc_F_r F2158).1 1110 (Or.inr ⟨by decide, by decide⟩)).trans w1862
        have w2167 : A2155 17 = (A 17) := ((rc_F_t rc_F_r F2158).2.1 17 (by decide)).trans w1863
        have w2168 : A2155 18 = (A 18) := ((rc_F_t rc_F_r F2158).2.1 18 (by decide)).trans w1864
        show bp_G E PO NN ((170, 55, _, [], 0, 0) :: gs, h2153, none)
        refine bp_ld (pc' := 56) bu_170_55 rfl rfl (fun _ _ _ => rfl) rfl rfl ?_
        refine bn_gr (pc' := 59) (t := 11) bu_170_56 rfl rfl (fun _ _ _ => rfl) hP2157 bq_o20 bq_r20_1 ?_
        refine bp_ld (pc' := 60) bu_170_59 rfl rfl (fun _ _ _ => rfl) rfl rfl ?_
        refine bn_gl (pc' := 63) bu_170_60 rfl rfl (fun _ _ _ => rfl) hP2157 bq_o20 bq_f20_4 ?_
        refine bn_cv (pc' := 66) (st := []) (args := [.long (L2156 20 4)]) bu_170_63 rfl rfl rfl (by decide) hP2157 bq_o11 (by decide) (by omega) rfl (Nat.le_of_ble_eq_true rfl) (Nat.le_of_ble_eq_true rfl) ?_
        have en : py_nm Q (py_go σ).1 (py_go σ) = (py_wr 3 (py_go σ).1 (py_go σ)) := if_pos (hq1.mpr (by rcases p1869 with u | u; exact u.2; exact absurd u.1 (by omega)))
        have w1 := (py_wr_t (σ := py_go σ) (k := 3) (t := (py_go σ).1))
        have hf2 : (py_wr 3 (py_go σ).1 (py_go σ)).2.1 = 0 := w1.2.1.trans hf1
        have hk2 : K (py_wr 3 (py_go σ).1 (py_go σ)).1 = 1 := by rw [w1.1]; exact hk1
        have hb2 := (F2158.2.2.2 (F1854.2.2.2 hc))
        have a1 := (R2159.2.1 hf2).2.2.2.2.2.2.1
        have a2 : (py_wr 3 (py_go σ).1 (py_go σ)).2.2.2.2.length = σ.2.2.2.2.length := by
          rw [w1.2.2, (py_go_n (σ := σ))]
        refine cx_200 hP2157 (by omega) (by omega) (fun h2169 s2170 hP2171 z2172 f2173 => ?_)
        have R2174 := rc_ad R2159 hf2 (by omega) hk2 z2172 f2173
        have F2175 : rc_G s2154 A2155 L2156 s2170 A2155 (bh_upL L2156 19 (s2154 1104).toInt.toNat (L2156 20 4)) := ⟨fun j u => f2173 j (by omega), fun _ _ => rfl, if_neg (by decide), fun hq => by rw [f2173 1204 (by decide)]; exact ⟨hq.1, hq.2.1, by omega, by omega⟩⟩
        have w2177 : s2170 1105 = (s 1105) := (f2173 1105 (by decide)).trans w2161
        have w2178 : s2170 1106 = (s 1106) := (f2173 1106 (by decide)).trans w2162
        have w2179 : s2170 1107 = (s 1107) := (f2173 1107 (by decide)).trans w2163
        have w2180 : s2170 1108 = (s 1108) := (f2173 1108 (by decide)).trans w2164
        have w2181 : s2170 1109 = (s 1109) := (f2173 1109 (by decide)).trans w2165
        have w2182 : s2170 1110 = (s 1110) := (f2173 1110 (by decide)).trans w2166
        have n9 : (s2170 1104).toInt = (σ.2.2.2.2.length : Int) + 1 := by omega
        have G2183 := rc_G_t (rc_G_of (rc_F_t F1854 (rc_F_t rc_F_r F2158))) F2175
        show bp_G E PO NN ((170, 66, _, [], 0, 0) :: gs, h2169, none)
        refine bp_ld (pc' := 67) bu_170_66 rfl rfl (fun _ _ _ => rfl) rfl rfl ?_
        refine bn_cv (pc' := 70) (st := []) (args := []) bu_170_67 rfl rfl rfl (by decide) hP2171 bq_o20 (by decide) (by omega) rfl (Nat.le_of_ble_eq_true rfl) (Nat.le_of_ble_eq_true rfl) ?_
        refine cr_161 (σ := (py_ad (py_wr 3 (py_go σ).1 (py_go σ)).1 (py_wr 3 (py_go σ).1 (py_go σ)))) hP2171 R2174 (rc_T_G hT G2183) hf2 (by show K (py_wr 3 (py_go σ).1 (py_go σ)).1 ≠ 0; rw [hk2]; decide) (by show K (py_wr 3 (py_go σ).1 (py_go σ)).1 ≠ 3; rw [hk2]; decide) (fun h2184 s2185 A2186 L2187 hP2188 F2189 R2190 => ?_)
        have w2191 : s2185 1104 = (s2170 1104) := ((rc_F_t rc_F_r F2189).1 1104 (Or.inr ⟨by decide, by decide⟩)).trans rfl
        have w2192 : s2185 1105 = (s 1105) := ((rc_F_t rc_F_r F2189).1 1105 (Or.inr ⟨by decide, by decide⟩)).trans w2177
        have w2193 : s2185 1106 = (s 1106) := ((rc_F_t rc_F_r F2189).1 1106 (Or.inr ⟨by decide, by decide⟩)).trans w2178
        have w2194 : s2185 1107 = (s 1107) := ((rc_F_t rc_F_r F2189).1 1107 (Or.inr ⟨by decide, by decide⟩)).trans w2179
        have w2195 : s2185 1108 = (s 1108) := ((rc_F_t rc_F_r F2189).1 1108 (Or.inr ⟨by decide, by decide⟩)).trans w2180
        have w2196 : s2185 1109 = (s 1109) := ((rc_F_t rc_F_r F2189).1 1109 (Or.inr ⟨by decide, by decide⟩)).trans w2181
        have w2197 : s2185 1110 = (s 1110) := ((rc_F_t rc_F_r F2189).1 1110 (Or.inr ⟨by decide, by decide⟩)).trans w2182
        have w2198 : A2186 17 = (A 17) := ((rc_F_t rc_F_r F2189).2.1 17 (by decide)).trans w2167
        have w2199 : A2186 18 = (A 18) := ((rc_F_t rc_F_r F2189).2.1 18 (by decide)).trans w2168
        have G2200 := rc_G_t G2183 (rc_G_of (rc_F_t rc_F_r F2189))
        show bp_G E PO NN ((170, 70, _, [], 0, 0) :: gs, h2184, none)
        refine bp_c (pc' := 71) (n := 0) bu_170_70 rfl rfl (fun _ _ _ => rfl) (by decide) (fun c2201 e2202 => ?_)
        refine bp_st (pc' := 72) bu_170_71 rfl rfl (fun _ _ _ => rfl) rfl (by decide) (by decide) (fun lv2203 F2204 g2205 => ?_)
        have g2206 := F2204 0 (.ref (E.1 + 20)) rfl (by decide) (Or.inl rfl)
        refine bp_ld (pc' := 73) bu_170_72 rfl rfl (fun _ _ _ => rfl) g2205 rfl ?_
        refine bp_c (pc' := 74) (n := 4) bu_170_73 rfl rfl (fun _ _ _ => rfl) (by decide) (fun c2207 e2208 => ?_)
        refine bp_ic (pc' := 77) (pt := 98) bu_170_74 rfl rfl (fun k2209 => ?_) (fun k2209 => ?_)
        · replace k2209 : (c2207).toInt < (c2201).toInt := k2209
          omega
        · replace k2209 : ¬ ((c2207).toInt < (c2201).toInt) := k2209
          refine bp_ld (pc' := 78) bu_170_77 rfl rfl (fun _ _ _ => rfl) g2206 rfl ?_
          refine bn_gr (pc' := 81) (t := 11) bu_170_78 rfl rfl (fun _ _ _ => rfl) hP2188 bq_o20 bq_r20_1 ?_
          refine bp_ld (pc' := 82) bu_170_81 rfl rfl (fun _ _ _ => rfl) g2205 rfl ?_
          refine bp_ld (pc' := 83) bu_170_82 rfl rfl (fun _ _ _ => rfl) g2206 rfl ?_
          refine bp_c (pc' := 84) (n := 0) bu_170_83 rfl rfl (fun _ _ _ => rfl) (by decide) (fun c2210 e2211 => ?_)
          refine bp_c (pc' := 86) (n := 9) bu_170_84 rfl rfl (fun _ _ _ => rfl) (by decide) (fun c2212 e2213 => ?_)
          refine bn_cv (pc' := 89) (st := [.int c2201, .ref (E.1 + 11)]) (args := [.int c2212, .int c2210]) bu_170_86 rfl rfl rfl (by decide) hP2188 bq_o20 (by decide) (by omega) rfl (Nat.le_of_ble_eq_true rfl) (Nat.le_of_ble_eq_true rfl) ?_
          refine cr_166 (σ := (py_go (py_ad (py_wr 3 (py_go σ).1 (py_go σ)).1 (py_wr 3 (py_go σ).1 (py_go σ))))) hP2188 (by simp only [List.length_cons]; omega) R2190 (rc_T_G hT G2200) (fun h2214 s2215 A2216 L2217 r2221 hP2218 F2219 R2220 v2222 => ?_)
          rw [show (c2210 : Int32).toInt = 0 from e2211, show (c2212 : Int32).toInt = 9 from e2213] at R2220
          have w2223 : s2215 1104 = (s2170 1104) := (F2219.1 1104 (Or.inr ⟨by decide, by decide⟩)).trans w2191
          have w2224 : s2215 1105 = (s 1105) := (F2219.1 1105 (Or.inr ⟨by decide, by decide⟩)).trans w2192
          have w2225 : s2215 1106 = (s 1106) := (F2219.1 1106 (Or.inr ⟨by decide, by decide⟩)).trans w2193
          have w2226 : s2215 1107 = (s 1107) := (F2219.1 1107 (Or.inr ⟨by decide, by decide⟩)).trans w2194
          have w2227 : s2215 1108 = (s 1108) := (F2219.1 1108 (Or.inr ⟨by decide, by decide⟩)).trans w2195
          have w2228 : s2215 1109 = (s 1109) := (F2219.1 1109 (Or.inr ⟨by decide, by decide⟩)).trans w2196
          have w2229 : s2215 1110 = (s 1110) := (F2219.1 1110 (Or.inr ⟨by decide, by decide⟩)).trans w2197
          have w2230 : A2216 17 = (A 17) := (F2219.2.1 17 (by decide)).trans w2198
          have w2231 : A2216 18 = (A 18) := (F2219.2.1 18 (by decide)).trans w2199
          have G2232 := rc_G_t G2200 (rc_G_of F2219)
          show bp_G E PO NN ((170, 89, lv2203, [.int r2221, .int c2201, .ref (E.1 + 11)], 0, 0) :: gs, h2214, none)
          refine bn_cv (pc' := 92) (st := []) (args := [.int r2221, .int c2201]) bu_170_89 rfl rfl rfl (by decide) hP2218 bq_o11 (by decide) (by omega) rfl (Nat.le_of_ble_eq_true rfl) (Nat.le_of_ble_eq_true rfl) ?_
          have hb2238 := (F2219.2.2.2 (F2189.2.2.2 (F2175.2.2.2 (F2158.2.2.2 (F1854.2.2.2 hc)))))
          have m9 : (s2215 1104).toInt = (σ.2.2.2.2.length : Int) + 1 := by rw [w2223]; exact n9
          refine cx_207 hP2218 (by omega) (by omega) (fun h2233 A2234 hP2235 a2236 x2237 => ?_)
          have F2239 : rc_G s2215 A2216 L2217 s2215 A2234 L2217 := ⟨fun _ _ => rfl, fun c u => a2236 c (by omega) (by omega), rfl, id⟩
          have y2240 := (x2237 (by omega)).1 (by omega) (by omega)
          have w2241 : A2234 17 = (upd (A 17) (4 * σ.2.2.2.2.length) r2221) := by rw [y2240.1, show 4 * ((s2215 1104).toInt.toNat - 1) + (c2201).toInt.toNat = (4 * σ.2.2.2.2.length) by omega, w2230]
          have w2242 : A2234 18 = (A 18) := y2240.2.trans w2231
          have G2243 := rc_G_t G2232 F2239
          show bp_G E PO NN ((170, 92, lv2203, [], 0, 0) :: gs, h2233, none)
          refine bp_inc (pc' := 95) bu_170_92 rfl (by decide) g2205 (by decide) (by omega) (by omega) (fun lv2244 y2247 F2245 g2246 e2248 => ?_)
          have g2249 := F2245 0 (.ref (E.1 + 20)) g2206 (by decide) (Or.inl rfl)
          have e2250 : y2247.toInt = 1 := by omega
          refine bp_go (pc' := 72) bu_170_95 rfl ?_
          refine bp_ld (pc' := 73) bu_170_72 rfl rfl (fun _ _ _ => rfl) g2246 rfl ?_
          refine bp_c (pc' := 74) (n := 4) bu_170_73 rfl rfl (fun _ _ _ => rfl) (by decide) (fun c2251 e2252 => ?_)
          refine bp_ic (pc' := 77) (pt := 98) bu_170_74 rfl rfl (fun k2253 => ?_) (fun k2253 => ?_)
          · replace k2253 : (c2251).toInt < (y2247).toInt := k2253
            omega
          · replace k2253 : ¬ ((c2251).toInt < (y2247).toInt) := k2253
            refine bp_ld (pc' := 78) bu_170_77 rfl rfl (fun _ _ _ => rfl) g2249 rfl ?_
            refine bn_gr (pc' := 81) (t := 11) bu_170_78 rfl rfl (fun _ _ _ => rfl) hP2235 bq_o20 bq_r20_1 ?_
            refine bp_ld (pc' := 82) bu_170_81 rfl rfl (fun _ _ _ => rfl) g2246 rfl ?_
            refine bp_ld (pc' := 83) bu_170_82 rfl rfl (fun _ _ _ => rfl) g2249 rfl ?_
            refine bp_c (pc' := 84) (n := 0) bu_170_83 rfl rfl (fun _ _ _ => rfl) (by decide) (fun c2254 e2255 => ?_)
            refine bp_c (pc' := 86) (n := 9) bu_170_84 rfl rfl (fun _ _ _ => rfl) (by decide) (fun c2256 e2257 => ?_)
            refine bn_cv (pc' := 89) (st := [.int y2247, .ref (E.1 + 11)]) (args := [.int c2256, .int c2254]) bu_170_86 rfl rfl rfl (by decide) hP2235 bq_o20 (by decide) (by omega) rfl (Nat.le_of_ble_eq_true rfl) (Nat.le_of_ble_eq_true rfl) ?_
            refine cr_166 (σ := (py_nu K V 0 9 (py_go (py_ad (py_wr 3 (py_go σ).1 (py_go σ)).1 (py_wr 3 (py_go σ).1 (py_go σ)))))) hP2235 (by simp only [List.length_cons]; omega) R2220 (rc_T_G hT G2243) (fun h2258 s2259 A2260 L2261 r2265 hP2262 F2263 R2264 v2266 => ?_)
            rw [show (c2254 : Int32).toInt = 0 from e2255, show (c2256 : Int32).toInt = 9 from e2257] at R2264
            have w2267 : s2259 1104 = (s2170 1104) := (F2263.1 1104 (Or.inr ⟨by decide, by decide⟩)).trans w2223
            have w2268 : s2259 1105 = (s 1105) := (F2263.1 1105 (Or.inr ⟨by decide, by decide⟩)).trans w2224
            have w2269 : s2259 1106 = (s 1106) := (F2263.1 1106 (Or.inr ⟨by decide, by decide⟩)).trans w2225
            have w2270 : s2259 1107 = (s 1107) := (F2263.1 1107 (Or.inr ⟨by decide, by decide⟩)).trans w2226
            have w2271 : s2259 1108 = (s 1108) := (F2263.1 1108 (Or.inr ⟨by decide, by decide⟩)).trans w2227
            have w2272 : s2259 1109 = (s 1109) := (F2263.1 1109 (Or.inr ⟨by decide, by decide⟩)).trans w2228
            have w2273 : s2259 1110 = (s 1110) := (F2263.1 1110 (Or.inr ⟨by decide, by decide⟩)).trans w2229
            have w2274 : A2260 17 = (upd (A 17) (4 * σ.2.2.2.2.length) r2221) := (F2263.2.1 17 (by decide)).trans w2241
            have w2275 : A2260 18 = (A 18) := (F2263.2.1 18 (by decide)).trans w2242
            have G2276 := rc_G_t G2243 (rc_G_of F2263)
            show bp_G E PO NN ((170, 89, lv2244, [.int r2265, .int y2247, .ref (E.1 + 11)], 0, 0) :: gs, h2258, none)
            refine bn_cv (pc' := 92) (st := []) (args := [.int r2265, .int y2247]) bu_170_89 rfl rfl rfl (by decide) hP2262 bq_o11 (by decide) (by omega) rfl (Nat.le_of_ble_eq_true rfl) (Nat.le_of_ble_eq_true rfl) ?_
            have hb2282 := (F2263.2.2.2 (F2219.2.2.2 (F2189.2.2.2 (F2175.2.2.2 (F2158.2.2.2 (F1854.2.2.2 hc))))))
            have m9 : (s2259 1104).toInt = (σ.2.2.2.2.length : Int) + 1 := by rw [w2267]; exact n9
            refine cx_207 hP2262 (by omega) (by omega) (fun h2277 A2278 hP2279 a2280 x2281 => ?_)
            have F2283 : rc_G s2259 A2260 L2261 s2259 A2278 L2261 := ⟨fun _ _ => rfl, fun c u => a2280 c (by omega) (by omega), rfl, id⟩
            have y2284 := (x2281 (by omega)).1 (by omega) (by omega)
            have w2285 : A2278 17 = (upd (upd (A 17) (4 * σ.2.2.2.2.length) r2221) (4 * σ.2.2.2.2.length + 1) r2265) := by rw [y2284.1, show 4 * ((s2259 1104).toInt.toNat - 1) + (y2247).toInt.toNat = (4 * σ.2.2.2.2.length + 1) by omega, w2274]
            have w2286 : A2278 18 = (A 18) := y2284.2.trans w2275
            have G2287 := rc_G_t G2276 F2283
            show bp_G E PO NN ((170, 92, lv2244, [], 0, 0) :: gs, h2277, none)
            refine bp_inc (pc' := 95) bu_170_92 rfl (by decide) g2246 (by decide) (by omega) (by omega) (fun lv2288 y2291 F2289 g2290 e2292 => ?_)
            have g2293 := F2289 0 (.ref (E.1 + 20)) g2249 (by decide) (Or.inl rfl)
            have e2294 : y2291.toInt = 2 := by omega
            refine bp_go (pc' := 72) bu_170_95 rfl ?_
            refine bp_ld (pc' := 73) bu_170_72 rfl rfl (fun _ _ _ => rfl) g2290 rfl ?_
            refine bp_c (pc' := 74) (n := 4) bu_170_73 rfl rfl (fun _ _ _ => rfl) (by decide) (fun c2295 e2296 => ?_)
            refine bp_ic (pc' := 77) (pt := 98) bu_170_74 rfl rfl (fun k2297 => ?_) (fun k2297 => ?_)
            · replace k2297 : (c2295).toInt < (y2291).toInt := k2297
              omega
            · replace k2297 : ¬ ((c2295).toInt < (y2291).toInt) := k2297
              refine bp_ld (pc' := 78) bu_170_77 rfl rfl (fun _ _ _ => rfl) g2293 rfl ?_
              refine bn_gr (pc' := 81) (t := 11) bu_170_78 rfl rfl (fun _ _ _ => rfl) hP2279 bq_o20 bq_r20_1 ?_
              refine bp_ld (pc' := 82) bu_170_81 rfl rfl (fun _ _ _ => rfl) g2290 rfl ?_
              refine bp_ld (pc' := 83) bu_170_82 rfl rfl (fun _ _ _ => rfl) g2293 rfl ?_
              refine bp_c (pc' := 84) (n := 0) bu_170_83 rfl rfl (fun _ _ _ => rfl) (by decide) (fun c2298 e2299 => ?_)
              refine bp_c (pc' := 86) (n := 9) bu_170_84 rfl rfl (fun _ _ _ => rfl) (by decide) (fun c2300 e2301 => ?_)
              refine bn_cv (pc' := 89) (st := [.int y2291, .ref (E.1 + 11)]) (args := [.int c2300, .int c2298]) bu_170_86 rfl rfl rfl (by decide) hP2279 bq_o20 (by decide) (by omega) rfl (Nat.le_of_ble_eq_true rfl) (Nat.le_of_ble_eq_true rfl) ?_
              refine cr_166 (σ := (py_nu K V 0 9 (py_nu K V 0 9 (py_go (py_ad (py_wr 3 (py_go σ).1 (py_go σ)).1 (py_wr 3 (py_go σ).1 (py_go σ))))))) hP2279 (by simp only [List.length_cons]; omega) R2264 (rc_T_G hT G2287) (fun h2302 s2303 A2304 L2305 r2309 hP2306 F2307 R2308 v2310 => ?_)
              rw [show (c2298 : Int32).toInt = 0 from e2299, show (c2300 : Int32).toInt = 9 from e2301] at R2308
              have w2311 : s2303 1104 = (s2170 1104) := (F2307.1 1104 (Or.inr ⟨by decide, by decide⟩)).trans w2267
              have w2312 : s2303 1105 = (s 1105) := (F2307.1 1105 (Or.inr ⟨by decide, by decide⟩)).trans w2268
              have w2313 : s2303 1106 = (s 1106) := (F2307.1 1106 (Or.inr ⟨by decide, by decide⟩)).trans w2269
              have w2314 : s2303 1107 = (s 1107) := (F2307.1 1107 (Or.inr ⟨by decide, by decide⟩)).trans w2270
              have w2315 : s2303 1108 = (s 1108) := (F2307.1 1108 (Or.inr ⟨by decide, by decide⟩)).trans w2271
              have w2316 : s2303 1109 = (s 1109) := (F2307.1 1109 (Or.inr ⟨by decide, by decide⟩)).trans w2272
              have w2317 : s2303 1110 = (s 1110) := (F2307.1 1110 (Or.inr ⟨by decide, by decide⟩)).trans w2273
              have w2318 : A2304 17 = (upd (upd (A 17) (4 * σ.2.2.2.2.length) r2221) (4 * σ.2.2.2.2.length + 1) r2265) := (F2307.2.1 17 (by decide)).trans w2285
              have w2319 : A2304 18 = (A 18) := (F2307.2.1 18 (by decide)).trans w2286
              have G2320 := rc_G_t G2287 (rc_G_of F2307)
              show bp_G E PO NN ((170, 89, lv2288, [.int r2309, .int y2291, .ref (E.1 + 11)], 0, 0) :: gs, h2302, none)
              refine bn_cv (pc' := 92) (st := []) (args := [.int r2309, .int y2291]) bu_170_89 rfl rfl rfl (by decide) hP2306 bq_o11 (by decide) (by omega) rfl (Nat.le_of_ble_eq_true rfl) (Nat.le_of_ble_eq_true rfl) ?_
              have hb2326 := (F2307.2.2.2 (F2263.2.2.2 (F2219.2.2.2 (F2189.2.2.2 (F2175.2.2.2 (F2158.2.2.2 (F1854.2.2.2 hc)))))))
              have m9 : (s2303 1104).toInt = (σ.2.2.2.2.length : Int) + 1 := by rw [w2311]; exact n9
              refine cx_207 hP2306 (by omega) (by omega) (fun h2321 A2322 hP2323 a2324 x2325 => ?_)
              have F2327 : rc_G s2303 A2304 L2305 s2303 A2322 L2305 := ⟨fun _ _ => rfl, fun c u => a2324 c (by omega) (by omega), rfl, id⟩
              have y2328 := (x2325 (by omega)).1 (by omega) (by omega)
              have w2329 : A2322 17 = (upd (upd (upd (A 17) (4 * σ.2.2.2.2.length) r2221) (4 * σ.2.2.2.2.length + 1) r2265) (4 * σ.2.2.2.2.length + 2) r2309) := by rw [y2328.1, show 4 * ((s2303 1104).toInt.toNat - 1) + (y2291).toInt.toNat = (4 * σ.2.2.2.2.length + 2) by omega, w2318]
              have w2330 : A2322 18 = (A 18) := y2328.2.trans w2319
              have G2331 := rc_G_t G2320 F2327
              show bp_G E PO NN ((170, 92, lv2288, [], 0, 0) :: gs, h2321, none)
              refine bp_inc (pc' := 95) bu_170_92 rfl (by decide) g2290 (by decide) (by omega) (by omega) (fun lv2332 y2335 F2333 g2334 e2336 => ?_)
              have g2337 := F2333 0 (.ref (E.1 + 20)) g2293 (by decide) (Or.inl rfl)
              have e2338 : y2335.toInt = 3 := by omega
              refine bp_go (pc' := 72) bu_170_95 rfl ?_
              refine bp_ld (pc' := 73) bu_170_72 rfl rfl (fun _ _ _ => rfl) g2334 rfl ?_
              refine bp_c (pc' := 74) (n := 4) bu_170_73 rfl rfl (fun _ _ _ => rfl) (by decide) (fun c2339 e2340 => ?_)
              refine bp_ic (pc' := 77) (pt := 98) bu_170_74 rfl rfl (fun k2341 => ?_) (fun k2341 => ?_)
              · replace k2341 : (c2339).toInt < (y2335).toInt := k2341
                omega
              · replace k2341 : ¬ ((c2339).toInt < (y2335).toInt) := k2341
                refine bp_ld (pc' := 78) bu_170_77 rfl rfl (fun _ _ _ => rfl) g2337 rfl ?_
                refine bn_gr (pc' := 81) (t := 11) bu_170_78 rfl rfl (fun _ _ _ => rfl) hP2323 bq_o20 bq_r20_1 ?_
                refine bp_ld (pc' := 82) bu_170_81 rfl rfl (fun _ _ _ => rfl) g2334 rfl ?_
                refine bp_ld (pc' := 83) bu_170_82 rfl rfl (fun _ _ _ => rfl) g2337 rfl ?_
                refine bp_c (pc' := 84) (n := 0) bu_170_83 rfl rfl (fun _ _ _ => rfl) (by decide) (fun c2342 e2343 => ?_)
                refine bp_c (pc' := 86) (n := 9) bu_170_84 rfl rfl (fun _ _ _ => rfl) (by decide) (fun c2344 e2345 => ?_)
                refine bn_cv (pc' := 89) (st := [.int y2335, .ref (E.1 + 11)]) (args := [.int c2344, .int c2342]) bu_170_86 rfl rfl rfl (by decide) hP2323 bq_o20 (by decide) (by omega) rfl (Nat.le_of_ble_eq_true rfl) (Nat.le_of_ble_eq_true rfl) ?_
                refine cr_166 (σ := (py_nu K V 0 9 (py_nu K V 0 9 (py_nu K V 0 9 (py_go (py_ad (py_wr 3 (py_go σ).1 (py_go σ)).1 (py_wr 3 (py_go σ).1 (py_go σ)))))))) hP2323 (by simp only [List.length_cons]; omega) R2308 (rc_T_G hT G2331) (fun h2346 s2347 A2348 L2349 r2353 hP2350 F2351 R2352 v2354 => ?_)
                rw [show (c2342 : Int32).toInt = 0 from e2343, show (c2344 : Int32).toInt = 9 from e2345] at R2352
                have w2355 : s2347 1104 = (s2170 1104) := (F2351.1 1104 (Or.inr ⟨by decide, by decide⟩)).trans w2311
                have w2356 : s2347 1105 = (s 1105) := (F2351.1 1105 (Or.inr ⟨by decide, by decide⟩)).trans w2312
                have w2357 : s2347 1106 = (s 1106) := (F2351.1 1106 (Or.inr ⟨by decide, by decide⟩)).trans w2313
                have w2358 : s2347 1107 = (s 1107) := (F2351.1 1107 (Or.inr ⟨by decide, by decide⟩)).trans w2314
                have w2359 : s2347 1108 = (s 1108) := (F2351.1 1108 (Or.inr ⟨by decide, by decide⟩)).trans w2315
                have w2360 : s2347 1109 = (s 1109) := (F2351.1 1109 (Or.inr ⟨by decide, by decide⟩)).trans w2316
                have w2361 : s2347 1110 = (s 1110) := (F2351.1 1110 (Or.inr ⟨by decide, by decide⟩)).trans w2317
                have w2362 : A2348 17 = (upd (upd (upd (A 17) (4 * σ.2.2.2.2.length) r2221) (4 * σ.2.2.2.2.length + 1) r2265) (4 * σ.2.2.2.2.length + 2) r2309) := (F2351.2.1 17 (by decide)).trans w2329
                have w2363 : A2348 18 = (A 18) := (F2351.2.1 18 (by decide)).trans w2330
                have G2364 := rc_G_t G2331 (rc_G_of F2351)
                show bp_G E PO NN ((170, 89, lv2332, [.int r2353, .int y2335, .ref (E.1 + 11)], 0, 0) :: gs, h2346, none)
                refine bn_cv (pc' := 92) (st := []) (args := [.int r2353, .int y2335]) bu_170_89 rfl rfl rfl (by decide) hP2350 bq_o11 (by decide) (by omega) rfl (Nat.le_of_ble_eq_true rfl) (Nat.le_of_ble_eq_true rfl) ?_
                have hb2370 := (F2351.2.2.2 (F2307.2.2.2 (F2263.2.2.2 (F2219.2.2.2 (F2189.2.2.2 (F2175.2.2.2 (F2158.2.2.2 (F1854.2.2.2 hc))))))))
                have m9 : (s2347 1104).toInt = (σ.2.2.2.2.length : Int) + 1 := by rw [w2355]; exact n9
                refine cx_207 hP2350 (by omega) (by omega) (fun h2365 A2366 hP2367 a2368 x2369 => ?_)
                have F2371 : rc_G s2347 A2348 L2349 s2347 A2366 L2349 := ⟨fun _ _ => rfl, fun c u => a2368 c (by omega) (by omega), rfl, id⟩
                have y2372 := (x2369 (by omega)).1 (by omega) (by omega)
                have w2373 : A2366 17 = (upd (upd (upd (upd (A 17) (4 * σ.2.2.2.2.length) r2221) (4 * σ.2.2.2.2.length + 1) r2265) (4 * σ.2.2.2.2.length + 2) r2309) (4 * σ.2.2.2.2.length + 3) r2353) := by rw [y2372.1, show 4 * ((s2347 1104).toInt.toNat - 1) + (y2335).toInt.toNat = (4 * σ.2.2.2.2.length + 3) by omega, w2362]
                have w2374 : A2366 18 = (A 18) := y2372.2.trans w2363
                have G2375 := rc_G_t G2364 F2371
                show bp_G E PO NN ((170, 92, lv2332, [], 0, 0) :: gs, h2365, none)
                refine bp_inc (pc' := 95) bu_170_92 rfl (by decide) g2334 (by decide) (by omega) (by omega) (fun lv2376 y2379 F2377 g2378 e2380 => ?_)
                have g2381 := F2377 0 (.ref (E.1 + 20)) g2337 (by decide) (Or.inl rfl)
                have e2382 : y2379.toInt = 4 := by omega
                refine bp_go (pc' := 72) bu_170_95 rfl ?_
                refine bp_ld (pc' := 73) bu_170_72 rfl rfl (fun _ _ _ => rfl) g2378 rfl ?_
                refine bp_c (pc' := 74) (n := 4) bu_170_73 rfl rfl (fun _ _ _ => rfl) (by decide) (fun c2383 e2384 => ?_)
                refine bp_ic (pc' := 77) (pt := 98) bu_170_74 rfl rfl (fun k2385 => ?_) (fun k2385 => ?_)
                · replace k2385 : (c2383).toInt < (y2379).toInt := k2385
                  omega
                · replace k2385 : ¬ ((c2383).toInt < (y2379).toInt) := k2385
                  refine bp_ld (pc' := 78) bu_170_77 rfl rfl (fun _ _ _ => rfl) g2381 rfl ?_
                  refine bn_gr (pc' := 81) (t := 11) bu_170_78 rfl rfl (fun _ _ _ => rfl) hP2367 bq_o20 bq_r20_1 ?_
                  refine bp_ld (pc' := 82) bu_170_81 rfl rfl (fun _ _ _ => rfl) g2378 rfl ?_
                  refine bp_ld (pc' := 83) bu_170_82 rfl rfl (fun _ _ _ => rfl) g2381 rfl ?_
                  refine bp_c (pc' := 84) (n := 0) bu_170_83 rfl rfl (fun _ _ _ => rfl) (by decide) (fun c2386 e2387 => ?_)
                  refine bp_c (pc' := 86) (n := 9) bu_170_84 rfl rfl (fun _ _ _ => rfl) (by decide) (fun c2388 e2389 => ?_)
                  refine bn_cv (pc' := 89) (st := [.int y2379, .ref (E.1 + 11)]) (args := [.int c2388, .int c2386]) bu_170_86 rfl rfl rfl (by decide) hP2367 bq_o20 (by decide) (by omega) rfl (Nat.le_of_ble_eq_true rfl) (Nat.le_of_ble_eq_true rfl) ?_
                  refine cr_166 (σ := (py_nu K V 0 9 (py_nu K V 0 9 (py_nu K V 0 9 (py_nu K V 0 9 (py_go (py_ad (py_wr 3 (py_go σ).1 (py_go σ)).1 (py_wr 3 (py_go σ).1 (py_go σ))))))))) hP2367 (by simp only [List.length_cons]; omega) R2352 (rc_T_G hT G2375) (fun h2390 s2391 A2392 L2393 r2397 hP2394 F2395 R2396 v2398 => ?_)
                  rw [show (c2386 : Int32).toInt = 0 from e2387, show (c2388 : Int32).toInt = 9 from e2389] at R2396
                  have w2399 : s2391 1104 = (s2170 1104) := (F2395.1 1104 (Or.inr ⟨by decide, by decide⟩)).trans w2355
                  have w2400 : s2391 1105 = (s 1105) := (F2395.1 1105 (Or.inr ⟨by decide, by decide⟩)).trans w2356
                  have w2401 : s2391 1106 = (s 1106) := (F2395.1 1106 (Or.inr ⟨by decide, by decide⟩)).trans w2357
                  have w2402 : s2391 1107 = (s 1107) := (F2395.1 1107 (Or.inr ⟨by decide, by decide⟩)).trans w2358
                  have w2403 : s2391 1108 = (s 1108) := (F2395.1 1108 (Or.inr ⟨by decide, by decide⟩)).trans w2359
                  have w2404 : s2391 1109 = (s 1109) := (F2395.1 1109 (Or.inr ⟨by decide, by decide⟩)).trans w2360
                  have w2405 : s2391 1110 = (s 1110) := (F2395.1 1110 (Or.inr ⟨by decide, by decide⟩)).trans w2361
                  have w2406 : A2392 17 = (upd (upd (upd (upd (A 17) (4 * σ.2.2.2.2.length) r2221) (4 * σ.2.2.2.2.length + 1) r2265) (4 * σ.2.2.2.2.length + 2) r2309) (4 * σ.2.2.2.2.length + 3) r2353) := (F2395.2.1 17 (by decide)).trans w2373
                  have w2407 : A2392 18 = (A 18) := (F2395.2.1 18 (by decide)).trans w2374
                  have G2408 := rc_G_t G2375 (rc_G_of F2395)
                  show bp_G E PO NN ((170, 89, lv2376, [.int r2397, .int y2379, .ref (E.1 + 11)], 0, 0) :: gs, h2390, none)
                  refine bn_cv (pc' := 92) (st := []) (args := [.int r2397, .int y2379]) bu_170_89 rfl rfl rfl (by decide) hP2394 bq_o11 (by decide) (by omega) rfl (Nat.le_of_ble_eq_true rfl) (Nat.le_of_ble_eq_true rfl) ?_
                  have hb2414 := (F2395.2.2.2 (F2351.2.2.2 (F2307.2.2.2 (F2263.2.2.2 (F2219.2.2.2 (F2189.2.2.2 (F2175.2.2.2 (F2158.2.2.2 (F1854.2.2.2 hc)))))))))
                  have m9 : (s2391 1104).toInt = (σ.2.2.2.2.length : Int) + 1 := by rw [w2399]; exact n9
                  refine cx_207 hP2394 (by omega) (by omega) (fun h2409 A2410 hP2411 a2412 x2413 => ?_)
                  have F2415 : rc_G s2391 A2392 L2393 s2391 A2410 L2393 := ⟨fun _ _ => rfl, fun c u => a2412 c (by omega) (by omega), rfl, id⟩
                  have y2416 := (x2413 (by omega)).2 (by omega)
                  have w2417 : A2410 18 = (upd (A 18) σ.2.2.2.2.length r2397) := by rw [y2416.1, show (s2391 1104).toInt.toNat - 1 = σ.2.2.2.2.length by omega, w2407]
                  have w2418 : A2410 17 = (upd (upd (upd (upd (A 17) (4 * σ.2.2.2.2.length) r2221) (4 * σ.2.2.2.2.length + 1) r2265) (4 * σ.2.2.2.2.length + 2) r2309) (4 * σ.2.2.2.2.length + 3) r2353) := y2416.2.trans w2406
                  have G2419 := rc_G_t G2408 F2415
                  show bp_G E PO NN ((170, 92, lv2376, [], 0, 0) :: gs, h2409, none)
                  refine bp_inc (pc' := 95) bu_170_92 rfl (by decide) g2378 (by decide) (by omega) (by omega) (fun lv2420 y2423 F2421 g2422 e2424 => ?_)
                  have g2425 := F2421 0 (.ref (E.1 + 20)) g2381 (by decide) (Or.inl rfl)
                  have e2426 : y2423.toInt = 5 := by omega
                  refine bp_go (pc' := 72) bu_170_95 rfl ?_
                  refine bp_ld (pc' := 73) bu_170_72 rfl rfl (fun _ _ _ => rfl) g2422 rfl ?_
                  refine bp_c (pc' := 74) (n := 4) bu_170_73 rfl rfl (fun _ _ _ => rfl) (by decide) (fun c2427 e2428 => ?_)
                  refine bp_ic (pc' := 77) (pt := 98) bu_170_74 rfl rfl (fun k2429 => ?_) (fun k2429 => ?_)
                  · replace k2429 : (c2427).toInt < (y2423).toInt := k2429
                    refine bp_ld (pc' := 99) bu_170_98 rfl rfl (fun _ _ _ => rfl) g2425 rfl ?_
                    refine bp_c (pc' := 101) (n := 59) bu_170_99 rfl rfl (fun _ _ _ => rfl) (by decide) (fun c2430 e2431 => ?_)
                    refine bn_cv (pc' := 104) (st := []) (args := [.int c2430]) bu_170_101 rfl rfl rfl (by decide) hP2411 bq_o20 (by decide) (by omega) rfl (Nat.le_of_ble_eq_true rfl) (Nat.le_of_ble_eq_true rfl) ?_
                    refine cr_177 (σ := (py_nu K V 0 9 (py_nu K V 0 9 (py_nu K V 0 9 (py_nu K V 0 9 (py_nu K V 0 9 (py_go (py_ad (py_wr 3 (py_go σ).1 (py_go σ)).1 (py_wr 3 (py_go σ).1 (py_go σ)))))))))) (kc := 4) (by omega) hP2411 (by simp only [List.length_cons]; omega) R2396 (rc_T_G hT G2419) (fun h2432 s2433 A2434 L2435 hP2436 F2437 R2438 => ?_)
                    have w2439 : s2433 1104 = (s2170 1104) := (F2437.1 1104 (Or.inr ⟨by decide, by decide⟩)).trans w2399
                    have w2440 : s2433 1105 = (s 1105) := (F2437.1 1105 (Or.inr ⟨by decide, by decide⟩)).trans w2400
                    have w2441 : s2433 1106 = (s 1106) := (F2437.1 1106 (Or.inr ⟨by decide, by decide⟩)).trans w2401
                    have w2442 : s2433 1107 = (s 1107) := (F2437.1 1107 (Or.inr ⟨by decide, by decide⟩)).trans w2402
                    have w2443 : s2433 1108 = (s 1108) := (F2437.1 1108 (Or.inr ⟨by decide, by decide⟩)).trans w2403
                    have w2444 : s2433 1109 = (s 1109) := (F2437.1 1109 (Or.inr ⟨by decide, by decide⟩)).trans w2404
                    have w2445 : s2433 1110 = (s 1110) := (F2437.1 1110 (Or.inr ⟨by decide, by decide⟩)).trans w2405
                    have w2446 : A2434 17 = (upd (upd (upd (upd (A 17) (4 * σ.2.2.2.2.length) r2221) (4 * σ.2.2.2.2.length + 1) r2265) (4 * σ.2.2.2.2.length + 2) r2309) (4 * σ.2.2.2.2.length + 3) r2353) := (F2437.2.1 17 (by decide)).trans w2418
                    have w2447 : A2434 18 = (upd (A 18) σ.2.2.2.2.length r2397) := (F2437.2.1 18 (by decide)).trans w2417
                    have G2448 := rc_G_t G2419 (rc_G_of F2437)
                    show bp_G E PO NN ((170, 104, lv2420, [], 0, 0) :: gs, h2432, none)
                    refine bp_rv bu_170_104 ?_
                    have ee : py_man K V Q σ = (py_mu K 4 (py_nu K V 0 9 (py_nu K V 0 9 (py_nu K V 0 9 (py_nu K V 0 9 (py_nu K V 0 9 (py_go (py_ad (py_wr 3 (py_go σ).1 (py_go σ)).1 (py_wr 3 (py_go σ).1 (py_go σ)))))))))) := by
                      unfold py_man py_five
                      rw [if_neg (by omega), if_pos ⟨hf1, hk1⟩, en, w1.1]
                    refine kk _ _ _ _ hP2436 G2448 (by rw [ee]; exact R2438) (fun q => ?_)
                    rw [ee] at q
                    have f5 := py_five_ok q
                    have eN : (py_go (py_ad (py_wr 3 (py_go σ).1 (py_go σ)).1 (py_wr 3 (py_go σ).1 (py_go σ)))).1 = (py_go σ).1 + 1 := (py_go_st f5.1).2.trans (congrArg (fun z => z + 1) (show (py_wr 3 (py_go σ).1 (py_go σ)).1 = (py_go σ).1 from w1.1))
                    rw [eN] at f5
                    have g0 := v2222 f5.1 (by rw [eN]; exact f5.2.1)
                    have g1 := v2266 f5.2.2.1.1 (by rw [f5.2.2.1.2.1]; exact f5.2.2.1.2.2)
                    have g2 := v2310 f5.2.2.2.1.1 (by rw [f5.2.2.2.1.2.1]; exact f5.2.2.2.1.2.2)
                    have g3 := v2354 f5.2.2.2.2.1.1 (by rw [f5.2.2.2.2.1.2.1]; exact f5.2.2.2.2.1.2.2)
                    have g4 := v2398 f5.2.2.2.2.2.1 (by rw [f5.2.2.2.2.2.2.1]; exact f5.2.2.2.2.2.2.2)
                    rw [eN] at g0
                    rw [f5.2.2.1.2.1] at g1
                    rw [f5.2.2.2.1.2.1] at g2
                    rw [f5.2.2.2.2.1.2.1] at g3
                    rw [f5.2.2.2.2.2.2.1] at g4
                    refine rc_M_of (fun j j1 j2 => ?_) w2446 w2447 g0 g1 g2 g3 g4
                    rcases (show j = 1105 ∨ j = 1106 ∨ j = 1107 ∨ j = 1108 ∨ j = 1109 ∨ j = 1110 by omega) with rfl | rfl | rfl | rfl | rfl | rfl
                    · exact w2440
                    · exact w2441
                    · exact w2442
                    · exact w2443
                    · exact w2444
                    · exact w2445
                  · replace k2429 : ¬ ((c2427).toInt < (y2423).toInt) := k2429
                    omega
    · replace k1867 : ¬ (((s1850 2003)).toInt = (c1865).toInt) := k1867
      refine bp_ld (pc' := 31) bu_170_30 rfl rfl (fun _ _ _ => rfl) rfl rfl ?_
      refine bp_c (pc' := 32) (n := 1) bu_170_31 rfl rfl (fun _ _ _ => rfl) (by decide) (fun c2449 e2450 => ?_)
      refine bn_cv (pc' := 35) (st := []) (args := [.int c2449]) bu_170_32 rfl rfl rfl (by decide) hP1853 bq_o20 (by decide) (by omega) rfl (Nat.le_of_ble_eq_true rfl) (Nat.le_of_ble_eq_true rfl) ?_
      refine cr_176 (σ := (py_go σ)) (kn := 1) (by omega) (by decide) hP1853 R1855 (fun h2451 s2452 A2453 L2454 hP2455 F2456 R2457 => ?_)
      have w2458 : s2452 1104 = (s 1104) := (F2456.1 1104 (Or.inr ⟨by decide, by decide⟩)).trans w1856
      have w2459 : s2452 1105 = (s 1105) := (F2456.1 1105 (Or.inr ⟨by decide, by decide⟩)).trans w1857
      have w2460 : s2452 1106 = (s 1106) := (F2456.1 1106 (Or.inr ⟨by decide, by decide⟩)).trans w1858
      have w2461 : s2452 1107 = (s 1107) := (F2456.1 1107 (Or.inr ⟨by decide, by decide⟩)).trans w1859
      have w2462 : s2452 1108 = (s 1108) := (F2456.1 1108 (Or.inr ⟨by decide, by decide⟩)).trans w1860
      have w2463 : s2452 1109 = (s 1109) := (F2456.1 1109 (Or.inr ⟨by decide, by decide⟩)).trans w1861
      have w2464 : s2452 1110 = (s 1110) := (F2456.1 1110 (Or.inr ⟨by decide, by decide⟩)).trans w1862
      have w2465 : A2453 17 = (A 17) := (F2456.2.1 17 (by decide)).trans w1863
      have w2466 : A2453 18 = (A 18) := (F2456.2.1 18 (by decide)).trans w1864
      show bp_G E PO NN ((170, 35, _, [], 0, 0) :: gs, h2451, none)
      refine bp_rv bu_170_35 ?_
      have ee : py_man K V Q σ = py_fl 1 (py_go σ) := by
        unfold py_man
        rw [if_neg (by omega), if_neg (fun hh => by
          have p2 := p2 hh.1
          have p5 := hh.2
          omega)]
      exact kk _ _ _ _ hP2455 (rc_G_of (rc_F_t F1854 F2456)) (by rw [ee]; exact R2457) (fun q => absurd q (by rw [ee]; exact py_fl_f (by decide)))
  · replace k1848 : ¬ (((s 1104)).toInt < (c1846).toInt) := k1848
    refine bp_ld (pc' := 13) bu_170_12 rfl rfl (fun _ _ _ => rfl) rfl rfl ?_
    refine bp_c (pc' := 14) (n := 2) bu_170_13 rfl rfl (fun _ _ _ => rfl) (by decide) (fun c2467 e2468 => ?_)
    refine bn_cv (pc' := 17) (st := []) (args := [.int c2467]) bu_170_14 rfl rfl rfl (by decide) hP bq_o20 (by decide) (by omega) rfl (Nat.le_of_ble_eq_true rfl) (Nat.le_of_ble_eq_true rfl) ?_
    refine cr_176 (σ := σ) (kn := 2) (by omega) (by decide) hP hR (fun h2469 s2470 A2471 L2472 hP2473 F2474 R2475 => ?_)
    have w2476 : s2470 1104 = (s 1104) := (F2474.1 1104 (Or.inr ⟨by decide, by decide⟩)).trans rfl
    have w2477 : s2470 1105 = (s 1105) := (F2474.1 1105 (Or.inr ⟨by decide, by decide⟩)).trans rfl
    have w2478 : s2470 1106 = (s 1106) := (F2474.1 1106 (Or.inr ⟨by decide, by decide⟩)).trans rfl
    have w2479 : s2470 1107 = (s 1107) := (F2474.1 1107 (Or.inr ⟨by decide, by decide⟩)).trans rfl
    have w2480 : s2470 1108 = (s 1108) := (F2474.1 1108 (Or.inr ⟨by decide, by decide⟩)).trans rfl
    have w2481 : s2470 1109 = (s 1109) := (F2474.1 1109 (Or.inr ⟨by decide, by decide⟩)).trans rfl
    have w2482 : s2470 1110 = (s 1110) := (F2474.1 1110 (Or.inr ⟨by decide, by decide⟩)).trans rfl
    have w2483 : A2471 17 = (A 17) := (F2474.2.1 17 (by decide)).trans rfl
    have w2484 : A2471 18 = (A 18) := (F2474.2.1 18 (by decide)).trans rfl
    show bp_G E PO NN ((170, 17, _, [], 0, 0) :: gs, h2469, none)
    refine bp_rv bu_170_17 ?_
    have ee : py_man K V Q σ = py_fl 2 σ := if_pos (by omega)
    exact kk _ _ _ _ hP2473 (rc_G_of F2474) (by rw [ee]; exact R2475) (fun q => absurd q (by rw [ee]; exact py_fl_f (by decide)))
theorem cr_174 {x9 y9 : Int32} (hS : ∀ ρ, en_SA E ρ (wl_o x9 y9) mt_SB) (hQ : ∀ i j, i < N → j < N → K i = 1 → K j = 1 → (Q i j = true ↔ L 24 i = L 24 j)) (hP : bm_P bq_T E h0 h s A L) (hd : gs.length + 50 ≤ 999) (hR : rc_R K V P N σ s L) (hT : rc_T K V P N s A L) (hc : 0 ≤ (s 1204).toInt ∧ (s 1204).toInt ≤ 432 ∧ 0 ≤ (s 1104).toInt ∧ (s 1104).toInt ≤ 6) (hf : σ.2.1 = 0) (kk : ∀ (h' : mm_H) (s' : Nat → Int32) (A' : Nat → Nat → Int32) (L' : Nat → Nat → Int64), bm_P bq_T E h0 h' s' A' L' → rc_G s A L s' A' L' → rc_R K V P N (py_tell K V Q σ) s' L' → ((py_tell K V Q σ).2.1 = 0 → ∀ ω, rc_O V σ.2.2.2.2 ω s A → rc_O V (py_tell K V Q σ).2.2.2.2 (py_st K σ ω) s' A') → bp_G E PO NN (mm_back none gs h')) : bp_G E PO NN ((174, 0, [(0, .ref (E.1 + 20))], [], 0, 0) :: gs, h, none) := by
  have q1 := hR.1
  have q2 := fun e => (hR.2.1 e).2.2.1
  have q3 := fun e => (hR.2.2 e).1
  unfold rc_k at q2
  have q2 := q2 hf
  refine bp_ld (pc' := 1) bu_174_0 rfl rfl (fun _ _ _ => rfl) rfl rfl ?_
  refine bn_gi (pc' := 4) (K := 2003) bu_174_1 rfl rfl (fun _ _ _ => rfl) hP bq_o20 bq_i20_3 rfl rfl ?_
  refine bp_c (pc' := 5) (n := 5) bu_174_4 rfl rfl (fun _ _ _ => rfl) (by decide) (fun c2485 e2486 => ?_)
  refine bp_ic (pc' := 8) (pt := 16) bu_174_5 rfl rfl (fun k2487 => ?_) (fun k2487 => ?_)
  · replace k2487 : ((s 2003)).toInt ≠ (c2485).toInt := k2487
    refine bp_c (pc' := 17) (n := -1) bu_174_16 rfl rfl (fun _ _ _ => rfl) (by decide) (fun c2488 e2489 => ?_)
    refine bp_st (pc' := 18) bu_174_17 rfl rfl (fun _ _ _ => rfl) rfl (by decide) (by decide) (fun lv2490 F2491 g2492 => ?_)
    have g2493 := F2491 0 (.ref (E.1 + 20)) rfl (by decide) (Or.inl rfl)
    refine bp_ld (pc' := 19) bu_174_18 rfl rfl (fun _ _ _ => rfl) g2492 rfl ?_
    refine bp_i0 (pc' := 22) (pt := 29) bu_174_19 rfl rfl (fun k2494 => ?_) (fun k2494 => ?_)
    · replace k2494 : (c2488).toInt ≠ 0 := k2494
      refine bp_ld (pc' := 30) bu_174_29 rfl rfl (fun _ _ _ => rfl) g2492 rfl ?_
      refine bp_c (pc' := 31) (n := 1) bu_174_30 rfl rfl (fun _ _ _ => rfl) (by decide) (fun c2495 e2496 => ?_)
      refine bp_ic (pc' := 34) (pt := 50) bu_174_31 rfl rfl (fun k2497 => ?_) (fun k2497 => ?_)
      · replace k2497 : (c2488).toInt < (c2495).toInt := k2497
        refine bp_ld (pc' := 51) bu_174_50 rfl rfl (fun _ _ _ => rfl) g2492 rfl ?_
        refine bp_c (pc' := 53) (n := 8) bu_174_51 rfl rfl (fun _ _ _ => rfl) (by decide) (fun c2498 e2499 => ?_)
        refine bp_ic (pc' := 56) (pt := 70) bu_174_53 rfl rfl (fun k2500 => ?_) (fun k2500 => ?_)
        · replace k2500 : (c2488).toInt < (c2498).toInt := k2500
          refine bp_ld (pc' := 71) bu_174_70 rfl rfl (fun _ _ _ => rfl) g2493 rfl ?_
          refine bp_c (pc' := 72) (n := 1) bu_174_71 rfl rfl (fun _ _ _ => rfl) (by decide) (fun c2501 e2502 => ?_)
          refine bn_cv (pc' := 75) (st := []) (args := [.int c2501]) bu_174_72 rfl rfl rfl (by decide) hP bq_o20 (by decide) (by omega) rfl (Nat.le_of_ble_eq_true rfl) (Nat.le_of_ble_eq_true rfl) ?_
          refine cr_176 (σ := σ) (kn := 1) (by omega) (by decide) hP hR (fun h2503 s2504 A2505 L2506 hP2507 F2508 R2509 => ?_)
          show bp_G E PO NN ((174, 75, lv2490, [], 0, 0) :: gs, h2503, none)
          refine bp_rv bu_174_75 ?_
          have ee : py_tell K V Q σ = py_fl 1 σ := by
            unfold py_tell
            rw [if_neg (not_not_intro hf), if_neg (by omega), if_neg (by omega), if_neg (by omega), if_neg (by omega), if_neg (by omega)]
          exact kk _ _ _ _ hP2507 (rc_G_of F2508) (by rw [ee]; exact R2509) (fun q => absurd q (by rw [ee]; exact py_fl_f (by decide)))
        · replace k2500 : ¬ ((c2488).toInt < (c2498).toInt) := k2500
          omega
      · replace k2497 : ¬ ((c2488).toInt < (c2495).toInt) := k2497
        omega
    · replace k2494 : ¬ ((c2488).toInt ≠ 0) := k2494
      omega
  · replace k2487 : ¬ (((s 2003)).toInt ≠ (c2485).toInt) := k2487
    refine bp_ld (pc' := 9) bu_174_8 rfl rfl (fun _ _ _ => rfl) rfl rfl ?_
    refine bn_gl (pc' := 12) bu_174_9 rfl rfl (fun _ _ _ => rfl) hP bq_o20 bq_f20_4 ?_
    refine bn_l2i (pc' := 13) bu_174_12 rfl (fun x2510 e2511 => ?_)
    have w2512 := e2511 (by omega) (by omega)
    refine bp_go (pc' := 17) bu_174_13 rfl ?_
    refine bp_st (pc' := 18) bu_174_17 rfl rfl (fun _ _ _ => rfl) rfl (by decide) (by decide) (fun lv2513 F2514 g2515 => ?_)
    have g2516 := F2514 0 (.ref (E.1 + 20)) rfl (by decide) (Or.inl rfl)
    refine bp_ld (pc' := 19) bu_174_18 rfl rfl (fun _ _ _ => rfl) g2515 rfl ?_
    refine bp_i0 (pc' := 22) (pt := 29) bu_174_19 rfl rfl (fun k2517 => ?_) (fun k2517 => ?_)
    · replace k2517 : (x2510).toInt ≠ 0 := k2517
      refine bp_ld (pc' := 30) bu_174_29 rfl rfl (fun _ _ _ => rfl) g2515 rfl ?_
      refine bp_c (pc' := 31) (n := 1) bu_174_30 rfl rfl (fun _ _ _ => rfl) (by decide) (fun c2518 e2519 => ?_)
      refine bp_ic (pc' := 34) (pt := 50) bu_174_31 rfl rfl (fun k2520 => ?_) (fun k2520 => ?_)
      · replace k2520 : (x2510).toInt < (c2518).toInt := k2520
        refine bp_ld (pc' := 51) bu_174_50 rfl rfl (fun _ _ _ => rfl) g2515 rfl ?_
        refine bp_c (pc' := 53) (n := 8) bu_174_51 rfl rfl (fun _ _ _ => rfl) (by decide) (fun c2521 e2522 => ?_)
        refine bp_ic (pc' := 56) (pt := 70) bu_174_53 rfl rfl (fun k2523 => ?_) (fun k2523 => ?_)
        · replace k2523 : (x2510).toInt < (c2521).toInt := k2523
          refine bp_ld (pc' := 71) bu_174_70 rfl rfl (fun _ _ _ => rfl) g2516 rfl ?_
          refine bp_c (pc' := 72) (n := 1) bu_174_71 rfl rfl (fun _ _ _ => rfl) (by decide) (fun c2524 e2525 => ?_)
          refine bn_cv (pc' := 75) (st := []) (args := [.int c2524]) bu_174_72 rfl rfl rfl (by decide) hP bq_o20 (by decide) (by omega) rfl (Nat.le_of_ble_eq_true rfl) (Nat.le_of_ble_eq_true rfl) ?_
          refine cr_176 (σ := σ) (kn := 1) (by omega) (by decide) hP hR (fun h2526 s2527 A2528 L2529 hP2530 F2531 R2532 => ?_)
          show bp_G E PO NN ((174, 75, lv2513, [], 0, 0) :: gs, h2526, none)
          refine bp_rv bu_174_75 ?_
          have ee : py_tell K V Q σ = py_fl 1 σ := by
            unfold py_tell
            rw [if_neg (not_not_intro hf), if_neg (by omega), if_neg (by omega), if_neg (by omega), if_neg (by omega), if_neg (by omega)]
          exact kk _ _ _ _ hP2530 (rc_G_of F2531) (by rw [ee]; exact R2532) (fun q => absurd q (by rw [ee]; exact py_fl_f (by decide)))
        · replace k2523 : ¬ ((x2510).toInt < (c2521).toInt) := k2523
          refine bp_ld (pc' := 57) bu_174_56 rfl rfl (fun _ _ _ => rfl) g2515 rfl ?_
          refine bp_c (pc' := 59) (n := 11) bu_174_57 rfl rfl (fun _ _ _ => rfl) (by decide) (fun c2533 e2534 => ?_)
          refine bp_ic (pc' := 62) (pt := 70) bu_174_59 rfl rfl (fun k2535 => ?_) (fun k2535 => ?_)
          · replace k2535 : (c2533).toInt < (x2510).toInt := k2535
            refine bp_ld (pc' := 71) bu_174_70 rfl rfl (fun _ _ _ => rfl) g2516 rfl ?_
            refine bp_c (pc' := 72) (n := 1) bu_174_71 rfl rfl (fun _ _ _ => rfl) (by decide) (fun c2536 e2537 => ?_)
            refine bn_cv (pc' := 75) (st := []) (args := [.int c2536]) bu_174_72 rfl rfl rfl (by decide) hP bq_o20 (by decide) (by omega) rfl (Nat.le_of_ble_eq_true rfl) (Nat.le_of_ble_eq_true rfl) ?_
            refine cr_176 (σ := σ) (kn := 1) (by omega) (by decide) hP hR (fun h2538 s2539 A2540 L2541 hP2542 F2543 R2544 => ?_)
            show bp_G E PO NN ((174, 75, lv2513, [], 0, 0) :: gs, h2538, none)
            refine bp_rv bu_174_75 ?_
            have ee : py_tell K V Q σ = py_fl 1 σ := by
              unfold py_tell
              rw [if_neg (not_not_intro hf), if_neg (by omega), if_neg (by omega), if_neg (by omega), if_neg (by omega), if_neg (by omega)]
            exact kk _ _ _ _ hP2542 (rc_G_of F2543) (by rw [ee]; exact R2544) (fun q => absurd q (by rw [ee]; exact py_fl_f (by decide)))
          · replace k2535 : ¬ ((c2533).toInt < (x2510).toInt) := k2535
            refine bp_ld (pc' := 63) bu_174_62 rfl rfl (fun _ _ _ => rfl) g2516 rfl ?_
            refine bp_ld (pc' := 64) bu_174_63 rfl rfl (fun _ _ _ => rfl) g2515 rfl ?_
            refine bn_cv (pc' := 67) (st := []) (args := [.int x2510]) bu_174_64 rfl rfl rfl (by decide) hP bq_o20 (by decide) (by omega) rfl (Nat.le_of_ble_eq_true rfl) (Nat.le_of_ble_eq_true rfl) ?_
            refine cr_171 (by omega) hP (by simp only [List.length_cons]; omega) hf (by omega) hR hT hc (fun h2545 s2546 A2547 L2548 hP2549 F2550 R2551 M2552 => ?_)
            show bp_G E PO NN ((174, 67, lv2513, [], 0, 0) :: gs, h2545, none)
            refine bp_go (pc' := 75) bu_174_67 rfl ?_
            refine bp_rv bu_174_75 ?_
            have ee : py_tell K V Q σ = rc_nm K V (x2510).toInt σ := by
              unfold py_tell rc_nm
              rw [if_neg (not_not_intro hf), if_neg (by omega), if_neg (by omega)]
              by_cases e8 : (x2510).toInt = 8
              · rw [if_pos (by omega), if_pos e8]
              by_cases e9 : (x2510).toInt = 9
              · rw [if_neg (by omega), if_pos (by omega), if_neg e8, if_pos e9]
              · rw [if_neg (by omega), if_neg (by omega), if_pos (by omega), if_neg e8, if_neg e9]
            refine kk _ _ _ _ hP2549 F2550 (by rw [ee]; exact R2551) (fun q ω hO => ?_)
            rw [ee] at q ⊢
            obtain ⟨m1, m2, -, m4⟩ := M2552 q
            rw [rc_nm_n]
            exact rc_O_num (w := (x2510).toInt) (by omega) (by omega) hO m1 m2 m4
      · replace k2520 : ¬ ((x2510).toInt < (c2518).toInt) := k2520
        refine bp_ld (pc' := 35) bu_174_34 rfl rfl (fun _ _ _ => rfl) g2515 rfl ?_
        refine bp_c (pc' := 37) (n := 7) bu_174_35 rfl rfl (fun _ _ _ => rfl) (by decide) (fun c2553 e2554 => ?_)
        refine bp_ic (pc' := 40) (pt := 50) bu_174_37 rfl rfl (fun k2555 => ?_) (fun k2555 => ?_)
        · replace k2555 : (c2553).toInt < (x2510).toInt := k2555
          refine bp_ld (pc' := 51) bu_174_50 rfl rfl (fun _ _ _ => rfl) g2515 rfl ?_
          refine bp_c (pc' := 53) (n := 8) bu_174_51 rfl rfl (fun _ _ _ => rfl) (by decide) (fun c2556 e2557 => ?_)
          refine bp_ic (pc' := 56) (pt := 70) bu_174_53 rfl rfl (fun k2558 => ?_) (fun k2558 => ?_)
          · replace k2558 : (x2510).toInt < (c2556).toInt := k2558
            refine bp_ld (pc' := 71) bu_174_70 rfl rfl (fun _ _ _ => rfl) g2516 rfl ?_
            refine bp_c (pc' := 72) (n := 1) bu_174_71 rfl rfl (fun _ _ _ => rfl) (by decide) (fun c2559 e2560 => ?_)
            refine bn_cv (pc' := 75) (st := []) (args := [.int c2559]) bu_174_72 rfl rfl rfl (by decide) hP bq_o20 (by decide) (by omega) rfl (Nat.le_of_ble_eq_true rfl) (Nat.le_of_ble_eq_true rfl) ?_
            refine cr_176 (σ := σ) (kn := 1) (by omega) (by decide) hP hR (fun h2561 s2562 A2563 L2564 hP2565 F2566 R2567 => ?_)
            show bp_G E PO NN ((174, 75, lv2513, [], 0, 0) :: gs, h2561, none)
            refine bp_rv bu_174_75 ?_
            have ee : py_tell K V Q σ = py_fl 1 σ := by
              unfold py_tell
              rw [if_neg (not_not_intro hf), if_neg (by omega), if_neg (by omega), if_neg (by omega), if_neg (by omega), if_neg (by omega)]
            exact kk _ _ _ _ hP2565 (rc_G_of F2566) (by rw [ee]; exact R2567) (fun q => absurd q (by rw [ee]; exact py_fl_f (by decide)))
          · replace k2558 : ¬ ((x2510).toInt < (c2556).toInt) := k2558
            refine bp_ld (pc' := 57) bu_174_56 rfl rfl (fun _ _ _ => rfl) g2515 rfl ?_
            refine bp_c (pc' := 59) (n := 11) bu_174_57 rfl rfl (fun _ _ _ => rfl) (by decide) (fun c2568 e2569 => ?_)
            refine bp_ic (pc' := 62) (pt := 70) bu_174_59 rfl rfl (fun k2570 => ?_) (fun k2570 => ?_)
            · replace k2570 : (c2568).toInt < (x2510).toInt := k2570
              refine bp_ld (pc' := 71) bu_174_70 rfl rfl (fun _ _ _ => rfl) g2516 rfl ?_
              refine bp_c (pc' := 72) (n := 1) bu_174_71 rfl rfl (fun _ _ _ => rfl) (by decide) (fun c2571 e2572 => ?_)
              refine bn_cv (pc' := 75) (st := []) (args := [.int c2571]) bu_174_72 rfl rfl rfl (by decide) hP bq_o20 (by decide) (by omega) rfl (Nat.le_of_ble_eq_true rfl) (Nat.le_of_ble_eq_true rfl) ?_
              refine cr_176 (σ := σ) (kn := 1) (by omega) (by decide) hP hR (fun h2573 s2574 A2575 L2576 hP2577 F2578 R2579 => ?_)
              show bp_G E PO NN ((174, 75, lv2513, [], 0, 0) :: gs, h2573, none)
              refine bp_rv bu_174_75 ?_
              have ee : py_tell K V Q σ = py_fl 1 σ := by
                unfold py_tell
                rw [if_neg (not_not_intro hf), if_neg (by omega), if_neg (by omega), if_neg (by omega), if_neg (by omega), if_neg (by omega)]
              exact kk _ _ _ _ hP2577 (rc_G_of F2578) (by rw [ee]; exact R2579) (fun q => absurd q (by rw [ee]; exact py_fl_f (by decide)))
            · replace k2570 : ¬ ((c2568).toInt < (x2510).toInt) := k2570
              refine bp_ld (pc' := 63) bu_174_62 rfl rfl (fun _ _ _ => rfl) g2516 rfl ?_
              refine bp_ld (pc' := 64) bu_174_63 rfl rfl (fun _ _ _ => rfl) g2515 rfl ?_
              refine bn_cv (pc' := 67) (st := []) (args := [.int x2510]) bu_174_64 rfl rfl rfl (by decide) hP bq_o20 (by decide) (by omega) rfl (Nat.le_of_ble_eq_true rfl) (Nat.le_of_ble_eq_true rfl) ?_
              refine cr_171 (by omega) hP (by simp only [List.length_cons]; omega) hf (by omega) hR hT hc (fun h2580 s2581 A2582 L2583 hP2584 F2585 R2586 M2587 => ?_)
              show bp_G E PO NN ((174, 67, lv2513, [], 0, 0) :: gs, h2580, none)
              refine bp_go (pc' := 75) bu_174_67 rfl ?_
              refine bp_rv bu_174_75 ?_
              have ee : py_tell K V Q σ = rc_nm K V (x2510).toInt σ := by
                unfold py_tell rc_nm
                rw [if_neg (not_not_intro hf), if_neg (by omega), if_neg (by omega)]
                by_cases e8 : (x2510).toInt = 8
                · rw [if_pos (by omega), if_pos e8]
                by_cases e9 : (x2510).toInt = 9
                · rw [if_neg (by omega), if_pos (by omega), if_neg e8, if_pos e9]
                · rw [if_neg (by omega), if_neg (by omega), if_pos (by omega), if_neg e8, if_neg e9]
              refine kk _ _ _ _ hP2584 F2585 (by rw [ee]; exact R2586) (fun q ω hO => ?_)
              rw [ee] at q ⊢
              obtain ⟨m1, m2, -, m4⟩ := M2587 q
              rw [rc_nm_n]
              exact rc_O_num (w := (x2510).toInt) (by omega) (by omega) hO m1 m2 m4
        · replace k2555 : ¬ ((c2553).toInt < (x2510).toInt) := k2555
          refine bp_ld (pc' := 41) bu_174_40 rfl rfl (fun _ _ _ => rfl) g2516 rfl ?_
          refine bp_ld (pc' := 42) bu_174_41 rfl rfl (fun _ _ _ => rfl) g2515 rfl ?_
          refine bp_c (pc' := 43) (n := 1) bu_174_42 rfl rfl (fun _ _ _ => rfl) (by decide) (fun c2588 e2589 => ?_)
          refine bp_sub (pc' := 44) bu_174_43 rfl (by omega) (by omega) (fun v2590 e2591 => ?_)
          refine bn_cv (pc' := 47) (st := []) (args := [.int v2590]) bu_174_44 rfl rfl rfl (by decide) hP bq_o20 (by decide) (by omega) rfl (Nat.le_of_ble_eq_true rfl) (Nat.le_of_ble_eq_true rfl) ?_
          refine cr_169 hS hP (by simp only [List.length_cons]; omega) hR hT hc hf (by omega) (fun h2592 s2593 A2594 L2595 hP2596 F2597 R2598 => ?_)
          show bp_G E PO NN ((174, 47, lv2513, [], 0, 0) :: gs, h2592, none)
          refine bp_go (pc' := 75) bu_174_47 rfl ?_
          refine bp_rv bu_174_75 ?_
          have ee : py_tell K V Q σ = py_law K σ := by
            unfold py_tell
            rw [if_neg (not_not_intro hf), if_neg (by omega), if_pos (by omega)]
          refine kk _ _ _ _ hP2596 (rc_G_of F2597) (by rw [ee]; exact R2598) (fun q ω hO => ?_)
          rw [ee, py_n_law]
          refine rc_O_s hO (fun j j1 j2 => F2597.1 j (Or.inr ⟨by omega, j2⟩)) (F2597.2.1 17 (by decide)) (F2597.2.1 18 (by decide)) (fun i hi => ?_)
          unfold py_st
          rw [if_neg (by omega), if_neg (by omega), if_neg (by omega), if_neg (by omega), if_pos ⟨by omega, by omega⟩]
          exact py_up_o (by omega)
    · replace k2517 : ¬ ((x2510).toInt ≠ 0) := k2517
      refine bp_ld (pc' := 23) bu_174_22 rfl rfl (fun _ _ _ => rfl) g2516 rfl ?_
      refine bn_cv (pc' := 26) (st := []) (args := []) bu_174_23 rfl rfl rfl (by decide) hP bq_o20 (by decide) (by omega) rfl (Nat.le_of_ble_eq_true rfl) (Nat.le_of_ble_eq_true rfl) ?_
      refine cr_170 hQ hP (by simp only [List.length_cons]; omega) hR hT hc hf (by omega) (fun h2600 s2601 A2602 L2603 hP2604 F2605 R2606 M2607 => ?_)
      show bp_G E PO NN ((174, 26, lv2513, [], 0, 0) :: gs, h2600, none)
      refine bp_go (pc' := 75) bu_174_26 rfl ?_
      refine bp_rv bu_174_75 ?_
      have ee : py_tell K V Q σ = py_man K V Q σ := by
        unfold py_tell
        rw [if_neg (not_not_intro hf), if_pos (by omega)]
      refine kk _ _ _ _ hP2604 F2605 (by rw [ee]; exact R2606) (fun q ω hO => ?_)
      rw [ee] at q ⊢
      have e3 : py_st K σ ω = ω := by
        unfold py_st
        rw [if_neg (by omega), if_neg (by omega), if_neg (by omega), if_neg (by omega), if_neg (by omega)]
      rw [py_man_nm q, e3]
      exact rc_O_man (M2607 q) hO
end CR
