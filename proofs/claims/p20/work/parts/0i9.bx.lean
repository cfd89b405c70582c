/-! BY HAND: the reference's evaluator (wip/p3/bhe.py) -/
def be_T : bh_T := ([(31, 106), (32, 107), (34, 108), (35, 109), (36, 110), (37, 111), (38, 112), (40, 113), (41, 114), (44, 116), (45, 117)], [18, 46], [(106, 0, 14), (107, 0, 14), (108, 2, 260), (109, 0, 260), (110, 0, 260), (111, 0, 260), (112, 0, 260), (113, 0, 840), (114, 0, 840), (116, 0, 9), (117, 0, 400)], [])
theorem be_i18 : 18 ∈ be_T.2.1 := by decide
theorem be_i46 : 46 ∈ be_T.2.1 := by decide
theorem be_r31 : (31, 106) ∈ be_T.1 := by decide
theorem be_r32 : (32, 107) ∈ be_T.1 := by decide
theorem be_r34 : (34, 108) ∈ be_T.1 := by decide
theorem be_r35 : (35, 109) ∈ be_T.1 := by decide
theorem be_r36 : (36, 110) ∈ be_T.1 := by decide
theorem be_r37 : (37, 111) ∈ be_T.1 := by decide
theorem be_r38 : (38, 112) ∈ be_T.1 := by decide
theorem be_r40 : (40, 113) ∈ be_T.1 := by decide
theorem be_r41 : (41, 114) ∈ be_T.1 := by decide
theorem be_r44 : (44, 116) ∈ be_T.1 := by decide
theorem be_r45 : (45, 117) ∈ be_T.1 := by decide
theorem be_a106 : (106, 0, 14) ∈ be_T.2.2.1 := by decide
theorem be_a107 : (107, 0, 14) ∈ be_T.2.2.1 := by decide
theorem be_a108 : (108, 2, 260) ∈ be_T.2.2.1 := by decide
theorem be_a109 : (109, 0, 260) ∈ be_T.2.2.1 := by decide
theorem be_a110 : (110, 0, 260) ∈ be_T.2.2.1 := by decide
theorem be_a111 : (111, 0, 260) ∈ be_T.2.2.1 := by decide
theorem be_a112 : (112, 0, 260) ∈ be_T.2.2.1 := by decide
theorem be_a113 : (113, 0, 840) ∈ be_T.2.2.1 := by decide
theorem be_a114 : (114, 0, 840) ∈ be_T.2.2.1 := by decide
theorem be_a116 : (116, 0, 9) ∈ be_T.2.2.1 := by decide
theorem be_a117 : (117, 0, 400) ∈ be_T.2.2.1 := by decide
theorem be_W : bh_W be_T := by unfold bh_W; decide
/-- what stands ahead of a stretch of codes that makes one number -/
theorem rd_pf_cut {cd ci : Nat → Int32} {c0 : Nat} : ∀ (n d : Nat), rd_pf cd ci c0 n d → ∀ m, m ≤ n → ∃ d', rd_pf cd ci c0 m d'
  | 0, d, h, m, hm => by
    have e : m = 0 := by omega
    rw [e]
    exact ⟨d, h⟩
  | n + 1, d, h, m, hm => by
    rcases Nat.lt_or_ge n m with hlt | hge
    · have e : m = n + 1 := by omega
      rw [e]
      exact ⟨d, h⟩
    · rcases h with ⟨h1, h2, h3, h4⟩ | ⟨h1, h2, h3, h4, h5, h6⟩ | ⟨h1, h2, h3, h4⟩
      · exact rd_pf_cut n _ h4 m hge
      · exact rd_pf_cut n _ h6 m hge
      · exact rd_pf_cut n _ h4 m hge
theorem rd_pf_one {cd ci : Nat → Int32} {c0 : Nat} : ∀ (n d d' : Nat), rd_pf cd ci c0 n d → rd_pf cd ci c0 n d' → d = d'
  | 0, d, d', h, h' => by
    have e1 : d = 0 := h
    have e2 : d' = 0 := h'
    omega
  | n + 1, d, d', h, h' => by
    rcases h with ⟨h1, h2, h3, h4⟩ | ⟨h1, h2, h3, h4, h5, h6⟩ | ⟨h1, h2, h3, h4⟩ <;> rcases h' with ⟨k1, k2, k3, k4⟩ | ⟨k1, k2, k3, k4, k5, k6⟩ | ⟨k1, k2, k3, k4⟩
    · have := rd_pf_one n _ _ h4 k4; omega
    · omega
    · omega
    · omega
    · have := rd_pf_one n _ _ h6 k6; omega
    · omega
    · omega
    · omega
    · have := rd_pf_one n _ _ h4 k4; omega
theorem rd_pf_next {cd ci : Nat → Int32} {c0 n D m d : Nat} (h : rd_pf cd ci c0 n D) (hm : m < n) (hd : rd_pf cd ci c0 m d) : ∃ d2, rd_pf cd ci c0 (m + 1) d2 ∧ (((cd (c0 + m)).toInt = 0 ∧ d2 = d + 1 ∧ d2 ≤ 400) ∨ ((cd (c0 + m)).toInt = 1 ∧ 0 ≤ (ci (c0 + m)).toInt ∧ (ci (c0 + m)).toInt ≤ 8 ∧ d2 = d + 1 ∧ d2 ≤ 400) ∨ (2 ≤ (cd (c0 + m)).toInt ∧ (cd (c0 + m)).toInt ≤ 5 ∧ 2 ≤ d ∧ d2 + 1 = d ∧ d ≤ 400)) ∧ d ≤ 400 := by
  have hb : ∀ (m d : Nat), rd_pf cd ci c0 m d → d ≤ 400 := by
    intro m
    induction m with
    | zero =>
      intro d h
      have e : d = 0 := h
      omega
    | succ m ih =>
      intro d h
      rcases h with ⟨h1, h2, h3, h4⟩ | ⟨h1, h2, h3, h4, h5, h6⟩ | ⟨h1, h2, h3, h4⟩
      · exact h3
      · exact h5
      · have := ih _ h4
        omega
  obtain ⟨d2, h2⟩ := rd_pf_cut n D h (m + 1) hm
  refine ⟨d2, h2, ?_, hb m d hd⟩
  rcases h2 with ⟨h1, h2, h3, h4⟩ | ⟨h1, h2, h3, h4, h5, h6⟩ | ⟨h1, h2, h3, h4⟩
  · have := rd_pf_one m _ _ h4 hd
    exact Or.inl ⟨h1, by omega, h3⟩
  · have := rd_pf_one m _ _ h6 hd
    exact Or.inr (Or.inl ⟨h1, h2, h3, by omega, h5⟩)
  · have := rd_pf_one m _ _ h4 hd
    have := hb m d hd
    exact Or.inr (Or.inr ⟨h1, h2, by omega, by omega, by omega⟩)
theorem bt_3_0 : mm_at mt_P 3 0 = some ((0, 1, .iload_n 2, 0, 0, 0, 0), 6, 4, 1, 9, 1, 0, 0) := rfl
theorem bt_3_1 : mm_at mt_P 3 1 = some ((1, 2, .istore 5, 0, 0, 0, 0), 6, 4, 1, 9, 1, 0, 0) := rfl
theorem bt_3_3 : mm_at mt_P 3 3 = some ((3, 1, .aload_n 0, 0, 0, 0, 0), 6, 4, 1, 9, 1, 0, 0) := rfl
theorem bt_3_4 : mm_at mt_P 3 4 = some ((4, 3, .getfield 70, 9, 31, 0, 1248), 6, 4, 1, 9, 1, 0, 0) := rfl
theorem bt_3_7 : mm_at mt_P 3 7 = some ((7, 2, .bipush 7, 0, 0, 0, 0), 6, 4, 1, 9, 1, 0, 0) := rfl
theorem bt_3_9 : mm_at mt_P 3 9 = some ((9, 1, .aload_n 0, 0, 0, 0, 0), 6, 4, 1, 9, 1, 0, 0) := rfl
theorem bt_3_10 : mm_at mt_P 3 10 = some ((10, 3, .getfield 233, 9, 18, 0, 1235), 6, 4, 1, 9, 1, 0, 0) := rfl
theorem bt_3_13 : mm_at mt_P 3 13 = some ((13, 1, .imul, 0, 0, 0, 0), 6, 4, 1, 9, 1, 0, 0) := rfl
theorem bt_3_14 : mm_at mt_P 3 14 = some ((14, 1, .iload_n 1, 0, 0, 0, 0), 6, 4, 1, 9, 1, 0, 0) := rfl
theorem bt_3_15 : mm_at mt_P 3 15 = some ((15, 1, .iadd, 0, 0, 0, 0), 6, 4, 1, 9, 1, 0, 0) := rfl
theorem bt_3_16 : mm_at mt_P 3 16 = some ((16, 1, .iaload, 0, 0, 0, 0), 6, 4, 1, 9, 1, 0, 0) := rfl
theorem bt_3_17 : mm_at mt_P 3 17 = some ((17, 1, .aload_n 0, 0, 0, 0, 0), 6, 4, 1, 9, 1, 0, 0) := rfl
theorem bt_3_18 : mm_at mt_P 3 18 = some ((18, 3, .getfield 73, 9, 32, 0, 1249), 6, 4, 1, 9, 1, 0, 0) := rfl
theorem bt_3_21 : mm_at mt_P 3 21 = some ((21, 2, .bipush 7, 0, 0, 0, 0), 6, 4, 1, 9, 1, 0, 0) := rfl
theorem bt_3_23 : mm_at mt_P 3 23 = some ((23, 1, .aload_n 0, 0, 0, 0, 0), 6, 4, 1, 9, 1, 0, 0) := rfl
theorem bt_3_24 : mm_at mt_P 3 24 = some ((24, 3, .getfield 233, 9, 18, 0, 1235), 6, 4, 1, 9, 1, 0, 0) := rfl
theorem bt_3_27 : mm_at mt_P 3 27 = some ((27, 1, .imul, 0, 0, 0, 0), 6, 4, 1, 9, 1, 0, 0) := rfl
theorem bt_3_28 : mm_at mt_P 3 28 = some ((28, 1, .iload_n 1, 0, 0, 0, 0), 6, 4, 1, 9, 1, 0, 0) := rfl
theorem bt_3_29 : mm_at mt_P 3 29 = some ((29, 1, .iadd, 0, 0, 0, 0), 6, 4, 1, 9, 1, 0, 0) := rfl
theorem bt_3_30 : mm_at mt_P 3 30 = some ((30, 1, .iaload, 0, 0, 0, 0), 6, 4, 1, 9, 1, 0, 0) := rfl
theorem bt_3_31 : mm_at mt_P 3 31 = some ((31, 3, .if_icmp .ge 18, 0, 0, 0, 0), 6, 4, 1, 9, 1, 0, 0) := rfl
theorem bt_3_34 : mm_at mt_P 3 34 = some ((34, 1, .aload_n 0, 0, 0, 0, 0), 6, 4, 1, 9, 1, 0, 0) := rfl
theorem bt_3_35 : mm_at mt_P 3 35 = some ((35, 2, .bipush 7, 0, 0, 0, 0), 6, 4, 1, 9, 1, 0, 0) := rfl
theorem bt_3_37 : mm_at mt_P 3 37 = some ((37, 1, .aload_n 0, 0, 0, 0, 0), 6, 4, 1, 9, 1, 0, 0) := rfl
theorem bt_3_38 : mm_at mt_P 3 38 = some ((38, 3, .getfield 233, 9, 18, 0, 1235), 6, 4, 1, 9, 1, 0, 0) := rfl
theorem bt_3_41 : mm_at mt_P 3 41 = some ((41, 1, .imul, 0, 0, 0, 0), 6, 4, 1, 9, 1, 0, 0) := rfl
theorem bt_3_42 : mm_at mt_P 3 42 = some ((42, 1, .iload_n 1, 0, 0, 0, 0), 6, 4, 1, 9, 1, 0, 0) := rfl
theorem bt_3_43 : mm_at mt_P 3 43 = some ((43, 1, .iadd, 0, 0, 0, 0), 6, 4, 1, 9, 1, 0, 0) := rfl
theorem bt_3_44 : mm_at mt_P 3 44 = some ((44, 3, .invokevirtual 321, 57, 0, 0, 1582), 6, 4, 1, 9, 1, 0, 0) := rfl
theorem bt_3_47 : mm_at mt_P 3 47 = some ((47, 2, .istore 5, 0, 0, 0, 0), 6, 4, 1, 9, 1, 0, 0) := rfl
theorem bt_3_49 : mm_at mt_P 3 49 = some ((49, 2, .iload 5, 0, 0, 0, 0), 6, 4, 1, 9, 1, 0, 0) := rfl
theorem bt_3_51 : mm_at mt_P 3 51 = some ((51, 1, .iload_n 3, 0, 0, 0, 0), 6, 4, 1, 9, 1, 0, 0) := rfl
theorem bt_3_52 : mm_at mt_P 3 52 = some ((52, 3, .if_icmp .ge 7, 0, 0, 0, 0), 6, 4, 1, 9, 1, 0, 0) := rfl
theorem bt_3_55 : mm_at mt_P 3 55 = some ((55, 1, .iload_n 3, 0, 0, 0, 0), 6, 4, 1, 9, 1, 0, 0) := rfl
theorem bt_3_56 : mm_at mt_P 3 56 = some ((56, 3, .goto 17, 0, 0, 0, 0), 6, 4, 1, 9, 1, 0, 0) := rfl
theorem bt_3_59 : mm_at mt_P 3 59 = some ((59, 2, .iload 5, 0, 0, 0, 0), 6, 4, 1, 9, 1, 0, 0) := rfl
theorem bt_3_61 : mm_at mt_P 3 61 = some ((61, 2, .iload 4, 0, 0, 0, 0), 6, 4, 1, 9, 1, 0, 0) := rfl
theorem bt_3_63 : mm_at mt_P 3 63 = some ((63, 3, .if_icmp .le 8, 0, 0, 0, 0), 6, 4, 1, 9, 1, 0, 0) := rfl
theorem bt_3_66 : mm_at mt_P 3 66 = some ((66, 2, .iload 4, 0, 0, 0, 0), 6, 4, 1, 9, 1, 0, 0) := rfl
theorem bt_3_68 : mm_at mt_P 3 68 = some ((68, 3, .goto 5, 0, 0, 0, 0), 6, 4, 1, 9, 1, 0, 0) := rfl
theorem bt_3_71 : mm_at mt_P 3 71 = some ((71, 2, .iload 5, 0, 0, 0, 0), 6, 4, 1, 9, 1, 0, 0) := rfl
theorem bt_3_73 : mm_at mt_P 3 73 = some ((73, 1, .ireturn, 0, 0, 0, 0), 6, 4, 1, 9, 1, 0, 0) := rfl
theorem bt_57_0 : mm_at mt_P 57 0 = some ((0, 1, .aload_n 0, 0, 0, 0, 0), 5, 1, 1, 9, 1, 0, 0) := rfl
theorem bt_57_1 : mm_at mt_P 57 1 = some ((1, 1, .iconst 0, 0, 0, 0, 0), 5, 1, 1, 9, 1, 0, 0) := rfl
theorem bt_57_2 : mm_at mt_P 57 2 = some ((2, 3, .putfield 296, 9, 46, 0, 1263), 5, 1, 1, 9, 1, 0, 0) := rfl
theorem bt_57_5 : mm_at mt_P 57 5 = some ((5, 1, .aload_n 0, 0, 0, 0, 0), 5, 1, 1, 9, 1, 0, 0) := rfl
theorem bt_57_6 : mm_at mt_P 57 6 = some ((6, 3, .getfield 70, 9, 31, 0, 1248), 5, 1, 1, 9, 1, 0, 0) := rfl
theorem bt_57_9 : mm_at mt_P 57 9 = some ((9, 1, .iload_n 1, 0, 0, 0, 0), 5, 1, 1, 9, 1, 0, 0) := rfl
theorem bt_57_10 : mm_at mt_P 57 10 = some ((10, 1, .iaload, 0, 0, 0, 0), 5, 1, 1, 9, 1, 0, 0) := rfl
theorem bt_57_11 : mm_at mt_P 57 11 = some ((11, 1, .istore_n 2, 0, 0, 0, 0), 5, 1, 1, 9, 1, 0, 0) := rfl
theorem bt_57_12 : mm_at mt_P 57 12 = some ((12, 1, .iload_n 2, 0, 0, 0, 0), 5, 1, 1, 9, 1, 0, 0) := rfl
theorem bt_57_13 : mm_at mt_P 57 13 = some ((13, 1, .aload_n 0, 0, 0, 0, 0), 5, 1, 1, 9, 1, 0, 0) := rfl
theorem bt_57_14 : mm_at mt_P 57 14 = some ((14, 3, .getfield 73, 9, 32, 0, 1249), 5, 1, 1, 9, 1, 0, 0) := rfl
theorem bt_57_17 : mm_at mt_P 57 17 = some ((17, 1, .iload_n 1, 0, 0, 0, 0), 5, 1, 1, 9, 1, 0, 0) := rfl
theorem bt_57_18 : mm_at mt_P 57 18 = some ((18, 1, .iaload, 0, 0, 0, 0), 5, 1, 1, 9, 1, 0, 0) := rfl
theorem bt_57_19 : mm_at mt_P 57 19 = some ((19, 3, .if_icmp .ge 101, 0, 0, 0, 0), 5, 1, 1, 9, 1, 0, 0) := rfl
theorem bt_57_22 : mm_at mt_P 57 22 = some ((22, 1, .aload_n 0, 0, 0, 0, 0), 5, 1, 1, 9, 1, 0, 0) := rfl
theorem bt_57_23 : mm_at mt_P 57 23 = some ((23, 3, .getfield 76, 9, 34, 0, 1251), 5, 1, 1, 9, 1, 0, 0) := rfl
theorem bt_57_26 : mm_at mt_P 57 26 = some ((26, 1, .iload_n 2, 0, 0, 0, 0), 5, 1, 1, 9, 1, 0, 0) := rfl
theorem bt_57_27 : mm_at mt_P 57 27 = some ((27, 1, .baload, 0, 0, 0, 0), 5, 1, 1, 9, 1, 0, 0) := rfl
theorem bt_57_28 : mm_at mt_P 57 28 = some ((28, 3, .ifCond .eq 56, 0, 0, 0, 0), 5, 1, 1, 9, 1, 0, 0) := rfl
theorem bt_57_31 : mm_at mt_P 57 31 = some ((31, 1, .aload_n 0, 0, 0, 0, 0), 5, 1, 1, 9, 1, 0, 0) := rfl
theorem bt_57_32 : mm_at mt_P 57 32 = some ((32, 1, .aload_n 0, 0, 0, 0, 0), 5, 1, 1, 9, 1, 0, 0) := rfl
theorem bt_57_33 : mm_at mt_P 57 33 = some ((33, 3, .getfield 80, 9, 35, 0, 1252), 5, 1, 1, 9, 1, 0, 0) := rfl
theorem bt_57_36 : mm_at mt_P 57 36 = some ((36, 1, .iload_n 2, 0, 0, 0, 0), 5, 1, 1, 9, 1, 0, 0) := rfl
theorem bt_57_37 : mm_at mt_P 57 37 = some ((37, 1, .iaload, 0, 0, 0, 0), 5, 1, 1, 9, 1, 0, 0) := rfl
theorem bt_57_38 : mm_at mt_P 57 38 = some ((38, 1, .aload_n 0, 0, 0, 0, 0), 5, 1, 1, 9, 1, 0, 0) := rfl
theorem bt_57_39 : mm_at mt_P 57 39 = some ((39, 3, .getfield 83, 9, 36, 0, 1253), 5, 1, 1, 9, 1, 0, 0) := rfl
theorem bt_57_42 : mm_at mt_P 57 42 = some ((42, 1, .iload_n 2, 0, 0, 0, 0), 5, 1, 1, 9, 1, 0, 0) := rfl
theorem bt_57_43 : mm_at mt_P 57 43 = some ((43, 1, .iaload, 0, 0, 0, 0), 5, 1, 1, 9, 1, 0, 0) := rfl
theorem bt_57_44 : mm_at mt_P 57 44 = some ((44, 3, .invokevirtual 324, 101, 0, 0, 1586), 5, 1, 1, 9, 1, 0, 0) := rfl
theorem bt_57_47 : mm_at mt_P 57 47 = some ((47, 1, .istore_n 3, 0, 0, 0, 0), 5, 1, 1, 9, 1, 0, 0) := rfl
theorem bt_57_48 : mm_at mt_P 57 48 = some ((48, 1, .aload_n 0, 0, 0, 0, 0), 5, 1, 1, 9, 1, 0, 0) := rfl
theorem bt_57_49 : mm_at mt_P 57 49 = some ((49, 1, .aload_n 0, 0, 0, 0, 0), 5, 1, 1, 9, 1, 0, 0) := rfl
theorem bt_57_50 : mm_at mt_P 57 50 = some ((50, 3, .getfield 83, 9, 36, 0, 1253), 5, 1, 1, 9, 1, 0, 0) := rfl
theorem bt_57_53 : mm_at mt_P 57 53 = some ((53, 1, .iload_n 2, 0, 0, 0, 0), 5, 1, 1, 9, 1, 0, 0) := rfl
theorem bt_57_54 : mm_at mt_P 57 54 = some ((54, 1, .iaload, 0, 0, 0, 0), 5, 1, 1, 9, 1, 0, 0) := rfl
theorem bt_57_55 : mm_at mt_P 57 55 = some ((55, 1, .aload_n 0, 0, 0, 0, 0), 5, 1, 1, 9, 1, 0, 0) := rfl
theorem bt_57_56 : mm_at mt_P 57 56 = some ((56, 3, .getfield 86, 9, 37, 0, 1254), 5, 1, 1, 9, 1, 0, 0) := rfl
theorem bt_57_59 : mm_at mt_P 57 59 = some ((59, 1, .iload_n 2, 0, 0, 0, 0), 5, 1, 1, 9, 1, 0, 0) := rfl
theorem bt_57_60 : mm_at mt_P 57 60 = some ((60, 1, .iaload, 0, 0, 0, 0), 5, 1, 1, 9, 1, 0, 0) := rfl
theorem bt_57_61 : mm_at mt_P 57 61 = some ((61, 3, .invokevirtual 324, 101, 0, 0, 1586), 5, 1, 1, 9, 1, 0, 0) := rfl
theorem bt_57_64 : mm_at mt_P 57 64 = some ((64, 2, .istore 4, 0, 0, 0, 0), 5, 1, 1, 9, 1, 0, 0) := rfl
theorem bt_57_66 : mm_at mt_P 57 66 = some ((66, 1, .aload_n 0, 0, 0, 0, 0), 5, 1, 1, 9, 1, 0, 0) := rfl
theorem bt_57_67 : mm_at mt_P 57 67 = some ((67, 3, .getfield 296, 9, 46, 0, 1263), 5, 1, 1, 9, 1, 0, 0) := rfl
theorem bt_57_70 : mm_at mt_P 57 70 = some ((70, 3, .ifCond .eq 5, 0, 0, 0, 0), 5, 1, 1, 9, 1, 0, 0) := rfl
theorem bt_57_73 : mm_at mt_P 57 73 = some ((73, 1, .iconst 0, 0, 0, 0, 0), 5, 1, 1, 9, 1, 0, 0) := rfl
theorem bt_57_74 : mm_at mt_P 57 74 = some ((74, 1, .ireturn, 0, 0, 0, 0), 5, 1, 1, 9, 1, 0, 0) := rfl
theorem bt_57_75 : mm_at mt_P 57 75 = some ((75, 1, .iload_n 3, 0, 0, 0, 0), 5, 1, 1, 9, 1, 0, 0) := rfl
theorem bt_57_76 : mm_at mt_P 57 76 = some ((76, 2, .iload 4, 0, 0, 0, 0), 5, 1, 1, 9, 1, 0, 0) := rfl
theorem bt_57_78 : mm_at mt_P 57 78 = some ((78, 3, .if_icmp .lt 6, 0, 0, 0, 0), 5, 1, 1, 9, 1, 0, 0) := rfl
theorem bt_57_81 : mm_at mt_P 57 81 = some ((81, 3, .goto 33, 0, 0, 0, 0), 5, 1, 1, 9, 1, 0, 0) := rfl
theorem bt_57_84 : mm_at mt_P 57 84 = some ((84, 1, .aload_n 0, 0, 0, 0, 0), 5, 1, 1, 9, 1, 0, 0) := rfl
theorem bt_57_85 : mm_at mt_P 57 85 = some ((85, 1, .aload_n 0, 0, 0, 0, 0), 5, 1, 1, 9, 1, 0, 0) := rfl
theorem bt_57_86 : mm_at mt_P 57 86 = some ((86, 3, .getfield 86, 9, 37, 0, 1254), 5, 1, 1, 9, 1, 0, 0) := rfl
theorem bt_57_89 : mm_at mt_P 57 89 = some ((89, 1, .iload_n 2, 0, 0, 0, 0), 5, 1, 1, 9, 1, 0, 0) := rfl
theorem bt_57_90 : mm_at mt_P 57 90 = some ((90, 1, .iaload, 0, 0, 0, 0), 5, 1, 1, 9, 1, 0, 0) := rfl
theorem bt_57_91 : mm_at mt_P 57 91 = some ((91, 1, .aload_n 0, 0, 0, 0, 0), 5, 1, 1, 9, 1, 0, 0) := rfl
theorem bt_57_92 : mm_at mt_P 57 92 = some ((92, 3, .getfield 89, 9, 38, 0, 1255), 5, 1, 1, 9, 1, 0, 0) := rfl
theorem bt_57_95 : mm_at mt_P 57 95 = some ((95, 1, .iload_n 2, 0, 0, 0, 0), 5, 1, 1, 9, 1, 0, 0) := rfl
theorem bt_57_96 : mm_at mt_P 57 96 = some ((96, 1, .iaload, 0, 0, 0, 0), 5, 1, 1, 9, 1, 0, 0) := rfl
theorem bt_57_97 : mm_at mt_P 57 97 = some ((97, 3, .invokevirtual 324, 101, 0, 0, 1586), 5, 1, 1, 9, 1, 0, 0) := rfl
theorem bt_57_100 : mm_at mt_P 57 100 = some ((100, 1, .istore_n 3, 0, 0, 0, 0), 5, 1, 1, 9, 1, 0, 0) := rfl
theorem bt_57_101 : mm_at mt_P 57 101 = some ((101, 1, .aload_n 0, 0, 0, 0, 0), 5, 1, 1, 9, 1, 0, 0) := rfl
theorem bt_57_102 : mm_at mt_P 57 102 = some ((102, 3, .getfield 296, 9, 46, 0, 1263), 5, 1, 1, 9, 1, 0, 0) := rfl
theorem bt_57_105 : mm_at mt_P 57 105 = some ((105, 3, .ifCond .eq 7, 0, 0, 0, 0), 5, 1, 1, 9, 1, 0, 0) := rfl
theorem bt_57_108 : mm_at mt_P 57 108 = some ((108, 1, .iconst 0, 0, 0, 0, 0), 5, 1, 1, 9, 1, 0, 0) := rfl
theorem bt_57_109 : mm_at mt_P 57 109 = some ((109, 3, .goto 4, 0, 0, 0, 0), 5, 1, 1, 9, 1, 0, 0) := rfl
theorem bt_57_112 : mm_at mt_P 57 112 = some ((112, 1, .iload_n 3, 0, 0, 0, 0), 5, 1, 1, 9, 1, 0, 0) := rfl
theorem bt_57_113 : mm_at mt_P 57 113 = some ((113, 1, .ireturn, 0, 0, 0, 0), 5, 1, 1, 9, 1, 0, 0) := rfl
theorem bt_57_114 : mm_at mt_P 57 114 = some ((114, 3, .iinc 2 1, 0, 0, 0, 0), 5, 1, 1, 9, 1, 0, 0) := rfl
theorem bt_57_117 : mm_at mt_P 57 117 = some ((117, 3, .goto (-105), 0, 0, 0, 0), 5, 1, 1, 9, 1, 0, 0) := rfl
theorem bt_57_120 : mm_at mt_P 57 120 = some ((120, 1, .iconst 0, 0, 0, 0, 0), 5, 1, 1, 9, 1, 0, 0) := rfl
theorem bt_57_121 : mm_at mt_P 57 121 = some ((121, 1, .ireturn, 0, 0, 0, 0), 5, 1, 1, 9, 1, 0, 0) := rfl
theorem bt_101_0 : mm_at mt_P 101 0 = some ((0, 1, .iconst 0, 0, 0, 0, 0), 8, 2, 1, 9, 1, 0, 0) := rfl
theorem bt_101_1 : mm_at mt_P 101 1 = some ((1, 1, .istore_n 3, 0, 0, 0, 0), 8, 2, 1, 9, 1, 0, 0) := rfl
theorem bt_101_2 : mm_at mt_P 101 2 = some ((2, 1, .iload_n 1, 0, 0, 0, 0), 8, 2, 1, 9, 1, 0, 0) := rfl
theorem bt_101_3 : mm_at mt_P 101 3 = some ((3, 2, .istore 4, 0, 0, 0, 0), 8, 2, 1, 9, 1, 0, 0) := rfl
theorem bt_101_5 : mm_at mt_P 101 5 = some ((5, 2, .iload 4, 0, 0, 0, 0), 8, 2, 1, 9, 1, 0, 0) := rfl
theorem bt_101_7 : mm_at mt_P 101 7 = some ((7, 1, .iload_n 2, 0, 0, 0, 0), 8, 2, 1, 9, 1, 0, 0) := rfl
theorem bt_101_8 : mm_at mt_P 101 8 = some ((8, 3, .if_icmp .ge 157, 0, 0, 0, 0), 8, 2, 1, 9, 1, 0, 0) := rfl
theorem bt_101_11 : mm_at mt_P 101 11 = some ((11, 1, .aload_n 0, 0, 0, 0, 0), 8, 2, 1, 9, 1, 0, 0) := rfl
theorem bt_101_12 : mm_at mt_P 101 12 = some ((12, 3, .getfield 92, 9, 40, 0, 1257), 8, 2, 1, 9, 1, 0, 0) := rfl
theorem bt_101_15 : mm_at mt_P 101 15 = some ((15, 2, .iload 4, 0, 0, 0, 0), 8, 2, 1, 9, 1, 0, 0) := rfl
theorem bt_101_17 : mm_at mt_P 101 17 = some ((17, 1, .iaload, 0, 0, 0, 0), 8, 2, 1, 9, 1, 0, 0) := rfl
theorem bt_101_18 : mm_at mt_P 101 18 = some ((18, 2, .istore 5, 0, 0, 0, 0), 8, 2, 1, 9, 1, 0, 0) := rfl
theorem bt_101_20 : mm_at mt_P 101 20 = some ((20, 2, .iload 5, 0, 0, 0, 0), 8, 2, 1, 9, 1, 0, 0) := rfl
theorem bt_101_22 : mm_at mt_P 101 22 = some ((22, 1, .iconst 2, 0, 0, 0, 0), 8, 2, 1, 9, 1, 0, 0) := rfl
theorem bt_101_23 : mm_at mt_P 101 23 = some ((23, 3, .if_icmp .ge 42, 0, 0, 0, 0), 8, 2, 1, 9, 1, 0, 0) := rfl
theorem bt_101_26 : mm_at mt_P 101 26 = some ((26, 1, .aload_n 0, 0, 0, 0, 0), 8, 2, 1, 9, 1, 0, 0) := rfl
theorem bt_101_27 : mm_at mt_P 101 27 = some ((27, 3, .getfield 104, 9, 45, 0, 1262), 8, 2, 1, 9, 1, 0, 0) := rfl
theorem bt_101_30 : mm_at mt_P 101 30 = some ((30, 1, .iload_n 3, 0, 0, 0, 0), 8, 2, 1, 9, 1, 0, 0) := rfl
theorem bt_101_31 : mm_at mt_P 101 31 = some ((31, 2, .iload 5, 0, 0, 0, 0), 8, 2, 1, 9, 1, 0, 0) := rfl
theorem bt_101_33 : mm_at mt_P 101 33 = some ((33, 3, .ifCond .ne 13, 0, 0, 0, 0), 8, 2, 1, 9, 1, 0, 0) := rfl
theorem bt_101_36 : mm_at mt_P 101 36 = some ((36, 1, .aload_n 0, 0, 0, 0, 0), 8, 2, 1, 9, 1, 0, 0) := rfl
theorem bt_101_37 : mm_at mt_P 101 37 = some ((37, 3, .getfield 95, 9, 41, 0, 1258), 8, 2, 1, 9, 1, 0, 0) := rfl
theorem bt_101_40 : mm_at mt_P 101 40 = some ((40, 2, .iload 4, 0, 0, 0, 0), 8, 2, 1, 9, 1, 0, 0) := rfl
theorem bt_101_42 : mm_at mt_P 101 42 = some ((42, 1, .iaload, 0, 0, 0, 0), 8, 2, 1, 9, 1, 0, 0) := rfl
theorem bt_101_43 : mm_at mt_P 101 43 = some ((43, 3, .goto 15, 0, 0, 0, 0), 8, 2, 1, 9, 1, 0, 0) := rfl
theorem bt_101_46 : mm_at mt_P 101 46 = some ((46, 1, .aload_n 0, 0, 0, 0, 0), 8, 2, 1, 9, 1, 0, 0) := rfl
theorem bt_101_47 : mm_at mt_P 101 47 = some ((47, 3, .getfield 101, 9, 44, 0, 1261), 8, 2, 1, 9, 1, 0, 0) := rfl
theorem bt_101_50 : mm_at mt_P 101 50 = some ((50, 1, .aload_n 0, 0, 0, 0, 0), 8, 2, 1, 9, 1, 0, 0) := rfl
theorem bt_101_51 : mm_at mt_P 101 51 = some ((51, 3, .getfield 95, 9, 41, 0, 1258), 8, 2, 1, 9, 1, 0, 0) := rfl
theorem bt_101_54 : mm_at mt_P 101 54 = some ((54, 2, .iload 4, 0, 0, 0, 0), 8, 2, 1, 9, 1, 0, 0) := rfl
theorem bt_101_56 : mm_at mt_P 101 56 = some ((56, 1, .iaload, 0, 0, 0, 0), 8, 2, 1, 9, 1, 0, 0) := rfl
theorem bt_101_57 : mm_at mt_P 101 57 = some ((57, 1, .iaload, 0, 0, 0, 0), 8, 2, 1, 9, 1, 0, 0) := rfl
theorem bt_101_58 : mm_at mt_P 101 58 = some ((58, 1, .iastore, 0, 0, 0, 0), 8, 2, 1, 9, 1, 0, 0) := rfl
theorem bt_101_59 : mm_at mt_P 101 59 = some ((59, 3, .iinc 3 1, 0, 0, 0, 0), 8, 2, 1, 9, 1, 0, 0) := rfl
theorem bt_101_62 : mm_at mt_P 101 62 = some ((62, 3, .goto 97, 0, 0, 0, 0), 8, 2, 1, 9, 1, 0, 0) := rfl
theorem bt_101_65 : mm_at mt_P 101 65 = some ((65, 3, .iinc 3 (-1), 0, 0, 0, 0), 8, 2, 1, 9, 1, 0, 0) := rfl
theorem bt_101_68 : mm_at mt_P 101 68 = some ((68, 1, .aload_n 0, 0, 0, 0, 0), 8, 2, 1, 9, 1, 0, 0) := rfl
theorem bt_101_69 : mm_at mt_P 101 69 = some ((69, 3, .getfield 104, 9, 45, 0, 1262), 8, 2, 1, 9, 1, 0, 0) := rfl
theorem bt_101_72 : mm_at mt_P 101 72 = some ((72, 1, .iload_n 3, 0, 0, 0, 0), 8, 2, 1, 9, 1, 0, 0) := rfl
theorem bt_101_73 : mm_at mt_P 101 73 = some ((73, 1, .iconst 1, 0, 0, 0, 0), 8, 2, 1, 9, 1, 0, 0) := rfl
theorem bt_101_74 : mm_at mt_P 101 74 = some ((74, 1, .isub, 0, 0, 0, 0), 8, 2, 1, 9, 1, 0, 0) := rfl
theorem bt_101_75 : mm_at mt_P 101 75 = some ((75, 1, .iaload, 0, 0, 0, 0), 8, 2, 1, 9, 1, 0, 0) := rfl
theorem bt_101_76 : mm_at mt_P 101 76 = some ((76, 2, .istore 6, 0, 0, 0, 0), 8, 2, 1, 9, 1, 0, 0) := rfl
theorem bt_101_78 : mm_at mt_P 101 78 = some ((78, 1, .aload_n 0, 0, 0, 0, 0), 8, 2, 1, 9, 1, 0, 0) := rfl
theorem bt_101_79 : mm_at mt_P 101 79 = some ((79, 3, .getfield 104, 9, 45, 0, 1262), 8, 2, 1, 9, 1, 0, 0) := rfl
theorem bt_101_82 : mm_at mt_P 101 82 = some ((82, 1, .iload_n 3, 0, 0, 0, 0), 8, 2, 1, 9, 1, 0, 0) := rfl
theorem bt_101_83 : mm_at mt_P 101 83 = some ((83, 1, .iaload, 0, 0, 0, 0), 8, 2, 1, 9, 1, 0, 0) := rfl
theorem bt_101_84 : mm_at mt_P 101 84 = some ((84, 2, .istore 7, 0, 0, 0, 0), 8, 2, 1, 9, 1, 0, 0) := rfl
theorem bt_101_86 : mm_at mt_P 101 86 = some ((86, 2, .iload 5, 0, 0, 0, 0), 8, 2, 1, 9, 1, 0, 0) := rfl
theorem bt_101_88 : mm_at mt_P 101 88 = some ((88, 1, .iconst 5, 0, 0, 0, 0), 8, 2, 1, 9, 1, 0, 0) := rfl
theorem bt_101_89 : mm_at mt_P 101 89 = some ((89, 3, .if_icmp .ne 15, 0, 0, 0, 0), 8, 2, 1, 9, 1, 0, 0) := rfl
theorem bt_101_92 : mm_at mt_P 101 92 = some ((92, 2, .iload 7, 0, 0, 0, 0), 8, 2, 1, 9, 1, 0, 0) := rfl
theorem bt_101_94 : mm_at mt_P 101 94 = some ((94, 3, .ifCond .ne 10, 0, 0, 0, 0), 8, 2, 1, 9, 1, 0, 0) := rfl
theorem bt_101_97 : mm_at mt_P 101 97 = some ((97, 1, .aload_n 0, 0, 0, 0, 0), 8, 2, 1, 9, 1, 0, 0) := rfl
theorem bt_101_98 : mm_at mt_P 101 98 = some ((98, 1, .iconst 1, 0, 0, 0, 0), 8, 2, 1, 9, 1, 0, 0) := rfl
theorem bt_101_99 : mm_at mt_P 101 99 = some ((99, 3, .putfield 296, 9, 46, 0, 1263), 8, 2, 1, 9, 1, 0, 0) := rfl
theorem bt_101_102 : mm_at mt_P 101 102 = some ((102, 1, .iconst 0, 0, 0, 0, 0), 8, 2, 1, 9, 1, 0, 0) := rfl
theorem bt_101_103 : mm_at mt_P 101 103 = some ((103, 1, .ireturn, 0, 0, 0, 0), 8, 2, 1, 9, 1, 0, 0) := rfl
theorem bt_101_104 : mm_at mt_P 101 104 = some ((104, 1, .aload_n 0, 0, 0, 0, 0), 8, 2, 1, 9, 1, 0, 0) := rfl
theorem bt_101_105 : mm_at mt_P 101 105 = some ((105, 3, .getfield 104, 9, 45, 0, 1262), 8, 2, 1, 9, 1, 0, 0) := rfl
theorem bt_101_108 : mm_at mt_P 101 108 = some ((108, 1, .iload_n 3, 0, 0, 0, 0), 8, 2, 1, 9, 1, 0, 0) := rfl
theorem bt_101_109 : mm_at mt_P 101 109 = some ((109, 1, .iconst 1, 0, 0, 0, 0), 8, 2, 1, 9, 1, 0, 0) := rfl
theorem bt_101_110 : mm_at mt_P 101 110 = some ((110, 1, .isub, 0, 0, 0, 0), 8, 2, 1, 9, 1, 0, 0) := rfl
theorem bt_101_111 : mm_at mt_P 101 111 = some ((111, 2, .iload 5, 0, 0, 0, 0), 8, 2, 1, 9, 1, 0, 0) := rfl
theorem bt_101_113 : mm_at mt_P 101 113 = some ((113, 1, .iconst 2, 0, 0, 0, 0), 8, 2, 1, 9, 1, 0, 0) := rfl
theorem bt_101_114 : mm_at mt_P 101 114 = some ((114, 3, .if_icmp .ne 11, 0, 0, 0, 0), 8, 2, 1, 9, 1, 0, 0) := rfl
theorem bt_101_117 : mm_at mt_P 101 117 = some ((117, 2, .iload 6, 0, 0, 0, 0), 8, 2, 1, 9, 1, 0, 0) := rfl
theorem bt_101_119 : mm_at mt_P 101 119 = some ((119, 2, .iload 7, 0, 0, 0, 0), 8, 2, 1, 9, 1, 0, 0) := rfl
theorem bt_101_121 : mm_at mt_P 101 121 = some ((121, 1, .iadd, 0, 0, 0, 0), 8, 2, 1, 9, 1, 0, 0) := rfl
theorem bt_101_122 : mm_at mt_P 101 122 = some ((122, 3, .goto 36, 0, 0, 0, 0), 8, 2, 1, 9, 1, 0, 0) := rfl
theorem bt_101_125 : mm_at mt_P 101 125 = some ((125, 2, .iload 5, 0, 0, 0, 0), 8, 2, 1, 9, 1, 0, 0) := rfl
theorem bt_101_127 : mm_at mt_P 101 127 = some ((127, 1, .iconst 3, 0, 0, 0, 0), 8, 2, 1, 9, 1, 0, 0) := rfl
theorem bt_101_128 : mm_at mt_P 101 128 = some ((128, 3, .if_icmp .ne 11, 0, 0, 0, 0), 8, 2, 1, 9, 1, 0, 0) := rfl
theorem bt_101_131 : mm_at mt_P 101 131 = some ((131, 2, .iload 6, 0, 0, 0, 0), 8, 2, 1, 9, 1, 0, 0) := rfl
theorem bt_101_133 : mm_at mt_P 101 133 = some ((133, 2, .iload 7, 0, 0, 0, 0), 8, 2, 1, 9, 1, 0, 0) := rfl
theorem bt_101_135 : mm_at mt_P 101 135 = some ((135, 1, .isub, 0, 0, 0, 0), 8, 2, 1, 9, 1, 0, 0) := rfl
theorem bt_101_136 : mm_at mt_P 101 136 = some ((136, 3, .goto 22, 0, 0, 0, 0), 8, 2, 1, 9, 1, 0, 0) := rfl
theorem bt_101_139 : mm_at mt_P 101 139 = some ((139, 2, .iload 5, 0, 0, 0, 0), 8, 2, 1, 9, 1, 0, 0) := rfl
theorem bt_101_141 : mm_at mt_P 101 141 = some ((141, 1, .iconst 4, 0, 0, 0, 0), 8, 2, 1, 9, 1, 0, 0) := rfl
theorem bt_101_142 : mm_at mt_P 101 142 = some ((142, 3, .if_icmp .ne 11, 0, 0, 0, 0), 8, 2, 1, 9, 1, 0, 0) := rfl
theorem bt_101_145 : mm_at mt_P 101 145 = some ((145, 2, .iload 6, 0, 0, 0, 0), 8, 2, 1, 9, 1, 0, 0) := rfl
theorem bt_101_147 : mm_at mt_P 101 147 = some ((147, 2, .iload 7, 0, 0, 0, 0), 8, 2, 1, 9, 1, 0, 0) := rfl
theorem bt_101_149 : mm_at mt_P 101 149 = some ((149, 1, .imul, 0, 0, 0, 0), 8, 2, 1, 9, 1, 0, 0) := rfl
theorem bt_101_150 : mm_at mt_P 101 150 = some ((150, 3, .goto 8, 0, 0, 0, 0), 8, 2, 1, 9, 1, 0, 0) := rfl
theorem bt_101_153 : mm_at mt_P 101 153 = some ((153, 2, .iload 6, 0, 0, 0, 0), 8, 2, 1, 9, 1, 0, 0) := rfl
theorem bt_101_155 : mm_at mt_P 101 155 = some ((155, 2, .iload 7, 0, 0, 0, 0), 8, 2, 1, 9, 1, 0, 0) := rfl
theorem bt_101_157 : mm_at mt_P 101 157 = some ((157, 1, .idiv, 0, 0, 0, 0), 8, 2, 1, 9, 1, 0, 0) := rfl
theorem bt_101_158 : mm_at mt_P 101 158 = some ((158, 1, .iastore, 0, 0, 0, 0), 8, 2, 1, 9, 1, 0, 0) := rfl
theorem bt_101_159 : mm_at mt_P 101 159 = some ((159, 3, .iinc 4 1, 0, 0, 0, 0), 8, 2, 1, 9, 1, 0, 0) := rfl
theorem bt_101_162 : mm_at mt_P 101 162 = some ((162, 3, .goto (-157), 0, 0, 0, 0), 8, 2, 1, 9, 1, 0, 0) := rfl
theorem bt_101_165 : mm_at mt_P 101 165 = some ((165, 1, .aload_n 0, 0, 0, 0, 0), 8, 2, 1, 9, 1, 0, 0) := rfl
theorem bt_101_166 : mm_at mt_P 101 166 = some ((166, 3, .getfield 104, 9, 45, 0, 1262), 8, 2, 1, 9, 1, 0, 0) := rfl
theorem bt_101_169 : mm_at mt_P 101 169 = some ((169, 1, .iconst 0, 0, 0, 0, 0), 8, 2, 1, 9, 1, 0, 0) := rfl
theorem bt_101_170 : mm_at mt_P 101 170 = some ((170, 1, .iaload, 0, 0, 0, 0), 8, 2, 1, 9, 1, 0, 0) := rfl
theorem bt_101_171 : mm_at mt_P 101 171 = some ((171, 1, .ireturn, 0, 0, 0, 0), 8, 2, 1, 9, 1, 0, 0) := rfl
section BX
variable {E : mm_E} {FIN : mm_C → Prop} {h0 h : mm_H} {s : Nat → Int32} {A : Nat → Nat → Int32} {L : Nat → Nat → Int64} {gs : List mm_F}
set_option maxHeartbeats 40000000 in
theorem rd_term {u v : Int32} {A0 : Nat → Nat → Int32} {lo hi : Nat} (hhi : hi ≤ 840) (hW : rd_W A0 lo hi u v) (hb0 : 0 ≤ (s 46).toInt) (hb1 : (s 46).toInt ≤ 1) : ∀ N : Nat, ∀ (h : mm_H) (A : Nat → Nat → Int32) (lv : mm_V) (o : Option Value) (d c : Int32) (_ : Unit), bh_P be_T E h0 h s A L → mm_get lv 0 = some (.ref (E.1 + 88)) → mm_get lv 1 = some (.int u) → mm_get lv 2 = some (.int v) → mm_get lv 3 = some (.int d) → mm_get lv 4 = some (.int c) → (∀ k j, k ≠ 117 → A k j = A0 k j) → u.toInt ≤ c.toInt → 0 ≤ d.toInt → v.toInt - c.toInt < N → rd_pf (A0 113) (A0 114) u.toInt.toNat (c.toInt.toNat - u.toInt.toNat) d.toInt.toNat → (∀ (h' : mm_H) (s' : Nat → Int32) (A' : Nat → Nat → Int32) (r : Int32), bh_P be_T E h0 h' s' A' L → (∀ j, j ≠ 46 → s' j = s j) → (0 ≤ (s' 46).toInt ∧ (s' 46).toInt ≤ 1) → (∀ k j, k ≠ 117 → A' k j = A0 k j) → bh_G E FIN (mm_back (some (.int r)) gs h')) → bh_G E FIN ((101, 5, lv, [], 0, 0) :: gs, h, o) := by
  intro N
  induction N with
  | zero =>
    intro h A lv o d c _ hP g0 g1 g2 g3 g4 x uc d0 hN hpf kk
    refine bh_ld (pc' := 7) bt_101_5 rfl rfl (fun _ _ _ => rfl) g4 rfl ?_
    refine bh_ld (pc' := 8) bt_101_7 rfl rfl (fun _ _ _ => rfl) g2 rfl ?_
    refine bh_ic (pc' := 11) (pt := 165) bt_101_8 rfl rfl (fun k3961 => ?_) (fun k3961 => ?_)
    · replace k3961 : (v).toInt ≤ (c).toInt := k3961
      refine bh_ld (pc' := 166) bt_101_165 rfl rfl (fun _ _ _ => rfl) g0 rfl ?_
      refine bh_gr (pc' := 169) (c := 117) bt_101_166 rfl rfl (fun _ _ _ => rfl) hP be_r45 ?_
      refine bh_c (pc' := 170) (n := 0) bt_101_169 rfl rfl (fun _ _ _ => rfl) (by decide) (fun c3962 e3963 => ?_)
      refine bh_ia (pc' := 171) bt_101_170 rfl rfl (fun _ _ _ => rfl) hP be_a117 (Or.inl rfl) (by omega) (by omega) ?_
      refine bh_ri bt_101_171 ?_
      exact kk _ _ _ _ hP (fun j j46 => rfl) (by omega) (fun k j w => (x k j w))
    · replace k3961 : ¬ ((v).toInt ≤ (c).toInt) := k3961
      exfalso
      omega
  | succ N ih =>
    intro h A lv o d c _ hP g0 g1 g2 g3 g4 x uc d0 hN hpf kk
    refine bh_ld (pc' := 7) bt_101_5 rfl rfl (fun _ _ _ => rfl) g4 rfl ?_
    refine bh_ld (pc' := 8) bt_101_7 rfl rfl (fun _ _ _ => rfl) g2 rfl ?_
    refine bh_ic (pc' := 11) (pt := 165) bt_101_8 rfl rfl (fun k3964 => ?_) (fun k3964 => ?_)
    · replace k3964 : (v).toInt ≤ (c).toInt := k3964
      refine bh_ld (pc' := 166) bt_101_165 rfl rfl (fun _ _ _ => rfl) g0 rfl ?_
      refine bh_gr (pc' := 169) (c := 117) bt_101_166 rfl rfl (fun _ _ _ => rfl) hP be_r45 ?_
      refine bh_c (pc' := 170) (n := 0) bt_101_169 rfl rfl (fun _ _ _ => rfl) (by decide) (fun c3965 e3966 => ?_)
      refine bh_ia (pc' := 171) bt_101_170 rfl rfl (fun _ _ _ => rfl) hP be_a117 (Or.inl rfl) (by omega) (by omega) ?_
      refine bh_ri bt_101_171 ?_
      exact kk _ _ _ _ hP (fun j j46 => rfl) (by omega) (fun k j w => (x k j w))
    · replace k3964 : ¬ ((v).toInt ≤ (c).toInt) := k3964
      obtain ⟨d2, hd2, hn, hd4⟩ := rd_pf_next hW.2.2.2 (m := c.toInt.toNat - u.toInt.toNat) (by have := hW.1; have := hW.2.1; omega) hpf
      rw [show u.toInt.toNat + (c.toInt.toNat - u.toInt.toNat) = c.toInt.toNat by have := hW.1; omega] at hn
      have r1 := congrArg Int32.toInt (x 113 c.toInt.toNat (by decide))
      have r2 := congrArg Int32.toInt (x 114 c.toInt.toNat (by decide))
      have hW1 := hW.1
      have hW2 := hW.2.1
      have hW3 := hW.2.2.1
      refine bh_ld (pc' := 12) bt_101_11 rfl rfl (fun _ _ _ => rfl) g0 rfl ?_
      refine bh_gr (pc' := 15) (c := 113) bt_101_12 rfl rfl (fun _ _ _ => rfl) hP be_r40 ?_
      refine bh_ld (pc' := 17) bt_101_15 rfl rfl (fun _ _ _ => rfl) g4 rfl ?_
      refine bh_ia (pc' := 18) bt_101_17 rfl rfl (fun _ _ _ => rfl) hP be_a113 (Or.inl rfl) (by omega) (by omega) ?_
      refine bh_st (pc' := 20) bt_101_18 rfl rfl (fun _ _ _ => rfl) rfl (by decide) (by decide) (fun lv3967 F3968 g3969 => ?_)
      have g3970 := F3968 0 (.ref (E.1 + 88)) g0 (by decide) (Or.inl rfl)
      have g3971 := F3968 1 (.int u) g1 (by decide) (Or.inl rfl)
      have g3972 := F3968 2 (.int v) g2 (by decide) (Or.inl rfl)
      have g3973 := F3968 3 (.int d) g3 (by decide) (Or.inl rfl)
      have g3974 := F3968 4 (.int c) g4 (by decide) (Or.inl rfl)
      refine bh_ld (pc' := 22) bt_101_20 rfl rfl (fun _ _ _ => rfl) g3969 rfl ?_
      refine bh_c (pc' := 23) (n := 2) bt_101_22 rfl rfl (fun _ _ _ => rfl) (by decide) (fun c3975 e3976 => ?_)
      refine bh_ic (pc' := 26) (pt := 65) bt_101_23 rfl rfl (fun k3977 => ?_) (fun k3977 => ?_)
      · replace k3977 : (c3975).toInt ≤ ((A 113 (c).toInt.toNat)).toInt := k3977
        refine bh_inc (pc' := 68) bt_101_65 rfl (by decide) g3973 (by decide) (by omega) (by omega) (fun lv3978 y3981 F3979 g3980 e3982 => ?_)
        have g3983 := F3979 0 (.ref (E.1 + 88)) g3970 (by decide) (Or.inl rfl)
        have g3984 := F3979 1 (.int u) g3971 (by decide) (Or.inl rfl)
        have g3985 := F3979 2 (.int v) g3972 (by decide) (Or.inl rfl)
        have g3986 := F3979 4 (.int c) g3974 (by decide) (Or.inl rfl)
        have g3987 := F3979 5 (.int (A 113 (c).toInt.toNat)) g3969 (by decide) (Or.inl rfl)
        refine bh_ld (pc' := 69) bt_101_68 rfl rfl (fun _ _ _ => rfl) g3983 rfl ?_
        refine bh_gr (pc' := 72) (c := 117) bt_101_69 rfl rfl (fun _ _ _ => rfl) hP be_r45 ?_
        refine bh_ld (pc' := 73) bt_101_72 rfl rfl (fun _ _ _ => rfl) g3980 rfl ?_
        refine bh_c (pc' := 74) (n := 1) bt_101_73 rfl rfl (fun _ _ _ => rfl) (by decide) (fun c3988 e3989 => ?_)
        refine bh_sub (pc' := 75) bt_101_74 rfl (by omega) (by omega) (fun v3990 e3991 => ?_)
        refine bh_ia (pc' := 76) bt_101_75 rfl rfl (fun _ _ _ => rfl) hP be_a117 (Or.inl rfl) (by omega) (by omega) ?_
        refine bh_st (pc' := 78) bt_101_76 rfl rfl (fun _ _ _ => rfl) rfl (by decide) (by decide) (fun lv3992 F3993 g3994 => ?_)
        have g3995 := F3993 0 (.ref (E.1 + 88)) g3983 (by decide) (Or.inl rfl)
        have g3996 := F3993 1 (.int u) g3984 (by decide) (Or.inl rfl)
        have g3997 := F3993 2 (.int v) g3985 (by decide) (Or.inl rfl)
        have g3998 := F3993 4 (.int c) g3986 (by decide) (Or.inl rfl)
        have g3999 := F3993 5 (.int (A 113 (c).toInt.toNat)) g3987 (by decide) (Or.inl rfl)
        have g4000 := F3993 3 (.int y3981) g3980 (by decide) (Or.inl rfl)
        refine bh_ld (pc' := 79) bt_101_78 rfl rfl (fun _ _ _ => rfl) g3995 rfl ?_
        refine bh_gr (pc' := 82) (c := 117) bt_101_79 rfl rfl (fun _ _ _ => rfl) hP be_r45 ?_
        refine bh_ld (pc' := 83) bt_101_82 rfl rfl (fun _ _ _ => rfl) g4000 rfl ?_
        refine bh_ia (pc' := 84) bt_101_83 rfl rfl (fun _ _ _ => rfl) hP be_a117 (Or.inl rfl) (by omega) (by omega) ?_
        refine bh_st (pc' := 86) bt_101_84 rfl rfl (fun _ _ _ => rfl) rfl (by decide) (by decide) (fun lv4001 F4002 g4003 => ?_)
        have g4004 := F4002 0 (.ref (E.1 + 88)) g3995 (by decide) (Or.inl rfl)
        have g4005 := F4002 1 (.int u) g3996 (by decide) (Or.inl rfl)
        have g4006 := F4002 2 (.int v) g3997 (by decide) (Or.inl rfl)
        have g4007 := F4002 4 (.int c) g3998 (by decide) (Or.inl rfl)
        have g4008 := F4002 5 (.int (A 113 (c).toInt.toNat)) g3999 (by decide) (Or.inl rfl)
        have g4009 := F4002 3 (.int y3981) g4000 (by decide) (Or.inl rfl)
        have g4010 := F4002 6 (.int (A 117 (v3990).toInt.toNat)) g3994 (by decide) (Or.inl rfl)
        refine bh_ld (pc' := 88) bt_101_86 rfl rfl (fun _ _ _ => rfl) g4008 rfl ?_
        refine bh_c (pc' := 89) (n := 5) bt_101_88 rfl rfl (fun _ _ _ => rfl) (by decide) (fun c4011 e4012 => ?_)
        refine bh_ic (pc' := 92) (pt := 104) bt_101_89 rfl rfl (fun k4013 => ?_) (fun k4013 => ?_)
        · replace k4013 : ((A 113 (c).toInt.toNat)).toInt ≠ (c4011).toInt := k4013
          refine bh_ld (pc' := 105) bt_101_104 rfl rfl (fun _ _ _ => rfl) g4004 rfl ?_
          refine bh_gr (pc' := 108) (c := 117) bt_101_105 rfl rfl (fun _ _ _ => rfl) hP be_r45 ?_
          refine bh_ld (pc' := 109) bt_101_108 rfl rfl (fun _ _ _ => rfl) g4009 rfl ?_
          refine bh_c (pc' := 110) (n := 1) bt_101_109 rfl rfl (fun _ _ _ => rfl) (by decide) (fun c4014 e4015 => ?_)
          refine bh_sub (pc' := 111) bt_101_110 rfl (by omega) (by omega) (fun v4016 e4017 => ?_)
          refine bh_ld (pc' := 113) bt_101_111 rfl rfl (fun _ _ _ => rfl) g4008 rfl ?_
          refine bh_c (pc' := 114) (n := 2) bt_101_113 rfl rfl (fun _ _ _ => rfl) (by decide) (fun c4018 e4019 => ?_)
          refine bh_ic (pc' := 117) (pt := 125) bt_101_114 rfl rfl (fun k4020 => ?_) (fun k4020 => ?_)
          · replace k4020 : ((A 113 (c).toInt.toNat)).toInt ≠ (c4018).toInt := k4020
            refine bh_ld (pc' := 127) bt_101_125 rfl rfl (fun _ _ _ => rfl) g4008 rfl ?_
            refine bh_c (pc' := 128) (n := 3) bt_101_127 rfl rfl (fun _ _ _ => rfl) (by decide) (fun c4021 e4022 => ?_)
            refine bh_ic (pc' := 131) (pt := 139) bt_101_128 rfl rfl (fun k4023 => ?_) (fun k4023 => ?_)
            · replace k4023 : ((A 113 (c).toInt.toNat)).toInt ≠ (c4021).toInt := k4023
              refine bh_ld (pc' := 141) bt_101_139 rfl rfl (fun _ _ _ => rfl) g4008 rfl ?_
              refine bh_c (pc' := 142) (n := 4) bt_101_141 rfl rfl (fun _ _ _ => rfl) (by decide) (fun c4024 e4025 => ?_)
              refine bh_ic (pc' := 145) (pt := 153) bt_101_142 rfl rfl (fun k4026 => ?_) (fun k4026 => ?_)
              · replace k4026 : ((A 113 (c).toInt.toNat)).toInt ≠ (c4024).toInt := k4026
                refine bh_ld (pc' := 155) bt_101_153 rfl rfl (fun _ _ _ => rfl) g4010 rfl ?_
                refine bh_ld (pc' := 157) bt_101_155 rfl rfl (fun _ _ _ => rfl) g4003 rfl ?_
                refine bh_divA (pc' := 158) bt_101_157 rfl (by omega) (fun v4027 => ?_)
                refine bh_ias (pc' := 159) bt_101_158 rfl rfl (fun _ _ _ => rfl) hP be_a117 (Or.inl rfl) (by omega) (by omega) (fun h4029 hP4030 => ?_)
                refine bh_inc (pc' := 162) bt_101_159 rfl (by decide) g4007 (by decide) (by omega) (by omega) (fun lv4031 y4034 F4032 g4033 e4035 => ?_)
                have g4036 := F4032 0 (.ref (E.1 + 88)) g4004 (by decide) (Or.inl rfl)
                have g4037 := F4032 1 (.int u) g4005 (by decide) (Or.inl rfl)
                have g4038 := F4032 2 (.int v) g4006 (by decide) (Or.inl rfl)
                have g4039 := F4032 5 (.int (A 113 (c).toInt.toNat)) g4008 (by decide) (Or.inl rfl)
                have g4040 := F4032 3 (.int y3981) g4009 (by decide) (Or.inl rfl)
                have g4041 := F4032 6 (.int (A 117 (v3990).toInt.toNat)) g4010 (by decide) (Or.inl rfl)
                have g4042 := F4032 7 (.int (A 117 (y3981).toInt.toNat)) g4003 (by decide) (Or.inl rfl)
                refine bh_go (pc' := 5) bt_101_162 rfl ?_
                exact ih _ _ _ _ _ _ () hP4030 g4036 g4037 g4038 g4040 g4033 (fun k j w => ((bh_up_o (by omega)).trans (x k j w))) (by omega) (by omega) (by omega) (by rw [show (y4034).toInt.toNat - u.toInt.toNat = c.toInt.toNat - u.toInt.toNat + 1 by omega, show (y3981).toInt.toNat = d2 by omega]; exact hd2) kk
              · replace k4026 : ¬ (((A 113 (c).toInt.toNat)).toInt ≠ (c4024).toInt) := k4026
                refine bh_ld (pc' := 147) bt_101_145 rfl rfl (fun _ _ _ => rfl) g4010 rfl ?_
                refine bh_ld (pc' := 149) bt_101_147 rfl rfl (fun _ _ _ => rfl) g4003 rfl ?_
                refine bh_mulA (pc' := 150) bt_101_149 rfl (fun v4043 => ?_)
                refine bh_go (pc' := 158) bt_101_150 rfl ?_
                refine bh_ias (pc' := 159) bt_101_158 rfl rfl (fun _ _ _ => rfl) hP be_a117 (Or.inl rfl) (by omega) (by omega) (fun h4045 hP4046 => ?_)
                refine bh_inc (pc' := 162) bt_101_159 rfl (by decide) g4007 (by decide) (by omega) (by omega) (fun lv4047 y4050 F4048 g4049 e4051 => ?_)
                have g4052 := F4048 0 (.ref (E.1 + 88)) g4004 (by decide) (Or.inl rfl)
                have g4053 := F4048 1 (.int u) g4005 (by decide) (Or.inl rfl)
                have g4054 := F4048 2 (.int v) g4006 (by decide) (Or.inl rfl)
                have g4055 := F4048 5 (.int (A 113 (c).toInt.toNat)) g4008 (by decide) (Or.inl rfl)
                have g4056 := F4048 3 (.int y3981) g4009 (by decide) (Or.inl rfl)
                have g4057 := F4048 6 (.int (A 117 (v3990).toInt.toNat)) g4010 (by decide) (Or.inl rfl)
                have g4058 := F4048 7 (.int (A 117 (y3981).toInt.toNat)) g4003 (by decide) (Or.inl rfl)
                refine bh_go (pc' := 5) bt_101_162 rfl ?_
                exact ih _ _ _ _ _ _ () hP4046 g4052 g4053 g4054 g4056 g4049 (fun k j w => ((bh_up_o (by omega)).trans (x k j w))) (by omega) (by omega) (by omega) (by rw [show (y4050).toInt.toNat - u.toInt.toNat = c.toInt.toNat - u.toInt.toNat + 1 by omega, show (y3981).toInt.toNat = d2 by omega]; exact hd2) kk
            · replace k4023 : ¬ (((A 113 (c).toInt.toNat)).toInt ≠ (c4021).toInt) := k4023
              refine bh_ld (pc' := 133) bt_101_131 rfl rfl (fun _ _ _ => rfl) g4010 rfl ?_
              refine bh_ld (pc' := 135) bt_101_133 rfl rfl (fun _ _ _ => rfl) g4003 rfl ?_
              refine bh_subA (pc' := 136) bt_101_135 rfl (fun v4059 => ?_)
              refine bh_go (pc' := 158) bt_101_136 rfl ?_
              refine bh_ias (pc' := 159) bt_101_158 rfl rfl (fun _ _ _ => rfl) hP be_a117 (Or.inl rfl) (by omega) (by omega) (fun h4061 hP4062 => ?_)
              refine bh_inc (pc' := 162) bt_101_159 rfl (by decide) g4007 (by decide) (by omega) (by omega) (fun lv4063 y4066 F4064 g4065 e4067 => ?_)
              have g4068 := F4064 0 (.ref (E.1 + 88)) g4004 (by decide) (Or.inl rfl)
              have g4069 := F4064 1 (.int u) g4005 (by decide) (Or.inl rfl)
              have g4070 := F4064 2 (.int v) g4006 (by decide) (Or.inl rfl)
              have g4071 := F4064 5 (.int (A 113 (c).toInt.toNat)) g4008 (by decide) (Or.inl rfl)
              have g4072 := F4064 3 (.int y3981) g4009 (by decide) (Or.inl rfl)
              have g4073 := F4064 6 (.int (A 117 (v3990).toInt.toNat)) g4010 (by decide) (Or.inl rfl)
              have g4074 := F4064 7 (.int (A 117 (y3981).toInt.toNat)) g4003 (by decide) (Or.inl rfl)
              refine bh_go (pc' := 5) bt_101_162 rfl ?_
              exact ih _ _ _ _ _ _ () hP4062 g4068 g4069 g4070 g4072 g4065 (fun k j w => ((bh_up_o (by omega)).trans (x k j w))) (by omega) (by omega) (by omega) (by rw [show (y4066).toInt.toNat - u.toInt.toNat = c.toInt.toNat - u.toInt.toNat + 1 by omega, show (y3981).toInt.toNat = d2 by omega]; exact hd2) kk
          · replace k4020 : ¬ (((A 113 (c).toInt.toNat)).toInt ≠ (c4018).toInt) := k4020
            refine bh_ld (pc' := 119) bt_101_117 rfl rfl (fun _ _ _ => rfl) g4010 rfl ?_
            refine bh_ld (pc' := 121) bt_101_119 rfl rfl (fun _ _ _ => rfl) g4003 rfl ?_
            refine bh_addA (pc' := 122) bt_101_121 rfl (fun v4075 => ?_)
            refine bh_go (pc' := 158) bt_101_122 rfl ?_
            refine bh_ias (pc' := 159) bt_101_158 rfl rfl (fun _ _ _ => rfl) hP be_a117 (Or.inl rfl) (by omega) (by omega) (fun h4077 hP4078 => ?_)
            refine bh_inc (pc' := 162) bt_101_159 rfl (by decide) g4007 (by decide) (by omega) (by omega) (fun lv4079 y4082 F4080 g4081 e4083 => ?_)
            have g4084 := F4080 0 (.ref (E.1 + 88)) g4004 (by decide) (Or.inl rfl)
            have g4085 := F4080 1 (.int u) g4005 (by decide) (Or.inl rfl)
            have g4086 := F4080 2 (.int v) g4006 (by decide) (Or.inl rfl)
            have g4087 := F4080 5 (.int (A 113 (c).toInt.toNat)) g4008 (by decide) (Or.inl rfl)
            have g4088 := F4080 3 (.int y3981) g4009 (by decide) (Or.inl rfl)
            have g4089 := F4080 6 (.int (A 117 (v3990).toInt.toNat)) g4010 (by decide) (Or.inl rfl)
            have g4090 := F4080 7 (.int (A 117 (y3981).toInt.toNat)) g4003 (by decide) (Or.inl rfl)
            refine bh_go (pc' := 5) bt_101_162 rfl ?_
            exact ih _ _ _ _ _ _ () hP4078 g4084 g4085 g4086 g4088 g4081 (fun k j w => ((bh_up_o (by omega)).trans (x k j w))) (by omega) (by omega) (by omega) (by rw [show (y4082).toInt.toNat - u.toInt.toNat = c.toInt.toNat - u.toInt.toNat + 1 by omega, show (y3981).toInt.toNat = d2 by omega]; exact hd2) kk
        · replace k4013 : ¬ (((A 113 (c).toInt.toNat)).toInt ≠ (c4011).toInt) := k4013
          refine bh_ld (pc' := 94) bt_101_92 rfl rfl (fun _ _ _ => rfl) g4003 rfl ?_
          refine bh_i0 (pc' := 97) (pt := 104) bt_101_94 rfl rfl (fun k4091 => ?_) (fun k4091 => ?_)
          · replace k4091 : ((A 117 (y3981).toInt.toNat)).toInt ≠ 0 := k4091
            refine bh_ld (pc' := 105) bt_101_104 rfl rfl (fun _ _ _ => rfl) g4004 rfl ?_
            refine bh_gr (pc' := 108) (c := 117) bt_101_105 rfl rfl (fun _ _ _ => rfl) hP be_r45 ?_
            refine bh_ld (pc' := 109) bt_101_108 rfl rfl (fun _ _ _ => rfl) g4009 rfl ?_
            refine bh_c (pc' := 110) (n := 1) bt_101_109 rfl rfl (fun _ _ _ => rfl) (by decide) (fun c4092 e4093 => ?_)
            refine bh_sub (pc' := 111) bt_101_110 rfl (by omega) (by omega) (fun v4094 e4095 => ?_)
            refine bh_ld (pc' := 113) bt_101_111 rfl rfl (fun _ _ _ => rfl) g4008 rfl ?_
            refine bh_c (pc' := 114) (n := 2) bt_101_113 rfl rfl (fun _ _ _ => rfl) (by decide) (fun c4096 e4097 => ?_)
            refine bh_ic (pc' := 117) (pt := 125) bt_101_114 rfl rfl (fun k4098 => ?_) (fun k4098 => ?_)
            · replace k4098 : ((A 113 (c).toInt.toNat)).toInt ≠ (c4096).toInt := k4098
              refine bh_ld (pc' := 127) bt_101_125 rfl rfl (fun _ _ _ => rfl) g4008 rfl ?_
              refine bh_c (pc' := 128) (n := 3) bt_101_127 rfl rfl (fun _ _ _ => rfl) (by decide) (fun c4099 e4100 => ?_)
              refine bh_ic (pc' := 131) (pt := 139) bt_101_128 rfl rfl (fun k4101 => ?_) (fun k4101 => ?_)
              · replace k4101 : ((A 113 (c).toInt.toNat)).toInt ≠ (c4099).toInt := k4101
                refine bh_ld (pc' := 141) bt_101_139 rfl rfl (fun _ _ _ => rfl) g4008 rfl ?_
                refine bh_c (pc' := 142) (n := 4) bt_101_141 rfl rfl (fun _ _ _ => rfl) (by decide) (fun c4102 e4103 => ?_)
                refine bh_ic (pc' := 145) (pt := 153) bt_101_142 rfl rfl (fun k4104 => ?_) (fun k4104 => ?_)
                · replace k4104 : ((A 113 (c).toInt.toNat)).toInt ≠ (c4102).toInt := k4104
                  refine bh_ld (pc' := 155) bt_101_153 rfl rfl (fun _ _ _ => rfl) g4010 rfl ?_
                  refine bh_ld (pc' := 157) bt_101_155 rfl rfl (fun _ _ _ => rfl) g4003 rfl ?_
                  refine bh_divA (pc' := 158) bt_101_157 rfl (by omega) (fun v4105 => ?_)
                  refine bh_ias (pc' := 159) bt_101_158 rfl rfl (fun _ _ _ => rfl) hP be_a117 (Or.inl rfl) (by omega) (by omega) (fun h4107 hP4108 => ?_)
                  refine bh_inc (pc' := 162) bt_101_159 rfl (by decide) g4007 (by decide) (by omega) (by omega) (fun lv4109 y4112 F4110 g4111 e4113 => ?_)
                  have g4114 := F4110 0 (.ref (E.1 + 88)) g4004 (by decide) (Or.inl rfl)
                  have g4115 := F4110 1 (.int u) g4005 (by decide) (Or.inl rfl)
                  have g4116 := F4110 2 (.int v) g4006 (by decide) (Or.inl rfl)
                  have g4117 := F4110 5 (.int (A 113 (c).toInt.toNat)) g4008 (by decide) (Or.inl rfl)
                  have g4118 := F4110 3 (.int y3981) g4009 (by decide) (Or.inl rfl)
                  have g4119 := F4110 6 (.int (A 117 (v3990).toInt.toNat)) g4010 (by decide) (Or.inl rfl)
                  have g4120 := F4110 7 (.int (A 117 (y3981).toInt.toNat)) g4003 (by decide) (Or.inl rfl)
                  refine bh_go (pc' := 5) bt_101_162 rfl ?_
                  exact ih _ _ _ _ _ _ () hP4108 g4114 g4115 g4116 g4118 g4111 (fun k j w => ((bh_up_o (by omega)).trans (x k j w))) (by omega) (by omega) (by omega) (by rw [show (y4112).toInt.toNat - u.toInt.toNat = c.toInt.toNat - u.toInt.toNat + 1 by omega, show (y3981).toInt.toNat = d2 by omega]; exact hd2) kk
                · replace k4104 : ¬ (((A 113 (c).toInt.toNat)).toInt ≠ (c4102).toInt) := k4104
                  omega
              · replace k4101 : ¬ (((A 113 (c).toInt.toNat)).toInt ≠ (c4099).toInt) := k4101
                omega
            · replace k4098 : ¬ (((A 113 (c).toInt.toNat)).toInt ≠ (c4096).toInt) := k4098
              omega
          · replace k4091 : ¬ (((A 117 (y3981).toInt.toNat)).toInt ≠ 0) := k4091
            refine bh_ld (pc' := 98) bt_101_97 rfl rfl (fun _ _ _ => rfl) g4004 rfl ?_
            refine bh_c (pc' := 99) (n := 1) bt_101_98 rfl rfl (fun _ _ _ => rfl) (by decide) (fun c4121 e4122 => ?_)
            refine bh_pf (pc' := 102) bt_101_99 rfl rfl (fun _ _ _ => rfl) hP be_i46 (by rw [show c4121 = 1 from Int32.toInt_inj.mp (by rw [e4122]; rfl)]; rfl) (fun h4123 s4124 hP4125 e4126 f4127 => ?_)
            refine bh_c (pc' := 103) (n := 0) bt_101_102 rfl rfl (fun _ _ _ => rfl) (by decide) (fun c4128 e4129 => ?_)
            refine bh_ri bt_101_103 ?_
            have z46 := congrArg Int32.toInt e4126
            exact kk _ _ _ _ hP4125 (fun j j46 => (f4127 j j46)) (by omega) (fun k j w => (x k j w))
      · replace k3977 : ¬ ((c3975).toInt ≤ ((A 113 (c).toInt.toNat)).toInt) := k3977
        refine bh_ld (pc' := 27) bt_101_26 rfl rfl (fun _ _ _ => rfl) g3970 rfl ?_
        refine bh_gr (pc' := 30) (c := 117) bt_101_27 rfl rfl (fun _ _ _ => rfl) hP be_r45 ?_
        refine bh_ld (pc' := 31) bt_101_30 rfl rfl (fun _ _ _ => rfl) g3973 rfl ?_
        refine bh_ld (pc' := 33) bt_101_31 rfl rfl (fun _ _ _ => rfl) g3969 rfl ?_
        refine bh_i0 (pc' := 36) (pt := 46) bt_101_33 rfl rfl (fun k4130 => ?_) (fun k4130 => ?_)
        · replace k4130 : ((A 113 (c).toInt.toNat)).toInt ≠ 0 := k4130
          refine bh_ld (pc' := 47) bt_101_46 rfl rfl (fun _ _ _ => rfl) g3970 rfl ?_
          refine bh_gr (pc' := 50) (c := 116) bt_101_47 rfl rfl (fun _ _ _ => rfl) hP be_r44 ?_
          refine bh_ld (pc' := 51) bt_101_50 rfl rfl (fun _ _ _ => rfl) g3970 rfl ?_
          refine bh_gr (pc' := 54) (c := 114) bt_101_51 rfl rfl (fun _ _ _ => rfl) hP be_r41 ?_
          refine bh_ld (pc' := 56) bt_101_54 rfl rfl (fun _ _ _ => rfl) g3974 rfl ?_
          refine bh_ia (pc' := 57) bt_101_56 rfl rfl (fun _ _ _ => rfl) hP be_a114 (Or.inl rfl) (by omega) (by omega) ?_
          refine bh_ia (pc' := 58) bt_101_57 rfl rfl (fun _ _ _ => rfl) hP be_a116 (Or.inl rfl) (by omega) (by omega) ?_
          refine bh_ias (pc' := 59) bt_101_58 rfl rfl (fun _ _ _ => rfl) hP be_a117 (Or.inl rfl) (by omega) (by omega) (fun h4131 hP4132 => ?_)
          refine bh_inc (pc' := 62) bt_101_59 rfl (by decide) g3973 (by decide) (by omega) (by omega) (fun lv4133 y4136 F4134 g4135 e4137 => ?_)
          have g4138 := F4134 0 (.ref (E.1 + 88)) g3970 (by decide) (Or.inl rfl)
          have g4139 := F4134 1 (.int u) g3971 (by decide) (Or.inl rfl)
          have g4140 := F4134 2 (.int v) g3972 (by decide) (Or.inl rfl)
          have g4141 := F4134 4 (.int c) g3974 (by decide) (Or.inl rfl)
          have g4142 := F4134 5 (.int (A 113 (c).toInt.toNat)) g3969 (by decide) (Or.inl rfl)
          refine bh_go (pc' := 159) bt_101_62 rfl ?_
          refine bh_inc (pc' := 162) bt_101_159 rfl (by decide) g4141 (by decide) (by omega) (by omega) (fun lv4143 y4146 F4144 g4145 e4147 => ?_)
          have g4148 := F4144 0 (.ref (E.1 + 88)) g4138 (by decide) (Or.inl rfl)
          have g4149 := F4144 1 (.int u) g4139 (by decide) (Or.inl rfl)
          have g4150 := F4144 2 (.int v) g4140 (by decide) (Or.inl rfl)
          have g4151 := F4144 5 (.int (A 113 (c).toInt.toNat)) g4142 (by decide) (Or.inl rfl)
          have g4152 := F4144 3 (.int y4136) g4135 (by decide) (Or.inl rfl)
          refine bh_go (pc' := 5) bt_101_162 rfl ?_
          exact ih _ _ _ _ _ _ () hP4132 g4148 g4149 g4150 g4152 g4145 (fun k j w => ((bh_up_o (by omega)).trans (x k j w))) (by omega) (by omega) (by omega) (by rw [show (y4146).toInt.toNat - u.toInt.toNat = c.toInt.toNat - u.toInt.toNat + 1 by omega, show (y4136).toInt.toNat = d2 by omega]; exact hd2) kk
        · replace k4130 : ¬ (((A 113 (c).toInt.toNat)).toInt ≠ 0) := k4130
          refine bh_ld (pc' := 37) bt_101_36 rfl rfl (fun _ _ _ => rfl) g3970 rfl ?_
          refine bh_gr (pc' := 40) (c := 114) bt_101_37 rfl rfl (fun _ _ _ => rfl) hP be_r41 ?_
          refine bh_ld (pc' := 42) bt_101_40 rfl rfl (fun _ _ _ => rfl) g3974 rfl ?_
          refine bh_ia (pc' := 43) bt_101_42 rfl rfl (fun _ _ _ => rfl) hP be_a114 (Or.inl rfl) (by omega) (by omega) ?_
          refine bh_go (pc' := 58) bt_101_43 rfl ?_
          refine bh_ias (pc' := 59) bt_101_58 rfl rfl (fun _ _ _ => rfl) hP be_a117 (Or.inl rfl) (by omega) (by omega) (fun h4153 hP4154 => ?_)
          refine bh_inc (pc' := 62) bt_101_59 rfl (by decide) g3973 (by decide) (by omega) (by omega) (fun lv4155 y4158 F4156 g4157 e4159 => ?_)
          have g4160 := F4156 0 (.ref (E.1 + 88)) g3970 (by decide) (Or.inl rfl)
          have g4161 := F4156 1 (.int u) g3971 (by decide) (Or.inl rfl)
          have g4162 := F4156 2 (.int v) g3972 (by decide) (Or.inl rfl)
          have g4163 := F4156 4 (.int c) g3974 (by decide) (Or.inl rfl)
          have g4164 := F4156 5 (.int (A 113 (c).toInt.toNat)) g3969 (by decide) (Or.inl rfl)
          refine bh_go (pc' := 159) bt_101_62 rfl ?_
          refine bh_inc (pc' := 162) bt_101_159 rfl (by decide) g4163 (by decide) (by omega) (by omega) (fun lv4165 y4168 F4166 g4167 e4169 => ?_)
          have g4170 := F4166 0 (.ref (E.1 + 88)) g4160 (by decide) (Or.inl rfl)
          have g4171 := F4166 1 (.int u) g4161 (by decide) (Or.inl rfl)
          have g4172 := F4166 2 (.int v) g4162 (by decide) (Or.inl rfl)
          have g4173 := F4166 5 (.int (A 113 (c).toInt.toNat)) g4164 (by decide) (Or.inl rfl)
          have g4174 := F4166 3 (.int y4158) g4157 (by decide) (Or.inl rfl)
          refine bh_go (pc' := 5) bt_101_162 rfl ?_
          exact ih _ _ _ _ _ _ () hP4154 g4170 g4171 g4172 g4174 g4167 (fun k j w => ((bh_up_o (by omega)).trans (x k j w))) (by omega) (by omega) (by omega) (by rw [show (y4168).toInt.toNat - u.toInt.toNat = c.toInt.toNat - u.toInt.toNat + 1 by omega, show (y4158).toInt.toNat = d2 by omega]; exact hd2) kk
set_option maxHeartbeats 40000000 in
theorem sp_101 {u v : Int32} (hP : bh_P be_T E h0 h s A L) {A0 : Nat → Nat → Int32} {lo hi : Nat} (hhi : hi ≤ 840) (hW : rd_W A0 lo hi u v) (hb0 : 0 ≤ (s 46).toInt) (hb1 : (s 46).toInt ≤ 1) (x : ∀ k j, k ≠ 117 → A k j = A0 k j) (kk : ∀ (h' : mm_H) (s' : Nat → Int32) (A' : Nat → Nat → Int32) (r : Int32), bh_P be_T E h0 h' s' A' L → (∀ j, j ≠ 46 → s' j = s j) → (0 ≤ (s' 46).toInt ∧ (s' 46).toInt ≤ 1) → (∀ k j, k ≠ 117 → A' k j = A0 k j) → bh_G E FIN (mm_back (some (.int r)) gs h')) : bh_G E FIN ((101, 0, [(0, .ref (E.1 + 88)), (1, .int u), (2, .int v)], [], 0, 0) :: gs, h, none) := by
  refine bh_c (pc' := 1) (n := 0) bt_101_0 rfl rfl (fun _ _ _ => rfl) (by decide) (fun c4175 e4176 => ?_)
  refine bh_st (pc' := 2) bt_101_1 rfl rfl (fun _ _ _ => rfl) rfl (by decide) (by decide) (fun lv4177 F4178 g4179 => ?_)
  have g4180 := F4178 0 (.ref (E.1 + 88)) rfl (by decide) (Or.inl rfl)
  have g4181 := F4178 1 (.int u) rfl (by decide) (Or.inl rfl)
  have g4182 := F4178 2 (.int v) rfl (by decide) (Or.inl rfl)
  refine bh_ld (pc' := 3) bt_101_2 rfl rfl (fun _ _ _ => rfl) g4181 rfl ?_
  refine bh_st (pc' := 5) bt_101_3 rfl rfl (fun _ _ _ => rfl) rfl (by decide) (by decide) (fun lv4183 F4184 g4185 => ?_)
  have g4186 := F4184 0 (.ref (E.1 + 88)) g4180 (by decide) (Or.inl rfl)
  have g4187 := F4184 1 (.int u) g4181 (by decide) (Or.inl rfl)
  have g4188 := F4184 2 (.int v) g4182 (by decide) (Or.inl rfl)
  have g4189 := F4184 3 (.int c4175) g4179 (by decide) (Or.inl rfl)
  exact rd_term hhi hW (by omega) (by omega) ((v.toInt - u.toInt).toNat + 1) _ _ _ _ _ _ () hP g4186 g4187 g4188 g4189 g4185 x (by omega) (by omega) (by have := hW.2.1; omega) (by rw [Nat.sub_self, show (c4175).toInt.toNat = 0 by omega]; exact rfl) kk
set_option maxHeartbeats 40000000 in
theorem rd_tells {a : Int32} {s0 : Nat → Int32} {A0 : Nat → Nat → Int32} {bl bh lo hi : Nat} (hd : gs.length + 1 ≤ 999) (ha0 : 0 ≤ a.toInt) (ha1 : a.toInt ≤ 13) (hbh : bh ≤ 260) (hhi : hi ≤ 840) (hL : rd_L A0 bl bh lo hi a.toInt.toNat) (kk : (∀ (h' : mm_H) (s' : Nat → Int32) (A' : Nat → Nat → Int32) (r : Int32), bh_P be_T E h0 h' s' A' L → (∀ j, j ≠ 46 → s' j = s0 j) → (0 ≤ (s' 46).toInt ∧ (s' 46).toInt ≤ 1) → (∀ k j, k ≠ 117 → A' k j = A0 k j) → bh_G E FIN (mm_back (some (.int r)) gs h'))) : ∀ N : Nat, ∀ (h : mm_H) (s : Nat → Int32) (A : Nat → Nat → Int32) (lv : mm_V) (o : Option Value) (b : Int32) (_ : Unit), bh_P be_T E h0 h s A L → mm_get lv 0 = some (.ref (E.1 + 88)) → mm_get lv 1 = some (.int a) → mm_get lv 2 = some (.int b) → (∀ k j, k ≠ 117 → A k j = A0 k j) → (A0 106 a.toInt.toNat).toInt ≤ b.toInt → 0 ≤ (s 46).toInt → (s 46).toInt ≤ 1 → (A0 107 a.toInt.toNat).toInt - b.toInt < N → (∀ j, j ≠ 46 → s j = s0 j) → bh_G E FIN ((57, 12, lv, [], 0, 0) :: gs, h, o) := by
  intro N
  induction N with
  | zero =>
    intro h s A lv o b _ hP g0 g1 g2 x b0 e0 e1 hN y
    have hL1 := hL.1
    have r7 := congrArg Int32.toInt (x 107 a.toInt.toNat (by decide))
    refine bh_ld (pc' := 13) bt_57_12 rfl rfl (fun _ _ _ => rfl) g2 rfl ?_
    refine bh_ld (pc' := 14) bt_57_13 rfl rfl (fun _ _ _ => rfl) g0 rfl ?_
    refine bh_gr (pc' := 17) (c := 107) bt_57_14 rfl rfl (fun _ _ _ => rfl) hP be_r32 ?_
    refine bh_ld (pc' := 18) bt_57_17 rfl rfl (fun _ _ _ => rfl) g1 rfl ?_
    refine bh_ia (pc' := 19) bt_57_18 rfl rfl (fun _ _ _ => rfl) hP be_a107 (Or.inl rfl) (by omega) (by omega) ?_
    refine bh_ic (pc' := 22) (pt := 120) bt_57_19 rfl rfl (fun k4190 => ?_) (fun k4190 => ?_)
    · replace k4190 : ((A 107 (a).toInt.toNat)).toInt ≤ (b).toInt := k4190
      refine bh_c (pc' := 121) (n := 0) bt_57_120 rfl rfl (fun _ _ _ => rfl) (by decide) (fun c4191 e4192 => ?_)
      refine bh_ri bt_57_121 ?_
      exact kk _ _ _ _ hP (fun j j46 => ((fun j j46 => rfl) j j46).trans (y j j46)) (by omega) x
    · replace k4190 : ¬ (((A 107 (a).toInt.toNat)).toInt ≤ (b).toInt) := k4190
      exfalso
      omega
  | succ N ih =>
    intro h s A lv o b _ hP g0 g1 g2 x b0 e0 e1 hN y
    have hL1 := hL.1
    have r7 := congrArg Int32.toInt (x 107 a.toInt.toNat (by decide))
    refine bh_ld (pc' := 13) bt_57_12 rfl rfl (fun _ _ _ => rfl) g2 rfl ?_
    refine bh_ld (pc' := 14) bt_57_13 rfl rfl (fun _ _ _ => rfl) g0 rfl ?_
    refine bh_gr (pc' := 17) (c := 107) bt_57_14 rfl rfl (fun _ _ _ => rfl) hP be_r32 ?_
    refine bh_ld (pc' := 18) bt_57_17 rfl rfl (fun _ _ _ => rfl) g1 rfl ?_
    refine bh_ia (pc' := 19) bt_57_18 rfl rfl (fun _ _ _ => rfl) hP be_a107 (Or.inl rfl) (by omega) (by omega) ?_
    refine bh_ic (pc' := 22) (pt := 120) bt_57_19 rfl rfl (fun k4193 => ?_) (fun k4193 => ?_)
    · replace k4193 : ((A 107 (a).toInt.toNat)).toInt ≤ (b).toInt := k4193
      refine bh_c (pc' := 121) (n := 0) bt_57_120 rfl rfl (fun _ _ _ => rfl) (by decide) (fun c4194 e4195 => ?_)
      refine bh_ri bt_57_121 ?_
      exact kk _ _ _ _ hP (fun j j46 => ((fun j j46 => rfl) j j46).trans (y j j46)) (by omega) x
    · replace k4193 : ¬ (((A 107 (a).toInt.toNat)).toInt ≤ (b).toInt) := k4193
      obtain ⟨v1, v2, vb⟩ := hL.2 b.toInt.toNat (by omega) (by omega)
      have vb2 := vb.2
      refine bh_ld (pc' := 23) bt_57_22 rfl rfl (fun _ _ _ => rfl) g0 rfl ?_
      refine bh_gr (pc' := 26) (c := 108) bt_57_23 rfl rfl (fun _ _ _ => rfl) hP be_r34 ?_
      refine bh_ld (pc' := 27) bt_57_26 rfl rfl (fun _ _ _ => rfl) g2 rfl ?_
      refine bh_ia (pc' := 28) bt_57_27 rfl rfl (fun _ _ _ => rfl) hP be_a108 (Or.inr rfl) (by omega) (by omega) ?_
      refine bh_i0 (pc' := 31) (pt := 84) bt_57_28 rfl rfl (fun k4196 => ?_) (fun k4196 => ?_)
      · replace k4196 : ((A 108 (b).toInt.toNat)).toInt = 0 := k4196
        have wl := vb.2
        refine bh_ld (pc' := 85) bt_57_84 rfl rfl (fun _ _ _ => rfl) g0 rfl ?_
        refine bh_ld (pc' := 86) bt_57_85 rfl rfl (fun _ _ _ => rfl) g0 rfl ?_
        refine bh_gr (pc' := 89) (c := 111) bt_57_86 rfl rfl (fun _ _ _ => rfl) hP be_r37 ?_
        refine bh_ld (pc' := 90) bt_57_89 rfl rfl (fun _ _ _ => rfl) g2 rfl ?_
        refine bh_ia (pc' := 91) bt_57_90 rfl rfl (fun _ _ _ => rfl) hP be_a111 (Or.inl rfl) (by omega) (by omega) ?_
        refine bh_ld (pc' := 92) bt_57_91 rfl rfl (fun _ _ _ => rfl) g0 rfl ?_
        refine bh_gr (pc' := 95) (c := 112) bt_57_92 rfl rfl (fun _ _ _ => rfl) hP be_r38 ?_
        refine bh_ld (pc' := 96) bt_57_95 rfl rfl (fun _ _ _ => rfl) g2 rfl ?_
        refine bh_ia (pc' := 97) bt_57_96 rfl rfl (fun _ _ _ => rfl) hP be_a112 (Or.inl rfl) (by omega) (by omega) ?_
        refine bh_cv (pc' := 100) (st := []) (args := [.int (A 112 (b).toInt.toNat), .int (A 111 (b).toInt.toNat)]) bt_57_97 rfl rfl (by decide) hP (by omega) rfl (Nat.le_of_ble_eq_true rfl) (Nat.le_of_ble_eq_true rfl) ?_
        refine sp_101 (u := (A 111 (b).toInt.toNat)) (v := (A 112 (b).toInt.toNat)) hP (A0 := A0) hhi (by rw [x 111 _ (by decide), x 112 _ (by decide)]; exact wl) (by omega) (by omega) x (fun h4197 s4198 A4199 r4200 hP4201 f4202 p4203 a4204 => ?_)
        show bh_G E FIN ((57, 100, lv, [.int r4200], 0, 0) :: gs, _, none)
        refine bh_st (pc' := 101) bt_57_100 rfl rfl (fun _ _ _ => rfl) rfl (by decide) (by decide) (fun lv4205 F4206 g4207 => ?_)
        have g4208 := F4206 0 (.ref (E.1 + 88)) g0 (by decide) (Or.inl rfl)
        have g4209 := F4206 1 (.int a) g1 (by decide) (Or.inl rfl)
        have g4210 := F4206 2 (.int b) g2 (by decide) (Or.inl rfl)
        refine bh_ld (pc' := 102) bt_57_101 rfl rfl (fun _ _ _ => rfl) g4208 rfl ?_
        refine bh_gi (pc' := 105) bt_57_102 rfl rfl (fun _ _ _ => rfl) hP4201 be_i46 rfl ?_
        refine bh_i0 (pc' := 108) (pt := 112) bt_57_105 rfl rfl (fun k4211 => ?_) (fun k4211 => ?_)
        · replace k4211 : ((s4198 46)).toInt = 0 := k4211
          refine bh_ld (pc' := 113) bt_57_112 rfl rfl (fun _ _ _ => rfl) g4207 rfl ?_
          refine bh_ri bt_57_113 ?_
          exact kk _ _ _ _ hP4201 (fun j j46 => ((fun j j46 => (f4202 j j46)) j j46).trans (y j j46)) (by omega) a4204
        · replace k4211 : ¬ (((s4198 46)).toInt = 0) := k4211
          refine bh_c (pc' := 109) (n := 0) bt_57_108 rfl rfl (fun _ _ _ => rfl) (by decide) (fun c4212 e4213 => ?_)
          refine bh_go (pc' := 113) bt_57_109 rfl ?_
          refine bh_ri bt_57_113 ?_
          exact kk _ _ _ _ hP4201 (fun j j46 => ((fun j j46 => (f4202 j j46)) j j46).trans (y j j46)) (by omega) a4204
      · replace k4196 : ¬ (((A 108 (b).toInt.toNat)).toInt = 0) := k4196
        have wt := (vb.1.resolve_left (by have := congrArg Int32.toInt (x 108 b.toInt.toNat (by decide)); omega))
        have wl := vb.2
        refine bh_ld (pc' := 32) bt_57_31 rfl rfl (fun _ _ _ => rfl) g0 rfl ?_
        refine bh_ld (pc' := 33) bt_57_32 rfl rfl (fun _ _ _ => rfl) g0 rfl ?_
        refine bh_gr (pc' := 36) (c := 109) bt_57_33 rfl rfl (fun _ _ _ => rfl) hP be_r35 ?_
        refine bh_ld (pc' := 37) bt_57_36 rfl rfl (fun _ _ _ => rfl) g2 rfl ?_
        refine bh_ia (pc' := 38) bt_57_37 rfl rfl (fun _ _ _ => rfl) hP be_a109 (Or.inl rfl) (by omega) (by omega) ?_
        refine bh_ld (pc' := 39) bt_57_38 rfl rfl (fun _ _ _ => rfl) g0 rfl ?_
        refine bh_gr (pc' := 42) (c := 110) bt_57_39 rfl rfl (fun _ _ _ => rfl) hP be_r36 ?_
        refine bh_ld (pc' := 43) bt_57_42 rfl rfl (fun _ _ _ => rfl) g2 rfl ?_
        refine bh_ia (pc' := 44) bt_57_43 rfl rfl (fun _ _ _ => rfl) hP be_a110 (Or.inl rfl) (by omega) (by omega) ?_
        refine bh_cv (pc' := 47) (st := []) (args := [.int (A 110 (b).toInt.toNat), .int (A 109 (b).toInt.toNat)]) bt_57_44 rfl rfl (by decide) hP (by omega) rfl (Nat.le_of_ble_eq_true rfl) (Nat.le_of_ble_eq_true rfl) ?_
        refine sp_101 (u := (A 109 (b).toInt.toNat)) (v := (A 110 (b).toInt.toNat)) hP (A0 := A0) hhi (by rw [x 109 _ (by decide), x 110 _ (by decide)]; exact wt.1) (by omega) (by omega) x (fun h4214 s4215 A4216 r4217 hP4218 f4219 p4220 a4221 => ?_)
        show bh_G E FIN ((57, 47, lv, [.int r4217], 0, 0) :: gs, _, none)
        refine bh_st (pc' := 48) bt_57_47 rfl rfl (fun _ _ _ => rfl) rfl (by decide) (by decide) (fun lv4222 F4223 g4224 => ?_)
        have g4225 := F4223 0 (.ref (E.1 + 88)) g0 (by decide) (Or.inl rfl)
        have g4226 := F4223 1 (.int a) g1 (by decide) (Or.inl rfl)
        have g4227 := F4223 2 (.int b) g2 (by decide) (Or.inl rfl)
        refine bh_ld (pc' := 49) bt_57_48 rfl rfl (fun _ _ _ => rfl) g4225 rfl ?_
        refine bh_ld (pc' := 50) bt_57_49 rfl rfl (fun _ _ _ => rfl) g4225 rfl ?_
        refine bh_gr (pc' := 53) (c := 110) bt_57_50 rfl rfl (fun _ _ _ => rfl) hP4218 be_r36 ?_
        refine bh_ld (pc' := 54) bt_57_53 rfl rfl (fun _ _ _ => rfl) g4227 rfl ?_
        refine bh_ia (pc' := 55) bt_57_54 rfl rfl (fun _ _ _ => rfl) hP4218 be_a110 (Or.inl rfl) (by omega) (by omega) ?_
        refine bh_ld (pc' := 56) bt_57_55 rfl rfl (fun _ _ _ => rfl) g4225 rfl ?_
        refine bh_gr (pc' := 59) (c := 111) bt_57_56 rfl rfl (fun _ _ _ => rfl) hP4218 be_r37 ?_
        refine bh_ld (pc' := 60) bt_57_59 rfl rfl (fun _ _ _ => rfl) g4227 rfl ?_
        refine bh_ia (pc' := 61) bt_57_60 rfl rfl (fun _ _ _ => rfl) hP4218 be_a111 (Or.inl rfl) (by omega) (by omega) ?_
        refine bh_cv (pc' := 64) (st := []) (args := [.int (A4216 111 (b).toInt.toNat), .int (A4216 110 (b).toInt.toNat)]) bt_57_61 rfl rfl (by decide) hP4218 (by omega) rfl (Nat.le_of_ble_eq_true rfl) (Nat.le_of_ble_eq_true rfl) ?_
        refine sp_101 (u := (A4216 110 (b).toInt.toNat)) (v := (A4216 111 (b).toInt.toNat)) hP4218 (A0 := A0) hhi (by rw [a4221 110 _ (by decide), a4221 111 _ (by decide)]; exact wt.2) (by omega) (by omega) a4221 (fun h4228 s4229 A4230 r4231 hP4232 f4233 p4234 a4235 => ?_)
        show bh_G E FIN ((57, 64, lv4222, [.int r4231], 0, 0) :: gs, _, none)
        refine bh_st (pc' := 66) bt_57_64 rfl rfl (fun _ _ _ => rfl) rfl (by decide) (by decide) (fun lv4236 F4237 g4238 => ?_)
        have g4239 := F4237 0 (.ref (E.1 + 88)) g4225 (by decide) (Or.inl rfl)
        have g4240 := F4237 1 (.int a) g4226 (by decide) (Or.inl rfl)
        have g4241 := F4237 2 (.int b) g4227 (by decide) (Or.inl rfl)
        have g4242 := F4237 3 (.int r4217) g4224 (by decide) (Or.inl rfl)
        refine bh_ld (pc' := 67) bt_57_66 rfl rfl (fun _ _ _ => rfl) g4239 rfl ?_
        refine bh_gi (pc' := 70) bt_57_67 rfl rfl (fun _ _ _ => rfl) hP4232 be_i46 rfl ?_
        refine bh_i0 (pc' := 73) (pt := 75) bt_57_70 rfl rfl (fun k4243 => ?_) (fun k4243 => ?_)
        · replace k4243 : ((s4229 46)).toInt = 0 := k4243
          refine bh_ld (pc' := 76) bt_57_75 rfl rfl (fun _ _ _ => rfl) g4242 rfl ?_
          refine bh_ld (pc' := 78) bt_57_76 rfl rfl (fun _ _ _ => rfl) g4238 rfl ?_
          refine bh_ic (pc' := 81) (pt := 84) bt_57_78 rfl rfl (fun k4244 => ?_) (fun k4244 => ?_)
          · replace k4244 : (r4217).toInt < (r4231).toInt := k4244
            refine bh_ld (pc' := 85) bt_57_84 rfl rfl (fun _ _ _ => rfl) g4239 rfl ?_
            refine bh_ld (pc' := 86) bt_57_85 rfl rfl (fun _ _ _ => rfl) g4239 rfl ?_
            refine bh_gr (pc' := 89) (c := 111) bt_57_86 rfl rfl (fun _ _ _ => rfl) hP4232 be_r37 ?_
            refine bh_ld (pc' := 90) bt_57_89 rfl rfl (fun _ _ _ => rfl) g4241 rfl ?_
            refine bh_ia (pc' := 91) bt_57_90 rfl rfl (fun _ _ _ => rfl) hP4232 be_a111 (Or.inl rfl) (by omega) (by omega) ?_
            refine bh_ld (pc' := 92) bt_57_91 rfl rfl (fun _ _ _ => rfl) g4239 rfl ?_
            refine bh_gr (pc' := 95) (c := 112) bt_57_92 rfl rfl (fun _ _ _ => rfl) hP4232 be_r38 ?_
            refine bh_ld (pc' := 96) bt_57_95 rfl rfl (fun _ _ _ => rfl) g4241 rfl ?_
            refine bh_ia (pc' := 97) bt_57_96 rfl rfl (fun _ _ _ => rfl) hP4232 be_a112 (Or.inl rfl) (by omega) (by omega) ?_
            refine bh_cv (pc' := 100) (st := []) (args := [.int (A4230 112 (b).toInt.toNat), .int (A4230 111 (b).toInt.toNat)]) bt_57_97 rfl rfl (by decide) hP4232 (by omega) rfl (Nat.le_of_ble_eq_true rfl) (Nat.le_of_ble_eq_true rfl) ?_
            refine sp_101 (u := (A4230 111 (b).toInt.toNat)) (v := (A4230 112 (b).toInt.toNat)) hP4232 (A0 := A0) hhi (by rw [a4235 111 _ (by decide), a4235 112 _ (by decide)]; exact wl) (by omega) (by omega) a4235 (fun h4245 s4246 A4247 r4248 hP4249 f4250 p4251 a4252 => ?_)
            show bh_G E FIN ((57, 100, lv4236, [.int r4248], 0, 0) :: gs, _, none)
            refine bh_st (pc' := 101) bt_57_100 rfl rfl (fun _ _ _ => rfl) rfl (by decide) (by decide) (fun lv4253 F4254 g4255 => ?_)
            have g4256 := F4254 0 (.ref (E.1 + 88)) g4239 (by decide) (Or.inl rfl)
            have g4257 := F4254 1 (.int a) g4240 (by decide) (Or.inl rfl)
            have g4258 := F4254 2 (.int b) g4241 (by decide) (Or.inl rfl)
            have g4259 := F4254 4 (.int r4231) g4238 (by decide) (Or.inl rfl)
            refine bh_ld (pc' := 102) bt_57_101 rfl rfl (fun _ _ _ => rfl) g4256 rfl ?_
            refine bh_gi (pc' := 105) bt_57_102 rfl rfl (fun _ _ _ => rfl) hP4249 be_i46 rfl ?_
            refine bh_i0 (pc' := 108) (pt := 112) bt_57_105 rfl rfl (fun k4260 => ?_) (fun k4260 => ?_)
            · replace k4260 : ((s4246 46)).toInt = 0 := k4260
              refine bh_ld (pc' := 113) bt_57_112 rfl rfl (fun _ _ _ => rfl) g4255 rfl ?_
              refine bh_ri bt_57_113 ?_
              exact kk _ _ _ _ hP4249 (fun j j46 => ((fun j j46 => ((f4250 j j46).trans ((f4233 j j46).trans (f4219 j j46)))) j j46).trans (y j j46)) (by omega) a4252
            · replace k4260 : ¬ (((s4246 46)).toInt = 0) := k4260
              refine bh_c (pc' := 109) (n := 0) bt_57_108 rfl rfl (fun _ _ _ => rfl) (by decide) (fun c4261 e4262 => ?_)
              refine bh_go (pc' := 113) bt_57_109 rfl ?_
              refine bh_ri bt_57_113 ?_
              exact kk _ _ _ _ hP4249 (fun j j46 => ((fun j j46 => ((f4250 j j46).trans ((f4233 j j46).trans (f4219 j j46)))) j j46).trans (y j j46)) (by omega) a4252
          · replace k4244 : ¬ ((r4217).toInt < (r4231).toInt) := k4244
            refine bh_go (pc' := 114) bt_57_81 rfl ?_
            refine bh_inc (pc' := 117) bt_57_114 rfl (by decide) g4241 (by decide) (by omega) (by omega) (fun lv4263 y4266 F4264 g4265 e4267 => ?_)
            have g4268 := F4264 0 (.ref (E.1 + 88)) g4239 (by decide) (Or.inl rfl)
            have g4269 := F4264 1 (.int a) g4240 (by decide) (Or.inl rfl)
            have g4270 := F4264 3 (.int r4217) g4242 (by decide) (Or.inl rfl)
            have g4271 := F4264 4 (.int r4231) g4238 (by decide) (Or.inl rfl)
            refine bh_go (pc' := 12) bt_57_117 rfl ?_
            exact ih _ _ _ _ _ _ () hP4232 g4268 g4269 g4265 a4235 (by omega) (by omega) (by omega) (by omega) (fun j j46 => ((fun j j46 => ((f4233 j j46).trans (f4219 j j46))) j j46).trans (y j j46))
        · replace k4243 : ¬ (((s4229 46)).toInt = 0) := k4243
          refine bh_c (pc' := 74) (n := 0) bt_57_73 rfl rfl (fun _ _ _ => rfl) (by decide) (fun c4272 e4273 => ?_)
          refine bh_ri bt_57_74 ?_
          exact kk _ _ _ _ hP4232 (fun j j46 => ((fun j j46 => ((f4233 j j46).trans (f4219 j j46))) j j46).trans (y j j46)) (by omega) a4235
set_option maxHeartbeats 40000000 in
theorem sp_57 {a : Int32} {s0 : Nat → Int32} {A0 : Nat → Nat → Int32} {bl bh lo hi : Nat} (hP : bh_P be_T E h0 h s0 A L) (hd : gs.length + 1 ≤ 999) (ha0 : 0 ≤ a.toInt) (ha1 : a.toInt ≤ 13) (hbh : bh ≤ 260) (hhi : hi ≤ 840) (hL : rd_L A0 bl bh lo hi a.toInt.toNat) (x : ∀ k j, k ≠ 117 → A k j = A0 k j) (kk : ∀ (h' : mm_H) (s' : Nat → Int32) (A' : Nat → Nat → Int32) (r : Int32), bh_P be_T E h0 h' s' A' L → (∀ j, j ≠ 46 → s' j = s0 j) → (0 ≤ (s' 46).toInt ∧ (s' 46).toInt ≤ 1) → (∀ k j, k ≠ 117 → A' k j = A0 k j) → bh_G E FIN (mm_back (some (.int r)) gs h')) : bh_G E FIN ((57, 0, [(0, .ref (E.1 + 88)), (1, .int a)], [], 0, 0) :: gs, h, none) := by
  refine bh_ld (pc' := 1) bt_57_0 rfl rfl (fun _ _ _ => rfl) rfl rfl ?_
  refine bh_c (pc' := 2) (n := 0) bt_57_1 rfl rfl (fun _ _ _ => rfl) (by decide) (fun c4274 e4275 => ?_)
  refine bh_pf (pc' := 5) bt_57_2 rfl rfl (fun _ _ _ => rfl) hP be_i46 (by rw [show c4274 = 0 from Int32.toInt_inj.mp (by rw [e4275]; rfl)]; rfl) (fun h4276 s4277 hP4278 e4279 f4280 => ?_)
  refine bh_ld (pc' := 6) bt_57_5 rfl rfl (fun _ _ _ => rfl) rfl rfl ?_
  refine bh_gr (pc' := 9) (c := 106) bt_57_6 rfl rfl (fun _ _ _ => rfl) hP4278 be_r31 ?_
  refine bh_ld (pc' := 10) bt_57_9 rfl rfl (fun _ _ _ => rfl) rfl rfl ?_
  refine bh_ia (pc' := 11) bt_57_10 rfl rfl (fun _ _ _ => rfl) hP4278 be_a106 (Or.inl rfl) (by omega) (by omega) ?_
  refine bh_st (pc' := 12) bt_57_11 rfl rfl (fun _ _ _ => rfl) rfl (by decide) (by decide) (fun lv4281 F4282 g4283 => ?_)
  have g4284 := F4282 0 (.ref (E.1 + 88)) rfl (by decide) (Or.inl rfl)
  have g4285 := F4282 1 (.int a) rfl (by decide) (Or.inl rfl)
  have z46 := congrArg Int32.toInt e4279
  have r6 := congrArg Int32.toInt (x 106 a.toInt.toNat (by decide))
  exact rd_tells hd ha0 ha1 hbh hhi hL kk (((A0 107 a.toInt.toNat).toInt - (A0 106 a.toInt.toNat).toInt).toNat + 1) _ _ _ _ _ _ () hP4278 g4284 g4285 g4283 x (by omega) (by omega) (by omega) (by omega) (fun j j46 => (f4280 j j46))
set_option maxHeartbeats 40000000 in
theorem sp_3 {k p x y : Int32} {lv : mm_V} {o : Option Value} (g0 : mm_get lv 0 = some (.ref (E.1 + 88))) (g1 : mm_get lv 1 = some (.int k)) (g2 : mm_get lv 2 = some (.int p)) (g3 : mm_get lv 3 = some (.int x)) (g4 : mm_get lv 4 = some (.int y)) (hP : bh_P be_T E h0 h s A L) (hd : gs.length + 2 ≤ 999) (hk0 : 0 ≤ k.toInt) (hk6 : k.toInt ≤ 6) (hl0 : 0 ≤ (s 18).toInt) (hl1 : (s 18).toInt ≤ 1) (hJ : rd_J A) (hb0 : 0 ≤ (s 46).toInt) (hb1 : (s 46).toInt ≤ 1) (kk : ∀ (h' : mm_H) (s' : Nat → Int32) (A' : Nat → Nat → Int32) (r : Int32), bh_P be_T E h0 h' s' A' L → (∀ j, j ≠ 46 → s' j = s j) → (0 ≤ (s' 46).toInt ∧ (s' 46).toInt ≤ 1) → (∀ k j, k ≠ 117 → A' k j = A k j) → (r.toInt = x.toInt ∨ r.toInt = y.toInt ∨ (x.toInt ≤ r.toInt ∧ r.toInt ≤ y.toInt)) → bh_G E FIN (mm_back (some (.int r)) gs h')) : bh_G E FIN ((3, 0, lv, [], 0, 0) :: gs, h, o) := by
  refine bh_ld (pc' := 1) bt_3_0 rfl rfl (fun _ _ _ => rfl) g2 rfl ?_
  refine bh_st (pc' := 3) bt_3_1 rfl rfl (fun _ _ _ => rfl) rfl (by decide) (by decide) (fun lv4286 F4287 g4288 => ?_)
  have g4289 := F4287 0 (.ref (E.1 + 88)) g0 (by decide) (Or.inl rfl)
  have g4290 := F4287 1 (.int k) g1 (by decide) (Or.inl rfl)
  have g4291 := F4287 2 (.int p) g2 (by decide) (Or.inl rfl)
  have g4292 := F4287 3 (.int x) g3 (by decide) (Or.inl rfl)
  have g4293 := F4287 4 (.int y) g4 (by decide) (Or.inl rfl)
  refine bh_ld (pc' := 4) bt_3_3 rfl rfl (fun _ _ _ => rfl) g4289 rfl ?_
  refine bh_gr (pc' := 7) (c := 106) bt_3_4 rfl rfl (fun _ _ _ => rfl) hP be_r31 ?_
  refine bh_c (pc' := 9) (n := 7) bt_3_7 rfl rfl (fun _ _ _ => rfl) (by decide) (fun c4294 e4295 => ?_)
  refine bh_ld (pc' := 10) bt_3_9 rfl rfl (fun _ _ _ => rfl) g4289 rfl ?_
  refine bh_gi (pc' := 13) bt_3_10 rfl rfl (fun _ _ _ => rfl) hP be_i18 rfl ?_
  refine bh_mul (pc' := 14) bt_3_13 rfl (by rw [e4295]; omega) (by rw [e4295]; omega) (fun v4296 e4297 => ?_)
  rw [e4295] at e4297
  refine bh_ld (pc' := 15) bt_3_14 rfl rfl (fun _ _ _ => rfl) g4290 rfl ?_
  refine bh_add (pc' := 16) bt_3_15 rfl (by omega) (by omega) (fun v4298 e4299 => ?_)
  refine bh_ia (pc' := 17) bt_3_16 rfl rfl (fun _ _ _ => rfl) hP be_a106 (Or.inl rfl) (by omega) (by omega) ?_
  refine bh_ld (pc' := 18) bt_3_17 rfl rfl (fun _ _ _ => rfl) g4289 rfl ?_
  refine bh_gr (pc' := 21) (c := 107) bt_3_18 rfl rfl (fun _ _ _ => rfl) hP be_r32 ?_
  refine bh_c (pc' := 23) (n := 7) bt_3_21 rfl rfl (fun _ _ _ => rfl) (by decide) (fun c4300 e4301 => ?_)
  refine bh_ld (pc' := 24) bt_3_23 rfl rfl (fun _ _ _ => rfl) g4289 rfl ?_
  refine bh_gi (pc' := 27) bt_3_24 rfl rfl (fun _ _ _ => rfl) hP be_i18 rfl ?_
  refine bh_mul (pc' := 28) bt_3_27 rfl (by rw [e4301]; omega) (by rw [e4301]; omega) (fun v4302 e4303 => ?_)
  rw [e4301] at e4303
  refine bh_ld (pc' := 29) bt_3_28 rfl rfl (fun _ _ _ => rfl) g4290 rfl ?_
  refine bh_add (pc' := 30) bt_3_29 rfl (by omega) (by omega) (fun v4304 e4305 => ?_)
  refine bh_ia (pc' := 31) bt_3_30 rfl rfl (fun _ _ _ => rfl) hP be_a107 (Or.inl rfl) (by omega) (by omega) ?_
  refine bh_ic (pc' := 34) (pt := 49) bt_3_31 rfl rfl (fun k4306 => ?_) (fun k4306 => ?_)
  · replace k4306 : ((A 107 (v4304).toInt.toNat)).toInt ≤ ((A 106 (v4298).toInt.toNat)).toInt := k4306
    refine bh_ld (pc' := 51) bt_3_49 rfl rfl (fun _ _ _ => rfl) g4288 rfl ?_
    refine bh_ld (pc' := 52) bt_3_51 rfl rfl (fun _ _ _ => rfl) g4292 rfl ?_
    refine bh_ic (pc' := 55) (pt := 59) bt_3_52 rfl rfl (fun k4307 => ?_) (fun k4307 => ?_)
    · replace k4307 : (x).toInt ≤ (p).toInt := k4307
      refine bh_ld (pc' := 61) bt_3_59 rfl rfl (fun _ _ _ => rfl) g4288 rfl ?_
      refine bh_ld (pc' := 63) bt_3_61 rfl rfl (fun _ _ _ => rfl) g4293 rfl ?_
      refine bh_ic (pc' := 66) (pt := 71) bt_3_63 rfl rfl (fun k4308 => ?_) (fun k4308 => ?_)
      · replace k4308 : (p).toInt ≤ (y).toInt := k4308
        refine bh_ld (pc' := 73) bt_3_71 rfl rfl (fun _ _ _ => rfl) g4288 rfl ?_
        refine bh_ri bt_3_73 ?_
        exact kk _ _ _ _ hP (fun j j46 => rfl) (by omega) (fun _ _ _ => rfl) (by omega)
      · replace k4308 : ¬ ((p).toInt ≤ (y).toInt) := k4308
        refine bh_ld (pc' := 68) bt_3_66 rfl rfl (fun _ _ _ => rfl) g4293 rfl ?_
        refine bh_go (pc' := 73) bt_3_68 rfl ?_
        refine bh_ri bt_3_73 ?_
        exact kk _ _ _ _ hP (fun j j46 => rfl) (by omega) (fun _ _ _ => rfl) (by omega)
    · replace k4307 : ¬ ((x).toInt ≤ (p).toInt) := k4307
      refine bh_ld (pc' := 56) bt_3_55 rfl rfl (fun _ _ _ => rfl) g4292 rfl ?_
      refine bh_go (pc' := 73) bt_3_56 rfl ?_
      refine bh_ri bt_3_73 ?_
      exact kk _ _ _ _ hP (fun j j46 => rfl) (by omega) (fun _ _ _ => rfl) (by omega)
  · replace k4306 : ¬ (((A 107 (v4304).toInt.toNat)).toInt ≤ ((A 106 (v4298).toInt.toNat)).toInt) := k4306
    refine bh_ld (pc' := 35) bt_3_34 rfl rfl (fun _ _ _ => rfl) g4289 rfl ?_
    refine bh_c (pc' := 37) (n := 7) bt_3_35 rfl rfl (fun _ _ _ => rfl) (by decide) (fun c4309 e4310 => ?_)
    refine bh_ld (pc' := 38) bt_3_37 rfl rfl (fun _ _ _ => rfl) g4289 rfl ?_
    refine bh_gi (pc' := 41) bt_3_38 rfl rfl (fun _ _ _ => rfl) hP be_i18 rfl ?_
    refine bh_mul (pc' := 42) bt_3_41 rfl (by rw [e4310]; omega) (by rw [e4310]; omega) (fun v4311 e4312 => ?_)
    rw [e4310] at e4312
    refine bh_ld (pc' := 43) bt_3_42 rfl rfl (fun _ _ _ => rfl) g4290 rfl ?_
    refine bh_add (pc' := 44) bt_3_43 rfl (by omega) (by omega) (fun v4313 e4314 => ?_)
    refine bh_cv (pc' := 47) (st := []) (args := [.int v4313]) bt_3_44 rfl rfl (by decide) hP (by omega) rfl (Nat.le_of_ble_eq_true rfl) (Nat.le_of_ble_eq_true rfl) ?_
    have hLa : rd_L A (130 * (s 18).toInt.toNat) (130 * (s 18).toInt.toNat + 130) (420 * (s 18).toInt.toNat) (420 * (s 18).toInt.toNat + 420) (v4313).toInt.toNat := by
      rw [show (v4313).toInt.toNat = 7 * (s 18).toInt.toNat + k.toInt.toNat by omega]
      rcases (show (s 18).toInt.toNat = 0 ∨ (s 18).toInt.toNat = 1 by omega) with e | e
      · rw [e]
        exact hJ.1 k.toInt.toNat (by omega)
      · rw [e]
        exact hJ.2 k.toInt.toNat (by omega)
    refine sp_57 (a := v4313) (s0 := s) (A0 := A) hP (by simp only [List.length_cons]; omega) (by omega) (by omega) (by omega) (by omega) hLa (fun _ _ _ => rfl) (fun h4315 s4316 A4317 r4318 hP4319 f4320 p4321 a4322 => ?_)
    show bh_G E FIN ((3, 47, lv4286, [.int r4318], 0, 0) :: gs, _, none)
    refine bh_st (pc' := 49) bt_3_47 rfl rfl (fun _ _ _ => rfl) rfl (by decide) (by decide) (fun lv4323 F4324 g4325 => ?_)
    have g4326 := F4324 0 (.ref (E.1 + 88)) g4289 (by decide) (Or.inl rfl)
    have g4327 := F4324 1 (.int k) g4290 (by decide) (Or.inl rfl)
    have g4328 := F4324 2 (.int p) g4291 (by decide) (Or.inl rfl)
    have g4329 := F4324 3 (.int x) g4292 (by decide) (Or.inl rfl)
    have g4330 := F4324 4 (.int y) g4293 (by decide) (Or.inl rfl)
    refine bh_ld (pc' := 51) bt_3_49 rfl rfl (fun _ _ _ => rfl) g4325 rfl ?_
    refine bh_ld (pc' := 52) bt_3_51 rfl rfl (fun _ _ _ => rfl) g4329 rfl ?_
    refine bh_ic (pc' := 55) (pt := 59) bt_3_52 rfl rfl (fun k4331 => ?_) (fun k4331 => ?_)
    · replace k4331 : (x).toInt ≤ (r4318).toInt := k4331
      refine bh_ld (pc' := 61) bt_3_59 rfl rfl (fun _ _ _ => rfl) g4325 rfl ?_
      refine bh_ld (pc' := 63) bt_3_61 rfl rfl (fun _ _ _ => rfl) g4330 rfl ?_
      refine bh_ic (pc' := 66) (pt := 71) bt_3_63 rfl rfl (fun k4332 => ?_) (fun k4332 => ?_)
      · replace k4332 : (r4318).toInt ≤ (y).toInt := k4332
        refine bh_ld (pc' := 73) bt_3_71 rfl rfl (fun _ _ _ => rfl) g4325 rfl ?_
        refine bh_ri bt_3_73 ?_
        exact kk _ _ _ _ hP4319 (fun j j46 => (f4320 j j46)) (by omega) a4322 (by omega)
      · replace k4332 : ¬ ((r4318).toInt ≤ (y).toInt) := k4332
        refine bh_ld (pc' := 68) bt_3_66 rfl rfl (fun _ _ _ => rfl) g4330 rfl ?_
        refine bh_go (pc' := 73) bt_3_68 rfl ?_
        refine bh_ri bt_3_73 ?_
        exact kk _ _ _ _ hP4319 (fun j j46 => (f4320 j j46)) (by omega) a4322 (by omega)
    · replace k4331 : ¬ ((x).toInt ≤ (r4318).toInt) := k4331
      refine bh_ld (pc' := 56) bt_3_55 rfl rfl (fun _ _ _ => rfl) g4329 rfl ?_
      refine bh_go (pc' := 73) bt_3_56 rfl ?_
      refine bh_ri bt_3_73 ?_
      exact kk _ _ _ _ hP4319 (fun j j46 => (f4320 j j46)) (by omega) a4322 (by omega)
end BX
