/-! PARTIAL: the class's draws (wip/p8/mkdc.py) -/
theorem dl_ok {m d : Nat} (h : m ≤ 6) (hd : d < dl_sz m) : dr_ok m (dl_w m d) = true := by
  have g : dl_w m d ∈ dl_L m (dl_sz m) := List.mem_map.mpr ⟨d, List.mem_range.mpr hd, rfl⟩
  rw [dr_E h] at g
  exact (List.mem_filter.mp g).2
theorem bu_115_0 : mm_at mt_P 115 0 = some ((0, 1, .iconst 0, 0, 0, 0, 0), 5, 0, 1, 0, 1, 0, 0) := rfl
theorem bu_115_1 : mm_at mt_P 115 1 = some ((1, 1, .istore_n 1, 0, 0, 0, 0), 5, 0, 1, 0, 1, 0, 0) := rfl
theorem bu_115_2 : mm_at mt_P 115 2 = some ((2, 1, .aload_n 0, 0, 0, 0, 0), 5, 0, 1, 0, 1, 0, 0) := rfl
theorem bu_115_3 : mm_at mt_P 115 3 = some ((3, 1, .iconst 0, 0, 0, 0, 0), 5, 0, 1, 0, 1, 0, 0) := rfl
theorem bu_115_4 : mm_at mt_P 115 4 = some ((4, 3, .invokevirtual 64, 124, 0, 0, 1021), 5, 0, 1, 0, 1, 0, 0) := rfl
theorem bu_115_7 : mm_at mt_P 115 7 = some ((7, 1, .istore_n 2, 0, 0, 0, 0), 5, 0, 1, 0, 1, 0, 0) := rfl
theorem bu_115_8 : mm_at mt_P 115 8 = some ((8, 1, .iconst 1, 0, 0, 0, 0), 5, 0, 1, 0, 1, 0, 0) := rfl
theorem bu_115_9 : mm_at mt_P 115 9 = some ((9, 1, .istore_n 3, 0, 0, 0, 0), 5, 0, 1, 0, 1, 0, 0) := rfl
theorem bu_115_10 : mm_at mt_P 115 10 = some ((10, 1, .iload_n 3, 0, 0, 0, 0), 5, 0, 1, 0, 1, 0, 0) := rfl
theorem bu_115_11 : mm_at mt_P 115 11 = some ((11, 1, .aload_n 0, 0, 0, 0, 0), 5, 0, 1, 0, 1, 0, 0) := rfl
theorem bu_115_12 : mm_at mt_P 115 12 = some ((12, 3, .getfield 31, 0, 6, 0, 340), 5, 0, 1, 0, 1, 0, 0) := rfl
theorem bu_115_15 : mm_at mt_P 115 15 = some ((15, 3, .if_icmp .ge 27, 0, 0, 0, 0), 5, 0, 1, 0, 1, 0, 0) := rfl
theorem bu_115_18 : mm_at mt_P 115 18 = some ((18, 1, .aload_n 0, 0, 0, 0, 0), 5, 0, 1, 0, 1, 0, 0) := rfl
theorem bu_115_19 : mm_at mt_P 115 19 = some ((19, 1, .iload_n 3, 0, 0, 0, 0), 5, 0, 1, 0, 1, 0, 0) := rfl
theorem bu_115_20 : mm_at mt_P 115 20 = some ((20, 3, .invokevirtual 64, 124, 0, 0, 1021), 5, 0, 1, 0, 1, 0, 0) := rfl
theorem bu_115_23 : mm_at mt_P 115 23 = some ((23, 2, .istore 4, 0, 0, 0, 0), 5, 0, 1, 0, 1, 0, 0) := rfl
theorem bu_115_25 : mm_at mt_P 115 25 = some ((25, 2, .iload 4, 0, 0, 0, 0), 5, 0, 1, 0, 1, 0, 0) := rfl
theorem bu_115_27 : mm_at mt_P 115 27 = some ((27, 1, .iload_n 2, 0, 0, 0, 0), 5, 0, 1, 0, 1, 0, 0) := rfl
theorem bu_115_28 : mm_at mt_P 115 28 = some ((28, 3, .if_icmp .le 8, 0, 0, 0, 0), 5, 0, 1, 0, 1, 0, 0) := rfl
theorem bu_115_31 : mm_at mt_P 115 31 = some ((31, 1, .iload_n 3, 0, 0, 0, 0), 5, 0, 1, 0, 1, 0, 0) := rfl
theorem bu_115_32 : mm_at mt_P 115 32 = some ((32, 1, .istore_n 1, 0, 0, 0, 0), 5, 0, 1, 0, 1, 0, 0) := rfl
theorem bu_115_33 : mm_at mt_P 115 33 = some ((33, 2, .iload 4, 0, 0, 0, 0), 5, 0, 1, 0, 1, 0, 0) := rfl
theorem bu_115_35 : mm_at mt_P 115 35 = some ((35, 1, .istore_n 2, 0, 0, 0, 0), 5, 0, 1, 0, 1, 0, 0) := rfl
theorem bu_115_36 : mm_at mt_P 115 36 = some ((36, 3, .iinc 3 1, 0, 0, 0, 0), 5, 0, 1, 0, 1, 0, 0) := rfl
theorem bu_115_39 : mm_at mt_P 115 39 = some ((39, 3, .goto (-29), 0, 0, 0, 0), 5, 0, 1, 0, 1, 0, 0) := rfl
theorem bu_115_42 : mm_at mt_P 115 42 = some ((42, 1, .iload_n 1, 0, 0, 0, 0), 5, 0, 1, 0, 1, 0, 0) := rfl
theorem bu_115_43 : mm_at mt_P 115 43 = some ((43, 1, .ireturn, 0, 0, 0, 0), 5, 0, 1, 0, 1, 0, 0) := rfl
theorem bu_124_0 : mm_at mt_P 124 0 = some ((0, 1, .iconst 0, 0, 0, 0, 0), 4, 1, 1, 0, 1, 0, 0) := rfl
theorem bu_124_1 : mm_at mt_P 124 1 = some ((1, 1, .istore_n 2, 0, 0, 0, 0), 4, 1, 1, 0, 1, 0, 0) := rfl
theorem bu_124_2 : mm_at mt_P 124 2 = some ((2, 1, .iconst 0, 0, 0, 0, 0), 4, 1, 1, 0, 1, 0, 0) := rfl
theorem bu_124_3 : mm_at mt_P 124 3 = some ((3, 1, .istore_n 3, 0, 0, 0, 0), 4, 1, 1, 0, 1, 0, 0) := rfl
theorem bu_124_4 : mm_at mt_P 124 4 = some ((4, 1, .iload_n 3, 0, 0, 0, 0), 4, 1, 1, 0, 1, 0, 0) := rfl
theorem bu_124_5 : mm_at mt_P 124 5 = some ((5, 1, .iconst 4, 0, 0, 0, 0), 4, 1, 1, 0, 1, 0, 0) := rfl
theorem bu_124_6 : mm_at mt_P 124 6 = some ((6, 3, .if_icmp .ge 26, 0, 0, 0, 0), 4, 1, 1, 0, 1, 0, 0) := rfl
theorem bu_124_9 : mm_at mt_P 124 9 = some ((9, 1, .iload_n 2, 0, 0, 0, 0), 4, 1, 1, 0, 1, 0, 0) := rfl
theorem bu_124_10 : mm_at mt_P 124 10 = some ((10, 1, .aload_n 0, 0, 0, 0, 0), 4, 1, 1, 0, 1, 0, 0) := rfl
theorem bu_124_11 : mm_at mt_P 124 11 = some ((11, 3, .getfield 27, 0, 0, 0, 334), 4, 1, 1, 0, 1, 0, 0) := rfl
theorem bu_124_14 : mm_at mt_P 124 14 = some ((14, 1, .aload_n 0, 0, 0, 0, 0), 4, 1, 1, 0, 1, 0, 0) := rfl
theorem bu_124_15 : mm_at mt_P 124 15 = some ((15, 1, .iload_n 1, 0, 0, 0, 0), 4, 1, 1, 0, 1, 0, 0) := rfl
theorem bu_124_16 : mm_at mt_P 124 16 = some ((16, 1, .iload_n 3, 0, 0, 0, 0), 4, 1, 1, 0, 1, 0, 0) := rfl
theorem bu_124_17 : mm_at mt_P 124 17 = some ((17, 3, .invokevirtual 58, 131, 0, 0, 1025), 4, 1, 1, 0, 1, 0, 0) := rfl
theorem bu_124_20 : mm_at mt_P 124 20 = some ((20, 1, .iload_n 3, 0, 0, 0, 0), 4, 1, 1, 0, 1, 0, 0) := rfl
theorem bu_124_21 : mm_at mt_P 124 21 = some ((21, 3, .invokevirtual 61, 208, 0, 0, 1030), 4, 1, 1, 0, 1, 0, 0) := rfl
theorem bu_124_24 : mm_at mt_P 124 24 = some ((24, 1, .iadd, 0, 0, 0, 0), 4, 1, 1, 0, 1, 0, 0) := rfl
theorem bu_124_25 : mm_at mt_P 124 25 = some ((25, 1, .istore_n 2, 0, 0, 0, 0), 4, 1, 1, 0, 1, 0, 0) := rfl
theorem bu_124_26 : mm_at mt_P 124 26 = some ((26, 3, .iinc 3 1, 0, 0, 0, 0), 4, 1, 1, 0, 1, 0, 0) := rfl
theorem bu_124_29 : mm_at mt_P 124 29 = some ((29, 3, .goto (-25), 0, 0, 0, 0), 4, 1, 1, 0, 1, 0, 0) := rfl
theorem bu_124_32 : mm_at mt_P 124 32 = some ((32, 1, .iload_n 2, 0, 0, 0, 0), 4, 1, 1, 0, 1, 0, 0) := rfl
theorem bu_124_33 : mm_at mt_P 124 33 = some ((33, 1, .ireturn, 0, 0, 0, 0), 4, 1, 1, 0, 1, 0, 0) := rfl
theorem bu_131_0 : mm_at mt_P 131 0 = some ((0, 1, .iload_n 1, 0, 0, 0, 0), 3, 2, 1, 0, 1, 0, 0) := rfl
theorem bu_131_1 : mm_at mt_P 131 1 = some ((1, 3, .ifCond .lt 31, 0, 0, 0, 0), 3, 2, 1, 0, 1, 0, 0) := rfl
theorem bu_131_4 : mm_at mt_P 131 4 = some ((4, 1, .iload_n 1, 0, 0, 0, 0), 3, 2, 1, 0, 1, 0, 0) := rfl
theorem bu_131_5 : mm_at mt_P 131 5 = some ((5, 1, .aload_n 0, 0, 0, 0, 0), 3, 2, 1, 0, 1, 0, 0) := rfl
theorem bu_131_6 : mm_at mt_P 131 6 = some ((6, 3, .getfield 31, 0, 6, 0, 340), 3, 2, 1, 0, 1, 0, 0) := rfl
theorem bu_131_9 : mm_at mt_P 131 9 = some ((9, 3, .if_icmp .ge 23, 0, 0, 0, 0), 3, 2, 1, 0, 1, 0, 0) := rfl
theorem bu_131_12 : mm_at mt_P 131 12 = some ((12, 1, .iload_n 2, 0, 0, 0, 0), 3, 2, 1, 0, 1, 0, 0) := rfl
theorem bu_131_13 : mm_at mt_P 131 13 = some ((13, 3, .invokestatic 54, 239, 0, 0, 1029), 3, 2, 1, 0, 1, 0, 0) := rfl
theorem bu_131_16 : mm_at mt_P 131 16 = some ((16, 3, .ifCond .eq 16, 0, 0, 0, 0), 3, 2, 1, 0, 1, 0, 0) := rfl
theorem bu_131_19 : mm_at mt_P 131 19 = some ((19, 1, .aload_n 0, 0, 0, 0, 0), 3, 2, 1, 0, 1, 0, 0) := rfl
theorem bu_131_20 : mm_at mt_P 131 20 = some ((20, 3, .getfield 11, 0, 1, 0, 335), 3, 2, 1, 0, 1, 0, 0) := rfl
theorem bu_131_23 : mm_at mt_P 131 23 = some ((23, 1, .iload_n 1, 0, 0, 0, 0), 3, 2, 1, 0, 1, 0, 0) := rfl
theorem bu_131_24 : mm_at mt_P 131 24 = some ((24, 1, .iconst 4, 0, 0, 0, 0), 3, 2, 1, 0, 1, 0, 0) := rfl
theorem bu_131_25 : mm_at mt_P 131 25 = some ((25, 1, .imul, 0, 0, 0, 0), 3, 2, 1, 0, 1, 0, 0) := rfl
theorem bu_131_26 : mm_at mt_P 131 26 = some ((26, 1, .iload_n 2, 0, 0, 0, 0), 3, 2, 1, 0, 1, 0, 0) := rfl
theorem bu_131_27 : mm_at mt_P 131 27 = some ((27, 1, .iadd, 0, 0, 0, 0), 3, 2, 1, 0, 1, 0, 0) := rfl
theorem bu_131_28 : mm_at mt_P 131 28 = some ((28, 1, .iaload, 0, 0, 0, 0), 3, 2, 1, 0, 1, 0, 0) := rfl
theorem bu_131_29 : mm_at mt_P 131 29 = some ((29, 3, .goto 5, 0, 0, 0, 0), 3, 2, 1, 0, 1, 0, 0) := rfl
theorem bu_131_32 : mm_at mt_P 131 32 = some ((32, 2, .bipush (-2), 0, 0, 0, 0), 3, 2, 1, 0, 1, 0, 0) := rfl
theorem bu_131_34 : mm_at mt_P 131 34 = some ((34, 1, .ireturn, 0, 0, 0, 0), 3, 2, 1, 0, 1, 0, 0) := rfl
theorem bu_223_0 : mm_at mt_P 223 0 = some ((0, 1, .iconst 0, 0, 0, 0, 0), 4, 1, 1, 8, 1, 0, 0) := rfl
theorem bu_223_1 : mm_at mt_P 223 1 = some ((1, 1, .istore_n 2, 0, 0, 0, 0), 4, 1, 1, 8, 1, 0, 0) := rfl
theorem bu_223_2 : mm_at mt_P 223 2 = some ((2, 1, .iconst 0, 0, 0, 0, 0), 4, 1, 1, 8, 1, 0, 0) := rfl
theorem bu_223_3 : mm_at mt_P 223 3 = some ((3, 1, .istore_n 3, 0, 0, 0, 0), 4, 1, 1, 8, 1, 0, 0) := rfl
theorem bu_223_4 : mm_at mt_P 223 4 = some ((4, 1, .iload_n 3, 0, 0, 0, 0), 4, 1, 1, 8, 1, 0, 0) := rfl
theorem bu_223_5 : mm_at mt_P 223 5 = some ((5, 1, .aload_n 0, 0, 0, 0, 0), 4, 1, 1, 8, 1, 0, 0) := rfl
theorem bu_223_6 : mm_at mt_P 223 6 = some ((6, 3, .getfield 54, 8, 8, 0, 440), 4, 1, 1, 8, 1, 0, 0) := rfl
theorem bu_223_9 : mm_at mt_P 223 9 = some ((9, 3, .getfield 184, 0, 6, 0, 341), 4, 1, 1, 8, 1, 0, 0) := rfl
theorem bu_223_12 : mm_at mt_P 223 12 = some ((12, 3, .if_icmp .ge 20, 0, 0, 0, 0), 4, 1, 1, 8, 1, 0, 0) := rfl
theorem bu_223_15 : mm_at mt_P 223 15 = some ((15, 1, .iload_n 2, 0, 0, 0, 0), 4, 1, 1, 8, 1, 0, 0) := rfl
theorem bu_223_16 : mm_at mt_P 223 16 = some ((16, 1, .aload_n 0, 0, 0, 0, 0), 4, 1, 1, 8, 1, 0, 0) := rfl
theorem bu_223_17 : mm_at mt_P 223 17 = some ((17, 3, .getfield 54, 8, 8, 0, 440), 4, 1, 1, 8, 1, 0, 0) := rfl
theorem bu_223_20 : mm_at mt_P 223 20 = some ((20, 1, .iload_n 3, 0, 0, 0, 0), 4, 1, 1, 8, 1, 0, 0) := rfl
theorem bu_223_21 : mm_at mt_P 223 21 = some ((21, 3, .invokevirtual 206, 124, 0, 0, 1031), 4, 1, 1, 8, 1, 0, 0) := rfl
theorem bu_223_24 : mm_at mt_P 223 24 = some ((24, 1, .iadd, 0, 0, 0, 0), 4, 1, 1, 8, 1, 0, 0) := rfl
theorem bu_223_25 : mm_at mt_P 223 25 = some ((25, 1, .istore_n 2, 0, 0, 0, 0), 4, 1, 1, 8, 1, 0, 0) := rfl
theorem bu_223_26 : mm_at mt_P 223 26 = some ((26, 3, .iinc 3 1, 0, 0, 0, 0), 4, 1, 1, 8, 1, 0, 0) := rfl
theorem bu_223_29 : mm_at mt_P 223 29 = some ((29, 3, .goto (-25), 0, 0, 0, 0), 4, 1, 1, 8, 1, 0, 0) := rfl
theorem bu_223_32 : mm_at mt_P 223 32 = some ((32, 1, .aload_n 0, 0, 0, 0, 0), 4, 1, 1, 8, 1, 0, 0) := rfl
theorem bu_223_33 : mm_at mt_P 223 33 = some ((33, 3, .getfield 54, 8, 8, 0, 440), 4, 1, 1, 8, 1, 0, 0) := rfl
theorem bu_223_36 : mm_at mt_P 223 36 = some ((36, 1, .aload_n 0, 0, 0, 0, 0), 4, 1, 1, 8, 1, 0, 0) := rfl
theorem bu_223_37 : mm_at mt_P 223 37 = some ((37, 3, .getfield 54, 8, 8, 0, 440), 4, 1, 1, 8, 1, 0, 0) := rfl
theorem bu_223_40 : mm_at mt_P 223 40 = some ((40, 3, .invokevirtual 203, 115, 0, 0, 1017), 4, 1, 1, 8, 1, 0, 0) := rfl
theorem bu_223_43 : mm_at mt_P 223 43 = some ((43, 3, .invokevirtual 206, 124, 0, 0, 1031), 4, 1, 1, 8, 1, 0, 0) := rfl
theorem bu_223_46 : mm_at mt_P 223 46 = some ((46, 1, .istore_n 3, 0, 0, 0, 0), 4, 1, 1, 8, 1, 0, 0) := rfl
theorem bu_223_47 : mm_at mt_P 223 47 = some ((47, 1, .iload_n 3, 0, 0, 0, 0), 4, 1, 1, 8, 1, 0, 0) := rfl
theorem bu_223_48 : mm_at mt_P 223 48 = some ((48, 1, .aload_n 0, 0, 0, 0, 0), 4, 1, 1, 8, 1, 0, 0) := rfl
theorem bu_223_49 : mm_at mt_P 223 49 = some ((49, 3, .getfield 54, 8, 8, 0, 440), 4, 1, 1, 8, 1, 0, 0) := rfl
theorem bu_223_52 : mm_at mt_P 223 52 = some ((52, 3, .getfield 184, 0, 6, 0, 341), 4, 1, 1, 8, 1, 0, 0) := rfl
theorem bu_223_55 : mm_at mt_P 223 55 = some ((55, 1, .imul, 0, 0, 0, 0), 4, 1, 1, 8, 1, 0, 0) := rfl
theorem bu_223_56 : mm_at mt_P 223 56 = some ((56, 1, .iload_n 2, 0, 0, 0, 0), 4, 1, 1, 8, 1, 0, 0) := rfl
theorem bu_223_57 : mm_at mt_P 223 57 = some ((57, 1, .isub, 0, 0, 0, 0), 4, 1, 1, 8, 1, 0, 0) := rfl
theorem bu_223_58 : mm_at mt_P 223 58 = some ((58, 1, .aload_n 0, 0, 0, 0, 0), 4, 1, 1, 8, 1, 0, 0) := rfl
theorem bu_223_59 : mm_at mt_P 223 59 = some ((59, 3, .getfield 54, 8, 8, 0, 440), 4, 1, 1, 8, 1, 0, 0) := rfl
theorem bu_223_62 : mm_at mt_P 223 62 = some ((62, 3, .getfield 184, 0, 6, 0, 341), 4, 1, 1, 8, 1, 0, 0) := rfl
theorem bu_223_65 : mm_at mt_P 223 65 = some ((65, 1, .iload_n 1, 0, 0, 0, 0), 4, 1, 1, 8, 1, 0, 0) := rfl
theorem bu_223_66 : mm_at mt_P 223 66 = some ((66, 3, .invokestatic 158, 233, 0, 0, 909), 4, 1, 1, 8, 1, 0, 0) := rfl
theorem bu_223_69 : mm_at mt_P 223 69 = some ((69, 1, .ireturn, 0, 0, 0, 0), 4, 1, 1, 8, 1, 0, 0) := rfl
theorem bu_256_0 : mm_at mt_P 256 0 = some ((0, 1, .iload_n 1, 0, 0, 0, 0), 2, 1, 1, 8, 1, 0, 0) := rfl
theorem bu_256_1 : mm_at mt_P 256 1 = some ((1, 1, .iconst (-1), 0, 0, 0, 0), 2, 1, 1, 8, 1, 0, 0) := rfl
theorem bu_256_2 : mm_at mt_P 256 2 = some ((2, 3, .if_icmp .ne 18, 0, 0, 0, 0), 2, 1, 1, 8, 1, 0, 0) := rfl
theorem bu_256_5 : mm_at mt_P 256 5 = some ((5, 1, .aload_n 0, 0, 0, 0, 0), 2, 1, 1, 8, 1, 0, 0) := rfl
theorem bu_256_6 : mm_at mt_P 256 6 = some ((6, 3, .getfield 54, 8, 8, 0, 440), 2, 1, 1, 8, 1, 0, 0) := rfl
theorem bu_256_9 : mm_at mt_P 256 9 = some ((9, 1, .aload_n 0, 0, 0, 0, 0), 2, 1, 1, 8, 1, 0, 0) := rfl
theorem bu_256_10 : mm_at mt_P 256 10 = some ((10, 3, .getfield 54, 8, 8, 0, 440), 2, 1, 1, 8, 1, 0, 0) := rfl
theorem bu_256_13 : mm_at mt_P 256 13 = some ((13, 3, .invokevirtual 203, 115, 0, 0, 1017), 2, 1, 1, 8, 1, 0, 0) := rfl
theorem bu_256_16 : mm_at mt_P 256 16 = some ((16, 3, .invokevirtual 206, 124, 0, 0, 1031), 2, 1, 1, 8, 1, 0, 0) := rfl
theorem bu_256_19 : mm_at mt_P 256 19 = some ((19, 1, .ireturn, 0, 0, 0, 0), 2, 1, 1, 8, 1, 0, 0) := rfl
theorem bu_256_20 : mm_at mt_P 256 20 = some ((20, 1, .iload_n 1, 0, 0, 0, 0), 2, 1, 1, 8, 1, 0, 0) := rfl
theorem bu_256_21 : mm_at mt_P 256 21 = some ((21, 3, .invokestatic 120, 239, 0, 0, 786), 2, 1, 1, 8, 1, 0, 0) := rfl
theorem bu_256_24 : mm_at mt_P 256 24 = some ((24, 3, .ifCond .eq 21, 0, 0, 0, 0), 2, 1, 1, 8, 1, 0, 0) := rfl
theorem bu_256_27 : mm_at mt_P 256 27 = some ((27, 1, .aload_n 0, 0, 0, 0, 0), 2, 1, 1, 8, 1, 0, 0) := rfl
theorem bu_256_28 : mm_at mt_P 256 28 = some ((28, 3, .getfield 54, 8, 8, 0, 440), 2, 1, 1, 8, 1, 0, 0) := rfl
theorem bu_256_31 : mm_at mt_P 256 31 = some ((31, 1, .aload_n 0, 0, 0, 0, 0), 2, 1, 1, 8, 1, 0, 0) := rfl
theorem bu_256_32 : mm_at mt_P 256 32 = some ((32, 3, .getfield 54, 8, 8, 0, 440), 2, 1, 1, 8, 1, 0, 0) := rfl
theorem bu_256_35 : mm_at mt_P 256 35 = some ((35, 3, .invokevirtual 203, 115, 0, 0, 1017), 2, 1, 1, 8, 1, 0, 0) := rfl
theorem bu_256_38 : mm_at mt_P 256 38 = some ((38, 1, .iload_n 1, 0, 0, 0, 0), 2, 1, 1, 8, 1, 0, 0) := rfl
theorem bu_256_39 : mm_at mt_P 256 39 = some ((39, 3, .invokevirtual 209, 131, 0, 0, 1032), 2, 1, 1, 8, 1, 0, 0) := rfl
theorem bu_256_42 : mm_at mt_P 256 42 = some ((42, 3, .goto 5, 0, 0, 0, 0), 2, 1, 1, 8, 1, 0, 0) := rfl
theorem bu_256_45 : mm_at mt_P 256 45 = some ((45, 2, .bipush (-100), 0, 0, 0, 0), 2, 1, 1, 8, 1, 0, 0) := rfl
theorem bu_256_47 : mm_at mt_P 256 47 = some ((47, 1, .ireturn, 0, 0, 0, 0), 2, 1, 1, 8, 1, 0, 0) := rfl
section DC
variable {E : mm_E} {PO : mm_C → Prop} {NN : Nat} {h0 h : mm_H} {s : Nat → Int32} {A : Nat → Nat → Int32} {L : Nat → Nat → Int64} {gs : List mm_F}
set_option maxHeartbeats 4000000 in
theorem dc_131 {d p : Int32} (hP : bm_P kw_T E h0 h s A L) (hm : 0 ≤ (s 204).toInt ∧ (s 204).toInt ≤ 6) (hz : (s 3106).toInt = (dl_sz (s 204).toInt.toNat : Int)) (hw : ∀ d, d < dl_sz (s 204).toInt.toNat → ∀ p, p < 4 → (A 32 (4 * d + p)).toInt = dr_cv (dl_m (s 204).toInt.toNat d p)) (hf : ∀ a, a < (s 204).toInt.toNat → ∀ q, q < 4 → 0 ≤ (A 8 (4 * a + q)).toInt ∧ (A 8 (4 * a + q)).toInt ≤ 9) (hd : 0 ≤ d.toInt ∧ d.toInt < (dl_sz (s 204).toInt.toNat : Int)) (hp : 0 ≤ p.toInt ∧ p.toInt < 4) (kk : ∀ r : Int32, r.toInt = dr_cv (dl_m (s 204).toInt.toNat d.toInt.toNat p.toInt.toNat) → bp_G E PO NN (mm_back (some (.int r)) gs h)) : bp_G E PO NN ((131, 0, [(0, .ref (E.1 + 31)), (1, .int d), (2, .int p)], [], 0, 0) :: gs, h, none) := by
  have hsz := dr_sz (m := (s 204).toInt.toNat) (by omega)
  refine bp_ld (pc' := 1) bu_131_0 rfl rfl (fun _ _ _ => rfl) rfl rfl ?_
  refine bp_i0 (pc' := 4) (pt := 32) bu_131_1 rfl rfl (fun k1 => ?_) (fun k1 => ?_)
  · replace k1 : (d).toInt < 0 := k1
    refine bp_c (pc' := 34) (n := -2) bu_131_32 rfl rfl (fun _ _ _ => rfl) (by decide) (fun c2 e3 => ?_)
    refine bp_ri bu_131_34 ?_
    exfalso
    omega
  · replace k1 : ¬ ((d).toInt < 0) := k1
    refine bp_ld (pc' := 5) bu_131_4 rfl rfl (fun _ _ _ => rfl) rfl rfl ?_
    refine bp_ld (pc' := 6) bu_131_5 rfl rfl (fun _ _ _ => rfl) rfl rfl ?_
    refine bn_gi (pc' := 9) (K := 3106) bu_131_6 rfl rfl (fun _ _ _ => rfl) hP kw_o31 kw_i31_6 rfl rfl ?_
    refine bp_ic (pc' := 12) (pt := 32) bu_131_9 rfl rfl (fun k4 => ?_) (fun k4 => ?_)
    · replace k4 : ((s 3106)).toInt ≤ (d).toInt := k4
      refine bp_c (pc' := 34) (n := -2) bu_131_32 rfl rfl (fun _ _ _ => rfl) (by decide) (fun c5 e6 => ?_)
      refine bp_ri bu_131_34 ?_
      exfalso
      omega
    · replace k4 : ¬ (((s 3106)).toInt ≤ (d).toInt) := k4
      refine bp_ld (pc' := 13) bu_131_12 rfl rfl (fun _ _ _ => rfl) rfl rfl ?_
      refine bp_csF (pc' := 16) (st := []) (args := [.int p]) bu_131_13 rfl rfl (by decide) rfl (Nat.le_of_ble_eq_true rfl) (Nat.le_of_ble_eq_true rfl) ?_
      refine kd_239 (a := p) (fun r7 e8 => ?_)
      show bp_G E PO NN ((131, 16, _, [.int r7], 0, 0) :: gs, h, none)
      refine bp_i0 (pc' := 19) (pt := 32) bu_131_16 rfl rfl (fun k9 => ?_) (fun k9 => ?_)
      · replace k9 : (r7).toInt = 0 := k9
        refine bp_c (pc' := 34) (n := -2) bu_131_32 rfl rfl (fun _ _ _ => rfl) (by decide) (fun c10 e11 => ?_)
        refine bp_ri bu_131_34 ?_
        exfalso
        omega
      · replace k9 : ¬ ((r7).toInt = 0) := k9
        refine bp_ld (pc' := 20) bu_131_19 rfl rfl (fun _ _ _ => rfl) rfl rfl ?_
        refine bn_gr (pc' := 23) (t := 32) bu_131_20 rfl rfl (fun _ _ _ => rfl) hP kw_o31 kw_r31_1 ?_
        refine bp_ld (pc' := 24) bu_131_23 rfl rfl (fun _ _ _ => rfl) rfl rfl ?_
        refine bp_c (pc' := 25) (n := 4) bu_131_24 rfl rfl (fun _ _ _ => rfl) (by decide) (fun c12 e13 => ?_)
        refine bp_mul (pc' := 26) bu_131_25 rfl (by rw [e13]; omega) (by rw [e13]; omega) (fun v14 e15 => ?_)
        rw [e13] at e15
        refine bp_ld (pc' := 27) bu_131_26 rfl rfl (fun _ _ _ => rfl) rfl rfl ?_
        refine bp_add (pc' := 28) bu_131_27 rfl (by omega) (by omega) (fun v16 e17 => ?_)
        refine bn_iaF (pc' := 29) bu_131_28 rfl rfl (fun _ _ _ => rfl) hP kw_a32 (Or.inl rfl) (fun b18 b19 => ?_)
        refine bp_go (pc' := 34) bu_131_29 rfl ?_
        refine bp_ri bu_131_34 ?_
        have hw9 := hw d.toInt.toNat (by omega) p.toInt.toNat (by omega)
        rw [show 4 * d.toInt.toNat + p.toInt.toNat = (v16).toInt.toNat by omega] at hw9
        exact kk _ hw9
set_option maxHeartbeats 4000000 in
theorem dc_124l {d : Int32} (hP : bm_P kw_T E h0 h s A L) (hm : 0 ≤ (s 204).toInt ∧ (s 204).toInt ≤ 6) (hz : (s 3106).toInt = (dl_sz (s 204).toInt.toNat : Int)) (hw : ∀ d, d < dl_sz (s 204).toInt.toNat → ∀ p, p < 4 → (A 32 (4 * d + p)).toInt = dr_cv (dl_m (s 204).toInt.toNat d p)) (hf : ∀ a, a < (s 204).toInt.toNat → ∀ q, q < 4 → 0 ≤ (A 8 (4 * a + q)).toInt ∧ (A 8 (4 * a + q)).toInt ≤ 9) (hd : 0 ≤ d.toInt ∧ d.toInt < (dl_sz (s 204).toInt.toNat : Int)) : ∀ NN : Nat, (∀ r : Int32, r.toInt = dr_k (fun a q => (A 8 (4 * a + q)).toInt) (dl_w (s 204).toInt.toNat d.toInt.toNat) → bp_G E PO NN (mm_back (some (.int r)) gs h)) → (∀ (lv : mm_V) (o : Option Value) (sm : Int32) (p : Int32), mm_get lv 0 = some (.ref (E.1 + 31)) → mm_get lv 1 = some (.int d) → mm_get lv 2 = some (.int sm) → mm_get lv 3 = some (.int p) → (0 ≤ p.toInt ∧ p.toInt ≤ 4) → (sm.toInt = dr_kp (fun a q => (A 8 (4 * a + q)).toInt) (dl_w (s 204).toInt.toNat d.toInt.toNat) p.toInt.toNat) → bp_G E PO NN ((124, 4, lv, [], 0, 0) :: gs, h, o)) := by
  intro NN
  induction NN with
  | zero => intro kk lv o sm p g0 g1 g2 g3 i1 i2; exact bp_zero bu_124_4
  | succ NN ih =>
    intro kk lv o sm p g0 g1 g2 g3 i1 i2
    have hsz := dr_sz (m := (s 204).toInt.toNat) (by omega)
    refine bp_ld (pc' := 5) bu_124_4 rfl rfl (fun _ _ _ => rfl) g3 rfl ?_
    refine bp_c (pc' := 6) (n := 4) bu_124_5 rfl rfl (fun _ _ _ => rfl) (by decide) (fun c20 e21 => ?_)
    refine bp_ic (pc' := 9) (pt := 32) bu_124_6 rfl rfl (fun k22 => ?_) (fun k22 => ?_)
    · replace k22 : (c20).toInt ≤ (p).toInt := k22
      refine bp_ld (pc' := 33) bu_124_32 rfl rfl (fun _ _ _ => rfl) g2 rfl ?_
      refine bp_ri bu_124_33 ?_
      exact kk _ (by rw [i2, show p.toInt.toNat = 4 by omega]; rfl)
    · replace k22 : ¬ ((c20).toInt ≤ (p).toInt) := k22
      refine bp_ld (pc' := 10) bu_124_9 rfl rfl (fun _ _ _ => rfl) g2 rfl ?_
      refine bp_ld (pc' := 11) bu_124_10 rfl rfl (fun _ _ _ => rfl) g0 rfl ?_
      refine bn_gr (pc' := 14) (t := 2) bu_124_11 rfl rfl (fun _ _ _ => rfl) hP kw_o31 kw_r31_0 ?_
      refine bp_ld (pc' := 15) bu_124_14 rfl rfl (fun _ _ _ => rfl) g0 rfl ?_
      refine bp_ld (pc' := 16) bu_124_15 rfl rfl (fun _ _ _ => rfl) g1 rfl ?_
      refine bp_ld (pc' := 17) bu_124_16 rfl rfl (fun _ _ _ => rfl) g3 rfl ?_
      refine bn_cvF (pc' := 20) (st := [.ref (E.1 + 2), .int sm]) (args := [.int p, .int d]) bu_124_17 rfl rfl rfl (by decide) hP kw_o31 (by decide) rfl (Nat.le_of_ble_eq_true rfl) (Nat.le_of_ble_eq_true rfl) ?_
      refine dc_131 (d := d) (p := p) hP hm hz hw hf (by omega) (by omega) (fun r23 e24 => ?_)
      rw [← (dr_d (m := (s 204).toInt.toNat) (d := d.toInt.toNat) (by omega) (by omega)).1 p.toInt.toNat (by omega)] at e24
      have hcv := dr_cv_b (w := (dl_w (s 204).toInt.toNat d.toInt.toNat)) (p := p.toInt.toNat)
      rw [← e24] at hcv
      have ho := dl_ok (m := (s 204).toInt.toNat) (d := d.toInt.toNat) (by omega) (by omega)
      have hlt := dr_ok_lt ho (show p.toInt.toNat < 4 by omega)
      have hb := dr_kp_b (f := (fun a q => (A 8 (4 * a + q)).toInt)) hf ho p.toInt.toNat (by omega)
      show bp_G E PO (NN + 1) ((124, 20, lv, [.int r23, .ref (E.1 + 2), .int sm], 0, 0) :: gs, h, none)
      refine bp_ld (pc' := 21) bu_124_20 rfl rfl (fun _ _ _ => rfl) g3 rfl ?_
      refine bn_cvF (pc' := 24) (st := [.int sm]) (args := [.int p, .int r23]) bu_124_21 rfl rfl rfl (by decide) hP kw_o2 (by decide) rfl (Nat.le_of_ble_eq_true rfl) (Nat.le_of_ble_eq_true rfl) ?_
      refine hy_208 (a := r23) (p := p) hP hm (fun r25 e26 e27 => ?_)
      have hr9 : (dr_dg (dl_w (s 204).toInt.toNat d.toInt.toNat) p.toInt.toNat = 6 → r25.toInt = 0) ∧ (dr_dg (dl_w (s 204).toInt.toNat d.toInt.toNat) p.toInt.toNat ≠ 6 → r25.toInt = (A 8 (4 * dr_dg (dl_w (s 204).toInt.toNat d.toInt.toNat) p.toInt.toNat + p.toInt.toNat)).toInt ∧ 0 ≤ r25.toInt ∧ r25.toInt ≤ 9) := by
        refine ⟨fun e6 => e27 (by omega), fun e6 => ?_⟩
        have y := congrArg Int32.toInt (e26 (by omega))
        rw [show (r23).toInt.toNat = dr_dg (dl_w (s 204).toInt.toNat d.toInt.toNat) p.toInt.toNat by omega] at y
        have z := hf (dr_dg (dl_w (s 204).toInt.toNat d.toInt.toNat) p.toInt.toNat) (by omega) p.toInt.toNat (by omega)
        omega
      have hr8 : 0 ≤ r25.toInt ∧ r25.toInt ≤ 9 := by
        by_cases e6 : dr_dg (dl_w (s 204).toInt.toNat d.toInt.toNat) p.toInt.toNat = 6
        · have y := hr9.1 e6
          omega
        · exact (hr9.2 e6).2
      show bp_G E PO (NN + 1) ((124, 24, lv, [.int r25, .int sm], 0, 0) :: gs, h, none)
      refine bp_add (pc' := 25) bu_124_24 rfl (by omega) (by omega) (fun v28 e29 => ?_)
      refine bp_st (pc' := 26) bu_124_25 rfl rfl (fun _ _ _ => rfl) rfl (by decide) (by decide) (fun lv30 F31 g32 => ?_)
      have g33 := F31 0 (.ref (E.1 + 31)) g0 (by decide) (Or.inl rfl)
      have g34 := F31 1 (.int d) g1 (by decide) (Or.inl rfl)
      have g35 := F31 3 (.int p) g3 (by decide) (Or.inl rfl)
      refine bp_inc (pc' := 29) bu_124_26 rfl (by decide) g35 (by decide) (by omega) (by omega) (fun lv36 y39 F37 g38 e40 => ?_)
      have g41 := F37 0 (.ref (E.1 + 31)) g33 (by decide) (Or.inl rfl)
      have g42 := F37 1 (.int d) g34 (by decide) (Or.inl rfl)
      have g43 := F37 2 (.int v28) g32 (by decide) (Or.inl rfl)
      refine bp_goD (pc' := 4) bu_124_29 rfl ?_
      have hp2 : (y39).toInt.toNat = p.toInt.toNat + 1 := by omega
      exact ih (fun r q => bp_mono (Nat.le_succ NN) (kk r q)) _ _ (v28) (y39) g41 g42 g43 g38 (by omega) (by
        rw [hp2]
        show _ = dr_kp _ _ _ + (if dr_dg (dl_w (s 204).toInt.toNat d.toInt.toNat) p.toInt.toNat = 6 then 0 else (A 8 (4 * dr_dg (dl_w (s 204).toInt.toNat d.toInt.toNat) p.toInt.toNat + p.toInt.toNat)).toInt)
        by_cases e6 : dr_dg (dl_w (s 204).toInt.toNat d.toInt.toNat) p.toInt.toNat = 6
        · rw [if_pos e6]
          have y := hr9.1 e6
          omega
        · rw [if_neg e6]
          have y := (hr9.2 e6).1
          omega)
set_option maxHeartbeats 4000000 in
theorem dc_124 {d : Int32} (hP : bm_P kw_T E h0 h s A L) (hm : 0 ≤ (s 204).toInt ∧ (s 204).toInt ≤ 6) (hz : (s 3106).toInt = (dl_sz (s 204).toInt.toNat : Int)) (hw : ∀ d, d < dl_sz (s 204).toInt.toNat → ∀ p, p < 4 → (A 32 (4 * d + p)).toInt = dr_cv (dl_m (s 204).toInt.toNat d p)) (hf : ∀ a, a < (s 204).toInt.toNat → ∀ q, q < 4 → 0 ≤ (A 8 (4 * a + q)).toInt ∧ (A 8 (4 * a + q)).toInt ≤ 9) (hd : 0 ≤ d.toInt ∧ d.toInt < (dl_sz (s 204).toInt.toNat : Int)) (kk : (∀ r : Int32, r.toInt = dr_k (fun a q => (A 8 (4 * a + q)).toInt) (dl_w (s 204).toInt.toNat d.toInt.toNat) → bp_G E PO NN (mm_back (some (.int r)) gs h))) : bp_G E PO NN ((124, 0, [(0, .ref (E.1 + 31)), (1, .int d)], [], 0, 0) :: gs, h, none) := by
  refine bp_c (pc' := 1) (n := 0) bu_124_0 rfl rfl (fun _ _ _ => rfl) (by decide) (fun c44 e45 => ?_)
  refine bp_st (pc' := 2) bu_124_1 rfl rfl (fun _ _ _ => rfl) rfl (by decide) (by decide) (fun lv46 F47 g48 => ?_)
  have g49 := F47 0 (.ref (E.1 + 31)) rfl (by decide) (Or.inl rfl)
  have g50 := F47 1 (.int d) rfl (by decide) (Or.inl rfl)
  refine bp_c (pc' := 3) (n := 0) bu_124_2 rfl rfl (fun _ _ _ => rfl) (by decide) (fun c51 e52 => ?_)
  refine bp_st (pc' := 4) bu_124_3 rfl rfl (fun _ _ _ => rfl) rfl (by decide) (by decide) (fun lv53 F54 g55 => ?_)
  have g56 := F54 0 (.ref (E.1 + 31)) g49 (by decide) (Or.inl rfl)
  have g57 := F54 1 (.int d) g50 (by decide) (Or.inl rfl)
  have g58 := F54 2 (.int c44) g48 (by decide) (Or.inl rfl)
  exact dc_124l hP hm hz hw hf hd NN kk _ _ _ _ g56 g57 g58 g55 (by omega) (by rw [show (c51).toInt.toNat = 0 by omega]; show _ = (0 : Int); omega)
set_option maxHeartbeats 4000000 in
theorem dc_115l  (hP : bm_P kw_T E h0 h s A L) (hm : 0 ≤ (s 204).toInt ∧ (s 204).toInt ≤ 6) (hz : (s 3106).toInt = (dl_sz (s 204).toInt.toNat : Int)) (hw : ∀ d, d < dl_sz (s 204).toInt.toNat → ∀ p, p < 4 → (A 32 (4 * d + p)).toInt = dr_cv (dl_m (s 204).toInt.toNat d p)) (hf : ∀ a, a < (s 204).toInt.toNat → ∀ q, q < 4 → 0 ≤ (A 8 (4 * a + q)).toInt ∧ (A 8 (4 * a + q)).toInt ≤ 9) : ∀ NN : Nat, (∀ b : Int32, (0 ≤ b.toInt ∧ b.toInt < (dl_sz (s 204).toInt.toNat : Int)) → dr_m (dr_k (fun a q => (A 8 (4 * a + q)).toInt)) (dl_L (s 204).toInt.toNat (dl_sz (s 204).toInt.toNat)) = some (dl_w (s 204).toInt.toNat b.toInt.toNat) → bp_G E PO NN (mm_back (some (.int b)) gs h)) → (∀ (lv : mm_V) (o : Option Value) (b : Int32) (mo : Int32) (d : Int32), mm_get lv 0 = some (.ref (E.1 + 31)) → mm_get lv 1 = some (.int b) → mm_get lv 2 = some (.int mo) → mm_get lv 3 = some (.int d) → (1 ≤ d.toInt ∧ d.toInt ≤ (dl_sz (s 204).toInt.toNat : Int)) → (0 ≤ b.toInt ∧ b.toInt < d.toInt) → (dr_m (dr_k (fun a q => (A 8 (4 * a + q)).toInt)) (dl_L (s 204).toInt.toNat d.toInt.toNat) = some (dl_w (s 204).toInt.toNat b.toInt.toNat)) → (mo.toInt = dr_k (fun a q => (A 8 (4 * a + q)).toInt) (dl_w (s 204).toInt.toNat b.toInt.toNat)) → bp_G E PO NN ((115, 10, lv, [], 0, 0) :: gs, h, o)) := by
  intro NN
  induction NN with
  | zero => intro kk lv o b mo d g0 g1 g2 g3 i1 i2 i3 i4; exact bp_zero bu_115_10
  | succ NN ih =>
    intro kk lv o b mo d g0 g1 g2 g3 i1 i2 i3 i4
    have hsz := dr_sz (m := (s 204).toInt.toNat) (by omega)
    refine bp_ld (pc' := 11) bu_115_10 rfl rfl (fun _ _ _ => rfl) g3 rfl ?_
    refine bp_ld (pc' := 12) bu_115_11 rfl rfl (fun _ _ _ => rfl) g0 rfl ?_
    refine bn_gi (pc' := 15) (K := 3106) bu_115_12 rfl rfl (fun _ _ _ => rfl) hP kw_o31 kw_i31_6 rfl rfl ?_
    refine bp_ic (pc' := 18) (pt := 42) bu_115_15 rfl rfl (fun k59 => ?_) (fun k59 => ?_)
    · replace k59 : ((s 3106)).toInt ≤ (d).toInt := k59
      refine bp_ld (pc' := 43) bu_115_42 rfl rfl (fun _ _ _ => rfl) g1 rfl ?_
      refine bp_ri bu_115_43 ?_
      exact kk _ (by omega) (by rw [show dl_sz (s 204).toInt.toNat = d.toInt.toNat by omega]; exact i3)
    · replace k59 : ¬ (((s 3106)).toInt ≤ (d).toInt) := k59
      refine bp_ld (pc' := 19) bu_115_18 rfl rfl (fun _ _ _ => rfl) g0 rfl ?_
      refine bp_ld (pc' := 20) bu_115_19 rfl rfl (fun _ _ _ => rfl) g3 rfl ?_
      refine bn_cvF (pc' := 23) (st := []) (args := [.int d]) bu_115_20 rfl rfl rfl (by decide) hP kw_o31 (by decide) rfl (Nat.le_of_ble_eq_true rfl) (Nat.le_of_ble_eq_true rfl) ?_
      refine dc_124 (d := d) hP hm hz hw hf (by omega) (fun r60 e61 => ?_)
      have hb62 : 0 ≤ dr_k (fun a q => (A 8 (4 * a + q)).toInt) (dl_w (s 204).toInt.toNat (d).toInt.toNat) ∧ dr_k (fun a q => (A 8 (4 * a + q)).toInt) (dl_w (s 204).toInt.toNat (d).toInt.toNat) ≤ 9 * ((4 : Nat) : Int) := dr_kp_b (f := (fun a q => (A 8 (4 * a + q)).toInt)) hf (dl_ok (by omega) (by omega)) 4 (Nat.le_refl _)
      show bp_G E PO (NN + 1) ((115, 23, lv, [.int r60], 0, 0) :: gs, h, none)
      refine bp_st (pc' := 25) bu_115_23 rfl rfl (fun _ _ _ => rfl) rfl (by decide) (by decide) (fun lv63 F64 g65 => ?_)
      have g66 := F64 0 (.ref (E.1 + 31)) g0 (by decide) (Or.inl rfl)
      have g67 := F64 1 (.int b) g1 (by decide) (Or.inl rfl)
      have g68 := F64 2 (.int mo) g2 (by decide) (Or.inl rfl)
      have g69 := F64 3 (.int d) g3 (by decide) (Or.inl rfl)
      refine bp_ld (pc' := 27) bu_115_25 rfl rfl (fun _ _ _ => rfl) g65 rfl ?_
      refine bp_ld (pc' := 28) bu_115_27 rfl rfl (fun _ _ _ => rfl) g68 rfl ?_
      refine bp_ic (pc' := 31) (pt := 36) bu_115_28 rfl rfl (fun k70 => ?_) (fun k70 => ?_)
      · replace k70 : (r60).toInt ≤ (mo).toInt := k70
        refine bp_inc (pc' := 39) bu_115_36 rfl (by decide) g69 (by decide) (by omega) (by omega) (fun lv71 y74 F72 g73 e75 => ?_)
        have g76 := F72 0 (.ref (E.1 + 31)) g66 (by decide) (Or.inl rfl)
        have g77 := F72 1 (.int b) g67 (by decide) (Or.inl rfl)
        have g78 := F72 2 (.int mo) g68 (by decide) (Or.inl rfl)
        have g79 := F72 4 (.int r60) g65 (by decide) (Or.inl rfl)
        refine bp_goD (pc' := 10) bu_115_39 rfl ?_
        have hd2 : (y74).toInt.toNat = d.toInt.toNat + 1 := by omega
        have hm2 : dr_m (dr_k (fun a q => (A 8 (4 * a + q)).toInt)) (dl_L (s 204).toInt.toNat (d.toInt.toNat + 1)) = dr_u (dr_k (fun a q => (A 8 (4 * a + q)).toInt)) (some (dl_w (s 204).toInt.toNat b.toInt.toNat)) (dl_w (s 204).toInt.toNat d.toInt.toNat) := by rw [dl_L_s, dr_m_a, i3]
        exact ih (fun r q1 q2 => bp_mono (Nat.le_succ NN) (kk r q1 q2)) _ _ (b) (mo) (y74) g76 g77 g78 g73 (by omega) (by omega) (by
          rw [hd2, hm2]
          show (if dr_k (fun a q => (A 8 (4 * a + q)).toInt) (dl_w (s 204).toInt.toNat b.toInt.toNat) < dr_k (fun a q => (A 8 (4 * a + q)).toInt) (dl_w (s 204).toInt.toNat d.toInt.toNat) then some (dl_w (s 204).toInt.toNat d.toInt.toNat) else some (dl_w (s 204).toInt.toNat b.toInt.toNat)) = _
          rw [if_neg (by omega)]) (by omega)
      · replace k70 : ¬ ((r60).toInt ≤ (mo).toInt) := k70
        refine bp_ld (pc' := 32) bu_115_31 rfl rfl (fun _ _ _ => rfl) g69 rfl ?_
        refine bp_st (pc' := 33) bu_115_32 rfl rfl (fun _ _ _ => rfl) rfl (by decide) (by decide) (fun lv80 F81 g82 => ?_)
        have g83 := F81 0 (.ref (E.1 + 31)) g66 (by decide) (Or.inl rfl)
        have g84 := F81 2 (.int mo) g68 (by decide) (Or.inl rfl)
        have g85 := F81 3 (.int d) g69 (by decide) (Or.inl rfl)
        have g86 := F81 4 (.int r60) g65 (by decide) (Or.inl rfl)
        refine bp_ld (pc' := 35) bu_115_33 rfl rfl (fun _ _ _ => rfl) g86 rfl ?_
        refine bp_st (pc' := 36) bu_115_35 rfl rfl (fun _ _ _ => rfl) rfl (by decide) (by decide) (fun lv87 F88 g89 => ?_)
        have g90 := F88 0 (.ref (E.1 + 31)) g83 (by decide) (Or.inl rfl)
        have g91 := F88 3 (.int d) g85 (by decide) (Or.inl rfl)
        have g92 := F88 4 (.int r60) g86 (by decide) (Or.inl rfl)
        have g93 := F88 1 (.int d) g82 (by decide) (Or.inl rfl)
        refine bp_inc (pc' := 39) bu_115_36 rfl (by decide) g91 (by decide) (by omega) (by omega) (fun lv94 y97 F95 g96 e98 => ?_)
        have g99 := F95 0 (.ref (E.1 + 31)) g90 (by decide) (Or.inl rfl)
        have g100 := F95 4 (.int r60) g92 (by decide) (Or.inl rfl)
        have g101 := F95 1 (.int d) g93 (by decide) (Or.inl rfl)
        have g102 := F95 2 (.int r60) g89 (by decide) (Or.inl rfl)
        refine bp_goD (pc' := 10) bu_115_39 rfl ?_
        have hd2 : (y97).toInt.toNat = d.toInt.toNat + 1 := by omega
        have hm2 : dr_m (dr_k (fun a q => (A 8 (4 * a + q)).toInt)) (dl_L (s 204).toInt.toNat (d.toInt.toNat + 1)) = dr_u (dr_k (fun a q => (A 8 (4 * a + q)).toInt)) (some (dl_w (s 204).toInt.toNat b.toInt.toNat)) (dl_w (s 204).toInt.toNat d.toInt.toNat) := by rw [dl_L_s, dr_m_a, i3]
        exact ih (fun r q1 q2 => bp_mono (Nat.le_succ NN) (kk r q1 q2)) _ _ (d) (r60) (y97) g99 g101 g102 g96 (by omega) (by omega) (by
          rw [hd2, hm2]
          show (if dr_k (fun a q => (A 8 (4 * a + q)).toInt) (dl_w (s 204).toInt.toNat b.toInt.toNat) < dr_k (fun a q => (A 8 (4 * a + q)).toInt) (dl_w (s 204).toInt.toNat d.toInt.toNat) then some (dl_w (s 204).toInt.toNat d.toInt.toNat) else some (dl_w (s 204).toInt.toNat b.toInt.toNat)) = _
          rw [if_pos (by omega)]) (by omega)
set_option maxHeartbeats 4000000 in
theorem dc_115 (hP : bm_P kw_T E h0 h s A L) (hm : 0 ≤ (s 204).toInt ∧ (s 204).toInt ≤ 6) (hz : (s 3106).toInt = (dl_sz (s 204).toInt.toNat : Int)) (hw : ∀ d, d < dl_sz (s 204).toInt.toNat → ∀ p, p < 4 → (A 32 (4 * d + p)).toInt = dr_cv (dl_m (s 204).toInt.toNat d p)) (hf : ∀ a, a < (s 204).toInt.toNat → ∀ q, q < 4 → 0 ≤ (A 8 (4 * a + q)).toInt ∧ (A 8 (4 * a + q)).toInt ≤ 9) (kk : (∀ b : Int32, (0 ≤ b.toInt ∧ b.toInt < (dl_sz (s 204).toInt.toNat : Int)) → dr_m (dr_k (fun a q => (A 8 (4 * a + q)).toInt)) (dl_L (s 204).toInt.toNat (dl_sz (s 204).toInt.toNat)) = some (dl_w (s 204).toInt.toNat b.toInt.toNat) → bp_G E PO NN (mm_back (some (.int b)) gs h))) : bp_G E PO NN ((115, 0, [(0, .ref (E.1 + 31))], [], 0, 0) :: gs, h, none) := by
  have hsz := dr_sz (m := (s 204).toInt.toNat) (by omega)
  refine bp_c (pc' := 1) (n := 0) bu_115_0 rfl rfl (fun _ _ _ => rfl) (by decide) (fun c103 e104 => ?_)
  refine bp_st (pc' := 2) bu_115_1 rfl rfl (fun _ _ _ => rfl) rfl (by decide) (by decide) (fun lv105 F106 g107 => ?_)
  have g108 := F106 0 (.ref (E.1 + 31)) rfl (by decide) (Or.inl rfl)
  refine bp_ld (pc' := 3) bu_115_2 rfl rfl (fun _ _ _ => rfl) g108 rfl ?_
  refine bp_c (pc' := 4) (n := 0) bu_115_3 rfl rfl (fun _ _ _ => rfl) (by decide) (fun c109 e110 => ?_)
  refine bn_cvF (pc' := 7) (st := []) (args := [.int c109]) bu_115_4 rfl rfl rfl (by decide) hP kw_o31 (by decide) rfl (Nat.le_of_ble_eq_true rfl) (Nat.le_of_ble_eq_true rfl) ?_
  refine dc_124 (d := c109) hP hm hz hw hf (by omega) (fun r111 e112 => ?_)
  have hb113 : 0 ≤ dr_k (fun a q => (A 8 (4 * a + q)).toInt) (dl_w (s 204).toInt.toNat (c109).toInt.toNat) ∧ dr_k (fun a q => (A 8 (4 * a + q)).toInt) (dl_w (s 204).toInt.toNat (c109).toInt.toNat) ≤ 9 * ((4 : Nat) : Int) := dr_kp_b (f := (fun a q => (A 8 (4 * a + q)).toInt)) hf (dl_ok (by omega) (by omega)) 4 (Nat.le_refl _)
  show bp_G E PO NN ((115, 7, lv105, [.int r111], 0, 0) :: gs, h, none)
  refine bp_st (pc' := 8) bu_115_7 rfl rfl (fun _ _ _ => rfl) rfl (by decide) (by decide) (fun lv114 F115 g116 => ?_)
  have g117 := F115 0 (.ref (E.1 + 31)) g108 (by decide) (Or.inl rfl)
  have g118 := F115 1 (.int c103) g107 (by decide) (Or.inl rfl)
  refine bp_c (pc' := 9) (n := 1) bu_115_8 rfl rfl (fun _ _ _ => rfl) (by decide) (fun c119 e120 => ?_)
  refine bp_st (pc' := 10) bu_115_9 rfl rfl (fun _ _ _ => rfl) rfl (by decide) (by decide) (fun lv121 F122 g123 => ?_)
  have g124 := F122 0 (.ref (E.1 + 31)) g117 (by decide) (Or.inl rfl)
  have g125 := F122 1 (.int c103) g118 (by decide) (Or.inl rfl)
  have g126 := F122 2 (.int r111) g116 (by decide) (Or.inl rfl)
  have hb0 : (c103).toInt.toNat = 0 := by omega
  have hd0 : (c109).toInt.toNat = 0 := by omega
  rw [hd0] at e112
  exact dc_115l hP hm hz hw hf NN kk _ _ _ _ _ g124 g125 g126 g123 (by omega) (by omega) (by rw [show (c119).toInt.toNat = 1 by omega, hb0]; rfl) (by rw [hb0]; exact e112)
set_option maxHeartbeats 4000000 in
theorem dc_256 {p : Int32} (hP : bm_P kw_T E h0 h s A L) (hm : 0 ≤ (s 204).toInt ∧ (s 204).toInt ≤ 6) (hz : (s 3106).toInt = (dl_sz (s 204).toInt.toNat : Int)) (hw : ∀ d, d < dl_sz (s 204).toInt.toNat → ∀ p, p < 4 → (A 32 (4 * d + p)).toInt = dr_cv (dl_m (s 204).toInt.toNat d p)) (hf : ∀ a, a < (s 204).toInt.toNat → ∀ q, q < 4 → 0 ≤ (A 8 (4 * a + q)).toInt ∧ (A 8 (4 * a + q)).toInt ≤ 9) (kk : ∀ r : Int32, kd_Pro (s 204).toInt.toNat (fun a q => (A 8 (4 * a + q)).toInt) p r → bp_G E PO NN (mm_back (some (.int r)) gs h)) : bp_G E PO NN ((256, 0, [(0, .ref (E.1 + 0)), (1, .int p)], [], 0, 0) :: gs, h, none) := by
  have hsz := dr_sz (m := (s 204).toInt.toNat) (by omega)
  refine bp_ld (pc' := 1) bu_256_0 rfl rfl (fun _ _ _ => rfl) rfl rfl ?_
  refine bp_c (pc' := 2) (n := -1) bu_256_1 rfl rfl (fun _ _ _ => rfl) (by decide) (fun c127 e128 => ?_)
  refine bp_ic (pc' := 5) (pt := 20) bu_256_2 rfl rfl (fun k129 => ?_) (fun k129 => ?_)
  · replace k129 : (p).toInt ≠ (c127).toInt := k129
    refine bp_ld (pc' := 21) bu_256_20 rfl rfl (fun _ _ _ => rfl) rfl rfl ?_
    refine bp_csF (pc' := 24) (st := []) (args := [.int p]) bu_256_21 rfl rfl (by decide) rfl (Nat.le_of_ble_eq_true rfl) (Nat.le_of_ble_eq_true rfl) ?_
    refine kd_239 (a := p) (fun r130 e131 => ?_)
    show bp_G E PO NN ((256, 24, _, [.int r130], 0, 0) :: gs, h, none)
    refine bp_i0 (pc' := 27) (pt := 45) bu_256_24 rfl rfl (fun k132 => ?_) (fun k132 => ?_)
    · replace k132 : (r130).toInt = 0 := k132
      refine bp_c (pc' := 47) (n := -100) bu_256_45 rfl rfl (fun _ _ _ => rfl) (by decide) (fun c133 e134 => ?_)
      refine bp_ri bu_256_47 ?_
      exact kk _ (Or.inl ⟨by omega, by omega⟩)
    · replace k132 : ¬ ((r130).toInt = 0) := k132
      refine bp_ld (pc' := 28) bu_256_27 rfl rfl (fun _ _ _ => rfl) rfl rfl ?_
      refine bn_gr (pc' := 31) (t := 31) bu_256_28 rfl rfl (fun _ _ _ => rfl) hP kw_o0 kw_r0_8 ?_
      refine bp_ld (pc' := 32) bu_256_31 rfl rfl (fun _ _ _ => rfl) rfl rfl ?_
      refine bn_gr (pc' := 35) (t := 31) bu_256_32 rfl rfl (fun _ _ _ => rfl) hP kw_o0 kw_r0_8 ?_
      refine bn_cvF (pc' := 38) (st := [.ref (E.1 + 31)]) (args := []) bu_256_35 rfl rfl rfl (by decide) hP kw_o31 (by decide) rfl (Nat.le_of_ble_eq_true rfl) (Nat.le_of_ble_eq_true rfl) ?_
      refine dc_115 hP hm hz hw hf (fun b135 e136 e137 => ?_)
      rw [dr_E (m := (s 204).toInt.toNat) (by omega)] at e137
      show bp_G E PO NN ((256, 38, _, [.int b135, .ref (E.1 + 31)], 0, 0) :: gs, h, none)
      refine bp_ld (pc' := 39) bu_256_38 rfl rfl (fun _ _ _ => rfl) rfl rfl ?_
      refine bn_cvF (pc' := 42) (st := []) (args := [.int p, .int b135]) bu_256_39 rfl rfl rfl (by decide) hP kw_o31 (by decide) rfl (Nat.le_of_ble_eq_true rfl) (Nat.le_of_ble_eq_true rfl) ?_
      refine dc_131 (d := b135) (p := p) hP hm hz hw hf (by omega) (by omega) (fun r138 e139 => ?_)
      show bp_G E PO NN ((256, 42, _, [.int r138], 0, 0) :: gs, h, none)
      refine bp_go (pc' := 47) bu_256_42 rfl ?_
      refine bp_ri bu_256_47 ?_
      rw [← (dr_d (m := (s 204).toInt.toNat) (d := b135.toInt.toNat) (by omega) (by omega)).1 p.toInt.toNat (by omega)] at e139
      exact kk _ (Or.inr ⟨by omega, _, e137, fun z => absurd z (by omega), fun _ => e139⟩)
  · replace k129 : ¬ ((p).toInt ≠ (c127).toInt) := k129
    refine bp_ld (pc' := 6) bu_256_5 rfl rfl (fun _ _ _ => rfl) rfl rfl ?_
    refine bn_gr (pc' := 9) (t := 31) bu_256_6 rfl rfl (fun _ _ _ => rfl) hP kw_o0 kw_r0_8 ?_
    refine bp_ld (pc' := 10) bu_256_9 rfl rfl (fun _ _ _ => rfl) rfl rfl ?_
    refine bn_gr (pc' := 13) (t := 31) bu_256_10 rfl rfl (fun _ _ _ => rfl) hP kw_o0 kw_r0_8 ?_
    refine bn_cvF (pc' := 16) (st := [.ref (E.1 + 31)]) (args := []) bu_256_13 rfl rfl rfl (by decide) hP kw_o31 (by decide) rfl (Nat.le_of_ble_eq_true rfl) (Nat.le_of_ble_eq_true rfl) ?_
    refine dc_115 hP hm hz hw hf (fun b140 e141 e142 => ?_)
    rw [dr_E (m := (s 204).toInt.toNat) (by omega)] at e142
    show bp_G E PO NN ((256, 16, _, [.int b140, .ref (E.1 + 31)], 0, 0) :: gs, h, none)
    refine bn_cvF (pc' := 19) (st := []) (args := [.int b140]) bu_256_16 rfl rfl rfl (by decide) hP kw_o31 (by decide) rfl (Nat.le_of_ble_eq_true rfl) (Nat.le_of_ble_eq_true rfl) ?_
    refine dc_124 (d := b140) hP hm hz hw hf (by omega) (fun r143 e144 => ?_)
    have hb145 : 0 ≤ dr_k (fun a q => (A 8 (4 * a + q)).toInt) (dl_w (s 204).toInt.toNat (b140).toInt.toNat) ∧ dr_k (fun a q => (A 8 (4 * a + q)).toInt) (dl_w (s 204).toInt.toNat (b140).toInt.toNat) ≤ 9 * ((4 : Nat) : Int) := dr_kp_b (f := (fun a q => (A 8 (4 * a + q)).toInt)) hf (dl_ok (by omega) (by omega)) 4 (Nat.le_refl _)
    show bp_G E PO NN ((256, 19, _, [.int r143], 0, 0) :: gs, h, none)
    refine bp_ri bu_256_19 ?_
    exact kk _ (Or.inr ⟨by omega, _, e142, fun _ => e144, fun z => absurd z (by omega)⟩)
set_option maxHeartbeats 4000000 in
theorem dc_223l {b : Int32} (hP : bm_P kw_T E h0 h s A L) (hm : 0 ≤ (s 204).toInt ∧ (s 204).toInt ≤ 6) (hz : (s 3106).toInt = (dl_sz (s 204).toInt.toNat : Int)) (hw : ∀ d, d < dl_sz (s 204).toInt.toNat → ∀ p, p < 4 → (A 32 (4 * d + p)).toInt = dr_cv (dl_m (s 204).toInt.toNat d p)) (hf : ∀ a, a < (s 204).toInt.toNat → ∀ q, q < 4 → 0 ≤ (A 8 (4 * a + q)).toInt ∧ (A 8 (4 * a + q)).toInt ≤ 9) : ∀ NN : Nat, (∀ (lv : mm_V) (o : Option Value) (t : Int32), t.toInt = dr_s (dr_k (fun a q => (A 8 (4 * a + q)).toInt)) (dl_L (s 204).toInt.toNat (dl_sz (s 204).toInt.toNat)) → 0 ≤ t.toInt ∧ t.toInt ≤ 13000 → mm_get lv 0 = some (.ref (E.1 + 0)) → mm_get lv 1 = some (.int b) → mm_get lv 2 = some (.int t) → bp_G E PO NN ((223, 32, lv, [], 0, 0) :: gs, h, o)) → (∀ (lv : mm_V) (o : Option Value) (t d : Int32), t.toInt = dr_s (dr_k (fun a q => (A 8 (4 * a + q)).toInt)) (dl_L (s 204).toInt.toNat d.toInt.toNat) → 0 ≤ t.toInt ∧ t.toInt ≤ 36 * d.toInt → 0 ≤ d.toInt ∧ d.toInt ≤ (dl_sz (s 204).toInt.toNat : Int) → mm_get lv 0 = some (.ref (E.1 + 0)) → mm_get lv 1 = some (.int b) → mm_get lv 2 = some (.int t) → mm_get lv 3 = some (.int d) → bp_G E PO NN ((223, 4, lv, [], 0, 0) :: gs, h, o)) := by
  intro NN
  induction NN with
  | zero => intro kk lv o t d ht htb hd g0 g1 g2 g3; exact bp_zero bu_223_4
  | succ NN ih =>
    intro kk lv o t d ht htb hd g0 g1 g2 g3
    have hsz := dr_sz (m := (s 204).toInt.toNat) (by omega)
    refine bp_ld (pc' := 5) bu_223_4 rfl rfl (fun _ _ _ => rfl) g3 rfl ?_
    refine bp_ld (pc' := 6) bu_223_5 rfl rfl (fun _ _ _ => rfl) g0 rfl ?_
    refine bn_gr (pc' := 9) (t := 31) bu_223_6 rfl rfl (fun _ _ _ => rfl) hP kw_o0 kw_r0_8 ?_
    refine bn_gi (pc' := 12) (K := 3106) bu_223_9 rfl rfl (fun _ _ _ => rfl) hP kw_o31 kw_i31_6 rfl rfl ?_
    refine bp_ic (pc' := 15) (pt := 32) bu_223_12 rfl rfl (fun k146 => ?_) (fun k146 => ?_)
    · replace k146 : ((s 3106)).toInt ≤ (d).toInt := k146
      exact kk _ _ _ (by rw [show dl_sz (s 204).toInt.toNat = d.toInt.toNat by omega]; exact ht) (by omega) g0 g1 g2
    · replace k146 : ¬ (((s 3106)).toInt ≤ (d).toInt) := k146
      refine bp_ld (pc' := 16) bu_223_15 rfl rfl (fun _ _ _ => rfl) g2 rfl ?_
      refine bp_ld (pc' := 17) bu_223_16 rfl rfl (fun _ _ _ => rfl) g0 rfl ?_
      refine bn_gr (pc' := 20) (t := 31) bu_223_17 rfl rfl (fun _ _ _ => rfl) hP kw_o0 kw_r0_8 ?_
      refine bp_ld (pc' := 21) bu_223_20 rfl rfl (fun _ _ _ => rfl) g3 rfl ?_
      refine bn_cvF (pc' := 24) (st := [.int t]) (args := [.int d]) bu_223_21 rfl rfl rfl (by decide) hP kw_o31 (by decide) rfl (Nat.le_of_ble_eq_true rfl) (Nat.le_of_ble_eq_true rfl) ?_
      refine dc_124 (d := d) hP hm hz hw hf (by omega) (fun r147 e148 => ?_)
      have hb149 : 0 ≤ dr_k (fun a q => (A 8 (4 * a + q)).toInt) (dl_w (s 204).toInt.toNat (d).toInt.toNat) ∧ dr_k (fun a q => (A 8 (4 * a + q)).toInt) (dl_w (s 204).toInt.toNat (d).toInt.toNat) ≤ 9 * ((4 : Nat) : Int) := dr_kp_b (f := (fun a q => (A 8 (4 * a + q)).toInt)) hf (dl_ok (by omega) (by omega)) 4 (Nat.le_refl _)
      show bp_G E PO (NN + 1) ((223, 24, lv, [.int r147, .int t], 0, 0) :: gs, h, none)
      refine bp_add (pc' := 25) bu_223_24 rfl (by omega) (by omega) (fun v150 e151 => ?_)
      refine bp_st (pc' := 26) bu_223_25 rfl rfl (fun _ _ _ => rfl) rfl (by decide) (by decide) (fun lv152 F153 g154 => ?_)
      have g155 := F153 0 (.ref (E.1 + 0)) g0 (by decide) (Or.inl rfl)
      have g156 := F153 1 (.int b) g1 (by decide) (Or.inl rfl)
      have g157 := F153 3 (.int d) g3 (by decide) (Or.inl rfl)
      refine bp_inc (pc' := 29) bu_223_26 rfl (by decide) g157 (by decide) (by omega) (by omega) (fun lv158 y161 F159 g160 e162 => ?_)
      have g163 := F159 0 (.ref (E.1 + 0)) g155 (by decide) (Or.inl rfl)
      have g164 := F159 1 (.int b) g156 (by decide) (Or.inl rfl)
      have g165 := F159 2 (.int v150) g154 (by decide) (Or.inl rfl)
      refine bp_goD (pc' := 4) bu_223_29 rfl ?_
      have hd2 : (y161).toInt.toNat = d.toInt.toNat + 1 := by omega
      exact ih (fun lv o t a0 a1 a2 a3 a4 => bp_mono (Nat.le_succ NN) (kk lv o t a0 a1 a2 a3 a4)) _ _ _ _ (by rw [hd2, dl_L_s, dr_s_a]; omega) (by omega) (by omega) g163 g164 g165 g160
set_option maxHeartbeats 4000000 in
theorem dc_223 {b : Int32} (hP : bm_P kw_T E h0 h s A L) (hm : 0 ≤ (s 204).toInt ∧ (s 204).toInt ≤ 6) (hz : (s 3106).toInt = (dl_sz (s 204).toInt.toNat : Int)) (hw : ∀ d, d < dl_sz (s 204).toInt.toNat → ∀ p, p < 4 → (A 32 (4 * d + p)).toInt = dr_cv (dl_m (s 204).toInt.toNat d p)) (hf : ∀ a, a < (s 204).toInt.toNat → ∀ q, q < 4 → 0 ≤ (A 8 (4 * a + q)).toInt ∧ (A 8 (4 * a + q)).toInt ≤ 9) (kk : ∀ r : Int32, kd_Pbt (s 204).toInt.toNat (fun a q => (A 8 (4 * a + q)).toInt) b r → bp_G E PO NN (mm_back (some (.int r)) gs h)) : bp_G E PO NN ((223, 0, [(0, .ref (E.1 + 0)), (1, .int b)], [], 0, 0) :: gs, h, none) := by
  have hsz := dr_sz (m := (s 204).toInt.toNat) (by omega)
  refine bp_c (pc' := 1) (n := 0) bu_223_0 rfl rfl (fun _ _ _ => rfl) (by decide) (fun c166 e167 => ?_)
  refine bp_st (pc' := 2) bu_223_1 rfl rfl (fun _ _ _ => rfl) rfl (by decide) (by decide) (fun lv168 F169 g170 => ?_)
  have g171 := F169 0 (.ref (E.1 + 0)) rfl (by decide) (Or.inl rfl)
  have g172 := F169 1 (.int b) rfl (by decide) (Or.inl rfl)
  refine bp_c (pc' := 3) (n := 0) bu_223_2 rfl rfl (fun _ _ _ => rfl) (by decide) (fun c173 e174 => ?_)
  refine bp_st (pc' := 4) bu_223_3 rfl rfl (fun _ _ _ => rfl) rfl (by decide) (by decide) (fun lv175 F176 g177 => ?_)
  have g178 := F176 0 (.ref (E.1 + 0)) g171 (by decide) (Or.inl rfl)
  have g179 := F176 1 (.int b) g172 (by decide) (Or.inl rfl)
  have g180 := F176 2 (.int c166) g170 (by decide) (Or.inl rfl)
  refine dc_223l (b := b) hP hm hz hw hf NN (fun lv181 o182 t183 t184 t185 g186 g187 g188 => ?_) _ _ _ _ (by rw [show (c173).toInt.toNat = 0 by omega]; show _ = (0 : Int); omega) (by omega) (by omega) g178 g179 g180 g177
  rw [dr_E (m := (s 204).toInt.toNat) (by omega)] at t184
  refine bp_ld (pc' := 33) bu_223_32 rfl rfl (fun _ _ _ => rfl) g186 rfl ?_
  refine bn_gr (pc' := 36) (t := 31) bu_223_33 rfl rfl (fun _ _ _ => rfl) hP kw_o0 kw_r0_8 ?_
  refine bp_ld (pc' := 37) bu_223_36 rfl rfl (fun _ _ _ => rfl) g186 rfl ?_
  refine bn_gr (pc' := 40) (t := 31) bu_223_37 rfl rfl (fun _ _ _ => rfl) hP kw_o0 kw_r0_8 ?_
  refine bn_cvF (pc' := 43) (st := [.ref (E.1 + 31)]) (args := []) bu_223_40 rfl rfl rfl (by decide) hP kw_o31 (by decide) rfl (Nat.le_of_ble_eq_true rfl) (Nat.le_of_ble_eq_true rfl) ?_
  refine dc_115 hP hm hz hw hf (fun b189 e190 e191 => ?_)
  rw [dr_E (m := (s 204).toInt.toNat) (by omega)] at e191
  show bp_G E PO NN ((223, 43, lv181, [.int b189, .ref (E.1 + 31)], 0, 0) :: gs, h, none)
  refine bn_cvF (pc' := 46) (st := []) (args := [.int b189]) bu_223_43 rfl rfl rfl (by decide) hP kw_o31 (by decide) rfl (Nat.le_of_ble_eq_true rfl) (Nat.le_of_ble_eq_true rfl) ?_
  refine dc_124 (d := b189) hP hm hz hw hf (by omega) (fun r192 e193 => ?_)
  have hb194 : 0 ≤ dr_k (fun a q => (A 8 (4 * a + q)).toInt) (dl_w (s 204).toInt.toNat (b189).toInt.toNat) ∧ dr_k (fun a q => (A 8 (4 * a + q)).toInt) (dl_w (s 204).toInt.toNat (b189).toInt.toNat) ≤ 9 * ((4 : Nat) : Int) := dr_kp_b (f := (fun a q => (A 8 (4 * a + q)).toInt)) hf (dl_ok (by omega) (by omega)) 4 (Nat.le_refl _)
  have hmu := dm_mul (x := r192) (y := (s 3106)) (by omega) (by omega)
  show bp_G E PO NN ((223, 46, lv181, [.int r192], 0, 0) :: gs, h, none)
  refine bp_st (pc' := 47) bu_223_46 rfl rfl (fun _ _ _ => rfl) rfl (by decide) (by decide) (fun lv195 F196 g197 => ?_)
  have g198 := F196 0 (.ref (E.1 + 0)) g186 (by decide) (Or.inl rfl)
  have g199 := F196 1 (.int b) g187 (by decide) (Or.inl rfl)
  have g200 := F196 2 (.int t183) g188 (by decide) (Or.inl rfl)
  refine bp_ld (pc' := 48) bu_223_47 rfl rfl (fun _ _ _ => rfl) g197 rfl ?_
  refine bp_ld (pc' := 49) bu_223_48 rfl rfl (fun _ _ _ => rfl) g198 rfl ?_
  refine bn_gr (pc' := 52) (t := 31) bu_223_49 rfl rfl (fun _ _ _ => rfl) hP kw_o0 kw_r0_8 ?_
  refine bn_gi (pc' := 55) (K := 3106) bu_223_52 rfl rfl (fun _ _ _ => rfl) hP kw_o31 kw_i31_6 rfl rfl ?_
  refine bp_x (pc' := 56) (v := r192 * (s 3106)) bu_223_55 rfl rfl (fun _ _ _ => rfl) rfl ?_
  refine bp_ld (pc' := 57) bu_223_56 rfl rfl (fun _ _ _ => rfl) g200 rfl ?_
  refine bp_sub (pc' := 58) bu_223_57 rfl (by omega) (by omega) (fun v201 e202 => ?_)
  refine bp_ld (pc' := 59) bu_223_58 rfl rfl (fun _ _ _ => rfl) g198 rfl ?_
  refine bn_gr (pc' := 62) (t := 31) bu_223_59 rfl rfl (fun _ _ _ => rfl) hP kw_o0 kw_r0_8 ?_
  refine bn_gi (pc' := 65) (K := 3106) bu_223_62 rfl rfl (fun _ _ _ => rfl) hP kw_o31 kw_i31_6 rfl rfl ?_
  refine bp_ld (pc' := 66) bu_223_65 rfl rfl (fun _ _ _ => rfl) g199 rfl ?_
  refine bp_csF (pc' := 69) (st := []) (args := [.int b, .int (s 3106), .int v201]) bu_223_66 rfl rfl (by decide) rfl (Nat.le_of_ble_eq_true rfl) (Nat.le_of_ble_eq_true rfl) ?_
  refine kd_233 (u := v201) (l := (s 3106)) (b := b) (by omega) (by omega) (fun r203 d204 e205 e206 e207 => ?_)
  show bp_G E PO NN ((223, 69, lv195, [.int r203], 0, 0) :: gs, h, none)
  refine bp_ri bu_223_69 ?_
  refine kk _ ⟨_, v201, (s 3106), d204, e191, ?_, hz, e205, e206, e207⟩
  have y1 := hmu.1
  rw [e193, hz] at y1
  omega
end DC
