/-! PARTIAL: the class reads its tape, exact (wip/p5/mkq7.py) -/
theorem bu_134_0 : mm_at mt_P 134 0 = some ((0, 1, .aload_n 0, 0, 0, 0, 0), 1, 0, 1, 1, 0, 0, 0) := rfl
theorem bu_134_1 : mm_at mt_P 134 1 = some ((1, 1, .iconst 0, 0, 0, 0, 0), 1, 0, 1, 1, 0, 0, 0) := rfl
theorem bu_134_2 : mm_at mt_P 134 2 = some ((2, 3, .putfield 24, 1, 4, 0, 147), 1, 0, 1, 1, 0, 0, 0) := rfl
theorem bu_134_5 : mm_at mt_P 134 5 = some ((5, 1, .aload_n 0, 0, 0, 0, 0), 1, 0, 1, 1, 0, 0, 0) := rfl
theorem bu_134_6 : mm_at mt_P 134 6 = some ((6, 1, .iconst 0, 0, 0, 0, 0), 1, 0, 1, 1, 0, 0, 0) := rfl
theorem bu_134_7 : mm_at mt_P 134 7 = some ((7, 1, .iconst 2, 0, 0, 0, 0), 1, 0, 1, 1, 0, 0, 0) := rfl
theorem bu_134_8 : mm_at mt_P 134 8 = some ((8, 3, .invokevirtual 28, 143, 0, 0, 169), 1, 0, 1, 1, 0, 0, 0) := rfl
theorem bu_134_11 : mm_at mt_P 134 11 = some ((11, 1, .aload_n 0, 0, 0, 0, 0), 1, 0, 1, 1, 0, 0, 0) := rfl
theorem bu_134_12 : mm_at mt_P 134 12 = some ((12, 1, .iconst 1, 0, 0, 0, 0), 1, 0, 1, 1, 0, 0, 0) := rfl
theorem bu_134_13 : mm_at mt_P 134 13 = some ((13, 1, .iconst 0, 0, 0, 0, 0), 1, 0, 1, 1, 0, 0, 0) := rfl
theorem bu_134_14 : mm_at mt_P 134 14 = some ((14, 3, .invokevirtual 28, 143, 0, 0, 169), 1, 0, 1, 1, 0, 0, 0) := rfl
theorem bu_134_17 : mm_at mt_P 134 17 = some ((17, 1, .aload_n 0, 0, 0, 0, 0), 1, 0, 1, 1, 0, 0, 0) := rfl
theorem bu_134_18 : mm_at mt_P 134 18 = some ((18, 1, .iconst 2, 0, 0, 0, 0), 1, 0, 1, 1, 0, 0, 0) := rfl
theorem bu_134_19 : mm_at mt_P 134 19 = some ((19, 1, .iconst 1, 0, 0, 0, 0), 1, 0, 1, 1, 0, 0, 0) := rfl
theorem bu_134_20 : mm_at mt_P 134 20 = some ((20, 3, .invokevirtual 28, 143, 0, 0, 169), 1, 0, 1, 1, 0, 0, 0) := rfl
theorem bu_134_23 : mm_at mt_P 134 23 = some ((23, 1, .aload_n 0, 0, 0, 0, 0), 1, 0, 1, 1, 0, 0, 0) := rfl
theorem bu_134_24 : mm_at mt_P 134 24 = some ((24, 3, .getfield 18, 1, 2, 0, 145), 1, 0, 1, 1, 0, 0, 0) := rfl
theorem bu_134_27 : mm_at mt_P 134 27 = some ((27, 1, .iconst 3, 0, 0, 0, 0), 1, 0, 1, 1, 0, 0, 0) := rfl
theorem bu_134_28 : mm_at mt_P 134 28 = some ((28, 1, .aload_n 0, 0, 0, 0, 0), 1, 0, 1, 1, 0, 0, 0) := rfl
theorem bu_134_29 : mm_at mt_P 134 29 = some ((29, 3, .getfield 24, 1, 4, 0, 147), 1, 0, 1, 1, 0, 0, 0) := rfl
theorem bu_134_32 : mm_at mt_P 134 32 = some ((32, 1, .iastore, 0, 0, 0, 0), 1, 0, 1, 1, 0, 0, 0) := rfl
theorem bu_134_33 : mm_at mt_P 134 33 = some ((33, 1, .aload_n 0, 0, 0, 0, 0), 1, 0, 1, 1, 0, 0, 0) := rfl
theorem bu_134_34 : mm_at mt_P 134 34 = some ((34, 1, .iconst 1, 0, 0, 0, 0), 1, 0, 1, 1, 0, 0, 0) := rfl
theorem bu_134_35 : mm_at mt_P 134 35 = some ((35, 2, .bipush 7, 0, 0, 0, 0), 1, 0, 1, 1, 0, 0, 0) := rfl
theorem bu_134_37 : mm_at mt_P 134 37 = some ((37, 3, .invokevirtual 32, 136, 0, 0, 173), 1, 0, 1, 1, 0, 0, 0) := rfl
theorem bu_134_40 : mm_at mt_P 134 40 = some ((40, 1, .aload_n 0, 0, 0, 0, 0), 1, 0, 1, 1, 0, 0, 0) := rfl
theorem bu_134_41 : mm_at mt_P 134 41 = some ((41, 1, .iconst 1, 0, 0, 0, 0), 1, 0, 1, 1, 0, 0, 0) := rfl
theorem bu_134_42 : mm_at mt_P 134 42 = some ((42, 2, .bipush 6, 0, 0, 0, 0), 1, 0, 1, 1, 0, 0, 0) := rfl
theorem bu_134_44 : mm_at mt_P 134 44 = some ((44, 3, .invokevirtual 32, 136, 0, 0, 173), 1, 0, 1, 1, 0, 0, 0) := rfl
theorem bu_134_47 : mm_at mt_P 134 47 = some ((47, 1, .aload_n 0, 0, 0, 0, 0), 1, 0, 1, 1, 0, 0, 0) := rfl
theorem bu_134_48 : mm_at mt_P 134 48 = some ((48, 1, .iconst 4, 0, 0, 0, 0), 1, 0, 1, 1, 0, 0, 0) := rfl
theorem bu_134_49 : mm_at mt_P 134 49 = some ((49, 1, .iconst 0, 0, 0, 0, 0), 1, 0, 1, 1, 0, 0, 0) := rfl
theorem bu_134_50 : mm_at mt_P 134 50 = some ((50, 3, .invokevirtual 32, 136, 0, 0, 173), 1, 0, 1, 1, 0, 0, 0) := rfl
theorem bu_134_53 : mm_at mt_P 134 53 = some ((53, 1, .aload_n 0, 0, 0, 0, 0), 1, 0, 1, 1, 0, 0, 0) := rfl
theorem bu_134_54 : mm_at mt_P 134 54 = some ((54, 1, .iconst 2, 0, 0, 0, 0), 1, 0, 1, 1, 0, 0, 0) := rfl
theorem bu_134_55 : mm_at mt_P 134 55 = some ((55, 1, .iconst 0, 0, 0, 0, 0), 1, 0, 1, 1, 0, 0, 0) := rfl
theorem bu_134_56 : mm_at mt_P 134 56 = some ((56, 3, .invokevirtual 32, 136, 0, 0, 173), 1, 0, 1, 1, 0, 0, 0) := rfl
theorem bu_134_59 : mm_at mt_P 134 59 = some ((59, 1, .aload_n 0, 0, 0, 0, 0), 1, 0, 1, 1, 0, 0, 0) := rfl
theorem bu_134_60 : mm_at mt_P 134 60 = some ((60, 1, .iconst 4, 0, 0, 0, 0), 1, 0, 1, 1, 0, 0, 0) := rfl
theorem bu_134_61 : mm_at mt_P 134 61 = some ((61, 1, .iconst 0, 0, 0, 0, 0), 1, 0, 1, 1, 0, 0, 0) := rfl
theorem bu_134_62 : mm_at mt_P 134 62 = some ((62, 3, .invokevirtual 28, 143, 0, 0, 169), 1, 0, 1, 1, 0, 0, 0) := rfl
theorem bu_134_65 : mm_at mt_P 134 65 = some ((65, 1, .aload_n 0, 0, 0, 0, 0), 1, 0, 1, 1, 0, 0, 0) := rfl
theorem bu_134_66 : mm_at mt_P 134 66 = some ((66, 1, .iconst 5, 0, 0, 0, 0), 1, 0, 1, 1, 0, 0, 0) := rfl
theorem bu_134_67 : mm_at mt_P 134 67 = some ((67, 1, .iconst 1, 0, 0, 0, 0), 1, 0, 1, 1, 0, 0, 0) := rfl
theorem bu_134_68 : mm_at mt_P 134 68 = some ((68, 3, .invokevirtual 28, 143, 0, 0, 169), 1, 0, 1, 1, 0, 0, 0) := rfl
theorem bu_134_71 : mm_at mt_P 134 71 = some ((71, 1, .aload_n 0, 0, 0, 0, 0), 1, 0, 1, 1, 0, 0, 0) := rfl
theorem bu_134_72 : mm_at mt_P 134 72 = some ((72, 2, .bipush 6, 0, 0, 0, 0), 1, 0, 1, 1, 0, 0, 0) := rfl
theorem bu_134_74 : mm_at mt_P 134 74 = some ((74, 1, .iconst 0, 0, 0, 0, 0), 1, 0, 1, 1, 0, 0, 0) := rfl
theorem bu_134_75 : mm_at mt_P 134 75 = some ((75, 3, .invokevirtual 28, 143, 0, 0, 169), 1, 0, 1, 1, 0, 0, 0) := rfl
theorem bu_134_78 : mm_at mt_P 134 78 = some ((78, 1, .return_, 0, 0, 0, 0), 1, 0, 1, 1, 0, 0, 0) := rfl
theorem bu_143_0 : mm_at mt_P 143 0 = some ((0, 1, .aload_n 0, 0, 0, 0, 0), 3, 2, 1, 1, 0, 0, 0) := rfl
theorem bu_143_1 : mm_at mt_P 143 1 = some ((1, 3, .getfield 18, 1, 2, 0, 145), 3, 2, 1, 1, 0, 0, 0) := rfl
theorem bu_143_4 : mm_at mt_P 143 4 = some ((4, 1, .iload_n 1, 0, 0, 0, 0), 3, 2, 1, 1, 0, 0, 0) := rfl
theorem bu_143_5 : mm_at mt_P 143 5 = some ((5, 1, .aload_n 0, 0, 0, 0, 0), 3, 2, 1, 1, 0, 0, 0) := rfl
theorem bu_143_6 : mm_at mt_P 143 6 = some ((6, 3, .getfield 24, 1, 4, 0, 147), 3, 2, 1, 1, 0, 0, 0) := rfl
theorem bu_143_9 : mm_at mt_P 143 9 = some ((9, 1, .iastore, 0, 0, 0, 0), 3, 2, 1, 1, 0, 0, 0) := rfl
theorem bu_143_10 : mm_at mt_P 143 10 = some ((10, 1, .aload_n 0, 0, 0, 0, 0), 3, 2, 1, 1, 0, 0, 0) := rfl
theorem bu_143_11 : mm_at mt_P 143 11 = some ((11, 1, .iconst 0, 0, 0, 0, 0), 3, 2, 1, 1, 0, 0, 0) := rfl
theorem bu_143_12 : mm_at mt_P 143 12 = some ((12, 1, .iload_n 2, 0, 0, 0, 0), 3, 2, 1, 1, 0, 0, 0) := rfl
theorem bu_143_13 : mm_at mt_P 143 13 = some ((13, 3, .invokevirtual 32, 136, 0, 0, 173), 3, 2, 1, 1, 0, 0, 0) := rfl
theorem bu_143_16 : mm_at mt_P 143 16 = some ((16, 1, .aload_n 0, 0, 0, 0, 0), 3, 2, 1, 1, 0, 0, 0) := rfl
theorem bu_143_17 : mm_at mt_P 143 17 = some ((17, 1, .iconst 2, 0, 0, 0, 0), 3, 2, 1, 1, 0, 0, 0) := rfl
theorem bu_143_18 : mm_at mt_P 143 18 = some ((18, 1, .iconst 0, 0, 0, 0, 0), 3, 2, 1, 1, 0, 0, 0) := rfl
theorem bu_143_19 : mm_at mt_P 143 19 = some ((19, 3, .invokevirtual 32, 136, 0, 0, 173), 3, 2, 1, 1, 0, 0, 0) := rfl
theorem bu_143_22 : mm_at mt_P 143 22 = some ((22, 1, .return_, 0, 0, 0, 0), 3, 2, 1, 1, 0, 0, 0) := rfl
theorem bu_173_46 : mm_at mt_P 173 46 = some ((46, 1, .iload_n 2, 0, 0, 0, 0), 3, 1, 1, 4, 1, 0, 0) := rfl
theorem bu_173_47 : mm_at mt_P 173 47 = some ((47, 3, .sipush 400, 0, 0, 0, 0), 3, 1, 1, 4, 1, 0, 0) := rfl
theorem bu_173_50 : mm_at mt_P 173 50 = some ((50, 3, .if_icmp .gt 27, 0, 0, 0, 0), 3, 1, 1, 4, 1, 0, 0) := rfl
theorem bu_173_53 : mm_at mt_P 173 53 = some ((53, 1, .aload_n 0, 0, 0, 0, 0), 3, 1, 1, 4, 1, 0, 0) := rfl
theorem bu_173_54 : mm_at mt_P 173 54 = some ((54, 3, .getfield 37, 4, 6, 0, 280), 3, 1, 1, 4, 1, 0, 0) := rfl
theorem bu_173_57 : mm_at mt_P 173 57 = some ((57, 3, .ifCond .ne 20, 0, 0, 0, 0), 3, 1, 1, 4, 1, 0, 0) := rfl
theorem bu_173_60 : mm_at mt_P 173 60 = some ((60, 1, .aload_n 0, 0, 0, 0, 0), 3, 1, 1, 4, 1, 0, 0) := rfl
theorem bu_173_61 : mm_at mt_P 173 61 = some ((61, 3, .getfield 52, 4, 3, 0, 277), 3, 1, 1, 4, 1, 0, 0) := rfl
theorem bu_173_64 : mm_at mt_P 173 64 = some ((64, 3, .ifCond .eq 13, 0, 0, 0, 0), 3, 1, 1, 4, 1, 0, 0) := rfl
theorem bu_173_67 : mm_at mt_P 173 67 = some ((67, 1, .aload_n 0, 0, 0, 0, 0), 3, 1, 1, 4, 1, 0, 0) := rfl
theorem bu_173_68 : mm_at mt_P 173 68 = some ((68, 3, .invokevirtual 55, 174, 0, 0, 637), 3, 1, 1, 4, 1, 0, 0) := rfl
theorem bu_173_71 : mm_at mt_P 173 71 = some ((71, 3, .iinc 2 1, 0, 0, 0, 0), 3, 1, 1, 4, 1, 0, 0) := rfl
theorem bu_173_74 : mm_at mt_P 173 74 = some ((74, 3, .goto (-28), 0, 0, 0, 0), 3, 1, 1, 4, 1, 0, 0) := rfl
theorem bu_173_77 : mm_at mt_P 173 77 = some ((77, 1, .aload_n 0, 0, 0, 0, 0), 3, 1, 1, 4, 1, 0, 0) := rfl
theorem bu_173_78 : mm_at mt_P 173 78 = some ((78, 3, .getfield 37, 4, 6, 0, 280), 3, 1, 1, 4, 1, 0, 0) := rfl
theorem bu_173_81 : mm_at mt_P 173 81 = some ((81, 3, .ifCond .ne 19, 0, 0, 0, 0), 3, 1, 1, 4, 1, 0, 0) := rfl
theorem bu_173_84 : mm_at mt_P 173 84 = some ((84, 1, .aload_n 0, 0, 0, 0, 0), 3, 1, 1, 4, 1, 0, 0) := rfl
theorem bu_173_85 : mm_at mt_P 173 85 = some ((85, 1, .aload_n 0, 0, 0, 0, 0), 3, 1, 1, 4, 1, 0, 0) := rfl
theorem bu_173_86 : mm_at mt_P 173 86 = some ((86, 3, .getfield 40, 4, 8, 0, 282), 3, 1, 1, 4, 1, 0, 0) := rfl
theorem bu_173_89 : mm_at mt_P 173 89 = some ((89, 3, .putfield 37, 4, 6, 0, 280), 3, 1, 1, 4, 1, 0, 0) := rfl
theorem bu_173_92 : mm_at mt_P 173 92 = some ((92, 1, .aload_n 0, 0, 0, 0, 0), 3, 1, 1, 4, 1, 0, 0) := rfl
theorem bu_173_93 : mm_at mt_P 173 93 = some ((93, 1, .aload_n 0, 0, 0, 0, 0), 3, 1, 1, 4, 1, 0, 0) := rfl
theorem bu_173_94 : mm_at mt_P 173 94 = some ((94, 3, .getfield 43, 4, 9, 0, 283), 3, 1, 1, 4, 1, 0, 0) := rfl
theorem bu_173_97 : mm_at mt_P 173 97 = some ((97, 3, .putfield 24, 4, 7, 0, 281), 3, 1, 1, 4, 1, 0, 0) := rfl
theorem bu_173_100 : mm_at mt_P 173 100 = some ((100, 1, .aload_n 0, 0, 0, 0, 0), 3, 1, 1, 4, 1, 0, 0) := rfl
theorem bu_173_101 : mm_at mt_P 173 101 = some ((101, 3, .getfield 37, 4, 6, 0, 280), 3, 1, 1, 4, 1, 0, 0) := rfl
theorem bu_173_104 : mm_at mt_P 173 104 = some ((104, 1, .ireturn, 0, 0, 0, 0), 3, 1, 1, 4, 1, 0, 0) := rfl
theorem bu_202_0 : mm_at mt_P 202 0 = some ((0, 1, .aload_n 0, 0, 0, 0, 0), 1, 0, 1, 6, 0, 0, 0) := rfl
theorem bu_202_1 : mm_at mt_P 202 1 = some ((1, 1, .iconst 0, 0, 0, 0, 0), 1, 0, 1, 6, 0, 0, 0) := rfl
theorem bu_202_2 : mm_at mt_P 202 2 = some ((2, 3, .putfield 32, 6, 4, 0, 186), 1, 0, 1, 6, 0, 0, 0) := rfl
theorem bu_202_5 : mm_at mt_P 202 5 = some ((5, 1, .aload_n 0, 0, 0, 0, 0), 1, 0, 1, 6, 0, 0, 0) := rfl
theorem bu_202_6 : mm_at mt_P 202 6 = some ((6, 2, .bipush 20, 0, 0, 0, 0), 1, 0, 1, 6, 0, 0, 0) := rfl
theorem bu_202_8 : mm_at mt_P 202 8 = some ((8, 3, .putfield 36, 6, 5, 0, 191), 1, 0, 1, 6, 0, 0, 0) := rfl
theorem bu_202_11 : mm_at mt_P 202 11 = some ((11, 1, .aload_n 0, 0, 0, 0, 0), 1, 0, 1, 6, 0, 0, 0) := rfl
theorem bu_202_12 : mm_at mt_P 202 12 = some ((12, 2, .bipush 99, 0, 0, 0, 0), 1, 0, 1, 6, 0, 0, 0) := rfl
theorem bu_202_14 : mm_at mt_P 202 14 = some ((14, 3, .putfield 39, 6, 6, 0, 194), 1, 0, 1, 6, 0, 0, 0) := rfl
theorem bu_202_17 : mm_at mt_P 202 17 = some ((17, 1, .aload_n 0, 0, 0, 0, 0), 1, 0, 1, 6, 0, 0, 0) := rfl
theorem bu_202_18 : mm_at mt_P 202 18 = some ((18, 2, .bipush 50, 0, 0, 0, 0), 1, 0, 1, 6, 0, 0, 0) := rfl
theorem bu_202_20 : mm_at mt_P 202 20 = some ((20, 3, .putfield 42, 6, 7, 0, 197), 1, 0, 1, 6, 0, 0, 0) := rfl
theorem bu_202_23 : mm_at mt_P 202 23 = some ((23, 1, .aload_n 0, 0, 0, 0, 0), 1, 0, 1, 6, 0, 0, 0) := rfl
theorem bu_202_24 : mm_at mt_P 202 24 = some ((24, 2, .bipush 60, 0, 0, 0, 0), 1, 0, 1, 6, 0, 0, 0) := rfl
theorem bu_202_26 : mm_at mt_P 202 26 = some ((26, 3, .putfield 45, 6, 8, 0, 200), 1, 0, 1, 6, 0, 0, 0) := rfl
theorem bu_202_29 : mm_at mt_P 202 29 = some ((29, 1, .aload_n 0, 0, 0, 0, 0), 1, 0, 1, 6, 0, 0, 0) := rfl
theorem bu_202_30 : mm_at mt_P 202 30 = some ((30, 3, .sipush 999, 0, 0, 0, 0), 1, 0, 1, 6, 0, 0, 0) := rfl
theorem bu_202_33 : mm_at mt_P 202 33 = some ((33, 3, .putfield 48, 6, 9, 0, 205), 1, 0, 1, 6, 0, 0, 0) := rfl
theorem bu_202_36 : mm_at mt_P 202 36 = some ((36, 1, .aload_n 0, 0, 0, 0, 0), 1, 0, 1, 6, 0, 0, 0) := rfl
theorem bu_202_37 : mm_at mt_P 202 37 = some ((37, 1, .iconst 0, 0, 0, 0, 0), 1, 0, 1, 6, 0, 0, 0) := rfl
theorem bu_202_38 : mm_at mt_P 202 38 = some ((38, 3, .putfield 51, 6, 10, 0, 208), 1, 0, 1, 6, 0, 0, 0) := rfl
theorem bu_202_41 : mm_at mt_P 202 41 = some ((41, 1, .aload_n 0, 0, 0, 0, 0), 1, 0, 1, 6, 0, 0, 0) := rfl
theorem bu_202_42 : mm_at mt_P 202 42 = some ((42, 3, .getfield 12, 6, 0, 0, 177), 1, 0, 1, 6, 0, 0, 0) := rfl
theorem bu_202_45 : mm_at mt_P 202 45 = some ((45, 3, .invokevirtual 54, 134, 0, 0, 165), 1, 0, 1, 6, 0, 0, 0) := rfl
theorem bu_202_48 : mm_at mt_P 202 48 = some ((48, 1, .return_, 0, 0, 0, 0), 1, 0, 1, 6, 0, 0, 0) := rfl
section BTQ
variable {X : Nat → Int32} {n : Nat} {E : mm_E} {PO : mm_C → Prop} {NN : Nat} {h0 h : mm_H} {s : Nat → Int32} {A : Nat → Nat → Int32} {L : Nat → Nat → Int64} {gs : List mm_F}
theorem bt_143 {x y : Int32} (hP : bm_P bq_T E h0 h s A L) (hc : (0 ≤ (s 1204).toInt ∧ (s 1204).toInt ≤ 432 ∧ 0 ≤ (s 1104).toInt ∧ (s 1104).toInt ≤ 6)) (kk : ∀ (h' : mm_H) (s' : Nat → Int32) (A' : Nat → Nat → Int32), bm_P bq_T E h0 h' s' A' L → (∀ j, j ≠ 1204 → s' j = s j) → (∀ c, c ≠ 14 → c ≠ 15 → A' c = A c) → (0 ≤ (s' 1204).toInt ∧ (s' 1204).toInt ≤ 432 ∧ 0 ≤ (s' 1104).toInt ∧ (s' 1104).toInt ≤ 6) → bp_G E PO NN (mm_back none gs h')) : bp_G E PO NN ((143, 0, [(0, .ref (E.1 + 12)), (1, .int x), (2, .int y)], [], 0, 0) :: gs, h, none) := by
  refine bp_ld (pc' := 1) bu_143_0 rfl rfl (fun _ _ _ => rfl) rfl rfl ?_
  refine bn_gr (pc' := 4) (t := 15) bu_143_1 rfl rfl (fun _ _ _ => rfl) hP bq_o12 bq_r12_2 ?_
  refine bp_ld (pc' := 5) bu_143_4 rfl rfl (fun _ _ _ => rfl) rfl rfl ?_
  refine bp_ld (pc' := 6) bu_143_5 rfl rfl (fun _ _ _ => rfl) rfl rfl ?_
  refine bn_gi (pc' := 9) (K := 1204) bu_143_6 rfl rfl (fun _ _ _ => rfl) hP bq_o12 bq_i12_4 rfl rfl ?_
  refine bn_iasF (pc' := 10) bu_143_9 rfl rfl (fun _ _ _ => rfl) hP bq_a15 (Or.inl rfl) (fun b5531 b5532 h5529 hP5530 => ?_)
  refine bp_ld (pc' := 11) bu_143_10 rfl rfl (fun _ _ _ => rfl) rfl rfl ?_
  refine bp_c (pc' := 12) (n := 0) bu_143_11 rfl rfl (fun _ _ _ => rfl) (by decide) (fun c5533 e5534 => ?_)
  refine bp_ld (pc' := 13) bu_143_12 rfl rfl (fun _ _ _ => rfl) rfl rfl ?_
  refine bn_cvF (pc' := 16) (st := []) (args := [.int y, .int c5533]) bu_143_13 rfl rfl rfl (by decide) hP5530 bq_o12 (by decide) rfl (Nat.le_of_ble_eq_true rfl) (Nat.le_of_ble_eq_true rfl) ?_
  have AA5535 : ∀ c, c ≠ 14 → c ≠ 15 → (bh_up A 15 (x).toInt.toNat (mm_nar 0 (s 1204))) c = A c := fun c u1 u2 => (bh_up_ne u2)
  refine cr_136 hP5530 hc (fun h5536 s5537 A5538 hP5539 f5540 a5541 z5542 => ?_)
  have FF5543 : ∀ j, j ≠ 1204 → s5537 j = s j := fun j u => f5540 j u
  have AA5544 : ∀ c, c ≠ 14 → c ≠ 15 → A5538 c = A c := fun c u1 u2 => (a5541 c u1 u2).trans (AA5535 c u1 u2)
  show bp_G E PO NN ((143, 16, _, [], 0, 0) :: gs, h5536, none)
  refine bp_ld (pc' := 17) bu_143_16 rfl rfl (fun _ _ _ => rfl) rfl rfl ?_
  refine bp_c (pc' := 18) (n := 2) bu_143_17 rfl rfl (fun _ _ _ => rfl) (by decide) (fun c5545 e5546 => ?_)
  refine bp_c (pc' := 19) (n := 0) bu_143_18 rfl rfl (fun _ _ _ => rfl) (by decide) (fun c5547 e5548 => ?_)
  refine bn_cvF (pc' := 22) (st := []) (args := [.int c5547, .int c5545]) bu_143_19 rfl rfl rfl (by decide) hP5539 bq_o12 (by decide) rfl (Nat.le_of_ble_eq_true rfl) (Nat.le_of_ble_eq_true rfl) ?_
  refine cr_136 hP5539 z5542 (fun h5549 s5550 A5551 hP5552 f5553 a5554 z5555 => ?_)
  have FF5556 : ∀ j, j ≠ 1204 → s5550 j = s j := fun j u => (f5553 j u).trans (FF5543 j u)
  have AA5557 : ∀ c, c ≠ 14 → c ≠ 15 → A5551 c = A c := fun c u1 u2 => (a5554 c u1 u2).trans (AA5544 c u1 u2)
  show bp_G E PO NN ((143, 22, _, [], 0, 0) :: gs, h5549, none)
  refine bp_rv bu_143_22 ?_
  exact kk _ _ _ hP5552 FF5556 AA5557 z5555
theorem bt_134 (hP : bm_P bq_T E h0 h s A L) (hm1 : 0 ≤ (s 1104).toInt ∧ (s 1104).toInt ≤ 6) (kk : ∀ (h' : mm_H) (s' : Nat → Int32) (A' : Nat → Nat → Int32), bm_P bq_T E h0 h' s' A' L → (∀ j, j ≠ 1204 → s' j = s j) → (∀ c, c ≠ 14 → c ≠ 15 → A' c = A c) → (0 ≤ (s' 1204).toInt ∧ (s' 1204).toInt ≤ 432 ∧ 0 ≤ (s' 1104).toInt ∧ (s' 1104).toInt ≤ 6) → bp_G E PO NN (mm_back none gs h')) : bp_G E PO NN ((134, 0, [(0, .ref (E.1 + 12))], [], 0, 0) :: gs, h, none) := by
  refine bp_ld (pc' := 1) bu_134_0 rfl rfl (fun _ _ _ => rfl) rfl rfl ?_
  refine bp_c (pc' := 2) (n := 0) bu_134_1 rfl rfl (fun _ _ _ => rfl) (by decide) (fun c5558 e5559 => ?_)
  refine bn_pf (pc' := 5) (K := 1204) bu_134_2 rfl rfl (fun _ _ _ => rfl) hP bq_o12 bq_i12_4 rfl rfl (fun h5560 s5561 hP5562 e5563 f5564 => ?_)
  refine bp_ld (pc' := 6) bu_134_5 rfl rfl (fun _ _ _ => rfl) rfl rfl ?_
  refine bp_c (pc' := 7) (n := 0) bu_134_6 rfl rfl (fun _ _ _ => rfl) (by decide) (fun c5565 e5566 => ?_)
  refine bp_c (pc' := 8) (n := 2) bu_134_7 rfl rfl (fun _ _ _ => rfl) (by decide) (fun c5567 e5568 => ?_)
  refine bn_cvF (pc' := 11) (st := []) (args := [.int c5567, .int c5565]) bu_134_8 rfl rfl rfl (by decide) hP5562 bq_o12 (by decide) rfl (Nat.le_of_ble_eq_true rfl) (Nat.le_of_ble_eq_true rfl) ?_
  have FF5569 : ∀ j, j ≠ 1204 → s5561 j = s j := fun j u => (f5564 j u)
  have z1204 := congrArg Int32.toInt e5563
  have CC5570 : (0 ≤ (s5561 1204).toInt ∧ (s5561 1204).toInt ≤ 432 ∧ 0 ≤ (s5561 1104).toInt ∧ (s5561 1104).toInt ≤ 6) := by rw [FF5569 1104 (by decide)]; exact ⟨by omega, by omega, hm1.1, hm1.2⟩
  refine bt_143 hP5562 CC5570 (fun h5571 s5572 A5573 hP5574 f5575 a5576 z5577 => ?_)
  have FF5578 : ∀ j, j ≠ 1204 → s5572 j = s j := fun j u => (f5575 j u).trans (FF5569 j u)
  have AA5579 : ∀ c, c ≠ 14 → c ≠ 15 → A5573 c = A c := fun c u1 u2 => a5576 c u1 u2
  show bp_G E PO NN ((134, 11, _, [], 0, 0) :: gs, h5571, none)
  refine bp_ld (pc' := 12) bu_134_11 rfl rfl (fun _ _ _ => rfl) rfl rfl ?_
  refine bp_c (pc' := 13) (n := 1) bu_134_12 rfl rfl (fun _ _ _ => rfl) (by decide) (fun c5580 e5581 => ?_)
  refine bp_c (pc' := 14) (n := 0) bu_134_13 rfl rfl (fun _ _ _ => rfl) (by decide) (fun c5582 e5583 => ?_)
  refine bn_cvF (pc' := 17) (st := []) (args := [.int c5582, .int c5580]) bu_134_14 rfl rfl rfl (by decide) hP5574 bq_o12 (by decide) rfl (Nat.le_of_ble_eq_true rfl) (Nat.le_of_ble_eq_true rfl) ?_
  refine bt_143 hP5574 z5577 (fun h5584 s5585 A5586 hP5587 f5588 a5589 z5590 => ?_)
  have FF5591 : ∀ j, j ≠ 1204 → s5585 j = s j := fun j u => (f5588 j u).trans (FF5578 j u)
  have AA5592 : ∀ c, c ≠ 14 → c ≠ 15 → A5586 c = A c := fun c u1 u2 => (a5589 c u1 u2).trans (AA5579 c u1 u2)
  show bp_G E PO NN ((134, 17, _, [], 0, 0) :: gs, h5584, none)
  refine bp_ld (pc' := 18) bu_134_17 rfl rfl (fun _ _ _ => rfl) rfl rfl ?_
  refine bp_c (pc' := 19) (n := 2) bu_134_18 rfl rfl (fun _ _ _ => rfl) (by decide) (fun c5593 e5594 => ?_)
  refine bp_c (pc' := 20) (n := 1) bu_134_19 rfl rfl (fun _ _ _ => rfl) (by decide) (fun c5595 e5596 => ?_)
  refine bn_cvF (pc' := 23) (st := []) (args := [.int c5595, .int c5593]) bu_134_20 rfl rfl rfl (by decide) hP5587 bq_o12 (by decide) rfl (Nat.le_of_ble_eq_true rfl) (Nat.le_of_ble_eq_true rfl) ?_
  refine bt_143 hP5587 z5590 (fun h5597 s5598 A5599 hP5600 f5601 a5602 z5603 => ?_)
  have FF5604 : ∀ j, j ≠ 1204 → s5598 j = s j := fun j u => (f5601 j u).trans (FF5591 j u)
  have AA5605 : ∀ c, c ≠ 14 → c ≠ 15 → A5599 c = A c := fun c u1 u2 => (a5602 c u1 u2).trans (AA5592 c u1 u2)
  show bp_G E PO NN ((134, 23, _, [], 0, 0) :: gs, h5597, none)
  refine bp_ld (pc' := 24) bu_134_23 rfl rfl (fun _ _ _ => rfl) rfl rfl ?_
  refine bn_gr (pc' := 27) (t := 15) bu_134_24 rfl rfl (fun _ _ _ => rfl) hP5600 bq_o12 bq_r12_2 ?_
  refine bp_c (pc' := 28) (n := 3) bu_134_27 rfl rfl (fun _ _ _ => rfl) (by decide) (fun c5606 e5607 => ?_)
  refine bp_ld (pc' := 29) bu_134_28 rfl rfl (fun _ _ _ => rfl) rfl rfl ?_
  refine bn_gi (pc' := 32) (K := 1204) bu_134_29 rfl rfl (fun _ _ _ => rfl) hP5600 bq_o12 bq_i12_4 rfl rfl ?_
  refine bn_iasF (pc' := 33) bu_134_32 rfl rfl (fun _ _ _ => rfl) hP5600 bq_a15 (Or.inl rfl) (fun b5610 b5611 h5608 hP5609 => ?_)
  refine bp_ld (pc' := 34) bu_134_33 rfl rfl (fun _ _ _ => rfl) rfl rfl ?_
  refine bp_c (pc' := 35) (n := 1) bu_134_34 rfl rfl (fun _ _ _ => rfl) (by decide) (fun c5612 e5613 => ?_)
  refine bp_c (pc' := 37) (n := 7) bu_134_35 rfl rfl (fun _ _ _ => rfl) (by decide) (fun c5614 e5615 => ?_)
  refine bn_cvF (pc' := 40) (st := []) (args := [.int c5614, .int c5612]) bu_134_37 rfl rfl rfl (by decide) hP5609 bq_o12 (by decide) rfl (Nat.le_of_ble_eq_true rfl) (Nat.le_of_ble_eq_true rfl) ?_
  have AA5616 : ∀ c, c ≠ 14 → c ≠ 15 → (bh_up A5599 15 (c5606).toInt.toNat (mm_nar 0 (s5598 1204))) c = A c := fun c u1 u2 => (bh_up_ne u2).trans (AA5605 c u1 u2)
  refine cr_136 hP5609 z5603 (fun h5617 s5618 A5619 hP5620 f5621 a5622 z5623 => ?_)
  have FF5624 : ∀ j, j ≠ 1204 → s5618 j = s j := fun j u => (f5621 j u).trans (FF5604 j u)
  have AA5625 : ∀ c, c ≠ 14 → c ≠ 15 → A5619 c = A c := fun c u1 u2 => (a5622 c u1 u2).trans (AA5616 c u1 u2)
  show bp_G E PO NN ((134, 40, _, [], 0, 0) :: gs, h5617, none)
  refine bp_ld (pc' := 41) bu_134_40 rfl rfl (fun _ _ _ => rfl) rfl rfl ?_
  refine bp_c (pc' := 42) (n := 1) bu_134_41 rfl rfl (fun _ _ _ => rfl) (by decide) (fun c5626 e5627 => ?_)
  refine bp_c (pc' := 44) (n := 6) bu_134_42 rfl rfl (fun _ _ _ => rfl) (by decide) (fun c5628 e5629 => ?_)
  refine bn_cvF (pc' := 47) (st := []) (args := [.int c5628, .int c5626]) bu_134_44 rfl rfl rfl (by decide) hP5620 bq_o12 (by decide) rfl (Nat.le_of_ble_eq_true rfl) (Nat.le_of_ble_eq_true rfl) ?_
  refine cr_136 hP5620 z5623 (fun h5630 s5631 A5632 hP5633 f5634 a5635 z5636 => ?_)
  have FF5637 : ∀ j, j ≠ 1204 → s5631 j = s j := fun j u => (f5634 j u).trans (FF5624 j u)
  have AA5638 : ∀ c, c ≠ 14 → c ≠ 15 → A5632 c = A c := fun c u1 u2 => (a5635 c u1 u2).trans (AA5625 c u1 u2)
  show bp_G E PO NN ((134, 47, _, [], 0, 0) :: gs, h5630, none)
  refine bp_ld (pc' := 48) bu_134_47 rfl rfl (fun _ _ _ => rfl) rfl rfl ?_
  refine bp_c (pc' := 49) (n := 4) bu_134_48 rfl rfl (fun _ _ _ => rfl) (by decide) (fun c5639 e5640 => ?_)
  refine bp_c (pc' := 50) (n := 0) bu_134_49 rfl rfl (fun _ _ _ => rfl) (by decide) (fun c5641 e5642 => ?_)
  refine bn_cvF (pc' := 53) (st := []) (args := [.int c5641, .int c5639]) bu_134_50 rfl rfl rfl (by decide) hP5633 bq_o12 (by decide) rfl (Nat.le_of_ble_eq_true rfl) (Nat.le_of_ble_eq_true rfl) ?_
  refine cr_136 hP5633 z5636 (fun h5643 s5644 A5645 hP5646 f5647 a5648 z5649 => ?_)
  have FF5650 : ∀ j, j ≠ 1204 → s5644 j = s j := fun j u => (f5647 j u).trans (FF5637 j u)
  have AA5651 : ∀ c, c ≠ 14 → c ≠ 15 → A5645 c = A c := fun c u1 u2 => (a5648 c u1 u2).trans (AA5638 c u1 u2)
  show bp_G E PO NN ((134, 53, _, [], 0, 0) :: gs, h5643, none)
  refine bp_ld (pc' := 54) bu_134_53 rfl rfl (fun _ _ _ => rfl) rfl rfl ?_
  refine bp_c (pc' := 55) (n := 2) bu_134_54 rfl rfl (fun _ _ _ => rfl) (by decide) (fun c5652 e5653 => ?_)
  refine bp_c (pc' := 56) (n := 0) bu_134_55 rfl rfl (fun _ _ _ => rfl) (by decide) (fun c5654 e5655 => ?_)
  refine bn_cvF (pc' := 59) (st := []) (args := [.int c5654, .int c5652]) bu_134_56 rfl rfl rfl (by decide) hP5646 bq_o12 (by decide) rfl (Nat.le_of_ble_eq_true rfl) (Nat.le_of_ble_eq_true rfl) ?_
  refine cr_136 hP5646 z5649 (fun h5656 s5657 A5658 hP5659 f5660 a5661 z5662 => ?_)
  have FF5663 : ∀ j, j ≠ 1204 → s5657 j = s j := fun j u => (f5660 j u).trans (FF5650 j u)
  have AA5664 : ∀ c, c ≠ 14 → c ≠ 15 → A5658 c = A c := fun c u1 u2 => (a5661 c u1 u2).trans (AA5651 c u1 u2)
  show bp_G E PO NN ((134, 59, _, [], 0, 0) :: gs, h5656, none)
  refine bp_ld (pc' := 60) bu_134_59 rfl rfl (fun _ _ _ => rfl) rfl rfl ?_
  refine bp_c (pc' := 61) (n := 4) bu_134_60 rfl rfl (fun _ _ _ => rfl) (by decide) (fun c5665 e5666 => ?_)
  refine bp_c (pc' := 62) (n := 0) bu_134_61 rfl rfl (fun _ _ _ => rfl) (by decide) (fun c5667 e5668 => ?_)
  refine bn_cvF (pc' := 65) (st := []) (args := [.int c5667, .int c5665]) bu_134_62 rfl rfl rfl (by decide) hP5659 bq_o12 (by decide) rfl (Nat.le_of_ble_eq_true rfl) (Nat.le_of_ble_eq_true rfl) ?_
  refine bt_143 hP5659 z5662 (fun h5669 s5670 A5671 hP5672 f5673 a5674 z5675 => ?_)
  have FF5676 : ∀ j, j ≠ 1204 → s5670 j = s j := fun j u => (f5673 j u).trans (FF5663 j u)
  have AA5677 : ∀ c, c ≠ 14 → c ≠ 15 → A5671 c = A c := fun c u1 u2 => (a5674 c u1 u2).trans (AA5664 c u1 u2)
  show bp_G E PO NN ((134, 65, _, [], 0, 0) :: gs, h5669, none)
  refine bp_ld (pc' := 66) bu_134_65 rfl rfl (fun _ _ _ => rfl) rfl rfl ?_
  refine bp_c (pc' := 67) (n := 5) bu_134_66 rfl rfl (fun _ _ _ => rfl) (by decide) (fun c5678 e5679 => ?_)
  refine bp_c (pc' := 68) (n := 1) bu_134_67 rfl rfl (fun _ _ _ => rfl) (by decide) (fun c5680 e5681 => ?_)
  refine bn_cvF (pc' := 71) (st := []) (args := [.int c5680, .int c5678]) bu_134_68 rfl rfl rfl (by decide) hP5672 bq_o12 (by decide) rfl (Nat.le_of_ble_eq_true rfl) (Nat.le_of_ble_eq_true rfl) ?_
  refine bt_143 hP5672 z5675 (fun h5682 s5683 A5684 hP5685 f5686 a5687 z5688 => ?_)
  have FF5689 : ∀ j, j ≠ 1204 → s5683 j = s j := fun j u => (f5686 j u).trans (FF5676 j u)
  have AA5690 : ∀ c, c ≠ 14 → c ≠ 15 → A5684 c = A c := fun c u1 u2 => (a5687 c u1 u2).trans (AA5677 c u1 u2)
  show bp_G E PO NN ((134, 71, _, [], 0, 0) :: gs, h5682, none)
  refine bp_ld (pc' := 72) bu_134_71 rfl rfl (fun _ _ _ => rfl) rfl rfl ?_
  refine bp_c (pc' := 74) (n := 6) bu_134_72 rfl rfl (fun _ _ _ => rfl) (by decide) (fun c5691 e5692 => ?_)
  refine bp_c (pc' := 75) (n := 0) bu_134_74 rfl rfl (fun _ _ _ => rfl) (by decide) (fun c5693 e5694 => ?_)
  refine bn_cvF (pc' := 78) (st := []) (args := [.int c5693, .int c5691]) bu_134_75 rfl rfl rfl (by decide) hP5685 bq_o12 (by decide) rfl (Nat.le_of_ble_eq_true rfl) (Nat.le_of_ble_eq_true rfl) ?_
  refine bt_143 hP5685 z5688 (fun h5695 s5696 A5697 hP5698 f5699 a5700 z5701 => ?_)
  have FF5702 : ∀ j, j ≠ 1204 → s5696 j = s j := fun j u => (f5699 j u).trans (FF5689 j u)
  have AA5703 : ∀ c, c ≠ 14 → c ≠ 15 → A5697 c = A c := fun c u1 u2 => (a5700 c u1 u2).trans (AA5690 c u1 u2)
  show bp_G E PO NN ((134, 78, _, [], 0, 0) :: gs, h5695, none)
  refine bp_rv bu_134_78 ?_
  exact kk _ _ _ hP5698 FF5702 AA5703 z5701
theorem bt_202 (hP : bm_P bq_T E h0 h s A L) (kk : ∀ (h' : mm_H) (s' : Nat → Int32) (A' : Nat → Nat → Int32), bm_P bq_T E h0 h' s' A' L → (∀ j, (j < 1104 ∨ 1110 < j) → j ≠ 1204 → s' j = s j) → (∀ c, c ≠ 14 → c ≠ 15 → A' c = A c) → (s' 1104).toInt = 0 → ((s' 1105).toInt = 20 ∧ (s' 1106).toInt = 99 ∧ (s' 1107).toInt = 50 ∧ (s' 1108).toInt = 60 ∧ (s' 1109).toInt = 999 ∧ (s' 1110).toInt = 0) → (0 ≤ (s' 1204).toInt ∧ (s' 1204).toInt ≤ 432 ∧ 0 ≤ (s' 1104).toInt ∧ (s' 1104).toInt ≤ 6) → bp_G E PO NN (mm_back none gs h')) : bp_G E PO NN ((202, 0, [(0, .ref (E.1 + 11))], [], 0, 0) :: gs, h, none) := by
  refine bp_ld (pc' := 1) bu_202_0 rfl rfl (fun _ _ _ => rfl) rfl rfl ?_
  refine bp_c (pc' := 2) (n := 0) bu_202_1 rfl rfl (fun _ _ _ => rfl) (by decide) (fun c5704 e5705 => ?_)
  refine bn_pf (pc' := 5) (K := 1104) bu_202_2 rfl rfl (fun _ _ _ => rfl) hP bq_o11 bq_i11_4 rfl rfl (fun h5706 s5707 hP5708 e5709 f5710 => ?_)
  refine bp_ld (pc' := 6) bu_202_5 rfl rfl (fun _ _ _ => rfl) rfl rfl ?_
  refine bp_c (pc' := 8) (n := 20) bu_202_6 rfl rfl (fun _ _ _ => rfl) (by decide) (fun c5711 e5712 => ?_)
  refine bn_pf (pc' := 11) (K := 1105) bu_202_8 rfl rfl (fun _ _ _ => rfl) hP5708 bq_o11 bq_i11_5 rfl rfl (fun h5713 s5714 hP5715 e5716 f5717 => ?_)
  refine bp_ld (pc' := 12) bu_202_11 rfl rfl (fun _ _ _ => rfl) rfl rfl ?_
  refine bp_c (pc' := 14) (n := 99) bu_202_12 rfl rfl (fun _ _ _ => rfl) (by decide) (fun c5718 e5719 => ?_)
  refine bn_pf (pc' := 17) (K := 1106) bu_202_14 rfl rfl (fun _ _ _ => rfl) hP5715 bq_o11 bq_i11_6 rfl rfl (fun h5720 s5721 hP5722 e5723 f5724 => ?_)
  refine bp_ld (pc' := 18) bu_202_17 rfl rfl (fun _ _ _ => rfl) rfl rfl ?_
  refine bp_c (pc' := 20) (n := 50) bu_202_18 rfl rfl (fun _ _ _ => rfl) (by decide) (fun c5725 e5726 => ?_)
  refine bn_pf (pc' := 23) (K := 1107) bu_202_20 rfl rfl (fun _ _ _ => rfl) hP5722 bq_o11 bq_i11_7 rfl rfl (fun h5727 s5728 hP5729 e5730 f5731 => ?_)
  refine bp_ld (pc' := 24) bu_202_23 rfl rfl (fun _ _ _ => rfl) rfl rfl ?_
  refine bp_c (pc' := 26) (n := 60) bu_202_24 rfl rfl (fun _ _ _ => rfl) (by decide) (fun c5732 e5733 => ?_)
  refine bn_pf (pc' := 29) (K := 1108) bu_202_26 rfl rfl (fun _ _ _ => rfl) hP5729 bq_o11 bq_i11_8 rfl rfl (fun h5734 s5735 hP5736 e5737 f5738 => ?_)
  refine bp_ld (pc' := 30) bu_202_29 rfl rfl (fun _ _ _ => rfl) rfl rfl ?_
  refine bp_c (pc' := 33) (n := 999) bu_202_30 rfl rfl (fun _ _ _ => rfl) (by decide) (fun c5739 e5740 => ?_)
  refine bn_pf (pc' := 36) (K := 1109) bu_202_33 rfl rfl (fun _ _ _ => rfl) hP5736 bq_o11 bq_i11_9 rfl rfl (fun h5741 s5742 hP5743 e5744 f5745 => ?_)
  refine bp_ld (pc' := 37) bu_202_36 rfl rfl (fun _ _ _ => rfl) rfl rfl ?_
  refine bp_c (pc' := 38) (n := 0) bu_202_37 rfl rfl (fun _ _ _ => rfl) (by decide) (fun c5746 e5747 => ?_)
  refine bn_pf (pc' := 41) (K := 1110) bu_202_38 rfl rfl (fun _ _ _ => rfl) hP5743 bq_o11 bq_i11_10 rfl rfl (fun h5748 s5749 hP5750 e5751 f5752 => ?_)
  refine bp_ld (pc' := 42) bu_202_41 rfl rfl (fun _ _ _ => rfl) rfl rfl ?_
  refine bn_gr (pc' := 45) (t := 12) bu_202_42 rfl rfl (fun _ _ _ => rfl) hP5750 bq_o11 bq_r11_0 ?_
  refine bn_cvF (pc' := 48) (st := []) (args := []) bu_202_45 rfl rfl rfl (by decide) hP5750 bq_o12 (by decide) rfl (Nat.le_of_ble_eq_true rfl) (Nat.le_of_ble_eq_true rfl) ?_
  have z1104 := congrArg Int32.toInt ((f5752 1104 (by decide)).trans ((f5745 1104 (by decide)).trans ((f5738 1104 (by decide)).trans ((f5731 1104 (by decide)).trans ((f5724 1104 (by decide)).trans ((f5717 1104 (by decide)).trans e5709))))))
  have z1105 := congrArg Int32.toInt ((f5752 1105 (by decide)).trans ((f5745 1105 (by decide)).trans ((f5738 1105 (by decide)).trans ((f5731 1105 (by decide)).trans ((f5724 1105 (by decide)).trans e5716)))))
  have z1106 := congrArg Int32.toInt ((f5752 1106 (by decide)).trans ((f5745 1106 (by decide)).trans ((f5738 1106 (by decide)).trans ((f5731 1106 (by decide)).trans e5723))))
  have z1107 := congrArg Int32.toInt ((f5752 1107 (by decide)).trans ((f5745 1107 (by decide)).trans ((f5738 1107 (by decide)).trans e5730)))
  have z1108 := congrArg Int32.toInt ((f5752 1108 (by decide)).trans ((f5745 1108 (by decide)).trans e5737))
  have z1109 := congrArg Int32.toInt ((f5752 1109 (by decide)).trans e5744)
  have z1110 := congrArg Int32.toInt e5751
  refine bt_134 hP5750 ⟨by omega, by omega⟩ (fun h5753 s5754 A5755 hP5756 f5757 a5758 z5759 => ?_)
  show bp_G E PO NN ((202, 48, _, [], 0, 0) :: gs, h5753, none)
  refine bp_rv bu_202_48 ?_
  exact kk _ _ _ hP5756 (fun j u1 u2 => (f5757 j u2).trans ((f5752 j (by omega)).trans ((f5745 j (by omega)).trans ((f5738 j (by omega)).trans ((f5731 j (by omega)).trans ((f5724 j (by omega)).trans ((f5717 j (by omega)).trans (f5710 j (by omega))))))))) a5758 (by rw [f5757 1104 (by decide)]; omega) ⟨by rw [f5757 1105 (by decide)]; omega, by rw [f5757 1106 (by decide)]; omega, by rw [f5757 1107 (by decide)]; omega, by rw [f5757 1108 (by decide)]; omega, by rw [f5757 1109 (by decide)]; omega, by rw [f5757 1110 (by decide)]; omega⟩ z5759
theorem bt_161 {N : Nat} (hP : bm_P bq_T E h0 h s A L) (ha : (s 2002).toInt = -1) (hN : (s 2103).toInt = (N : Int)) (hN0 : 0 < N) (kk : ∀ (h' : mm_H) (s' : Nat → Int32) (L' : Nat → Nat → Int64), bm_P bq_T E h0 h' s' A L' → (s' 2002).toInt = 0 → s' 2003 = A 22 0 → L' 20 4 = L 24 0 → s' 2005 = A 23 0 → (∀ j, j ≠ 2002 → j ≠ 2003 → j ≠ 2005 → s' j = s j) → (∀ c, c ≠ 20 → L' c = L c) → bp_G E PO NN (mm_back none gs h')) : bp_G E PO NN ((161, 0, [(0, .ref (E.1 + 20))], [], 0, 0) :: gs, h, none) := by
  refine bp_ld (pc' := 1) bu_161_0 rfl rfl (fun _ _ _ => rfl) rfl rfl ?_
  refine bn_gi (pc' := 4) (K := 2002) bu_161_1 rfl rfl (fun _ _ _ => rfl) hP bq_o20 bq_i20_2 rfl rfl ?_
  refine bp_c (pc' := 7) (n := 400) bu_161_4 rfl rfl (fun _ _ _ => rfl) (by decide) (fun c5760 e5761 => ?_)
  refine bp_ic (pc' := 10) (pt := 29) bu_161_7 rfl rfl (fun k5762 => ?_) (fun k5762 => ?_)
  · replace k5762 : ((s 2002)).toInt < (c5760).toInt := k5762
    refine bp_ld (pc' := 30) bu_161_29 rfl rfl (fun _ _ _ => rfl) rfl rfl ?_
    refine bp_dup (pc' := 31) bu_161_30 rfl rfl ?_
    refine bn_gi (pc' := 34) (K := 2002) bu_161_31 rfl rfl (fun _ _ _ => rfl) hP bq_o20 bq_i20_2 rfl rfl ?_
    refine bp_c (pc' := 35) (n := 1) bu_161_34 rfl rfl (fun _ _ _ => rfl) (by decide) (fun c5763 e5764 => ?_)
    refine bp_add (pc' := 36) bu_161_35 rfl (by omega) (by omega) (fun v5765 e5766 => ?_)
    refine bn_pf (pc' := 39) (K := 2002) bu_161_36 rfl rfl (fun _ _ _ => rfl) hP bq_o20 bq_i20_2 rfl rfl (fun h5767 s5768 hP5769 e5770 f5771 => ?_)
    refine bp_ld (pc' := 40) bu_161_39 rfl rfl (fun _ _ _ => rfl) rfl rfl ?_
    refine bn_gi (pc' := 43) (K := 2002) bu_161_40 rfl rfl (fun _ _ _ => rfl) hP5769 bq_o20 bq_i20_2 rfl e5770 ?_
    refine bp_i0 (pc' := 46) (pt := 108) bu_161_43 rfl rfl (fun k5772 => ?_) (fun k5772 => ?_)
    · replace k5772 : (v5765).toInt < 0 := k5772
      refine bp_rv bu_161_108 ?_
      exfalso
      omega
    · replace k5772 : ¬ ((v5765).toInt < 0) := k5772
      refine bp_ld (pc' := 47) bu_161_46 rfl rfl (fun _ _ _ => rfl) rfl rfl ?_
      refine bn_gi (pc' := 50) (K := 2002) bu_161_47 rfl rfl (fun _ _ _ => rfl) hP5769 bq_o20 bq_i20_2 rfl e5770 ?_
      refine bp_ld (pc' := 51) bu_161_50 rfl rfl (fun _ _ _ => rfl) rfl rfl ?_
      refine bn_gr (pc' := 54) (t := 21) bu_161_51 rfl rfl (fun _ _ _ => rfl) hP5769 bq_o20 bq_r20_0 ?_
      refine bn_gi (pc' := 57) (K := 2103) bu_161_54 rfl rfl (fun _ _ _ => rfl) hP5769 bq_o21 bq_i21_3 rfl (f5771 2103 (by decide)) ?_
      refine bp_ic (pc' := 60) (pt := 108) bu_161_57 rfl rfl (fun k5773 => ?_) (fun k5773 => ?_)
      · replace k5773 : ((s 2103)).toInt ≤ (v5765).toInt := k5773
        refine bp_rv bu_161_108 ?_
        exfalso
        omega
      · replace k5773 : ¬ (((s 2103)).toInt ≤ (v5765).toInt) := k5773
        refine bp_ld (pc' := 61) bu_161_60 rfl rfl (fun _ _ _ => rfl) rfl rfl ?_
        refine bp_ld (pc' := 62) bu_161_61 rfl rfl (fun _ _ _ => rfl) rfl rfl ?_
        refine bn_gr (pc' := 65) (t := 21) bu_161_62 rfl rfl (fun _ _ _ => rfl) hP5769 bq_o20 bq_r20_0 ?_
        refine bn_gr (pc' := 68) (t := 22) bu_161_65 rfl rfl (fun _ _ _ => rfl) hP5769 bq_o21 bq_r21_0 ?_
        refine bp_ld (pc' := 69) bu_161_68 rfl rfl (fun _ _ _ => rfl) rfl rfl ?_
        refine bn_gi (pc' := 72) (K := 2002) bu_161_69 rfl rfl (fun _ _ _ => rfl) hP5769 bq_o20 bq_i20_2 rfl e5770 ?_
        refine bn_iaF (pc' := 73) bu_161_72 rfl rfl (fun _ _ _ => rfl) hP5769 bq_a22 (Or.inl rfl) (fun b5774 b5775 => ?_)
        refine bn_pf (pc' := 76) (K := 2003) bu_161_73 rfl rfl (fun _ _ _ => rfl) hP5769 bq_o20 bq_i20_3 rfl rfl (fun h5776 s5777 hP5778 e5779 f5780 => ?_)
        refine bp_ld (pc' := 77) bu_161_76 rfl rfl (fun _ _ _ => rfl) rfl rfl ?_
        refine bp_ld (pc' := 78) bu_161_77 rfl rfl (fun _ _ _ => rfl) rfl rfl ?_
        refine bn_gr (pc' := 81) (t := 21) bu_161_78 rfl rfl (fun _ _ _ => rfl) hP5778 bq_o20 bq_r20_0 ?_
        refine bn_gr (pc' := 84) (t := 24) bu_161_81 rfl rfl (fun _ _ _ => rfl) hP5778 bq_o21 bq_r21_2 ?_
        refine bp_ld (pc' := 85) bu_161_84 rfl rfl (fun _ _ _ => rfl) rfl rfl ?_
        refine bn_gi (pc' := 88) (K := 2002) bu_161_85 rfl rfl (fun _ _ _ => rfl) hP5778 bq_o20 bq_i20_2 rfl ((f5780 2002 (by decide)).trans e5770) ?_
        refine bn_laF (pc' := 89) bu_161_88 rfl rfl (fun _ _ _ => rfl) hP5778 bq_l24 (fun b5781 b5782 => ?_)
        refine bn_pl (pc' := 92) bu_161_89 rfl rfl (fun _ _ _ => rfl) hP5778 bq_o20 bq_f20_4 (fun h5783 hP5784 => ?_)
        refine bp_ld (pc' := 93) bu_161_92 rfl rfl (fun _ _ _ => rfl) rfl rfl ?_
        refine bp_ld (pc' := 94) bu_161_93 rfl rfl (fun _ _ _ => rfl) rfl rfl ?_
        refine bn_gr (pc' := 97) (t := 21) bu_161_94 rfl rfl (fun _ _ _ => rfl) hP5784 bq_o20 bq_r20_0 ?_
        refine bn_gr (pc' := 100) (t := 23) bu_161_97 rfl rfl (fun _ _ _ => rfl) hP5784 bq_o21 bq_r21_1 ?_
        refine bp_ld (pc' := 101) bu_161_100 rfl rfl (fun _ _ _ => rfl) rfl rfl ?_
        refine bn_gi (pc' := 104) (K := 2002) bu_161_101 rfl rfl (fun _ _ _ => rfl) hP5784 bq_o20 bq_i20_2 rfl ((f5780 2002 (by decide)).trans e5770) ?_
        refine bn_iaF (pc' := 105) bu_161_104 rfl rfl (fun _ _ _ => rfl) hP5784 bq_a23 (Or.inl rfl) (fun b5785 b5786 => ?_)
        refine bn_pf (pc' := 108) (K := 2005) bu_161_105 rfl rfl (fun _ _ _ => rfl) hP5784 bq_o20 bq_i20_5 rfl rfl (fun h5787 s5788 hP5789 e5790 f5791 => ?_)
        refine bp_rv bu_161_108 ?_
        have z2002 := congrArg Int32.toInt ((f5791 2002 (by decide)).trans ((f5780 2002 (by decide)).trans e5770))
        have hi : (v5765).toInt.toNat = 0 := by omega
        have r3 := ((f5791 2003 (by decide)).trans e5779)
        have r5 := e5790
        rw [hi] at r3 r5
        exact kk _ _ _ hP5789 (by omega) r3 (by rw [hi]; unfold bh_upL vp_updL; rw [if_pos rfl, if_pos rfl]) r5 (fun j u2 u3 u5 => ((f5791 j u5).trans ((f5780 j u3).trans (f5771 j u2)))) (fun c u => if_neg u)
  · replace k5762 : ¬ (((s 2002)).toInt < (c5760).toInt) := k5762
    refine bp_ld (pc' := 11) bu_161_10 rfl rfl (fun _ _ _ => rfl) rfl rfl ?_
    refine bp_c (pc' := 12) (n := 2) bu_161_11 rfl rfl (fun _ _ _ => rfl) (by decide) (fun c5792 e5793 => ?_)
    refine bn_pf (pc' := 15) (K := 2006) bu_161_12 rfl rfl (fun _ _ _ => rfl) hP bq_o20 bq_i20_6 rfl rfl (fun h5794 s5795 hP5796 e5797 f5798 => ?_)
    refine bp_ld (pc' := 16) bu_161_15 rfl rfl (fun _ _ _ => rfl) rfl rfl ?_
    refine bp_ld (pc' := 17) bu_161_16 rfl rfl (fun _ _ _ => rfl) rfl rfl ?_
    refine bn_gi (pc' := 20) (K := 2005) bu_161_17 rfl rfl (fun _ _ _ => rfl) hP5796 bq_o20 bq_i20_5 rfl (f5798 2005 (by decide)) ?_
    refine bn_pf (pc' := 23) (K := 2007) bu_161_20 rfl rfl (fun _ _ _ => rfl) hP5796 bq_o20 bq_i20_7 rfl rfl (fun h5799 s5800 hP5801 e5802 f5803 => ?_)
    refine bp_ld (pc' := 24) bu_161_23 rfl rfl (fun _ _ _ => rfl) rfl rfl ?_
    refine bp_c (pc' := 25) (n := 1) bu_161_24 rfl rfl (fun _ _ _ => rfl) (by decide) (fun c5804 e5805 => ?_)
    refine bn_pf (pc' := 28) (K := 2003) bu_161_25 rfl rfl (fun _ _ _ => rfl) hP5801 bq_o20 bq_i20_3 rfl rfl (fun h5806 s5807 hP5808 e5809 f5810 => ?_)
    refine bp_rv bu_161_28 ?_
    exfalso
    omega
set_option maxHeartbeats 4000000 in
theorem bt_173l {x9 y9 : Int32} {τ : py_S} {ωτ : Nat → Nat} {N : Nat} {s0 : Nat → Int32} {A0 : Nat → Nat → Int32} {L0 : Nat → Nat → Int64} (hS : ∀ ρ, en_SA E ρ (wl_o x9 y9) mt_SB) (hd : gs.length + 60 ≤ 999) (hT : rc_T (fun j => px_kd X n (px_at X n j)) (fun j => px_vl X n (px_at X n j)) (fun j => (px_at X n j : Int)) N s0 A0 L0) (hQ : ∀ i j, i < N → j < N → (fun j => px_kd X n (px_at X n j)) i = 1 → (fun j => px_kd X n (px_at X n j)) j = 1 → (rq_Q X n i j = true ↔ L0 24 i = L0 24 j)) : ∀ NN : Nat, (∀ (h : mm_H) (s : Nat → Int32) (A : Nat → Nat → Int32) (L : Nat → Nat → Int64) (lv : mm_V) (o : Option Value), bm_P bq_T E h0 h s A L → rc_G s0 A0 L0 s A L → rc_R (fun j => px_kd X n (px_at X n j)) (fun j => px_vl X n (px_at X n j)) (fun j => (px_at X n j : Int)) N τ s L → mm_get lv 0 = some (.ref (E.1 + 20)) → (τ.2.1 = 0 → rc_O (fun j => px_vl X n (px_at X n j)) τ.2.2.2.2 ωτ s A) → bp_G E PO NN ((173, 77, lv, [], 0, 0) :: gs, h, o)) → (∀ (h : mm_H) (s : Nat → Int32) (A : Nat → Nat → Int32) (L : Nat → Nat → Int64) (lv : mm_V) (o : Option Value) (σ : py_S) (i : Int32) (r : Nat) (ω : Nat → Nat), bm_P bq_T E h0 h s A L → rc_G s0 A0 L0 s A L → rc_R (fun j => px_kd X n (px_at X n j)) (fun j => px_vl X n (px_at X n j)) (fun j => (px_at X n j : Int)) N σ s L → (0 ≤ (s 1204).toInt ∧ (s 1204).toInt ≤ 432 ∧ 0 ≤ (s 1104).toInt ∧ (s 1104).toInt ≤ 6) → mm_get lv 0 = some (.ref (E.1 + 20)) → mm_get lv 2 = some (.int i) → 0 ≤ i.toInt → i.toInt + (r : Int) = 401 → py_al (fun j => px_kd X n (px_at X n j)) (fun j => px_vl X n (px_at X n j)) (rq_Q X n) r σ = τ → py_aw (fun j => px_kd X n (px_at X n j)) (fun j => px_vl X n (px_at X n j)) (rq_Q X n) r σ ω = ωτ → (σ.2.1 = 0 → rc_O (fun j => px_vl X n (px_at X n j)) σ.2.2.2.2 ω s A) → bp_G E PO NN ((173, 46, lv, [], 0, 0) :: gs, h, o)) := by
  intro NN
  induction NN with
  | zero => intro kk h s A L lv o σ i r ω hP hF hR hc g0 g2 i0 hr hx hw hO; exact bp_zero bu_173_46
  | succ NN ih =>
    intro kk h s A L lv o σ i r ω hP hF hR hc g0 g2 i0 hr hx hw hO
    have q1 := hR.1
    refine bp_ld (pc' := 47) bu_173_46 rfl rfl (fun _ _ _ => rfl) g2 rfl ?_
    refine bp_c (pc' := 50) (n := 400) bu_173_47 rfl rfl (fun _ _ _ => rfl) (by decide) (fun c5811 e5812 => ?_)
    refine bp_ic (pc' := 53) (pt := 77) bu_173_50 rfl rfl (fun k5813 => ?_) (fun k5813 => ?_)
    · replace k5813 : (c5811).toInt < (i).toInt := k5813
      have ex : py_al (fun j => px_kd X n (px_at X n j)) (fun j => px_vl X n (px_at X n j)) (rq_Q X n) r σ = σ := by
        by_cases q0 : σ.2.1 = 0
        · by_cases e : r = 0
          · rw [e]
            rfl
          · refine py_al_e (fun u => ?_)
            have a : rc_k (px_kd X n (px_at X n σ.1)) (px_vl X n (px_at X n σ.1)) (s 2003).toInt (L 20 4).toInt := (hR.2.1 q0).2.2.1
            unfold rc_k at a
            have a2 : ¬ px_kd X n (px_at X n σ.1) = 0 := u.2
            have q1 := hR.1
            omega
        · exact py_al_f q0
      have ew : py_aw (fun j => px_kd X n (px_at X n j)) (fun j => px_vl X n (px_at X n j)) (rq_Q X n) r σ ω = ω := by
        by_cases q0 : σ.2.1 = 0
        · by_cases e : r = 0
          · rw [e]
            rfl
          · refine py_aw_e (fun u => ?_)
            have a : rc_k (px_kd X n (px_at X n σ.1)) (px_vl X n (px_at X n σ.1)) (s 2003).toInt (L 20 4).toInt := (hR.2.1 q0).2.2.1
            unfold rc_k at a
            have a2 : ¬ px_kd X n (px_at X n σ.1) = 0 := u.2
            have q1 := hR.1
            omega
        · exact py_aw_e (fun u => q0 u.1)
      rw [ex] at hx
      rw [ew] at hw
      exact kk _ _ _ _ _ _ hP hF (by rw [← hx]; exact hR) g0 (by rw [← hx, ← hw]; exact hO)
    · replace k5813 : ¬ ((c5811).toInt < (i).toInt) := k5813
      refine bp_ld (pc' := 54) bu_173_53 rfl rfl (fun _ _ _ => rfl) g0 rfl ?_
      refine bn_gi (pc' := 57) (K := 2006) bu_173_54 rfl rfl (fun _ _ _ => rfl) hP bq_o20 bq_i20_6 rfl rfl ?_
      refine bp_i0 (pc' := 60) (pt := 77) bu_173_57 rfl rfl (fun k5814 => ?_) (fun k5814 => ?_)
      · replace k5814 : ((s 2006)).toInt ≠ 0 := k5814
        have ex : py_al (fun j => px_kd X n (px_at X n j)) (fun j => px_vl X n (px_at X n j)) (rq_Q X n) r σ = σ := by
          by_cases q0 : σ.2.1 = 0
          · by_cases e : r = 0
            · rw [e]
              rfl
            · refine py_al_e (fun u => ?_)
              have a : rc_k (px_kd X n (px_at X n σ.1)) (px_vl X n (px_at X n σ.1)) (s 2003).toInt (L 20 4).toInt := (hR.2.1 q0).2.2.1
              unfold rc_k at a
              have a2 : ¬ px_kd X n (px_at X n σ.1) = 0 := u.2
              have q1 := hR.1
              omega
          · exact py_al_f q0
        have ew : py_aw (fun j => px_kd X n (px_at X n j)) (fun j => px_vl X n (px_at X n j)) (rq_Q X n) r σ ω = ω := by
          by_cases q0 : σ.2.1 = 0
          · by_cases e : r = 0
            · rw [e]
              rfl
            · refine py_aw_e (fun u => ?_)
              have a : rc_k (px_kd X n (px_at X n σ.1)) (px_vl X n (px_at X n σ.1)) (s 2003).toInt (L 20 4).toInt := (hR.2.1 q0).2.2.1
              unfold rc_k at a
              have a2 : ¬ px_kd X n (px_at X n σ.1) = 0 := u.2
              have q1 := hR.1
              omega
          · exact py_aw_e (fun u => q0 u.1)
        rw [ex] at hx
        rw [ew] at hw
        exact kk _ _ _ _ _ _ hP hF (by rw [← hx]; exact hR) g0 (by rw [← hx, ← hw]; exact hO)
      · replace k5814 : ¬ (((s 2006)).toInt ≠ 0) := k5814
        refine bp_ld (pc' := 61) bu_173_60 rfl rfl (fun _ _ _ => rfl) g0 rfl ?_
        refine bn_gi (pc' := 64) (K := 2003) bu_173_61 rfl rfl (fun _ _ _ => rfl) hP bq_o20 bq_i20_3 rfl rfl ?_
        refine bp_i0 (pc' := 67) (pt := 77) bu_173_64 rfl rfl (fun k5815 => ?_) (fun k5815 => ?_)
        · replace k5815 : ((s 2003)).toInt = 0 := k5815
          have ex : py_al (fun j => px_kd X n (px_at X n j)) (fun j => px_vl X n (px_at X n j)) (rq_Q X n) r σ = σ := by
            by_cases q0 : σ.2.1 = 0
            · by_cases e : r = 0
              · rw [e]
                rfl
              · refine py_al_e (fun u => ?_)
                have a : rc_k (px_kd X n (px_at X n σ.1)) (px_vl X n (px_at X n σ.1)) (s 2003).toInt (L 20 4).toInt := (hR.2.1 q0).2.2.1
                unfold rc_k at a
                have a2 : ¬ px_kd X n (px_at X n σ.1) = 0 := u.2
                have q1 := hR.1
                omega
            · exact py_al_f q0
          have ew : py_aw (fun j => px_kd X n (px_at X n j)) (fun j => px_vl X n (px_at X n j)) (rq_Q X n) r σ ω = ω := by
            by_cases q0 : σ.2.1 = 0
            · by_cases e : r = 0
              · rw [e]
                rfl
              · refine py_aw_e (fun u => ?_)
                have a : rc_k (px_kd X n (px_at X n σ.1)) (px_vl X n (px_at X n σ.1)) (s 2003).toInt (L 20 4).toInt := (hR.2.1 q0).2.2.1
                unfold rc_k at a
                have a2 : ¬ px_kd X n (px_at X n σ.1) = 0 := u.2
                have q1 := hR.1
                omega
            · exact py_aw_e (fun u => q0 u.1)
          rw [ex] at hx
          rw [ew] at hw
          exact kk _ _ _ _ _ _ hP hF (by rw [← hx]; exact hR) g0 (by rw [← hx, ← hw]; exact hO)
        · replace k5815 : ¬ (((s 2003)).toInt = 0) := k5815
          refine bp_ld (pc' := 68) bu_173_67 rfl rfl (fun _ _ _ => rfl) g0 rfl ?_
          refine bn_cvF (pc' := 71) (st := []) (args := []) bu_173_68 rfl rfl rfl (by decide) hP bq_o20 (by decide) rfl (Nat.le_of_ble_eq_true rfl) (Nat.le_of_ble_eq_true rfl) ?_
          have q0 : σ.2.1 = 0 := by omega
          refine cr_174 (Q := rq_Q X n) hS (by rw [hF.2.2.1]; exact hQ) hP (by simp only [List.length_cons]; omega) hR (rc_T_G hT hF) hc q0 (fun h5816 s5817 A5818 L5819 hP5820 F5821 R5822 T5823 => ?_)
          show bp_G E PO (NN + 1) ((173, 71, lv, [], 0, 0) :: gs, h5816, none)
          refine bp_inc (pc' := 74) bu_173_71 rfl (by decide) g2 (by decide) (by omega) (by omega) (fun lv5824 y5827 F5825 g5826 e5828 => ?_)
          have g5829 := F5825 0 (.ref (E.1 + 20)) g0 (by decide) (Or.inl rfl)
          refine bp_goD (pc' := 46) bu_173_74 rfl ?_
          obtain ⟨r, rfl⟩ : ∃ r', r = r' + 1 := ⟨r - 1, by omega⟩
          have hk0 : px_kd X n (px_at X n σ.1) ≠ 0 := fun u => by
            have a : rc_k (px_kd X n (px_at X n σ.1)) (px_vl X n (px_at X n σ.1)) (s 2003).toInt (L 20 4).toInt := (hR.2.1 q0).2.2.1
            unfold rc_k at a
            omega
          rw [py_al_s q0 hk0] at hx
          rw [py_aw_s q0 hk0] at hw
          exact ih (fun h s A L lv o a0 a1 a2 a3 a4 => bp_mono (Nat.le_succ NN) (kk h s A L lv o a0 a1 a2 a3 a4)) _ _ _ _ _ _ _ _ r _ hP5820 (rc_G_t hF F5821) R5822 (F5821.2.2.2 hc) g5829 g5826 (by omega) (by omega) hx hw (fun u => T5823 u _ (hO q0))
set_option maxHeartbeats 4000000 in
theorem bt_173e {τ : py_S} {ωτ : Nat → Nat} {N : Nat} {lv : mm_V} {o : Option Value} (hP : bm_P bq_T E h0 h s A L) (hR : rc_R (fun j => px_kd X n (px_at X n j)) (fun j => px_vl X n (px_at X n j)) (fun j => (px_at X n j : Int)) N τ s L) (g0 : mm_get lv 0 = some (.ref (E.1 + 20))) (hO : τ.2.1 = 0 → rc_O (fun j => px_vl X n (px_at X n j)) τ.2.2.2.2 ωτ s A) (kk : ∀ (h' : mm_H) (s' : Nat → Int32) (A' : Nat → Nat → Int32) (L' : Nat → Nat → Int64) (r : Int32), bm_P bq_T E h0 h' s' A' L' → r.toInt = (py_ft τ : Int) → (s' 2007).toInt = py_pl (fun j => px_at X n j) τ → (r.toInt = 0 → (s' 1104).toInt = ((τ).2.2.2.2.length : Int) ∧ rc_O (fun j => px_vl X n (px_at X n j)) (τ).2.2.2.2 ωτ s' A' ∧ (τ).2.2.2.2.length ≤ 6) → bp_G E PO NN (mm_back (some (.int r)) gs h')) : bp_G E PO NN ((173, 77, lv, [], 0, 0) :: gs, h, o) := by
  have q1 := hR.1
  have q2 : τ.2.1 = 0 → (s 2008).toInt = (τ.2.2.1 : Int) := fun u => (hR.2.1 u).2.2.2.2.1
  have q3 : τ.2.1 ≠ 0 → (s 2007).toInt = (px_at X n τ.1 : Int) := fun u => (hR.2.2 u).2
  have q4 : τ.2.1 = 0 → (s 2009).toInt = (if τ.2.2.1 ≠ 0 then (px_at X n τ.2.2.2.1 : Int) else -1) := fun u => (hR.2.1 u).2.2.2.2.2.1
  have q6 : τ.2.1 = 0 → τ.2.2.2.2.length ≤ 6 := fun u => (hR.2.1 u).2.2.2.2.2.2.2.1
  have q5 : τ.2.1 = 0 → (s 1104).toInt = (τ.2.2.2.2.length : Int) := fun u => (hR.2.1 u).2.2.2.2.2.2.1
  refine bp_ld (pc' := 78) bu_173_77 rfl rfl (fun _ _ _ => rfl) g0 rfl ?_
  refine bn_gi (pc' := 81) (K := 2006) bu_173_78 rfl rfl (fun _ _ _ => rfl) hP bq_o20 bq_i20_6 rfl rfl ?_
  refine bp_i0 (pc' := 84) (pt := 100) bu_173_81 rfl rfl (fun k5830 => ?_) (fun k5830 => ?_)
  · replace k5830 : ((s 2006)).toInt ≠ 0 := k5830
    refine bp_ld (pc' := 101) bu_173_100 rfl rfl (fun _ _ _ => rfl) g0 rfl ?_
    refine bn_gi (pc' := 104) (K := 2006) bu_173_101 rfl rfl (fun _ _ _ => rfl) hP bq_o20 bq_i20_6 rfl rfl ?_
    refine bp_ri bu_173_104 ?_
    exact kk _ _ _ _ _ hP (by unfold py_ft; first | (rw [if_pos (by omega)]; omega) | (rw [if_neg (by omega)]; omega)) (by unfold py_pl; first | (rw [if_pos (by omega)]; have u := q3 (by omega); omega) | (rw [if_neg (by omega)]; have u := q4 (by omega); exact absurd u9 (by omega))) (fun z => ⟨by have u := q5 (by omega); omega, rc_O_s (hO (by omega)) (fun j j1 j2 => rfl) rfl rfl (fun _ _ => rfl), q6 (by omega)⟩)
  · replace k5830 : ¬ (((s 2006)).toInt ≠ 0) := k5830
    refine bp_ld (pc' := 85) bu_173_84 rfl rfl (fun _ _ _ => rfl) g0 rfl ?_
    refine bp_ld (pc' := 86) bu_173_85 rfl rfl (fun _ _ _ => rfl) g0 rfl ?_
    refine bn_gi (pc' := 89) (K := 2008) bu_173_86 rfl rfl (fun _ _ _ => rfl) hP bq_o20 bq_i20_8 rfl rfl ?_
    refine bn_pf (pc' := 92) (K := 2006) bu_173_89 rfl rfl (fun _ _ _ => rfl) hP bq_o20 bq_i20_6 rfl rfl (fun h5831 s5832 hP5833 e5834 f5835 => ?_)
    refine bp_ld (pc' := 93) bu_173_92 rfl rfl (fun _ _ _ => rfl) g0 rfl ?_
    refine bp_ld (pc' := 94) bu_173_93 rfl rfl (fun _ _ _ => rfl) g0 rfl ?_
    refine bn_gi (pc' := 97) (K := 2009) bu_173_94 rfl rfl (fun _ _ _ => rfl) hP5833 bq_o20 bq_i20_9 rfl (f5835 2009 (by decide)) ?_
    refine bn_pf (pc' := 100) (K := 2007) bu_173_97 rfl rfl (fun _ _ _ => rfl) hP5833 bq_o20 bq_i20_7 rfl rfl (fun h5836 s5837 hP5838 e5839 f5840 => ?_)
    refine bp_ld (pc' := 101) bu_173_100 rfl rfl (fun _ _ _ => rfl) g0 rfl ?_
    refine bn_gi (pc' := 104) (K := 2006) bu_173_101 rfl rfl (fun _ _ _ => rfl) hP5838 bq_o20 bq_i20_6 rfl ((f5840 2006 (by decide)).trans e5834) ?_
    refine bp_ri bu_173_104 ?_
    have z2006 := congrArg Int32.toInt ((f5840 2006 (by decide)).trans e5834)
    have z2007 := congrArg Int32.toInt e5839
    have z1104 := congrArg Int32.toInt ((f5840 1104 (by decide)).trans (f5835 1104 (by decide)))
    exact kk _ _ _ _ _ hP5838 (by unfold py_ft; first | (rw [if_pos (by omega)]; omega) | (rw [if_neg (by omega)]; omega)) (by unfold py_pl; first | (rw [if_pos (by omega)]; have u := q3 (by omega); omega) | (rw [if_neg (by omega)]; have u := q4 (by omega); exact z2007.trans u)) (fun z => ⟨by have u := q5 (by omega); omega, rc_O_s (hO (by omega)) (fun j j1 j2 => ((f5840 j (by omega)).trans (f5835 j (by omega)))) rfl rfl (fun _ _ => rfl), q6 (by omega)⟩)
end BTQ
