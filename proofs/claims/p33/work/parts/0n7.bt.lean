/-! PARTIAL: the class reads its tape, exact (wip/p5/mkq7.py) -/
theorem bu_134_0 : mm_at mt_P 134 0 = some ((0, 1, .aload_n 0, 0, 0, 0, 0), 1, 0, 1, 1, 0, 0, 0) := rfl
theorem bu_134_1 : mm_at mt_P 134 1 = some ((1, 1, .iconst 0, 0, 0, 0, 0), 1, 0, 1, 1, 0, 0, 0) := rfl
theorem bu_134_2 : mm_at mt_P 134 2 = some ((2, 3, .putfield 24, 1, 4, 0, 147), 1, 0, 1, 1, 0, 0, 0) := rfl
theorem bu_134_5 : mm_at mt_P 134 5 = some ((5, 1, .aload_n 0, 0, 0, 0, 0), 1, 0, 1, 1, 0, 0, 0) := rfl
theorem bu_134_6 : mm_at mt_P 134 6 = some ((6, 1, .iconst 0, 0, 0, 0, 0), 1, 0, 1, 1, 0, 0, 0) := rfl
theorem bu_134_7 : mm_at mt_P 134 7 = some ((7, 1, .iconst 2, 0, 0, 0, 0), 1, 0, 1, 1, 0, 0, 0) := rfl
theorem bu_134_8 : mm_at mt_P 134 8 = some ((8, 3, .invokevirtual 28, 143, 0, 0, 169), 1, 0, 1, 1, 0, 0, 0) := rfl
theorem bu_134_11 : mm_at mt_P 134 11 = some ((11, 1, .aload_n 0, 0, 0, 0, 0), 1, 0, 1, 1, 0, 0, 0) := rfl
theorem bu_134_12 : mm_at mt_P 134 12 = some ((12, 1, .iconst 1, 0, 0, 0, 0), 1, 0, 1, 1, 0, 0, 0) := rfl
theorem bu_134_13 : mm_at mt_P 134 13 = some ((13, 1, .iconst 0, 0, 0, 0, 0), 1, 0, 1, 1, 0, 0, 0) := rfl
theorem bu_134_14 : mm_at mt_P 134 14 = some ((14, 3, .invokevirtual 28, 143, 0, 0, 169), 1, 0, 1, 1, 0, 0, 0) := rfl
theorem bu_134_17 : mm_at mt_P 134 17 = some ((17, 1, .aload_n 0, 0, 0, 0, 0), 1, 0, 1, 1, 0, 0, 0) := rfl
theorem bu_134_18 : mm_at mt_P 134 18 = some ((18, 1, .iconst 2, 0, 0, 0, 0), 1, 0, 1, 1, 0, 0, 0) := rfl
theorem bu_134_19 : mm_at mt_P 134 19 = some ((19, 1, .iconst 1, 0, 0, 0, 0), 1, 0, 1, 1, 0, 0, 0) := rfl
theorem bu_134_20 : mm_at mt_P 134 20 = some ((20, 3, .invokevirtual 28, 143, 0, 0, 169), 1, 0, 1, 1, 0, 0, 0) := rfl
theorem bu_134_23 : mm_at mt_P 134 23 = some ((23, 1, .aload_n 0, 0, 0, 0, 0), 1, 0, 1, 1, 0, 0, 0) := rfl
theorem bu_134_24 : mm_at mt_P 134 24 = some ((24, 3, .getfield 18, 1, 2, 0, 145), 1, 0, 1, 1, 0, 0, 0) := rfl
theorem bu_134_27 : mm_at mt_P 134 27 = some ((27, 1, .iconst 3, 0, 0, 0, 0), 1, 0, 1, 1, 0, 0, 0) := rfl
theorem bu_134_28 : mm_at mt_P 134 28 = some ((28, 1, .aload_n 0, 0, 0, 0, 0), 1, 0, 1, 1, 0, 0, 0) := rfl
theorem bu_134_29 : mm_at mt_P 134 29 = some ((29, 3, .getfield 24, 1, 4, 0, 147), 1, 0, 1, 1, 0, 0, 0) := rfl
theorem bu_134_32 : mm_at mt_P 134 32 = some ((32, 1, .iastore, 0, 0, 0, 0), 1, 0, 1, 1, 0, 0, 0) := rfl
theorem bu_134_33 : mm_at mt_P 134 33 = some ((33, 1, .aload_n 0, 0, 0, 0, 0), 1, 0, 1, 1, 0, 0, 0) := rfl
theorem bu_134_34 : mm_at mt_P 134 34 = some ((34, 1, .iconst 1, 0, 0, 0, 0), 1, 0, 1, 1, 0, 0, 0) := rfl
theorem bu_134_35 : mm_at mt_P 134 35 = some ((35, 2, .bipush 7, 0, 0, 0, 0), 1, 0, 1, 1, 0, 0, 0) := rfl
theorem bu_134_37 : mm_at mt_P 134 37 = some ((37, 3, .invokevirtual 32, 136, 0, 0, 173), 1, 0, 1, 1, 0, 0, 0) := rfl
theorem bu_134_40 : mm_at mt_P 134 40 = some ((40, 1, .aload_n 0, 0, 0, 0, 0), 1, 0, 1, 1, 0, 0, 0) := rfl
theorem bu_134_41 : mm_at mt_P 134 41 = some ((41, 1, .iconst 1, 0, 0, 0, 0), 1, 0, 1, 1, 0, 0, 0) := rfl
theorem bu_134_42 : mm_at mt_P 134 42 = some ((42, 2, .bipush 6, 0, 0, 0, 0), 1, 0, 1, 1, 0, 0, 0) := rfl
theorem bu_134_44 : mm_at mt_P 134 44 = some ((44, 3, .invokevirtual 32, 136, 0, 0, 173), 1, 0, 1, 1, 0, 0, 0) := rfl
theorem bu_134_47 : mm_at mt_P 134 47 = some ((47, 1, .aload_n 0, 0, 0, 0, 0), 1, 0, 1, 1, 0, 0, 0) := rfl
theorem bu_134_48 : mm_at mt_P 134 48 = some ((48, 1, .iconst 4, 0, 0, 0, 0), 1, 0, 1, 1, 0, 0, 0) := rfl
theorem bu_134_49 : mm_at mt_P 134 49 = some ((49, 1, .iconst 0, 0, 0, 0, 0), 1, 0, 1, 1, 0, 0, 0) := rfl
theorem bu_134_50 : mm_at mt_P 134 50 = some ((50, 3, .invokevirtual 32, 136, 0, 0, 173), 1, 0, 1, 1, 0, 0, 0) := rfl
theorem bu_134_53 : mm_at mt_P 134 53 = some ((53, 1, .aload_n 0, 0, 0, 0, 0), 1, 0, 1, 1, 0, 0, 0) := rfl
theorem bu_134_54 : mm_at mt_P 134 54 = some ((54, 1, .iconst 2, 0, 0, 0, 0), 1, 0, 1, 1, 0, 0, 0) := rfl
theorem bu_134_55 : mm_at mt_P 134 55 = some ((55, 1, .iconst 0, 0, 0, 0, 0), 1, 0, 1, 1, 0, 0, 0) := rfl
theorem bu_134_56 : mm_at mt_P 134 56 = some ((56, 3, .invokevirtual 32, 136, 0, 0, 173), 1, 0, 1, 1, 0, 0, 0) := rfl
theorem bu_134_59 : mm_at mt_P 134 59 = some ((59, 1, .aload_n 0, 0, 0, 0, 0), 1, 0, 1, 1, 0, 0, 0) := rfl
theorem bu_134_60 : mm_at mt_P 134 60 = some ((60, 1, .iconst 4, 0, 0, 0, 0), 1, 0, 1, 1, 0, 0, 0) := rfl
theorem bu_134_61 : mm_at mt_P 134 61 = some ((61, 1, .iconst 0, 0, 0, 0, 0), 1, 0, 1, 1, 0, 0, 0) := rfl
theorem bu_134_62 : mm_at mt_P 134 62 = some ((62, 3, .invokevirtual 28, 143, 0, 0, 169), 1, 0, 1, 1, 0, 0, 0) := rfl
theorem bu_134_65 : mm_at mt_P 134 65 = some ((65, 1, .aload_n 0, 0, 0, 0, 0), 1, 0, 1, 1, 0, 0, 0) := rfl
theorem bu_134_66 : mm_at mt_P 134 66 = some ((66, 1, .iconst 5, 0, 0, 0, 0), 1, 0, 1, 1, 0, 0, 0) := rfl
theorem bu_134_67 : mm_at mt_P 134 67 = some ((67, 1, .iconst 1, 0, 0, 0, 0), 1, 0, 1, 1, 0, 0, 0) := rfl
theorem bu_134_68 : mm_at mt_P 134 68 = some ((68, 3, .invokevirtual 28, 143, 0, 0, 169), 1, 0, 1, 1, 0, 0, 0) := rfl
theorem bu_134_71 : mm_at mt_P 134 71 = some ((71, 1, .aload_n 0, 0, 0, 0, 0), 1, 0, 1, 1, 0, 0, 0) := rfl
theorem bu_134_72 : mm_at mt_P 134 72 = some ((72, 2, .bipush 6, 0, 0, 0, 0), 1, 0, 1, 1, 0, 0, 0) := rfl
theorem bu_134_74 : mm_at mt_P 134 74 = some ((74, 1, .iconst 0, 0, 0, 0, 0), 1, 0, 1, 1, 0, 0, 0) := rfl
theorem bu_134_75 : mm_at mt_P 134 75 = some ((75, 3, .invokevirtual 28, 143, 0, 0, 169), 1, 0, 1, 1, 0, 0, 0) := rfl
theorem bu_134_78 : mm_at mt_P 134 78 = some ((78, 1, .return_, 0, 0, 0, 0), 1, 0, 1, 1, 0, 0, 0) := rfl
theorem bu_143_0 : mm_at mt_P 143 0 = some ((0, 1, .aload_n 0, 0, 0, 0, 0), 3, 2, 1, 1, 0, 0, 0) := rfl
theorem bu_143_1 : mm_at mt_P 143 1 = some ((1, 3, .getfield 18, 1, 2, 0, 145), 3, 2, 1, 1, 0, 0, 0) := rfl
theorem bu_143_4 : mm_at mt_P 143 4 = some ((4, 1, .iload_n 1, 0, 0, 0, 0), 3, 2, 1, 1, 0, 0, 0) := rfl
theorem bu_143_5 : mm_at mt_P 143 5 = some ((5, 1, .aload_n 0, 0, 0, 0, 0), 3, 2, 1, 1, 0, 0, 0) := rfl
theorem bu_143_6 : mm_at mt_P 143 6 = some ((6, 3, .getfield 24, 1, 4, 0, 147), 3, 2, 1, 1, 0, 0, 0) := rfl
theorem bu_143_9 : mm_at mt_P 143 9 = some ((9, 1, .iastore, 0, 0, 0, 0), 3, 2, 1, 1, 0, 0, 0) := rfl
theorem bu_143_10 : mm_at mt_P 143 10 = some ((10, 1, .aload_n 0, 0, 0, 0, 0), 3, 2, 1, 1, 0, 0, 0) := rfl
theorem bu_143_11 : mm_at mt_P 143 11 = some ((11, 1, .iconst 0, 0, 0, 0, 0), 3, 2, 1, 1, 0, 0, 0) := rfl
theorem bu_143_12 : mm_at mt_P 143 12 = some ((12, 1, .iload_n 2, 0, 0, 0, 0), 3, 2, 1, 1, 0, 0, 0) := rfl
theorem bu_143_13 : mm_at mt_P 143 13 = some ((13, 3, .invokevirtual 32, 136, 0, 0, 173), 3, 2, 1, 1, 0, 0, 0) := rfl
theorem bu_143_16 : mm_at mt_P 143 16 = some ((16, 1, .aload_n 0, 0, 0, 0, 0), 3, 2, 1, 1, 0, 0, 0) := rfl
theorem bu_143_17 : mm_at mt_P 143 17 = some ((17, 1, .iconst 2, 0, 0, 0, 0), 3, 2, 1, 1, 0, 0, 0) := rfl
theorem bu_143_18 : mm_at mt_P 143 18 = some ((18, 1, .iconst 0, 0, 0, 0, 0), 3, 2, 1, 1, 0, 0, 0) := rfl
theorem bu_143_19 : mm_at mt_P 143 19 = some ((19, 3, .invokevirtual 32, 136, 0, 0, 173), 3, 2, 1, 1, 0, 0, 0) := rfl
theorem bu_143_22 : mm_at mt_P 143 22 = some ((22, 1, .return_, 0, 0, 0, 0), 3, 2, 1, 1, 0, 0, 0) := rfl
theorem bu_173_46 : mm_at mt_P 173 46 = some ((46, 1, .iload_n 2, 0, 0, 0, 0), 3, 1, 1, 4, 1, 0, 0) := rfl
theorem bu_173_47 : mm_at mt_P 173 47 = some ((47, 3, .sipush 400, 0, 0, 0, 0), 3, 1, 1, 4, 1, 0, 0) := rfl
theorem bu_173_50 : mm_at mt_P 173 50 = some ((50, 3, .if_icmp .gt 27, 0, 0, 0, 0), 3, 1, 1, 4, 1, 0, 0) := rfl
theorem bu_173_53 : mm_at mt_P 173 53 = some ((53, 1, .aload_n 0, 0, 0, 0, 0), 3, 1, 1, 4, 1, 0, 0) := rfl
theorem bu_173_54 : mm_at mt_P 173 54 = some ((54, 3, .getfield 37, 4, 6, 0, 280), 3, 1, 1, 4, 1, 0, 0) := rfl
theorem bu_173_57 : mm_at mt_P 173 57 = some ((57, 3, .ifCond .ne 20, 0, 0, 0, 0), 3, 1, 1, 4, 1, 0, 0) := rfl
theorem bu_173_60 : mm_at mt_P 173 60 = some ((60, 1, .aload_n 0, 0, 0, 0, 0), 3, 1, 1, 4, 1, 0, 0) := rfl
theorem bu_173_61 : mm_at mt_P 173 61 = some ((61, 3, .getfield 52, 4, 3, 0, 277), 3, 1, 1, 4, 1, 0, 0) := rfl
theorem bu_173_64 : mm_at mt_P 173 64 = some ((64, 3, .ifCond .eq 13, 0, 0, 0, 0), 3, 1, 1, 4, 1, 0, 0) := rfl
theorem bu_173_67 : mm_at mt_P 173 67 = some ((67, 1, .aload_n 0, 0, 0, 0, 0), 3, 1, 1, 4, 1, 0, 0) := rfl
theorem bu_173_68 : mm_at mt_P 173 68 = some ((68, 3, .invokevirtual 55, 174, 0, 0, 637), 3, 1, 1, 4, 1, 0, 0) := rfl
theorem bu_173_71 : mm_at mt_P 173 71 = some ((71, 3, .iinc 2 1, 0, 0, 0, 0), 3, 1, 1, 4, 1, 0, 0) := rfl
theorem bu_173_74 : mm_at mt_P 173 74 = some ((74, 3, .goto (-28), 0, 0, 0, 0), 3, 1, 1, 4, 1, 0, 0) := rfl
theorem bu_173_77 : mm_at mt_P 173 77 = some ((77, 1, .aload_n 0, 0, 0, 0, 0), 3, 1, 1, 4, 1, 0, 0) := rfl
theorem bu_173_78 : mm_at mt_P 173 78 = some ((78, 3, .getfield 37, 4, 6, 0, 280), 3, 1, 1, 4, 1, 0, 0) := rfl
theorem bu_173_81 : mm_at mt_P 173 81 = some ((81, 3, .ifCond .ne 19, 0, 0, 0, 0), 3, 1, 1, 4, 1, 0, 0) := rfl
theorem bu_173_84 : mm_at mt_P 173 84 = some ((84, 1, .aload_n 0, 0, 0, 0, 0), 3, 1, 1, 4, 1, 0, 0) := rfl
theorem bu_173_85 : mm_at mt_P 173 85 = some ((85, 1, .aload_n 0, 0, 0, 0, 0), 3, 1, 1, 4, 1, 0, 0) := rfl
theorem bu_173_86 : mm_at mt_P 173 86 = some ((86, 3, .getfield 40, 4, 8, 0, 282), 3, 1, 1, 4, 1, 0, 0) := rfl
theorem bu_173_89 : mm_at mt_P 173 89 = some ((89, 3, .putfield 37, 4, 6, 0, 280), 3, 1, 1, 4, 1, 0, 0) := rfl
theorem bu_173_92 : mm_at mt_P 173 92 = some ((92, 1, .aload_n 0, 0, 0, 0, 0), 3, 1, 1, 4, 1, 0, 0) := rfl
theorem bu_173_93 : mm_at mt_P 173 93 = some ((93, 1, .aload_n 0, 0, 0, 0, 0), 3, 1, 1, 4, 1, 0, 0) := rfl
theorem bu_173_94 : mm_at mt_P 173 94 = some ((94, 3, .getfield 43, 4, 9, 0, 283), 3, 1, 1, 4, 1, 0, 0) := rfl
theorem bu_173_97 : mm_at mt_P 173 97 = some ((97, 3, .putfield 24, 4, 7, 0, 281), 3, 1, 1, 4, 1, 0, 0) := rfl
theorem bu_173_100 : mm_at mt_P 173 100 = some ((100, 1, .aload_n 0, 0, 0, 0, 0), 3, 1, 1, 4, 1, 0, 0) := rfl
theorem bu_173_101 : mm_at mt_P 173 101 = some ((101, 3, .getfield 37, 4, 6, 0, 280), 3, 1, 1, 4, 1, 0, 0) := rfl
theorem bu_173_104 : mm_at mt_P 173 104 = some ((104, 1, .ireturn, 0, 0, 0, 0), 3, 1, 1, 4, 1, 0, 0) := rfl
theorem bu_202_0 : mm_at mt_P 202 0 = some ((0, 1, .aload_n 0, 0, 0, 0, 0), 1, 0, 1, 6, 0, 0, 0) := rfl
theorem bu_202_1 : mm_at mt_P 202 1 = some ((1, 1, .iconst 0, 0, 0, 0, 0), 1, 0, 1, 6, 0, 0, 0) := rfl
theorem bu_202_2 : mm_at mt_P 202 2 = some ((2, 3, .putfield 32, 6, 4, 0, 186), 1, 0, 1, 6, 0, 0, 0) := rfl
theorem bu_202_5 : mm_at mt_P 202 5 = some ((5, 1, .aload_n 0, 0, 0, 0, 0), 1, 0, 1, 6, 0, 0, 0) := rfl
theorem bu_202_6 : mm_at mt_P 202 6 = some ((6, 2, .bipush 20, 0, 0, 0, 0), 1, 0, 1, 6, 0, 0, 0) := rfl
theorem bu_202_8 : mm_at mt_P 202 8 = some ((8, 3, .putfield 36, 6, 5, 0, 191), 1, 0, 1, 6, 0, 0, 0) := rfl
theorem bu_202_11 : mm_at mt_P 202 11 = some ((11, 1, .aload_n 0, 0, 0, 0, 0), 1, 0, 1, 6, 0, 0, 0) := rfl
theorem bu_202_12 : mm_at mt_P 202 12 = some ((12, 2, .bipush 99, 0, 0, 0, 0), 1, 0, 1, 6, 0, 0, 0) := rfl
theorem bu_202_14 : mm_at mt_P 202 14 = some ((14, 3, .putfield 39, 6, 6, 0, 194), 1, 0, 1, 6, 0, 0, 0) := rfl
theorem bu_202_17 : mm_at mt_P 202 17 = some ((17, 1, .aload_n 0, 0, 0, 0, 0), 1, 0, 1, 6, 0, 0, 0) := rfl
theorem bu_202_18 : mm_at mt_P 202 18 = some ((18, 2, .bipush 50, 0, 0, 0, 0), 1, 0, 1, 6, 0, 0, 0) := rfl
theorem bu_202_20 : mm_at mt_P 202 20 = some ((20, 3, .putfield 42, 6, 7, 0, 197), 1, 0, 1, 6, 0, 0, 0) := rfl
theorem bu_202_23 : mm_at mt_P 202 23 = some ((23, 1, .aload_n 0, 0, 0, 0, 0), 1, 0, 1, 6, 0, 0, 0) := rfl
theorem bu_202_24 : mm_at mt_P 202 24 = some ((24, 2, .bipush 60, 0, 0, 0, 0), 1, 0, 1, 6, 0, 0, 0) := rfl
theorem bu_202_26 : mm_at mt_P 202 26 = some ((26, 3, .putfield 45, 6, 8, 0, 200), 1, 0, 1, 6, 0, 0, 0) := rfl
theorem bu_202_29 : mm_at mt_P 202 29 = some ((29, 1, .aload_n 0, 0, 0, 0, 0), 1, 0, 1, 6, 0, 0, 0) := rfl
theorem bu_202_30 : mm_at mt_P 202 30 = some ((30, 3, .sipush 999, 0, 0, 0, 0), 1, 0, 1, 6, 0, 0, 0) := rfl
theorem bu_202_33 : mm_at mt_P 202 33 = some ((33, 3, .putfield 48, 6, 9, 0, 205), 1, 0, 1, 6, 0, 0, 0) := rfl
theorem bu_202_36 : mm_at mt_P 202 36 = some ((36, 1, .aload_n 0, 0, 0, 0, 0), 1, 0, 1, 6, 0, 0, 0) := rfl
theorem bu_202_37 : mm_at mt_P 202 37 = some ((37, 1, .iconst 0, 0, 0, 0, 0), 1, 0, 1, 6, 0, 0, 0) := rfl
theorem bu_202_38 : mm_at mt_P 202 38 = some ((38, 3, .putfield 51, 6, 10, 0, 208), 1, 0, 1, 6, 0, 0, 0) := rfl
theorem bu_202_41 : mm_at mt_P 202 41 = some ((41, 1, .aload_n 0, 0, 0, 0, 0), 1, 0, 1, 6, 0, 0, 0) := rfl
theorem bu_202_42 : mm_at mt_P 202 42 = some ((42, 3, .getfield 12, 6, 0, 0, 177), 1, 0, 1, 6, 0, 0, 0) := rfl
theorem bu_202_45 : mm_at mt_P 202 45 = some ((45, 3, .invokevirtual 54, 134, 0, 0, 165), 1, 0, 1, 6, 0, 0, 0) := rfl
theorem bu_202_48 : mm_at mt_P 202 48 = some ((48, 1, .return_, 0, 0, 0, 0), 1, 0, 1, 6, 0, 0, 0) := rfl
section BTQ
variable {X : Nat → Int32} {n : Nat} {E : mm_E} {PO : mm_C → Prop} {NN : Nat} {h0 h : mm_H} {s : Nat → Int32} {A : Nat → Nat → Int32} {L : Nat → Nat → Int64} {gs : List mm_F}
theorem bt_143 {x y : Int32} (hP : bm_P bq_T E h0 h s A L) (hc : (0 ≤ (s 1204).toInt ∧ (s 1204).toInt ≤ 432 ∧ 0 ≤ (s 1104).toInt ∧ (s 1104).toInt ≤ 6)) (kk : ∀ (h' : mm_H) (s' : Nat → Int32) (A' : Nat → Nat → Int32), bm_P bq_T E h0 h' s' A' L → (∀ j, j ≠ 1204 → s' j = s j) → (∀ c, c ≠ 14 → c ≠ 15 → A' c = A c) → (0 ≤ (s' 1204).toInt ∧ (s' 1204).toInt ≤ 432 ∧ 0 ≤ (s' 1104).toInt ∧ (s' 1104).toInt ≤ 6) → bp_G E PO NN (mm_back none gs h')) : bp_G E PO NN ((143, 0, [(0, .ref (E.1 + 12)), (1, .int x), (2, .int y)], [], 0, 0) :: gs, h, none) := by
  refine bp_ld (pc' := 1) bu_143_0 rfl rfl (fun _ _ _ => rfl) rfl rfl ?_
  refine bn_gr (pc' := 4) (t := 15) bu_143_1 rfl rfl (fun _ _ _ => rfl) hP bq_o12 bq_r12_2 ?_
  refine bp_ld (pc' := 5) bu_143_4 rfl rfl (fun _ _ _ => rfl) rfl rfl ?_
  refine bp_ld (pc' := 6) bu_143_5 rfl rfl (fun _ _ _ => rfl) rfl rfl ?_
  refine bn_gi (pc' := 9) (K := 1204) bu_143_6 rfl rfl (fun _ _ _ => rfl) hP bq_o12 bq_i12_4 rfl rfl ?_
  refine bn_iasF (pc' := 10) bu_143_9 rfl rfl (fun _ _ _ => rfl) hP bq_a15 (Or.inl rfl) (fun b5099 b5100 h5097 hP5098 => ?_)
  refine bp_ld (pc' := 11) bu_143_10 rfl rfl (fun _ _ _ => rfl) rfl rfl ?_
  refine bp_c (pc' := 12) (n := 0) bu_143_11 rfl rfl (fun _ _ _ => rfl) (by decide) (fun c5101 e5102 => ?_)
  refine bp_ld (pc' := 13) bu_143_12 rfl rfl (fun _ _ _ => rfl) rfl rfl ?_
  refine bn_cvF (pc' := 16) (st := []) (args := [.int y, .int c5101]) bu_143_13 rfl rfl rfl (by decide) hP5098 bq_o12 (by decide) rfl (Nat.le_of_ble_eq_true rfl) (Nat.le_of_ble_eq_true rfl) ?_
  have AA5103 : ∀ c, c ≠ 14 → c ≠ 15 → (bh_up A 15 (x).toInt.toNat (mm_nar 0 (s 1204))) c = A c := fun c u1 u2 => (bh_up_ne u2)
  refine cr_136 hP5098 hc (fun h5104 s5105 A5106 hP5107 f5108 a5109 z5110 => ?_)
  have FF5111 : ∀ j, j ≠ 1204 → s5105 j = s j := fun j u => f5108 j u
  have AA5112 : ∀ c, c ≠ 14 → c ≠ 15 → A5106 c = A c := fun c u1 u2 => (a5109 c u1 u2).trans (AA5103 c u1 u2)
  show bp_G E PO NN ((143, 16, _, [], 0, 0) :: gs, h5104, none)
  refine bp_ld (pc' := 17) bu_143_16 rfl rfl (fun _ _ _ => rfl) rfl rfl ?_
  refine bp_c (pc' := 18) (n := 2) bu_143_17 rfl rfl (fun _ _ _ => rfl) (by decide) (fun c5113 e5114 => ?_)
  refine bp_c (pc' := 19) (n := 0) bu_143_18 rfl rfl (fun _ _ _ => rfl) (by decide) (fun c5115 e5116 => ?_)
  refine bn_cvF (pc' := 22) (st := []) (args := [.int c5115, .int c5113]) bu_143_19 rfl rfl rfl (by decide) hP5107 bq_o12 (by decide) rfl (Nat.le_of_ble_eq_true rfl) (Nat.le_of_ble_eq_true rfl) ?_
  refine cr_136 hP5107 z5110 (fun h5117 s5118 A5119 hP5120 f5121 a5122 z5123 => ?_)
  have FF5124 : ∀ j, j ≠ 1204 → s5118 j = s j := fun j u => (f5121 j u).trans (FF5111 j u)
  have AA5125 : ∀ c, c ≠ 14 → c ≠ 15 → A5119 c = A c := fun c u1 u2 => (a5122 c u1 u2).trans (AA5112 c u1 u2)
  show bp_G E PO NN ((143, 22, _, [], 0, 0) :: gs, h5117, none)
  refine bp_rv bu_143_22 ?_
  exact kk _ _ _ hP5120 FF5124 AA5125 z5123
theorem bt_134 (hP : bm_P bq_T E h0 h s A L) (hm1 : 0 ≤ (s 1104).toInt ∧ (s 1104).toInt ≤ 6) (kk : ∀ (h' : mm_H) (s' : Nat → Int32) (A' : Nat → Nat → Int32), bm_P bq_T E h0 h' s' A' L → (∀ j, j ≠ 1204 → s' j = s j) → (∀ c, c ≠ 14 → c ≠ 15 → A' c = A c) → (0 ≤ (s' 1204).toInt ∧ (s' 1204).toInt ≤ 432 ∧ 0 ≤ (s' 1104).toInt ∧ (s' 1104).toInt ≤ 6) → bp_G E PO NN (mm_back none gs h')) : bp_G E PO NN ((134, 0, [(0, .ref (E.1 + 12))], [], 0, 0) :: gs, h, none) := by
  refine bp_ld (pc' := 1) bu_134_0 rfl rfl (fun _ _ _ => rfl) rfl rfl ?_
  refine bp_c (pc' := 2) (n := 0) bu_134_1 rfl rfl (fun _ _ _ => rfl) (by decide) (fun c5126 e5127 => ?_)
  refine bn_pf (pc' := 5) (K := 1204) bu_134_2 rfl rfl (fun _ _ _ => rfl) hP bq_o12 bq_i12_4 rfl rfl (fun h5128 s5129 hP5130 e5131 f5132 => ?_)
  refine bp_ld (pc' := 6) bu_134_5 rfl rfl (fun _ _ _ => rfl) rfl rfl ?_
  refine bp_c (pc' := 7) (n := 0) bu_134_6 rfl rfl (fun _ _ _ => rfl) (by decide) (fun c5133 e5134 => ?_)
  refine bp_c (pc' := 8) (n := 2) bu_134_7 rfl rfl (fun _ _ _ => rfl) (by decide) (fun c5135 e5136 => ?_)
  refine bn_cvF (pc' := 11) (st := []) (args := [.int c5135, .int c5133]) bu_134_8 rfl rfl rfl (by decide) hP5130 bq_o12 (by decide) rfl (Nat.le_of_ble_eq_true rfl) (Nat.le_of_ble_eq_true rfl) ?_
  have FF5137 : ∀ j, j ≠ 1204 → s5129 j = s j := fun j u => (f5132 j u)
  have z1204 := congrArg Int32.toInt e5131
  have CC5138 : (0 ≤ (s5129 1204).toInt ∧ (s5129 1204).toInt ≤ 432 ∧ 0 ≤ (s5129 1104).toInt ∧ (s5129 1104).toInt ≤ 6) := by rw [FF5137 1104 (by decide)]; exact ⟨by omega, by omega, hm1.1, hm1.2⟩
  refine bt_143 hP5130 CC5138 (fun h5139 s5140 A5141 hP5142 f5143 a5144 z5145 => ?_)
  have FF5146 : ∀ j, j ≠ 1204 → s5140 j = s j := fun j u => (f5143 j u).trans (FF5137 j u)
  have AA5147 : ∀ c, c ≠ 14 → c ≠ 15 → A5141 c = A c := fun c u1 u2 => a5144 c u1 u2
  show bp_G E PO NN ((134, 11, _, [], 0, 0) :: gs, h5139, none)
  refine bp_ld (pc' := 12) bu_134_11 rfl rfl (fun _ _ _ => rfl) rfl rfl ?_
  refine bp_c (pc' := 13) (n := 1) bu_134_12 rfl rfl (fun _ _ _ => rfl) (by decide) (fun c5148 e5149 => ?_)
  refine bp_c (pc' := 14) (n := 0) bu_134_13 rfl rfl (fun _ _ _ => rfl) (by decide) (fun c5150 e5151 => ?_)
  refine bn_cvF (pc' := 17) (st := []) (args := [.int c5150, .int c5148]) bu_134_14 rfl rfl rfl (by decide) hP5142 bq_o12 (by decide) rfl (Nat.le_of_ble_eq_true rfl) (Nat.le_of_ble_eq_true rfl) ?_
  refine bt_143 hP5142 z5145 (fun h5152 s5153 A5154 hP5155 f5156 a5157 z5158 => ?_)
  have FF5159 : ∀ j, j ≠ 1204 → s5153 j = s j := fun j u => (f5156 j u).trans (FF5146 j u)
  have AA5160 : ∀ c, c ≠ 14 → c ≠ 15 → A5154 c = A c := fun c u1 u2 => (a5157 c u1 u2).trans (AA5147 c u1 u2)
  show bp_G E PO NN ((134, 17, _, [], 0, 0) :: gs, h5152, none)
  refine bp_ld (pc' := 18) bu_134_17 rfl rfl (fun _ _ _ => rfl) rfl rfl ?_
  refine bp_c (pc' := 19) (n := 2) bu_134_18 rfl rfl (fun _ _ _ => rfl) (by decide) (fun c5161 e5162 => ?_)
  refine bp_c (pc' := 20) (n := 1) bu_134_19 rfl rfl (fun _ _ _ => rfl) (by decide) (fun c5163 e5164 => ?_)
  refine bn_cvF (pc' := 23) (st := []) (args := [.int c5163, .int c5161]) bu_134_20 rfl rfl rfl (by decide) hP5155 bq_o12 (by decide) rfl (Nat.le_of_ble_eq_true rfl) (Nat.le_of_ble_eq_true rfl) ?_
  refine bt_143 hP5155 z5158 (fun h5165 s5166 A5167 hP5168 f5169 a5170 z5171 => ?_)
  have FF5172 : ∀ j, j ≠ 1204 → s5166 j = s j := fun j u => (f5169 j u).trans (FF5159 j u)
  have AA5173 : ∀ c, c ≠ 14 → c ≠ 15 → A5167 c = A c := fun c u1 u2 => (a5170 c u1 u2).trans (AA5160 c u1 u2)
  show bp_G E PO NN ((134, 23, _, [], 0, 0) :: gs, h5165, none)
  refine bp_ld (pc' := 24) bu_134_23 rfl rfl (fun _ _ _ => rfl) rfl rfl ?_
  refine bn_gr (pc' := 27) (t := 15) bu_134_24 rfl rfl (fun _ _ _ => rfl) hP5168 bq_o12 bq_r12_2 ?_
  refine bp_c (pc' := 28) (n := 3) bu_134_27 rfl rfl (fun _ _ _ => rfl) (by decide) (fun c5174 e5175 => ?_)
  refine bp_ld (pc' := 29) bu_134_28 rfl rfl (fun _ _ _ => rfl) rfl rfl ?_
  refine bn_gi (pc' := 32) (K := 1204) bu_134_29 rfl rfl (fun _ _ _ => rfl) hP5168 bq_o12 bq_i12_4 rfl rfl ?_
  refine bn_iasF (pc' := 33) bu_134_32 rfl rfl (fun _ _ _ => rfl) hP5168 bq_a15 (Or.inl rfl) (fun b5178 b5179 h5176 hP5177 => ?_)
  refine bp_ld (pc' := 34) bu_134_33 rfl rfl (fun _ _ _ => rfl) rfl rfl ?_
  refine bp_c (pc' := 35) (n := 1) bu_134_34 rfl rfl (fun _ _ _ => rfl) (by decide) (fun c5180 e5181 => ?_)
  refine bp_c (pc' := 37) (n := 7) bu_134_35 rfl rfl (fun _ _ _ => rfl) (by decide) (fun c5182 e5183 => ?_)
  refine bn_cvF (pc' := 40) (st := []) (args := [.int c5182, .int c5180]) bu_134_37 rfl rfl rfl (by decide) hP5177 bq_o12 (by decide) rfl (Nat.le_of_ble_eq_true rfl) (Nat.le_of_ble_eq_true rfl) ?_
  have AA5184 : ∀ c, c ≠ 14 → c ≠ 15 → (bh_up A5167 15 (c5174).toInt.toNat (mm_nar 0 (s5166 1204))) c = A c := fun c u1 u2 => (bh_up_ne u2).trans (AA5173 c u1 u2)
  refine cr_136 hP5177 z5171 (fun h5185 s5186 A5187 hP5188 f5189 a5190 z5191 => ?_)
  have FF5192 : ∀ j, j ≠ 1204 → s5186 j = s j := fun j u => (f5189 j u).trans (FF5172 j u)
  have AA5193 : ∀ c, c ≠ 14 → c ≠ 15 → A5187 c = A c := fun c u1 u2 => (a5190 c u1 u2).trans (AA5184 c u1 u2)
  show bp_G E PO NN ((134, 40, _, [], 0, 0) :: gs, h5185, none)
  refine bp_ld (pc' := 41) bu_134_40 rfl rfl (fun _ _ _ => rfl) rfl rfl ?_
  refine bp_c (pc' := 42) (n := 1) bu_134_41 rfl rfl (fun _ _ _ => rfl) (by decide) (fun c5194 e5195 => ?_)
  refine bp_c (pc' := 44) (n := 6) bu_134_42 rfl rfl (fun _ _ _ => rfl) (by decide) (fun c5196 e5197 => ?_)
  refine bn_cvF (pc' := 47) (st := []) (args := [.int c5196, .int c5194]) bu_134_44 rfl rfl rfl (by decide) hP5188 bq_o12 (by decide) rfl (Nat.le_of_ble_eq_true rfl) (Nat.le_of_ble_eq_true rfl) ?_
  refine cr_136 hP5188 z5191 (fun h5198 s5199 A5200 hP5201 f5202 a5203 z5204 => ?_)
  have FF5205 : ∀ j, j ≠ 1204 → s5199 j = s j := fun j u => (f5202 j u).trans (FF5192 j u)
  have AA5206 : ∀ c, c ≠ 14 → c ≠ 15 → A5200 c = A c := fun c u1 u2 => (a5203 c u1 u2).trans (AA5193 c u1 u2)
  show bp_G E PO NN ((134, 47, _, [], 0, 0) :: gs, h5198, none)
  refine bp_ld (pc' := 48) bu_134_47 rfl rfl (fun _ _ _ => rfl) rfl rfl ?_
  refine bp_c (pc' := 49) (n := 4) bu_134_48 rfl rfl (fun _ _ _ => rfl) (by decide) (fun c5207 e5208 => ?_)
  refine bp_c (pc' := 50) (n := 0) bu_134_49 rfl rfl (fun _ _ _ => rfl) (by decide) (fun c5209 e5210 => ?_)
  refine bn_cvF (pc' := 53) (st := []) (args := [.int c5209, .int c5207]) bu_134_50 rfl rfl rfl (by decide) hP5201 bq_o12 (by decide) rfl (Nat.le_of_ble_eq_true rfl) (Nat.le_of_ble_eq_true rfl) ?_
  refine cr_136 hP5201 z5204 (fun h5211 s5212 A5213 hP5214 f5215 a5216 z5217 => ?_)
  have FF5218 : ∀ j, j ≠ 1204 → s5212 j = s j := fun j u => (f5215 j u).trans (FF5205 j u)
  have AA5219 : ∀ c, c ≠ 14 → c ≠ 15 → A5213 c = A c := fun c u1 u2 => (a5216 c u1 u2).trans (AA5206 c u1 u2)
  show bp_G E PO NN ((134, 53, _, [], 0, 0) :: gs, h5211, none)
  refine bp_ld (pc' := 54) bu_134_53 rfl rfl (fun _ _ _ => rfl) rfl rfl ?_
  refine bp_c (pc' := 55) (n := 2) bu_134_54 rfl rfl (fun _ _ _ => rfl) (by decide) (fun c5220 e5221 => ?_)
  refine bp_c (pc' := 56) (n := 0) bu_134_55 rfl rfl (fun _ _ _ => rfl) (by decide) (fun c5222 e5223 => ?_)
  refine bn_cvF (pc' := 59) (st := []) (args := [.int c5222, .int c5220]) bu_134_56 rfl rfl rfl (by decide) hP5214 bq_o12 (by decide) rfl (Nat.le_of_ble_eq_true rfl) (Nat.le_of_ble_eq_true rfl) ?_
  refine cr_136 hP5214 z5217 (fun h5224 s5225 A5226 hP5227 f5228 a5229 z5230 => ?_)
  have FF5231 : ∀ j, j ≠ 1204 → s5225 j = s j := fun j u => (f5228 j u).trans (FF5218 j u)
  have AA5232 : ∀ c, c ≠ 14 → c ≠ 15 → A5226 c = A c := fun c u1 u2 => (a5229 c u1 u2).trans (AA5219 c u1 u2)
  show bp_G E PO NN ((134, 59, _, [], 0, 0) :: gs, h5224, none)
  refine bp_ld (pc' := 60) bu_134_59 rfl rfl (fun _ _ _ => rfl) rfl rfl ?_
  refine bp_c (pc' := 61) (n := 4) bu_134_60 rfl rfl (fun _ _ _ => rfl) (by decide) (fun c5233 e5234 => ?_)
  refine bp_c (pc' := 62) (n := 0) bu_134_61 rfl rfl (fun _ _ _ => rfl) (by decide) (fun c5235 e5236 => ?_)
  refine bn_cvF (pc' := 65) (st := []) (args := [.int c5235, .int c5233]) bu_134_62 rfl rfl rfl (by decide) hP5227 bq_o12 (by decide) rfl (Nat.le_of_ble_eq_true rfl) (Nat.le_of_ble_eq_true rfl) ?_
  refine bt_143 hP5227 z5230 (fun h5237 s5238 A5239 hP5240 f5241 a5242 z5243 => ?_)
  have FF5244 : ∀ j, j ≠ 1204 → s5238 j = s j := fun j u => (f5241 j u).trans (FF5231 j u)
  have AA5245 : ∀ c, c ≠ 14 → c ≠ 15 → A5239 c = A c := fun c u1 u2 => (a5242 c u1 u2).trans (AA5232 c u1 u2)
  show bp_G E PO NN ((134, 65, _, [], 0, 0) :: gs, h5237, none)
  refine bp_ld (pc' := 66) bu_134_65 rfl rfl (fun _ _ _ => rfl) rfl rfl ?_
  refine bp_c (pc' := 67) (n := 5) bu_134_66 rfl rfl (fun _ _ _ => rfl) (by decide) (fun c5246 e5247 => ?_)
  refine bp_c (pc' := 68) (n := 1) bu_134_67 rfl rfl (fun _ _ _ => rfl) (by decide) (fun c5248 e5249 => ?_)
  refine bn_cvF (pc' := 71) (st := []) (args := [.int c5248, .int c5246]) bu_134_68 rfl rfl rfl (by decide) hP5240 bq_o12 (by decide) rfl (Nat.le_of_ble_eq_true rfl) (Nat.le_of_ble_eq_true rfl) ?_
  refine bt_143 hP5240 z5243 (fun h5250 s5251 A5252 hP5253 f5254 a5255 z5256 => ?_)
  have FF5257 : ∀ j, j ≠ 1204 → s5251 j = s j := fun j u => (f5254 j u).trans (FF5244 j u)
  have AA5258 : ∀ c, c ≠ 14 → c ≠ 15 → A5252 c = A c := fun c u1 u2 => (a5255 c u1 u2).trans (AA5245 c u1 u2)
  show bp_G E PO NN ((134, 71, _, [], 0, 0) :: gs, h5250, none)
  refine bp_ld (pc' := 72) bu_134_71 rfl rfl (fun _ _ _ => rfl) rfl rfl ?_
  refine bp_c (pc' := 74) (n := 6) bu_134_72 rfl rfl (fun _ _ _ => rfl) (by decide) (fun c5259 e5260 => ?_)
  refine bp_c (pc' := 75) (n := 0) bu_134_74 rfl rfl (fun _ _ _ => rfl) (by decide) (fun c5261 e5262 => ?_)
  refine bn_cvF (pc' := 78) (st := []) (args := [.int c5261, .int c5259]) bu_134_75 rfl rfl rfl (by decide) hP5253 bq_o12 (by decide) rfl (Nat.le_of_ble_eq_true rfl) (Nat.le_of_ble_eq_true rfl) ?_
  refine bt_143 hP5253 z5256 (fun h5263 s5264 A5265 hP5266 f5267 a5268 z5269 => ?_)
  have FF5270 : ∀ j, j ≠ 1204 → s5264 j = s j := fun j u => (f5267 j u).trans (FF5257 j u)
  have AA5271 : ∀ c, c ≠ 14 → c ≠ 15 → A5265 c = A c := fun c u1 u2 => (a5268 c u1 u2).trans (AA5258 c u1 u2)
  show bp_G E PO NN ((134, 78, _, [], 0, 0) :: gs, h5263, none)
  refine bp_rv bu_134_78 ?_
  exact kk _ _ _ hP5266 FF5270 AA5271 z5269
theorem bt_202 (hP : bm_P bq_T E h0 h s A L) (kk : ∀ (h' : mm_H) (s' : Nat → Int32) (A' : Nat → Nat → Int32), bm_P bq_T E h0 h' s' A' L → (∀ j, (j < 1104 ∨ 1110 < j) → j ≠ 1204 → s' j = s j) → (∀ c, c ≠ 14 → c ≠ 15 → A' c = A c) → (s' 1104).toInt = 0 → (0 ≤ (s' 1204).toInt ∧ (s' 1204).toInt ≤ 432 ∧ 0 ≤ (s' 1104).toInt ∧ (s' 1104).toInt ≤ 6) → bp_G E PO NN (mm_back none gs h')) : bp_G E PO NN ((202, 0, [(0, .ref (E.1 + 11))], [], 0, 0) :: gs, h, none) := by
  refine bp_ld (pc' := 1) bu_202_0 rfl rfl (fun _ _ _ => rfl) rfl rfl ?_
  refine bp_c (pc' := 2) (n := 0) bu_202_1 rfl rfl (fun _ _ _ => rfl) (by decide) (fun c5272 e5273 => ?_)
  refine bn_pf (pc' := 5) (K := 1104) bu_202_2 rfl rfl (fun _ _ _ => rfl) hP bq_o11 bq_i11_4 rfl rfl (fun h5274 s5275 hP5276 e5277 f5278 => ?_)
  refine bp_ld (pc' := 6) bu_202_5 rfl rfl (fun _ _ _ => rfl) rfl rfl ?_
  refine bp_c (pc' := 8) (n := 20) bu_202_6 rfl rfl (fun _ _ _ => rfl) (by decide) (fun c5279 e5280 => ?_)
  refine bn_pf (pc' := 11) (K := 1105) bu_202_8 rfl rfl (fun _ _ _ => rfl) hP5276 bq_o11 bq_i11_5 rfl rfl (fun h5281 s5282 hP5283 e5284 f5285 => ?_)
  refine bp_ld (pc' := 12) bu_202_11 rfl rfl (fun _ _ _ => rfl) rfl rfl ?_
  refine bp_c (pc' := 14) (n := 99) bu_202_12 rfl rfl (fun _ _ _ => rfl) (by decide) (fun c5286 e5287 => ?_)
  refine bn_pf (pc' := 17) (K := 1106) bu_202_14 rfl rfl (fun _ _ _ => rfl) hP5283 bq_o11 bq_i11_6 rfl rfl (fun h5288 s5289 hP5290 e5291 f5292 => ?_)
  refine bp_ld (pc' := 18) bu_202_17 rfl rfl (fun _ _ _ => rfl) rfl rfl ?_
  refine bp_c (pc' := 20) (n := 50) bu_202_18 rfl rfl (fun _ _ _ => rfl) (by decide) (fun c5293 e5294 => ?_)
  refine bn_pf (pc' := 23) (K := 1107) bu_202_20 rfl rfl (fun _ _ _ => rfl) hP5290 bq_o11 bq_i11_7 rfl rfl (fun h5295 s5296 hP5297 e5298 f5299 => ?_)
  refine bp_ld (pc' := 24) bu_202_23 rfl rfl (fun _ _ _ => rfl) rfl rfl ?_
  refine bp_c (pc' := 26) (n := 60) bu_202_24 rfl rfl (fun _ _ _ => rfl) (by decide) (fun c5300 e5301 => ?_)
  refine bn_pf (pc' := 29) (K := 1108) bu_202_26 rfl rfl (fun _ _ _ => rfl) hP5297 bq_o11 bq_i11_8 rfl rfl (fun h5302 s5303 hP5304 e5305 f5306 => ?_)
  refine bp_ld (pc' := 30) bu_202_29 rfl rfl (fun _ _ _ => rfl) rfl rfl ?_
  refine bp_c (pc' := 33) (n := 999) bu_202_30 rfl rfl (fun _ _ _ => rfl) (by decide) (fun c5307 e5308 => ?_)
  refine bn_pf (pc' := 36) (K := 1109) bu_202_33 rfl rfl (fun _ _ _ => rfl) hP5304 bq_o11 bq_i11_9 rfl rfl (fun h5309 s5310 hP5311 e5312 f5313 => ?_)
  refine bp_ld (pc' := 37) bu_202_36 rfl rfl (fun _ _ _ => rfl) rfl rfl ?_
  refine bp_c (pc' := 38) (n := 0) bu_202_37 rfl rfl (fun _ _ _ => rfl) (by decide) (fun c5314 e5315 => ?_)
  refine bn_pf (pc' := 41) (K := 1110) bu_202_38 rfl rfl (fun _ _ _ => rfl) hP5311 bq_o11 bq_i11_10 rfl rfl (fun h5316 s5317 hP5318 e5319 f5320 => ?_)
  refine bp_ld (pc' := 42) bu_202_41 rfl rfl (fun _ _ _ => rfl) rfl rfl ?_
  refine bn_gr (pc' := 45) (t := 12) bu_202_42 rfl rfl (fun _ _ _ => rfl) hP5318 bq_o11 bq_r11_0 ?_
  refine bn_cvF (pc' := 48) (st := []) (args := []) bu_202_45 rfl rfl rfl (by decide) hP5318 bq_o12 (by decide) rfl (Nat.le_of_ble_eq_true rfl) (Nat.le_of_ble_eq_true rfl) ?_
  have z1104 := congrArg Int32.toInt ((f5320 1104 (by decide)).trans ((f5313 1104 (by decide)).trans ((f5306 1104 (by decide)).trans ((f5299 1104 (by decide)).trans ((f5292 1104 (by decide)).trans ((f5285 1104 (by decide)).trans e5277))))))
  refine bt_134 hP5318 ⟨by omega, by omega⟩ (fun h5321 s5322 A5323 hP5324 f5325 a5326 z5327 => ?_)
  show bp_G E PO NN ((202, 48, _, [], 0, 0) :: gs, h5321, none)
  refine bp_rv bu_202_48 ?_
  exact kk _ _ _ hP5324 (fun j u1 u2 => (f5325 j u2).trans ((f5320 j (by omega)).trans ((f5313 j (by omega)).trans ((f5306 j (by omega)).trans ((f5299 j (by omega)).trans ((f5292 j (by omega)).trans ((f5285 j (by omega)).trans (f5278 j (by omega))))))))) a5326 (by rw [f5325 1104 (by decide)]; omega) z5327
theorem bt_161 {N : Nat} (hP : bm_P bq_T E h0 h s A L) (ha : (s 2002).toInt = -1) (hN : (s 2103).toInt = (N : Int)) (hN0 : 0 < N) (kk : ∀ (h' : mm_H) (s' : Nat → Int32) (L' : Nat → Nat → Int64), bm_P bq_T E h0 h' s' A L' → (s' 2002).toInt = 0 → s' 2003 = A 22 0 → L' 20 4 = L 24 0 → s' 2005 = A 23 0 → (∀ j, j ≠ 2002 → j ≠ 2003 → j ≠ 2005 → s' j = s j) → (∀ c, c ≠ 20 → L' c = L c) → bp_G E PO NN (mm_back none gs h')) : bp_G E PO NN ((161, 0, [(0, .ref (E.1 + 20))], [], 0, 0) :: gs, h, none) := by
  refine bp_ld (pc' := 1) bu_161_0 rfl rfl (fun _ _ _ => rfl) rfl rfl ?_
  refine bn_gi (pc' := 4) (K := 2002) bu_161_1 rfl rfl (fun _ _ _ => rfl) hP bq_o20 bq_i20_2 rfl rfl ?_
  refine bp_c (pc' := 7) (n := 400) bu_161_4 rfl rfl (fun _ _ _ => rfl) (by decide) (fun c5328 e5329 => ?_)
  refine bp_ic (pc' := 10) (pt := 29) bu_161_7 rfl rfl (fun k5330 => ?_) (fun k5330 => ?_)
  · replace k5330 : ((s 2002)).toInt < (c5328).toInt := k5330
    refine bp_ld (pc' := 30) bu_161_29 rfl rfl (fun _ _ _ => rfl) rfl rfl ?_
    refine bp_dup (pc' := 31) bu_161_30 rfl rfl ?_
    refine bn_gi (pc' := 34) (K := 2002) bu_161_31 rfl rfl (fun _ _ _ => rfl) hP bq_o20 bq_i20_2 rfl rfl ?_
    refine bp_c (pc' := 35) (n := 1) bu_161_34 rfl rfl (fun _ _ _ => rfl) (by decide) (fun c5331 e5332 => ?_)
    refine bp_add (pc' := 36) bu_161_35 rfl (by omega) (by omega) (fun v5333 e5334 => ?_)
    refine bn_pf (pc' := 39) (K := 2002) bu_161_36 rfl rfl (fun _ _ _ => rfl) hP bq_o20 bq_i20_2 rfl rfl (fun h5335 s5336 hP5337 e5338 f5339 => ?_)
    refine bp_ld (pc' := 40) bu_161_39 rfl rfl (fun _ _ _ => rfl) rfl rfl ?_
    refine bn_gi (pc' := 43) (K := 2002) bu_161_40 rfl rfl (fun _ _ _ => rfl) hP5337 bq_o20 bq_i20_2 rfl e5338 ?_
    refine bp_i0 (pc' := 46) (pt := 108) bu_161_43 rfl rfl (fun k5340 => ?_) (fun k5340 => ?_)
    · replace k5340 : (v5333).toInt < 0 := k5340
      refine bp_rv bu_161_108 ?_
      exfalso
      omega
    · replace k5340 : ¬ ((v5333).toInt < 0) := k5340
      refine bp_ld (pc' := 47) bu_161_46 rfl rfl (fun _ _ _ => rfl) rfl rfl ?_
      refine bn_gi (pc' := 50) (K := 2002) bu_161_47 rfl rfl (fun _ _ _ => rfl) hP5337 bq_o20 bq_i20_2 rfl e5338 ?_
      refine bp_ld (pc' := 51) bu_161_50 rfl rfl (fun _ _ _ => rfl) rfl rfl ?_
      refine bn_gr (pc' := 54) (t := 21) bu_161_51 rfl rfl (fun _ _ _ => rfl) hP5337 bq_o20 bq_r20_0 ?_
      refine bn_gi (pc' := 57) (K := 2103) bu_161_54 rfl rfl (fun _ _ _ => rfl) hP5337 bq_o21 bq_i21_3 rfl (f5339 2103 (by decide)) ?_
      refine bp_ic (pc' := 60) (pt := 108) bu_161_57 rfl rfl (fun k5341 => ?_) (fun k5341 => ?_)
      · replace k5341 : ((s 2103)).toInt ≤ (v5333).toInt := k5341
        refine bp_rv bu_161_108 ?_
        exfalso
        omega
      · replace k5341 : ¬ (((s 2103)).toInt ≤ (v5333).toInt) := k5341
        refine bp_ld (pc' := 61) bu_161_60 rfl rfl (fun _ _ _ => rfl) rfl rfl ?_
        refine bp_ld (pc' := 62) bu_161_61 rfl rfl (fun _ _ _ => rfl) rfl rfl ?_
        refine bn_gr (pc' := 65) (t := 21) bu_161_62 rfl rfl (fun _ _ _ => rfl) hP5337 bq_o20 bq_r20_0 ?_
        refine bn_gr (pc' := 68) (t := 22) bu_161_65 rfl rfl (fun _ _ _ => rfl) hP5337 bq_o21 bq_r21_0 ?_
        refine bp_ld (pc' := 69) bu_161_68 rfl rfl (fun _ _ _ => rfl) rfl rfl ?_
        refine bn_gi (pc' := 72) (K := 2002) bu_161_69 rfl rfl (fun _ _ _ => rfl) hP5337 bq_o20 bq_i20_2 rfl e5338 ?_
        refine bn_iaF (pc' := 73) bu_161_72 rfl rfl (fun _ _ _ => rfl) hP5337 bq_a22 (Or.inl rfl) (fun b5342 b5343 => ?_)
        refine bn_pf (pc' := 76) (K := 2003) bu_161_73 rfl rfl (fun _ _ _ => rfl) hP5337 bq_o20 bq_i20_3 rfl rfl (fun h5344 s5345 hP5346 e5347 f5348 => ?_)
        refine bp_ld (pc' := 77) bu_161_76 rfl rfl (fun _ _ _ => rfl) rfl rfl ?_
        refine bp_ld (pc' := 78) bu_161_77 rfl rfl (fun _ _ _ => rfl) rfl rfl ?_
        refine bn_gr (pc' := 81) (t := 21) bu_161_78 rfl rfl (fun _ _ _ => rfl) hP5346 bq_o20 bq_r20_0 ?_
        refine bn_gr (pc' := 84) (t := 24) bu_161_81 rfl rfl (fun _ _ _ => rfl) hP5346 bq_o21 bq_r21_2 ?_
        refine bp_ld (pc' := 85) bu_161_84 rfl rfl (fun _ _ _ => rfl) rfl rfl ?_
        refine bn_gi (pc' := 88) (K := 2002) bu_161_85 rfl rfl (fun _ _ _ => rfl) hP5346 bq_o20 bq_i20_2 rfl ((f5348 2002 (by decide)).trans e5338) ?_
        refine bn_laF (pc' := 89) bu_161_88 rfl rfl (fun _ _ _ => rfl) hP5346 bq_l24 (fun b5349 b5350 => ?_)
        refine bn_pl (pc' := 92) bu_161_89 rfl rfl (fun _ _ _ => rfl) hP5346 bq_o20 bq_f20_4 (fun h5351 hP5352 => ?_)
        refine bp_ld (pc' := 93) bu_161_92 rfl rfl (fun _ _ _ => rfl) rfl rfl ?_
        refine bp_ld (pc' := 94) bu_161_93 rfl rfl (fun _ _ _ => rfl) rfl rfl ?_
        refine bn_gr (pc' := 97) (t := 21) bu_161_94 rfl rfl (fun _ _ _ => rfl) hP5352 bq_o20 bq_r20_0 ?_
        refine bn_gr (pc' := 100) (t := 23) bu_161_97 rfl rfl (fun _ _ _ => rfl) hP5352 bq_o21 bq_r21_1 ?_
        refine bp_ld (pc' := 101) bu_161_100 rfl rfl (fun _ _ _ => rfl) rfl rfl ?_
        refine bn_gi (pc' := 104) (K := 2002) bu_161_101 rfl rfl (fun _ _ _ => rfl) hP5352 bq_o20 bq_i20_2 rfl ((f5348 2002 (by decide)).trans e5338) ?_
        refine bn_iaF (pc' := 105) bu_161_104 rfl rfl (fun _ _ _ => rfl) hP5352 bq_a23 (Or.inl rfl) (fun b5353 b5354 => ?_)
        refine bn_pf (pc' := 108) (K := 2005) bu_161_105 rfl rfl (fun _ _ _ => rfl) hP5352 bq_o20 bq_i20_5 rfl rfl (fun h5355 s5356 hP5357 e5358 f5359 => ?_)
        refine bp_rv bu_161_108 ?_
        have z2002 := congrArg Int32.toInt ((f5359 2002 (by decide)).trans ((f5348 2002 (by decide)).trans e5338))
        have hi : (v5333).toInt.toNat = 0 := by omega
        have r3 := ((f5359 2003 (by decide)).trans e5347)
        have r5 := e5358
        rw [hi] at r3 r5
        exact kk _ _ _ hP5357 (by omega) r3 (by rw [hi]; unfold bh_upL vp_updL; rw [if_pos rfl, if_pos rfl]) r5 (fun j u2 u3 u5 => ((f5359 j u5).trans ((f5348 j u3).trans (f5339 j u2)))) (fun c u => if_neg u)
  · replace k5330 : ¬ (((s 2002)).toInt < (c5328).toInt) := k5330
    refine bp_ld (pc' := 11) bu_161_10 rfl rfl (fun _ _ _ => rfl) rfl rfl ?_
    refine bp_c (pc' := 12) (n := 2) bu_161_11 rfl rfl (fun _ _ _ => rfl) (by decide) (fun c5360 e5361 => ?_)
    refine bn_pf (pc' := 15) (K := 2006) bu_161_12 rfl rfl (fun _ _ _ => rfl) hP bq_o20 bq_i20_6 rfl rfl (fun h5362 s5363 hP5364 e5365 f5366 => ?_)
    refine bp_ld (pc' := 16) bu_161_15 rfl rfl (fun _ _ _ => rfl) rfl rfl ?_
    refine bp_ld (pc' := 17) bu_161_16 rfl rfl (fun _ _ _ => rfl) rfl rfl ?_
    refine bn_gi (pc' := 20) (K := 2005) bu_161_17 rfl rfl (fun _ _ _ => rfl) hP5364 bq_o20 bq_i20_5 rfl (f5366 2005 (by decide)) ?_
    refine bn_pf (pc' := 23) (K := 2007) bu_161_20 rfl rfl (fun _ _ _ => rfl) hP5364 bq_o20 bq_i20_7 rfl rfl (fun h5367 s5368 hP5369 e5370 f5371 => ?_)
    refine bp_ld (pc' := 24) bu_161_23 rfl rfl (fun _ _ _ => rfl) rfl rfl ?_
    refine bp_c (pc' := 25) (n := 1) bu_161_24 rfl rfl (fun _ _ _ => rfl) (by decide) (fun c5372 e5373 => ?_)
    refine bn_pf (pc' := 28) (K := 2003) bu_161_25 rfl rfl (fun _ _ _ => rfl) hP5369 bq_o20 bq_i20_3 rfl rfl (fun h5374 s5375 hP5376 e5377 f5378 => ?_)
    refine bp_rv bu_161_28 ?_
    exfalso
    omega
set_option maxHeartbeats 4000000 in
theorem bt_173l {x9 y9 : Int32} {τ : py_S} {N : Nat} {s0 : Nat → Int32} {A0 : Nat → Nat → Int32} {L0 : Nat → Nat → Int64} (hS : ∀ ρ, en_SA E ρ (wl_o x9 y9) mt_SB) (hd : gs.length + 60 ≤ 999) (hT : rc_T (fun j => px_kd X n (px_at X n j)) (fun j => px_vl X n (px_at X n j)) (fun j => (px_at X n j : Int)) N s0 A0 L0) (hQ : ∀ i j, i < N → j < N → (fun j => px_kd X n (px_at X n j)) i = 1 → (fun j => px_kd X n (px_at X n j)) j = 1 → (rq_Q X n i j = true ↔ L0 24 i = L0 24 j)) : ∀ NN : Nat, (∀ (h : mm_H) (s : Nat → Int32) (A : Nat → Nat → Int32) (L : Nat → Nat → Int64) (lv : mm_V) (o : Option Value), bm_P bq_T E h0 h s A L → rc_F s0 A0 L0 s A L → rc_R (fun j => px_kd X n (px_at X n j)) (fun j => px_vl X n (px_at X n j)) (fun j => (px_at X n j : Int)) N τ s L → mm_get lv 0 = some (.ref (E.1 + 20)) → bp_G E PO NN ((173, 77, lv, [], 0, 0) :: gs, h, o)) → (∀ (h : mm_H) (s : Nat → Int32) (A : Nat → Nat → Int32) (L : Nat → Nat → Int64) (lv : mm_V) (o : Option Value) (σ : py_S) (i : Int32) (r : Nat), bm_P bq_T E h0 h s A L → rc_F s0 A0 L0 s A L → rc_R (fun j => px_kd X n (px_at X n j)) (fun j => px_vl X n (px_at X n j)) (fun j => (px_at X n j : Int)) N σ s L → (0 ≤ (s 1204).toInt ∧ (s 1204).toInt ≤ 432 ∧ 0 ≤ (s 1104).toInt ∧ (s 1104).toInt ≤ 6) → mm_get lv 0 = some (.ref (E.1 + 20)) → mm_get lv 2 = some (.int i) → 0 ≤ i.toInt → i.toInt + (r : Int) = 401 → py_al (fun j => px_kd X n (px_at X n j)) (fun j => px_vl X n (px_at X n j)) (rq_Q X n) r σ = τ → bp_G E PO NN ((173, 46, lv, [], 0, 0) :: gs, h, o)) := by
  intro NN
  induction NN with
  | zero => intro kk h s A L lv o σ i r hP hF hR hc g0 g2 i0 hr hx; exact bp_zero bu_173_46
  | succ NN ih =>
    intro kk h s A L lv o σ i r hP hF hR hc g0 g2 i0 hr hx
    have q1 := hR.1
    refine bp_ld (pc' := 47) bu_173_46 rfl rfl (fun _ _ _ => rfl) g2 rfl ?_
    refine bp_c (pc' := 50) (n := 400) bu_173_47 rfl rfl (fun _ _ _ => rfl) (by decide) (fun c5379 e5380 => ?_)
    refine bp_ic (pc' := 53) (pt := 77) bu_173_50 rfl rfl (fun k5381 => ?_) (fun k5381 => ?_)
    · replace k5381 : (c5379).toInt < (i).toInt := k5381
      have ex : py_al (fun j => px_kd X n (px_at X n j)) (fun j => px_vl X n (px_at X n j)) (rq_Q X n) r σ = σ := by
        by_cases q0 : σ.2.1 = 0
        · by_cases e : r = 0
          · rw [e]
            rfl
          · refine py_al_e (fun u => ?_)
            have a : rc_k (px_kd X n (px_at X n σ.1)) (px_vl X n (px_at X n σ.1)) (s 2003).toInt (L 20 4).toInt := (hR.2.1 q0).2.2.1
            unfold rc_k at a
            have a2 : ¬ px_kd X n (px_at X n σ.1) = 0 := u.2
            have q1 := hR.1
            omega
        · exact py_al_f q0
      rw [ex] at hx
      exact kk _ _ _ _ _ _ hP hF (by rw [← hx]; exact hR) g0
    · replace k5381 : ¬ ((c5379).toInt < (i).toInt) := k5381
      refine bp_ld (pc' := 54) bu_173_53 rfl rfl (fun _ _ _ => rfl) g0 rfl ?_
      refine bn_gi (pc' := 57) (K := 2006) bu_173_54 rfl rfl (fun _ _ _ => rfl) hP bq_o20 bq_i20_6 rfl rfl ?_
      refine bp_i0 (pc' := 60) (pt := 77) bu_173_57 rfl rfl (fun k5382 => ?_) (fun k5382 => ?_)
      · replace k5382 : ((s 2006)).toInt ≠ 0 := k5382
        have ex : py_al (fun j => px_kd X n (px_at X n j)) (fun j => px_vl X n (px_at X n j)) (rq_Q X n) r σ = σ := by
          by_cases q0 : σ.2.1 = 0
          · by_cases e : r = 0
            · rw [e]
              rfl
            · refine py_al_e (fun u => ?_)
              have a : rc_k (px_kd X n (px_at X n σ.1)) (px_vl X n (px_at X n σ.1)) (s 2003).toInt (L 20 4).toInt := (hR.2.1 q0).2.2.1
              unfold rc_k at a
              have a2 : ¬ px_kd X n (px_at X n σ.1) = 0 := u.2
              have q1 := hR.1
              omega
          · exact py_al_f q0
        rw [ex] at hx
        exact kk _ _ _ _ _ _ hP hF (by rw [← hx]; exact hR) g0
      · replace k5382 : ¬ (((s 2006)).toInt ≠ 0) := k5382
        refine bp_ld (pc' := 61) bu_173_60 rfl rfl (fun _ _ _ => rfl) g0 rfl ?_
        refine bn_gi (pc' := 64) (K := 2003) bu_173_61 rfl rfl (fun _ _ _ => rfl) hP bq_o20 bq_i20_3 rfl rfl ?_
        refine bp_i0 (pc' := 67) (pt := 77) bu_173_64 rfl rfl (fun k5383 => ?_) (fun k5383 => ?_)
        · replace k5383 : ((s 2003)).toInt = 0 := k5383
          have ex : py_al (fun j => px_kd X n (px_at X n j)) (fun j => px_vl X n (px_at X n j)) (rq_Q X n) r σ = σ := by
            by_cases q0 : σ.2.1 = 0
            · by_cases e : r = 0
              · rw [e]
                rfl
              · refine py_al_e (fun u => ?_)
                have a : rc_k (px_kd X n (px_at X n σ.1)) (px_vl X n (px_at X n σ.1)) (s 2003).toInt (L 20 4).toInt := (hR.2.1 q0).2.2.1
                unfold rc_k at a
                have a2 : ¬ px_kd X n (px_at X n σ.1) = 0 := u.2
                have q1 := hR.1
                omega
            · exact py_al_f q0
          rw [ex] at hx
          exact kk _ _ _ _ _ _ hP hF (by rw [← hx]; exact hR) g0
        · replace k5383 : ¬ (((s 2003)).toInt = 0) := k5383
          refine bp_ld (pc' := 68) bu_173_67 rfl rfl (fun _ _ _ => rfl) g0 rfl ?_
          refine bn_cvF (pc' := 71) (st := []) (args := []) bu_173_68 rfl rfl rfl (by decide) hP bq_o20 (by decide) rfl (Nat.le_of_ble_eq_true rfl) (Nat.le_of_ble_eq_true rfl) ?_
          have q0 : σ.2.1 = 0 := by omega
          refine cr_174 (Q := rq_Q X n) hS (by rw [hF.2.2.1]; exact hQ) hP (by simp only [List.length_cons]; omega) hR (rc_T_F hT hF) hc q0 (fun h5384 s5385 A5386 L5387 hP5388 F5389 R5390 => ?_)
          show bp_G E PO (NN + 1) ((173, 71, lv, [], 0, 0) :: gs, h5384, none)
          refine bp_inc (pc' := 74) bu_173_71 rfl (by decide) g2 (by decide) (by omega) (by omega) (fun lv5391 y5394 F5392 g5393 e5395 => ?_)
          have g5396 := F5392 0 (.ref (E.1 + 20)) g0 (by decide) (Or.inl rfl)
          refine bp_goD (pc' := 46) bu_173_74 rfl ?_
          obtain ⟨r, rfl⟩ : ∃ r', r = r' + 1 := ⟨r - 1, by omega⟩
          have hk0 : px_kd X n (px_at X n σ.1) ≠ 0 := fun u => by
            have a : rc_k (px_kd X n (px_at X n σ.1)) (px_vl X n (px_at X n σ.1)) (s 2003).toInt (L 20 4).toInt := (hR.2.1 q0).2.2.1
            unfold rc_k at a
            omega
          rw [py_al_s q0 hk0] at hx
          exact ih (fun h s A L lv o a0 a1 a2 a3 => bp_mono (Nat.le_succ NN) (kk h s A L lv o a0 a1 a2 a3)) _ _ _ _ _ _ _ _ r hP5388 (rc_F_t hF F5389) R5390 (F5389.2.2.2 hc) g5396 g5393 (by omega) (by omega) hx
set_option maxHeartbeats 4000000 in
theorem bt_173e {τ : py_S} {N : Nat} {lv : mm_V} {o : Option Value} (hP : bm_P bq_T E h0 h s A L) (hR : rc_R (fun j => px_kd X n (px_at X n j)) (fun j => px_vl X n (px_at X n j)) (fun j => (px_at X n j : Int)) N τ s L) (g0 : mm_get lv 0 = some (.ref (E.1 + 20))) (kk : ∀ (h' : mm_H) (s' : Nat → Int32) (A' : Nat → Nat → Int32) (L' : Nat → Nat → Int64) (r : Int32), bm_P bq_T E h0 h' s' A' L' → r.toInt = (py_ft τ : Int) → (s' 2007).toInt = py_pl (fun j => px_at X n j) τ → (r.toInt = 0 → (s' 1104).toInt = ((τ).2.2.2.2.length : Int)) → bp_G E PO NN (mm_back (some (.int r)) gs h')) : bp_G E PO NN ((173, 77, lv, [], 0, 0) :: gs, h, o) := by
  have q1 := hR.1
  have q2 : τ.2.1 = 0 → (s 2008).toInt = (τ.2.2.1 : Int) := fun u => (hR.2.1 u).2.2.2.2.1
  have q3 : τ.2.1 ≠ 0 → (s 2007).toInt = (px_at X n τ.1 : Int) := fun u => (hR.2.2 u).2
  have q4 : τ.2.1 = 0 → (s 2009).toInt = (if τ.2.2.1 ≠ 0 then (px_at X n τ.2.2.2.1 : Int) else -1) := fun u => (hR.2.1 u).2.2.2.2.2.1
  have q5 : τ.2.1 = 0 → (s 1104).toInt = (τ.2.2.2.2.length : Int) := fun u => (hR.2.1 u).2.2.2.2.2.2.1
  refine bp_ld (pc' := 78) bu_173_77 rfl rfl (fun _ _ _ => rfl) g0 rfl ?_
  refine bn_gi (pc' := 81) (K := 2006) bu_173_78 rfl rfl (fun _ _ _ => rfl) hP bq_o20 bq_i20_6 rfl rfl ?_
  refine bp_i0 (pc' := 84) (pt := 100) bu_173_81 rfl rfl (fun k5397 => ?_) (fun k5397 => ?_)
  · replace k5397 : ((s 2006)).toInt ≠ 0 := k5397
    refine bp_ld (pc' := 101) bu_173_100 rfl rfl (fun _ _ _ => rfl) g0 rfl ?_
    refine bn_gi (pc' := 104) (K := 2006) bu_173_101 rfl rfl (fun _ _ _ => rfl) hP bq_o20 bq_i20_6 rfl rfl ?_
    refine bp_ri bu_173_104 ?_
    exact kk _ _ _ _ _ hP (by unfold py_ft; first | (rw [if_pos (by omega)]; omega) | (rw [if_neg (by omega)]; omega)) (by unfold py_pl; first | (rw [if_pos (by omega)]; have u := q3 (by omega); omega) | (rw [if_neg (by omega)]; have u := q4 (by omega); exact absurd u9 (by omega))) (fun z => by have u := q5 (by omega); omega)
  · replace k5397 : ¬ (((s 2006)).toInt ≠ 0) := k5397
    refine bp_ld (pc' := 85) bu_173_84 rfl rfl (fun _ _ _ => rfl) g0 rfl ?_
    refine bp_ld (pc' := 86) bu_173_85 rfl rfl (fun _ _ _ => rfl) g0 rfl ?_
    refine bn_gi (pc' := 89) (K := 2008) bu_173_86 rfl rfl (fun _ _ _ => rfl) hP bq_o20 bq_i20_8 rfl rfl ?_
    refine bn_pf (pc' := 92) (K := 2006) bu_173_89 rfl rfl (fun _ _ _ => rfl) hP bq_o20 bq_i20_6 rfl rfl (fun h5398 s5399 hP5400 e5401 f5402 => ?_)
    refine bp_ld (pc' := 93) bu_173_92 rfl rfl (fun _ _ _ => rfl) g0 rfl ?_
    refine bp_ld (pc' := 94) bu_173_93 rfl rfl (fun _ _ _ => rfl) g0 rfl ?_
    refine bn_gi (pc' := 97) (K := 2009) bu_173_94 rfl rfl (fun _ _ _ => rfl) hP5400 bq_o20 bq_i20_9 rfl (f5402 2009 (by decide)) ?_
    refine bn_pf (pc' := 100) (K := 2007) bu_173_97 rfl rfl (fun _ _ _ => rfl) hP5400 bq_o20 bq_i20_7 rfl rfl (fun h5403 s5404 hP5405 e5406 f5407 => ?_)
    refine bp_ld (pc' := 101) bu_173_100 rfl rfl (fun _ _ _ => rfl) g0 rfl ?_
    refine bn_gi (pc' := 104) (K := 2006) bu_173_101 rfl rfl (fun _ _ _ => rfl) hP5405 bq_o20 bq_i20_6 rfl ((f5407 2006 (by decide)).trans e5401) ?_
    refine bp_ri bu_173_104 ?_
    have z2006 := congrArg Int32.toInt ((f5407 2006 (by decide)).trans e5401)
    have z2007 := congrArg Int32.toInt e5406
    have z1104 := congrArg Int32.toInt ((f5407 1104 (by decide)).trans (f5402 1104 (by decide)))
    exact kk _ _ _ _ _ hP5405 (by unfold py_ft; first | (rw [if_pos (by omega)]; omega) | (rw [if_neg (by omega)]; omega)) (by unfold py_pl; first | (rw [if_pos (by omega)]; have u := q3 (by omega); omega) | (rw [if_neg (by omega)]; have u := q4 (by omega); exact z2007.trans u)) (fun z => by have u := q5 (by omega); omega)
end BTQ
