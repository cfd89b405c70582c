/-! PARTIAL: the class reads its tape, exact (wip/p5/mkq7.py) -/
theorem bu_134_0 : mm_at mt_P 134 0 = some ((0, 1, .aload_n 0, 0, 0, 0, 0), 1, 0, 1, 1, 0, 0, 0) := rfl
theorem bu_134_1 : mm_at mt_P 134 1 = some ((1, 1, .iconst 0, 0, 0, 0, 0), 1, 0, 1, 1, 0, 0, 0) := rfl
theorem bu_134_2 : mm_at mt_P 134 2 = some ((2, 3, .putfield 24, 1, 4, 0, 147), 1, 0, 1, 1, 0, 0, 0) := rfl
theorem bu_134_5 : mm_at mt_P 134 5 = some ((5, 1, .aload_n 0, 0, 0, 0, 0), 1, 0, 1, 1, 0, 0, 0) := rfl
theorem bu_134_6 : mm_at mt_P 134 6 = some ((6, 1, .iconst 0, 0, 0, 0, 0), 1, 0, 1, 1, 0, 0, 0) := rfl
theorem bu_134_7 : mm_at mt_P 134 7 = some ((7, 1, .iconst 2, 0, 0, 0, 0), 1, 0, 1, 1, 0, 0, 0) := rfl
theorem bu_134_8 : mm_at mt_P 134 8 = some ((8, 3, .invokevirtual 28, 143, 0, 0, 169), 1, 0, 1, 1, 0, 0, 0) := rfl
theorem bu_134_11 : mm_at mt_P 134 11 = some ((11, 1, .aload_n 0, 0, 0, 0, 0), 1, 0, 1, 1, 0, 0, 0) := rfl
theorem bu_134_12 : mm_at mt_P 134 12 = some ((12, 1, .iconst 1, 0, 0, 0, 0), 1, 0, 1, 1, 0, 0, 0) := rfl
theorem bu_134_13 : mm_at mt_P 134 13 = some ((13, 1, .iconst 0, 0, 0, 0, 0), 1, 0, 1, 1, 0, 0, 0) := rfl
theorem bu_134_14 : mm_at mt_P 134 14 = some ((14, 3, .invokevirtual 28, 143, 0, 0, 169), 1, 0, 1, 1, 0, 0, 0) := rfl
theorem bu_134_17 : mm_at mt_P 134 17 = some ((17, 1, .aload_n 0, 0, 0, 0, 0), 1, 0, 1, 1, 0, 0, 0) := rfl
theorem bu_134_18 : mm_at mt_P 134 18 = some ((18, 1, .iconst 2, 0, 0, 0, 0), 1, 0, 1, 1, 0, 0, 0) := rfl
theorem bu_134_19 : mm_at mt_P 134 19 = some ((19, 1, .iconst 1, 0, 0, 0, 0), 1, 0, 1, 1, 0, 0, 0) := rfl
theorem bu_134_20 : mm_at mt_P 134 20 = some ((20, 3, .invokevirtual 28, 143, 0, 0, 169), 1, 0, 1, 1, 0, 0, 0) := rfl
theorem bu_134_23 : mm_at mt_P 134 23 = some ((23, 1, .aload_n 0, 0, 0, 0, 0), 1, 0, 1, 1, 0, 0, 0) := rfl
theorem bu_134_24 : mm_at mt_P 134 24 = some ((24, 3, .getfield 18, 1, 2, 0, 145), 1, 0, 1, 1, 0, 0, 0) := rfl
theorem bu_134_27 : mm_at mt_P 134 27 = some ((27, 1, .iconst 3, 0, 0, 0, 0), 1, 0, 1, 1, 0, 0, 0) := rfl
theorem bu_134_28 : mm_at mt_P 134 28 = some ((28, 1, .aload_n 0, 0, 0, 0, 0), 1, 0, 1, 1, 0, 0, 0) := rfl
theorem bu_134_29 : mm_at mt_P 134 29 = some ((29, 3, .getfield 24, 1, 4, 0, 147), 1, 0, 1, 1, 0, 0, 0) := rfl
theorem bu_134_32 : mm_at mt_P 134 32 = some ((32, 1, .iastore, 0, 0, 0, 0), 1, 0, 1, 1, 0, 0, 0) := rfl
theorem bu_134_33 : mm_at mt_P 134 33 = some ((33, 1, .aload_n 0, 0, 0, 0, 0), 1, 0, 1, 1, 0, 0, 0) := rfl
theorem bu_134_34 : mm_at mt_P 134 34 = some ((34, 1, .iconst 1, 0, 0, 0, 0), 1, 0, 1, 1, 0, 0, 0) := rfl
theorem bu_134_35 : mm_at mt_P 134 35 = some ((35, 2, .bipush 7, 0, 0, 0, 0), 1, 0, 1, 1, 0, 0, 0) := rfl
theorem bu_134_37 : mm_at mt_P 134 37 = some ((37, 3, .invokevirtual 32, 136, 0, 0, 173), 1, 0, 1, 1, 0, 0, 0) := rfl
theorem bu_134_40 : mm_at mt_P 134 40 = some ((40, 1, .aload_n 0, 0, 0, 0, 0), 1, 0, 1, 1, 0, 0, 0) := rfl
theorem bu_134_41 : mm_at mt_P 134 41 = some ((41, 1, .iconst 1, 0, 0, 0, 0), 1, 0, 1, 1, 0, 0, 0) := rfl
theorem bu_134_42 : mm_at mt_P 134 42 = some ((42, 2, .bipush 6, 0, 0, 0, 0), 1, 0, 1, 1, 0, 0, 0) := rfl
theorem bu_134_44 : mm_at mt_P 134 44 = some ((44, 3, .invokevirtual 32, 136, 0, 0, 173), 1, 0, 1, 1, 0, 0, 0) := rfl
theorem bu_134_47 : mm_at mt_P 134 47 = some ((47, 1, .aload_n 0, 0, 0, 0, 0), 1, 0, 1, 1, 0, 0, 0) := rfl
theorem bu_134_48 : mm_at mt_P 134 48 = some ((48, 1, .iconst 4, 0, 0, 0, 0), 1, 0, 1, 1, 0, 0, 0) := rfl
theorem bu_134_49 : mm_at mt_P 134 49 = some ((49, 1, .iconst 0, 0, 0, 0, 0), 1, 0, 1, 1, 0, 0, 0) := rfl
theorem bu_134_50 : mm_at mt_P 134 50 = some ((50, 3, .invokevirtual 32, 136, 0, 0, 173), 1, 0, 1, 1, 0, 0, 0) := rfl
theorem bu_134_53 : mm_at mt_P 134 53 = some ((53, 1, .aload_n 0, 0, 0, 0, 0), 1, 0, 1, 1, 0, 0, 0) := rfl
theorem bu_134_54 : mm_at mt_P 134 54 = some ((54, 1, .iconst 2, 0, 0, 0, 0), 1, 0, 1, 1, 0, 0, 0) := rfl
theorem bu_134_55 : mm_at mt_P 134 55 = some ((55, 1, .iconst 0, 0, 0, 0, 0), 1, 0, 1, 1, 0, 0, 0) := rfl
theorem bu_134_56 : mm_at mt_P 134 56 = some ((56, 3, .invokevirtual 32, 136, 0, 0, 173), 1, 0, 1, 1, 0, 0, 0) := rfl
theorem bu_134_59 : mm_at mt_P 134 59 = some ((59, 1, .aload_n 0, 0, 0, 0, 0), 1, 0, 1, 1, 0, 0, 0) := rfl
theorem bu_134_60 : mm_at mt_P 134 60 = some ((60, 1, .iconst 4, 0, 0, 0, 0), 1, 0, 1, 1, 0, 0, 0) := rfl
theorem bu_134_61 : mm_at mt_P 134 61 = some ((61, 1, .iconst 0, 0, 0, 0, 0), 1, 0, 1, 1, 0, 0, 0) := rfl
theorem bu_134_62 : mm_at mt_P 134 62 = some ((62, 3, .invokevirtual 28, 143, 0, 0, 169), 1, 0, 1, 1, 0, 0, 0) := rfl
theorem bu_134_65 : mm_at mt_P 134 65 = some ((65, 1, .aload_n 0, 0, 0, 0, 0), 1, 0, 1, 1, 0, 0, 0) := rfl
theorem bu_134_66 : mm_at mt_P 134 66 = some ((66, 1, .iconst 5, 0, 0, 0, 0), 1, 0, 1, 1, 0, 0, 0) := rfl
theorem bu_134_67 : mm_at mt_P 134 67 = some ((67, 1, .iconst 1, 0, 0, 0, 0), 1, 0, 1, 1, 0, 0, 0) := rfl
theorem bu_134_68 : mm_at mt_P 134 68 = some ((68, 3, .invokevirtual 28, 143, 0, 0, 169), 1, 0, 1, 1, 0, 0, 0) := rfl
theorem bu_134_71 : mm_at mt_P 134 71 = some ((71, 1, .aload_n 0, 0, 0, 0, 0), 1, 0, 1, 1, 0, 0, 0) := rfl
theorem bu_134_72 : mm_at mt_P 134 72 = some ((72, 2, .bipush 6, 0, 0, 0, 0), 1, 0, 1, 1, 0, 0, 0) := rfl
theorem bu_134_74 : mm_at mt_P 134 74 = some ((74, 1, .iconst 0, 0, 0, 0, 0), 1, 0, 1, 1, 0, 0, 0) := rfl
theorem bu_134_75 : mm_at mt_P 134 75 = some ((75, 3, .invokevirtual 28, 143, 0, 0, 169), 1, 0, 1, 1, 0, 0, 0) := rfl
theorem bu_134_78 : mm_at mt_P 134 78 = some ((78, 1, .return_, 0, 0, 0, 0), 1, 0, 1, 1, 0, 0, 0) := rfl
theorem bu_143_0 : mm_at mt_P 143 0 = some ((0, 1, .aload_n 0, 0, 0, 0, 0), 3, 2, 1, 1, 0, 0, 0) := rfl
theorem bu_143_1 : mm_at mt_P 143 1 = some ((1, 3, .getfield 18, 1, 2, 0, 145), 3, 2, 1, 1, 0, 0, 0) := rfl
theorem bu_143_4 : mm_at mt_P 143 4 = some ((4, 1, .iload_n 1, 0, 0, 0, 0), 3, 2, 1, 1, 0, 0, 0) := rfl
theorem bu_143_5 : mm_at mt_P 143 5 = some ((5, 1, .aload_n 0, 0, 0, 0, 0), 3, 2, 1, 1, 0, 0, 0) := rfl
theorem bu_143_6 : mm_at mt_P 143 6 = some ((6, 3, .getfield 24, 1, 4, 0, 147), 3, 2, 1, 1, 0, 0, 0) := rfl
theorem bu_143_9 : mm_at mt_P 143 9 = some ((9, 1, .iastore, 0, 0, 0, 0), 3, 2, 1, 1, 0, 0, 0) := rfl
theorem bu_143_10 : mm_at mt_P 143 10 = some ((10, 1, .aload_n 0, 0, 0, 0, 0), 3, 2, 1, 1, 0, 0, 0) := rfl
theorem bu_143_11 : mm_at mt_P 143 11 = some ((11, 1, .iconst 0, 0, 0, 0, 0), 3, 2, 1, 1, 0, 0, 0) := rfl
theorem bu_143_12 : mm_at mt_P 143 12 = some ((12, 1, .iload_n 2, 0, 0, 0, 0), 3, 2, 1, 1, 0, 0, 0) := rfl
theorem bu_143_13 : mm_at mt_P 143 13 = some ((13, 3, .invokevirtual 32, 136, 0, 0, 173), 3, 2, 1, 1, 0, 0, 0) := rfl
theorem bu_143_16 : mm_at mt_P 143 16 = some ((16, 1, .aload_n 0, 0, 0, 0, 0), 3, 2, 1, 1, 0, 0, 0) := rfl
theorem bu_143_17 : mm_at mt_P 143 17 = some ((17, 1, .iconst 2, 0, 0, 0, 0), 3, 2, 1, 1, 0, 0, 0) := rfl
theorem bu_143_18 : mm_at mt_P 143 18 = some ((18, 1, .iconst 0, 0, 0, 0, 0), 3, 2, 1, 1, 0, 0, 0) := rfl
theorem bu_143_19 : mm_at mt_P 143 19 = some ((19, 3, .invokevirtual 32, 136, 0, 0, 173), 3, 2, 1, 1, 0, 0, 0) := rfl
theorem bu_143_22 : mm_at mt_P 143 22 = some ((22, 1, .return_, 0, 0, 0, 0), 3, 2, 1, 1, 0, 0, 0) := rfl
theorem bu_173_46 : mm_at mt_P 173 46 = some ((46, 1, .iload_n 2, 0, 0, 0, 0), 3, 1, 1, 4, 1, 0, 0) := rfl
theorem bu_173_47 : mm_at mt_P 173 47 = some ((47, 3, .sipush 400, 0, 0, 0, 0), 3, 1, 1, 4, 1, 0, 0) := rfl
theorem bu_173_50 : mm_at mt_P 173 50 = some ((50, 3, .if_icmp .gt 27, 0, 0, 0, 0), 3, 1, 1, 4, 1, 0, 0) := rfl
theorem bu_173_53 : mm_at mt_P 173 53 = some ((53, 1, .aload_n 0, 0, 0, 0, 0), 3, 1, 1, 4, 1, 0, 0) := rfl
theorem bu_173_54 : mm_at mt_P 173 54 = some ((54, 3, .getfield 37, 4, 6, 0, 280), 3, 1, 1, 4, 1, 0, 0) := rfl
theorem bu_173_57 : mm_at mt_P 173 57 = some ((57, 3, .ifCond .ne 20, 0, 0, 0, 0), 3, 1, 1, 4, 1, 0, 0) := rfl
theorem bu_173_60 : mm_at mt_P 173 60 = some ((60, 1, .aload_n 0, 0, 0, 0, 0), 3, 1, 1, 4, 1, 0, 0) := rfl
theorem bu_173_61 : mm_at mt_P 173 61 = some ((61, 3, .getfield 52, 4, 3, 0, 277), 3, 1, 1, 4, 1, 0, 0) := rfl
theorem bu_173_64 : mm_at mt_P 173 64 = some ((64, 3, .ifCond .eq 13, 0, 0, 0, 0), 3, 1, 1, 4, 1, 0, 0) := rfl
theorem bu_173_67 : mm_at mt_P 173 67 = some ((67, 1, .aload_n 0, 0, 0, 0, 0), 3, 1, 1, 4, 1, 0, 0) := rfl
theorem bu_173_68 : mm_at mt_P 173 68 = some ((68, 3, .invokevirtual 55, 174, 0, 0, 637), 3, 1, 1, 4, 1, 0, 0) := rfl
theorem bu_173_71 : mm_at mt_P 173 71 = some ((71, 3, .iinc 2 1, 0, 0, 0, 0), 3, 1, 1, 4, 1, 0, 0) := rfl
theorem bu_173_74 : mm_at mt_P 173 74 = some ((74, 3, .goto (-28), 0, 0, 0, 0), 3, 1, 1, 4, 1, 0, 0) := rfl
theorem bu_173_77 : mm_at mt_P 173 77 = some ((77, 1, .aload_n 0, 0, 0, 0, 0), 3, 1, 1, 4, 1, 0, 0) := rfl
theorem bu_173_78 : mm_at mt_P 173 78 = some ((78, 3, .getfield 37, 4, 6, 0, 280), 3, 1, 1, 4, 1, 0, 0) := rfl
theorem bu_173_81 : mm_at mt_P 173 81 = some ((81, 3, .ifCond .ne 19, 0, 0, 0, 0), 3, 1, 1, 4, 1, 0, 0) := rfl
theorem bu_173_84 : mm_at mt_P 173 84 = some ((84, 1, .aload_n 0, 0, 0, 0, 0), 3, 1, 1, 4, 1, 0, 0) := rfl
theorem bu_173_85 : mm_at mt_P 173 85 = some ((85, 1, .aload_n 0, 0, 0, 0, 0), 3, 1, 1, 4, 1, 0, 0) := rfl
theorem bu_173_86 : mm_at mt_P 173 86 = some ((86, 3, .getfield 40, 4, 8, 0, 282), 3, 1, 1, 4, 1, 0, 0) := rfl
theorem bu_173_89 : mm_at mt_P 173 89 = some ((89, 3, .putfield 37, 4, 6, 0, 280), 3, 1, 1, 4, 1, 0, 0) := rfl
theorem bu_173_92 : mm_at mt_P 173 92 = some ((92, 1, .aload_n 0, 0, 0, 0, 0), 3, 1, 1, 4, 1, 0, 0) := rfl
theorem bu_173_93 : mm_at mt_P 173 93 = some ((93, 1, .aload_n 0, 0, 0, 0, 0), 3, 1, 1, 4, 1, 0, 0) := rfl
theorem bu_173_94 : mm_at mt_P 173 94 = some ((94, 3, .getfield 43, 4, 9, 0, 283), 3, 1, 1, 4, 1, 0, 0) := rfl
theorem bu_173_97 : mm_at mt_P 173 97 = some ((97, 3, .putfield 24, 4, 7, 0, 281), 3, 1, 1, 4, 1, 0, 0) := rfl
theorem bu_173_100 : mm_at mt_P 173 100 = some ((100, 1, .aload_n 0, 0, 0, 0, 0), 3, 1, 1, 4, 1, 0, 0) := rfl
theorem bu_173_101 : mm_at mt_P 173 101 = some ((101, 3, .getfield 37, 4, 6, 0, 280), 3, 1, 1, 4, 1, 0, 0) := rfl
theorem bu_173_104 : mm_at mt_P 173 104 = some ((104, 1, .ireturn, 0, 0, 0, 0), 3, 1, 1, 4, 1, 0, 0) := rfl
theorem bu_202_0 : mm_at mt_P 202 0 = some ((0, 1, .aload_n 0, 0, 0, 0, 0), 1, 0, 1, 6, 0, 0, 0) := rfl
theorem bu_202_1 : mm_at mt_P 202 1 = some ((1, 1, .iconst 0, 0, 0, 0, 0), 1, 0, 1, 6, 0, 0, 0) := rfl
theorem bu_202_2 : mm_at mt_P 202 2 = some ((2, 3, .putfield 32, 6, 4, 0, 186), 1, 0, 1, 6, 0, 0, 0) := rfl
theorem bu_202_5 : mm_at mt_P 202 5 = some ((5, 1, .aload_n 0, 0, 0, 0, 0), 1, 0, 1, 6, 0, 0, 0) := rfl
theorem bu_202_6 : mm_at mt_P 202 6 = some ((6, 2, .bipush 20, 0, 0, 0, 0), 1, 0, 1, 6, 0, 0, 0) := rfl
theorem bu_202_8 : mm_at mt_P 202 8 = some ((8, 3, .putfield 36, 6, 5, 0, 191), 1, 0, 1, 6, 0, 0, 0) := rfl
theorem bu_202_11 : mm_at mt_P 202 11 = some ((11, 1, .aload_n 0, 0, 0, 0, 0), 1, 0, 1, 6, 0, 0, 0) := rfl
theorem bu_202_12 : mm_at mt_P 202 12 = some ((12, 2, .bipush 99, 0, 0, 0, 0), 1, 0, 1, 6, 0, 0, 0) := rfl
theorem bu_202_14 : mm_at mt_P 202 14 = some ((14, 3, .putfield 39, 6, 6, 0, 194), 1, 0, 1, 6, 0, 0, 0) := rfl
theorem bu_202_17 : mm_at mt_P 202 17 = some ((17, 1, .aload_n 0, 0, 0, 0, 0), 1, 0, 1, 6, 0, 0, 0) := rfl
theorem bu_202_18 : mm_at mt_P 202 18 = some ((18, 2, .bipush 50, 0, 0, 0, 0), 1, 0, 1, 6, 0, 0, 0) := rfl
theorem bu_202_20 : mm_at mt_P 202 20 = some ((20, 3, .putfield 42, 6, 7, 0, 197), 1, 0, 1, 6, 0, 0, 0) := rfl
theorem bu_202_23 : mm_at mt_P 202 23 = some ((23, 1, .aload_n 0, 0, 0, 0, 0), 1, 0, 1, 6, 0, 0, 0) := rfl
theorem bu_202_24 : mm_at mt_P 202 24 = some ((24, 2, .bipush 60, 0, 0, 0, 0), 1, 0, 1, 6, 0, 0, 0) := rfl
theorem bu_202_26 : mm_at mt_P 202 26 = some ((26, 3, .putfield 45, 6, 8, 0, 200), 1, 0, 1, 6, 0, 0, 0) := rfl
theorem bu_202_29 : mm_at mt_P 202 29 = some ((29, 1, .aload_n 0, 0, 0, 0, 0), 1, 0, 1, 6, 0, 0, 0) := rfl
theorem bu_202_30 : mm_at mt_P 202 30 = some ((30, 3, .sipush 999, 0, 0, 0, 0), 1, 0, 1, 6, 0, 0, 0) := rfl
theorem bu_202_33 : mm_at mt_P 202 33 = some ((33, 3, .putfield 48, 6, 9, 0, 205), 1, 0, 1, 6, 0, 0, 0) := rfl
theorem bu_202_36 : mm_at mt_P 202 36 = some ((36, 1, .aload_n 0, 0, 0, 0, 0), 1, 0, 1, 6, 0, 0, 0) := rfl
theorem bu_202_37 : mm_at mt_P 202 37 = some ((37, 1, .iconst 0, 0, 0, 0, 0), 1, 0, 1, 6, 0, 0, 0) := rfl
theorem bu_202_38 : mm_at mt_P 202 38 = some ((38, 3, .putfield 51, 6, 10, 0, 208), 1, 0, 1, 6, 0, 0, 0) := rfl
theorem bu_202_41 : mm_at mt_P 202 41 = some ((41, 1, .aload_n 0, 0, 0, 0, 0), 1, 0, 1, 6, 0, 0, 0) := rfl
theorem bu_202_42 : mm_at mt_P 202 42 = some ((42, 3, .getfield 12, 6, 0, 0, 177), 1, 0, 1, 6, 0, 0, 0) := rfl
theorem bu_202_45 : mm_at mt_P 202 45 = some ((45, 3, .invokevirtual 54, 134, 0, 0, 165), 1, 0, 1, 6, 0, 0, 0) := rfl
theorem bu_202_48 : mm_at mt_P 202 48 = some ((48, 1, .return_, 0, 0, 0, 0), 1, 0, 1, 6, 0, 0, 0) := rfl
section BTQ
variable {X : Nat → Int32} {n : Nat} {E : mm_E} {PO : mm_C → Prop} {NN : Nat} {h0 h : mm_H} {s : Nat → Int32} {A : Nat → Nat → Int32} {L : Nat → Nat → Int64} {gs : List mm_F}
theorem bt_143 {x y : Int32} (hP : bm_P bq_T E h0 h s A L) (hc : (0 ≤ (s 1204).toInt ∧ (s 1204).toInt ≤ 432 ∧ 0 ≤ (s 1104).toInt ∧ (s 1104).toInt ≤ 6)) (kk : ∀ (h' : mm_H) (s' : Nat → Int32) (A' : Nat → Nat → Int32), bm_P bq_T E h0 h' s' A' L → (∀ j, j ≠ 1204 → s' j = s j) → (∀ c, c ≠ 14 → c ≠ 15 → A' c = A c) → (0 ≤ (s' 1204).toInt ∧ (s' 1204).toInt ≤ 432 ∧ 0 ≤ (s' 1104).toInt ∧ (s' 1104).toInt ≤ 6) → bp_G E PO NN (mm_back none gs h')) : bp_G E PO NN ((143, 0, [(0, .ref (E.1 + 12)), (1, .int x), (2, .int y)], [], 0, 0) :: gs, h, none) := by
  refine bp_ld (pc' := 1) bu_143_0 rfl rfl (fun _ _ _ => rfl) rfl rfl ?_
  refine bn_gr (pc' := 4) (t := 15) bu_143_1 rfl rfl (fun _ _ _ => rfl) hP bq_o12 bq_r12_2 ?_
  refine bp_ld (pc' := 5) bu_143_4 rfl rfl (fun _ _ _ => rfl) rfl rfl ?_
  refine bp_ld (pc' := 6) bu_143_5 rfl rfl (fun _ _ _ => rfl) rfl rfl ?_
  refine bn_gi (pc' := 9) (K := 1204) bu_143_6 rfl rfl (fun _ _ _ => rfl) hP bq_o12 bq_i12_4 rfl rfl ?_
  refine bn_iasF (pc' := 10) bu_143_9 rfl rfl (fun _ _ _ => rfl) hP bq_a15 (Or.inl rfl) (fun b5094 b5095 h5092 hP5093 => ?_)
  refine bp_ld (pc' := 11) bu_143_10 rfl rfl (fun _ _ _ => rfl) rfl rfl ?_
  refine bp_c (pc' := 12) (n := 0) bu_143_11 rfl rfl (fun _ _ _ => rfl) (by decide) (fun c5096 e5097 => ?_)
  refine bp_ld (pc' := 13) bu_143_12 rfl rfl (fun _ _ _ => rfl) rfl rfl ?_
  refine bn_cvF (pc' := 16) (st := []) (args := [.int y, .int c5096]) bu_143_13 rfl rfl rfl (by decide) hP5093 bq_o12 (by decide) rfl (Nat.le_of_ble_eq_true rfl) (Nat.le_of_ble_eq_true rfl) ?_
  have AA5098 : ∀ c, c ≠ 14 → c ≠ 15 → (bh_up A 15 (x).toInt.toNat (mm_nar 0 (s 1204))) c = A c := fun c u1 u2 => (bh_up_ne u2)
  refine cr_136 hP5093 hc (fun h5099 s5100 A5101 hP5102 f5103 a5104 z5105 => ?_)
  have FF5106 : ∀ j, j ≠ 1204 → s5100 j = s j := fun j u => f5103 j u
  have AA5107 : ∀ c, c ≠ 14 → c ≠ 15 → A5101 c = A c := fun c u1 u2 => (a5104 c u1 u2).trans (AA5098 c u1 u2)
  show bp_G E PO NN ((143, 16, _, [], 0, 0) :: gs, h5099, none)
  refine bp_ld (pc' := 17) bu_143_16 rfl rfl (fun _ _ _ => rfl) rfl rfl ?_
  refine bp_c (pc' := 18) (n := 2) bu_143_17 rfl rfl (fun _ _ _ => rfl) (by decide) (fun c5108 e5109 => ?_)
  refine bp_c (pc' := 19) (n := 0) bu_143_18 rfl rfl (fun _ _ _ => rfl) (by decide) (fun c5110 e5111 => ?_)
  refine bn_cvF (pc' := 22) (st := []) (args := [.int c5110, .int c5108]) bu_143_19 rfl rfl rfl (by decide) hP5102 bq_o12 (by decide) rfl (Nat.le_of_ble_eq_true rfl) (Nat.le_of_ble_eq_true rfl) ?_
  refine cr_136 hP5102 z5105 (fun h5112 s5113 A5114 hP5115 f5116 a5117 z5118 => ?_)
  have FF5119 : ∀ j, j ≠ 1204 → s5113 j = s j := fun j u => (f5116 j u).trans (FF5106 j u)
  have AA5120 : ∀ c, c ≠ 14 → c ≠ 15 → A5114 c = A c := fun c u1 u2 => (a5117 c u1 u2).trans (AA5107 c u1 u2)
  show bp_G E PO NN ((143, 22, _, [], 0, 0) :: gs, h5112, none)
  refine bp_rv bu_143_22 ?_
  exact kk _ _ _ hP5115 FF5119 AA5120 z5118
theorem bt_134 (hP : bm_P bq_T E h0 h s A L) (hm1 : 0 ≤ (s 1104).toInt ∧ (s 1104).toInt ≤ 6) (kk : ∀ (h' : mm_H) (s' : Nat → Int32) (A' : Nat → Nat → Int32), bm_P bq_T E h0 h' s' A' L → (∀ j, j ≠ 1204 → s' j = s j) → (∀ c, c ≠ 14 → c ≠ 15 → A' c = A c) → (0 ≤ (s' 1204).toInt ∧ (s' 1204).toInt ≤ 432 ∧ 0 ≤ (s' 1104).toInt ∧ (s' 1104).toInt ≤ 6) → bp_G E PO NN (mm_back none gs h')) : bp_G E PO NN ((134, 0, [(0, .ref (E.1 + 12))], [], 0, 0) :: gs, h, none) := by
  refine bp_ld (pc' := 1) bu_134_0 rfl rfl (fun _ _ _ => rfl) rfl rfl ?_
  refine bp_c (pc' := 2) (n := 0) bu_134_1 rfl rfl (fun _ _ _ => rfl) (by decide) (fun c5121 e5122 => ?_)
  refine bn_pf (pc' := 5) (K := 1204) bu_134_2 rfl rfl (fun _ _ _ => rfl) hP bq_o12 bq_i12_4 rfl rfl (fun h5123 s5124 hP5125 e5126 f5127 => ?_)
  refine bp_ld (pc' := 6) bu_134_5 rfl rfl (fun _ _ _ => rfl) rfl rfl ?_
  refine bp_c (pc' := 7) (n := 0) bu_134_6 rfl rfl (fun _ _ _ => rfl) (by decide) (fun c5128 e5129 => ?_)
  refine bp_c (pc' := 8) (n := 2) bu_134_7 rfl rfl (fun _ _ _ => rfl) (by decide) (fun c5130 e5131 => ?_)
  refine bn_cvF (pc' := 11) (st := []) (args := [.int c5130, .int c5128]) bu_134_8 rfl rfl rfl (by decide) hP5125 bq_o12 (by decide) rfl (Nat.le_of_ble_eq_true rfl) (Nat.le_of_ble_eq_true rfl) ?_
  have FF5132 : ∀ j, j ≠ 1204 → s5124 j = s j := fun j u => (f5127 j u)
  have z1204 := congrArg Int32.toInt e5126
  have CC5133 : (0 ≤ (s5124 1204).toInt ∧ (s5124 1204).toInt ≤ 432 ∧ 0 ≤ (s5124 1104).toInt ∧ (s5124 1104).toInt ≤ 6) := by rw [FF5132 1104 (by decide)]; exact ⟨by omega, by omega, hm1.1, hm1.2⟩
  refine bt_143 hP5125 CC5133 (fun h5134 s5135 A5136 hP5137 f5138 a5139 z5140 => ?_)
  have FF5141 : ∀ j, j ≠ 1204 → s5135 j = s j := fun j u => (f5138 j u).trans (FF5132 j u)
  have AA5142 : ∀ c, c ≠ 14 → c ≠ 15 → A5136 c = A c := fun c u1 u2 => a5139 c u1 u2
  show bp_G E PO NN ((134, 11, _, [], 0, 0) :: gs, h5134, none)
  refine bp_ld (pc' := 12) bu_134_11 rfl rfl (fun _ _ _ => rfl) rfl rfl ?_
  refine bp_c (pc' := 13) (n := 1) bu_134_12 rfl rfl (fun _ _ _ => rfl) (by decide) (fun c5143 e5144 => ?_)
  refine bp_c (pc' := 14) (n := 0) bu_134_13 rfl rfl (fun _ _ _ => rfl) (by decide) (fun c5145 e5146 => ?_)
  refine bn_cvF (pc' := 17) (st := []) (args := [.int c5145, .int c5143]) bu_134_14 rfl rfl rfl (by decide) hP5137 bq_o12 (by decide) rfl (Nat.le_of_ble_eq_true rfl) (Nat.le_of_ble_eq_true rfl) ?_
  refine bt_143 hP5137 z5140 (fun h5147 s5148 A5149 hP5150 f5151 a5152 z5153 => ?_)
  have FF5154 : ∀ j, j ≠ 1204 → s5148 j = s j := fun j u => (f5151 j u).trans (FF5141 j u)
  have AA5155 : ∀ c, c ≠ 14 → c ≠ 15 → A5149 c = A c := fun c u1 u2 => (a5152 c u1 u2).trans (AA5142 c u1 u2)
  show bp_G E PO NN ((134, 17, _, [], 0, 0) :: gs, h5147, none)
  refine bp_ld (pc' := 18) bu_134_17 rfl rfl (fun _ _ _ => rfl) rfl rfl ?_
  refine bp_c (pc' := 19) (n := 2) bu_134_18 rfl rfl (fun _ _ _ => rfl) (by decide) (fun c5156 e5157 => ?_)
  refine bp_c (pc' := 20) (n := 1) bu_134_19 rfl rfl (fun _ _ _ => rfl) (by decide) (fun c5158 e5159 => ?_)
  refine bn_cvF (pc' := 23) (st := []) (args := [.int c5158, .int c5156]) bu_134_20 rfl rfl rfl (by decide) hP5150 bq_o12 (by decide) rfl (Nat.le_of_ble_eq_true rfl) (Nat.le_of_ble_eq_true rfl) ?_
  refine bt_143 hP5150 z5153 (fun h5160 s5161 A5162 hP5163 f5164 a5165 z5166 => ?_)
  have FF5167 : ∀ j, j ≠ 1204 → s5161 j = s j := fun j u => (f5164 j u).trans (FF5154 j u)
  have AA5168 : ∀ c, c ≠ 14 → c ≠ 15 → A5162 c = A c := fun c u1 u2 => (a5165 c u1 u2).trans (AA5155 c u1 u2)
  show bp_G E PO NN ((134, 23, _, [], 0, 0) :: gs, h5160, none)
  refine bp_ld (pc' := 24) bu_134_23 rfl rfl (fun _ _ _ => rfl) rfl rfl ?_
  refine bn_gr (pc' := 27) (t := 15) bu_134_24 rfl rfl (fun _ _ _ => rfl) hP5163 bq_o12 bq_r12_2 ?_
  refine bp_c (pc' := 28) (n := 3) bu_134_27 rfl rfl (fun _ _ _ => rfl) (by decide) (fun c5169 e5170 => ?_)
  refine bp_ld (pc' := 29) bu_134_28 rfl rfl (fun _ _ _ => rfl) rfl rfl ?_
  refine bn_gi (pc' := 32) (K := 1204) bu_134_29 rfl rfl (fun _ _ _ => rfl) hP5163 bq_o12 bq_i12_4 rfl rfl ?_
  refine bn_iasF (pc' := 33) bu_134_32 rfl rfl (fun _ _ _ => rfl) hP5163 bq_a15 (Or.inl rfl) (fun b5173 b5174 h5171 hP5172 => ?_)
  refine bp_ld (pc' := 34) bu_134_33 rfl rfl (fun _ _ _ => rfl) rfl rfl ?_
  refine bp_c (pc' := 35) (n := 1) bu_134_34 rfl rfl (fun _ _ _ => rfl) (by decide) (fun c5175 e5176 => ?_)
  refine bp_c (pc' := 37) (n := 7) bu_134_35 rfl rfl (fun _ _ _ => rfl) (by decide) (fun c5177 e5178 => ?_)
  refine bn_cvF (pc' := 40) (st := []) (args := [.int c5177, .int c5175]) bu_134_37 rfl rfl rfl (by decide) hP5172 bq_o12 (by decide) rfl (Nat.le_of_ble_eq_true rfl) (Nat.le_of_ble_eq_true rfl) ?_
  have AA5179 : ∀ c, c ≠ 14 → c ≠ 15 → (bh_up A5162 15 (c5169).toInt.toNat (mm_nar 0 (s5161 1204))) c = A c := fun c u1 u2 => (bh_up_ne u2).trans (AA5168 c u1 u2)
  refine cr_136 hP5172 z5166 (fun h5180 s5181 A5182 hP5183 f5184 a5185 z5186 => ?_)
  have FF5187 : ∀ j, j ≠ 1204 → s5181 j = s j := fun j u => (f5184 j u).trans (FF5167 j u)
  have AA5188 : ∀ c, c ≠ 14 → c ≠ 15 → A5182 c = A c := fun c u1 u2 => (a5185 c u1 u2).trans (AA5179 c u1 u2)
  show bp_G E PO NN ((134, 40, _, [], 0, 0) :: gs, h5180, none)
  refine bp_ld (pc' := 41) bu_134_40 rfl rfl (fun _ _ _ => rfl) rfl rfl ?_
  refine bp_c (pc' := 42) (n := 1) bu_134_41 rfl rfl (fun _ _ _ => rfl) (by decide) (fun c5189 e5190 => ?_)
  refine bp_c (pc' := 44) (n := 6) bu_134_42 rfl rfl (fun _ _ _ => rfl) (by decide) (fun c5191 e5192 => ?_)
  refine bn_cvF (pc' := 47) (st := []) (args := [.int c5191, .int c5189]) bu_134_44 rfl rfl rfl (by decide) hP5183 bq_o12 (by decide) rfl (Nat.le_of_ble_eq_true rfl) (Nat.le_of_ble_eq_true rfl) ?_
  refine cr_136 hP5183 z5186 (fun h5193 s5194 A5195 hP5196 f5197 a5198 z5199 => ?_)
  have FF5200 : ∀ j, j ≠ 1204 → s5194 j = s j := fun j u => (f5197 j u).trans (FF5187 j u)
  have AA5201 : ∀ c, c ≠ 14 → c ≠ 15 → A5195 c = A c := fun c u1 u2 => (a5198 c u1 u2).trans (AA5188 c u1 u2)
  show bp_G E PO NN ((134, 47, _, [], 0, 0) :: gs, h5193, none)
  refine bp_ld (pc' := 48) bu_134_47 rfl rfl (fun _ _ _ => rfl) rfl rfl ?_
  refine bp_c (pc' := 49) (n := 4) bu_134_48 rfl rfl (fun _ _ _ => rfl) (by decide) (fun c5202 e5203 => ?_)
  refine bp_c (pc' := 50) (n := 0) bu_134_49 rfl rfl (fun _ _ _ => rfl) (by decide) (fun c5204 e5205 => ?_)
  refine bn_cvF (pc' := 53) (st := []) (args := [.int c5204, .int c5202]) bu_134_50 rfl rfl rfl (by decide) hP5196 bq_o12 (by decide) rfl (Nat.le_of_ble_eq_true rfl) (Nat.le_of_ble_eq_true rfl) ?_
  refine cr_136 hP5196 z5199 (fun h5206 s5207 A5208 hP5209 f5210 a5211 z5212 => ?_)
  have FF5213 : ∀ j, j ≠ 1204 → s5207 j = s j := fun j u => (f5210 j u).trans (FF5200 j u)
  have AA5214 : ∀ c, c ≠ 14 → c ≠ 15 → A5208 c = A c := fun c u1 u2 => (a5211 c u1 u2).trans (AA5201 c u1 u2)
  show bp_G E PO NN ((134, 53, _, [], 0, 0) :: gs, h5206, none)
  refine bp_ld (pc' := 54) bu_134_53 rfl rfl (fun _ _ _ => rfl) rfl rfl ?_
  refine bp_c (pc' := 55) (n := 2) bu_134_54 rfl rfl (fun _ _ _ => rfl) (by decide) (fun c5215 e5216 => ?_)
  refine bp_c (pc' := 56) (n := 0) bu_134_55 rfl rfl (fun _ _ _ => rfl) (by decide) (fun c5217 e5218 => ?_)
  refine bn_cvF (pc' := 59) (st := []) (args := [.int c5217, .int c5215]) bu_134_56 rfl rfl rfl (by decide) hP5209 bq_o12 (by decide) rfl (Nat.le_of_ble_eq_true rfl) (Nat.le_of_ble_eq_true rfl) ?_
  refine cr_136 hP5209 z5212 (fun h5219 s5220 A5221 hP5222 f5223 a5224 z5225 => ?_)
  have FF5226 : ∀ j, j ≠ 1204 → s5220 j = s j := fun j u => (f5223 j u).trans (FF5213 j u)
  have AA5227 : ∀ c, c ≠ 14 → c ≠ 15 → A5221 c = A c := fun c u1 u2 => (a5224 c u1 u2).trans (AA5214 c u1 u2)
  show bp_G E PO NN ((134, 59, _, [], 0, 0) :: gs, h5219, none)
  refine bp_ld (pc' := 60) bu_134_59 rfl rfl (fun _ _ _ => rfl) rfl rfl ?_
  refine bp_c (pc' := 61) (n := 4) bu_134_60 rfl rfl (fun _ _ _ => rfl) (by decide) (fun c5228 e5229 => ?_)
  refine bp_c (pc' := 62) (n := 0) bu_134_61 rfl rfl (fun _ _ _ => rfl) (by decide) (fun c5230 e5231 => ?_)
  refine bn_cvF (pc' := 65) (st := []) (args := [.int c5230, .int c5228]) bu_134_62 rfl rfl rfl (by decide) hP5222 bq_o12 (by decide) rfl (Nat.le_of_ble_eq_true rfl) (Nat.le_of_ble_eq_true rfl) ?_
  refine bt_143 hP5222 z5225 (fun h5232 s5233 A5234 hP5235 f5236 a5237 z5238 => ?_)
  have FF5239 : ∀ j, j ≠ 1204 → s5233 j = s j := fun j u => (f5236 j u).trans (FF5226 j u)
  have AA5240 : ∀ c, c ≠ 14 → c ≠ 15 → A5234 c = A c := fun c u1 u2 => (a5237 c u1 u2).trans (AA5227 c u1 u2)
  show bp_G E PO NN ((134, 65, _, [], 0, 0) :: gs, h5232, none)
  refine bp_ld (pc' := 66) bu_134_65 rfl rfl (fun _ _ _ => rfl) rfl rfl ?_
  refine bp_c (pc' := 67) (n := 5) bu_134_66 rfl rfl (fun _ _ _ => rfl) (by decide) (fun c5241 e5242 => ?_)
  refine bp_c (pc' := 68) (n := 1) bu_134_67 rfl rfl (fun _ _ _ => rfl) (by decide) (fun c5243 e5244 => ?_)
  refine bn_cvF (pc' := 71) (st := []) (args := [.int c5243, .int c5241]) bu_134_68 rfl rfl rfl (by decide) hP5235 bq_o12 (by decide) rfl (Nat.le_of_ble_eq_true rfl) (Nat.le_of_ble_eq_true rfl) ?_
  refine bt_143 hP5235 z5238 (fun h5245 s5246 A5247 hP5248 f5249 a5250 z5251 => ?_)
  have FF5252 : ∀ j, j ≠ 1204 → s5246 j = s j := fun j u => (f5249 j u).trans (FF5239 j u)
  have AA5253 : ∀ c, c ≠ 14 → c ≠ 15 → A5247 c = A c := fun c u1 u2 => (a5250 c u1 u2).trans (AA5240 c u1 u2)
  show bp_G E PO NN ((134, 71, _, [], 0, 0) :: gs, h5245, none)
  refine bp_ld (pc' := 72) bu_134_71 rfl rfl (fun _ _ _ => rfl) rfl rfl ?_
  refine bp_c (pc' := 74) (n := 6) bu_134_72 rfl rfl (fun _ _ _ => rfl) (by decide) (fun c5254 e5255 => ?_)
  refine bp_c (pc' := 75) (n := 0) bu_134_74 rfl rfl (fun _ _ _ => rfl) (by decide) (fun c5256 e5257 => ?_)
  refine bn_cvF (pc' := 78) (st := []) (args := [.int c5256, .int c5254]) bu_134_75 rfl rfl rfl (by decide) hP5248 bq_o12 (by decide) rfl (Nat.le_of_ble_eq_true rfl) (Nat.le_of_ble_eq_true rfl) ?_
  refine bt_143 hP5248 z5251 (fun h5258 s5259 A5260 hP5261 f5262 a5263 z5264 => ?_)
  have FF5265 : ∀ j, j ≠ 1204 → s5259 j = s j := fun j u => (f5262 j u).trans (FF5252 j u)
  have AA5266 : ∀ c, c ≠ 14 → c ≠ 15 → A5260 c = A c := fun c u1 u2 => (a5263 c u1 u2).trans (AA5253 c u1 u2)
  show bp_G E PO NN ((134, 78, _, [], 0, 0) :: gs, h5258, none)
  refine bp_rv bu_134_78 ?_
  exact kk _ _ _ hP5261 FF5265 AA5266 z5264
theorem bt_202 (hP : bm_P bq_T E h0 h s A L) (kk : ∀ (h' : mm_H) (s' : Nat → Int32) (A' : Nat → Nat → Int32), bm_P bq_T E h0 h' s' A' L → (∀ j, (j < 1104 ∨ 1110 < j) → j ≠ 1204 → s' j = s j) → (∀ c, c ≠ 14 → c ≠ 15 → A' c = A c) → (s' 1104).toInt = 0 → (0 ≤ (s' 1204).toInt ∧ (s' 1204).toInt ≤ 432 ∧ 0 ≤ (s' 1104).toInt ∧ (s' 1104).toInt ≤ 6) → bp_G E PO NN (mm_back none gs h')) : bp_G E PO NN ((202, 0, [(0, .ref (E.1 + 11))], [], 0, 0) :: gs, h, none) := by
  refine bp_ld (pc' := 1) bu_202_0 rfl rfl (fun _ _ _ => rfl) rfl rfl ?_
  refine bp_c (pc' := 2) (n := 0) bu_202_1 rfl rfl (fun _ _ _ => rfl) (by decide) (fun c5267 e5268 => ?_)
  refine bn_pf (pc' := 5) (K := 1104) bu_202_2 rfl rfl (fun _ _ _ => rfl) hP bq_o11 bq_i11_4 rfl rfl (fun h5269 s5270 hP5271 e5272 f5273 => ?_)
  refine bp_ld (pc' := 6) bu_202_5 rfl rfl (fun _ _ _ => rfl) rfl rfl ?_
  refine bp_c (pc' := 8) (n := 20) bu_202_6 rfl rfl (fun _ _ _ => rfl) (by decide) (fun c5274 e5275 => ?_)
  refine bn_pf (pc' := 11) (K := 1105) bu_202_8 rfl rfl (fun _ _ _ => rfl) hP5271 bq_o11 bq_i11_5 rfl rfl (fun h5276 s5277 hP5278 e5279 f5280 => ?_)
  refine bp_ld (pc' := 12) bu_202_11 rfl rfl (fun _ _ _ => rfl) rfl rfl ?_
  refine bp_c (pc' := 14) (n := 99) bu_202_12 rfl rfl (fun _ _ _ => rfl) (by decide) (fun c5281 e5282 => ?_)
  refine bn_pf (pc' := 17) (K := 1106) bu_202_14 rfl rfl (fun _ _ _ => rfl) hP5278 bq_o11 bq_i11_6 rfl rfl (fun h5283 s5284 hP5285 e5286 f5287 => ?_)
  refine bp_ld (pc' := 18) bu_202_17 rfl rfl (fun _ _ _ => rfl) rfl rfl ?_
  refine bp_c (pc' := 20) (n := 50) bu_202_18 rfl rfl (fun _ _ _ => rfl) (by decide) (fun c5288 e5289 => ?_)
  refine bn_pf (pc' := 23) (K := 1107) bu_202_20 rfl rfl (fun _ _ _ => rfl) hP5285 bq_o11 bq_i11_7 rfl rfl (fun h5290 s5291 hP5292 e5293 f5294 => ?_)
  refine bp_ld (pc' := 24) bu_202_23 rfl rfl (fun _ _ _ => rfl) rfl rfl ?_
  refine bp_c (pc' := 26) (n := 60) bu_202_24 rfl rfl (fun _ _ _ => rfl) (by decide) (fun c5295 e5296 => ?_)
  refine bn_pf (pc' := 29) (K := 1108) bu_202_26 rfl rfl (fun _ _ _ => rfl) hP5292 bq_o11 bq_i11_8 rfl rfl (fun h5297 s5298 hP5299 e5300 f5301 => ?_)
  refine bp_ld (pc' := 30) bu_202_29 rfl rfl (fun _ _ _ => rfl) rfl rfl ?_
  refine bp_c (pc' := 33) (n := 999) bu_202_30 rfl rfl (fun _ _ _ => rfl) (by decide) (fun c5302 e5303 => ?_)
  refine bn_pf (pc' := 36) (K := 1109) bu_202_33 rfl rfl (fun _ _ _ => rfl) hP5299 bq_o11 bq_i11_9 rfl rfl (fun h5304 s5305 hP5306 e5307 f5308 => ?_)
  refine bp_ld (pc' := 37) bu_202_36 rfl rfl (fun _ _ _ => rfl) rfl rfl ?_
  refine bp_c (pc' := 38) (n := 0) bu_202_37 rfl rfl (fun _ _ _ => rfl) (by decide) (fun c5309 e5310 => ?_)
  refine bn_pf (pc' := 41) (K := 1110) bu_202_38 rfl rfl (fun _ _ _ => rfl) hP5306 bq_o11 bq_i11_10 rfl rfl (fun h5311 s5312 hP5313 e5314 f5315 => ?_)
  refine bp_ld (pc' := 42) bu_202_41 rfl rfl (fun _ _ _ => rfl) rfl rfl ?_
  refine bn_gr (pc' := 45) (t := 12) bu_202_42 rfl rfl (fun _ _ _ => rfl) hP5313 bq_o11 bq_r11_0 ?_
  refine bn_cvF (pc' := 48) (st := []) (args := []) bu_202_45 rfl rfl rfl (by decide) hP5313 bq_o12 (by decide) rfl (Nat.le_of_ble_eq_true rfl) (Nat.le_of_ble_eq_true rfl) ?_
  have z1104 := congrArg Int32.toInt ((f5315 1104 (by decide)).trans ((f5308 1104 (by decide)).trans ((f5301 1104 (by decide)).trans ((f5294 1104 (by decide)).trans ((f5287 1104 (by decide)).trans ((f5280 1104 (by decide)).trans e5272))))))
  refine bt_134 hP5313 ⟨by omega, by omega⟩ (fun h5316 s5317 A5318 hP5319 f5320 a5321 z5322 => ?_)
  show bp_G E PO NN ((202, 48, _, [], 0, 0) :: gs, h5316, none)
  refine bp_rv bu_202_48 ?_
  exact kk _ _ _ hP5319 (fun j u1 u2 => (f5320 j u2).trans ((f5315 j (by omega)).trans ((f5308 j (by omega)).trans ((f5301 j (by omega)).trans ((f5294 j (by omega)).trans ((f5287 j (by omega)).trans ((f5280 j (by omega)).trans (f5273 j (by omega))))))))) a5321 (by rw [f5320 1104 (by decide)]; omega) z5322
theorem bt_161 {N : Nat} (hP : bm_P bq_T E h0 h s A L) (ha : (s 2002).toInt = -1) (hN : (s 2103).toInt = (N : Int)) (hN0 : 0 < N) (kk : ∀ (h' : mm_H) (s' : Nat → Int32) (L' : Nat → Nat → Int64), bm_P bq_T E h0 h' s' A L' → (s' 2002).toInt = 0 → s' 2003 = A 22 0 → L' 20 4 = L 24 0 → s' 2005 = A 23 0 → (∀ j, j ≠ 2002 → j ≠ 2003 → j ≠ 2005 → s' j = s j) → (∀ c, c ≠ 20 → L' c = L c) → bp_G E PO NN (mm_back none gs h')) : bp_G E PO NN ((161, 0, [(0, .ref (E.1 + 20))], [], 0, 0) :: gs, h, none) := by
  refine bp_ld (pc' := 1) bu_161_0 rfl rfl (fun _ _ _ => rfl) rfl rfl ?_
  refine bn_gi (pc' := 4) (K := 2002) bu_161_1 rfl rfl (fun _ _ _ => rfl) hP bq_o20 bq_i20_2 rfl rfl ?_
  refine bp_c (pc' := 7) (n := 400) bu_161_4 rfl rfl (fun _ _ _ => rfl) (by decide) (fun c5323 e5324 => ?_)
  refine bp_ic (pc' := 10) (pt := 29) bu_161_7 rfl rfl (fun k5325 => ?_) (fun k5325 => ?_)
  · replace k5325 : ((s 2002)).toInt < (c5323).toInt := k5325
    refine bp_ld (pc' := 30) bu_161_29 rfl rfl (fun _ _ _ => rfl) rfl rfl ?_
    refine bp_dup (pc' := 31) bu_161_30 rfl rfl ?_
    refine bn_gi (pc' := 34) (K := 2002) bu_161_31 rfl rfl (fun _ _ _ => rfl) hP bq_o20 bq_i20_2 rfl rfl ?_
    refine bp_c (pc' := 35) (n := 1) bu_161_34 rfl rfl (fun _ _ _ => rfl) (by decide) (fun c5326 e5327 => ?_)
    refine bp_add (pc' := 36) bu_161_35 rfl (by omega) (by omega) (fun v5328 e5329 => ?_)
    refine bn_pf (pc' := 39) (K := 2002) bu_161_36 rfl rfl (fun _ _ _ => rfl) hP bq_o20 bq_i20_2 rfl rfl (fun h5330 s5331 hP5332 e5333 f5334 => ?_)
    refine bp_ld (pc' := 40) bu_161_39 rfl rfl (fun _ _ _ => rfl) rfl rfl ?_
    refine bn_gi (pc' := 43) (K := 2002) bu_161_40 rfl rfl (fun _ _ _ => rfl) hP5332 bq_o20 bq_i20_2 rfl e5333 ?_
    refine bp_i0 (pc' := 46) (pt := 108) bu_161_43 rfl rfl (fun k5335 => ?_) (fun k5335 => ?_)
    · replace k5335 : (v5328).toInt < 0 := k5335
      refine bp_rv bu_161_108 ?_
      exfalso
      omega
    · replace k5335 : ¬ ((v5328).toInt < 0) := k5335
      refine bp_ld (pc' := 47) bu_161_46 rfl rfl (fun _ _ _ => rfl) rfl rfl ?_
      refine bn_gi (pc' := 50) (K := 2002) bu_161_47 rfl rfl (fun _ _ _ => rfl) hP5332 bq_o20 bq_i20_2 rfl e5333 ?_
      refine bp_ld (pc' := 51) bu_161_50 rfl rfl (fun _ _ _ => rfl) rfl rfl ?_
      refine bn_gr (pc' := 54) (t := 21) bu_161_51 rfl rfl (fun _ _ _ => rfl) hP5332 bq_o20 bq_r20_0 ?_
      refine bn_gi (pc' := 57) (K := 2103) bu_161_54 rfl rfl (fun _ _ _ => rfl) hP5332 bq_o21 bq_i21_3 rfl (f5334 2103 (by decide)) ?_
      refine bp_ic (pc' := 60) (pt := 108) bu_161_57 rfl rfl (fun k5336 => ?_) (fun k5336 => ?_)
      · replace k5336 : ((s 2103)).toInt ≤ (v5328).toInt := k5336
        refine bp_rv bu_161_108 ?_
        exfalso
        omega
      · replace k5336 : ¬ (((s 2103)).toInt ≤ (v5328).toInt) := k5336
        refine bp_ld (pc' := 61) bu_161_60 rfl rfl (fun _ _ _ => rfl) rfl rfl ?_
        refine bp_ld (pc' := 62) bu_161_61 rfl rfl (fun _ _ _ => rfl) rfl rfl ?_
        refine bn_gr (pc' := 65) (t := 21) bu_161_62 rfl rfl (fun _ _ _ => rfl) hP5332 bq_o20 bq_r20_0 ?_
        refine bn_gr (pc' := 68) (t := 22) bu_161_65 rfl rfl (fun _ _ _ => rfl) hP5332 bq_o21 bq_r21_0 ?_
        refine bp_ld (pc' := 69) bu_161_68 rfl rfl (fun _ _ _ => rfl) rfl rfl ?_
        refine bn_gi (pc' := 72) (K := 2002) bu_161_69 rfl rfl (fun _ _ _ => rfl) hP5332 bq_o20 bq_i20_2 rfl e5333 ?_
        refine bn_iaF (pc' := 73) bu_161_72 rfl rfl (fun _ _ _ => rfl) hP5332 bq_a22 (Or.inl rfl) (fun b5337 b5338 => ?_)
        refine bn_pf (pc' := 76) (K := 2003) bu_161_73 rfl rfl (fun _ _ _ => rfl) hP5332 bq_o20 bq_i20_3 rfl rfl (fun h5339 s5340 hP5341 e5342 f5343 => ?_)
        refine bp_ld (pc' := 77) bu_161_76 rfl rfl (fun _ _ _ => rfl) rfl rfl ?_
        refine bp_ld (pc' := 78) bu_161_77 rfl rfl (fun _ _ _ => rfl) rfl rfl ?_
        refine bn_gr (pc' := 81) (t := 21) bu_161_78 rfl rfl (fun _ _ _ => rfl) hP5341 bq_o20 bq_r20_0 ?_
        refine bn_gr (pc' := 84) (t := 24) bu_161_81 rfl rfl (fun _ _ _ => rfl) hP5341 bq_o21 bq_r21_2 ?_
        refine bp_ld (pc' := 85) bu_161_84 rfl rfl (fun _ _ _ => rfl) rfl rfl ?_
        refine bn_gi (pc' := 88) (K := 2002) bu_161_85 rfl rfl (fun _ _ _ => rfl) hP5341 bq_o20 bq_i20_2 rfl ((f5343 2002 (by decide)).trans e5333) ?_
        refine bn_laF (pc' := 89) bu_161_88 rfl rfl (fun _ _ _ => rfl) hP5341 bq_l24 (fun b5344 b5345 => ?_)
        refine bn_pl (pc' := 92) bu_161_89 rfl rfl (fun _ _ _ => rfl) hP5341 bq_o20 bq_f20_4 (fun h5346 hP5347 => ?_)
        refine bp_ld (pc' := 93) bu_161_92 rfl rfl (fun _ _ _ => rfl) rfl rfl ?_
        refine bp_ld (pc' := 94) bu_161_93 rfl rfl (fun _ _ _ => rfl) rfl rfl ?_
        refine bn_gr (pc' := 97) (t := 21) bu_161_94 rfl rfl (fun _ _ _ => rfl) hP5347 bq_o20 bq_r20_0 ?_
        refine bn_gr (pc' := 100) (t := 23) bu_161_97 rfl rfl (fun _ _ _ => rfl) hP5347 bq_o21 bq_r21_1 ?_
        refine bp_ld (pc' := 101) bu_161_100 rfl rfl (fun _ _ _ => rfl) rfl rfl ?_
        refine bn_gi (pc' := 104) (K := 2002) bu_161_101 rfl rfl (fun _ _ _ => rfl) hP5347 bq_o20 bq_i20_2 rfl ((f5343 2002 (by decide)).trans e5333) ?_
        refine bn_iaF (pc' := 105) bu_161_104 rfl rfl (fun _ _ _ => rfl) hP5347 bq_a23 (Or.inl rfl) (fun b5348 b5349 => ?_)
        refine bn_pf (pc' := 108) (K := 2005) bu_161_105 rfl rfl (fun _ _ _ => rfl) hP5347 bq_o20 bq_i20_5 rfl rfl (fun h5350 s5351 hP5352 e5353 f5354 => ?_)
        refine bp_rv bu_161_108 ?_
        have z2002 := congrArg Int32.toInt ((f5354 2002 (by decide)).trans ((f5343 2002 (by decide)).trans e5333))
        have hi : (v5328).toInt.toNat = 0 := by omega
        have r3 := ((f5354 2003 (by decide)).trans e5342)
        have r5 := e5353
        rw [hi] at r3 r5
        exact kk _ _ _ hP5352 (by omega) r3 (by rw [hi]; unfold bh_upL vp_updL; rw [if_pos rfl, if_pos rfl]) r5 (fun j u2 u3 u5 => ((f5354 j u5).trans ((f5343 j u3).trans (f5334 j u2)))) (fun c u => if_neg u)
  · replace k5325 : ¬ (((s 2002)).toInt < (c5323).toInt) := k5325
    refine bp_ld (pc' := 11) bu_161_10 rfl rfl (fun _ _ _ => rfl) rfl rfl ?_
    refine bp_c (pc' := 12) (n := 2) bu_161_11 rfl rfl (fun _ _ _ => rfl) (by decide) (fun c5355 e5356 => ?_)
    refine bn_pf (pc' := 15) (K := 2006) bu_161_12 rfl rfl (fun _ _ _ => rfl) hP bq_o20 bq_i20_6 rfl rfl (fun h5357 s5358 hP5359 e5360 f5361 => ?_)
    refine bp_ld (pc' := 16) bu_161_15 rfl rfl (fun _ _ _ => rfl) rfl rfl ?_
    refine bp_ld (pc' := 17) bu_161_16 rfl rfl (fun _ _ _ => rfl) rfl rfl ?_
    refine bn_gi (pc' := 20) (K := 2005) bu_161_17 rfl rfl (fun _ _ _ => rfl) hP5359 bq_o20 bq_i20_5 rfl (f5361 2005 (by decide)) ?_
    refine bn_pf (pc' := 23) (K := 2007) bu_161_20 rfl rfl (fun _ _ _ => rfl) hP5359 bq_o20 bq_i20_7 rfl rfl (fun h5362 s5363 hP5364 e5365 f5366 => ?_)
    refine bp_ld (pc' := 24) bu_161_23 rfl rfl (fun _ _ _ => rfl) rfl rfl ?_
    refine bp_c (pc' := 25) (n := 1) bu_161_24 rfl rfl (fun _ _ _ => rfl) (by decide) (fun c5367 e5368 => ?_)
    refine bn_pf (pc' := 28) (K := 2003) bu_161_25 rfl rfl (fun _ _ _ => rfl) hP5364 bq_o20 bq_i20_3 rfl rfl (fun h5369 s5370 hP5371 e5372 f5373 => ?_)
    refine bp_rv bu_161_28 ?_
    exfalso
    omega
set_option maxHeartbeats 4000000 in
theorem bt_173l {x9 y9 : Int32} {τ : py_S} {N : Nat} {s0 : Nat → Int32} {A0 : Nat → Nat → Int32} {L0 : Nat → Nat → Int64} (hS : ∀ ρ, en_SA E ρ (wl_o x9 y9) mt_SB) (hd : gs.length + 60 ≤ 999) (hT : rc_T (fun j => px_kd X n (px_at X n j)) (fun j => px_vl X n (px_at X n j)) (fun j => (px_at X n j : Int)) N s0 A0 L0) (hQ : ∀ i j, i < N → j < N → (fun j => px_kd X n (px_at X n j)) i = 1 → (fun j => px_kd X n (px_at X n j)) j = 1 → (rq_Q X n i j = true ↔ L0 24 i = L0 24 j)) : ∀ NN : Nat, (∀ (h : mm_H) (s : Nat → Int32) (A : Nat → Nat → Int32) (L : Nat → Nat → Int64) (lv : mm_V) (o : Option Value), bm_P bq_T E h0 h s A L → rc_F s0 A0 L0 s A L → rc_R (fun j => px_kd X n (px_at X n j)) (fun j => px_vl X n (px_at X n j)) (fun j => (px_at X n j : Int)) N τ s L → mm_get lv 0 = some (.ref (E.1 + 20)) → bp_G E PO NN ((173, 77, lv, [], 0, 0) :: gs, h, o)) → (∀ (h : mm_H) (s : Nat → Int32) (A : Nat → Nat → Int32) (L : Nat → Nat → Int64) (lv : mm_V) (o : Option Value) (σ : py_S) (i : Int32) (r : Nat), bm_P bq_T E h0 h s A L → rc_F s0 A0 L0 s A L → rc_R (fun j => px_kd X n (px_at X n j)) (fun j => px_vl X n (px_at X n j)) (fun j => (px_at X n j : Int)) N σ s L → (0 ≤ (s 1204).toInt ∧ (s 1204).toInt ≤ 432 ∧ 0 ≤ (s 1104).toInt ∧ (s 1104).toInt ≤ 6) → mm_get lv 0 = some (.ref (E.1 + 20)) → mm_get lv 2 = some (.int i) → 0 ≤ i.toInt → i.toInt + (r : Int) = 401 → py_al (fun j => px_kd X n (px_at X n j)) (fun j => px_vl X n (px_at X n j)) (rq_Q X n) r σ = τ → bp_G E PO NN ((173, 46, lv, [], 0, 0) :: gs, h, o)) := by
  intro NN
  induction NN with
  | zero => intro kk h s A L lv o σ i r hP hF hR hc g0 g2 i0 hr hx; exact bp_zero bu_173_46
  | succ NN ih =>
    intro kk h s A L lv o σ i r hP hF hR hc g0 g2 i0 hr hx
    have q1 := hR.1
    refine bp_ld (pc' := 47) bu_173_46 rfl rfl (fun _ _ _ => rfl) g2 rfl ?_
    refine bp_c (pc' := 50) (n := 400) bu_173_47 rfl rfl (fun _ _ _ => rfl) (by decide) (fun c5374 e5375 => ?_)
    refine bp_ic (pc' := 53) (pt := 77) bu_173_50 rfl rfl (fun k5376 => ?_) (fun k5376 => ?_)
    · replace k5376 : (c5374).toInt < (i).toInt := k5376
      have ex : py_al (fun j => px_kd X n (px_at X n j)) (fun j => px_vl X n (px_at X n j)) (rq_Q X n) r σ = σ := by
        by_cases q0 : σ.2.1 = 0
        · by_cases e : r = 0
          · rw [e]
            rfl
          · refine py_al_e (fun u => ?_)
            have a : rc_k (px_kd X n (px_at X n σ.1)) (px_vl X n (px_at X n σ.1)) (s 2003).toInt (L 20 4).toInt := (hR.2.1 q0).2.2.1
            unfold rc_k at a
            have a2 : ¬ px_kd X n (px_at X n σ.1) = 0 := u.2
            have q1 := hR.1
            omega
        · exact py_al_f q0
      rw [ex] at hx
      exact kk _ _ _ _ _ _ hP hF (by rw [← hx]; exact hR) g0
    · replace k5376 : ¬ ((c5374).toInt < (i).toInt) := k5376
      refine bp_ld (pc' := 54) bu_173_53 rfl rfl (fun _ _ _ => rfl) g0 rfl ?_
      refine bn_gi (pc' := 57) (K := 2006) bu_173_54 rfl rfl (fun _ _ _ => rfl) hP bq_o20 bq_i20_6 rfl rfl ?_
      refine bp_i0 (pc' := 60) (pt := 77) bu_173_57 rfl rfl (fun k5377 => ?_) (fun k5377 => ?_)
      · replace k5377 : ((s 2006)).toInt ≠ 0 := k5377
        have ex : py_al (fun j => px_kd X n (px_at X n j)) (fun j => px_vl X n (px_at X n j)) (rq_Q X n) r σ = σ := by
          by_cases q0 : σ.2.1 = 0
          · by_cases e : r = 0
            · rw [e]
              rfl
            · refine py_al_e (fun u => ?_)
              have a : rc_k (px_kd X n (px_at X n σ.1)) (px_vl X n (px_at X n σ.1)) (s 2003).toInt (L 20 4).toInt := (hR.2.1 q0).2.2.1
              unfold rc_k at a
              have a2 : ¬ px_kd X n (px_at X n σ.1) = 0 := u.2
              have q1 := hR.1
              omega
          · exact py_al_f q0
        rw [ex] at hx
        exact kk _ _ _ _ _ _ hP hF (by rw [← hx]; exact hR) g0
      · replace k5377 : ¬ (((s 2006)).toInt ≠ 0) := k5377
        refine bp_ld (pc' := 61) bu_173_60 rfl rfl (fun _ _ _ => rfl) g0 rfl ?_
        refine bn_gi (pc' := 64) (K := 2003) bu_173_61 rfl rfl (fun _ _ _ => rfl) hP bq_o20 bq_i20_3 rfl rfl ?_
        refine bp_i0 (pc' := 67) (pt := 77) bu_173_64 rfl rfl (fun k5378 => ?_) (fun k5378 => ?_)
        · replace k5378 : ((s 2003)).toInt = 0 := k5378
          have ex : py_al (fun j => px_kd X n (px_at X n j)) (fun j => px_vl X n (px_at X n j)) (rq_Q X n) r σ = σ := by
            by_cases q0 : σ.2.1 = 0
            · by_cases e : r = 0
              · rw [e]
                rfl
              · refine py_al_e (fun u => ?_)
                have a : rc_k (px_kd X n (px_at X n σ.1)) (px_vl X n (px_at X n σ.1)) (s 2003).toInt (L 20 4).toInt := (hR.2.1 q0).2.2.1
                unfold rc_k at a
                have a2 : ¬ px_kd X n (px_at X n σ.1) = 0 := u.2
                have q1 := hR.1
                omega
            · exact py_al_f q0
          rw [ex] at hx
          exact kk _ _ _ _ _ _ hP hF (by rw [← hx]; exact hR) g0
        · replace k5378 : ¬ (((s 2003)).toInt = 0) := k5378
          refine bp_ld (pc' := 68) bu_173_67 rfl rfl (fun _ _ _ => rfl) g0 rfl ?_
          refine bn_cvF (pc' := 71) (st := []) (args := []) bu_173_68 rfl rfl rfl (by decide) hP bq_o20 (by decide) rfl (Nat.le_of_ble_eq_true rfl) (Nat.le_of_ble_eq_true rfl) ?_
          have q0 : σ.2.1 = 0 := by omega
          refine cr_174 (Q := rq_Q X n) hS (by rw [hF.2.2.1]; exact hQ) hP (by simp only [List.length_cons]; omega) hR (rc_T_F hT hF) hc q0 (fun h5379 s5380 A5381 L5382 hP5383 F5384 R5385 => ?_)
          show bp_G E PO (NN + 1) ((173, 71, lv, [], 0, 0) :: gs, h5379, none)
          refine bp_inc (pc' := 74) bu_173_71 rfl (by decide) g2 (by decide) (by omega) (by omega) (fun lv5386 y5389 F5387 g5388 e5390 => ?_)
          have g5391 := F5387 0 (.ref (E.1 + 20)) g0 (by decide) (Or.inl rfl)
          refine bp_goD (pc' := 46) bu_173_74 rfl ?_
          obtain ⟨r, rfl⟩ : ∃ r', r = r' + 1 := ⟨r - 1, by omega⟩
          have hk0 : px_kd X n (px_at X n σ.1) ≠ 0 := fun u => by
            have a : rc_k (px_kd X n (px_at X n σ.1)) (px_vl X n (px_at X n σ.1)) (s 2003).toInt (L 20 4).toInt := (hR.2.1 q0).2.2.1
            unfold rc_k at a
            omega
          rw [py_al_s q0 hk0] at hx
          exact ih (fun h s A L lv o a0 a1 a2 a3 => bp_mono (Nat.le_succ NN) (kk h s A L lv o a0 a1 a2 a3)) _ _ _ _ _ _ _ _ r hP5383 (rc_F_t hF F5384) R5385 (F5384.2.2.2 hc) g5391 g5388 (by omega) (by omega) hx
set_option maxHeartbeats 4000000 in
theorem bt_173e {τ : py_S} {N : Nat} {lv : mm_V} {o : Option Value} (hP : bm_P bq_T E h0 h s A L) (hR : rc_R (fun j => px_kd X n (px_at X n j)) (fun j => px_vl X n (px_at X n j)) (fun j => (px_at X n j : Int)) N τ s L) (g0 : mm_get lv 0 = some (.ref (E.1 + 20))) (kk : ∀ (h' : mm_H) (s' : Nat → Int32) (A' : Nat → Nat → Int32) (L' : Nat → Nat → Int64) (r : Int32), bm_P bq_T E h0 h' s' A' L' → r.toInt = (py_ft τ : Int) → (s' 2007).toInt = py_pl (fun j => px_at X n j) τ → bp_G E PO NN (mm_back (some (.int r)) gs h')) : bp_G E PO NN ((173, 77, lv, [], 0, 0) :: gs, h, o) := by
  have q1 := hR.1
  have q2 : τ.2.1 = 0 → (s 2008).toInt = (τ.2.2.1 : Int) := fun u => (hR.2.1 u).2.2.2.2.1
  have q3 : τ.2.1 ≠ 0 → (s 2007).toInt = (px_at X n τ.1 : Int) := fun u => (hR.2.2 u).2
  have q4 : τ.2.1 = 0 → (s 2009).toInt = (if τ.2.2.1 ≠ 0 then (px_at X n τ.2.2.2.1 : Int) else -1) := fun u => (hR.2.1 u).2.2.2.2.2.1
  refine bp_ld (pc' := 78) bu_173_77 rfl rfl (fun _ _ _ => rfl) g0 rfl ?_
  refine bn_gi (pc' := 81) (K := 2006) bu_173_78 rfl rfl (fun _ _ _ => rfl) hP bq_o20 bq_i20_6 rfl rfl ?_
  refine bp_i0 (pc' := 84) (pt := 100) bu_173_81 rfl rfl (fun k5392 => ?_) (fun k5392 => ?_)
  · replace k5392 : ((s 2006)).toInt ≠ 0 := k5392
    refine bp_ld (pc' := 101) bu_173_100 rfl rfl (fun _ _ _ => rfl) g0 rfl ?_
    refine bn_gi (pc' := 104) (K := 2006) bu_173_101 rfl rfl (fun _ _ _ => rfl) hP bq_o20 bq_i20_6 rfl rfl ?_
    refine bp_ri bu_173_104 ?_
    exact kk _ _ _ _ _ hP (by unfold py_ft; first | (rw [if_pos (by omega)]; omega) | (rw [if_neg (by omega)]; omega)) (by unfold py_pl; first | (rw [if_pos (by omega)]; have u := q3 (by omega); omega) | (rw [if_neg (by omega)]; have u := q4 (by omega); exact absurd u9 (by omega)))
  · replace k5392 : ¬ (((s 2006)).toInt ≠ 0) := k5392
    refine bp_ld (pc' := 85) bu_173_84 rfl rfl (fun _ _ _ => rfl) g0 rfl ?_
    refine bp_ld (pc' := 86) bu_173_85 rfl rfl (fun _ _ _ => rfl) g0 rfl ?_
    refine bn_gi (pc' := 89) (K := 2008) bu_173_86 rfl rfl (fun _ _ _ => rfl) hP bq_o20 bq_i20_8 rfl rfl ?_
    refine bn_pf (pc' := 92) (K := 2006) bu_173_89 rfl rfl (fun _ _ _ => rfl) hP bq_o20 bq_i20_6 rfl rfl (fun h5393 s5394 hP5395 e5396 f5397 => ?_)
    refine bp_ld (pc' := 93) bu_173_92 rfl rfl (fun _ _ _ => rfl) g0 rfl ?_
    refine bp_ld (pc' := 94) bu_173_93 rfl rfl (fun _ _ _ => rfl) g0 rfl ?_
    refine bn_gi (pc' := 97) (K := 2009) bu_173_94 rfl rfl (fun _ _ _ => rfl) hP5395 bq_o20 bq_i20_9 rfl (f5397 2009 (by decide)) ?_
    refine bn_pf (pc' := 100) (K := 2007) bu_173_97 rfl rfl (fun _ _ _ => rfl) hP5395 bq_o20 bq_i20_7 rfl rfl (fun h5398 s5399 hP5400 e5401 f5402 => ?_)
    refine bp_ld (pc' := 101) bu_173_100 rfl rfl (fun _ _ _ => rfl) g0 rfl ?_
    refine bn_gi (pc' := 104) (K := 2006) bu_173_101 rfl rfl (fun _ _ _ => rfl) hP5400 bq_o20 bq_i20_6 rfl ((f5402 2006 (by decide)).trans e5396) ?_
    refine bp_ri bu_173_104 ?_
    have z2006 := congrArg Int32.toInt ((f5402 2006 (by decide)).trans e5396)
    have z2007 := congrArg Int32.toInt e5401
    exact kk _ _ _ _ _ hP5400 (by unfold py_ft; first | (rw [if_pos (by omega)]; omega) | (rw [if_neg (by omega)]; omega)) (by unfold py_pl; first | (rw [if_pos (by omega)]; have u := q3 (by omega); omega) | (rw [if_neg (by omega)]; have u := q4 (by omega); exact z2007.trans u))
end BTQ
