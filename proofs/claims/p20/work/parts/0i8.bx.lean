/-! BY HAND: the reference's reader, 7: a plain side, reading (wip/p3/bh7.py) -/
theorem bt_72_0 : mm_at mt_P 72 0 = some ((0, 1, .aload_n 0, 0, 0, 0, 0), 3, 1, 1, 9, 0, 0, 0) := rfl
theorem bt_72_1 : mm_at mt_P 72 1 = some ((1, 3, .getfield 43, 9, 22, 0, 1239), 3, 1, 1, 9, 0, 0, 0) := rfl
theorem bt_72_4 : mm_at mt_P 72 4 = some ((4, 1, .iload_n 1, 0, 0, 0, 0), 3, 1, 1, 9, 0, 0, 0) := rfl
theorem bt_72_5 : mm_at mt_P 72 5 = some ((5, 1, .iconst 0, 0, 0, 0, 0), 3, 1, 1, 9, 0, 0, 0) := rfl
theorem bt_72_6 : mm_at mt_P 72 6 = some ((6, 1, .iastore, 0, 0, 0, 0), 3, 1, 1, 9, 0, 0, 0) := rfl
theorem bt_72_7 : mm_at mt_P 72 7 = some ((7, 1, .aload_n 0, 0, 0, 0, 0), 3, 1, 1, 9, 0, 0, 0) := rfl
theorem bt_72_8 : mm_at mt_P 72 8 = some ((8, 3, .getfield 52, 9, 25, 0, 1242), 3, 1, 1, 9, 0, 0, 0) := rfl
theorem bt_72_11 : mm_at mt_P 72 11 = some ((11, 1, .iload_n 1, 0, 0, 0, 0), 3, 1, 1, 9, 0, 0, 0) := rfl
theorem bt_72_12 : mm_at mt_P 72 12 = some ((12, 2, .bipush 20, 0, 0, 0, 0), 3, 1, 1, 9, 0, 0, 0) := rfl
theorem bt_72_14 : mm_at mt_P 72 14 = some ((14, 1, .iastore, 0, 0, 0, 0), 3, 1, 1, 9, 0, 0, 0) := rfl
theorem bt_72_15 : mm_at mt_P 72 15 = some ((15, 1, .aload_n 0, 0, 0, 0, 0), 3, 1, 1, 9, 0, 0, 0) := rfl
theorem bt_72_16 : mm_at mt_P 72 16 = some ((16, 3, .getfield 55, 9, 26, 0, 1243), 3, 1, 1, 9, 0, 0, 0) := rfl
theorem bt_72_19 : mm_at mt_P 72 19 = some ((19, 1, .iload_n 1, 0, 0, 0, 0), 3, 1, 1, 9, 0, 0, 0) := rfl
theorem bt_72_20 : mm_at mt_P 72 20 = some ((20, 2, .bipush 99, 0, 0, 0, 0), 3, 1, 1, 9, 0, 0, 0) := rfl
theorem bt_72_22 : mm_at mt_P 72 22 = some ((22, 1, .iastore, 0, 0, 0, 0), 3, 1, 1, 9, 0, 0, 0) := rfl
theorem bt_72_23 : mm_at mt_P 72 23 = some ((23, 1, .aload_n 0, 0, 0, 0, 0), 3, 1, 1, 9, 0, 0, 0) := rfl
theorem bt_72_24 : mm_at mt_P 72 24 = some ((24, 3, .getfield 58, 9, 27, 0, 1244), 3, 1, 1, 9, 0, 0, 0) := rfl
theorem bt_72_27 : mm_at mt_P 72 27 = some ((27, 1, .iload_n 1, 0, 0, 0, 0), 3, 1, 1, 9, 0, 0, 0) := rfl
theorem bt_72_28 : mm_at mt_P 72 28 = some ((28, 2, .bipush 50, 0, 0, 0, 0), 3, 1, 1, 9, 0, 0, 0) := rfl
theorem bt_72_30 : mm_at mt_P 72 30 = some ((30, 1, .iastore, 0, 0, 0, 0), 3, 1, 1, 9, 0, 0, 0) := rfl
theorem bt_72_31 : mm_at mt_P 72 31 = some ((31, 1, .aload_n 0, 0, 0, 0, 0), 3, 1, 1, 9, 0, 0, 0) := rfl
theorem bt_72_32 : mm_at mt_P 72 32 = some ((32, 3, .getfield 61, 9, 28, 0, 1245), 3, 1, 1, 9, 0, 0, 0) := rfl
theorem bt_72_35 : mm_at mt_P 72 35 = some ((35, 1, .iload_n 1, 0, 0, 0, 0), 3, 1, 1, 9, 0, 0, 0) := rfl
theorem bt_72_36 : mm_at mt_P 72 36 = some ((36, 2, .bipush 60, 0, 0, 0, 0), 3, 1, 1, 9, 0, 0, 0) := rfl
theorem bt_72_38 : mm_at mt_P 72 38 = some ((38, 1, .iastore, 0, 0, 0, 0), 3, 1, 1, 9, 0, 0, 0) := rfl
theorem bt_72_39 : mm_at mt_P 72 39 = some ((39, 1, .aload_n 0, 0, 0, 0, 0), 3, 1, 1, 9, 0, 0, 0) := rfl
theorem bt_72_40 : mm_at mt_P 72 40 = some ((40, 3, .getfield 64, 9, 29, 0, 1246), 3, 1, 1, 9, 0, 0, 0) := rfl
theorem bt_72_43 : mm_at mt_P 72 43 = some ((43, 1, .iload_n 1, 0, 0, 0, 0), 3, 1, 1, 9, 0, 0, 0) := rfl
theorem bt_72_44 : mm_at mt_P 72 44 = some ((44, 3, .sipush 999, 0, 0, 0, 0), 3, 1, 1, 9, 0, 0, 0) := rfl
theorem bt_72_47 : mm_at mt_P 72 47 = some ((47, 1, .iastore, 0, 0, 0, 0), 3, 1, 1, 9, 0, 0, 0) := rfl
theorem bt_72_48 : mm_at mt_P 72 48 = some ((48, 1, .aload_n 0, 0, 0, 0, 0), 3, 1, 1, 9, 0, 0, 0) := rfl
theorem bt_72_49 : mm_at mt_P 72 49 = some ((49, 3, .getfield 67, 9, 30, 0, 1247), 3, 1, 1, 9, 0, 0, 0) := rfl
theorem bt_72_52 : mm_at mt_P 72 52 = some ((52, 1, .iload_n 1, 0, 0, 0, 0), 3, 1, 1, 9, 0, 0, 0) := rfl
theorem bt_72_53 : mm_at mt_P 72 53 = some ((53, 1, .iconst 0, 0, 0, 0, 0), 3, 1, 1, 9, 0, 0, 0) := rfl
theorem bt_72_54 : mm_at mt_P 72 54 = some ((54, 1, .iastore, 0, 0, 0, 0), 3, 1, 1, 9, 0, 0, 0) := rfl
theorem bt_72_55 : mm_at mt_P 72 55 = some ((55, 1, .iconst 0, 0, 0, 0, 0), 3, 1, 1, 9, 0, 0, 0) := rfl
theorem bt_72_56 : mm_at mt_P 72 56 = some ((56, 1, .istore_n 2, 0, 0, 0, 0), 3, 1, 1, 9, 0, 0, 0) := rfl
theorem bt_72_57 : mm_at mt_P 72 57 = some ((57, 1, .iload_n 2, 0, 0, 0, 0), 3, 1, 1, 9, 0, 0, 0) := rfl
theorem bt_72_58 : mm_at mt_P 72 58 = some ((58, 2, .bipush 7, 0, 0, 0, 0), 3, 1, 1, 9, 0, 0, 0) := rfl
theorem bt_72_60 : mm_at mt_P 72 60 = some ((60, 3, .if_icmp .ge 33, 0, 0, 0, 0), 3, 1, 1, 9, 0, 0, 0) := rfl
theorem bt_72_63 : mm_at mt_P 72 63 = some ((63, 1, .aload_n 0, 0, 0, 0, 0), 3, 1, 1, 9, 0, 0, 0) := rfl
theorem bt_72_64 : mm_at mt_P 72 64 = some ((64, 3, .getfield 70, 9, 31, 0, 1248), 3, 1, 1, 9, 0, 0, 0) := rfl
theorem bt_72_67 : mm_at mt_P 72 67 = some ((67, 2, .bipush 7, 0, 0, 0, 0), 3, 1, 1, 9, 0, 0, 0) := rfl
theorem bt_72_69 : mm_at mt_P 72 69 = some ((69, 1, .iload_n 1, 0, 0, 0, 0), 3, 1, 1, 9, 0, 0, 0) := rfl
theorem bt_72_70 : mm_at mt_P 72 70 = some ((70, 1, .imul, 0, 0, 0, 0), 3, 1, 1, 9, 0, 0, 0) := rfl
theorem bt_72_71 : mm_at mt_P 72 71 = some ((71, 1, .iload_n 2, 0, 0, 0, 0), 3, 1, 1, 9, 0, 0, 0) := rfl
theorem bt_72_72 : mm_at mt_P 72 72 = some ((72, 1, .iadd, 0, 0, 0, 0), 3, 1, 1, 9, 0, 0, 0) := rfl
theorem bt_72_73 : mm_at mt_P 72 73 = some ((73, 1, .iconst 0, 0, 0, 0, 0), 3, 1, 1, 9, 0, 0, 0) := rfl
theorem bt_72_74 : mm_at mt_P 72 74 = some ((74, 1, .iastore, 0, 0, 0, 0), 3, 1, 1, 9, 0, 0, 0) := rfl
theorem bt_72_75 : mm_at mt_P 72 75 = some ((75, 1, .aload_n 0, 0, 0, 0, 0), 3, 1, 1, 9, 0, 0, 0) := rfl
theorem bt_72_76 : mm_at mt_P 72 76 = some ((76, 3, .getfield 73, 9, 32, 0, 1249), 3, 1, 1, 9, 0, 0, 0) := rfl
theorem bt_72_79 : mm_at mt_P 72 79 = some ((79, 2, .bipush 7, 0, 0, 0, 0), 3, 1, 1, 9, 0, 0, 0) := rfl
theorem bt_72_81 : mm_at mt_P 72 81 = some ((81, 1, .iload_n 1, 0, 0, 0, 0), 3, 1, 1, 9, 0, 0, 0) := rfl
theorem bt_72_82 : mm_at mt_P 72 82 = some ((82, 1, .imul, 0, 0, 0, 0), 3, 1, 1, 9, 0, 0, 0) := rfl
theorem bt_72_83 : mm_at mt_P 72 83 = some ((83, 1, .iload_n 2, 0, 0, 0, 0), 3, 1, 1, 9, 0, 0, 0) := rfl
theorem bt_72_84 : mm_at mt_P 72 84 = some ((84, 1, .iadd, 0, 0, 0, 0), 3, 1, 1, 9, 0, 0, 0) := rfl
theorem bt_72_85 : mm_at mt_P 72 85 = some ((85, 1, .iconst 0, 0, 0, 0, 0), 3, 1, 1, 9, 0, 0, 0) := rfl
theorem bt_72_86 : mm_at mt_P 72 86 = some ((86, 1, .iastore, 0, 0, 0, 0), 3, 1, 1, 9, 0, 0, 0) := rfl
theorem bt_72_87 : mm_at mt_P 72 87 = some ((87, 3, .iinc 2 1, 0, 0, 0, 0), 3, 1, 1, 9, 0, 0, 0) := rfl
theorem bt_72_90 : mm_at mt_P 72 90 = some ((90, 3, .goto (-33), 0, 0, 0, 0), 3, 1, 1, 9, 0, 0, 0) := rfl
theorem bt_72_93 : mm_at mt_P 72 93 = some ((93, 1, .return_, 0, 0, 0, 0), 3, 1, 1, 9, 0, 0, 0) := rfl
theorem bt_77_0 : mm_at mt_P 77 0 = some ((0, 1, .aload_n 0, 0, 0, 0, 0), 2, 0, 1, 9, 1, 0, 0) := rfl
theorem bt_77_1 : mm_at mt_P 77 1 = some ((1, 1, .aload_n 0, 0, 0, 0, 0), 2, 0, 1, 9, 1, 0, 0) := rfl
theorem bt_77_2 : mm_at mt_P 77 2 = some ((2, 3, .getfield 166, 9, 2, 0, 1219), 2, 0, 1, 9, 1, 0, 0) := rfl
theorem bt_77_5 : mm_at mt_P 77 5 = some ((5, 3, .putfield 172, 9, 4, 0, 1221), 2, 0, 1, 9, 1, 0, 0) := rfl
theorem bt_77_8 : mm_at mt_P 77 8 = some ((8, 1, .iconst 0, 0, 0, 0, 0), 2, 0, 1, 9, 1, 0, 0) := rfl
theorem bt_77_9 : mm_at mt_P 77 9 = some ((9, 1, .istore_n 1, 0, 0, 0, 0), 2, 0, 1, 9, 1, 0, 0) := rfl
theorem bt_77_10 : mm_at mt_P 77 10 = some ((10, 1, .iload_n 1, 0, 0, 0, 0), 2, 0, 1, 9, 1, 0, 0) := rfl
theorem bt_77_11 : mm_at mt_P 77 11 = some ((11, 1, .aload_n 0, 0, 0, 0, 0), 2, 0, 1, 9, 1, 0, 0) := rfl
theorem bt_77_12 : mm_at mt_P 77 12 = some ((12, 3, .getfield 172, 9, 4, 0, 1221), 2, 0, 1, 9, 1, 0, 0) := rfl
theorem bt_77_15 : mm_at mt_P 77 15 = some ((15, 3, .if_icmp .ge 21, 0, 0, 0, 0), 2, 0, 1, 9, 1, 0, 0) := rfl
theorem bt_77_18 : mm_at mt_P 77 18 = some ((18, 1, .aload_n 0, 0, 0, 0, 0), 2, 0, 1, 9, 1, 0, 0) := rfl
theorem bt_77_19 : mm_at mt_P 77 19 = some ((19, 3, .getfield 17, 9, 3, 0, 1220), 2, 0, 1, 9, 1, 0, 0) := rfl
theorem bt_77_22 : mm_at mt_P 77 22 = some ((22, 1, .iload_n 1, 0, 0, 0, 0), 2, 0, 1, 9, 1, 0, 0) := rfl
theorem bt_77_23 : mm_at mt_P 77 23 = some ((23, 1, .aload_n 0, 0, 0, 0, 0), 2, 0, 1, 9, 1, 0, 0) := rfl
theorem bt_77_24 : mm_at mt_P 77 24 = some ((24, 3, .getfield 13, 9, 1, 0, 1218), 2, 0, 1, 9, 1, 0, 0) := rfl
theorem bt_77_27 : mm_at mt_P 77 27 = some ((27, 1, .iload_n 1, 0, 0, 0, 0), 2, 0, 1, 9, 1, 0, 0) := rfl
theorem bt_77_28 : mm_at mt_P 77 28 = some ((28, 1, .baload, 0, 0, 0, 0), 2, 0, 1, 9, 1, 0, 0) := rfl
theorem bt_77_29 : mm_at mt_P 77 29 = some ((29, 1, .bastore, 0, 0, 0, 0), 2, 0, 1, 9, 1, 0, 0) := rfl
theorem bt_77_30 : mm_at mt_P 77 30 = some ((30, 3, .iinc 1 1, 0, 0, 0, 0), 2, 0, 1, 9, 1, 0, 0) := rfl
theorem bt_77_33 : mm_at mt_P 77 33 = some ((33, 3, .goto (-23), 0, 0, 0, 0), 2, 0, 1, 9, 1, 0, 0) := rfl
theorem bt_77_36 : mm_at mt_P 77 36 = some ((36, 1, .aload_n 0, 0, 0, 0, 0), 2, 0, 1, 9, 1, 0, 0) := rfl
theorem bt_77_37 : mm_at mt_P 77 37 = some ((37, 1, .iconst 0, 0, 0, 0, 0), 2, 0, 1, 9, 1, 0, 0) := rfl
theorem bt_77_38 : mm_at mt_P 77 38 = some ((38, 3, .putfield 166, 9, 2, 0, 1219), 2, 0, 1, 9, 1, 0, 0) := rfl
theorem bt_77_41 : mm_at mt_P 77 41 = some ((41, 1, .aload_n 0, 0, 0, 0, 0), 2, 0, 1, 9, 1, 0, 0) := rfl
theorem bt_77_42 : mm_at mt_P 77 42 = some ((42, 3, .invokevirtual 227, 19, 0, 0, 1453), 2, 0, 1, 9, 1, 0, 0) := rfl
theorem bt_77_45 : mm_at mt_P 77 45 = some ((45, 1, .aload_n 0, 0, 0, 0, 0), 2, 0, 1, 9, 1, 0, 0) := rfl
theorem bt_77_46 : mm_at mt_P 77 46 = some ((46, 1, .iconst 0, 0, 0, 0, 0), 2, 0, 1, 9, 1, 0, 0) := rfl
theorem bt_77_47 : mm_at mt_P 77 47 = some ((47, 3, .putfield 206, 9, 11, 0, 1228), 2, 0, 1, 9, 1, 0, 0) := rfl
theorem bt_77_50 : mm_at mt_P 77 50 = some ((50, 1, .aload_n 0, 0, 0, 0, 0), 2, 0, 1, 9, 1, 0, 0) := rfl
theorem bt_77_51 : mm_at mt_P 77 51 = some ((51, 1, .iconst 0, 0, 0, 0, 0), 2, 0, 1, 9, 1, 0, 0) := rfl
theorem bt_77_52 : mm_at mt_P 77 52 = some ((52, 3, .putfield 230, 9, 12, 0, 1229), 2, 0, 1, 9, 1, 0, 0) := rfl
theorem bt_77_55 : mm_at mt_P 77 55 = some ((55, 1, .aload_n 0, 0, 0, 0, 0), 2, 0, 1, 9, 1, 0, 0) := rfl
theorem bt_77_56 : mm_at mt_P 77 56 = some ((56, 1, .iconst 0, 0, 0, 0, 0), 2, 0, 1, 9, 1, 0, 0) := rfl
theorem bt_77_57 : mm_at mt_P 77 57 = some ((57, 3, .putfield 203, 9, 13, 0, 1230), 2, 0, 1, 9, 1, 0, 0) := rfl
theorem bt_77_60 : mm_at mt_P 77 60 = some ((60, 1, .aload_n 0, 0, 0, 0, 0), 2, 0, 1, 9, 1, 0, 0) := rfl
theorem bt_77_61 : mm_at mt_P 77 61 = some ((61, 1, .iconst 0, 0, 0, 0, 0), 2, 0, 1, 9, 1, 0, 0) := rfl
theorem bt_77_62 : mm_at mt_P 77 62 = some ((62, 3, .putfield 212, 9, 15, 0, 1232), 2, 0, 1, 9, 1, 0, 0) := rfl
theorem bt_77_65 : mm_at mt_P 77 65 = some ((65, 1, .aload_n 0, 0, 0, 0, 0), 2, 0, 1, 9, 1, 0, 0) := rfl
theorem bt_77_66 : mm_at mt_P 77 66 = some ((66, 1, .iconst 1, 0, 0, 0, 0), 2, 0, 1, 9, 1, 0, 0) := rfl
theorem bt_77_67 : mm_at mt_P 77 67 = some ((67, 1, .aload_n 0, 0, 0, 0, 0), 2, 0, 1, 9, 1, 0, 0) := rfl
theorem bt_77_68 : mm_at mt_P 77 68 = some ((68, 3, .getfield 233, 9, 18, 0, 1235), 2, 0, 1, 9, 1, 0, 0) := rfl
theorem bt_77_71 : mm_at mt_P 77 71 = some ((71, 1, .isub, 0, 0, 0, 0), 2, 0, 1, 9, 1, 0, 0) := rfl
theorem bt_77_72 : mm_at mt_P 77 72 = some ((72, 3, .putfield 236, 9, 19, 0, 1236), 2, 0, 1, 9, 1, 0, 0) := rfl
theorem bt_77_75 : mm_at mt_P 77 75 = some ((75, 1, .aload_n 0, 0, 0, 0, 0), 2, 0, 1, 9, 1, 0, 0) := rfl
theorem bt_77_76 : mm_at mt_P 77 76 = some ((76, 1, .iconst 0, 0, 0, 0, 0), 2, 0, 1, 9, 1, 0, 0) := rfl
theorem bt_77_77 : mm_at mt_P 77 77 = some ((77, 3, .putfield 239, 9, 20, 0, 1237), 2, 0, 1, 9, 1, 0, 0) := rfl
theorem bt_77_80 : mm_at mt_P 77 80 = some ((80, 1, .aload_n 0, 0, 0, 0, 0), 2, 0, 1, 9, 1, 0, 0) := rfl
theorem bt_77_81 : mm_at mt_P 77 81 = some ((81, 1, .aload_n 0, 0, 0, 0, 0), 2, 0, 1, 9, 1, 0, 0) := rfl
theorem bt_77_82 : mm_at mt_P 77 82 = some ((82, 3, .getfield 236, 9, 19, 0, 1236), 2, 0, 1, 9, 1, 0, 0) := rfl
theorem bt_77_85 : mm_at mt_P 77 85 = some ((85, 3, .invokevirtual 152, 72, 0, 0, 1191), 2, 0, 1, 9, 1, 0, 0) := rfl
theorem bt_77_88 : mm_at mt_P 77 88 = some ((88, 1, .aload_n 0, 0, 0, 0, 0), 2, 0, 1, 9, 1, 0, 0) := rfl
theorem bt_77_89 : mm_at mt_P 77 89 = some ((89, 3, .sipush 130, 0, 0, 0, 0), 2, 0, 1, 9, 1, 0, 0) := rfl
theorem bt_77_92 : mm_at mt_P 77 92 = some ((92, 1, .aload_n 0, 0, 0, 0, 0), 2, 0, 1, 9, 1, 0, 0) := rfl
theorem bt_77_93 : mm_at mt_P 77 93 = some ((93, 3, .getfield 236, 9, 19, 0, 1236), 2, 0, 1, 9, 1, 0, 0) := rfl
theorem bt_77_96 : mm_at mt_P 77 96 = some ((96, 1, .imul, 0, 0, 0, 0), 2, 0, 1, 9, 1, 0, 0) := rfl
theorem bt_77_97 : mm_at mt_P 77 97 = some ((97, 3, .putfield 242, 9, 33, 0, 1250), 2, 0, 1, 9, 1, 0, 0) := rfl
theorem bt_77_100 : mm_at mt_P 77 100 = some ((100, 1, .aload_n 0, 0, 0, 0, 0), 2, 0, 1, 9, 1, 0, 0) := rfl
theorem bt_77_101 : mm_at mt_P 77 101 = some ((101, 3, .sipush 420, 0, 0, 0, 0), 2, 0, 1, 9, 1, 0, 0) := rfl
theorem bt_77_104 : mm_at mt_P 77 104 = some ((104, 1, .aload_n 0, 0, 0, 0, 0), 2, 0, 1, 9, 1, 0, 0) := rfl
theorem bt_77_105 : mm_at mt_P 77 105 = some ((105, 3, .getfield 236, 9, 19, 0, 1236), 2, 0, 1, 9, 1, 0, 0) := rfl
theorem bt_77_108 : mm_at mt_P 77 108 = some ((108, 1, .imul, 0, 0, 0, 0), 2, 0, 1, 9, 1, 0, 0) := rfl
theorem bt_77_109 : mm_at mt_P 77 109 = some ((109, 3, .putfield 245, 9, 39, 0, 1256), 2, 0, 1, 9, 1, 0, 0) := rfl
theorem bt_77_112 : mm_at mt_P 77 112 = some ((112, 1, .aload_n 0, 0, 0, 0, 0), 2, 0, 1, 9, 1, 0, 0) := rfl
theorem bt_77_113 : mm_at mt_P 77 113 = some ((113, 3, .getfield 203, 9, 13, 0, 1230), 2, 0, 1, 9, 1, 0, 0) := rfl
theorem bt_77_116 : mm_at mt_P 77 116 = some ((116, 3, .ifCond .ne 18, 0, 0, 0, 0), 2, 0, 1, 9, 1, 0, 0) := rfl
theorem bt_77_119 : mm_at mt_P 77 119 = some ((119, 1, .aload_n 0, 0, 0, 0, 0), 2, 0, 1, 9, 1, 0, 0) := rfl
theorem bt_77_120 : mm_at mt_P 77 120 = some ((120, 1, .iconst 0, 0, 0, 0, 0), 2, 0, 1, 9, 1, 0, 0) := rfl
theorem bt_77_121 : mm_at mt_P 77 121 = some ((121, 3, .invokevirtual 221, 45, 0, 0, 1475), 2, 0, 1, 9, 1, 0, 0) := rfl
theorem bt_77_124 : mm_at mt_P 77 124 = some ((124, 3, .ifCond .ne 10, 0, 0, 0, 0), 2, 0, 1, 9, 1, 0, 0) := rfl
theorem bt_77_127 : mm_at mt_P 77 127 = some ((127, 1, .aload_n 0, 0, 0, 0, 0), 2, 0, 1, 9, 1, 0, 0) := rfl
theorem bt_77_128 : mm_at mt_P 77 128 = some ((128, 3, .invokevirtual 248, 99, 0, 0, 1479), 2, 0, 1, 9, 1, 0, 0) := rfl
theorem bt_77_131 : mm_at mt_P 77 131 = some ((131, 3, .goto (-19), 0, 0, 0, 0), 2, 0, 1, 9, 1, 0, 0) := rfl
section BX
variable {E : mm_E} {FIN : mm_C → Prop} {h0 h : mm_H} {s : Nat → Int32} {A : Nat → Nat → Int32} {L : Nat → Nat → Int64} {gs : List mm_F}
set_option maxHeartbeats 40000000 in
theorem rd_plain {a : Int32} (ha0 : 0 ≤ a.toInt) (ha1 : a.toInt ≤ 1) {A0 : Nat → Nat → Int32} : ∀ N : Nat, ∀ (h : mm_H) (A : Nat → Nat → Int32) (lv : mm_V) (o : Option Value) (q : Int32), bh_P bx_T E h0 h s A L → mm_get lv 0 = some (.ref (E.1 + 88)) → mm_get lv 1 = some (.int a) → mm_get lv 2 = some (.int q) → 0 ≤ q.toInt → q.toInt ≤ 7 → 7 - q.toInt < N → (∀ k j, ¬ ((k = 106 ∨ k = 107) ∧ 7 * a.toInt.toNat ≤ j ∧ j < 7 * a.toInt.toNat + q.toInt.toNat) → A k j = A0 k j) → (∀ j, 7 * a.toInt.toNat ≤ j → j < 7 * a.toInt.toNat + q.toInt.toNat → (A 106 j).toInt = 0 ∧ (A 107 j).toInt = 0) → (∀ (h' : mm_H) (A' : Nat → Nat → Int32), bh_P bx_T E h0 h' s A' L → (∀ k j, ¬ ((k = 106 ∨ k = 107) ∧ 7 * a.toInt.toNat ≤ j ∧ j < 7 * a.toInt.toNat + 7) → A' k j = A0 k j) → (∀ j, 7 * a.toInt.toNat ≤ j → j < 7 * a.toInt.toNat + 7 → (A' 106 j).toInt = 0 ∧ (A' 107 j).toInt = 0) → bh_G E FIN (mm_back none gs h')) → bh_G E FIN ((72, 57, lv, [], 0, 0) :: gs, h, o) := by
  intro N
  induction N with
  | zero =>
    intro h A lv o q hP g0 g1 g2 q0 q7 hN x1 x2 kk
    refine bh_ld (pc' := 58) bt_72_57 rfl rfl (fun _ _ _ => rfl) g2 rfl ?_
    refine bh_c (pc' := 60) (n := 7) bt_72_58 rfl rfl (fun _ _ _ => rfl) (by decide) (fun c3719 e3720 => ?_)
    refine bh_ic (pc' := 63) (pt := 93) bt_72_60 rfl rfl (fun k3721 => ?_) (fun k3721 => ?_)
    · replace k3721 : (c3719).toInt ≤ (q).toInt := k3721
      refine bh_rv bt_72_93 ?_
      exact kk _ _ hP (fun k j u => x1 k j (by omega)) (fun j j1 j2 => x2 j j1 (by omega))
    · replace k3721 : ¬ ((c3719).toInt ≤ (q).toInt) := k3721
      refine bh_ld (pc' := 64) bt_72_63 rfl rfl (fun _ _ _ => rfl) g0 rfl ?_
      refine bh_gr (pc' := 67) (c := 106) bt_72_64 rfl rfl (fun _ _ _ => rfl) hP bx_r31 ?_
      refine bh_c (pc' := 69) (n := 7) bt_72_67 rfl rfl (fun _ _ _ => rfl) (by decide) (fun c3722 e3723 => ?_)
      refine bh_ld (pc' := 70) bt_72_69 rfl rfl (fun _ _ _ => rfl) g1 rfl ?_
      refine bh_mul (pc' := 71) bt_72_70 rfl (by rw [e3723]; omega) (by rw [e3723]; omega) (fun v3724 e3725 => ?_)
      rw [e3723] at e3725
      refine bh_ld (pc' := 72) bt_72_71 rfl rfl (fun _ _ _ => rfl) g2 rfl ?_
      refine bh_add (pc' := 73) bt_72_72 rfl (by omega) (by omega) (fun v3726 e3727 => ?_)
      refine bh_c (pc' := 74) (n := 0) bt_72_73 rfl rfl (fun _ _ _ => rfl) (by decide) (fun c3728 e3729 => ?_)
      refine bh_ias (pc' := 75) bt_72_74 rfl rfl (fun _ _ _ => rfl) hP bx_a106 (Or.inl rfl) (by omega) (by omega) (fun h3730 hP3731 => ?_)
      refine bh_ld (pc' := 76) bt_72_75 rfl rfl (fun _ _ _ => rfl) g0 rfl ?_
      refine bh_gr (pc' := 79) (c := 107) bt_72_76 rfl rfl (fun _ _ _ => rfl) hP3731 bx_r32 ?_
      refine bh_c (pc' := 81) (n := 7) bt_72_79 rfl rfl (fun _ _ _ => rfl) (by decide) (fun c3732 e3733 => ?_)
      refine bh_ld (pc' := 82) bt_72_81 rfl rfl (fun _ _ _ => rfl) g1 rfl ?_
      refine bh_mul (pc' := 83) bt_72_82 rfl (by rw [e3733]; omega) (by rw [e3733]; omega) (fun v3734 e3735 => ?_)
      rw [e3733] at e3735
      refine bh_ld (pc' := 84) bt_72_83 rfl rfl (fun _ _ _ => rfl) g2 rfl ?_
      refine bh_add (pc' := 85) bt_72_84 rfl (by omega) (by omega) (fun v3736 e3737 => ?_)
      refine bh_c (pc' := 86) (n := 0) bt_72_85 rfl rfl (fun _ _ _ => rfl) (by decide) (fun c3738 e3739 => ?_)
      refine bh_ias (pc' := 87) bt_72_86 rfl rfl (fun _ _ _ => rfl) hP3731 bx_a107 (Or.inl rfl) (by omega) (by omega) (fun h3740 hP3741 => ?_)
      refine bh_inc (pc' := 90) bt_72_87 rfl (by decide) g2 (by decide) (by omega) (by omega) (fun lv3742 y3745 F3743 g3744 e3746 => ?_)
      have g3747 := F3743 0 (.ref (E.1 + 88)) g0 (by decide) (Or.inl rfl)
      have g3748 := F3743 1 (.int a) g1 (by decide) (Or.inl rfl)
      refine bh_go (pc' := 57) bt_72_90 rfl ?_
      exfalso
      omega
  | succ N ih =>
    intro h A lv o q hP g0 g1 g2 q0 q7 hN x1 x2 kk
    refine bh_ld (pc' := 58) bt_72_57 rfl rfl (fun _ _ _ => rfl) g2 rfl ?_
    refine bh_c (pc' := 60) (n := 7) bt_72_58 rfl rfl (fun _ _ _ => rfl) (by decide) (fun c3749 e3750 => ?_)
    refine bh_ic (pc' := 63) (pt := 93) bt_72_60 rfl rfl (fun k3751 => ?_) (fun k3751 => ?_)
    · replace k3751 : (c3749).toInt ≤ (q).toInt := k3751
      refine bh_rv bt_72_93 ?_
      exact kk _ _ hP (fun k j u => x1 k j (by omega)) (fun j j1 j2 => x2 j j1 (by omega))
    · replace k3751 : ¬ ((c3749).toInt ≤ (q).toInt) := k3751
      refine bh_ld (pc' := 64) bt_72_63 rfl rfl (fun _ _ _ => rfl) g0 rfl ?_
      refine bh_gr (pc' := 67) (c := 106) bt_72_64 rfl rfl (fun _ _ _ => rfl) hP bx_r31 ?_
      refine bh_c (pc' := 69) (n := 7) bt_72_67 rfl rfl (fun _ _ _ => rfl) (by decide) (fun c3752 e3753 => ?_)
      refine bh_ld (pc' := 70) bt_72_69 rfl rfl (fun _ _ _ => rfl) g1 rfl ?_
      refine bh_mul (pc' := 71) bt_72_70 rfl (by rw [e3753]; omega) (by rw [e3753]; omega) (fun v3754 e3755 => ?_)
      rw [e3753] at e3755
      refine bh_ld (pc' := 72) bt_72_71 rfl rfl (fun _ _ _ => rfl) g2 rfl ?_
      refine bh_add (pc' := 73) bt_72_72 rfl (by omega) (by omega) (fun v3756 e3757 => ?_)
      refine bh_c (pc' := 74) (n := 0) bt_72_73 rfl rfl (fun _ _ _ => rfl) (by decide) (fun c3758 e3759 => ?_)
      refine bh_ias (pc' := 75) bt_72_74 rfl rfl (fun _ _ _ => rfl) hP bx_a106 (Or.inl rfl) (by omega) (by omega) (fun h3760 hP3761 => ?_)
      refine bh_ld (pc' := 76) bt_72_75 rfl rfl (fun _ _ _ => rfl) g0 rfl ?_
      refine bh_gr (pc' := 79) (c := 107) bt_72_76 rfl rfl (fun _ _ _ => rfl) hP3761 bx_r32 ?_
      refine bh_c (pc' := 81) (n := 7) bt_72_79 rfl rfl (fun _ _ _ => rfl) (by decide) (fun c3762 e3763 => ?_)
      refine bh_ld (pc' := 82) bt_72_81 rfl rfl (fun _ _ _ => rfl) g1 rfl ?_
      refine bh_mul (pc' := 83) bt_72_82 rfl (by rw [e3763]; omega) (by rw [e3763]; omega) (fun v3764 e3765 => ?_)
      rw [e3763] at e3765
      refine bh_ld (pc' := 84) bt_72_83 rfl rfl (fun _ _ _ => rfl) g2 rfl ?_
      refine bh_add (pc' := 85) bt_72_84 rfl (by omega) (by omega) (fun v3766 e3767 => ?_)
      refine bh_c (pc' := 86) (n := 0) bt_72_85 rfl rfl (fun _ _ _ => rfl) (by decide) (fun c3768 e3769 => ?_)
      refine bh_ias (pc' := 87) bt_72_86 rfl rfl (fun _ _ _ => rfl) hP3761 bx_a107 (Or.inl rfl) (by omega) (by omega) (fun h3770 hP3771 => ?_)
      refine bh_inc (pc' := 90) bt_72_87 rfl (by decide) g2 (by decide) (by omega) (by omega) (fun lv3772 y3775 F3773 g3774 e3776 => ?_)
      have g3777 := F3773 0 (.ref (E.1 + 88)) g0 (by decide) (Or.inl rfl)
      have g3778 := F3773 1 (.int a) g1 (by decide) (Or.inl rfl)
      refine bh_go (pc' := 57) bt_72_90 rfl ?_
      refine ih _ _ _ _ _ hP3771 g3777 g3778 g3774 (by omega) (by omega) (by omega) (fun k j u => (bh_up_o (by omega)).trans ((bh_up_o (by omega)).trans (x1 k j (by omega)))) (fun j j1 j2 => ?_) kk
      by_cases e : j = (v3756).toInt.toNat
      · have e2 : j = (v3766).toInt.toNat := by omega
        refine ⟨?_, ?_⟩
        · rw [bh_up_o (Or.inl (by decide)), e, bh_up_i]
          show (c3758).toInt = 0
          omega
        · rw [e2, bh_up_i]
          show (c3768).toInt = 0
          omega
      · have a1 := x2 j j1 (by omega)
        refine ⟨?_, ?_⟩
        · rw [bh_up_o (Or.inl (by decide)), bh_up_j e]
          exact a1.1
        · rw [bh_up_j (by omega), bh_up_o (Or.inl (by decide))]
          exact a1.2
theorem sp_72 {a : Int32} (hP : bh_P bx_T E h0 h s A L) (ha0 : 0 ≤ a.toInt) (ha1 : a.toInt ≤ 1) (kk : ∀ (h' : mm_H) (A' : Nat → Nat → Int32), bh_P bx_T E h0 h' s A' L → (∀ k j, (k < 97 ∨ k = 98 ∨ k = 99 ∨ 107 < k) → A' k j = A k j) → (∀ j, j ≠ a.toInt.toNat → A' 97 j = A 97 j) → (A' 97 a.toInt.toNat).toInt = 0 → (∀ j, ¬ (7 * a.toInt.toNat ≤ j ∧ j < 7 * a.toInt.toNat + 7) → A' 106 j = A 106 j ∧ A' 107 j = A 107 j) → (∀ j, 7 * a.toInt.toNat ≤ j → j < 7 * a.toInt.toNat + 7 → (A' 106 j).toInt = 0 ∧ (A' 107 j).toInt = 0) → bh_G E FIN (mm_back none gs h')) : bh_G E FIN ((72, 0, [(0, .ref (E.1 + 88)), (1, .int a)], [], 0, 0) :: gs, h, none) := by
  refine bh_ld (pc' := 1) bt_72_0 rfl rfl (fun _ _ _ => rfl) rfl rfl ?_
  refine bh_gr (pc' := 4) (c := 97) bt_72_1 rfl rfl (fun _ _ _ => rfl) hP bx_r22 ?_
  refine bh_ld (pc' := 5) bt_72_4 rfl rfl (fun _ _ _ => rfl) rfl rfl ?_
  refine bh_c (pc' := 6) (n := 0) bt_72_5 rfl rfl (fun _ _ _ => rfl) (by decide) (fun c3779 e3780 => ?_)
  refine bh_ias (pc' := 7) bt_72_6 rfl rfl (fun _ _ _ => rfl) hP bx_a97 (Or.inl rfl) (by omega) (by omega) (fun h3781 hP3782 => ?_)
  refine bh_ld (pc' := 8) bt_72_7 rfl rfl (fun _ _ _ => rfl) rfl rfl ?_
  refine bh_gr (pc' := 11) (c := 100) bt_72_8 rfl rfl (fun _ _ _ => rfl) hP3782 bx_r25 ?_
  refine bh_ld (pc' := 12) bt_72_11 rfl rfl (fun _ _ _ => rfl) rfl rfl ?_
  refine bh_c (pc' := 14) (n := 20) bt_72_12 rfl rfl (fun _ _ _ => rfl) (by decide) (fun c3783 e3784 => ?_)
  refine bh_ias (pc' := 15) bt_72_14 rfl rfl (fun _ _ _ => rfl) hP3782 bx_a100 (Or.inl rfl) (by omega) (by omega) (fun h3785 hP3786 => ?_)
  refine bh_ld (pc' := 16) bt_72_15 rfl rfl (fun _ _ _ => rfl) rfl rfl ?_
  refine bh_gr (pc' := 19) (c := 101) bt_72_16 rfl rfl (fun _ _ _ => rfl) hP3786 bx_r26 ?_
  refine bh_ld (pc' := 20) bt_72_19 rfl rfl (fun _ _ _ => rfl) rfl rfl ?_
  refine bh_c (pc' := 22) (n := 99) bt_72_20 rfl rfl (fun _ _ _ => rfl) (by decide) (fun c3787 e3788 => ?_)
  refine bh_ias (pc' := 23) bt_72_22 rfl rfl (fun _ _ _ => rfl) hP3786 bx_a101 (Or.inl rfl) (by omega) (by omega) (fun h3789 hP3790 => ?_)
  refine bh_ld (pc' := 24) bt_72_23 rfl rfl (fun _ _ _ => rfl) rfl rfl ?_
  refine bh_gr (pc' := 27) (c := 102) bt_72_24 rfl rfl (fun _ _ _ => rfl) hP3790 bx_r27 ?_
  refine bh_ld (pc' := 28) bt_72_27 rfl rfl (fun _ _ _ => rfl) rfl rfl ?_
  refine bh_c (pc' := 30) (n := 50) bt_72_28 rfl rfl (fun _ _ _ => rfl) (by decide) (fun c3791 e3792 => ?_)
  refine bh_ias (pc' := 31) bt_72_30 rfl rfl (fun _ _ _ => rfl) hP3790 bx_a102 (Or.inl rfl) (by omega) (by omega) (fun h3793 hP3794 => ?_)
  refine bh_ld (pc' := 32) bt_72_31 rfl rfl (fun _ _ _ => rfl) rfl rfl ?_
  refine bh_gr (pc' := 35) (c := 103) bt_72_32 rfl rfl (fun _ _ _ => rfl) hP3794 bx_r28 ?_
  refine bh_ld (pc' := 36) bt_72_35 rfl rfl (fun _ _ _ => rfl) rfl rfl ?_
  refine bh_c (pc' := 38) (n := 60) bt_72_36 rfl rfl (fun _ _ _ => rfl) (by decide) (fun c3795 e3796 => ?_)
  refine bh_ias (pc' := 39) bt_72_38 rfl rfl (fun _ _ _ => rfl) hP3794 bx_a103 (Or.inl rfl) (by omega) (by omega) (fun h3797 hP3798 => ?_)
  refine bh_ld (pc' := 40) bt_72_39 rfl rfl (fun _ _ _ => rfl) rfl rfl ?_
  refine bh_gr (pc' := 43) (c := 104) bt_72_40 rfl rfl (fun _ _ _ => rfl) hP3798 bx_r29 ?_
  refine bh_ld (pc' := 44) bt_72_43 rfl rfl (fun _ _ _ => rfl) rfl rfl ?_
  refine bh_c (pc' := 47) (n := 999) bt_72_44 rfl rfl (fun _ _ _ => rfl) (by decide) (fun c3799 e3800 => ?_)
  refine bh_ias (pc' := 48) bt_72_47 rfl rfl (fun _ _ _ => rfl) hP3798 bx_a104 (Or.inl rfl) (by omega) (by omega) (fun h3801 hP3802 => ?_)
  refine bh_ld (pc' := 49) bt_72_48 rfl rfl (fun _ _ _ => rfl) rfl rfl ?_
  refine bh_gr (pc' := 52) (c := 105) bt_72_49 rfl rfl (fun _ _ _ => rfl) hP3802 bx_r30 ?_
  refine bh_ld (pc' := 53) bt_72_52 rfl rfl (fun _ _ _ => rfl) rfl rfl ?_
  refine bh_c (pc' := 54) (n := 0) bt_72_53 rfl rfl (fun _ _ _ => rfl) (by decide) (fun c3803 e3804 => ?_)
  refine bh_ias (pc' := 55) bt_72_54 rfl rfl (fun _ _ _ => rfl) hP3802 bx_a105 (Or.inl rfl) (by omega) (by omega) (fun h3805 hP3806 => ?_)
  refine bh_c (pc' := 56) (n := 0) bt_72_55 rfl rfl (fun _ _ _ => rfl) (by decide) (fun c3807 e3808 => ?_)
  refine bh_st (pc' := 57) bt_72_56 rfl rfl (fun _ _ _ => rfl) rfl (by decide) (by decide) (fun lv3809 F3810 g3811 => ?_)
  have g3812 := F3810 0 (.ref (E.1 + 88)) rfl (by decide) (Or.inl rfl)
  have g3813 := F3810 1 (.int a) rfl (by decide) (Or.inl rfl)
  refine rd_plain (by omega) (by omega) (A0 := (bh_up (bh_up (bh_up (bh_up (bh_up (bh_up (bh_up A 97 (a).toInt.toNat (mm_nar 0 c3779)) 100 (a).toInt.toNat (mm_nar 0 c3783)) 101 (a).toInt.toNat (mm_nar 0 c3787)) 102 (a).toInt.toNat (mm_nar 0 c3791)) 103 (a).toInt.toNat (mm_nar 0 c3795)) 104 (a).toInt.toNat (mm_nar 0 c3799)) 105 (a).toInt.toNat (mm_nar 0 c3803))) 8 _ _ _ _ _ hP3806 g3812 g3813 g3811 (by omega) (by omega) (by omega) (fun _ _ _ => rfl) (fun j j1 j2 => absurd j2 (by omega)) (fun h' A' hP' f1 f2 => kk h' A' hP' (fun k j u => (f1 k j (by omega)).trans ((bh_up_o (by omega)).trans ((bh_up_o (by omega)).trans ((bh_up_o (by omega)).trans ((bh_up_o (by omega)).trans ((bh_up_o (by omega)).trans ((bh_up_o (by omega)).trans (bh_up_o (by omega))))))))) (fun j u => (f1 97 j (by omega)).trans ((bh_up_o (by omega)).trans ((bh_up_o (by omega)).trans ((bh_up_o (by omega)).trans ((bh_up_o (by omega)).trans ((bh_up_o (by omega)).trans ((bh_up_o (by omega)).trans (bh_up_o (by omega))))))))) ?_ (fun j u => ⟨(f1 106 j (by omega)).trans ((bh_up_o (by omega)).trans ((bh_up_o (by omega)).trans ((bh_up_o (by omega)).trans ((bh_up_o (by omega)).trans ((bh_up_o (by omega)).trans ((bh_up_o (by omega)).trans (bh_up_o (by omega)))))))), (f1 107 j (by omega)).trans ((bh_up_o (by omega)).trans ((bh_up_o (by omega)).trans ((bh_up_o (by omega)).trans ((bh_up_o (by omega)).trans ((bh_up_o (by omega)).trans ((bh_up_o (by omega)).trans (bh_up_o (by omega))))))))⟩) f2)
  rw [f1 97 a.toInt.toNat (by omega), bh_up_o (Or.inl (by decide)), bh_up_o (Or.inl (by decide)), bh_up_o (Or.inl (by decide)), bh_up_o (Or.inl (by decide)), bh_up_o (Or.inl (by decide)), bh_up_o (Or.inl (by decide)), bh_up_i]
  show (c3779).toInt = 0
  omega
set_option maxHeartbeats 40000000 in
theorem rd_copy (hz : (s 4).toInt ≤ 2000) : ∀ N : Nat, ∀ (h : mm_H) (A : Nat → Nat → Int32) (lv : mm_V) (o : Option Value) (i : Int32), bh_P bx_T E h0 h s A L → mm_get lv 0 = some (.ref (E.1 + 88)) → mm_get lv 1 = some (.int i) → 0 ≤ i.toInt → i.toInt ≤ 2000 → (s 4).toInt - i.toInt < N → (∀ (h' : mm_H) (A' : Nat → Nat → Int32) (lv : mm_V) (o : Option Value), bh_P bx_T E h0 h' s A' L → (∀ k j, k ≠ 90 → A' k j = A k j) → mm_get lv 0 = some (.ref (E.1 + 88)) → bh_G E FIN ((77, 36, lv, [], 0, 0) :: gs, h', o)) → bh_G E FIN ((77, 10, lv, [], 0, 0) :: gs, h, o) := by
  intro N
  induction N with
  | zero =>
    intro h A lv o i hP g0 g1 i0 i1 hN kk
    refine bh_ld (pc' := 11) bt_77_10 rfl rfl (fun _ _ _ => rfl) g1 rfl ?_
    refine bh_ld (pc' := 12) bt_77_11 rfl rfl (fun _ _ _ => rfl) g0 rfl ?_
    refine bh_gi (pc' := 15) bt_77_12 rfl rfl (fun _ _ _ => rfl) hP bx_i4 rfl ?_
    refine bh_ic (pc' := 18) (pt := 36) bt_77_15 rfl rfl (fun k3814 => ?_) (fun k3814 => ?_)
    · replace k3814 : ((s 4)).toInt ≤ (i).toInt := k3814
      exact kk _ _ _ _ hP (fun _ _ _ => rfl) g0
    · replace k3814 : ¬ (((s 4)).toInt ≤ (i).toInt) := k3814
      refine bh_ld (pc' := 19) bt_77_18 rfl rfl (fun _ _ _ => rfl) g0 rfl ?_
      refine bh_gr (pc' := 22) (c := 90) bt_77_19 rfl rfl (fun _ _ _ => rfl) hP bx_r3 ?_
      refine bh_ld (pc' := 23) bt_77_22 rfl rfl (fun _ _ _ => rfl) g1 rfl ?_
      refine bh_ld (pc' := 24) bt_77_23 rfl rfl (fun _ _ _ => rfl) g0 rfl ?_
      refine bh_gr (pc' := 27) (c := 89) bt_77_24 rfl rfl (fun _ _ _ => rfl) hP bx_r1 ?_
      refine bh_ld (pc' := 28) bt_77_27 rfl rfl (fun _ _ _ => rfl) g1 rfl ?_
      refine bh_ia (pc' := 29) bt_77_28 rfl rfl (fun _ _ _ => rfl) hP bx_a89 (Or.inl rfl) (by omega) (by omega) ?_
      refine bh_ias (pc' := 30) bt_77_29 rfl rfl (fun _ _ _ => rfl) hP bx_a90 (Or.inl rfl) (by omega) (by omega) (fun h3815 hP3816 => ?_)
      refine bh_inc (pc' := 33) bt_77_30 rfl (by decide) g1 (by decide) (by omega) (by omega) (fun lv3817 y3820 F3818 g3819 e3821 => ?_)
      have g3822 := F3818 0 (.ref (E.1 + 88)) g0 (by decide) (Or.inl rfl)
      refine bh_go (pc' := 10) bt_77_33 rfl ?_
      exfalso
      omega
  | succ N ih =>
    intro h A lv o i hP g0 g1 i0 i1 hN kk
    refine bh_ld (pc' := 11) bt_77_10 rfl rfl (fun _ _ _ => rfl) g1 rfl ?_
    refine bh_ld (pc' := 12) bt_77_11 rfl rfl (fun _ _ _ => rfl) g0 rfl ?_
    refine bh_gi (pc' := 15) bt_77_12 rfl rfl (fun _ _ _ => rfl) hP bx_i4 rfl ?_
    refine bh_ic (pc' := 18) (pt := 36) bt_77_15 rfl rfl (fun k3823 => ?_) (fun k3823 => ?_)
    · replace k3823 : ((s 4)).toInt ≤ (i).toInt := k3823
      exact kk _ _ _ _ hP (fun _ _ _ => rfl) g0
    · replace k3823 : ¬ (((s 4)).toInt ≤ (i).toInt) := k3823
      refine bh_ld (pc' := 19) bt_77_18 rfl rfl (fun _ _ _ => rfl) g0 rfl ?_
      refine bh_gr (pc' := 22) (c := 90) bt_77_19 rfl rfl (fun _ _ _ => rfl) hP bx_r3 ?_
      refine bh_ld (pc' := 23) bt_77_22 rfl rfl (fun _ _ _ => rfl) g1 rfl ?_
      refine bh_ld (pc' := 24) bt_77_23 rfl rfl (fun _ _ _ => rfl) g0 rfl ?_
      refine bh_gr (pc' := 27) (c := 89) bt_77_24 rfl rfl (fun _ _ _ => rfl) hP bx_r1 ?_
      refine bh_ld (pc' := 28) bt_77_27 rfl rfl (fun _ _ _ => rfl) g1 rfl ?_
      refine bh_ia (pc' := 29) bt_77_28 rfl rfl (fun _ _ _ => rfl) hP bx_a89 (Or.inl rfl) (by omega) (by omega) ?_
      refine bh_ias (pc' := 30) bt_77_29 rfl rfl (fun _ _ _ => rfl) hP bx_a90 (Or.inl rfl) (by omega) (by omega) (fun h3824 hP3825 => ?_)
      refine bh_inc (pc' := 33) bt_77_30 rfl (by decide) g1 (by decide) (by omega) (by omega) (fun lv3826 y3829 F3827 g3828 e3830 => ?_)
      have g3831 := F3827 0 (.ref (E.1 + 88)) g0 (by decide) (Or.inl rfl)
      refine bh_go (pc' := 10) bt_77_33 rfl ?_
      exact ih _ _ _ _ _ hP3825 g3831 g3828 (by omega) (by omega) (by omega) (fun h' A' lv' o' hP' f' g' => kk h' A' lv' o' hP' (fun k j u => (f' k j u).trans (bh_up_o (by omega))) g')
set_option maxHeartbeats 40000000 in
theorem rd_loop (hd : gs.length + 8 ≤ 999) {σ : Nat} : ∀ N : Nat, ∀ (h : mm_H) (s : Nat → Int32) (A : Nat → Nat → Int32) (L : Nat → Nat → Int64) (lv : mm_V) (o : Option Value), bh_P bx_T E h0 h s A L → mm_get lv 0 = some (.ref (E.1 + 88)) → rd_Q σ s A → (0 : Int) < N → ((s 13).toInt = 0 → 401 - (s 11).toInt < N) → (∀ (h' : mm_H) (s' : Nat → Int32) (A' : Nat → Nat → Int32) (L' : Nat → Nat → Int64) (lv : mm_V) (o : Option Value), bh_P bx_T E h0 h' s' A' L' → (∀ j, j ≠ 11 → j ≠ 12 → j ≠ 13 → j ≠ 14 → j ≠ 15 → j ≠ 16 → j ≠ 20 → j ≠ 33 → j ≠ 39 → j ≠ 43 → s' j = s j) → rd_Q σ s' A' → mm_get lv 0 = some (.ref (E.1 + 88)) → bh_G E FIN ((77, 134, lv, [], 0, 0) :: gs, h', o)) → bh_G E FIN ((77, 112, lv, [], 0, 0) :: gs, h, o) := by
  intro N
  induction N with
  | zero => intro h s A L lv o _ _ _ h1; exact absurd h1 (by omega)
  | succ N ih =>
    intro h s A L lv o hP g0 hQ hN1 hN2 kk
    have qT0 := hQ.1.2.2.1
    have qT4 := hQ.1.2.2.2.1
    have qF := hQ.1.2.2.2.2.1
    refine bh_ld (pc' := 113) bt_77_112 rfl rfl (fun _ _ _ => rfl) g0 rfl ?_
    refine bh_gi (pc' := 116) bt_77_113 rfl rfl (fun _ _ _ => rfl) hP bx_i13 rfl ?_
    refine bh_i0 (pc' := 119) (pt := 134) bt_77_116 rfl rfl (fun k3832 => ?_) (fun k3832 => ?_)
    · replace k3832 : ((s 13)).toInt ≠ 0 := k3832
      exact kk _ _ _ _ _ _ hP (fun j j11 j12 j13 j14 j15 j16 j20 j33 j39 j43 => rfl) hQ g0
    · replace k3832 : ¬ (((s 13)).toInt ≠ 0) := k3832
      refine bh_ld (pc' := 120) bt_77_119 rfl rfl (fun _ _ _ => rfl) g0 rfl ?_
      refine bh_c (pc' := 121) (n := 0) bt_77_120 rfl rfl (fun _ _ _ => rfl) (by decide) (fun c3833 e3834 => ?_)
      refine bh_cv (pc' := 124) (st := []) (args := [.int c3833]) bt_77_121 rfl rfl (by decide) hP (by omega) rfl (Nat.le_of_ble_eq_true rfl) (Nat.le_of_ble_eq_true rfl) ?_
      refine sp_45 (k := c3833) hP rfl rfl (by omega) (by omega) (fun r3835 p3836 => ?_)
      show bh_G E FIN ((77, 124, lv, [.int r3835], 0, 0) :: gs, _, none)
      refine bh_i0 (pc' := 127) (pt := 134) bt_77_124 rfl rfl (fun k3837 => ?_) (fun k3837 => ?_)
      · replace k3837 : (r3835).toInt ≠ 0 := k3837
        exact kk _ _ _ _ _ _ hP (fun j j11 j12 j13 j14 j15 j16 j20 j33 j39 j43 => rfl) hQ g0
      · replace k3837 : ¬ ((r3835).toInt ≠ 0) := k3837
        refine bh_ld (pc' := 128) bt_77_127 rfl rfl (fun _ _ _ => rfl) g0 rfl ?_
        refine bh_cv (pc' := 131) (st := []) (args := []) bt_77_128 rfl rfl (by decide) hP (by omega) rfl (Nat.le_of_ble_eq_true rfl) (Nat.le_of_ble_eq_true rfl) ?_
        refine sp_99 hP (by simp only [List.length_cons]; omega) hQ (by omega) (fun h3838 s3839 A3840 L3841 hP3842 f3843 q3844 p3845 => ?_)
        show bh_G E FIN ((77, 131, lv, [], 0, 0) :: gs, _, none)
        refine bh_go (pc' := 112) bt_77_131 rfl ?_
        exact ih _ _ _ _ _ _ hP3842 g0 q3844 (by omega) (by omega) (fun h' s' A' L' lv' o' hP' f' q' g' => kk h' s' A' L' lv' o' hP' (fun j j11 j12 j13 j14 j15 j16 j20 j33 j39 j43 => (f' j j11 j12 j13 j14 j15 j16 j20 j33 j39 j43).trans ((fun j j11 j12 j13 j14 j15 j16 j20 j33 j39 j43 => (f3843 j j11 j12 j13 j14 j15 j16 j20 j33 j39 j43)) j j11 j12 j13 j14 j15 j16 j20 j33 j39 j43)) q' g')
set_option maxHeartbeats 40000000 in
theorem sp_77 (hP : bh_P bx_T E h0 h s A L) (hd : gs.length + 8 ≤ 999) (ht0 : 0 ≤ (s 2).toInt) (ht1 : (s 2).toInt ≤ 2000) (hl0 : 0 ≤ (s 18).toInt) (hl1 : (s 18).toInt ≤ 1) (hJ : rd_J A) (hm0 : 0 ≤ (A 97 0).toInt ∧ (A 97 0).toInt ≤ 6) (hm1 : 0 ≤ (A 97 1).toInt ∧ (A 97 1).toInt ≤ 6) (q91 : ∀ j, j < 403 → 0 ≤ (A 91 j).toInt ∧ (A 91 j).toInt ≤ 43) (kk : ∀ (h' : mm_H) (s' : Nat → Int32) (A' : Nat → Nat → Int32) (L' : Nat → Nat → Int64) (lv : mm_V) (o : Option Value), bh_P bx_T E h0 h' s' A' L' → s' 18 = s 18 → (s' 2).toInt = 0 → (0 ≤ (s' 4).toInt ∧ (s' 4).toInt ≤ 2000) → (0 ≤ (s' 10).toInt ∧ (s' 10).toInt ≤ 401) → (0 ≤ (s' 11).toInt ∧ (s' 11).toInt ≤ 400) → (0 ≤ (s' 12).toInt ∧ (s' 12).toInt ≤ 7) → (0 ≤ (s' 19).toInt ∧ (s' 19).toInt ≤ 1) → (0 ≤ (s' 20).toInt ∧ (s' 20).toInt ≤ 6) → rd_J A' → (0 ≤ (A' 97 0).toInt ∧ (A' 97 0).toInt ≤ 6) → (0 ≤ (A' 97 1).toInt ∧ (A' 97 1).toInt ≤ 6) → (∀ j, j < 403 → 0 ≤ (A' 91 j).toInt ∧ (A' 91 j).toInt ≤ 43) → mm_get lv 0 = some (.ref (E.1 + 88)) → bh_G E FIN ((77, 134, lv, [], 0, 0) :: gs, h', o)) : bh_G E FIN ((77, 0, [(0, .ref (E.1 + 88))], [], 0, 0) :: gs, h, none) := by
  refine bh_ld (pc' := 1) bt_77_0 rfl rfl (fun _ _ _ => rfl) rfl rfl ?_
  refine bh_ld (pc' := 2) bt_77_1 rfl rfl (fun _ _ _ => rfl) rfl rfl ?_
  refine bh_gi (pc' := 5) bt_77_2 rfl rfl (fun _ _ _ => rfl) hP bx_i2 rfl ?_
  refine bh_pf (pc' := 8) bt_77_5 rfl rfl (fun _ _ _ => rfl) hP bx_i4 rfl (fun h3846 s3847 hP3848 e3849 f3850 => ?_)
  refine bh_c (pc' := 9) (n := 0) bt_77_8 rfl rfl (fun _ _ _ => rfl) (by decide) (fun c3851 e3852 => ?_)
  refine bh_st (pc' := 10) bt_77_9 rfl rfl (fun _ _ _ => rfl) rfl (by decide) (by decide) (fun lv3853 F3854 g3855 => ?_)
  have g3856 := F3854 0 (.ref (E.1 + 88)) rfl (by decide) (Or.inl rfl)
  have z4 := congrArg Int32.toInt e3849
  refine rd_copy (by omega) 2001 _ _ _ _ _ hP3848 g3856 g3855 (by omega) (by omega) (by omega) (fun h3857 A3858 lv3859 o3860 hP3861 f3862 g3863 => ?_)
  refine bh_ld (pc' := 37) bt_77_36 rfl rfl (fun _ _ _ => rfl) g3863 rfl ?_
  refine bh_c (pc' := 38) (n := 0) bt_77_37 rfl rfl (fun _ _ _ => rfl) (by decide) (fun c3864 e3865 => ?_)
  refine bh_pf (pc' := 41) bt_77_38 rfl rfl (fun _ _ _ => rfl) hP3861 bx_i2 rfl (fun h3866 s3867 hP3868 e3869 f3870 => ?_)
  refine bh_ld (pc' := 42) bt_77_41 rfl rfl (fun _ _ _ => rfl) g3863 rfl ?_
  refine bh_cv (pc' := 45) (st := []) (args := []) bt_77_42 rfl rfl (by decide) hP3868 (by omega) rfl (Nat.le_of_ble_eq_true rfl) (Nat.le_of_ble_eq_true rfl) ?_
  have z3880 := congrArg Int32.toInt ((f3870 4 (by decide)).trans e3849)
  refine sp_19 hP3868 (by simp only [List.length_cons]; omega) (fun j hj => (by rw [f3862 91 j (by decide)]; exact q91 j hj)) (by omega) (by omega) (fun h3871 s3872 A3873 L3874 hP3875 f3876 a3877 q3878 p3879 => ?_)
  show bh_G E FIN ((77, 45, lv3859, [], 0, 0) :: gs, _, none)
  refine bh_ld (pc' := 46) bt_77_45 rfl rfl (fun _ _ _ => rfl) g3863 rfl ?_
  refine bh_c (pc' := 47) (n := 0) bt_77_46 rfl rfl (fun _ _ _ => rfl) (by decide) (fun c3881 e3882 => ?_)
  refine bh_pf (pc' := 50) bt_77_47 rfl rfl (fun _ _ _ => rfl) hP3875 bx_i11 rfl (fun h3883 s3884 hP3885 e3886 f3887 => ?_)
  refine bh_ld (pc' := 51) bt_77_50 rfl rfl (fun _ _ _ => rfl) g3863 rfl ?_
  refine bh_c (pc' := 52) (n := 0) bt_77_51 rfl rfl (fun _ _ _ => rfl) (by decide) (fun c3888 e3889 => ?_)
  refine bh_pf (pc' := 55) bt_77_52 rfl rfl (fun _ _ _ => rfl) hP3885 bx_i12 rfl (fun h3890 s3891 hP3892 e3893 f3894 => ?_)
  refine bh_ld (pc' := 56) bt_77_55 rfl rfl (fun _ _ _ => rfl) g3863 rfl ?_
  refine bh_c (pc' := 57) (n := 0) bt_77_56 rfl rfl (fun _ _ _ => rfl) (by decide) (fun c3895 e3896 => ?_)
  refine bh_pf (pc' := 60) bt_77_57 rfl rfl (fun _ _ _ => rfl) hP3892 bx_i13 rfl (fun h3897 s3898 hP3899 e3900 f3901 => ?_)
  refine bh_ld (pc' := 61) bt_77_60 rfl rfl (fun _ _ _ => rfl) g3863 rfl ?_
  refine bh_c (pc' := 62) (n := 0) bt_77_61 rfl rfl (fun _ _ _ => rfl) (by decide) (fun c3902 e3903 => ?_)
  refine bh_pf (pc' := 65) bt_77_62 rfl rfl (fun _ _ _ => rfl) hP3899 bx_i15 rfl (fun h3904 s3905 hP3906 e3907 f3908 => ?_)
  refine bh_ld (pc' := 66) bt_77_65 rfl rfl (fun _ _ _ => rfl) g3863 rfl ?_
  refine bh_c (pc' := 67) (n := 1) bt_77_66 rfl rfl (fun _ _ _ => rfl) (by decide) (fun c3909 e3910 => ?_)
  refine bh_ld (pc' := 68) bt_77_67 rfl rfl (fun _ _ _ => rfl) g3863 rfl ?_
  refine bh_gi (pc' := 71) bt_77_68 rfl rfl (fun _ _ _ => rfl) hP3906 bx_i18 ((f3908 18 (by decide)).trans ((f3901 18 (by decide)).trans ((f3894 18 (by decide)).trans ((f3887 18 (by decide)).trans ((f3876 18 (by decide)).trans ((f3870 18 (by decide)).trans (f3850 18 (by decide)))))))) ?_
  refine bh_sub (pc' := 72) bt_77_71 rfl (by omega) (by omega) (fun v3911 e3912 => ?_)
  refine bh_pf (pc' := 75) bt_77_72 rfl rfl (fun _ _ _ => rfl) hP3906 bx_i19 rfl (fun h3913 s3914 hP3915 e3916 f3917 => ?_)
  refine bh_ld (pc' := 76) bt_77_75 rfl rfl (fun _ _ _ => rfl) g3863 rfl ?_
  refine bh_c (pc' := 77) (n := 0) bt_77_76 rfl rfl (fun _ _ _ => rfl) (by decide) (fun c3918 e3919 => ?_)
  refine bh_pf (pc' := 80) bt_77_77 rfl rfl (fun _ _ _ => rfl) hP3915 bx_i20 rfl (fun h3920 s3921 hP3922 e3923 f3924 => ?_)
  refine bh_ld (pc' := 81) bt_77_80 rfl rfl (fun _ _ _ => rfl) g3863 rfl ?_
  refine bh_ld (pc' := 82) bt_77_81 rfl rfl (fun _ _ _ => rfl) g3863 rfl ?_
  refine bh_gi (pc' := 85) bt_77_82 rfl rfl (fun _ _ _ => rfl) hP3922 bx_i19 ((f3924 19 (by decide)).trans e3916) ?_
  refine bh_cv (pc' := 88) (st := []) (args := [.int v3911]) bt_77_85 rfl rfl (by decide) hP3922 (by omega) rfl (Nat.le_of_ble_eq_true rfl) (Nat.le_of_ble_eq_true rfl) ?_
  refine sp_72 (a := v3911) hP3922 (by omega) (by omega) (fun h3925 A3926 hP3927 f3928 f3929 f3930 f3931 f3932 => ?_)
  show bh_G E FIN ((77, 88, lv3859, [], 0, 0) :: gs, _, none)
  refine bh_ld (pc' := 89) bt_77_88 rfl rfl (fun _ _ _ => rfl) g3863 rfl ?_
  refine bh_c (pc' := 92) (n := 130) bt_77_89 rfl rfl (fun _ _ _ => rfl) (by decide) (fun c3933 e3934 => ?_)
  refine bh_ld (pc' := 93) bt_77_92 rfl rfl (fun _ _ _ => rfl) g3863 rfl ?_
  refine bh_gi (pc' := 96) bt_77_93 rfl rfl (fun _ _ _ => rfl) hP3927 bx_i19 ((f3924 19 (by decide)).trans e3916) ?_
  refine bh_mul (pc' := 97) bt_77_96 rfl (by rw [e3934]; omega) (by rw [e3934]; omega) (fun v3935 e3936 => ?_)
  rw [e3934] at e3936
  refine bh_pf (pc' := 100) bt_77_97 rfl rfl (fun _ _ _ => rfl) hP3927 bx_i33 rfl (fun h3937 s3938 hP3939 e3940 f3941 => ?_)
  refine bh_ld (pc' := 101) bt_77_100 rfl rfl (fun _ _ _ => rfl) g3863 rfl ?_
  refine bh_c (pc' := 104) (n := 420) bt_77_101 rfl rfl (fun _ _ _ => rfl) (by decide) (fun c3942 e3943 => ?_)
  refine bh_ld (pc' := 105) bt_77_104 rfl rfl (fun _ _ _ => rfl) g3863 rfl ?_
  refine bh_gi (pc' := 108) bt_77_105 rfl rfl (fun _ _ _ => rfl) hP3939 bx_i19 ((f3941 19 (by decide)).trans ((f3924 19 (by decide)).trans e3916)) ?_
  refine bh_mul (pc' := 109) bt_77_108 rfl (by rw [e3943]; omega) (by rw [e3943]; omega) (fun v3944 e3945 => ?_)
  rw [e3943] at e3945
  refine bh_pf (pc' := 112) bt_77_109 rfl rfl (fun _ _ _ => rfl) hP3939 bx_i39 rfl (fun h3946 s3947 hP3948 e3949 f3950 => ?_)
  have z2 := congrArg Int32.toInt ((f3950 2 (by decide)).trans ((f3941 2 (by decide)).trans ((f3924 2 (by decide)).trans ((f3917 2 (by decide)).trans ((f3908 2 (by decide)).trans ((f3901 2 (by decide)).trans ((f3894 2 (by decide)).trans ((f3887 2 (by decide)).trans ((f3876 2 (by decide)).trans e3869)))))))))
  have z4 := congrArg Int32.toInt ((f3950 4 (by decide)).trans ((f3941 4 (by decide)).trans ((f3924 4 (by decide)).trans ((f3917 4 (by decide)).trans ((f3908 4 (by decide)).trans ((f3901 4 (by decide)).trans ((f3894 4 (by decide)).trans ((f3887 4 (by decide)).trans ((f3876 4 (by decide)).trans ((f3870 4 (by decide)).trans e3849))))))))))
  have z10 := congrArg Int32.toInt ((f3950 10 (by decide)).trans ((f3941 10 (by decide)).trans ((f3924 10 (by decide)).trans ((f3917 10 (by decide)).trans ((f3908 10 (by decide)).trans ((f3901 10 (by decide)).trans ((f3894 10 (by decide)).trans (f3887 10 (by decide)))))))))
  have z11 := congrArg Int32.toInt ((f3950 11 (by decide)).trans ((f3941 11 (by decide)).trans ((f3924 11 (by decide)).trans ((f3917 11 (by decide)).trans ((f3908 11 (by decide)).trans ((f3901 11 (by decide)).trans ((f3894 11 (by decide)).trans e3886)))))))
  have z12 := congrArg Int32.toInt ((f3950 12 (by decide)).trans ((f3941 12 (by decide)).trans ((f3924 12 (by decide)).trans ((f3917 12 (by decide)).trans ((f3908 12 (by decide)).trans ((f3901 12 (by decide)).trans e3893))))))
  have z13 := congrArg Int32.toInt ((f3950 13 (by decide)).trans ((f3941 13 (by decide)).trans ((f3924 13 (by decide)).trans ((f3917 13 (by decide)).trans ((f3908 13 (by decide)).trans e3900)))))
  have z17 := congrArg Int32.toInt ((f3950 17 (by decide)).trans ((f3941 17 (by decide)).trans ((f3924 17 (by decide)).trans ((f3917 17 (by decide)).trans ((f3908 17 (by decide)).trans ((f3901 17 (by decide)).trans ((f3894 17 (by decide)).trans ((f3887 17 (by decide)).trans ((f3876 17 (by decide)).trans ((f3870 17 (by decide)).trans (f3850 17 (by decide))))))))))))
  have z18 := congrArg Int32.toInt ((f3950 18 (by decide)).trans ((f3941 18 (by decide)).trans ((f3924 18 (by decide)).trans ((f3917 18 (by decide)).trans ((f3908 18 (by decide)).trans ((f3901 18 (by decide)).trans ((f3894 18 (by decide)).trans ((f3887 18 (by decide)).trans ((f3876 18 (by decide)).trans ((f3870 18 (by decide)).trans (f3850 18 (by decide))))))))))))
  have z19 := congrArg Int32.toInt ((f3950 19 (by decide)).trans ((f3941 19 (by decide)).trans ((f3924 19 (by decide)).trans e3916)))
  have z20 := congrArg Int32.toInt ((f3950 20 (by decide)).trans ((f3941 20 (by decide)).trans e3923))
  have z33 := congrArg Int32.toInt ((f3950 33 (by decide)).trans e3940)
  have z39 := congrArg Int32.toInt e3949
  have zA : (v3911).toInt = 1 - (s 18).toInt := by omega
  have c9 : ∀ k j, (k = 97 ∨ 106 ≤ k) → A3873 k j = A k j := fun k j u => ((a3877 k j (by omega)).trans (f3862 k j (by omega)))
  have hσ : (s 18).toInt.toNat = 1 - (1 - (s 18).toInt).toNat := by omega
  have hσ2 : (v3911).toInt.toNat = (1 - (s 18).toInt).toNat := by omega
  have hl : rd_S A (s 18).toInt.toNat (130 * (s 18).toInt.toNat + 130) (420 * (s 18).toInt.toNat + 420) := by
    rcases (show (s 18).toInt.toNat = 0 ∨ (s 18).toInt.toNat = 1 by omega) with e | e
    · rw [e]
      exact hJ.1
    · rw [e]
      exact hJ.2
  have hr : 0 ≤ (A 97 (s 18).toInt.toNat).toInt ∧ (A 97 (s 18).toInt.toNat).toInt ≤ 6 := by
    rcases (show (s 18).toInt.toNat = 0 ∨ (s 18).toInt.toNat = 1 by omega) with e | e
    · rw [e]
      exact hm0
    · rw [e]
      exact hm1
  rw [hσ2] at f3929 f3930 f3931 f3932
  have d1 := congrArg Int32.toInt ((f3929 (s 18).toInt.toNat (by omega)).trans (c9 97 (s 18).toInt.toNat (by omega)))
  have hQ : rd_Q (1 - (s 18).toInt).toNat s3947 A3926 := by
    refine ⟨⟨by omega, by omega, by omega, by omega, by omega, by omega, by omega, by omega, by omega, by omega, by omega, by omega, by omega, by omega, by omega, by omega, by omega, ?_, ?_⟩, fun j hj => ?_, ?_, ?_⟩
    · rw [← hσ]
      omega
    · rw [← hσ]
      omega
    · rw [f3928 91 j (by omega)]
      exact q3878 j hj
    · intro k hk
      have e1 := f3932 (7 * (1 - (s 18).toInt).toNat + k) (by omega) (by omega)
      exact ⟨by omega, fun b b1 b2 => absurd b2 (by omega)⟩
    · rw [← hσ]
      exact rd_S_congr (A := A) (Nat.le_refl _) (Nat.le_refl _) (fun j g1 g2 => ⟨(f3928 113 j (by omega)).trans (c9 113 j (by omega)), (f3928 114 j (by omega)).trans (c9 114 j (by omega))⟩) (fun b g1 g2 k g3 g4 => (f3928 k b (by omega)).trans (c9 k b (by omega))) (fun k g1 g2 => ⟨(f3931 k (by omega)).1.trans (c9 106 k (by omega)), (f3931 k (by omega)).2.trans (c9 107 k (by omega))⟩) hl
  refine rd_loop (by omega) (σ := (1 - (s 18).toInt).toNat) 402 _ _ _ _ _ _ hP3948 g3863 hQ (by omega) (by omega) (fun h3951 s3952 A3953 L3954 lv3955 o3956 hP3957 f3958 q3959 g3960 => ?_)
  obtain ⟨⟨rσ, r19, rT0, rT4, rF, rO0, rO7, rO, rC0, rC1, rC, rB0, rB1, rB, rN0, rN6, r97, r97a, r97b⟩, r91, rS, rS2⟩ := q3959
  rw [← hσ] at r97a r97b rS2
  have z2 := congrArg Int32.toInt ((f3958 2 (by decide) (by decide) (by decide) (by decide) (by decide) (by decide) (by decide) (by decide) (by decide) (by decide)).trans ((f3950 2 (by decide)).trans ((f3941 2 (by decide)).trans ((f3924 2 (by decide)).trans ((f3917 2 (by decide)).trans ((f3908 2 (by decide)).trans ((f3901 2 (by decide)).trans ((f3894 2 (by decide)).trans ((f3887 2 (by decide)).trans ((f3876 2 (by decide)).trans e3869))))))))))
  have z4 := congrArg Int32.toInt ((f3958 4 (by decide) (by decide) (by decide) (by decide) (by decide) (by decide) (by decide) (by decide) (by decide) (by decide)).trans ((f3950 4 (by decide)).trans ((f3941 4 (by decide)).trans ((f3924 4 (by decide)).trans ((f3917 4 (by decide)).trans ((f3908 4 (by decide)).trans ((f3901 4 (by decide)).trans ((f3894 4 (by decide)).trans ((f3887 4 (by decide)).trans ((f3876 4 (by decide)).trans ((f3870 4 (by decide)).trans e3849)))))))))))
  have z10 := congrArg Int32.toInt ((f3958 10 (by decide) (by decide) (by decide) (by decide) (by decide) (by decide) (by decide) (by decide) (by decide) (by decide)).trans ((f3950 10 (by decide)).trans ((f3941 10 (by decide)).trans ((f3924 10 (by decide)).trans ((f3917 10 (by decide)).trans ((f3908 10 (by decide)).trans ((f3901 10 (by decide)).trans ((f3894 10 (by decide)).trans (f3887 10 (by decide))))))))))
  have z17 := congrArg Int32.toInt ((f3958 17 (by decide) (by decide) (by decide) (by decide) (by decide) (by decide) (by decide) (by decide) (by decide) (by decide)).trans ((f3950 17 (by decide)).trans ((f3941 17 (by decide)).trans ((f3924 17 (by decide)).trans ((f3917 17 (by decide)).trans ((f3908 17 (by decide)).trans ((f3901 17 (by decide)).trans ((f3894 17 (by decide)).trans ((f3887 17 (by decide)).trans ((f3876 17 (by decide)).trans ((f3870 17 (by decide)).trans (f3850 17 (by decide)))))))))))))
  have z18 := congrArg Int32.toInt ((f3958 18 (by decide) (by decide) (by decide) (by decide) (by decide) (by decide) (by decide) (by decide) (by decide) (by decide)).trans ((f3950 18 (by decide)).trans ((f3941 18 (by decide)).trans ((f3924 18 (by decide)).trans ((f3917 18 (by decide)).trans ((f3908 18 (by decide)).trans ((f3901 18 (by decide)).trans ((f3894 18 (by decide)).trans ((f3887 18 (by decide)).trans ((f3876 18 (by decide)).trans ((f3870 18 (by decide)).trans (f3850 18 (by decide)))))))))))))
  refine kk _ _ _ _ _ _ hP3957 ((f3958 18 (by decide) (by decide) (by decide) (by decide) (by decide) (by decide) (by decide) (by decide) (by decide) (by decide)).trans ((f3950 18 (by decide)).trans ((f3941 18 (by decide)).trans ((f3924 18 (by decide)).trans ((f3917 18 (by decide)).trans ((f3908 18 (by decide)).trans ((f3901 18 (by decide)).trans ((f3894 18 (by decide)).trans ((f3887 18 (by decide)).trans ((f3876 18 (by decide)).trans ((f3870 18 (by decide)).trans (f3850 18 (by decide))))))))))))) (by omega) (by omega) (by omega) (by omega) (by omega) (by omega) (by omega) ?_ ?_ ?_ r91 g3960
  · rcases (show (s 18).toInt.toNat = 0 ∨ (s 18).toInt.toNat = 1 by omega) with e | e
    · have e1 : (1 - (s 18).toInt).toNat = 1 := by omega
      rw [e1] at rS
      rw [e] at rS2
      exact ⟨rS2, rd_S_congr (A := A3953) (by omega) (by omega) (fun j _ _ => ⟨rfl, rfl⟩) (fun b _ _ k _ _ => rfl) (fun k _ _ => ⟨rfl, rfl⟩) rS⟩
    · have e1 : (1 - (s 18).toInt).toNat = 0 := by omega
      rw [e1] at rS
      rw [e] at rS2
      exact ⟨rd_S_congr (A := A3953) (by omega) (by omega) (fun j _ _ => ⟨rfl, rfl⟩) (fun b _ _ k _ _ => rfl) (fun k _ _ => ⟨rfl, rfl⟩) rS, rS2⟩
  · rcases (show (s 18).toInt.toNat = 0 ∨ (s 18).toInt.toNat = 1 by omega) with e | e
    · rw [e] at r97a r97b
      omega
    · have e1 : (1 - (s 18).toInt).toNat = 0 := by omega
      rw [e1] at r97
      omega
  · rcases (show (s 18).toInt.toNat = 0 ∨ (s 18).toInt.toNat = 1 by omega) with e | e
    · have e1 : (1 - (s 18).toInt).toNat = 1 := by omega
      rw [e1] at r97
      omega
    · rw [e] at r97a r97b
      omega
end BX
