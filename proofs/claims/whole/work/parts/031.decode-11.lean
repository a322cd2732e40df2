/-! the instructions -/
theorem d_M_raise_25 : decode b_M_raise 25 = .ok (.aload_n 0, 1) := by decide +kernel
theorem d_M_raise_26 : decode b_M_raise 26 = .ok (.getfield 18, 3) := by decide +kernel
theorem d_M_raise_29 : decode b_M_raise 29 = .ok (.aload_n 0, 1) := by decide +kernel
theorem d_M_raise_30 : decode b_M_raise 30 = .ok (.getfield 18, 3) := by decide +kernel
theorem d_M_raise_33 : decode b_M_raise 33 = .ok (.invokevirtual 70, 3) := by decide +kernel
theorem d_M_raise_36 : decode b_M_raise 36 = .ok (.aload_n 3, 1) := by decide +kernel
theorem d_M_raise_37 : decode b_M_raise 37 = .ok (.iload 4, 2) := by decide +kernel
theorem d_M_raise_39 : decode b_M_raise 39 = .ok (.invokestatic 73, 3) := by decide +kernel
theorem d_M_raise_42 : decode b_M_raise 42 = .ok (.ifCond .eq 16, 3) := by decide +kernel
theorem d_M_raise_45 : decode b_M_raise 45 = .ok (.aload_n 0, 1) := by decide +kernel
theorem d_M_raise_46 : decode b_M_raise 46 = .ok (.aload_n 0, 1) := by decide +kernel
theorem d_M_raise_47 : decode b_M_raise 47 = .ok (.getfield 18, 3) := by decide +kernel
theorem d_M_raise_50 : decode b_M_raise 50 = .ok (.aload_n 0, 1) := by decide +kernel
theorem d_M_raise_51 : decode b_M_raise 51 = .ok (.getfield 18, 3) := by decide +kernel
theorem d_M_raise_54 : decode b_M_raise 54 = .ok (.aload_n 2, 1) := by decide +kernel
theorem d_M_raise_55 : decode b_M_raise 55 = .ok (.invokevirtual 70, 3) := by decide +kernel
theorem d_M_raise_58 : decode b_M_raise 58 = .ok (.iinc 4 (-1), 3) := by decide +kernel
theorem d_M_raise_61 : decode b_M_raise 61 = .ok (.goto (-46), 3) := by decide +kernel
theorem d_M_raise_64 : decode b_M_raise 64 = .ok (.aload_n 1, 1) := by decide +kernel
theorem d_M_raise_65 : decode b_M_raise 65 = .ok (.aload_n 0, 1) := by decide +kernel
theorem d_M_raise_66 : decode b_M_raise 66 = .ok (.getfield 18, 3) := by decide +kernel
theorem d_M_raise_69 : decode b_M_raise 69 = .ok (.invokestatic 55, 3) := by decide +kernel
theorem d_M_raise_72 : decode b_M_raise 72 = .ok (.return_, 1) := by decide +kernel
theorem d_M_fold_0 : decode b_M_fold 0 = .ok (.iconst 0, 1) := by decide +kernel
theorem d_M_fold_1 : decode b_M_fold 1 = .ok (.istore_n 2, 1) := by decide +kernel
theorem d_M_fold_2 : decode b_M_fold 2 = .ok (.iload_n 2, 1) := by decide +kernel
theorem d_M_fold_3 : decode b_M_fold 3 = .ok (.iload_n 1, 1) := by decide +kernel
theorem d_M_fold_4 : decode b_M_fold 4 = .ok (.if_icmp .ge 34, 3) := by decide +kernel
theorem d_M_fold_7 : decode b_M_fold 7 = .ok (.aload_n 0, 1) := by decide +kernel
theorem d_M_fold_8 : decode b_M_fold 8 = .ok (.getfield 15, 3) := by decide +kernel
theorem d_M_fold_11 : decode b_M_fold 11 = .ok (.iload_n 2, 1) := by decide +kernel
theorem d_M_fold_12 : decode b_M_fold 12 = .ok (.aload_n 0, 1) := by decide +kernel
theorem d_M_fold_13 : decode b_M_fold 13 = .ok (.getfield 9, 3) := by decide +kernel
theorem d_M_fold_16 : decode b_M_fold 16 = .ok (.bipush 8, 2) := by decide +kernel
theorem d_M_fold_18 : decode b_M_fold 18 = .ok (.iload_n 2, 1) := by decide +kernel
theorem d_M_fold_19 : decode b_M_fold 19 = .ok (.iadd, 1) := by decide +kernel
theorem d_M_fold_20 : decode b_M_fold 20 = .ok (.laload, 1) := by decide +kernel
theorem d_M_fold_21 : decode b_M_fold 21 = .ok (.lastore, 1) := by decide +kernel
theorem d_M_fold_22 : decode b_M_fold 22 = .ok (.aload_n 0, 1) := by decide +kernel
theorem d_M_fold_23 : decode b_M_fold 23 = .ok (.getfield 9, 3) := by decide +kernel
theorem d_M_fold_26 : decode b_M_fold 26 = .ok (.bipush 8, 2) := by decide +kernel
theorem d_M_fold_28 : decode b_M_fold 28 = .ok (.iload_n 2, 1) := by decide +kernel
theorem d_M_fold_29 : decode b_M_fold 29 = .ok (.iadd, 1) := by decide +kernel
theorem d_M_fold_30 : decode b_M_fold 30 = .ok (.lconst 0, 1) := by decide +kernel
theorem d_M_fold_31 : decode b_M_fold 31 = .ok (.lastore, 1) := by decide +kernel
theorem d_M_fold_32 : decode b_M_fold 32 = .ok (.iinc 2 1, 3) := by decide +kernel
theorem d_M_fold_35 : decode b_M_fold 35 = .ok (.goto (-33), 3) := by decide +kernel
theorem d_M_fold_38 : decode b_M_fold 38 = .ok (.iconst 0, 1) := by decide +kernel
theorem d_M_fold_39 : decode b_M_fold 39 = .ok (.istore_n 2, 1) := by decide +kernel
theorem d_M_fold_40 : decode b_M_fold 40 = .ok (.iload_n 2, 1) := by decide +kernel
theorem d_M_fold_41 : decode b_M_fold 41 = .ok (.aload_n 0, 1) := by decide +kernel
theorem d_M_fold_42 : decode b_M_fold 42 = .ok (.getfield 24, 3) := by decide +kernel
theorem d_M_fold_45 : decode b_M_fold 45 = .ok (.arraylength, 1) := by decide +kernel
theorem d_M_fold_46 : decode b_M_fold 46 = .ok (.if_icmp .ge 25, 3) := by decide +kernel
theorem d_M_fold_49 : decode b_M_fold 49 = .ok (.aload_n 0, 1) := by decide +kernel
theorem d_M_fold_50 : decode b_M_fold 50 = .ok (.aload_n 0, 1) := by decide +kernel
theorem d_M_fold_51 : decode b_M_fold 51 = .ok (.getfield 24, 3) := by decide +kernel
theorem d_M_fold_54 : decode b_M_fold 54 = .ok (.iload_n 2, 1) := by decide +kernel
theorem d_M_fold_55 : decode b_M_fold 55 = .ok (.laload, 1) := by decide +kernel
theorem d_M_fold_56 : decode b_M_fold 56 = .ok (.aload_n 0, 1) := by decide +kernel
theorem d_M_fold_57 : decode b_M_fold 57 = .ok (.getfield 15, 3) := by decide +kernel
theorem d_M_fold_60 : decode b_M_fold 60 = .ok (.iload_n 1, 1) := by decide +kernel
theorem d_M_fold_61 : decode b_M_fold 61 = .ok (.iload_n 2, 1) := by decide +kernel
theorem d_M_fold_62 : decode b_M_fold 62 = .ok (.invokevirtual 47, 3) := by decide +kernel
theorem d_M_fold_65 : decode b_M_fold 65 = .ok (.iinc 2 1, 3) := by decide +kernel
theorem d_M_fold_68 : decode b_M_fold 68 = .ok (.goto (-28), 3) := by decide +kernel
theorem d_M_fold_71 : decode b_M_fold 71 = .ok (.return_, 1) := by decide +kernel
theorem d_M_addProduct_0 : decode b_M_addProduct 0 = .ok (.lconst 0, 1) := by decide +kernel
theorem d_M_addProduct_1 : decode b_M_addProduct 1 = .ok (.lstore 6, 2) := by decide +kernel
theorem d_M_addProduct_3 : decode b_M_addProduct 3 = .ok (.iload 5, 2) := by decide +kernel
theorem d_M_addProduct_5 : decode b_M_addProduct 5 = .ok (.istore 8, 2) := by decide +kernel
theorem d_M_addProduct_7 : decode b_M_addProduct 7 = .ok (.iconst 0, 1) := by decide +kernel
theorem d_M_addProduct_8 : decode b_M_addProduct 8 = .ok (.istore 9, 2) := by decide +kernel
theorem d_M_addProduct_10 : decode b_M_addProduct 10 = .ok (.iload 9, 2) := by decide +kernel
theorem d_M_addProduct_12 : decode b_M_addProduct 12 = .ok (.iload 4, 2) := by decide +kernel
theorem d_M_addProduct_14 : decode b_M_addProduct 14 = .ok (.if_icmp .ge 51, 3) := by decide +kernel
theorem d_M_addProduct_17 : decode b_M_addProduct 17 = .ok (.lload_n 1, 1) := by decide +kernel
theorem d_M_addProduct_18 : decode b_M_addProduct 18 = .ok (.aload_n 3, 1) := by decide +kernel
theorem d_M_addProduct_19 : decode b_M_addProduct 19 = .ok (.iload 9, 2) := by decide +kernel
theorem d_M_addProduct_21 : decode b_M_addProduct 21 = .ok (.laload, 1) := by decide +kernel
theorem d_M_addProduct_22 : decode b_M_addProduct 22 = .ok (.lmul, 1) := by decide +kernel
theorem d_M_addProduct_23 : decode b_M_addProduct 23 = .ok (.aload_n 0, 1) := by decide +kernel
theorem d_M_addProduct_24 : decode b_M_addProduct 24 = .ok (.getfield 9, 3) := by decide +kernel
theorem d_M_addProduct_27 : decode b_M_addProduct 27 = .ok (.iload 8, 2) := by decide +kernel
theorem d_M_addProduct_29 : decode b_M_addProduct 29 = .ok (.laload, 1) := by decide +kernel
theorem d_M_addProduct_30 : decode b_M_addProduct 30 = .ok (.ladd, 1) := by decide +kernel
theorem d_M_addProduct_31 : decode b_M_addProduct 31 = .ok (.lload 6, 2) := by decide +kernel
theorem d_M_addProduct_33 : decode b_M_addProduct 33 = .ok (.ladd, 1) := by decide +kernel
theorem d_M_addProduct_34 : decode b_M_addProduct 34 = .ok (.lstore 10, 2) := by decide +kernel
theorem d_M_addProduct_36 : decode b_M_addProduct 36 = .ok (.aload_n 0, 1) := by decide +kernel
theorem d_M_addProduct_37 : decode b_M_addProduct 37 = .ok (.getfield 9, 3) := by decide +kernel
theorem d_M_addProduct_40 : decode b_M_addProduct 40 = .ok (.iload 8, 2) := by decide +kernel
theorem d_M_addProduct_42 : decode b_M_addProduct 42 = .ok (.lload 10, 2) := by decide +kernel
theorem d_M_addProduct_44 : decode b_M_addProduct 44 = .ok (.ldc2_w 77, 3) := by decide +kernel
theorem d_M_addProduct_47 : decode b_M_addProduct 47 = .ok (.land, 1) := by decide +kernel
theorem d_M_addProduct_48 : decode b_M_addProduct 48 = .ok (.lastore, 1) := by decide +kernel
theorem d_M_addProduct_49 : decode b_M_addProduct 49 = .ok (.lload 10, 2) := by decide +kernel
theorem d_M_addProduct_51 : decode b_M_addProduct 51 = .ok (.bipush 32, 2) := by decide +kernel
theorem d_M_addProduct_53 : decode b_M_addProduct 53 = .ok (.lushr, 1) := by decide +kernel
theorem d_M_addProduct_54 : decode b_M_addProduct 54 = .ok (.lstore 6, 2) := by decide +kernel
theorem d_M_addProduct_56 : decode b_M_addProduct 56 = .ok (.iinc 8 1, 3) := by decide +kernel
theorem d_M_addProduct_59 : decode b_M_addProduct 59 = .ok (.iinc 9 1, 3) := by decide +kernel
theorem d_M_addProduct_62 : decode b_M_addProduct 62 = .ok (.goto (-52), 3) := by decide +kernel
theorem d_M_addProduct_65 : decode b_M_addProduct 65 = .ok (.lload 6, 2) := by decide +kernel
theorem d_M_addProduct_67 : decode b_M_addProduct 67 = .ok (.lconst 0, 1) := by decide +kernel
theorem d_M_addProduct_68 : decode b_M_addProduct 68 = .ok (.lcmp, 1) := by decide +kernel
theorem d_M_addProduct_69 : decode b_M_addProduct 69 = .ok (.ifCond .eq 51, 3) := by decide +kernel
theorem d_M_addProduct_72 : decode b_M_addProduct 72 = .ok (.iload 8, 2) := by decide +kernel
theorem d_M_addProduct_74 : decode b_M_addProduct 74 = .ok (.aload_n 0, 1) := by decide +kernel
theorem d_M_addProduct_75 : decode b_M_addProduct 75 = .ok (.getfield 9, 3) := by decide +kernel
theorem d_M_addProduct_78 : decode b_M_addProduct 78 = .ok (.arraylength, 1) := by decide +kernel
theorem d_M_addProduct_79 : decode b_M_addProduct 79 = .ok (.if_icmp .ge 41, 3) := by decide +kernel
theorem d_M_addProduct_82 : decode b_M_addProduct 82 = .ok (.aload_n 0, 1) := by decide +kernel
theorem d_M_addProduct_83 : decode b_M_addProduct 83 = .ok (.getfield 9, 3) := by decide +kernel
theorem d_M_addProduct_86 : decode b_M_addProduct 86 = .ok (.iload 8, 2) := by decide +kernel
theorem d_M_addProduct_88 : decode b_M_addProduct 88 = .ok (.laload, 1) := by decide +kernel
theorem d_M_addProduct_89 : decode b_M_addProduct 89 = .ok (.lload 6, 2) := by decide +kernel
theorem d_M_addProduct_91 : decode b_M_addProduct 91 = .ok (.ladd, 1) := by decide +kernel
theorem d_M_addProduct_92 : decode b_M_addProduct 92 = .ok (.lstore 9, 2) := by decide +kernel
theorem d_M_addProduct_94 : decode b_M_addProduct 94 = .ok (.aload_n 0, 1) := by decide +kernel
theorem d_M_addProduct_95 : decode b_M_addProduct 95 = .ok (.getfield 9, 3) := by decide +kernel
theorem d_M_addProduct_98 : decode b_M_addProduct 98 = .ok (.iload 8, 2) := by decide +kernel
theorem d_M_addProduct_100 : decode b_M_addProduct 100 = .ok (.lload 9, 2) := by decide +kernel
theorem d_M_addProduct_102 : decode b_M_addProduct 102 = .ok (.ldc2_w 77, 3) := by decide +kernel
theorem d_M_addProduct_105 : decode b_M_addProduct 105 = .ok (.land, 1) := by decide +kernel
theorem d_M_addProduct_106 : decode b_M_addProduct 106 = .ok (.lastore, 1) := by decide +kernel
theorem d_M_addProduct_107 : decode b_M_addProduct 107 = .ok (.lload 9, 2) := by decide +kernel
theorem d_M_addProduct_109 : decode b_M_addProduct 109 = .ok (.bipush 32, 2) := by decide +kernel
theorem d_M_addProduct_111 : decode b_M_addProduct 111 = .ok (.lushr, 1) := by decide +kernel
theorem d_M_addProduct_112 : decode b_M_addProduct 112 = .ok (.lstore 6, 2) := by decide +kernel
theorem d_M_addProduct_114 : decode b_M_addProduct 114 = .ok (.iinc 8 1, 3) := by decide +kernel
theorem d_M_addProduct_117 : decode b_M_addProduct 117 = .ok (.goto (-52), 3) := by decide +kernel
theorem d_M_addProduct_120 : decode b_M_addProduct 120 = .ok (.return_, 1) := by decide +kernel
theorem d_P_init_0 : decode b_P_init 0 = .ok (.aload_n 0, 1) := by decide +kernel
theorem d_P_init_1 : decode b_P_init 1 = .ok (.invokespecial 3, 3) := by decide +kernel
theorem d_P_init_4 : decode b_P_init 4 = .ok (.aload_n 0, 1) := by decide +kernel
theorem d_P_init_5 : decode b_P_init 5 = .ok (.iconst 1, 1) := by decide +kernel
theorem d_P_init_6 : decode b_P_init 6 = .ok (.putfield 9, 3) := by decide +kernel
theorem d_P_init_9 : decode b_P_init 9 = .ok (.aload_n 0, 1) := by decide +kernel
theorem d_P_init_10 : decode b_P_init 10 = .ok (.bipush 8, 2) := by decide +kernel
theorem d_P_init_12 : decode b_P_init 12 = .ok (.newarray .long, 2) := by decide +kernel
theorem d_P_init_14 : decode b_P_init 14 = .ok (.putfield 15, 3) := by decide +kernel
theorem d_P_init_17 : decode b_P_init 17 = .ok (.aload_n 0, 1) := by decide +kernel
theorem d_P_init_18 : decode b_P_init 18 = .ok (.bipush 8, 2) := by decide +kernel
theorem d_P_init_20 : decode b_P_init 20 = .ok (.newarray .long, 2) := by decide +kernel
theorem d_P_init_22 : decode b_P_init 22 = .ok (.putfield 19, 3) := by decide +kernel
theorem d_P_init_25 : decode b_P_init 25 = .ok (.return_, 1) := by decide +kernel
theorem d_P_becomeNone_0 : decode b_P_becomeNone 0 = .ok (.aload_n 0, 1) := by decide +kernel
theorem d_P_becomeNone_1 : decode b_P_becomeNone 1 = .ok (.iconst 1, 1) := by decide +kernel
theorem d_P_becomeNone_2 : decode b_P_becomeNone 2 = .ok (.putfield 9, 3) := by decide +kernel
theorem d_P_becomeNone_5 : decode b_P_becomeNone 5 = .ok (.return_, 1) := by decide +kernel
theorem d_P_become_0 : decode b_P_become 0 = .ok (.aload_n 0, 1) := by decide +kernel
theorem d_P_become_1 : decode b_P_become 1 = .ok (.iconst 0, 1) := by decide +kernel
theorem d_P_become_2 : decode b_P_become 2 = .ok (.putfield 9, 3) := by decide +kernel
theorem d_P_become_5 : decode b_P_become 5 = .ok (.aload_n 0, 1) := by decide +kernel
theorem d_P_become_6 : decode b_P_become 6 = .ok (.getfield 15, 3) := by decide +kernel
theorem d_P_become_9 : decode b_P_become 9 = .ok (.aload_n 1, 1) := by decide +kernel
theorem d_P_become_10 : decode b_P_become 10 = .ok (.invokestatic 22, 3) := by decide +kernel
theorem d_P_become_13 : decode b_P_become 13 = .ok (.aload_n 0, 1) := by decide +kernel
theorem d_P_become_14 : decode b_P_become 14 = .ok (.getfield 19, 3) := by decide +kernel
theorem d_P_become_17 : decode b_P_become 17 = .ok (.aload_n 2, 1) := by decide +kernel
theorem d_P_become_18 : decode b_P_become 18 = .ok (.invokestatic 22, 3) := by decide +kernel
theorem d_P_become_21 : decode b_P_become 21 = .ok (.return_, 1) := by decide +kernel
theorem d_W_law_0 : decode code 0 = .ok (.new 7, 3) := by decide +kernel
theorem d_W_law_3 : decode code 3 = .ok (.dup, 1) := by decide +kernel
theorem d_W_law_4 : decode code 4 = .ok (.invokespecial 9, 3) := by decide +kernel
theorem d_W_law_7 : decode code 7 = .ok (.astore_n 1, 1) := by decide +kernel
theorem d_W_law_8 : decode code 8 = .ok (.new 10, 3) := by decide +kernel
theorem d_W_law_11 : decode code 11 = .ok (.dup, 1) := by decide +kernel
theorem d_W_law_12 : decode code 12 = .ok (.invokespecial 12, 3) := by decide +kernel
theorem d_W_law_15 : decode code 15 = .ok (.astore_n 2, 1) := by decide +kernel
theorem d_W_law_16 : decode code 16 = .ok (.iconst 0, 1) := by decide +kernel
theorem d_W_law_17 : decode code 17 = .ok (.istore_n 3, 1) := by decide +kernel
theorem d_W_law_18 : decode code 18 = .ok (.iload_n 3, 1) := by decide +kernel
theorem d_W_law_19 : decode code 19 = .ok (.aload_n 0, 1) := by decide +kernel
theorem d_W_law_20 : decode code 20 = .ok (.arraylength, 1) := by decide +kernel
theorem d_W_law_21 : decode code 21 = .ok (.bipush 10, 2) := by decide +kernel
theorem d_W_law_23 : decode code 23 = .ok (.isub, 1) := by decide +kernel
theorem d_W_law_24 : decode code 24 = .ok (.if_icmp .gt 790, 3) := by decide +kernel
theorem d_W_law_27 : decode code 27 = .ok (.aload_n 0, 1) := by decide +kernel
theorem d_W_law_28 : decode code 28 = .ok (.iload_n 3, 1) := by decide +kernel
theorem d_W_law_29 : decode code 29 = .ok (.iaload, 1) := by decide +kernel
theorem d_W_law_30 : decode code 30 = .ok (.bipush 15, 2) := by decide +kernel
theorem d_W_law_32 : decode code 32 = .ok (.iand, 1) := by decide +kernel
theorem d_W_law_33 : decode code 33 = .ok (.tableswitch 775 0 12 #[67, 258, 292, 325, 388, 421, 474, 517, 560, 603, 666, 689, 722], 67) := by decide +kernel
theorem d_W_law_100 : decode code 100 = .ok (.aload_n 1, 1) := by decide +kernel
theorem d_W_law_101 : decode code 101 = .ok (.aload_n 0, 1) := by decide +kernel
theorem d_W_law_102 : decode code 102 = .ok (.iload_n 3, 1) := by decide +kernel
theorem d_W_law_103 : decode code 103 = .ok (.iconst 1, 1) := by decide +kernel
theorem d_W_law_104 : decode code 104 = .ok (.iadd, 1) := by decide +kernel
theorem d_W_law_105 : decode code 105 = .ok (.iaload, 1) := by decide +kernel
theorem d_W_law_106 : decode code 106 = .ok (.aload_n 0, 1) := by decide +kernel
theorem d_W_law_107 : decode code 107 = .ok (.iload_n 3, 1) := by decide +kernel
theorem d_W_law_108 : decode code 108 = .ok (.iconst 2, 1) := by decide +kernel
theorem d_W_law_109 : decode code 109 = .ok (.iadd, 1) := by decide +kernel
theorem d_W_law_110 : decode code 110 = .ok (.iaload, 1) := by decide +kernel
theorem d_W_law_111 : decode code 111 = .ok (.i2l, 1) := by decide +kernel
theorem d_W_law_112 : decode code 112 = .ok (.bipush 32, 2) := by decide +kernel
theorem d_W_law_114 : decode code 114 = .ok (.lshl, 1) := by decide +kernel
theorem d_W_law_115 : decode code 115 = .ok (.aload_n 0, 1) := by decide +kernel
theorem d_W_law_116 : decode code 116 = .ok (.iload_n 3, 1) := by decide +kernel
theorem d_W_law_117 : decode code 117 = .ok (.iconst 3, 1) := by decide +kernel
theorem d_W_law_118 : decode code 118 = .ok (.iadd, 1) := by decide +kernel
theorem d_W_law_119 : decode code 119 = .ok (.iaload, 1) := by decide +kernel
theorem d_W_law_120 : decode code 120 = .ok (.i2l, 1) := by decide +kernel
theorem d_W_law_121 : decode code 121 = .ok (.ldc2_w 13, 3) := by decide +kernel
theorem d_W_law_124 : decode code 124 = .ok (.land, 1) := by decide +kernel
theorem d_W_law_125 : decode code 125 = .ok (.lor, 1) := by decide +kernel
theorem d_W_law_126 : decode code 126 = .ok (.aload_n 0, 1) := by decide +kernel
theorem d_W_law_127 : decode code 127 = .ok (.iload_n 3, 1) := by decide +kernel
theorem d_W_law_128 : decode code 128 = .ok (.iconst 4, 1) := by decide +kernel
theorem d_W_law_129 : decode code 129 = .ok (.iadd, 1) := by decide +kernel
theorem d_W_law_130 : decode code 130 = .ok (.iaload, 1) := by decide +kernel
theorem d_W_law_131 : decode code 131 = .ok (.i2l, 1) := by decide +kernel
theorem d_W_law_132 : decode code 132 = .ok (.bipush 32, 2) := by decide +kernel
theorem d_W_law_134 : decode code 134 = .ok (.lshl, 1) := by decide +kernel
theorem d_W_law_135 : decode code 135 = .ok (.aload_n 0, 1) := by decide +kernel
theorem d_W_law_136 : decode code 136 = .ok (.iload_n 3, 1) := by decide +kernel
theorem d_W_law_137 : decode code 137 = .ok (.iconst 5, 1) := by decide +kernel
theorem d_W_law_138 : decode code 138 = .ok (.iadd, 1) := by decide +kernel
theorem d_W_law_139 : decode code 139 = .ok (.iaload, 1) := by decide +kernel
theorem d_W_law_140 : decode code 140 = .ok (.i2l, 1) := by decide +kernel
theorem d_W_law_141 : decode code 141 = .ok (.ldc2_w 13, 3) := by decide +kernel
theorem d_W_law_144 : decode code 144 = .ok (.land, 1) := by decide +kernel
theorem d_W_law_145 : decode code 145 = .ok (.lor, 1) := by decide +kernel
theorem d_W_law_146 : decode code 146 = .ok (.aload_n 0, 1) := by decide +kernel
theorem d_W_law_147 : decode code 147 = .ok (.iload_n 3, 1) := by decide +kernel
theorem d_W_law_148 : decode code 148 = .ok (.bipush 6, 2) := by decide +kernel
theorem d_W_law_150 : decode code 150 = .ok (.iadd, 1) := by decide +kernel
theorem d_W_law_151 : decode code 151 = .ok (.iaload, 1) := by decide +kernel
theorem d_W_law_152 : decode code 152 = .ok (.i2l, 1) := by decide +kernel
theorem d_W_law_153 : decode code 153 = .ok (.bipush 32, 2) := by decide +kernel
theorem d_W_law_155 : decode code 155 = .ok (.lshl, 1) := by decide +kernel
theorem d_W_law_156 : decode code 156 = .ok (.aload_n 0, 1) := by decide +kernel
theorem d_W_law_157 : decode code 157 = .ok (.iload_n 3, 1) := by decide +kernel
theorem d_W_law_158 : decode code 158 = .ok (.bipush 7, 2) := by decide +kernel
theorem d_W_law_160 : decode code 160 = .ok (.iadd, 1) := by decide +kernel
theorem d_W_law_161 : decode code 161 = .ok (.iaload, 1) := by decide +kernel
theorem d_W_law_162 : decode code 162 = .ok (.i2l, 1) := by decide +kernel
theorem d_W_law_163 : decode code 163 = .ok (.ldc2_w 13, 3) := by decide +kernel
theorem d_W_law_166 : decode code 166 = .ok (.land, 1) := by decide +kernel
theorem d_W_law_167 : decode code 167 = .ok (.lor, 1) := by decide +kernel
theorem d_W_law_168 : decode code 168 = .ok (.aload_n 0, 1) := by decide +kernel
theorem d_W_law_169 : decode code 169 = .ok (.iload_n 3, 1) := by decide +kernel
theorem d_W_law_170 : decode code 170 = .ok (.bipush 8, 2) := by decide +kernel
theorem d_W_law_172 : decode code 172 = .ok (.iadd, 1) := by decide +kernel
theorem d_W_law_173 : decode code 173 = .ok (.iaload, 1) := by decide +kernel
theorem d_W_law_174 : decode code 174 = .ok (.i2l, 1) := by decide +kernel
theorem d_W_law_175 : decode code 175 = .ok (.bipush 32, 2) := by decide +kernel
theorem d_W_law_177 : decode code 177 = .ok (.lshl, 1) := by decide +kernel
theorem d_W_law_178 : decode code 178 = .ok (.aload_n 0, 1) := by decide +kernel
theorem d_W_law_179 : decode code 179 = .ok (.iload_n 3, 1) := by decide +kernel
theorem d_W_law_180 : decode code 180 = .ok (.bipush 9, 2) := by decide +kernel
theorem d_W_law_182 : decode code 182 = .ok (.iadd, 1) := by decide +kernel
theorem d_W_law_183 : decode code 183 = .ok (.iaload, 1) := by decide +kernel
theorem d_W_law_184 : decode code 184 = .ok (.i2l, 1) := by decide +kernel
theorem d_W_law_185 : decode code 185 = .ok (.ldc2_w 13, 3) := by decide +kernel
theorem d_W_law_188 : decode code 188 = .ok (.land, 1) := by decide +kernel
theorem d_W_law_189 : decode code 189 = .ok (.lor, 1) := by decide +kernel
theorem d_W_law_190 : decode code 190 = .ok (.invokevirtual 15, 3) := by decide +kernel
theorem d_W_law_193 : decode code 193 = .ok (.aload_n 2, 1) := by decide +kernel
theorem d_W_law_194 : decode code 194 = .ok (.aload_n 0, 1) := by decide +kernel
theorem d_W_law_195 : decode code 195 = .ok (.iload_n 3, 1) := by decide +kernel
theorem d_W_law_196 : decode code 196 = .ok (.iconst 1, 1) := by decide +kernel
theorem d_W_law_197 : decode code 197 = .ok (.iadd, 1) := by decide +kernel
theorem d_W_law_198 : decode code 198 = .ok (.iaload, 1) := by decide +kernel
theorem d_W_law_199 : decode code 199 = .ok (.aload_n 0, 1) := by decide +kernel
theorem d_W_law_200 : decode code 200 = .ok (.iload_n 3, 1) := by decide +kernel
theorem d_W_law_201 : decode code 201 = .ok (.iconst 2, 1) := by decide +kernel
theorem d_W_law_202 : decode code 202 = .ok (.iadd, 1) := by decide +kernel
theorem d_W_law_203 : decode code 203 = .ok (.iaload, 1) := by decide +kernel
theorem d_W_law_204 : decode code 204 = .ok (.i2l, 1) := by decide +kernel
theorem d_W_law_205 : decode code 205 = .ok (.bipush 32, 2) := by decide +kernel
theorem d_W_law_207 : decode code 207 = .ok (.lshl, 1) := by decide +kernel
theorem d_W_law_208 : decode code 208 = .ok (.aload_n 0, 1) := by decide +kernel
theorem d_W_law_209 : decode code 209 = .ok (.iload_n 3, 1) := by decide +kernel
theorem d_W_law_210 : decode code 210 = .ok (.iconst 3, 1) := by decide +kernel
theorem d_W_law_211 : decode code 211 = .ok (.iadd, 1) := by decide +kernel
theorem d_W_law_212 : decode code 212 = .ok (.iaload, 1) := by decide +kernel
theorem d_W_law_213 : decode code 213 = .ok (.i2l, 1) := by decide +kernel
theorem d_W_law_214 : decode code 214 = .ok (.ldc2_w 13, 3) := by decide +kernel
theorem d_W_law_217 : decode code 217 = .ok (.land, 1) := by decide +kernel
theorem d_W_law_218 : decode code 218 = .ok (.lor, 1) := by decide +kernel
theorem d_W_law_219 : decode code 219 = .ok (.aload_n 0, 1) := by decide +kernel
theorem d_W_law_220 : decode code 220 = .ok (.iload_n 3, 1) := by decide +kernel
theorem d_W_law_221 : decode code 221 = .ok (.iconst 4, 1) := by decide +kernel
theorem d_W_law_222 : decode code 222 = .ok (.iadd, 1) := by decide +kernel
theorem d_W_law_223 : decode code 223 = .ok (.iaload, 1) := by decide +kernel
theorem d_W_law_224 : decode code 224 = .ok (.i2l, 1) := by decide +kernel
theorem d_W_law_225 : decode code 225 = .ok (.bipush 32, 2) := by decide +kernel
theorem d_W_law_227 : decode code 227 = .ok (.lshl, 1) := by decide +kernel
theorem d_W_law_228 : decode code 228 = .ok (.aload_n 0, 1) := by decide +kernel
theorem d_W_law_229 : decode code 229 = .ok (.iload_n 3, 1) := by decide +kernel
theorem d_W_law_230 : decode code 230 = .ok (.iconst 5, 1) := by decide +kernel
theorem d_W_law_231 : decode code 231 = .ok (.iadd, 1) := by decide +kernel
theorem d_W_law_232 : decode code 232 = .ok (.iaload, 1) := by decide +kernel
theorem d_W_law_233 : decode code 233 = .ok (.i2l, 1) := by decide +kernel
theorem d_W_law_234 : decode code 234 = .ok (.ldc2_w 13, 3) := by decide +kernel
theorem d_W_law_237 : decode code 237 = .ok (.land, 1) := by decide +kernel
theorem d_W_law_238 : decode code 238 = .ok (.lor, 1) := by decide +kernel
theorem d_W_law_239 : decode code 239 = .ok (.aload_n 0, 1) := by decide +kernel
theorem d_W_law_240 : decode code 240 = .ok (.iload_n 3, 1) := by decide +kernel
theorem d_W_law_241 : decode code 241 = .ok (.bipush 6, 2) := by decide +kernel
theorem d_W_law_243 : decode code 243 = .ok (.iadd, 1) := by decide +kernel
theorem d_W_law_244 : decode code 244 = .ok (.iaload, 1) := by decide +kernel
theorem d_W_law_245 : decode code 245 = .ok (.i2l, 1) := by decide +kernel
theorem d_W_law_246 : decode code 246 = .ok (.bipush 32, 2) := by decide +kernel
theorem d_W_law_248 : decode code 248 = .ok (.lshl, 1) := by decide +kernel
theorem d_W_law_249 : decode code 249 = .ok (.aload_n 0, 1) := by decide +kernel
theorem d_W_law_250 : decode code 250 = .ok (.iload_n 3, 1) := by decide +kernel
theorem d_W_law_251 : decode code 251 = .ok (.bipush 7, 2) := by decide +kernel
theorem d_W_law_253 : decode code 253 = .ok (.iadd, 1) := by decide +kernel
theorem d_W_law_254 : decode code 254 = .ok (.iaload, 1) := by decide +kernel
theorem d_W_law_255 : decode code 255 = .ok (.i2l, 1) := by decide +kernel
theorem d_W_law_256 : decode code 256 = .ok (.ldc2_w 13, 3) := by decide +kernel
theorem d_W_law_259 : decode code 259 = .ok (.land, 1) := by decide +kernel
theorem d_W_law_260 : decode code 260 = .ok (.lor, 1) := by decide +kernel
theorem d_W_law_261 : decode code 261 = .ok (.aload_n 0, 1) := by decide +kernel
theorem d_W_law_262 : decode code 262 = .ok (.iload_n 3, 1) := by decide +kernel
theorem d_W_law_263 : decode code 263 = .ok (.bipush 8, 2) := by decide +kernel
theorem d_W_law_265 : decode code 265 = .ok (.iadd, 1) := by decide +kernel
theorem d_W_law_266 : decode code 266 = .ok (.iaload, 1) := by decide +kernel
theorem d_W_law_267 : decode code 267 = .ok (.i2l, 1) := by decide +kernel
theorem d_W_law_268 : decode code 268 = .ok (.bipush 32, 2) := by decide +kernel
theorem d_W_law_270 : decode code 270 = .ok (.lshl, 1) := by decide +kernel
theorem d_W_law_271 : decode code 271 = .ok (.aload_n 0, 1) := by decide +kernel
theorem d_W_law_272 : decode code 272 = .ok (.iload_n 3, 1) := by decide +kernel
theorem d_W_law_273 : decode code 273 = .ok (.bipush 9, 2) := by decide +kernel
theorem d_W_law_275 : decode code 275 = .ok (.iadd, 1) := by decide +kernel
theorem d_W_law_276 : decode code 276 = .ok (.iaload, 1) := by decide +kernel
theorem d_W_law_277 : decode code 277 = .ok (.i2l, 1) := by decide +kernel
theorem d_W_law_278 : decode code 278 = .ok (.ldc2_w 13, 3) := by decide +kernel
theorem d_W_law_281 : decode code 281 = .ok (.land, 1) := by decide +kernel
theorem d_W_law_282 : decode code 282 = .ok (.lor, 1) := by decide +kernel
theorem d_W_law_283 : decode code 283 = .ok (.invokevirtual 19, 3) := by decide +kernel
theorem d_W_law_286 : decode code 286 = .ok (.if_icmp .eq 522, 3) := by decide +kernel
theorem d_W_law_289 : decode code 289 = .ok (.iconst 0, 1) := by decide +kernel
theorem d_W_law_290 : decode code 290 = .ok (.ireturn, 1) := by decide +kernel
theorem d_W_law_291 : decode code 291 = .ok (.aload_n 1, 1) := by decide +kernel
theorem d_W_law_292 : decode code 292 = .ok (.aload_n 0, 1) := by decide +kernel
theorem d_W_law_293 : decode code 293 = .ok (.iload_n 3, 1) := by decide +kernel
theorem d_W_law_294 : decode code 294 = .ok (.iconst 1, 1) := by decide +kernel
theorem d_W_law_295 : decode code 295 = .ok (.iadd, 1) := by decide +kernel
theorem d_W_law_296 : decode code 296 = .ok (.iaload, 1) := by decide +kernel
theorem d_W_law_297 : decode code 297 = .ok (.aload_n 0, 1) := by decide +kernel
theorem d_W_law_298 : decode code 298 = .ok (.iload_n 3, 1) := by decide +kernel
theorem d_W_law_299 : decode code 299 = .ok (.iconst 2, 1) := by decide +kernel
theorem d_W_law_300 : decode code 300 = .ok (.iadd, 1) := by decide +kernel
theorem d_W_law_301 : decode code 301 = .ok (.iaload, 1) := by decide +kernel
theorem d_W_law_302 : decode code 302 = .ok (.invokevirtual 20, 3) := by decide +kernel
theorem d_W_law_305 : decode code 305 = .ok (.aload_n 2, 1) := by decide +kernel
theorem d_W_law_306 : decode code 306 = .ok (.aload_n 0, 1) := by decide +kernel
theorem d_W_law_307 : decode code 307 = .ok (.iload_n 3, 1) := by decide +kernel
theorem d_W_law_308 : decode code 308 = .ok (.iconst 1, 1) := by decide +kernel
theorem d_W_law_309 : decode code 309 = .ok (.iadd, 1) := by decide +kernel
theorem d_W_law_310 : decode code 310 = .ok (.iaload, 1) := by decide +kernel
theorem d_W_law_311 : decode code 311 = .ok (.aload_n 0, 1) := by decide +kernel
theorem d_W_law_312 : decode code 312 = .ok (.iload_n 3, 1) := by decide +kernel
theorem d_W_law_313 : decode code 313 = .ok (.iconst 2, 1) := by decide +kernel
theorem d_W_law_314 : decode code 314 = .ok (.iadd, 1) := by decide +kernel
theorem d_W_law_315 : decode code 315 = .ok (.iaload, 1) := by decide +kernel
theorem d_W_law_316 : decode code 316 = .ok (.invokevirtual 24, 3) := by decide +kernel
theorem d_W_law_319 : decode code 319 = .ok (.lcmp, 1) := by decide +kernel
theorem d_W_law_320 : decode code 320 = .ok (.ifCond .eq 488, 3) := by decide +kernel
theorem d_W_law_323 : decode code 323 = .ok (.iconst 0, 1) := by decide +kernel
theorem d_W_law_324 : decode code 324 = .ok (.ireturn, 1) := by decide +kernel
theorem d_W_law_325 : decode code 325 = .ok (.aload_n 1, 1) := by decide +kernel
theorem d_W_law_326 : decode code 326 = .ok (.aload_n 0, 1) := by decide +kernel
theorem d_W_law_327 : decode code 327 = .ok (.iload_n 3, 1) := by decide +kernel
theorem d_W_law_328 : decode code 328 = .ok (.iconst 1, 1) := by decide +kernel
theorem d_W_law_329 : decode code 329 = .ok (.iadd, 1) := by decide +kernel
theorem d_W_law_330 : decode code 330 = .ok (.iaload, 1) := by decide +kernel
theorem d_W_law_331 : decode code 331 = .ok (.aload_n 0, 1) := by decide +kernel
theorem d_W_law_332 : decode code 332 = .ok (.iload_n 3, 1) := by decide +kernel
theorem d_W_law_333 : decode code 333 = .ok (.iconst 2, 1) := by decide +kernel
theorem d_W_law_334 : decode code 334 = .ok (.iadd, 1) := by decide +kernel
theorem d_W_law_335 : decode code 335 = .ok (.iaload, 1) := by decide +kernel
theorem d_W_law_336 : decode code 336 = .ok (.invokevirtual 25, 3) := by decide +kernel
theorem d_W_law_339 : decode code 339 = .ok (.aload_n 2, 1) := by decide +kernel
theorem d_W_law_340 : decode code 340 = .ok (.aload_n 0, 1) := by decide +kernel
theorem d_W_law_341 : decode code 341 = .ok (.iload_n 3, 1) := by decide +kernel
theorem d_W_law_342 : decode code 342 = .ok (.iconst 1, 1) := by decide +kernel
theorem d_W_law_343 : decode code 343 = .ok (.iadd, 1) := by decide +kernel
theorem d_W_law_344 : decode code 344 = .ok (.iaload, 1) := by decide +kernel
theorem d_W_law_345 : decode code 345 = .ok (.aload_n 0, 1) := by decide +kernel
theorem d_W_law_346 : decode code 346 = .ok (.iload_n 3, 1) := by decide +kernel
theorem d_W_law_347 : decode code 347 = .ok (.iconst 2, 1) := by decide +kernel
theorem d_W_law_348 : decode code 348 = .ok (.iadd, 1) := by decide +kernel
theorem d_W_law_349 : decode code 349 = .ok (.iaload, 1) := by decide +kernel
theorem d_W_law_350 : decode code 350 = .ok (.invokevirtual 29, 3) := by decide +kernel
theorem d_W_law_353 : decode code 353 = .ok (.if_icmp .eq 455, 3) := by decide +kernel
theorem d_W_law_356 : decode code 356 = .ok (.iconst 0, 1) := by decide +kernel
theorem d_W_law_357 : decode code 357 = .ok (.ireturn, 1) := by decide +kernel
theorem d_W_law_358 : decode code 358 = .ok (.aload_n 1, 1) := by decide +kernel
theorem d_W_law_359 : decode code 359 = .ok (.aload_n 0, 1) := by decide +kernel
theorem d_W_law_360 : decode code 360 = .ok (.iload_n 3, 1) := by decide +kernel
theorem d_W_law_361 : decode code 361 = .ok (.iconst 1, 1) := by decide +kernel
theorem d_W_law_362 : decode code 362 = .ok (.iadd, 1) := by decide +kernel
theorem d_W_law_363 : decode code 363 = .ok (.iaload, 1) := by decide +kernel
theorem d_W_law_364 : decode code 364 = .ok (.aload_n 0, 1) := by decide +kernel
theorem d_W_law_365 : decode code 365 = .ok (.iload_n 3, 1) := by decide +kernel
theorem d_W_law_366 : decode code 366 = .ok (.iconst 2, 1) := by decide +kernel
theorem d_W_law_367 : decode code 367 = .ok (.iadd, 1) := by decide +kernel
theorem d_W_law_368 : decode code 368 = .ok (.iaload, 1) := by decide +kernel
theorem d_W_law_369 : decode code 369 = .ok (.aload_n 0, 1) := by decide +kernel
theorem d_W_law_370 : decode code 370 = .ok (.iload_n 3, 1) := by decide +kernel
theorem d_W_law_371 : decode code 371 = .ok (.iconst 3, 1) := by decide +kernel
theorem d_W_law_372 : decode code 372 = .ok (.iadd, 1) := by decide +kernel
theorem d_W_law_373 : decode code 373 = .ok (.iaload, 1) := by decide +kernel
theorem d_W_law_374 : decode code 374 = .ok (.aload_n 0, 1) := by decide +kernel
theorem d_W_law_375 : decode code 375 = .ok (.iload_n 3, 1) := by decide +kernel
theorem d_W_law_376 : decode code 376 = .ok (.iconst 4, 1) := by decide +kernel
theorem d_W_law_377 : decode code 377 = .ok (.iadd, 1) := by decide +kernel
theorem d_W_law_378 : decode code 378 = .ok (.iaload, 1) := by decide +kernel
theorem d_W_law_379 : decode code 379 = .ok (.aload_n 0, 1) := by decide +kernel
theorem d_W_law_380 : decode code 380 = .ok (.iload_n 3, 1) := by decide +kernel
theorem d_W_law_381 : decode code 381 = .ok (.iconst 5, 1) := by decide +kernel
theorem d_W_law_382 : decode code 382 = .ok (.iadd, 1) := by decide +kernel
theorem d_W_law_383 : decode code 383 = .ok (.iaload, 1) := by decide +kernel
theorem d_W_law_384 : decode code 384 = .ok (.invokevirtual 30, 3) := by decide +kernel
