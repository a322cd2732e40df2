/-! the instructions -/
theorem d_R_carry_44 : decode b_R_carry 44 = .ok (.return_, 1) := by decide +kernel
theorem d_R_isWide_0 : decode b_R_isWide 0 = .ok (.aload_n 0, 1) := by decide +kernel
theorem d_R_isWide_1 : decode b_R_isWide 1 = .ok (.getfield 13, 3) := by decide +kernel
theorem d_R_isWide_4 : decode b_R_isWide 4 = .ok (.bipush 9, 2) := by decide +kernel
theorem d_R_isWide_6 : decode b_R_isWide 6 = .ok (.laload, 1) := by decide +kernel
theorem d_R_isWide_7 : decode b_R_isWide 7 = .ok (.ldc2_w 84, 3) := by decide +kernel
theorem d_R_isWide_10 : decode b_R_isWide 10 = .ok (.lcmp, 1) := by decide +kernel
theorem d_R_isWide_11 : decode b_R_isWide 11 = .ok (.ifCond .le 7, 3) := by decide +kernel
theorem d_R_isWide_14 : decode b_R_isWide 14 = .ok (.iconst 1, 1) := by decide +kernel
theorem d_R_isWide_15 : decode b_R_isWide 15 = .ok (.goto 4, 3) := by decide +kernel
theorem d_R_isWide_18 : decode b_R_isWide 18 = .ok (.iconst 0, 1) := by decide +kernel
theorem d_R_isWide_19 : decode b_R_isWide 19 = .ok (.istore_n 1, 1) := by decide +kernel
theorem d_R_isWide_20 : decode b_R_isWide 20 = .ok (.bipush 10, 2) := by decide +kernel
theorem d_R_isWide_22 : decode b_R_isWide 22 = .ok (.istore_n 2, 1) := by decide +kernel
theorem d_R_isWide_23 : decode b_R_isWide 23 = .ok (.iload_n 2, 1) := by decide +kernel
theorem d_R_isWide_24 : decode b_R_isWide 24 = .ok (.bipush 22, 2) := by decide +kernel
theorem d_R_isWide_26 : decode b_R_isWide 26 = .ok (.if_icmp .ge 30, 3) := by decide +kernel
theorem d_R_isWide_29 : decode b_R_isWide 29 = .ok (.iload_n 1, 1) := by decide +kernel
theorem d_R_isWide_30 : decode b_R_isWide 30 = .ok (.ifCond .ne 26, 3) := by decide +kernel
theorem d_R_isWide_33 : decode b_R_isWide 33 = .ok (.aload_n 0, 1) := by decide +kernel
theorem d_R_isWide_34 : decode b_R_isWide 34 = .ok (.getfield 13, 3) := by decide +kernel
theorem d_R_isWide_37 : decode b_R_isWide 37 = .ok (.iload_n 2, 1) := by decide +kernel
theorem d_R_isWide_38 : decode b_R_isWide 38 = .ok (.laload, 1) := by decide +kernel
theorem d_R_isWide_39 : decode b_R_isWide 39 = .ok (.lconst 0, 1) := by decide +kernel
theorem d_R_isWide_40 : decode b_R_isWide 40 = .ok (.lcmp, 1) := by decide +kernel
theorem d_R_isWide_41 : decode b_R_isWide 41 = .ok (.ifCond .le 7, 3) := by decide +kernel
theorem d_R_isWide_44 : decode b_R_isWide 44 = .ok (.iconst 1, 1) := by decide +kernel
theorem d_R_isWide_45 : decode b_R_isWide 45 = .ok (.goto 4, 3) := by decide +kernel
theorem d_R_isWide_48 : decode b_R_isWide 48 = .ok (.iconst 0, 1) := by decide +kernel
theorem d_R_isWide_49 : decode b_R_isWide 49 = .ok (.istore_n 1, 1) := by decide +kernel
theorem d_R_isWide_50 : decode b_R_isWide 50 = .ok (.iinc 2 1, 3) := by decide +kernel
theorem d_R_isWide_53 : decode b_R_isWide 53 = .ok (.goto (-30), 3) := by decide +kernel
theorem d_R_isWide_56 : decode b_R_isWide 56 = .ok (.iload_n 1, 1) := by decide +kernel
theorem d_R_isWide_57 : decode b_R_isWide 57 = .ok (.ireturn, 1) := by decide +kernel
theorem d_R_fold_0 : decode b_R_fold 0 = .ok (.iconst 0, 1) := by decide +kernel
theorem d_R_fold_1 : decode b_R_fold 1 = .ok (.istore_n 2, 1) := by decide +kernel
theorem d_R_fold_2 : decode b_R_fold 2 = .ok (.iload_n 2, 1) := by decide +kernel
theorem d_R_fold_3 : decode b_R_fold 3 = .ok (.bipush 22, 2) := by decide +kernel
theorem d_R_fold_5 : decode b_R_fold 5 = .ok (.if_icmp .ge 51, 3) := by decide +kernel
theorem d_R_fold_8 : decode b_R_fold 8 = .ok (.aload_n 0, 1) := by decide +kernel
theorem d_R_fold_9 : decode b_R_fold 9 = .ok (.getfield 17, 3) := by decide +kernel
theorem d_R_fold_12 : decode b_R_fold 12 = .ok (.iload_n 2, 1) := by decide +kernel
theorem d_R_fold_13 : decode b_R_fold 13 = .ok (.iload_n 2, 1) := by decide +kernel
theorem d_R_fold_14 : decode b_R_fold 14 = .ok (.bipush 9, 2) := by decide +kernel
theorem d_R_fold_16 : decode b_R_fold 16 = .ok (.if_icmp .ge 12, 3) := by decide +kernel
theorem d_R_fold_19 : decode b_R_fold 19 = .ok (.aload_n 0, 1) := by decide +kernel
theorem d_R_fold_20 : decode b_R_fold 20 = .ok (.getfield 13, 3) := by decide +kernel
theorem d_R_fold_23 : decode b_R_fold 23 = .ok (.iload_n 2, 1) := by decide +kernel
theorem d_R_fold_24 : decode b_R_fold 24 = .ok (.laload, 1) := by decide +kernel
theorem d_R_fold_25 : decode b_R_fold 25 = .ok (.goto 24, 3) := by decide +kernel
theorem d_R_fold_28 : decode b_R_fold 28 = .ok (.iload_n 2, 1) := by decide +kernel
theorem d_R_fold_29 : decode b_R_fold 29 = .ok (.bipush 9, 2) := by decide +kernel
theorem d_R_fold_31 : decode b_R_fold 31 = .ok (.if_icmp .ne 17, 3) := by decide +kernel
theorem d_R_fold_34 : decode b_R_fold 34 = .ok (.aload_n 0, 1) := by decide +kernel
theorem d_R_fold_35 : decode b_R_fold 35 = .ok (.getfield 13, 3) := by decide +kernel
theorem d_R_fold_38 : decode b_R_fold 38 = .ok (.bipush 9, 2) := by decide +kernel
theorem d_R_fold_40 : decode b_R_fold 40 = .ok (.laload, 1) := by decide +kernel
theorem d_R_fold_41 : decode b_R_fold 41 = .ok (.ldc2_w 84, 3) := by decide +kernel
theorem d_R_fold_44 : decode b_R_fold 44 = .ok (.land, 1) := by decide +kernel
theorem d_R_fold_45 : decode b_R_fold 45 = .ok (.goto 4, 3) := by decide +kernel
theorem d_R_fold_48 : decode b_R_fold 48 = .ok (.lconst 0, 1) := by decide +kernel
theorem d_R_fold_49 : decode b_R_fold 49 = .ok (.lastore, 1) := by decide +kernel
theorem d_R_fold_50 : decode b_R_fold 50 = .ok (.iinc 2 1, 3) := by decide +kernel
theorem d_R_fold_53 : decode b_R_fold 53 = .ok (.goto (-51), 3) := by decide +kernel
theorem d_R_fold_56 : decode b_R_fold 56 = .ok (.iconst 0, 1) := by decide +kernel
theorem d_R_fold_57 : decode b_R_fold 57 = .ok (.istore_n 2, 1) := by decide +kernel
theorem d_R_fold_58 : decode b_R_fold 58 = .ok (.iload_n 2, 1) := by decide +kernel
theorem d_R_fold_59 : decode b_R_fold 59 = .ok (.bipush 12, 2) := by decide +kernel
theorem d_R_fold_61 : decode b_R_fold 61 = .ok (.if_icmp .ge 83, 3) := by decide +kernel
theorem d_R_fold_64 : decode b_R_fold 64 = .ok (.aload_n 0, 1) := by decide +kernel
theorem d_R_fold_65 : decode b_R_fold 65 = .ok (.getfield 13, 3) := by decide +kernel
theorem d_R_fold_68 : decode b_R_fold 68 = .ok (.bipush 9, 2) := by decide +kernel
theorem d_R_fold_70 : decode b_R_fold 70 = .ok (.iload_n 2, 1) := by decide +kernel
theorem d_R_fold_71 : decode b_R_fold 71 = .ok (.iadd, 1) := by decide +kernel
theorem d_R_fold_72 : decode b_R_fold 72 = .ok (.laload, 1) := by decide +kernel
theorem d_R_fold_73 : decode b_R_fold 73 = .ok (.bipush 22, 2) := by decide +kernel
theorem d_R_fold_75 : decode b_R_fold 75 = .ok (.lshr, 1) := by decide +kernel
theorem d_R_fold_76 : decode b_R_fold 76 = .ok (.aload_n 0, 1) := by decide +kernel
theorem d_R_fold_77 : decode b_R_fold 77 = .ok (.getfield 13, 3) := by decide +kernel
theorem d_R_fold_80 : decode b_R_fold 80 = .ok (.bipush 10, 2) := by decide +kernel
theorem d_R_fold_82 : decode b_R_fold 82 = .ok (.iload_n 2, 1) := by decide +kernel
theorem d_R_fold_83 : decode b_R_fold 83 = .ok (.iadd, 1) := by decide +kernel
theorem d_R_fold_84 : decode b_R_fold 84 = .ok (.laload, 1) := by decide +kernel
theorem d_R_fold_85 : decode b_R_fold 85 = .ok (.ldc2_w 84, 3) := by decide +kernel
theorem d_R_fold_88 : decode b_R_fold 88 = .ok (.land, 1) := by decide +kernel
theorem d_R_fold_89 : decode b_R_fold 89 = .ok (.iconst 4, 1) := by decide +kernel
theorem d_R_fold_90 : decode b_R_fold 90 = .ok (.lshl, 1) := by decide +kernel
theorem d_R_fold_91 : decode b_R_fold 91 = .ok (.lor, 1) := by decide +kernel
theorem d_R_fold_92 : decode b_R_fold 92 = .ok (.lstore_n 3, 1) := by decide +kernel
theorem d_R_fold_93 : decode b_R_fold 93 = .ok (.iconst 0, 1) := by decide +kernel
theorem d_R_fold_94 : decode b_R_fold 94 = .ok (.istore 5, 2) := by decide +kernel
theorem d_R_fold_96 : decode b_R_fold 96 = .ok (.iload 5, 2) := by decide +kernel
theorem d_R_fold_98 : decode b_R_fold 98 = .ok (.iconst 5, 1) := by decide +kernel
theorem d_R_fold_99 : decode b_R_fold 99 = .ok (.if_icmp .ge 39, 3) := by decide +kernel
theorem d_R_fold_102 : decode b_R_fold 102 = .ok (.lload_n 3, 1) := by decide +kernel
theorem d_R_fold_103 : decode b_R_fold 103 = .ok (.lconst 0, 1) := by decide +kernel
theorem d_R_fold_104 : decode b_R_fold 104 = .ok (.lcmp, 1) := by decide +kernel
theorem d_R_fold_105 : decode b_R_fold 105 = .ok (.ifCond .le 33, 3) := by decide +kernel
theorem d_R_fold_108 : decode b_R_fold 108 = .ok (.aload_n 0, 1) := by decide +kernel
theorem d_R_fold_109 : decode b_R_fold 109 = .ok (.getfield 17, 3) := by decide +kernel
theorem d_R_fold_112 : decode b_R_fold 112 = .ok (.iload_n 2, 1) := by decide +kernel
theorem d_R_fold_113 : decode b_R_fold 113 = .ok (.iload 5, 2) := by decide +kernel
theorem d_R_fold_115 : decode b_R_fold 115 = .ok (.iadd, 1) := by decide +kernel
theorem d_R_fold_116 : decode b_R_fold 116 = .ok (.dup2, 1) := by decide +kernel
theorem d_R_fold_117 : decode b_R_fold 117 = .ok (.laload, 1) := by decide +kernel
theorem d_R_fold_118 : decode b_R_fold 118 = .ok (.lload_n 3, 1) := by decide +kernel
theorem d_R_fold_119 : decode b_R_fold 119 = .ok (.aload_n 0, 1) := by decide +kernel
theorem d_R_fold_120 : decode b_R_fold 120 = .ok (.getfield 20, 3) := by decide +kernel
theorem d_R_fold_123 : decode b_R_fold 123 = .ok (.iload_n 1, 1) := by decide +kernel
theorem d_R_fold_124 : decode b_R_fold 124 = .ok (.iload 5, 2) := by decide +kernel
theorem d_R_fold_126 : decode b_R_fold 126 = .ok (.iadd, 1) := by decide +kernel
theorem d_R_fold_127 : decode b_R_fold 127 = .ok (.iaload, 1) := by decide +kernel
theorem d_R_fold_128 : decode b_R_fold 128 = .ok (.i2l, 1) := by decide +kernel
theorem d_R_fold_129 : decode b_R_fold 129 = .ok (.lmul, 1) := by decide +kernel
theorem d_R_fold_130 : decode b_R_fold 130 = .ok (.ladd, 1) := by decide +kernel
theorem d_R_fold_131 : decode b_R_fold 131 = .ok (.lastore, 1) := by decide +kernel
theorem d_R_fold_132 : decode b_R_fold 132 = .ok (.iinc 5 1, 3) := by decide +kernel
theorem d_R_fold_135 : decode b_R_fold 135 = .ok (.goto (-39), 3) := by decide +kernel
theorem d_R_fold_138 : decode b_R_fold 138 = .ok (.iinc 2 1, 3) := by decide +kernel
theorem d_R_fold_141 : decode b_R_fold 141 = .ok (.goto (-83), 3) := by decide +kernel
theorem d_R_fold_144 : decode b_R_fold 144 = .ok (.iconst 0, 1) := by decide +kernel
theorem d_R_fold_145 : decode b_R_fold 145 = .ok (.istore_n 2, 1) := by decide +kernel
theorem d_R_fold_146 : decode b_R_fold 146 = .ok (.iload_n 2, 1) := by decide +kernel
theorem d_R_fold_147 : decode b_R_fold 147 = .ok (.bipush 22, 2) := by decide +kernel
theorem d_R_fold_149 : decode b_R_fold 149 = .ok (.if_icmp .ge 21, 3) := by decide +kernel
theorem d_R_fold_152 : decode b_R_fold 152 = .ok (.aload_n 0, 1) := by decide +kernel
theorem d_R_fold_153 : decode b_R_fold 153 = .ok (.getfield 13, 3) := by decide +kernel
theorem d_R_fold_156 : decode b_R_fold 156 = .ok (.iload_n 2, 1) := by decide +kernel
theorem d_R_fold_157 : decode b_R_fold 157 = .ok (.aload_n 0, 1) := by decide +kernel
theorem d_R_fold_158 : decode b_R_fold 158 = .ok (.getfield 17, 3) := by decide +kernel
theorem d_R_fold_161 : decode b_R_fold 161 = .ok (.iload_n 2, 1) := by decide +kernel
theorem d_R_fold_162 : decode b_R_fold 162 = .ok (.laload, 1) := by decide +kernel
theorem d_R_fold_163 : decode b_R_fold 163 = .ok (.lastore, 1) := by decide +kernel
theorem d_R_fold_164 : decode b_R_fold 164 = .ok (.iinc 2 1, 3) := by decide +kernel
theorem d_R_fold_167 : decode b_R_fold 167 = .ok (.goto (-21), 3) := by decide +kernel
theorem d_R_fold_170 : decode b_R_fold 170 = .ok (.aload_n 0, 1) := by decide +kernel
theorem d_R_fold_171 : decode b_R_fold 171 = .ok (.invokevirtual 86, 3) := by decide +kernel
theorem d_R_fold_174 : decode b_R_fold 174 = .ok (.return_, 1) := by decide +kernel
theorem d_R_multiply_0 : decode b_R_multiply 0 = .ok (.iconst 0, 1) := by decide +kernel
theorem d_R_multiply_1 : decode b_R_multiply 1 = .ok (.istore 5, 2) := by decide +kernel
theorem d_R_multiply_3 : decode b_R_multiply 3 = .ok (.iload 5, 2) := by decide +kernel
theorem d_R_multiply_5 : decode b_R_multiply 5 = .ok (.bipush 22, 2) := by decide +kernel
theorem d_R_multiply_7 : decode b_R_multiply 7 = .ok (.if_icmp .ge 17, 3) := by decide +kernel
theorem d_R_multiply_10 : decode b_R_multiply 10 = .ok (.aload_n 0, 1) := by decide +kernel
theorem d_R_multiply_11 : decode b_R_multiply 11 = .ok (.getfield 13, 3) := by decide +kernel
theorem d_R_multiply_14 : decode b_R_multiply 14 = .ok (.iload 5, 2) := by decide +kernel
theorem d_R_multiply_16 : decode b_R_multiply 16 = .ok (.lconst 0, 1) := by decide +kernel
theorem d_R_multiply_17 : decode b_R_multiply 17 = .ok (.lastore, 1) := by decide +kernel
theorem d_R_multiply_18 : decode b_R_multiply 18 = .ok (.iinc 5 1, 3) := by decide +kernel
theorem d_R_multiply_21 : decode b_R_multiply 21 = .ok (.goto (-18), 3) := by decide +kernel
theorem d_R_multiply_24 : decode b_R_multiply 24 = .ok (.iconst 0, 1) := by decide +kernel
theorem d_R_multiply_25 : decode b_R_multiply 25 = .ok (.istore 5, 2) := by decide +kernel
theorem d_R_multiply_27 : decode b_R_multiply 27 = .ok (.iload 5, 2) := by decide +kernel
theorem d_R_multiply_29 : decode b_R_multiply 29 = .ok (.bipush 10, 2) := by decide +kernel
theorem d_R_multiply_31 : decode b_R_multiply 31 = .ok (.if_icmp .ge 76, 3) := by decide +kernel
theorem d_R_multiply_34 : decode b_R_multiply 34 = .ok (.aload_n 0, 1) := by decide +kernel
theorem d_R_multiply_35 : decode b_R_multiply 35 = .ok (.getfield 7, 3) := by decide +kernel
theorem d_R_multiply_38 : decode b_R_multiply 38 = .ok (.bipush 10, 2) := by decide +kernel
theorem d_R_multiply_40 : decode b_R_multiply 40 = .ok (.iload_n 2, 1) := by decide +kernel
theorem d_R_multiply_41 : decode b_R_multiply 41 = .ok (.imul, 1) := by decide +kernel
theorem d_R_multiply_42 : decode b_R_multiply 42 = .ok (.iload 5, 2) := by decide +kernel
theorem d_R_multiply_44 : decode b_R_multiply 44 = .ok (.iadd, 1) := by decide +kernel
theorem d_R_multiply_45 : decode b_R_multiply 45 = .ok (.iaload, 1) := by decide +kernel
theorem d_R_multiply_46 : decode b_R_multiply 46 = .ok (.i2l, 1) := by decide +kernel
theorem d_R_multiply_47 : decode b_R_multiply 47 = .ok (.lstore 6, 2) := by decide +kernel
theorem d_R_multiply_49 : decode b_R_multiply 49 = .ok (.iconst 0, 1) := by decide +kernel
theorem d_R_multiply_50 : decode b_R_multiply 50 = .ok (.istore 8, 2) := by decide +kernel
theorem d_R_multiply_52 : decode b_R_multiply 52 = .ok (.iload 8, 2) := by decide +kernel
theorem d_R_multiply_54 : decode b_R_multiply 54 = .ok (.bipush 10, 2) := by decide +kernel
theorem d_R_multiply_56 : decode b_R_multiply 56 = .ok (.if_icmp .ge 45, 3) := by decide +kernel
theorem d_R_multiply_59 : decode b_R_multiply 59 = .ok (.lload 6, 2) := by decide +kernel
theorem d_R_multiply_61 : decode b_R_multiply 61 = .ok (.lconst 0, 1) := by decide +kernel
theorem d_R_multiply_62 : decode b_R_multiply 62 = .ok (.lcmp, 1) := by decide +kernel
theorem d_R_multiply_63 : decode b_R_multiply 63 = .ok (.ifCond .le 38, 3) := by decide +kernel
theorem d_R_multiply_66 : decode b_R_multiply 66 = .ok (.aload_n 0, 1) := by decide +kernel
theorem d_R_multiply_67 : decode b_R_multiply 67 = .ok (.getfield 13, 3) := by decide +kernel
theorem d_R_multiply_70 : decode b_R_multiply 70 = .ok (.iload 5, 2) := by decide +kernel
theorem d_R_multiply_72 : decode b_R_multiply 72 = .ok (.iload 8, 2) := by decide +kernel
theorem d_R_multiply_74 : decode b_R_multiply 74 = .ok (.iadd, 1) := by decide +kernel
theorem d_R_multiply_75 : decode b_R_multiply 75 = .ok (.dup2, 1) := by decide +kernel
theorem d_R_multiply_76 : decode b_R_multiply 76 = .ok (.laload, 1) := by decide +kernel
theorem d_R_multiply_77 : decode b_R_multiply 77 = .ok (.lload 6, 2) := by decide +kernel
theorem d_R_multiply_79 : decode b_R_multiply 79 = .ok (.aload_n 0, 1) := by decide +kernel
theorem d_R_multiply_80 : decode b_R_multiply 80 = .ok (.getfield 7, 3) := by decide +kernel
theorem d_R_multiply_83 : decode b_R_multiply 83 = .ok (.bipush 10, 2) := by decide +kernel
theorem d_R_multiply_85 : decode b_R_multiply 85 = .ok (.iload_n 3, 1) := by decide +kernel
theorem d_R_multiply_86 : decode b_R_multiply 86 = .ok (.imul, 1) := by decide +kernel
theorem d_R_multiply_87 : decode b_R_multiply 87 = .ok (.iload 8, 2) := by decide +kernel
theorem d_R_multiply_89 : decode b_R_multiply 89 = .ok (.iadd, 1) := by decide +kernel
theorem d_R_multiply_90 : decode b_R_multiply 90 = .ok (.iaload, 1) := by decide +kernel
theorem d_R_multiply_91 : decode b_R_multiply 91 = .ok (.i2l, 1) := by decide +kernel
theorem d_R_multiply_92 : decode b_R_multiply 92 = .ok (.lmul, 1) := by decide +kernel
theorem d_R_multiply_93 : decode b_R_multiply 93 = .ok (.ladd, 1) := by decide +kernel
theorem d_R_multiply_94 : decode b_R_multiply 94 = .ok (.lastore, 1) := by decide +kernel
theorem d_R_multiply_95 : decode b_R_multiply 95 = .ok (.iinc 8 1, 3) := by decide +kernel
theorem d_R_multiply_98 : decode b_R_multiply 98 = .ok (.goto (-46), 3) := by decide +kernel
theorem d_R_multiply_101 : decode b_R_multiply 101 = .ok (.iinc 5 1, 3) := by decide +kernel
theorem d_R_multiply_104 : decode b_R_multiply 104 = .ok (.goto (-77), 3) := by decide +kernel
theorem d_R_multiply_107 : decode b_R_multiply 107 = .ok (.aload_n 0, 1) := by decide +kernel
theorem d_R_multiply_108 : decode b_R_multiply 108 = .ok (.invokevirtual 86, 3) := by decide +kernel
theorem d_R_multiply_111 : decode b_R_multiply 111 = .ok (.aload_n 0, 1) := by decide +kernel
theorem d_R_multiply_112 : decode b_R_multiply 112 = .ok (.invokevirtual 89, 3) := by decide +kernel
theorem d_R_multiply_115 : decode b_R_multiply 115 = .ok (.ifCond .eq 18, 3) := by decide +kernel
theorem d_R_multiply_118 : decode b_R_multiply 118 = .ok (.aload_n 0, 1) := by decide +kernel
theorem d_R_multiply_119 : decode b_R_multiply 119 = .ok (.bipush 10, 2) := by decide +kernel
theorem d_R_multiply_121 : decode b_R_multiply 121 = .ok (.iload 4, 2) := by decide +kernel
theorem d_R_multiply_123 : decode b_R_multiply 123 = .ok (.bipush 8, 2) := by decide +kernel
theorem d_R_multiply_125 : decode b_R_multiply 125 = .ok (.isub, 1) := by decide +kernel
theorem d_R_multiply_126 : decode b_R_multiply 126 = .ok (.imul, 1) := by decide +kernel
theorem d_R_multiply_127 : decode b_R_multiply 127 = .ok (.invokevirtual 93, 3) := by decide +kernel
theorem d_R_multiply_130 : decode b_R_multiply 130 = .ok (.goto (-19), 3) := by decide +kernel
theorem d_R_multiply_133 : decode b_R_multiply 133 = .ok (.iconst 0, 1) := by decide +kernel
theorem d_R_multiply_134 : decode b_R_multiply 134 = .ok (.istore 5, 2) := by decide +kernel
theorem d_R_multiply_136 : decode b_R_multiply 136 = .ok (.iload 5, 2) := by decide +kernel
theorem d_R_multiply_138 : decode b_R_multiply 138 = .ok (.bipush 10, 2) := by decide +kernel
theorem d_R_multiply_140 : decode b_R_multiply 140 = .ok (.if_icmp .ge 29, 3) := by decide +kernel
theorem d_R_multiply_143 : decode b_R_multiply 143 = .ok (.aload_n 0, 1) := by decide +kernel
theorem d_R_multiply_144 : decode b_R_multiply 144 = .ok (.getfield 7, 3) := by decide +kernel
theorem d_R_multiply_147 : decode b_R_multiply 147 = .ok (.bipush 10, 2) := by decide +kernel
theorem d_R_multiply_149 : decode b_R_multiply 149 = .ok (.iload_n 1, 1) := by decide +kernel
theorem d_R_multiply_150 : decode b_R_multiply 150 = .ok (.imul, 1) := by decide +kernel
theorem d_R_multiply_151 : decode b_R_multiply 151 = .ok (.iload 5, 2) := by decide +kernel
theorem d_R_multiply_153 : decode b_R_multiply 153 = .ok (.iadd, 1) := by decide +kernel
theorem d_R_multiply_154 : decode b_R_multiply 154 = .ok (.aload_n 0, 1) := by decide +kernel
theorem d_R_multiply_155 : decode b_R_multiply 155 = .ok (.getfield 13, 3) := by decide +kernel
theorem d_R_multiply_158 : decode b_R_multiply 158 = .ok (.iload 5, 2) := by decide +kernel
theorem d_R_multiply_160 : decode b_R_multiply 160 = .ok (.laload, 1) := by decide +kernel
theorem d_R_multiply_161 : decode b_R_multiply 161 = .ok (.l2i, 1) := by decide +kernel
theorem d_R_multiply_162 : decode b_R_multiply 162 = .ok (.iastore, 1) := by decide +kernel
theorem d_R_multiply_163 : decode b_R_multiply 163 = .ok (.iinc 5 1, 3) := by decide +kernel
theorem d_R_multiply_166 : decode b_R_multiply 166 = .ok (.goto (-30), 3) := by decide +kernel
theorem d_R_multiply_169 : decode b_R_multiply 169 = .ok (.aload_n 0, 1) := by decide +kernel
theorem d_R_multiply_170 : decode b_R_multiply 170 = .ok (.iload_n 1, 1) := by decide +kernel
theorem d_R_multiply_171 : decode b_R_multiply 171 = .ok (.iload 4, 2) := by decide +kernel
theorem d_R_multiply_173 : decode b_R_multiply 173 = .ok (.invokevirtual 78, 3) := by decide +kernel
theorem d_R_multiply_176 : decode b_R_multiply 176 = .ok (.ifCond .lt 11, 3) := by decide +kernel
theorem d_R_multiply_179 : decode b_R_multiply 179 = .ok (.aload_n 0, 1) := by decide +kernel
theorem d_R_multiply_180 : decode b_R_multiply 180 = .ok (.iload_n 1, 1) := by decide +kernel
theorem d_R_multiply_181 : decode b_R_multiply 181 = .ok (.iload 4, 2) := by decide +kernel
theorem d_R_multiply_183 : decode b_R_multiply 183 = .ok (.iconst (-1), 1) := by decide +kernel
theorem d_R_multiply_184 : decode b_R_multiply 184 = .ok (.invokevirtual 74, 3) := by decide +kernel
theorem d_R_multiply_187 : decode b_R_multiply 187 = .ok (.return_, 1) := by decide +kernel
theorem d_R_power_0 : decode b_R_power 0 = .ok (.aload_n 0, 1) := by decide +kernel
theorem d_R_power_1 : decode b_R_power 1 = .ok (.bipush 44, 2) := by decide +kernel
theorem d_R_power_3 : decode b_R_power 3 = .ok (.iload_n 2, 1) := by decide +kernel
theorem d_R_power_4 : decode b_R_power 4 = .ok (.invokevirtual 70, 3) := by decide +kernel
theorem d_R_power_7 : decode b_R_power 7 = .ok (.aload_n 0, 1) := by decide +kernel
theorem d_R_power_8 : decode b_R_power 8 = .ok (.bipush 38, 2) := by decide +kernel
theorem d_R_power_10 : decode b_R_power 10 = .ok (.bipush 20, 2) := by decide +kernel
theorem d_R_power_12 : decode b_R_power 12 = .ok (.invokevirtual 70, 3) := by decide +kernel
theorem d_R_power_15 : decode b_R_power 15 = .ok (.sipush 255, 3) := by decide +kernel
theorem d_R_power_18 : decode b_R_power 18 = .ok (.istore 4, 2) := by decide +kernel
theorem d_R_power_20 : decode b_R_power 20 = .ok (.iload 4, 2) := by decide +kernel
theorem d_R_power_22 : decode b_R_power 22 = .ok (.ifCond .lt 42, 3) := by decide +kernel
theorem d_R_power_25 : decode b_R_power 25 = .ok (.aload_n 0, 1) := by decide +kernel
theorem d_R_power_26 : decode b_R_power 26 = .ok (.bipush 38, 2) := by decide +kernel
theorem d_R_power_28 : decode b_R_power 28 = .ok (.bipush 38, 2) := by decide +kernel
theorem d_R_power_30 : decode b_R_power 30 = .ok (.bipush 38, 2) := by decide +kernel
theorem d_R_power_32 : decode b_R_power 32 = .ok (.iload_n 3, 1) := by decide +kernel
theorem d_R_power_33 : decode b_R_power 33 = .ok (.invokevirtual 96, 3) := by decide +kernel
theorem d_R_power_36 : decode b_R_power 36 = .ok (.aload_n 0, 1) := by decide +kernel
theorem d_R_power_37 : decode b_R_power 37 = .ok (.bipush 39, 2) := by decide +kernel
theorem d_R_power_39 : decode b_R_power 39 = .ok (.iload 4, 2) := by decide +kernel
theorem d_R_power_41 : decode b_R_power 41 = .ok (.invokevirtual 100, 3) := by decide +kernel
theorem d_R_power_44 : decode b_R_power 44 = .ok (.ifCond .eq 14, 3) := by decide +kernel
theorem d_R_power_47 : decode b_R_power 47 = .ok (.aload_n 0, 1) := by decide +kernel
theorem d_R_power_48 : decode b_R_power 48 = .ok (.bipush 38, 2) := by decide +kernel
theorem d_R_power_50 : decode b_R_power 50 = .ok (.bipush 38, 2) := by decide +kernel
theorem d_R_power_52 : decode b_R_power 52 = .ok (.bipush 44, 2) := by decide +kernel
theorem d_R_power_54 : decode b_R_power 54 = .ok (.iload_n 3, 1) := by decide +kernel
theorem d_R_power_55 : decode b_R_power 55 = .ok (.invokevirtual 96, 3) := by decide +kernel
theorem d_R_power_58 : decode b_R_power 58 = .ok (.iinc 4 (-1), 3) := by decide +kernel
theorem d_R_power_61 : decode b_R_power 61 = .ok (.goto (-41), 3) := by decide +kernel
theorem d_R_power_64 : decode b_R_power 64 = .ok (.aload_n 0, 1) := by decide +kernel
theorem d_R_power_65 : decode b_R_power 65 = .ok (.iload_n 1, 1) := by decide +kernel
theorem d_R_power_66 : decode b_R_power 66 = .ok (.bipush 38, 2) := by decide +kernel
theorem d_R_power_68 : decode b_R_power 68 = .ok (.invokevirtual 70, 3) := by decide +kernel
theorem d_R_power_71 : decode b_R_power 71 = .ok (.return_, 1) := by decide +kernel
theorem d_R_divide_0 : decode b_R_divide 0 = .ok (.aload_n 0, 1) := by decide +kernel
theorem d_R_divide_1 : decode b_R_divide 1 = .ok (.bipush 39, 2) := by decide +kernel
theorem d_R_divide_3 : decode b_R_divide 3 = .ok (.iload 4, 2) := by decide +kernel
theorem d_R_divide_5 : decode b_R_divide 5 = .ok (.invokevirtual 70, 3) := by decide +kernel
theorem d_R_divide_8 : decode b_R_divide 8 = .ok (.aload_n 0, 1) := by decide +kernel
theorem d_R_divide_9 : decode b_R_divide 9 = .ok (.getfield 7, 3) := by decide +kernel
theorem d_R_divide_12 : decode b_R_divide 12 = .ok (.sipush 390, 3) := by decide +kernel
theorem d_R_divide_15 : decode b_R_divide 15 = .ok (.dup2, 1) := by decide +kernel
theorem d_R_divide_16 : decode b_R_divide 16 = .ok (.iaload, 1) := by decide +kernel
theorem d_R_divide_17 : decode b_R_divide 17 = .ok (.iconst 2, 1) := by decide +kernel
theorem d_R_divide_18 : decode b_R_divide 18 = .ok (.isub, 1) := by decide +kernel
theorem d_R_divide_19 : decode b_R_divide 19 = .ok (.iastore, 1) := by decide +kernel
theorem d_R_divide_20 : decode b_R_divide 20 = .ok (.aload_n 0, 1) := by decide +kernel
theorem d_R_divide_21 : decode b_R_divide 21 = .ok (.bipush 45, 2) := by decide +kernel
theorem d_R_divide_23 : decode b_R_divide 23 = .ok (.iload_n 2, 1) := by decide +kernel
theorem d_R_divide_24 : decode b_R_divide 24 = .ok (.invokevirtual 70, 3) := by decide +kernel
theorem d_R_divide_27 : decode b_R_divide 27 = .ok (.aload_n 0, 1) := by decide +kernel
theorem d_R_divide_28 : decode b_R_divide 28 = .ok (.bipush 46, 2) := by decide +kernel
theorem d_R_divide_30 : decode b_R_divide 30 = .ok (.iload_n 3, 1) := by decide +kernel
theorem d_R_divide_31 : decode b_R_divide 31 = .ok (.iload 4, 2) := by decide +kernel
theorem d_R_divide_33 : decode b_R_divide 33 = .ok (.invokevirtual 104, 3) := by decide +kernel
theorem d_R_divide_36 : decode b_R_divide 36 = .ok (.aload_n 0, 1) := by decide +kernel
theorem d_R_divide_37 : decode b_R_divide 37 = .ok (.iload_n 1, 1) := by decide +kernel
theorem d_R_divide_38 : decode b_R_divide 38 = .ok (.bipush 45, 2) := by decide +kernel
theorem d_R_divide_40 : decode b_R_divide 40 = .ok (.bipush 46, 2) := by decide +kernel
theorem d_R_divide_42 : decode b_R_divide 42 = .ok (.iload 4, 2) := by decide +kernel
theorem d_R_divide_44 : decode b_R_divide 44 = .ok (.invokevirtual 96, 3) := by decide +kernel
theorem d_R_divide_47 : decode b_R_divide 47 = .ok (.return_, 1) := by decide +kernel
theorem d_R_roots_0 : decode b_R_roots 0 = .ok (.aload_n 0, 1) := by decide +kernel
theorem d_R_roots_1 : decode b_R_roots 1 = .ok (.bipush 47, 2) := by decide +kernel
theorem d_R_roots_3 : decode b_R_roots 3 = .ok (.iload_n 2, 1) := by decide +kernel
theorem d_R_roots_4 : decode b_R_roots 4 = .ok (.invokevirtual 70, 3) := by decide +kernel
theorem d_R_roots_7 : decode b_R_roots 7 = .ok (.aload_n 0, 1) := by decide +kernel
theorem d_R_roots_8 : decode b_R_roots 8 = .ok (.bipush 39, 2) := by decide +kernel
theorem d_R_roots_10 : decode b_R_roots 10 = .ok (.bipush 8, 2) := by decide +kernel
theorem d_R_roots_12 : decode b_R_roots 12 = .ok (.invokevirtual 70, 3) := by decide +kernel
theorem d_R_roots_15 : decode b_R_roots 15 = .ok (.aload_n 0, 1) := by decide +kernel
theorem d_R_roots_16 : decode b_R_roots 16 = .ok (.bipush 39, 2) := by decide +kernel
theorem d_R_roots_18 : decode b_R_roots 18 = .ok (.bipush 20, 2) := by decide +kernel
theorem d_R_roots_20 : decode b_R_roots 20 = .ok (.iconst 1, 1) := by decide +kernel
theorem d_R_roots_21 : decode b_R_roots 21 = .ok (.invokevirtual 74, 3) := by decide +kernel
theorem d_R_roots_24 : decode b_R_roots 24 = .ok (.iconst 0, 1) := by decide +kernel
theorem d_R_roots_25 : decode b_R_roots 25 = .ok (.istore_n 3, 1) := by decide +kernel
theorem d_R_roots_26 : decode b_R_roots 26 = .ok (.iload_n 3, 1) := by decide +kernel
theorem d_R_roots_27 : decode b_R_roots 27 = .ok (.iconst 2, 1) := by decide +kernel
theorem d_R_roots_28 : decode b_R_roots 28 = .ok (.if_icmp .ge 85, 3) := by decide +kernel
theorem d_R_roots_31 : decode b_R_roots 31 = .ok (.iconst 0, 1) := by decide +kernel
theorem d_R_roots_32 : decode b_R_roots 32 = .ok (.istore 4, 2) := by decide +kernel
theorem d_R_roots_34 : decode b_R_roots 34 = .ok (.iload 4, 2) := by decide +kernel
theorem d_R_roots_36 : decode b_R_roots 36 = .ok (.bipush 10, 2) := by decide +kernel
theorem d_R_roots_38 : decode b_R_roots 38 = .ok (.if_icmp .ge 69, 3) := by decide +kernel
theorem d_R_roots_41 : decode b_R_roots 41 = .ok (.iload 4, 2) := by decide +kernel
theorem d_R_roots_43 : decode b_R_roots 43 = .ok (.iconst 1, 1) := by decide +kernel
theorem d_R_roots_44 : decode b_R_roots 44 = .ok (.iadd, 1) := by decide +kernel
theorem d_R_roots_45 : decode b_R_roots 45 = .ok (.bipush 10, 2) := by decide +kernel
theorem d_R_roots_47 : decode b_R_roots 47 = .ok (.if_icmp .ge 19, 3) := by decide +kernel
theorem d_R_roots_50 : decode b_R_roots 50 = .ok (.aload_n 0, 1) := by decide +kernel
theorem d_R_roots_51 : decode b_R_roots 51 = .ok (.getfield 7, 3) := by decide +kernel
theorem d_R_roots_54 : decode b_R_roots 54 = .ok (.sipush 390, 3) := by decide +kernel
theorem d_R_roots_57 : decode b_R_roots 57 = .ok (.iload 4, 2) := by decide +kernel
theorem d_R_roots_59 : decode b_R_roots 59 = .ok (.iadd, 1) := by decide +kernel
theorem d_R_roots_60 : decode b_R_roots 60 = .ok (.iconst 1, 1) := by decide +kernel
theorem d_R_roots_61 : decode b_R_roots 61 = .ok (.iadd, 1) := by decide +kernel
theorem d_R_roots_62 : decode b_R_roots 62 = .ok (.iaload, 1) := by decide +kernel
theorem d_R_roots_63 : decode b_R_roots 63 = .ok (.goto 4, 3) := by decide +kernel
theorem d_R_roots_66 : decode b_R_roots 66 = .ok (.iconst 0, 1) := by decide +kernel
theorem d_R_roots_67 : decode b_R_roots 67 = .ok (.istore 5, 2) := by decide +kernel
theorem d_R_roots_69 : decode b_R_roots 69 = .ok (.aload_n 0, 1) := by decide +kernel
theorem d_R_roots_70 : decode b_R_roots 70 = .ok (.getfield 7, 3) := by decide +kernel
theorem d_R_roots_73 : decode b_R_roots 73 = .ok (.sipush 390, 3) := by decide +kernel
theorem d_R_roots_76 : decode b_R_roots 76 = .ok (.iload 4, 2) := by decide +kernel
theorem d_R_roots_78 : decode b_R_roots 78 = .ok (.iadd, 1) := by decide +kernel
theorem d_R_roots_79 : decode b_R_roots 79 = .ok (.aload_n 0, 1) := by decide +kernel
theorem d_R_roots_80 : decode b_R_roots 80 = .ok (.getfield 7, 3) := by decide +kernel
theorem d_R_roots_83 : decode b_R_roots 83 = .ok (.sipush 390, 3) := by decide +kernel
theorem d_R_roots_86 : decode b_R_roots 86 = .ok (.iload 4, 2) := by decide +kernel
theorem d_R_roots_88 : decode b_R_roots 88 = .ok (.iadd, 1) := by decide +kernel
theorem d_R_roots_89 : decode b_R_roots 89 = .ok (.iaload, 1) := by decide +kernel
theorem d_R_roots_90 : decode b_R_roots 90 = .ok (.iconst 2, 1) := by decide +kernel
theorem d_R_roots_91 : decode b_R_roots 91 = .ok (.idiv, 1) := by decide +kernel
theorem d_R_roots_92 : decode b_R_roots 92 = .ok (.iload 5, 2) := by decide +kernel
theorem d_R_roots_94 : decode b_R_roots 94 = .ok (.iconst 2, 1) := by decide +kernel
theorem d_R_roots_95 : decode b_R_roots 95 = .ok (.irem, 1) := by decide +kernel
theorem d_R_roots_96 : decode b_R_roots 96 = .ok (.ldc 107, 2) := by decide +kernel
theorem d_R_roots_98 : decode b_R_roots 98 = .ok (.imul, 1) := by decide +kernel
theorem d_R_roots_99 : decode b_R_roots 99 = .ok (.iadd, 1) := by decide +kernel
theorem d_R_roots_100 : decode b_R_roots 100 = .ok (.iastore, 1) := by decide +kernel
theorem d_R_roots_101 : decode b_R_roots 101 = .ok (.iinc 4 1, 3) := by decide +kernel
theorem d_R_roots_104 : decode b_R_roots 104 = .ok (.goto (-70), 3) := by decide +kernel
theorem d_R_roots_107 : decode b_R_roots 107 = .ok (.iinc 3 1, 3) := by decide +kernel
theorem d_R_roots_110 : decode b_R_roots 110 = .ok (.goto (-84), 3) := by decide +kernel
theorem d_R_roots_113 : decode b_R_roots 113 = .ok (.aload_n 0, 1) := by decide +kernel
theorem d_R_roots_114 : decode b_R_roots 114 = .ok (.bipush 45, 2) := by decide +kernel
theorem d_R_roots_116 : decode b_R_roots 116 = .ok (.bipush 47, 2) := by decide +kernel
theorem d_R_roots_118 : decode b_R_roots 118 = .ok (.bipush 8, 2) := by decide +kernel
theorem d_R_roots_120 : decode b_R_roots 120 = .ok (.invokevirtual 104, 3) := by decide +kernel
theorem d_R_roots_123 : decode b_R_roots 123 = .ok (.aload_n 0, 1) := by decide +kernel
theorem d_R_roots_124 : decode b_R_roots 124 = .ok (.bipush 46, 2) := by decide +kernel
theorem d_R_roots_126 : decode b_R_roots 126 = .ok (.bipush 45, 2) := by decide +kernel
theorem d_R_roots_128 : decode b_R_roots 128 = .ok (.bipush 45, 2) := by decide +kernel
theorem d_R_roots_130 : decode b_R_roots 130 = .ok (.bipush 8, 2) := by decide +kernel
theorem d_R_roots_132 : decode b_R_roots 132 = .ok (.invokevirtual 96, 3) := by decide +kernel
theorem d_R_roots_135 : decode b_R_roots 135 = .ok (.aload_n 0, 1) := by decide +kernel
theorem d_R_roots_136 : decode b_R_roots 136 = .ok (.bipush 46, 2) := by decide +kernel
theorem d_R_roots_138 : decode b_R_roots 138 = .ok (.bipush 47, 2) := by decide +kernel
theorem d_R_roots_140 : decode b_R_roots 140 = .ok (.invokevirtual 78, 3) := by decide +kernel
theorem d_R_roots_143 : decode b_R_roots 143 = .ok (.ifCond .eq 5, 3) := by decide +kernel
theorem d_R_roots_146 : decode b_R_roots 146 = .ok (.iconst 0, 1) := by decide +kernel
theorem d_R_roots_147 : decode b_R_roots 147 = .ok (.ireturn, 1) := by decide +kernel
theorem d_R_roots_148 : decode b_R_roots 148 = .ok (.aload_n 0, 1) := by decide +kernel
theorem d_R_roots_149 : decode b_R_roots 149 = .ok (.bipush 45, 2) := by decide +kernel
theorem d_R_roots_151 : decode b_R_roots 151 = .ok (.invokevirtual 108, 3) := by decide +kernel
theorem d_R_roots_154 : decode b_R_roots 154 = .ok (.ifCond .eq 21, 3) := by decide +kernel
theorem d_R_roots_157 : decode b_R_roots 157 = .ok (.aload_n 0, 1) := by decide +kernel
theorem d_R_roots_158 : decode b_R_roots 158 = .ok (.bipush 46, 2) := by decide +kernel
theorem d_R_roots_160 : decode b_R_roots 160 = .ok (.invokevirtual 62, 3) := by decide +kernel
theorem d_R_roots_163 : decode b_R_roots 163 = .ok (.aload_n 0, 1) := by decide +kernel
theorem d_R_roots_164 : decode b_R_roots 164 = .ok (.bipush 45, 2) := by decide +kernel
theorem d_R_roots_166 : decode b_R_roots 166 = .ok (.bipush 46, 2) := by decide +kernel
theorem d_R_roots_168 : decode b_R_roots 168 = .ok (.bipush 45, 2) := by decide +kernel
theorem d_R_roots_170 : decode b_R_roots 170 = .ok (.bipush 8, 2) := by decide +kernel
theorem d_R_roots_172 : decode b_R_roots 172 = .ok (.invokevirtual 112, 3) := by decide +kernel
theorem d_R_roots_175 : decode b_R_roots 175 = .ok (.aload_n 0, 1) := by decide +kernel
theorem d_R_roots_176 : decode b_R_roots 176 = .ok (.iload_n 1, 1) := by decide +kernel
theorem d_R_roots_177 : decode b_R_roots 177 = .ok (.bipush 45, 2) := by decide +kernel
theorem d_R_roots_179 : decode b_R_roots 179 = .ok (.invokevirtual 70, 3) := by decide +kernel
theorem d_R_roots_182 : decode b_R_roots 182 = .ok (.iconst 1, 1) := by decide +kernel
theorem d_R_roots_183 : decode b_R_roots 183 = .ok (.ireturn, 1) := by decide +kernel
theorem d_R_isNone_0 : decode b_R_isNone 0 = .ok (.aload_n 0, 1) := by decide +kernel
theorem d_R_isNone_1 : decode b_R_isNone 1 = .ok (.iload_n 1, 1) := by decide +kernel
theorem d_R_isNone_2 : decode b_R_isNone 2 = .ok (.iconst 2, 1) := by decide +kernel
theorem d_R_isNone_3 : decode b_R_isNone 3 = .ok (.iadd, 1) := by decide +kernel
theorem d_R_isNone_4 : decode b_R_isNone 4 = .ok (.invokevirtual 115, 3) := by decide +kernel
theorem d_R_isNone_7 : decode b_R_isNone 7 = .ok (.ireturn, 1) := by decide +kernel
theorem d_R_copyPoint_0 : decode b_R_copyPoint 0 = .ok (.aload_n 0, 1) := by decide +kernel
theorem d_R_copyPoint_1 : decode b_R_copyPoint 1 = .ok (.iload_n 1, 1) := by decide +kernel
theorem d_R_copyPoint_2 : decode b_R_copyPoint 2 = .ok (.iload_n 2, 1) := by decide +kernel
theorem d_R_copyPoint_3 : decode b_R_copyPoint 3 = .ok (.invokevirtual 70, 3) := by decide +kernel
theorem d_R_copyPoint_6 : decode b_R_copyPoint 6 = .ok (.aload_n 0, 1) := by decide +kernel
theorem d_R_copyPoint_7 : decode b_R_copyPoint 7 = .ok (.iload_n 1, 1) := by decide +kernel
theorem d_R_copyPoint_8 : decode b_R_copyPoint 8 = .ok (.iconst 1, 1) := by decide +kernel
theorem d_R_copyPoint_9 : decode b_R_copyPoint 9 = .ok (.iadd, 1) := by decide +kernel
