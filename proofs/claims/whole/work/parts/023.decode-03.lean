/-! the instructions -/
theorem d_R_init_86 : decode b_R_init 86 = .ok (.aload_n 0, 1) := by decide +kernel
theorem d_R_init_87 : decode b_R_init 87 = .ok (.bipush 9, 2) := by decide +kernel
theorem d_R_init_89 : decode b_R_init 89 = .ok (.ldc2_w 30, 3) := by decide +kernel
theorem d_R_init_92 : decode b_R_init 92 = .ok (.ldc2_w 38, 3) := by decide +kernel
theorem d_R_init_95 : decode b_R_init 95 = .ok (.ldc2_w 40, 3) := by decide +kernel
theorem d_R_init_98 : decode b_R_init 98 = .ok (.ldc2_w 42, 3) := by decide +kernel
theorem d_R_init_101 : decode b_R_init 101 = .ok (.invokevirtual 34, 3) := by decide +kernel
theorem d_R_init_104 : decode b_R_init 104 = .ok (.aload_n 0, 1) := by decide +kernel
theorem d_R_init_105 : decode b_R_init 105 = .ok (.bipush 18, 2) := by decide +kernel
theorem d_R_init_107 : decode b_R_init 107 = .ok (.ldc2_w 44, 3) := by decide +kernel
theorem d_R_init_110 : decode b_R_init 110 = .ok (.ldc2_w 46, 3) := by decide +kernel
theorem d_R_init_113 : decode b_R_init 113 = .ok (.ldc2_w 48, 3) := by decide +kernel
theorem d_R_init_116 : decode b_R_init 116 = .ok (.ldc2_w 50, 3) := by decide +kernel
theorem d_R_init_119 : decode b_R_init 119 = .ok (.invokevirtual 34, 3) := by decide +kernel
theorem d_R_init_122 : decode b_R_init 122 = .ok (.aload_n 0, 1) := by decide +kernel
theorem d_R_init_123 : decode b_R_init 123 = .ok (.bipush 19, 2) := by decide +kernel
theorem d_R_init_125 : decode b_R_init 125 = .ok (.ldc2_w 52, 3) := by decide +kernel
theorem d_R_init_128 : decode b_R_init 128 = .ok (.ldc2_w 54, 3) := by decide +kernel
theorem d_R_init_131 : decode b_R_init 131 = .ok (.ldc2_w 56, 3) := by decide +kernel
theorem d_R_init_134 : decode b_R_init 134 = .ok (.ldc2_w 58, 3) := by decide +kernel
theorem d_R_init_137 : decode b_R_init 137 = .ok (.invokevirtual 34, 3) := by decide +kernel
theorem d_R_init_140 : decode b_R_init 140 = .ok (.aload_n 0, 1) := by decide +kernel
theorem d_R_init_141 : decode b_R_init 141 = .ok (.getfield 7, 3) := by decide +kernel
theorem d_R_init_144 : decode b_R_init 144 = .ok (.sipush 200, 3) := by decide +kernel
theorem d_R_init_147 : decode b_R_init 147 = .ok (.iconst 1, 1) := by decide +kernel
theorem d_R_init_148 : decode b_R_init 148 = .ok (.iastore, 1) := by decide +kernel
theorem d_R_init_149 : decode b_R_init 149 = .ok (.aload_n 0, 1) := by decide +kernel
theorem d_R_init_150 : decode b_R_init 150 = .ok (.getfield 7, 3) := by decide +kernel
theorem d_R_init_153 : decode b_R_init 153 = .ok (.sipush 210, 3) := by decide +kernel
theorem d_R_init_156 : decode b_R_init 156 = .ok (.bipush 7, 2) := by decide +kernel
theorem d_R_init_158 : decode b_R_init 158 = .ok (.iastore, 1) := by decide +kernel
theorem d_R_init_159 : decode b_R_init 159 = .ok (.iconst 0, 1) := by decide +kernel
theorem d_R_init_160 : decode b_R_init 160 = .ok (.istore_n 1, 1) := by decide +kernel
theorem d_R_init_161 : decode b_R_init 161 = .ok (.iload_n 1, 1) := by decide +kernel
theorem d_R_init_162 : decode b_R_init 162 = .ok (.iconst 2, 1) := by decide +kernel
theorem d_R_init_163 : decode b_R_init 163 = .ok (.if_icmp .ge 76, 3) := by decide +kernel
theorem d_R_init_166 : decode b_R_init 166 = .ok (.iconst 0, 1) := by decide +kernel
theorem d_R_init_167 : decode b_R_init 167 = .ok (.istore_n 2, 1) := by decide +kernel
theorem d_R_init_168 : decode b_R_init 168 = .ok (.iconst 0, 1) := by decide +kernel
theorem d_R_init_169 : decode b_R_init 169 = .ok (.istore_n 3, 1) := by decide +kernel
theorem d_R_init_170 : decode b_R_init 170 = .ok (.iload_n 3, 1) := by decide +kernel
theorem d_R_init_171 : decode b_R_init 171 = .ok (.bipush 10, 2) := by decide +kernel
theorem d_R_init_173 : decode b_R_init 173 = .ok (.if_icmp .ge 60, 3) := by decide +kernel
theorem d_R_init_176 : decode b_R_init 176 = .ok (.iload_n 2, 1) := by decide +kernel
theorem d_R_init_177 : decode b_R_init 177 = .ok (.aload_n 0, 1) := by decide +kernel
theorem d_R_init_178 : decode b_R_init 178 = .ok (.getfield 7, 3) := by decide +kernel
theorem d_R_init_181 : decode b_R_init 181 = .ok (.bipush 10, 2) := by decide +kernel
theorem d_R_init_183 : decode b_R_init 183 = .ok (.bipush 8, 2) := by decide +kernel
theorem d_R_init_185 : decode b_R_init 185 = .ok (.iload_n 1, 1) := by decide +kernel
theorem d_R_init_186 : decode b_R_init 186 = .ok (.iadd, 1) := by decide +kernel
theorem d_R_init_187 : decode b_R_init 187 = .ok (.imul, 1) := by decide +kernel
theorem d_R_init_188 : decode b_R_init 188 = .ok (.iload_n 3, 1) := by decide +kernel
theorem d_R_init_189 : decode b_R_init 189 = .ok (.iadd, 1) := by decide +kernel
theorem d_R_init_190 : decode b_R_init 190 = .ok (.iaload, 1) := by decide +kernel
theorem d_R_init_191 : decode b_R_init 191 = .ok (.isub, 1) := by decide +kernel
theorem d_R_init_192 : decode b_R_init 192 = .ok (.istore 4, 2) := by decide +kernel
theorem d_R_init_194 : decode b_R_init 194 = .ok (.aload_n 0, 1) := by decide +kernel
theorem d_R_init_195 : decode b_R_init 195 = .ok (.getfield 20, 3) := by decide +kernel
theorem d_R_init_198 : decode b_R_init 198 = .ok (.bipush 10, 2) := by decide +kernel
theorem d_R_init_200 : decode b_R_init 200 = .ok (.iload_n 1, 1) := by decide +kernel
theorem d_R_init_201 : decode b_R_init 201 = .ok (.imul, 1) := by decide +kernel
theorem d_R_init_202 : decode b_R_init 202 = .ok (.iload_n 3, 1) := by decide +kernel
theorem d_R_init_203 : decode b_R_init 203 = .ok (.iadd, 1) := by decide +kernel
theorem d_R_init_204 : decode b_R_init 204 = .ok (.iload 4, 2) := by decide +kernel
theorem d_R_init_206 : decode b_R_init 206 = .ok (.iload_n 3, 1) := by decide +kernel
theorem d_R_init_207 : decode b_R_init 207 = .ok (.bipush 9, 2) := by decide +kernel
theorem d_R_init_209 : decode b_R_init 209 = .ok (.if_icmp .ge 8, 3) := by decide +kernel
theorem d_R_init_212 : decode b_R_init 212 = .ok (.ldc 60, 2) := by decide +kernel
theorem d_R_init_214 : decode b_R_init 214 = .ok (.goto 5, 3) := by decide +kernel
theorem d_R_init_217 : decode b_R_init 217 = .ok (.ldc 61, 2) := by decide +kernel
theorem d_R_init_219 : decode b_R_init 219 = .ok (.iand, 1) := by decide +kernel
theorem d_R_init_220 : decode b_R_init 220 = .ok (.iastore, 1) := by decide +kernel
theorem d_R_init_221 : decode b_R_init 221 = .ok (.iload 4, 2) := by decide +kernel
theorem d_R_init_223 : decode b_R_init 223 = .ok (.bipush 26, 2) := by decide +kernel
theorem d_R_init_225 : decode b_R_init 225 = .ok (.ishr, 1) := by decide +kernel
theorem d_R_init_226 : decode b_R_init 226 = .ok (.istore_n 2, 1) := by decide +kernel
theorem d_R_init_227 : decode b_R_init 227 = .ok (.iinc 3 1, 3) := by decide +kernel
theorem d_R_init_230 : decode b_R_init 230 = .ok (.goto (-60), 3) := by decide +kernel
theorem d_R_init_233 : decode b_R_init 233 = .ok (.iinc 1 1, 3) := by decide +kernel
theorem d_R_init_236 : decode b_R_init 236 = .ok (.goto (-75), 3) := by decide +kernel
theorem d_R_init_239 : decode b_R_init 239 = .ok (.return_, 1) := by decide +kernel
theorem d_R_wordOf_0 : decode b_R_wordOf 0 = .ok (.iload_n 0, 1) := by decide +kernel
theorem d_R_wordOf_1 : decode b_R_wordOf 1 = .ok (.ifCond .ne 8, 3) := by decide +kernel
theorem d_R_wordOf_4 : decode b_R_wordOf 4 = .ok (.lload 7, 2) := by decide +kernel
theorem d_R_wordOf_6 : decode b_R_wordOf 6 = .ok (.goto 23, 3) := by decide +kernel
theorem d_R_wordOf_9 : decode b_R_wordOf 9 = .ok (.iload_n 0, 1) := by decide +kernel
theorem d_R_wordOf_10 : decode b_R_wordOf 10 = .ok (.iconst 1, 1) := by decide +kernel
theorem d_R_wordOf_11 : decode b_R_wordOf 11 = .ok (.if_icmp .ne 8, 3) := by decide +kernel
theorem d_R_wordOf_14 : decode b_R_wordOf 14 = .ok (.lload 5, 2) := by decide +kernel
theorem d_R_wordOf_16 : decode b_R_wordOf 16 = .ok (.goto 13, 3) := by decide +kernel
theorem d_R_wordOf_19 : decode b_R_wordOf 19 = .ok (.iload_n 0, 1) := by decide +kernel
theorem d_R_wordOf_20 : decode b_R_wordOf 20 = .ok (.iconst 2, 1) := by decide +kernel
theorem d_R_wordOf_21 : decode b_R_wordOf 21 = .ok (.if_icmp .ne 7, 3) := by decide +kernel
theorem d_R_wordOf_24 : decode b_R_wordOf 24 = .ok (.lload_n 3, 1) := by decide +kernel
theorem d_R_wordOf_25 : decode b_R_wordOf 25 = .ok (.goto 4, 3) := by decide +kernel
theorem d_R_wordOf_28 : decode b_R_wordOf 28 = .ok (.lload_n 1, 1) := by decide +kernel
theorem d_R_wordOf_29 : decode b_R_wordOf 29 = .ok (.lreturn, 1) := by decide +kernel
theorem d_R_write_0 : decode b_R_write 0 = .ok (.aload_n 0, 1) := by decide +kernel
theorem d_R_write_1 : decode b_R_write 1 = .ok (.iload_n 1, 1) := by decide +kernel
theorem d_R_write_2 : decode b_R_write 2 = .ok (.invokevirtual 62, 3) := by decide +kernel
theorem d_R_write_5 : decode b_R_write 5 = .ok (.iconst 0, 1) := by decide +kernel
theorem d_R_write_6 : decode b_R_write 6 = .ok (.istore 10, 2) := by decide +kernel
theorem d_R_write_8 : decode b_R_write 8 = .ok (.iload 10, 2) := by decide +kernel
theorem d_R_write_10 : decode b_R_write 10 = .ok (.sipush 256, 3) := by decide +kernel
theorem d_R_write_13 : decode b_R_write 13 = .ok (.if_icmp .ge 61, 3) := by decide +kernel
theorem d_R_write_16 : decode b_R_write 16 = .ok (.iload 10, 2) := by decide +kernel
theorem d_R_write_18 : decode b_R_write 18 = .ok (.bipush 64, 2) := by decide +kernel
theorem d_R_write_20 : decode b_R_write 20 = .ok (.idiv, 1) := by decide +kernel
theorem d_R_write_21 : decode b_R_write 21 = .ok (.lload_n 2, 1) := by decide +kernel
theorem d_R_write_22 : decode b_R_write 22 = .ok (.lload 4, 2) := by decide +kernel
theorem d_R_write_24 : decode b_R_write 24 = .ok (.lload 6, 2) := by decide +kernel
theorem d_R_write_26 : decode b_R_write 26 = .ok (.lload 8, 2) := by decide +kernel
theorem d_R_write_28 : decode b_R_write 28 = .ok (.invokestatic 66, 3) := by decide +kernel
theorem d_R_write_31 : decode b_R_write 31 = .ok (.iload 10, 2) := by decide +kernel
theorem d_R_write_33 : decode b_R_write 33 = .ok (.bipush 64, 2) := by decide +kernel
theorem d_R_write_35 : decode b_R_write 35 = .ok (.irem, 1) := by decide +kernel
theorem d_R_write_36 : decode b_R_write 36 = .ok (.lshr, 1) := by decide +kernel
theorem d_R_write_37 : decode b_R_write 37 = .ok (.lconst 1, 1) := by decide +kernel
theorem d_R_write_38 : decode b_R_write 38 = .ok (.land, 1) := by decide +kernel
theorem d_R_write_39 : decode b_R_write 39 = .ok (.lstore 11, 2) := by decide +kernel
theorem d_R_write_41 : decode b_R_write 41 = .ok (.aload_n 0, 1) := by decide +kernel
theorem d_R_write_42 : decode b_R_write 42 = .ok (.getfield 7, 3) := by decide +kernel
theorem d_R_write_45 : decode b_R_write 45 = .ok (.bipush 10, 2) := by decide +kernel
theorem d_R_write_47 : decode b_R_write 47 = .ok (.iload_n 1, 1) := by decide +kernel
theorem d_R_write_48 : decode b_R_write 48 = .ok (.imul, 1) := by decide +kernel
theorem d_R_write_49 : decode b_R_write 49 = .ok (.iload 10, 2) := by decide +kernel
theorem d_R_write_51 : decode b_R_write 51 = .ok (.bipush 26, 2) := by decide +kernel
theorem d_R_write_53 : decode b_R_write 53 = .ok (.idiv, 1) := by decide +kernel
theorem d_R_write_54 : decode b_R_write 54 = .ok (.iadd, 1) := by decide +kernel
theorem d_R_write_55 : decode b_R_write 55 = .ok (.dup2, 1) := by decide +kernel
theorem d_R_write_56 : decode b_R_write 56 = .ok (.iaload, 1) := by decide +kernel
theorem d_R_write_57 : decode b_R_write 57 = .ok (.lload 11, 2) := by decide +kernel
theorem d_R_write_59 : decode b_R_write 59 = .ok (.l2i, 1) := by decide +kernel
theorem d_R_write_60 : decode b_R_write 60 = .ok (.iload 10, 2) := by decide +kernel
theorem d_R_write_62 : decode b_R_write 62 = .ok (.bipush 26, 2) := by decide +kernel
theorem d_R_write_64 : decode b_R_write 64 = .ok (.irem, 1) := by decide +kernel
theorem d_R_write_65 : decode b_R_write 65 = .ok (.ishl, 1) := by decide +kernel
theorem d_R_write_66 : decode b_R_write 66 = .ok (.ior, 1) := by decide +kernel
theorem d_R_write_67 : decode b_R_write 67 = .ok (.iastore, 1) := by decide +kernel
theorem d_R_write_68 : decode b_R_write 68 = .ok (.iinc 10 1, 3) := by decide +kernel
theorem d_R_write_71 : decode b_R_write 71 = .ok (.goto (-63), 3) := by decide +kernel
theorem d_R_write_74 : decode b_R_write 74 = .ok (.return_, 1) := by decide +kernel
theorem d_R_copy_0 : decode b_R_copy 0 = .ok (.iconst 0, 1) := by decide +kernel
theorem d_R_copy_1 : decode b_R_copy 1 = .ok (.istore_n 3, 1) := by decide +kernel
theorem d_R_copy_2 : decode b_R_copy 2 = .ok (.iload_n 3, 1) := by decide +kernel
theorem d_R_copy_3 : decode b_R_copy 3 = .ok (.bipush 10, 2) := by decide +kernel
theorem d_R_copy_5 : decode b_R_copy 5 = .ok (.if_icmp .ge 31, 3) := by decide +kernel
theorem d_R_copy_8 : decode b_R_copy 8 = .ok (.aload_n 0, 1) := by decide +kernel
theorem d_R_copy_9 : decode b_R_copy 9 = .ok (.getfield 7, 3) := by decide +kernel
theorem d_R_copy_12 : decode b_R_copy 12 = .ok (.bipush 10, 2) := by decide +kernel
theorem d_R_copy_14 : decode b_R_copy 14 = .ok (.iload_n 1, 1) := by decide +kernel
theorem d_R_copy_15 : decode b_R_copy 15 = .ok (.imul, 1) := by decide +kernel
theorem d_R_copy_16 : decode b_R_copy 16 = .ok (.iload_n 3, 1) := by decide +kernel
theorem d_R_copy_17 : decode b_R_copy 17 = .ok (.iadd, 1) := by decide +kernel
theorem d_R_copy_18 : decode b_R_copy 18 = .ok (.aload_n 0, 1) := by decide +kernel
theorem d_R_copy_19 : decode b_R_copy 19 = .ok (.getfield 7, 3) := by decide +kernel
theorem d_R_copy_22 : decode b_R_copy 22 = .ok (.bipush 10, 2) := by decide +kernel
theorem d_R_copy_24 : decode b_R_copy 24 = .ok (.iload_n 2, 1) := by decide +kernel
theorem d_R_copy_25 : decode b_R_copy 25 = .ok (.imul, 1) := by decide +kernel
theorem d_R_copy_26 : decode b_R_copy 26 = .ok (.iload_n 3, 1) := by decide +kernel
theorem d_R_copy_27 : decode b_R_copy 27 = .ok (.iadd, 1) := by decide +kernel
theorem d_R_copy_28 : decode b_R_copy 28 = .ok (.iaload, 1) := by decide +kernel
theorem d_R_copy_29 : decode b_R_copy 29 = .ok (.iastore, 1) := by decide +kernel
theorem d_R_copy_30 : decode b_R_copy 30 = .ok (.iinc 3 1, 3) := by decide +kernel
theorem d_R_copy_33 : decode b_R_copy 33 = .ok (.goto (-31), 3) := by decide +kernel
theorem d_R_copy_36 : decode b_R_copy 36 = .ok (.return_, 1) := by decide +kernel
theorem d_R_nothing_0 : decode b_R_nothing 0 = .ok (.iconst 0, 1) := by decide +kernel
theorem d_R_nothing_1 : decode b_R_nothing 1 = .ok (.istore_n 2, 1) := by decide +kernel
theorem d_R_nothing_2 : decode b_R_nothing 2 = .ok (.iload_n 2, 1) := by decide +kernel
theorem d_R_nothing_3 : decode b_R_nothing 3 = .ok (.bipush 10, 2) := by decide +kernel
theorem d_R_nothing_5 : decode b_R_nothing 5 = .ok (.if_icmp .ge 21, 3) := by decide +kernel
theorem d_R_nothing_8 : decode b_R_nothing 8 = .ok (.aload_n 0, 1) := by decide +kernel
theorem d_R_nothing_9 : decode b_R_nothing 9 = .ok (.getfield 7, 3) := by decide +kernel
theorem d_R_nothing_12 : decode b_R_nothing 12 = .ok (.bipush 10, 2) := by decide +kernel
theorem d_R_nothing_14 : decode b_R_nothing 14 = .ok (.iload_n 1, 1) := by decide +kernel
theorem d_R_nothing_15 : decode b_R_nothing 15 = .ok (.imul, 1) := by decide +kernel
theorem d_R_nothing_16 : decode b_R_nothing 16 = .ok (.iload_n 2, 1) := by decide +kernel
theorem d_R_nothing_17 : decode b_R_nothing 17 = .ok (.iadd, 1) := by decide +kernel
theorem d_R_nothing_18 : decode b_R_nothing 18 = .ok (.iconst 0, 1) := by decide +kernel
theorem d_R_nothing_19 : decode b_R_nothing 19 = .ok (.iastore, 1) := by decide +kernel
theorem d_R_nothing_20 : decode b_R_nothing 20 = .ok (.iinc 2 1, 3) := by decide +kernel
theorem d_R_nothing_23 : decode b_R_nothing 23 = .ok (.goto (-21), 3) := by decide +kernel
theorem d_R_nothing_26 : decode b_R_nothing 26 = .ok (.return_, 1) := by decide +kernel
theorem d_R_compare_0 : decode b_R_compare 0 = .ok (.bipush 9, 2) := by decide +kernel
theorem d_R_compare_2 : decode b_R_compare 2 = .ok (.istore_n 3, 1) := by decide +kernel
theorem d_R_compare_3 : decode b_R_compare 3 = .ok (.iload_n 3, 1) := by decide +kernel
theorem d_R_compare_4 : decode b_R_compare 4 = .ok (.ifCond .le 34, 3) := by decide +kernel
theorem d_R_compare_7 : decode b_R_compare 7 = .ok (.aload_n 0, 1) := by decide +kernel
theorem d_R_compare_8 : decode b_R_compare 8 = .ok (.getfield 7, 3) := by decide +kernel
theorem d_R_compare_11 : decode b_R_compare 11 = .ok (.bipush 10, 2) := by decide +kernel
theorem d_R_compare_13 : decode b_R_compare 13 = .ok (.iload_n 1, 1) := by decide +kernel
theorem d_R_compare_14 : decode b_R_compare 14 = .ok (.imul, 1) := by decide +kernel
theorem d_R_compare_15 : decode b_R_compare 15 = .ok (.iload_n 3, 1) := by decide +kernel
theorem d_R_compare_16 : decode b_R_compare 16 = .ok (.iadd, 1) := by decide +kernel
theorem d_R_compare_17 : decode b_R_compare 17 = .ok (.iaload, 1) := by decide +kernel
theorem d_R_compare_18 : decode b_R_compare 18 = .ok (.aload_n 0, 1) := by decide +kernel
theorem d_R_compare_19 : decode b_R_compare 19 = .ok (.getfield 7, 3) := by decide +kernel
theorem d_R_compare_22 : decode b_R_compare 22 = .ok (.bipush 10, 2) := by decide +kernel
theorem d_R_compare_24 : decode b_R_compare 24 = .ok (.iload_n 2, 1) := by decide +kernel
theorem d_R_compare_25 : decode b_R_compare 25 = .ok (.imul, 1) := by decide +kernel
theorem d_R_compare_26 : decode b_R_compare 26 = .ok (.iload_n 3, 1) := by decide +kernel
theorem d_R_compare_27 : decode b_R_compare 27 = .ok (.iadd, 1) := by decide +kernel
theorem d_R_compare_28 : decode b_R_compare 28 = .ok (.iaload, 1) := by decide +kernel
theorem d_R_compare_29 : decode b_R_compare 29 = .ok (.if_icmp .ne 9, 3) := by decide +kernel
theorem d_R_compare_32 : decode b_R_compare 32 = .ok (.iinc 3 (-1), 3) := by decide +kernel
theorem d_R_compare_35 : decode b_R_compare 35 = .ok (.goto (-32), 3) := by decide +kernel
theorem d_R_compare_38 : decode b_R_compare 38 = .ok (.aload_n 0, 1) := by decide +kernel
theorem d_R_compare_39 : decode b_R_compare 39 = .ok (.getfield 7, 3) := by decide +kernel
theorem d_R_compare_42 : decode b_R_compare 42 = .ok (.bipush 10, 2) := by decide +kernel
theorem d_R_compare_44 : decode b_R_compare 44 = .ok (.iload_n 1, 1) := by decide +kernel
theorem d_R_compare_45 : decode b_R_compare 45 = .ok (.imul, 1) := by decide +kernel
theorem d_R_compare_46 : decode b_R_compare 46 = .ok (.iload_n 3, 1) := by decide +kernel
theorem d_R_compare_47 : decode b_R_compare 47 = .ok (.iadd, 1) := by decide +kernel
theorem d_R_compare_48 : decode b_R_compare 48 = .ok (.iaload, 1) := by decide +kernel
theorem d_R_compare_49 : decode b_R_compare 49 = .ok (.istore 4, 2) := by decide +kernel
theorem d_R_compare_51 : decode b_R_compare 51 = .ok (.aload_n 0, 1) := by decide +kernel
theorem d_R_compare_52 : decode b_R_compare 52 = .ok (.getfield 7, 3) := by decide +kernel
theorem d_R_compare_55 : decode b_R_compare 55 = .ok (.bipush 10, 2) := by decide +kernel
theorem d_R_compare_57 : decode b_R_compare 57 = .ok (.iload_n 2, 1) := by decide +kernel
theorem d_R_compare_58 : decode b_R_compare 58 = .ok (.imul, 1) := by decide +kernel
theorem d_R_compare_59 : decode b_R_compare 59 = .ok (.iload_n 3, 1) := by decide +kernel
theorem d_R_compare_60 : decode b_R_compare 60 = .ok (.iadd, 1) := by decide +kernel
theorem d_R_compare_61 : decode b_R_compare 61 = .ok (.iaload, 1) := by decide +kernel
theorem d_R_compare_62 : decode b_R_compare 62 = .ok (.istore 5, 2) := by decide +kernel
theorem d_R_compare_64 : decode b_R_compare 64 = .ok (.iload 4, 2) := by decide +kernel
theorem d_R_compare_66 : decode b_R_compare 66 = .ok (.iload 5, 2) := by decide +kernel
theorem d_R_compare_68 : decode b_R_compare 68 = .ok (.if_icmp .ge 7, 3) := by decide +kernel
theorem d_R_compare_71 : decode b_R_compare 71 = .ok (.iconst (-1), 1) := by decide +kernel
theorem d_R_compare_72 : decode b_R_compare 72 = .ok (.goto 15, 3) := by decide +kernel
theorem d_R_compare_75 : decode b_R_compare 75 = .ok (.iload 4, 2) := by decide +kernel
theorem d_R_compare_77 : decode b_R_compare 77 = .ok (.iload 5, 2) := by decide +kernel
theorem d_R_compare_79 : decode b_R_compare 79 = .ok (.if_icmp .le 7, 3) := by decide +kernel
theorem d_R_compare_82 : decode b_R_compare 82 = .ok (.iconst 1, 1) := by decide +kernel
theorem d_R_compare_83 : decode b_R_compare 83 = .ok (.goto 4, 3) := by decide +kernel
theorem d_R_compare_86 : decode b_R_compare 86 = .ok (.iconst 0, 1) := by decide +kernel
theorem d_R_compare_87 : decode b_R_compare 87 = .ok (.ireturn, 1) := by decide +kernel
theorem d_R_isNothing_0 : decode b_R_isNothing 0 = .ok (.iconst 1, 1) := by decide +kernel
theorem d_R_isNothing_1 : decode b_R_isNothing 1 = .ok (.istore_n 2, 1) := by decide +kernel
theorem d_R_isNothing_2 : decode b_R_isNothing 2 = .ok (.iconst 0, 1) := by decide +kernel
theorem d_R_isNothing_3 : decode b_R_isNothing 3 = .ok (.istore_n 3, 1) := by decide +kernel
theorem d_R_isNothing_4 : decode b_R_isNothing 4 = .ok (.iload_n 3, 1) := by decide +kernel
theorem d_R_isNothing_5 : decode b_R_isNothing 5 = .ok (.bipush 10, 2) := by decide +kernel
theorem d_R_isNothing_7 : decode b_R_isNothing 7 = .ok (.if_icmp .ge 33, 3) := by decide +kernel
theorem d_R_isNothing_10 : decode b_R_isNothing 10 = .ok (.iload_n 2, 1) := by decide +kernel
theorem d_R_isNothing_11 : decode b_R_isNothing 11 = .ok (.ifCond .eq 29, 3) := by decide +kernel
theorem d_R_isNothing_14 : decode b_R_isNothing 14 = .ok (.aload_n 0, 1) := by decide +kernel
theorem d_R_isNothing_15 : decode b_R_isNothing 15 = .ok (.getfield 7, 3) := by decide +kernel
theorem d_R_isNothing_18 : decode b_R_isNothing 18 = .ok (.bipush 10, 2) := by decide +kernel
theorem d_R_isNothing_20 : decode b_R_isNothing 20 = .ok (.iload_n 1, 1) := by decide +kernel
theorem d_R_isNothing_21 : decode b_R_isNothing 21 = .ok (.imul, 1) := by decide +kernel
theorem d_R_isNothing_22 : decode b_R_isNothing 22 = .ok (.iload_n 3, 1) := by decide +kernel
theorem d_R_isNothing_23 : decode b_R_isNothing 23 = .ok (.iadd, 1) := by decide +kernel
theorem d_R_isNothing_24 : decode b_R_isNothing 24 = .ok (.iaload, 1) := by decide +kernel
theorem d_R_isNothing_25 : decode b_R_isNothing 25 = .ok (.ifCond .ne 7, 3) := by decide +kernel
theorem d_R_isNothing_28 : decode b_R_isNothing 28 = .ok (.iconst 1, 1) := by decide +kernel
theorem d_R_isNothing_29 : decode b_R_isNothing 29 = .ok (.goto 4, 3) := by decide +kernel
theorem d_R_isNothing_32 : decode b_R_isNothing 32 = .ok (.iconst 0, 1) := by decide +kernel
theorem d_R_isNothing_33 : decode b_R_isNothing 33 = .ok (.istore_n 2, 1) := by decide +kernel
theorem d_R_isNothing_34 : decode b_R_isNothing 34 = .ok (.iinc 3 1, 3) := by decide +kernel
theorem d_R_isNothing_37 : decode b_R_isNothing 37 = .ok (.goto (-33), 3) := by decide +kernel
theorem d_R_isNothing_40 : decode b_R_isNothing 40 = .ok (.iload_n 2, 1) := by decide +kernel
theorem d_R_isNothing_41 : decode b_R_isNothing 41 = .ok (.ireturn, 1) := by decide +kernel
theorem d_R_add_0 : decode b_R_add 0 = .ok (.iconst 0, 1) := by decide +kernel
theorem d_R_add_1 : decode b_R_add 1 = .ok (.istore 4, 2) := by decide +kernel
theorem d_R_add_3 : decode b_R_add 3 = .ok (.iconst 0, 1) := by decide +kernel
theorem d_R_add_4 : decode b_R_add 4 = .ok (.istore 5, 2) := by decide +kernel
theorem d_R_add_6 : decode b_R_add 6 = .ok (.iload 5, 2) := by decide +kernel
theorem d_R_add_8 : decode b_R_add 8 = .ok (.bipush 10, 2) := by decide +kernel
theorem d_R_add_10 : decode b_R_add 10 = .ok (.if_icmp .ge 65, 3) := by decide +kernel
theorem d_R_add_13 : decode b_R_add 13 = .ok (.aload_n 0, 1) := by decide +kernel
theorem d_R_add_14 : decode b_R_add 14 = .ok (.getfield 7, 3) := by decide +kernel
theorem d_R_add_17 : decode b_R_add 17 = .ok (.bipush 10, 2) := by decide +kernel
theorem d_R_add_19 : decode b_R_add 19 = .ok (.iload_n 1, 1) := by decide +kernel
theorem d_R_add_20 : decode b_R_add 20 = .ok (.imul, 1) := by decide +kernel
theorem d_R_add_21 : decode b_R_add 21 = .ok (.iload 5, 2) := by decide +kernel
theorem d_R_add_23 : decode b_R_add 23 = .ok (.iadd, 1) := by decide +kernel
theorem d_R_add_24 : decode b_R_add 24 = .ok (.iaload, 1) := by decide +kernel
theorem d_R_add_25 : decode b_R_add 25 = .ok (.iload_n 3, 1) := by decide +kernel
theorem d_R_add_26 : decode b_R_add 26 = .ok (.aload_n 0, 1) := by decide +kernel
theorem d_R_add_27 : decode b_R_add 27 = .ok (.getfield 7, 3) := by decide +kernel
theorem d_R_add_30 : decode b_R_add 30 = .ok (.bipush 10, 2) := by decide +kernel
theorem d_R_add_32 : decode b_R_add 32 = .ok (.iload_n 2, 1) := by decide +kernel
theorem d_R_add_33 : decode b_R_add 33 = .ok (.imul, 1) := by decide +kernel
theorem d_R_add_34 : decode b_R_add 34 = .ok (.iload 5, 2) := by decide +kernel
theorem d_R_add_36 : decode b_R_add 36 = .ok (.iadd, 1) := by decide +kernel
theorem d_R_add_37 : decode b_R_add 37 = .ok (.iaload, 1) := by decide +kernel
theorem d_R_add_38 : decode b_R_add 38 = .ok (.imul, 1) := by decide +kernel
theorem d_R_add_39 : decode b_R_add 39 = .ok (.iadd, 1) := by decide +kernel
theorem d_R_add_40 : decode b_R_add 40 = .ok (.iload 4, 2) := by decide +kernel
theorem d_R_add_42 : decode b_R_add 42 = .ok (.iadd, 1) := by decide +kernel
theorem d_R_add_43 : decode b_R_add 43 = .ok (.istore 6, 2) := by decide +kernel
theorem d_R_add_45 : decode b_R_add 45 = .ok (.aload_n 0, 1) := by decide +kernel
theorem d_R_add_46 : decode b_R_add 46 = .ok (.getfield 7, 3) := by decide +kernel
theorem d_R_add_49 : decode b_R_add 49 = .ok (.bipush 10, 2) := by decide +kernel
theorem d_R_add_51 : decode b_R_add 51 = .ok (.iload_n 1, 1) := by decide +kernel
theorem d_R_add_52 : decode b_R_add 52 = .ok (.imul, 1) := by decide +kernel
theorem d_R_add_53 : decode b_R_add 53 = .ok (.iload 5, 2) := by decide +kernel
theorem d_R_add_55 : decode b_R_add 55 = .ok (.iadd, 1) := by decide +kernel
theorem d_R_add_56 : decode b_R_add 56 = .ok (.iload 6, 2) := by decide +kernel
theorem d_R_add_58 : decode b_R_add 58 = .ok (.ldc 60, 2) := by decide +kernel
theorem d_R_add_60 : decode b_R_add 60 = .ok (.iand, 1) := by decide +kernel
theorem d_R_add_61 : decode b_R_add 61 = .ok (.iastore, 1) := by decide +kernel
theorem d_R_add_62 : decode b_R_add 62 = .ok (.iload 6, 2) := by decide +kernel
theorem d_R_add_64 : decode b_R_add 64 = .ok (.bipush 26, 2) := by decide +kernel
theorem d_R_add_66 : decode b_R_add 66 = .ok (.ishr, 1) := by decide +kernel
theorem d_R_add_67 : decode b_R_add 67 = .ok (.istore 4, 2) := by decide +kernel
theorem d_R_add_69 : decode b_R_add 69 = .ok (.iinc 5 1, 3) := by decide +kernel
theorem d_R_add_72 : decode b_R_add 72 = .ok (.goto (-66), 3) := by decide +kernel
theorem d_R_add_75 : decode b_R_add 75 = .ok (.return_, 1) := by decide +kernel
theorem d_R_isOdd_0 : decode b_R_isOdd 0 = .ok (.aload_n 0, 1) := by decide +kernel
theorem d_R_isOdd_1 : decode b_R_isOdd 1 = .ok (.getfield 7, 3) := by decide +kernel
theorem d_R_isOdd_4 : decode b_R_isOdd 4 = .ok (.bipush 10, 2) := by decide +kernel
theorem d_R_isOdd_6 : decode b_R_isOdd 6 = .ok (.iload_n 1, 1) := by decide +kernel
theorem d_R_isOdd_7 : decode b_R_isOdd 7 = .ok (.imul, 1) := by decide +kernel
theorem d_R_isOdd_8 : decode b_R_isOdd 8 = .ok (.iaload, 1) := by decide +kernel
theorem d_R_isOdd_9 : decode b_R_isOdd 9 = .ok (.iconst 2, 1) := by decide +kernel
theorem d_R_isOdd_10 : decode b_R_isOdd 10 = .ok (.irem, 1) := by decide +kernel
theorem d_R_isOdd_11 : decode b_R_isOdd 11 = .ok (.iconst 1, 1) := by decide +kernel
theorem d_R_isOdd_12 : decode b_R_isOdd 12 = .ok (.if_icmp .ne 7, 3) := by decide +kernel
theorem d_R_isOdd_15 : decode b_R_isOdd 15 = .ok (.iconst 1, 1) := by decide +kernel
theorem d_R_isOdd_16 : decode b_R_isOdd 16 = .ok (.goto 4, 3) := by decide +kernel
theorem d_R_isOdd_19 : decode b_R_isOdd 19 = .ok (.iconst 0, 1) := by decide +kernel
theorem d_R_isOdd_20 : decode b_R_isOdd 20 = .ok (.ireturn, 1) := by decide +kernel
theorem d_R_bit_0 : decode b_R_bit 0 = .ok (.aload_n 0, 1) := by decide +kernel
theorem d_R_bit_1 : decode b_R_bit 1 = .ok (.getfield 7, 3) := by decide +kernel
theorem d_R_bit_4 : decode b_R_bit 4 = .ok (.bipush 10, 2) := by decide +kernel
theorem d_R_bit_6 : decode b_R_bit 6 = .ok (.iload_n 1, 1) := by decide +kernel
theorem d_R_bit_7 : decode b_R_bit 7 = .ok (.imul, 1) := by decide +kernel
theorem d_R_bit_8 : decode b_R_bit 8 = .ok (.iload_n 2, 1) := by decide +kernel
theorem d_R_bit_9 : decode b_R_bit 9 = .ok (.bipush 26, 2) := by decide +kernel
theorem d_R_bit_11 : decode b_R_bit 11 = .ok (.idiv, 1) := by decide +kernel
theorem d_R_bit_12 : decode b_R_bit 12 = .ok (.iadd, 1) := by decide +kernel
theorem d_R_bit_13 : decode b_R_bit 13 = .ok (.iaload, 1) := by decide +kernel
theorem d_R_bit_14 : decode b_R_bit 14 = .ok (.iload_n 2, 1) := by decide +kernel
theorem d_R_bit_15 : decode b_R_bit 15 = .ok (.bipush 26, 2) := by decide +kernel
theorem d_R_bit_17 : decode b_R_bit 17 = .ok (.irem, 1) := by decide +kernel
theorem d_R_bit_18 : decode b_R_bit 18 = .ok (.ishr, 1) := by decide +kernel
theorem d_R_bit_19 : decode b_R_bit 19 = .ok (.iconst 1, 1) := by decide +kernel
theorem d_R_bit_20 : decode b_R_bit 20 = .ok (.iand, 1) := by decide +kernel
theorem d_R_bit_21 : decode b_R_bit 21 = .ok (.iconst 1, 1) := by decide +kernel
theorem d_R_bit_22 : decode b_R_bit 22 = .ok (.if_icmp .ne 7, 3) := by decide +kernel
theorem d_R_bit_25 : decode b_R_bit 25 = .ok (.iconst 1, 1) := by decide +kernel
theorem d_R_bit_26 : decode b_R_bit 26 = .ok (.goto 4, 3) := by decide +kernel
theorem d_R_bit_29 : decode b_R_bit 29 = .ok (.iconst 0, 1) := by decide +kernel
theorem d_R_bit_30 : decode b_R_bit 30 = .ok (.ireturn, 1) := by decide +kernel
theorem d_R_plus_0 : decode b_R_plus 0 = .ok (.aload_n 0, 1) := by decide +kernel
theorem d_R_plus_1 : decode b_R_plus 1 = .ok (.bipush 37, 2) := by decide +kernel
theorem d_R_plus_3 : decode b_R_plus 3 = .ok (.iload_n 2, 1) := by decide +kernel
theorem d_R_plus_4 : decode b_R_plus 4 = .ok (.invokevirtual 70, 3) := by decide +kernel
theorem d_R_plus_7 : decode b_R_plus 7 = .ok (.aload_n 0, 1) := by decide +kernel
theorem d_R_plus_8 : decode b_R_plus 8 = .ok (.bipush 37, 2) := by decide +kernel
theorem d_R_plus_10 : decode b_R_plus 10 = .ok (.iload_n 3, 1) := by decide +kernel
theorem d_R_plus_11 : decode b_R_plus 11 = .ok (.iconst 1, 1) := by decide +kernel
theorem d_R_plus_12 : decode b_R_plus 12 = .ok (.invokevirtual 74, 3) := by decide +kernel
theorem d_R_plus_15 : decode b_R_plus 15 = .ok (.aload_n 0, 1) := by decide +kernel
theorem d_R_plus_16 : decode b_R_plus 16 = .ok (.bipush 37, 2) := by decide +kernel
theorem d_R_plus_18 : decode b_R_plus 18 = .ok (.iload 4, 2) := by decide +kernel
theorem d_R_plus_20 : decode b_R_plus 20 = .ok (.invokevirtual 78, 3) := by decide +kernel
theorem d_R_plus_23 : decode b_R_plus 23 = .ok (.ifCond .lt 12, 3) := by decide +kernel
theorem d_R_plus_26 : decode b_R_plus 26 = .ok (.aload_n 0, 1) := by decide +kernel
theorem d_R_plus_27 : decode b_R_plus 27 = .ok (.bipush 37, 2) := by decide +kernel
theorem d_R_plus_29 : decode b_R_plus 29 = .ok (.iload 4, 2) := by decide +kernel
theorem d_R_plus_31 : decode b_R_plus 31 = .ok (.iconst (-1), 1) := by decide +kernel
theorem d_R_plus_32 : decode b_R_plus 32 = .ok (.invokevirtual 74, 3) := by decide +kernel
theorem d_R_plus_35 : decode b_R_plus 35 = .ok (.aload_n 0, 1) := by decide +kernel
theorem d_R_plus_36 : decode b_R_plus 36 = .ok (.iload_n 1, 1) := by decide +kernel
theorem d_R_plus_37 : decode b_R_plus 37 = .ok (.bipush 37, 2) := by decide +kernel
theorem d_R_plus_39 : decode b_R_plus 39 = .ok (.invokevirtual 70, 3) := by decide +kernel
theorem d_R_plus_42 : decode b_R_plus 42 = .ok (.return_, 1) := by decide +kernel
theorem d_R_minus_0 : decode b_R_minus 0 = .ok (.aload_n 0, 1) := by decide +kernel
theorem d_R_minus_1 : decode b_R_minus 1 = .ok (.bipush 37, 2) := by decide +kernel
theorem d_R_minus_3 : decode b_R_minus 3 = .ok (.iload_n 2, 1) := by decide +kernel
theorem d_R_minus_4 : decode b_R_minus 4 = .ok (.invokevirtual 70, 3) := by decide +kernel
theorem d_R_minus_7 : decode b_R_minus 7 = .ok (.aload_n 0, 1) := by decide +kernel
theorem d_R_minus_8 : decode b_R_minus 8 = .ok (.bipush 37, 2) := by decide +kernel
theorem d_R_minus_10 : decode b_R_minus 10 = .ok (.iload_n 3, 1) := by decide +kernel
theorem d_R_minus_11 : decode b_R_minus 11 = .ok (.invokevirtual 78, 3) := by decide +kernel
theorem d_R_minus_14 : decode b_R_minus 14 = .ok (.ifCond .ge 12, 3) := by decide +kernel
theorem d_R_minus_17 : decode b_R_minus 17 = .ok (.aload_n 0, 1) := by decide +kernel
theorem d_R_minus_18 : decode b_R_minus 18 = .ok (.bipush 37, 2) := by decide +kernel
theorem d_R_minus_20 : decode b_R_minus 20 = .ok (.iload 4, 2) := by decide +kernel
theorem d_R_minus_22 : decode b_R_minus 22 = .ok (.iconst 1, 1) := by decide +kernel
theorem d_R_minus_23 : decode b_R_minus 23 = .ok (.invokevirtual 74, 3) := by decide +kernel
theorem d_R_minus_26 : decode b_R_minus 26 = .ok (.aload_n 0, 1) := by decide +kernel
theorem d_R_minus_27 : decode b_R_minus 27 = .ok (.bipush 37, 2) := by decide +kernel
theorem d_R_minus_29 : decode b_R_minus 29 = .ok (.iload_n 3, 1) := by decide +kernel
theorem d_R_minus_30 : decode b_R_minus 30 = .ok (.iconst (-1), 1) := by decide +kernel
theorem d_R_minus_31 : decode b_R_minus 31 = .ok (.invokevirtual 74, 3) := by decide +kernel
theorem d_R_minus_34 : decode b_R_minus 34 = .ok (.aload_n 0, 1) := by decide +kernel
theorem d_R_minus_35 : decode b_R_minus 35 = .ok (.iload_n 1, 1) := by decide +kernel
theorem d_R_minus_36 : decode b_R_minus 36 = .ok (.bipush 37, 2) := by decide +kernel
theorem d_R_minus_38 : decode b_R_minus 38 = .ok (.invokevirtual 70, 3) := by decide +kernel
theorem d_R_minus_41 : decode b_R_minus 41 = .ok (.return_, 1) := by decide +kernel
theorem d_R_carry_0 : decode b_R_carry 0 = .ok (.lconst 0, 1) := by decide +kernel
theorem d_R_carry_1 : decode b_R_carry 1 = .ok (.lstore_n 1, 1) := by decide +kernel
theorem d_R_carry_2 : decode b_R_carry 2 = .ok (.iconst 0, 1) := by decide +kernel
theorem d_R_carry_3 : decode b_R_carry 3 = .ok (.istore_n 3, 1) := by decide +kernel
theorem d_R_carry_4 : decode b_R_carry 4 = .ok (.iload_n 3, 1) := by decide +kernel
theorem d_R_carry_5 : decode b_R_carry 5 = .ok (.bipush 22, 2) := by decide +kernel
theorem d_R_carry_7 : decode b_R_carry 7 = .ok (.if_icmp .ge 37, 3) := by decide +kernel
theorem d_R_carry_10 : decode b_R_carry 10 = .ok (.aload_n 0, 1) := by decide +kernel
theorem d_R_carry_11 : decode b_R_carry 11 = .ok (.getfield 13, 3) := by decide +kernel
theorem d_R_carry_14 : decode b_R_carry 14 = .ok (.iload_n 3, 1) := by decide +kernel
theorem d_R_carry_15 : decode b_R_carry 15 = .ok (.laload, 1) := by decide +kernel
theorem d_R_carry_16 : decode b_R_carry 16 = .ok (.lload_n 1, 1) := by decide +kernel
theorem d_R_carry_17 : decode b_R_carry 17 = .ok (.ladd, 1) := by decide +kernel
theorem d_R_carry_18 : decode b_R_carry 18 = .ok (.lstore 4, 2) := by decide +kernel
theorem d_R_carry_20 : decode b_R_carry 20 = .ok (.aload_n 0, 1) := by decide +kernel
theorem d_R_carry_21 : decode b_R_carry 21 = .ok (.getfield 13, 3) := by decide +kernel
theorem d_R_carry_24 : decode b_R_carry 24 = .ok (.iload_n 3, 1) := by decide +kernel
theorem d_R_carry_25 : decode b_R_carry 25 = .ok (.lload 4, 2) := by decide +kernel
theorem d_R_carry_27 : decode b_R_carry 27 = .ok (.ldc2_w 82, 3) := by decide +kernel
theorem d_R_carry_30 : decode b_R_carry 30 = .ok (.land, 1) := by decide +kernel
theorem d_R_carry_31 : decode b_R_carry 31 = .ok (.lastore, 1) := by decide +kernel
theorem d_R_carry_32 : decode b_R_carry 32 = .ok (.lload 4, 2) := by decide +kernel
theorem d_R_carry_34 : decode b_R_carry 34 = .ok (.bipush 26, 2) := by decide +kernel
theorem d_R_carry_36 : decode b_R_carry 36 = .ok (.lshr, 1) := by decide +kernel
theorem d_R_carry_37 : decode b_R_carry 37 = .ok (.lstore_n 1, 1) := by decide +kernel
theorem d_R_carry_38 : decode b_R_carry 38 = .ok (.iinc 3 1, 3) := by decide +kernel
theorem d_R_carry_41 : decode b_R_carry 41 = .ok (.goto (-37), 3) := by decide +kernel
