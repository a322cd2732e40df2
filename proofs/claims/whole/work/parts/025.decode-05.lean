/-! the instructions -/
theorem d_R_copyPoint_10 : decode b_R_copyPoint 10 = .ok (.iload_n 2, 1) := by decide +kernel
theorem d_R_copyPoint_11 : decode b_R_copyPoint 11 = .ok (.iconst 1, 1) := by decide +kernel
theorem d_R_copyPoint_12 : decode b_R_copyPoint 12 = .ok (.iadd, 1) := by decide +kernel
theorem d_R_copyPoint_13 : decode b_R_copyPoint 13 = .ok (.invokevirtual 70, 3) := by decide +kernel
theorem d_R_copyPoint_16 : decode b_R_copyPoint 16 = .ok (.aload_n 0, 1) := by decide +kernel
theorem d_R_copyPoint_17 : decode b_R_copyPoint 17 = .ok (.iload_n 1, 1) := by decide +kernel
theorem d_R_copyPoint_18 : decode b_R_copyPoint 18 = .ok (.iconst 2, 1) := by decide +kernel
theorem d_R_copyPoint_19 : decode b_R_copyPoint 19 = .ok (.iadd, 1) := by decide +kernel
theorem d_R_copyPoint_20 : decode b_R_copyPoint 20 = .ok (.iload_n 2, 1) := by decide +kernel
theorem d_R_copyPoint_21 : decode b_R_copyPoint 21 = .ok (.iconst 2, 1) := by decide +kernel
theorem d_R_copyPoint_22 : decode b_R_copyPoint 22 = .ok (.iadd, 1) := by decide +kernel
theorem d_R_copyPoint_23 : decode b_R_copyPoint 23 = .ok (.invokevirtual 70, 3) := by decide +kernel
theorem d_R_copyPoint_26 : decode b_R_copyPoint 26 = .ok (.return_, 1) := by decide +kernel
theorem d_R_load_0 : decode b_R_load 0 = .ok (.aload_n 0, 1) := by decide +kernel
theorem d_R_load_1 : decode b_R_load 1 = .ok (.iload_n 1, 1) := by decide +kernel
theorem d_R_load_2 : decode b_R_load 2 = .ok (.bipush 10, 2) := by decide +kernel
theorem d_R_load_4 : decode b_R_load 4 = .ok (.iconst 2, 1) := by decide +kernel
theorem d_R_load_5 : decode b_R_load 5 = .ok (.iload_n 2, 1) := by decide +kernel
theorem d_R_load_6 : decode b_R_load 6 = .ok (.imul, 1) := by decide +kernel
theorem d_R_load_7 : decode b_R_load 7 = .ok (.iadd, 1) := by decide +kernel
theorem d_R_load_8 : decode b_R_load 8 = .ok (.invokevirtual 70, 3) := by decide +kernel
theorem d_R_load_11 : decode b_R_load 11 = .ok (.aload_n 0, 1) := by decide +kernel
theorem d_R_load_12 : decode b_R_load 12 = .ok (.iload_n 1, 1) := by decide +kernel
theorem d_R_load_13 : decode b_R_load 13 = .ok (.iconst 1, 1) := by decide +kernel
theorem d_R_load_14 : decode b_R_load 14 = .ok (.iadd, 1) := by decide +kernel
theorem d_R_load_15 : decode b_R_load 15 = .ok (.bipush 11, 2) := by decide +kernel
theorem d_R_load_17 : decode b_R_load 17 = .ok (.iconst 2, 1) := by decide +kernel
theorem d_R_load_18 : decode b_R_load 18 = .ok (.iload_n 2, 1) := by decide +kernel
theorem d_R_load_19 : decode b_R_load 19 = .ok (.imul, 1) := by decide +kernel
theorem d_R_load_20 : decode b_R_load 20 = .ok (.iadd, 1) := by decide +kernel
theorem d_R_load_21 : decode b_R_load 21 = .ok (.invokevirtual 70, 3) := by decide +kernel
theorem d_R_load_24 : decode b_R_load 24 = .ok (.aload_n 0, 1) := by decide +kernel
theorem d_R_load_25 : decode b_R_load 25 = .ok (.iload_n 1, 1) := by decide +kernel
theorem d_R_load_26 : decode b_R_load 26 = .ok (.iconst 2, 1) := by decide +kernel
theorem d_R_load_27 : decode b_R_load 27 = .ok (.iadd, 1) := by decide +kernel
theorem d_R_load_28 : decode b_R_load 28 = .ok (.bipush 20, 2) := by decide +kernel
theorem d_R_load_30 : decode b_R_load 30 = .ok (.invokevirtual 70, 3) := by decide +kernel
theorem d_R_load_33 : decode b_R_load 33 = .ok (.aload_n 0, 1) := by decide +kernel
theorem d_R_load_34 : decode b_R_load 34 = .ok (.getfield 23, 3) := by decide +kernel
theorem d_R_load_37 : decode b_R_load 37 = .ok (.iload_n 2, 1) := by decide +kernel
theorem d_R_load_38 : decode b_R_load 38 = .ok (.baload, 1) := by decide +kernel
theorem d_R_load_39 : decode b_R_load 39 = .ok (.ifCond .eq 10, 3) := by decide +kernel
theorem d_R_load_42 : decode b_R_load 42 = .ok (.aload_n 0, 1) := by decide +kernel
theorem d_R_load_43 : decode b_R_load 43 = .ok (.iload_n 1, 1) := by decide +kernel
theorem d_R_load_44 : decode b_R_load 44 = .ok (.iconst 2, 1) := by decide +kernel
theorem d_R_load_45 : decode b_R_load 45 = .ok (.iadd, 1) := by decide +kernel
theorem d_R_load_46 : decode b_R_load 46 = .ok (.invokevirtual 62, 3) := by decide +kernel
theorem d_R_load_49 : decode b_R_load 49 = .ok (.return_, 1) := by decide +kernel
theorem d_R_store_0 : decode b_R_store 0 = .ok (.aload_n 0, 1) := by decide +kernel
theorem d_R_store_1 : decode b_R_store 1 = .ok (.getfield 23, 3) := by decide +kernel
theorem d_R_store_4 : decode b_R_store 4 = .ok (.iload_n 1, 1) := by decide +kernel
theorem d_R_store_5 : decode b_R_store 5 = .ok (.aload_n 0, 1) := by decide +kernel
theorem d_R_store_6 : decode b_R_store 6 = .ok (.iload_n 2, 1) := by decide +kernel
theorem d_R_store_7 : decode b_R_store 7 = .ok (.invokevirtual 118, 3) := by decide +kernel
theorem d_R_store_10 : decode b_R_store 10 = .ok (.bastore, 1) := by decide +kernel
theorem d_R_store_11 : decode b_R_store 11 = .ok (.aload_n 0, 1) := by decide +kernel
theorem d_R_store_12 : decode b_R_store 12 = .ok (.getfield 23, 3) := by decide +kernel
theorem d_R_store_15 : decode b_R_store 15 = .ok (.iload_n 1, 1) := by decide +kernel
theorem d_R_store_16 : decode b_R_store 16 = .ok (.baload, 1) := by decide +kernel
theorem d_R_store_17 : decode b_R_store 17 = .ok (.ifCond .ne 37, 3) := by decide +kernel
theorem d_R_store_20 : decode b_R_store 20 = .ok (.aload_n 0, 1) := by decide +kernel
theorem d_R_store_21 : decode b_R_store 21 = .ok (.bipush 10, 2) := by decide +kernel
theorem d_R_store_23 : decode b_R_store 23 = .ok (.iconst 2, 1) := by decide +kernel
theorem d_R_store_24 : decode b_R_store 24 = .ok (.iload_n 1, 1) := by decide +kernel
theorem d_R_store_25 : decode b_R_store 25 = .ok (.imul, 1) := by decide +kernel
theorem d_R_store_26 : decode b_R_store 26 = .ok (.iadd, 1) := by decide +kernel
theorem d_R_store_27 : decode b_R_store 27 = .ok (.iload_n 2, 1) := by decide +kernel
theorem d_R_store_28 : decode b_R_store 28 = .ok (.iload_n 2, 1) := by decide +kernel
theorem d_R_store_29 : decode b_R_store 29 = .ok (.iconst 2, 1) := by decide +kernel
theorem d_R_store_30 : decode b_R_store 30 = .ok (.iadd, 1) := by decide +kernel
theorem d_R_store_31 : decode b_R_store 31 = .ok (.bipush 8, 2) := by decide +kernel
theorem d_R_store_33 : decode b_R_store 33 = .ok (.invokevirtual 121, 3) := by decide +kernel
theorem d_R_store_36 : decode b_R_store 36 = .ok (.aload_n 0, 1) := by decide +kernel
theorem d_R_store_37 : decode b_R_store 37 = .ok (.bipush 11, 2) := by decide +kernel
theorem d_R_store_39 : decode b_R_store 39 = .ok (.iconst 2, 1) := by decide +kernel
theorem d_R_store_40 : decode b_R_store 40 = .ok (.iload_n 1, 1) := by decide +kernel
theorem d_R_store_41 : decode b_R_store 41 = .ok (.imul, 1) := by decide +kernel
theorem d_R_store_42 : decode b_R_store 42 = .ok (.iadd, 1) := by decide +kernel
theorem d_R_store_43 : decode b_R_store 43 = .ok (.iload_n 2, 1) := by decide +kernel
theorem d_R_store_44 : decode b_R_store 44 = .ok (.iconst 1, 1) := by decide +kernel
theorem d_R_store_45 : decode b_R_store 45 = .ok (.iadd, 1) := by decide +kernel
theorem d_R_store_46 : decode b_R_store 46 = .ok (.iload_n 2, 1) := by decide +kernel
theorem d_R_store_47 : decode b_R_store 47 = .ok (.iconst 2, 1) := by decide +kernel
theorem d_R_store_48 : decode b_R_store 48 = .ok (.iadd, 1) := by decide +kernel
theorem d_R_store_49 : decode b_R_store 49 = .ok (.bipush 8, 2) := by decide +kernel
theorem d_R_store_51 : decode b_R_store 51 = .ok (.invokevirtual 121, 3) := by decide +kernel
theorem d_R_store_54 : decode b_R_store 54 = .ok (.return_, 1) := by decide +kernel
theorem d_R_twice_0 : decode b_R_twice 0 = .ok (.aload_n 0, 1) := by decide +kernel
theorem d_R_twice_1 : decode b_R_twice 1 = .ok (.bipush 31, 2) := by decide +kernel
theorem d_R_twice_3 : decode b_R_twice 3 = .ok (.iload_n 1, 1) := by decide +kernel
theorem d_R_twice_4 : decode b_R_twice 4 = .ok (.iload_n 1, 1) := by decide +kernel
theorem d_R_twice_5 : decode b_R_twice 5 = .ok (.bipush 8, 2) := by decide +kernel
theorem d_R_twice_7 : decode b_R_twice 7 = .ok (.invokevirtual 96, 3) := by decide +kernel
theorem d_R_twice_10 : decode b_R_twice 10 = .ok (.aload_n 0, 1) := by decide +kernel
theorem d_R_twice_11 : decode b_R_twice 11 = .ok (.bipush 34, 2) := by decide +kernel
theorem d_R_twice_13 : decode b_R_twice 13 = .ok (.bipush 31, 2) := by decide +kernel
theorem d_R_twice_15 : decode b_R_twice 15 = .ok (.bipush 31, 2) := by decide +kernel
theorem d_R_twice_17 : decode b_R_twice 17 = .ok (.bipush 8, 2) := by decide +kernel
theorem d_R_twice_19 : decode b_R_twice 19 = .ok (.invokevirtual 124, 3) := by decide +kernel
theorem d_R_twice_22 : decode b_R_twice 22 = .ok (.aload_n 0, 1) := by decide +kernel
theorem d_R_twice_23 : decode b_R_twice 23 = .ok (.bipush 31, 2) := by decide +kernel
theorem d_R_twice_25 : decode b_R_twice 25 = .ok (.bipush 31, 2) := by decide +kernel
theorem d_R_twice_27 : decode b_R_twice 27 = .ok (.bipush 34, 2) := by decide +kernel
theorem d_R_twice_29 : decode b_R_twice 29 = .ok (.bipush 8, 2) := by decide +kernel
theorem d_R_twice_31 : decode b_R_twice 31 = .ok (.invokevirtual 124, 3) := by decide +kernel
theorem d_R_twice_34 : decode b_R_twice 34 = .ok (.aload_n 0, 1) := by decide +kernel
theorem d_R_twice_35 : decode b_R_twice 35 = .ok (.bipush 32, 2) := by decide +kernel
theorem d_R_twice_37 : decode b_R_twice 37 = .ok (.iload_n 1, 1) := by decide +kernel
theorem d_R_twice_38 : decode b_R_twice 38 = .ok (.iconst 1, 1) := by decide +kernel
theorem d_R_twice_39 : decode b_R_twice 39 = .ok (.iadd, 1) := by decide +kernel
theorem d_R_twice_40 : decode b_R_twice 40 = .ok (.iload_n 1, 1) := by decide +kernel
theorem d_R_twice_41 : decode b_R_twice 41 = .ok (.iconst 2, 1) := by decide +kernel
theorem d_R_twice_42 : decode b_R_twice 42 = .ok (.iadd, 1) := by decide +kernel
theorem d_R_twice_43 : decode b_R_twice 43 = .ok (.bipush 8, 2) := by decide +kernel
theorem d_R_twice_45 : decode b_R_twice 45 = .ok (.invokevirtual 96, 3) := by decide +kernel
theorem d_R_twice_48 : decode b_R_twice 48 = .ok (.aload_n 0, 1) := by decide +kernel
theorem d_R_twice_49 : decode b_R_twice 49 = .ok (.bipush 33, 2) := by decide +kernel
theorem d_R_twice_51 : decode b_R_twice 51 = .ok (.iload_n 1, 1) := by decide +kernel
theorem d_R_twice_52 : decode b_R_twice 52 = .ok (.iload_n 1, 1) := by decide +kernel
theorem d_R_twice_53 : decode b_R_twice 53 = .ok (.iconst 1, 1) := by decide +kernel
theorem d_R_twice_54 : decode b_R_twice 54 = .ok (.iadd, 1) := by decide +kernel
theorem d_R_twice_55 : decode b_R_twice 55 = .ok (.bipush 8, 2) := by decide +kernel
theorem d_R_twice_57 : decode b_R_twice 57 = .ok (.invokevirtual 96, 3) := by decide +kernel
theorem d_R_twice_60 : decode b_R_twice 60 = .ok (.aload_n 0, 1) := by decide +kernel
theorem d_R_twice_61 : decode b_R_twice 61 = .ok (.bipush 33, 2) := by decide +kernel
theorem d_R_twice_63 : decode b_R_twice 63 = .ok (.bipush 33, 2) := by decide +kernel
theorem d_R_twice_65 : decode b_R_twice 65 = .ok (.bipush 32, 2) := by decide +kernel
theorem d_R_twice_67 : decode b_R_twice 67 = .ok (.bipush 8, 2) := by decide +kernel
theorem d_R_twice_69 : decode b_R_twice 69 = .ok (.invokevirtual 96, 3) := by decide +kernel
theorem d_R_twice_72 : decode b_R_twice 72 = .ok (.aload_n 0, 1) := by decide +kernel
theorem d_R_twice_73 : decode b_R_twice 73 = .ok (.bipush 36, 2) := by decide +kernel
theorem d_R_twice_75 : decode b_R_twice 75 = .ok (.bipush 31, 2) := by decide +kernel
theorem d_R_twice_77 : decode b_R_twice 77 = .ok (.bipush 31, 2) := by decide +kernel
theorem d_R_twice_79 : decode b_R_twice 79 = .ok (.bipush 8, 2) := by decide +kernel
theorem d_R_twice_81 : decode b_R_twice 81 = .ok (.invokevirtual 96, 3) := by decide +kernel
theorem d_R_twice_84 : decode b_R_twice 84 = .ok (.iconst 0, 1) := by decide +kernel
theorem d_R_twice_85 : decode b_R_twice 85 = .ok (.istore_n 2, 1) := by decide +kernel
theorem d_R_twice_86 : decode b_R_twice 86 = .ok (.iload_n 2, 1) := by decide +kernel
theorem d_R_twice_87 : decode b_R_twice 87 = .ok (.bipush 8, 2) := by decide +kernel
theorem d_R_twice_89 : decode b_R_twice 89 = .ok (.if_icmp .ge 21, 3) := by decide +kernel
theorem d_R_twice_92 : decode b_R_twice 92 = .ok (.aload_n 0, 1) := by decide +kernel
theorem d_R_twice_93 : decode b_R_twice 93 = .ok (.bipush 36, 2) := by decide +kernel
theorem d_R_twice_95 : decode b_R_twice 95 = .ok (.bipush 36, 2) := by decide +kernel
theorem d_R_twice_97 : decode b_R_twice 97 = .ok (.bipush 33, 2) := by decide +kernel
theorem d_R_twice_99 : decode b_R_twice 99 = .ok (.bipush 8, 2) := by decide +kernel
theorem d_R_twice_101 : decode b_R_twice 101 = .ok (.invokevirtual 112, 3) := by decide +kernel
theorem d_R_twice_104 : decode b_R_twice 104 = .ok (.iinc 2 1, 3) := by decide +kernel
theorem d_R_twice_107 : decode b_R_twice 107 = .ok (.goto (-21), 3) := by decide +kernel
theorem d_R_twice_110 : decode b_R_twice 110 = .ok (.aload_n 0, 1) := by decide +kernel
theorem d_R_twice_111 : decode b_R_twice 111 = .ok (.bipush 34, 2) := by decide +kernel
theorem d_R_twice_113 : decode b_R_twice 113 = .ok (.bipush 33, 2) := by decide +kernel
theorem d_R_twice_115 : decode b_R_twice 115 = .ok (.bipush 33, 2) := by decide +kernel
theorem d_R_twice_117 : decode b_R_twice 117 = .ok (.bipush 8, 2) := by decide +kernel
theorem d_R_twice_119 : decode b_R_twice 119 = .ok (.invokevirtual 124, 3) := by decide +kernel
theorem d_R_twice_122 : decode b_R_twice 122 = .ok (.aload_n 0, 1) := by decide +kernel
theorem d_R_twice_123 : decode b_R_twice 123 = .ok (.bipush 34, 2) := by decide +kernel
theorem d_R_twice_125 : decode b_R_twice 125 = .ok (.bipush 34, 2) := by decide +kernel
theorem d_R_twice_127 : decode b_R_twice 127 = .ok (.bipush 34, 2) := by decide +kernel
theorem d_R_twice_129 : decode b_R_twice 129 = .ok (.bipush 8, 2) := by decide +kernel
theorem d_R_twice_131 : decode b_R_twice 131 = .ok (.invokevirtual 124, 3) := by decide +kernel
theorem d_R_twice_134 : decode b_R_twice 134 = .ok (.aload_n 0, 1) := by decide +kernel
theorem d_R_twice_135 : decode b_R_twice 135 = .ok (.bipush 34, 2) := by decide +kernel
theorem d_R_twice_137 : decode b_R_twice 137 = .ok (.bipush 34, 2) := by decide +kernel
theorem d_R_twice_139 : decode b_R_twice 139 = .ok (.bipush 36, 2) := by decide +kernel
theorem d_R_twice_141 : decode b_R_twice 141 = .ok (.bipush 8, 2) := by decide +kernel
theorem d_R_twice_143 : decode b_R_twice 143 = .ok (.invokevirtual 112, 3) := by decide +kernel
theorem d_R_twice_146 : decode b_R_twice 146 = .ok (.aload_n 0, 1) := by decide +kernel
theorem d_R_twice_147 : decode b_R_twice 147 = .ok (.bipush 34, 2) := by decide +kernel
theorem d_R_twice_149 : decode b_R_twice 149 = .ok (.bipush 31, 2) := by decide +kernel
theorem d_R_twice_151 : decode b_R_twice 151 = .ok (.bipush 34, 2) := by decide +kernel
theorem d_R_twice_153 : decode b_R_twice 153 = .ok (.bipush 8, 2) := by decide +kernel
theorem d_R_twice_155 : decode b_R_twice 155 = .ok (.invokevirtual 96, 3) := by decide +kernel
theorem d_R_twice_158 : decode b_R_twice 158 = .ok (.aload_n 0, 1) := by decide +kernel
theorem d_R_twice_159 : decode b_R_twice 159 = .ok (.bipush 35, 2) := by decide +kernel
theorem d_R_twice_161 : decode b_R_twice 161 = .ok (.iload_n 1, 1) := by decide +kernel
theorem d_R_twice_162 : decode b_R_twice 162 = .ok (.iconst 1, 1) := by decide +kernel
theorem d_R_twice_163 : decode b_R_twice 163 = .ok (.iadd, 1) := by decide +kernel
theorem d_R_twice_164 : decode b_R_twice 164 = .ok (.bipush 32, 2) := by decide +kernel
theorem d_R_twice_166 : decode b_R_twice 166 = .ok (.bipush 8, 2) := by decide +kernel
theorem d_R_twice_168 : decode b_R_twice 168 = .ok (.invokevirtual 96, 3) := by decide +kernel
theorem d_R_twice_171 : decode b_R_twice 171 = .ok (.aload_n 0, 1) := by decide +kernel
theorem d_R_twice_172 : decode b_R_twice 172 = .ok (.bipush 35, 2) := by decide +kernel
theorem d_R_twice_174 : decode b_R_twice 174 = .ok (.bipush 35, 2) := by decide +kernel
theorem d_R_twice_176 : decode b_R_twice 176 = .ok (.bipush 35, 2) := by decide +kernel
theorem d_R_twice_178 : decode b_R_twice 178 = .ok (.bipush 8, 2) := by decide +kernel
theorem d_R_twice_180 : decode b_R_twice 180 = .ok (.invokevirtual 96, 3) := by decide +kernel
theorem d_R_twice_183 : decode b_R_twice 183 = .ok (.iconst 0, 1) := by decide +kernel
theorem d_R_twice_184 : decode b_R_twice 184 = .ok (.istore_n 2, 1) := by decide +kernel
theorem d_R_twice_185 : decode b_R_twice 185 = .ok (.iload_n 2, 1) := by decide +kernel
theorem d_R_twice_186 : decode b_R_twice 186 = .ok (.bipush 8, 2) := by decide +kernel
theorem d_R_twice_188 : decode b_R_twice 188 = .ok (.if_icmp .ge 21, 3) := by decide +kernel
theorem d_R_twice_191 : decode b_R_twice 191 = .ok (.aload_n 0, 1) := by decide +kernel
theorem d_R_twice_192 : decode b_R_twice 192 = .ok (.bipush 34, 2) := by decide +kernel
theorem d_R_twice_194 : decode b_R_twice 194 = .ok (.bipush 34, 2) := by decide +kernel
theorem d_R_twice_196 : decode b_R_twice 196 = .ok (.bipush 35, 2) := by decide +kernel
theorem d_R_twice_198 : decode b_R_twice 198 = .ok (.bipush 8, 2) := by decide +kernel
theorem d_R_twice_200 : decode b_R_twice 200 = .ok (.invokevirtual 112, 3) := by decide +kernel
theorem d_R_twice_203 : decode b_R_twice 203 = .ok (.iinc 2 1, 3) := by decide +kernel
theorem d_R_twice_206 : decode b_R_twice 206 = .ok (.goto (-21), 3) := by decide +kernel
theorem d_R_twice_209 : decode b_R_twice 209 = .ok (.aload_n 0, 1) := by decide +kernel
theorem d_R_twice_210 : decode b_R_twice 210 = .ok (.iload_n 1, 1) := by decide +kernel
theorem d_R_twice_211 : decode b_R_twice 211 = .ok (.iconst 1, 1) := by decide +kernel
theorem d_R_twice_212 : decode b_R_twice 212 = .ok (.iadd, 1) := by decide +kernel
theorem d_R_twice_213 : decode b_R_twice 213 = .ok (.bipush 34, 2) := by decide +kernel
theorem d_R_twice_215 : decode b_R_twice 215 = .ok (.invokevirtual 70, 3) := by decide +kernel
theorem d_R_twice_218 : decode b_R_twice 218 = .ok (.aload_n 0, 1) := by decide +kernel
theorem d_R_twice_219 : decode b_R_twice 219 = .ok (.bipush 34, 2) := by decide +kernel
theorem d_R_twice_221 : decode b_R_twice 221 = .ok (.bipush 36, 2) := by decide +kernel
theorem d_R_twice_223 : decode b_R_twice 223 = .ok (.bipush 32, 2) := by decide +kernel
theorem d_R_twice_225 : decode b_R_twice 225 = .ok (.bipush 8, 2) := by decide +kernel
theorem d_R_twice_227 : decode b_R_twice 227 = .ok (.invokevirtual 96, 3) := by decide +kernel
theorem d_R_twice_230 : decode b_R_twice 230 = .ok (.aload_n 0, 1) := by decide +kernel
theorem d_R_twice_231 : decode b_R_twice 231 = .ok (.iload_n 1, 1) := by decide +kernel
theorem d_R_twice_232 : decode b_R_twice 232 = .ok (.bipush 34, 2) := by decide +kernel
theorem d_R_twice_234 : decode b_R_twice 234 = .ok (.bipush 34, 2) := by decide +kernel
theorem d_R_twice_236 : decode b_R_twice 236 = .ok (.bipush 8, 2) := by decide +kernel
theorem d_R_twice_238 : decode b_R_twice 238 = .ok (.invokevirtual 124, 3) := by decide +kernel
theorem d_R_twice_241 : decode b_R_twice 241 = .ok (.aload_n 0, 1) := by decide +kernel
theorem d_R_twice_242 : decode b_R_twice 242 = .ok (.bipush 34, 2) := by decide +kernel
theorem d_R_twice_244 : decode b_R_twice 244 = .ok (.bipush 32, 2) := by decide +kernel
theorem d_R_twice_246 : decode b_R_twice 246 = .ok (.bipush 32, 2) := by decide +kernel
theorem d_R_twice_248 : decode b_R_twice 248 = .ok (.bipush 8, 2) := by decide +kernel
theorem d_R_twice_250 : decode b_R_twice 250 = .ok (.invokevirtual 96, 3) := by decide +kernel
theorem d_R_twice_253 : decode b_R_twice 253 = .ok (.aload_n 0, 1) := by decide +kernel
theorem d_R_twice_254 : decode b_R_twice 254 = .ok (.bipush 34, 2) := by decide +kernel
theorem d_R_twice_256 : decode b_R_twice 256 = .ok (.bipush 34, 2) := by decide +kernel
theorem d_R_twice_258 : decode b_R_twice 258 = .ok (.bipush 32, 2) := by decide +kernel
theorem d_R_twice_260 : decode b_R_twice 260 = .ok (.bipush 8, 2) := by decide +kernel
theorem d_R_twice_262 : decode b_R_twice 262 = .ok (.invokevirtual 96, 3) := by decide +kernel
theorem d_R_twice_265 : decode b_R_twice 265 = .ok (.iconst 0, 1) := by decide +kernel
theorem d_R_twice_266 : decode b_R_twice 266 = .ok (.istore_n 2, 1) := by decide +kernel
theorem d_R_twice_267 : decode b_R_twice 267 = .ok (.iload_n 2, 1) := by decide +kernel
theorem d_R_twice_268 : decode b_R_twice 268 = .ok (.iconst 3, 1) := by decide +kernel
theorem d_R_twice_269 : decode b_R_twice 269 = .ok (.if_icmp .ge 21, 3) := by decide +kernel
theorem d_R_twice_272 : decode b_R_twice 272 = .ok (.aload_n 0, 1) := by decide +kernel
theorem d_R_twice_273 : decode b_R_twice 273 = .ok (.bipush 34, 2) := by decide +kernel
theorem d_R_twice_275 : decode b_R_twice 275 = .ok (.bipush 34, 2) := by decide +kernel
theorem d_R_twice_277 : decode b_R_twice 277 = .ok (.bipush 34, 2) := by decide +kernel
theorem d_R_twice_279 : decode b_R_twice 279 = .ok (.bipush 8, 2) := by decide +kernel
theorem d_R_twice_281 : decode b_R_twice 281 = .ok (.invokevirtual 124, 3) := by decide +kernel
theorem d_R_twice_284 : decode b_R_twice 284 = .ok (.iinc 2 1, 3) := by decide +kernel
theorem d_R_twice_287 : decode b_R_twice 287 = .ok (.goto (-20), 3) := by decide +kernel
theorem d_R_twice_290 : decode b_R_twice 290 = .ok (.aload_n 0, 1) := by decide +kernel
theorem d_R_twice_291 : decode b_R_twice 291 = .ok (.iload_n 1, 1) := by decide +kernel
theorem d_R_twice_292 : decode b_R_twice 292 = .ok (.iconst 2, 1) := by decide +kernel
theorem d_R_twice_293 : decode b_R_twice 293 = .ok (.iadd, 1) := by decide +kernel
theorem d_R_twice_294 : decode b_R_twice 294 = .ok (.bipush 34, 2) := by decide +kernel
theorem d_R_twice_296 : decode b_R_twice 296 = .ok (.invokevirtual 70, 3) := by decide +kernel
theorem d_R_twice_299 : decode b_R_twice 299 = .ok (.return_, 1) := by decide +kernel
theorem d_R_join_0 : decode b_R_join 0 = .ok (.aload_n 0, 1) := by decide +kernel
theorem d_R_join_1 : decode b_R_join 1 = .ok (.iload_n 2, 1) := by decide +kernel
theorem d_R_join_2 : decode b_R_join 2 = .ok (.invokevirtual 118, 3) := by decide +kernel
theorem d_R_join_5 : decode b_R_join 5 = .ok (.ifCond .eq 4, 3) := by decide +kernel
theorem d_R_join_8 : decode b_R_join 8 = .ok (.return_, 1) := by decide +kernel
theorem d_R_join_9 : decode b_R_join 9 = .ok (.aload_n 0, 1) := by decide +kernel
theorem d_R_join_10 : decode b_R_join 10 = .ok (.iload_n 1, 1) := by decide +kernel
theorem d_R_join_11 : decode b_R_join 11 = .ok (.invokevirtual 118, 3) := by decide +kernel
theorem d_R_join_14 : decode b_R_join 14 = .ok (.ifCond .eq 10, 3) := by decide +kernel
theorem d_R_join_17 : decode b_R_join 17 = .ok (.aload_n 0, 1) := by decide +kernel
theorem d_R_join_18 : decode b_R_join 18 = .ok (.iload_n 1, 1) := by decide +kernel
theorem d_R_join_19 : decode b_R_join 19 = .ok (.iload_n 2, 1) := by decide +kernel
theorem d_R_join_20 : decode b_R_join 20 = .ok (.invokevirtual 127, 3) := by decide +kernel
theorem d_R_join_23 : decode b_R_join 23 = .ok (.return_, 1) := by decide +kernel
theorem d_R_join_24 : decode b_R_join 24 = .ok (.aload_n 0, 1) := by decide +kernel
theorem d_R_join_25 : decode b_R_join 25 = .ok (.bipush 31, 2) := by decide +kernel
theorem d_R_join_27 : decode b_R_join 27 = .ok (.iload_n 2, 1) := by decide +kernel
theorem d_R_join_28 : decode b_R_join 28 = .ok (.iconst 1, 1) := by decide +kernel
theorem d_R_join_29 : decode b_R_join 29 = .ok (.iadd, 1) := by decide +kernel
theorem d_R_join_30 : decode b_R_join 30 = .ok (.iload_n 1, 1) := by decide +kernel
theorem d_R_join_31 : decode b_R_join 31 = .ok (.iconst 2, 1) := by decide +kernel
theorem d_R_join_32 : decode b_R_join 32 = .ok (.iadd, 1) := by decide +kernel
theorem d_R_join_33 : decode b_R_join 33 = .ok (.bipush 8, 2) := by decide +kernel
theorem d_R_join_35 : decode b_R_join 35 = .ok (.invokevirtual 96, 3) := by decide +kernel
theorem d_R_join_38 : decode b_R_join 38 = .ok (.aload_n 0, 1) := by decide +kernel
theorem d_R_join_39 : decode b_R_join 39 = .ok (.bipush 34, 2) := by decide +kernel
theorem d_R_join_41 : decode b_R_join 41 = .ok (.iload_n 1, 1) := by decide +kernel
theorem d_R_join_42 : decode b_R_join 42 = .ok (.iconst 1, 1) := by decide +kernel
theorem d_R_join_43 : decode b_R_join 43 = .ok (.iadd, 1) := by decide +kernel
theorem d_R_join_44 : decode b_R_join 44 = .ok (.iload_n 2, 1) := by decide +kernel
theorem d_R_join_45 : decode b_R_join 45 = .ok (.iconst 2, 1) := by decide +kernel
theorem d_R_join_46 : decode b_R_join 46 = .ok (.iadd, 1) := by decide +kernel
theorem d_R_join_47 : decode b_R_join 47 = .ok (.bipush 8, 2) := by decide +kernel
theorem d_R_join_49 : decode b_R_join 49 = .ok (.invokevirtual 96, 3) := by decide +kernel
theorem d_R_join_52 : decode b_R_join 52 = .ok (.aload_n 0, 1) := by decide +kernel
theorem d_R_join_53 : decode b_R_join 53 = .ok (.bipush 31, 2) := by decide +kernel
theorem d_R_join_55 : decode b_R_join 55 = .ok (.bipush 31, 2) := by decide +kernel
theorem d_R_join_57 : decode b_R_join 57 = .ok (.bipush 34, 2) := by decide +kernel
theorem d_R_join_59 : decode b_R_join 59 = .ok (.bipush 8, 2) := by decide +kernel
theorem d_R_join_61 : decode b_R_join 61 = .ok (.invokevirtual 112, 3) := by decide +kernel
theorem d_R_join_64 : decode b_R_join 64 = .ok (.aload_n 0, 1) := by decide +kernel
theorem d_R_join_65 : decode b_R_join 65 = .ok (.bipush 32, 2) := by decide +kernel
theorem d_R_join_67 : decode b_R_join 67 = .ok (.iload_n 2, 1) := by decide +kernel
theorem d_R_join_68 : decode b_R_join 68 = .ok (.iload_n 1, 1) := by decide +kernel
theorem d_R_join_69 : decode b_R_join 69 = .ok (.iconst 2, 1) := by decide +kernel
theorem d_R_join_70 : decode b_R_join 70 = .ok (.iadd, 1) := by decide +kernel
theorem d_R_join_71 : decode b_R_join 71 = .ok (.bipush 8, 2) := by decide +kernel
theorem d_R_join_73 : decode b_R_join 73 = .ok (.invokevirtual 96, 3) := by decide +kernel
theorem d_R_join_76 : decode b_R_join 76 = .ok (.aload_n 0, 1) := by decide +kernel
theorem d_R_join_77 : decode b_R_join 77 = .ok (.bipush 34, 2) := by decide +kernel
theorem d_R_join_79 : decode b_R_join 79 = .ok (.iload_n 1, 1) := by decide +kernel
theorem d_R_join_80 : decode b_R_join 80 = .ok (.iload_n 2, 1) := by decide +kernel
theorem d_R_join_81 : decode b_R_join 81 = .ok (.iconst 2, 1) := by decide +kernel
theorem d_R_join_82 : decode b_R_join 82 = .ok (.iadd, 1) := by decide +kernel
theorem d_R_join_83 : decode b_R_join 83 = .ok (.bipush 8, 2) := by decide +kernel
theorem d_R_join_85 : decode b_R_join 85 = .ok (.invokevirtual 96, 3) := by decide +kernel
theorem d_R_join_88 : decode b_R_join 88 = .ok (.aload_n 0, 1) := by decide +kernel
theorem d_R_join_89 : decode b_R_join 89 = .ok (.bipush 32, 2) := by decide +kernel
theorem d_R_join_91 : decode b_R_join 91 = .ok (.bipush 32, 2) := by decide +kernel
theorem d_R_join_93 : decode b_R_join 93 = .ok (.bipush 34, 2) := by decide +kernel
theorem d_R_join_95 : decode b_R_join 95 = .ok (.bipush 8, 2) := by decide +kernel
theorem d_R_join_97 : decode b_R_join 97 = .ok (.invokevirtual 112, 3) := by decide +kernel
theorem d_R_join_100 : decode b_R_join 100 = .ok (.aload_n 0, 1) := by decide +kernel
theorem d_R_join_101 : decode b_R_join 101 = .ok (.bipush 32, 2) := by decide +kernel
theorem d_R_join_103 : decode b_R_join 103 = .ok (.invokevirtual 115, 3) := by decide +kernel
theorem d_R_join_106 : decode b_R_join 106 = .ok (.ifCond .eq 28, 3) := by decide +kernel
theorem d_R_join_109 : decode b_R_join 109 = .ok (.aload_n 0, 1) := by decide +kernel
theorem d_R_join_110 : decode b_R_join 110 = .ok (.bipush 31, 2) := by decide +kernel
theorem d_R_join_112 : decode b_R_join 112 = .ok (.invokevirtual 115, 3) := by decide +kernel
theorem d_R_join_115 : decode b_R_join 115 = .ok (.ifCond .eq 11, 3) := by decide +kernel
theorem d_R_join_118 : decode b_R_join 118 = .ok (.aload_n 0, 1) := by decide +kernel
theorem d_R_join_119 : decode b_R_join 119 = .ok (.iload_n 1, 1) := by decide +kernel
theorem d_R_join_120 : decode b_R_join 120 = .ok (.invokevirtual 130, 3) := by decide +kernel
theorem d_R_join_123 : decode b_R_join 123 = .ok (.goto 10, 3) := by decide +kernel
theorem d_R_join_126 : decode b_R_join 126 = .ok (.aload_n 0, 1) := by decide +kernel
theorem d_R_join_127 : decode b_R_join 127 = .ok (.iload_n 1, 1) := by decide +kernel
theorem d_R_join_128 : decode b_R_join 128 = .ok (.iconst 2, 1) := by decide +kernel
theorem d_R_join_129 : decode b_R_join 129 = .ok (.iadd, 1) := by decide +kernel
theorem d_R_join_130 : decode b_R_join 130 = .ok (.invokevirtual 62, 3) := by decide +kernel
theorem d_R_join_133 : decode b_R_join 133 = .ok (.return_, 1) := by decide +kernel
theorem d_R_join_134 : decode b_R_join 134 = .ok (.aload_n 0, 1) := by decide +kernel
theorem d_R_join_135 : decode b_R_join 135 = .ok (.bipush 35, 2) := by decide +kernel
theorem d_R_join_137 : decode b_R_join 137 = .ok (.bipush 32, 2) := by decide +kernel
theorem d_R_join_139 : decode b_R_join 139 = .ok (.bipush 32, 2) := by decide +kernel
theorem d_R_join_141 : decode b_R_join 141 = .ok (.bipush 8, 2) := by decide +kernel
theorem d_R_join_143 : decode b_R_join 143 = .ok (.invokevirtual 96, 3) := by decide +kernel
theorem d_R_join_146 : decode b_R_join 146 = .ok (.aload_n 0, 1) := by decide +kernel
theorem d_R_join_147 : decode b_R_join 147 = .ok (.bipush 33, 2) := by decide +kernel
theorem d_R_join_149 : decode b_R_join 149 = .ok (.bipush 35, 2) := by decide +kernel
theorem d_R_join_151 : decode b_R_join 151 = .ok (.bipush 34, 2) := by decide +kernel
theorem d_R_join_153 : decode b_R_join 153 = .ok (.bipush 8, 2) := by decide +kernel
theorem d_R_join_155 : decode b_R_join 155 = .ok (.invokevirtual 96, 3) := by decide +kernel
theorem d_R_join_158 : decode b_R_join 158 = .ok (.aload_n 0, 1) := by decide +kernel
theorem d_R_join_159 : decode b_R_join 159 = .ok (.bipush 35, 2) := by decide +kernel
theorem d_R_join_161 : decode b_R_join 161 = .ok (.bipush 35, 2) := by decide +kernel
theorem d_R_join_163 : decode b_R_join 163 = .ok (.bipush 32, 2) := by decide +kernel
theorem d_R_join_165 : decode b_R_join 165 = .ok (.bipush 8, 2) := by decide +kernel
theorem d_R_join_167 : decode b_R_join 167 = .ok (.invokevirtual 96, 3) := by decide +kernel
theorem d_R_join_170 : decode b_R_join 170 = .ok (.aload_n 0, 1) := by decide +kernel
theorem d_R_join_171 : decode b_R_join 171 = .ok (.bipush 36, 2) := by decide +kernel
theorem d_R_join_173 : decode b_R_join 173 = .ok (.iload_n 1, 1) := by decide +kernel
theorem d_R_join_174 : decode b_R_join 174 = .ok (.iconst 2, 1) := by decide +kernel
theorem d_R_join_175 : decode b_R_join 175 = .ok (.iadd, 1) := by decide +kernel
theorem d_R_join_176 : decode b_R_join 176 = .ok (.iload_n 2, 1) := by decide +kernel
theorem d_R_join_177 : decode b_R_join 177 = .ok (.iconst 2, 1) := by decide +kernel
theorem d_R_join_178 : decode b_R_join 178 = .ok (.iadd, 1) := by decide +kernel
theorem d_R_join_179 : decode b_R_join 179 = .ok (.bipush 8, 2) := by decide +kernel
theorem d_R_join_181 : decode b_R_join 181 = .ok (.invokevirtual 96, 3) := by decide +kernel
theorem d_R_join_184 : decode b_R_join 184 = .ok (.aload_n 0, 1) := by decide +kernel
theorem d_R_join_185 : decode b_R_join 185 = .ok (.bipush 34, 2) := by decide +kernel
theorem d_R_join_187 : decode b_R_join 187 = .ok (.bipush 31, 2) := by decide +kernel
theorem d_R_join_189 : decode b_R_join 189 = .ok (.bipush 31, 2) := by decide +kernel
theorem d_R_join_191 : decode b_R_join 191 = .ok (.bipush 8, 2) := by decide +kernel
theorem d_R_join_193 : decode b_R_join 193 = .ok (.invokevirtual 96, 3) := by decide +kernel
theorem d_R_join_196 : decode b_R_join 196 = .ok (.aload_n 0, 1) := by decide +kernel
theorem d_R_join_197 : decode b_R_join 197 = .ok (.bipush 34, 2) := by decide +kernel
theorem d_R_join_199 : decode b_R_join 199 = .ok (.bipush 34, 2) := by decide +kernel
theorem d_R_join_201 : decode b_R_join 201 = .ok (.bipush 36, 2) := by decide +kernel
theorem d_R_join_203 : decode b_R_join 203 = .ok (.bipush 8, 2) := by decide +kernel
theorem d_R_join_205 : decode b_R_join 205 = .ok (.invokevirtual 96, 3) := by decide +kernel
theorem d_R_join_208 : decode b_R_join 208 = .ok (.aload_n 0, 1) := by decide +kernel
theorem d_R_join_209 : decode b_R_join 209 = .ok (.bipush 34, 2) := by decide +kernel
theorem d_R_join_211 : decode b_R_join 211 = .ok (.bipush 34, 2) := by decide +kernel
theorem d_R_join_213 : decode b_R_join 213 = .ok (.bipush 35, 2) := by decide +kernel
theorem d_R_join_215 : decode b_R_join 215 = .ok (.bipush 8, 2) := by decide +kernel
theorem d_R_join_217 : decode b_R_join 217 = .ok (.invokevirtual 112, 3) := by decide +kernel
theorem d_R_join_220 : decode b_R_join 220 = .ok (.aload_n 0, 1) := by decide +kernel
theorem d_R_join_221 : decode b_R_join 221 = .ok (.bipush 34, 2) := by decide +kernel
theorem d_R_join_223 : decode b_R_join 223 = .ok (.bipush 34, 2) := by decide +kernel
theorem d_R_join_225 : decode b_R_join 225 = .ok (.bipush 33, 2) := by decide +kernel
theorem d_R_join_227 : decode b_R_join 227 = .ok (.bipush 8, 2) := by decide +kernel
theorem d_R_join_229 : decode b_R_join 229 = .ok (.invokevirtual 112, 3) := by decide +kernel
theorem d_R_join_232 : decode b_R_join 232 = .ok (.aload_n 0, 1) := by decide +kernel
theorem d_R_join_233 : decode b_R_join 233 = .ok (.bipush 34, 2) := by decide +kernel
theorem d_R_join_235 : decode b_R_join 235 = .ok (.bipush 34, 2) := by decide +kernel
theorem d_R_join_237 : decode b_R_join 237 = .ok (.bipush 33, 2) := by decide +kernel
theorem d_R_join_239 : decode b_R_join 239 = .ok (.bipush 8, 2) := by decide +kernel
theorem d_R_join_241 : decode b_R_join 241 = .ok (.invokevirtual 112, 3) := by decide +kernel
theorem d_R_join_244 : decode b_R_join 244 = .ok (.aload_n 0, 1) := by decide +kernel
theorem d_R_join_245 : decode b_R_join 245 = .ok (.bipush 33, 2) := by decide +kernel
theorem d_R_join_247 : decode b_R_join 247 = .ok (.bipush 33, 2) := by decide +kernel
theorem d_R_join_249 : decode b_R_join 249 = .ok (.bipush 34, 2) := by decide +kernel
theorem d_R_join_251 : decode b_R_join 251 = .ok (.bipush 8, 2) := by decide +kernel
theorem d_R_join_253 : decode b_R_join 253 = .ok (.invokevirtual 112, 3) := by decide +kernel
theorem d_R_join_256 : decode b_R_join 256 = .ok (.aload_n 0, 1) := by decide +kernel
theorem d_R_join_257 : decode b_R_join 257 = .ok (.bipush 33, 2) := by decide +kernel
theorem d_R_join_259 : decode b_R_join 259 = .ok (.bipush 31, 2) := by decide +kernel
theorem d_R_join_261 : decode b_R_join 261 = .ok (.bipush 33, 2) := by decide +kernel
theorem d_R_join_263 : decode b_R_join 263 = .ok (.bipush 8, 2) := by decide +kernel
theorem d_R_join_265 : decode b_R_join 265 = .ok (.invokevirtual 96, 3) := by decide +kernel
theorem d_R_join_268 : decode b_R_join 268 = .ok (.aload_n 0, 1) := by decide +kernel
theorem d_R_join_269 : decode b_R_join 269 = .ok (.bipush 31, 2) := by decide +kernel
theorem d_R_join_271 : decode b_R_join 271 = .ok (.iload_n 1, 1) := by decide +kernel
theorem d_R_join_272 : decode b_R_join 272 = .ok (.iconst 1, 1) := by decide +kernel
theorem d_R_join_273 : decode b_R_join 273 = .ok (.iadd, 1) := by decide +kernel
theorem d_R_join_274 : decode b_R_join 274 = .ok (.iload_n 2, 1) := by decide +kernel
theorem d_R_join_275 : decode b_R_join 275 = .ok (.iconst 2, 1) := by decide +kernel
theorem d_R_join_276 : decode b_R_join 276 = .ok (.iadd, 1) := by decide +kernel
theorem d_R_join_277 : decode b_R_join 277 = .ok (.bipush 8, 2) := by decide +kernel
theorem d_R_join_279 : decode b_R_join 279 = .ok (.invokevirtual 96, 3) := by decide +kernel
theorem d_R_join_282 : decode b_R_join 282 = .ok (.aload_n 0, 1) := by decide +kernel
theorem d_R_join_283 : decode b_R_join 283 = .ok (.bipush 31, 2) := by decide +kernel
theorem d_R_join_285 : decode b_R_join 285 = .ok (.bipush 31, 2) := by decide +kernel
theorem d_R_join_287 : decode b_R_join 287 = .ok (.bipush 35, 2) := by decide +kernel
theorem d_R_join_289 : decode b_R_join 289 = .ok (.bipush 8, 2) := by decide +kernel
theorem d_R_join_291 : decode b_R_join 291 = .ok (.invokevirtual 96, 3) := by decide +kernel
theorem d_R_join_294 : decode b_R_join 294 = .ok (.aload_n 0, 1) := by decide +kernel
theorem d_R_join_295 : decode b_R_join 295 = .ok (.iload_n 1, 1) := by decide +kernel
theorem d_R_join_296 : decode b_R_join 296 = .ok (.iconst 1, 1) := by decide +kernel
theorem d_R_join_297 : decode b_R_join 297 = .ok (.iadd, 1) := by decide +kernel
theorem d_R_join_298 : decode b_R_join 298 = .ok (.bipush 33, 2) := by decide +kernel
