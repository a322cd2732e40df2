/-! the instructions -/
theorem d_D_place_67 : decode b_D_place 67 = .ok (.iconst 1, 1) := by decide +kernel
theorem d_D_place_68 : decode b_D_place 68 = .ok (.ireturn, 1) := by decide +kernel
theorem d_D_put_0 : decode b_D_put 0 = .ok (.aload_n 0, 1) := by decide +kernel
theorem d_D_put_1 : decode b_D_put 1 = .ok (.getfield 23, 3) := by decide +kernel
theorem d_D_put_4 : decode b_D_put 4 = .ok (.lload_n 1, 1) := by decide +kernel
theorem d_D_put_5 : decode b_D_put 5 = .ok (.iload_n 3, 1) := by decide +kernel
theorem d_D_put_6 : decode b_D_put 6 = .ok (.invokevirtual 177, 3) := by decide +kernel
theorem d_D_put_9 : decode b_D_put 9 = .ok (.ireturn, 1) := by decide +kernel
theorem d_D_key_0 : decode b_D_key 0 = .ok (.iload_n 1, 1) := by decide +kernel
theorem d_D_key_1 : decode b_D_key 1 = .ok (.invokestatic 142, 3) := by decide +kernel
theorem d_D_key_4 : decode b_D_key 4 = .ok (.ifCond .ne 5, 3) := by decide +kernel
theorem d_D_key_7 : decode b_D_key 7 = .ok (.iconst (-1), 1) := by decide +kernel
theorem d_D_key_8 : decode b_D_key 8 = .ok (.ireturn, 1) := by decide +kernel
theorem d_D_key_9 : decode b_D_key 9 = .ok (.aload_n 0, 1) := by decide +kernel
theorem d_D_key_10 : decode b_D_key 10 = .ok (.getfield 23, 3) := by decide +kernel
theorem d_D_key_13 : decode b_D_key 13 = .ok (.invokevirtual 181, 3) := by decide +kernel
theorem d_D_key_16 : decode b_D_key 16 = .ok (.istore_n 2, 1) := by decide +kernel
theorem d_D_key_17 : decode b_D_key 17 = .ok (.iload_n 2, 1) := by decide +kernel
theorem d_D_key_18 : decode b_D_key 18 = .ok (.bipush 33, 2) := by decide +kernel
theorem d_D_key_20 : decode b_D_key 20 = .ok (.if_icmp .ne 17, 3) := by decide +kernel
theorem d_D_key_23 : decode b_D_key 23 = .ok (.aload_n 0, 1) := by decide +kernel
theorem d_D_key_24 : decode b_D_key 24 = .ok (.iload_n 1, 1) := by decide +kernel
theorem d_D_key_25 : decode b_D_key 25 = .ok (.invokevirtual 185, 3) := by decide +kernel
theorem d_D_key_28 : decode b_D_key 28 = .ok (.ifCond .eq 7, 3) := by decide +kernel
theorem d_D_key_31 : decode b_D_key 31 = .ok (.iconst 1, 1) := by decide +kernel
theorem d_D_key_32 : decode b_D_key 32 = .ok (.goto 4, 3) := by decide +kernel
theorem d_D_key_35 : decode b_D_key 35 = .ok (.iconst 0, 1) := by decide +kernel
theorem d_D_key_36 : decode b_D_key 36 = .ok (.ireturn, 1) := by decide +kernel
theorem d_D_key_37 : decode b_D_key 37 = .ok (.iload_n 2, 1) := by decide +kernel
theorem d_D_key_38 : decode b_D_key 38 = .ok (.bipush 65, 2) := by decide +kernel
theorem d_D_key_40 : decode b_D_key 40 = .ok (.if_icmp .ne 17, 3) := by decide +kernel
theorem d_D_key_43 : decode b_D_key 43 = .ok (.aload_n 0, 1) := by decide +kernel
theorem d_D_key_44 : decode b_D_key 44 = .ok (.iload_n 1, 1) := by decide +kernel
theorem d_D_key_45 : decode b_D_key 45 = .ok (.invokevirtual 188, 3) := by decide +kernel
theorem d_D_key_48 : decode b_D_key 48 = .ok (.ifCond .eq 7, 3) := by decide +kernel
theorem d_D_key_51 : decode b_D_key 51 = .ok (.iconst 1, 1) := by decide +kernel
theorem d_D_key_52 : decode b_D_key 52 = .ok (.goto 4, 3) := by decide +kernel
theorem d_D_key_55 : decode b_D_key 55 = .ok (.iconst 0, 1) := by decide +kernel
theorem d_D_key_56 : decode b_D_key 56 = .ok (.ireturn, 1) := by decide +kernel
theorem d_D_key_57 : decode b_D_key 57 = .ok (.iconst 0, 1) := by decide +kernel
theorem d_D_key_58 : decode b_D_key 58 = .ok (.ireturn, 1) := by decide +kernel
theorem d_D_signature_0 : decode b_D_signature 0 = .ok (.iload_n 1, 1) := by decide +kernel
theorem d_D_signature_1 : decode b_D_signature 1 = .ok (.iload_n 2, 1) := by decide +kernel
theorem d_D_signature_2 : decode b_D_signature 2 = .ok (.invokestatic 163, 3) := by decide +kernel
theorem d_D_signature_5 : decode b_D_signature 5 = .ok (.ifCond .ne 5, 3) := by decide +kernel
theorem d_D_signature_8 : decode b_D_signature 8 = .ok (.iconst (-1), 1) := by decide +kernel
theorem d_D_signature_9 : decode b_D_signature 9 = .ok (.ireturn, 1) := by decide +kernel
theorem d_D_signature_10 : decode b_D_signature 10 = .ok (.aload_n 0, 1) := by decide +kernel
theorem d_D_signature_11 : decode b_D_signature 11 = .ok (.getfield 23, 3) := by decide +kernel
theorem d_D_signature_14 : decode b_D_signature 14 = .ok (.invokevirtual 181, 3) := by decide +kernel
theorem d_D_signature_17 : decode b_D_signature 17 = .ok (.istore_n 3, 1) := by decide +kernel
theorem d_D_signature_18 : decode b_D_signature 18 = .ok (.aload_n 0, 1) := by decide +kernel
theorem d_D_signature_19 : decode b_D_signature 19 = .ok (.getfield 23, 3) := by decide +kernel
theorem d_D_signature_22 : decode b_D_signature 22 = .ok (.aload_n 0, 1) := by decide +kernel
theorem d_D_signature_23 : decode b_D_signature 23 = .ok (.getfield 75, 3) := by decide +kernel
theorem d_D_signature_26 : decode b_D_signature 26 = .ok (.aload_n 0, 1) := by decide +kernel
theorem d_D_signature_27 : decode b_D_signature 27 = .ok (.getfield 78, 3) := by decide +kernel
theorem d_D_signature_30 : decode b_D_signature 30 = .ok (.iload_n 3, 1) := by decide +kernel
theorem d_D_signature_31 : decode b_D_signature 31 = .ok (.invokevirtual 191, 3) := by decide +kernel
theorem d_D_signature_34 : decode b_D_signature 34 = .ok (.ifCond .ne 5, 3) := by decide +kernel
theorem d_D_signature_37 : decode b_D_signature 37 = .ok (.iconst 0, 1) := by decide +kernel
theorem d_D_signature_38 : decode b_D_signature 38 = .ok (.ireturn, 1) := by decide +kernel
theorem d_D_signature_39 : decode b_D_signature 39 = .ok (.aload_n 0, 1) := by decide +kernel
theorem d_D_signature_40 : decode b_D_signature 40 = .ok (.getfield 11, 3) := by decide +kernel
theorem d_D_signature_43 : decode b_D_signature 43 = .ok (.iload_n 1, 1) := by decide +kernel
theorem d_D_signature_44 : decode b_D_signature 44 = .ok (.aaload, 1) := by decide +kernel
theorem d_D_signature_45 : decode b_D_signature 45 = .ok (.aload_n 0, 1) := by decide +kernel
theorem d_D_signature_46 : decode b_D_signature 46 = .ok (.getfield 75, 3) := by decide +kernel
theorem d_D_signature_49 : decode b_D_signature 49 = .ok (.invokestatic 139, 3) := by decide +kernel
theorem d_D_signature_52 : decode b_D_signature 52 = .ok (.aload_n 0, 1) := by decide +kernel
theorem d_D_signature_53 : decode b_D_signature 53 = .ok (.getfield 11, 3) := by decide +kernel
theorem d_D_signature_56 : decode b_D_signature 56 = .ok (.iload_n 2, 1) := by decide +kernel
theorem d_D_signature_57 : decode b_D_signature 57 = .ok (.aaload, 1) := by decide +kernel
theorem d_D_signature_58 : decode b_D_signature 58 = .ok (.aload_n 0, 1) := by decide +kernel
theorem d_D_signature_59 : decode b_D_signature 59 = .ok (.getfield 78, 3) := by decide +kernel
theorem d_D_signature_62 : decode b_D_signature 62 = .ok (.invokestatic 139, 3) := by decide +kernel
theorem d_D_signature_65 : decode b_D_signature 65 = .ok (.iconst 1, 1) := by decide +kernel
theorem d_D_signature_66 : decode b_D_signature 66 = .ok (.ireturn, 1) := by decide +kernel
theorem d_D_fits_0 : decode b_D_fits 0 = .ok (.iload_n 1, 1) := by decide +kernel
theorem d_D_fits_1 : decode b_D_fits 1 = .ok (.invokestatic 142, 3) := by decide +kernel
theorem d_D_fits_4 : decode b_D_fits 4 = .ok (.ifCond .eq 25, 3) := by decide +kernel
theorem d_D_fits_7 : decode b_D_fits 7 = .ok (.iload_n 2, 1) := by decide +kernel
theorem d_D_fits_8 : decode b_D_fits 8 = .ok (.invokestatic 91, 3) := by decide +kernel
theorem d_D_fits_11 : decode b_D_fits 11 = .ok (.ifCond .eq 18, 3) := by decide +kernel
theorem d_D_fits_14 : decode b_D_fits 14 = .ok (.iload_n 3, 1) := by decide +kernel
theorem d_D_fits_15 : decode b_D_fits 15 = .ok (.invokestatic 91, 3) := by decide +kernel
theorem d_D_fits_18 : decode b_D_fits 18 = .ok (.ifCond .eq 11, 3) := by decide +kernel
theorem d_D_fits_21 : decode b_D_fits 21 = .ok (.iload 4, 2) := by decide +kernel
theorem d_D_fits_23 : decode b_D_fits 23 = .ok (.invokestatic 91, 3) := by decide +kernel
theorem d_D_fits_26 : decode b_D_fits 26 = .ok (.ifCond .ne 5, 3) := by decide +kernel
theorem d_D_fits_29 : decode b_D_fits 29 = .ok (.iconst (-1), 1) := by decide +kernel
theorem d_D_fits_30 : decode b_D_fits 30 = .ok (.ireturn, 1) := by decide +kernel
theorem d_D_fits_31 : decode b_D_fits 31 = .ok (.aload_n 0, 1) := by decide +kernel
theorem d_D_fits_32 : decode b_D_fits 32 = .ok (.getfield 16, 3) := by decide +kernel
theorem d_D_fits_35 : decode b_D_fits 35 = .ok (.iload_n 1, 1) := by decide +kernel
theorem d_D_fits_36 : decode b_D_fits 36 = .ok (.aaload, 1) := by decide +kernel
theorem d_D_fits_37 : decode b_D_fits 37 = .ok (.getfield 167, 3) := by decide +kernel
theorem d_D_fits_40 : decode b_D_fits 40 = .ok (.ifCond .ne 29, 3) := by decide +kernel
theorem d_D_fits_43 : decode b_D_fits 43 = .ok (.aload_n 0, 1) := by decide +kernel
theorem d_D_fits_44 : decode b_D_fits 44 = .ok (.aload_n 0, 1) := by decide +kernel
theorem d_D_fits_45 : decode b_D_fits 45 = .ok (.getfield 11, 3) := by decide +kernel
theorem d_D_fits_48 : decode b_D_fits 48 = .ok (.iload_n 2, 1) := by decide +kernel
theorem d_D_fits_49 : decode b_D_fits 49 = .ok (.aaload, 1) := by decide +kernel
theorem d_D_fits_50 : decode b_D_fits 50 = .ok (.invokevirtual 195, 3) := by decide +kernel
theorem d_D_fits_53 : decode b_D_fits 53 = .ok (.ifCond .eq 16, 3) := by decide +kernel
theorem d_D_fits_56 : decode b_D_fits 56 = .ok (.aload_n 0, 1) := by decide +kernel
theorem d_D_fits_57 : decode b_D_fits 57 = .ok (.aload_n 0, 1) := by decide +kernel
theorem d_D_fits_58 : decode b_D_fits 58 = .ok (.getfield 11, 3) := by decide +kernel
theorem d_D_fits_61 : decode b_D_fits 61 = .ok (.iload_n 3, 1) := by decide +kernel
theorem d_D_fits_62 : decode b_D_fits 62 = .ok (.aaload, 1) := by decide +kernel
theorem d_D_fits_63 : decode b_D_fits 63 = .ok (.invokevirtual 195, 3) := by decide +kernel
theorem d_D_fits_66 : decode b_D_fits 66 = .ok (.ifCond .ne 5, 3) := by decide +kernel
theorem d_D_fits_69 : decode b_D_fits 69 = .ok (.iconst 0, 1) := by decide +kernel
theorem d_D_fits_70 : decode b_D_fits 70 = .ok (.ireturn, 1) := by decide +kernel
theorem d_D_fits_71 : decode b_D_fits 71 = .ok (.aload_n 0, 1) := by decide +kernel
theorem d_D_fits_72 : decode b_D_fits 72 = .ok (.getfield 55, 3) := by decide +kernel
theorem d_D_fits_75 : decode b_D_fits 75 = .ok (.aload_n 0, 1) := by decide +kernel
theorem d_D_fits_76 : decode b_D_fits 76 = .ok (.getfield 78, 3) := by decide +kernel
theorem d_D_fits_79 : decode b_D_fits 79 = .ok (.aload_n 0, 1) := by decide +kernel
theorem d_D_fits_80 : decode b_D_fits 80 = .ok (.getfield 11, 3) := by decide +kernel
theorem d_D_fits_83 : decode b_D_fits 83 = .ok (.iload_n 3, 1) := by decide +kernel
theorem d_D_fits_84 : decode b_D_fits 84 = .ok (.aaload, 1) := by decide +kernel
theorem d_D_fits_85 : decode b_D_fits 85 = .ok (.invokevirtual 132, 3) := by decide +kernel
theorem d_D_fits_88 : decode b_D_fits 88 = .ok (.aload_n 0, 1) := by decide +kernel
theorem d_D_fits_89 : decode b_D_fits 89 = .ok (.getfield 75, 3) := by decide +kernel
theorem d_D_fits_92 : decode b_D_fits 92 = .ok (.aload_n 0, 1) := by decide +kernel
theorem d_D_fits_93 : decode b_D_fits 93 = .ok (.getfield 11, 3) := by decide +kernel
theorem d_D_fits_96 : decode b_D_fits 96 = .ok (.iload 4, 2) := by decide +kernel
theorem d_D_fits_98 : decode b_D_fits 98 = .ok (.aaload, 1) := by decide +kernel
theorem d_D_fits_99 : decode b_D_fits 99 = .ok (.invokestatic 139, 3) := by decide +kernel
theorem d_D_fits_102 : decode b_D_fits 102 = .ok (.aload_n 0, 1) := by decide +kernel
theorem d_D_fits_103 : decode b_D_fits 103 = .ok (.getfield 55, 3) := by decide +kernel
theorem d_D_fits_106 : decode b_D_fits 106 = .ok (.aload_n 0, 1) := by decide +kernel
theorem d_D_fits_107 : decode b_D_fits 107 = .ok (.getfield 75, 3) := by decide +kernel
theorem d_D_fits_110 : decode b_D_fits 110 = .ok (.invokevirtual 112, 3) := by decide +kernel
theorem d_D_fits_113 : decode b_D_fits 113 = .ok (.aload_n 0, 1) := by decide +kernel
theorem d_D_fits_114 : decode b_D_fits 114 = .ok (.getfield 55, 3) := by decide +kernel
theorem d_D_fits_117 : decode b_D_fits 117 = .ok (.aload_n 0, 1) := by decide +kernel
theorem d_D_fits_118 : decode b_D_fits 118 = .ok (.getfield 75, 3) := by decide +kernel
theorem d_D_fits_121 : decode b_D_fits 121 = .ok (.aload_n 0, 1) := by decide +kernel
theorem d_D_fits_122 : decode b_D_fits 122 = .ok (.getfield 75, 3) := by decide +kernel
theorem d_D_fits_125 : decode b_D_fits 125 = .ok (.aload_n 0, 1) := by decide +kernel
theorem d_D_fits_126 : decode b_D_fits 126 = .ok (.getfield 78, 3) := by decide +kernel
theorem d_D_fits_129 : decode b_D_fits 129 = .ok (.invokevirtual 129, 3) := by decide +kernel
theorem d_D_fits_132 : decode b_D_fits 132 = .ok (.aload_n 0, 1) := by decide +kernel
theorem d_D_fits_133 : decode b_D_fits 133 = .ok (.getfield 55, 3) := by decide +kernel
theorem d_D_fits_136 : decode b_D_fits 136 = .ok (.aload_n 0, 1) := by decide +kernel
theorem d_D_fits_137 : decode b_D_fits 137 = .ok (.getfield 78, 3) := by decide +kernel
theorem d_D_fits_140 : decode b_D_fits 140 = .ok (.aload_n 0, 1) := by decide +kernel
theorem d_D_fits_141 : decode b_D_fits 141 = .ok (.getfield 78, 3) := by decide +kernel
theorem d_D_fits_144 : decode b_D_fits 144 = .ok (.aload_n 0, 1) := by decide +kernel
theorem d_D_fits_145 : decode b_D_fits 145 = .ok (.getfield 11, 3) := by decide +kernel
theorem d_D_fits_148 : decode b_D_fits 148 = .ok (.iload_n 2, 1) := by decide +kernel
theorem d_D_fits_149 : decode b_D_fits 149 = .ok (.aaload, 1) := by decide +kernel
theorem d_D_fits_150 : decode b_D_fits 150 = .ok (.invokevirtual 129, 3) := by decide +kernel
theorem d_D_fits_153 : decode b_D_fits 153 = .ok (.aload_n 0, 1) := by decide +kernel
theorem d_D_fits_154 : decode b_D_fits 154 = .ok (.getfield 63, 3) := by decide +kernel
theorem d_D_fits_157 : decode b_D_fits 157 = .ok (.aload_n 0, 1) := by decide +kernel
theorem d_D_fits_158 : decode b_D_fits 158 = .ok (.getfield 72, 3) := by decide +kernel
theorem d_D_fits_161 : decode b_D_fits 161 = .ok (.aload_n 0, 1) := by decide +kernel
theorem d_D_fits_162 : decode b_D_fits 162 = .ok (.getfield 75, 3) := by decide +kernel
theorem d_D_fits_165 : decode b_D_fits 165 = .ok (.aload_n 0, 1) := by decide +kernel
theorem d_D_fits_166 : decode b_D_fits 166 = .ok (.getfield 68, 3) := by decide +kernel
theorem d_D_fits_169 : decode b_D_fits 169 = .ok (.aload_n 0, 1) := by decide +kernel
theorem d_D_fits_170 : decode b_D_fits 170 = .ok (.getfield 78, 3) := by decide +kernel
theorem d_D_fits_173 : decode b_D_fits 173 = .ok (.aload_n 0, 1) := by decide +kernel
theorem d_D_fits_174 : decode b_D_fits 174 = .ok (.getfield 16, 3) := by decide +kernel
theorem d_D_fits_177 : decode b_D_fits 177 = .ok (.iload_n 1, 1) := by decide +kernel
theorem d_D_fits_178 : decode b_D_fits 178 = .ok (.aaload, 1) := by decide +kernel
theorem d_D_fits_179 : decode b_D_fits 179 = .ok (.invokevirtual 159, 3) := by decide +kernel
theorem d_D_fits_182 : decode b_D_fits 182 = .ok (.aload_n 0, 1) := by decide +kernel
theorem d_D_fits_183 : decode b_D_fits 183 = .ok (.getfield 72, 3) := by decide +kernel
theorem d_D_fits_186 : decode b_D_fits 186 = .ok (.getfield 167, 3) := by decide +kernel
theorem d_D_fits_189 : decode b_D_fits 189 = .ok (.ifCond .eq 5, 3) := by decide +kernel
theorem d_D_fits_192 : decode b_D_fits 192 = .ok (.iconst 0, 1) := by decide +kernel
theorem d_D_fits_193 : decode b_D_fits 193 = .ok (.ireturn, 1) := by decide +kernel
theorem d_D_fits_194 : decode b_D_fits 194 = .ok (.aload_n 0, 1) := by decide +kernel
theorem d_D_fits_195 : decode b_D_fits 195 = .ok (.getfield 75, 3) := by decide +kernel
theorem d_D_fits_198 : decode b_D_fits 198 = .ok (.aload_n 0, 1) := by decide +kernel
theorem d_D_fits_199 : decode b_D_fits 199 = .ok (.getfield 72, 3) := by decide +kernel
theorem d_D_fits_202 : decode b_D_fits 202 = .ok (.getfield 171, 3) := by decide +kernel
theorem d_D_fits_205 : decode b_D_fits 205 = .ok (.invokestatic 139, 3) := by decide +kernel
theorem d_D_fits_208 : decode b_D_fits 208 = .ok (.aload_n 0, 1) := by decide +kernel
theorem d_D_fits_209 : decode b_D_fits 209 = .ok (.getfield 55, 3) := by decide +kernel
theorem d_D_fits_212 : decode b_D_fits 212 = .ok (.aload_n 0, 1) := by decide +kernel
theorem d_D_fits_213 : decode b_D_fits 213 = .ok (.getfield 75, 3) := by decide +kernel
theorem d_D_fits_216 : decode b_D_fits 216 = .ok (.invokevirtual 112, 3) := by decide +kernel
theorem d_D_fits_219 : decode b_D_fits 219 = .ok (.aload_n 0, 1) := by decide +kernel
theorem d_D_fits_220 : decode b_D_fits 220 = .ok (.getfield 75, 3) := by decide +kernel
theorem d_D_fits_223 : decode b_D_fits 223 = .ok (.aload_n 0, 1) := by decide +kernel
theorem d_D_fits_224 : decode b_D_fits 224 = .ok (.getfield 11, 3) := by decide +kernel
theorem d_D_fits_227 : decode b_D_fits 227 = .ok (.iload_n 2, 1) := by decide +kernel
theorem d_D_fits_228 : decode b_D_fits 228 = .ok (.aaload, 1) := by decide +kernel
theorem d_D_fits_229 : decode b_D_fits 229 = .ok (.invokestatic 198, 3) := by decide +kernel
theorem d_D_fits_232 : decode b_D_fits 232 = .ok (.ifCond .eq 7, 3) := by decide +kernel
theorem d_D_fits_235 : decode b_D_fits 235 = .ok (.iconst 1, 1) := by decide +kernel
theorem d_D_fits_236 : decode b_D_fits 236 = .ok (.goto 4, 3) := by decide +kernel
theorem d_D_fits_239 : decode b_D_fits 239 = .ok (.iconst 0, 1) := by decide +kernel
theorem d_D_fits_240 : decode b_D_fits 240 = .ok (.ireturn, 1) := by decide +kernel
theorem d_D_isRegister_0 : decode b_D_isRegister 0 = .ok (.iload_n 0, 1) := by decide +kernel
theorem d_D_isRegister_1 : decode b_D_isRegister 1 = .ok (.ifCond .lt 13, 3) := by decide +kernel
theorem d_D_isRegister_4 : decode b_D_isRegister 4 = .ok (.iload_n 0, 1) := by decide +kernel
theorem d_D_isRegister_5 : decode b_D_isRegister 5 = .ok (.bipush 8, 2) := by decide +kernel
theorem d_D_isRegister_7 : decode b_D_isRegister 7 = .ok (.if_icmp .ge 7, 3) := by decide +kernel
theorem d_D_isRegister_10 : decode b_D_isRegister 10 = .ok (.iconst 1, 1) := by decide +kernel
theorem d_D_isRegister_11 : decode b_D_isRegister 11 = .ok (.goto 4, 3) := by decide +kernel
theorem d_D_isRegister_14 : decode b_D_isRegister 14 = .ok (.iconst 0, 1) := by decide +kernel
theorem d_D_isRegister_15 : decode b_D_isRegister 15 = .ok (.ireturn, 1) := by decide +kernel
theorem d_D_areTwoRegisters_0 : decode b_D_areTwoRegisters 0 = .ok (.iload_n 0, 1) := by decide +kernel
theorem d_D_areTwoRegisters_1 : decode b_D_areTwoRegisters 1 = .ok (.invokestatic 91, 3) := by decide +kernel
theorem d_D_areTwoRegisters_4 : decode b_D_areTwoRegisters 4 = .ok (.ifCond .eq 19, 3) := by decide +kernel
theorem d_D_areTwoRegisters_7 : decode b_D_areTwoRegisters 7 = .ok (.iload_n 1, 1) := by decide +kernel
theorem d_D_areTwoRegisters_8 : decode b_D_areTwoRegisters 8 = .ok (.invokestatic 91, 3) := by decide +kernel
theorem d_D_areTwoRegisters_11 : decode b_D_areTwoRegisters 11 = .ok (.ifCond .eq 12, 3) := by decide +kernel
theorem d_D_areTwoRegisters_14 : decode b_D_areTwoRegisters 14 = .ok (.iload_n 0, 1) := by decide +kernel
theorem d_D_areTwoRegisters_15 : decode b_D_areTwoRegisters 15 = .ok (.iload_n 1, 1) := by decide +kernel
theorem d_D_areTwoRegisters_16 : decode b_D_areTwoRegisters 16 = .ok (.if_icmp .eq 7, 3) := by decide +kernel
theorem d_D_areTwoRegisters_19 : decode b_D_areTwoRegisters 19 = .ok (.iconst 1, 1) := by decide +kernel
theorem d_D_areTwoRegisters_20 : decode b_D_areTwoRegisters 20 = .ok (.goto 4, 3) := by decide +kernel
theorem d_D_areTwoRegisters_23 : decode b_D_areTwoRegisters 23 = .ok (.iconst 0, 1) := by decide +kernel
theorem d_D_areTwoRegisters_24 : decode b_D_areTwoRegisters 24 = .ok (.ireturn, 1) := by decide +kernel
theorem d_D_isSpot_0 : decode b_D_isSpot 0 = .ok (.iload_n 0, 1) := by decide +kernel
theorem d_D_isSpot_1 : decode b_D_isSpot 1 = .ok (.ifCond .lt 12, 3) := by decide +kernel
theorem d_D_isSpot_4 : decode b_D_isSpot 4 = .ok (.iload_n 0, 1) := by decide +kernel
theorem d_D_isSpot_5 : decode b_D_isSpot 5 = .ok (.iconst 4, 1) := by decide +kernel
theorem d_D_isSpot_6 : decode b_D_isSpot 6 = .ok (.if_icmp .ge 7, 3) := by decide +kernel
theorem d_D_isSpot_9 : decode b_D_isSpot 9 = .ok (.iconst 1, 1) := by decide +kernel
theorem d_D_isSpot_10 : decode b_D_isSpot 10 = .ok (.goto 4, 3) := by decide +kernel
theorem d_D_isSpot_13 : decode b_D_isSpot 13 = .ok (.iconst 0, 1) := by decide +kernel
theorem d_D_isSpot_14 : decode b_D_isSpot 14 = .ok (.ireturn, 1) := by decide +kernel
theorem d_D_isModulus_0 : decode b_D_isModulus 0 = .ok (.iload_n 0, 1) := by decide +kernel
theorem d_D_isModulus_1 : decode b_D_isModulus 1 = .ok (.ifCond .lt 12, 3) := by decide +kernel
theorem d_D_isModulus_4 : decode b_D_isModulus 4 = .ok (.iload_n 0, 1) := by decide +kernel
theorem d_D_isModulus_5 : decode b_D_isModulus 5 = .ok (.iconst 2, 1) := by decide +kernel
theorem d_D_isModulus_6 : decode b_D_isModulus 6 = .ok (.if_icmp .ge 7, 3) := by decide +kernel
theorem d_D_isModulus_9 : decode b_D_isModulus 9 = .ok (.iconst 1, 1) := by decide +kernel
theorem d_D_isModulus_10 : decode b_D_isModulus 10 = .ok (.goto 4, 3) := by decide +kernel
theorem d_D_isModulus_13 : decode b_D_isModulus 13 = .ok (.iconst 0, 1) := by decide +kernel
theorem d_D_isModulus_14 : decode b_D_isModulus 14 = .ok (.ireturn, 1) := by decide +kernel
theorem d_D_modulusOf_0 : decode b_D_modulusOf 0 = .ok (.iload_n 1, 1) := by decide +kernel
theorem d_D_modulusOf_1 : decode b_D_modulusOf 1 = .ok (.ifCond .ne 10, 3) := by decide +kernel
theorem d_D_modulusOf_4 : decode b_D_modulusOf 4 = .ok (.aload_n 0, 1) := by decide +kernel
theorem d_D_modulusOf_5 : decode b_D_modulusOf 5 = .ok (.getfield 42, 3) := by decide +kernel
theorem d_D_modulusOf_8 : decode b_D_modulusOf 8 = .ok (.goto 7, 3) := by decide +kernel
theorem d_D_modulusOf_11 : decode b_D_modulusOf 11 = .ok (.aload_n 0, 1) := by decide +kernel
theorem d_D_modulusOf_12 : decode b_D_modulusOf 12 = .ok (.getfield 55, 3) := by decide +kernel
theorem d_D_modulusOf_15 : decode b_D_modulusOf 15 = .ok (.areturn, 1) := by decide +kernel
theorem d_D_isUnit_0 : decode b_D_isUnit 0 = .ok (.aload_n 1, 1) := by decide +kernel
theorem d_D_isUnit_1 : decode b_D_isUnit 1 = .ok (.invokestatic 120, 3) := by decide +kernel
theorem d_D_isUnit_4 : decode b_D_isUnit 4 = .ok (.ifCond .ne 18, 3) := by decide +kernel
theorem d_D_isUnit_7 : decode b_D_isUnit 7 = .ok (.aload_n 0, 1) := by decide +kernel
theorem d_D_isUnit_8 : decode b_D_isUnit 8 = .ok (.getfield 55, 3) := by decide +kernel
theorem d_D_isUnit_11 : decode b_D_isUnit 11 = .ok (.aload_n 1, 1) := by decide +kernel
theorem d_D_isUnit_12 : decode b_D_isUnit 12 = .ok (.invokevirtual 116, 3) := by decide +kernel
theorem d_D_isUnit_15 : decode b_D_isUnit 15 = .ok (.ifCond .eq 7, 3) := by decide +kernel
theorem d_D_isUnit_18 : decode b_D_isUnit 18 = .ok (.iconst 1, 1) := by decide +kernel
theorem d_D_isUnit_19 : decode b_D_isUnit 19 = .ok (.goto 4, 3) := by decide +kernel
theorem d_D_isUnit_22 : decode b_D_isUnit 22 = .ok (.iconst 0, 1) := by decide +kernel
theorem d_D_isUnit_23 : decode b_D_isUnit 23 = .ok (.ireturn, 1) := by decide +kernel
theorem d_D_fillSpot_0 : decode b_D_fillSpot 0 = .ok (.aload_n 0, 1) := by decide +kernel
theorem d_D_fillSpot_1 : decode b_D_fillSpot 1 = .ok (.getfield 63, 3) := by decide +kernel
theorem d_D_fillSpot_4 : decode b_D_fillSpot 4 = .ok (.aload_n 2, 1) := by decide +kernel
theorem d_D_fillSpot_5 : decode b_D_fillSpot 5 = .ok (.aload_n 3, 1) := by decide +kernel
theorem d_D_fillSpot_6 : decode b_D_fillSpot 6 = .ok (.invokevirtual 201, 3) := by decide +kernel
theorem d_D_fillSpot_9 : decode b_D_fillSpot 9 = .ok (.ifCond .ne 5, 3) := by decide +kernel
theorem d_D_fillSpot_12 : decode b_D_fillSpot 12 = .ok (.iconst 0, 1) := by decide +kernel
theorem d_D_fillSpot_13 : decode b_D_fillSpot 13 = .ok (.ireturn, 1) := by decide +kernel
theorem d_D_fillSpot_14 : decode b_D_fillSpot 14 = .ok (.aload_n 0, 1) := by decide +kernel
theorem d_D_fillSpot_15 : decode b_D_fillSpot 15 = .ok (.getfield 16, 3) := by decide +kernel
theorem d_D_fillSpot_18 : decode b_D_fillSpot 18 = .ok (.iload_n 1, 1) := by decide +kernel
theorem d_D_fillSpot_19 : decode b_D_fillSpot 19 = .ok (.aaload, 1) := by decide +kernel
theorem d_D_fillSpot_20 : decode b_D_fillSpot 20 = .ok (.aload_n 2, 1) := by decide +kernel
theorem d_D_fillSpot_21 : decode b_D_fillSpot 21 = .ok (.aload_n 3, 1) := by decide +kernel
theorem d_D_fillSpot_22 : decode b_D_fillSpot 22 = .ok (.invokevirtual 87, 3) := by decide +kernel
theorem d_D_fillSpot_25 : decode b_D_fillSpot 25 = .ok (.iconst 1, 1) := by decide +kernel
theorem d_D_fillSpot_26 : decode b_D_fillSpot 26 = .ok (.ireturn, 1) := by decide +kernel
theorem d_D_fillFromShortKey_0 : decode b_D_fillFromShortKey 0 = .ok (.aload_n 0, 1) := by decide +kernel
theorem d_D_fillFromShortKey_1 : decode b_D_fillFromShortKey 1 = .ok (.getfield 23, 3) := by decide +kernel
theorem d_D_fillFromShortKey_4 : decode b_D_fillFromShortKey 4 = .ok (.invokevirtual 204, 3) := by decide +kernel
theorem d_D_fillFromShortKey_7 : decode b_D_fillFromShortKey 7 = .ok (.istore_n 2, 1) := by decide +kernel
theorem d_D_fillFromShortKey_8 : decode b_D_fillFromShortKey 8 = .ok (.iload_n 2, 1) := by decide +kernel
theorem d_D_fillFromShortKey_9 : decode b_D_fillFromShortKey 9 = .ok (.iconst 2, 1) := by decide +kernel
theorem d_D_fillFromShortKey_10 : decode b_D_fillFromShortKey 10 = .ok (.if_icmp .eq 10, 3) := by decide +kernel
theorem d_D_fillFromShortKey_13 : decode b_D_fillFromShortKey 13 = .ok (.iload_n 2, 1) := by decide +kernel
theorem d_D_fillFromShortKey_14 : decode b_D_fillFromShortKey 14 = .ok (.iconst 3, 1) := by decide +kernel
theorem d_D_fillFromShortKey_15 : decode b_D_fillFromShortKey 15 = .ok (.if_icmp .eq 5, 3) := by decide +kernel
theorem d_D_fillFromShortKey_18 : decode b_D_fillFromShortKey 18 = .ok (.iconst 0, 1) := by decide +kernel
theorem d_D_fillFromShortKey_19 : decode b_D_fillFromShortKey 19 = .ok (.ireturn, 1) := by decide +kernel
theorem d_D_fillFromShortKey_20 : decode b_D_fillFromShortKey 20 = .ok (.aload_n 0, 1) := by decide +kernel
theorem d_D_fillFromShortKey_21 : decode b_D_fillFromShortKey 21 = .ok (.getfield 23, 3) := by decide +kernel
theorem d_D_fillFromShortKey_24 : decode b_D_fillFromShortKey 24 = .ok (.aload_n 0, 1) := by decide +kernel
theorem d_D_fillFromShortKey_25 : decode b_D_fillFromShortKey 25 = .ok (.getfield 75, 3) := by decide +kernel
theorem d_D_fillFromShortKey_28 : decode b_D_fillFromShortKey 28 = .ok (.iconst 1, 1) := by decide +kernel
theorem d_D_fillFromShortKey_29 : decode b_D_fillFromShortKey 29 = .ok (.bipush 32, 2) := by decide +kernel
theorem d_D_fillFromShortKey_31 : decode b_D_fillFromShortKey 31 = .ok (.invokevirtual 207, 3) := by decide +kernel
theorem d_D_fillFromShortKey_34 : decode b_D_fillFromShortKey 34 = .ok (.aload_n 0, 1) := by decide +kernel
theorem d_D_fillFromShortKey_35 : decode b_D_fillFromShortKey 35 = .ok (.getfield 42, 3) := by decide +kernel
theorem d_D_fillFromShortKey_38 : decode b_D_fillFromShortKey 38 = .ok (.aload_n 0, 1) := by decide +kernel
theorem d_D_fillFromShortKey_39 : decode b_D_fillFromShortKey 39 = .ok (.getfield 75, 3) := by decide +kernel
theorem d_D_fillFromShortKey_42 : decode b_D_fillFromShortKey 42 = .ok (.invokevirtual 116, 3) := by decide +kernel
theorem d_D_fillFromShortKey_45 : decode b_D_fillFromShortKey 45 = .ok (.ifCond .ne 5, 3) := by decide +kernel
theorem d_D_fillFromShortKey_48 : decode b_D_fillFromShortKey 48 = .ok (.iconst 0, 1) := by decide +kernel
theorem d_D_fillFromShortKey_49 : decode b_D_fillFromShortKey 49 = .ok (.ireturn, 1) := by decide +kernel
theorem d_D_fillFromShortKey_50 : decode b_D_fillFromShortKey 50 = .ok (.aload_n 0, 1) := by decide +kernel
theorem d_D_fillFromShortKey_51 : decode b_D_fillFromShortKey 51 = .ok (.getfield 63, 3) := by decide +kernel
theorem d_D_fillFromShortKey_54 : decode b_D_fillFromShortKey 54 = .ok (.aload_n 0, 1) := by decide +kernel
theorem d_D_fillFromShortKey_55 : decode b_D_fillFromShortKey 55 = .ok (.getfield 78, 3) := by decide +kernel
theorem d_D_fillFromShortKey_58 : decode b_D_fillFromShortKey 58 = .ok (.aload_n 0, 1) := by decide +kernel
theorem d_D_fillFromShortKey_59 : decode b_D_fillFromShortKey 59 = .ok (.getfield 75, 3) := by decide +kernel
theorem d_D_fillFromShortKey_62 : decode b_D_fillFromShortKey 62 = .ok (.invokevirtual 211, 3) := by decide +kernel
theorem d_D_fillFromShortKey_65 : decode b_D_fillFromShortKey 65 = .ok (.aload_n 0, 1) := by decide +kernel
theorem d_D_fillFromShortKey_66 : decode b_D_fillFromShortKey 66 = .ok (.getfield 63, 3) := by decide +kernel
theorem d_D_fillFromShortKey_69 : decode b_D_fillFromShortKey 69 = .ok (.aload_n 0, 1) := by decide +kernel
theorem d_D_fillFromShortKey_70 : decode b_D_fillFromShortKey 70 = .ok (.getfield 78, 3) := by decide +kernel
theorem d_D_fillFromShortKey_73 : decode b_D_fillFromShortKey 73 = .ok (.aload_n 0, 1) := by decide +kernel
theorem d_D_fillFromShortKey_74 : decode b_D_fillFromShortKey 74 = .ok (.getfield 78, 3) := by decide +kernel
theorem d_D_fillFromShortKey_77 : decode b_D_fillFromShortKey 77 = .ok (.invokevirtual 135, 3) := by decide +kernel
theorem d_D_fillFromShortKey_80 : decode b_D_fillFromShortKey 80 = .ok (.ifCond .ne 5, 3) := by decide +kernel
theorem d_D_fillFromShortKey_83 : decode b_D_fillFromShortKey 83 = .ok (.iconst 0, 1) := by decide +kernel
theorem d_D_fillFromShortKey_84 : decode b_D_fillFromShortKey 84 = .ok (.ireturn, 1) := by decide +kernel
theorem d_D_fillFromShortKey_85 : decode b_D_fillFromShortKey 85 = .ok (.iload_n 2, 1) := by decide +kernel
theorem d_D_fillFromShortKey_86 : decode b_D_fillFromShortKey 86 = .ok (.iconst 3, 1) := by decide +kernel
theorem d_D_fillFromShortKey_87 : decode b_D_fillFromShortKey 87 = .ok (.if_icmp .ne 21, 3) := by decide +kernel
theorem d_D_fillFromShortKey_90 : decode b_D_fillFromShortKey 90 = .ok (.aload_n 0, 1) := by decide +kernel
theorem d_D_fillFromShortKey_91 : decode b_D_fillFromShortKey 91 = .ok (.getfield 42, 3) := by decide +kernel
theorem d_D_fillFromShortKey_94 : decode b_D_fillFromShortKey 94 = .ok (.aload_n 0, 1) := by decide +kernel
theorem d_D_fillFromShortKey_95 : decode b_D_fillFromShortKey 95 = .ok (.getfield 78, 3) := by decide +kernel
theorem d_D_fillFromShortKey_98 : decode b_D_fillFromShortKey 98 = .ok (.getstatic 156, 3) := by decide +kernel
theorem d_D_fillFromShortKey_101 : decode b_D_fillFromShortKey 101 = .ok (.aload_n 0, 1) := by decide +kernel
theorem d_D_fillFromShortKey_102 : decode b_D_fillFromShortKey 102 = .ok (.getfield 78, 3) := by decide +kernel
theorem d_D_fillFromShortKey_105 : decode b_D_fillFromShortKey 105 = .ok (.invokevirtual 126, 3) := by decide +kernel
theorem d_D_fillFromShortKey_108 : decode b_D_fillFromShortKey 108 = .ok (.aload_n 0, 1) := by decide +kernel
theorem d_D_fillFromShortKey_109 : decode b_D_fillFromShortKey 109 = .ok (.getfield 16, 3) := by decide +kernel
theorem d_D_fillFromShortKey_112 : decode b_D_fillFromShortKey 112 = .ok (.iload_n 1, 1) := by decide +kernel
theorem d_D_fillFromShortKey_113 : decode b_D_fillFromShortKey 113 = .ok (.aaload, 1) := by decide +kernel
theorem d_D_fillFromShortKey_114 : decode b_D_fillFromShortKey 114 = .ok (.aload_n 0, 1) := by decide +kernel
theorem d_D_fillFromShortKey_115 : decode b_D_fillFromShortKey 115 = .ok (.getfield 75, 3) := by decide +kernel
theorem d_D_fillFromShortKey_118 : decode b_D_fillFromShortKey 118 = .ok (.aload_n 0, 1) := by decide +kernel
theorem d_D_fillFromShortKey_119 : decode b_D_fillFromShortKey 119 = .ok (.getfield 78, 3) := by decide +kernel
theorem d_D_fillFromShortKey_122 : decode b_D_fillFromShortKey 122 = .ok (.invokevirtual 87, 3) := by decide +kernel
theorem d_D_fillFromShortKey_125 : decode b_D_fillFromShortKey 125 = .ok (.iconst 1, 1) := by decide +kernel
theorem d_D_fillFromShortKey_126 : decode b_D_fillFromShortKey 126 = .ok (.ireturn, 1) := by decide +kernel
theorem d_D_fillFromWholeKey_0 : decode b_D_fillFromWholeKey 0 = .ok (.aload_n 0, 1) := by decide +kernel
theorem d_D_fillFromWholeKey_1 : decode b_D_fillFromWholeKey 1 = .ok (.getfield 23, 3) := by decide +kernel
theorem d_D_fillFromWholeKey_4 : decode b_D_fillFromWholeKey 4 = .ok (.invokevirtual 204, 3) := by decide +kernel
theorem d_D_fillFromWholeKey_7 : decode b_D_fillFromWholeKey 7 = .ok (.iconst 4, 1) := by decide +kernel
theorem d_D_fillFromWholeKey_8 : decode b_D_fillFromWholeKey 8 = .ok (.if_icmp .eq 5, 3) := by decide +kernel
theorem d_D_fillFromWholeKey_11 : decode b_D_fillFromWholeKey 11 = .ok (.iconst 0, 1) := by decide +kernel
theorem d_D_fillFromWholeKey_12 : decode b_D_fillFromWholeKey 12 = .ok (.ireturn, 1) := by decide +kernel
theorem d_D_fillFromWholeKey_13 : decode b_D_fillFromWholeKey 13 = .ok (.aload_n 0, 1) := by decide +kernel
theorem d_D_fillFromWholeKey_14 : decode b_D_fillFromWholeKey 14 = .ok (.getfield 23, 3) := by decide +kernel
theorem d_D_fillFromWholeKey_17 : decode b_D_fillFromWholeKey 17 = .ok (.aload_n 0, 1) := by decide +kernel
theorem d_D_fillFromWholeKey_18 : decode b_D_fillFromWholeKey 18 = .ok (.getfield 75, 3) := by decide +kernel
theorem d_D_fillFromWholeKey_21 : decode b_D_fillFromWholeKey 21 = .ok (.iconst 1, 1) := by decide +kernel
theorem d_D_fillFromWholeKey_22 : decode b_D_fillFromWholeKey 22 = .ok (.bipush 32, 2) := by decide +kernel
theorem d_D_fillFromWholeKey_24 : decode b_D_fillFromWholeKey 24 = .ok (.invokevirtual 207, 3) := by decide +kernel
theorem d_D_fillFromWholeKey_27 : decode b_D_fillFromWholeKey 27 = .ok (.aload_n 0, 1) := by decide +kernel
theorem d_D_fillFromWholeKey_28 : decode b_D_fillFromWholeKey 28 = .ok (.getfield 23, 3) := by decide +kernel
theorem d_D_fillFromWholeKey_31 : decode b_D_fillFromWholeKey 31 = .ok (.aload_n 0, 1) := by decide +kernel
theorem d_D_fillFromWholeKey_32 : decode b_D_fillFromWholeKey 32 = .ok (.getfield 78, 3) := by decide +kernel
theorem d_D_fillFromWholeKey_35 : decode b_D_fillFromWholeKey 35 = .ok (.bipush 33, 2) := by decide +kernel
theorem d_D_fillFromWholeKey_37 : decode b_D_fillFromWholeKey 37 = .ok (.bipush 32, 2) := by decide +kernel
theorem d_D_fillFromWholeKey_39 : decode b_D_fillFromWholeKey 39 = .ok (.invokevirtual 207, 3) := by decide +kernel
theorem d_D_fillFromWholeKey_42 : decode b_D_fillFromWholeKey 42 = .ok (.aload_n 0, 1) := by decide +kernel
theorem d_D_fillFromWholeKey_43 : decode b_D_fillFromWholeKey 43 = .ok (.iload_n 1, 1) := by decide +kernel
theorem d_D_fillFromWholeKey_44 : decode b_D_fillFromWholeKey 44 = .ok (.aload_n 0, 1) := by decide +kernel
theorem d_D_fillFromWholeKey_45 : decode b_D_fillFromWholeKey 45 = .ok (.getfield 75, 3) := by decide +kernel
theorem d_D_fillFromWholeKey_48 : decode b_D_fillFromWholeKey 48 = .ok (.aload_n 0, 1) := by decide +kernel
theorem d_D_fillFromWholeKey_49 : decode b_D_fillFromWholeKey 49 = .ok (.getfield 78, 3) := by decide +kernel
theorem d_D_fillFromWholeKey_52 : decode b_D_fillFromWholeKey 52 = .ok (.invokevirtual 148, 3) := by decide +kernel
theorem d_D_fillFromWholeKey_55 : decode b_D_fillFromWholeKey 55 = .ok (.ireturn, 1) := by decide +kernel
theorem d_R_init_0 : decode b_R_init 0 = .ok (.aload_n 0, 1) := by decide +kernel
theorem d_R_init_1 : decode b_R_init 1 = .ok (.invokespecial 1, 3) := by decide +kernel
theorem d_R_init_4 : decode b_R_init 4 = .ok (.aload_n 0, 1) := by decide +kernel
theorem d_R_init_5 : decode b_R_init 5 = .ok (.sipush 480, 3) := by decide +kernel
theorem d_R_init_8 : decode b_R_init 8 = .ok (.newarray .int, 2) := by decide +kernel
theorem d_R_init_10 : decode b_R_init 10 = .ok (.putfield 7, 3) := by decide +kernel
theorem d_R_init_13 : decode b_R_init 13 = .ok (.aload_n 0, 1) := by decide +kernel
theorem d_R_init_14 : decode b_R_init 14 = .ok (.bipush 22, 2) := by decide +kernel
theorem d_R_init_16 : decode b_R_init 16 = .ok (.newarray .long, 2) := by decide +kernel
theorem d_R_init_18 : decode b_R_init 18 = .ok (.putfield 13, 3) := by decide +kernel
theorem d_R_init_21 : decode b_R_init 21 = .ok (.aload_n 0, 1) := by decide +kernel
theorem d_R_init_22 : decode b_R_init 22 = .ok (.bipush 22, 2) := by decide +kernel
theorem d_R_init_24 : decode b_R_init 24 = .ok (.newarray .long, 2) := by decide +kernel
theorem d_R_init_26 : decode b_R_init 26 = .ok (.putfield 17, 3) := by decide +kernel
theorem d_R_init_29 : decode b_R_init 29 = .ok (.aload_n 0, 1) := by decide +kernel
theorem d_R_init_30 : decode b_R_init 30 = .ok (.bipush 20, 2) := by decide +kernel
theorem d_R_init_32 : decode b_R_init 32 = .ok (.newarray .int, 2) := by decide +kernel
theorem d_R_init_34 : decode b_R_init 34 = .ok (.putfield 20, 3) := by decide +kernel
theorem d_R_init_37 : decode b_R_init 37 = .ok (.aload_n 0, 1) := by decide +kernel
theorem d_R_init_38 : decode b_R_init 38 = .ok (.iconst 4, 1) := by decide +kernel
theorem d_R_init_39 : decode b_R_init 39 = .ok (.newarray .boolean, 2) := by decide +kernel
theorem d_R_init_41 : decode b_R_init 41 = .ok (.dup, 1) := by decide +kernel
theorem d_R_init_42 : decode b_R_init 42 = .ok (.iconst 0, 1) := by decide +kernel
theorem d_R_init_43 : decode b_R_init 43 = .ok (.iconst 1, 1) := by decide +kernel
theorem d_R_init_44 : decode b_R_init 44 = .ok (.bastore, 1) := by decide +kernel
theorem d_R_init_45 : decode b_R_init 45 = .ok (.dup, 1) := by decide +kernel
theorem d_R_init_46 : decode b_R_init 46 = .ok (.iconst 1, 1) := by decide +kernel
theorem d_R_init_47 : decode b_R_init 47 = .ok (.iconst 1, 1) := by decide +kernel
theorem d_R_init_48 : decode b_R_init 48 = .ok (.bastore, 1) := by decide +kernel
theorem d_R_init_49 : decode b_R_init 49 = .ok (.dup, 1) := by decide +kernel
theorem d_R_init_50 : decode b_R_init 50 = .ok (.iconst 2, 1) := by decide +kernel
theorem d_R_init_51 : decode b_R_init 51 = .ok (.iconst 1, 1) := by decide +kernel
theorem d_R_init_52 : decode b_R_init 52 = .ok (.bastore, 1) := by decide +kernel
theorem d_R_init_53 : decode b_R_init 53 = .ok (.dup, 1) := by decide +kernel
theorem d_R_init_54 : decode b_R_init 54 = .ok (.iconst 3, 1) := by decide +kernel
theorem d_R_init_55 : decode b_R_init 55 = .ok (.iconst 1, 1) := by decide +kernel
theorem d_R_init_56 : decode b_R_init 56 = .ok (.bastore, 1) := by decide +kernel
theorem d_R_init_57 : decode b_R_init 57 = .ok (.putfield 23, 3) := by decide +kernel
theorem d_R_init_60 : decode b_R_init 60 = .ok (.aload_n 0, 1) := by decide +kernel
theorem d_R_init_61 : decode b_R_init 61 = .ok (.bipush 100, 2) := by decide +kernel
theorem d_R_init_63 : decode b_R_init 63 = .ok (.newarray .int, 2) := by decide +kernel
theorem d_R_init_65 : decode b_R_init 65 = .ok (.putfield 27, 3) := by decide +kernel
theorem d_R_init_68 : decode b_R_init 68 = .ok (.aload_n 0, 1) := by decide +kernel
theorem d_R_init_69 : decode b_R_init 69 = .ok (.bipush 8, 2) := by decide +kernel
theorem d_R_init_71 : decode b_R_init 71 = .ok (.ldc2_w 30, 3) := by decide +kernel
theorem d_R_init_74 : decode b_R_init 74 = .ok (.ldc2_w 30, 3) := by decide +kernel
theorem d_R_init_77 : decode b_R_init 77 = .ok (.ldc2_w 30, 3) := by decide +kernel
theorem d_R_init_80 : decode b_R_init 80 = .ok (.ldc2_w 32, 3) := by decide +kernel
theorem d_R_init_83 : decode b_R_init 83 = .ok (.invokevirtual 34, 3) := by decide +kernel
