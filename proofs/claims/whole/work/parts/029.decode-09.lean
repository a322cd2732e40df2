/-! the instructions -/
theorem d_C_moveAlongLine_114 : decode b_C_moveAlongLine 114 = .ok (.aload_n 0, 1) := by decide +kernel
theorem d_C_moveAlongLine_115 : decode b_C_moveAlongLine 115 = .ok (.getfield 30, 3) := by decide +kernel
theorem d_C_moveAlongLine_118 : decode b_C_moveAlongLine 118 = .ok (.aload_n 0, 1) := by decide +kernel
theorem d_C_moveAlongLine_119 : decode b_C_moveAlongLine 119 = .ok (.getfield 9, 3) := by decide +kernel
theorem d_C_moveAlongLine_122 : decode b_C_moveAlongLine 122 = .ok (.aload_n 0, 1) := by decide +kernel
theorem d_C_moveAlongLine_123 : decode b_C_moveAlongLine 123 = .ok (.getfield 9, 3) := by decide +kernel
theorem d_C_moveAlongLine_126 : decode b_C_moveAlongLine 126 = .ok (.aload_n 0, 1) := by decide +kernel
theorem d_C_moveAlongLine_127 : decode b_C_moveAlongLine 127 = .ok (.getfield 21, 3) := by decide +kernel
theorem d_C_moveAlongLine_130 : decode b_C_moveAlongLine 130 = .ok (.invokevirtual 72, 3) := by decide +kernel
theorem d_C_moveAlongLine_133 : decode b_C_moveAlongLine 133 = .ok (.aload_n 0, 1) := by decide +kernel
theorem d_C_moveAlongLine_134 : decode b_C_moveAlongLine 134 = .ok (.getfield 30, 3) := by decide +kernel
theorem d_C_moveAlongLine_137 : decode b_C_moveAlongLine 137 = .ok (.aload_n 0, 1) := by decide +kernel
theorem d_C_moveAlongLine_138 : decode b_C_moveAlongLine 138 = .ok (.getfield 9, 3) := by decide +kernel
theorem d_C_moveAlongLine_141 : decode b_C_moveAlongLine 141 = .ok (.aload_n 0, 1) := by decide +kernel
theorem d_C_moveAlongLine_142 : decode b_C_moveAlongLine 142 = .ok (.getfield 9, 3) := by decide +kernel
theorem d_C_moveAlongLine_145 : decode b_C_moveAlongLine 145 = .ok (.aload_n 0, 1) := by decide +kernel
theorem d_C_moveAlongLine_146 : decode b_C_moveAlongLine 146 = .ok (.getfield 21, 3) := by decide +kernel
theorem d_C_moveAlongLine_149 : decode b_C_moveAlongLine 149 = .ok (.invokevirtual 72, 3) := by decide +kernel
theorem d_C_moveAlongLine_152 : decode b_C_moveAlongLine 152 = .ok (.aload_n 0, 1) := by decide +kernel
theorem d_C_moveAlongLine_153 : decode b_C_moveAlongLine 153 = .ok (.getfield 30, 3) := by decide +kernel
theorem d_C_moveAlongLine_156 : decode b_C_moveAlongLine 156 = .ok (.aload_n 0, 1) := by decide +kernel
theorem d_C_moveAlongLine_157 : decode b_C_moveAlongLine 157 = .ok (.getfield 21, 3) := by decide +kernel
theorem d_C_moveAlongLine_160 : decode b_C_moveAlongLine 160 = .ok (.aload_n 0, 1) := by decide +kernel
theorem d_C_moveAlongLine_161 : decode b_C_moveAlongLine 161 = .ok (.getfield 21, 3) := by decide +kernel
theorem d_C_moveAlongLine_164 : decode b_C_moveAlongLine 164 = .ok (.aload_n 0, 1) := by decide +kernel
theorem d_C_moveAlongLine_165 : decode b_C_moveAlongLine 165 = .ok (.getfield 9, 3) := by decide +kernel
theorem d_C_moveAlongLine_168 : decode b_C_moveAlongLine 168 = .ok (.invokevirtual 72, 3) := by decide +kernel
theorem d_C_moveAlongLine_171 : decode b_C_moveAlongLine 171 = .ok (.aload_n 0, 1) := by decide +kernel
theorem d_C_moveAlongLine_172 : decode b_C_moveAlongLine 172 = .ok (.getfield 30, 3) := by decide +kernel
theorem d_C_moveAlongLine_175 : decode b_C_moveAlongLine 175 = .ok (.aload_n 0, 1) := by decide +kernel
theorem d_C_moveAlongLine_176 : decode b_C_moveAlongLine 176 = .ok (.getfield 21, 3) := by decide +kernel
theorem d_C_moveAlongLine_179 : decode b_C_moveAlongLine 179 = .ok (.aload_n 0, 1) := by decide +kernel
theorem d_C_moveAlongLine_180 : decode b_C_moveAlongLine 180 = .ok (.getfield 21, 3) := by decide +kernel
theorem d_C_moveAlongLine_183 : decode b_C_moveAlongLine 183 = .ok (.aload_n 0, 1) := by decide +kernel
theorem d_C_moveAlongLine_184 : decode b_C_moveAlongLine 184 = .ok (.getfield 27, 3) := by decide +kernel
theorem d_C_moveAlongLine_187 : decode b_C_moveAlongLine 187 = .ok (.invokevirtual 44, 3) := by decide +kernel
theorem d_C_moveAlongLine_190 : decode b_C_moveAlongLine 190 = .ok (.aload_n 0, 1) := by decide +kernel
theorem d_C_moveAlongLine_191 : decode b_C_moveAlongLine 191 = .ok (.getfield 30, 3) := by decide +kernel
theorem d_C_moveAlongLine_194 : decode b_C_moveAlongLine 194 = .ok (.aload_n 0, 1) := by decide +kernel
theorem d_C_moveAlongLine_195 : decode b_C_moveAlongLine 195 = .ok (.getfield 24, 3) := by decide +kernel
theorem d_C_moveAlongLine_198 : decode b_C_moveAlongLine 198 = .ok (.aload_n 0, 1) := by decide +kernel
theorem d_C_moveAlongLine_199 : decode b_C_moveAlongLine 199 = .ok (.getfield 24, 3) := by decide +kernel
theorem d_C_moveAlongLine_202 : decode b_C_moveAlongLine 202 = .ok (.aload_n 0, 1) := by decide +kernel
theorem d_C_moveAlongLine_203 : decode b_C_moveAlongLine 203 = .ok (.getfield 15, 3) := by decide +kernel
theorem d_C_moveAlongLine_206 : decode b_C_moveAlongLine 206 = .ok (.invokevirtual 44, 3) := by decide +kernel
theorem d_C_moveAlongLine_209 : decode b_C_moveAlongLine 209 = .ok (.aload_n 0, 1) := by decide +kernel
theorem d_C_moveAlongLine_210 : decode b_C_moveAlongLine 210 = .ok (.getfield 30, 3) := by decide +kernel
theorem d_C_moveAlongLine_213 : decode b_C_moveAlongLine 213 = .ok (.aload_n 0, 1) := by decide +kernel
theorem d_C_moveAlongLine_214 : decode b_C_moveAlongLine 214 = .ok (.getfield 15, 3) := by decide +kernel
theorem d_C_moveAlongLine_217 : decode b_C_moveAlongLine 217 = .ok (.aload_n 0, 1) := by decide +kernel
theorem d_C_moveAlongLine_218 : decode b_C_moveAlongLine 218 = .ok (.getfield 21, 3) := by decide +kernel
theorem d_C_moveAlongLine_221 : decode b_C_moveAlongLine 221 = .ok (.aload_n 0, 1) := by decide +kernel
theorem d_C_moveAlongLine_222 : decode b_C_moveAlongLine 222 = .ok (.getfield 24, 3) := by decide +kernel
theorem d_C_moveAlongLine_225 : decode b_C_moveAlongLine 225 = .ok (.invokevirtual 72, 3) := by decide +kernel
theorem d_C_moveAlongLine_228 : decode b_C_moveAlongLine 228 = .ok (.return_, 1) := by decide +kernel
theorem d_C_doubleSum_0 : decode b_C_doubleSum 0 = .ok (.aload_n 0, 1) := by decide +kernel
theorem d_C_doubleSum_1 : decode b_C_doubleSum 1 = .ok (.getfield 18, 3) := by decide +kernel
theorem d_C_doubleSum_4 : decode b_C_doubleSum 4 = .ok (.invokestatic 101, 3) := by decide +kernel
theorem d_C_doubleSum_7 : decode b_C_doubleSum 7 = .ok (.ifCond .eq 4, 3) := by decide +kernel
theorem d_C_doubleSum_10 : decode b_C_doubleSum 10 = .ok (.return_, 1) := by decide +kernel
theorem d_C_doubleSum_11 : decode b_C_doubleSum 11 = .ok (.aload_n 0, 1) := by decide +kernel
theorem d_C_doubleSum_12 : decode b_C_doubleSum 12 = .ok (.getfield 30, 3) := by decide +kernel
theorem d_C_doubleSum_15 : decode b_C_doubleSum 15 = .ok (.aload_n 0, 1) := by decide +kernel
theorem d_C_doubleSum_16 : decode b_C_doubleSum 16 = .ok (.getfield 18, 3) := by decide +kernel
theorem d_C_doubleSum_19 : decode b_C_doubleSum 19 = .ok (.aload_n 0, 1) := by decide +kernel
theorem d_C_doubleSum_20 : decode b_C_doubleSum 20 = .ok (.getfield 18, 3) := by decide +kernel
theorem d_C_doubleSum_23 : decode b_C_doubleSum 23 = .ok (.aload_n 0, 1) := by decide +kernel
theorem d_C_doubleSum_24 : decode b_C_doubleSum 24 = .ok (.getfield 15, 3) := by decide +kernel
theorem d_C_doubleSum_27 : decode b_C_doubleSum 27 = .ok (.invokevirtual 44, 3) := by decide +kernel
theorem d_C_doubleSum_30 : decode b_C_doubleSum 30 = .ok (.aload_n 0, 1) := by decide +kernel
theorem d_C_doubleSum_31 : decode b_C_doubleSum 31 = .ok (.getfield 30, 3) := by decide +kernel
theorem d_C_doubleSum_34 : decode b_C_doubleSum 34 = .ok (.aload_n 0, 1) := by decide +kernel
theorem d_C_doubleSum_35 : decode b_C_doubleSum 35 = .ok (.getfield 18, 3) := by decide +kernel
theorem d_C_doubleSum_38 : decode b_C_doubleSum 38 = .ok (.aload_n 0, 1) := by decide +kernel
theorem d_C_doubleSum_39 : decode b_C_doubleSum 39 = .ok (.getfield 18, 3) := by decide +kernel
theorem d_C_doubleSum_42 : decode b_C_doubleSum 42 = .ok (.aload_n 0, 1) := by decide +kernel
theorem d_C_doubleSum_43 : decode b_C_doubleSum 43 = .ok (.getfield 18, 3) := by decide +kernel
theorem d_C_doubleSum_46 : decode b_C_doubleSum 46 = .ok (.invokevirtual 57, 3) := by decide +kernel
theorem d_C_doubleSum_49 : decode b_C_doubleSum 49 = .ok (.aload_n 0, 1) := by decide +kernel
theorem d_C_doubleSum_50 : decode b_C_doubleSum 50 = .ok (.getfield 30, 3) := by decide +kernel
theorem d_C_doubleSum_53 : decode b_C_doubleSum 53 = .ok (.aload_n 0, 1) := by decide +kernel
theorem d_C_doubleSum_54 : decode b_C_doubleSum 54 = .ok (.getfield 21, 3) := by decide +kernel
theorem d_C_doubleSum_57 : decode b_C_doubleSum 57 = .ok (.aload_n 0, 1) := by decide +kernel
theorem d_C_doubleSum_58 : decode b_C_doubleSum 58 = .ok (.getfield 15, 3) := by decide +kernel
theorem d_C_doubleSum_61 : decode b_C_doubleSum 61 = .ok (.aload_n 0, 1) := by decide +kernel
theorem d_C_doubleSum_62 : decode b_C_doubleSum 62 = .ok (.getfield 15, 3) := by decide +kernel
theorem d_C_doubleSum_65 : decode b_C_doubleSum 65 = .ok (.invokevirtual 44, 3) := by decide +kernel
theorem d_C_doubleSum_68 : decode b_C_doubleSum 68 = .ok (.aload_n 0, 1) := by decide +kernel
theorem d_C_doubleSum_69 : decode b_C_doubleSum 69 = .ok (.getfield 30, 3) := by decide +kernel
theorem d_C_doubleSum_72 : decode b_C_doubleSum 72 = .ok (.aload_n 0, 1) := by decide +kernel
theorem d_C_doubleSum_73 : decode b_C_doubleSum 73 = .ok (.getfield 21, 3) := by decide +kernel
theorem d_C_doubleSum_76 : decode b_C_doubleSum 76 = .ok (.aload_n 0, 1) := by decide +kernel
theorem d_C_doubleSum_77 : decode b_C_doubleSum 77 = .ok (.getfield 21, 3) := by decide +kernel
theorem d_C_doubleSum_80 : decode b_C_doubleSum 80 = .ok (.aload_n 0, 1) := by decide +kernel
theorem d_C_doubleSum_81 : decode b_C_doubleSum 81 = .ok (.getfield 21, 3) := by decide +kernel
theorem d_C_doubleSum_84 : decode b_C_doubleSum 84 = .ok (.invokevirtual 57, 3) := by decide +kernel
theorem d_C_doubleSum_87 : decode b_C_doubleSum 87 = .ok (.aload_n 0, 1) := by decide +kernel
theorem d_C_doubleSum_88 : decode b_C_doubleSum 88 = .ok (.getfield 30, 3) := by decide +kernel
theorem d_C_doubleSum_91 : decode b_C_doubleSum 91 = .ok (.aload_n 0, 1) := by decide +kernel
theorem d_C_doubleSum_92 : decode b_C_doubleSum 92 = .ok (.getfield 24, 3) := by decide +kernel
theorem d_C_doubleSum_95 : decode b_C_doubleSum 95 = .ok (.aload_n 0, 1) := by decide +kernel
theorem d_C_doubleSum_96 : decode b_C_doubleSum 96 = .ok (.getfield 21, 3) := by decide +kernel
theorem d_C_doubleSum_99 : decode b_C_doubleSum 99 = .ok (.aload_n 0, 1) := by decide +kernel
theorem d_C_doubleSum_100 : decode b_C_doubleSum 100 = .ok (.getfield 9, 3) := by decide +kernel
theorem d_C_doubleSum_103 : decode b_C_doubleSum 103 = .ok (.invokevirtual 44, 3) := by decide +kernel
theorem d_C_doubleSum_106 : decode b_C_doubleSum 106 = .ok (.aload_n 0, 1) := by decide +kernel
theorem d_C_doubleSum_107 : decode b_C_doubleSum 107 = .ok (.getfield 30, 3) := by decide +kernel
theorem d_C_doubleSum_110 : decode b_C_doubleSum 110 = .ok (.aload_n 0, 1) := by decide +kernel
theorem d_C_doubleSum_111 : decode b_C_doubleSum 111 = .ok (.getfield 24, 3) := by decide +kernel
theorem d_C_doubleSum_114 : decode b_C_doubleSum 114 = .ok (.aload_n 0, 1) := by decide +kernel
theorem d_C_doubleSum_115 : decode b_C_doubleSum 115 = .ok (.getfield 24, 3) := by decide +kernel
theorem d_C_doubleSum_118 : decode b_C_doubleSum 118 = .ok (.aload_n 0, 1) := by decide +kernel
theorem d_C_doubleSum_119 : decode b_C_doubleSum 119 = .ok (.getfield 24, 3) := by decide +kernel
theorem d_C_doubleSum_122 : decode b_C_doubleSum 122 = .ok (.invokevirtual 57, 3) := by decide +kernel
theorem d_C_doubleSum_125 : decode b_C_doubleSum 125 = .ok (.aload_n 0, 1) := by decide +kernel
theorem d_C_doubleSum_126 : decode b_C_doubleSum 126 = .ok (.getfield 30, 3) := by decide +kernel
theorem d_C_doubleSum_129 : decode b_C_doubleSum 129 = .ok (.aload_n 0, 1) := by decide +kernel
theorem d_C_doubleSum_130 : decode b_C_doubleSum 130 = .ok (.getfield 9, 3) := by decide +kernel
theorem d_C_doubleSum_133 : decode b_C_doubleSum 133 = .ok (.aload_n 0, 1) := by decide +kernel
theorem d_C_doubleSum_134 : decode b_C_doubleSum 134 = .ok (.getfield 9, 3) := by decide +kernel
theorem d_C_doubleSum_137 : decode b_C_doubleSum 137 = .ok (.aload_n 0, 1) := by decide +kernel
theorem d_C_doubleSum_138 : decode b_C_doubleSum 138 = .ok (.getfield 9, 3) := by decide +kernel
theorem d_C_doubleSum_141 : decode b_C_doubleSum 141 = .ok (.invokevirtual 44, 3) := by decide +kernel
theorem d_C_doubleSum_144 : decode b_C_doubleSum 144 = .ok (.aload_n 0, 1) := by decide +kernel
theorem d_C_doubleSum_145 : decode b_C_doubleSum 145 = .ok (.getfield 30, 3) := by decide +kernel
theorem d_C_doubleSum_148 : decode b_C_doubleSum 148 = .ok (.aload_n 0, 1) := by decide +kernel
theorem d_C_doubleSum_149 : decode b_C_doubleSum 149 = .ok (.getfield 27, 3) := by decide +kernel
theorem d_C_doubleSum_152 : decode b_C_doubleSum 152 = .ok (.aload_n 0, 1) := by decide +kernel
theorem d_C_doubleSum_153 : decode b_C_doubleSum 153 = .ok (.getfield 9, 3) := by decide +kernel
theorem d_C_doubleSum_156 : decode b_C_doubleSum 156 = .ok (.aload_n 0, 1) := by decide +kernel
theorem d_C_doubleSum_157 : decode b_C_doubleSum 157 = .ok (.getfield 9, 3) := by decide +kernel
theorem d_C_doubleSum_160 : decode b_C_doubleSum 160 = .ok (.invokevirtual 57, 3) := by decide +kernel
theorem d_C_doubleSum_163 : decode b_C_doubleSum 163 = .ok (.aload_n 0, 1) := by decide +kernel
theorem d_C_doubleSum_164 : decode b_C_doubleSum 164 = .ok (.getfield 30, 3) := by decide +kernel
theorem d_C_doubleSum_167 : decode b_C_doubleSum 167 = .ok (.aload_n 0, 1) := by decide +kernel
theorem d_C_doubleSum_168 : decode b_C_doubleSum 168 = .ok (.getfield 27, 3) := by decide +kernel
theorem d_C_doubleSum_171 : decode b_C_doubleSum 171 = .ok (.aload_n 0, 1) := by decide +kernel
theorem d_C_doubleSum_172 : decode b_C_doubleSum 172 = .ok (.getfield 27, 3) := by decide +kernel
theorem d_C_doubleSum_175 : decode b_C_doubleSum 175 = .ok (.aload_n 0, 1) := by decide +kernel
theorem d_C_doubleSum_176 : decode b_C_doubleSum 176 = .ok (.getfield 9, 3) := by decide +kernel
theorem d_C_doubleSum_179 : decode b_C_doubleSum 179 = .ok (.invokevirtual 57, 3) := by decide +kernel
theorem d_C_doubleSum_182 : decode b_C_doubleSum 182 = .ok (.aload_n 0, 1) := by decide +kernel
theorem d_C_doubleSum_183 : decode b_C_doubleSum 183 = .ok (.getfield 30, 3) := by decide +kernel
theorem d_C_doubleSum_186 : decode b_C_doubleSum 186 = .ok (.aload_n 0, 1) := by decide +kernel
theorem d_C_doubleSum_187 : decode b_C_doubleSum 187 = .ok (.getfield 9, 3) := by decide +kernel
theorem d_C_doubleSum_190 : decode b_C_doubleSum 190 = .ok (.aload_n 0, 1) := by decide +kernel
theorem d_C_doubleSum_191 : decode b_C_doubleSum 191 = .ok (.getfield 27, 3) := by decide +kernel
theorem d_C_doubleSum_194 : decode b_C_doubleSum 194 = .ok (.aload_n 0, 1) := by decide +kernel
theorem d_C_doubleSum_195 : decode b_C_doubleSum 195 = .ok (.getfield 27, 3) := by decide +kernel
theorem d_C_doubleSum_198 : decode b_C_doubleSum 198 = .ok (.invokevirtual 44, 3) := by decide +kernel
theorem d_C_doubleSum_201 : decode b_C_doubleSum 201 = .ok (.aload_n 0, 1) := by decide +kernel
theorem d_C_doubleSum_202 : decode b_C_doubleSum 202 = .ok (.getfield 30, 3) := by decide +kernel
theorem d_C_doubleSum_205 : decode b_C_doubleSum 205 = .ok (.aload_n 0, 1) := by decide +kernel
theorem d_C_doubleSum_206 : decode b_C_doubleSum 206 = .ok (.getfield 9, 3) := by decide +kernel
theorem d_C_doubleSum_209 : decode b_C_doubleSum 209 = .ok (.aload_n 0, 1) := by decide +kernel
theorem d_C_doubleSum_210 : decode b_C_doubleSum 210 = .ok (.getfield 9, 3) := by decide +kernel
theorem d_C_doubleSum_213 : decode b_C_doubleSum 213 = .ok (.aload_n 0, 1) := by decide +kernel
theorem d_C_doubleSum_214 : decode b_C_doubleSum 214 = .ok (.getfield 24, 3) := by decide +kernel
theorem d_C_doubleSum_217 : decode b_C_doubleSum 217 = .ok (.invokevirtual 72, 3) := by decide +kernel
theorem d_C_doubleSum_220 : decode b_C_doubleSum 220 = .ok (.aload_n 0, 1) := by decide +kernel
theorem d_C_doubleSum_221 : decode b_C_doubleSum 221 = .ok (.getfield 30, 3) := by decide +kernel
theorem d_C_doubleSum_224 : decode b_C_doubleSum 224 = .ok (.aload_n 0, 1) := by decide +kernel
theorem d_C_doubleSum_225 : decode b_C_doubleSum 225 = .ok (.getfield 9, 3) := by decide +kernel
theorem d_C_doubleSum_228 : decode b_C_doubleSum 228 = .ok (.aload_n 0, 1) := by decide +kernel
theorem d_C_doubleSum_229 : decode b_C_doubleSum 229 = .ok (.getfield 9, 3) := by decide +kernel
theorem d_C_doubleSum_232 : decode b_C_doubleSum 232 = .ok (.aload_n 0, 1) := by decide +kernel
theorem d_C_doubleSum_233 : decode b_C_doubleSum 233 = .ok (.getfield 24, 3) := by decide +kernel
theorem d_C_doubleSum_236 : decode b_C_doubleSum 236 = .ok (.invokevirtual 72, 3) := by decide +kernel
theorem d_C_doubleSum_239 : decode b_C_doubleSum 239 = .ok (.aload_n 0, 1) := by decide +kernel
theorem d_C_doubleSum_240 : decode b_C_doubleSum 240 = .ok (.getfield 30, 3) := by decide +kernel
theorem d_C_doubleSum_243 : decode b_C_doubleSum 243 = .ok (.aload_n 0, 1) := by decide +kernel
theorem d_C_doubleSum_244 : decode b_C_doubleSum 244 = .ok (.getfield 24, 3) := by decide +kernel
theorem d_C_doubleSum_247 : decode b_C_doubleSum 247 = .ok (.aload_n 0, 1) := by decide +kernel
theorem d_C_doubleSum_248 : decode b_C_doubleSum 248 = .ok (.getfield 24, 3) := by decide +kernel
theorem d_C_doubleSum_251 : decode b_C_doubleSum 251 = .ok (.aload_n 0, 1) := by decide +kernel
theorem d_C_doubleSum_252 : decode b_C_doubleSum 252 = .ok (.getfield 9, 3) := by decide +kernel
theorem d_C_doubleSum_255 : decode b_C_doubleSum 255 = .ok (.invokevirtual 72, 3) := by decide +kernel
theorem d_C_doubleSum_258 : decode b_C_doubleSum 258 = .ok (.aload_n 0, 1) := by decide +kernel
theorem d_C_doubleSum_259 : decode b_C_doubleSum 259 = .ok (.getfield 30, 3) := by decide +kernel
theorem d_C_doubleSum_262 : decode b_C_doubleSum 262 = .ok (.aload_n 0, 1) := by decide +kernel
theorem d_C_doubleSum_263 : decode b_C_doubleSum 263 = .ok (.getfield 24, 3) := by decide +kernel
theorem d_C_doubleSum_266 : decode b_C_doubleSum 266 = .ok (.aload_n 0, 1) := by decide +kernel
theorem d_C_doubleSum_267 : decode b_C_doubleSum 267 = .ok (.getfield 24, 3) := by decide +kernel
theorem d_C_doubleSum_270 : decode b_C_doubleSum 270 = .ok (.aload_n 0, 1) := by decide +kernel
theorem d_C_doubleSum_271 : decode b_C_doubleSum 271 = .ok (.getfield 27, 3) := by decide +kernel
theorem d_C_doubleSum_274 : decode b_C_doubleSum 274 = .ok (.invokevirtual 44, 3) := by decide +kernel
theorem d_C_doubleSum_277 : decode b_C_doubleSum 277 = .ok (.aload_n 0, 1) := by decide +kernel
theorem d_C_doubleSum_278 : decode b_C_doubleSum 278 = .ok (.getfield 30, 3) := by decide +kernel
theorem d_C_doubleSum_281 : decode b_C_doubleSum 281 = .ok (.aload_n 0, 1) := by decide +kernel
theorem d_C_doubleSum_282 : decode b_C_doubleSum 282 = .ok (.getfield 21, 3) := by decide +kernel
theorem d_C_doubleSum_285 : decode b_C_doubleSum 285 = .ok (.aload_n 0, 1) := by decide +kernel
theorem d_C_doubleSum_286 : decode b_C_doubleSum 286 = .ok (.getfield 21, 3) := by decide +kernel
theorem d_C_doubleSum_289 : decode b_C_doubleSum 289 = .ok (.aload_n 0, 1) := by decide +kernel
theorem d_C_doubleSum_290 : decode b_C_doubleSum 290 = .ok (.getfield 21, 3) := by decide +kernel
theorem d_C_doubleSum_293 : decode b_C_doubleSum 293 = .ok (.invokevirtual 44, 3) := by decide +kernel
theorem d_C_doubleSum_296 : decode b_C_doubleSum 296 = .ok (.aload_n 0, 1) := by decide +kernel
theorem d_C_doubleSum_297 : decode b_C_doubleSum 297 = .ok (.getfield 30, 3) := by decide +kernel
theorem d_C_doubleSum_300 : decode b_C_doubleSum 300 = .ok (.aload_n 0, 1) := by decide +kernel
theorem d_C_doubleSum_301 : decode b_C_doubleSum 301 = .ok (.getfield 21, 3) := by decide +kernel
theorem d_C_doubleSum_304 : decode b_C_doubleSum 304 = .ok (.aload_n 0, 1) := by decide +kernel
theorem d_C_doubleSum_305 : decode b_C_doubleSum 305 = .ok (.getfield 21, 3) := by decide +kernel
theorem d_C_doubleSum_308 : decode b_C_doubleSum 308 = .ok (.aload_n 0, 1) := by decide +kernel
theorem d_C_doubleSum_309 : decode b_C_doubleSum 309 = .ok (.getfield 21, 3) := by decide +kernel
theorem d_C_doubleSum_312 : decode b_C_doubleSum 312 = .ok (.invokevirtual 57, 3) := by decide +kernel
theorem d_C_doubleSum_315 : decode b_C_doubleSum 315 = .ok (.aload_n 0, 1) := by decide +kernel
theorem d_C_doubleSum_316 : decode b_C_doubleSum 316 = .ok (.getfield 30, 3) := by decide +kernel
theorem d_C_doubleSum_319 : decode b_C_doubleSum 319 = .ok (.aload_n 0, 1) := by decide +kernel
theorem d_C_doubleSum_320 : decode b_C_doubleSum 320 = .ok (.getfield 15, 3) := by decide +kernel
theorem d_C_doubleSum_323 : decode b_C_doubleSum 323 = .ok (.aload_n 0, 1) := by decide +kernel
theorem d_C_doubleSum_324 : decode b_C_doubleSum 324 = .ok (.getfield 24, 3) := by decide +kernel
theorem d_C_doubleSum_327 : decode b_C_doubleSum 327 = .ok (.aload_n 0, 1) := by decide +kernel
theorem d_C_doubleSum_328 : decode b_C_doubleSum 328 = .ok (.getfield 21, 3) := by decide +kernel
theorem d_C_doubleSum_331 : decode b_C_doubleSum 331 = .ok (.invokevirtual 72, 3) := by decide +kernel
theorem d_C_doubleSum_334 : decode b_C_doubleSum 334 = .ok (.return_, 1) := by decide +kernel
theorem d_C_storeSum_0 : decode b_C_storeSum 0 = .ok (.aload_n 0, 1) := by decide +kernel
theorem d_C_storeSum_1 : decode b_C_storeSum 1 = .ok (.getfield 18, 3) := by decide +kernel
theorem d_C_storeSum_4 : decode b_C_storeSum 4 = .ok (.invokestatic 101, 3) := by decide +kernel
theorem d_C_storeSum_7 : decode b_C_storeSum 7 = .ok (.ifCond .eq 8, 3) := by decide +kernel
theorem d_C_storeSum_10 : decode b_C_storeSum 10 = .ok (.aload_n 1, 1) := by decide +kernel
theorem d_C_storeSum_11 : decode b_C_storeSum 11 = .ok (.invokevirtual 115, 3) := by decide +kernel
theorem d_C_storeSum_14 : decode b_C_storeSum 14 = .ok (.return_, 1) := by decide +kernel
theorem d_C_storeSum_15 : decode b_C_storeSum 15 = .ok (.aload_n 0, 1) := by decide +kernel
theorem d_C_storeSum_16 : decode b_C_storeSum 16 = .ok (.getfield 30, 3) := by decide +kernel
theorem d_C_storeSum_19 : decode b_C_storeSum 19 = .ok (.aload_n 0, 1) := by decide +kernel
theorem d_C_storeSum_20 : decode b_C_storeSum 20 = .ok (.getfield 21, 3) := by decide +kernel
theorem d_C_storeSum_23 : decode b_C_storeSum 23 = .ok (.aload_n 0, 1) := by decide +kernel
theorem d_C_storeSum_24 : decode b_C_storeSum 24 = .ok (.getfield 18, 3) := by decide +kernel
theorem d_C_storeSum_27 : decode b_C_storeSum 27 = .ok (.getstatic 118, 3) := by decide +kernel
theorem d_C_storeSum_30 : decode b_C_storeSum 30 = .ok (.invokevirtual 63, 3) := by decide +kernel
theorem d_C_storeSum_33 : decode b_C_storeSum 33 = .ok (.aload_n 0, 1) := by decide +kernel
theorem d_C_storeSum_34 : decode b_C_storeSum 34 = .ok (.getfield 30, 3) := by decide +kernel
theorem d_C_storeSum_37 : decode b_C_storeSum 37 = .ok (.aload_n 0, 1) := by decide +kernel
theorem d_C_storeSum_38 : decode b_C_storeSum 38 = .ok (.getfield 24, 3) := by decide +kernel
theorem d_C_storeSum_41 : decode b_C_storeSum 41 = .ok (.aload_n 0, 1) := by decide +kernel
theorem d_C_storeSum_42 : decode b_C_storeSum 42 = .ok (.getfield 21, 3) := by decide +kernel
theorem d_C_storeSum_45 : decode b_C_storeSum 45 = .ok (.aload_n 0, 1) := by decide +kernel
theorem d_C_storeSum_46 : decode b_C_storeSum 46 = .ok (.getfield 21, 3) := by decide +kernel
theorem d_C_storeSum_49 : decode b_C_storeSum 49 = .ok (.invokevirtual 44, 3) := by decide +kernel
theorem d_C_storeSum_52 : decode b_C_storeSum 52 = .ok (.aload_n 0, 1) := by decide +kernel
theorem d_C_storeSum_53 : decode b_C_storeSum 53 = .ok (.getfield 30, 3) := by decide +kernel
theorem d_C_storeSum_56 : decode b_C_storeSum 56 = .ok (.aload_n 0, 1) := by decide +kernel
theorem d_C_storeSum_57 : decode b_C_storeSum 57 = .ok (.getfield 21, 3) := by decide +kernel
theorem d_C_storeSum_60 : decode b_C_storeSum 60 = .ok (.aload_n 0, 1) := by decide +kernel
theorem d_C_storeSum_61 : decode b_C_storeSum 61 = .ok (.getfield 21, 3) := by decide +kernel
theorem d_C_storeSum_64 : decode b_C_storeSum 64 = .ok (.aload_n 0, 1) := by decide +kernel
theorem d_C_storeSum_65 : decode b_C_storeSum 65 = .ok (.getfield 24, 3) := by decide +kernel
theorem d_C_storeSum_68 : decode b_C_storeSum 68 = .ok (.invokevirtual 44, 3) := by decide +kernel
theorem d_C_storeSum_71 : decode b_C_storeSum 71 = .ok (.aload_n 0, 1) := by decide +kernel
theorem d_C_storeSum_72 : decode b_C_storeSum 72 = .ok (.getfield 30, 3) := by decide +kernel
theorem d_C_storeSum_75 : decode b_C_storeSum 75 = .ok (.aload_n 0, 1) := by decide +kernel
theorem d_C_storeSum_76 : decode b_C_storeSum 76 = .ok (.getfield 9, 3) := by decide +kernel
theorem d_C_storeSum_79 : decode b_C_storeSum 79 = .ok (.aload_n 0, 1) := by decide +kernel
theorem d_C_storeSum_80 : decode b_C_storeSum 80 = .ok (.getfield 9, 3) := by decide +kernel
theorem d_C_storeSum_83 : decode b_C_storeSum 83 = .ok (.aload_n 0, 1) := by decide +kernel
theorem d_C_storeSum_84 : decode b_C_storeSum 84 = .ok (.getfield 24, 3) := by decide +kernel
theorem d_C_storeSum_87 : decode b_C_storeSum 87 = .ok (.invokevirtual 44, 3) := by decide +kernel
theorem d_C_storeSum_90 : decode b_C_storeSum 90 = .ok (.aload_n 0, 1) := by decide +kernel
theorem d_C_storeSum_91 : decode b_C_storeSum 91 = .ok (.getfield 30, 3) := by decide +kernel
theorem d_C_storeSum_94 : decode b_C_storeSum 94 = .ok (.aload_n 0, 1) := by decide +kernel
theorem d_C_storeSum_95 : decode b_C_storeSum 95 = .ok (.getfield 15, 3) := by decide +kernel
theorem d_C_storeSum_98 : decode b_C_storeSum 98 = .ok (.aload_n 0, 1) := by decide +kernel
theorem d_C_storeSum_99 : decode b_C_storeSum 99 = .ok (.getfield 15, 3) := by decide +kernel
theorem d_C_storeSum_102 : decode b_C_storeSum 102 = .ok (.aload_n 0, 1) := by decide +kernel
theorem d_C_storeSum_103 : decode b_C_storeSum 103 = .ok (.getfield 21, 3) := by decide +kernel
theorem d_C_storeSum_106 : decode b_C_storeSum 106 = .ok (.invokevirtual 44, 3) := by decide +kernel
theorem d_C_storeSum_109 : decode b_C_storeSum 109 = .ok (.aload_n 1, 1) := by decide +kernel
theorem d_C_storeSum_110 : decode b_C_storeSum 110 = .ok (.aload_n 0, 1) := by decide +kernel
theorem d_C_storeSum_111 : decode b_C_storeSum 111 = .ok (.getfield 9, 3) := by decide +kernel
theorem d_C_storeSum_114 : decode b_C_storeSum 114 = .ok (.aload_n 0, 1) := by decide +kernel
theorem d_C_storeSum_115 : decode b_C_storeSum 115 = .ok (.getfield 15, 3) := by decide +kernel
theorem d_C_storeSum_118 : decode b_C_storeSum 118 = .ok (.invokevirtual 121, 3) := by decide +kernel
theorem d_C_storeSum_121 : decode b_C_storeSum 121 = .ok (.return_, 1) := by decide +kernel
theorem d_H_init_0 : decode b_H_init 0 = .ok (.aload_n 0, 1) := by decide +kernel
theorem d_H_init_1 : decode b_H_init 1 = .ok (.invokespecial 3, 3) := by decide +kernel
theorem d_H_init_4 : decode b_H_init 4 = .ok (.aload_n 0, 1) := by decide +kernel
theorem d_H_init_5 : decode b_H_init 5 = .ok (.bipush 100, 2) := by decide +kernel
theorem d_H_init_7 : decode b_H_init 7 = .ok (.newarray .int, 2) := by decide +kernel
theorem d_H_init_9 : decode b_H_init 9 = .ok (.putfield 9, 3) := by decide +kernel
theorem d_H_init_12 : decode b_H_init 12 = .ok (.aload_n 0, 1) := by decide +kernel
theorem d_H_init_13 : decode b_H_init 13 = .ok (.iconst 0, 1) := by decide +kernel
theorem d_H_init_14 : decode b_H_init 14 = .ok (.putfield 15, 3) := by decide +kernel
theorem d_H_init_17 : decode b_H_init 17 = .ok (.return_, 1) := by decide +kernel
theorem d_H_append_0 : decode b_H_append 0 = .ok (.iload_n 3, 1) := by decide +kernel
theorem d_H_append_1 : decode b_H_append 1 = .ok (.iconst 1, 1) := by decide +kernel
theorem d_H_append_2 : decode b_H_append 2 = .ok (.if_icmp .lt 20, 3) := by decide +kernel
theorem d_H_append_5 : decode b_H_append 5 = .ok (.iload_n 3, 1) := by decide +kernel
theorem d_H_append_6 : decode b_H_append 6 = .ok (.bipush 8, 2) := by decide +kernel
theorem d_H_append_8 : decode b_H_append 8 = .ok (.if_icmp .gt 14, 3) := by decide +kernel
theorem d_H_append_11 : decode b_H_append 11 = .ok (.aload_n 0, 1) := by decide +kernel
theorem d_H_append_12 : decode b_H_append 12 = .ok (.getfield 15, 3) := by decide +kernel
theorem d_H_append_15 : decode b_H_append 15 = .ok (.iload_n 3, 1) := by decide +kernel
theorem d_H_append_16 : decode b_H_append 16 = .ok (.iadd, 1) := by decide +kernel
theorem d_H_append_17 : decode b_H_append 17 = .ok (.bipush 100, 2) := by decide +kernel
theorem d_H_append_19 : decode b_H_append 19 = .ok (.if_icmp .le 5, 3) := by decide +kernel
theorem d_H_append_22 : decode b_H_append 22 = .ok (.iconst 0, 1) := by decide +kernel
theorem d_H_append_23 : decode b_H_append 23 = .ok (.ireturn, 1) := by decide +kernel
theorem d_H_append_24 : decode b_H_append 24 = .ok (.iload_n 3, 1) := by decide +kernel
theorem d_H_append_25 : decode b_H_append 25 = .ok (.iconst 1, 1) := by decide +kernel
theorem d_H_append_26 : decode b_H_append 26 = .ok (.isub, 1) := by decide +kernel
theorem d_H_append_27 : decode b_H_append 27 = .ok (.istore 4, 2) := by decide +kernel
theorem d_H_append_29 : decode b_H_append 29 = .ok (.iload 4, 2) := by decide +kernel
theorem d_H_append_31 : decode b_H_append 31 = .ok (.ifCond .lt 40, 3) := by decide +kernel
theorem d_H_append_34 : decode b_H_append 34 = .ok (.aload_n 0, 1) := by decide +kernel
theorem d_H_append_35 : decode b_H_append 35 = .ok (.getfield 9, 3) := by decide +kernel
theorem d_H_append_38 : decode b_H_append 38 = .ok (.aload_n 0, 1) := by decide +kernel
theorem d_H_append_39 : decode b_H_append 39 = .ok (.getfield 15, 3) := by decide +kernel
theorem d_H_append_42 : decode b_H_append 42 = .ok (.lload_n 1, 1) := by decide +kernel
theorem d_H_append_43 : decode b_H_append 43 = .ok (.bipush 8, 2) := by decide +kernel
theorem d_H_append_45 : decode b_H_append 45 = .ok (.iload 4, 2) := by decide +kernel
theorem d_H_append_47 : decode b_H_append 47 = .ok (.imul, 1) := by decide +kernel
theorem d_H_append_48 : decode b_H_append 48 = .ok (.lushr, 1) := by decide +kernel
theorem d_H_append_49 : decode b_H_append 49 = .ok (.l2i, 1) := by decide +kernel
theorem d_H_append_50 : decode b_H_append 50 = .ok (.sipush 255, 3) := by decide +kernel
theorem d_H_append_53 : decode b_H_append 53 = .ok (.iand, 1) := by decide +kernel
theorem d_H_append_54 : decode b_H_append 54 = .ok (.iastore, 1) := by decide +kernel
theorem d_H_append_55 : decode b_H_append 55 = .ok (.aload_n 0, 1) := by decide +kernel
theorem d_H_append_56 : decode b_H_append 56 = .ok (.dup, 1) := by decide +kernel
theorem d_H_append_57 : decode b_H_append 57 = .ok (.getfield 15, 3) := by decide +kernel
theorem d_H_append_60 : decode b_H_append 60 = .ok (.iconst 1, 1) := by decide +kernel
theorem d_H_append_61 : decode b_H_append 61 = .ok (.iadd, 1) := by decide +kernel
theorem d_H_append_62 : decode b_H_append 62 = .ok (.putfield 15, 3) := by decide +kernel
theorem d_H_append_65 : decode b_H_append 65 = .ok (.iinc 4 (-1), 3) := by decide +kernel
theorem d_H_append_68 : decode b_H_append 68 = .ok (.goto (-39), 3) := by decide +kernel
theorem d_H_append_71 : decode b_H_append 71 = .ok (.iconst 1, 1) := by decide +kernel
theorem d_H_append_72 : decode b_H_append 72 = .ok (.ireturn, 1) := by decide +kernel
theorem d_H_takeAll_0 : decode b_H_takeAll 0 = .ok (.aload_n 0, 1) := by decide +kernel
theorem d_H_takeAll_1 : decode b_H_takeAll 1 = .ok (.getfield 15, 3) := by decide +kernel
theorem d_H_takeAll_4 : decode b_H_takeAll 4 = .ok (.istore_n 1, 1) := by decide +kernel
theorem d_H_takeAll_5 : decode b_H_takeAll 5 = .ok (.aload_n 0, 1) := by decide +kernel
theorem d_H_takeAll_6 : decode b_H_takeAll 6 = .ok (.iconst 0, 1) := by decide +kernel
theorem d_H_takeAll_7 : decode b_H_takeAll 7 = .ok (.putfield 15, 3) := by decide +kernel
theorem d_H_takeAll_10 : decode b_H_takeAll 10 = .ok (.iload_n 1, 1) := by decide +kernel
theorem d_H_takeAll_11 : decode b_H_takeAll 11 = .ok (.ireturn, 1) := by decide +kernel
theorem d_H_firstByte_0 : decode b_H_firstByte 0 = .ok (.aload_n 0, 1) := by decide +kernel
theorem d_H_firstByte_1 : decode b_H_firstByte 1 = .ok (.getfield 9, 3) := by decide +kernel
theorem d_H_firstByte_4 : decode b_H_firstByte 4 = .ok (.iconst 0, 1) := by decide +kernel
theorem d_H_firstByte_5 : decode b_H_firstByte 5 = .ok (.iaload, 1) := by decide +kernel
theorem d_H_firstByte_6 : decode b_H_firstByte 6 = .ok (.ireturn, 1) := by decide +kernel
theorem d_H_readNumber_0 : decode b_H_readNumber 0 = .ok (.aload_n 1, 1) := by decide +kernel
theorem d_H_readNumber_1 : decode b_H_readNumber 1 = .ok (.getstatic 19, 3) := by decide +kernel
theorem d_H_readNumber_4 : decode b_H_readNumber 4 = .ok (.invokestatic 23, 3) := by decide +kernel
theorem d_H_readNumber_7 : decode b_H_readNumber 7 = .ok (.iload_n 2, 1) := by decide +kernel
theorem d_H_readNumber_8 : decode b_H_readNumber 8 = .ok (.iload_n 3, 1) := by decide +kernel
theorem d_H_readNumber_9 : decode b_H_readNumber 9 = .ok (.iadd, 1) := by decide +kernel
theorem d_H_readNumber_10 : decode b_H_readNumber 10 = .ok (.iconst 1, 1) := by decide +kernel
theorem d_H_readNumber_11 : decode b_H_readNumber 11 = .ok (.isub, 1) := by decide +kernel
theorem d_H_readNumber_12 : decode b_H_readNumber 12 = .ok (.istore 4, 2) := by decide +kernel
theorem d_H_readNumber_14 : decode b_H_readNumber 14 = .ok (.iconst 0, 1) := by decide +kernel
theorem d_H_readNumber_15 : decode b_H_readNumber 15 = .ok (.istore 5, 2) := by decide +kernel
theorem d_H_readNumber_17 : decode b_H_readNumber 17 = .ok (.iload 5, 2) := by decide +kernel
theorem d_H_readNumber_19 : decode b_H_readNumber 19 = .ok (.iload_n 3, 1) := by decide +kernel
theorem d_H_readNumber_20 : decode b_H_readNumber 20 = .ok (.if_icmp .ge 44, 3) := by decide +kernel
theorem d_H_readNumber_23 : decode b_H_readNumber 23 = .ok (.iload 5, 2) := by decide +kernel
theorem d_H_readNumber_25 : decode b_H_readNumber 25 = .ok (.bipush 32, 2) := by decide +kernel
theorem d_H_readNumber_27 : decode b_H_readNumber 27 = .ok (.if_icmp .ge 37, 3) := by decide +kernel
theorem d_H_readNumber_30 : decode b_H_readNumber 30 = .ok (.aload_n 1, 1) := by decide +kernel
theorem d_H_readNumber_31 : decode b_H_readNumber 31 = .ok (.iload 5, 2) := by decide +kernel
theorem d_H_readNumber_33 : decode b_H_readNumber 33 = .ok (.iconst 4, 1) := by decide +kernel
theorem d_H_readNumber_34 : decode b_H_readNumber 34 = .ok (.idiv, 1) := by decide +kernel
theorem d_H_readNumber_35 : decode b_H_readNumber 35 = .ok (.dup2, 1) := by decide +kernel
theorem d_H_readNumber_36 : decode b_H_readNumber 36 = .ok (.laload, 1) := by decide +kernel
theorem d_H_readNumber_37 : decode b_H_readNumber 37 = .ok (.aload_n 0, 1) := by decide +kernel
theorem d_H_readNumber_38 : decode b_H_readNumber 38 = .ok (.getfield 9, 3) := by decide +kernel
theorem d_H_readNumber_41 : decode b_H_readNumber 41 = .ok (.iload 4, 2) := by decide +kernel
theorem d_H_readNumber_43 : decode b_H_readNumber 43 = .ok (.iload 5, 2) := by decide +kernel
theorem d_H_readNumber_45 : decode b_H_readNumber 45 = .ok (.isub, 1) := by decide +kernel
theorem d_H_readNumber_46 : decode b_H_readNumber 46 = .ok (.iaload, 1) := by decide +kernel
theorem d_H_readNumber_47 : decode b_H_readNumber 47 = .ok (.i2l, 1) := by decide +kernel
theorem d_H_readNumber_48 : decode b_H_readNumber 48 = .ok (.bipush 8, 2) := by decide +kernel
theorem d_H_readNumber_50 : decode b_H_readNumber 50 = .ok (.iload 5, 2) := by decide +kernel
theorem d_H_readNumber_52 : decode b_H_readNumber 52 = .ok (.iconst 4, 1) := by decide +kernel
theorem d_H_readNumber_53 : decode b_H_readNumber 53 = .ok (.irem, 1) := by decide +kernel
theorem d_H_readNumber_54 : decode b_H_readNumber 54 = .ok (.imul, 1) := by decide +kernel
theorem d_H_readNumber_55 : decode b_H_readNumber 55 = .ok (.lshl, 1) := by decide +kernel
theorem d_H_readNumber_56 : decode b_H_readNumber 56 = .ok (.lor, 1) := by decide +kernel
theorem d_H_readNumber_57 : decode b_H_readNumber 57 = .ok (.lastore, 1) := by decide +kernel
theorem d_H_readNumber_58 : decode b_H_readNumber 58 = .ok (.iinc 5 1, 3) := by decide +kernel
theorem d_H_readNumber_61 : decode b_H_readNumber 61 = .ok (.goto (-44), 3) := by decide +kernel
theorem d_H_readNumber_64 : decode b_H_readNumber 64 = .ok (.return_, 1) := by decide +kernel
theorem d_H_readSignature_0 : decode b_H_readSignature 0 = .ok (.iload_n 3, 1) := by decide +kernel
theorem d_H_readSignature_1 : decode b_H_readSignature 1 = .ok (.iconst 2, 1) := by decide +kernel
theorem d_H_readSignature_2 : decode b_H_readSignature 2 = .ok (.if_icmp .lt 26, 3) := by decide +kernel
theorem d_H_readSignature_5 : decode b_H_readSignature 5 = .ok (.aload_n 0, 1) := by decide +kernel
theorem d_H_readSignature_6 : decode b_H_readSignature 6 = .ok (.getfield 9, 3) := by decide +kernel
theorem d_H_readSignature_9 : decode b_H_readSignature 9 = .ok (.iconst 0, 1) := by decide +kernel
theorem d_H_readSignature_10 : decode b_H_readSignature 10 = .ok (.iaload, 1) := by decide +kernel
theorem d_H_readSignature_11 : decode b_H_readSignature 11 = .ok (.bipush 48, 2) := by decide +kernel
theorem d_H_readSignature_13 : decode b_H_readSignature 13 = .ok (.if_icmp .ne 15, 3) := by decide +kernel
theorem d_H_readSignature_16 : decode b_H_readSignature 16 = .ok (.aload_n 0, 1) := by decide +kernel
theorem d_H_readSignature_17 : decode b_H_readSignature 17 = .ok (.getfield 9, 3) := by decide +kernel
theorem d_H_readSignature_20 : decode b_H_readSignature 20 = .ok (.iconst 1, 1) := by decide +kernel
theorem d_H_readSignature_21 : decode b_H_readSignature 21 = .ok (.iaload, 1) := by decide +kernel
theorem d_H_readSignature_22 : decode b_H_readSignature 22 = .ok (.iload_n 3, 1) := by decide +kernel
theorem d_H_readSignature_23 : decode b_H_readSignature 23 = .ok (.iconst 2, 1) := by decide +kernel
theorem d_H_readSignature_24 : decode b_H_readSignature 24 = .ok (.isub, 1) := by decide +kernel
theorem d_H_readSignature_25 : decode b_H_readSignature 25 = .ok (.if_icmp .eq 5, 3) := by decide +kernel
theorem d_H_readSignature_28 : decode b_H_readSignature 28 = .ok (.iconst 0, 1) := by decide +kernel
theorem d_H_readSignature_29 : decode b_H_readSignature 29 = .ok (.ireturn, 1) := by decide +kernel
theorem d_H_readSignature_30 : decode b_H_readSignature 30 = .ok (.aload_n 0, 1) := by decide +kernel
theorem d_H_readSignature_31 : decode b_H_readSignature 31 = .ok (.aload_n 1, 1) := by decide +kernel
theorem d_H_readSignature_32 : decode b_H_readSignature 32 = .ok (.iconst 2, 1) := by decide +kernel
theorem d_H_readSignature_33 : decode b_H_readSignature 33 = .ok (.iload_n 3, 1) := by decide +kernel
theorem d_H_readSignature_34 : decode b_H_readSignature 34 = .ok (.invokevirtual 29, 3) := by decide +kernel
theorem d_H_readSignature_37 : decode b_H_readSignature 37 = .ok (.istore 4, 2) := by decide +kernel
theorem d_H_readSignature_39 : decode b_H_readSignature 39 = .ok (.iload 4, 2) := by decide +kernel
theorem d_H_readSignature_41 : decode b_H_readSignature 41 = .ok (.ifCond .le 19, 3) := by decide +kernel
theorem d_H_readSignature_44 : decode b_H_readSignature 44 = .ok (.aload_n 0, 1) := by decide +kernel
theorem d_H_readSignature_45 : decode b_H_readSignature 45 = .ok (.aload_n 2, 1) := by decide +kernel
theorem d_H_readSignature_46 : decode b_H_readSignature 46 = .ok (.iload 4, 2) := by decide +kernel
theorem d_H_readSignature_48 : decode b_H_readSignature 48 = .ok (.iload_n 3, 1) := by decide +kernel
theorem d_H_readSignature_49 : decode b_H_readSignature 49 = .ok (.invokevirtual 29, 3) := by decide +kernel
theorem d_H_readSignature_52 : decode b_H_readSignature 52 = .ok (.iload_n 3, 1) := by decide +kernel
theorem d_H_readSignature_53 : decode b_H_readSignature 53 = .ok (.if_icmp .ne 7, 3) := by decide +kernel
theorem d_H_readSignature_56 : decode b_H_readSignature 56 = .ok (.iconst 1, 1) := by decide +kernel
theorem d_H_readSignature_57 : decode b_H_readSignature 57 = .ok (.goto 4, 3) := by decide +kernel
theorem d_H_readSignature_60 : decode b_H_readSignature 60 = .ok (.iconst 0, 1) := by decide +kernel
theorem d_H_readSignature_61 : decode b_H_readSignature 61 = .ok (.ireturn, 1) := by decide +kernel
theorem d_H_readPart_0 : decode b_H_readPart 0 = .ok (.iload_n 2, 1) := by decide +kernel
theorem d_H_readPart_1 : decode b_H_readPart 1 = .ok (.iconst 2, 1) := by decide +kernel
theorem d_H_readPart_2 : decode b_H_readPart 2 = .ok (.iadd, 1) := by decide +kernel
