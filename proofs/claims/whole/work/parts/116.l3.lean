/-! the law's calls, one by one -/
set_option maxHeartbeats 4000000 in
set_option maxRecDepth 100000 in
theorem lc_set {p : Program} {l : Launch} {e : Env} {s : State} {m : MethodId} {below : List Frame} {meth : Method} {c : Code} {Q : State → Prop} {b L : Nat} {xs : Nat → Int32} {K : cG} {G : rG} (hx : p.tables.exec = Jvm.exec) (hb : c.code = code) (hml : c.maxLocals = 4) (hown : s.vm.findClass R_W = some m.cls) (ht : ∀ w ∈ zT, w.before #[Value.ref b] s = true) (hX : va_X b L xs s s.heap) (hbl : b < s.heap.size) (hL : L ≤ 5120)
    {τ : cT} {σ : rS} {H : Heap} {locs : List Loc} {ls : Array Slot} {i : Nat} (h : Rl τ σ) (hw : lH K G τ σ s H locs) (hi : i + 10 ≤ L) (hl : lv_has ls 4 [(0, .ref (b)), (1, .ref (cO K 0)), (2, .ref (rA G 0)), (3, .int (nI (i)))])
    (kk : ∀ (τ : cT) (σ : rS) (H : Heap) (locs : List Loc), Rl τ σ → lH K G τ σ s H locs → W p l e room_1 s m #[Value.ref b] below meth c H locs 55 1104 Q (F0 m 808 ls [])) : W p l e room_1 s m #[Value.ref b] below meth c H locs 55 1104 Q (F0 m 100 ls []) := by
  obtain ⟨v0, lv0, ev0⟩ := wb_of ((((xs (i + 2)).toInt64) <<< ((nI (32)).toInt64 &&& 63)) ||| (((xs (i + 3)).toInt64) &&& (4294967295 : Int64)))
  obtain ⟨v1, lv1, ev1⟩ := wb_of ((((xs (i + 4)).toInt64) <<< ((nI (32)).toInt64 &&& 63)) ||| (((xs (i + 5)).toInt64) &&& (4294967295 : Int64)))
  obtain ⟨v2, lv2, ev2⟩ := wb_of ((((xs (i + 6)).toInt64) <<< ((nI (32)).toInt64 &&& 63)) ||| (((xs (i + 7)).toInt64) &&& (4294967295 : Int64)))
  obtain ⟨v3, lv3, ev3⟩ := wb_of ((((xs (i + 8)).toInt64) <<< ((nI (32)).toInt64 &&& 63)) ||| (((xs (i + 9)).toInt64) &&& (4294967295 : Int64)))
  refine lv_aload_n hx hb d_W_law_100 rfl (lv_at hl 1 rfl) ?_
  refine lv_aload_n hx hb d_W_law_101 rfl (lv_at hl 0 rfl) ?_
  refine lv_iload_n hx hb d_W_law_102 rfl (lv_at hl 3 rfl) ?_
  refine lv_iconst (v := nI 1) hx hb d_W_law_103 (by decide) ?_
  refine lv_iadd hx hb d_W_law_104 ?_
  refine tp_i (y := nI (i + 1)) (nI_add _ _) ?_
  refine l_sld hx hb hX hbl hw (n := i + 1) (by omega) hL d_W_law_105 ?_
  refine lv_aload_n hx hb d_W_law_106 rfl (lv_at hl 0 rfl) ?_
  refine lv_iload_n hx hb d_W_law_107 rfl (lv_at hl 3 rfl) ?_
  refine lv_iconst (v := nI 2) hx hb d_W_law_108 (by decide) ?_
  refine lv_iadd hx hb d_W_law_109 ?_
  refine tp_i (y := nI (i + 2)) (nI_add _ _) ?_
  refine l_sld hx hb hX hbl hw (n := i + 2) (by omega) hL d_W_law_110 ?_
  refine lv_i2l hx hb d_W_law_111 rfl ?_
  refine lv_bipush (v := nI 32) hx hb d_W_law_112 (by decide) ?_
  refine lv_lshl hx hb d_W_law_114 rfl ?_
  refine lv_aload_n hx hb d_W_law_115 rfl (lv_at hl 0 rfl) ?_
  refine lv_iload_n hx hb d_W_law_116 rfl (lv_at hl 3 rfl) ?_
  refine lv_iconst (v := nI 3) hx hb d_W_law_117 (by decide) ?_
  refine lv_iadd hx hb d_W_law_118 ?_
  refine tp_i (y := nI (i + 3)) (nI_add _ _) ?_
  refine l_sld hx hb hX hbl hw (n := i + 3) (by omega) hL d_W_law_119 ?_
  refine lv_i2l hx hb d_W_law_120 rfl ?_
  refine lv_ldc2 hx hb hown (ht _ kl_W_13) d_W_law_121 ?_
  refine lv_land hx hb d_W_law_124 ?_
  refine lv_lor hx hb d_W_law_125 ?_
  refine tp_l (y := lN (v0)) (ev0) ?_
  refine lv_aload_n hx hb d_W_law_126 rfl (lv_at hl 0 rfl) ?_
  refine lv_iload_n hx hb d_W_law_127 rfl (lv_at hl 3 rfl) ?_
  refine lv_iconst (v := nI 4) hx hb d_W_law_128 (by decide) ?_
  refine lv_iadd hx hb d_W_law_129 ?_
  refine tp_i (y := nI (i + 4)) (nI_add _ _) ?_
  refine l_sld hx hb hX hbl hw (n := i + 4) (by omega) hL d_W_law_130 ?_
  refine lv_i2l hx hb d_W_law_131 rfl ?_
  refine lv_bipush (v := nI 32) hx hb d_W_law_132 (by decide) ?_
  refine lv_lshl hx hb d_W_law_134 rfl ?_
  refine lv_aload_n hx hb d_W_law_135 rfl (lv_at hl 0 rfl) ?_
  refine lv_iload_n hx hb d_W_law_136 rfl (lv_at hl 3 rfl) ?_
  refine lv_iconst (v := nI 5) hx hb d_W_law_137 (by decide) ?_
  refine lv_iadd hx hb d_W_law_138 ?_
  refine tp_i (y := nI (i + 5)) (nI_add _ _) ?_
  refine l_sld hx hb hX hbl hw (n := i + 5) (by omega) hL d_W_law_139 ?_
  refine lv_i2l hx hb d_W_law_140 rfl ?_
  refine lv_ldc2 hx hb hown (ht _ kl_W_13) d_W_law_141 ?_
  refine lv_land hx hb d_W_law_144 ?_
  refine lv_lor hx hb d_W_law_145 ?_
  refine tp_l (y := lN (v1)) (ev1) ?_
  refine lv_aload_n hx hb d_W_law_146 rfl (lv_at hl 0 rfl) ?_
  refine lv_iload_n hx hb d_W_law_147 rfl (lv_at hl 3 rfl) ?_
  refine lv_bipush (v := nI 6) hx hb d_W_law_148 (by decide) ?_
  refine lv_iadd hx hb d_W_law_150 ?_
  refine tp_i (y := nI (i + 6)) (nI_add _ _) ?_
  refine l_sld hx hb hX hbl hw (n := i + 6) (by omega) hL d_W_law_151 ?_
  refine lv_i2l hx hb d_W_law_152 rfl ?_
  refine lv_bipush (v := nI 32) hx hb d_W_law_153 (by decide) ?_
  refine lv_lshl hx hb d_W_law_155 rfl ?_
  refine lv_aload_n hx hb d_W_law_156 rfl (lv_at hl 0 rfl) ?_
  refine lv_iload_n hx hb d_W_law_157 rfl (lv_at hl 3 rfl) ?_
  refine lv_bipush (v := nI 7) hx hb d_W_law_158 (by decide) ?_
  refine lv_iadd hx hb d_W_law_160 ?_
  refine tp_i (y := nI (i + 7)) (nI_add _ _) ?_
  refine l_sld hx hb hX hbl hw (n := i + 7) (by omega) hL d_W_law_161 ?_
  refine lv_i2l hx hb d_W_law_162 rfl ?_
  refine lv_ldc2 hx hb hown (ht _ kl_W_13) d_W_law_163 ?_
  refine lv_land hx hb d_W_law_166 ?_
  refine lv_lor hx hb d_W_law_167 ?_
  refine tp_l (y := lN (v2)) (ev2) ?_
  refine lv_aload_n hx hb d_W_law_168 rfl (lv_at hl 0 rfl) ?_
  refine lv_iload_n hx hb d_W_law_169 rfl (lv_at hl 3 rfl) ?_
  refine lv_bipush (v := nI 8) hx hb d_W_law_170 (by decide) ?_
  refine lv_iadd hx hb d_W_law_172 ?_
  refine tp_i (y := nI (i + 8)) (nI_add _ _) ?_
  refine l_sld hx hb hX hbl hw (n := i + 8) (by omega) hL d_W_law_173 ?_
  refine lv_i2l hx hb d_W_law_174 rfl ?_
  refine lv_bipush (v := nI 32) hx hb d_W_law_175 (by decide) ?_
  refine lv_lshl hx hb d_W_law_177 rfl ?_
  refine lv_aload_n hx hb d_W_law_178 rfl (lv_at hl 0 rfl) ?_
  refine lv_iload_n hx hb d_W_law_179 rfl (lv_at hl 3 rfl) ?_
  refine lv_bipush (v := nI 9) hx hb d_W_law_180 (by decide) ?_
  refine lv_iadd hx hb d_W_law_182 ?_
  refine tp_i (y := nI (i + 9)) (nI_add _ _) ?_
  refine l_sld hx hb hX hbl hw (n := i + 9) (by omega) hL d_W_law_183 ?_
  refine lv_i2l hx hb d_W_law_184 rfl ?_
  refine lv_ldc2 hx hb hown (ht _ kl_W_13) d_W_law_185 ?_
  refine lv_land hx hb d_W_law_188 ?_
  refine lv_lor hx hb d_W_law_189 ?_
  refine tp_l (y := lN (v3)) (ev3) ?_
  refine l_ci (np := 5) (As := [.int (xs (i + 1)), .long (lN (v0)), .long (lN (v1)), .long (lN (v2)), .long (lN (v3))]) (rest := []) ⟨hx, hb, hml, hown, ht⟩ hw (c_D_set l K τ h.1 (xs (i + 1)) lv0 lv1 lv2 lv3) ⟨km_W_15, kv_D_set, kx_D_set, kc_D_set⟩ (by decide +kernel) ⟨by decide, by decide⟩ rfl rfl rfl hl.1 rfl (Nat.le_of_ble_eq_true rfl) d_W_law_190 ⟨by decide, by decide⟩ (fun r1 u H locs hp hw => ?_)
  refine lv_aload_n hx hb d_W_law_193 rfl (lv_at hl 2 rfl) ?_
  refine lv_aload_n hx hb d_W_law_194 rfl (lv_at hl 0 rfl) ?_
  refine lv_iload_n hx hb d_W_law_195 rfl (lv_at hl 3 rfl) ?_
  refine lv_iconst (v := nI 1) hx hb d_W_law_196 (by decide) ?_
  refine lv_iadd hx hb d_W_law_197 ?_
  refine tp_i (y := nI (i + 1)) (nI_add _ _) ?_
  refine l_sld hx hb hX hbl hw (n := i + 1) (by omega) hL d_W_law_198 ?_
  refine lv_aload_n hx hb d_W_law_199 rfl (lv_at hl 0 rfl) ?_
  refine lv_iload_n hx hb d_W_law_200 rfl (lv_at hl 3 rfl) ?_
  refine lv_iconst (v := nI 2) hx hb d_W_law_201 (by decide) ?_
  refine lv_iadd hx hb d_W_law_202 ?_
  refine tp_i (y := nI (i + 2)) (nI_add _ _) ?_
  refine l_sld hx hb hX hbl hw (n := i + 2) (by omega) hL d_W_law_203 ?_
  refine lv_i2l hx hb d_W_law_204 rfl ?_
  refine lv_bipush (v := nI 32) hx hb d_W_law_205 (by decide) ?_
  refine lv_lshl hx hb d_W_law_207 rfl ?_
  refine lv_aload_n hx hb d_W_law_208 rfl (lv_at hl 0 rfl) ?_
  refine lv_iload_n hx hb d_W_law_209 rfl (lv_at hl 3 rfl) ?_
  refine lv_iconst (v := nI 3) hx hb d_W_law_210 (by decide) ?_
  refine lv_iadd hx hb d_W_law_211 ?_
  refine tp_i (y := nI (i + 3)) (nI_add _ _) ?_
  refine l_sld hx hb hX hbl hw (n := i + 3) (by omega) hL d_W_law_212 ?_
  refine lv_i2l hx hb d_W_law_213 rfl ?_
  refine lv_ldc2 hx hb hown (ht _ kl_W_13) d_W_law_214 ?_
  refine lv_land hx hb d_W_law_217 ?_
  refine lv_lor hx hb d_W_law_218 ?_
  refine tp_l (y := lN (v0)) (ev0) ?_
  refine lv_aload_n hx hb d_W_law_219 rfl (lv_at hl 0 rfl) ?_
  refine lv_iload_n hx hb d_W_law_220 rfl (lv_at hl 3 rfl) ?_
  refine lv_iconst (v := nI 4) hx hb d_W_law_221 (by decide) ?_
  refine lv_iadd hx hb d_W_law_222 ?_
  refine tp_i (y := nI (i + 4)) (nI_add _ _) ?_
  refine l_sld hx hb hX hbl hw (n := i + 4) (by omega) hL d_W_law_223 ?_
  refine lv_i2l hx hb d_W_law_224 rfl ?_
  refine lv_bipush (v := nI 32) hx hb d_W_law_225 (by decide) ?_
  refine lv_lshl hx hb d_W_law_227 rfl ?_
  refine lv_aload_n hx hb d_W_law_228 rfl (lv_at hl 0 rfl) ?_
  refine lv_iload_n hx hb d_W_law_229 rfl (lv_at hl 3 rfl) ?_
  refine lv_iconst (v := nI 5) hx hb d_W_law_230 (by decide) ?_
  refine lv_iadd hx hb d_W_law_231 ?_
  refine tp_i (y := nI (i + 5)) (nI_add _ _) ?_
  refine l_sld hx hb hX hbl hw (n := i + 5) (by omega) hL d_W_law_232 ?_
  refine lv_i2l hx hb d_W_law_233 rfl ?_
  refine lv_ldc2 hx hb hown (ht _ kl_W_13) d_W_law_234 ?_
  refine lv_land hx hb d_W_law_237 ?_
  refine lv_lor hx hb d_W_law_238 ?_
  refine tp_l (y := lN (v1)) (ev1) ?_
  refine lv_aload_n hx hb d_W_law_239 rfl (lv_at hl 0 rfl) ?_
  refine lv_iload_n hx hb d_W_law_240 rfl (lv_at hl 3 rfl) ?_
  refine lv_bipush (v := nI 6) hx hb d_W_law_241 (by decide) ?_
  refine lv_iadd hx hb d_W_law_243 ?_
  refine tp_i (y := nI (i + 6)) (nI_add _ _) ?_
  refine l_sld hx hb hX hbl hw (n := i + 6) (by omega) hL d_W_law_244 ?_
  refine lv_i2l hx hb d_W_law_245 rfl ?_
  refine lv_bipush (v := nI 32) hx hb d_W_law_246 (by decide) ?_
  refine lv_lshl hx hb d_W_law_248 rfl ?_
  refine lv_aload_n hx hb d_W_law_249 rfl (lv_at hl 0 rfl) ?_
  refine lv_iload_n hx hb d_W_law_250 rfl (lv_at hl 3 rfl) ?_
  refine lv_bipush (v := nI 7) hx hb d_W_law_251 (by decide) ?_
  refine lv_iadd hx hb d_W_law_253 ?_
  refine tp_i (y := nI (i + 7)) (nI_add _ _) ?_
  refine l_sld hx hb hX hbl hw (n := i + 7) (by omega) hL d_W_law_254 ?_
  refine lv_i2l hx hb d_W_law_255 rfl ?_
  refine lv_ldc2 hx hb hown (ht _ kl_W_13) d_W_law_256 ?_
  refine lv_land hx hb d_W_law_259 ?_
  refine lv_lor hx hb d_W_law_260 ?_
  refine tp_l (y := lN (v2)) (ev2) ?_
  refine lv_aload_n hx hb d_W_law_261 rfl (lv_at hl 0 rfl) ?_
  refine lv_iload_n hx hb d_W_law_262 rfl (lv_at hl 3 rfl) ?_
  refine lv_bipush (v := nI 8) hx hb d_W_law_263 (by decide) ?_
  refine lv_iadd hx hb d_W_law_265 ?_
  refine tp_i (y := nI (i + 8)) (nI_add _ _) ?_
  refine l_sld hx hb hX hbl hw (n := i + 8) (by omega) hL d_W_law_266 ?_
  refine lv_i2l hx hb d_W_law_267 rfl ?_
  refine lv_bipush (v := nI 32) hx hb d_W_law_268 (by decide) ?_
  refine lv_lshl hx hb d_W_law_270 rfl ?_
  refine lv_aload_n hx hb d_W_law_271 rfl (lv_at hl 0 rfl) ?_
  refine lv_iload_n hx hb d_W_law_272 rfl (lv_at hl 3 rfl) ?_
  refine lv_bipush (v := nI 9) hx hb d_W_law_273 (by decide) ?_
  refine lv_iadd hx hb d_W_law_275 ?_
  refine tp_i (y := nI (i + 9)) (nI_add _ _) ?_
  refine l_sld hx hb hX hbl hw (n := i + 9) (by omega) hL d_W_law_276 ?_
  refine lv_i2l hx hb d_W_law_277 rfl ?_
  refine lv_ldc2 hx hb hown (ht _ kl_W_13) d_W_law_278 ?_
  refine lv_land hx hb d_W_law_281 ?_
  refine lv_lor hx hb d_W_law_282 ?_
  refine tp_l (y := lN (v3)) (ev3) ?_
  refine l_ri (np := 5) (As := [.int (xs (i + 1)), .long (lN (v0)), .long (lN (v1)), .long (lN (v2)), .long (lN (v3))]) (rest := [.int (r1)]) ⟨hx, hb, hml, hown, ht⟩ hw (c_R_set l G σ h.con (xs (i + 1)) lv0 lv1 lv2 lv3) ⟨km_W_19, kv_R_set, kx_R_set, kc_R_set⟩ (by decide +kernel) ⟨by decide, by decide⟩ rfl rfl rfl hl.1 rfl (Nat.le_of_ble_eq_true rfl) d_W_law_283 ⟨by decide, by decide⟩ (fun r2 w H locs hq hw => ?_)
  obtain ⟨hr, hR⟩ := st_set h lv0 lv1 lv2 lv3 hp hq
  exact lv_icmp_eq (tgt := 808) hx hb d_W_law_286 (by decide) (fun _ => kk u w H locs hR hw) (fun q => absurd hr q)
set_option maxHeartbeats 4000000 in
set_option maxRecDepth 100000 in
theorem lc_get {p : Program} {l : Launch} {e : Env} {s : State} {m : MethodId} {below : List Frame} {meth : Method} {c : Code} {Q : State → Prop} {b L : Nat} {xs : Nat → Int32} {K : cG} {G : rG} (hx : p.tables.exec = Jvm.exec) (hb : c.code = code) (hml : c.maxLocals = 4) (hown : s.vm.findClass R_W = some m.cls) (ht : ∀ w ∈ zT, w.before #[Value.ref b] s = true) (hX : va_X b L xs s s.heap) (hbl : b < s.heap.size) (hL : L ≤ 5120)
    {τ : cT} {σ : rS} {H : Heap} {locs : List Loc} {ls : Array Slot} {i : Nat} (h : Rl τ σ) (hw : lH K G τ σ s H locs) (hi : i + 10 ≤ L) (hl : lv_has ls 4 [(0, .ref (b)), (1, .ref (cO K 0)), (2, .ref (rA G 0)), (3, .int (nI (i)))])
    (kk : ∀ (τ : cT) (σ : rS) (H : Heap) (locs : List Loc), Rl τ σ → lH K G τ σ s H locs → W p l e room_1 s m #[Value.ref b] below meth c H locs 55 1104 Q (F0 m 808 ls [])) : W p l e room_1 s m #[Value.ref b] below meth c H locs 55 1104 Q (F0 m 291 ls []) := by
  refine lv_aload_n hx hb d_W_law_291 rfl (lv_at hl 1 rfl) ?_
  refine lv_aload_n hx hb d_W_law_292 rfl (lv_at hl 0 rfl) ?_
  refine lv_iload_n hx hb d_W_law_293 rfl (lv_at hl 3 rfl) ?_
  refine lv_iconst (v := nI 1) hx hb d_W_law_294 (by decide) ?_
  refine lv_iadd hx hb d_W_law_295 ?_
  refine tp_i (y := nI (i + 1)) (nI_add _ _) ?_
  refine l_sld hx hb hX hbl hw (n := i + 1) (by omega) hL d_W_law_296 ?_
  refine lv_aload_n hx hb d_W_law_297 rfl (lv_at hl 0 rfl) ?_
  refine lv_iload_n hx hb d_W_law_298 rfl (lv_at hl 3 rfl) ?_
  refine lv_iconst (v := nI 2) hx hb d_W_law_299 (by decide) ?_
  refine lv_iadd hx hb d_W_law_300 ?_
  refine tp_i (y := nI (i + 2)) (nI_add _ _) ?_
  refine l_sld hx hb hX hbl hw (n := i + 2) (by omega) hL d_W_law_301 ?_
  refine l_cl (np := 2) (As := [.int (xs (i + 1)), .int (xs (i + 2))]) (rest := []) ⟨hx, hb, hml, hown, ht⟩ hw (c_D_get l K τ (xs (i + 1)) (xs (i + 2))) ⟨km_W_20, kv_D_get, kx_D_get, kc_D_get⟩ (by decide +kernel) ⟨by decide, by decide⟩ rfl rfl rfl hl.1 rfl (Nat.le_of_ble_eq_true rfl) d_W_law_302 ⟨by decide, by decide⟩ (fun r1 u H locs hp hw => ?_)
  refine lv_aload_n hx hb d_W_law_305 rfl (lv_at hl 2 rfl) ?_
  refine lv_aload_n hx hb d_W_law_306 rfl (lv_at hl 0 rfl) ?_
  refine lv_iload_n hx hb d_W_law_307 rfl (lv_at hl 3 rfl) ?_
  refine lv_iconst (v := nI 1) hx hb d_W_law_308 (by decide) ?_
  refine lv_iadd hx hb d_W_law_309 ?_
  refine tp_i (y := nI (i + 1)) (nI_add _ _) ?_
  refine l_sld hx hb hX hbl hw (n := i + 1) (by omega) hL d_W_law_310 ?_
  refine lv_aload_n hx hb d_W_law_311 rfl (lv_at hl 0 rfl) ?_
  refine lv_iload_n hx hb d_W_law_312 rfl (lv_at hl 3 rfl) ?_
  refine lv_iconst (v := nI 2) hx hb d_W_law_313 (by decide) ?_
  refine lv_iadd hx hb d_W_law_314 ?_
  refine tp_i (y := nI (i + 2)) (nI_add _ _) ?_
  refine l_sld hx hb hX hbl hw (n := i + 2) (by omega) hL d_W_law_315 ?_
  refine l_rl (np := 2) (As := [.int (xs (i + 1)), .int (xs (i + 2))]) (rest := [.long (r1)]) ⟨hx, hb, hml, hown, ht⟩ hw (c_R_get l G σ h.con (xs (i + 1)) (xs (i + 2))) ⟨km_W_24, kv_R_get, kx_R_get, kc_R_get⟩ (by decide +kernel) ⟨by decide, by decide⟩ rfl rfl rfl hl.1 rfl (Nat.le_of_ble_eq_true rfl) d_W_law_316 ⟨by decide, by decide⟩ (fun r2 w H locs hq hw => ?_)
  obtain ⟨hr, hR⟩ := st_get h hp hq
  exact l_cmp hx hb d_W_law_319 d_W_law_320 (by decide) hr (kk u w H locs hR hw)
set_option maxHeartbeats 4000000 in
set_option maxRecDepth 100000 in
theorem lc_reduce {p : Program} {l : Launch} {e : Env} {s : State} {m : MethodId} {below : List Frame} {meth : Method} {c : Code} {Q : State → Prop} {b L : Nat} {xs : Nat → Int32} {K : cG} {G : rG} (hx : p.tables.exec = Jvm.exec) (hb : c.code = code) (hml : c.maxLocals = 4) (hown : s.vm.findClass R_W = some m.cls) (ht : ∀ w ∈ zT, w.before #[Value.ref b] s = true) (hX : va_X b L xs s s.heap) (hbl : b < s.heap.size) (hL : L ≤ 5120)
    {τ : cT} {σ : rS} {H : Heap} {locs : List Loc} {ls : Array Slot} {i : Nat} (h : Rl τ σ) (hw : lH K G τ σ s H locs) (hi : i + 10 ≤ L) (hl : lv_has ls 4 [(0, .ref (b)), (1, .ref (cO K 0)), (2, .ref (rA G 0)), (3, .int (nI (i)))])
    (kk : ∀ (τ : cT) (σ : rS) (H : Heap) (locs : List Loc), Rl τ σ → lH K G τ σ s H locs → W p l e room_1 s m #[Value.ref b] below meth c H locs 55 1104 Q (F0 m 808 ls [])) : W p l e room_1 s m #[Value.ref b] below meth c H locs 55 1104 Q (F0 m 325 ls []) := by
  refine lv_aload_n hx hb d_W_law_325 rfl (lv_at hl 1 rfl) ?_
  refine lv_aload_n hx hb d_W_law_326 rfl (lv_at hl 0 rfl) ?_
  refine lv_iload_n hx hb d_W_law_327 rfl (lv_at hl 3 rfl) ?_
  refine lv_iconst (v := nI 1) hx hb d_W_law_328 (by decide) ?_
  refine lv_iadd hx hb d_W_law_329 ?_
  refine tp_i (y := nI (i + 1)) (nI_add _ _) ?_
  refine l_sld hx hb hX hbl hw (n := i + 1) (by omega) hL d_W_law_330 ?_
  refine lv_aload_n hx hb d_W_law_331 rfl (lv_at hl 0 rfl) ?_
  refine lv_iload_n hx hb d_W_law_332 rfl (lv_at hl 3 rfl) ?_
  refine lv_iconst (v := nI 2) hx hb d_W_law_333 (by decide) ?_
  refine lv_iadd hx hb d_W_law_334 ?_
  refine tp_i (y := nI (i + 2)) (nI_add _ _) ?_
  refine l_sld hx hb hX hbl hw (n := i + 2) (by omega) hL d_W_law_335 ?_
  refine l_ci (np := 2) (As := [.int (xs (i + 1)), .int (xs (i + 2))]) (rest := []) ⟨hx, hb, hml, hown, ht⟩ hw (c_D_reduce l K τ h.1 (xs (i + 1)) (xs (i + 2))) ⟨km_W_25, kv_D_reduce, kx_D_reduce, kc_D_reduce⟩ (by decide +kernel) ⟨by decide, by decide⟩ rfl rfl rfl hl.1 rfl (Nat.le_of_ble_eq_true rfl) d_W_law_336 ⟨by decide, by decide⟩ (fun r1 u H locs hp hw => ?_)
  refine lv_aload_n hx hb d_W_law_339 rfl (lv_at hl 2 rfl) ?_
  refine lv_aload_n hx hb d_W_law_340 rfl (lv_at hl 0 rfl) ?_
  refine lv_iload_n hx hb d_W_law_341 rfl (lv_at hl 3 rfl) ?_
  refine lv_iconst (v := nI 1) hx hb d_W_law_342 (by decide) ?_
  refine lv_iadd hx hb d_W_law_343 ?_
  refine tp_i (y := nI (i + 1)) (nI_add _ _) ?_
  refine l_sld hx hb hX hbl hw (n := i + 1) (by omega) hL d_W_law_344 ?_
  refine lv_aload_n hx hb d_W_law_345 rfl (lv_at hl 0 rfl) ?_
  refine lv_iload_n hx hb d_W_law_346 rfl (lv_at hl 3 rfl) ?_
  refine lv_iconst (v := nI 2) hx hb d_W_law_347 (by decide) ?_
  refine lv_iadd hx hb d_W_law_348 ?_
  refine tp_i (y := nI (i + 2)) (nI_add _ _) ?_
  refine l_sld hx hb hX hbl hw (n := i + 2) (by omega) hL d_W_law_349 ?_
  refine l_ri (np := 2) (As := [.int (xs (i + 1)), .int (xs (i + 2))]) (rest := [.int (r1)]) ⟨hx, hb, hml, hown, ht⟩ hw (c_R_reduce l G σ h.con (xs (i + 1)) (xs (i + 2))) ⟨km_W_29, kv_R_reduce, kx_R_reduce, kc_R_reduce⟩ (by decide +kernel) ⟨by decide, by decide⟩ rfl rfl rfl hl.1 rfl (Nat.le_of_ble_eq_true rfl) d_W_law_350 ⟨by decide, by decide⟩ (fun r2 w H locs hq hw => ?_)
  obtain ⟨hr, hR⟩ := st_reduce h hp hq
  exact lv_icmp_eq (tgt := 808) hx hb d_W_law_353 (by decide) (fun _ => kk u w H locs hR hw) (fun q => absurd hr q)
set_option maxHeartbeats 4000000 in
set_option maxRecDepth 100000 in
theorem lc_work {p : Program} {l : Launch} {e : Env} {s : State} {m : MethodId} {below : List Frame} {meth : Method} {c : Code} {Q : State → Prop} {b L : Nat} {xs : Nat → Int32} {K : cG} {G : rG} (hx : p.tables.exec = Jvm.exec) (hb : c.code = code) (hml : c.maxLocals = 4) (hown : s.vm.findClass R_W = some m.cls) (ht : ∀ w ∈ zT, w.before #[Value.ref b] s = true) (hX : va_X b L xs s s.heap) (hbl : b < s.heap.size) (hL : L ≤ 5120)
    {τ : cT} {σ : rS} {H : Heap} {locs : List Loc} {ls : Array Slot} {i : Nat} (h : Rl τ σ) (hw : lH K G τ σ s H locs) (hi : i + 10 ≤ L) (hl : lv_has ls 4 [(0, .ref (b)), (1, .ref (cO K 0)), (2, .ref (rA G 0)), (3, .int (nI (i)))])
    (kk : ∀ (τ : cT) (σ : rS) (H : Heap) (locs : List Loc), Rl τ σ → lH K G τ σ s H locs → W p l e room_1 s m #[Value.ref b] below meth c H locs 55 1104 Q (F0 m 808 ls [])) : W p l e room_1 s m #[Value.ref b] below meth c H locs 55 1104 Q (F0 m 358 ls []) := by
  refine lv_aload_n hx hb d_W_law_358 rfl (lv_at hl 1 rfl) ?_
  refine lv_aload_n hx hb d_W_law_359 rfl (lv_at hl 0 rfl) ?_
  refine lv_iload_n hx hb d_W_law_360 rfl (lv_at hl 3 rfl) ?_
  refine lv_iconst (v := nI 1) hx hb d_W_law_361 (by decide) ?_
  refine lv_iadd hx hb d_W_law_362 ?_
  refine tp_i (y := nI (i + 1)) (nI_add _ _) ?_
  refine l_sld hx hb hX hbl hw (n := i + 1) (by omega) hL d_W_law_363 ?_
  refine lv_aload_n hx hb d_W_law_364 rfl (lv_at hl 0 rfl) ?_
  refine lv_iload_n hx hb d_W_law_365 rfl (lv_at hl 3 rfl) ?_
  refine lv_iconst (v := nI 2) hx hb d_W_law_366 (by decide) ?_
  refine lv_iadd hx hb d_W_law_367 ?_
  refine tp_i (y := nI (i + 2)) (nI_add _ _) ?_
  refine l_sld hx hb hX hbl hw (n := i + 2) (by omega) hL d_W_law_368 ?_
  refine lv_aload_n hx hb d_W_law_369 rfl (lv_at hl 0 rfl) ?_
  refine lv_iload_n hx hb d_W_law_370 rfl (lv_at hl 3 rfl) ?_
  refine lv_iconst (v := nI 3) hx hb d_W_law_371 (by decide) ?_
  refine lv_iadd hx hb d_W_law_372 ?_
  refine tp_i (y := nI (i + 3)) (nI_add _ _) ?_
  refine l_sld hx hb hX hbl hw (n := i + 3) (by omega) hL d_W_law_373 ?_
  refine lv_aload_n hx hb d_W_law_374 rfl (lv_at hl 0 rfl) ?_
  refine lv_iload_n hx hb d_W_law_375 rfl (lv_at hl 3 rfl) ?_
  refine lv_iconst (v := nI 4) hx hb d_W_law_376 (by decide) ?_
  refine lv_iadd hx hb d_W_law_377 ?_
  refine tp_i (y := nI (i + 4)) (nI_add _ _) ?_
  refine l_sld hx hb hX hbl hw (n := i + 4) (by omega) hL d_W_law_378 ?_
  refine lv_aload_n hx hb d_W_law_379 rfl (lv_at hl 0 rfl) ?_
  refine lv_iload_n hx hb d_W_law_380 rfl (lv_at hl 3 rfl) ?_
  refine lv_iconst (v := nI 5) hx hb d_W_law_381 (by decide) ?_
  refine lv_iadd hx hb d_W_law_382 ?_
  refine tp_i (y := nI (i + 5)) (nI_add _ _) ?_
  refine l_sld hx hb hX hbl hw (n := i + 5) (by omega) hL d_W_law_383 ?_
  refine l_ci (np := 5) (As := [.int (xs (i + 1)), .int (xs (i + 2)), .int (xs (i + 3)), .int (xs (i + 4)), .int (xs (i + 5))]) (rest := []) ⟨hx, hb, hml, hown, ht⟩ hw (c_D_work l K τ h.1 (xs (i + 1)) (xs (i + 2)) (xs (i + 3)) (xs (i + 4)) (xs (i + 5))) ⟨km_W_30, kv_D_work, kx_D_work, kc_D_work⟩ (by decide +kernel) ⟨by decide, by decide⟩ rfl rfl rfl hl.1 rfl (Nat.le_of_ble_eq_true rfl) d_W_law_384 ⟨by decide, by decide⟩ (fun r1 u H locs hp hw => ?_)
  refine lv_aload_n hx hb d_W_law_387 rfl (lv_at hl 2 rfl) ?_
  refine lv_aload_n hx hb d_W_law_388 rfl (lv_at hl 0 rfl) ?_
  refine lv_iload_n hx hb d_W_law_389 rfl (lv_at hl 3 rfl) ?_
  refine lv_iconst (v := nI 1) hx hb d_W_law_390 (by decide) ?_
  refine lv_iadd hx hb d_W_law_391 ?_
  refine tp_i (y := nI (i + 1)) (nI_add _ _) ?_
  refine l_sld hx hb hX hbl hw (n := i + 1) (by omega) hL d_W_law_392 ?_
  refine lv_aload_n hx hb d_W_law_393 rfl (lv_at hl 0 rfl) ?_
  refine lv_iload_n hx hb d_W_law_394 rfl (lv_at hl 3 rfl) ?_
  refine lv_iconst (v := nI 2) hx hb d_W_law_395 (by decide) ?_
  refine lv_iadd hx hb d_W_law_396 ?_
  refine tp_i (y := nI (i + 2)) (nI_add _ _) ?_
  refine l_sld hx hb hX hbl hw (n := i + 2) (by omega) hL d_W_law_397 ?_
  refine lv_aload_n hx hb d_W_law_398 rfl (lv_at hl 0 rfl) ?_
  refine lv_iload_n hx hb d_W_law_399 rfl (lv_at hl 3 rfl) ?_
  refine lv_iconst (v := nI 3) hx hb d_W_law_400 (by decide) ?_
  refine lv_iadd hx hb d_W_law_401 ?_
  refine tp_i (y := nI (i + 3)) (nI_add _ _) ?_
  refine l_sld hx hb hX hbl hw (n := i + 3) (by omega) hL d_W_law_402 ?_
  refine lv_aload_n hx hb d_W_law_403 rfl (lv_at hl 0 rfl) ?_
  refine lv_iload_n hx hb d_W_law_404 rfl (lv_at hl 3 rfl) ?_
  refine lv_iconst (v := nI 4) hx hb d_W_law_405 (by decide) ?_
  refine lv_iadd hx hb d_W_law_406 ?_
  refine tp_i (y := nI (i + 4)) (nI_add _ _) ?_
  refine l_sld hx hb hX hbl hw (n := i + 4) (by omega) hL d_W_law_407 ?_
  refine lv_aload_n hx hb d_W_law_408 rfl (lv_at hl 0 rfl) ?_
  refine lv_iload_n hx hb d_W_law_409 rfl (lv_at hl 3 rfl) ?_
  refine lv_iconst (v := nI 5) hx hb d_W_law_410 (by decide) ?_
  refine lv_iadd hx hb d_W_law_411 ?_
  refine tp_i (y := nI (i + 5)) (nI_add _ _) ?_
  refine l_sld hx hb hX hbl hw (n := i + 5) (by omega) hL d_W_law_412 ?_
  refine l_ri (np := 5) (As := [.int (xs (i + 1)), .int (xs (i + 2)), .int (xs (i + 3)), .int (xs (i + 4)), .int (xs (i + 5))]) (rest := [.int (r1)]) ⟨hx, hb, hml, hown, ht⟩ hw (c_R_work l G σ h.con (xs (i + 1)) (xs (i + 2)) (xs (i + 3)) (xs (i + 4)) (xs (i + 5))) ⟨km_W_34, kv_R_work, kx_R_work, kc_R_work⟩ (by decide +kernel) ⟨by decide, by decide⟩ rfl rfl rfl hl.1 rfl (Nat.le_of_ble_eq_true rfl) d_W_law_413 ⟨by decide, by decide⟩ (fun r2 w H locs hq hw => ?_)
  obtain ⟨hr, hR⟩ := st_work h hp hq
  exact lv_icmp_eq (tgt := 808) hx hb d_W_law_416 (by decide) (fun _ => kk u w H locs hR hw) (fun q => absurd hr q)
set_option maxHeartbeats 4000000 in
set_option maxRecDepth 100000 in
theorem lc_root {p : Program} {l : Launch} {e : Env} {s : State} {m : MethodId} {below : List Frame} {meth : Method} {c : Code} {Q : State → Prop} {b L : Nat} {xs : Nat → Int32} {K : cG} {G : rG} (hx : p.tables.exec = Jvm.exec) (hb : c.code = code) (hml : c.maxLocals = 4) (hown : s.vm.findClass R_W = some m.cls) (ht : ∀ w ∈ zT, w.before #[Value.ref b] s = true) (hX : va_X b L xs s s.heap) (hbl : b < s.heap.size) (hL : L ≤ 5120)
    {τ : cT} {σ : rS} {H : Heap} {locs : List Loc} {ls : Array Slot} {i : Nat} (h : Rl τ σ) (hw : lH K G τ σ s H locs) (hi : i + 10 ≤ L) (hl : lv_has ls 4 [(0, .ref (b)), (1, .ref (cO K 0)), (2, .ref (rA G 0)), (3, .int (nI (i)))])
    (kk : ∀ (τ : cT) (σ : rS) (H : Heap) (locs : List Loc), Rl τ σ → lH K G τ σ s H locs → W p l e room_1 s m #[Value.ref b] below meth c H locs 55 1104 Q (F0 m 808 ls [])) : W p l e room_1 s m #[Value.ref b] below meth c H locs 55 1104 Q (F0 m 421 ls []) := by
  refine lv_aload_n hx hb d_W_law_421 rfl (lv_at hl 1 rfl) ?_
  refine lv_aload_n hx hb d_W_law_422 rfl (lv_at hl 0 rfl) ?_
  refine lv_iload_n hx hb d_W_law_423 rfl (lv_at hl 3 rfl) ?_
  refine lv_iconst (v := nI 1) hx hb d_W_law_424 (by decide) ?_
  refine lv_iadd hx hb d_W_law_425 ?_
  refine tp_i (y := nI (i + 1)) (nI_add _ _) ?_
  refine l_sld hx hb hX hbl hw (n := i + 1) (by omega) hL d_W_law_426 ?_
  refine lv_aload_n hx hb d_W_law_427 rfl (lv_at hl 0 rfl) ?_
  refine lv_iload_n hx hb d_W_law_428 rfl (lv_at hl 3 rfl) ?_
  refine lv_iconst (v := nI 2) hx hb d_W_law_429 (by decide) ?_
  refine lv_iadd hx hb d_W_law_430 ?_
  refine tp_i (y := nI (i + 2)) (nI_add _ _) ?_
  refine l_sld hx hb hX hbl hw (n := i + 2) (by omega) hL d_W_law_431 ?_
  refine l_ci (np := 2) (As := [.int (xs (i + 1)), .int (xs (i + 2))]) (rest := []) ⟨hx, hb, hml, hown, ht⟩ hw (c_D_root l K τ h.1 (xs (i + 1)) (xs (i + 2))) ⟨km_W_35, kv_D_root, kx_D_root, kc_D_root⟩ (by decide +kernel) ⟨by decide, by decide⟩ rfl rfl rfl hl.1 rfl (Nat.le_of_ble_eq_true rfl) d_W_law_432 ⟨by decide, by decide⟩ (fun r1 u H locs hp hw => ?_)
  refine lv_aload_n hx hb d_W_law_435 rfl (lv_at hl 2 rfl) ?_
  refine lv_aload_n hx hb d_W_law_436 rfl (lv_at hl 0 rfl) ?_
  refine lv_iload_n hx hb d_W_law_437 rfl (lv_at hl 3 rfl) ?_
  refine lv_iconst (v := nI 1) hx hb d_W_law_438 (by decide) ?_
  refine lv_iadd hx hb d_W_law_439 ?_
  refine tp_i (y := nI (i + 1)) (nI_add _ _) ?_
  refine l_sld hx hb hX hbl hw (n := i + 1) (by omega) hL d_W_law_440 ?_
  refine lv_aload_n hx hb d_W_law_441 rfl (lv_at hl 0 rfl) ?_
  refine lv_iload_n hx hb d_W_law_442 rfl (lv_at hl 3 rfl) ?_
  refine lv_iconst (v := nI 2) hx hb d_W_law_443 (by decide) ?_
  refine lv_iadd hx hb d_W_law_444 ?_
  refine tp_i (y := nI (i + 2)) (nI_add _ _) ?_
  refine l_sld hx hb hX hbl hw (n := i + 2) (by omega) hL d_W_law_445 ?_
  refine l_ri (np := 2) (As := [.int (xs (i + 1)), .int (xs (i + 2))]) (rest := [.int (r1)]) ⟨hx, hb, hml, hown, ht⟩ hw (c_R_root l G σ h.con (xs (i + 1)) (xs (i + 2))) ⟨km_W_39, kv_R_root, kx_R_root, kc_R_root⟩ (by decide +kernel) ⟨by decide, by decide⟩ rfl rfl rfl hl.1 rfl (Nat.le_of_ble_eq_true rfl) d_W_law_446 ⟨by decide, by decide⟩ (fun r2 w H locs hq hw => ?_)
  obtain ⟨hr, hR⟩ := st_root h hp hq
  exact lv_icmp_eq (tgt := 808) hx hb d_W_law_449 (by decide) (fun _ => kk u w H locs hR hw) (fun q => absurd hr q)
set_option maxHeartbeats 4000000 in
set_option maxRecDepth 100000 in
theorem lc_spot {p : Program} {l : Launch} {e : Env} {s : State} {m : MethodId} {below : List Frame} {meth : Method} {c : Code} {Q : State → Prop} {b L : Nat} {xs : Nat → Int32} {K : cG} {G : rG} (hx : p.tables.exec = Jvm.exec) (hb : c.code = code) (hml : c.maxLocals = 4) (hown : s.vm.findClass R_W = some m.cls) (ht : ∀ w ∈ zT, w.before #[Value.ref b] s = true) (hX : va_X b L xs s s.heap) (hbl : b < s.heap.size) (hL : L ≤ 5120)
    {τ : cT} {σ : rS} {H : Heap} {locs : List Loc} {ls : Array Slot} {i : Nat} (h : Rl τ σ) (hw : lH K G τ σ s H locs) (hi : i + 10 ≤ L) (hl : lv_has ls 4 [(0, .ref (b)), (1, .ref (cO K 0)), (2, .ref (rA G 0)), (3, .int (nI (i)))])
    (kk : ∀ (τ : cT) (σ : rS) (H : Heap) (locs : List Loc), Rl τ σ → lH K G τ σ s H locs → W p l e room_1 s m #[Value.ref b] below meth c H locs 55 1104 Q (F0 m 808 ls [])) : W p l e room_1 s m #[Value.ref b] below meth c H locs 55 1104 Q (F0 m 454 ls []) := by
  refine lv_aload_n hx hb d_W_law_454 rfl (lv_at hl 1 rfl) ?_
  refine lv_aload_n hx hb d_W_law_455 rfl (lv_at hl 0 rfl) ?_
  refine lv_iload_n hx hb d_W_law_456 rfl (lv_at hl 3 rfl) ?_
  refine lv_iconst (v := nI 1) hx hb d_W_law_457 (by decide) ?_
  refine lv_iadd hx hb d_W_law_458 ?_
  refine tp_i (y := nI (i + 1)) (nI_add _ _) ?_
  refine l_sld hx hb hX hbl hw (n := i + 1) (by omega) hL d_W_law_459 ?_
  refine lv_aload_n hx hb d_W_law_460 rfl (lv_at hl 0 rfl) ?_
  refine lv_iload_n hx hb d_W_law_461 rfl (lv_at hl 3 rfl) ?_
  refine lv_iconst (v := nI 2) hx hb d_W_law_462 (by decide) ?_
  refine lv_iadd hx hb d_W_law_463 ?_
  refine tp_i (y := nI (i + 2)) (nI_add _ _) ?_
  refine l_sld hx hb hX hbl hw (n := i + 2) (by omega) hL d_W_law_464 ?_
  refine lv_aload_n hx hb d_W_law_465 rfl (lv_at hl 0 rfl) ?_
  refine lv_iload_n hx hb d_W_law_466 rfl (lv_at hl 3 rfl) ?_
  refine lv_iconst (v := nI 3) hx hb d_W_law_467 (by decide) ?_
  refine lv_iadd hx hb d_W_law_468 ?_
  refine tp_i (y := nI (i + 3)) (nI_add _ _) ?_
  refine l_sld hx hb hX hbl hw (n := i + 3) (by omega) hL d_W_law_469 ?_
  refine lv_aload_n hx hb d_W_law_470 rfl (lv_at hl 0 rfl) ?_
  refine lv_iload_n hx hb d_W_law_471 rfl (lv_at hl 3 rfl) ?_
  refine lv_iconst (v := nI 4) hx hb d_W_law_472 (by decide) ?_
  refine lv_iadd hx hb d_W_law_473 ?_
  refine tp_i (y := nI (i + 4)) (nI_add _ _) ?_
  refine l_sld hx hb hX hbl hw (n := i + 4) (by omega) hL d_W_law_474 ?_
  refine l_ci (np := 4) (As := [.int (xs (i + 1)), .int (xs (i + 2)), .int (xs (i + 3)), .int (xs (i + 4))]) (rest := []) ⟨hx, hb, hml, hown, ht⟩ hw (c_D_spot l K τ h.1 (xs (i + 1)) (xs (i + 2)) (xs (i + 3)) (xs (i + 4))) ⟨km_W_40, kv_D_spot, kx_D_spot, kc_D_spot⟩ (by decide +kernel) ⟨by decide, by decide⟩ rfl rfl rfl hl.1 rfl (Nat.le_of_ble_eq_true rfl) d_W_law_475 ⟨by decide, by decide⟩ (fun r1 u H locs hp hw => ?_)
  refine lv_aload_n hx hb d_W_law_478 rfl (lv_at hl 2 rfl) ?_
  refine lv_aload_n hx hb d_W_law_479 rfl (lv_at hl 0 rfl) ?_
  refine lv_iload_n hx hb d_W_law_480 rfl (lv_at hl 3 rfl) ?_
  refine lv_iconst (v := nI 1) hx hb d_W_law_481 (by decide) ?_
  refine lv_iadd hx hb d_W_law_482 ?_
  refine tp_i (y := nI (i + 1)) (nI_add _ _) ?_
  refine l_sld hx hb hX hbl hw (n := i + 1) (by omega) hL d_W_law_483 ?_
  refine lv_aload_n hx hb d_W_law_484 rfl (lv_at hl 0 rfl) ?_
  refine lv_iload_n hx hb d_W_law_485 rfl (lv_at hl 3 rfl) ?_
  refine lv_iconst (v := nI 2) hx hb d_W_law_486 (by decide) ?_
  refine lv_iadd hx hb d_W_law_487 ?_
  refine tp_i (y := nI (i + 2)) (nI_add _ _) ?_
  refine l_sld hx hb hX hbl hw (n := i + 2) (by omega) hL d_W_law_488 ?_
  refine lv_aload_n hx hb d_W_law_489 rfl (lv_at hl 0 rfl) ?_
  refine lv_iload_n hx hb d_W_law_490 rfl (lv_at hl 3 rfl) ?_
  refine lv_iconst (v := nI 3) hx hb d_W_law_491 (by decide) ?_
  refine lv_iadd hx hb d_W_law_492 ?_
  refine tp_i (y := nI (i + 3)) (nI_add _ _) ?_
  refine l_sld hx hb hX hbl hw (n := i + 3) (by omega) hL d_W_law_493 ?_
  refine lv_aload_n hx hb d_W_law_494 rfl (lv_at hl 0 rfl) ?_
  refine lv_iload_n hx hb d_W_law_495 rfl (lv_at hl 3 rfl) ?_
  refine lv_iconst (v := nI 4) hx hb d_W_law_496 (by decide) ?_
  refine lv_iadd hx hb d_W_law_497 ?_
  refine tp_i (y := nI (i + 4)) (nI_add _ _) ?_
  refine l_sld hx hb hX hbl hw (n := i + 4) (by omega) hL d_W_law_498 ?_
  refine l_ri (np := 4) (As := [.int (xs (i + 1)), .int (xs (i + 2)), .int (xs (i + 3)), .int (xs (i + 4))]) (rest := [.int (r1)]) ⟨hx, hb, hml, hown, ht⟩ hw (c_R_spot l G σ h.con (xs (i + 1)) (xs (i + 2)) (xs (i + 3)) (xs (i + 4))) ⟨km_W_44, kv_R_spot, kx_R_spot, kc_R_spot⟩ (by decide +kernel) ⟨by decide, by decide⟩ rfl rfl rfl hl.1 rfl (Nat.le_of_ble_eq_true rfl) d_W_law_499 ⟨by decide, by decide⟩ (fun r2 w H locs hq hw => ?_)
  obtain ⟨hr, hR⟩ := st_spot h hp hq
  exact lv_icmp_eq (tgt := 808) hx hb d_W_law_502 (by decide) (fun _ => kk u w H locs hR hw) (fun q => absurd hr q)
set_option maxHeartbeats 4000000 in
set_option maxRecDepth 100000 in
theorem lc_sum {p : Program} {l : Launch} {e : Env} {s : State} {m : MethodId} {below : List Frame} {meth : Method} {c : Code} {Q : State → Prop} {b L : Nat} {xs : Nat → Int32} {K : cG} {G : rG} (hx : p.tables.exec = Jvm.exec) (hb : c.code = code) (hml : c.maxLocals = 4) (hown : s.vm.findClass R_W = some m.cls) (ht : ∀ w ∈ zT, w.before #[Value.ref b] s = true) (hX : va_X b L xs s s.heap) (hbl : b < s.heap.size) (hL : L ≤ 5120)
    {τ : cT} {σ : rS} {H : Heap} {locs : List Loc} {ls : Array Slot} {i : Nat} (h : Rl τ σ) (hw : lH K G τ σ s H locs) (hi : i + 10 ≤ L) (hl : lv_has ls 4 [(0, .ref (b)), (1, .ref (cO K 0)), (2, .ref (rA G 0)), (3, .int (nI (i)))])
    (kk : ∀ (τ : cT) (σ : rS) (H : Heap) (locs : List Loc), Rl τ σ → lH K G τ σ s H locs → W p l e room_1 s m #[Value.ref b] below meth c H locs 55 1104 Q (F0 m 808 ls [])) : W p l e room_1 s m #[Value.ref b] below meth c H locs 55 1104 Q (F0 m 507 ls []) := by
  refine lv_aload_n hx hb d_W_law_507 rfl (lv_at hl 1 rfl) ?_
  refine lv_aload_n hx hb d_W_law_508 rfl (lv_at hl 0 rfl) ?_
  refine lv_iload_n hx hb d_W_law_509 rfl (lv_at hl 3 rfl) ?_
  refine lv_iconst (v := nI 1) hx hb d_W_law_510 (by decide) ?_
  refine lv_iadd hx hb d_W_law_511 ?_
  refine tp_i (y := nI (i + 1)) (nI_add _ _) ?_
  refine l_sld hx hb hX hbl hw (n := i + 1) (by omega) hL d_W_law_512 ?_
  refine lv_aload_n hx hb d_W_law_513 rfl (lv_at hl 0 rfl) ?_
  refine lv_iload_n hx hb d_W_law_514 rfl (lv_at hl 3 rfl) ?_
  refine lv_iconst (v := nI 2) hx hb d_W_law_515 (by decide) ?_
  refine lv_iadd hx hb d_W_law_516 ?_
  refine tp_i (y := nI (i + 2)) (nI_add _ _) ?_
  refine l_sld hx hb hX hbl hw (n := i + 2) (by omega) hL d_W_law_517 ?_
  refine lv_aload_n hx hb d_W_law_518 rfl (lv_at hl 0 rfl) ?_
  refine lv_iload_n hx hb d_W_law_519 rfl (lv_at hl 3 rfl) ?_
  refine lv_iconst (v := nI 3) hx hb d_W_law_520 (by decide) ?_
  refine lv_iadd hx hb d_W_law_521 ?_
  refine tp_i (y := nI (i + 3)) (nI_add _ _) ?_
  refine l_sld hx hb hX hbl hw (n := i + 3) (by omega) hL d_W_law_522 ?_
  refine l_ci (np := 3) (As := [.int (xs (i + 1)), .int (xs (i + 2)), .int (xs (i + 3))]) (rest := []) ⟨hx, hb, hml, hown, ht⟩ hw (c_D_sum l K τ h.1 h.n2 h.pt h.xy.1 h.xy.2 (xs (i + 1)) (xs (i + 2)) (xs (i + 3))) ⟨km_W_45, kv_D_sum, kx_D_sum, kc_D_sum⟩ (by decide +kernel) ⟨by decide, by decide⟩ rfl rfl rfl hl.1 rfl (Nat.le_of_ble_eq_true rfl) d_W_law_523 ⟨by decide, by decide⟩ (fun r1 u H locs hp hw => ?_)
  refine lv_aload_n hx hb d_W_law_526 rfl (lv_at hl 2 rfl) ?_
  refine lv_aload_n hx hb d_W_law_527 rfl (lv_at hl 0 rfl) ?_
  refine lv_iload_n hx hb d_W_law_528 rfl (lv_at hl 3 rfl) ?_
  refine lv_iconst (v := nI 1) hx hb d_W_law_529 (by decide) ?_
  refine lv_iadd hx hb d_W_law_530 ?_
  refine tp_i (y := nI (i + 1)) (nI_add _ _) ?_
  refine l_sld hx hb hX hbl hw (n := i + 1) (by omega) hL d_W_law_531 ?_
  refine lv_aload_n hx hb d_W_law_532 rfl (lv_at hl 0 rfl) ?_
  refine lv_iload_n hx hb d_W_law_533 rfl (lv_at hl 3 rfl) ?_
  refine lv_iconst (v := nI 2) hx hb d_W_law_534 (by decide) ?_
  refine lv_iadd hx hb d_W_law_535 ?_
  refine tp_i (y := nI (i + 2)) (nI_add _ _) ?_
  refine l_sld hx hb hX hbl hw (n := i + 2) (by omega) hL d_W_law_536 ?_
  refine lv_aload_n hx hb d_W_law_537 rfl (lv_at hl 0 rfl) ?_
  refine lv_iload_n hx hb d_W_law_538 rfl (lv_at hl 3 rfl) ?_
  refine lv_iconst (v := nI 3) hx hb d_W_law_539 (by decide) ?_
  refine lv_iadd hx hb d_W_law_540 ?_
  refine tp_i (y := nI (i + 3)) (nI_add _ _) ?_
  refine l_sld hx hb hX hbl hw (n := i + 3) (by omega) hL d_W_law_541 ?_
  refine l_ri (np := 3) (As := [.int (xs (i + 1)), .int (xs (i + 2)), .int (xs (i + 3))]) (rest := [.int (r1)]) ⟨hx, hb, hml, hown, ht⟩ hw (c_R_sum l G σ h.fine (xs (i + 1)) (xs (i + 2)) (xs (i + 3))) ⟨km_W_49, kv_R_sum, kx_R_sum, kc_R_sum⟩ (by decide +kernel) ⟨by decide, by decide⟩ rfl rfl rfl hl.1 rfl (Nat.le_of_ble_eq_true rfl) d_W_law_542 ⟨by decide, by decide⟩ (fun r2 w H locs hq hw => ?_)
  obtain ⟨hr, hR⟩ := st_sum h hp hq
  exact lv_icmp_eq (tgt := 808) hx hb d_W_law_545 (by decide) (fun _ => kk u w H locs hR hw) (fun q => absurd hr q)
set_option maxHeartbeats 4000000 in
set_option maxRecDepth 100000 in
theorem lc_times {p : Program} {l : Launch} {e : Env} {s : State} {m : MethodId} {below : List Frame} {meth : Method} {c : Code} {Q : State → Prop} {b L : Nat} {xs : Nat → Int32} {K : cG} {G : rG} (hx : p.tables.exec = Jvm.exec) (hb : c.code = code) (hml : c.maxLocals = 4) (hown : s.vm.findClass R_W = some m.cls) (ht : ∀ w ∈ zT, w.before #[Value.ref b] s = true) (hX : va_X b L xs s s.heap) (hbl : b < s.heap.size) (hL : L ≤ 5120)
    {τ : cT} {σ : rS} {H : Heap} {locs : List Loc} {ls : Array Slot} {i : Nat} (h : Rl τ σ) (hw : lH K G τ σ s H locs) (hi : i + 10 ≤ L) (hl : lv_has ls 4 [(0, .ref (b)), (1, .ref (cO K 0)), (2, .ref (rA G 0)), (3, .int (nI (i)))])
    (kk : ∀ (τ : cT) (σ : rS) (H : Heap) (locs : List Loc), Rl τ σ → lH K G τ σ s H locs → W p l e room_1 s m #[Value.ref b] below meth c H locs 55 1104 Q (F0 m 808 ls [])) : W p l e room_1 s m #[Value.ref b] below meth c H locs 55 1104 Q (F0 m 550 ls []) := by
  refine lv_aload_n hx hb d_W_law_550 rfl (lv_at hl 1 rfl) ?_
  refine lv_aload_n hx hb d_W_law_551 rfl (lv_at hl 0 rfl) ?_
  refine lv_iload_n hx hb d_W_law_552 rfl (lv_at hl 3 rfl) ?_
  refine lv_iconst (v := nI 1) hx hb d_W_law_553 (by decide) ?_
  refine lv_iadd hx hb d_W_law_554 ?_
  refine tp_i (y := nI (i + 1)) (nI_add _ _) ?_
  refine l_sld hx hb hX hbl hw (n := i + 1) (by omega) hL d_W_law_555 ?_
  refine lv_aload_n hx hb d_W_law_556 rfl (lv_at hl 0 rfl) ?_
  refine lv_iload_n hx hb d_W_law_557 rfl (lv_at hl 3 rfl) ?_
  refine lv_iconst (v := nI 2) hx hb d_W_law_558 (by decide) ?_
  refine lv_iadd hx hb d_W_law_559 ?_
  refine tp_i (y := nI (i + 2)) (nI_add _ _) ?_
  refine l_sld hx hb hX hbl hw (n := i + 2) (by omega) hL d_W_law_560 ?_
  refine lv_aload_n hx hb d_W_law_561 rfl (lv_at hl 0 rfl) ?_
  refine lv_iload_n hx hb d_W_law_562 rfl (lv_at hl 3 rfl) ?_
  refine lv_iconst (v := nI 3) hx hb d_W_law_563 (by decide) ?_
  refine lv_iadd hx hb d_W_law_564 ?_
  refine tp_i (y := nI (i + 3)) (nI_add _ _) ?_
  refine l_sld hx hb hX hbl hw (n := i + 3) (by omega) hL d_W_law_565 ?_
  refine l_ci (np := 3) (As := [.int (xs (i + 1)), .int (xs (i + 2)), .int (xs (i + 3))]) (rest := []) ⟨hx, hb, hml, hown, ht⟩ hw (c_D_times l K τ h.1 h.n2 h.pt h.xy.1 h.xy.2 (xs (i + 1)) (xs (i + 2)) (xs (i + 3))) ⟨km_W_50, kv_D_times, kx_D_times, kc_D_times⟩ (by decide +kernel) ⟨by decide, by decide⟩ rfl rfl rfl hl.1 rfl (Nat.le_of_ble_eq_true rfl) d_W_law_566 ⟨by decide, by decide⟩ (fun r1 u H locs hp hw => ?_)
  refine lv_aload_n hx hb d_W_law_569 rfl (lv_at hl 2 rfl) ?_
  refine lv_aload_n hx hb d_W_law_570 rfl (lv_at hl 0 rfl) ?_
  refine lv_iload_n hx hb d_W_law_571 rfl (lv_at hl 3 rfl) ?_
  refine lv_iconst (v := nI 1) hx hb d_W_law_572 (by decide) ?_
  refine lv_iadd hx hb d_W_law_573 ?_
  refine tp_i (y := nI (i + 1)) (nI_add _ _) ?_
  refine l_sld hx hb hX hbl hw (n := i + 1) (by omega) hL d_W_law_574 ?_
  refine lv_aload_n hx hb d_W_law_575 rfl (lv_at hl 0 rfl) ?_
  refine lv_iload_n hx hb d_W_law_576 rfl (lv_at hl 3 rfl) ?_
  refine lv_iconst (v := nI 2) hx hb d_W_law_577 (by decide) ?_
  refine lv_iadd hx hb d_W_law_578 ?_
  refine tp_i (y := nI (i + 2)) (nI_add _ _) ?_
  refine l_sld hx hb hX hbl hw (n := i + 2) (by omega) hL d_W_law_579 ?_
  refine lv_aload_n hx hb d_W_law_580 rfl (lv_at hl 0 rfl) ?_
  refine lv_iload_n hx hb d_W_law_581 rfl (lv_at hl 3 rfl) ?_
  refine lv_iconst (v := nI 3) hx hb d_W_law_582 (by decide) ?_
  refine lv_iadd hx hb d_W_law_583 ?_
  refine tp_i (y := nI (i + 3)) (nI_add _ _) ?_
  refine l_sld hx hb hX hbl hw (n := i + 3) (by omega) hL d_W_law_584 ?_
  refine l_ri (np := 3) (As := [.int (xs (i + 1)), .int (xs (i + 2)), .int (xs (i + 3))]) (rest := [.int (r1)]) ⟨hx, hb, hml, hown, ht⟩ hw (c_R_times l G σ h.fine (xs (i + 1)) (xs (i + 2)) (xs (i + 3))) ⟨km_W_53, kv_R_times, kx_R_times, kc_R_times⟩ (by decide +kernel) ⟨by decide, by decide⟩ rfl rfl rfl hl.1 rfl (Nat.le_of_ble_eq_true rfl) d_W_law_585 ⟨by decide, by decide⟩ (fun r2 w H locs hq hw => ?_)
  obtain ⟨hr, hR⟩ := st_times h hp hq
  exact lv_icmp_eq (tgt := 808) hx hb d_W_law_588 (by decide) (fun _ => kk u w H locs hR hw) (fun q => absurd hr q)
set_option maxHeartbeats 4000000 in
set_option maxRecDepth 100000 in
theorem lc_place {p : Program} {l : Launch} {e : Env} {s : State} {m : MethodId} {below : List Frame} {meth : Method} {c : Code} {Q : State → Prop} {b L : Nat} {xs : Nat → Int32} {K : cG} {G : rG} (hx : p.tables.exec = Jvm.exec) (hb : c.code = code) (hml : c.maxLocals = 4) (hown : s.vm.findClass R_W = some m.cls) (ht : ∀ w ∈ zT, w.before #[Value.ref b] s = true) (hX : va_X b L xs s s.heap) (hbl : b < s.heap.size) (hL : L ≤ 5120)
    {τ : cT} {σ : rS} {H : Heap} {locs : List Loc} {ls : Array Slot} {i : Nat} (h : Rl τ σ) (hw : lH K G τ σ s H locs) (hi : i + 10 ≤ L) (hl : lv_has ls 4 [(0, .ref (b)), (1, .ref (cO K 0)), (2, .ref (rA G 0)), (3, .int (nI (i)))])
    (kk : ∀ (τ : cT) (σ : rS) (H : Heap) (locs : List Loc), Rl τ σ → lH K G τ σ s H locs → W p l e room_1 s m #[Value.ref b] below meth c H locs 55 1104 Q (F0 m 808 ls [])) : W p l e room_1 s m #[Value.ref b] below meth c H locs 55 1104 Q (F0 m 593 ls []) := by
  refine lv_aload_n hx hb d_W_law_593 rfl (lv_at hl 1 rfl) ?_
  refine lv_aload_n hx hb d_W_law_594 rfl (lv_at hl 0 rfl) ?_
  refine lv_iload_n hx hb d_W_law_595 rfl (lv_at hl 3 rfl) ?_
  refine lv_iconst (v := nI 1) hx hb d_W_law_596 (by decide) ?_
  refine lv_iadd hx hb d_W_law_597 ?_
  refine tp_i (y := nI (i + 1)) (nI_add _ _) ?_
  refine l_sld hx hb hX hbl hw (n := i + 1) (by omega) hL d_W_law_598 ?_
  refine lv_aload_n hx hb d_W_law_599 rfl (lv_at hl 0 rfl) ?_
  refine lv_iload_n hx hb d_W_law_600 rfl (lv_at hl 3 rfl) ?_
  refine lv_iconst (v := nI 2) hx hb d_W_law_601 (by decide) ?_
  refine lv_iadd hx hb d_W_law_602 ?_
  refine tp_i (y := nI (i + 2)) (nI_add _ _) ?_
  refine l_sld hx hb hX hbl hw (n := i + 2) (by omega) hL d_W_law_603 ?_
  refine lv_aload_n hx hb d_W_law_604 rfl (lv_at hl 0 rfl) ?_
  refine lv_iload_n hx hb d_W_law_605 rfl (lv_at hl 3 rfl) ?_
  refine lv_iconst (v := nI 3) hx hb d_W_law_606 (by decide) ?_
  refine lv_iadd hx hb d_W_law_607 ?_
  refine tp_i (y := nI (i + 3)) (nI_add _ _) ?_
  refine l_sld hx hb hX hbl hw (n := i + 3) (by omega) hL d_W_law_608 ?_
  refine l_ci (np := 3) (As := [.int (xs (i + 1)), .int (xs (i + 2)), .int (xs (i + 3))]) (rest := []) ⟨hx, hb, hml, hown, ht⟩ hw (c_D_place l K τ h.1 h.n2 (xs (i + 1)) (xs (i + 2)) (xs (i + 3))) ⟨km_W_54, kv_D_place, kx_D_place, kc_D_place⟩ (by decide +kernel) ⟨by decide, by decide⟩ rfl rfl rfl hl.1 rfl (Nat.le_of_ble_eq_true rfl) d_W_law_609 ⟨by decide, by decide⟩ (fun r1 u H locs hp hw => ?_)
  refine lv_aload_n hx hb d_W_law_612 rfl (lv_at hl 2 rfl) ?_
  refine lv_aload_n hx hb d_W_law_613 rfl (lv_at hl 0 rfl) ?_
  refine lv_iload_n hx hb d_W_law_614 rfl (lv_at hl 3 rfl) ?_
  refine lv_iconst (v := nI 1) hx hb d_W_law_615 (by decide) ?_
  refine lv_iadd hx hb d_W_law_616 ?_
  refine tp_i (y := nI (i + 1)) (nI_add _ _) ?_
  refine l_sld hx hb hX hbl hw (n := i + 1) (by omega) hL d_W_law_617 ?_
  refine lv_aload_n hx hb d_W_law_618 rfl (lv_at hl 0 rfl) ?_
  refine lv_iload_n hx hb d_W_law_619 rfl (lv_at hl 3 rfl) ?_
  refine lv_iconst (v := nI 2) hx hb d_W_law_620 (by decide) ?_
  refine lv_iadd hx hb d_W_law_621 ?_
  refine tp_i (y := nI (i + 2)) (nI_add _ _) ?_
  refine l_sld hx hb hX hbl hw (n := i + 2) (by omega) hL d_W_law_622 ?_
  refine lv_aload_n hx hb d_W_law_623 rfl (lv_at hl 0 rfl) ?_
  refine lv_iload_n hx hb d_W_law_624 rfl (lv_at hl 3 rfl) ?_
  refine lv_iconst (v := nI 3) hx hb d_W_law_625 (by decide) ?_
  refine lv_iadd hx hb d_W_law_626 ?_
  refine tp_i (y := nI (i + 3)) (nI_add _ _) ?_
  refine l_sld hx hb hX hbl hw (n := i + 3) (by omega) hL d_W_law_627 ?_
  refine l_ri (np := 3) (As := [.int (xs (i + 1)), .int (xs (i + 2)), .int (xs (i + 3))]) (rest := [.int (r1)]) ⟨hx, hb, hml, hown, ht⟩ hw (c_R_place l G σ h.fine (xs (i + 1)) (xs (i + 2)) (xs (i + 3))) ⟨km_W_58, kv_R_place, kx_R_place, kc_R_place⟩ (by decide +kernel) ⟨by decide, by decide⟩ rfl rfl rfl hl.1 rfl (Nat.le_of_ble_eq_true rfl) d_W_law_628 ⟨by decide, by decide⟩ (fun r2 w H locs hq hw => ?_)
  obtain ⟨hr, hR⟩ := st_place h hp hq
  exact lv_icmp_eq (tgt := 808) hx hb d_W_law_631 (by decide) (fun _ => kk u w H locs hR hw) (fun q => absurd hr q)
set_option maxHeartbeats 4000000 in
set_option maxRecDepth 100000 in
theorem lc_put {p : Program} {l : Launch} {e : Env} {s : State} {m : MethodId} {below : List Frame} {meth : Method} {c : Code} {Q : State → Prop} {b L : Nat} {xs : Nat → Int32} {K : cG} {G : rG} (hx : p.tables.exec = Jvm.exec) (hb : c.code = code) (hml : c.maxLocals = 4) (hown : s.vm.findClass R_W = some m.cls) (ht : ∀ w ∈ zT, w.before #[Value.ref b] s = true) (hX : va_X b L xs s s.heap) (hbl : b < s.heap.size) (hL : L ≤ 5120)
    {τ : cT} {σ : rS} {H : Heap} {locs : List Loc} {ls : Array Slot} {i : Nat} (h : Rl τ σ) (hw : lH K G τ σ s H locs) (hi : i + 10 ≤ L) (hl : lv_has ls 4 [(0, .ref (b)), (1, .ref (cO K 0)), (2, .ref (rA G 0)), (3, .int (nI (i)))])
    (kk : ∀ (τ : cT) (σ : rS) (H : Heap) (locs : List Loc), Rl τ σ → lH K G τ σ s H locs → W p l e room_1 s m #[Value.ref b] below meth c H locs 55 1104 Q (F0 m 808 ls [])) : W p l e room_1 s m #[Value.ref b] below meth c H locs 55 1104 Q (F0 m 636 ls []) := by
  obtain ⟨v0, lv0, ev0⟩ := wb_of ((((xs (i + 1)).toInt64) <<< ((nI (32)).toInt64 &&& 63)) ||| (((xs (i + 2)).toInt64) &&& (4294967295 : Int64)))
  refine lv_aload_n hx hb d_W_law_636 rfl (lv_at hl 1 rfl) ?_
  refine lv_aload_n hx hb d_W_law_637 rfl (lv_at hl 0 rfl) ?_
  refine lv_iload_n hx hb d_W_law_638 rfl (lv_at hl 3 rfl) ?_
  refine lv_iconst (v := nI 1) hx hb d_W_law_639 (by decide) ?_
  refine lv_iadd hx hb d_W_law_640 ?_
  refine tp_i (y := nI (i + 1)) (nI_add _ _) ?_
  refine l_sld hx hb hX hbl hw (n := i + 1) (by omega) hL d_W_law_641 ?_
  refine lv_i2l hx hb d_W_law_642 rfl ?_
  refine lv_bipush (v := nI 32) hx hb d_W_law_643 (by decide) ?_
  refine lv_lshl hx hb d_W_law_645 rfl ?_
  refine lv_aload_n hx hb d_W_law_646 rfl (lv_at hl 0 rfl) ?_
  refine lv_iload_n hx hb d_W_law_647 rfl (lv_at hl 3 rfl) ?_
  refine lv_iconst (v := nI 2) hx hb d_W_law_648 (by decide) ?_
  refine lv_iadd hx hb d_W_law_649 ?_
  refine tp_i (y := nI (i + 2)) (nI_add _ _) ?_
  refine l_sld hx hb hX hbl hw (n := i + 2) (by omega) hL d_W_law_650 ?_
  refine lv_i2l hx hb d_W_law_651 rfl ?_
  refine lv_ldc2 hx hb hown (ht _ kl_W_13) d_W_law_652 ?_
  refine lv_land hx hb d_W_law_655 ?_
  refine lv_lor hx hb d_W_law_656 ?_
  refine tp_l (y := lN (v0)) (ev0) ?_
  refine lv_aload_n hx hb d_W_law_657 rfl (lv_at hl 0 rfl) ?_
  refine lv_iload_n hx hb d_W_law_658 rfl (lv_at hl 3 rfl) ?_
  refine lv_iconst (v := nI 3) hx hb d_W_law_659 (by decide) ?_
  refine lv_iadd hx hb d_W_law_660 ?_
  refine tp_i (y := nI (i + 3)) (nI_add _ _) ?_
  refine l_sld hx hb hX hbl hw (n := i + 3) (by omega) hL d_W_law_661 ?_
  refine l_ci (np := 2) (As := [.long (lN (v0)), .int (xs (i + 3))]) (rest := []) ⟨hx, hb, hml, hown, ht⟩ hw (c_D_put l K τ h.b.2.2.2 lv0 (xs (i + 3))) ⟨km_W_59, kv_D_put, kx_D_put, kc_D_put⟩ (by decide +kernel) ⟨by decide, by decide⟩ rfl rfl rfl hl.1 rfl (Nat.le_of_ble_eq_true rfl) d_W_law_662 ⟨by decide, by decide⟩ (fun r1 u H locs hp hw => ?_)
  refine lv_aload_n hx hb d_W_law_665 rfl (lv_at hl 2 rfl) ?_
  refine lv_aload_n hx hb d_W_law_666 rfl (lv_at hl 0 rfl) ?_
  refine lv_iload_n hx hb d_W_law_667 rfl (lv_at hl 3 rfl) ?_
  refine lv_iconst (v := nI 1) hx hb d_W_law_668 (by decide) ?_
  refine lv_iadd hx hb d_W_law_669 ?_
  refine tp_i (y := nI (i + 1)) (nI_add _ _) ?_
  refine l_sld hx hb hX hbl hw (n := i + 1) (by omega) hL d_W_law_670 ?_
  refine lv_i2l hx hb d_W_law_671 rfl ?_
  refine lv_bipush (v := nI 32) hx hb d_W_law_672 (by decide) ?_
  refine lv_lshl hx hb d_W_law_674 rfl ?_
  refine lv_aload_n hx hb d_W_law_675 rfl (lv_at hl 0 rfl) ?_
  refine lv_iload_n hx hb d_W_law_676 rfl (lv_at hl 3 rfl) ?_
  refine lv_iconst (v := nI 2) hx hb d_W_law_677 (by decide) ?_
  refine lv_iadd hx hb d_W_law_678 ?_
  refine tp_i (y := nI (i + 2)) (nI_add _ _) ?_
  refine l_sld hx hb hX hbl hw (n := i + 2) (by omega) hL d_W_law_679 ?_
  refine lv_i2l hx hb d_W_law_680 rfl ?_
  refine lv_ldc2 hx hb hown (ht _ kl_W_13) d_W_law_681 ?_
  refine lv_land hx hb d_W_law_684 ?_
  refine lv_lor hx hb d_W_law_685 ?_
  refine tp_l (y := lN (v0)) (ev0) ?_
  refine lv_aload_n hx hb d_W_law_686 rfl (lv_at hl 0 rfl) ?_
  refine lv_iload_n hx hb d_W_law_687 rfl (lv_at hl 3 rfl) ?_
  refine lv_iconst (v := nI 3) hx hb d_W_law_688 (by decide) ?_
  refine lv_iadd hx hb d_W_law_689 ?_
  refine tp_i (y := nI (i + 3)) (nI_add _ _) ?_
  refine l_sld hx hb hX hbl hw (n := i + 3) (by omega) hL d_W_law_690 ?_
  refine l_ri (np := 2) (As := [.long (lN (v0)), .int (xs (i + 3))]) (rest := [.int (r1)]) ⟨hx, hb, hml, hown, ht⟩ hw (c_R_put l G σ h.rm lv0 (xs (i + 3))) ⟨km_W_63, kv_R_put, kx_R_put, kc_R_put⟩ (by decide +kernel) ⟨by decide, by decide⟩ rfl rfl rfl hl.1 rfl (Nat.le_of_ble_eq_true rfl) d_W_law_691 ⟨by decide, by decide⟩ (fun r2 w H locs hq hw => ?_)
  obtain ⟨hr, hR⟩ := st_put h hp hq
  exact lv_icmp_eq (tgt := 808) hx hb d_W_law_694 (by decide) (fun _ => kk u w H locs hR hw) (fun q => absurd hr q)
set_option maxHeartbeats 4000000 in
set_option maxRecDepth 100000 in
theorem lc_key {p : Program} {l : Launch} {e : Env} {s : State} {m : MethodId} {below : List Frame} {meth : Method} {c : Code} {Q : State → Prop} {b L : Nat} {xs : Nat → Int32} {K : cG} {G : rG} (hx : p.tables.exec = Jvm.exec) (hb : c.code = code) (hml : c.maxLocals = 4) (hown : s.vm.findClass R_W = some m.cls) (ht : ∀ w ∈ zT, w.before #[Value.ref b] s = true) (hX : va_X b L xs s s.heap) (hbl : b < s.heap.size) (hL : L ≤ 5120)
    {τ : cT} {σ : rS} {H : Heap} {locs : List Loc} {ls : Array Slot} {i : Nat} (h : Rl τ σ) (hw : lH K G τ σ s H locs) (hi : i + 10 ≤ L) (hl : lv_has ls 4 [(0, .ref (b)), (1, .ref (cO K 0)), (2, .ref (rA G 0)), (3, .int (nI (i)))])
    (kk : ∀ (τ : cT) (σ : rS) (H : Heap) (locs : List Loc), Rl τ σ → lH K G τ σ s H locs → W p l e room_1 s m #[Value.ref b] below meth c H locs 55 1104 Q (F0 m 808 ls [])) : W p l e room_1 s m #[Value.ref b] below meth c H locs 55 1104 Q (F0 m 699 ls []) := by
  refine lv_aload_n hx hb d_W_law_699 rfl (lv_at hl 1 rfl) ?_
  refine lv_aload_n hx hb d_W_law_700 rfl (lv_at hl 0 rfl) ?_
  refine lv_iload_n hx hb d_W_law_701 rfl (lv_at hl 3 rfl) ?_
  refine lv_iconst (v := nI 1) hx hb d_W_law_702 (by decide) ?_
  refine lv_iadd hx hb d_W_law_703 ?_
  refine tp_i (y := nI (i + 1)) (nI_add _ _) ?_
  refine l_sld hx hb hX hbl hw (n := i + 1) (by omega) hL d_W_law_704 ?_
  refine l_ci (np := 1) (As := [.int (xs (i + 1))]) (rest := []) ⟨hx, hb, hml, hown, ht⟩ hw (c_D_key l K τ h.1 h.b.2.2.2 h.b.2.1 (xs (i + 1))) ⟨km_W_64, kv_D_key, kx_D_key, kc_D_key⟩ (by decide +kernel) ⟨by decide, by decide⟩ rfl rfl rfl hl.1 rfl (Nat.le_of_ble_eq_true rfl) d_W_law_705 ⟨by decide, by decide⟩ (fun r1 u H locs hp hw => ?_)
  refine lv_aload_n hx hb d_W_law_708 rfl (lv_at hl 2 rfl) ?_
  refine lv_aload_n hx hb d_W_law_709 rfl (lv_at hl 0 rfl) ?_
  refine lv_iload_n hx hb d_W_law_710 rfl (lv_at hl 3 rfl) ?_
  refine lv_iconst (v := nI 1) hx hb d_W_law_711 (by decide) ?_
  refine lv_iadd hx hb d_W_law_712 ?_
  refine tp_i (y := nI (i + 1)) (nI_add _ _) ?_
  refine l_sld hx hb hX hbl hw (n := i + 1) (by omega) hL d_W_law_713 ?_
  refine l_ri (np := 1) (As := [.int (xs (i + 1))]) (rest := [.int (r1)]) ⟨hx, hb, hml, hown, ht⟩ hw (c_R_key l G σ h.con h.rm h.rb (xs (i + 1))) ⟨km_W_68, kv_R_key, kx_R_key, kc_R_key⟩ (by decide +kernel) ⟨by decide, by decide⟩ rfl rfl rfl hl.1 rfl (Nat.le_of_ble_eq_true rfl) d_W_law_714 ⟨by decide, by decide⟩ (fun r2 w H locs hq hw => ?_)
  obtain ⟨hr, hR⟩ := st_key h hp hq
  exact lv_icmp_eq (tgt := 808) hx hb d_W_law_717 (by decide) (fun _ => kk u w H locs hR hw) (fun q => absurd hr q)
set_option maxHeartbeats 4000000 in
set_option maxRecDepth 100000 in
theorem lc_signature {p : Program} {l : Launch} {e : Env} {s : State} {m : MethodId} {below : List Frame} {meth : Method} {c : Code} {Q : State → Prop} {b L : Nat} {xs : Nat → Int32} {K : cG} {G : rG} (hx : p.tables.exec = Jvm.exec) (hb : c.code = code) (hml : c.maxLocals = 4) (hown : s.vm.findClass R_W = some m.cls) (ht : ∀ w ∈ zT, w.before #[Value.ref b] s = true) (hX : va_X b L xs s s.heap) (hbl : b < s.heap.size) (hL : L ≤ 5120)
    {τ : cT} {σ : rS} {H : Heap} {locs : List Loc} {ls : Array Slot} {i : Nat} (h : Rl τ σ) (hw : lH K G τ σ s H locs) (hi : i + 10 ≤ L) (hl : lv_has ls 4 [(0, .ref (b)), (1, .ref (cO K 0)), (2, .ref (rA G 0)), (3, .int (nI (i)))])
    (kk : ∀ (τ : cT) (σ : rS) (H : Heap) (locs : List Loc), Rl τ σ → lH K G τ σ s H locs → W p l e room_1 s m #[Value.ref b] below meth c H locs 55 1104 Q (F0 m 808 ls [])) : W p l e room_1 s m #[Value.ref b] below meth c H locs 55 1104 Q (F0 m 722 ls []) := by
  refine lv_aload_n hx hb d_W_law_722 rfl (lv_at hl 1 rfl) ?_
  refine lv_aload_n hx hb d_W_law_723 rfl (lv_at hl 0 rfl) ?_
  refine lv_iload_n hx hb d_W_law_724 rfl (lv_at hl 3 rfl) ?_
  refine lv_iconst (v := nI 1) hx hb d_W_law_725 (by decide) ?_
  refine lv_iadd hx hb d_W_law_726 ?_
  refine tp_i (y := nI (i + 1)) (nI_add _ _) ?_
  refine l_sld hx hb hX hbl hw (n := i + 1) (by omega) hL d_W_law_727 ?_
  refine lv_aload_n hx hb d_W_law_728 rfl (lv_at hl 0 rfl) ?_
  refine lv_iload_n hx hb d_W_law_729 rfl (lv_at hl 3 rfl) ?_
  refine lv_iconst (v := nI 2) hx hb d_W_law_730 (by decide) ?_
  refine lv_iadd hx hb d_W_law_731 ?_
  refine tp_i (y := nI (i + 2)) (nI_add _ _) ?_
  refine l_sld hx hb hX hbl hw (n := i + 2) (by omega) hL d_W_law_732 ?_
  refine l_ci (np := 2) (As := [.int (xs (i + 1)), .int (xs (i + 2))]) (rest := []) ⟨hx, hb, hml, hown, ht⟩ hw (c_D_signature l K τ h.1 h.b.2.2.2 h.b.2.1 (xs (i + 1)) (xs (i + 2))) ⟨km_W_69, kv_D_signature, kx_D_signature, kc_D_signature⟩ (by decide +kernel) ⟨by decide, by decide⟩ rfl rfl rfl hl.1 rfl (Nat.le_of_ble_eq_true rfl) d_W_law_733 ⟨by decide, by decide⟩ (fun r1 u H locs hp hw => ?_)
  refine lv_aload_n hx hb d_W_law_736 rfl (lv_at hl 2 rfl) ?_
  refine lv_aload_n hx hb d_W_law_737 rfl (lv_at hl 0 rfl) ?_
  refine lv_iload_n hx hb d_W_law_738 rfl (lv_at hl 3 rfl) ?_
  refine lv_iconst (v := nI 1) hx hb d_W_law_739 (by decide) ?_
  refine lv_iadd hx hb d_W_law_740 ?_
  refine tp_i (y := nI (i + 1)) (nI_add _ _) ?_
  refine l_sld hx hb hX hbl hw (n := i + 1) (by omega) hL d_W_law_741 ?_
  refine lv_aload_n hx hb d_W_law_742 rfl (lv_at hl 0 rfl) ?_
  refine lv_iload_n hx hb d_W_law_743 rfl (lv_at hl 3 rfl) ?_
  refine lv_iconst (v := nI 2) hx hb d_W_law_744 (by decide) ?_
  refine lv_iadd hx hb d_W_law_745 ?_
  refine tp_i (y := nI (i + 2)) (nI_add _ _) ?_
  refine l_sld hx hb hX hbl hw (n := i + 2) (by omega) hL d_W_law_746 ?_
  refine l_ri (np := 2) (As := [.int (xs (i + 1)), .int (xs (i + 2))]) (rest := [.int (r1)]) ⟨hx, hb, hml, hown, ht⟩ hw (c_R_signature l G σ h.con h.rm h.rb (xs (i + 1)) (xs (i + 2))) ⟨km_W_72, kv_R_signature, kx_R_signature, kc_R_signature⟩ (by decide +kernel) ⟨by decide, by decide⟩ rfl rfl rfl hl.1 rfl (Nat.le_of_ble_eq_true rfl) d_W_law_747 ⟨by decide, by decide⟩ (fun r2 w H locs hq hw => ?_)
  obtain ⟨hr, hR⟩ := st_sig h hp hq
  exact lv_icmp_eq (tgt := 808) hx hb d_W_law_750 (by decide) (fun _ => kk u w H locs hR hw) (fun q => absurd hr q)
set_option maxHeartbeats 4000000 in
set_option maxRecDepth 100000 in
theorem lc_fits {p : Program} {l : Launch} {e : Env} {s : State} {m : MethodId} {below : List Frame} {meth : Method} {c : Code} {Q : State → Prop} {b L : Nat} {xs : Nat → Int32} {K : cG} {G : rG} (hx : p.tables.exec = Jvm.exec) (hb : c.code = code) (hml : c.maxLocals = 4) (hown : s.vm.findClass R_W = some m.cls) (ht : ∀ w ∈ zT, w.before #[Value.ref b] s = true) (hX : va_X b L xs s s.heap) (hbl : b < s.heap.size) (hL : L ≤ 5120)
    {τ : cT} {σ : rS} {H : Heap} {locs : List Loc} {ls : Array Slot} {i : Nat} (h : Rl τ σ) (hw : lH K G τ σ s H locs) (hi : i + 10 ≤ L) (hl : lv_has ls 4 [(0, .ref (b)), (1, .ref (cO K 0)), (2, .ref (rA G 0)), (3, .int (nI (i)))])
    (kk : ∀ (τ : cT) (σ : rS) (H : Heap) (locs : List Loc), Rl τ σ → lH K G τ σ s H locs → W p l e room_1 s m #[Value.ref b] below meth c H locs 55 1104 Q (F0 m 808 ls [])) : W p l e room_1 s m #[Value.ref b] below meth c H locs 55 1104 Q (F0 m 755 ls []) := by
  refine lv_aload_n hx hb d_W_law_755 rfl (lv_at hl 1 rfl) ?_
  refine lv_aload_n hx hb d_W_law_756 rfl (lv_at hl 0 rfl) ?_
  refine lv_iload_n hx hb d_W_law_757 rfl (lv_at hl 3 rfl) ?_
  refine lv_iconst (v := nI 1) hx hb d_W_law_758 (by decide) ?_
  refine lv_iadd hx hb d_W_law_759 ?_
  refine tp_i (y := nI (i + 1)) (nI_add _ _) ?_
  refine l_sld hx hb hX hbl hw (n := i + 1) (by omega) hL d_W_law_760 ?_
  refine lv_aload_n hx hb d_W_law_761 rfl (lv_at hl 0 rfl) ?_
  refine lv_iload_n hx hb d_W_law_762 rfl (lv_at hl 3 rfl) ?_
  refine lv_iconst (v := nI 2) hx hb d_W_law_763 (by decide) ?_
  refine lv_iadd hx hb d_W_law_764 ?_
  refine tp_i (y := nI (i + 2)) (nI_add _ _) ?_
  refine l_sld hx hb hX hbl hw (n := i + 2) (by omega) hL d_W_law_765 ?_
  refine lv_aload_n hx hb d_W_law_766 rfl (lv_at hl 0 rfl) ?_
  refine lv_iload_n hx hb d_W_law_767 rfl (lv_at hl 3 rfl) ?_
  refine lv_iconst (v := nI 3) hx hb d_W_law_768 (by decide) ?_
  refine lv_iadd hx hb d_W_law_769 ?_
  refine tp_i (y := nI (i + 3)) (nI_add _ _) ?_
  refine l_sld hx hb hX hbl hw (n := i + 3) (by omega) hL d_W_law_770 ?_
  refine lv_aload_n hx hb d_W_law_771 rfl (lv_at hl 0 rfl) ?_
  refine lv_iload_n hx hb d_W_law_772 rfl (lv_at hl 3 rfl) ?_
  refine lv_iconst (v := nI 4) hx hb d_W_law_773 (by decide) ?_
  refine lv_iadd hx hb d_W_law_774 ?_
  refine tp_i (y := nI (i + 4)) (nI_add _ _) ?_
  refine l_sld hx hb hX hbl hw (n := i + 4) (by omega) hL d_W_law_775 ?_
  refine l_ci (np := 4) (As := [.int (xs (i + 1)), .int (xs (i + 2)), .int (xs (i + 3)), .int (xs (i + 4))]) (rest := []) ⟨hx, hb, hml, hown, ht⟩ hw (c_D_fits l K τ h.1 h.n2 h.pt h.xy.1 h.xy.2 (xs (i + 1)) (xs (i + 2)) (xs (i + 3)) (xs (i + 4))) ⟨km_W_73, kv_D_fits, kx_D_fits, kc_D_fits⟩ (by decide +kernel) ⟨by decide, by decide⟩ rfl rfl rfl hl.1 rfl (Nat.le_of_ble_eq_true rfl) d_W_law_776 ⟨by decide, by decide⟩ (fun r1 u H locs hp hw => ?_)
  refine lv_aload_n hx hb d_W_law_779 rfl (lv_at hl 2 rfl) ?_
  refine lv_aload_n hx hb d_W_law_780 rfl (lv_at hl 0 rfl) ?_
  refine lv_iload_n hx hb d_W_law_781 rfl (lv_at hl 3 rfl) ?_
  refine lv_iconst (v := nI 1) hx hb d_W_law_782 (by decide) ?_
  refine lv_iadd hx hb d_W_law_783 ?_
  refine tp_i (y := nI (i + 1)) (nI_add _ _) ?_
  refine l_sld hx hb hX hbl hw (n := i + 1) (by omega) hL d_W_law_784 ?_
  refine lv_aload_n hx hb d_W_law_785 rfl (lv_at hl 0 rfl) ?_
  refine lv_iload_n hx hb d_W_law_786 rfl (lv_at hl 3 rfl) ?_
  refine lv_iconst (v := nI 2) hx hb d_W_law_787 (by decide) ?_
  refine lv_iadd hx hb d_W_law_788 ?_
  refine tp_i (y := nI (i + 2)) (nI_add _ _) ?_
  refine l_sld hx hb hX hbl hw (n := i + 2) (by omega) hL d_W_law_789 ?_
  refine lv_aload_n hx hb d_W_law_790 rfl (lv_at hl 0 rfl) ?_
  refine lv_iload_n hx hb d_W_law_791 rfl (lv_at hl 3 rfl) ?_
  refine lv_iconst (v := nI 3) hx hb d_W_law_792 (by decide) ?_
  refine lv_iadd hx hb d_W_law_793 ?_
  refine tp_i (y := nI (i + 3)) (nI_add _ _) ?_
  refine l_sld hx hb hX hbl hw (n := i + 3) (by omega) hL d_W_law_794 ?_
  refine lv_aload_n hx hb d_W_law_795 rfl (lv_at hl 0 rfl) ?_
  refine lv_iload_n hx hb d_W_law_796 rfl (lv_at hl 3 rfl) ?_
  refine lv_iconst (v := nI 4) hx hb d_W_law_797 (by decide) ?_
  refine lv_iadd hx hb d_W_law_798 ?_
  refine tp_i (y := nI (i + 4)) (nI_add _ _) ?_
  refine l_sld hx hb hX hbl hw (n := i + 4) (by omega) hL d_W_law_799 ?_
  refine l_ri (np := 4) (As := [.int (xs (i + 1)), .int (xs (i + 2)), .int (xs (i + 3)), .int (xs (i + 4))]) (rest := [.int (r1)]) ⟨hx, hb, hml, hown, ht⟩ hw (c_R_fits l G σ h.fine (by rw [h.rbase.1]; exact base_on.1) (by rw [h.rbase.2]; exact base_on.2.1) (xs (i + 1)) (xs (i + 2)) (xs (i + 3)) (xs (i + 4))) ⟨km_W_76, kv_R_fits, kx_R_fits, kc_R_fits⟩ (by decide +kernel) ⟨by decide, by decide⟩ rfl rfl rfl hl.1 rfl (Nat.le_of_ble_eq_true rfl) d_W_law_800 ⟨by decide, by decide⟩ (fun r2 w H locs hq hw => ?_)
  obtain ⟨hr, hR⟩ := st_fits h hp hq
  exact lv_icmp_eq (tgt := 808) hx hb d_W_law_803 (by decide) (fun _ => kk u w H locs hR hw) (fun q => absurd hr q)
