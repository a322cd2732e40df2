/-! the class's curve: the sum put out, sums, multiples, roots -/
theorem cPut.put {τ u w : cT} {V : Nat → Nat} {j x y z : Nat} (hj : j < 6) (hu : cU τ V u) (hz : z ≠ 0) (hz2 : z < rMod 0)
    (h22 : V 22 = mm (rMod 0) x (mm (rMod 0) (z ^ (rMod 0 - 2) % rMod 0) (z ^ (rMod 0 - 2) % rMod 0)))
    (h23 : V 23 = mm (rMod 0) y (mm (rMod 0) (z ^ (rMod 0 - 2) % rMod 0) (mm (rMod 0) (z ^ (rMod 0 - 2) % rMod 0) (z ^ (rMod 0 - 2) % rMod 0))))
    (h24 : V 24 = z) (hk : ∀ r, r < 22 ∨ 28 < r → V r = cV τ r)
    (hp : cU (csN u j 0) (va_up (va_up (cV u) (8 + 2 * j) (cV u 22)) (9 + 2 * j) (cV u 23)) w) : cPut τ j (x, y, z) w := by
  have hM0 : 0 < rMod 0 := rMod_pos (by decide)
  have hU : cU (csN τ j (boolN ((x, y, z).2.2 = 0))) (va_up (va_up (cV u) (8 + 2 * j) (cV u 22)) (9 + 2 * j) (cV u 23)) w := ⟨hp.1, hp.2.1, by rw [boolN_f (show ¬ (x, y, z).2.2 = 0 from hz), hp.2.2.1]; show va_up (cN u) j _ = va_up (cN τ) j _; rw [hu.2.2.1], hp.2.2.2.1.trans hu.2.2.2.1, hp.2.2.2.2.trans hu.2.2.2.2⟩
  obtain ⟨V3, hU3, e3, e4⟩ := hU.fix τ
  refine ⟨V3, hU3, fun _ => ?_, fun q => absurd q hz, ?_, fun r a b c => ?_⟩
  · rw [e3 _ (by omega), e3 _ (by omega), up_ne _ _ (by omega), up_self, up_self, hu.v (by omega), hu.v (by omega), h22, h23]
    exact ⟨rfl, rfl⟩
  · rw [e3 _ (by omega), e3 _ (by omega), e3 _ (by omega), up_ne _ _ (by omega), up_ne _ _ (by omega), up_ne _ _ (by omega), up_ne _ _ (by omega), up_ne _ _ (by omega), up_ne _ _ (by omega), hu.v (by omega), hu.v (by omega), hu.v (by omega), h22, h23, h24]
    exact ⟨mm_lt hM0, mm_lt hM0, hz2⟩
  · by_cases hr : r < 30 ∨ 33 < r
    · rw [e3 r hr, up_ne _ _ c, up_ne _ _ b, hu.v hr, hk r a]
    · exact e4 r hr
theorem cPut.none {τ u w : cT} {V : Nat → Nat} {j x y z : Nat} (hu : cU τ V u) (hz : z = 0) (h3 : t3lt (rMod 0) (V 22, V 23, V 24)) (hk : ∀ r, V r = cV τ r) (hp : w = csN u j 1) : cPut τ j (x, y, z) w := by
  subst hp
  refine ⟨V, ⟨hu.1, hu.2.1, ?_, hu.2.2.2.1, hu.2.2.2.2⟩, fun q => absurd hz q, fun _ => ⟨hk _, hk _⟩, h3, fun r _ _ _ => hk r⟩
  show va_up (cN u) j 1 = va_up (cN τ) j _
  rw [boolN_t (show (x, y, z).2.2 = 0 from hz), hu.2.2.1]
set_option maxHeartbeats 4000000 in
set_option maxRecDepth 100000 in
theorem c_C_storeSum (l : Launch) (K : cG) (τ : cT) (hok : cOk τ) {j : Nat} (hj : j < 6) (h3 : t3lt (rMod 0) (cV τ 22, cV τ 23, cV τ 24)) : Met l y_C_storeSum (zW y_C_storeSum b_C_storeSum 2 none) (zr 5 112) (va_Pc [.ref (cO K 7), .ref (cO K (8 + j))] (cC K τ)) (va_Qv (fun u => cPut τ j (cV τ 22, cV τ 23, cV τ 24) u) (fun u => cC K u) (cAA K)) 0 0 (cAA K) := by
  refine Met.ofW (cc := b_C_storeSum) (maxL := 2) (ret := none) (by decide) rfl ?_
  intro p e s m args below meth c s₁ B hml hv
  obtain ⟨rfl, hw⟩ := hv
  have hx := B.exec
  have hb := B.bytes
  have hr := B.returns
  have hts := atoms_spec (ws := zW y_C_storeSum b_C_storeSum 2 none) B.pre
  have ht : ∀ w ∈ zT, w.before ([.ref (cO K 7), .ref (cO K (8 + j))] : List Value).toArray s = true := fun w h => hts w (List.mem_cons_of_mem _ h)
  have hown : s.vm.findClass R_C = some m.cls := findClass_of_methodNamed B.named
  have hlocks := B.notSynchronized
  have hl := lv_entry ([.ref (cO K 7), .ref (cO K (8 + j))]) (n := 2) (Nat.le_of_ble_eq_true rfl)
  rw [lg_entry_eq]
  generalize (lg_sl ([.ref (cO K 7), .ref (cO K (8 + j))]) ++ List.replicate (2 - (lg_sl ([.ref (cO K 7), .ref (cO K (8 + j))])).length) Slot.unset).toArray = ls at hl ⊢
  have hl : lv_has ls 2 [(0, .ref (cO K 7)), (1, .ref (cO K (8 + j)))] := hl
  obtain ⟨V0, u0, hV0, hu0, hw⟩ : ∃ (V : Nat → Nat) (u : cT), V = cV τ ∧ cU τ V u ∧ cH K u s s.heap [] := ⟨cV τ, τ, rfl, cU.refl hok, hw⟩
  have hK0 : ∀ r, r < 22 ∨ 28 < r → V0 r = cV τ r := fun r _ => by rw [hV0]
  have f0_22 : V0 (22) = cV τ 22 := by rw [hV0]
  have f0_23 : V0 (23) = cV τ 23 := by rw [hV0]
  have f0_24 : V0 (24) = cV τ 24 := by rw [hV0]
  have f0_38 : V0 (38) = rMod 0 - 2 := by rw [hV0]; rfl
  refine lv_aload_n hx hb d_C_storeSum_0 rfl (lv_at hl 0 rfl) ?_
  refine va_get (ci := 0) (C := R_C) (T := F_C) (N := 7) (v := .ref (cR K 24)) hx hb ht ku_C hown hw.2.1 hw.1 7 rfl rfl 3 (by decide) (ht _ kf_C_18) (fun _ h9 => h9) rfl d_C_storeSum_1 ?_
  refine c_si (np := 1) (As := [.ref (cR K 24)]) (rest := []) ⟨hx, hb, hml, hown, ht⟩ hw (c_L_isZero l K u0 hu0.2.1 (a := 24) (by omega) (by omega)) ⟨km_C_101, ks_L_isZero, kc_L_isZero⟩ ki_L (by decide +kernel) ⟨by decide, by decide⟩ rfl rfl rfl hl.1 rfl (Nat.le_of_ble_eq_true rfl) d_C_storeSum_4 ⟨Nat.le_refl _, Nat.le_refl _⟩ (fun r ux H locs hp hw => ?_)
  obtain ⟨hpu, rfl⟩ := hp
  rw [hpu] at hw
  clear hpu
  refine tp_i (y := nI (boolN (cV τ 24 = 0))) (by simp only [hu0.v (show 24 < 30 ∨ 33 < 24 by omega), f0_24]) ?_
  refine n_eq0 (tgt := 15) hx hb d_C_storeSum_7 (by decide) (boolN_s _) (fun c1 => ?_) (fun c1 => ?_)
  · have c2 := boolN_0 c1
    refine lv_aload_n hx hb d_C_storeSum_15 rfl (lv_at hl 0 rfl) ?_
    refine va_get (ci := 0) (C := R_C) (T := F_C) (N := 7) (v := .ref (cO K 5)) hx hb ht ku_C hown hw.2.1 hw.1 7 rfl rfl 0 (by decide) (ht _ kf_C_30) (fun _ h9 => h9) rfl d_C_storeSum_16 ?_
    refine lv_aload_n hx hb d_C_storeSum_19 rfl (lv_at hl 0 rfl) ?_
    refine va_get (ci := 0) (C := R_C) (T := F_C) (N := 7) (v := .ref (cR K 25)) hx hb ht ku_C hown hw.2.1 hw.1 7 rfl rfl 4 (by decide) (ht _ kf_C_21) (fun _ h9 => h9) rfl d_C_storeSum_20 ?_
    refine lv_aload_n hx hb d_C_storeSum_23 rfl (lv_at hl 0 rfl) ?_
    refine va_get (ci := 0) (C := R_C) (T := F_C) (N := 7) (v := .ref (cR K 24)) hx hb ht ku_C hown hw.2.1 hw.1 7 rfl rfl 3 (by decide) (ht _ kf_C_18) (fun _ h9 => h9) rfl d_C_storeSum_24 ?_
    refine c_getsN hx hb hown hw 38 (by decide) (by decide) (index := 118) (by decide) d_C_storeSum_27 ?_
    refine c_cv (np := 3) (As := [.ref (cR K 25), .ref (cR K 24), .ref (cR K 38)]) (rest := []) ⟨hx, hb, hml, hown, ht⟩ hw (c_M_raise l K u0 hu0.2.1 (μ := 0) (o := 25) (a := 24) (e0 := 38) (by decide) (by omega) (by omega) (by omega) (by omega) (by omega) (by omega) (by omega)) 5 rfl rfl ⟨km_C_63, kv_M_raise, kx_M_raise, kc_M_raise⟩ ki_M (by decide +kernel) ⟨by decide, by decide⟩ rfl rfl rfl hl.1 rfl (Nat.le_of_ble_eq_true rfl) d_C_storeSum_30 ⟨Nat.le_refl _, Nat.le_refl _⟩ (fun u1 H locs hp hw => ?_)
    obtain ⟨V1, hu1, ht1, hk1⟩ := qc_raise hu0 (by omega) (by omega) hp
    have f1_22 : V1 (22) = cV τ 22 := (hk1 _ (by omega) (by omega)).trans f0_22
    have f1_23 : V1 (23) = cV τ 23 := (hk1 _ (by omega) (by omega)).trans f0_23
    have f1_24 : V1 (24) = cV τ 24 := (hk1 _ (by omega) (by omega)).trans f0_24
    have f1_38 : V1 (38) = rMod 0 - 2 := (hk1 _ (by omega) (by omega)).trans f0_38
    have f1_25 : V1 (25) = (cV τ 24) ^ (rMod 0 - 2) % rMod 0 := ht1.trans (by simp only [f0_24, f0_38])
    have hK1 : ∀ r, r < 22 ∨ 28 < r → V1 r = cV τ r := fun r a0 => (hk1 r (by omega) (by omega)).trans (hK0 r a0)
    clear f0_22 f0_23 f0_24 f0_38 ht1 hk1 hu0 hK0 hp
    refine lv_aload_n hx hb d_C_storeSum_33 rfl (lv_at hl 0 rfl) ?_
    refine va_get (ci := 0) (C := R_C) (T := F_C) (N := 7) (v := .ref (cO K 5)) hx hb ht ku_C hown hw.2.1 hw.1 7 rfl rfl 0 (by decide) (ht _ kf_C_30) (fun _ h9 => h9) rfl d_C_storeSum_34 ?_
    refine lv_aload_n hx hb d_C_storeSum_37 rfl (lv_at hl 0 rfl) ?_
    refine va_get (ci := 0) (C := R_C) (T := F_C) (N := 7) (v := .ref (cR K 26)) hx hb ht ku_C hown hw.2.1 hw.1 7 rfl rfl 5 (by decide) (ht _ kf_C_24) (fun _ h9 => h9) rfl d_C_storeSum_38 ?_
    refine lv_aload_n hx hb d_C_storeSum_41 rfl (lv_at hl 0 rfl) ?_
    refine va_get (ci := 0) (C := R_C) (T := F_C) (N := 7) (v := .ref (cR K 25)) hx hb ht ku_C hown hw.2.1 hw.1 7 rfl rfl 4 (by decide) (ht _ kf_C_21) (fun _ h9 => h9) rfl d_C_storeSum_42 ?_
    refine lv_aload_n hx hb d_C_storeSum_45 rfl (lv_at hl 0 rfl) ?_
    refine va_get (ci := 0) (C := R_C) (T := F_C) (N := 7) (v := .ref (cR K 25)) hx hb ht ku_C hown hw.2.1 hw.1 7 rfl rfl 4 (by decide) (ht _ kf_C_21) (fun _ h9 => h9) rfl d_C_storeSum_46 ?_
    refine c_cv (np := 3) (As := [.ref (cR K 26), .ref (cR K 25), .ref (cR K 25)]) (rest := []) ⟨hx, hb, hml, hown, ht⟩ hw (c_M_multiply l K u1 hu1.2.1 (μ := 0) (o := 26) (a := 25) (b := 25) (by decide) (by omega) (by omega) (by omega) (by omega) (by omega)) 5 rfl rfl ⟨km_C_44, kv_M_multiply, kx_M_multiply, kc_M_multiply⟩ ki_M (by decide +kernel) ⟨by decide, by decide⟩ rfl rfl rfl hl.1 rfl (Nat.le_of_ble_eq_true rfl) d_C_storeSum_49 ⟨Nat.le_refl _, Nat.le_refl _⟩ (fun u2 H locs hp hw => ?_)
    obtain ⟨V2, hu2, ht2, hk2⟩ := qc_mul hu1 (by omega) (by omega) hp
    have f2_22 : V2 (22) = cV τ 22 := (hk2 _ (by omega)).trans f1_22
    have f2_23 : V2 (23) = cV τ 23 := (hk2 _ (by omega)).trans f1_23
    have f2_24 : V2 (24) = cV τ 24 := (hk2 _ (by omega)).trans f1_24
    have f2_38 : V2 (38) = rMod 0 - 2 := (hk2 _ (by omega)).trans f1_38
    have f2_25 : V2 (25) = (cV τ 24) ^ (rMod 0 - 2) % rMod 0 := (hk2 _ (by omega)).trans f1_25
    have f2_26 : V2 (26) = mm (rMod 0) ((cV τ 24) ^ (rMod 0 - 2) % rMod 0) ((cV τ 24) ^ (rMod 0 - 2) % rMod 0) := ht2.trans (by simp only [f1_25])
    have hK2 : ∀ r, r < 22 ∨ 28 < r → V2 r = cV τ r := fun r a0 => (hk2 r (by omega)).trans (hK1 r a0)
    clear f1_22 f1_23 f1_24 f1_38 f1_25 ht2 hk2 hu1 hK1 hp
    refine lv_aload_n hx hb d_C_storeSum_52 rfl (lv_at hl 0 rfl) ?_
    refine va_get (ci := 0) (C := R_C) (T := F_C) (N := 7) (v := .ref (cO K 5)) hx hb ht ku_C hown hw.2.1 hw.1 7 rfl rfl 0 (by decide) (ht _ kf_C_30) (fun _ h9 => h9) rfl d_C_storeSum_53 ?_
    refine lv_aload_n hx hb d_C_storeSum_56 rfl (lv_at hl 0 rfl) ?_
    refine va_get (ci := 0) (C := R_C) (T := F_C) (N := 7) (v := .ref (cR K 25)) hx hb ht ku_C hown hw.2.1 hw.1 7 rfl rfl 4 (by decide) (ht _ kf_C_21) (fun _ h9 => h9) rfl d_C_storeSum_57 ?_
    refine lv_aload_n hx hb d_C_storeSum_60 rfl (lv_at hl 0 rfl) ?_
    refine va_get (ci := 0) (C := R_C) (T := F_C) (N := 7) (v := .ref (cR K 25)) hx hb ht ku_C hown hw.2.1 hw.1 7 rfl rfl 4 (by decide) (ht _ kf_C_21) (fun _ h9 => h9) rfl d_C_storeSum_61 ?_
    refine lv_aload_n hx hb d_C_storeSum_64 rfl (lv_at hl 0 rfl) ?_
    refine va_get (ci := 0) (C := R_C) (T := F_C) (N := 7) (v := .ref (cR K 26)) hx hb ht ku_C hown hw.2.1 hw.1 7 rfl rfl 5 (by decide) (ht _ kf_C_24) (fun _ h9 => h9) rfl d_C_storeSum_65 ?_
    refine c_cv (np := 3) (As := [.ref (cR K 25), .ref (cR K 25), .ref (cR K 26)]) (rest := []) ⟨hx, hb, hml, hown, ht⟩ hw (c_M_multiply l K u2 hu2.2.1 (μ := 0) (o := 25) (a := 25) (b := 26) (by decide) (by omega) (by omega) (by omega) (by omega) (by omega)) 5 rfl rfl ⟨km_C_44, kv_M_multiply, kx_M_multiply, kc_M_multiply⟩ ki_M (by decide +kernel) ⟨by decide, by decide⟩ rfl rfl rfl hl.1 rfl (Nat.le_of_ble_eq_true rfl) d_C_storeSum_68 ⟨Nat.le_refl _, Nat.le_refl _⟩ (fun u3 H locs hp hw => ?_)
    obtain ⟨V3, hu3, ht3, hk3⟩ := qc_mul hu2 (by omega) (by omega) hp
    have f3_22 : V3 (22) = cV τ 22 := (hk3 _ (by omega)).trans f2_22
    have f3_23 : V3 (23) = cV τ 23 := (hk3 _ (by omega)).trans f2_23
    have f3_24 : V3 (24) = cV τ 24 := (hk3 _ (by omega)).trans f2_24
    have f3_38 : V3 (38) = rMod 0 - 2 := (hk3 _ (by omega)).trans f2_38
    have f3_26 : V3 (26) = mm (rMod 0) ((cV τ 24) ^ (rMod 0 - 2) % rMod 0) ((cV τ 24) ^ (rMod 0 - 2) % rMod 0) := (hk3 _ (by omega)).trans f2_26
    have f3_25 : V3 (25) = mm (rMod 0) ((cV τ 24) ^ (rMod 0 - 2) % rMod 0) (mm (rMod 0) ((cV τ 24) ^ (rMod 0 - 2) % rMod 0) ((cV τ 24) ^ (rMod 0 - 2) % rMod 0)) := ht3.trans (by simp only [f2_25, f2_26])
    have hK3 : ∀ r, r < 22 ∨ 28 < r → V3 r = cV τ r := fun r a0 => (hk3 r (by omega)).trans (hK2 r a0)
    clear f2_22 f2_23 f2_24 f2_38 f2_25 f2_26 ht3 hk3 hu2 hK2 hp
    refine lv_aload_n hx hb d_C_storeSum_71 rfl (lv_at hl 0 rfl) ?_
    refine va_get (ci := 0) (C := R_C) (T := F_C) (N := 7) (v := .ref (cO K 5)) hx hb ht ku_C hown hw.2.1 hw.1 7 rfl rfl 0 (by decide) (ht _ kf_C_30) (fun _ h9 => h9) rfl d_C_storeSum_72 ?_
    refine lv_aload_n hx hb d_C_storeSum_75 rfl (lv_at hl 0 rfl) ?_
    refine va_get (ci := 0) (C := R_C) (T := F_C) (N := 7) (v := .ref (cR K 22)) hx hb ht ku_C hown hw.2.1 hw.1 7 rfl rfl 1 (by decide) (ht _ kf_C_9) (fun _ h9 => h9) rfl d_C_storeSum_76 ?_
    refine lv_aload_n hx hb d_C_storeSum_79 rfl (lv_at hl 0 rfl) ?_
    refine va_get (ci := 0) (C := R_C) (T := F_C) (N := 7) (v := .ref (cR K 22)) hx hb ht ku_C hown hw.2.1 hw.1 7 rfl rfl 1 (by decide) (ht _ kf_C_9) (fun _ h9 => h9) rfl d_C_storeSum_80 ?_
    refine lv_aload_n hx hb d_C_storeSum_83 rfl (lv_at hl 0 rfl) ?_
    refine va_get (ci := 0) (C := R_C) (T := F_C) (N := 7) (v := .ref (cR K 26)) hx hb ht ku_C hown hw.2.1 hw.1 7 rfl rfl 5 (by decide) (ht _ kf_C_24) (fun _ h9 => h9) rfl d_C_storeSum_84 ?_
    refine c_cv (np := 3) (As := [.ref (cR K 22), .ref (cR K 22), .ref (cR K 26)]) (rest := []) ⟨hx, hb, hml, hown, ht⟩ hw (c_M_multiply l K u3 hu3.2.1 (μ := 0) (o := 22) (a := 22) (b := 26) (by decide) (by omega) (by omega) (by omega) (by omega) (by omega)) 5 rfl rfl ⟨km_C_44, kv_M_multiply, kx_M_multiply, kc_M_multiply⟩ ki_M (by decide +kernel) ⟨by decide, by decide⟩ rfl rfl rfl hl.1 rfl (Nat.le_of_ble_eq_true rfl) d_C_storeSum_87 ⟨Nat.le_refl _, Nat.le_refl _⟩ (fun u4 H locs hp hw => ?_)
    obtain ⟨V4, hu4, ht4, hk4⟩ := qc_mul hu3 (by omega) (by omega) hp
    have f4_23 : V4 (23) = cV τ 23 := (hk4 _ (by omega)).trans f3_23
    have f4_24 : V4 (24) = cV τ 24 := (hk4 _ (by omega)).trans f3_24
    have f4_38 : V4 (38) = rMod 0 - 2 := (hk4 _ (by omega)).trans f3_38
    have f4_26 : V4 (26) = mm (rMod 0) ((cV τ 24) ^ (rMod 0 - 2) % rMod 0) ((cV τ 24) ^ (rMod 0 - 2) % rMod 0) := (hk4 _ (by omega)).trans f3_26
    have f4_25 : V4 (25) = mm (rMod 0) ((cV τ 24) ^ (rMod 0 - 2) % rMod 0) (mm (rMod 0) ((cV τ 24) ^ (rMod 0 - 2) % rMod 0) ((cV τ 24) ^ (rMod 0 - 2) % rMod 0)) := (hk4 _ (by omega)).trans f3_25
    have f4_22 : V4 (22) = mm (rMod 0) (cV τ 22) (mm (rMod 0) ((cV τ 24) ^ (rMod 0 - 2) % rMod 0) ((cV τ 24) ^ (rMod 0 - 2) % rMod 0)) := ht4.trans (by simp only [f3_22, f3_26])
    have hK4 : ∀ r, r < 22 ∨ 28 < r → V4 r = cV τ r := fun r a0 => (hk4 r (by omega)).trans (hK3 r a0)
    clear f3_22 f3_23 f3_24 f3_38 f3_26 f3_25 ht4 hk4 hu3 hK3 hp
    refine lv_aload_n hx hb d_C_storeSum_90 rfl (lv_at hl 0 rfl) ?_
    refine va_get (ci := 0) (C := R_C) (T := F_C) (N := 7) (v := .ref (cO K 5)) hx hb ht ku_C hown hw.2.1 hw.1 7 rfl rfl 0 (by decide) (ht _ kf_C_30) (fun _ h9 => h9) rfl d_C_storeSum_91 ?_
    refine lv_aload_n hx hb d_C_storeSum_94 rfl (lv_at hl 0 rfl) ?_
    refine va_get (ci := 0) (C := R_C) (T := F_C) (N := 7) (v := .ref (cR K 23)) hx hb ht ku_C hown hw.2.1 hw.1 7 rfl rfl 2 (by decide) (ht _ kf_C_15) (fun _ h9 => h9) rfl d_C_storeSum_95 ?_
    refine lv_aload_n hx hb d_C_storeSum_98 rfl (lv_at hl 0 rfl) ?_
    refine va_get (ci := 0) (C := R_C) (T := F_C) (N := 7) (v := .ref (cR K 23)) hx hb ht ku_C hown hw.2.1 hw.1 7 rfl rfl 2 (by decide) (ht _ kf_C_15) (fun _ h9 => h9) rfl d_C_storeSum_99 ?_
    refine lv_aload_n hx hb d_C_storeSum_102 rfl (lv_at hl 0 rfl) ?_
    refine va_get (ci := 0) (C := R_C) (T := F_C) (N := 7) (v := .ref (cR K 25)) hx hb ht ku_C hown hw.2.1 hw.1 7 rfl rfl 4 (by decide) (ht _ kf_C_21) (fun _ h9 => h9) rfl d_C_storeSum_103 ?_
    refine c_cv (np := 3) (As := [.ref (cR K 23), .ref (cR K 23), .ref (cR K 25)]) (rest := []) ⟨hx, hb, hml, hown, ht⟩ hw (c_M_multiply l K u4 hu4.2.1 (μ := 0) (o := 23) (a := 23) (b := 25) (by decide) (by omega) (by omega) (by omega) (by omega) (by omega)) 5 rfl rfl ⟨km_C_44, kv_M_multiply, kx_M_multiply, kc_M_multiply⟩ ki_M (by decide +kernel) ⟨by decide, by decide⟩ rfl rfl rfl hl.1 rfl (Nat.le_of_ble_eq_true rfl) d_C_storeSum_106 ⟨Nat.le_refl _, Nat.le_refl _⟩ (fun u5 H locs hp hw => ?_)
    obtain ⟨V5, hu5, ht5, hk5⟩ := qc_mul hu4 (by omega) (by omega) hp
    have f5_24 : V5 (24) = cV τ 24 := (hk5 _ (by omega)).trans f4_24
    have f5_38 : V5 (38) = rMod 0 - 2 := (hk5 _ (by omega)).trans f4_38
    have f5_26 : V5 (26) = mm (rMod 0) ((cV τ 24) ^ (rMod 0 - 2) % rMod 0) ((cV τ 24) ^ (rMod 0 - 2) % rMod 0) := (hk5 _ (by omega)).trans f4_26
    have f5_25 : V5 (25) = mm (rMod 0) ((cV τ 24) ^ (rMod 0 - 2) % rMod 0) (mm (rMod 0) ((cV τ 24) ^ (rMod 0 - 2) % rMod 0) ((cV τ 24) ^ (rMod 0 - 2) % rMod 0)) := (hk5 _ (by omega)).trans f4_25
    have f5_22 : V5 (22) = mm (rMod 0) (cV τ 22) (mm (rMod 0) ((cV τ 24) ^ (rMod 0 - 2) % rMod 0) ((cV τ 24) ^ (rMod 0 - 2) % rMod 0)) := (hk5 _ (by omega)).trans f4_22
    have f5_23 : V5 (23) = mm (rMod 0) (cV τ 23) (mm (rMod 0) ((cV τ 24) ^ (rMod 0 - 2) % rMod 0) (mm (rMod 0) ((cV τ 24) ^ (rMod 0 - 2) % rMod 0) ((cV τ 24) ^ (rMod 0 - 2) % rMod 0))) := ht5.trans (by simp only [f4_23, f4_25])
    have hK5 : ∀ r, r < 22 ∨ 28 < r → V5 r = cV τ r := fun r a0 => (hk5 r (by omega)).trans (hK4 r a0)
    clear f4_23 f4_24 f4_38 f4_26 f4_25 f4_22 ht5 hk5 hu4 hK4 hp
    refine lv_aload_n hx hb d_C_storeSum_109 rfl (lv_at hl 1 rfl) ?_
    refine lv_aload_n hx hb d_C_storeSum_110 rfl (lv_at hl 0 rfl) ?_
    refine va_get (ci := 0) (C := R_C) (T := F_C) (N := 7) (v := .ref (cR K 22)) hx hb ht ku_C hown hw.2.1 hw.1 7 rfl rfl 1 (by decide) (ht _ kf_C_9) (fun _ h9 => h9) rfl d_C_storeSum_111 ?_
    refine lv_aload_n hx hb d_C_storeSum_114 rfl (lv_at hl 0 rfl) ?_
    refine va_get (ci := 0) (C := R_C) (T := F_C) (N := 7) (v := .ref (cR K 23)) hx hb ht ku_C hown hw.2.1 hw.1 7 rfl rfl 2 (by decide) (ht _ kf_C_15) (fun _ h9 => h9) rfl d_C_storeSum_115 ?_
    refine c_cv (np := 2) (As := [.ref (cR K 22), .ref (cR K 23)]) (rest := []) ⟨hx, hb, hml, hown, ht⟩ hw (c_P_become l K u5 hu5.2.1 hj (x := 22) (y := 23) (by decide) (by decide) (by decide) (by decide) (by omega)) (8 + j) (cWs_pnt K _ hj) rfl ⟨km_C_121, kv_P_become, kx_P_become, kc_P_become⟩ ki_P (by decide +kernel) ⟨by decide, by decide⟩ rfl rfl rfl hl.1 rfl (Nat.le_of_ble_eq_true rfl) d_C_storeSum_118 ⟨Nat.le_refl _, Nat.le_refl _⟩ (fun w9 H locs hp hw => ?_)
    exact z_vret (cZ K) hx hb hr hlocks w9 hw (cPut.put hj hu5 c2 h3.2.2 f5_22 f5_23 f5_24 hK5 hp) d_C_storeSum_121
  · have c2 := boolN_1 c1
    refine lv_aload_n hx hb d_C_storeSum_10 rfl (lv_at hl 1 rfl) ?_
    refine c_cv (np := 0) (As := []) (rest := []) ⟨hx, hb, hml, hown, ht⟩ hw (c_P_becomeNone l K u0 hj) (8 + j) (cWs_pnt K _ hj) rfl ⟨km_C_115, kv_P_becomeNone, kx_P_becomeNone, kc_P_becomeNone⟩ ki_P (by decide +kernel) ⟨by decide, by decide⟩ rfl rfl rfl hl.1 rfl (Nat.le_of_ble_eq_true rfl) d_C_storeSum_11 ⟨Nat.le_refl _, Nat.le_refl _⟩ (fun w9 H locs hp hw => ?_)
    exact z_vret (cZ K) hx hb hr hlocks w9 hw (cPut.none hu0 c2 (by rw [f0_22, f0_23, f0_24]; exact h3) (fun r => by rw [hV0]) hp) d_C_storeSum_14
set_option maxHeartbeats 4000000 in
set_option maxRecDepth 100000 in
theorem c_C_addTwo (l : Launch) (K : cG) (τ : cT) (hok : cOk τ) {j a0 b0 : Nat} (hj : j < 6) (ha : a0 < 6) (hb0 : b0 < 6) (hn : ∀ q, q < 6 → cN τ q < 2) (hpt : ∀ r, 8 ≤ r → r < 20 → cV τ r < rMod 0) (h22 : cV τ 22 < rMod 0) (h23 : cV τ 23 < rMod 0) : Met l y_C_addTwo (zW y_C_addTwo b_C_addTwo 4 none) (zr 6 133) (va_Pc [.ref (cO K 7), .ref (cO K (8 + j)), .ref (cO K (8 + a0)), .ref (cO K (8 + b0))] (cC K τ)) (va_Qv (fun u => cPut τ j (cin (rMod 0) (cin (rMod 0) (cV τ 22, cV τ 23, 0) (cN τ a0) (cV τ (8 + 2 * a0)) (cV τ (9 + 2 * a0))) (cN τ b0) (cV τ (8 + 2 * b0)) (cV τ (9 + 2 * b0))) u) (fun u => cC K u) (cAA K)) 0 0 (cAA K) := by
  refine Met.ofW (cc := b_C_addTwo) (maxL := 4) (ret := none) (by decide) rfl ?_
  intro p e s m args below meth c s₁ B hml hv
  obtain ⟨rfl, hw⟩ := hv
  have hx := B.exec
  have hb := B.bytes
  have hr := B.returns
  have hts := atoms_spec (ws := zW y_C_addTwo b_C_addTwo 4 none) B.pre
  have ht : ∀ w ∈ zT, w.before ([.ref (cO K 7), .ref (cO K (8 + j)), .ref (cO K (8 + a0)), .ref (cO K (8 + b0))] : List Value).toArray s = true := fun w h => hts w (List.mem_cons_of_mem _ h)
  have hown : s.vm.findClass R_C = some m.cls := findClass_of_methodNamed B.named
  have hlocks := B.notSynchronized
  have hl := lv_entry ([.ref (cO K 7), .ref (cO K (8 + j)), .ref (cO K (8 + a0)), .ref (cO K (8 + b0))]) (n := 4) (Nat.le_of_ble_eq_true rfl)
  rw [lg_entry_eq]
  generalize (lg_sl ([.ref (cO K 7), .ref (cO K (8 + j)), .ref (cO K (8 + a0)), .ref (cO K (8 + b0))]) ++ List.replicate (4 - (lg_sl ([.ref (cO K 7), .ref (cO K (8 + j)), .ref (cO K (8 + a0)), .ref (cO K (8 + b0))])).length) Slot.unset).toArray = ls at hl ⊢
  have hl : lv_has ls 4 [(0, .ref (cO K 7)), (1, .ref (cO K (8 + j))), (2, .ref (cO K (8 + a0))), (3, .ref (cO K (8 + b0)))] := hl
  have hM1 : 1 < rMod 0 := rMod_one (by decide)
  refine lv_aload_n hx hb d_C_addTwo_0 rfl (lv_at hl 0 rfl) ?_
  refine c_cv (np := 0) (As := []) (rest := []) ⟨hx, hb, hml, hown, ht⟩ hw (c_C_startSum l K τ hok) 7 rfl rfl ⟨km_C_78, kv_C_startSum, kx_C_startSum, kc_C_startSum⟩ ki_C (by decide +kernel) ⟨by decide, by decide⟩ rfl rfl rfl hl.1 rfl (Nat.le_of_ble_eq_true rfl) d_C_addTwo_1 ⟨Nat.le_refl _, Nat.le_refl _⟩ (fun u1 H locs hp hw => ?_)
  have hu1 := (cU.refl hok).set (o := 24) (x := 0) (by decide) W8_pos hp
  clear hp
  obtain ⟨V1, hV1⟩ : ∃ V1, V1 = va_up (cV τ) 24 0 := ⟨_, rfl⟩
  rw [← hV1] at hu1
  have t1 : (V1 22, V1 23, V1 24) = (cV τ 22, cV τ 23, 0) := by rw [hV1, up_ne _ _ (by decide), up_ne _ _ (by decide), up_self]
  have k1 : ∀ r, r < 22 ∨ 27 < r → V1 r = cV τ r := fun r h => by rw [hV1]; exact up_ne _ _ (by omega)
  have l1 : t3lt (rMod 0) (V1 22, V1 23, V1 24) := by rw [t1]; exact ⟨h22, h23, show 0 < rMod 0 by omega⟩
  refine lv_aload_n hx hb d_C_addTwo_4 rfl (lv_at hl 0 rfl) ?_
  refine lv_aload_n hx hb d_C_addTwo_5 rfl (lv_at hl 2 rfl) ?_
  have x1 : cV u1 (8 + 2 * a0) = cV τ (8 + 2 * a0) := (hu1.v (by omega)).trans (k1 _ (by omega))
  have y1 : cV u1 (9 + 2 * a0) = cV τ (9 + 2 * a0) := (hu1.v (by omega)).trans (k1 _ (by omega))
  have z1 : (cV u1 22, cV u1 23, cV u1 24) = (V1 22, V1 23, V1 24) := by rw [hu1.v (by omega), hu1.v (by omega), hu1.v (by omega)]
  have nn1 : cN u1 a0 = cN τ a0 := by rw [hu1.2.2.1]
  refine c_cv (np := 1) (As := [.ref (cO K (8 + a0))]) (rest := []) ⟨hx, hb, hml, hown, ht⟩ hw (c_C_include l K u1 hu1.2.1 (j := a0) ha (by rw [nn1]; exact hn _ ha) (by rw [z1]; exact l1) (by rw [x1]; exact hpt _ (by omega) (by omega)) (by rw [y1]; exact hpt _ (by omega) (by omega))) 7 rfl rfl ⟨km_C_81, kv_C_include, kx_C_include, kc_C_include⟩ ki_C (by decide +kernel) ⟨by decide, by decide⟩ rfl rfl rfl hl.1 rfl (Nat.le_of_ble_eq_true rfl) d_C_addTwo_6 ⟨Nat.le_refl _, Nat.le_refl _⟩ (fun u2 H locs hp hw => ?_)
  obtain ⟨W2, hv2, q2, gk2⟩ := hp
  rw [z1, nn1, x1, y1, t1] at q2
  obtain ⟨V2, hu2, e3, e4⟩ := (hu1.trans hv2).fix τ
  have t2 : (V2 22, V2 23, V2 24) = (cin (rMod 0) (cV τ 22, cV τ 23, 0) (cN τ a0) (cV τ (8 + 2 * a0)) (cV τ (9 + 2 * a0))) := by rw [e3 _ (by omega), e3 _ (by omega), e3 _ (by omega), q2]
  have k2 : ∀ r, r < 22 ∨ 27 < r → V2 r = cV τ r := by
    intro r h
    by_cases hr : r < 30 ∨ 33 < r
    · rw [e3 r hr, gk2 r h, hu1.v hr, k1 r h]
    · exact e4 r hr
  have l2 : t3lt (rMod 0) (V2 22, V2 23, V2 24) := by rw [t2]; exact cin_lt hM1 (by rw [← t1]; exact l1) (hpt _ (by omega) (by omega)) (hpt _ (by omega) (by omega))
  clear e3 e4 gk2 hv2 q2
  refine lv_aload_n hx hb d_C_addTwo_9 rfl (lv_at hl 0 rfl) ?_
  refine lv_aload_n hx hb d_C_addTwo_10 rfl (lv_at hl 3 rfl) ?_
  have x2 : cV u2 (8 + 2 * b0) = cV τ (8 + 2 * b0) := (hu2.v (by omega)).trans (k2 _ (by omega))
  have y2 : cV u2 (9 + 2 * b0) = cV τ (9 + 2 * b0) := (hu2.v (by omega)).trans (k2 _ (by omega))
  have z2 : (cV u2 22, cV u2 23, cV u2 24) = (V2 22, V2 23, V2 24) := by rw [hu2.v (by omega), hu2.v (by omega), hu2.v (by omega)]
  have nn2 : cN u2 b0 = cN τ b0 := by rw [hu2.2.2.1]
  refine c_cv (np := 1) (As := [.ref (cO K (8 + b0))]) (rest := []) ⟨hx, hb, hml, hown, ht⟩ hw (c_C_include l K u2 hu2.2.1 (j := b0) hb0 (by rw [nn2]; exact hn _ hb0) (by rw [z2]; exact l2) (by rw [x2]; exact hpt _ (by omega) (by omega)) (by rw [y2]; exact hpt _ (by omega) (by omega))) 7 rfl rfl ⟨km_C_81, kv_C_include, kx_C_include, kc_C_include⟩ ki_C (by decide +kernel) ⟨by decide, by decide⟩ rfl rfl rfl hl.1 rfl (Nat.le_of_ble_eq_true rfl) d_C_addTwo_11 ⟨Nat.le_refl _, Nat.le_refl _⟩ (fun u3 H locs hp hw => ?_)
  obtain ⟨W3, hv3, q3, gk3⟩ := hp
  rw [z2, nn2, x2, y2, t2] at q3
  obtain ⟨V3, hu3, e3, e4⟩ := (hu2.trans hv3).fix τ
  have t3 : (V3 22, V3 23, V3 24) = (cin (rMod 0) (cin (rMod 0) (cV τ 22, cV τ 23, 0) (cN τ a0) (cV τ (8 + 2 * a0)) (cV τ (9 + 2 * a0))) (cN τ b0) (cV τ (8 + 2 * b0)) (cV τ (9 + 2 * b0))) := by rw [e3 _ (by omega), e3 _ (by omega), e3 _ (by omega), q3]
  have k3 : ∀ r, r < 22 ∨ 27 < r → V3 r = cV τ r := by
    intro r h
    by_cases hr : r < 30 ∨ 33 < r
    · rw [e3 r hr, gk3 r h, hu2.v hr, k2 r h]
    · exact e4 r hr
  have l3 : t3lt (rMod 0) (V3 22, V3 23, V3 24) := by rw [t3]; exact cin_lt hM1 (by rw [← t2]; exact l2) (hpt _ (by omega) (by omega)) (hpt _ (by omega) (by omega))
  clear e3 e4 gk3 hv3 q3
  refine lv_aload_n hx hb d_C_addTwo_14 rfl (lv_at hl 0 rfl) ?_
  refine lv_aload_n hx hb d_C_addTwo_15 rfl (lv_at hl 1 rfl) ?_
  have z3 : (cV u3 22, cV u3 23, cV u3 24) = (V3 22, V3 23, V3 24) := by rw [hu3.v (by omega), hu3.v (by omega), hu3.v (by omega)]
  refine c_cv (np := 1) (As := [.ref (cO K (8 + j))]) (rest := []) ⟨hx, hb, hml, hown, ht⟩ hw (c_C_storeSum l K u3 hu3.2.1 (j := j) hj (by rw [z3]; exact l3)) 7 rfl rfl ⟨km_C_85, kv_C_storeSum, kx_C_storeSum, kc_C_storeSum⟩ ki_C (by decide +kernel) ⟨by decide, by decide⟩ rfl rfl rfl hl.1 rfl (Nat.le_of_ble_eq_true rfl) d_C_addTwo_16 ⟨Nat.le_refl _, Nat.le_refl _⟩ (fun w9 H locs hp hw => ?_)
  rw [z3, t3] at hp
  exact z_vret (cZ K) hx hb hr hlocks w9 hw (cPut.of hj hu3 k3 hp) d_C_addTwo_19
