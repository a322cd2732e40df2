/-! the class's curve: its steps -/
set_option maxHeartbeats 4000000 in
set_option maxRecDepth 100000 in
theorem c_C_startSum (l : Launch) (K : cG) (τ : cT) (hok : cOk τ) : Met l y_C_startSum (zW y_C_startSum b_C_startSum 1 none) (zr 2 47) (va_Pc [.ref (cO K 7)] (cC K τ)) (va_Qv (fun u => u = csV τ 24 0) (fun u => cC K u) (cAA K)) 0 0 (cAA K) := by
  refine Met.ofW (cc := b_C_startSum) (maxL := 1) (ret := none) (by decide) rfl ?_
  intro p e s m args below meth c s₁ B hml hv
  obtain ⟨rfl, hw⟩ := hv
  have hx := B.exec
  have hb := B.bytes
  have hr := B.returns
  have hts := atoms_spec (ws := zW y_C_startSum b_C_startSum 1 none) B.pre
  have ht : ∀ w ∈ zT, w.before ([.ref (cO K 7)] : List Value).toArray s = true := fun w h => hts w (List.mem_cons_of_mem _ h)
  have hown : s.vm.findClass R_C = some m.cls := findClass_of_methodNamed B.named
  have hlocks := B.notSynchronized
  have hl := lv_entry ([.ref (cO K 7)]) (n := 1) (Nat.le_of_ble_eq_true rfl)
  rw [lg_entry_eq]
  generalize (lg_sl ([.ref (cO K 7)]) ++ List.replicate (1 - (lg_sl ([.ref (cO K 7)])).length) Slot.unset).toArray = ls at hl ⊢
  have hl : lv_has ls 1 [(0, .ref (cO K 7))] := hl
  refine lv_aload_n hx hb d_C_startSum_0 rfl (lv_at hl 0 rfl) ?_
  refine va_get (ci := 0) (C := R_C) (T := F_C) (N := 7) (v := .ref (cR K 24)) hx hb ht ku_C hown hw.2.1 hw.1 7 rfl rfl 3 (by decide) (ht _ kf_C_18) (fun _ h9 => h9) rfl d_C_startSum_1 ?_
  refine c_getsN hx hb hown hw 34 (by decide) (by decide) (index := 69) (by decide) d_C_startSum_4 ?_
  refine c_sv (np := 2) (As := [.ref (cR K 24), .ref (cR K 34)]) (rest := []) ⟨hx, hb, hml, hown, ht⟩ hw (c_L_copy l K τ hok (o := 24) (a := 34) (by decide) (by decide)) ⟨km_C_75, ks_L_copy, kc_L_copy⟩ ki_L (by decide +kernel) ⟨by decide, by decide⟩ rfl rfl rfl hl.1 rfl (Nat.le_of_ble_eq_true rfl) d_C_startSum_7 ⟨Nat.le_refl _, Nat.le_refl _⟩ (fun u H locs hp hw => ?_)
  exact z_vret (cZ K) hx hb hr hlocks u hw hp d_C_startSum_10
set_option maxHeartbeats 4000000 in
set_option maxRecDepth 100000 in
theorem c_C_findDifferences (l : Launch) (K : cG) (τ : cT) (hok : cOk τ) {j : Nat} (hj : j < 6) (hx0 : cV τ 22 < rMod 0) (hy0 : cV τ 23 < rMod 0) : Met l y_C_findDifferences (zW y_C_findDifferences b_C_findDifferences 2 none) (zr 4 88) (va_Pc [.ref (cO K 7), .ref (cO K (8 + j))] (cC K τ)) (va_Qv (fun u => ∃ V, cU τ V u ∧ V 26 = cfB (rMod 0) (cV τ 22) (cV τ 24) (cV τ (8 + 2 * j)) ∧ V 27 = cfC (rMod 0) (cV τ 23) (cV τ 24) (cV τ (9 + 2 * j)) ∧ ∀ r, r < 25 ∨ 27 < r → V r = cV τ r) (fun u => cC K u) (cAA K)) 0 0 (cAA K) := by
  refine Met.ofW (cc := b_C_findDifferences) (maxL := 2) (ret := none) (by decide) rfl ?_
  intro p e s m args below meth c s₁ B hml hv
  obtain ⟨rfl, hw⟩ := hv
  have hx := B.exec
  have hb := B.bytes
  have hr := B.returns
  have hts := atoms_spec (ws := zW y_C_findDifferences b_C_findDifferences 2 none) B.pre
  have ht : ∀ w ∈ zT, w.before ([.ref (cO K 7), .ref (cO K (8 + j))] : List Value).toArray s = true := fun w h => hts w (List.mem_cons_of_mem _ h)
  have hown : s.vm.findClass R_C = some m.cls := findClass_of_methodNamed B.named
  have hlocks := B.notSynchronized
  have hl := lv_entry ([.ref (cO K 7), .ref (cO K (8 + j))]) (n := 2) (Nat.le_of_ble_eq_true rfl)
  rw [lg_entry_eq]
  generalize (lg_sl ([.ref (cO K 7), .ref (cO K (8 + j))]) ++ List.replicate (2 - (lg_sl ([.ref (cO K 7), .ref (cO K (8 + j))])).length) Slot.unset).toArray = ls at hl ⊢
  have hl : lv_has ls 2 [(0, .ref (cO K 7)), (1, .ref (cO K (8 + j)))] := hl
  obtain ⟨V0, u0, hV0, hu0, hw⟩ : ∃ (V : Nat → Nat) (u : cT), V = cV τ ∧ cU τ V u ∧ cH K u s s.heap [] := ⟨cV τ, τ, rfl, cU.refl hok, hw⟩
  have hK0 : ∀ r, r < 25 ∨ 27 < r → V0 r = cV τ r := fun r _ => by rw [hV0]
  have f0_22 : V0 (22) = cV τ 22 := by rw [hV0]
  have f0_23 : V0 (23) = cV τ 23 := by rw [hV0]
  have f0_24 : V0 (24) = cV τ 24 := by rw [hV0]
  have f0_8_2_j : V0 (8 + 2 * j) = cV τ (8 + 2 * j) := by rw [hV0]
  have f0_9_2_j : V0 (9 + 2 * j) = cV τ (9 + 2 * j) := by rw [hV0]
  refine lv_aload_n hx hb d_C_findDifferences_0 rfl (lv_at hl 0 rfl) ?_
  refine va_get (ci := 0) (C := R_C) (T := F_C) (N := 7) (v := .ref (cO K 5)) hx hb ht ku_C hown hw.2.1 hw.1 7 rfl rfl 0 (by decide) (ht _ kf_C_30) (fun _ h9 => h9) rfl d_C_findDifferences_1 ?_
  refine lv_aload_n hx hb d_C_findDifferences_4 rfl (lv_at hl 0 rfl) ?_
  refine va_get (ci := 0) (C := R_C) (T := F_C) (N := 7) (v := .ref (cR K 25)) hx hb ht ku_C hown hw.2.1 hw.1 7 rfl rfl 4 (by decide) (ht _ kf_C_21) (fun _ h9 => h9) rfl d_C_findDifferences_5 ?_
  refine lv_aload_n hx hb d_C_findDifferences_8 rfl (lv_at hl 0 rfl) ?_
  refine va_get (ci := 0) (C := R_C) (T := F_C) (N := 7) (v := .ref (cR K 24)) hx hb ht ku_C hown hw.2.1 hw.1 7 rfl rfl 3 (by decide) (ht _ kf_C_18) (fun _ h9 => h9) rfl d_C_findDifferences_9 ?_
  refine lv_aload_n hx hb d_C_findDifferences_12 rfl (lv_at hl 0 rfl) ?_
  refine va_get (ci := 0) (C := R_C) (T := F_C) (N := 7) (v := .ref (cR K 24)) hx hb ht ku_C hown hw.2.1 hw.1 7 rfl rfl 3 (by decide) (ht _ kf_C_18) (fun _ h9 => h9) rfl d_C_findDifferences_13 ?_
  refine c_cv (np := 3) (As := [.ref (cR K 25), .ref (cR K 24), .ref (cR K 24)]) (rest := []) ⟨hx, hb, hml, hown, ht⟩ hw (c_M_multiply l K u0 hu0.2.1 (μ := 0) (o := 25) (a := 24) (b := 24) (by decide) (by omega) (by omega) (by omega) (by omega) (by omega)) 5 rfl rfl ⟨km_C_44, kv_M_multiply, kx_M_multiply, kc_M_multiply⟩ ki_M (by decide +kernel) ⟨by decide, by decide⟩ rfl rfl rfl hl.1 rfl (Nat.le_of_ble_eq_true rfl) d_C_findDifferences_16 ⟨Nat.le_refl _, Nat.le_refl _⟩ (fun u1 H locs hp hw => ?_)
  obtain ⟨V1, hu1, ht1, hk1⟩ := qc_mul hu0 (by omega) (by omega) hp
  have f1_22 : V1 (22) = cV τ 22 := (hk1 _ (by omega)).trans f0_22
  have f1_23 : V1 (23) = cV τ 23 := (hk1 _ (by omega)).trans f0_23
  have f1_24 : V1 (24) = cV τ 24 := (hk1 _ (by omega)).trans f0_24
  have f1_8_2_j : V1 (8 + 2 * j) = cV τ (8 + 2 * j) := (hk1 _ (by omega)).trans f0_8_2_j
  have f1_9_2_j : V1 (9 + 2 * j) = cV τ (9 + 2 * j) := (hk1 _ (by omega)).trans f0_9_2_j
  have f1_25 : V1 (25) = mm (rMod 0) (cV τ 24) (cV τ 24) := ht1.trans (by simp only [f0_24])
  have hK1 : ∀ r, r < 25 ∨ 27 < r → V1 r = cV τ r := fun r a0 => (hk1 r (by omega)).trans (hK0 r a0)
  clear f0_22 f0_23 f0_24 f0_8_2_j f0_9_2_j ht1 hk1 hu0 hK0 hp
  refine lv_aload_n hx hb d_C_findDifferences_19 rfl (lv_at hl 0 rfl) ?_
  refine va_get (ci := 0) (C := R_C) (T := F_C) (N := 7) (v := .ref (cO K 5)) hx hb ht ku_C hown hw.2.1 hw.1 7 rfl rfl 0 (by decide) (ht _ kf_C_30) (fun _ h9 => h9) rfl d_C_findDifferences_20 ?_
  refine lv_aload_n hx hb d_C_findDifferences_23 rfl (lv_at hl 0 rfl) ?_
  refine va_get (ci := 0) (C := R_C) (T := F_C) (N := 7) (v := .ref (cR K 26)) hx hb ht ku_C hown hw.2.1 hw.1 7 rfl rfl 5 (by decide) (ht _ kf_C_24) (fun _ h9 => h9) rfl d_C_findDifferences_24 ?_
  refine lv_aload_n hx hb d_C_findDifferences_27 rfl (lv_at hl 1 rfl) ?_
  refine va_get (ci := 3) (C := R_P) (T := F_P) (N := 3) (v := .ref (cR K (8 + 2 * j))) hx hb ht ku_P hown hw.2.1 hw.1 (8 + j) (cWs_pnt K _ hj) rfl 1 (by decide) (ht _ kf_C_104) (fun _ h9 => h9) rfl d_C_findDifferences_28 ?_
  refine lv_aload_n hx hb d_C_findDifferences_31 rfl (lv_at hl 0 rfl) ?_
  refine va_get (ci := 0) (C := R_C) (T := F_C) (N := 7) (v := .ref (cR K 25)) hx hb ht ku_C hown hw.2.1 hw.1 7 rfl rfl 4 (by decide) (ht _ kf_C_21) (fun _ h9 => h9) rfl d_C_findDifferences_32 ?_
  refine c_cv (np := 3) (As := [.ref (cR K 26), .ref (cR K (8 + 2 * j)), .ref (cR K 25)]) (rest := []) ⟨hx, hb, hml, hown, ht⟩ hw (c_M_multiply l K u1 hu1.2.1 (μ := 0) (o := 26) (a := 8 + 2 * j) (b := 25) (by decide) (by omega) (by omega) (by omega) (by omega) (by omega)) 5 rfl rfl ⟨km_C_44, kv_M_multiply, kx_M_multiply, kc_M_multiply⟩ ki_M (by decide +kernel) ⟨by decide, by decide⟩ rfl rfl rfl hl.1 rfl (Nat.le_of_ble_eq_true rfl) d_C_findDifferences_35 ⟨Nat.le_refl _, Nat.le_refl _⟩ (fun u2 H locs hp hw => ?_)
  obtain ⟨V2, hu2, ht2, hk2⟩ := qc_mul hu1 (by omega) (by omega) hp
  have f2_22 : V2 (22) = cV τ 22 := (hk2 _ (by omega)).trans f1_22
  have f2_23 : V2 (23) = cV τ 23 := (hk2 _ (by omega)).trans f1_23
  have f2_24 : V2 (24) = cV τ 24 := (hk2 _ (by omega)).trans f1_24
  have f2_8_2_j : V2 (8 + 2 * j) = cV τ (8 + 2 * j) := (hk2 _ (by omega)).trans f1_8_2_j
  have f2_9_2_j : V2 (9 + 2 * j) = cV τ (9 + 2 * j) := (hk2 _ (by omega)).trans f1_9_2_j
  have f2_25 : V2 (25) = mm (rMod 0) (cV τ 24) (cV τ 24) := (hk2 _ (by omega)).trans f1_25
  have f2_26 : V2 (26) = mm (rMod 0) (cV τ (8 + 2 * j)) (mm (rMod 0) (cV τ 24) (cV τ 24)) := ht2.trans (by simp only [f1_25, f1_8_2_j])
  have hK2 : ∀ r, r < 25 ∨ 27 < r → V2 r = cV τ r := fun r a0 => (hk2 r (by omega)).trans (hK1 r a0)
  clear f1_22 f1_23 f1_24 f1_8_2_j f1_9_2_j f1_25 ht2 hk2 hu1 hK1 hp
  refine lv_aload_n hx hb d_C_findDifferences_38 rfl (lv_at hl 0 rfl) ?_
  refine va_get (ci := 0) (C := R_C) (T := F_C) (N := 7) (v := .ref (cO K 5)) hx hb ht ku_C hown hw.2.1 hw.1 7 rfl rfl 0 (by decide) (ht _ kf_C_30) (fun _ h9 => h9) rfl d_C_findDifferences_39 ?_
  refine lv_aload_n hx hb d_C_findDifferences_42 rfl (lv_at hl 0 rfl) ?_
  refine va_get (ci := 0) (C := R_C) (T := F_C) (N := 7) (v := .ref (cR K 25)) hx hb ht ku_C hown hw.2.1 hw.1 7 rfl rfl 4 (by decide) (ht _ kf_C_21) (fun _ h9 => h9) rfl d_C_findDifferences_43 ?_
  refine lv_aload_n hx hb d_C_findDifferences_46 rfl (lv_at hl 0 rfl) ?_
  refine va_get (ci := 0) (C := R_C) (T := F_C) (N := 7) (v := .ref (cR K 25)) hx hb ht ku_C hown hw.2.1 hw.1 7 rfl rfl 4 (by decide) (ht _ kf_C_21) (fun _ h9 => h9) rfl d_C_findDifferences_47 ?_
  refine lv_aload_n hx hb d_C_findDifferences_50 rfl (lv_at hl 0 rfl) ?_
  refine va_get (ci := 0) (C := R_C) (T := F_C) (N := 7) (v := .ref (cR K 24)) hx hb ht ku_C hown hw.2.1 hw.1 7 rfl rfl 3 (by decide) (ht _ kf_C_18) (fun _ h9 => h9) rfl d_C_findDifferences_51 ?_
  refine c_cv (np := 3) (As := [.ref (cR K 25), .ref (cR K 25), .ref (cR K 24)]) (rest := []) ⟨hx, hb, hml, hown, ht⟩ hw (c_M_multiply l K u2 hu2.2.1 (μ := 0) (o := 25) (a := 25) (b := 24) (by decide) (by omega) (by omega) (by omega) (by omega) (by omega)) 5 rfl rfl ⟨km_C_44, kv_M_multiply, kx_M_multiply, kc_M_multiply⟩ ki_M (by decide +kernel) ⟨by decide, by decide⟩ rfl rfl rfl hl.1 rfl (Nat.le_of_ble_eq_true rfl) d_C_findDifferences_54 ⟨Nat.le_refl _, Nat.le_refl _⟩ (fun u3 H locs hp hw => ?_)
  obtain ⟨V3, hu3, ht3, hk3⟩ := qc_mul hu2 (by omega) (by omega) hp
  have f3_22 : V3 (22) = cV τ 22 := (hk3 _ (by omega)).trans f2_22
  have f3_23 : V3 (23) = cV τ 23 := (hk3 _ (by omega)).trans f2_23
  have f3_24 : V3 (24) = cV τ 24 := (hk3 _ (by omega)).trans f2_24
  have f3_8_2_j : V3 (8 + 2 * j) = cV τ (8 + 2 * j) := (hk3 _ (by omega)).trans f2_8_2_j
  have f3_9_2_j : V3 (9 + 2 * j) = cV τ (9 + 2 * j) := (hk3 _ (by omega)).trans f2_9_2_j
  have f3_26 : V3 (26) = mm (rMod 0) (cV τ (8 + 2 * j)) (mm (rMod 0) (cV τ 24) (cV τ 24)) := (hk3 _ (by omega)).trans f2_26
  have f3_25 : V3 (25) = mm (rMod 0) (mm (rMod 0) (cV τ 24) (cV τ 24)) (cV τ 24) := ht3.trans (by simp only [f2_24, f2_25])
  have hK3 : ∀ r, r < 25 ∨ 27 < r → V3 r = cV τ r := fun r a0 => (hk3 r (by omega)).trans (hK2 r a0)
  clear f2_22 f2_23 f2_24 f2_8_2_j f2_9_2_j f2_25 f2_26 ht3 hk3 hu2 hK2 hp
  refine lv_aload_n hx hb d_C_findDifferences_57 rfl (lv_at hl 0 rfl) ?_
  refine va_get (ci := 0) (C := R_C) (T := F_C) (N := 7) (v := .ref (cO K 5)) hx hb ht ku_C hown hw.2.1 hw.1 7 rfl rfl 0 (by decide) (ht _ kf_C_30) (fun _ h9 => h9) rfl d_C_findDifferences_58 ?_
  refine lv_aload_n hx hb d_C_findDifferences_61 rfl (lv_at hl 0 rfl) ?_
  refine va_get (ci := 0) (C := R_C) (T := F_C) (N := 7) (v := .ref (cR K 27)) hx hb ht ku_C hown hw.2.1 hw.1 7 rfl rfl 6 (by decide) (ht _ kf_C_27) (fun _ h9 => h9) rfl d_C_findDifferences_62 ?_
  refine lv_aload_n hx hb d_C_findDifferences_65 rfl (lv_at hl 1 rfl) ?_
  refine va_get (ci := 3) (C := R_P) (T := F_P) (N := 3) (v := .ref (cR K (9 + 2 * j))) hx hb ht ku_P hown hw.2.1 hw.1 (8 + j) (cWs_pnt K _ hj) rfl 2 (by decide) (ht _ kf_C_105) (fun _ h9 => h9) rfl d_C_findDifferences_66 ?_
  refine lv_aload_n hx hb d_C_findDifferences_69 rfl (lv_at hl 0 rfl) ?_
  refine va_get (ci := 0) (C := R_C) (T := F_C) (N := 7) (v := .ref (cR K 25)) hx hb ht ku_C hown hw.2.1 hw.1 7 rfl rfl 4 (by decide) (ht _ kf_C_21) (fun _ h9 => h9) rfl d_C_findDifferences_70 ?_
  refine c_cv (np := 3) (As := [.ref (cR K 27), .ref (cR K (9 + 2 * j)), .ref (cR K 25)]) (rest := []) ⟨hx, hb, hml, hown, ht⟩ hw (c_M_multiply l K u3 hu3.2.1 (μ := 0) (o := 27) (a := 9 + 2 * j) (b := 25) (by decide) (by omega) (by omega) (by omega) (by omega) (by omega)) 5 rfl rfl ⟨km_C_44, kv_M_multiply, kx_M_multiply, kc_M_multiply⟩ ki_M (by decide +kernel) ⟨by decide, by decide⟩ rfl rfl rfl hl.1 rfl (Nat.le_of_ble_eq_true rfl) d_C_findDifferences_73 ⟨Nat.le_refl _, Nat.le_refl _⟩ (fun u4 H locs hp hw => ?_)
  obtain ⟨V4, hu4, ht4, hk4⟩ := qc_mul hu3 (by omega) (by omega) hp
  have f4_22 : V4 (22) = cV τ 22 := (hk4 _ (by omega)).trans f3_22
  have f4_23 : V4 (23) = cV τ 23 := (hk4 _ (by omega)).trans f3_23
  have f4_24 : V4 (24) = cV τ 24 := (hk4 _ (by omega)).trans f3_24
  have f4_8_2_j : V4 (8 + 2 * j) = cV τ (8 + 2 * j) := (hk4 _ (by omega)).trans f3_8_2_j
  have f4_9_2_j : V4 (9 + 2 * j) = cV τ (9 + 2 * j) := (hk4 _ (by omega)).trans f3_9_2_j
  have f4_26 : V4 (26) = mm (rMod 0) (cV τ (8 + 2 * j)) (mm (rMod 0) (cV τ 24) (cV τ 24)) := (hk4 _ (by omega)).trans f3_26
  have f4_25 : V4 (25) = mm (rMod 0) (mm (rMod 0) (cV τ 24) (cV τ 24)) (cV τ 24) := (hk4 _ (by omega)).trans f3_25
  have f4_27 : V4 (27) = mm (rMod 0) (cV τ (9 + 2 * j)) (mm (rMod 0) (mm (rMod 0) (cV τ 24) (cV τ 24)) (cV τ 24)) := ht4.trans (by simp only [f3_25, f3_9_2_j])
  have hK4 : ∀ r, r < 25 ∨ 27 < r → V4 r = cV τ r := fun r a0 => (hk4 r (by omega)).trans (hK3 r a0)
  clear f3_22 f3_23 f3_24 f3_8_2_j f3_9_2_j f3_26 f3_25 ht4 hk4 hu3 hK3 hp
  refine lv_aload_n hx hb d_C_findDifferences_76 rfl (lv_at hl 0 rfl) ?_
  refine va_get (ci := 0) (C := R_C) (T := F_C) (N := 7) (v := .ref (cO K 5)) hx hb ht ku_C hown hw.2.1 hw.1 7 rfl rfl 0 (by decide) (ht _ kf_C_30) (fun _ h9 => h9) rfl d_C_findDifferences_77 ?_
  refine lv_aload_n hx hb d_C_findDifferences_80 rfl (lv_at hl 0 rfl) ?_
  refine va_get (ci := 0) (C := R_C) (T := F_C) (N := 7) (v := .ref (cR K 26)) hx hb ht ku_C hown hw.2.1 hw.1 7 rfl rfl 5 (by decide) (ht _ kf_C_24) (fun _ h9 => h9) rfl d_C_findDifferences_81 ?_
  refine lv_aload_n hx hb d_C_findDifferences_84 rfl (lv_at hl 0 rfl) ?_
  refine va_get (ci := 0) (C := R_C) (T := F_C) (N := 7) (v := .ref (cR K 26)) hx hb ht ku_C hown hw.2.1 hw.1 7 rfl rfl 5 (by decide) (ht _ kf_C_24) (fun _ h9 => h9) rfl d_C_findDifferences_85 ?_
  refine lv_aload_n hx hb d_C_findDifferences_88 rfl (lv_at hl 0 rfl) ?_
  refine va_get (ci := 0) (C := R_C) (T := F_C) (N := 7) (v := .ref (cR K 22)) hx hb ht ku_C hown hw.2.1 hw.1 7 rfl rfl 1 (by decide) (ht _ kf_C_9) (fun _ h9 => h9) rfl d_C_findDifferences_89 ?_
  refine c_cv (np := 3) (As := [.ref (cR K 26), .ref (cR K 26), .ref (cR K 22)]) (rest := []) ⟨hx, hb, hml, hown, ht⟩ hw (c_M_subtract l K u4 hu4.2.1 (μ := 0) (o := 26) (a := 26) (b := 22) (by decide) (by omega) (by omega) (by omega) (by omega) (by omega) (by rw [hu4.v (by omega), f4_26]; exact mm_lt (rMod_pos (by decide))) (by rw [hu4.v (by omega), f4_22]; exact hx0)) 5 rfl rfl ⟨km_C_72, kv_M_subtract, kx_M_subtract, kc_M_subtract⟩ ki_M (by decide +kernel) ⟨by decide, by decide⟩ rfl rfl rfl hl.1 rfl (Nat.le_of_ble_eq_true rfl) d_C_findDifferences_92 ⟨Nat.le_refl _, Nat.le_refl _⟩ (fun u5 H locs hp hw => ?_)
  obtain ⟨V5, hu5, ht5, hk5⟩ := qc_ss (by decide) hu4 (by omega) (by omega) (by omega) hp
  have f5_22 : V5 (22) = cV τ 22 := (hk5 _ (by omega)).trans f4_22
  have f5_23 : V5 (23) = cV τ 23 := (hk5 _ (by omega)).trans f4_23
  have f5_24 : V5 (24) = cV τ 24 := (hk5 _ (by omega)).trans f4_24
  have f5_8_2_j : V5 (8 + 2 * j) = cV τ (8 + 2 * j) := (hk5 _ (by omega)).trans f4_8_2_j
  have f5_9_2_j : V5 (9 + 2 * j) = cV τ (9 + 2 * j) := (hk5 _ (by omega)).trans f4_9_2_j
  have f5_25 : V5 (25) = mm (rMod 0) (mm (rMod 0) (cV τ 24) (cV τ 24)) (cV τ 24) := (hk5 _ (by omega)).trans f4_25
  have f5_27 : V5 (27) = mm (rMod 0) (cV τ (9 + 2 * j)) (mm (rMod 0) (mm (rMod 0) (cV τ 24) (cV τ 24)) (cV τ 24)) := (hk5 _ (by omega)).trans f4_27
  have f5_26 : V5 (26) = ss (rMod 0) (mm (rMod 0) (cV τ (8 + 2 * j)) (mm (rMod 0) (cV τ 24) (cV τ 24))) (cV τ 22) := ht5.trans (by simp only [f4_22, f4_26])
  have hK5 : ∀ r, r < 25 ∨ 27 < r → V5 r = cV τ r := fun r a0 => (hk5 r (by omega)).trans (hK4 r a0)
  clear f4_22 f4_23 f4_24 f4_8_2_j f4_9_2_j f4_26 f4_25 f4_27 ht5 hk5 hu4 hK4 hp
  refine lv_aload_n hx hb d_C_findDifferences_95 rfl (lv_at hl 0 rfl) ?_
  refine va_get (ci := 0) (C := R_C) (T := F_C) (N := 7) (v := .ref (cO K 5)) hx hb ht ku_C hown hw.2.1 hw.1 7 rfl rfl 0 (by decide) (ht _ kf_C_30) (fun _ h9 => h9) rfl d_C_findDifferences_96 ?_
  refine lv_aload_n hx hb d_C_findDifferences_99 rfl (lv_at hl 0 rfl) ?_
  refine va_get (ci := 0) (C := R_C) (T := F_C) (N := 7) (v := .ref (cR K 27)) hx hb ht ku_C hown hw.2.1 hw.1 7 rfl rfl 6 (by decide) (ht _ kf_C_27) (fun _ h9 => h9) rfl d_C_findDifferences_100 ?_
  refine lv_aload_n hx hb d_C_findDifferences_103 rfl (lv_at hl 0 rfl) ?_
  refine va_get (ci := 0) (C := R_C) (T := F_C) (N := 7) (v := .ref (cR K 27)) hx hb ht ku_C hown hw.2.1 hw.1 7 rfl rfl 6 (by decide) (ht _ kf_C_27) (fun _ h9 => h9) rfl d_C_findDifferences_104 ?_
  refine lv_aload_n hx hb d_C_findDifferences_107 rfl (lv_at hl 0 rfl) ?_
  refine va_get (ci := 0) (C := R_C) (T := F_C) (N := 7) (v := .ref (cR K 23)) hx hb ht ku_C hown hw.2.1 hw.1 7 rfl rfl 2 (by decide) (ht _ kf_C_15) (fun _ h9 => h9) rfl d_C_findDifferences_108 ?_
  refine c_cv (np := 3) (As := [.ref (cR K 27), .ref (cR K 27), .ref (cR K 23)]) (rest := []) ⟨hx, hb, hml, hown, ht⟩ hw (c_M_subtract l K u5 hu5.2.1 (μ := 0) (o := 27) (a := 27) (b := 23) (by decide) (by omega) (by omega) (by omega) (by omega) (by omega) (by rw [hu5.v (by omega), f5_27]; exact mm_lt (rMod_pos (by decide))) (by rw [hu5.v (by omega), f5_23]; exact hy0)) 5 rfl rfl ⟨km_C_72, kv_M_subtract, kx_M_subtract, kc_M_subtract⟩ ki_M (by decide +kernel) ⟨by decide, by decide⟩ rfl rfl rfl hl.1 rfl (Nat.le_of_ble_eq_true rfl) d_C_findDifferences_111 ⟨Nat.le_refl _, Nat.le_refl _⟩ (fun u6 H locs hp hw => ?_)
  obtain ⟨V6, hu6, ht6, hk6⟩ := qc_ss (by decide) hu5 (by omega) (by omega) (by omega) hp
  have f6_22 : V6 (22) = cV τ 22 := (hk6 _ (by omega)).trans f5_22
  have f6_23 : V6 (23) = cV τ 23 := (hk6 _ (by omega)).trans f5_23
  have f6_24 : V6 (24) = cV τ 24 := (hk6 _ (by omega)).trans f5_24
  have f6_8_2_j : V6 (8 + 2 * j) = cV τ (8 + 2 * j) := (hk6 _ (by omega)).trans f5_8_2_j
  have f6_9_2_j : V6 (9 + 2 * j) = cV τ (9 + 2 * j) := (hk6 _ (by omega)).trans f5_9_2_j
  have f6_25 : V6 (25) = mm (rMod 0) (mm (rMod 0) (cV τ 24) (cV τ 24)) (cV τ 24) := (hk6 _ (by omega)).trans f5_25
  have f6_26 : V6 (26) = ss (rMod 0) (mm (rMod 0) (cV τ (8 + 2 * j)) (mm (rMod 0) (cV τ 24) (cV τ 24))) (cV τ 22) := (hk6 _ (by omega)).trans f5_26
  have f6_27 : V6 (27) = ss (rMod 0) (mm (rMod 0) (cV τ (9 + 2 * j)) (mm (rMod 0) (mm (rMod 0) (cV τ 24) (cV τ 24)) (cV τ 24))) (cV τ 23) := ht6.trans (by simp only [f5_23, f5_27])
  have hK6 : ∀ r, r < 25 ∨ 27 < r → V6 r = cV τ r := fun r a0 => (hk6 r (by omega)).trans (hK5 r a0)
  clear f5_22 f5_23 f5_24 f5_8_2_j f5_9_2_j f5_25 f5_27 f5_26 ht6 hk6 hu5 hK5 hp
  exact z_vret (cZ K) hx hb hr hlocks u6 hw ⟨V6, hu6, f6_26, f6_27, hK6⟩ d_C_findDifferences_114
set_option maxHeartbeats 4000000 in
set_option maxRecDepth 100000 in
theorem c_C_moveAlongLine (l : Launch) (K : cG) (τ : cT) (hok : cOk τ) (hx0 : cV τ 22 < rMod 0) (hy0 : cV τ 23 < rMod 0) (hb0 : cV τ 26 < rMod 0) (hc0 : cV τ 27 < rMod 0) : Met l y_C_moveAlongLine (zW y_C_moveAlongLine b_C_moveAlongLine 1 none) (zr 4 88) (va_Pc [.ref (cO K 7)] (cC K τ)) (va_Qv (fun u => ∃ V, cU τ V u ∧ V 22 = cmX (rMod 0) (cV τ 22) (cV τ 26) (cV τ 27) ∧ V 23 = cmY (rMod 0) (cV τ 22) (cV τ 23) (cV τ 26) (cV τ 27) ∧ V 24 = mm (rMod 0) (cV τ 24) (cV τ 26) ∧ ∀ r, r < 22 ∨ 27 < r → V r = cV τ r) (fun u => cC K u) (cAA K)) 0 0 (cAA K) := by
  refine Met.ofW (cc := b_C_moveAlongLine) (maxL := 1) (ret := none) (by decide) rfl ?_
  intro p e s m args below meth c s₁ B hml hv
  obtain ⟨rfl, hw⟩ := hv
  have hx := B.exec
  have hb := B.bytes
  have hr := B.returns
  have hts := atoms_spec (ws := zW y_C_moveAlongLine b_C_moveAlongLine 1 none) B.pre
  have ht : ∀ w ∈ zT, w.before ([.ref (cO K 7)] : List Value).toArray s = true := fun w h => hts w (List.mem_cons_of_mem _ h)
  have hown : s.vm.findClass R_C = some m.cls := findClass_of_methodNamed B.named
  have hlocks := B.notSynchronized
  have hl := lv_entry ([.ref (cO K 7)]) (n := 1) (Nat.le_of_ble_eq_true rfl)
  rw [lg_entry_eq]
  generalize (lg_sl ([.ref (cO K 7)]) ++ List.replicate (1 - (lg_sl ([.ref (cO K 7)])).length) Slot.unset).toArray = ls at hl ⊢
  have hl : lv_has ls 1 [(0, .ref (cO K 7))] := hl
  obtain ⟨V0, u0, hV0, hu0, hw⟩ : ∃ (V : Nat → Nat) (u : cT), V = cV τ ∧ cU τ V u ∧ cH K u s s.heap [] := ⟨cV τ, τ, rfl, cU.refl hok, hw⟩
  have hK0 : ∀ r, r < 22 ∨ 27 < r → V0 r = cV τ r := fun r _ => by rw [hV0]
  have f0_22 : V0 (22) = cV τ 22 := by rw [hV0]
  have f0_23 : V0 (23) = cV τ 23 := by rw [hV0]
  have f0_24 : V0 (24) = cV τ 24 := by rw [hV0]
  have f0_26 : V0 (26) = cV τ 26 := by rw [hV0]
  have f0_27 : V0 (27) = cV τ 27 := by rw [hV0]
  refine lv_aload_n hx hb d_C_moveAlongLine_0 rfl (lv_at hl 0 rfl) ?_
  refine va_get (ci := 0) (C := R_C) (T := F_C) (N := 7) (v := .ref (cO K 5)) hx hb ht ku_C hown hw.2.1 hw.1 7 rfl rfl 0 (by decide) (ht _ kf_C_30) (fun _ h9 => h9) rfl d_C_moveAlongLine_1 ?_
  refine lv_aload_n hx hb d_C_moveAlongLine_4 rfl (lv_at hl 0 rfl) ?_
  refine va_get (ci := 0) (C := R_C) (T := F_C) (N := 7) (v := .ref (cR K 24)) hx hb ht ku_C hown hw.2.1 hw.1 7 rfl rfl 3 (by decide) (ht _ kf_C_18) (fun _ h9 => h9) rfl d_C_moveAlongLine_5 ?_
  refine lv_aload_n hx hb d_C_moveAlongLine_8 rfl (lv_at hl 0 rfl) ?_
  refine va_get (ci := 0) (C := R_C) (T := F_C) (N := 7) (v := .ref (cR K 24)) hx hb ht ku_C hown hw.2.1 hw.1 7 rfl rfl 3 (by decide) (ht _ kf_C_18) (fun _ h9 => h9) rfl d_C_moveAlongLine_9 ?_
  refine lv_aload_n hx hb d_C_moveAlongLine_12 rfl (lv_at hl 0 rfl) ?_
  refine va_get (ci := 0) (C := R_C) (T := F_C) (N := 7) (v := .ref (cR K 26)) hx hb ht ku_C hown hw.2.1 hw.1 7 rfl rfl 5 (by decide) (ht _ kf_C_24) (fun _ h9 => h9) rfl d_C_moveAlongLine_13 ?_
  refine c_cv (np := 3) (As := [.ref (cR K 24), .ref (cR K 24), .ref (cR K 26)]) (rest := []) ⟨hx, hb, hml, hown, ht⟩ hw (c_M_multiply l K u0 hu0.2.1 (μ := 0) (o := 24) (a := 24) (b := 26) (by decide) (by omega) (by omega) (by omega) (by omega) (by omega)) 5 rfl rfl ⟨km_C_44, kv_M_multiply, kx_M_multiply, kc_M_multiply⟩ ki_M (by decide +kernel) ⟨by decide, by decide⟩ rfl rfl rfl hl.1 rfl (Nat.le_of_ble_eq_true rfl) d_C_moveAlongLine_16 ⟨Nat.le_refl _, Nat.le_refl _⟩ (fun u1 H locs hp hw => ?_)
  obtain ⟨V1, hu1, ht1, hk1⟩ := qc_mul hu0 (by omega) (by omega) hp
  have f1_22 : V1 (22) = cV τ 22 := (hk1 _ (by omega)).trans f0_22
  have f1_23 : V1 (23) = cV τ 23 := (hk1 _ (by omega)).trans f0_23
  have f1_26 : V1 (26) = cV τ 26 := (hk1 _ (by omega)).trans f0_26
  have f1_27 : V1 (27) = cV τ 27 := (hk1 _ (by omega)).trans f0_27
  have f1_24 : V1 (24) = mm (rMod 0) (cV τ 24) (cV τ 26) := ht1.trans (by simp only [f0_24, f0_26])
  have hK1 : ∀ r, r < 22 ∨ 27 < r → V1 r = cV τ r := fun r a0 => (hk1 r (by omega)).trans (hK0 r a0)
  clear f0_22 f0_23 f0_24 f0_26 f0_27 ht1 hk1 hu0 hK0 hp
  refine lv_aload_n hx hb d_C_moveAlongLine_19 rfl (lv_at hl 0 rfl) ?_
  refine va_get (ci := 0) (C := R_C) (T := F_C) (N := 7) (v := .ref (cO K 5)) hx hb ht ku_C hown hw.2.1 hw.1 7 rfl rfl 0 (by decide) (ht _ kf_C_30) (fun _ h9 => h9) rfl d_C_moveAlongLine_20 ?_
  refine lv_aload_n hx hb d_C_moveAlongLine_23 rfl (lv_at hl 0 rfl) ?_
  refine va_get (ci := 0) (C := R_C) (T := F_C) (N := 7) (v := .ref (cR K 25)) hx hb ht ku_C hown hw.2.1 hw.1 7 rfl rfl 4 (by decide) (ht _ kf_C_21) (fun _ h9 => h9) rfl d_C_moveAlongLine_24 ?_
  refine lv_aload_n hx hb d_C_moveAlongLine_27 rfl (lv_at hl 0 rfl) ?_
  refine va_get (ci := 0) (C := R_C) (T := F_C) (N := 7) (v := .ref (cR K 26)) hx hb ht ku_C hown hw.2.1 hw.1 7 rfl rfl 5 (by decide) (ht _ kf_C_24) (fun _ h9 => h9) rfl d_C_moveAlongLine_28 ?_
  refine lv_aload_n hx hb d_C_moveAlongLine_31 rfl (lv_at hl 0 rfl) ?_
  refine va_get (ci := 0) (C := R_C) (T := F_C) (N := 7) (v := .ref (cR K 26)) hx hb ht ku_C hown hw.2.1 hw.1 7 rfl rfl 5 (by decide) (ht _ kf_C_24) (fun _ h9 => h9) rfl d_C_moveAlongLine_32 ?_
  refine c_cv (np := 3) (As := [.ref (cR K 25), .ref (cR K 26), .ref (cR K 26)]) (rest := []) ⟨hx, hb, hml, hown, ht⟩ hw (c_M_multiply l K u1 hu1.2.1 (μ := 0) (o := 25) (a := 26) (b := 26) (by decide) (by omega) (by omega) (by omega) (by omega) (by omega)) 5 rfl rfl ⟨km_C_44, kv_M_multiply, kx_M_multiply, kc_M_multiply⟩ ki_M (by decide +kernel) ⟨by decide, by decide⟩ rfl rfl rfl hl.1 rfl (Nat.le_of_ble_eq_true rfl) d_C_moveAlongLine_35 ⟨Nat.le_refl _, Nat.le_refl _⟩ (fun u2 H locs hp hw => ?_)
  obtain ⟨V2, hu2, ht2, hk2⟩ := qc_mul hu1 (by omega) (by omega) hp
  have f2_22 : V2 (22) = cV τ 22 := (hk2 _ (by omega)).trans f1_22
  have f2_23 : V2 (23) = cV τ 23 := (hk2 _ (by omega)).trans f1_23
  have f2_26 : V2 (26) = cV τ 26 := (hk2 _ (by omega)).trans f1_26
  have f2_27 : V2 (27) = cV τ 27 := (hk2 _ (by omega)).trans f1_27
  have f2_24 : V2 (24) = mm (rMod 0) (cV τ 24) (cV τ 26) := (hk2 _ (by omega)).trans f1_24
  have f2_25 : V2 (25) = mm (rMod 0) (cV τ 26) (cV τ 26) := ht2.trans (by simp only [f1_26])
  have hK2 : ∀ r, r < 22 ∨ 27 < r → V2 r = cV τ r := fun r a0 => (hk2 r (by omega)).trans (hK1 r a0)
  clear f1_22 f1_23 f1_26 f1_27 f1_24 ht2 hk2 hu1 hK1 hp
  refine lv_aload_n hx hb d_C_moveAlongLine_38 rfl (lv_at hl 0 rfl) ?_
  refine va_get (ci := 0) (C := R_C) (T := F_C) (N := 7) (v := .ref (cO K 5)) hx hb ht ku_C hown hw.2.1 hw.1 7 rfl rfl 0 (by decide) (ht _ kf_C_30) (fun _ h9 => h9) rfl d_C_moveAlongLine_39 ?_
  refine lv_aload_n hx hb d_C_moveAlongLine_42 rfl (lv_at hl 0 rfl) ?_
  refine va_get (ci := 0) (C := R_C) (T := F_C) (N := 7) (v := .ref (cR K 26)) hx hb ht ku_C hown hw.2.1 hw.1 7 rfl rfl 5 (by decide) (ht _ kf_C_24) (fun _ h9 => h9) rfl d_C_moveAlongLine_43 ?_
  refine lv_aload_n hx hb d_C_moveAlongLine_46 rfl (lv_at hl 0 rfl) ?_
  refine va_get (ci := 0) (C := R_C) (T := F_C) (N := 7) (v := .ref (cR K 25)) hx hb ht ku_C hown hw.2.1 hw.1 7 rfl rfl 4 (by decide) (ht _ kf_C_21) (fun _ h9 => h9) rfl d_C_moveAlongLine_47 ?_
  refine lv_aload_n hx hb d_C_moveAlongLine_50 rfl (lv_at hl 0 rfl) ?_
  refine va_get (ci := 0) (C := R_C) (T := F_C) (N := 7) (v := .ref (cR K 26)) hx hb ht ku_C hown hw.2.1 hw.1 7 rfl rfl 5 (by decide) (ht _ kf_C_24) (fun _ h9 => h9) rfl d_C_moveAlongLine_51 ?_
  refine c_cv (np := 3) (As := [.ref (cR K 26), .ref (cR K 25), .ref (cR K 26)]) (rest := []) ⟨hx, hb, hml, hown, ht⟩ hw (c_M_multiply l K u2 hu2.2.1 (μ := 0) (o := 26) (a := 25) (b := 26) (by decide) (by omega) (by omega) (by omega) (by omega) (by omega)) 5 rfl rfl ⟨km_C_44, kv_M_multiply, kx_M_multiply, kc_M_multiply⟩ ki_M (by decide +kernel) ⟨by decide, by decide⟩ rfl rfl rfl hl.1 rfl (Nat.le_of_ble_eq_true rfl) d_C_moveAlongLine_54 ⟨Nat.le_refl _, Nat.le_refl _⟩ (fun u3 H locs hp hw => ?_)
  obtain ⟨V3, hu3, ht3, hk3⟩ := qc_mul hu2 (by omega) (by omega) hp
  have f3_22 : V3 (22) = cV τ 22 := (hk3 _ (by omega)).trans f2_22
  have f3_23 : V3 (23) = cV τ 23 := (hk3 _ (by omega)).trans f2_23
  have f3_27 : V3 (27) = cV τ 27 := (hk3 _ (by omega)).trans f2_27
  have f3_24 : V3 (24) = mm (rMod 0) (cV τ 24) (cV τ 26) := (hk3 _ (by omega)).trans f2_24
  have f3_25 : V3 (25) = mm (rMod 0) (cV τ 26) (cV τ 26) := (hk3 _ (by omega)).trans f2_25
  have f3_26 : V3 (26) = mm (rMod 0) (mm (rMod 0) (cV τ 26) (cV τ 26)) (cV τ 26) := ht3.trans (by simp only [f2_25, f2_26])
  have hK3 : ∀ r, r < 22 ∨ 27 < r → V3 r = cV τ r := fun r a0 => (hk3 r (by omega)).trans (hK2 r a0)
  clear f2_22 f2_23 f2_26 f2_27 f2_24 f2_25 ht3 hk3 hu2 hK2 hp
  refine lv_aload_n hx hb d_C_moveAlongLine_57 rfl (lv_at hl 0 rfl) ?_
  refine va_get (ci := 0) (C := R_C) (T := F_C) (N := 7) (v := .ref (cO K 5)) hx hb ht ku_C hown hw.2.1 hw.1 7 rfl rfl 0 (by decide) (ht _ kf_C_30) (fun _ h9 => h9) rfl d_C_moveAlongLine_58 ?_
  refine lv_aload_n hx hb d_C_moveAlongLine_61 rfl (lv_at hl 0 rfl) ?_
  refine va_get (ci := 0) (C := R_C) (T := F_C) (N := 7) (v := .ref (cR K 25)) hx hb ht ku_C hown hw.2.1 hw.1 7 rfl rfl 4 (by decide) (ht _ kf_C_21) (fun _ h9 => h9) rfl d_C_moveAlongLine_62 ?_
  refine lv_aload_n hx hb d_C_moveAlongLine_65 rfl (lv_at hl 0 rfl) ?_
  refine va_get (ci := 0) (C := R_C) (T := F_C) (N := 7) (v := .ref (cR K 25)) hx hb ht ku_C hown hw.2.1 hw.1 7 rfl rfl 4 (by decide) (ht _ kf_C_21) (fun _ h9 => h9) rfl d_C_moveAlongLine_66 ?_
  refine lv_aload_n hx hb d_C_moveAlongLine_69 rfl (lv_at hl 0 rfl) ?_
  refine va_get (ci := 0) (C := R_C) (T := F_C) (N := 7) (v := .ref (cR K 22)) hx hb ht ku_C hown hw.2.1 hw.1 7 rfl rfl 1 (by decide) (ht _ kf_C_9) (fun _ h9 => h9) rfl d_C_moveAlongLine_70 ?_
  refine c_cv (np := 3) (As := [.ref (cR K 25), .ref (cR K 25), .ref (cR K 22)]) (rest := []) ⟨hx, hb, hml, hown, ht⟩ hw (c_M_multiply l K u3 hu3.2.1 (μ := 0) (o := 25) (a := 25) (b := 22) (by decide) (by omega) (by omega) (by omega) (by omega) (by omega)) 5 rfl rfl ⟨km_C_44, kv_M_multiply, kx_M_multiply, kc_M_multiply⟩ ki_M (by decide +kernel) ⟨by decide, by decide⟩ rfl rfl rfl hl.1 rfl (Nat.le_of_ble_eq_true rfl) d_C_moveAlongLine_73 ⟨Nat.le_refl _, Nat.le_refl _⟩ (fun u4 H locs hp hw => ?_)
  obtain ⟨V4, hu4, ht4, hk4⟩ := qc_mul hu3 (by omega) (by omega) hp
  have f4_22 : V4 (22) = cV τ 22 := (hk4 _ (by omega)).trans f3_22
  have f4_23 : V4 (23) = cV τ 23 := (hk4 _ (by omega)).trans f3_23
  have f4_27 : V4 (27) = cV τ 27 := (hk4 _ (by omega)).trans f3_27
  have f4_24 : V4 (24) = mm (rMod 0) (cV τ 24) (cV τ 26) := (hk4 _ (by omega)).trans f3_24
  have f4_26 : V4 (26) = mm (rMod 0) (mm (rMod 0) (cV τ 26) (cV τ 26)) (cV τ 26) := (hk4 _ (by omega)).trans f3_26
  have f4_25 : V4 (25) = mm (rMod 0) (mm (rMod 0) (cV τ 26) (cV τ 26)) (cV τ 22) := ht4.trans (by simp only [f3_22, f3_25])
  have hK4 : ∀ r, r < 22 ∨ 27 < r → V4 r = cV τ r := fun r a0 => (hk4 r (by omega)).trans (hK3 r a0)
  clear f3_22 f3_23 f3_27 f3_24 f3_25 f3_26 ht4 hk4 hu3 hK3 hp
  refine lv_aload_n hx hb d_C_moveAlongLine_76 rfl (lv_at hl 0 rfl) ?_
  refine va_get (ci := 0) (C := R_C) (T := F_C) (N := 7) (v := .ref (cO K 5)) hx hb ht ku_C hown hw.2.1 hw.1 7 rfl rfl 0 (by decide) (ht _ kf_C_30) (fun _ h9 => h9) rfl d_C_moveAlongLine_77 ?_
  refine lv_aload_n hx hb d_C_moveAlongLine_80 rfl (lv_at hl 0 rfl) ?_
  refine va_get (ci := 0) (C := R_C) (T := F_C) (N := 7) (v := .ref (cR K 22)) hx hb ht ku_C hown hw.2.1 hw.1 7 rfl rfl 1 (by decide) (ht _ kf_C_9) (fun _ h9 => h9) rfl d_C_moveAlongLine_81 ?_
  refine lv_aload_n hx hb d_C_moveAlongLine_84 rfl (lv_at hl 0 rfl) ?_
  refine va_get (ci := 0) (C := R_C) (T := F_C) (N := 7) (v := .ref (cR K 27)) hx hb ht ku_C hown hw.2.1 hw.1 7 rfl rfl 6 (by decide) (ht _ kf_C_27) (fun _ h9 => h9) rfl d_C_moveAlongLine_85 ?_
  refine lv_aload_n hx hb d_C_moveAlongLine_88 rfl (lv_at hl 0 rfl) ?_
  refine va_get (ci := 0) (C := R_C) (T := F_C) (N := 7) (v := .ref (cR K 27)) hx hb ht ku_C hown hw.2.1 hw.1 7 rfl rfl 6 (by decide) (ht _ kf_C_27) (fun _ h9 => h9) rfl d_C_moveAlongLine_89 ?_
  refine c_cv (np := 3) (As := [.ref (cR K 22), .ref (cR K 27), .ref (cR K 27)]) (rest := []) ⟨hx, hb, hml, hown, ht⟩ hw (c_M_multiply l K u4 hu4.2.1 (μ := 0) (o := 22) (a := 27) (b := 27) (by decide) (by omega) (by omega) (by omega) (by omega) (by omega)) 5 rfl rfl ⟨km_C_44, kv_M_multiply, kx_M_multiply, kc_M_multiply⟩ ki_M (by decide +kernel) ⟨by decide, by decide⟩ rfl rfl rfl hl.1 rfl (Nat.le_of_ble_eq_true rfl) d_C_moveAlongLine_92 ⟨Nat.le_refl _, Nat.le_refl _⟩ (fun u5 H locs hp hw => ?_)
  obtain ⟨V5, hu5, ht5, hk5⟩ := qc_mul hu4 (by omega) (by omega) hp
  have f5_23 : V5 (23) = cV τ 23 := (hk5 _ (by omega)).trans f4_23
  have f5_27 : V5 (27) = cV τ 27 := (hk5 _ (by omega)).trans f4_27
  have f5_24 : V5 (24) = mm (rMod 0) (cV τ 24) (cV τ 26) := (hk5 _ (by omega)).trans f4_24
  have f5_26 : V5 (26) = mm (rMod 0) (mm (rMod 0) (cV τ 26) (cV τ 26)) (cV τ 26) := (hk5 _ (by omega)).trans f4_26
  have f5_25 : V5 (25) = mm (rMod 0) (mm (rMod 0) (cV τ 26) (cV τ 26)) (cV τ 22) := (hk5 _ (by omega)).trans f4_25
  have f5_22 : V5 (22) = mm (rMod 0) (cV τ 27) (cV τ 27) := ht5.trans (by simp only [f4_27])
  have hK5 : ∀ r, r < 22 ∨ 27 < r → V5 r = cV τ r := fun r a0 => (hk5 r (by omega)).trans (hK4 r a0)
  clear f4_22 f4_23 f4_27 f4_24 f4_26 f4_25 ht5 hk5 hu4 hK4 hp
  refine lv_aload_n hx hb d_C_moveAlongLine_95 rfl (lv_at hl 0 rfl) ?_
  refine va_get (ci := 0) (C := R_C) (T := F_C) (N := 7) (v := .ref (cO K 5)) hx hb ht ku_C hown hw.2.1 hw.1 7 rfl rfl 0 (by decide) (ht _ kf_C_30) (fun _ h9 => h9) rfl d_C_moveAlongLine_96 ?_
  refine lv_aload_n hx hb d_C_moveAlongLine_99 rfl (lv_at hl 0 rfl) ?_
  refine va_get (ci := 0) (C := R_C) (T := F_C) (N := 7) (v := .ref (cR K 22)) hx hb ht ku_C hown hw.2.1 hw.1 7 rfl rfl 1 (by decide) (ht _ kf_C_9) (fun _ h9 => h9) rfl d_C_moveAlongLine_100 ?_
  refine lv_aload_n hx hb d_C_moveAlongLine_103 rfl (lv_at hl 0 rfl) ?_
  refine va_get (ci := 0) (C := R_C) (T := F_C) (N := 7) (v := .ref (cR K 22)) hx hb ht ku_C hown hw.2.1 hw.1 7 rfl rfl 1 (by decide) (ht _ kf_C_9) (fun _ h9 => h9) rfl d_C_moveAlongLine_104 ?_
  refine lv_aload_n hx hb d_C_moveAlongLine_107 rfl (lv_at hl 0 rfl) ?_
  refine va_get (ci := 0) (C := R_C) (T := F_C) (N := 7) (v := .ref (cR K 26)) hx hb ht ku_C hown hw.2.1 hw.1 7 rfl rfl 5 (by decide) (ht _ kf_C_24) (fun _ h9 => h9) rfl d_C_moveAlongLine_108 ?_
  refine c_cv (np := 3) (As := [.ref (cR K 22), .ref (cR K 22), .ref (cR K 26)]) (rest := []) ⟨hx, hb, hml, hown, ht⟩ hw (c_M_subtract l K u5 hu5.2.1 (μ := 0) (o := 22) (a := 22) (b := 26) (by decide) (by omega) (by omega) (by omega) (by omega) (by omega) (by rw [hu5.v (by omega), f5_22]; exact mm_lt (rMod_pos (by decide))) (by rw [hu5.v (by omega), f5_26]; exact mm_lt (rMod_pos (by decide)))) 5 rfl rfl ⟨km_C_72, kv_M_subtract, kx_M_subtract, kc_M_subtract⟩ ki_M (by decide +kernel) ⟨by decide, by decide⟩ rfl rfl rfl hl.1 rfl (Nat.le_of_ble_eq_true rfl) d_C_moveAlongLine_111 ⟨Nat.le_refl _, Nat.le_refl _⟩ (fun u6 H locs hp hw => ?_)
  obtain ⟨V6, hu6, ht6, hk6⟩ := qc_ss (by decide) hu5 (by omega) (by omega) (by omega) hp
  have f6_23 : V6 (23) = cV τ 23 := (hk6 _ (by omega)).trans f5_23
  have f6_27 : V6 (27) = cV τ 27 := (hk6 _ (by omega)).trans f5_27
  have f6_24 : V6 (24) = mm (rMod 0) (cV τ 24) (cV τ 26) := (hk6 _ (by omega)).trans f5_24
  have f6_26 : V6 (26) = mm (rMod 0) (mm (rMod 0) (cV τ 26) (cV τ 26)) (cV τ 26) := (hk6 _ (by omega)).trans f5_26
  have f6_25 : V6 (25) = mm (rMod 0) (mm (rMod 0) (cV τ 26) (cV τ 26)) (cV τ 22) := (hk6 _ (by omega)).trans f5_25
  have f6_22 : V6 (22) = ss (rMod 0) (mm (rMod 0) (cV τ 27) (cV τ 27)) (mm (rMod 0) (mm (rMod 0) (cV τ 26) (cV τ 26)) (cV τ 26)) := ht6.trans (by simp only [f5_22, f5_26])
  have hK6 : ∀ r, r < 22 ∨ 27 < r → V6 r = cV τ r := fun r a0 => (hk6 r (by omega)).trans (hK5 r a0)
  clear f5_23 f5_27 f5_24 f5_26 f5_25 f5_22 ht6 hk6 hu5 hK5 hp
  refine lv_aload_n hx hb d_C_moveAlongLine_114 rfl (lv_at hl 0 rfl) ?_
  refine va_get (ci := 0) (C := R_C) (T := F_C) (N := 7) (v := .ref (cO K 5)) hx hb ht ku_C hown hw.2.1 hw.1 7 rfl rfl 0 (by decide) (ht _ kf_C_30) (fun _ h9 => h9) rfl d_C_moveAlongLine_115 ?_
  refine lv_aload_n hx hb d_C_moveAlongLine_118 rfl (lv_at hl 0 rfl) ?_
  refine va_get (ci := 0) (C := R_C) (T := F_C) (N := 7) (v := .ref (cR K 22)) hx hb ht ku_C hown hw.2.1 hw.1 7 rfl rfl 1 (by decide) (ht _ kf_C_9) (fun _ h9 => h9) rfl d_C_moveAlongLine_119 ?_
  refine lv_aload_n hx hb d_C_moveAlongLine_122 rfl (lv_at hl 0 rfl) ?_
  refine va_get (ci := 0) (C := R_C) (T := F_C) (N := 7) (v := .ref (cR K 22)) hx hb ht ku_C hown hw.2.1 hw.1 7 rfl rfl 1 (by decide) (ht _ kf_C_9) (fun _ h9 => h9) rfl d_C_moveAlongLine_123 ?_
  refine lv_aload_n hx hb d_C_moveAlongLine_126 rfl (lv_at hl 0 rfl) ?_
  refine va_get (ci := 0) (C := R_C) (T := F_C) (N := 7) (v := .ref (cR K 25)) hx hb ht ku_C hown hw.2.1 hw.1 7 rfl rfl 4 (by decide) (ht _ kf_C_21) (fun _ h9 => h9) rfl d_C_moveAlongLine_127 ?_
  refine c_cv (np := 3) (As := [.ref (cR K 22), .ref (cR K 22), .ref (cR K 25)]) (rest := []) ⟨hx, hb, hml, hown, ht⟩ hw (c_M_subtract l K u6 hu6.2.1 (μ := 0) (o := 22) (a := 22) (b := 25) (by decide) (by omega) (by omega) (by omega) (by omega) (by omega) (by rw [hu6.v (by omega), f6_22]; exact ss_lt (rMod_pos (by decide))) (by rw [hu6.v (by omega), f6_25]; exact mm_lt (rMod_pos (by decide)))) 5 rfl rfl ⟨km_C_72, kv_M_subtract, kx_M_subtract, kc_M_subtract⟩ ki_M (by decide +kernel) ⟨by decide, by decide⟩ rfl rfl rfl hl.1 rfl (Nat.le_of_ble_eq_true rfl) d_C_moveAlongLine_130 ⟨Nat.le_refl _, Nat.le_refl _⟩ (fun u7 H locs hp hw => ?_)
  obtain ⟨V7, hu7, ht7, hk7⟩ := qc_ss (by decide) hu6 (by omega) (by omega) (by omega) hp
  have f7_23 : V7 (23) = cV τ 23 := (hk7 _ (by omega)).trans f6_23
  have f7_27 : V7 (27) = cV τ 27 := (hk7 _ (by omega)).trans f6_27
  have f7_24 : V7 (24) = mm (rMod 0) (cV τ 24) (cV τ 26) := (hk7 _ (by omega)).trans f6_24
  have f7_26 : V7 (26) = mm (rMod 0) (mm (rMod 0) (cV τ 26) (cV τ 26)) (cV τ 26) := (hk7 _ (by omega)).trans f6_26
  have f7_25 : V7 (25) = mm (rMod 0) (mm (rMod 0) (cV τ 26) (cV τ 26)) (cV τ 22) := (hk7 _ (by omega)).trans f6_25
  have f7_22 : V7 (22) = ss (rMod 0) (ss (rMod 0) (mm (rMod 0) (cV τ 27) (cV τ 27)) (mm (rMod 0) (mm (rMod 0) (cV τ 26) (cV τ 26)) (cV τ 26))) (mm (rMod 0) (mm (rMod 0) (cV τ 26) (cV τ 26)) (cV τ 22)) := ht7.trans (by simp only [f6_22, f6_25])
  have hK7 : ∀ r, r < 22 ∨ 27 < r → V7 r = cV τ r := fun r a0 => (hk7 r (by omega)).trans (hK6 r a0)
  clear f6_23 f6_27 f6_24 f6_26 f6_25 f6_22 ht7 hk7 hu6 hK6 hp
  refine lv_aload_n hx hb d_C_moveAlongLine_133 rfl (lv_at hl 0 rfl) ?_
  refine va_get (ci := 0) (C := R_C) (T := F_C) (N := 7) (v := .ref (cO K 5)) hx hb ht ku_C hown hw.2.1 hw.1 7 rfl rfl 0 (by decide) (ht _ kf_C_30) (fun _ h9 => h9) rfl d_C_moveAlongLine_134 ?_
  refine lv_aload_n hx hb d_C_moveAlongLine_137 rfl (lv_at hl 0 rfl) ?_
  refine va_get (ci := 0) (C := R_C) (T := F_C) (N := 7) (v := .ref (cR K 22)) hx hb ht ku_C hown hw.2.1 hw.1 7 rfl rfl 1 (by decide) (ht _ kf_C_9) (fun _ h9 => h9) rfl d_C_moveAlongLine_138 ?_
  refine lv_aload_n hx hb d_C_moveAlongLine_141 rfl (lv_at hl 0 rfl) ?_
  refine va_get (ci := 0) (C := R_C) (T := F_C) (N := 7) (v := .ref (cR K 22)) hx hb ht ku_C hown hw.2.1 hw.1 7 rfl rfl 1 (by decide) (ht _ kf_C_9) (fun _ h9 => h9) rfl d_C_moveAlongLine_142 ?_
  refine lv_aload_n hx hb d_C_moveAlongLine_145 rfl (lv_at hl 0 rfl) ?_
  refine va_get (ci := 0) (C := R_C) (T := F_C) (N := 7) (v := .ref (cR K 25)) hx hb ht ku_C hown hw.2.1 hw.1 7 rfl rfl 4 (by decide) (ht _ kf_C_21) (fun _ h9 => h9) rfl d_C_moveAlongLine_146 ?_
  refine c_cv (np := 3) (As := [.ref (cR K 22), .ref (cR K 22), .ref (cR K 25)]) (rest := []) ⟨hx, hb, hml, hown, ht⟩ hw (c_M_subtract l K u7 hu7.2.1 (μ := 0) (o := 22) (a := 22) (b := 25) (by decide) (by omega) (by omega) (by omega) (by omega) (by omega) (by rw [hu7.v (by omega), f7_22]; exact ss_lt (rMod_pos (by decide))) (by rw [hu7.v (by omega), f7_25]; exact mm_lt (rMod_pos (by decide)))) 5 rfl rfl ⟨km_C_72, kv_M_subtract, kx_M_subtract, kc_M_subtract⟩ ki_M (by decide +kernel) ⟨by decide, by decide⟩ rfl rfl rfl hl.1 rfl (Nat.le_of_ble_eq_true rfl) d_C_moveAlongLine_149 ⟨Nat.le_refl _, Nat.le_refl _⟩ (fun u8 H locs hp hw => ?_)
  obtain ⟨V8, hu8, ht8, hk8⟩ := qc_ss (by decide) hu7 (by omega) (by omega) (by omega) hp
  have f8_23 : V8 (23) = cV τ 23 := (hk8 _ (by omega)).trans f7_23
  have f8_27 : V8 (27) = cV τ 27 := (hk8 _ (by omega)).trans f7_27
  have f8_24 : V8 (24) = mm (rMod 0) (cV τ 24) (cV τ 26) := (hk8 _ (by omega)).trans f7_24
  have f8_26 : V8 (26) = mm (rMod 0) (mm (rMod 0) (cV τ 26) (cV τ 26)) (cV τ 26) := (hk8 _ (by omega)).trans f7_26
  have f8_25 : V8 (25) = mm (rMod 0) (mm (rMod 0) (cV τ 26) (cV τ 26)) (cV τ 22) := (hk8 _ (by omega)).trans f7_25
  have f8_22 : V8 (22) = ss (rMod 0) (ss (rMod 0) (ss (rMod 0) (mm (rMod 0) (cV τ 27) (cV τ 27)) (mm (rMod 0) (mm (rMod 0) (cV τ 26) (cV τ 26)) (cV τ 26))) (mm (rMod 0) (mm (rMod 0) (cV τ 26) (cV τ 26)) (cV τ 22))) (mm (rMod 0) (mm (rMod 0) (cV τ 26) (cV τ 26)) (cV τ 22)) := ht8.trans (by simp only [f7_22, f7_25])
  have hK8 : ∀ r, r < 22 ∨ 27 < r → V8 r = cV τ r := fun r a0 => (hk8 r (by omega)).trans (hK7 r a0)
  clear f7_23 f7_27 f7_24 f7_26 f7_25 f7_22 ht8 hk8 hu7 hK7 hp
  have f8_22n : V8 (22) = cmX (rMod 0) (cV τ 22) (cV τ 26) (cV τ 27) := f8_22
  clear f8_22
  refine lv_aload_n hx hb d_C_moveAlongLine_152 rfl (lv_at hl 0 rfl) ?_
  refine va_get (ci := 0) (C := R_C) (T := F_C) (N := 7) (v := .ref (cO K 5)) hx hb ht ku_C hown hw.2.1 hw.1 7 rfl rfl 0 (by decide) (ht _ kf_C_30) (fun _ h9 => h9) rfl d_C_moveAlongLine_153 ?_
  refine lv_aload_n hx hb d_C_moveAlongLine_156 rfl (lv_at hl 0 rfl) ?_
  refine va_get (ci := 0) (C := R_C) (T := F_C) (N := 7) (v := .ref (cR K 25)) hx hb ht ku_C hown hw.2.1 hw.1 7 rfl rfl 4 (by decide) (ht _ kf_C_21) (fun _ h9 => h9) rfl d_C_moveAlongLine_157 ?_
  refine lv_aload_n hx hb d_C_moveAlongLine_160 rfl (lv_at hl 0 rfl) ?_
  refine va_get (ci := 0) (C := R_C) (T := F_C) (N := 7) (v := .ref (cR K 25)) hx hb ht ku_C hown hw.2.1 hw.1 7 rfl rfl 4 (by decide) (ht _ kf_C_21) (fun _ h9 => h9) rfl d_C_moveAlongLine_161 ?_
  refine lv_aload_n hx hb d_C_moveAlongLine_164 rfl (lv_at hl 0 rfl) ?_
  refine va_get (ci := 0) (C := R_C) (T := F_C) (N := 7) (v := .ref (cR K 22)) hx hb ht ku_C hown hw.2.1 hw.1 7 rfl rfl 1 (by decide) (ht _ kf_C_9) (fun _ h9 => h9) rfl d_C_moveAlongLine_165 ?_
  refine c_cv (np := 3) (As := [.ref (cR K 25), .ref (cR K 25), .ref (cR K 22)]) (rest := []) ⟨hx, hb, hml, hown, ht⟩ hw (c_M_subtract l K u8 hu8.2.1 (μ := 0) (o := 25) (a := 25) (b := 22) (by decide) (by omega) (by omega) (by omega) (by omega) (by omega) (by rw [hu8.v (by omega), f8_25]; exact mm_lt (rMod_pos (by decide))) (by rw [hu8.v (by omega), f8_22n]; exact ss_lt (rMod_pos (by decide)))) 5 rfl rfl ⟨km_C_72, kv_M_subtract, kx_M_subtract, kc_M_subtract⟩ ki_M (by decide +kernel) ⟨by decide, by decide⟩ rfl rfl rfl hl.1 rfl (Nat.le_of_ble_eq_true rfl) d_C_moveAlongLine_168 ⟨Nat.le_refl _, Nat.le_refl _⟩ (fun u9 H locs hp hw => ?_)
  obtain ⟨V9, hu9, ht9, hk9⟩ := qc_ss (by decide) hu8 (by omega) (by omega) (by omega) hp
  have f9_23 : V9 (23) = cV τ 23 := (hk9 _ (by omega)).trans f8_23
  have f9_27 : V9 (27) = cV τ 27 := (hk9 _ (by omega)).trans f8_27
  have f9_24 : V9 (24) = mm (rMod 0) (cV τ 24) (cV τ 26) := (hk9 _ (by omega)).trans f8_24
  have f9_26 : V9 (26) = mm (rMod 0) (mm (rMod 0) (cV τ 26) (cV τ 26)) (cV τ 26) := (hk9 _ (by omega)).trans f8_26
  have f9_22 : V9 (22) = cmX (rMod 0) (cV τ 22) (cV τ 26) (cV τ 27) := (hk9 _ (by omega)).trans f8_22n
  have f9_25 : V9 (25) = ss (rMod 0) (mm (rMod 0) (mm (rMod 0) (cV τ 26) (cV τ 26)) (cV τ 22)) (cmX (rMod 0) (cV τ 22) (cV τ 26) (cV τ 27)) := ht9.trans (by simp only [f8_22n, f8_25])
  have hK9 : ∀ r, r < 22 ∨ 27 < r → V9 r = cV τ r := fun r a0 => (hk9 r (by omega)).trans (hK8 r a0)
  clear f8_23 f8_27 f8_24 f8_26 f8_25 f8_22n ht9 hk9 hu8 hK8 hp
  refine lv_aload_n hx hb d_C_moveAlongLine_171 rfl (lv_at hl 0 rfl) ?_
  refine va_get (ci := 0) (C := R_C) (T := F_C) (N := 7) (v := .ref (cO K 5)) hx hb ht ku_C hown hw.2.1 hw.1 7 rfl rfl 0 (by decide) (ht _ kf_C_30) (fun _ h9 => h9) rfl d_C_moveAlongLine_172 ?_
  refine lv_aload_n hx hb d_C_moveAlongLine_175 rfl (lv_at hl 0 rfl) ?_
  refine va_get (ci := 0) (C := R_C) (T := F_C) (N := 7) (v := .ref (cR K 25)) hx hb ht ku_C hown hw.2.1 hw.1 7 rfl rfl 4 (by decide) (ht _ kf_C_21) (fun _ h9 => h9) rfl d_C_moveAlongLine_176 ?_
  refine lv_aload_n hx hb d_C_moveAlongLine_179 rfl (lv_at hl 0 rfl) ?_
  refine va_get (ci := 0) (C := R_C) (T := F_C) (N := 7) (v := .ref (cR K 25)) hx hb ht ku_C hown hw.2.1 hw.1 7 rfl rfl 4 (by decide) (ht _ kf_C_21) (fun _ h9 => h9) rfl d_C_moveAlongLine_180 ?_
  refine lv_aload_n hx hb d_C_moveAlongLine_183 rfl (lv_at hl 0 rfl) ?_
  refine va_get (ci := 0) (C := R_C) (T := F_C) (N := 7) (v := .ref (cR K 27)) hx hb ht ku_C hown hw.2.1 hw.1 7 rfl rfl 6 (by decide) (ht _ kf_C_27) (fun _ h9 => h9) rfl d_C_moveAlongLine_184 ?_
  refine c_cv (np := 3) (As := [.ref (cR K 25), .ref (cR K 25), .ref (cR K 27)]) (rest := []) ⟨hx, hb, hml, hown, ht⟩ hw (c_M_multiply l K u9 hu9.2.1 (μ := 0) (o := 25) (a := 25) (b := 27) (by decide) (by omega) (by omega) (by omega) (by omega) (by omega)) 5 rfl rfl ⟨km_C_44, kv_M_multiply, kx_M_multiply, kc_M_multiply⟩ ki_M (by decide +kernel) ⟨by decide, by decide⟩ rfl rfl rfl hl.1 rfl (Nat.le_of_ble_eq_true rfl) d_C_moveAlongLine_187 ⟨Nat.le_refl _, Nat.le_refl _⟩ (fun u10 H locs hp hw => ?_)
  obtain ⟨V10, hu10, ht10, hk10⟩ := qc_mul hu9 (by omega) (by omega) hp
  have f10_23 : V10 (23) = cV τ 23 := (hk10 _ (by omega)).trans f9_23
  have f10_27 : V10 (27) = cV τ 27 := (hk10 _ (by omega)).trans f9_27
  have f10_24 : V10 (24) = mm (rMod 0) (cV τ 24) (cV τ 26) := (hk10 _ (by omega)).trans f9_24
  have f10_26 : V10 (26) = mm (rMod 0) (mm (rMod 0) (cV τ 26) (cV τ 26)) (cV τ 26) := (hk10 _ (by omega)).trans f9_26
  have f10_22 : V10 (22) = cmX (rMod 0) (cV τ 22) (cV τ 26) (cV τ 27) := (hk10 _ (by omega)).trans f9_22
  have f10_25 : V10 (25) = mm (rMod 0) (ss (rMod 0) (mm (rMod 0) (mm (rMod 0) (cV τ 26) (cV τ 26)) (cV τ 22)) (cmX (rMod 0) (cV τ 22) (cV τ 26) (cV τ 27))) (cV τ 27) := ht10.trans (by simp only [f9_25, f9_27])
  have hK10 : ∀ r, r < 22 ∨ 27 < r → V10 r = cV τ r := fun r a0 => (hk10 r (by omega)).trans (hK9 r a0)
  clear f9_23 f9_27 f9_24 f9_26 f9_22 f9_25 ht10 hk10 hu9 hK9 hp
  refine lv_aload_n hx hb d_C_moveAlongLine_190 rfl (lv_at hl 0 rfl) ?_
  refine va_get (ci := 0) (C := R_C) (T := F_C) (N := 7) (v := .ref (cO K 5)) hx hb ht ku_C hown hw.2.1 hw.1 7 rfl rfl 0 (by decide) (ht _ kf_C_30) (fun _ h9 => h9) rfl d_C_moveAlongLine_191 ?_
  refine lv_aload_n hx hb d_C_moveAlongLine_194 rfl (lv_at hl 0 rfl) ?_
  refine va_get (ci := 0) (C := R_C) (T := F_C) (N := 7) (v := .ref (cR K 26)) hx hb ht ku_C hown hw.2.1 hw.1 7 rfl rfl 5 (by decide) (ht _ kf_C_24) (fun _ h9 => h9) rfl d_C_moveAlongLine_195 ?_
  refine lv_aload_n hx hb d_C_moveAlongLine_198 rfl (lv_at hl 0 rfl) ?_
  refine va_get (ci := 0) (C := R_C) (T := F_C) (N := 7) (v := .ref (cR K 26)) hx hb ht ku_C hown hw.2.1 hw.1 7 rfl rfl 5 (by decide) (ht _ kf_C_24) (fun _ h9 => h9) rfl d_C_moveAlongLine_199 ?_
  refine lv_aload_n hx hb d_C_moveAlongLine_202 rfl (lv_at hl 0 rfl) ?_
  refine va_get (ci := 0) (C := R_C) (T := F_C) (N := 7) (v := .ref (cR K 23)) hx hb ht ku_C hown hw.2.1 hw.1 7 rfl rfl 2 (by decide) (ht _ kf_C_15) (fun _ h9 => h9) rfl d_C_moveAlongLine_203 ?_
  refine c_cv (np := 3) (As := [.ref (cR K 26), .ref (cR K 26), .ref (cR K 23)]) (rest := []) ⟨hx, hb, hml, hown, ht⟩ hw (c_M_multiply l K u10 hu10.2.1 (μ := 0) (o := 26) (a := 26) (b := 23) (by decide) (by omega) (by omega) (by omega) (by omega) (by omega)) 5 rfl rfl ⟨km_C_44, kv_M_multiply, kx_M_multiply, kc_M_multiply⟩ ki_M (by decide +kernel) ⟨by decide, by decide⟩ rfl rfl rfl hl.1 rfl (Nat.le_of_ble_eq_true rfl) d_C_moveAlongLine_206 ⟨Nat.le_refl _, Nat.le_refl _⟩ (fun u11 H locs hp hw => ?_)
  obtain ⟨V11, hu11, ht11, hk11⟩ := qc_mul hu10 (by omega) (by omega) hp
  have f11_23 : V11 (23) = cV τ 23 := (hk11 _ (by omega)).trans f10_23
  have f11_27 : V11 (27) = cV τ 27 := (hk11 _ (by omega)).trans f10_27
  have f11_24 : V11 (24) = mm (rMod 0) (cV τ 24) (cV τ 26) := (hk11 _ (by omega)).trans f10_24
  have f11_22 : V11 (22) = cmX (rMod 0) (cV τ 22) (cV τ 26) (cV τ 27) := (hk11 _ (by omega)).trans f10_22
  have f11_25 : V11 (25) = mm (rMod 0) (ss (rMod 0) (mm (rMod 0) (mm (rMod 0) (cV τ 26) (cV τ 26)) (cV τ 22)) (cmX (rMod 0) (cV τ 22) (cV τ 26) (cV τ 27))) (cV τ 27) := (hk11 _ (by omega)).trans f10_25
  have f11_26 : V11 (26) = mm (rMod 0) (mm (rMod 0) (mm (rMod 0) (cV τ 26) (cV τ 26)) (cV τ 26)) (cV τ 23) := ht11.trans (by simp only [f10_23, f10_26])
  have hK11 : ∀ r, r < 22 ∨ 27 < r → V11 r = cV τ r := fun r a0 => (hk11 r (by omega)).trans (hK10 r a0)
  clear f10_23 f10_27 f10_24 f10_26 f10_22 f10_25 ht11 hk11 hu10 hK10 hp
  refine lv_aload_n hx hb d_C_moveAlongLine_209 rfl (lv_at hl 0 rfl) ?_
  refine va_get (ci := 0) (C := R_C) (T := F_C) (N := 7) (v := .ref (cO K 5)) hx hb ht ku_C hown hw.2.1 hw.1 7 rfl rfl 0 (by decide) (ht _ kf_C_30) (fun _ h9 => h9) rfl d_C_moveAlongLine_210 ?_
  refine lv_aload_n hx hb d_C_moveAlongLine_213 rfl (lv_at hl 0 rfl) ?_
  refine va_get (ci := 0) (C := R_C) (T := F_C) (N := 7) (v := .ref (cR K 23)) hx hb ht ku_C hown hw.2.1 hw.1 7 rfl rfl 2 (by decide) (ht _ kf_C_15) (fun _ h9 => h9) rfl d_C_moveAlongLine_214 ?_
  refine lv_aload_n hx hb d_C_moveAlongLine_217 rfl (lv_at hl 0 rfl) ?_
  refine va_get (ci := 0) (C := R_C) (T := F_C) (N := 7) (v := .ref (cR K 25)) hx hb ht ku_C hown hw.2.1 hw.1 7 rfl rfl 4 (by decide) (ht _ kf_C_21) (fun _ h9 => h9) rfl d_C_moveAlongLine_218 ?_
  refine lv_aload_n hx hb d_C_moveAlongLine_221 rfl (lv_at hl 0 rfl) ?_
  refine va_get (ci := 0) (C := R_C) (T := F_C) (N := 7) (v := .ref (cR K 26)) hx hb ht ku_C hown hw.2.1 hw.1 7 rfl rfl 5 (by decide) (ht _ kf_C_24) (fun _ h9 => h9) rfl d_C_moveAlongLine_222 ?_
  refine c_cv (np := 3) (As := [.ref (cR K 23), .ref (cR K 25), .ref (cR K 26)]) (rest := []) ⟨hx, hb, hml, hown, ht⟩ hw (c_M_subtract l K u11 hu11.2.1 (μ := 0) (o := 23) (a := 25) (b := 26) (by decide) (by omega) (by omega) (by omega) (by omega) (by omega) (by rw [hu11.v (by omega), f11_25]; exact mm_lt (rMod_pos (by decide))) (by rw [hu11.v (by omega), f11_26]; exact mm_lt (rMod_pos (by decide)))) 5 rfl rfl ⟨km_C_72, kv_M_subtract, kx_M_subtract, kc_M_subtract⟩ ki_M (by decide +kernel) ⟨by decide, by decide⟩ rfl rfl rfl hl.1 rfl (Nat.le_of_ble_eq_true rfl) d_C_moveAlongLine_225 ⟨Nat.le_refl _, Nat.le_refl _⟩ (fun u12 H locs hp hw => ?_)
  obtain ⟨V12, hu12, ht12, hk12⟩ := qc_ss (by decide) hu11 (by omega) (by omega) (by omega) hp
  have f12_27 : V12 (27) = cV τ 27 := (hk12 _ (by omega)).trans f11_27
  have f12_24 : V12 (24) = mm (rMod 0) (cV τ 24) (cV τ 26) := (hk12 _ (by omega)).trans f11_24
  have f12_22 : V12 (22) = cmX (rMod 0) (cV τ 22) (cV τ 26) (cV τ 27) := (hk12 _ (by omega)).trans f11_22
  have f12_25 : V12 (25) = mm (rMod 0) (ss (rMod 0) (mm (rMod 0) (mm (rMod 0) (cV τ 26) (cV τ 26)) (cV τ 22)) (cmX (rMod 0) (cV τ 22) (cV τ 26) (cV τ 27))) (cV τ 27) := (hk12 _ (by omega)).trans f11_25
  have f12_26 : V12 (26) = mm (rMod 0) (mm (rMod 0) (mm (rMod 0) (cV τ 26) (cV τ 26)) (cV τ 26)) (cV τ 23) := (hk12 _ (by omega)).trans f11_26
  have f12_23 : V12 (23) = ss (rMod 0) (mm (rMod 0) (ss (rMod 0) (mm (rMod 0) (mm (rMod 0) (cV τ 26) (cV τ 26)) (cV τ 22)) (cmX (rMod 0) (cV τ 22) (cV τ 26) (cV τ 27))) (cV τ 27)) (mm (rMod 0) (mm (rMod 0) (mm (rMod 0) (cV τ 26) (cV τ 26)) (cV τ 26)) (cV τ 23)) := ht12.trans (by simp only [f11_25, f11_26])
  have hK12 : ∀ r, r < 22 ∨ 27 < r → V12 r = cV τ r := fun r a0 => (hk12 r (by omega)).trans (hK11 r a0)
  clear f11_23 f11_27 f11_24 f11_22 f11_25 f11_26 ht12 hk12 hu11 hK11 hp
  exact z_vret (cZ K) hx hb hr hlocks u12 hw ⟨V12, hu12, f12_22, f12_23, f12_24, hK12⟩ d_C_moveAlongLine_228
set_option maxHeartbeats 4000000 in
set_option maxRecDepth 100000 in
theorem c_C_doubleSum (l : Launch) (K : cG) (τ : cT) (hok : cOk τ) (h3 : t3lt (rMod 0) (cV τ 22, cV τ 23, cV τ 24)) : Met l y_C_doubleSum (zW y_C_doubleSum b_C_doubleSum 1 none) (zr 4 88) (va_Pc [.ref (cO K 7)] (cC K τ)) (va_Qv (fun u => ∃ V, cU τ V u ∧ (V 22, V 23, V 24) = cdb (rMod 0) (cV τ 22, cV τ 23, cV τ 24) ∧ ∀ r, r < 22 ∨ 27 < r → V r = cV τ r) (fun u => cC K u) (cAA K)) 0 0 (cAA K) := by
  refine Met.ofW (cc := b_C_doubleSum) (maxL := 1) (ret := none) (by decide) rfl ?_
  intro p e s m args below meth c s₁ B hml hv
  obtain ⟨rfl, hw⟩ := hv
  have hx := B.exec
  have hb := B.bytes
  have hr := B.returns
  have hts := atoms_spec (ws := zW y_C_doubleSum b_C_doubleSum 1 none) B.pre
  have ht : ∀ w ∈ zT, w.before ([.ref (cO K 7)] : List Value).toArray s = true := fun w h => hts w (List.mem_cons_of_mem _ h)
  have hown : s.vm.findClass R_C = some m.cls := findClass_of_methodNamed B.named
  have hlocks := B.notSynchronized
  have hl := lv_entry ([.ref (cO K 7)]) (n := 1) (Nat.le_of_ble_eq_true rfl)
  rw [lg_entry_eq]
  generalize (lg_sl ([.ref (cO K 7)]) ++ List.replicate (1 - (lg_sl ([.ref (cO K 7)])).length) Slot.unset).toArray = ls at hl ⊢
  have hl : lv_has ls 1 [(0, .ref (cO K 7))] := hl
  obtain ⟨V0, u0, hV0, hu0, hw⟩ : ∃ (V : Nat → Nat) (u : cT), V = cV τ ∧ cU τ V u ∧ cH K u s s.heap [] := ⟨cV τ, τ, rfl, cU.refl hok, hw⟩
  have hK0 : ∀ r, r < 22 ∨ 27 < r → V0 r = cV τ r := fun r _ => by rw [hV0]
  have f0_22 : V0 (22) = cV τ 22 := by rw [hV0]
  have f0_23 : V0 (23) = cV τ 23 := by rw [hV0]
  have f0_24 : V0 (24) = cV τ 24 := by rw [hV0]
  refine lv_aload_n hx hb d_C_doubleSum_0 rfl (lv_at hl 0 rfl) ?_
  refine va_get (ci := 0) (C := R_C) (T := F_C) (N := 7) (v := .ref (cR K 24)) hx hb ht ku_C hown hw.2.1 hw.1 7 rfl rfl 3 (by decide) (ht _ kf_C_18) (fun _ h9 => h9) rfl d_C_doubleSum_1 ?_
  refine c_si (np := 1) (As := [.ref (cR K 24)]) (rest := []) ⟨hx, hb, hml, hown, ht⟩ hw (c_L_isZero l K u0 hu0.2.1 (a := 24) (by omega) (by omega)) ⟨km_C_101, ks_L_isZero, kc_L_isZero⟩ ki_L (by decide +kernel) ⟨by decide, by decide⟩ rfl rfl rfl hl.1 rfl (Nat.le_of_ble_eq_true rfl) d_C_doubleSum_4 ⟨Nat.le_refl _, Nat.le_refl _⟩ (fun r ux H locs hp hw => ?_)
  obtain ⟨hpu, rfl⟩ := hp
  rw [hpu] at hw
  clear hpu
  refine tp_i (y := nI (boolN (cV τ 24 = 0))) (by simp only [hu0.v (show 24 < 30 ∨ 33 < 24 by omega), f0_24]) ?_
  refine n_eq0 (tgt := 11) hx hb d_C_doubleSum_7 (by decide) (boolN_s _) (fun c1 => ?_) (fun c1 => ?_)
  · have c2 := boolN_0 c1
    refine lv_aload_n hx hb d_C_doubleSum_11 rfl (lv_at hl 0 rfl) ?_
    refine va_get (ci := 0) (C := R_C) (T := F_C) (N := 7) (v := .ref (cO K 5)) hx hb ht ku_C hown hw.2.1 hw.1 7 rfl rfl 0 (by decide) (ht _ kf_C_30) (fun _ h9 => h9) rfl d_C_doubleSum_12 ?_
    refine lv_aload_n hx hb d_C_doubleSum_15 rfl (lv_at hl 0 rfl) ?_
    refine va_get (ci := 0) (C := R_C) (T := F_C) (N := 7) (v := .ref (cR K 24)) hx hb ht ku_C hown hw.2.1 hw.1 7 rfl rfl 3 (by decide) (ht _ kf_C_18) (fun _ h9 => h9) rfl d_C_doubleSum_16 ?_
    refine lv_aload_n hx hb d_C_doubleSum_19 rfl (lv_at hl 0 rfl) ?_
    refine va_get (ci := 0) (C := R_C) (T := F_C) (N := 7) (v := .ref (cR K 24)) hx hb ht ku_C hown hw.2.1 hw.1 7 rfl rfl 3 (by decide) (ht _ kf_C_18) (fun _ h9 => h9) rfl d_C_doubleSum_20 ?_
    refine lv_aload_n hx hb d_C_doubleSum_23 rfl (lv_at hl 0 rfl) ?_
    refine va_get (ci := 0) (C := R_C) (T := F_C) (N := 7) (v := .ref (cR K 23)) hx hb ht ku_C hown hw.2.1 hw.1 7 rfl rfl 2 (by decide) (ht _ kf_C_15) (fun _ h9 => h9) rfl d_C_doubleSum_24 ?_
    refine c_cv (np := 3) (As := [.ref (cR K 24), .ref (cR K 24), .ref (cR K 23)]) (rest := []) ⟨hx, hb, hml, hown, ht⟩ hw (c_M_multiply l K u0 hu0.2.1 (μ := 0) (o := 24) (a := 24) (b := 23) (by decide) (by omega) (by omega) (by omega) (by omega) (by omega)) 5 rfl rfl ⟨km_C_44, kv_M_multiply, kx_M_multiply, kc_M_multiply⟩ ki_M (by decide +kernel) ⟨by decide, by decide⟩ rfl rfl rfl hl.1 rfl (Nat.le_of_ble_eq_true rfl) d_C_doubleSum_27 ⟨Nat.le_refl _, Nat.le_refl _⟩ (fun u1 H locs hp hw => ?_)
    obtain ⟨V1, hu1, ht1, hk1⟩ := qc_mul hu0 (by omega) (by omega) hp
    have f1_22 : V1 (22) = cV τ 22 := (hk1 _ (by omega)).trans f0_22
    have f1_23 : V1 (23) = cV τ 23 := (hk1 _ (by omega)).trans f0_23
    have f1_24 : V1 (24) = mm (rMod 0) (cV τ 24) (cV τ 23) := ht1.trans (by simp only [f0_23, f0_24])
    have hK1 : ∀ r, r < 22 ∨ 27 < r → V1 r = cV τ r := fun r a0 => (hk1 r (by omega)).trans (hK0 r a0)
    clear f0_22 f0_23 f0_24 ht1 hk1 hu0 hK0 hp
    refine lv_aload_n hx hb d_C_doubleSum_30 rfl (lv_at hl 0 rfl) ?_
    refine va_get (ci := 0) (C := R_C) (T := F_C) (N := 7) (v := .ref (cO K 5)) hx hb ht ku_C hown hw.2.1 hw.1 7 rfl rfl 0 (by decide) (ht _ kf_C_30) (fun _ h9 => h9) rfl d_C_doubleSum_31 ?_
    refine lv_aload_n hx hb d_C_doubleSum_34 rfl (lv_at hl 0 rfl) ?_
    refine va_get (ci := 0) (C := R_C) (T := F_C) (N := 7) (v := .ref (cR K 24)) hx hb ht ku_C hown hw.2.1 hw.1 7 rfl rfl 3 (by decide) (ht _ kf_C_18) (fun _ h9 => h9) rfl d_C_doubleSum_35 ?_
    refine lv_aload_n hx hb d_C_doubleSum_38 rfl (lv_at hl 0 rfl) ?_
    refine va_get (ci := 0) (C := R_C) (T := F_C) (N := 7) (v := .ref (cR K 24)) hx hb ht ku_C hown hw.2.1 hw.1 7 rfl rfl 3 (by decide) (ht _ kf_C_18) (fun _ h9 => h9) rfl d_C_doubleSum_39 ?_
    refine lv_aload_n hx hb d_C_doubleSum_42 rfl (lv_at hl 0 rfl) ?_
    refine va_get (ci := 0) (C := R_C) (T := F_C) (N := 7) (v := .ref (cR K 24)) hx hb ht ku_C hown hw.2.1 hw.1 7 rfl rfl 3 (by decide) (ht _ kf_C_18) (fun _ h9 => h9) rfl d_C_doubleSum_43 ?_
    refine c_cv (np := 3) (As := [.ref (cR K 24), .ref (cR K 24), .ref (cR K 24)]) (rest := []) ⟨hx, hb, hml, hown, ht⟩ hw (c_M_add l K u1 hu1.2.1 (μ := 0) (o := 24) (a := 24) (b := 24) (by decide) (by omega) (by omega) (by omega) (by omega) (by omega) (by rw [hu1.v (by omega), f1_24]; exact mm_lt (rMod_pos (by decide))) (by rw [hu1.v (by omega), f1_24]; exact mm_lt (rMod_pos (by decide)))) 5 rfl rfl ⟨km_C_57, kv_M_add, kx_M_add, kc_M_add⟩ ki_M (by decide +kernel) ⟨by decide, by decide⟩ rfl rfl rfl hl.1 rfl (Nat.le_of_ble_eq_true rfl) d_C_doubleSum_46 ⟨Nat.le_refl _, Nat.le_refl _⟩ (fun u2 H locs hp hw => ?_)
    obtain ⟨V2, hu2, ht2, hk2⟩ := qc_pp (by decide) hu1 (by omega) (by omega) (by omega) hp
    have f2_22 : V2 (22) = cV τ 22 := (hk2 _ (by omega)).trans f1_22
    have f2_23 : V2 (23) = cV τ 23 := (hk2 _ (by omega)).trans f1_23
    have f2_24 : V2 (24) = pp (rMod 0) (mm (rMod 0) (cV τ 24) (cV τ 23)) (mm (rMod 0) (cV τ 24) (cV τ 23)) := ht2.trans (by simp only [f1_24])
    have hK2 : ∀ r, r < 22 ∨ 27 < r → V2 r = cV τ r := fun r a0 => (hk2 r (by omega)).trans (hK1 r a0)
    clear f1_22 f1_23 f1_24 ht2 hk2 hu1 hK1 hp
    refine lv_aload_n hx hb d_C_doubleSum_49 rfl (lv_at hl 0 rfl) ?_
    refine va_get (ci := 0) (C := R_C) (T := F_C) (N := 7) (v := .ref (cO K 5)) hx hb ht ku_C hown hw.2.1 hw.1 7 rfl rfl 0 (by decide) (ht _ kf_C_30) (fun _ h9 => h9) rfl d_C_doubleSum_50 ?_
    refine lv_aload_n hx hb d_C_doubleSum_53 rfl (lv_at hl 0 rfl) ?_
    refine va_get (ci := 0) (C := R_C) (T := F_C) (N := 7) (v := .ref (cR K 25)) hx hb ht ku_C hown hw.2.1 hw.1 7 rfl rfl 4 (by decide) (ht _ kf_C_21) (fun _ h9 => h9) rfl d_C_doubleSum_54 ?_
    refine lv_aload_n hx hb d_C_doubleSum_57 rfl (lv_at hl 0 rfl) ?_
    refine va_get (ci := 0) (C := R_C) (T := F_C) (N := 7) (v := .ref (cR K 23)) hx hb ht ku_C hown hw.2.1 hw.1 7 rfl rfl 2 (by decide) (ht _ kf_C_15) (fun _ h9 => h9) rfl d_C_doubleSum_58 ?_
    refine lv_aload_n hx hb d_C_doubleSum_61 rfl (lv_at hl 0 rfl) ?_
    refine va_get (ci := 0) (C := R_C) (T := F_C) (N := 7) (v := .ref (cR K 23)) hx hb ht ku_C hown hw.2.1 hw.1 7 rfl rfl 2 (by decide) (ht _ kf_C_15) (fun _ h9 => h9) rfl d_C_doubleSum_62 ?_
    refine c_cv (np := 3) (As := [.ref (cR K 25), .ref (cR K 23), .ref (cR K 23)]) (rest := []) ⟨hx, hb, hml, hown, ht⟩ hw (c_M_multiply l K u2 hu2.2.1 (μ := 0) (o := 25) (a := 23) (b := 23) (by decide) (by omega) (by omega) (by omega) (by omega) (by omega)) 5 rfl rfl ⟨km_C_44, kv_M_multiply, kx_M_multiply, kc_M_multiply⟩ ki_M (by decide +kernel) ⟨by decide, by decide⟩ rfl rfl rfl hl.1 rfl (Nat.le_of_ble_eq_true rfl) d_C_doubleSum_65 ⟨Nat.le_refl _, Nat.le_refl _⟩ (fun u3 H locs hp hw => ?_)
    obtain ⟨V3, hu3, ht3, hk3⟩ := qc_mul hu2 (by omega) (by omega) hp
    have f3_22 : V3 (22) = cV τ 22 := (hk3 _ (by omega)).trans f2_22
    have f3_23 : V3 (23) = cV τ 23 := (hk3 _ (by omega)).trans f2_23
    have f3_24 : V3 (24) = pp (rMod 0) (mm (rMod 0) (cV τ 24) (cV τ 23)) (mm (rMod 0) (cV τ 24) (cV τ 23)) := (hk3 _ (by omega)).trans f2_24
    have f3_25 : V3 (25) = mm (rMod 0) (cV τ 23) (cV τ 23) := ht3.trans (by simp only [f2_23])
    have hK3 : ∀ r, r < 22 ∨ 27 < r → V3 r = cV τ r := fun r a0 => (hk3 r (by omega)).trans (hK2 r a0)
    clear f2_22 f2_23 f2_24 ht3 hk3 hu2 hK2 hp
    refine lv_aload_n hx hb d_C_doubleSum_68 rfl (lv_at hl 0 rfl) ?_
    refine va_get (ci := 0) (C := R_C) (T := F_C) (N := 7) (v := .ref (cO K 5)) hx hb ht ku_C hown hw.2.1 hw.1 7 rfl rfl 0 (by decide) (ht _ kf_C_30) (fun _ h9 => h9) rfl d_C_doubleSum_69 ?_
    refine lv_aload_n hx hb d_C_doubleSum_72 rfl (lv_at hl 0 rfl) ?_
    refine va_get (ci := 0) (C := R_C) (T := F_C) (N := 7) (v := .ref (cR K 25)) hx hb ht ku_C hown hw.2.1 hw.1 7 rfl rfl 4 (by decide) (ht _ kf_C_21) (fun _ h9 => h9) rfl d_C_doubleSum_73 ?_
    refine lv_aload_n hx hb d_C_doubleSum_76 rfl (lv_at hl 0 rfl) ?_
    refine va_get (ci := 0) (C := R_C) (T := F_C) (N := 7) (v := .ref (cR K 25)) hx hb ht ku_C hown hw.2.1 hw.1 7 rfl rfl 4 (by decide) (ht _ kf_C_21) (fun _ h9 => h9) rfl d_C_doubleSum_77 ?_
    refine lv_aload_n hx hb d_C_doubleSum_80 rfl (lv_at hl 0 rfl) ?_
    refine va_get (ci := 0) (C := R_C) (T := F_C) (N := 7) (v := .ref (cR K 25)) hx hb ht ku_C hown hw.2.1 hw.1 7 rfl rfl 4 (by decide) (ht _ kf_C_21) (fun _ h9 => h9) rfl d_C_doubleSum_81 ?_
    refine c_cv (np := 3) (As := [.ref (cR K 25), .ref (cR K 25), .ref (cR K 25)]) (rest := []) ⟨hx, hb, hml, hown, ht⟩ hw (c_M_add l K u3 hu3.2.1 (μ := 0) (o := 25) (a := 25) (b := 25) (by decide) (by omega) (by omega) (by omega) (by omega) (by omega) (by rw [hu3.v (by omega), f3_25]; exact mm_lt (rMod_pos (by decide))) (by rw [hu3.v (by omega), f3_25]; exact mm_lt (rMod_pos (by decide)))) 5 rfl rfl ⟨km_C_57, kv_M_add, kx_M_add, kc_M_add⟩ ki_M (by decide +kernel) ⟨by decide, by decide⟩ rfl rfl rfl hl.1 rfl (Nat.le_of_ble_eq_true rfl) d_C_doubleSum_84 ⟨Nat.le_refl _, Nat.le_refl _⟩ (fun u4 H locs hp hw => ?_)
    obtain ⟨V4, hu4, ht4, hk4⟩ := qc_pp (by decide) hu3 (by omega) (by omega) (by omega) hp
    have f4_22 : V4 (22) = cV τ 22 := (hk4 _ (by omega)).trans f3_22
    have f4_23 : V4 (23) = cV τ 23 := (hk4 _ (by omega)).trans f3_23
    have f4_24 : V4 (24) = pp (rMod 0) (mm (rMod 0) (cV τ 24) (cV τ 23)) (mm (rMod 0) (cV τ 24) (cV τ 23)) := (hk4 _ (by omega)).trans f3_24
    have f4_25 : V4 (25) = pp (rMod 0) (mm (rMod 0) (cV τ 23) (cV τ 23)) (mm (rMod 0) (cV τ 23) (cV τ 23)) := ht4.trans (by simp only [f3_25])
    have hK4 : ∀ r, r < 22 ∨ 27 < r → V4 r = cV τ r := fun r a0 => (hk4 r (by omega)).trans (hK3 r a0)
    clear f3_22 f3_23 f3_24 f3_25 ht4 hk4 hu3 hK3 hp
    have f4_25n : V4 (25) = cdA (rMod 0) (cV τ 23) := f4_25
    clear f4_25
    have f4_24n : V4 (24) = cdZ (rMod 0) (cV τ 23) (cV τ 24) := f4_24
    clear f4_24
    refine lv_aload_n hx hb d_C_doubleSum_87 rfl (lv_at hl 0 rfl) ?_
    refine va_get (ci := 0) (C := R_C) (T := F_C) (N := 7) (v := .ref (cO K 5)) hx hb ht ku_C hown hw.2.1 hw.1 7 rfl rfl 0 (by decide) (ht _ kf_C_30) (fun _ h9 => h9) rfl d_C_doubleSum_88 ?_
    refine lv_aload_n hx hb d_C_doubleSum_91 rfl (lv_at hl 0 rfl) ?_
    refine va_get (ci := 0) (C := R_C) (T := F_C) (N := 7) (v := .ref (cR K 26)) hx hb ht ku_C hown hw.2.1 hw.1 7 rfl rfl 5 (by decide) (ht _ kf_C_24) (fun _ h9 => h9) rfl d_C_doubleSum_92 ?_
    refine lv_aload_n hx hb d_C_doubleSum_95 rfl (lv_at hl 0 rfl) ?_
    refine va_get (ci := 0) (C := R_C) (T := F_C) (N := 7) (v := .ref (cR K 25)) hx hb ht ku_C hown hw.2.1 hw.1 7 rfl rfl 4 (by decide) (ht _ kf_C_21) (fun _ h9 => h9) rfl d_C_doubleSum_96 ?_
    refine lv_aload_n hx hb d_C_doubleSum_99 rfl (lv_at hl 0 rfl) ?_
    refine va_get (ci := 0) (C := R_C) (T := F_C) (N := 7) (v := .ref (cR K 22)) hx hb ht ku_C hown hw.2.1 hw.1 7 rfl rfl 1 (by decide) (ht _ kf_C_9) (fun _ h9 => h9) rfl d_C_doubleSum_100 ?_
    refine c_cv (np := 3) (As := [.ref (cR K 26), .ref (cR K 25), .ref (cR K 22)]) (rest := []) ⟨hx, hb, hml, hown, ht⟩ hw (c_M_multiply l K u4 hu4.2.1 (μ := 0) (o := 26) (a := 25) (b := 22) (by decide) (by omega) (by omega) (by omega) (by omega) (by omega)) 5 rfl rfl ⟨km_C_44, kv_M_multiply, kx_M_multiply, kc_M_multiply⟩ ki_M (by decide +kernel) ⟨by decide, by decide⟩ rfl rfl rfl hl.1 rfl (Nat.le_of_ble_eq_true rfl) d_C_doubleSum_103 ⟨Nat.le_refl _, Nat.le_refl _⟩ (fun u5 H locs hp hw => ?_)
    obtain ⟨V5, hu5, ht5, hk5⟩ := qc_mul hu4 (by omega) (by omega) hp
    have f5_22 : V5 (22) = cV τ 22 := (hk5 _ (by omega)).trans f4_22
    have f5_23 : V5 (23) = cV τ 23 := (hk5 _ (by omega)).trans f4_23
    have f5_24 : V5 (24) = cdZ (rMod 0) (cV τ 23) (cV τ 24) := (hk5 _ (by omega)).trans f4_24n
    have f5_25 : V5 (25) = cdA (rMod 0) (cV τ 23) := (hk5 _ (by omega)).trans f4_25n
    have f5_26 : V5 (26) = mm (rMod 0) (cdA (rMod 0) (cV τ 23)) (cV τ 22) := ht5.trans (by simp only [f4_22, f4_25n])
    have hK5 : ∀ r, r < 22 ∨ 27 < r → V5 r = cV τ r := fun r a0 => (hk5 r (by omega)).trans (hK4 r a0)
    clear f4_22 f4_23 f4_24n f4_25n ht5 hk5 hu4 hK4 hp
    refine lv_aload_n hx hb d_C_doubleSum_106 rfl (lv_at hl 0 rfl) ?_
    refine va_get (ci := 0) (C := R_C) (T := F_C) (N := 7) (v := .ref (cO K 5)) hx hb ht ku_C hown hw.2.1 hw.1 7 rfl rfl 0 (by decide) (ht _ kf_C_30) (fun _ h9 => h9) rfl d_C_doubleSum_107 ?_
    refine lv_aload_n hx hb d_C_doubleSum_110 rfl (lv_at hl 0 rfl) ?_
    refine va_get (ci := 0) (C := R_C) (T := F_C) (N := 7) (v := .ref (cR K 26)) hx hb ht ku_C hown hw.2.1 hw.1 7 rfl rfl 5 (by decide) (ht _ kf_C_24) (fun _ h9 => h9) rfl d_C_doubleSum_111 ?_
    refine lv_aload_n hx hb d_C_doubleSum_114 rfl (lv_at hl 0 rfl) ?_
    refine va_get (ci := 0) (C := R_C) (T := F_C) (N := 7) (v := .ref (cR K 26)) hx hb ht ku_C hown hw.2.1 hw.1 7 rfl rfl 5 (by decide) (ht _ kf_C_24) (fun _ h9 => h9) rfl d_C_doubleSum_115 ?_
    refine lv_aload_n hx hb d_C_doubleSum_118 rfl (lv_at hl 0 rfl) ?_
    refine va_get (ci := 0) (C := R_C) (T := F_C) (N := 7) (v := .ref (cR K 26)) hx hb ht ku_C hown hw.2.1 hw.1 7 rfl rfl 5 (by decide) (ht _ kf_C_24) (fun _ h9 => h9) rfl d_C_doubleSum_119 ?_
    refine c_cv (np := 3) (As := [.ref (cR K 26), .ref (cR K 26), .ref (cR K 26)]) (rest := []) ⟨hx, hb, hml, hown, ht⟩ hw (c_M_add l K u5 hu5.2.1 (μ := 0) (o := 26) (a := 26) (b := 26) (by decide) (by omega) (by omega) (by omega) (by omega) (by omega) (by rw [hu5.v (by omega), f5_26]; exact mm_lt (rMod_pos (by decide))) (by rw [hu5.v (by omega), f5_26]; exact mm_lt (rMod_pos (by decide)))) 5 rfl rfl ⟨km_C_57, kv_M_add, kx_M_add, kc_M_add⟩ ki_M (by decide +kernel) ⟨by decide, by decide⟩ rfl rfl rfl hl.1 rfl (Nat.le_of_ble_eq_true rfl) d_C_doubleSum_122 ⟨Nat.le_refl _, Nat.le_refl _⟩ (fun u6 H locs hp hw => ?_)
    obtain ⟨V6, hu6, ht6, hk6⟩ := qc_pp (by decide) hu5 (by omega) (by omega) (by omega) hp
    have f6_22 : V6 (22) = cV τ 22 := (hk6 _ (by omega)).trans f5_22
    have f6_23 : V6 (23) = cV τ 23 := (hk6 _ (by omega)).trans f5_23
    have f6_24 : V6 (24) = cdZ (rMod 0) (cV τ 23) (cV τ 24) := (hk6 _ (by omega)).trans f5_24
    have f6_25 : V6 (25) = cdA (rMod 0) (cV τ 23) := (hk6 _ (by omega)).trans f5_25
    have f6_26 : V6 (26) = pp (rMod 0) (mm (rMod 0) (cdA (rMod 0) (cV τ 23)) (cV τ 22)) (mm (rMod 0) (cdA (rMod 0) (cV τ 23)) (cV τ 22)) := ht6.trans (by simp only [f5_26])
    have hK6 : ∀ r, r < 22 ∨ 27 < r → V6 r = cV τ r := fun r a0 => (hk6 r (by omega)).trans (hK5 r a0)
    clear f5_22 f5_23 f5_24 f5_25 f5_26 ht6 hk6 hu5 hK5 hp
    have f6_26n : V6 (26) = cdB (rMod 0) (cV τ 22) (cV τ 23) := f6_26
    clear f6_26
    refine lv_aload_n hx hb d_C_doubleSum_125 rfl (lv_at hl 0 rfl) ?_
    refine va_get (ci := 0) (C := R_C) (T := F_C) (N := 7) (v := .ref (cO K 5)) hx hb ht ku_C hown hw.2.1 hw.1 7 rfl rfl 0 (by decide) (ht _ kf_C_30) (fun _ h9 => h9) rfl d_C_doubleSum_126 ?_
    refine lv_aload_n hx hb d_C_doubleSum_129 rfl (lv_at hl 0 rfl) ?_
    refine va_get (ci := 0) (C := R_C) (T := F_C) (N := 7) (v := .ref (cR K 22)) hx hb ht ku_C hown hw.2.1 hw.1 7 rfl rfl 1 (by decide) (ht _ kf_C_9) (fun _ h9 => h9) rfl d_C_doubleSum_130 ?_
    refine lv_aload_n hx hb d_C_doubleSum_133 rfl (lv_at hl 0 rfl) ?_
    refine va_get (ci := 0) (C := R_C) (T := F_C) (N := 7) (v := .ref (cR K 22)) hx hb ht ku_C hown hw.2.1 hw.1 7 rfl rfl 1 (by decide) (ht _ kf_C_9) (fun _ h9 => h9) rfl d_C_doubleSum_134 ?_
    refine lv_aload_n hx hb d_C_doubleSum_137 rfl (lv_at hl 0 rfl) ?_
    refine va_get (ci := 0) (C := R_C) (T := F_C) (N := 7) (v := .ref (cR K 22)) hx hb ht ku_C hown hw.2.1 hw.1 7 rfl rfl 1 (by decide) (ht _ kf_C_9) (fun _ h9 => h9) rfl d_C_doubleSum_138 ?_
    refine c_cv (np := 3) (As := [.ref (cR K 22), .ref (cR K 22), .ref (cR K 22)]) (rest := []) ⟨hx, hb, hml, hown, ht⟩ hw (c_M_multiply l K u6 hu6.2.1 (μ := 0) (o := 22) (a := 22) (b := 22) (by decide) (by omega) (by omega) (by omega) (by omega) (by omega)) 5 rfl rfl ⟨km_C_44, kv_M_multiply, kx_M_multiply, kc_M_multiply⟩ ki_M (by decide +kernel) ⟨by decide, by decide⟩ rfl rfl rfl hl.1 rfl (Nat.le_of_ble_eq_true rfl) d_C_doubleSum_141 ⟨Nat.le_refl _, Nat.le_refl _⟩ (fun u7 H locs hp hw => ?_)
    obtain ⟨V7, hu7, ht7, hk7⟩ := qc_mul hu6 (by omega) (by omega) hp
    have f7_23 : V7 (23) = cV τ 23 := (hk7 _ (by omega)).trans f6_23
    have f7_24 : V7 (24) = cdZ (rMod 0) (cV τ 23) (cV τ 24) := (hk7 _ (by omega)).trans f6_24
    have f7_25 : V7 (25) = cdA (rMod 0) (cV τ 23) := (hk7 _ (by omega)).trans f6_25
    have f7_26 : V7 (26) = cdB (rMod 0) (cV τ 22) (cV τ 23) := (hk7 _ (by omega)).trans f6_26n
    have f7_22 : V7 (22) = mm (rMod 0) (cV τ 22) (cV τ 22) := ht7.trans (by simp only [f6_22])
    have hK7 : ∀ r, r < 22 ∨ 27 < r → V7 r = cV τ r := fun r a0 => (hk7 r (by omega)).trans (hK6 r a0)
    clear f6_22 f6_23 f6_24 f6_25 f6_26n ht7 hk7 hu6 hK6 hp
    refine lv_aload_n hx hb d_C_doubleSum_144 rfl (lv_at hl 0 rfl) ?_
    refine va_get (ci := 0) (C := R_C) (T := F_C) (N := 7) (v := .ref (cO K 5)) hx hb ht ku_C hown hw.2.1 hw.1 7 rfl rfl 0 (by decide) (ht _ kf_C_30) (fun _ h9 => h9) rfl d_C_doubleSum_145 ?_
    refine lv_aload_n hx hb d_C_doubleSum_148 rfl (lv_at hl 0 rfl) ?_
    refine va_get (ci := 0) (C := R_C) (T := F_C) (N := 7) (v := .ref (cR K 27)) hx hb ht ku_C hown hw.2.1 hw.1 7 rfl rfl 6 (by decide) (ht _ kf_C_27) (fun _ h9 => h9) rfl d_C_doubleSum_149 ?_
    refine lv_aload_n hx hb d_C_doubleSum_152 rfl (lv_at hl 0 rfl) ?_
    refine va_get (ci := 0) (C := R_C) (T := F_C) (N := 7) (v := .ref (cR K 22)) hx hb ht ku_C hown hw.2.1 hw.1 7 rfl rfl 1 (by decide) (ht _ kf_C_9) (fun _ h9 => h9) rfl d_C_doubleSum_153 ?_
    refine lv_aload_n hx hb d_C_doubleSum_156 rfl (lv_at hl 0 rfl) ?_
    refine va_get (ci := 0) (C := R_C) (T := F_C) (N := 7) (v := .ref (cR K 22)) hx hb ht ku_C hown hw.2.1 hw.1 7 rfl rfl 1 (by decide) (ht _ kf_C_9) (fun _ h9 => h9) rfl d_C_doubleSum_157 ?_
    refine c_cv (np := 3) (As := [.ref (cR K 27), .ref (cR K 22), .ref (cR K 22)]) (rest := []) ⟨hx, hb, hml, hown, ht⟩ hw (c_M_add l K u7 hu7.2.1 (μ := 0) (o := 27) (a := 22) (b := 22) (by decide) (by omega) (by omega) (by omega) (by omega) (by omega) (by rw [hu7.v (by omega), f7_22]; exact mm_lt (rMod_pos (by decide))) (by rw [hu7.v (by omega), f7_22]; exact mm_lt (rMod_pos (by decide)))) 5 rfl rfl ⟨km_C_57, kv_M_add, kx_M_add, kc_M_add⟩ ki_M (by decide +kernel) ⟨by decide, by decide⟩ rfl rfl rfl hl.1 rfl (Nat.le_of_ble_eq_true rfl) d_C_doubleSum_160 ⟨Nat.le_refl _, Nat.le_refl _⟩ (fun u8 H locs hp hw => ?_)
    obtain ⟨V8, hu8, ht8, hk8⟩ := qc_pp (by decide) hu7 (by omega) (by omega) (by omega) hp
    have f8_23 : V8 (23) = cV τ 23 := (hk8 _ (by omega)).trans f7_23
    have f8_24 : V8 (24) = cdZ (rMod 0) (cV τ 23) (cV τ 24) := (hk8 _ (by omega)).trans f7_24
    have f8_25 : V8 (25) = cdA (rMod 0) (cV τ 23) := (hk8 _ (by omega)).trans f7_25
    have f8_26 : V8 (26) = cdB (rMod 0) (cV τ 22) (cV τ 23) := (hk8 _ (by omega)).trans f7_26
    have f8_22 : V8 (22) = mm (rMod 0) (cV τ 22) (cV τ 22) := (hk8 _ (by omega)).trans f7_22
    have f8_27 : V8 (27) = pp (rMod 0) (mm (rMod 0) (cV τ 22) (cV τ 22)) (mm (rMod 0) (cV τ 22) (cV τ 22)) := ht8.trans (by simp only [f7_22])
    have hK8 : ∀ r, r < 22 ∨ 27 < r → V8 r = cV τ r := fun r a0 => (hk8 r (by omega)).trans (hK7 r a0)
    clear f7_23 f7_24 f7_25 f7_26 f7_22 ht8 hk8 hu7 hK7 hp
    refine lv_aload_n hx hb d_C_doubleSum_163 rfl (lv_at hl 0 rfl) ?_
    refine va_get (ci := 0) (C := R_C) (T := F_C) (N := 7) (v := .ref (cO K 5)) hx hb ht ku_C hown hw.2.1 hw.1 7 rfl rfl 0 (by decide) (ht _ kf_C_30) (fun _ h9 => h9) rfl d_C_doubleSum_164 ?_
    refine lv_aload_n hx hb d_C_doubleSum_167 rfl (lv_at hl 0 rfl) ?_
    refine va_get (ci := 0) (C := R_C) (T := F_C) (N := 7) (v := .ref (cR K 27)) hx hb ht ku_C hown hw.2.1 hw.1 7 rfl rfl 6 (by decide) (ht _ kf_C_27) (fun _ h9 => h9) rfl d_C_doubleSum_168 ?_
    refine lv_aload_n hx hb d_C_doubleSum_171 rfl (lv_at hl 0 rfl) ?_
    refine va_get (ci := 0) (C := R_C) (T := F_C) (N := 7) (v := .ref (cR K 27)) hx hb ht ku_C hown hw.2.1 hw.1 7 rfl rfl 6 (by decide) (ht _ kf_C_27) (fun _ h9 => h9) rfl d_C_doubleSum_172 ?_
    refine lv_aload_n hx hb d_C_doubleSum_175 rfl (lv_at hl 0 rfl) ?_
    refine va_get (ci := 0) (C := R_C) (T := F_C) (N := 7) (v := .ref (cR K 22)) hx hb ht ku_C hown hw.2.1 hw.1 7 rfl rfl 1 (by decide) (ht _ kf_C_9) (fun _ h9 => h9) rfl d_C_doubleSum_176 ?_
    refine c_cv (np := 3) (As := [.ref (cR K 27), .ref (cR K 27), .ref (cR K 22)]) (rest := []) ⟨hx, hb, hml, hown, ht⟩ hw (c_M_add l K u8 hu8.2.1 (μ := 0) (o := 27) (a := 27) (b := 22) (by decide) (by omega) (by omega) (by omega) (by omega) (by omega) (by rw [hu8.v (by omega), f8_27]; exact pp_lt (rMod_pos (by decide))) (by rw [hu8.v (by omega), f8_22]; exact mm_lt (rMod_pos (by decide)))) 5 rfl rfl ⟨km_C_57, kv_M_add, kx_M_add, kc_M_add⟩ ki_M (by decide +kernel) ⟨by decide, by decide⟩ rfl rfl rfl hl.1 rfl (Nat.le_of_ble_eq_true rfl) d_C_doubleSum_179 ⟨Nat.le_refl _, Nat.le_refl _⟩ (fun u9 H locs hp hw => ?_)
    obtain ⟨V9, hu9, ht9, hk9⟩ := qc_pp (by decide) hu8 (by omega) (by omega) (by omega) hp
    have f9_23 : V9 (23) = cV τ 23 := (hk9 _ (by omega)).trans f8_23
    have f9_24 : V9 (24) = cdZ (rMod 0) (cV τ 23) (cV τ 24) := (hk9 _ (by omega)).trans f8_24
    have f9_25 : V9 (25) = cdA (rMod 0) (cV τ 23) := (hk9 _ (by omega)).trans f8_25
    have f9_26 : V9 (26) = cdB (rMod 0) (cV τ 22) (cV τ 23) := (hk9 _ (by omega)).trans f8_26
    have f9_22 : V9 (22) = mm (rMod 0) (cV τ 22) (cV τ 22) := (hk9 _ (by omega)).trans f8_22
    have f9_27 : V9 (27) = pp (rMod 0) (pp (rMod 0) (mm (rMod 0) (cV τ 22) (cV τ 22)) (mm (rMod 0) (cV τ 22) (cV τ 22))) (mm (rMod 0) (cV τ 22) (cV τ 22)) := ht9.trans (by simp only [f8_22, f8_27])
    have hK9 : ∀ r, r < 22 ∨ 27 < r → V9 r = cV τ r := fun r a0 => (hk9 r (by omega)).trans (hK8 r a0)
    clear f8_23 f8_24 f8_25 f8_26 f8_22 f8_27 ht9 hk9 hu8 hK8 hp
    have f9_27n : V9 (27) = cdC (rMod 0) (cV τ 22) := f9_27
    clear f9_27
    refine lv_aload_n hx hb d_C_doubleSum_182 rfl (lv_at hl 0 rfl) ?_
    refine va_get (ci := 0) (C := R_C) (T := F_C) (N := 7) (v := .ref (cO K 5)) hx hb ht ku_C hown hw.2.1 hw.1 7 rfl rfl 0 (by decide) (ht _ kf_C_30) (fun _ h9 => h9) rfl d_C_doubleSum_183 ?_
    refine lv_aload_n hx hb d_C_doubleSum_186 rfl (lv_at hl 0 rfl) ?_
    refine va_get (ci := 0) (C := R_C) (T := F_C) (N := 7) (v := .ref (cR K 22)) hx hb ht ku_C hown hw.2.1 hw.1 7 rfl rfl 1 (by decide) (ht _ kf_C_9) (fun _ h9 => h9) rfl d_C_doubleSum_187 ?_
    refine lv_aload_n hx hb d_C_doubleSum_190 rfl (lv_at hl 0 rfl) ?_
    refine va_get (ci := 0) (C := R_C) (T := F_C) (N := 7) (v := .ref (cR K 27)) hx hb ht ku_C hown hw.2.1 hw.1 7 rfl rfl 6 (by decide) (ht _ kf_C_27) (fun _ h9 => h9) rfl d_C_doubleSum_191 ?_
    refine lv_aload_n hx hb d_C_doubleSum_194 rfl (lv_at hl 0 rfl) ?_
    refine va_get (ci := 0) (C := R_C) (T := F_C) (N := 7) (v := .ref (cR K 27)) hx hb ht ku_C hown hw.2.1 hw.1 7 rfl rfl 6 (by decide) (ht _ kf_C_27) (fun _ h9 => h9) rfl d_C_doubleSum_195 ?_
    refine c_cv (np := 3) (As := [.ref (cR K 22), .ref (cR K 27), .ref (cR K 27)]) (rest := []) ⟨hx, hb, hml, hown, ht⟩ hw (c_M_multiply l K u9 hu9.2.1 (μ := 0) (o := 22) (a := 27) (b := 27) (by decide) (by omega) (by omega) (by omega) (by omega) (by omega)) 5 rfl rfl ⟨km_C_44, kv_M_multiply, kx_M_multiply, kc_M_multiply⟩ ki_M (by decide +kernel) ⟨by decide, by decide⟩ rfl rfl rfl hl.1 rfl (Nat.le_of_ble_eq_true rfl) d_C_doubleSum_198 ⟨Nat.le_refl _, Nat.le_refl _⟩ (fun u10 H locs hp hw => ?_)
    obtain ⟨V10, hu10, ht10, hk10⟩ := qc_mul hu9 (by omega) (by omega) hp
    have f10_23 : V10 (23) = cV τ 23 := (hk10 _ (by omega)).trans f9_23
    have f10_24 : V10 (24) = cdZ (rMod 0) (cV τ 23) (cV τ 24) := (hk10 _ (by omega)).trans f9_24
    have f10_25 : V10 (25) = cdA (rMod 0) (cV τ 23) := (hk10 _ (by omega)).trans f9_25
    have f10_26 : V10 (26) = cdB (rMod 0) (cV τ 22) (cV τ 23) := (hk10 _ (by omega)).trans f9_26
    have f10_27 : V10 (27) = cdC (rMod 0) (cV τ 22) := (hk10 _ (by omega)).trans f9_27n
    have f10_22 : V10 (22) = mm (rMod 0) (cdC (rMod 0) (cV τ 22)) (cdC (rMod 0) (cV τ 22)) := ht10.trans (by simp only [f9_27n])
    have hK10 : ∀ r, r < 22 ∨ 27 < r → V10 r = cV τ r := fun r a0 => (hk10 r (by omega)).trans (hK9 r a0)
    clear f9_23 f9_24 f9_25 f9_26 f9_22 f9_27n ht10 hk10 hu9 hK9 hp
    refine lv_aload_n hx hb d_C_doubleSum_201 rfl (lv_at hl 0 rfl) ?_
    refine va_get (ci := 0) (C := R_C) (T := F_C) (N := 7) (v := .ref (cO K 5)) hx hb ht ku_C hown hw.2.1 hw.1 7 rfl rfl 0 (by decide) (ht _ kf_C_30) (fun _ h9 => h9) rfl d_C_doubleSum_202 ?_
    refine lv_aload_n hx hb d_C_doubleSum_205 rfl (lv_at hl 0 rfl) ?_
    refine va_get (ci := 0) (C := R_C) (T := F_C) (N := 7) (v := .ref (cR K 22)) hx hb ht ku_C hown hw.2.1 hw.1 7 rfl rfl 1 (by decide) (ht _ kf_C_9) (fun _ h9 => h9) rfl d_C_doubleSum_206 ?_
    refine lv_aload_n hx hb d_C_doubleSum_209 rfl (lv_at hl 0 rfl) ?_
    refine va_get (ci := 0) (C := R_C) (T := F_C) (N := 7) (v := .ref (cR K 22)) hx hb ht ku_C hown hw.2.1 hw.1 7 rfl rfl 1 (by decide) (ht _ kf_C_9) (fun _ h9 => h9) rfl d_C_doubleSum_210 ?_
    refine lv_aload_n hx hb d_C_doubleSum_213 rfl (lv_at hl 0 rfl) ?_
    refine va_get (ci := 0) (C := R_C) (T := F_C) (N := 7) (v := .ref (cR K 26)) hx hb ht ku_C hown hw.2.1 hw.1 7 rfl rfl 5 (by decide) (ht _ kf_C_24) (fun _ h9 => h9) rfl d_C_doubleSum_214 ?_
    refine c_cv (np := 3) (As := [.ref (cR K 22), .ref (cR K 22), .ref (cR K 26)]) (rest := []) ⟨hx, hb, hml, hown, ht⟩ hw (c_M_subtract l K u10 hu10.2.1 (μ := 0) (o := 22) (a := 22) (b := 26) (by decide) (by omega) (by omega) (by omega) (by omega) (by omega) (by rw [hu10.v (by omega), f10_22]; exact mm_lt (rMod_pos (by decide))) (by rw [hu10.v (by omega), f10_26]; exact pp_lt (rMod_pos (by decide)))) 5 rfl rfl ⟨km_C_72, kv_M_subtract, kx_M_subtract, kc_M_subtract⟩ ki_M (by decide +kernel) ⟨by decide, by decide⟩ rfl rfl rfl hl.1 rfl (Nat.le_of_ble_eq_true rfl) d_C_doubleSum_217 ⟨Nat.le_refl _, Nat.le_refl _⟩ (fun u11 H locs hp hw => ?_)
    obtain ⟨V11, hu11, ht11, hk11⟩ := qc_ss (by decide) hu10 (by omega) (by omega) (by omega) hp
    have f11_23 : V11 (23) = cV τ 23 := (hk11 _ (by omega)).trans f10_23
    have f11_24 : V11 (24) = cdZ (rMod 0) (cV τ 23) (cV τ 24) := (hk11 _ (by omega)).trans f10_24
    have f11_25 : V11 (25) = cdA (rMod 0) (cV τ 23) := (hk11 _ (by omega)).trans f10_25
    have f11_26 : V11 (26) = cdB (rMod 0) (cV τ 22) (cV τ 23) := (hk11 _ (by omega)).trans f10_26
    have f11_27 : V11 (27) = cdC (rMod 0) (cV τ 22) := (hk11 _ (by omega)).trans f10_27
    have f11_22 : V11 (22) = ss (rMod 0) (mm (rMod 0) (cdC (rMod 0) (cV τ 22)) (cdC (rMod 0) (cV τ 22))) (cdB (rMod 0) (cV τ 22) (cV τ 23)) := ht11.trans (by simp only [f10_22, f10_26])
    have hK11 : ∀ r, r < 22 ∨ 27 < r → V11 r = cV τ r := fun r a0 => (hk11 r (by omega)).trans (hK10 r a0)
    clear f10_23 f10_24 f10_25 f10_26 f10_27 f10_22 ht11 hk11 hu10 hK10 hp
    refine lv_aload_n hx hb d_C_doubleSum_220 rfl (lv_at hl 0 rfl) ?_
    refine va_get (ci := 0) (C := R_C) (T := F_C) (N := 7) (v := .ref (cO K 5)) hx hb ht ku_C hown hw.2.1 hw.1 7 rfl rfl 0 (by decide) (ht _ kf_C_30) (fun _ h9 => h9) rfl d_C_doubleSum_221 ?_
    refine lv_aload_n hx hb d_C_doubleSum_224 rfl (lv_at hl 0 rfl) ?_
    refine va_get (ci := 0) (C := R_C) (T := F_C) (N := 7) (v := .ref (cR K 22)) hx hb ht ku_C hown hw.2.1 hw.1 7 rfl rfl 1 (by decide) (ht _ kf_C_9) (fun _ h9 => h9) rfl d_C_doubleSum_225 ?_
    refine lv_aload_n hx hb d_C_doubleSum_228 rfl (lv_at hl 0 rfl) ?_
    refine va_get (ci := 0) (C := R_C) (T := F_C) (N := 7) (v := .ref (cR K 22)) hx hb ht ku_C hown hw.2.1 hw.1 7 rfl rfl 1 (by decide) (ht _ kf_C_9) (fun _ h9 => h9) rfl d_C_doubleSum_229 ?_
    refine lv_aload_n hx hb d_C_doubleSum_232 rfl (lv_at hl 0 rfl) ?_
    refine va_get (ci := 0) (C := R_C) (T := F_C) (N := 7) (v := .ref (cR K 26)) hx hb ht ku_C hown hw.2.1 hw.1 7 rfl rfl 5 (by decide) (ht _ kf_C_24) (fun _ h9 => h9) rfl d_C_doubleSum_233 ?_
    refine c_cv (np := 3) (As := [.ref (cR K 22), .ref (cR K 22), .ref (cR K 26)]) (rest := []) ⟨hx, hb, hml, hown, ht⟩ hw (c_M_subtract l K u11 hu11.2.1 (μ := 0) (o := 22) (a := 22) (b := 26) (by decide) (by omega) (by omega) (by omega) (by omega) (by omega) (by rw [hu11.v (by omega), f11_22]; exact ss_lt (rMod_pos (by decide))) (by rw [hu11.v (by omega), f11_26]; exact pp_lt (rMod_pos (by decide)))) 5 rfl rfl ⟨km_C_72, kv_M_subtract, kx_M_subtract, kc_M_subtract⟩ ki_M (by decide +kernel) ⟨by decide, by decide⟩ rfl rfl rfl hl.1 rfl (Nat.le_of_ble_eq_true rfl) d_C_doubleSum_236 ⟨Nat.le_refl _, Nat.le_refl _⟩ (fun u12 H locs hp hw => ?_)
    obtain ⟨V12, hu12, ht12, hk12⟩ := qc_ss (by decide) hu11 (by omega) (by omega) (by omega) hp
    have f12_23 : V12 (23) = cV τ 23 := (hk12 _ (by omega)).trans f11_23
    have f12_24 : V12 (24) = cdZ (rMod 0) (cV τ 23) (cV τ 24) := (hk12 _ (by omega)).trans f11_24
    have f12_25 : V12 (25) = cdA (rMod 0) (cV τ 23) := (hk12 _ (by omega)).trans f11_25
    have f12_26 : V12 (26) = cdB (rMod 0) (cV τ 22) (cV τ 23) := (hk12 _ (by omega)).trans f11_26
    have f12_27 : V12 (27) = cdC (rMod 0) (cV τ 22) := (hk12 _ (by omega)).trans f11_27
    have f12_22 : V12 (22) = ss (rMod 0) (ss (rMod 0) (mm (rMod 0) (cdC (rMod 0) (cV τ 22)) (cdC (rMod 0) (cV τ 22))) (cdB (rMod 0) (cV τ 22) (cV τ 23))) (cdB (rMod 0) (cV τ 22) (cV τ 23)) := ht12.trans (by simp only [f11_22, f11_26])
    have hK12 : ∀ r, r < 22 ∨ 27 < r → V12 r = cV τ r := fun r a0 => (hk12 r (by omega)).trans (hK11 r a0)
    clear f11_23 f11_24 f11_25 f11_26 f11_27 f11_22 ht12 hk12 hu11 hK11 hp
    have f12_22n : V12 (22) = cdX (rMod 0) (cV τ 22) (cV τ 23) := f12_22
    clear f12_22
    refine lv_aload_n hx hb d_C_doubleSum_239 rfl (lv_at hl 0 rfl) ?_
    refine va_get (ci := 0) (C := R_C) (T := F_C) (N := 7) (v := .ref (cO K 5)) hx hb ht ku_C hown hw.2.1 hw.1 7 rfl rfl 0 (by decide) (ht _ kf_C_30) (fun _ h9 => h9) rfl d_C_doubleSum_240 ?_
    refine lv_aload_n hx hb d_C_doubleSum_243 rfl (lv_at hl 0 rfl) ?_
    refine va_get (ci := 0) (C := R_C) (T := F_C) (N := 7) (v := .ref (cR K 26)) hx hb ht ku_C hown hw.2.1 hw.1 7 rfl rfl 5 (by decide) (ht _ kf_C_24) (fun _ h9 => h9) rfl d_C_doubleSum_244 ?_
    refine lv_aload_n hx hb d_C_doubleSum_247 rfl (lv_at hl 0 rfl) ?_
    refine va_get (ci := 0) (C := R_C) (T := F_C) (N := 7) (v := .ref (cR K 26)) hx hb ht ku_C hown hw.2.1 hw.1 7 rfl rfl 5 (by decide) (ht _ kf_C_24) (fun _ h9 => h9) rfl d_C_doubleSum_248 ?_
    refine lv_aload_n hx hb d_C_doubleSum_251 rfl (lv_at hl 0 rfl) ?_
    refine va_get (ci := 0) (C := R_C) (T := F_C) (N := 7) (v := .ref (cR K 22)) hx hb ht ku_C hown hw.2.1 hw.1 7 rfl rfl 1 (by decide) (ht _ kf_C_9) (fun _ h9 => h9) rfl d_C_doubleSum_252 ?_
    refine c_cv (np := 3) (As := [.ref (cR K 26), .ref (cR K 26), .ref (cR K 22)]) (rest := []) ⟨hx, hb, hml, hown, ht⟩ hw (c_M_subtract l K u12 hu12.2.1 (μ := 0) (o := 26) (a := 26) (b := 22) (by decide) (by omega) (by omega) (by omega) (by omega) (by omega) (by rw [hu12.v (by omega), f12_26]; exact pp_lt (rMod_pos (by decide))) (by rw [hu12.v (by omega), f12_22n]; exact ss_lt (rMod_pos (by decide)))) 5 rfl rfl ⟨km_C_72, kv_M_subtract, kx_M_subtract, kc_M_subtract⟩ ki_M (by decide +kernel) ⟨by decide, by decide⟩ rfl rfl rfl hl.1 rfl (Nat.le_of_ble_eq_true rfl) d_C_doubleSum_255 ⟨Nat.le_refl _, Nat.le_refl _⟩ (fun u13 H locs hp hw => ?_)
    obtain ⟨V13, hu13, ht13, hk13⟩ := qc_ss (by decide) hu12 (by omega) (by omega) (by omega) hp
    have f13_23 : V13 (23) = cV τ 23 := (hk13 _ (by omega)).trans f12_23
    have f13_24 : V13 (24) = cdZ (rMod 0) (cV τ 23) (cV τ 24) := (hk13 _ (by omega)).trans f12_24
    have f13_25 : V13 (25) = cdA (rMod 0) (cV τ 23) := (hk13 _ (by omega)).trans f12_25
    have f13_27 : V13 (27) = cdC (rMod 0) (cV τ 22) := (hk13 _ (by omega)).trans f12_27
    have f13_22 : V13 (22) = cdX (rMod 0) (cV τ 22) (cV τ 23) := (hk13 _ (by omega)).trans f12_22n
    have f13_26 : V13 (26) = ss (rMod 0) (cdB (rMod 0) (cV τ 22) (cV τ 23)) (cdX (rMod 0) (cV τ 22) (cV τ 23)) := ht13.trans (by simp only [f12_22n, f12_26])
    have hK13 : ∀ r, r < 22 ∨ 27 < r → V13 r = cV τ r := fun r a0 => (hk13 r (by omega)).trans (hK12 r a0)
    clear f12_23 f12_24 f12_25 f12_26 f12_27 f12_22n ht13 hk13 hu12 hK12 hp
    refine lv_aload_n hx hb d_C_doubleSum_258 rfl (lv_at hl 0 rfl) ?_
    refine va_get (ci := 0) (C := R_C) (T := F_C) (N := 7) (v := .ref (cO K 5)) hx hb ht ku_C hown hw.2.1 hw.1 7 rfl rfl 0 (by decide) (ht _ kf_C_30) (fun _ h9 => h9) rfl d_C_doubleSum_259 ?_
    refine lv_aload_n hx hb d_C_doubleSum_262 rfl (lv_at hl 0 rfl) ?_
    refine va_get (ci := 0) (C := R_C) (T := F_C) (N := 7) (v := .ref (cR K 26)) hx hb ht ku_C hown hw.2.1 hw.1 7 rfl rfl 5 (by decide) (ht _ kf_C_24) (fun _ h9 => h9) rfl d_C_doubleSum_263 ?_
    refine lv_aload_n hx hb d_C_doubleSum_266 rfl (lv_at hl 0 rfl) ?_
    refine va_get (ci := 0) (C := R_C) (T := F_C) (N := 7) (v := .ref (cR K 26)) hx hb ht ku_C hown hw.2.1 hw.1 7 rfl rfl 5 (by decide) (ht _ kf_C_24) (fun _ h9 => h9) rfl d_C_doubleSum_267 ?_
    refine lv_aload_n hx hb d_C_doubleSum_270 rfl (lv_at hl 0 rfl) ?_
    refine va_get (ci := 0) (C := R_C) (T := F_C) (N := 7) (v := .ref (cR K 27)) hx hb ht ku_C hown hw.2.1 hw.1 7 rfl rfl 6 (by decide) (ht _ kf_C_27) (fun _ h9 => h9) rfl d_C_doubleSum_271 ?_
    refine c_cv (np := 3) (As := [.ref (cR K 26), .ref (cR K 26), .ref (cR K 27)]) (rest := []) ⟨hx, hb, hml, hown, ht⟩ hw (c_M_multiply l K u13 hu13.2.1 (μ := 0) (o := 26) (a := 26) (b := 27) (by decide) (by omega) (by omega) (by omega) (by omega) (by omega)) 5 rfl rfl ⟨km_C_44, kv_M_multiply, kx_M_multiply, kc_M_multiply⟩ ki_M (by decide +kernel) ⟨by decide, by decide⟩ rfl rfl rfl hl.1 rfl (Nat.le_of_ble_eq_true rfl) d_C_doubleSum_274 ⟨Nat.le_refl _, Nat.le_refl _⟩ (fun u14 H locs hp hw => ?_)
    obtain ⟨V14, hu14, ht14, hk14⟩ := qc_mul hu13 (by omega) (by omega) hp
    have f14_23 : V14 (23) = cV τ 23 := (hk14 _ (by omega)).trans f13_23
    have f14_24 : V14 (24) = cdZ (rMod 0) (cV τ 23) (cV τ 24) := (hk14 _ (by omega)).trans f13_24
    have f14_25 : V14 (25) = cdA (rMod 0) (cV τ 23) := (hk14 _ (by omega)).trans f13_25
    have f14_27 : V14 (27) = cdC (rMod 0) (cV τ 22) := (hk14 _ (by omega)).trans f13_27
    have f14_22 : V14 (22) = cdX (rMod 0) (cV τ 22) (cV τ 23) := (hk14 _ (by omega)).trans f13_22
    have f14_26 : V14 (26) = mm (rMod 0) (ss (rMod 0) (cdB (rMod 0) (cV τ 22) (cV τ 23)) (cdX (rMod 0) (cV τ 22) (cV τ 23))) (cdC (rMod 0) (cV τ 22)) := ht14.trans (by simp only [f13_26, f13_27])
    have hK14 : ∀ r, r < 22 ∨ 27 < r → V14 r = cV τ r := fun r a0 => (hk14 r (by omega)).trans (hK13 r a0)
    clear f13_23 f13_24 f13_25 f13_27 f13_22 f13_26 ht14 hk14 hu13 hK13 hp
    refine lv_aload_n hx hb d_C_doubleSum_277 rfl (lv_at hl 0 rfl) ?_
    refine va_get (ci := 0) (C := R_C) (T := F_C) (N := 7) (v := .ref (cO K 5)) hx hb ht ku_C hown hw.2.1 hw.1 7 rfl rfl 0 (by decide) (ht _ kf_C_30) (fun _ h9 => h9) rfl d_C_doubleSum_278 ?_
    refine lv_aload_n hx hb d_C_doubleSum_281 rfl (lv_at hl 0 rfl) ?_
    refine va_get (ci := 0) (C := R_C) (T := F_C) (N := 7) (v := .ref (cR K 25)) hx hb ht ku_C hown hw.2.1 hw.1 7 rfl rfl 4 (by decide) (ht _ kf_C_21) (fun _ h9 => h9) rfl d_C_doubleSum_282 ?_
    refine lv_aload_n hx hb d_C_doubleSum_285 rfl (lv_at hl 0 rfl) ?_
    refine va_get (ci := 0) (C := R_C) (T := F_C) (N := 7) (v := .ref (cR K 25)) hx hb ht ku_C hown hw.2.1 hw.1 7 rfl rfl 4 (by decide) (ht _ kf_C_21) (fun _ h9 => h9) rfl d_C_doubleSum_286 ?_
    refine lv_aload_n hx hb d_C_doubleSum_289 rfl (lv_at hl 0 rfl) ?_
    refine va_get (ci := 0) (C := R_C) (T := F_C) (N := 7) (v := .ref (cR K 25)) hx hb ht ku_C hown hw.2.1 hw.1 7 rfl rfl 4 (by decide) (ht _ kf_C_21) (fun _ h9 => h9) rfl d_C_doubleSum_290 ?_
    refine c_cv (np := 3) (As := [.ref (cR K 25), .ref (cR K 25), .ref (cR K 25)]) (rest := []) ⟨hx, hb, hml, hown, ht⟩ hw (c_M_multiply l K u14 hu14.2.1 (μ := 0) (o := 25) (a := 25) (b := 25) (by decide) (by omega) (by omega) (by omega) (by omega) (by omega)) 5 rfl rfl ⟨km_C_44, kv_M_multiply, kx_M_multiply, kc_M_multiply⟩ ki_M (by decide +kernel) ⟨by decide, by decide⟩ rfl rfl rfl hl.1 rfl (Nat.le_of_ble_eq_true rfl) d_C_doubleSum_293 ⟨Nat.le_refl _, Nat.le_refl _⟩ (fun u15 H locs hp hw => ?_)
    obtain ⟨V15, hu15, ht15, hk15⟩ := qc_mul hu14 (by omega) (by omega) hp
    have f15_23 : V15 (23) = cV τ 23 := (hk15 _ (by omega)).trans f14_23
    have f15_24 : V15 (24) = cdZ (rMod 0) (cV τ 23) (cV τ 24) := (hk15 _ (by omega)).trans f14_24
    have f15_27 : V15 (27) = cdC (rMod 0) (cV τ 22) := (hk15 _ (by omega)).trans f14_27
    have f15_22 : V15 (22) = cdX (rMod 0) (cV τ 22) (cV τ 23) := (hk15 _ (by omega)).trans f14_22
    have f15_26 : V15 (26) = mm (rMod 0) (ss (rMod 0) (cdB (rMod 0) (cV τ 22) (cV τ 23)) (cdX (rMod 0) (cV τ 22) (cV τ 23))) (cdC (rMod 0) (cV τ 22)) := (hk15 _ (by omega)).trans f14_26
    have f15_25 : V15 (25) = mm (rMod 0) (cdA (rMod 0) (cV τ 23)) (cdA (rMod 0) (cV τ 23)) := ht15.trans (by simp only [f14_25])
    have hK15 : ∀ r, r < 22 ∨ 27 < r → V15 r = cV τ r := fun r a0 => (hk15 r (by omega)).trans (hK14 r a0)
    clear f14_23 f14_24 f14_25 f14_27 f14_22 f14_26 ht15 hk15 hu14 hK14 hp
    refine lv_aload_n hx hb d_C_doubleSum_296 rfl (lv_at hl 0 rfl) ?_
    refine va_get (ci := 0) (C := R_C) (T := F_C) (N := 7) (v := .ref (cO K 5)) hx hb ht ku_C hown hw.2.1 hw.1 7 rfl rfl 0 (by decide) (ht _ kf_C_30) (fun _ h9 => h9) rfl d_C_doubleSum_297 ?_
    refine lv_aload_n hx hb d_C_doubleSum_300 rfl (lv_at hl 0 rfl) ?_
    refine va_get (ci := 0) (C := R_C) (T := F_C) (N := 7) (v := .ref (cR K 25)) hx hb ht ku_C hown hw.2.1 hw.1 7 rfl rfl 4 (by decide) (ht _ kf_C_21) (fun _ h9 => h9) rfl d_C_doubleSum_301 ?_
    refine lv_aload_n hx hb d_C_doubleSum_304 rfl (lv_at hl 0 rfl) ?_
    refine va_get (ci := 0) (C := R_C) (T := F_C) (N := 7) (v := .ref (cR K 25)) hx hb ht ku_C hown hw.2.1 hw.1 7 rfl rfl 4 (by decide) (ht _ kf_C_21) (fun _ h9 => h9) rfl d_C_doubleSum_305 ?_
    refine lv_aload_n hx hb d_C_doubleSum_308 rfl (lv_at hl 0 rfl) ?_
    refine va_get (ci := 0) (C := R_C) (T := F_C) (N := 7) (v := .ref (cR K 25)) hx hb ht ku_C hown hw.2.1 hw.1 7 rfl rfl 4 (by decide) (ht _ kf_C_21) (fun _ h9 => h9) rfl d_C_doubleSum_309 ?_
    refine c_cv (np := 3) (As := [.ref (cR K 25), .ref (cR K 25), .ref (cR K 25)]) (rest := []) ⟨hx, hb, hml, hown, ht⟩ hw (c_M_add l K u15 hu15.2.1 (μ := 0) (o := 25) (a := 25) (b := 25) (by decide) (by omega) (by omega) (by omega) (by omega) (by omega) (by rw [hu15.v (by omega), f15_25]; exact mm_lt (rMod_pos (by decide))) (by rw [hu15.v (by omega), f15_25]; exact mm_lt (rMod_pos (by decide)))) 5 rfl rfl ⟨km_C_57, kv_M_add, kx_M_add, kc_M_add⟩ ki_M (by decide +kernel) ⟨by decide, by decide⟩ rfl rfl rfl hl.1 rfl (Nat.le_of_ble_eq_true rfl) d_C_doubleSum_312 ⟨Nat.le_refl _, Nat.le_refl _⟩ (fun u16 H locs hp hw => ?_)
    obtain ⟨V16, hu16, ht16, hk16⟩ := qc_pp (by decide) hu15 (by omega) (by omega) (by omega) hp
    have f16_23 : V16 (23) = cV τ 23 := (hk16 _ (by omega)).trans f15_23
    have f16_24 : V16 (24) = cdZ (rMod 0) (cV τ 23) (cV τ 24) := (hk16 _ (by omega)).trans f15_24
    have f16_27 : V16 (27) = cdC (rMod 0) (cV τ 22) := (hk16 _ (by omega)).trans f15_27
    have f16_22 : V16 (22) = cdX (rMod 0) (cV τ 22) (cV τ 23) := (hk16 _ (by omega)).trans f15_22
    have f16_26 : V16 (26) = mm (rMod 0) (ss (rMod 0) (cdB (rMod 0) (cV τ 22) (cV τ 23)) (cdX (rMod 0) (cV τ 22) (cV τ 23))) (cdC (rMod 0) (cV τ 22)) := (hk16 _ (by omega)).trans f15_26
    have f16_25 : V16 (25) = pp (rMod 0) (mm (rMod 0) (cdA (rMod 0) (cV τ 23)) (cdA (rMod 0) (cV τ 23))) (mm (rMod 0) (cdA (rMod 0) (cV τ 23)) (cdA (rMod 0) (cV τ 23))) := ht16.trans (by simp only [f15_25])
    have hK16 : ∀ r, r < 22 ∨ 27 < r → V16 r = cV τ r := fun r a0 => (hk16 r (by omega)).trans (hK15 r a0)
    clear f15_23 f15_24 f15_27 f15_22 f15_26 f15_25 ht16 hk16 hu15 hK15 hp
    refine lv_aload_n hx hb d_C_doubleSum_315 rfl (lv_at hl 0 rfl) ?_
    refine va_get (ci := 0) (C := R_C) (T := F_C) (N := 7) (v := .ref (cO K 5)) hx hb ht ku_C hown hw.2.1 hw.1 7 rfl rfl 0 (by decide) (ht _ kf_C_30) (fun _ h9 => h9) rfl d_C_doubleSum_316 ?_
    refine lv_aload_n hx hb d_C_doubleSum_319 rfl (lv_at hl 0 rfl) ?_
    refine va_get (ci := 0) (C := R_C) (T := F_C) (N := 7) (v := .ref (cR K 23)) hx hb ht ku_C hown hw.2.1 hw.1 7 rfl rfl 2 (by decide) (ht _ kf_C_15) (fun _ h9 => h9) rfl d_C_doubleSum_320 ?_
    refine lv_aload_n hx hb d_C_doubleSum_323 rfl (lv_at hl 0 rfl) ?_
    refine va_get (ci := 0) (C := R_C) (T := F_C) (N := 7) (v := .ref (cR K 26)) hx hb ht ku_C hown hw.2.1 hw.1 7 rfl rfl 5 (by decide) (ht _ kf_C_24) (fun _ h9 => h9) rfl d_C_doubleSum_324 ?_
    refine lv_aload_n hx hb d_C_doubleSum_327 rfl (lv_at hl 0 rfl) ?_
    refine va_get (ci := 0) (C := R_C) (T := F_C) (N := 7) (v := .ref (cR K 25)) hx hb ht ku_C hown hw.2.1 hw.1 7 rfl rfl 4 (by decide) (ht _ kf_C_21) (fun _ h9 => h9) rfl d_C_doubleSum_328 ?_
    refine c_cv (np := 3) (As := [.ref (cR K 23), .ref (cR K 26), .ref (cR K 25)]) (rest := []) ⟨hx, hb, hml, hown, ht⟩ hw (c_M_subtract l K u16 hu16.2.1 (μ := 0) (o := 23) (a := 26) (b := 25) (by decide) (by omega) (by omega) (by omega) (by omega) (by omega) (by rw [hu16.v (by omega), f16_26]; exact mm_lt (rMod_pos (by decide))) (by rw [hu16.v (by omega), f16_25]; exact pp_lt (rMod_pos (by decide)))) 5 rfl rfl ⟨km_C_72, kv_M_subtract, kx_M_subtract, kc_M_subtract⟩ ki_M (by decide +kernel) ⟨by decide, by decide⟩ rfl rfl rfl hl.1 rfl (Nat.le_of_ble_eq_true rfl) d_C_doubleSum_331 ⟨Nat.le_refl _, Nat.le_refl _⟩ (fun u17 H locs hp hw => ?_)
    obtain ⟨V17, hu17, ht17, hk17⟩ := qc_ss (by decide) hu16 (by omega) (by omega) (by omega) hp
    have f17_24 : V17 (24) = cdZ (rMod 0) (cV τ 23) (cV τ 24) := (hk17 _ (by omega)).trans f16_24
    have f17_27 : V17 (27) = cdC (rMod 0) (cV τ 22) := (hk17 _ (by omega)).trans f16_27
    have f17_22 : V17 (22) = cdX (rMod 0) (cV τ 22) (cV τ 23) := (hk17 _ (by omega)).trans f16_22
    have f17_26 : V17 (26) = mm (rMod 0) (ss (rMod 0) (cdB (rMod 0) (cV τ 22) (cV τ 23)) (cdX (rMod 0) (cV τ 22) (cV τ 23))) (cdC (rMod 0) (cV τ 22)) := (hk17 _ (by omega)).trans f16_26
    have f17_25 : V17 (25) = pp (rMod 0) (mm (rMod 0) (cdA (rMod 0) (cV τ 23)) (cdA (rMod 0) (cV τ 23))) (mm (rMod 0) (cdA (rMod 0) (cV τ 23)) (cdA (rMod 0) (cV τ 23))) := (hk17 _ (by omega)).trans f16_25
    have f17_23 : V17 (23) = ss (rMod 0) (mm (rMod 0) (ss (rMod 0) (cdB (rMod 0) (cV τ 22) (cV τ 23)) (cdX (rMod 0) (cV τ 22) (cV τ 23))) (cdC (rMod 0) (cV τ 22))) (pp (rMod 0) (mm (rMod 0) (cdA (rMod 0) (cV τ 23)) (cdA (rMod 0) (cV τ 23))) (mm (rMod 0) (cdA (rMod 0) (cV τ 23)) (cdA (rMod 0) (cV τ 23)))) := ht17.trans (by simp only [f16_25, f16_26])
    have hK17 : ∀ r, r < 22 ∨ 27 < r → V17 r = cV τ r := fun r a0 => (hk17 r (by omega)).trans (hK16 r a0)
    clear f16_23 f16_24 f16_27 f16_22 f16_26 f16_25 ht17 hk17 hu16 hK16 hp
    have f17_23n : V17 (23) = cdY (rMod 0) (cV τ 22) (cV τ 23) := f17_23
    clear f17_23
    refine z_vret (cZ K) hx hb hr hlocks u17 hw ⟨V17, hu17, ?_, hK17⟩ d_C_doubleSum_334
    rw [f17_22, f17_23n, f17_24, cdb, if_neg (show ¬ (cV τ 22, cV τ 23, cV τ 24).2.2 = 0 from c2)]
  · have c2 := boolN_1 c1
    refine z_vret (cZ K) hx hb hr hlocks u0 hw ⟨V0, hu0, ?_, hK0⟩ d_C_doubleSum_10
    rw [f0_22, f0_23, f0_24, cdb, if_pos (show (cV τ 22, cV τ 23, cV τ 24).2.2 = 0 from c2)]
