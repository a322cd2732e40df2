/-! the class's curve: squares and roots -/
set_option maxHeartbeats 4000000 in
set_option maxRecDepth 100000 in
theorem c_C_findSquareOfY (l : Launch) (K : cG) (τ : cT) (hok : cOk τ) {o x : Nat} (ho : o < 30) (h1 : x < 30 ∨ 33 < x) (h2 : x < 44) (hx7 : x ≠ 27) : Met l y_C_findSquareOfY (zW y_C_findSquareOfY b_C_findSquareOfY 3 none) (zr 4 88) (va_Pc [.ref (cO K 7), .ref (cR K o), .ref (cR K x)] (cC K τ)) (va_Qv (fun u => ∃ V, cU τ V u ∧ V o = pp (rMod 0) (mm (rMod 0) (mm (rMod 0) (cV τ x) (cV τ x)) (cV τ x)) 7 ∧ ∀ r, r ≠ o → r ≠ 27 → V r = cV τ r) (fun u => cC K u) (cAA K)) 0 0 (cAA K) := by
  refine Met.ofW (cc := b_C_findSquareOfY) (maxL := 3) (ret := none) (by decide) rfl ?_
  intro p e s m args below meth c s₁ B hml hv
  obtain ⟨rfl, hw⟩ := hv
  have hx := B.exec
  have hb := B.bytes
  have hr := B.returns
  have hts := atoms_spec (ws := zW y_C_findSquareOfY b_C_findSquareOfY 3 none) B.pre
  have ht : ∀ w ∈ zT, w.before ([.ref (cO K 7), .ref (cR K o), .ref (cR K x)] : List Value).toArray s = true := fun w h => hts w (List.mem_cons_of_mem _ h)
  have hown : s.vm.findClass R_C = some m.cls := findClass_of_methodNamed B.named
  have hlocks := B.notSynchronized
  have hl := lv_entry ([.ref (cO K 7), .ref (cR K o), .ref (cR K x)]) (n := 3) (Nat.le_of_ble_eq_true rfl)
  rw [lg_entry_eq]
  generalize (lg_sl ([.ref (cO K 7), .ref (cR K o), .ref (cR K x)]) ++ List.replicate (3 - (lg_sl ([.ref (cO K 7), .ref (cR K o), .ref (cR K x)])).length) Slot.unset).toArray = ls at hl ⊢
  have hl : lv_has ls 3 [(0, .ref (cO K 7)), (1, .ref (cR K o)), (2, .ref (cR K x))] := hl
  obtain ⟨V0, u0, hV0, hu0, hw⟩ : ∃ (V : Nat → Nat) (u : cT), V = cV τ ∧ cU τ V u ∧ cH K u s s.heap [] := ⟨cV τ, τ, rfl, cU.refl hok, hw⟩
  have hK0 : ∀ r, r ≠ o → r ≠ 27 → V0 r = cV τ r := fun r _ _ => by rw [hV0]
  have f0_x : V0 (x) = cV τ x := by rw [hV0]
  have f0_36 : V0 (36) = 7 := by rw [hV0]; rfl
  refine lv_aload_n hx hb d_C_findSquareOfY_0 rfl (lv_at hl 0 rfl) ?_
  refine va_get (ci := 0) (C := R_C) (T := F_C) (N := 7) (v := .ref (cO K 5)) hx hb ht ku_C hown hw.2.1 hw.1 7 rfl rfl 0 (by decide) (ht _ kf_C_30) (fun _ h9 => h9) rfl d_C_findSquareOfY_1 ?_
  refine lv_aload_n hx hb d_C_findSquareOfY_4 rfl (lv_at hl 0 rfl) ?_
  refine va_get (ci := 0) (C := R_C) (T := F_C) (N := 7) (v := .ref (cR K 27)) hx hb ht ku_C hown hw.2.1 hw.1 7 rfl rfl 6 (by decide) (ht _ kf_C_27) (fun _ h9 => h9) rfl d_C_findSquareOfY_5 ?_
  refine lv_aload_n hx hb d_C_findSquareOfY_8 rfl (lv_at hl 2 rfl) ?_
  refine lv_aload_n hx hb d_C_findSquareOfY_9 rfl (lv_at hl 2 rfl) ?_
  refine c_cv (np := 3) (As := [.ref (cR K 27), .ref (cR K x), .ref (cR K x)]) (rest := []) ⟨hx, hb, hml, hown, ht⟩ hw (c_M_multiply l K u0 hu0.2.1 (μ := 0) (o := 27) (a := x) (b := x) (by decide) (by omega) (by omega) (by omega) (by omega) (by omega)) 5 rfl rfl ⟨km_C_44, kv_M_multiply, kx_M_multiply, kc_M_multiply⟩ ki_M (by decide +kernel) ⟨by decide, by decide⟩ rfl rfl rfl hl.1 rfl (Nat.le_of_ble_eq_true rfl) d_C_findSquareOfY_10 ⟨Nat.le_refl _, Nat.le_refl _⟩ (fun u1 H locs hp hw => ?_)
  obtain ⟨V1, hu1, ht1, hk1⟩ := qc_mul hu0 (by omega) (by omega) hp
  have f1_x : V1 (x) = cV τ x := (hk1 _ (by omega)).trans f0_x
  have f1_36 : V1 (36) = 7 := (hk1 _ (by omega)).trans f0_36
  have f1_27 : V1 (27) = mm (rMod 0) (cV τ x) (cV τ x) := ht1.trans (by simp only [f0_x])
  have hK1 : ∀ r, r ≠ o → r ≠ 27 → V1 r = cV τ r := fun r a0 a1 => (hk1 r (by omega)).trans (hK0 r a0 a1)
  clear f0_x f0_36 ht1 hk1 hu0 hK0 hp
  refine lv_aload_n hx hb d_C_findSquareOfY_13 rfl (lv_at hl 0 rfl) ?_
  refine va_get (ci := 0) (C := R_C) (T := F_C) (N := 7) (v := .ref (cO K 5)) hx hb ht ku_C hown hw.2.1 hw.1 7 rfl rfl 0 (by decide) (ht _ kf_C_30) (fun _ h9 => h9) rfl d_C_findSquareOfY_14 ?_
  refine lv_aload_n hx hb d_C_findSquareOfY_17 rfl (lv_at hl 0 rfl) ?_
  refine va_get (ci := 0) (C := R_C) (T := F_C) (N := 7) (v := .ref (cR K 27)) hx hb ht ku_C hown hw.2.1 hw.1 7 rfl rfl 6 (by decide) (ht _ kf_C_27) (fun _ h9 => h9) rfl d_C_findSquareOfY_18 ?_
  refine lv_aload_n hx hb d_C_findSquareOfY_21 rfl (lv_at hl 0 rfl) ?_
  refine va_get (ci := 0) (C := R_C) (T := F_C) (N := 7) (v := .ref (cR K 27)) hx hb ht ku_C hown hw.2.1 hw.1 7 rfl rfl 6 (by decide) (ht _ kf_C_27) (fun _ h9 => h9) rfl d_C_findSquareOfY_22 ?_
  refine lv_aload_n hx hb d_C_findSquareOfY_25 rfl (lv_at hl 2 rfl) ?_
  refine c_cv (np := 3) (As := [.ref (cR K 27), .ref (cR K 27), .ref (cR K x)]) (rest := []) ⟨hx, hb, hml, hown, ht⟩ hw (c_M_multiply l K u1 hu1.2.1 (μ := 0) (o := 27) (a := 27) (b := x) (by decide) (by omega) (by omega) (by omega) (by omega) (by omega)) 5 rfl rfl ⟨km_C_44, kv_M_multiply, kx_M_multiply, kc_M_multiply⟩ ki_M (by decide +kernel) ⟨by decide, by decide⟩ rfl rfl rfl hl.1 rfl (Nat.le_of_ble_eq_true rfl) d_C_findSquareOfY_26 ⟨Nat.le_refl _, Nat.le_refl _⟩ (fun u2 H locs hp hw => ?_)
  obtain ⟨V2, hu2, ht2, hk2⟩ := qc_mul hu1 (by omega) (by omega) hp
  have f2_x : V2 (x) = cV τ x := (hk2 _ (by omega)).trans f1_x
  have f2_36 : V2 (36) = 7 := (hk2 _ (by omega)).trans f1_36
  have f2_27 : V2 (27) = mm (rMod 0) (mm (rMod 0) (cV τ x) (cV τ x)) (cV τ x) := ht2.trans (by simp only [f1_27, f1_x])
  have hK2 : ∀ r, r ≠ o → r ≠ 27 → V2 r = cV τ r := fun r a0 a1 => (hk2 r (by omega)).trans (hK1 r a0 a1)
  clear f1_x f1_36 f1_27 ht2 hk2 hu1 hK1 hp
  clear f2_x
  refine lv_aload_n hx hb d_C_findSquareOfY_29 rfl (lv_at hl 0 rfl) ?_
  refine va_get (ci := 0) (C := R_C) (T := F_C) (N := 7) (v := .ref (cO K 5)) hx hb ht ku_C hown hw.2.1 hw.1 7 rfl rfl 0 (by decide) (ht _ kf_C_30) (fun _ h9 => h9) rfl d_C_findSquareOfY_30 ?_
  refine lv_aload_n hx hb d_C_findSquareOfY_33 rfl (lv_at hl 1 rfl) ?_
  refine lv_aload_n hx hb d_C_findSquareOfY_34 rfl (lv_at hl 0 rfl) ?_
  refine va_get (ci := 0) (C := R_C) (T := F_C) (N := 7) (v := .ref (cR K 27)) hx hb ht ku_C hown hw.2.1 hw.1 7 rfl rfl 6 (by decide) (ht _ kf_C_27) (fun _ h9 => h9) rfl d_C_findSquareOfY_35 ?_
  refine c_getsN hx hb hown hw 36 (by decide) (by decide) (index := 54) (by decide) d_C_findSquareOfY_38 ?_
  have b7 : 7 < rMod 0 := by decide +kernel
  refine c_cv (np := 3) (As := [.ref (cR K o), .ref (cR K 27), .ref (cR K 36)]) (rest := []) ⟨hx, hb, hml, hown, ht⟩ hw (c_M_add l K u2 hu2.2.1 (μ := 0) (o := o) (a := 27) (b := 36) (by decide) (by omega) (by omega) (by omega) (by omega) (by omega) (by rw [hu2.v (by omega), f2_27]; exact mm_lt (rMod_pos (by decide))) (by rw [hu2.v (by omega), f2_36]; exact b7)) 5 rfl rfl ⟨km_C_57, kv_M_add, kx_M_add, kc_M_add⟩ ki_M (by decide +kernel) ⟨by decide, by decide⟩ rfl rfl rfl hl.1 rfl (Nat.le_of_ble_eq_true rfl) d_C_findSquareOfY_41 ⟨Nat.le_refl _, Nat.le_refl _⟩ (fun u9 H locs hp hw => ?_)
  obtain ⟨V9, hu9, ht9, hk9⟩ := qc_pp (by decide) hu2 (by omega) (by omega) (by omega) hp
  refine z_vret (cZ K) hx hb hr hlocks u9 hw ⟨V9, hu9, ?_, fun r a b => (hk9 r a).trans (hK2 r a b)⟩ d_C_findSquareOfY_44
  rw [ht9, f2_27, f2_36]
set_option maxHeartbeats 4000000 in
set_option maxRecDepth 100000 in
theorem c_C_isPoint (l : Launch) (K : cG) (τ : cT) (hok : cOk τ) {x y : Nat} (h1 : x < 25 ∨ 33 < x) (h2 : x < 44) (h3 : y < 25 ∨ 33 < y) (h4 : y < 44) : Met l y_C_isPoint (zW y_C_isPoint b_C_isPoint 3 (some .boolean)) (zr 5 110) (va_Pc [.ref (cO K 7), .ref (cR K x), .ref (cR K y)] (cC K τ)) (va_Qi (fun r u => r = nI (boolN (onN (rMod 0) (cV τ x) (cV τ y))) ∧ ∃ V, cU τ V u ∧ ∀ r, r < 25 ∨ 27 < r → V r = cV τ r) (fun u => cC K u) (cAA K)) 0 0 (cAA K) := by
  refine Met.ofW (cc := b_C_isPoint) (maxL := 3) (ret := (some .boolean)) (by decide) rfl ?_
  intro p e s m args below meth c s₁ B hml hv
  obtain ⟨rfl, hw⟩ := hv
  have hx := B.exec
  have hb := B.bytes
  have hr := B.returns
  have hts := atoms_spec (ws := zW y_C_isPoint b_C_isPoint 3 (some .boolean)) B.pre
  have ht : ∀ w ∈ zT, w.before ([.ref (cO K 7), .ref (cR K x), .ref (cR K y)] : List Value).toArray s = true := fun w h => hts w (List.mem_cons_of_mem _ h)
  have hown : s.vm.findClass R_C = some m.cls := findClass_of_methodNamed B.named
  have hlocks := B.notSynchronized
  have hl := lv_entry ([.ref (cO K 7), .ref (cR K x), .ref (cR K y)]) (n := 3) (Nat.le_of_ble_eq_true rfl)
  rw [lg_entry_eq]
  generalize (lg_sl ([.ref (cO K 7), .ref (cR K x), .ref (cR K y)]) ++ List.replicate (3 - (lg_sl ([.ref (cO K 7), .ref (cR K x), .ref (cR K y)])).length) Slot.unset).toArray = ls at hl ⊢
  have hl : lv_has ls 3 [(0, .ref (cO K 7)), (1, .ref (cR K x)), (2, .ref (cR K y))] := hl
  have no : ∀ (H : Heap) (locs : List Loc) (ls : Array Slot), cH K τ s H locs → lv_has ls 3 [(0, .ref (cO K 7)), (1, .ref (cR K x)), (2, .ref (cR K y))] → ¬ onN (rMod 0) (cV τ x) (cV τ y) → W p l e (headSpec (zW y_C_isPoint b_C_isPoint 3 (some .boolean)) (zr 5 110)).room s m ([.ref (cO K 7), .ref (cR K x), .ref (cR K y)] : List Value).toArray below meth c H locs 0 0 (MQ below (va_Qi (fun r u => r = nI (boolN (onN (rMod 0) (cV τ x) (cV τ y))) ∧ ∃ V, cU τ V u ∧ ∀ r, r < 25 ∨ 27 < r → V r = cV τ r) (fun u => cC K u) (cAA K)) ([.ref (cO K 7), .ref (cR K x), .ref (cR K y)] : List Value).toArray s 0 0 (cAA K)) (F0 m 22 ls []) := by
    intro H locs ls hw hl hn
    refine lv_iconst (v := nI 0) hx hb d_C_isPoint_22 (by decide) ?_
    exact z_zret (cZ K) hx hb hr hlocks (nar_b (by decide)) τ hw ⟨by rw [boolN_f hn], cV τ, cU.refl hok, fun _ _ => rfl⟩ d_C_isPoint_23
  refine lv_aload_n hx hb d_C_isPoint_0 rfl (lv_at hl 0 rfl) ?_
  refine va_get (ci := 0) (C := R_C) (T := F_C) (N := 7) (v := .ref (cO K 5)) hx hb ht ku_C hown hw.2.1 hw.1 7 rfl rfl 0 (by decide) (ht _ kf_C_30) (fun _ h9 => h9) rfl d_C_isPoint_1 ?_
  refine lv_aload_n hx hb d_C_isPoint_4 rfl (lv_at hl 1 rfl) ?_
  refine c_ci (np := 1) (As := [.ref (cR K x)]) (rest := []) ⟨hx, hb, hml, hown, ht⟩ hw (c_M_isAbove l K τ hok (μ := 0) (a := x) (by decide) (by omega) (by omega)) 5 rfl rfl ⟨km_C_34, kv_M_isAbove, kx_M_isAbove, kc_M_isAbove⟩ ki_M (by decide +kernel) ⟨by decide, by decide⟩ rfl rfl rfl hl.1 rfl (Nat.le_of_ble_eq_true rfl) d_C_isPoint_5 ⟨Nat.le_refl _, Nat.le_refl _⟩ (fun r ux H locs hp hw => ?_)
  obtain ⟨hpu, rfl⟩ := hp
  rw [hpu] at hw
  clear hpu
  refine n_eq0 (tgt := 22) hx hb d_C_isPoint_8 (by decide) (boolN_s _) (fun c1 => no _ _ ls hw hl (fun q => boolN_0 c1 q.1)) (fun c1 => ?_)
  refine lv_aload_n hx hb d_C_isPoint_11 rfl (lv_at hl 0 rfl) ?_
  refine va_get (ci := 0) (C := R_C) (T := F_C) (N := 7) (v := .ref (cO K 5)) hx hb ht ku_C hown hw.2.1 hw.1 7 rfl rfl 0 (by decide) (ht _ kf_C_30) (fun _ h9 => h9) rfl d_C_isPoint_12 ?_
  refine lv_aload_n hx hb d_C_isPoint_15 rfl (lv_at hl 2 rfl) ?_
  refine c_ci (np := 1) (As := [.ref (cR K y)]) (rest := []) ⟨hx, hb, hml, hown, ht⟩ hw (c_M_isAbove l K τ hok (μ := 0) (a := y) (by decide) (by omega) (by omega)) 5 rfl rfl ⟨km_C_34, kv_M_isAbove, kx_M_isAbove, kc_M_isAbove⟩ ki_M (by decide +kernel) ⟨by decide, by decide⟩ rfl rfl rfl hl.1 rfl (Nat.le_of_ble_eq_true rfl) d_C_isPoint_16 ⟨Nat.le_refl _, Nat.le_refl _⟩ (fun r ux H locs hp hw => ?_)
  obtain ⟨hpu, rfl⟩ := hp
  rw [hpu] at hw
  clear hpu
  refine n_ne0 (tgt := 24) hx hb d_C_isPoint_19 (by decide) (boolN_s _) (fun c2 => ?_) (fun c2 => no _ _ ls hw hl (fun q => boolN_0 c2 q.2.1))
  have d1 := boolN_1 c1
  have d2 := boolN_1 c2
  refine lv_aload_n hx hb d_C_isPoint_24 rfl (lv_at hl 0 rfl) ?_
  refine lv_aload_n hx hb d_C_isPoint_25 rfl (lv_at hl 0 rfl) ?_
  refine va_get (ci := 0) (C := R_C) (T := F_C) (N := 7) (v := .ref (cR K 25)) hx hb ht ku_C hown hw.2.1 hw.1 7 rfl rfl 4 (by decide) (ht _ kf_C_21) (fun _ h9 => h9) rfl d_C_isPoint_26 ?_
  refine lv_aload_n hx hb d_C_isPoint_29 rfl (lv_at hl 1 rfl) ?_
  refine c_cv (np := 2) (As := [.ref (cR K 25), .ref (cR K x)]) (rest := []) ⟨hx, hb, hml, hown, ht⟩ hw (c_C_findSquareOfY l K τ hok (o := 25) (x := x) (by decide) (by omega) h2 (by omega)) 7 rfl rfl ⟨km_C_40, kv_C_findSquareOfY, kx_C_findSquareOfY, kc_C_findSquareOfY⟩ ki_C (by decide +kernel) ⟨by decide, by decide⟩ rfl rfl rfl hl.1 rfl (Nat.le_of_ble_eq_true rfl) d_C_isPoint_30 ⟨Nat.le_refl _, Nat.le_refl _⟩ (fun u1 H locs hp hw => ?_)
  obtain ⟨V1, hu1, q1, k1⟩ := hp
  refine lv_aload_n hx hb d_C_isPoint_33 rfl (lv_at hl 0 rfl) ?_
  refine va_get (ci := 0) (C := R_C) (T := F_C) (N := 7) (v := .ref (cO K 5)) hx hb ht ku_C hown hw.2.1 hw.1 7 rfl rfl 0 (by decide) (ht _ kf_C_30) (fun _ h9 => h9) rfl d_C_isPoint_34 ?_
  refine lv_aload_n hx hb d_C_isPoint_37 rfl (lv_at hl 0 rfl) ?_
  refine va_get (ci := 0) (C := R_C) (T := F_C) (N := 7) (v := .ref (cR K 26)) hx hb ht ku_C hown hw.2.1 hw.1 7 rfl rfl 5 (by decide) (ht _ kf_C_24) (fun _ h9 => h9) rfl d_C_isPoint_38 ?_
  refine lv_aload_n hx hb d_C_isPoint_41 rfl (lv_at hl 2 rfl) ?_
  refine lv_aload_n hx hb d_C_isPoint_42 rfl (lv_at hl 2 rfl) ?_
  have ey : cV u1 y = cV τ y := (hu1.v (by omega)).trans (k1 _ (by omega) (by omega))
  refine c_cv (np := 3) (As := [.ref (cR K 26), .ref (cR K y), .ref (cR K y)]) (rest := []) ⟨hx, hb, hml, hown, ht⟩ hw (c_M_multiply l K u1 hu1.2.1 (μ := 0) (o := 26) (a := y) (b := y) (by decide) (by omega) (by omega) (by omega) (by omega) (by omega)) 5 rfl rfl ⟨km_C_44, kv_M_multiply, kx_M_multiply, kc_M_multiply⟩ ki_M (by decide +kernel) ⟨by decide, by decide⟩ rfl rfl rfl hl.1 rfl (Nat.le_of_ble_eq_true rfl) d_C_isPoint_43 ⟨Nat.le_refl _, Nat.le_refl _⟩ (fun u2 H locs hp hw => ?_)
  obtain ⟨V2, hu2, q2, k2⟩ := qc_mul hu1 (by omega) (by omega) hp
  rw [k1 y (by omega) (by omega)] at q2
  have v25 : cV u2 25 = V1 25 := (hu2.v (by omega)).trans (k2 _ (by decide))
  have v26 : cV u2 26 = mm (rMod 0) (cV τ y) (cV τ y) := (hu2.v (by omega)).trans q2
  rw [q1] at v25
  refine lv_aload_n hx hb d_C_isPoint_46 rfl (lv_at hl 0 rfl) ?_
  refine va_get (ci := 0) (C := R_C) (T := F_C) (N := 7) (v := .ref (cR K 25)) hx hb ht ku_C hown hw.2.1 hw.1 7 rfl rfl 4 (by decide) (ht _ kf_C_21) (fun _ h9 => h9) rfl d_C_isPoint_47 ?_
  refine lv_aload_n hx hb d_C_isPoint_50 rfl (lv_at hl 0 rfl) ?_
  refine va_get (ci := 0) (C := R_C) (T := F_C) (N := 7) (v := .ref (cR K 26)) hx hb ht ku_C hown hw.2.1 hw.1 7 rfl rfl 5 (by decide) (ht _ kf_C_24) (fun _ h9 => h9) rfl d_C_isPoint_51 ?_
  refine c_si (np := 2) (As := [.ref (cR K 25), .ref (cR K 26)]) (rest := []) ⟨hx, hb, hml, hown, ht⟩ hw (c_L_areSame l K u2 hu2.2.1 (a := 25) (b := 26) (by decide) (by decide) (by decide) (by decide)) ⟨km_C_48, ks_L_areSame, kc_L_areSame⟩ ki_L (by decide +kernel) ⟨by decide, by decide⟩ rfl rfl rfl hl.1 rfl (Nat.le_of_ble_eq_true rfl) d_C_isPoint_54 ⟨Nat.le_refl _, Nat.le_refl _⟩ (fun r ux H locs hp hw => ?_)
  obtain ⟨hpu, rfl⟩ := hp
  rw [hpu] at hw
  have hiff : (cV u2 25 = cV u2 26) ↔ onN (rMod 0) (cV τ x) (cV τ y) := by rw [v25, v26]; exact ⟨fun q => ⟨d1, d2, q.symm⟩, fun q => q.2.2.symm⟩
  have hbo : nI (boolN (cV u2 25 = cV u2 26)) = nI (boolN (onN (rMod 0) (cV τ x) (cV τ y))) := by
    by_cases q : onN (rMod 0) (cV τ x) (cV τ y)
    · rw [boolN_t q, boolN_t (hiff.mpr q)]
    · rw [boolN_f q, boolN_f (fun w => q (hiff.mp w))]
  exact z_zret (cZ K) hx hb hr hlocks (nar_b (boolN_lt _)) u2 hw ⟨hbo, V2, hu2, fun r a => (k2 r (by omega)).trans (k1 r (by omega) (by omega))⟩ d_C_isPoint_57
