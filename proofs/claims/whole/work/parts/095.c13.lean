/-! the class's curve: the even root -/
theorem rootN_eq (a : Nat) : a ^ eRoot % rMod 0 = rootN a := by rw [rootN]
theorem cV39 (τ : cT) : cV τ 39 = eRoot := by rw [cV_st (by decide), cst, if_neg (by decide), if_neg (by decide), if_neg (by decide), if_neg (by decide), if_neg (by decide), if_pos rfl, eRoot]
theorem qc_root {τ w : cT} {a : Nat} (hp : cU τ (va_up (va_up (cV τ) (28 + 0) (cV τ a ^ cV τ 39 % rMod 0)) 25 (cV τ a ^ cV τ 39 % rMod 0)) w) : ∃ V, cU τ V w ∧ V 25 = rootN (cV τ a) ∧ ∀ r, r ≠ 25 → r ≠ 28 → V r = cV τ r := by
  rw [cV39, rootN_eq (cV τ a)] at hp
  refine ⟨_, hp, up_self _ _ _, fun r h1 h2 => ?_⟩
  rw [up_ne _ _ h1, up_ne _ _ h2]
set_option maxHeartbeats 4000000 in
set_option maxRecDepth 100000 in
theorem c_C_findEvenRoot (l : Launch) (K : cG) (τ : cT) (hok : cOk τ) {o a : Nat} (ho : o < 22) (ha : a < 22) : Met l y_C_findEvenRoot (zW y_C_findEvenRoot b_C_findEvenRoot 3 (some .boolean)) (zr 5 112) (va_Pc [.ref (cO K 7), .ref (cR K o), .ref (cR K a)] (cC K τ)) (va_Qi (fun r u => ∃ V, cU τ V u ∧ r = nI (boolN (mm (rMod 0) (rootN (cV τ a)) (rootN (cV τ a)) = cV τ a)) ∧ (mm (rMod 0) (rootN (cV τ a)) (rootN (cV τ a)) = cV τ a → V o = evenN (rMod 0) (rootN (cV τ a))) ∧ (¬ mm (rMod 0) (rootN (cV τ a)) (rootN (cV τ a)) = cV τ a → V o = cV τ o) ∧ ∀ r, r ≠ o → r ≠ 25 → r ≠ 26 → r ≠ 28 → V r = cV τ r) (fun u => cC K u) (cAA K)) 0 0 (cAA K) := by
  refine Met.ofW (cc := b_C_findEvenRoot) (maxL := 3) (ret := (some .boolean)) (by decide) rfl ?_
  intro p e s m args below meth c s₁ B hml hv
  obtain ⟨rfl, hw⟩ := hv
  have hx := B.exec
  have hb := B.bytes
  have hr := B.returns
  have hts := atoms_spec (ws := zW y_C_findEvenRoot b_C_findEvenRoot 3 (some .boolean)) B.pre
  have ht : ∀ w ∈ zT, w.before ([.ref (cO K 7), .ref (cR K o), .ref (cR K a)] : List Value).toArray s = true := fun w h => hts w (List.mem_cons_of_mem _ h)
  have hown : s.vm.findClass R_C = some m.cls := findClass_of_methodNamed B.named
  have hlocks := B.notSynchronized
  have hl := lv_entry ([.ref (cO K 7), .ref (cR K o), .ref (cR K a)]) (n := 3) (Nat.le_of_ble_eq_true rfl)
  rw [lg_entry_eq]
  generalize (lg_sl ([.ref (cO K 7), .ref (cR K o), .ref (cR K a)]) ++ List.replicate (3 - (lg_sl ([.ref (cO K 7), .ref (cR K o), .ref (cR K a)])).length) Slot.unset).toArray = ls at hl ⊢
  have hl : lv_has ls 3 [(0, .ref (cO K 7)), (1, .ref (cR K o)), (2, .ref (cR K a))] := hl
  refine lv_aload_n hx hb d_C_findEvenRoot_0 rfl (lv_at hl 0 rfl) ?_
  refine va_get (ci := 0) (C := R_C) (T := F_C) (N := 7) (v := .ref (cO K 5)) hx hb ht ku_C hown hw.2.1 hw.1 7 rfl rfl 0 (by decide) (ht _ kf_C_30) (fun _ h9 => h9) rfl d_C_findEvenRoot_1 ?_
  refine lv_aload_n hx hb d_C_findEvenRoot_4 rfl (lv_at hl 0 rfl) ?_
  refine va_get (ci := 0) (C := R_C) (T := F_C) (N := 7) (v := .ref (cR K 25)) hx hb ht ku_C hown hw.2.1 hw.1 7 rfl rfl 4 (by decide) (ht _ kf_C_21) (fun _ h9 => h9) rfl d_C_findEvenRoot_5 ?_
  refine lv_aload_n hx hb d_C_findEvenRoot_8 rfl (lv_at hl 2 rfl) ?_
  refine c_getsN hx hb hown hw 39 (by decide) (by decide) (index := 60) (by decide) d_C_findEvenRoot_9 ?_
  refine c_cv (np := 3) (As := [.ref (cR K 25), .ref (cR K a), .ref (cR K 39)]) (rest := []) ⟨hx, hb, hml, hown, ht⟩ hw (c_M_raise l K τ hok (μ := 0) (o := 25) (a := a) (e0 := 39) (by decide) (by decide) (by omega) (by omega) (by omega) (by decide) (by decide) (by decide)) 5 rfl rfl ⟨km_C_63, kv_M_raise, kx_M_raise, kc_M_raise⟩ ki_M (by decide +kernel) ⟨by decide, by decide⟩ rfl rfl rfl hl.1 rfl (Nat.le_of_ble_eq_true rfl) d_C_findEvenRoot_12 ⟨Nat.le_refl _, Nat.le_refl _⟩ (fun u1 H locs hp hw => ?_)
  obtain ⟨V1, hu1, f1, k1⟩ := qc_root hp
  clear hp
  obtain ⟨X, hX⟩ : ∃ X, X = rootN (cV τ a) := ⟨_, rfl⟩
  rw [← hX] at f1
  have hXl : X < rMod 0 := by rw [hX]; exact rootN_lt _
  refine lv_aload_n hx hb d_C_findEvenRoot_15 rfl (lv_at hl 0 rfl) ?_
  refine va_get (ci := 0) (C := R_C) (T := F_C) (N := 7) (v := .ref (cO K 5)) hx hb ht ku_C hown hw.2.1 hw.1 7 rfl rfl 0 (by decide) (ht _ kf_C_30) (fun _ h9 => h9) rfl d_C_findEvenRoot_16 ?_
  refine lv_aload_n hx hb d_C_findEvenRoot_19 rfl (lv_at hl 0 rfl) ?_
  refine va_get (ci := 0) (C := R_C) (T := F_C) (N := 7) (v := .ref (cR K 26)) hx hb ht ku_C hown hw.2.1 hw.1 7 rfl rfl 5 (by decide) (ht _ kf_C_24) (fun _ h9 => h9) rfl d_C_findEvenRoot_20 ?_
  refine lv_aload_n hx hb d_C_findEvenRoot_23 rfl (lv_at hl 0 rfl) ?_
  refine va_get (ci := 0) (C := R_C) (T := F_C) (N := 7) (v := .ref (cR K 25)) hx hb ht ku_C hown hw.2.1 hw.1 7 rfl rfl 4 (by decide) (ht _ kf_C_21) (fun _ h9 => h9) rfl d_C_findEvenRoot_24 ?_
  refine lv_aload_n hx hb d_C_findEvenRoot_27 rfl (lv_at hl 0 rfl) ?_
  refine va_get (ci := 0) (C := R_C) (T := F_C) (N := 7) (v := .ref (cR K 25)) hx hb ht ku_C hown hw.2.1 hw.1 7 rfl rfl 4 (by decide) (ht _ kf_C_21) (fun _ h9 => h9) rfl d_C_findEvenRoot_28 ?_
  refine c_cv (np := 3) (As := [.ref (cR K 26), .ref (cR K 25), .ref (cR K 25)]) (rest := []) ⟨hx, hb, hml, hown, ht⟩ hw (c_M_multiply l K u1 hu1.2.1 (μ := 0) (o := 26) (a := 25) (b := 25) (by decide) (by omega) (by omega) (by omega) (by omega) (by omega)) 5 rfl rfl ⟨km_C_44, kv_M_multiply, kx_M_multiply, kc_M_multiply⟩ ki_M (by decide +kernel) ⟨by decide, by decide⟩ rfl rfl rfl hl.1 rfl (Nat.le_of_ble_eq_true rfl) d_C_findEvenRoot_31 ⟨Nat.le_refl _, Nat.le_refl _⟩ (fun u2 H locs hp hw => ?_)
  obtain ⟨V2, hu2, f2, k2⟩ := qc_mul hu1 (by omega) (by omega) hp
  rw [f1] at f2
  clear hp
  have g25 : V2 25 = X := (k2 _ (by decide)).trans f1
  have g2 : ∀ r, r ≠ 25 → r ≠ 26 → r ≠ 28 → V2 r = cV τ r := fun r a b c => (k2 r b).trans (k1 r a c)
  have ea : cV u2 a = cV τ a := (hu2.v (by omega)).trans (g2 _ (by omega) (by omega) (by omega))
  have e26 : cV u2 26 = mm (rMod 0) X X := (hu2.v (by omega)).trans f2
  have e25 : cV u2 25 = X := (hu2.v (by omega)).trans g25
  clear f1 k1 hu1 f2 k2
  refine lv_aload_n hx hb d_C_findEvenRoot_34 rfl (lv_at hl 0 rfl) ?_
  refine va_get (ci := 0) (C := R_C) (T := F_C) (N := 7) (v := .ref (cR K 26)) hx hb ht ku_C hown hw.2.1 hw.1 7 rfl rfl 5 (by decide) (ht _ kf_C_24) (fun _ h9 => h9) rfl d_C_findEvenRoot_35 ?_
  refine lv_aload_n hx hb d_C_findEvenRoot_38 rfl (lv_at hl 2 rfl) ?_
  refine c_si (np := 2) (As := [.ref (cR K 26), .ref (cR K a)]) (rest := []) ⟨hx, hb, hml, hown, ht⟩ hw (c_L_areSame l K u2 hu2.2.1 (a := 26) (b := a) (by decide) (by decide) (by omega) (by omega)) ⟨km_C_48, ks_L_areSame, kc_L_areSame⟩ ki_L (by decide +kernel) ⟨by decide, by decide⟩ rfl rfl rfl hl.1 rfl (Nat.le_of_ble_eq_true rfl) d_C_findEvenRoot_39 ⟨Nat.le_refl _, Nat.le_refl _⟩ (fun r ux H locs hp hw => ?_)
  obtain ⟨hpu, rfl⟩ := hp
  rw [hpu] at hw
  clear hpu
  refine tp_i (y := nI (boolN (mm (rMod 0) X X = cV τ a))) (by simp only [e26, ea]) ?_
  refine n_ne0 (tgt := 47) hx hb d_C_findEvenRoot_42 (by decide) (boolN_s _) (fun c1 => ?_) (fun c1 => ?_)
  · have c2 : mm (rMod 0) (rootN (cV τ a)) (rootN (cV τ a)) = cV τ a := by rw [← hX]; exact boolN_1 c1
    have fin : ∀ (V3 : Nat → Nat) (u3 : cT) (H : Heap) (locs : List Loc), V3 25 = evenN (rMod 0) X → (∀ r, r ≠ 25 → r ≠ 26 → r ≠ 28 → V3 r = cV τ r) → cU τ V3 u3 → cH K u3 s H locs → W p l e (headSpec (zW y_C_findEvenRoot b_C_findEvenRoot 3 (some .boolean)) (zr 5 112)).room s m ([.ref (cO K 7), .ref (cR K o), .ref (cR K a)] : List Value).toArray below meth c H locs 0 0 (MQ below (va_Qi (fun r u => ∃ V, cU τ V u ∧ r = nI (boolN (mm (rMod 0) (rootN (cV τ a)) (rootN (cV τ a)) = cV τ a)) ∧ (mm (rMod 0) (rootN (cV τ a)) (rootN (cV τ a)) = cV τ a → V o = evenN (rMod 0) (rootN (cV τ a))) ∧ (¬ mm (rMod 0) (rootN (cV τ a)) (rootN (cV τ a)) = cV τ a → V o = cV τ o) ∧ ∀ r, r ≠ o → r ≠ 25 → r ≠ 26 → r ≠ 28 → V r = cV τ r) (fun u => cC K u) (cAA K)) ([.ref (cO K 7), .ref (cR K o), .ref (cR K a)] : List Value).toArray s 0 0 (cAA K)) (F0 m 75 ls []) := by
      intro V3 u3 H locs f3 g3 hu3 hw
      refine lv_aload_n hx hb d_C_findEvenRoot_75 rfl (lv_at hl 1 rfl) ?_
      refine lv_aload_n hx hb d_C_findEvenRoot_76 rfl (lv_at hl 0 rfl) ?_
      refine va_get (ci := 0) (C := R_C) (T := F_C) (N := 7) (v := .ref (cR K 25)) hx hb ht ku_C hown hw.2.1 hw.1 7 rfl rfl 4 (by decide) (ht _ kf_C_21) (fun _ h9 => h9) rfl d_C_findEvenRoot_77 ?_
      refine c_sv (np := 2) (As := [.ref (cR K o), .ref (cR K 25)]) (rest := []) ⟨hx, hb, hml, hown, ht⟩ hw (c_L_copy l K u3 hu3.2.1 (o := o) (a := 25) (by omega) (by omega)) ⟨km_C_75, ks_L_copy, kc_L_copy⟩ ki_L (by decide +kernel) ⟨by decide, by decide⟩ rfl rfl rfl hl.1 rfl (Nat.le_of_ble_eq_true rfl) d_C_findEvenRoot_80 ⟨Nat.le_refl _, Nat.le_refl _⟩ (fun u4 H locs hp hw => ?_)
      obtain ⟨V4, hu4, f4, k4⟩ := qc_copy hu3 (by omega) (by omega) (by omega) hp
      rw [f3, hX] at f4
      refine lv_iconst (v := nI 1) hx hb d_C_findEvenRoot_83 (by decide) ?_
      exact z_zret (cZ K) hx hb hr hlocks (nar_b (by decide)) u4 hw ⟨V4, hu4, by rw [boolN_t c2], fun _ => f4, fun q => absurd c2 q, fun r h0 h1 h2 h3 => (k4 r h0).trans (g3 r h1 h2 h3)⟩ d_C_findEvenRoot_84
    refine lv_aload_n hx hb d_C_findEvenRoot_47 rfl (lv_at hl 0 rfl) ?_
    refine va_get (ci := 0) (C := R_C) (T := F_C) (N := 7) (v := .ref (cR K 25)) hx hb ht ku_C hown hw.2.1 hw.1 7 rfl rfl 4 (by decide) (ht _ kf_C_21) (fun _ h9 => h9) rfl d_C_findEvenRoot_48 ?_
    refine c_si (np := 1) (As := [.ref (cR K 25)]) (rest := []) ⟨hx, hb, hml, hown, ht⟩ hw (c_L_isOdd l K u2 (a := 25) (by decide) (by decide)) ⟨km_C_66, ks_L_isOdd, kc_L_isOdd⟩ ki_L (by decide +kernel) ⟨by decide, by decide⟩ rfl rfl rfl hl.1 rfl (Nat.le_of_ble_eq_true rfl) d_C_findEvenRoot_51 ⟨Nat.le_refl _, Nat.le_refl _⟩ (fun r ux H locs hp hw => ?_)
    obtain ⟨hpu, rfl⟩ := hp
    rw [hpu] at hw
    clear hpu
    refine tp_i (y := nI (boolN (X % 2 = 1))) (by simp only [e25]) ?_
    refine n_eq0 (tgt := 75) hx hb d_C_findEvenRoot_54 (by decide) (boolN_s _) (fun c3 => fin V2 u2 _ _ (by rw [evenN, if_neg (boolN_0 c3)]; exact g25) g2 hu2 hw) (fun c3 => ?_)
    have c4 := boolN_1 c3
    refine lv_aload_n hx hb d_C_findEvenRoot_57 rfl (lv_at hl 0 rfl) ?_
    refine va_get (ci := 0) (C := R_C) (T := F_C) (N := 7) (v := .ref (cO K 5)) hx hb ht ku_C hown hw.2.1 hw.1 7 rfl rfl 0 (by decide) (ht _ kf_C_30) (fun _ h9 => h9) rfl d_C_findEvenRoot_58 ?_
    refine lv_aload_n hx hb d_C_findEvenRoot_61 rfl (lv_at hl 0 rfl) ?_
    refine va_get (ci := 0) (C := R_C) (T := F_C) (N := 7) (v := .ref (cR K 25)) hx hb ht ku_C hown hw.2.1 hw.1 7 rfl rfl 4 (by decide) (ht _ kf_C_21) (fun _ h9 => h9) rfl d_C_findEvenRoot_62 ?_
    refine c_getsN hx hb hown hw 34 (by decide) (by decide) (index := 69) (by decide) d_C_findEvenRoot_65 ?_
    refine lv_aload_n hx hb d_C_findEvenRoot_68 rfl (lv_at hl 0 rfl) ?_
    refine va_get (ci := 0) (C := R_C) (T := F_C) (N := 7) (v := .ref (cR K 25)) hx hb ht ku_C hown hw.2.1 hw.1 7 rfl rfl 4 (by decide) (ht _ kf_C_21) (fun _ h9 => h9) rfl d_C_findEvenRoot_69 ?_
    have e34 : cV u2 34 = 0 := rfl
    refine c_cv (np := 3) (As := [.ref (cR K 25), .ref (cR K 34), .ref (cR K 25)]) (rest := []) ⟨hx, hb, hml, hown, ht⟩ hw (c_M_subtract l K u2 hu2.2.1 (μ := 0) (o := 25) (a := 34) (b := 25) (by decide) (by omega) (by omega) (by omega) (by omega) (by omega) (by rw [e34]; exact rMod_pos (by decide)) (by rw [e25]; exact hXl)) 5 rfl rfl ⟨km_C_72, kv_M_subtract, kx_M_subtract, kc_M_subtract⟩ ki_M (by decide +kernel) ⟨by decide, by decide⟩ rfl rfl rfl hl.1 rfl (Nat.le_of_ble_eq_true rfl) d_C_findEvenRoot_72 ⟨Nat.le_refl _, Nat.le_refl _⟩ (fun u3 H locs hp hw => ?_)
    obtain ⟨V3, hu3, f3, k3⟩ := qc_ss (by decide) hu2 (by omega) (by omega) (by omega) hp
    have z34 : V2 34 = 0 := (hu2.v (by omega)).symm.trans e34
    rw [z34, g25] at f3
    exact fin V3 u3 _ _ (by rw [evenN, if_pos c4]; exact f3) (fun r h1 h2 h3 => (k3 r h1).trans (g2 r h1 h2 h3)) hu3 hw
  · refine lv_iconst (v := nI 0) hx hb d_C_findEvenRoot_45 (by decide) ?_
    have c2 : ¬ mm (rMod 0) (rootN (cV τ a)) (rootN (cV τ a)) = cV τ a := by rw [← hX]; exact boolN_0 c1
    exact z_zret (cZ K) hx hb hr hlocks (nar_b (by decide)) u2 hw ⟨V2, hu2, by rw [boolN_f c2], fun q => absurd q c2, fun _ => g2 _ (by omega) (by omega) (by omega), fun r _ h1 h2 h3 => g2 r h1 h2 h3⟩ d_C_findEvenRoot_46
