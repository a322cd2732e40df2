/-! the desk: key, signature -/
theorem keyR_n33 {B : Nat → Nat} (h : ¬ (B 0 = 2 ∨ B 0 = 3)) : keyR B 33 = none := by
  unfold keyR
  rw [if_neg (fun q => h q.2), if_neg (fun q => absurd q.1 (by decide))]
theorem keyR_b33 {B : Nat → Nat} (h : B 0 = 2 ∨ B 0 = 3) (h2 : ¬ okK B) : keyR B 33 = none := by
  unfold keyR
  rw [if_pos ⟨rfl, h⟩, if_neg h2]
theorem keyR_y33 {B : Nat → Nat} (h : B 0 = 2 ∨ B 0 = 3) (h2 : okK B) : keyR B 33 = some (keyX B, if B 0 = 3 then ss (rMod 0) 0 (keyE B) else keyE B) := by
  unfold keyR
  rw [if_pos ⟨rfl, h⟩, if_pos h2]
theorem keyR_n65 {B : Nat → Nat} (h : ¬ B 0 = 4) : keyR B 65 = none := by
  unfold keyR
  rw [if_neg (fun q => absurd q.1 (by decide)), if_neg (fun q => h q.2)]
theorem keyR_b65 {B : Nat → Nat} (h : B 0 = 4) (h2 : ¬ onN (rMod 0) (keyX B) (keyY B)) : keyR B 65 = none := by
  unfold keyR
  rw [if_neg (fun q => absurd q.1 (by decide)), if_pos ⟨rfl, h⟩, if_neg h2]
theorem keyR_y65 {B : Nat → Nat} (h : B 0 = 4) (h2 : onN (rMod 0) (keyX B) (keyY B)) : keyR B 65 = some (keyX B, keyY B) := by
  unfold keyR
  rw [if_neg (fun q => absurd q.1 (by decide)), if_pos ⟨rfl, h⟩, if_pos h2]
theorem keyR_else {B : Nat → Nat} {m : Nat} (h : m ≠ 33) (h2 : m ≠ 65) : keyR B m = none := by
  unfold keyR
  rw [if_neg (fun q => h q.1), if_neg (fun q => h2 q.1)]
set_option maxHeartbeats 4000000 in
set_option maxRecDepth 100000 in
theorem c_D_fillFromShortKey (l : Launch) (K : cG) (τ : cT) (hok : cOk τ) (hB : ∀ j, j < 100 → cB τ j < 256) {q : Nat} (hq : q < 4) : Met l y_D_fillFromShortKey (zW y_D_fillFromShortKey b_D_fillFromShortKey 3 (some .boolean)) (zr 6 134) (va_Pc [.ref (cO K 0), .int (nI (q))] (cC K τ)) (va_Qi (fun r u => (keyR (cB τ) 33 = none → r = nI 0 ∧ ∃ V, cU τ V u ∧ ∀ r, (r < 20 ∨ r = 22 ∨ r = 23) → V r = cV τ r) ∧ ∀ X Y, keyR (cB τ) 33 = some (X, Y) → r = nI 1 ∧ cSet τ q X Y u) (fun u => cC K u) (cAA K)) 0 0 (cAA K) := by
  refine Met.ofW (cc := b_D_fillFromShortKey) (maxL := 3) (ret := (some .boolean)) (by decide) rfl ?_
  intro p e s m args below meth c s₁ B hml hv
  obtain ⟨rfl, hw⟩ := hv
  have hx := B.exec
  have hb := B.bytes
  have hr := B.returns
  have hts := atoms_spec (ws := zW y_D_fillFromShortKey b_D_fillFromShortKey 3 (some .boolean)) B.pre
  have ht : ∀ w ∈ zT, w.before ([.ref (cO K 0), .int (nI (q))] : List Value).toArray s = true := fun w h => hts w (List.mem_cons_of_mem _ h)
  have hown : s.vm.findClass R_D = some m.cls := findClass_of_methodNamed B.named
  have hlocks := B.notSynchronized
  have hl := lv_entry ([.ref (cO K 0), .int (nI (q))]) (n := 3) (Nat.le_of_ble_eq_true rfl)
  rw [lg_entry_eq]
  generalize (lg_sl ([.ref (cO K 0), .int (nI (q))]) ++ List.replicate (3 - (lg_sl ([.ref (cO K 0), .int (nI (q))])).length) Slot.unset).toArray = ls at hl ⊢
  have hl : lv_has ls 3 [(0, .ref (cO K 0)), (1, .int (nI (q)))] := hl
  refine lv_aload_n hx hb d_D_fillFromShortKey_0 rfl (lv_at hl 0 rfl) ?_
  refine va_get (ci := 4) (C := R_D) (T := F_D) (N := 10) (v := .ref (cO K 1)) hx hb ht ku_D hown hw.2.1 hw.1 0 rfl rfl 2 (by decide) (ht _ kf_D_23) (fun _ h9 => h9) rfl d_D_fillFromShortKey_1 ?_
  refine c_ci (np := 0) (As := []) (rest := []) ⟨hx, hb, hml, hown, ht⟩ hw (c_H_firstByte l K τ) 1 rfl rfl ⟨km_D_204, kv_H_firstByte, kx_H_firstByte, kc_H_firstByte⟩ ki_H (by decide +kernel) ⟨by decide, by decide⟩ rfl rfl rfl hl.1 rfl (Nat.le_of_ble_eq_true rfl) d_D_fillFromShortKey_4 ⟨Nat.le_refl _, Nat.le_refl _⟩ (fun r ux H locs hp hw => ?_)
  obtain ⟨hpu, rfl⟩ := hp
  rw [hpu] at hw
  clear hpu
  refine lv_istore_n (lv' := [(2, .int (nI (cB τ 0))), (0, .ref (cO K 0)), (1, .int (nI (q)))]) hx hb d_D_fillFromShortKey_7 rfl hl (by decide) rfl (fun ls hl => ?_)
  have b0 := hB 0 (by decide)
  have b18 : ∀ (V : Nat → Nat) (u : cT) (H : Heap) (locs : List Loc) (ls : Array Slot), keyR (cB τ) 33 = none → cU τ V u → (∀ r, (r < 20 ∨ r = 22 ∨ r = 23) → V r = cV τ r) → cH K u s H locs → lv_has ls 3 [(2, .int (nI (cB τ 0))), (0, .ref (cO K 0)), (1, .int (nI (q)))] → W p l e (headSpec (zW y_D_fillFromShortKey b_D_fillFromShortKey 3 (some .boolean)) (zr 6 134)).room s m ([.ref (cO K 0), .int (nI (q))] : List Value).toArray below meth c H locs 0 0 (MQ below (va_Qi (fun r u => (keyR (cB τ) 33 = none → r = nI 0 ∧ ∃ V, cU τ V u ∧ ∀ r, (r < 20 ∨ r = 22 ∨ r = 23) → V r = cV τ r) ∧ ∀ X Y, keyR (cB τ) 33 = some (X, Y) → r = nI 1 ∧ cSet τ q X Y u) (fun u => cC K u) (cAA K)) ([.ref (cO K 0), .int (nI (q))] : List Value).toArray s 0 0 (cAA K)) (F0 m 18 ls []) := by
    intro V u H locs ls hn hu hk hw hl
    refine lv_iconst (v := nI 0) hx hb d_D_fillFromShortKey_18 (by decide) ?_
    exact z_zret (cZ K) hx hb hr hlocks (nar_b (by decide)) u hw ⟨fun _ => ⟨rfl, V, hu, hk⟩, fun X Y q9 => absurd (hn.symm.trans q9) (by simp)⟩ d_D_fillFromShortKey_19
  have b48 : ∀ (V : Nat → Nat) (u : cT) (H : Heap) (locs : List Loc) (ls : Array Slot), keyR (cB τ) 33 = none → cU τ V u → (∀ r, (r < 20 ∨ r = 22 ∨ r = 23) → V r = cV τ r) → cH K u s H locs → lv_has ls 3 [(2, .int (nI (cB τ 0))), (0, .ref (cO K 0)), (1, .int (nI (q)))] → W p l e (headSpec (zW y_D_fillFromShortKey b_D_fillFromShortKey 3 (some .boolean)) (zr 6 134)).room s m ([.ref (cO K 0), .int (nI (q))] : List Value).toArray below meth c H locs 0 0 (MQ below (va_Qi (fun r u => (keyR (cB τ) 33 = none → r = nI 0 ∧ ∃ V, cU τ V u ∧ ∀ r, (r < 20 ∨ r = 22 ∨ r = 23) → V r = cV τ r) ∧ ∀ X Y, keyR (cB τ) 33 = some (X, Y) → r = nI 1 ∧ cSet τ q X Y u) (fun u => cC K u) (cAA K)) ([.ref (cO K 0), .int (nI (q))] : List Value).toArray s 0 0 (cAA K)) (F0 m 48 ls []) := by
    intro V u H locs ls hn hu hk hw hl
    refine lv_iconst (v := nI 0) hx hb d_D_fillFromShortKey_48 (by decide) ?_
    exact z_zret (cZ K) hx hb hr hlocks (nar_b (by decide)) u hw ⟨fun _ => ⟨rfl, V, hu, hk⟩, fun X Y q9 => absurd (hn.symm.trans q9) (by simp)⟩ d_D_fillFromShortKey_49
  have b83 : ∀ (V : Nat → Nat) (u : cT) (H : Heap) (locs : List Loc) (ls : Array Slot), keyR (cB τ) 33 = none → cU τ V u → (∀ r, (r < 20 ∨ r = 22 ∨ r = 23) → V r = cV τ r) → cH K u s H locs → lv_has ls 3 [(2, .int (nI (cB τ 0))), (0, .ref (cO K 0)), (1, .int (nI (q)))] → W p l e (headSpec (zW y_D_fillFromShortKey b_D_fillFromShortKey 3 (some .boolean)) (zr 6 134)).room s m ([.ref (cO K 0), .int (nI (q))] : List Value).toArray below meth c H locs 0 0 (MQ below (va_Qi (fun r u => (keyR (cB τ) 33 = none → r = nI 0 ∧ ∃ V, cU τ V u ∧ ∀ r, (r < 20 ∨ r = 22 ∨ r = 23) → V r = cV τ r) ∧ ∀ X Y, keyR (cB τ) 33 = some (X, Y) → r = nI 1 ∧ cSet τ q X Y u) (fun u => cC K u) (cAA K)) ([.ref (cO K 0), .int (nI (q))] : List Value).toArray s 0 0 (cAA K)) (F0 m 83 ls []) := by
    intro V u H locs ls hn hu hk hw hl
    refine lv_iconst (v := nI 0) hx hb d_D_fillFromShortKey_83 (by decide) ?_
    exact z_zret (cZ K) hx hb hr hlocks (nar_b (by decide)) u hw ⟨fun _ => ⟨rfl, V, hu, hk⟩, fun X Y q9 => absurd (hn.symm.trans q9) (by simp)⟩ d_D_fillFromShortKey_84
  have fin : ∀ (V : Nat → Nat) (u : cT) (Y : Nat) (H : Heap) (locs : List Loc) (ls : Array Slot), V 20 = keyX (cB τ) → V 21 = Y → keyR (cB τ) 33 = some (keyX (cB τ), Y) → cU τ V u → (∀ r, (r < 20 ∨ r = 22 ∨ r = 23) → V r = cV τ r) → cH K u s H locs → lv_has ls 3 [(2, .int (nI (cB τ 0))), (0, .ref (cO K 0)), (1, .int (nI (q)))] → W p l e (headSpec (zW y_D_fillFromShortKey b_D_fillFromShortKey 3 (some .boolean)) (zr 6 134)).room s m ([.ref (cO K 0), .int (nI (q))] : List Value).toArray below meth c H locs 0 0 (MQ below (va_Qi (fun r u => (keyR (cB τ) 33 = none → r = nI 0 ∧ ∃ V, cU τ V u ∧ ∀ r, (r < 20 ∨ r = 22 ∨ r = 23) → V r = cV τ r) ∧ ∀ X Y, keyR (cB τ) 33 = some (X, Y) → r = nI 1 ∧ cSet τ q X Y u) (fun u => cC K u) (cAA K)) ([.ref (cO K 0), .int (nI (q))] : List Value).toArray s 0 0 (cAA K)) (F0 m 108 ls []) := by
    intro V u Y H locs ls e20 e21 hkey hu hk hw hl
    refine lv_aload_n hx hb d_D_fillFromShortKey_108 rfl (lv_at hl 1 rfl) ?_
    refine va_get (ci := 4) (C := R_D) (T := F_D) (N := 10) (v := .ref (cO K 4)) hx hb ht ku_D hown hw.2.1 hw.1 0 rfl rfl 1 (by decide) (ht _ kf_D_16) (fun _ h9 => h9) rfl d_D_fillFromShortKey_109 ?_
    refine lv_iload_n hx hb d_D_fillFromShortKey_112 rfl (lv_at hl 2 rfl) ?_
    refine c_spt hx hb hw (i := q) (by omega) d_D_fillFromShortKey_113 ?_
    refine lv_aload_n hx hb d_D_fillFromShortKey_114 rfl (lv_at hl 1 rfl) ?_
    refine va_get (ci := 4) (C := R_D) (T := F_D) (N := 10) (v := .ref (cR K 20)) hx hb ht ku_D hown hw.2.1 hw.1 0 rfl rfl 8 (by decide) (ht _ kf_D_75) (fun _ h9 => h9) rfl d_D_fillFromShortKey_115 ?_
    refine lv_aload_n hx hb d_D_fillFromShortKey_118 rfl (lv_at hl 1 rfl) ?_
    refine va_get (ci := 4) (C := R_D) (T := F_D) (N := 10) (v := .ref (cR K 21)) hx hb ht ku_D hown hw.2.1 hw.1 0 rfl rfl 9 (by decide) (ht _ kf_D_78) (fun _ h9 => h9) rfl d_D_fillFromShortKey_119 ?_
    refine c_cv (np := 2) (As := [.ref (cR K 20), .ref (cR K 21)]) (rest := []) ⟨hx, hb, hml, hown, ht⟩ hw (c_P_become l K u hu.2.1 (j := q) (x := 20) (y := 21) (by omega) (by omega) (by omega) (by omega) (by omega) (by omega)) (8 + q) (cWs_pnt K _ (by omega)) rfl ⟨km_D_87, kv_P_become, kx_P_become, kc_P_become⟩ ki_P (by decide +kernel) ⟨by decide, by decide⟩ rfl rfl rfl hl.1 rfl (Nat.le_of_ble_eq_true rfl) d_D_fillFromShortKey_122 ⟨Nat.le_refl _, Nat.le_refl _⟩ (fun u2 H locs hp hw => ?_)
    have hs := cSet.of (by omega) hu (by omega) (by omega) hk hp
    rw [e20, e21] at hs
    refine lv_iconst (v := nI 1) hx hb d_D_fillFromShortKey_125 (by decide) ?_
    refine z_zret (cZ K) hx hb hr hlocks (nar_b (by decide)) u2 hw ⟨fun q9 => absurd (hkey.symm.trans q9) (by simp), fun X9 Y9 q9 => ?_⟩ d_D_fillFromShortKey_126
    have e9 := Option.some.inj (hkey.symm.trans q9)
    rw [Prod.mk.injEq] at e9
    rw [← e9.1, ← e9.2]
    exact ⟨rfl, hs⟩
  have go : ∀ (H : Heap) (locs : List Loc) (ls : Array Slot), (cB τ 0 = 2 ∨ cB τ 0 = 3) → cH K τ s H locs → lv_has ls 3 [(2, .int (nI (cB τ 0))), (0, .ref (cO K 0)), (1, .int (nI (q)))] → W p l e (headSpec (zW y_D_fillFromShortKey b_D_fillFromShortKey 3 (some .boolean)) (zr 6 134)).room s m ([.ref (cO K 0), .int (nI (q))] : List Value).toArray below meth c H locs 0 0 (MQ below (va_Qi (fun r u => (keyR (cB τ) 33 = none → r = nI 0 ∧ ∃ V, cU τ V u ∧ ∀ r, (r < 20 ∨ r = 22 ∨ r = 23) → V r = cV τ r) ∧ ∀ X Y, keyR (cB τ) 33 = some (X, Y) → r = nI 1 ∧ cSet τ q X Y u) (fun u => cC K u) (cAA K)) ([.ref (cO K 0), .int (nI (q))] : List Value).toArray s 0 0 (cAA K)) (F0 m 20 ls []) := by
    intro H locs ls hm hw hl
    refine lv_aload_n hx hb d_D_fillFromShortKey_20 rfl (lv_at hl 1 rfl) ?_
    refine va_get (ci := 4) (C := R_D) (T := F_D) (N := 10) (v := .ref (cO K 1)) hx hb ht ku_D hown hw.2.1 hw.1 0 rfl rfl 2 (by decide) (ht _ kf_D_23) (fun _ h9 => h9) rfl d_D_fillFromShortKey_21 ?_
    refine lv_aload_n hx hb d_D_fillFromShortKey_24 rfl (lv_at hl 1 rfl) ?_
    refine va_get (ci := 4) (C := R_D) (T := F_D) (N := 10) (v := .ref (cR K 20)) hx hb ht ku_D hown hw.2.1 hw.1 0 rfl rfl 8 (by decide) (ht _ kf_D_75) (fun _ h9 => h9) rfl d_D_fillFromShortKey_25 ?_
    refine lv_iconst (v := nI 1) hx hb d_D_fillFromShortKey_28 (by decide) ?_
    refine lv_bipush (v := nI 32) hx hb d_D_fillFromShortKey_29 (by decide) ?_
    refine c_cv (np := 3) (As := [.ref (cR K 20), .int (nI (1)), .int (nI (32))]) (rest := []) ⟨hx, hb, hml, hown, ht⟩ hw (c_H_readNumber l K τ hok (o := 20) (f0 := 1) (cn := 32) (by decide) (by decide) (by decide) (by decide) (by decide) hB) 1 rfl rfl ⟨km_D_207, kv_H_readNumber, kx_H_readNumber, kc_H_readNumber⟩ ki_H (by decide +kernel) ⟨by decide, by decide⟩ rfl rfl rfl hl.1 rfl (Nat.le_of_ble_eq_true rfl) d_D_fillFromShortKey_31 ⟨Nat.le_refl _, Nat.le_refl _⟩ (fun u1 H locs hp hw => ?_)
    obtain ⟨V1, hu1, f1, k1⟩ := qc_set (cU.refl hok) (by decide) (bA_W8 _ _ _ _) hp
    have f1 : V1 20 = keyX (cB τ) := f1
    clear hp
    have v20 : cV u1 20 = keyX (cB τ) := (hu1.v (by decide)).trans f1
    refine lv_aload_n hx hb d_D_fillFromShortKey_34 rfl (lv_at hl 1 rfl) ?_
    refine va_get (ci := 4) (C := R_D) (T := F_D) (N := 10) (v := .ref (cO K 5)) hx hb ht ku_D hown hw.2.1 hw.1 0 rfl rfl 3 (by decide) (ht _ kf_D_42) (fun _ h9 => h9) rfl d_D_fillFromShortKey_35 ?_
    refine lv_aload_n hx hb d_D_fillFromShortKey_38 rfl (lv_at hl 1 rfl) ?_
    refine va_get (ci := 4) (C := R_D) (T := F_D) (N := 10) (v := .ref (cR K 20)) hx hb ht ku_D hown hw.2.1 hw.1 0 rfl rfl 8 (by decide) (ht _ kf_D_75) (fun _ h9 => h9) rfl d_D_fillFromShortKey_39 ?_
    refine c_ci (np := 1) (As := [.ref (cR K 20)]) (rest := []) ⟨hx, hb, hml, hown, ht⟩ hw (c_M_isAbove l K u1 hu1.2.1 (μ := 0) (a := 20) (by decide) (by decide) (by decide)) 5 rfl rfl ⟨km_D_116, kv_M_isAbove, kx_M_isAbove, kc_M_isAbove⟩ ki_M (by decide +kernel) ⟨by decide, by decide⟩ rfl rfl rfl hl.1 rfl (Nat.le_of_ble_eq_true rfl) d_D_fillFromShortKey_42 ⟨Nat.le_refl _, Nat.le_refl _⟩ (fun r ux H locs hp hw => ?_)
    obtain ⟨hpu, rfl⟩ := hp
    rw [hpu] at hw
    clear hpu
    refine tp_i (y := nI (boolN (keyX (cB τ) < rMod 0))) (by simp only [v20]) ?_
    refine n_ne0 (tgt := 50) hx hb d_D_fillFromShortKey_45 (by decide) (boolN_s _) (fun c1 => ?_) (fun c1 => b48 V1 u1 _ _ ls (keyR_b33 hm (fun q => boolN_0 c1 q.1)) hu1 (fun r h => k1 r (by omega)) hw hl)
    have l1 := boolN_1 c1
    clear c1 b48 b18
    refine lv_aload_n hx hb d_D_fillFromShortKey_50 rfl (lv_at hl 1 rfl) ?_
    refine va_get (ci := 4) (C := R_D) (T := F_D) (N := 10) (v := .ref (cO K 7)) hx hb ht ku_D hown hw.2.1 hw.1 0 rfl rfl 5 (by decide) (ht _ kf_D_63) (fun _ h9 => h9) rfl d_D_fillFromShortKey_51 ?_
    refine lv_aload_n hx hb d_D_fillFromShortKey_54 rfl (lv_at hl 1 rfl) ?_
    refine va_get (ci := 4) (C := R_D) (T := F_D) (N := 10) (v := .ref (cR K 21)) hx hb ht ku_D hown hw.2.1 hw.1 0 rfl rfl 9 (by decide) (ht _ kf_D_78) (fun _ h9 => h9) rfl d_D_fillFromShortKey_55 ?_
    refine lv_aload_n hx hb d_D_fillFromShortKey_58 rfl (lv_at hl 1 rfl) ?_
    refine va_get (ci := 4) (C := R_D) (T := F_D) (N := 10) (v := .ref (cR K 20)) hx hb ht ku_D hown hw.2.1 hw.1 0 rfl rfl 8 (by decide) (ht _ kf_D_75) (fun _ h9 => h9) rfl d_D_fillFromShortKey_59 ?_
    refine c_cv (np := 2) (As := [.ref (cR K 21), .ref (cR K 20)]) (rest := []) ⟨hx, hb, hml, hown, ht⟩ hw (c_C_findSquareOfY l K u1 hu1.2.1 (o := 21) (x := 20) (by decide) (by decide) (by decide) (by decide)) 7 rfl rfl ⟨km_D_211, kv_C_findSquareOfY, kx_C_findSquareOfY, kc_C_findSquareOfY⟩ ki_C (by decide +kernel) ⟨by decide, by decide⟩ rfl rfl rfl hl.1 rfl (Nat.le_of_ble_eq_true rfl) d_D_fillFromShortKey_62 ⟨Nat.le_refl _, Nat.le_refl _⟩ (fun u2 H locs hp hw => ?_)
    obtain ⟨V2, hu2, f2, k2⟩ := hp
    rw [v20] at f2
    have f2 : V2 21 = keyS (cB τ) := f2
    have g20 : V2 20 = keyX (cB τ) := (k2 _ (by decide) (by decide)).trans v20
    have g2 : ∀ r, (r < 20 ∨ r = 22 ∨ r = 23) → V2 r = cV τ r := fun r h => (k2 r (by omega) (by omega)).trans ((hu1.v (by omega)).trans (k1 r (by omega)))
    have hu2 := hu1.trans hu2
    have v21 : cV u2 21 = keyS (cB τ) := (hu2.v (by decide)).trans f2
    clear k2 k1 f1 v20 hu1 f2
    refine lv_aload_n hx hb d_D_fillFromShortKey_65 rfl (lv_at hl 1 rfl) ?_
    refine va_get (ci := 4) (C := R_D) (T := F_D) (N := 10) (v := .ref (cO K 7)) hx hb ht ku_D hown hw.2.1 hw.1 0 rfl rfl 5 (by decide) (ht _ kf_D_63) (fun _ h9 => h9) rfl d_D_fillFromShortKey_66 ?_
    refine lv_aload_n hx hb d_D_fillFromShortKey_69 rfl (lv_at hl 1 rfl) ?_
    refine va_get (ci := 4) (C := R_D) (T := F_D) (N := 10) (v := .ref (cR K 21)) hx hb ht ku_D hown hw.2.1 hw.1 0 rfl rfl 9 (by decide) (ht _ kf_D_78) (fun _ h9 => h9) rfl d_D_fillFromShortKey_70 ?_
    refine lv_aload_n hx hb d_D_fillFromShortKey_73 rfl (lv_at hl 1 rfl) ?_
    refine va_get (ci := 4) (C := R_D) (T := F_D) (N := 10) (v := .ref (cR K 21)) hx hb ht ku_D hown hw.2.1 hw.1 0 rfl rfl 9 (by decide) (ht _ kf_D_78) (fun _ h9 => h9) rfl d_D_fillFromShortKey_74 ?_
    refine c_ci (np := 2) (As := [.ref (cR K 21), .ref (cR K 21)]) (rest := []) ⟨hx, hb, hml, hown, ht⟩ hw (c_C_findEvenRoot l K u2 hu2.2.1 (o := 21) (a := 21) (by decide) (by decide)) 7 rfl rfl ⟨km_D_135, kv_C_findEvenRoot, kx_C_findEvenRoot, kc_C_findEvenRoot⟩ ki_C (by decide +kernel) ⟨by decide, by decide⟩ rfl rfl rfl hl.1 rfl (Nat.le_of_ble_eq_true rfl) d_D_fillFromShortKey_77 ⟨Nat.le_refl _, Nat.le_refl _⟩ (fun r u3 H locs hp hw => ?_)
    rw [v21] at hp
    obtain ⟨V3, hu3, rfl, f3, f4, k3⟩ := hp
    have h20 : V3 20 = keyX (cB τ) := (k3 _ (by decide) (by decide) (by decide) (by decide)).trans ((hu2.v (by decide)).trans g20)
    have g3 : ∀ r, (r < 20 ∨ r = 22 ∨ r = 23) → V3 r = cV τ r := fun r h => (k3 r (by omega) (by omega) (by omega) (by omega)).trans ((hu2.v (by omega)).trans (g2 r h))
    have hu3 := hu2.trans hu3
    clear k3 g2 g20 hu2
    refine n_ne0 (tgt := 85) hx hb d_D_fillFromShortKey_80 (by decide) (boolN_s _) (fun c1 => ?_) (fun c1 => b83 V3 u3 _ _ ls (keyR_b33 hm (fun q => boolN_0 c1 q.2)) hu3 g3 hw hl)
    have l2 := boolN_1 c1
    have f21 : V3 21 = keyE (cB τ) := f3 l2
    have hkey := keyR_y33 hm ⟨l1, l2⟩
    clear c1 f3 f4 b83
    have eE : keyE (cB τ) < rMod 0 := evenN_lt (rootN_lt _)
    refine lv_iload_n hx hb d_D_fillFromShortKey_85 rfl (lv_at hl 0 rfl) ?_
    refine lv_iconst (v := nI 3) hx hb d_D_fillFromShortKey_86 (by decide) ?_
    refine n_ne (tgt := 108) hx hb d_D_fillFromShortKey_87 (by decide) (by omega) (by decide) (fun c2 => fin V3 u3 _ _ _ ls h20 f21 (by rw [hkey, if_neg c2]) hu3 g3 hw hl) (fun c2 => ?_)
    refine lv_aload_n hx hb d_D_fillFromShortKey_90 rfl (lv_at hl 1 rfl) ?_
    refine va_get (ci := 4) (C := R_D) (T := F_D) (N := 10) (v := .ref (cO K 5)) hx hb ht ku_D hown hw.2.1 hw.1 0 rfl rfl 3 (by decide) (ht _ kf_D_42) (fun _ h9 => h9) rfl d_D_fillFromShortKey_91 ?_
    refine lv_aload_n hx hb d_D_fillFromShortKey_94 rfl (lv_at hl 1 rfl) ?_
    refine va_get (ci := 4) (C := R_D) (T := F_D) (N := 10) (v := .ref (cR K 21)) hx hb ht ku_D hown hw.2.1 hw.1 0 rfl rfl 9 (by decide) (ht _ kf_D_78) (fun _ h9 => h9) rfl d_D_fillFromShortKey_95 ?_
    refine c_gets hx hb ht hown hw 34 (by decide) (by decide) kf_D_156 d_D_fillFromShortKey_98 ?_
    refine lv_aload_n hx hb d_D_fillFromShortKey_101 rfl (lv_at hl 1 rfl) ?_
    refine va_get (ci := 4) (C := R_D) (T := F_D) (N := 10) (v := .ref (cR K 21)) hx hb ht ku_D hown hw.2.1 hw.1 0 rfl rfl 9 (by decide) (ht _ kf_D_78) (fun _ h9 => h9) rfl d_D_fillFromShortKey_102 ?_
    have w34 : cV u3 34 = 0 := rfl
    have w21 : cV u3 21 = keyE (cB τ) := (hu3.v (by decide)).trans f21
    refine c_cv (np := 3) (As := [.ref (cR K 21), .ref (cR K 34), .ref (cR K 21)]) (rest := []) ⟨hx, hb, hml, hown, ht⟩ hw (c_M_subtract l K u3 hu3.2.1 (μ := 0) (o := 21) (a := 34) (b := 21) (by decide) (by omega) (by omega) (by omega) (by omega) (by omega) (by rw [w34]; exact rMod_pos (by decide)) (by rw [w21]; exact eE)) 5 rfl rfl ⟨km_D_126, kv_M_subtract, kx_M_subtract, kc_M_subtract⟩ ki_M (by decide +kernel) ⟨by decide, by decide⟩ rfl rfl rfl hl.1 rfl (Nat.le_of_ble_eq_true rfl) d_D_fillFromShortKey_105 ⟨Nat.le_refl _, Nat.le_refl _⟩ (fun u4 H locs hp hw => ?_)
    obtain ⟨V4, hu4, f4, k4⟩ := qc_ss (by decide) hu3 (by decide) (by decide) (by decide) hp
    have z34 : V3 34 = 0 := (hu3.v (by omega)).symm.trans w34
    rw [z34, f21] at f4
    exact fin V4 u4 _ _ _ ls ((k4 _ (by decide)).trans h20) f4 (by rw [hkey, if_pos c2]) hu4 (fun r h => (k4 r (by omega)).trans (g3 r h)) hw hl
  clear fin b48 b83
  refine lv_iload_n hx hb d_D_fillFromShortKey_8 rfl (lv_at hl 0 rfl) ?_
  refine lv_iconst (v := nI 2) hx hb d_D_fillFromShortKey_9 (by decide) ?_
  refine n_eq (tgt := 20) hx hb d_D_fillFromShortKey_10 (by decide) (by omega) (by decide) (fun c1 => go _ _ ls (Or.inl c1) hw hl) (fun c1 => ?_)
  refine lv_iload_n hx hb d_D_fillFromShortKey_13 rfl (lv_at hl 0 rfl) ?_
  refine lv_iconst (v := nI 3) hx hb d_D_fillFromShortKey_14 (by decide) ?_
  refine n_eq (tgt := 20) hx hb d_D_fillFromShortKey_15 (by decide) (by omega) (by decide) (fun c2 => go _ _ ls (Or.inr c2) hw hl) (fun c2 => b18 (cV τ) τ _ _ ls (keyR_n33 (fun q => q.elim c1 c2)) (cU.refl hok) (fun _ _ => rfl) hw hl)
set_option maxHeartbeats 4000000 in
set_option maxRecDepth 100000 in
theorem c_D_fillFromWholeKey (l : Launch) (K : cG) (τ : cT) (hok : cOk τ) (hB : ∀ j, j < 100 → cB τ j < 256) {q : Nat} (hq : q < 4) : Met l y_D_fillFromWholeKey (zW y_D_fillFromWholeKey b_D_fillFromWholeKey 2 (some .boolean)) (zr 7 155) (va_Pc [.ref (cO K 0), .int (nI (q))] (cC K τ)) (va_Qi (fun r u => (keyR (cB τ) 65 = none → r = nI 0 ∧ ∃ V, cU τ V u ∧ ∀ r, (r < 20 ∨ r = 22 ∨ r = 23) → V r = cV τ r) ∧ ∀ X Y, keyR (cB τ) 65 = some (X, Y) → r = nI 1 ∧ cSet τ q X Y u) (fun u => cC K u) (cAA K)) 0 0 (cAA K) := by
  refine Met.ofW (cc := b_D_fillFromWholeKey) (maxL := 2) (ret := (some .boolean)) (by decide) rfl ?_
  intro p e s m args below meth c s₁ B hml hv
  obtain ⟨rfl, hw⟩ := hv
  have hx := B.exec
  have hb := B.bytes
  have hr := B.returns
  have hts := atoms_spec (ws := zW y_D_fillFromWholeKey b_D_fillFromWholeKey 2 (some .boolean)) B.pre
  have ht : ∀ w ∈ zT, w.before ([.ref (cO K 0), .int (nI (q))] : List Value).toArray s = true := fun w h => hts w (List.mem_cons_of_mem _ h)
  have hown : s.vm.findClass R_D = some m.cls := findClass_of_methodNamed B.named
  have hlocks := B.notSynchronized
  have hl := lv_entry ([.ref (cO K 0), .int (nI (q))]) (n := 2) (Nat.le_of_ble_eq_true rfl)
  rw [lg_entry_eq]
  generalize (lg_sl ([.ref (cO K 0), .int (nI (q))]) ++ List.replicate (2 - (lg_sl ([.ref (cO K 0), .int (nI (q))])).length) Slot.unset).toArray = ls at hl ⊢
  have hl : lv_has ls 2 [(0, .ref (cO K 0)), (1, .int (nI (q)))] := hl
  refine lv_aload_n hx hb d_D_fillFromWholeKey_0 rfl (lv_at hl 0 rfl) ?_
  refine va_get (ci := 4) (C := R_D) (T := F_D) (N := 10) (v := .ref (cO K 1)) hx hb ht ku_D hown hw.2.1 hw.1 0 rfl rfl 2 (by decide) (ht _ kf_D_23) (fun _ h9 => h9) rfl d_D_fillFromWholeKey_1 ?_
  refine c_ci (np := 0) (As := []) (rest := []) ⟨hx, hb, hml, hown, ht⟩ hw (c_H_firstByte l K τ) 1 rfl rfl ⟨km_D_204, kv_H_firstByte, kx_H_firstByte, kc_H_firstByte⟩ ki_H (by decide +kernel) ⟨by decide, by decide⟩ rfl rfl rfl hl.1 rfl (Nat.le_of_ble_eq_true rfl) d_D_fillFromWholeKey_4 ⟨Nat.le_refl _, Nat.le_refl _⟩ (fun r ux H locs hp hw => ?_)
  obtain ⟨hpu, rfl⟩ := hp
  rw [hpu] at hw
  clear hpu
  have b0 := hB 0 (by decide)
  refine lv_iconst (v := nI 4) hx hb d_D_fillFromWholeKey_7 (by decide) ?_
  refine n_eq (tgt := 13) hx hb d_D_fillFromWholeKey_8 (by decide) (by omega) (by decide) (fun c1 => ?_) (fun c1 => ?_)
  · refine lv_aload_n hx hb d_D_fillFromWholeKey_13 rfl (lv_at hl 0 rfl) ?_
    refine va_get (ci := 4) (C := R_D) (T := F_D) (N := 10) (v := .ref (cO K 1)) hx hb ht ku_D hown hw.2.1 hw.1 0 rfl rfl 2 (by decide) (ht _ kf_D_23) (fun _ h9 => h9) rfl d_D_fillFromWholeKey_14 ?_
    refine lv_aload_n hx hb d_D_fillFromWholeKey_17 rfl (lv_at hl 0 rfl) ?_
    refine va_get (ci := 4) (C := R_D) (T := F_D) (N := 10) (v := .ref (cR K 20)) hx hb ht ku_D hown hw.2.1 hw.1 0 rfl rfl 8 (by decide) (ht _ kf_D_75) (fun _ h9 => h9) rfl d_D_fillFromWholeKey_18 ?_
    refine lv_iconst (v := nI 1) hx hb d_D_fillFromWholeKey_21 (by decide) ?_
    refine lv_bipush (v := nI 32) hx hb d_D_fillFromWholeKey_22 (by decide) ?_
    refine c_cv (np := 3) (As := [.ref (cR K 20), .int (nI (1)), .int (nI (32))]) (rest := []) ⟨hx, hb, hml, hown, ht⟩ hw (c_H_readNumber l K τ hok (o := 20) (f0 := 1) (cn := 32) (by decide) (by decide) (by decide) (by decide) (by decide) hB) 1 rfl rfl ⟨km_D_207, kv_H_readNumber, kx_H_readNumber, kc_H_readNumber⟩ ki_H (by decide +kernel) ⟨by decide, by decide⟩ rfl rfl rfl hl.1 rfl (Nat.le_of_ble_eq_true rfl) d_D_fillFromWholeKey_24 ⟨Nat.le_refl _, Nat.le_refl _⟩ (fun u1 H locs hp hw => ?_)
    obtain ⟨V1, hu1, f1, k1⟩ := qc_set (cU.refl hok) (by decide) (bA_W8 _ _ _ _) hp
    have f1 : V1 20 = keyX (cB τ) := f1
    clear hp
    have eB : cB u1 = cB τ := hu1.2.2.2.1
    refine lv_aload_n hx hb d_D_fillFromWholeKey_27 rfl (lv_at hl 0 rfl) ?_
    refine va_get (ci := 4) (C := R_D) (T := F_D) (N := 10) (v := .ref (cO K 1)) hx hb ht ku_D hown hw.2.1 hw.1 0 rfl rfl 2 (by decide) (ht _ kf_D_23) (fun _ h9 => h9) rfl d_D_fillFromWholeKey_28 ?_
    refine lv_aload_n hx hb d_D_fillFromWholeKey_31 rfl (lv_at hl 0 rfl) ?_
    refine va_get (ci := 4) (C := R_D) (T := F_D) (N := 10) (v := .ref (cR K 21)) hx hb ht ku_D hown hw.2.1 hw.1 0 rfl rfl 9 (by decide) (ht _ kf_D_78) (fun _ h9 => h9) rfl d_D_fillFromWholeKey_32 ?_
    refine lv_bipush (v := nI 33) hx hb d_D_fillFromWholeKey_35 (by decide) ?_
    refine lv_bipush (v := nI 32) hx hb d_D_fillFromWholeKey_37 (by decide) ?_
    refine c_cv (np := 3) (As := [.ref (cR K 21), .int (nI (33)), .int (nI (32))]) (rest := []) ⟨hx, hb, hml, hown, ht⟩ hw (c_H_readNumber l K u1 hu1.2.1 (o := 21) (f0 := 33) (cn := 32) (by decide) (by decide) (by decide) (by decide) (by decide) (by rw [eB]; exact hB)) 1 rfl rfl ⟨km_D_207, kv_H_readNumber, kx_H_readNumber, kc_H_readNumber⟩ ki_H (by decide +kernel) ⟨by decide, by decide⟩ rfl rfl rfl hl.1 rfl (Nat.le_of_ble_eq_true rfl) d_D_fillFromWholeKey_39 ⟨Nat.le_refl _, Nat.le_refl _⟩ (fun u2 H locs hp hw => ?_)
    rw [eB] at hp
    obtain ⟨V2, hu2, f2, k2⟩ := qc_set hu1 (by decide) (bA_W8 _ _ _ _) hp
    have f2 : V2 21 = keyY (cB τ) := f2
    clear hp
    have v20 : cV u2 20 = keyX (cB τ) := (hu2.v (by decide)).trans ((k2 _ (by decide)).trans f1)
    have v21 : cV u2 21 = keyY (cB τ) := (hu2.v (by decide)).trans f2
    have g2 : ∀ r, (r < 20 ∨ r = 22 ∨ r = 23) → V2 r = cV τ r := fun r h => (k2 r (by omega)).trans (k1 r (by omega))
    refine lv_aload_n hx hb d_D_fillFromWholeKey_42 rfl (lv_at hl 0 rfl) ?_
    refine lv_iload_n hx hb d_D_fillFromWholeKey_43 rfl (lv_at hl 1 rfl) ?_
    refine lv_aload_n hx hb d_D_fillFromWholeKey_44 rfl (lv_at hl 0 rfl) ?_
    refine va_get (ci := 4) (C := R_D) (T := F_D) (N := 10) (v := .ref (cR K 20)) hx hb ht ku_D hown hw.2.1 hw.1 0 rfl rfl 8 (by decide) (ht _ kf_D_75) (fun _ h9 => h9) rfl d_D_fillFromWholeKey_45 ?_
    refine lv_aload_n hx hb d_D_fillFromWholeKey_48 rfl (lv_at hl 0 rfl) ?_
    refine va_get (ci := 4) (C := R_D) (T := F_D) (N := 10) (v := .ref (cR K 21)) hx hb ht ku_D hown hw.2.1 hw.1 0 rfl rfl 9 (by decide) (ht _ kf_D_78) (fun _ h9 => h9) rfl d_D_fillFromWholeKey_49 ?_
    refine c_ci (np := 3) (As := [.int (nI (q)), .ref (cR K 20), .ref (cR K 21)]) (rest := []) ⟨hx, hb, hml, hown, ht⟩ hw (c_D_fillSpot l K u2 hu2.2.1 (q := q) (x := 20) (y := 21) hq (by decide) (by decide) (by omega)) 0 rfl rfl ⟨km_D_148, kv_D_fillSpot, kx_D_fillSpot, kc_D_fillSpot⟩ ki_D (by decide +kernel) ⟨by decide, by decide⟩ rfl rfl rfl hl.1 rfl (Nat.le_of_ble_eq_true rfl) d_D_fillFromWholeKey_52 ⟨Nat.le_refl _, Nat.le_refl _⟩ (fun r u3 H locs hp hw => ?_)
    rw [v20, v21] at hp
    obtain ⟨rfl, p1, p2⟩ := hp
    refine z_zret (cZ K) hx hb hr hlocks (nar_b (boolN_lt _)) u3 hw ?_ d_D_fillFromWholeKey_55
    by_cases hon : onN (rMod 0) (keyX (cB τ)) (keyY (cB τ))
    · have hkey := keyR_y65 c1 hon
      refine ⟨fun q9 => absurd (hkey.symm.trans q9) (by simp), fun X9 Y9 q9 => ?_⟩
      have e9 := Option.some.inj (hkey.symm.trans q9)
      rw [Prod.mk.injEq] at e9
      rw [← e9.1, ← e9.2, boolN_t hon]
      obtain ⟨V, hU, x1, x2, x3⟩ := p1 hon
      refine ⟨rfl, V, ⟨hU.1, hU.2.1, ?_, hU.2.2.2.1.trans hu2.2.2.2.1, hU.2.2.2.2.trans hu2.2.2.2.2⟩, x1, x2, fun r a b h => (x3 r a b h).trans ((hu2.v (by omega)).trans (g2 r h))⟩
      rw [hU.2.2.1]; show va_up (cN u2) q 0 = va_up (cN τ) q 0; rw [hu2.2.2.1]
    · have hkey := keyR_b65 c1 hon
      obtain ⟨V, hU, x3⟩ := p2 hon
      refine ⟨fun _ => ⟨by rw [boolN_f hon], V, hu2.trans hU, fun r h => (x3 r (by omega)).trans ((hu2.v (by omega)).trans (g2 r h))⟩, fun X9 Y9 q9 => absurd (hkey.symm.trans q9) (by simp)⟩
  · refine lv_iconst (v := nI 0) hx hb d_D_fillFromWholeKey_11 (by decide) ?_
    exact z_zret (cZ K) hx hb hr hlocks (nar_b (by decide)) τ hw ⟨fun _ => ⟨rfl, cV τ, cU.refl hok, fun _ _ => rfl⟩, fun X Y q9 => absurd ((keyR_n65 c1).symm.trans q9) (by simp)⟩ d_D_fillFromWholeKey_12
set_option maxHeartbeats 4000000 in
set_option maxRecDepth 100000 in
theorem c_D_key (l : Launch) (K : cG) (τ : cT) (hok : cOk τ) (hm : cM τ ≤ 100) (hB : ∀ j, j < 100 → cB τ j < 256) (x : Int32) : Met l y_D_key (zW y_D_key b_D_key 3 (some .int)) (zr 8 176) (va_Pc [.ref (cO K 0), .int (x)] (cC K τ)) (va_Qi (fun r u => (¬ okR x 4 → r = -1 ∧ u = τ) ∧ ∀ q, q < 4 → x = nI q → (keyR (cB τ) (cM τ) = none → r = nI 0 ∧ ∃ V, cU (csM τ 0) V u ∧ ∀ r, (r < 20 ∨ r = 22 ∨ r = 23) → V r = cV τ r) ∧ ∀ X Y, keyR (cB τ) (cM τ) = some (X, Y) → r = nI 1 ∧ cSet (csM τ 0) q X Y u) (fun u => cC K u) (cAA K)) 0 0 (cAA K) := by
  refine Met.ofW (cc := b_D_key) (maxL := 3) (ret := (some .int)) (by decide) rfl ?_
  intro p e s m args below meth c s₁ B hml hv
  obtain ⟨rfl, hw⟩ := hv
  have hx := B.exec
  have hb := B.bytes
  have hr := B.returns
  have hts := atoms_spec (ws := zW y_D_key b_D_key 3 (some .int)) B.pre
  have ht : ∀ w ∈ zT, w.before ([.ref (cO K 0), .int (x)] : List Value).toArray s = true := fun w h => hts w (List.mem_cons_of_mem _ h)
  have hown : s.vm.findClass R_D = some m.cls := findClass_of_methodNamed B.named
  have hlocks := B.notSynchronized
  have hl := lv_entry ([.ref (cO K 0), .int (x)]) (n := 3) (Nat.le_of_ble_eq_true rfl)
  rw [lg_entry_eq]
  generalize (lg_sl ([.ref (cO K 0), .int (x)]) ++ List.replicate (3 - (lg_sl ([.ref (cO K 0), .int (x)])).length) Slot.unset).toArray = ls at hl ⊢
  have hl : lv_has ls 3 [(0, .ref (cO K 0)), (1, .int (x))] := hl
  refine lv_iload_n hx hb d_D_key_0 rfl (lv_at hl 1 rfl) ?_
  refine c_si (np := 1) (As := [.int (x)]) (rest := []) ⟨hx, hb, hml, hown, ht⟩ hw (c_D_isSpot l K τ x) ⟨km_D_142, ks_D_isSpot, kc_D_isSpot⟩ ki_D (by decide +kernel) ⟨by decide, by decide⟩ rfl rfl rfl hl.1 rfl (Nat.le_of_ble_eq_true rfl) d_D_key_1 ⟨Nat.le_refl _, Nat.le_refl _⟩ (fun r ux H locs hp hw => ?_)
  obtain ⟨hpu, rfl⟩ := hp
  rw [hpu] at hw
  clear hpu
  refine n_ne0 (tgt := 9) hx hb d_D_key_4 (by decide) (boolN_s _) (fun c1 => ?_) (fun c1 => ?_)
  · have k1 := boolN_1 c1
    obtain ⟨q, lt_q, ex⟩ := k1.ex (by decide)
    have hl2 := hl
    rw [ex] at hl2
    have hl : lv_has ls 3 [(0, .ref (cO K 0)), (1, .int (nI (q)))] := hl2
    clear hl2
    refine lv_aload_n hx hb d_D_key_9 rfl (lv_at hl 0 rfl) ?_
    refine va_get (ci := 4) (C := R_D) (T := F_D) (N := 10) (v := .ref (cO K 1)) hx hb ht ku_D hown hw.2.1 hw.1 0 rfl rfl 2 (by decide) (ht _ kf_D_23) (fun _ h9 => h9) rfl d_D_key_10 ?_
    refine c_ci (np := 0) (As := []) (rest := []) ⟨hx, hb, hml, hown, ht⟩ hw (c_H_takeAll l K τ) 1 rfl rfl ⟨km_D_181, kv_H_takeAll, kx_H_takeAll, kc_H_takeAll⟩ ki_H (by decide +kernel) ⟨by decide, by decide⟩ rfl rfl rfl hl.1 rfl (Nat.le_of_ble_eq_true rfl) d_D_key_13 ⟨Nat.le_refl _, Nat.le_refl _⟩ (fun r u1 H locs hp hw => ?_)
    obtain ⟨rfl, rfl⟩ := hp
    refine lv_istore_n (lv' := [(2, .int (nI (cM τ))), (0, .ref (cO K 0)), (1, .int (nI (q)))]) hx hb d_D_key_16 rfl hl (by decide) rfl (fun ls hl => ?_)
    refine lv_iload_n hx hb d_D_key_17 rfl (lv_at hl 0 rfl) ?_
    refine lv_bipush (v := nI 33) hx hb d_D_key_18 (by decide) ?_
    refine n_ne (tgt := 37) hx hb d_D_key_20 (by decide) (by omega) (by decide) (fun c3 => ?_) (fun c3 => ?_)
    · refine lv_iload_n hx hb d_D_key_37 rfl (lv_at hl 0 rfl) ?_
      refine lv_bipush (v := nI 65) hx hb d_D_key_38 (by decide) ?_
      refine n_ne (tgt := 57) hx hb d_D_key_40 (by decide) (by omega) (by decide) (fun c4 => ?_) (fun c4 => ?_)
      · refine lv_iconst (v := nI 0) hx hb d_D_key_57 (by decide) ?_
        refine z_iret (cZ K) hx hb hr hlocks (csM τ 0) hw ⟨fun q9 => absurd k1 q9, fun q_ w1 e1 => ?_⟩ d_D_key_58
        have q_q_ : q_ = q := (nI_eq (by omega) (by omega)).mp (e1.symm.trans ex)
        subst q_q_
        exact ⟨fun _ => ⟨rfl, cV τ, cU.refl (τ := csM τ 0) hok, fun _ _ => rfl⟩, fun X Y q9 => absurd ((keyR_else c3 c4).symm.trans q9) (by simp)⟩
      · refine lv_aload_n hx hb d_D_key_43 rfl (lv_at hl 1 rfl) ?_
        refine lv_iload_n hx hb d_D_key_44 rfl (lv_at hl 2 rfl) ?_
        refine c_ci (np := 1) (As := [.int (nI (q))]) (rest := []) ⟨hx, hb, hml, hown, ht⟩ hw (c_D_fillFromWholeKey l K (csM τ 0) hok hB lt_q) 0 rfl rfl ⟨km_D_188, kv_D_fillFromWholeKey, kx_D_fillFromWholeKey, kc_D_fillFromWholeKey⟩ ki_D (by decide +kernel) ⟨by decide, by decide⟩ rfl rfl rfl hl.1 rfl (Nat.le_of_ble_eq_true rfl) d_D_key_45 ⟨Nat.le_refl _, Nat.le_refl _⟩ (fun r u2 H locs hp hw => ?_)
        have hp : (keyR (cB τ) 65 = none → r = nI 0 ∧ ∃ V, cU (csM τ 0) V u2 ∧ ∀ r, (r < 20 ∨ r = 22 ∨ r = 23) → V r = cV τ r) ∧ ∀ X Y, keyR (cB τ) 65 = some (X, Y) → r = nI 1 ∧ cSet (csM τ 0) q X Y u2 := hp
        rw [← c4] at hp
        rcases hk : keyR (cB τ) (cM τ) with _ | ⟨X, Y⟩
        · obtain ⟨rfl, hV⟩ := hp.1 hk
          refine n_eq0 (tgt := 55) hx hb d_D_key_48 (by decide) (by decide) (fun _ => ?_) (fun c9 => absurd rfl c9)
          refine lv_iconst (v := nI 0) hx hb d_D_key_55 (by decide) ?_
          refine z_iret (cZ K) hx hb hr hlocks u2 hw ⟨fun q9 => absurd k1 q9, fun q_ w1 e1 => ?_⟩ d_D_key_56
          have q_q_ : q_ = q := (nI_eq (by omega) (by omega)).mp (e1.symm.trans ex)
          subst q_q_
          exact ⟨fun _ => ⟨rfl, hV⟩, fun X Y q9 => absurd q9 (by simp)⟩
        · obtain ⟨rfl, hV⟩ := hp.2 X Y hk
          refine n_eq0 (tgt := 55) hx hb d_D_key_48 (by decide) (by decide) (fun c9 => absurd c9 (by decide)) (fun _ => ?_)
          refine lv_iconst (v := nI 1) hx hb d_D_key_51 (by decide) ?_
          refine lv_goto (tgt := 56) hx hb d_D_key_52 (by decide) ?_
          refine z_iret (cZ K) hx hb hr hlocks u2 hw ⟨fun q9 => absurd k1 q9, fun q_ w1 e1 => ?_⟩ d_D_key_56
          have q_q_ : q_ = q := (nI_eq (by omega) (by omega)).mp (e1.symm.trans ex)
          subst q_q_
          exact ⟨fun q9 => absurd q9 (by simp), fun X9 Y9 q9 => by have e9 := Option.some.inj q9; rw [Prod.mk.injEq] at e9; rw [← e9.1, ← e9.2]; exact ⟨rfl, hV⟩⟩
    · refine lv_aload_n hx hb d_D_key_23 rfl (lv_at hl 1 rfl) ?_
      refine lv_iload_n hx hb d_D_key_24 rfl (lv_at hl 2 rfl) ?_
      refine c_ci (np := 1) (As := [.int (nI (q))]) (rest := []) ⟨hx, hb, hml, hown, ht⟩ hw (c_D_fillFromShortKey l K (csM τ 0) hok hB lt_q) 0 rfl rfl ⟨km_D_185, kv_D_fillFromShortKey, kx_D_fillFromShortKey, kc_D_fillFromShortKey⟩ ki_D (by decide +kernel) ⟨by decide, by decide⟩ rfl rfl rfl hl.1 rfl (Nat.le_of_ble_eq_true rfl) d_D_key_25 ⟨Nat.le_refl _, Nat.le_refl _⟩ (fun r u2 H locs hp hw => ?_)
      have hp : (keyR (cB τ) 33 = none → r = nI 0 ∧ ∃ V, cU (csM τ 0) V u2 ∧ ∀ r, (r < 20 ∨ r = 22 ∨ r = 23) → V r = cV τ r) ∧ ∀ X Y, keyR (cB τ) 33 = some (X, Y) → r = nI 1 ∧ cSet (csM τ 0) q X Y u2 := hp
      rw [← c3] at hp
      rcases hk : keyR (cB τ) (cM τ) with _ | ⟨X, Y⟩
      · obtain ⟨rfl, hV⟩ := hp.1 hk
        refine n_eq0 (tgt := 35) hx hb d_D_key_28 (by decide) (by decide) (fun _ => ?_) (fun c9 => absurd rfl c9)
        refine lv_iconst (v := nI 0) hx hb d_D_key_35 (by decide) ?_
        refine z_iret (cZ K) hx hb hr hlocks u2 hw ⟨fun q9 => absurd k1 q9, fun q_ w1 e1 => ?_⟩ d_D_key_36
        have q_q_ : q_ = q := (nI_eq (by omega) (by omega)).mp (e1.symm.trans ex)
        subst q_q_
        exact ⟨fun _ => ⟨rfl, hV⟩, fun X Y q9 => absurd q9 (by simp)⟩
      · obtain ⟨rfl, hV⟩ := hp.2 X Y hk
        refine n_eq0 (tgt := 35) hx hb d_D_key_28 (by decide) (by decide) (fun c9 => absurd c9 (by decide)) (fun _ => ?_)
        refine lv_iconst (v := nI 1) hx hb d_D_key_31 (by decide) ?_
        refine lv_goto (tgt := 36) hx hb d_D_key_32 (by decide) ?_
        refine z_iret (cZ K) hx hb hr hlocks u2 hw ⟨fun q9 => absurd k1 q9, fun q_ w1 e1 => ?_⟩ d_D_key_36
        have q_q_ : q_ = q := (nI_eq (by omega) (by omega)).mp (e1.symm.trans ex)
        subst q_q_
        exact ⟨fun q9 => absurd q9 (by simp), fun X9 Y9 q9 => by have e9 := Option.some.inj q9; rw [Prod.mk.injEq] at e9; rw [← e9.1, ← e9.2]; exact ⟨rfl, hV⟩⟩
  · have k1 := boolN_0 c1
    refine lv_iconst (v := -1) hx hb d_D_key_7 (by decide) ?_
    exact z_iret (cZ K) hx hb hr hlocks τ hw ⟨fun _ => ⟨rfl, rfl⟩, fun q w1 e1 => absurd (by rw [e1]; exact okR_of w1 (by decide)) k1⟩ d_D_key_8
set_option maxHeartbeats 4000000 in
set_option maxRecDepth 100000 in
theorem c_D_signature (l : Launch) (K : cG) (τ : cT) (hok : cOk τ) (hm : cM τ ≤ 100) (hB : ∀ j, j < 100 → cB τ j < 256) (x y : Int32) : Met l y_D_signature (zW y_D_signature b_D_signature 4 (some .int)) (zr 5 121) (va_Pc [.ref (cO K 0), .int (x), .int (y)] (cC K τ)) (va_Qi (fun r u => (¬ (okR x 8 ∧ okR y 8 ∧ x ≠ y) → r = -1 ∧ u = τ) ∧ ∀ a b, a < 8 → b < 8 → a ≠ b → x = nI a → y = nI b → (¬ okSig (cB τ) (cM τ) → r = nI 0 ∧ ∃ V, cU (csM τ 0) V u ∧ ∀ r, (r < 20 ∨ r = 22 ∨ r = 23) → V r = cV τ r) ∧ (okSig (cB τ) (cM τ) → r = nI 1 ∧ ∃ V, cU (csM τ 0) V u ∧ V a = bA (cB τ) 4 (cB τ 3) (cB τ 3) ∧ V b = bA (cB τ) (4 + cB τ 3 + 2) (cB τ (4 + cB τ 3 + 1)) (cB τ (4 + cB τ 3 + 1)) ∧ ∀ r, r ≠ a → r ≠ b → (r < 20 ∨ r = 22 ∨ r = 23) → V r = cV τ r)) (fun u => cC K u) (cAA K)) 0 0 (cAA K) := by
  refine Met.ofW (cc := b_D_signature) (maxL := 4) (ret := (some .int)) (by decide) rfl ?_
  intro p e s m args below meth c s₁ B hml hv
  obtain ⟨rfl, hw⟩ := hv
  have hx := B.exec
  have hb := B.bytes
  have hr := B.returns
  have hts := atoms_spec (ws := zW y_D_signature b_D_signature 4 (some .int)) B.pre
  have ht : ∀ w ∈ zT, w.before ([.ref (cO K 0), .int (x), .int (y)] : List Value).toArray s = true := fun w h => hts w (List.mem_cons_of_mem _ h)
  have hown : s.vm.findClass R_D = some m.cls := findClass_of_methodNamed B.named
  have hlocks := B.notSynchronized
  have hl := lv_entry ([.ref (cO K 0), .int (x), .int (y)]) (n := 4) (Nat.le_of_ble_eq_true rfl)
  rw [lg_entry_eq]
  generalize (lg_sl ([.ref (cO K 0), .int (x), .int (y)]) ++ List.replicate (4 - (lg_sl ([.ref (cO K 0), .int (x), .int (y)])).length) Slot.unset).toArray = ls at hl ⊢
  have hl : lv_has ls 4 [(0, .ref (cO K 0)), (1, .int (x)), (2, .int (y))] := hl
  refine lv_iload_n hx hb d_D_signature_0 rfl (lv_at hl 1 rfl) ?_
  refine lv_iload_n hx hb d_D_signature_1 rfl (lv_at hl 2 rfl) ?_
  refine c_si (np := 2) (As := [.int (x), .int (y)]) (rest := []) ⟨hx, hb, hml, hown, ht⟩ hw (c_D_areTwoRegisters l K τ x y) ⟨km_D_163, ks_D_areTwoRegisters, kc_D_areTwoRegisters⟩ ki_D (by decide +kernel) ⟨by decide, by decide⟩ rfl rfl rfl hl.1 rfl (Nat.le_of_ble_eq_true rfl) d_D_signature_2 ⟨Nat.le_refl _, Nat.le_refl _⟩ (fun r ux H locs hp hw => ?_)
  obtain ⟨hpu, rfl⟩ := hp
  rw [hpu] at hw
  clear hpu
  refine n_ne0 (tgt := 10) hx hb d_D_signature_5 (by decide) (boolN_s _) (fun c1 => ?_) (fun c1 => ?_)
  · have k9 := boolN_1 c1
    have k1 := k9.1
    have k2 := k9.2.1
    have c2 := k9.2.2
    obtain ⟨a, lt_a, ex⟩ := k1.ex (by decide)
    obtain ⟨b, lt_b, ey⟩ := k2.ex (by decide)
    have hl2 := hl
    rw [ex, ey] at hl2
    have hl : lv_has ls 4 [(0, .ref (cO K 0)), (1, .int (nI (a))), (2, .int (nI (b)))] := hl2
    clear hl2
    have hab : a ≠ b := fun q9 => c2 (by rw [ex, ey, q9])
    refine lv_aload_n hx hb d_D_signature_10 rfl (lv_at hl 0 rfl) ?_
    refine va_get (ci := 4) (C := R_D) (T := F_D) (N := 10) (v := .ref (cO K 1)) hx hb ht ku_D hown hw.2.1 hw.1 0 rfl rfl 2 (by decide) (ht _ kf_D_23) (fun _ h9 => h9) rfl d_D_signature_11 ?_
    refine c_ci (np := 0) (As := []) (rest := []) ⟨hx, hb, hml, hown, ht⟩ hw (c_H_takeAll l K τ) 1 rfl rfl ⟨km_D_181, kv_H_takeAll, kx_H_takeAll, kc_H_takeAll⟩ ki_H (by decide +kernel) ⟨by decide, by decide⟩ rfl rfl rfl hl.1 rfl (Nat.le_of_ble_eq_true rfl) d_D_signature_14 ⟨Nat.le_refl _, Nat.le_refl _⟩ (fun r u1 H locs hp hw => ?_)
    obtain ⟨rfl, rfl⟩ := hp
    refine lv_istore_n (lv' := [(3, .int (nI (cM τ))), (0, .ref (cO K 0)), (1, .int (nI (a))), (2, .int (nI (b)))]) hx hb d_D_signature_17 rfl hl (by decide) rfl (fun ls hl => ?_)
    refine lv_aload_n hx hb d_D_signature_18 rfl (lv_at hl 1 rfl) ?_
    refine va_get (ci := 4) (C := R_D) (T := F_D) (N := 10) (v := .ref (cO K 1)) hx hb ht ku_D hown hw.2.1 hw.1 0 rfl rfl 2 (by decide) (ht _ kf_D_23) (fun _ h9 => h9) rfl d_D_signature_19 ?_
    refine lv_aload_n hx hb d_D_signature_22 rfl (lv_at hl 1 rfl) ?_
    refine va_get (ci := 4) (C := R_D) (T := F_D) (N := 10) (v := .ref (cR K 20)) hx hb ht ku_D hown hw.2.1 hw.1 0 rfl rfl 8 (by decide) (ht _ kf_D_75) (fun _ h9 => h9) rfl d_D_signature_23 ?_
    refine lv_aload_n hx hb d_D_signature_26 rfl (lv_at hl 1 rfl) ?_
    refine va_get (ci := 4) (C := R_D) (T := F_D) (N := 10) (v := .ref (cR K 21)) hx hb ht ku_D hown hw.2.1 hw.1 0 rfl rfl 9 (by decide) (ht _ kf_D_78) (fun _ h9 => h9) rfl d_D_signature_27 ?_
    refine lv_iload_n hx hb d_D_signature_30 rfl (lv_at hl 0 rfl) ?_
    refine c_ci (np := 3) (As := [.ref (cR K 20), .ref (cR K 21), .int (nI (cM τ))]) (rest := []) ⟨hx, hb, hml, hown, ht⟩ hw (c_H_readSignature l K (csM τ 0) hok (c0 := cM τ) hm hB) 1 rfl rfl ⟨km_D_191, kv_H_readSignature, kx_H_readSignature, kc_H_readSignature⟩ ki_H (by decide +kernel) ⟨by decide, by decide⟩ rfl rfl rfl hl.1 rfl (Nat.le_of_ble_eq_true rfl) d_D_signature_31 ⟨Nat.le_refl _, Nat.le_refl _⟩ (fun r u2 H locs hp hw => ?_)
    obtain ⟨hr9, V2, hu2, f2, k2_⟩ := hp
    have hr9 : r = nI (boolN (okSig (cB τ) (cM τ))) := hr9
    have f2 : okSig (cB τ) (cM τ) → V2 20 = bA (cB τ) 4 (cB τ 3) (cB τ 3) ∧ V2 21 = bA (cB τ) (4 + cB τ 3 + 2) (cB τ (4 + cB τ 3 + 1)) (cB τ (4 + cB τ 3 + 1)) := f2
    have k2_ : ∀ r, r ≠ 20 → r ≠ 21 → V2 r = cV τ r := k2_
    rw [hr9]
    refine n_ne0 (tgt := 39) hx hb d_D_signature_34 (by decide) (boolN_s _) (fun c3 => ?_) (fun c3 => ?_)
    · have c4 := boolN_1 c3
      refine lv_aload_n hx hb d_D_signature_39 rfl (lv_at hl 1 rfl) ?_
      refine va_get (ci := 4) (C := R_D) (T := F_D) (N := 10) (v := .ref (cO K 3)) hx hb ht ku_D hown hw.2.1 hw.1 0 rfl rfl 0 (by decide) (ht _ kf_D_11) (fun _ h9 => h9) rfl d_D_signature_40 ?_
      refine lv_iload_n hx hb d_D_signature_43 rfl (lv_at hl 2 rfl) ?_
      refine c_reg hx hb hw (i := a) (by omega) d_D_signature_44 ?_
      refine lv_aload_n hx hb d_D_signature_45 rfl (lv_at hl 1 rfl) ?_
      refine va_get (ci := 4) (C := R_D) (T := F_D) (N := 10) (v := .ref (cR K 20)) hx hb ht ku_D hown hw.2.1 hw.1 0 rfl rfl 8 (by decide) (ht _ kf_D_75) (fun _ h9 => h9) rfl d_D_signature_46 ?_
      refine c_sv (np := 2) (As := [.ref (cR K a), .ref (cR K 20)]) (rest := []) ⟨hx, hb, hml, hown, ht⟩ hw (c_L_copy l K u2 hu2.2.1 (o := a) (a := 20) (by omega) (by omega)) ⟨km_D_139, ks_L_copy, kc_L_copy⟩ ki_L (by decide +kernel) ⟨by decide, by decide⟩ rfl rfl rfl hl.1 rfl (Nat.le_of_ble_eq_true rfl) d_D_signature_49 ⟨Nat.le_refl _, Nat.le_refl _⟩ (fun u3 H locs hp hw => ?_)
      obtain ⟨V3, hu3, f3, k3⟩ := qc_copy hu2 (by omega) (by omega) (by omega) hp
      clear hp
      refine lv_aload_n hx hb d_D_signature_52 rfl (lv_at hl 1 rfl) ?_
      refine va_get (ci := 4) (C := R_D) (T := F_D) (N := 10) (v := .ref (cO K 3)) hx hb ht ku_D hown hw.2.1 hw.1 0 rfl rfl 0 (by decide) (ht _ kf_D_11) (fun _ h9 => h9) rfl d_D_signature_53 ?_
      refine lv_iload_n hx hb d_D_signature_56 rfl (lv_at hl 3 rfl) ?_
      refine c_reg hx hb hw (i := b) (by omega) d_D_signature_57 ?_
      refine lv_aload_n hx hb d_D_signature_58 rfl (lv_at hl 1 rfl) ?_
      refine va_get (ci := 4) (C := R_D) (T := F_D) (N := 10) (v := .ref (cR K 21)) hx hb ht ku_D hown hw.2.1 hw.1 0 rfl rfl 9 (by decide) (ht _ kf_D_78) (fun _ h9 => h9) rfl d_D_signature_59 ?_
      refine c_sv (np := 2) (As := [.ref (cR K b), .ref (cR K 21)]) (rest := []) ⟨hx, hb, hml, hown, ht⟩ hw (c_L_copy l K u3 hu3.2.1 (o := b) (a := 21) (by omega) (by omega)) ⟨km_D_139, ks_L_copy, kc_L_copy⟩ ki_L (by decide +kernel) ⟨by decide, by decide⟩ rfl rfl rfl hl.1 rfl (Nat.le_of_ble_eq_true rfl) d_D_signature_62 ⟨Nat.le_refl _, Nat.le_refl _⟩ (fun u4 H locs hp hw => ?_)
      obtain ⟨V4, hu4, f4, k4⟩ := qc_copy hu3 (by omega) (by omega) (by omega) hp
      refine lv_iconst (v := nI 1) hx hb d_D_signature_65 (by decide) ?_
      have va : V4 a = bA (cB τ) 4 (cB τ 3) (cB τ 3) := by rw [k4 a hab, f3, (f2 c4).1]
      have vb : V4 b = bA (cB τ) (4 + cB τ 3 + 2) (cB τ (4 + cB τ 3 + 1)) (cB τ (4 + cB τ 3 + 1)) := by rw [f4, k3 21 (by omega), (f2 c4).2]
      refine z_iret (cZ K) hx hb hr hlocks u4 hw ⟨fun q9 => absurd k9 q9, fun a_ b_ w1 w2 w3 e1 e2 => ?_⟩ d_D_signature_66
      have q_a_ : a_ = a := (nI_eq (by omega) (by omega)).mp (e1.symm.trans ex)
      subst q_a_
      have q_b_ : b_ = b := (nI_eq (by omega) (by omega)).mp (e2.symm.trans ey)
      subst q_b_
      exact ⟨fun q9 => absurd c4 q9, fun _ => ⟨rfl, V4, hu4, va, vb, fun r h1 h2 h3 => (k4 r h2).trans ((k3 r h1).trans (k2_ r (by omega) (by omega)))⟩⟩
    · have c4 := boolN_0 c3
      refine lv_iconst (v := nI 0) hx hb d_D_signature_37 (by decide) ?_
      refine z_iret (cZ K) hx hb hr hlocks u2 hw ⟨fun q9 => absurd k9 q9, fun a_ b_ w1 w2 w3 e1 e2 => ?_⟩ d_D_signature_38
      have q_a_ : a_ = a := (nI_eq (by omega) (by omega)).mp (e1.symm.trans ex)
      subst q_a_
      have q_b_ : b_ = b := (nI_eq (by omega) (by omega)).mp (e2.symm.trans ey)
      subst q_b_
      exact ⟨fun _ => ⟨rfl, V2, hu2, fun r h => k2_ r (by omega) (by omega)⟩, fun q9 => absurd q9 c4⟩
  · have k1 := boolN_0 c1
    refine lv_iconst (v := -1) hx hb d_D_signature_8 (by decide) ?_
    exact z_iret (cZ K) hx hb hr hlocks τ hw ⟨fun _ => ⟨rfl, rfl⟩, fun a b w1 w2 w3 e1 e2 => absurd ⟨by rw [e1]; exact okR_of w1 (by decide), by rw [e2]; exact okR_of w2 (by decide), by rw [e1, e2]; exact fun q9 => w3 ((nI_eq (by omega) (by omega)).mp q9)⟩ k1⟩ d_D_signature_9
