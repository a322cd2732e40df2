/-! the desk: spot, sum, times -/
def cSet (τ : cT) (q x y : Nat) (u : cT) : Prop := ∃ V, cU (csN τ q 0) V u ∧ V (8 + 2 * q) = x ∧ V (9 + 2 * q) = y ∧ ∀ r, r ≠ 8 + 2 * q → r ≠ 9 + 2 * q → (r < 20 ∨ r = 22 ∨ r = 23) → V r = cV τ r
theorem cSet.of {τ u w : cT} {V : Nat → Nat} {j x y : Nat} (hj : j < 6) (hu : cU τ V u) (hx : x < 30 ∨ 33 < x) (hy : y < 30 ∨ 33 < y) (hk : ∀ r, (r < 20 ∨ r = 22 ∨ r = 23) → V r = cV τ r)
    (hp : cU (csN u j 0) (va_up (va_up (cV u) (8 + 2 * j) (cV u x)) (9 + 2 * j) (cV u y)) w) : cSet τ j (V x) (V y) w := by
  refine ⟨_, ⟨hp.1, hp.2.1, by rw [hp.2.2.1]; show va_up (cN u) j 0 = va_up (cN τ) j 0; rw [hu.2.2.1], hp.2.2.2.1.trans hu.2.2.2.1, hp.2.2.2.2.trans hu.2.2.2.2⟩, ?_, ?_, fun r a b h => ?_⟩
  · rw [up_ne _ _ (by omega), up_self, hu.v hx]
  · rw [up_self, hu.v hy]
  · rw [up_ne _ _ b, up_ne _ _ a, hu.v (by omega), hk r h]
theorem sw_out {x : Int32} {n : Nat} (hn : n < 2 ^ 31) (h : ¬ okR x n) : x.toInt < 0 ∨ (n : Int) - 1 < x.toInt := by
  rcases pk_ix x hn with h1 | h1 | ⟨j, h1, h2⟩
  · left
    have := Int32.lt_iff_toInt_lt.mp h1
    exact this
  · right
    have := Int32.le_iff_toInt_le.mp h1
    rw [nI_toInt hn] at this
    omega
  · exact absurd (by rw [h2]; exact okR_of h1 hn) h
set_option maxHeartbeats 4000000 in
set_option maxRecDepth 100000 in
theorem c_D_fillSpot (l : Launch) (K : cG) (τ : cT) (hok : cOk τ) {q x y : Nat} (hq : q < 4) (h1 : x < 22) (h2 : y < 22) (hne : y ≠ 8 + 2 * q) : Met l y_D_fillSpot (zW y_D_fillSpot b_D_fillSpot 4 (some .boolean)) (zr 6 132) (va_Pc [.ref (cO K 0), .int (nI (q)), .ref (cR K x), .ref (cR K y)] (cC K τ)) (va_Qi (fun r u => r = nI (boolN (onN (rMod 0) (cV τ x) (cV τ y))) ∧ (onN (rMod 0) (cV τ x) (cV τ y) → cSet τ q (cV τ x) (cV τ y) u) ∧ (¬ onN (rMod 0) (cV τ x) (cV τ y) → ∃ V, cU τ V u ∧ ∀ r, r < 25 ∨ 27 < r → V r = cV τ r)) (fun u => cC K u) (cAA K)) 0 0 (cAA K) := by
  refine Met.ofW (cc := b_D_fillSpot) (maxL := 4) (ret := (some .boolean)) (by decide) rfl ?_
  intro p e s m args below meth c s₁ B hml hv
  obtain ⟨rfl, hw⟩ := hv
  have hx := B.exec
  have hb := B.bytes
  have hr := B.returns
  have hts := atoms_spec (ws := zW y_D_fillSpot b_D_fillSpot 4 (some .boolean)) B.pre
  have ht : ∀ w ∈ zT, w.before ([.ref (cO K 0), .int (nI (q)), .ref (cR K x), .ref (cR K y)] : List Value).toArray s = true := fun w h => hts w (List.mem_cons_of_mem _ h)
  have hown : s.vm.findClass R_D = some m.cls := findClass_of_methodNamed B.named
  have hlocks := B.notSynchronized
  have hl := lv_entry ([.ref (cO K 0), .int (nI (q)), .ref (cR K x), .ref (cR K y)]) (n := 4) (Nat.le_of_ble_eq_true rfl)
  rw [lg_entry_eq]
  generalize (lg_sl ([.ref (cO K 0), .int (nI (q)), .ref (cR K x), .ref (cR K y)]) ++ List.replicate (4 - (lg_sl ([.ref (cO K 0), .int (nI (q)), .ref (cR K x), .ref (cR K y)])).length) Slot.unset).toArray = ls at hl ⊢
  have hl : lv_has ls 4 [(0, .ref (cO K 0)), (1, .int (nI (q))), (2, .ref (cR K x)), (3, .ref (cR K y))] := hl
  refine lv_aload_n hx hb d_D_fillSpot_0 rfl (lv_at hl 0 rfl) ?_
  refine va_get (ci := 4) (C := R_D) (T := F_D) (N := 10) (v := .ref (cO K 7)) hx hb ht ku_D hown hw.2.1 hw.1 0 rfl rfl 5 (by decide) (ht _ kf_D_63) (fun _ h9 => h9) rfl d_D_fillSpot_1 ?_
  refine lv_aload_n hx hb d_D_fillSpot_4 rfl (lv_at hl 2 rfl) ?_
  refine lv_aload_n hx hb d_D_fillSpot_5 rfl (lv_at hl 3 rfl) ?_
  refine c_ci (np := 2) (As := [.ref (cR K x), .ref (cR K y)]) (rest := []) ⟨hx, hb, hml, hown, ht⟩ hw (c_C_isPoint l K τ hok (x := x) (y := y) (by omega) (by omega) (by omega) (by omega)) 7 rfl rfl ⟨km_D_201, kv_C_isPoint, kx_C_isPoint, kc_C_isPoint⟩ ki_C (by decide +kernel) ⟨by decide, by decide⟩ rfl rfl rfl hl.1 rfl (Nat.le_of_ble_eq_true rfl) d_D_fillSpot_6 ⟨Nat.le_refl _, Nat.le_refl _⟩ (fun r u1 H locs hp hw => ?_)
  obtain ⟨rfl, V1, hu1, k1⟩ := hp
  refine n_ne0 (tgt := 14) hx hb d_D_fillSpot_9 (by decide) (boolN_s _) (fun c1 => ?_) (fun c1 => ?_)
  · have c2 := boolN_1 c1
    refine lv_aload_n hx hb d_D_fillSpot_14 rfl (lv_at hl 0 rfl) ?_
    refine va_get (ci := 4) (C := R_D) (T := F_D) (N := 10) (v := .ref (cO K 4)) hx hb ht ku_D hown hw.2.1 hw.1 0 rfl rfl 1 (by decide) (ht _ kf_D_16) (fun _ h9 => h9) rfl d_D_fillSpot_15 ?_
    refine lv_iload_n hx hb d_D_fillSpot_18 rfl (lv_at hl 1 rfl) ?_
    refine c_spt hx hb hw (i := q) (by omega) d_D_fillSpot_19 ?_
    refine lv_aload_n hx hb d_D_fillSpot_20 rfl (lv_at hl 2 rfl) ?_
    refine lv_aload_n hx hb d_D_fillSpot_21 rfl (lv_at hl 3 rfl) ?_
    refine c_cv (np := 2) (As := [.ref (cR K x), .ref (cR K y)]) (rest := []) ⟨hx, hb, hml, hown, ht⟩ hw (c_P_become l K u1 hu1.2.1 (j := q) (x := x) (y := y) (by omega) (by omega) (by omega) (by omega) (by omega) hne) (8 + q) (cWs_pnt K _ (by omega)) rfl ⟨km_D_87, kv_P_become, kx_P_become, kc_P_become⟩ ki_P (by decide +kernel) ⟨by decide, by decide⟩ rfl rfl rfl hl.1 rfl (Nat.le_of_ble_eq_true rfl) d_D_fillSpot_22 ⟨Nat.le_refl _, Nat.le_refl _⟩ (fun u2 H locs hp hw => ?_)
    have hs := cSet.of (by omega) hu1 (by omega) (by omega) (fun r h => k1 r (by omega)) hp
    rw [k1 x (by omega), k1 y (by omega)] at hs
    refine lv_iconst (v := nI 1) hx hb d_D_fillSpot_25 (by decide) ?_
    exact z_zret (cZ K) hx hb hr hlocks (nar_b (by decide)) u2 hw ⟨by rw [boolN_t c2], fun _ => hs, fun q => absurd c2 q⟩ d_D_fillSpot_26
  · have c2 := boolN_0 c1
    refine lv_iconst (v := nI 0) hx hb d_D_fillSpot_12 (by decide) ?_
    exact z_zret (cZ K) hx hb hr hlocks (nar_b (by decide)) u1 hw ⟨by rw [boolN_f c2], fun q => absurd q c2, fun _ => ⟨V1, hu1, k1⟩⟩ d_D_fillSpot_13
set_option maxHeartbeats 4000000 in
set_option maxRecDepth 100000 in
theorem c_D_spot (l : Launch) (K : cG) (τ : cT) (hok : cOk τ) (x1 x2 x3 x4 : Int32) : Met l y_D_spot (zW y_D_spot b_D_spot 5 (some .int)) (zr 7 155) (va_Pc [.ref (cO K 0), .int (x1), .int (x2), .int (x3), .int (x4)] (cC K τ)) (va_Qi (fun r u => (¬ (okR x2 4 ∧ okR x1 3) → r = nI 0 ∧ u = τ) ∧ ∀ k q, k < 3 → q < 4 → x1 = nI k → x2 = nI q → (k = 0 → r = nI 1 ∧ u = csN τ q 1) ∧ (k = 1 → r = nI 1 ∧ cSet τ q bX bY u) ∧ (k = 2 → (¬ (okR x3 8 ∧ okR x4 8) → r = nI 0 ∧ u = τ) ∧ ∀ a b, a < 8 → b < 8 → x3 = nI a → x4 = nI b → (onN (rMod 0) (cV τ a) (cV τ b) → r = nI 1 ∧ cSet τ q (cV τ a) (cV τ b) u) ∧ (¬ onN (rMod 0) (cV τ a) (cV τ b) → r = nI 0 ∧ ∃ V, cU τ V u ∧ ∀ r, r < 25 ∨ 27 < r → V r = cV τ r))) (fun u => cC K u) (cAA K)) 0 0 (cAA K) := by
  refine Met.ofW (cc := b_D_spot) (maxL := 5) (ret := (some .int)) (by decide) rfl ?_
  intro p e s m args below meth c s₁ B hml hv
  obtain ⟨rfl, hw⟩ := hv
  have hx := B.exec
  have hb := B.bytes
  have hr := B.returns
  have hts := atoms_spec (ws := zW y_D_spot b_D_spot 5 (some .int)) B.pre
  have ht : ∀ w ∈ zT, w.before ([.ref (cO K 0), .int (x1), .int (x2), .int (x3), .int (x4)] : List Value).toArray s = true := fun w h => hts w (List.mem_cons_of_mem _ h)
  have hown : s.vm.findClass R_D = some m.cls := findClass_of_methodNamed B.named
  have hlocks := B.notSynchronized
  have hl := lv_entry ([.ref (cO K 0), .int (x1), .int (x2), .int (x3), .int (x4)]) (n := 5) (Nat.le_of_ble_eq_true rfl)
  rw [lg_entry_eq]
  generalize (lg_sl ([.ref (cO K 0), .int (x1), .int (x2), .int (x3), .int (x4)]) ++ List.replicate (5 - (lg_sl ([.ref (cO K 0), .int (x1), .int (x2), .int (x3), .int (x4)])).length) Slot.unset).toArray = ls at hl ⊢
  have hl : lv_has ls 5 [(0, .ref (cO K 0)), (1, .int (x1)), (2, .int (x2)), (3, .int (x3)), (4, .int (x4))] := hl
  have hno : ∀ (H : Heap) (locs : List Loc) (ls : Array Slot), cH K τ s H locs → lv_has ls 5 [(0, .ref (cO K 0)), (1, .int (x1)), (2, .int (x2)), (3, .int (x3)), (4, .int (x4))] → ¬ (okR x2 4 ∧ okR x1 3) → W p l e (headSpec (zW y_D_spot b_D_spot 5 (some .int)) (zr 7 155)).room s m ([.ref (cO K 0), .int (x1), .int (x2), .int (x3), .int (x4)] : List Value).toArray below meth c H locs 0 0 (MQ below (va_Qi (fun r u => (¬ (okR x2 4 ∧ okR x1 3) → r = nI 0 ∧ u = τ) ∧ ∀ k q, k < 3 → q < 4 → x1 = nI k → x2 = nI q → (k = 0 → r = nI 1 ∧ u = csN τ q 1) ∧ (k = 1 → r = nI 1 ∧ cSet τ q bX bY u) ∧ (k = 2 → (¬ (okR x3 8 ∧ okR x4 8) → r = nI 0 ∧ u = τ) ∧ ∀ a b, a < 8 → b < 8 → x3 = nI a → x4 = nI b → (onN (rMod 0) (cV τ a) (cV τ b) → r = nI 1 ∧ cSet τ q (cV τ a) (cV τ b) u) ∧ (¬ onN (rMod 0) (cV τ a) (cV τ b) → r = nI 0 ∧ ∃ V, cU τ V u ∧ ∀ r, r < 25 ∨ 27 < r → V r = cV τ r))) (fun u => cC K u) (cAA K)) ([.ref (cO K 0), .int (x1), .int (x2), .int (x3), .int (x4)] : List Value).toArray s 0 0 (cAA K)) (F0 m 7 ls []) := by
    intro H locs ls hw hl hn
    refine lv_iconst (v := nI 0) hx hb d_D_spot_7 (by decide) ?_
    refine z_iret (cZ K) hx hb hr hlocks τ hw ⟨fun _ => ⟨rfl, rfl⟩, fun k q w1 w2 e1 e2 => absurd ⟨?_, ?_⟩ hn⟩ d_D_spot_8
    · rw [e2]; exact okR_of w2 (by decide)
    · rw [e1]; exact okR_of w1 (by decide)
  have hno2 : ∀ (H : Heap) (locs : List Loc) (ls : Array Slot), cH K τ s H locs → lv_has ls 5 [(0, .ref (cO K 0)), (1, .int (x1)), (2, .int (x2)), (3, .int (x3)), (4, .int (x4))] → ¬ (okR x2 4 ∧ okR x1 3) → W p l e (headSpec (zW y_D_spot b_D_spot 5 (some .int)) (zr 7 155)).room s m ([.ref (cO K 0), .int (x1), .int (x2), .int (x3), .int (x4)] : List Value).toArray below meth c H locs 0 0 (MQ below (va_Qi (fun r u => (¬ (okR x2 4 ∧ okR x1 3) → r = nI 0 ∧ u = τ) ∧ ∀ k q, k < 3 → q < 4 → x1 = nI k → x2 = nI q → (k = 0 → r = nI 1 ∧ u = csN τ q 1) ∧ (k = 1 → r = nI 1 ∧ cSet τ q bX bY u) ∧ (k = 2 → (¬ (okR x3 8 ∧ okR x4 8) → r = nI 0 ∧ u = τ) ∧ ∀ a b, a < 8 → b < 8 → x3 = nI a → x4 = nI b → (onN (rMod 0) (cV τ a) (cV τ b) → r = nI 1 ∧ cSet τ q (cV τ a) (cV τ b) u) ∧ (¬ onN (rMod 0) (cV τ a) (cV τ b) → r = nI 0 ∧ ∃ V, cU τ V u ∧ ∀ r, r < 25 ∨ 27 < r → V r = cV τ r))) (fun u => cC K u) (cAA K)) ([.ref (cO K 0), .int (x1), .int (x2), .int (x3), .int (x4)] : List Value).toArray s 0 0 (cAA K)) (F0 m 106 ls []) := by
    intro H locs ls hw hl hn
    refine lv_iconst (v := nI 0) hx hb d_D_spot_106 (by decide) ?_
    refine z_iret (cZ K) hx hb hr hlocks τ hw ⟨fun _ => ⟨rfl, rfl⟩, fun k q w1 w2 e1 e2 => absurd ⟨?_, ?_⟩ hn⟩ d_D_spot_107
    · rw [e2]; exact okR_of w2 (by decide)
    · rw [e1]; exact okR_of w1 (by decide)
  refine lv_iload_n hx hb d_D_spot_0 rfl (lv_at hl 2 rfl) ?_
  refine c_si (np := 1) (As := [.int (x2)]) (rest := []) ⟨hx, hb, hml, hown, ht⟩ hw (c_D_isSpot l K τ x2) ⟨km_D_142, ks_D_isSpot, kc_D_isSpot⟩ ki_D (by decide +kernel) ⟨by decide, by decide⟩ rfl rfl rfl hl.1 rfl (Nat.le_of_ble_eq_true rfl) d_D_spot_1 ⟨Nat.le_refl _, Nat.le_refl _⟩ (fun r ux H locs hp hw => ?_)
  obtain ⟨hpu, rfl⟩ := hp
  rw [hpu] at hw
  clear hpu
  refine n_ne0 (tgt := 9) hx hb d_D_spot_4 (by decide) (boolN_s _) (fun c1 => ?_) (fun c1 => hno _ _ ls hw hl (fun q => boolN_0 c1 q.1))
  refine lv_iload_n hx hb d_D_spot_9 rfl (lv_at hl 1 rfl) ?_
  by_cases k1 : okR x1 3
  · have k2 := boolN_1 c1
    clear hno hno2 c1
    obtain ⟨k, lt_k, ex1⟩ := k1.ex (by decide)
    obtain ⟨q, lt_q, ex2⟩ := k2.ex (by decide)
    have hl2 := hl
    rw [ex2] at hl2
    have hlx := hl
    have hl : lv_has ls 5 [(0, .ref (cO K 0)), (1, .int (x1)), (2, .int (nI (q))), (3, .int (x3)), (4, .int (x4))] := hl2
    clear hl2 hlx
    refine tp_i (y := nI k) ex1 ?_
    have hz : k = 0 ∨ k = 1 ∨ k = 2 := by omega
    rcases hz with hz | hz | hz
    · refine tp_i (y := nI 0) (by rw [hz]) ?_
      refine lv_tableIn (tgt := 36) (off := 26) hx hb d_D_spot_10 (by decide) (by decide) (by decide) (by decide) ?_
      refine lv_aload_n hx hb d_D_spot_36 rfl (lv_at hl 0 rfl) ?_
      refine va_get (ci := 4) (C := R_D) (T := F_D) (N := 10) (v := .ref (cO K 4)) hx hb ht ku_D hown hw.2.1 hw.1 0 rfl rfl 1 (by decide) (ht _ kf_D_16) (fun _ h9 => h9) rfl d_D_spot_37 ?_
      refine lv_iload_n hx hb d_D_spot_40 rfl (lv_at hl 2 rfl) ?_
      refine c_spt hx hb hw (i := q) (by omega) d_D_spot_41 ?_
      refine c_cv (np := 0) (As := []) (rest := []) ⟨hx, hb, hml, hown, ht⟩ hw (c_P_becomeNone l K τ (j := q) (by omega)) (8 + q) (cWs_pnt K _ (by omega)) rfl ⟨km_D_145, kv_P_becomeNone, kx_P_becomeNone, kc_P_becomeNone⟩ ki_P (by decide +kernel) ⟨by decide, by decide⟩ rfl rfl rfl hl.1 rfl (Nat.le_of_ble_eq_true rfl) d_D_spot_42 ⟨Nat.le_refl _, Nat.le_refl _⟩ (fun u1 H locs hp hw => ?_)
      refine lv_iconst (v := nI 1) hx hb d_D_spot_45 (by decide) ?_
      refine z_iret (cZ K) hx hb hr hlocks u1 hw ⟨fun h => absurd ⟨k2, k1⟩ h, fun k_ q_ w1 w2 e1 e2 => ?_⟩ d_D_spot_46
      have q_k_ : k_ = k := (nI_eq (by omega) (by omega)).mp (e1.symm.trans ex1)
      subst q_k_
      have q_q_ : q_ = q := (nI_eq (by omega) (by omega)).mp (e2.symm.trans ex2)
      subst q_q_
      exact ⟨fun _ => ⟨rfl, hp⟩, fun q9 => absurd q9 (by omega), fun q9 => absurd q9 (by omega)⟩
    · refine tp_i (y := nI 1) (by rw [hz]) ?_
      refine lv_tableIn (tgt := 47) (off := 37) hx hb d_D_spot_10 (by decide) (by decide) (by decide) (by decide) ?_
      refine lv_aload_n hx hb d_D_spot_47 rfl (lv_at hl 0 rfl) ?_
      refine va_get (ci := 4) (C := R_D) (T := F_D) (N := 10) (v := .ref (cO K 4)) hx hb ht ku_D hown hw.2.1 hw.1 0 rfl rfl 1 (by decide) (ht _ kf_D_16) (fun _ h9 => h9) rfl d_D_spot_48 ?_
      refine lv_iload_n hx hb d_D_spot_51 rfl (lv_at hl 2 rfl) ?_
      refine c_spt hx hb hw (i := q) (by omega) d_D_spot_52 ?_
      refine c_gets hx hb ht hown hw 42 (by decide) (by decide) kf_D_81 d_D_spot_53 ?_
      refine c_gets hx hb ht hown hw 43 (by decide) (by decide) kf_D_84 d_D_spot_56 ?_
      refine c_cv (np := 2) (As := [.ref (cR K 42), .ref (cR K 43)]) (rest := []) ⟨hx, hb, hml, hown, ht⟩ hw (c_P_become l K τ hok (j := q) (x := 42) (y := 43) (by omega) (by omega) (by omega) (by omega) (by omega) (by omega)) (8 + q) (cWs_pnt K _ (by omega)) rfl ⟨km_D_87, kv_P_become, kx_P_become, kc_P_become⟩ ki_P (by decide +kernel) ⟨by decide, by decide⟩ rfl rfl rfl hl.1 rfl (Nat.le_of_ble_eq_true rfl) d_D_spot_59 ⟨Nat.le_refl _, Nat.le_refl _⟩ (fun u1 H locs hp hw => ?_)
      have hs : cSet τ q bX bY u1 := cSet.of (by omega) (cU.refl hok) (by omega) (by omega) (fun _ _ => rfl) hp
      refine lv_iconst (v := nI 1) hx hb d_D_spot_62 (by decide) ?_
      refine z_iret (cZ K) hx hb hr hlocks u1 hw ⟨fun h => absurd ⟨k2, k1⟩ h, fun k_ q_ w1 w2 e1 e2 => ?_⟩ d_D_spot_63
      have q_k_ : k_ = k := (nI_eq (by omega) (by omega)).mp (e1.symm.trans ex1)
      subst q_k_
      have q_q_ : q_ = q := (nI_eq (by omega) (by omega)).mp (e2.symm.trans ex2)
      subst q_q_
      exact ⟨fun q9 => absurd q9 (by omega), fun _ => ⟨rfl, hs⟩, fun q9 => absurd q9 (by omega)⟩
    · refine tp_i (y := nI 2) (by rw [hz]) ?_
      refine lv_tableIn (tgt := 64) (off := 54) hx hb d_D_spot_10 (by decide) (by decide) (by decide) (by decide) ?_
      have n1 : ∀ (H : Heap) (locs : List Loc) (ls : Array Slot), ¬ (okR x3 8 ∧ okR x4 8) → cH K τ s H locs → lv_has ls 5 [(0, .ref (cO K 0)), (1, .int (x1)), (2, .int (nI (q))), (3, .int (x3)), (4, .int (x4))] → W p l e (headSpec (zW y_D_spot b_D_spot 5 (some .int)) (zr 7 155)).room s m ([.ref (cO K 0), .int (x1), .int (x2), .int (x3), .int (x4)] : List Value).toArray below meth c H locs 0 0 (MQ below (va_Qi (fun r u => (¬ (okR x2 4 ∧ okR x1 3) → r = nI 0 ∧ u = τ) ∧ ∀ k q, k < 3 → q < 4 → x1 = nI k → x2 = nI q → (k = 0 → r = nI 1 ∧ u = csN τ q 1) ∧ (k = 1 → r = nI 1 ∧ cSet τ q bX bY u) ∧ (k = 2 → (¬ (okR x3 8 ∧ okR x4 8) → r = nI 0 ∧ u = τ) ∧ ∀ a b, a < 8 → b < 8 → x3 = nI a → x4 = nI b → (onN (rMod 0) (cV τ a) (cV τ b) → r = nI 1 ∧ cSet τ q (cV τ a) (cV τ b) u) ∧ (¬ onN (rMod 0) (cV τ a) (cV τ b) → r = nI 0 ∧ ∃ V, cU τ V u ∧ ∀ r, r < 25 ∨ 27 < r → V r = cV τ r))) (fun u => cC K u) (cAA K)) ([.ref (cO K 0), .int (x1), .int (x2), .int (x3), .int (x4)] : List Value).toArray s 0 0 (cAA K)) (F0 m 104 ls []) := by
        intro H locs ls hn hw hl
        refine lv_iconst (v := nI 0) hx hb d_D_spot_104 (by decide) ?_
        refine z_iret (cZ K) hx hb hr hlocks τ hw ⟨fun h => absurd ⟨k2, k1⟩ h, fun k_ q_ w1 w2 e1 e2 => ?_⟩ d_D_spot_105
        have q_k_ : k_ = k := (nI_eq (by omega) (by omega)).mp (e1.symm.trans ex1)
        subst q_k_
        have q_q_ : q_ = q := (nI_eq (by omega) (by omega)).mp (e2.symm.trans ex2)
        subst q_q_
        exact ⟨fun q9 => absurd q9 (by omega), fun q9 => absurd q9 (by omega), fun _ => ⟨fun _ => ⟨rfl, rfl⟩, fun a b w3 w4 e3 e4 => absurd ⟨by rw [e3]; exact okR_of w3 (by decide), by rw [e4]; exact okR_of w4 (by decide)⟩ hn⟩⟩
      refine lv_iload_n hx hb d_D_spot_64 rfl (lv_at hl 3 rfl) ?_
      refine c_si (np := 1) (As := [.int (x3)]) (rest := []) ⟨hx, hb, hml, hown, ht⟩ hw (c_D_isRegister l K τ x3) ⟨km_D_91, ks_D_isRegister, kc_D_isRegister⟩ ki_D (by decide +kernel) ⟨by decide, by decide⟩ rfl rfl rfl hl.1 rfl (Nat.le_of_ble_eq_true rfl) d_D_spot_65 ⟨Nat.le_refl _, Nat.le_refl _⟩ (fun r ux H locs hp hw => ?_)
      obtain ⟨hpu, rfl⟩ := hp
      rw [hpu] at hw
      clear hpu
      refine n_eq0 (tgt := 104) hx hb d_D_spot_68 (by decide) (boolN_s _) (fun c3 => n1 _ _ ls (fun q => boolN_0 c3 q.1) hw hl) (fun c3 => ?_)
      refine lv_iload hx hb d_D_spot_71 (lv_at hl 4 rfl) ?_
      refine c_si (np := 1) (As := [.int (x4)]) (rest := []) ⟨hx, hb, hml, hown, ht⟩ hw (c_D_isRegister l K τ x4) ⟨km_D_91, ks_D_isRegister, kc_D_isRegister⟩ ki_D (by decide +kernel) ⟨by decide, by decide⟩ rfl rfl rfl hl.1 rfl (Nat.le_of_ble_eq_true rfl) d_D_spot_73 ⟨Nat.le_refl _, Nat.le_refl _⟩ (fun r ux H locs hp hw => ?_)
      obtain ⟨hpu, rfl⟩ := hp
      rw [hpu] at hw
      clear hpu
      refine n_eq0 (tgt := 104) hx hb d_D_spot_76 (by decide) (boolN_s _) (fun c4 => n1 _ _ ls (fun q => boolN_0 c4 q.2) hw hl) (fun c4 => ?_)
      have k3 := boolN_1 c3
      have k4 := boolN_1 c4
      clear n1 c3 c4
      obtain ⟨a, lt_a, ex3⟩ := k3.ex (by decide)
      obtain ⟨b, lt_b, ex4⟩ := k4.ex (by decide)
      have hl2 := hl
      rw [ex3, ex4] at hl2
      have hl : lv_has ls 5 [(0, .ref (cO K 0)), (1, .int (x1)), (2, .int (nI (q))), (3, .int (nI (a))), (4, .int (nI (b)))] := hl2
      clear hl2
      refine lv_aload_n hx hb d_D_spot_79 rfl (lv_at hl 0 rfl) ?_
      refine lv_iload_n hx hb d_D_spot_80 rfl (lv_at hl 2 rfl) ?_
      refine lv_aload_n hx hb d_D_spot_81 rfl (lv_at hl 0 rfl) ?_
      refine va_get (ci := 4) (C := R_D) (T := F_D) (N := 10) (v := .ref (cO K 3)) hx hb ht ku_D hown hw.2.1 hw.1 0 rfl rfl 0 (by decide) (ht _ kf_D_11) (fun _ h9 => h9) rfl d_D_spot_82 ?_
      refine lv_iload_n hx hb d_D_spot_85 rfl (lv_at hl 3 rfl) ?_
      refine c_reg hx hb hw (i := a) (by omega) d_D_spot_86 ?_
      refine lv_aload_n hx hb d_D_spot_87 rfl (lv_at hl 0 rfl) ?_
      refine va_get (ci := 4) (C := R_D) (T := F_D) (N := 10) (v := .ref (cO K 3)) hx hb ht ku_D hown hw.2.1 hw.1 0 rfl rfl 0 (by decide) (ht _ kf_D_11) (fun _ h9 => h9) rfl d_D_spot_88 ?_
      refine lv_iload hx hb d_D_spot_91 (lv_at hl 4 rfl) ?_
      refine c_reg hx hb hw (i := b) (by omega) d_D_spot_93 ?_
      refine c_ci (np := 3) (As := [.int (nI (q)), .ref (cR K a), .ref (cR K b)]) (rest := []) ⟨hx, hb, hml, hown, ht⟩ hw (c_D_fillSpot l K τ hok (q := q) (x := a) (y := b) lt_q (by omega) (by omega) (by omega)) 0 rfl rfl ⟨km_D_148, kv_D_fillSpot, kx_D_fillSpot, kc_D_fillSpot⟩ ki_D (by decide +kernel) ⟨by decide, by decide⟩ rfl rfl rfl hl.1 rfl (Nat.le_of_ble_eq_true rfl) d_D_spot_94 ⟨Nat.le_refl _, Nat.le_refl _⟩ (fun r u1 H locs hp hw => ?_)
      obtain ⟨rfl, p1, p2⟩ := hp
      refine n_eq0 (tgt := 104) hx hb d_D_spot_97 (by decide) (boolN_s _) (fun c5 => ?_) (fun c5 => ?_)
      · refine lv_iconst (v := nI 0) hx hb d_D_spot_104 (by decide) ?_
        have c6 := boolN_0 c5
        refine z_iret (cZ K) hx hb hr hlocks u1 hw ⟨fun h => absurd ⟨k2, k1⟩ h, fun k_ q_ w1 w2 e1 e2 => ?_⟩ d_D_spot_105
        have q_k_ : k_ = k := (nI_eq (by omega) (by omega)).mp (e1.symm.trans ex1)
        subst q_k_
        have q_q_ : q_ = q := (nI_eq (by omega) (by omega)).mp (e2.symm.trans ex2)
        subst q_q_
        refine ⟨fun q9 => absurd q9 (by omega), fun q9 => absurd q9 (by omega), fun _ => ⟨fun q9 => absurd ⟨k3, k4⟩ q9, fun a_ b_ w3 w4 e3 e4 => ?_⟩⟩
        have q_a_ : a_ = a := (nI_eq (by omega) (by omega)).mp (e3.symm.trans ex3)
        subst q_a_
        have q_b_ : b_ = b := (nI_eq (by omega) (by omega)).mp (e4.symm.trans ex4)
        subst q_b_
        exact ⟨fun q9 => absurd q9 c6, fun _ => ⟨rfl, p2 c6⟩⟩
      · refine lv_iconst (v := nI 1) hx hb d_D_spot_100 (by decide) ?_
        refine lv_goto (tgt := 105) hx hb d_D_spot_101 (by decide) ?_
        have c6 := boolN_1 c5
        refine z_iret (cZ K) hx hb hr hlocks u1 hw ⟨fun h => absurd ⟨k2, k1⟩ h, fun k_ q_ w1 w2 e1 e2 => ?_⟩ d_D_spot_105
        have q_k_ : k_ = k := (nI_eq (by omega) (by omega)).mp (e1.symm.trans ex1)
        subst q_k_
        have q_q_ : q_ = q := (nI_eq (by omega) (by omega)).mp (e2.symm.trans ex2)
        subst q_q_
        refine ⟨fun q9 => absurd q9 (by omega), fun q9 => absurd q9 (by omega), fun _ => ⟨fun q9 => absurd ⟨k3, k4⟩ q9, fun a_ b_ w3 w4 e3 e4 => ?_⟩⟩
        have q_a_ : a_ = a := (nI_eq (by omega) (by omega)).mp (e3.symm.trans ex3)
        subst q_a_
        have q_b_ : b_ = b := (nI_eq (by omega) (by omega)).mp (e4.symm.trans ex4)
        subst q_b_
        exact ⟨fun _ => ⟨rfl, p1 c6⟩, fun q9 => absurd c6 q9⟩
  · refine lv_tableOut (tgt := 106) hx hb d_D_spot_10 (sw_out (by decide) k1) (by decide) ?_
    exact hno2 _ _ ls hw hl (fun q => k1 q.2)
set_option maxHeartbeats 4000000 in
set_option maxRecDepth 100000 in
theorem c_D_sum (l : Launch) (K : cG) (τ : cT) (hok : cOk τ) (hn2 : ∀ q, q < 6 → cN τ q < 2) (hpt : ∀ r, 8 ≤ r → r < 20 → cV τ r < rMod 0) (h22 : cV τ 22 < rMod 0) (h23 : cV τ 23 < rMod 0) (x y z : Int32) : Met l y_D_sum (zW y_D_sum b_D_sum 4 (some .boolean)) (zr 7 156) (va_Pc [.ref (cO K 0), .int (x), .int (y), .int (z)] (cC K τ)) (va_Qi (fun r u => (¬ (okR x 4 ∧ okR y 4 ∧ okR z 4) → r = nI 0 ∧ u = τ) ∧ ∀ q a b, q < 4 → a < 4 → b < 4 → x = nI q → y = nI a → z = nI b → r = nI 1 ∧ cPut τ q (cin (rMod 0) (cin (rMod 0) (cV τ 22, cV τ 23, 0) (cN τ a) (cV τ (8 + 2 * a)) (cV τ (9 + 2 * a))) (cN τ b) (cV τ (8 + 2 * b)) (cV τ (9 + 2 * b))) u) (fun u => cC K u) (cAA K)) 0 0 (cAA K) := by
  refine Met.ofW (cc := b_D_sum) (maxL := 4) (ret := (some .boolean)) (by decide) rfl ?_
  intro p e s m args below meth c s₁ B hml hv
  obtain ⟨rfl, hw⟩ := hv
  have hx := B.exec
  have hb := B.bytes
  have hr := B.returns
  have hts := atoms_spec (ws := zW y_D_sum b_D_sum 4 (some .boolean)) B.pre
  have ht : ∀ w ∈ zT, w.before ([.ref (cO K 0), .int (x), .int (y), .int (z)] : List Value).toArray s = true := fun w h => hts w (List.mem_cons_of_mem _ h)
  have hown : s.vm.findClass R_D = some m.cls := findClass_of_methodNamed B.named
  have hlocks := B.notSynchronized
  have hl := lv_entry ([.ref (cO K 0), .int (x), .int (y), .int (z)]) (n := 4) (Nat.le_of_ble_eq_true rfl)
  rw [lg_entry_eq]
  generalize (lg_sl ([.ref (cO K 0), .int (x), .int (y), .int (z)]) ++ List.replicate (4 - (lg_sl ([.ref (cO K 0), .int (x), .int (y), .int (z)])).length) Slot.unset).toArray = ls at hl ⊢
  have hl : lv_has ls 4 [(0, .ref (cO K 0)), (1, .int (x)), (2, .int (y)), (3, .int (z))] := hl
  have hno : ∀ (H : Heap) (locs : List Loc) (ls : Array Slot), cH K τ s H locs → lv_has ls 4 [(0, .ref (cO K 0)), (1, .int (x)), (2, .int (y)), (3, .int (z))] → ¬ (okR x 4 ∧ okR y 4 ∧ okR z 4) → W p l e (headSpec (zW y_D_sum b_D_sum 4 (some .boolean)) (zr 7 156)).room s m ([.ref (cO K 0), .int (x), .int (y), .int (z)] : List Value).toArray below meth c H locs 0 0 (MQ below (va_Qi (fun r u => (¬ (okR x 4 ∧ okR y 4 ∧ okR z 4) → r = nI 0 ∧ u = τ) ∧ ∀ q a b, q < 4 → a < 4 → b < 4 → x = nI q → y = nI a → z = nI b → r = nI 1 ∧ cPut τ q (cin (rMod 0) (cin (rMod 0) (cV τ 22, cV τ 23, 0) (cN τ a) (cV τ (8 + 2 * a)) (cV τ (9 + 2 * a))) (cN τ b) (cV τ (8 + 2 * b)) (cV τ (9 + 2 * b))) u) (fun u => cC K u) (cAA K)) ([.ref (cO K 0), .int (x), .int (y), .int (z)] : List Value).toArray s 0 0 (cAA K)) (F0 m 21 ls []) := by
    intro H locs ls hw hl hn
    refine lv_iconst (v := nI 0) hx hb d_D_sum_21 (by decide) ?_
    refine z_zret (cZ K) hx hb hr hlocks (nar_b (by decide)) τ hw ⟨fun _ => ⟨rfl, rfl⟩, fun q a b w1 w2 w3 e1 e2 e3 => absurd ⟨?_, ?_, ?_⟩ hn⟩ d_D_sum_22
    · rw [e1]; exact okR_of w1 (by decide)
    · rw [e2]; exact okR_of w2 (by decide)
    · rw [e3]; exact okR_of w3 (by decide)
  refine lv_iload_n hx hb d_D_sum_0 rfl (lv_at hl 1 rfl) ?_
  refine c_si (np := 1) (As := [.int (x)]) (rest := []) ⟨hx, hb, hml, hown, ht⟩ hw (c_D_isSpot l K τ x) ⟨km_D_142, ks_D_isSpot, kc_D_isSpot⟩ ki_D (by decide +kernel) ⟨by decide, by decide⟩ rfl rfl rfl hl.1 rfl (Nat.le_of_ble_eq_true rfl) d_D_sum_1 ⟨Nat.le_refl _, Nat.le_refl _⟩ (fun r ux H locs hp hw => ?_)
  obtain ⟨hpu, rfl⟩ := hp
  rw [hpu] at hw
  clear hpu
  refine n_eq0 (tgt := 21) hx hb d_D_sum_4 (by decide) (boolN_s _) (fun c1 => hno _ _ ls hw hl (fun q => boolN_0 c1 q.1)) (fun c1 => ?_)
  refine lv_iload_n hx hb d_D_sum_7 rfl (lv_at hl 2 rfl) ?_
  refine c_si (np := 1) (As := [.int (y)]) (rest := []) ⟨hx, hb, hml, hown, ht⟩ hw (c_D_isSpot l K τ y) ⟨km_D_142, ks_D_isSpot, kc_D_isSpot⟩ ki_D (by decide +kernel) ⟨by decide, by decide⟩ rfl rfl rfl hl.1 rfl (Nat.le_of_ble_eq_true rfl) d_D_sum_8 ⟨Nat.le_refl _, Nat.le_refl _⟩ (fun r ux H locs hp hw => ?_)
  obtain ⟨hpu, rfl⟩ := hp
  rw [hpu] at hw
  clear hpu
  refine n_eq0 (tgt := 21) hx hb d_D_sum_11 (by decide) (boolN_s _) (fun c2 => hno _ _ ls hw hl (fun q => boolN_0 c2 q.2.1)) (fun c2 => ?_)
  refine lv_iload_n hx hb d_D_sum_14 rfl (lv_at hl 3 rfl) ?_
  refine c_si (np := 1) (As := [.int (z)]) (rest := []) ⟨hx, hb, hml, hown, ht⟩ hw (c_D_isSpot l K τ z) ⟨km_D_142, ks_D_isSpot, kc_D_isSpot⟩ ki_D (by decide +kernel) ⟨by decide, by decide⟩ rfl rfl rfl hl.1 rfl (Nat.le_of_ble_eq_true rfl) d_D_sum_15 ⟨Nat.le_refl _, Nat.le_refl _⟩ (fun r ux H locs hp hw => ?_)
  obtain ⟨hpu, rfl⟩ := hp
  rw [hpu] at hw
  clear hpu
  refine n_ne0 (tgt := 23) hx hb d_D_sum_18 (by decide) (boolN_s _) (fun c3 => ?_) (fun c3 => hno _ _ ls hw hl (fun q => boolN_0 c3 q.2.2))
  have k1 := boolN_1 c1
  have k2 := boolN_1 c2
  have k3 := boolN_1 c3
  clear hno c1 c2 c3
  obtain ⟨q, lt_q, ex⟩ := k1.ex (by decide)
  obtain ⟨a, lt_a, ey⟩ := k2.ex (by decide)
  obtain ⟨b, lt_b, ez⟩ := k3.ex (by decide)
  have hl2 := hl
  rw [ex, ey, ez] at hl2
  have hl : lv_has ls 4 [(0, .ref (cO K 0)), (1, .int (nI (q))), (2, .int (nI (a))), (3, .int (nI (b)))] := hl2
  clear hl2
  refine lv_aload_n hx hb d_D_sum_23 rfl (lv_at hl 0 rfl) ?_
  refine va_get (ci := 4) (C := R_D) (T := F_D) (N := 10) (v := .ref (cO K 7)) hx hb ht ku_D hown hw.2.1 hw.1 0 rfl rfl 5 (by decide) (ht _ kf_D_63) (fun _ h9 => h9) rfl d_D_sum_24 ?_
  refine lv_aload_n hx hb d_D_sum_27 rfl (lv_at hl 0 rfl) ?_
  refine va_get (ci := 4) (C := R_D) (T := F_D) (N := 10) (v := .ref (cO K 4)) hx hb ht ku_D hown hw.2.1 hw.1 0 rfl rfl 1 (by decide) (ht _ kf_D_16) (fun _ h9 => h9) rfl d_D_sum_28 ?_
  refine lv_iload_n hx hb d_D_sum_31 rfl (lv_at hl 1 rfl) ?_
  refine c_spt hx hb hw (i := q) (by omega) d_D_sum_32 ?_
  refine lv_aload_n hx hb d_D_sum_33 rfl (lv_at hl 0 rfl) ?_
  refine va_get (ci := 4) (C := R_D) (T := F_D) (N := 10) (v := .ref (cO K 4)) hx hb ht ku_D hown hw.2.1 hw.1 0 rfl rfl 1 (by decide) (ht _ kf_D_16) (fun _ h9 => h9) rfl d_D_sum_34 ?_
  refine lv_iload_n hx hb d_D_sum_37 rfl (lv_at hl 2 rfl) ?_
  refine c_spt hx hb hw (i := a) (by omega) d_D_sum_38 ?_
  refine lv_aload_n hx hb d_D_sum_39 rfl (lv_at hl 0 rfl) ?_
  refine va_get (ci := 4) (C := R_D) (T := F_D) (N := 10) (v := .ref (cO K 4)) hx hb ht ku_D hown hw.2.1 hw.1 0 rfl rfl 1 (by decide) (ht _ kf_D_16) (fun _ h9 => h9) rfl d_D_sum_40 ?_
  refine lv_iload_n hx hb d_D_sum_43 rfl (lv_at hl 3 rfl) ?_
  refine c_spt hx hb hw (i := b) (by omega) d_D_sum_44 ?_
  refine c_cv (np := 3) (As := [.ref (cO K (8 + q)), .ref (cO K (8 + a)), .ref (cO K (8 + b))]) (rest := []) ⟨hx, hb, hml, hown, ht⟩ hw (c_C_addTwo l K τ hok (j := q) (a0 := a) (b0 := b) (by omega) (by omega) (by omega) hn2 hpt h22 h23) 7 rfl rfl ⟨km_D_152, kv_C_addTwo, kx_C_addTwo, kc_C_addTwo⟩ ki_C (by decide +kernel) ⟨by decide, by decide⟩ rfl rfl rfl hl.1 rfl (Nat.le_of_ble_eq_true rfl) d_D_sum_45 ⟨Nat.le_refl _, Nat.le_refl _⟩ (fun u1 H locs hp hw => ?_)
  refine lv_iconst (v := nI 1) hx hb d_D_sum_48 (by decide) ?_
  refine z_zret (cZ K) hx hb hr hlocks (nar_b (by decide)) u1 hw ⟨fun q => absurd ⟨k1, k2, k3⟩ q, fun q_ a_ b_ w1 w2 w3 e1 e2 e3 => ?_⟩ d_D_sum_49
  have q_q_ : q_ = q := (nI_eq (by omega) (by omega)).mp (e1.symm.trans ex)
  subst q_q_
  have q_a_ : a_ = a := (nI_eq (by omega) (by omega)).mp (e2.symm.trans ey)
  subst q_a_
  have q_b_ : b_ = b := (nI_eq (by omega) (by omega)).mp (e3.symm.trans ez)
  subst q_b_
  exact ⟨rfl, hp⟩
set_option maxHeartbeats 4000000 in
set_option maxRecDepth 100000 in
theorem c_D_times (l : Launch) (K : cG) (τ : cT) (hok : cOk τ) (hn2 : ∀ q, q < 6 → cN τ q < 2) (hpt : ∀ r, 8 ≤ r → r < 20 → cV τ r < rMod 0) (h22 : cV τ 22 < rMod 0) (h23 : cV τ 23 < rMod 0) (x y z : Int32) : Met l y_D_times (zW y_D_times b_D_times 4 (some .boolean)) (zr 7 159) (va_Pc [.ref (cO K 0), .int (x), .int (y), .int (z)] (cC K τ)) (va_Qi (fun r u => (¬ (okR x 4 ∧ okR y 4 ∧ okR z 8) → r = nI 0 ∧ u = τ) ∧ ∀ q a b, q < 4 → a < 4 → b < 8 → x = nI q → y = nI a → z = nI b → r = nI 1 ∧ cPut τ q (crun (rMod 0) (cPt τ a) (cPt τ a) (cV τ 22, cV τ 23, 0) (cV τ b) (cV τ 34) 256) u) (fun u => cC K u) (cAA K)) 0 0 (cAA K) := by
  refine Met.ofW (cc := b_D_times) (maxL := 4) (ret := (some .boolean)) (by decide) rfl ?_
  intro p e s m args below meth c s₁ B hml hv
  obtain ⟨rfl, hw⟩ := hv
  have hx := B.exec
  have hb := B.bytes
  have hr := B.returns
  have hts := atoms_spec (ws := zW y_D_times b_D_times 4 (some .boolean)) B.pre
  have ht : ∀ w ∈ zT, w.before ([.ref (cO K 0), .int (x), .int (y), .int (z)] : List Value).toArray s = true := fun w h => hts w (List.mem_cons_of_mem _ h)
  have hown : s.vm.findClass R_D = some m.cls := findClass_of_methodNamed B.named
  have hlocks := B.notSynchronized
  have hl := lv_entry ([.ref (cO K 0), .int (x), .int (y), .int (z)]) (n := 4) (Nat.le_of_ble_eq_true rfl)
  rw [lg_entry_eq]
  generalize (lg_sl ([.ref (cO K 0), .int (x), .int (y), .int (z)]) ++ List.replicate (4 - (lg_sl ([.ref (cO K 0), .int (x), .int (y), .int (z)])).length) Slot.unset).toArray = ls at hl ⊢
  have hl : lv_has ls 4 [(0, .ref (cO K 0)), (1, .int (x)), (2, .int (y)), (3, .int (z))] := hl
  have hno : ∀ (H : Heap) (locs : List Loc) (ls : Array Slot), cH K τ s H locs → lv_has ls 4 [(0, .ref (cO K 0)), (1, .int (x)), (2, .int (y)), (3, .int (z))] → ¬ (okR x 4 ∧ okR y 4 ∧ okR z 8) → W p l e (headSpec (zW y_D_times b_D_times 4 (some .boolean)) (zr 7 159)).room s m ([.ref (cO K 0), .int (x), .int (y), .int (z)] : List Value).toArray below meth c H locs 0 0 (MQ below (va_Qi (fun r u => (¬ (okR x 4 ∧ okR y 4 ∧ okR z 8) → r = nI 0 ∧ u = τ) ∧ ∀ q a b, q < 4 → a < 4 → b < 8 → x = nI q → y = nI a → z = nI b → r = nI 1 ∧ cPut τ q (crun (rMod 0) (cPt τ a) (cPt τ a) (cV τ 22, cV τ 23, 0) (cV τ b) (cV τ 34) 256) u) (fun u => cC K u) (cAA K)) ([.ref (cO K 0), .int (x), .int (y), .int (z)] : List Value).toArray s 0 0 (cAA K)) (F0 m 21 ls []) := by
    intro H locs ls hw hl hn
    refine lv_iconst (v := nI 0) hx hb d_D_times_21 (by decide) ?_
    refine z_zret (cZ K) hx hb hr hlocks (nar_b (by decide)) τ hw ⟨fun _ => ⟨rfl, rfl⟩, fun q a b w1 w2 w3 e1 e2 e3 => absurd ⟨?_, ?_, ?_⟩ hn⟩ d_D_times_22
    · rw [e1]; exact okR_of w1 (by decide)
    · rw [e2]; exact okR_of w2 (by decide)
    · rw [e3]; exact okR_of w3 (by decide)
  refine lv_iload_n hx hb d_D_times_0 rfl (lv_at hl 1 rfl) ?_
  refine c_si (np := 1) (As := [.int (x)]) (rest := []) ⟨hx, hb, hml, hown, ht⟩ hw (c_D_isSpot l K τ x) ⟨km_D_142, ks_D_isSpot, kc_D_isSpot⟩ ki_D (by decide +kernel) ⟨by decide, by decide⟩ rfl rfl rfl hl.1 rfl (Nat.le_of_ble_eq_true rfl) d_D_times_1 ⟨Nat.le_refl _, Nat.le_refl _⟩ (fun r ux H locs hp hw => ?_)
  obtain ⟨hpu, rfl⟩ := hp
  rw [hpu] at hw
  clear hpu
  refine n_eq0 (tgt := 21) hx hb d_D_times_4 (by decide) (boolN_s _) (fun c1 => hno _ _ ls hw hl (fun q => boolN_0 c1 q.1)) (fun c1 => ?_)
  refine lv_iload_n hx hb d_D_times_7 rfl (lv_at hl 2 rfl) ?_
  refine c_si (np := 1) (As := [.int (y)]) (rest := []) ⟨hx, hb, hml, hown, ht⟩ hw (c_D_isSpot l K τ y) ⟨km_D_142, ks_D_isSpot, kc_D_isSpot⟩ ki_D (by decide +kernel) ⟨by decide, by decide⟩ rfl rfl rfl hl.1 rfl (Nat.le_of_ble_eq_true rfl) d_D_times_8 ⟨Nat.le_refl _, Nat.le_refl _⟩ (fun r ux H locs hp hw => ?_)
  obtain ⟨hpu, rfl⟩ := hp
  rw [hpu] at hw
  clear hpu
  refine n_eq0 (tgt := 21) hx hb d_D_times_11 (by decide) (boolN_s _) (fun c2 => hno _ _ ls hw hl (fun q => boolN_0 c2 q.2.1)) (fun c2 => ?_)
  refine lv_iload_n hx hb d_D_times_14 rfl (lv_at hl 3 rfl) ?_
  refine c_si (np := 1) (As := [.int (z)]) (rest := []) ⟨hx, hb, hml, hown, ht⟩ hw (c_D_isRegister l K τ z) ⟨km_D_91, ks_D_isRegister, kc_D_isRegister⟩ ki_D (by decide +kernel) ⟨by decide, by decide⟩ rfl rfl rfl hl.1 rfl (Nat.le_of_ble_eq_true rfl) d_D_times_15 ⟨Nat.le_refl _, Nat.le_refl _⟩ (fun r ux H locs hp hw => ?_)
  obtain ⟨hpu, rfl⟩ := hp
  rw [hpu] at hw
  clear hpu
  refine n_ne0 (tgt := 23) hx hb d_D_times_18 (by decide) (boolN_s _) (fun c3 => ?_) (fun c3 => hno _ _ ls hw hl (fun q => boolN_0 c3 q.2.2))
  have k1 := boolN_1 c1
  have k2 := boolN_1 c2
  have k3 := boolN_1 c3
  clear hno c1 c2 c3
  obtain ⟨q, lt_q, ex⟩ := k1.ex (by decide)
  obtain ⟨a, lt_a, ey⟩ := k2.ex (by decide)
  obtain ⟨b, lt_b, ez⟩ := k3.ex (by decide)
  have hl2 := hl
  rw [ex, ey, ez] at hl2
  have hl : lv_has ls 4 [(0, .ref (cO K 0)), (1, .int (nI (q))), (2, .int (nI (a))), (3, .int (nI (b)))] := hl2
  clear hl2
  refine lv_aload_n hx hb d_D_times_23 rfl (lv_at hl 0 rfl) ?_
  refine va_get (ci := 4) (C := R_D) (T := F_D) (N := 10) (v := .ref (cO K 7)) hx hb ht ku_D hown hw.2.1 hw.1 0 rfl rfl 5 (by decide) (ht _ kf_D_63) (fun _ h9 => h9) rfl d_D_times_24 ?_
  refine lv_aload_n hx hb d_D_times_27 rfl (lv_at hl 0 rfl) ?_
  refine va_get (ci := 4) (C := R_D) (T := F_D) (N := 10) (v := .ref (cO K 4)) hx hb ht ku_D hown hw.2.1 hw.1 0 rfl rfl 1 (by decide) (ht _ kf_D_16) (fun _ h9 => h9) rfl d_D_times_28 ?_
  refine lv_iload_n hx hb d_D_times_31 rfl (lv_at hl 1 rfl) ?_
  refine c_spt hx hb hw (i := q) (by omega) d_D_times_32 ?_
  refine lv_aload_n hx hb d_D_times_33 rfl (lv_at hl 0 rfl) ?_
  refine va_get (ci := 4) (C := R_D) (T := F_D) (N := 10) (v := .ref (cO K 3)) hx hb ht ku_D hown hw.2.1 hw.1 0 rfl rfl 0 (by decide) (ht _ kf_D_11) (fun _ h9 => h9) rfl d_D_times_34 ?_
  refine lv_iload_n hx hb d_D_times_37 rfl (lv_at hl 3 rfl) ?_
  refine c_reg hx hb hw (i := b) (by omega) d_D_times_38 ?_
  refine lv_aload_n hx hb d_D_times_39 rfl (lv_at hl 0 rfl) ?_
  refine va_get (ci := 4) (C := R_D) (T := F_D) (N := 10) (v := .ref (cO K 4)) hx hb ht ku_D hown hw.2.1 hw.1 0 rfl rfl 1 (by decide) (ht _ kf_D_16) (fun _ h9 => h9) rfl d_D_times_40 ?_
  refine lv_iload_n hx hb d_D_times_43 rfl (lv_at hl 2 rfl) ?_
  refine c_spt hx hb hw (i := a) (by omega) d_D_times_44 ?_
  refine c_gets hx hb ht hown hw 34 (by decide) (by decide) kf_D_156 d_D_times_45 ?_
  refine lv_aload_n hx hb d_D_times_48 rfl (lv_at hl 0 rfl) ?_
  refine va_get (ci := 4) (C := R_D) (T := F_D) (N := 10) (v := .ref (cO K 4)) hx hb ht ku_D hown hw.2.1 hw.1 0 rfl rfl 1 (by decide) (ht _ kf_D_16) (fun _ h9 => h9) rfl d_D_times_49 ?_
  refine lv_iload_n hx hb d_D_times_52 rfl (lv_at hl 2 rfl) ?_
  refine c_spt hx hb hw (i := a) (by omega) d_D_times_53 ?_
  refine c_cv (np := 5) (As := [.ref (cO K (8 + q)), .ref (cR K b), .ref (cO K (8 + a)), .ref (cR K 34), .ref (cO K (8 + a))]) (rest := []) ⟨hx, hb, hml, hown, ht⟩ hw (c_C_addMultiples l K τ hok (j := q) (a0 := a) (b0 := a) (k0 := b) (l0 := 34) (by omega) (by omega) (by omega) (by omega) (by omega) (by omega) (by omega) hn2 hpt h22 h23) 7 rfl rfl ⟨km_D_159, kv_C_addMultiples, kx_C_addMultiples, kc_C_addMultiples⟩ ki_C (by decide +kernel) ⟨by decide, by decide⟩ rfl rfl rfl hl.1 rfl (Nat.le_of_ble_eq_true rfl) d_D_times_54 ⟨Nat.le_refl _, Nat.le_refl _⟩ (fun u1 H locs hp hw => ?_)
  refine lv_iconst (v := nI 1) hx hb d_D_times_57 (by decide) ?_
  refine z_zret (cZ K) hx hb hr hlocks (nar_b (by decide)) u1 hw ⟨fun q => absurd ⟨k1, k2, k3⟩ q, fun q_ a_ b_ w1 w2 w3 e1 e2 e3 => ?_⟩ d_D_times_58
  have q_q_ : q_ = q := (nI_eq (by omega) (by omega)).mp (e1.symm.trans ex)
  subst q_q_
  have q_a_ : a_ = a := (nI_eq (by omega) (by omega)).mp (e2.symm.trans ey)
  subst q_a_
  have q_b_ : b_ = b := (nI_eq (by omega) (by omega)).mp (e3.symm.trans ez)
  subst q_b_
  exact ⟨rfl, hp⟩
