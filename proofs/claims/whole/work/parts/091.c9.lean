/-! the class's curve: points taken in, the sum put out -/
theorem cU.fix {τ' u : cT} {V : Nat → Nat} (h : cU τ' V u) (τ : cT) : ∃ V2, cU τ' V2 u ∧ (∀ i, i < 30 ∨ 33 < i → V2 i = V i) ∧ ∀ i, ¬ (i < 30 ∨ 33 < i) → V2 i = cV τ i :=
  ⟨fun i => if i < 30 ∨ 33 < i then V i else cV τ i, h.re (fun i hi => (if_pos hi).symm), fun i hi => if_pos hi, fun i hi => if_neg hi⟩
/-- spot j becomes the running sum t -/
def cPut (τ : cT) (j : Nat) (t : Nat × Nat × Nat) (u : cT) : Prop := ∃ V, cU (csN τ j (boolN (t.2.2 = 0))) V u ∧
  (t.2.2 ≠ 0 → V (8 + 2 * j) = mm (rMod 0) t.1 (mm (rMod 0) (t.2.2 ^ (rMod 0 - 2) % rMod 0) (t.2.2 ^ (rMod 0 - 2) % rMod 0)) ∧ V (9 + 2 * j) = mm (rMod 0) t.2.1 (mm (rMod 0) (t.2.2 ^ (rMod 0 - 2) % rMod 0) (mm (rMod 0) (t.2.2 ^ (rMod 0 - 2) % rMod 0) (t.2.2 ^ (rMod 0 - 2) % rMod 0)))) ∧
  (t.2.2 = 0 → V (8 + 2 * j) = cV τ (8 + 2 * j) ∧ V (9 + 2 * j) = cV τ (9 + 2 * j)) ∧ t3lt (rMod 0) (V 22, V 23, V 24) ∧ ∀ r, r < 22 ∨ 28 < r → r ≠ 8 + 2 * j → r ≠ 9 + 2 * j → V r = cV τ r
theorem cPut.of {τ u w : cT} {V : Nat → Nat} {j : Nat} {t : Nat × Nat × Nat} (hj : j < 6) (hu : cU τ V u) (hk : ∀ r, r < 22 ∨ 27 < r → V r = cV τ r) (h : cPut u j t w) : cPut τ j t w := by
  obtain ⟨V2, h1, h2, h3, h4, h5⟩ := h
  have hU : cU (csN τ j (boolN (t.2.2 = 0))) V2 w := ⟨h1.1, h1.2.1, by rw [h1.2.2.1]; show va_up (cN u) j _ = va_up (cN τ) j _; rw [hu.2.2.1], h1.2.2.2.1.trans hu.2.2.2.1, h1.2.2.2.2.trans hu.2.2.2.2⟩
  obtain ⟨V3, hU3, e3, e4⟩ := hU.fix τ
  refine ⟨V3, hU3, fun q => ?_, fun q => ?_, ?_, fun r a b c => ?_⟩
  · rw [e3 _ (by omega), e3 _ (by omega)]; exact h2 q
  · rw [e3 _ (by omega), e3 _ (by omega), (h3 q).1, (h3 q).2, hu.v (by omega), hu.v (by omega), hk _ (by omega), hk _ (by omega)]
    exact ⟨rfl, rfl⟩
  · rw [e3 _ (by omega), e3 _ (by omega), e3 _ (by omega)]; exact h4
  · by_cases hr : r < 30 ∨ 33 < r
    · rw [e3 r hr, h5 r a b c, hu.v hr, hk r (by omega)]
    · exact e4 r hr
def cst1 (M : Nat) (P t : Nat × Nat × Nat) (b : Nat) : Nat × Nat × Nat := if b = 1 then cin M t P.1 P.2.1 P.2.2 else t
def crun (M : Nat) (P Q t0 : Nat × Nat × Nat) (k m : Nat) : Nat → Nat × Nat × Nat
  | 0 => t0
  | n + 1 => cst1 M Q (cst1 M P (cdb M (crun M P Q t0 k m n)) (k / 2 ^ (255 - n) % 2)) (m / 2 ^ (255 - n) % 2)
def cPt (τ : cT) (j : Nat) : Nat × Nat × Nat := (cN τ j, cV τ (8 + 2 * j), cV τ (9 + 2 * j))
theorem cst1_lt {M : Nat} (hM : 1 < M) {P t : Nat × Nat × Nat} {b : Nat} (h : t3lt M t) (hx : P.2.1 < M) (hy : P.2.2 < M) : t3lt M (cst1 M P t b) := by
  unfold cst1
  split
  · exact cin_lt hM h hx hy
  · exact h
theorem crun_lt {M : Nat} (hM : 1 < M) {P Q t0 : Nat × Nat × Nat} {k m : Nat} (h : t3lt M t0) (hx : P.2.1 < M) (hy : P.2.2 < M) (qx : Q.2.1 < M) (qy : Q.2.2 < M) (n : Nat) : t3lt M (crun M P Q t0 k m n) := by
  induction n with
  | zero => exact h
  | succ n ih => exact cst1_lt hM (cst1_lt hM (cdb_lt (by omega) ih) hx hy) qx qy
set_option maxHeartbeats 4000000 in
set_option maxRecDepth 100000 in
theorem c_C_include (l : Launch) (K : cG) (τ : cT) (hok : cOk τ) {j : Nat} (hj : j < 6) (hn : cN τ j < 2) (h3 : t3lt (rMod 0) (cV τ 22, cV τ 23, cV τ 24)) (hx0 : cV τ (8 + 2 * j) < rMod 0) (hy0 : cV τ (9 + 2 * j) < rMod 0) : Met l y_C_include (zW y_C_include b_C_include 2 none) (zr 5 109) (va_Pc [.ref (cO K 7), .ref (cO K (8 + j))] (cC K τ)) (va_Qv (fun u => ∃ V, cU τ V u ∧ (V 22, V 23, V 24) = cin (rMod 0) (cV τ 22, cV τ 23, cV τ 24) (cN τ j) (cV τ (8 + 2 * j)) (cV τ (9 + 2 * j)) ∧ ∀ r, r < 22 ∨ 27 < r → V r = cV τ r) (fun u => cC K u) (cAA K)) 0 0 (cAA K) := by
  refine Met.ofW (cc := b_C_include) (maxL := 2) (ret := none) (by decide) rfl ?_
  intro p e s m args below meth c s₁ B hml hv
  obtain ⟨rfl, hw⟩ := hv
  have hx := B.exec
  have hb := B.bytes
  have hr := B.returns
  have hts := atoms_spec (ws := zW y_C_include b_C_include 2 none) B.pre
  have ht : ∀ w ∈ zT, w.before ([.ref (cO K 7), .ref (cO K (8 + j))] : List Value).toArray s = true := fun w h => hts w (List.mem_cons_of_mem _ h)
  have hown : s.vm.findClass R_C = some m.cls := findClass_of_methodNamed B.named
  have hlocks := B.notSynchronized
  have hl := lv_entry ([.ref (cO K 7), .ref (cO K (8 + j))]) (n := 2) (Nat.le_of_ble_eq_true rfl)
  rw [lg_entry_eq]
  generalize (lg_sl ([.ref (cO K 7), .ref (cO K (8 + j))]) ++ List.replicate (2 - (lg_sl ([.ref (cO K 7), .ref (cO K (8 + j))])).length) Slot.unset).toArray = ls at hl ⊢
  have hl : lv_has ls 2 [(0, .ref (cO K 7)), (1, .ref (cO K (8 + j)))] := hl
  have hM1 : 1 < rMod 0 := rMod_one (by decide)
  refine lv_aload_n hx hb d_C_include_0 rfl (lv_at hl 1 rfl) ?_
  refine va_get (ci := 3) (C := R_P) (T := F_P) (N := 3) (v := .int (nI (cN τ j))) hx hb ht ku_P hown hw.2.1 hw.1 (8 + j) (cWs_pnt K _ hj) rfl 0 (by decide) (ht _ kf_C_95) (fun _ h9 => h9) rfl d_C_include_1 ?_
  refine n_eq0 (tgt := 8) hx hb d_C_include_4 (by decide) (by omega) (fun c1 => ?_) (fun c1 => ?_)
  · obtain ⟨V0, u0, hV0, hu0, hw⟩ : ∃ (V : Nat → Nat) (u : cT), V = cV τ ∧ cU τ V u ∧ cH K u s s.heap [] := ⟨cV τ, τ, rfl, cU.refl hok, hw⟩
    have hK0 : ∀ r, r < 22 ∨ 27 < r → V0 r = cV τ r := fun r _ => by rw [hV0]
    have f0_22 : V0 (22) = cV τ 22 := by rw [hV0]
    have f0_23 : V0 (23) = cV τ 23 := by rw [hV0]
    have f0_24 : V0 (24) = cV τ 24 := by rw [hV0]
    have f0_8_2_j : V0 (8 + 2 * j) = cV τ (8 + 2 * j) := by rw [hV0]
    have f0_9_2_j : V0 (9 + 2 * j) = cV τ (9 + 2 * j) := by rw [hV0]
    have f0_35 : V0 (35) = 1 := by rw [hV0]; rfl
    refine lv_aload_n hx hb d_C_include_8 rfl (lv_at hl 0 rfl) ?_
    refine va_get (ci := 0) (C := R_C) (T := F_C) (N := 7) (v := .ref (cR K 24)) hx hb ht ku_C hown hw.2.1 hw.1 7 rfl rfl 3 (by decide) (ht _ kf_C_18) (fun _ h9 => h9) rfl d_C_include_9 ?_
    refine c_si (np := 1) (As := [.ref (cR K 24)]) (rest := []) ⟨hx, hb, hml, hown, ht⟩ hw (c_L_isZero l K u0 hu0.2.1 (a := 24) (by omega) (by omega)) ⟨km_C_101, ks_L_isZero, kc_L_isZero⟩ ki_L (by decide +kernel) ⟨by decide, by decide⟩ rfl rfl rfl hl.1 rfl (Nat.le_of_ble_eq_true rfl) d_C_include_12 ⟨Nat.le_refl _, Nat.le_refl _⟩ (fun r ux H locs hp hw => ?_)
    obtain ⟨hpu, rfl⟩ := hp
    rw [hpu] at hw
    clear hpu
    refine tp_i (y := nI (boolN (cV τ 24 = 0))) (by simp only [hu0.v (show 24 < 30 ∨ 33 < 24 by omega), f0_24]) ?_
    refine n_eq0 (tgt := 51) hx hb d_C_include_15 (by decide) (boolN_s _) (fun c2 => ?_) (fun c2 => ?_)
    · have c3 := boolN_0 c2
      refine lv_aload_n hx hb d_C_include_51 rfl (lv_at hl 0 rfl) ?_
      refine lv_aload_n hx hb d_C_include_52 rfl (lv_at hl 1 rfl) ?_
      refine c_cv (np := 1) (As := [.ref (cO K (8 + j))]) (rest := []) ⟨hx, hb, hml, hown, ht⟩ hw (c_C_findDifferences l K u0 hu0.2.1 hj (by rw [hu0.v (by omega), f0_22]; exact h3.1) (by rw [hu0.v (by omega), f0_23]; exact h3.2.1)) 7 rfl rfl ⟨km_C_109, kv_C_findDifferences, kx_C_findDifferences, kc_C_findDifferences⟩ ki_C (by decide +kernel) ⟨by decide, by decide⟩ rfl rfl rfl hl.1 rfl (Nat.le_of_ble_eq_true rfl) d_C_include_53 ⟨Nat.le_refl _, Nat.le_refl _⟩ (fun u1 H locs hp hw => ?_)
      obtain ⟨W1, hv1, g26, g27, gk⟩ := hp
      have hu1 := hu0.trans hv1
      rw [hu0.v (show 22 < 30 ∨ 33 < 22 by omega), hu0.v (show 24 < 30 ∨ 33 < 24 by omega), hu0.v (show 8 + 2 * j < 30 ∨ 33 < 8 + 2 * j by omega), f0_22, f0_24, f0_8_2_j] at g26
      rw [hu0.v (show 23 < 30 ∨ 33 < 23 by omega), hu0.v (show 24 < 30 ∨ 33 < 24 by omega), hu0.v (show 9 + 2 * j < 30 ∨ 33 < 9 + 2 * j by omega), f0_23, f0_24, f0_9_2_j] at g27
      have e22 : W1 22 = cV τ 22 := (gk _ (by omega)).trans ((hu0.v (by omega)).trans f0_22)
      have e23 : W1 23 = cV τ 23 := (gk _ (by omega)).trans ((hu0.v (by omega)).trans f0_23)
      have e24 : W1 24 = cV τ 24 := (gk _ (by omega)).trans ((hu0.v (by omega)).trans f0_24)
      have hK1 : ∀ r, r < 22 ∨ 27 < r → (r < 30 ∨ 33 < r) → W1 r = cV τ r := fun r a b => (gk r (by omega)).trans ((hu0.v b).trans (hK0 r a))
      refine lv_aload_n hx hb d_C_include_56 rfl (lv_at hl 0 rfl) ?_
      refine va_get (ci := 0) (C := R_C) (T := F_C) (N := 7) (v := .ref (cR K 26)) hx hb ht ku_C hown hw.2.1 hw.1 7 rfl rfl 5 (by decide) (ht _ kf_C_24) (fun _ h9 => h9) rfl d_C_include_57 ?_
      refine c_si (np := 1) (As := [.ref (cR K 26)]) (rest := []) ⟨hx, hb, hml, hown, ht⟩ hw (c_L_isZero l K u1 hu1.2.1 (a := 26) (by omega) (by omega)) ⟨km_C_101, ks_L_isZero, kc_L_isZero⟩ ki_L (by decide +kernel) ⟨by decide, by decide⟩ rfl rfl rfl hl.1 rfl (Nat.le_of_ble_eq_true rfl) d_C_include_60 ⟨Nat.le_refl _, Nat.le_refl _⟩ (fun r ux H locs hp hw => ?_)
      obtain ⟨hpu, rfl⟩ := hp
      rw [hpu] at hw
      clear hpu
      refine tp_i (y := nI (boolN (cfB (rMod 0) (cV τ 22) (cV τ 24) (cV τ (8 + 2 * j)) = 0))) (by simp only [hu1.v (show 26 < 30 ∨ 33 < 26 by omega), g26]) ?_
      refine n_ne0 (tgt := 73) hx hb d_C_include_63 (by decide) (boolN_s _) (fun c4 => ?_) (fun c4 => ?_)
      · have c5 := boolN_1 c4
        refine lv_aload_n hx hb d_C_include_73 rfl (lv_at hl 0 rfl) ?_
        refine va_get (ci := 0) (C := R_C) (T := F_C) (N := 7) (v := .ref (cR K 27)) hx hb ht ku_C hown hw.2.1 hw.1 7 rfl rfl 6 (by decide) (ht _ kf_C_27) (fun _ h9 => h9) rfl d_C_include_74 ?_
        refine c_si (np := 1) (As := [.ref (cR K 27)]) (rest := []) ⟨hx, hb, hml, hown, ht⟩ hw (c_L_isZero l K u1 hu1.2.1 (a := 27) (by omega) (by omega)) ⟨km_C_101, ks_L_isZero, kc_L_isZero⟩ ki_L (by decide +kernel) ⟨by decide, by decide⟩ rfl rfl rfl hl.1 rfl (Nat.le_of_ble_eq_true rfl) d_C_include_77 ⟨Nat.le_refl _, Nat.le_refl _⟩ (fun r ux H locs hp hw => ?_)
        obtain ⟨hpu, rfl⟩ := hp
        rw [hpu] at hw
        clear hpu
        refine tp_i (y := nI (boolN (cfC (rMod 0) (cV τ 23) (cV τ 24) (cV τ (9 + 2 * j)) = 0))) (by simp only [hu1.v (show 27 < 30 ∨ 33 < 27 by omega), g27]) ?_
        refine n_eq0 (tgt := 90) hx hb d_C_include_80 (by decide) (boolN_s _) (fun c6 => ?_) (fun c6 => ?_)
        · have c7 := boolN_0 c6
          refine lv_aload_n hx hb d_C_include_90 rfl (lv_at hl 0 rfl) ?_
          refine c_cv (np := 0) (As := []) (rest := []) ⟨hx, hb, hml, hown, ht⟩ hw (c_C_startSum l K u1 hu1.2.1) 7 rfl rfl ⟨km_C_78, kv_C_startSum, kx_C_startSum, kc_C_startSum⟩ ki_C (by decide +kernel) ⟨by decide, by decide⟩ rfl rfl rfl hl.1 rfl (Nat.le_of_ble_eq_true rfl) d_C_include_91 ⟨Nat.le_refl _, Nat.le_refl _⟩ (fun u2 H locs hp hw => ?_)
          have hv2 := (cU.refl hu1.2.1).set (o := 24) (x := 0) (by decide) W8_pos hp
          have gk2 : ∀ r, r < 22 ∨ 27 < r → va_up (cV u1) 24 0 r = cV u1 r := fun r a => up_ne _ _ (by omega)
          have q22 : va_up (cV u1) 24 0 22 = cV τ 22 := (up_ne _ _ (by decide)).trans ((hu1.v (by omega)).trans e22)
          have q23 : va_up (cV u1) 24 0 23 = cV τ 23 := (up_ne _ _ (by decide)).trans ((hu1.v (by omega)).trans e23)
          have hK2 : ∀ r, r < 22 ∨ 27 < r → (r < 30 ∨ 33 < r) → (va_up (cV u1) 24 0) r = cV τ r := fun r a b => (gk2 r a).trans ((hu1.v b).trans (hK1 r a b))
          obtain ⟨V3, hU3, e3, e4⟩ := (hu1.trans hv2).fix τ
          refine z_vret (cZ K) hx hb hr hlocks u2 hw ⟨V3, hU3, ?_, fun r a => ?_⟩ d_C_include_94
          · rw [e3 22 (by omega), e3 23 (by omega), e3 24 (by omega)]
            rw [cin, if_neg (by omega : ¬ cN τ j ≠ 0), if_neg (show ¬ (cV τ 22, cV τ 23, cV τ 24).2.2 = 0 from c3)]
            rw [if_neg (show ¬ cfB (rMod 0) (cV τ 22, cV τ 23, cV τ 24).1 (cV τ 22, cV τ 23, cV τ 24).2.2 (cV τ (8 + 2 * j)) ≠ 0 from fun q => q c5), if_neg (show ¬ cfC (rMod 0) (cV τ 22, cV τ 23, cV τ 24).2.1 (cV τ 22, cV τ 23, cV τ 24).2.2 (cV τ (9 + 2 * j)) = 0 from c7), q22, q23, up_self]
          · by_cases b : r < 30 ∨ 33 < r
            · rw [e3 r b]; exact hK2 r a b
            · exact e4 r b
        · have c7 := boolN_1 c6
          refine lv_aload_n hx hb d_C_include_83 rfl (lv_at hl 0 rfl) ?_
          have t1 : (cV u1 22, cV u1 23, cV u1 24) = (cV τ 22, cV τ 23, cV τ 24) := by rw [hu1.v (show 22 < 30 ∨ 33 < 22 by omega), hu1.v (show 23 < 30 ∨ 33 < 23 by omega), hu1.v (show 24 < 30 ∨ 33 < 24 by omega), e22, e23, e24]
          refine c_cv (np := 0) (As := []) (rest := []) ⟨hx, hb, hml, hown, ht⟩ hw (c_C_doubleSum l K u1 hu1.2.1 (by rw [t1]; exact h3)) 7 rfl rfl ⟨km_C_88, kv_C_doubleSum, kx_C_doubleSum, kc_C_doubleSum⟩ ki_C (by decide +kernel) ⟨by decide, by decide⟩ rfl rfl rfl hl.1 rfl (Nat.le_of_ble_eq_true rfl) d_C_include_84 ⟨Nat.le_refl _, Nat.le_refl _⟩ (fun u2 H locs hp hw => ?_)
          obtain ⟨W2, hv2, q2, gk2⟩ := hp
          rw [t1] at q2
          refine lv_goto (tgt := 94) hx hb d_C_include_87 (by decide) ?_
          have hK2 : ∀ r, r < 22 ∨ 27 < r → (r < 30 ∨ 33 < r) → W2 r = cV τ r := fun r a b => (gk2 r a).trans ((hu1.v b).trans (hK1 r a b))
          obtain ⟨V3, hU3, e3, e4⟩ := (hu1.trans hv2).fix τ
          refine z_vret (cZ K) hx hb hr hlocks u2 hw ⟨V3, hU3, ?_, fun r a => ?_⟩ d_C_include_94
          · rw [e3 22 (by omega), e3 23 (by omega), e3 24 (by omega)]
            rw [cin, if_neg (by omega : ¬ cN τ j ≠ 0), if_neg (show ¬ (cV τ 22, cV τ 23, cV τ 24).2.2 = 0 from c3)]
            rw [if_neg (show ¬ cfB (rMod 0) (cV τ 22, cV τ 23, cV τ 24).1 (cV τ 22, cV τ 23, cV τ 24).2.2 (cV τ (8 + 2 * j)) ≠ 0 from fun q => q c5), if_pos (show cfC (rMod 0) (cV τ 22, cV τ 23, cV τ 24).2.1 (cV τ 22, cV τ 23, cV τ 24).2.2 (cV τ (9 + 2 * j)) = 0 from c7), q2]
          · by_cases b : r < 30 ∨ 33 < r
            · rw [e3 r b]; exact hK2 r a b
            · exact e4 r b
      · have c5 := boolN_0 c4
        refine lv_aload_n hx hb d_C_include_66 rfl (lv_at hl 0 rfl) ?_
        have v22 : cV u1 22 = cV τ 22 := (hu1.v (by omega)).trans e22
        have v23 : cV u1 23 = cV τ 23 := (hu1.v (by omega)).trans e23
        have v24 : cV u1 24 = cV τ 24 := (hu1.v (by omega)).trans e24
        have v26 : cV u1 26 = cfB (rMod 0) (cV τ 22) (cV τ 24) (cV τ (8 + 2 * j)) := (hu1.v (by omega)).trans g26
        have v27 : cV u1 27 = cfC (rMod 0) (cV τ 23) (cV τ 24) (cV τ (9 + 2 * j)) := (hu1.v (by omega)).trans g27
        have hM0 : 0 < rMod 0 := by omega
        refine c_cv (np := 0) (As := []) (rest := []) ⟨hx, hb, hml, hown, ht⟩ hw (c_C_moveAlongLine l K u1 hu1.2.1 (by rw [v22]; exact h3.1) (by rw [v23]; exact h3.2.1) (by rw [v26]; exact ss_lt hM0) (by rw [v27]; exact ss_lt hM0)) 7 rfl rfl ⟨km_C_112, kv_C_moveAlongLine, kx_C_moveAlongLine, kc_C_moveAlongLine⟩ ki_C (by decide +kernel) ⟨by decide, by decide⟩ rfl rfl rfl hl.1 rfl (Nat.le_of_ble_eq_true rfl) d_C_include_67 ⟨Nat.le_refl _, Nat.le_refl _⟩ (fun u2 H locs hp hw => ?_)
        obtain ⟨W2, hv2, q22, q23, q24, gk2⟩ := hp
        rw [v22, v26, v27] at q22
        rw [v22, v23, v26, v27] at q23
        rw [v24, v26] at q24
        refine lv_goto (tgt := 94) hx hb d_C_include_70 (by decide) ?_
        have hK2 : ∀ r, r < 22 ∨ 27 < r → (r < 30 ∨ 33 < r) → W2 r = cV τ r := fun r a b => (gk2 r a).trans ((hu1.v b).trans (hK1 r a b))
        obtain ⟨V3, hU3, e3, e4⟩ := (hu1.trans hv2).fix τ
        refine z_vret (cZ K) hx hb hr hlocks u2 hw ⟨V3, hU3, ?_, fun r a => ?_⟩ d_C_include_94
        · rw [e3 22 (by omega), e3 23 (by omega), e3 24 (by omega)]
          rw [cin, if_neg (by omega : ¬ cN τ j ≠ 0), if_neg (show ¬ (cV τ 22, cV τ 23, cV τ 24).2.2 = 0 from c3)]
          rw [if_pos (show cfB (rMod 0) (cV τ 22, cV τ 23, cV τ 24).1 (cV τ 22, cV τ 23, cV τ 24).2.2 (cV τ (8 + 2 * j)) ≠ 0 from c5), q22, q23, q24]
        · by_cases b : r < 30 ∨ 33 < r
          · rw [e3 r b]; exact hK2 r a b
          · exact e4 r b
    · have c3 := boolN_1 c2
      refine lv_aload_n hx hb d_C_include_18 rfl (lv_at hl 0 rfl) ?_
      refine va_get (ci := 0) (C := R_C) (T := F_C) (N := 7) (v := .ref (cR K 22)) hx hb ht ku_C hown hw.2.1 hw.1 7 rfl rfl 1 (by decide) (ht _ kf_C_9) (fun _ h9 => h9) rfl d_C_include_19 ?_
      refine lv_aload_n hx hb d_C_include_22 rfl (lv_at hl 1 rfl) ?_
      refine va_get (ci := 3) (C := R_P) (T := F_P) (N := 3) (v := .ref (cR K (8 + 2 * j))) hx hb ht ku_P hown hw.2.1 hw.1 (8 + j) (cWs_pnt K _ hj) rfl 1 (by decide) (ht _ kf_C_104) (fun _ h9 => h9) rfl d_C_include_23 ?_
      refine c_sv (np := 2) (As := [.ref (cR K 22), .ref (cR K (8 + 2 * j))]) (rest := []) ⟨hx, hb, hml, hown, ht⟩ hw (c_L_copy l K u0 hu0.2.1 (o := 22) (a := 8 + 2 * j) (by omega) (by omega)) ⟨km_C_75, ks_L_copy, kc_L_copy⟩ ki_L (by decide +kernel) ⟨by decide, by decide⟩ rfl rfl rfl hl.1 rfl (Nat.le_of_ble_eq_true rfl) d_C_include_26 ⟨Nat.le_refl _, Nat.le_refl _⟩ (fun u1 H locs hp hw => ?_)
      obtain ⟨V1, hu1, ht1, hk1⟩ := qc_copy hu0 (by omega) (by omega) (by omega) hp
      have f1_23 : V1 (23) = cV τ 23 := (hk1 _ (by omega)).trans f0_23
      have f1_24 : V1 (24) = cV τ 24 := (hk1 _ (by omega)).trans f0_24
      have f1_8_2_j : V1 (8 + 2 * j) = cV τ (8 + 2 * j) := (hk1 _ (by omega)).trans f0_8_2_j
      have f1_9_2_j : V1 (9 + 2 * j) = cV τ (9 + 2 * j) := (hk1 _ (by omega)).trans f0_9_2_j
      have f1_35 : V1 (35) = 1 := (hk1 _ (by omega)).trans f0_35
      have f1_22 : V1 (22) = cV τ (8 + 2 * j) := ht1.trans f0_8_2_j
      have hK1 : ∀ r, r < 22 ∨ 27 < r → V1 r = cV τ r := fun r a0 => (hk1 r (by omega)).trans (hK0 r a0)
      clear f0_22 f0_23 f0_24 f0_8_2_j f0_9_2_j f0_35 ht1 hk1 hu0 hK0 hp
      refine lv_aload_n hx hb d_C_include_29 rfl (lv_at hl 0 rfl) ?_
      refine va_get (ci := 0) (C := R_C) (T := F_C) (N := 7) (v := .ref (cR K 23)) hx hb ht ku_C hown hw.2.1 hw.1 7 rfl rfl 2 (by decide) (ht _ kf_C_15) (fun _ h9 => h9) rfl d_C_include_30 ?_
      refine lv_aload_n hx hb d_C_include_33 rfl (lv_at hl 1 rfl) ?_
      refine va_get (ci := 3) (C := R_P) (T := F_P) (N := 3) (v := .ref (cR K (9 + 2 * j))) hx hb ht ku_P hown hw.2.1 hw.1 (8 + j) (cWs_pnt K _ hj) rfl 2 (by decide) (ht _ kf_C_105) (fun _ h9 => h9) rfl d_C_include_34 ?_
      refine c_sv (np := 2) (As := [.ref (cR K 23), .ref (cR K (9 + 2 * j))]) (rest := []) ⟨hx, hb, hml, hown, ht⟩ hw (c_L_copy l K u1 hu1.2.1 (o := 23) (a := 9 + 2 * j) (by omega) (by omega)) ⟨km_C_75, ks_L_copy, kc_L_copy⟩ ki_L (by decide +kernel) ⟨by decide, by decide⟩ rfl rfl rfl hl.1 rfl (Nat.le_of_ble_eq_true rfl) d_C_include_37 ⟨Nat.le_refl _, Nat.le_refl _⟩ (fun u2 H locs hp hw => ?_)
      obtain ⟨V2, hu2, ht2, hk2⟩ := qc_copy hu1 (by omega) (by omega) (by omega) hp
      have f2_24 : V2 (24) = cV τ 24 := (hk2 _ (by omega)).trans f1_24
      have f2_8_2_j : V2 (8 + 2 * j) = cV τ (8 + 2 * j) := (hk2 _ (by omega)).trans f1_8_2_j
      have f2_9_2_j : V2 (9 + 2 * j) = cV τ (9 + 2 * j) := (hk2 _ (by omega)).trans f1_9_2_j
      have f2_35 : V2 (35) = 1 := (hk2 _ (by omega)).trans f1_35
      have f2_22 : V2 (22) = cV τ (8 + 2 * j) := (hk2 _ (by omega)).trans f1_22
      have f2_23 : V2 (23) = cV τ (9 + 2 * j) := ht2.trans f1_9_2_j
      have hK2 : ∀ r, r < 22 ∨ 27 < r → V2 r = cV τ r := fun r a0 => (hk2 r (by omega)).trans (hK1 r a0)
      clear f1_23 f1_24 f1_8_2_j f1_9_2_j f1_35 f1_22 ht2 hk2 hu1 hK1 hp
      refine lv_aload_n hx hb d_C_include_40 rfl (lv_at hl 0 rfl) ?_
      refine va_get (ci := 0) (C := R_C) (T := F_C) (N := 7) (v := .ref (cR K 24)) hx hb ht ku_C hown hw.2.1 hw.1 7 rfl rfl 3 (by decide) (ht _ kf_C_18) (fun _ h9 => h9) rfl d_C_include_41 ?_
      refine c_getsN hx hb hown hw 35 (by decide) (by decide) (index := 106) (by decide) d_C_include_44 ?_
      refine c_sv (np := 2) (As := [.ref (cR K 24), .ref (cR K 35)]) (rest := []) ⟨hx, hb, hml, hown, ht⟩ hw (c_L_copy l K u2 hu2.2.1 (o := 24) (a := 35) (by omega) (by omega)) ⟨km_C_75, ks_L_copy, kc_L_copy⟩ ki_L (by decide +kernel) ⟨by decide, by decide⟩ rfl rfl rfl hl.1 rfl (Nat.le_of_ble_eq_true rfl) d_C_include_47 ⟨Nat.le_refl _, Nat.le_refl _⟩ (fun u3 H locs hp hw => ?_)
      obtain ⟨V3, hu3, ht3, hk3⟩ := qc_copy hu2 (by omega) (by omega) (by omega) hp
      have f3_8_2_j : V3 (8 + 2 * j) = cV τ (8 + 2 * j) := (hk3 _ (by omega)).trans f2_8_2_j
      have f3_9_2_j : V3 (9 + 2 * j) = cV τ (9 + 2 * j) := (hk3 _ (by omega)).trans f2_9_2_j
      have f3_35 : V3 (35) = 1 := (hk3 _ (by omega)).trans f2_35
      have f3_22 : V3 (22) = cV τ (8 + 2 * j) := (hk3 _ (by omega)).trans f2_22
      have f3_23 : V3 (23) = cV τ (9 + 2 * j) := (hk3 _ (by omega)).trans f2_23
      have f3_24 : V3 (24) = 1 := ht3.trans f2_35
      have hK3 : ∀ r, r < 22 ∨ 27 < r → V3 r = cV τ r := fun r a0 => (hk3 r (by omega)).trans (hK2 r a0)
      clear f2_24 f2_8_2_j f2_9_2_j f2_35 f2_22 f2_23 ht3 hk3 hu2 hK2 hp
      refine z_vret (cZ K) hx hb hr hlocks u3 hw ⟨V3, hu3, ?_, hK3⟩ d_C_include_50
      rw [f3_22, f3_23, f3_24, cin, if_neg (by omega : ¬ cN τ j ≠ 0), if_pos (show (cV τ 22, cV τ 23, cV τ 24).2.2 = 0 from c3)]
  · refine z_vret (cZ K) hx hb hr hlocks τ hw ⟨cV τ, cU.refl hok, ?_, fun _ _ => rfl⟩ d_C_include_7
    rw [cin, if_pos c1]
