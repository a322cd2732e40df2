/-! join, in numbers and in the reference -/
def jU (M y1 z1 y2 z2 : Nat) : Nat := ss M (mm M y2 z1) (mm M y1 z2)
def jV (M x1 z1 x2 z2 : Nat) : Nat := ss M (mm M x2 z1) (mm M x1 z2)
def jXX (M u v X0 Z : Nat) : Nat := ss M (ss M (ss M (mm M (mm M u u) Z) (mm M (mm M v v) v)) (mm M (mm M v v) X0)) (mm M (mm M v v) X0)
def jYY (M u v X0 Z Y0 : Nat) : Nat := ss M (mm M u (ss M (mm M (mm M v v) X0) (jXX M u v X0 Z))) (mm M Y0 (mm M (mm M v v) v))
def jn (M x1 y1 z1 x2 y2 z2 : Nat) : Nat × Nat × Nat :=
  if z2 = 0 then (x1, y1, z1) else if z1 = 0 then (x2, y2, z2) else
  if jV M x1 z1 x2 z2 = 0 then (if jU M y1 z1 y2 z2 = 0 then (twX M x1 y1 z1, twY M x1 y1 z1, twZ M y1 z1) else (x1, y1, 0)) else
  (mm M (jV M x1 z1 x2 z2) (jXX M (jU M y1 z1 y2 z2) (jV M x1 z1 x2 z2) (mm M x1 z2) (mm M z1 z2)), jYY M (jU M y1 z1 y2 z2) (jV M x1 z1 x2 z2) (mm M x1 z2) (mm M z1 z2) (mm M y1 z2), mm M (mm M (mm M (jV M x1 z1 x2 z2) (jV M x1 z1 x2 z2)) (jV M x1 z1 x2 z2)) (mm M z1 z2))
theorem boolN_0 {P : Prop} [Decidable P] (h : boolN P = 0) : ¬ P := fun q => by
  rw [boolN_t q] at h
  cases h
theorem boolN_1 {P : Prop} [Decidable P] (h : boolN P ≠ 0) : P := by
  by_cases q : P
  · exact q
  · exact absurd (boolN_f q) h
theorem boolN_s (P : Prop) [Decidable P] : boolN P < 2 ^ 31 := Nat.lt_trans (boolN_lt P) (by decide)
set_option maxHeartbeats 4000000 in
set_option maxRecDepth 100000 in
theorem c_R_join (l : Launch) (G : rG) (σ : rS) (hok : rOk σ) {p0 q0 : Nat} (h1 : 21 < p0) (h2 : p0 < 29) (h3 : 21 < q0) (h4 : q0 < 29 ∨ q0 = 44) (h5 : p0 + 2 < q0 ∨ q0 + 2 < p0) (hq : rV σ 8 = rMod 0) (hx1 : rV σ p0 < rMod 0) (hy1 : rV σ (p0 + 1) < rMod 0) (hz1 : rV σ (p0 + 2) < rMod 0) (hx2 : rV σ q0 < rMod 0) (hy2 : rV σ (q0 + 1) < rMod 0) (hz2 : rV σ (q0 + 2) < rMod 0) : Met l y_R_join (zW y_R_join b_R_join 3 none) (zr 4 100) (va_Pc [.ref (rA G 0), .int (nI (p0)), .int (nI (q0))] (rC G σ)) (va_Qv (fun u => ∃ V, rU σ V u ∧ V p0 = (jn (rMod 0) (rV σ p0) (rV σ (p0 + 1)) (rV σ (p0 + 2)) (rV σ q0) (rV σ (q0 + 1)) (rV σ (q0 + 2))).1 ∧ V (p0 + 1) = (jn (rMod 0) (rV σ p0) (rV σ (p0 + 1)) (rV σ (p0 + 2)) (rV σ q0) (rV σ (q0 + 1)) (rV σ (q0 + 2))).2.1 ∧ V (p0 + 2) = (jn (rMod 0) (rV σ p0) (rV σ (p0 + 1)) (rV σ (p0 + 2)) (rV σ q0) (rV σ (q0 + 1)) (rV σ (q0 + 2))).2.2 ∧ (∀ r, r ≠ p0 → r ≠ p0 + 1 → r ≠ p0 + 2 → (r < 31 ∨ 37 < r) → V r = rV σ r) ∧ ∀ r, V r < b26 ^ 10) (fun u => rC G u) (rAA G)) 0 0 (rAA G) := by
  refine Met.ofW (cc := b_R_join) (maxL := 3) (ret := none) (by decide) rfl ?_
  intro p e s m args below meth c s₁ B hml hv
  obtain ⟨rfl, hw⟩ := hv
  have hx := B.exec
  have hb := B.bytes
  have hr := B.returns
  have hts := atoms_spec (ws := zW y_R_join b_R_join 3 none) B.pre
  have ht : ∀ w ∈ zT, w.before ([.ref (rA G 0), .int (nI (p0)), .int (nI (q0))] : List Value).toArray s = true := fun w h => hts w (List.mem_cons_of_mem _ h)
  have hown : s.vm.findClass R_R = some m.cls := findClass_of_methodNamed B.named
  have hlocks := B.notSynchronized
  have hl := lv_entry ([.ref (rA G 0), .int (nI (p0)), .int (nI (q0))]) (n := 3) (Nat.le_of_ble_eq_true rfl)
  rw [lg_entry_eq]
  generalize (lg_sl ([.ref (rA G 0), .int (nI (p0)), .int (nI (q0))]) ++ List.replicate (3 - (lg_sl ([.ref (rA G 0), .int (nI (p0)), .int (nI (q0))])).length) Slot.unset).toArray = ls at hl ⊢
  have hl : lv_has ls 3 [(0, .ref (rA G 0)), (1, .int (nI (p0))), (2, .int (nI (q0)))] := hl
  obtain ⟨V0, u0, hV0, hu0, hok0, hw⟩ : ∃ (V : Nat → Nat) (u : rS), V = rV σ ∧ rU σ V u ∧ (∀ r, V r < b26 ^ 10) ∧ rH G u s s.heap [] := ⟨rV σ, σ, rfl, rU.rfl' σ, hok, hw⟩
  have hK0 : ∀ r, r ≠ p0 → r ≠ p0 + 1 → r ≠ p0 + 2 → (r < 31 ∨ 37 < r) → V0 r = rV σ r := fun r _ _ _ _ => by rw [hV0]
  have f0_8 : V0 8 = rMod 0 := by rw [hV0]; exact hq
  obtain ⟨x1, x1e⟩ : ∃ x, x = rV σ (p0) := ⟨_, rfl⟩
  have f0_x1 : V0 (p0) = x1 := by rw [hV0, x1e]
  obtain ⟨y1, y1e⟩ : ∃ x, x = rV σ (p0 + 1) := ⟨_, rfl⟩
  have f0_y1 : V0 (p0 + 1) = y1 := by rw [hV0, y1e]
  obtain ⟨z1, z1e⟩ : ∃ x, x = rV σ (p0 + 2) := ⟨_, rfl⟩
  have f0_z1 : V0 (p0 + 2) = z1 := by rw [hV0, z1e]
  obtain ⟨x2, x2e⟩ : ∃ x, x = rV σ (q0) := ⟨_, rfl⟩
  have f0_x2 : V0 (q0) = x2 := by rw [hV0, x2e]
  obtain ⟨y2, y2e⟩ : ∃ x, x = rV σ (q0 + 1) := ⟨_, rfl⟩
  have f0_y2 : V0 (q0 + 1) = y2 := by rw [hV0, y2e]
  obtain ⟨z2, z2e⟩ : ∃ x, x = rV σ (q0 + 2) := ⟨_, rfl⟩
  have f0_z2 : V0 (q0 + 2) = z2 := by rw [hV0, z2e]
  rw [← x1e] at hx1
  rw [← y1e] at hy1
  rw [← z1e] at hz1
  rw [← x2e] at hx2
  rw [← y2e] at hy2
  rw [← z2e] at hz2
  have hJ : ∀ V u H locs ls pc, decode b_R_join pc = .ok (.return_, 1) → rU σ V u → rH G u s H locs → V p0 = (jn (rMod 0) x1 y1 z1 x2 y2 z2).1 → V (p0 + 1) = (jn (rMod 0) x1 y1 z1 x2 y2 z2).2.1 → V (p0 + 2) = (jn (rMod 0) x1 y1 z1 x2 y2 z2).2.2 → (∀ r, r ≠ p0 → r ≠ p0 + 1 → r ≠ p0 + 2 → (r < 31 ∨ 37 < r) → V r = rV σ r) → (∀ r, V r < b26 ^ 10) → W p l e (headSpec (zW y_R_join b_R_join 3 none) (zr 4 100)).room s m ([.ref (rA G 0), .int (nI (p0)), .int (nI (q0))] : List Value).toArray below meth c H locs 0 0 (MQ below (va_Qv (fun u => ∃ V, rU σ V u ∧ V p0 = (jn (rMod 0) (rV σ p0) (rV σ (p0 + 1)) (rV σ (p0 + 2)) (rV σ q0) (rV σ (q0 + 1)) (rV σ (q0 + 2))).1 ∧ V (p0 + 1) = (jn (rMod 0) (rV σ p0) (rV σ (p0 + 1)) (rV σ (p0 + 2)) (rV σ q0) (rV σ (q0 + 1)) (rV σ (q0 + 2))).2.1 ∧ V (p0 + 2) = (jn (rMod 0) (rV σ p0) (rV σ (p0 + 1)) (rV σ (p0 + 2)) (rV σ q0) (rV σ (q0 + 1)) (rV σ (q0 + 2))).2.2 ∧ (∀ r, r ≠ p0 → r ≠ p0 + 1 → r ≠ p0 + 2 → (r < 31 ∨ 37 < r) → V r = rV σ r) ∧ ∀ r, V r < b26 ^ 10) (fun u => rC G u) (rAA G)) ([.ref (rA G 0), .int (nI (p0)), .int (nI (q0))] : List Value).toArray s 0 0 (rAA G)) (F0 m pc ls []) := by
    intro V u H locs ls pc hd hu hw e1 e2 e3 hk ho
    refine z_vret (rZ _) hx hb hr hlocks u hw ⟨V, hu, ?_, ?_, ?_, fun r h h1 h2 h3 => ?_, ho⟩ hd
    · rw [← x1e, ← y1e, ← z1e, ← x2e, ← y2e, ← z2e]; exact e1
    · rw [← x1e, ← y1e, ← z1e, ← x2e, ← y2e, ← z2e]; exact e2
    · rw [← x1e, ← y1e, ← z1e, ← x2e, ← y2e, ← z2e]; exact e3
    · exact hk r h h1 h2 h3
  refine lv_aload_n hx hb d_R_join_0 rfl (lv_at hl 0 rfl) ?_
  refine lv_iload_n hx hb d_R_join_1 rfl (lv_at hl 2 rfl) ?_
  refine r_calli (np := 1) (As := [.int (nI (q0))]) (rest := []) ⟨hx, hb, hml, hown, ht⟩ hw (c_R_isNone l G u0 (hu0.ok hok0) (by omega)) ⟨km_R_118, kv_R_isNone, kx_R_isNone, kc_R_isNone⟩ (by decide +kernel) ⟨by decide, by decide⟩ rfl rfl rfl hl.1 rfl (by decide) d_R_join_2 ⟨Nat.le_refl _, Nat.le_refl _⟩ (fun r ux H locs hp hw => ?_)
  obtain ⟨hpu, rfl⟩ := hp
  rw [hpu] at hw
  refine tp_i (y := nI (boolN (z2 = 0))) (by rw [hu0.V, f0_z2]) ?_
  refine n_eq0 (tgt := 9) hx hb d_R_join_5 (by decide) (boolN_s _) (fun c1 => ?_) (fun c1 => ?_)
  · have n1 : ¬ z2 = 0 := boolN_0 c1
    refine lv_aload_n hx hb d_R_join_9 rfl (lv_at hl 0 rfl) ?_
    refine lv_iload_n hx hb d_R_join_10 rfl (lv_at hl 1 rfl) ?_
    refine r_calli (np := 1) (As := [.int (nI (p0))]) (rest := []) ⟨hx, hb, hml, hown, ht⟩ hw (c_R_isNone l G u0 (hu0.ok hok0) (by omega)) ⟨km_R_118, kv_R_isNone, kx_R_isNone, kc_R_isNone⟩ (by decide +kernel) ⟨by decide, by decide⟩ rfl rfl rfl hl.1 rfl (by decide) d_R_join_11 ⟨Nat.le_refl _, Nat.le_refl _⟩ (fun r ux H locs hp hw => ?_)
    obtain ⟨hpu, rfl⟩ := hp
    rw [hpu] at hw
    refine tp_i (y := nI (boolN (z1 = 0))) (by rw [hu0.V, f0_z1]) ?_
    refine n_eq0 (tgt := 24) hx hb d_R_join_14 (by decide) (boolN_s _) (fun c2 => ?_) (fun c2 => ?_)
    · have n2 : ¬ z1 = 0 := boolN_0 c2
      refine lv_aload_n hx hb d_R_join_24 rfl (lv_at hl 0 rfl) ?_
      refine lv_bipush (v := nI 31) hx hb d_R_join_25 (by decide) ?_
      refine lv_iload_n hx hb d_R_join_27 rfl (lv_at hl 2 rfl) ?_
      refine lv_iconst (v := nI 1) hx hb d_R_join_28 (by decide) ?_
      refine lv_iadd hx hb d_R_join_29 ?_
      refine tp_i (y := nI (q0 + 1)) (nI_add _ _) ?_
      refine lv_iload_n hx hb d_R_join_30 rfl (lv_at hl 1 rfl) ?_
      refine lv_iconst (v := nI 2) hx hb d_R_join_31 (by decide) ?_
      refine lv_iadd hx hb d_R_join_32 ?_
      refine tp_i (y := nI (p0 + 2)) (nI_add _ _) ?_
      refine lv_bipush (v := nI 8) hx hb d_R_join_33 (by decide) ?_
      refine r_callv (np := 4) (As := [.int (nI (31)), .int (nI (q0 + 1)), .int (nI (p0 + 2)), .int (nI (8))]) (rest := []) ⟨hx, hb, hml, hown, ht⟩ hw (c_R_multiply l G u0 (hu0.ok hok0) (μ := 0) (by decide) (by decide) (by omega) (by omega) (by decide) (by rw [hu0.V]; exact f0_8)) ⟨km_R_96, kv_R_multiply, kx_R_multiply, kc_R_multiply⟩ (by decide +kernel) ⟨by decide, by decide⟩ rfl rfl rfl hl.1 rfl (by decide) d_R_join_35 ⟨Nat.le_refl _, Nat.le_refl _⟩ (fun u1 H locs hp hw => ?_)
      obtain ⟨V1, hu1, ht1, hk1, hok1⟩ := q_mul (by decide) hu0 hok0 hp
      have f1_8 : V1 (8) = rMod 0 := (hk1 _ (by decide)).trans f0_8
      have f1_p0 : V1 (p0) = x1 := (hk1 _ (by omega)).trans f0_x1
      have f1_p0_1 : V1 (p0 + 1) = y1 := (hk1 _ (by omega)).trans f0_y1
      have f1_p0_2 : V1 (p0 + 2) = z1 := (hk1 _ (by omega)).trans f0_z1
      have f1_q0 : V1 (q0) = x2 := (hk1 _ (by omega)).trans f0_x2
      have f1_q0_1 : V1 (q0 + 1) = y2 := (hk1 _ (by omega)).trans f0_y2
      have f1_q0_2 : V1 (q0 + 2) = z2 := (hk1 _ (by omega)).trans f0_z2
      have hK1 : ∀ r, r ≠ p0 → r ≠ p0 + 1 → r ≠ p0 + 2 → (r < 31 ∨ 37 < r) → V1 r = rV σ r := fun r a0 a1 a2 a3 => (hk1 r (by omega)).trans (hK0 r a0 a1 a2 a3)
      have f1_31 : V1 (31) = mm (rMod 0) (y2) (z1) := ht1.trans (by simp only [f0_y2, f0_z1])
      clear f0_8 f0_x1 f0_y1 f0_z1 f0_x2 f0_y2 f0_z2 ht1 hk1 hu0 hok0 hK0 hp
      refine lv_aload_n hx hb d_R_join_38 rfl (lv_at hl 0 rfl) ?_
      refine lv_bipush (v := nI 34) hx hb d_R_join_39 (by decide) ?_
      refine lv_iload_n hx hb d_R_join_41 rfl (lv_at hl 1 rfl) ?_
      refine lv_iconst (v := nI 1) hx hb d_R_join_42 (by decide) ?_
      refine lv_iadd hx hb d_R_join_43 ?_
      refine tp_i (y := nI (p0 + 1)) (nI_add _ _) ?_
      refine lv_iload_n hx hb d_R_join_44 rfl (lv_at hl 2 rfl) ?_
      refine lv_iconst (v := nI 2) hx hb d_R_join_45 (by decide) ?_
      refine lv_iadd hx hb d_R_join_46 ?_
      refine tp_i (y := nI (q0 + 2)) (nI_add _ _) ?_
      refine lv_bipush (v := nI 8) hx hb d_R_join_47 (by decide) ?_
      refine r_callv (np := 4) (As := [.int (nI (34)), .int (nI (p0 + 1)), .int (nI (q0 + 2)), .int (nI (8))]) (rest := []) ⟨hx, hb, hml, hown, ht⟩ hw (c_R_multiply l G u1 (hu1.ok hok1) (μ := 0) (by decide) (by decide) (by omega) (by omega) (by decide) (by rw [hu1.V]; exact f1_8)) ⟨km_R_96, kv_R_multiply, kx_R_multiply, kc_R_multiply⟩ (by decide +kernel) ⟨by decide, by decide⟩ rfl rfl rfl hl.1 rfl (by decide) d_R_join_49 ⟨Nat.le_refl _, Nat.le_refl _⟩ (fun u2 H locs hp hw => ?_)
      obtain ⟨V2, hu2, ht2, hk2, hok2⟩ := q_mul (by decide) hu1 hok1 hp
      have f2_8 : V2 (8) = rMod 0 := (hk2 _ (by decide)).trans f1_8
      have f2_p0 : V2 (p0) = x1 := (hk2 _ (by omega)).trans f1_p0
      have f2_p0_1 : V2 (p0 + 1) = y1 := (hk2 _ (by omega)).trans f1_p0_1
      have f2_p0_2 : V2 (p0 + 2) = z1 := (hk2 _ (by omega)).trans f1_p0_2
      have f2_q0 : V2 (q0) = x2 := (hk2 _ (by omega)).trans f1_q0
      have f2_q0_1 : V2 (q0 + 1) = y2 := (hk2 _ (by omega)).trans f1_q0_1
      have f2_q0_2 : V2 (q0 + 2) = z2 := (hk2 _ (by omega)).trans f1_q0_2
      have f2_31 : V2 (31) = mm (rMod 0) (y2) (z1) := (hk2 _ (by decide)).trans f1_31
      have hK2 : ∀ r, r ≠ p0 → r ≠ p0 + 1 → r ≠ p0 + 2 → (r < 31 ∨ 37 < r) → V2 r = rV σ r := fun r a0 a1 a2 a3 => (hk2 r (by omega)).trans (hK1 r a0 a1 a2 a3)
      have f2_34 : V2 (34) = mm (rMod 0) (y1) (z2) := ht2.trans (by simp only [f1_p0_1, f1_q0_2])
      clear f1_8 f1_p0 f1_p0_1 f1_p0_2 f1_q0 f1_q0_1 f1_q0_2 f1_31 ht2 hk2 hu1 hok1 hK1 hp
      refine lv_aload_n hx hb d_R_join_52 rfl (lv_at hl 0 rfl) ?_
      refine lv_bipush (v := nI 31) hx hb d_R_join_53 (by decide) ?_
      refine lv_bipush (v := nI 31) hx hb d_R_join_55 (by decide) ?_
      refine lv_bipush (v := nI 34) hx hb d_R_join_57 (by decide) ?_
      refine lv_bipush (v := nI 8) hx hb d_R_join_59 (by decide) ?_
      refine r_callv (np := 4) (As := [.int (nI (31)), .int (nI (31)), .int (nI (34)), .int (nI (8))]) (rest := []) ⟨hx, hb, hml, hown, ht⟩ hw (c_R_minus l G u2 (hu2.ok hok2) (by decide) (by decide) (by decide) (by decide) (by decide) (by decide) (by decide) (by rw [hu2.V, f2_8]; exact rMod_le (by decide)) (by rw [hu2.V, f2_31, f2_8]; exact mm_lt (rMod_pos (by decide))) (by rw [hu2.V, f2_34, f2_8]; exact mm_lt (rMod_pos (by decide)))) ⟨km_R_112, kv_R_minus, kx_R_minus, kc_R_minus⟩ (by decide +kernel) ⟨by decide, by decide⟩ rfl rfl rfl hl.1 rfl (by decide) d_R_join_61 ⟨Nat.le_refl _, Nat.le_refl _⟩ (fun u3 H locs hp hw => ?_)
      obtain ⟨V3, hu3, ht3, hk3, hok3⟩ := q_minus hu2 hok2 (by rw [f2_8]; exact rMod_pos (by decide)) (by rw [f2_8]; exact rMod_le (by decide)) hp
      have f3_8 : V3 (8) = rMod 0 := (hk3 _ (by decide) (by decide)).trans f2_8
      have f3_p0 : V3 (p0) = x1 := (hk3 _ (by omega) (by omega)).trans f2_p0
      have f3_p0_1 : V3 (p0 + 1) = y1 := (hk3 _ (by omega) (by omega)).trans f2_p0_1
      have f3_p0_2 : V3 (p0 + 2) = z1 := (hk3 _ (by omega) (by omega)).trans f2_p0_2
      have f3_q0 : V3 (q0) = x2 := (hk3 _ (by omega) (by omega)).trans f2_q0
      have f3_q0_1 : V3 (q0 + 1) = y2 := (hk3 _ (by omega) (by omega)).trans f2_q0_1
      have f3_q0_2 : V3 (q0 + 2) = z2 := (hk3 _ (by omega) (by omega)).trans f2_q0_2
      have f3_34 : V3 (34) = mm (rMod 0) (y1) (z2) := (hk3 _ (by decide) (by decide)).trans f2_34
      have hK3 : ∀ r, r ≠ p0 → r ≠ p0 + 1 → r ≠ p0 + 2 → (r < 31 ∨ 37 < r) → V3 r = rV σ r := fun r a0 a1 a2 a3 => (hk3 r (by omega) (by omega)).trans (hK2 r a0 a1 a2 a3)
      have f3_31 : V3 (31) = ss (rMod 0) (mm (rMod 0) (y2) (z1)) (mm (rMod 0) (y1) (z2)) := ht3.trans (by simp only [f2_31, f2_34, f2_8])
      clear f2_8 f2_p0 f2_p0_1 f2_p0_2 f2_q0 f2_q0_1 f2_q0_2 f2_31 f2_34 ht3 hk3 hu2 hok2 hK2 hp
      have f3_31n : V3 (31) = jU (rMod 0) y1 z1 y2 z2 := f3_31
      clear f3_31
      refine lv_aload_n hx hb d_R_join_64 rfl (lv_at hl 0 rfl) ?_
      refine lv_bipush (v := nI 32) hx hb d_R_join_65 (by decide) ?_
      refine lv_iload_n hx hb d_R_join_67 rfl (lv_at hl 2 rfl) ?_
      refine lv_iload_n hx hb d_R_join_68 rfl (lv_at hl 1 rfl) ?_
      refine lv_iconst (v := nI 2) hx hb d_R_join_69 (by decide) ?_
      refine lv_iadd hx hb d_R_join_70 ?_
      refine tp_i (y := nI (p0 + 2)) (nI_add _ _) ?_
      refine lv_bipush (v := nI 8) hx hb d_R_join_71 (by decide) ?_
      refine r_callv (np := 4) (As := [.int (nI (32)), .int (nI (q0)), .int (nI (p0 + 2)), .int (nI (8))]) (rest := []) ⟨hx, hb, hml, hown, ht⟩ hw (c_R_multiply l G u3 (hu3.ok hok3) (μ := 0) (by decide) (by decide) (by omega) (by omega) (by decide) (by rw [hu3.V]; exact f3_8)) ⟨km_R_96, kv_R_multiply, kx_R_multiply, kc_R_multiply⟩ (by decide +kernel) ⟨by decide, by decide⟩ rfl rfl rfl hl.1 rfl (by decide) d_R_join_73 ⟨Nat.le_refl _, Nat.le_refl _⟩ (fun u4 H locs hp hw => ?_)
      obtain ⟨V4, hu4, ht4, hk4, hok4⟩ := q_mul (by decide) hu3 hok3 hp
      have f4_8 : V4 (8) = rMod 0 := (hk4 _ (by decide)).trans f3_8
      have f4_p0 : V4 (p0) = x1 := (hk4 _ (by omega)).trans f3_p0
      have f4_p0_1 : V4 (p0 + 1) = y1 := (hk4 _ (by omega)).trans f3_p0_1
      have f4_p0_2 : V4 (p0 + 2) = z1 := (hk4 _ (by omega)).trans f3_p0_2
      have f4_q0 : V4 (q0) = x2 := (hk4 _ (by omega)).trans f3_q0
      have f4_q0_1 : V4 (q0 + 1) = y2 := (hk4 _ (by omega)).trans f3_q0_1
      have f4_q0_2 : V4 (q0 + 2) = z2 := (hk4 _ (by omega)).trans f3_q0_2
      have f4_34 : V4 (34) = mm (rMod 0) (y1) (z2) := (hk4 _ (by decide)).trans f3_34
      have f4_31 : V4 (31) = jU (rMod 0) y1 z1 y2 z2 := (hk4 _ (by decide)).trans f3_31n
      have hK4 : ∀ r, r ≠ p0 → r ≠ p0 + 1 → r ≠ p0 + 2 → (r < 31 ∨ 37 < r) → V4 r = rV σ r := fun r a0 a1 a2 a3 => (hk4 r (by omega)).trans (hK3 r a0 a1 a2 a3)
      have f4_32 : V4 (32) = mm (rMod 0) (x2) (z1) := ht4.trans (by simp only [f3_p0_2, f3_q0])
      clear f3_8 f3_p0 f3_p0_1 f3_p0_2 f3_q0 f3_q0_1 f3_q0_2 f3_34 f3_31n ht4 hk4 hu3 hok3 hK3 hp
      refine lv_aload_n hx hb d_R_join_76 rfl (lv_at hl 0 rfl) ?_
      refine lv_bipush (v := nI 34) hx hb d_R_join_77 (by decide) ?_
      refine lv_iload_n hx hb d_R_join_79 rfl (lv_at hl 1 rfl) ?_
      refine lv_iload_n hx hb d_R_join_80 rfl (lv_at hl 2 rfl) ?_
      refine lv_iconst (v := nI 2) hx hb d_R_join_81 (by decide) ?_
      refine lv_iadd hx hb d_R_join_82 ?_
      refine tp_i (y := nI (q0 + 2)) (nI_add _ _) ?_
      refine lv_bipush (v := nI 8) hx hb d_R_join_83 (by decide) ?_
      refine r_callv (np := 4) (As := [.int (nI (34)), .int (nI (p0)), .int (nI (q0 + 2)), .int (nI (8))]) (rest := []) ⟨hx, hb, hml, hown, ht⟩ hw (c_R_multiply l G u4 (hu4.ok hok4) (μ := 0) (by decide) (by decide) (by omega) (by omega) (by decide) (by rw [hu4.V]; exact f4_8)) ⟨km_R_96, kv_R_multiply, kx_R_multiply, kc_R_multiply⟩ (by decide +kernel) ⟨by decide, by decide⟩ rfl rfl rfl hl.1 rfl (by decide) d_R_join_85 ⟨Nat.le_refl _, Nat.le_refl _⟩ (fun u5 H locs hp hw => ?_)
      obtain ⟨V5, hu5, ht5, hk5, hok5⟩ := q_mul (by decide) hu4 hok4 hp
      have f5_8 : V5 (8) = rMod 0 := (hk5 _ (by decide)).trans f4_8
      have f5_p0 : V5 (p0) = x1 := (hk5 _ (by omega)).trans f4_p0
      have f5_p0_1 : V5 (p0 + 1) = y1 := (hk5 _ (by omega)).trans f4_p0_1
      have f5_p0_2 : V5 (p0 + 2) = z1 := (hk5 _ (by omega)).trans f4_p0_2
      have f5_q0 : V5 (q0) = x2 := (hk5 _ (by omega)).trans f4_q0
      have f5_q0_1 : V5 (q0 + 1) = y2 := (hk5 _ (by omega)).trans f4_q0_1
      have f5_q0_2 : V5 (q0 + 2) = z2 := (hk5 _ (by omega)).trans f4_q0_2
      have f5_31 : V5 (31) = jU (rMod 0) y1 z1 y2 z2 := (hk5 _ (by decide)).trans f4_31
      have f5_32 : V5 (32) = mm (rMod 0) (x2) (z1) := (hk5 _ (by decide)).trans f4_32
      have hK5 : ∀ r, r ≠ p0 → r ≠ p0 + 1 → r ≠ p0 + 2 → (r < 31 ∨ 37 < r) → V5 r = rV σ r := fun r a0 a1 a2 a3 => (hk5 r (by omega)).trans (hK4 r a0 a1 a2 a3)
      have f5_34 : V5 (34) = mm (rMod 0) (x1) (z2) := ht5.trans (by simp only [f4_p0, f4_q0_2])
      clear f4_8 f4_p0 f4_p0_1 f4_p0_2 f4_q0 f4_q0_1 f4_q0_2 f4_34 f4_31 f4_32 ht5 hk5 hu4 hok4 hK4 hp
      refine lv_aload_n hx hb d_R_join_88 rfl (lv_at hl 0 rfl) ?_
      refine lv_bipush (v := nI 32) hx hb d_R_join_89 (by decide) ?_
      refine lv_bipush (v := nI 32) hx hb d_R_join_91 (by decide) ?_
      refine lv_bipush (v := nI 34) hx hb d_R_join_93 (by decide) ?_
      refine lv_bipush (v := nI 8) hx hb d_R_join_95 (by decide) ?_
      refine r_callv (np := 4) (As := [.int (nI (32)), .int (nI (32)), .int (nI (34)), .int (nI (8))]) (rest := []) ⟨hx, hb, hml, hown, ht⟩ hw (c_R_minus l G u5 (hu5.ok hok5) (by decide) (by decide) (by decide) (by decide) (by decide) (by decide) (by decide) (by rw [hu5.V, f5_8]; exact rMod_le (by decide)) (by rw [hu5.V, f5_32, f5_8]; exact mm_lt (rMod_pos (by decide))) (by rw [hu5.V, f5_34, f5_8]; exact mm_lt (rMod_pos (by decide)))) ⟨km_R_112, kv_R_minus, kx_R_minus, kc_R_minus⟩ (by decide +kernel) ⟨by decide, by decide⟩ rfl rfl rfl hl.1 rfl (by decide) d_R_join_97 ⟨Nat.le_refl _, Nat.le_refl _⟩ (fun u6 H locs hp hw => ?_)
      obtain ⟨V6, hu6, ht6, hk6, hok6⟩ := q_minus hu5 hok5 (by rw [f5_8]; exact rMod_pos (by decide)) (by rw [f5_8]; exact rMod_le (by decide)) hp
      have f6_8 : V6 (8) = rMod 0 := (hk6 _ (by decide) (by decide)).trans f5_8
      have f6_p0 : V6 (p0) = x1 := (hk6 _ (by omega) (by omega)).trans f5_p0
      have f6_p0_1 : V6 (p0 + 1) = y1 := (hk6 _ (by omega) (by omega)).trans f5_p0_1
      have f6_p0_2 : V6 (p0 + 2) = z1 := (hk6 _ (by omega) (by omega)).trans f5_p0_2
      have f6_q0 : V6 (q0) = x2 := (hk6 _ (by omega) (by omega)).trans f5_q0
      have f6_q0_1 : V6 (q0 + 1) = y2 := (hk6 _ (by omega) (by omega)).trans f5_q0_1
      have f6_q0_2 : V6 (q0 + 2) = z2 := (hk6 _ (by omega) (by omega)).trans f5_q0_2
      have f6_31 : V6 (31) = jU (rMod 0) y1 z1 y2 z2 := (hk6 _ (by decide) (by decide)).trans f5_31
      have f6_34 : V6 (34) = mm (rMod 0) (x1) (z2) := (hk6 _ (by decide) (by decide)).trans f5_34
      have hK6 : ∀ r, r ≠ p0 → r ≠ p0 + 1 → r ≠ p0 + 2 → (r < 31 ∨ 37 < r) → V6 r = rV σ r := fun r a0 a1 a2 a3 => (hk6 r (by omega) (by omega)).trans (hK5 r a0 a1 a2 a3)
      have f6_32 : V6 (32) = ss (rMod 0) (mm (rMod 0) (x2) (z1)) (mm (rMod 0) (x1) (z2)) := ht6.trans (by simp only [f5_32, f5_34, f5_8])
      clear f5_8 f5_p0 f5_p0_1 f5_p0_2 f5_q0 f5_q0_1 f5_q0_2 f5_31 f5_32 f5_34 ht6 hk6 hu5 hok5 hK5 hp
      have f6_32n : V6 (32) = jV (rMod 0) x1 z1 x2 z2 := f6_32
      clear f6_32
      clear f6_q0
      clear f6_q0_1
      refine lv_aload_n hx hb d_R_join_100 rfl (lv_at hl 0 rfl) ?_
      refine lv_bipush (v := nI 32) hx hb d_R_join_101 (by decide) ?_
      refine r_calli (np := 1) (As := [.int (nI (32))]) (rest := []) ⟨hx, hb, hml, hown, ht⟩ hw (c_R_isNothing l G u6 (hu6.ok hok6) (by decide)) ⟨km_R_115, kv_R_isNothing, kx_R_isNothing, kc_R_isNothing⟩ (by decide +kernel) ⟨by decide, by decide⟩ rfl rfl rfl hl.1 rfl (by decide) d_R_join_103 ⟨Nat.le_refl _, Nat.le_refl _⟩ (fun r ux H locs hp hw => ?_)
      obtain ⟨hpu, rfl⟩ := hp
      rw [hpu] at hw
      refine tp_i (y := nI (boolN (jV (rMod 0) x1 z1 x2 z2 = 0))) (by rw [hu6.V, f6_32n]) ?_
      refine n_eq0 (tgt := 134) hx hb d_R_join_106 (by decide) (boolN_s _) (fun c3 => ?_) (fun c3 => ?_)
      · have n3 : ¬ jV (rMod 0) x1 z1 x2 z2 = 0 := boolN_0 c3
        obtain ⟨uu, huu⟩ : ∃ t, t = jU (rMod 0) y1 z1 y2 z2 := ⟨_, rfl⟩
        obtain ⟨vv, hvv⟩ : ∃ t, t = jV (rMod 0) x1 z1 x2 z2 := ⟨_, rfl⟩
        have fu : V6 31 = uu := by rw [huu]; exact f6_31
        have fv : V6 32 = vv := by rw [hvv]; exact f6_32n
        have huL : uu < rMod 0 := by rw [huu]; exact ss_lt (rMod_pos (by decide))
        have hvL : vv < rMod 0 := by rw [hvv]; exact ss_lt (rMod_pos (by decide))
        refine lv_aload_n hx hb d_R_join_134 rfl (lv_at hl 0 rfl) ?_
        refine lv_bipush (v := nI 35) hx hb d_R_join_135 (by decide) ?_
        refine lv_bipush (v := nI 32) hx hb d_R_join_137 (by decide) ?_
        refine lv_bipush (v := nI 32) hx hb d_R_join_139 (by decide) ?_
        refine lv_bipush (v := nI 8) hx hb d_R_join_141 (by decide) ?_
        refine r_callv (np := 4) (As := [.int (nI (35)), .int (nI (32)), .int (nI (32)), .int (nI (8))]) (rest := []) ⟨hx, hb, hml, hown, ht⟩ hw (c_R_multiply l G u6 (hu6.ok hok6) (μ := 0) (by decide) (by decide) (by decide) (by decide) (by decide) (by rw [hu6.V]; exact f6_8)) ⟨km_R_96, kv_R_multiply, kx_R_multiply, kc_R_multiply⟩ (by decide +kernel) ⟨by decide, by decide⟩ rfl rfl rfl hl.1 rfl (by decide) d_R_join_143 ⟨Nat.le_refl _, Nat.le_refl _⟩ (fun u7 H locs hp hw => ?_)
        obtain ⟨V7, hu7, ht7, hk7, hok7⟩ := q_mul (by decide) hu6 hok6 hp
        have f7_8 : V7 (8) = rMod 0 := (hk7 _ (by decide)).trans f6_8
        have f7_p0 : V7 (p0) = x1 := (hk7 _ (by omega)).trans f6_p0
        have f7_p0_1 : V7 (p0 + 1) = y1 := (hk7 _ (by omega)).trans f6_p0_1
        have f7_p0_2 : V7 (p0 + 2) = z1 := (hk7 _ (by omega)).trans f6_p0_2
        have f7_q0_2 : V7 (q0 + 2) = z2 := (hk7 _ (by omega)).trans f6_q0_2
        have f7_31 : V7 (31) = uu := (hk7 _ (by decide)).trans fu
        have f7_34 : V7 (34) = mm (rMod 0) (x1) (z2) := (hk7 _ (by decide)).trans f6_34
        have f7_32 : V7 (32) = vv := (hk7 _ (by decide)).trans fv
        have hK7 : ∀ r, r ≠ p0 → r ≠ p0 + 1 → r ≠ p0 + 2 → (r < 31 ∨ 37 < r) → V7 r = rV σ r := fun r a0 a1 a2 a3 => (hk7 r (by omega)).trans (hK6 r a0 a1 a2 a3)
        have f7_35 : V7 (35) = mm (rMod 0) (vv) (vv) := ht7.trans (by simp only [fv])
        clear f6_8 f6_p0 f6_p0_1 f6_p0_2 f6_q0_2 fu f6_34 fv ht7 hk7 hu6 hok6 hK6 hp
        refine lv_aload_n hx hb d_R_join_146 rfl (lv_at hl 0 rfl) ?_
        refine lv_bipush (v := nI 33) hx hb d_R_join_147 (by decide) ?_
        refine lv_bipush (v := nI 35) hx hb d_R_join_149 (by decide) ?_
        refine lv_bipush (v := nI 34) hx hb d_R_join_151 (by decide) ?_
        refine lv_bipush (v := nI 8) hx hb d_R_join_153 (by decide) ?_
        refine r_callv (np := 4) (As := [.int (nI (33)), .int (nI (35)), .int (nI (34)), .int (nI (8))]) (rest := []) ⟨hx, hb, hml, hown, ht⟩ hw (c_R_multiply l G u7 (hu7.ok hok7) (μ := 0) (by decide) (by decide) (by decide) (by decide) (by decide) (by rw [hu7.V]; exact f7_8)) ⟨km_R_96, kv_R_multiply, kx_R_multiply, kc_R_multiply⟩ (by decide +kernel) ⟨by decide, by decide⟩ rfl rfl rfl hl.1 rfl (by decide) d_R_join_155 ⟨Nat.le_refl _, Nat.le_refl _⟩ (fun u8 H locs hp hw => ?_)
        obtain ⟨V8, hu8, ht8, hk8, hok8⟩ := q_mul (by decide) hu7 hok7 hp
        have f8_8 : V8 (8) = rMod 0 := (hk8 _ (by decide)).trans f7_8
        have f8_p0 : V8 (p0) = x1 := (hk8 _ (by omega)).trans f7_p0
        have f8_p0_1 : V8 (p0 + 1) = y1 := (hk8 _ (by omega)).trans f7_p0_1
        have f8_p0_2 : V8 (p0 + 2) = z1 := (hk8 _ (by omega)).trans f7_p0_2
        have f8_q0_2 : V8 (q0 + 2) = z2 := (hk8 _ (by omega)).trans f7_q0_2
        have f8_31 : V8 (31) = uu := (hk8 _ (by decide)).trans f7_31
        have f8_34 : V8 (34) = mm (rMod 0) (x1) (z2) := (hk8 _ (by decide)).trans f7_34
        have f8_32 : V8 (32) = vv := (hk8 _ (by decide)).trans f7_32
        have f8_35 : V8 (35) = mm (rMod 0) (vv) (vv) := (hk8 _ (by decide)).trans f7_35
        have hK8 : ∀ r, r ≠ p0 → r ≠ p0 + 1 → r ≠ p0 + 2 → (r < 31 ∨ 37 < r) → V8 r = rV σ r := fun r a0 a1 a2 a3 => (hk8 r (by omega)).trans (hK7 r a0 a1 a2 a3)
        have f8_33 : V8 (33) = mm (rMod 0) (mm (rMod 0) (vv) (vv)) (mm (rMod 0) (x1) (z2)) := ht8.trans (by simp only [f7_34, f7_35])
        clear f7_8 f7_p0 f7_p0_1 f7_p0_2 f7_q0_2 f7_31 f7_34 f7_32 f7_35 ht8 hk8 hu7 hok7 hK7 hp
        clear f8_34
        refine lv_aload_n hx hb d_R_join_158 rfl (lv_at hl 0 rfl) ?_
        refine lv_bipush (v := nI 35) hx hb d_R_join_159 (by decide) ?_
        refine lv_bipush (v := nI 35) hx hb d_R_join_161 (by decide) ?_
        refine lv_bipush (v := nI 32) hx hb d_R_join_163 (by decide) ?_
        refine lv_bipush (v := nI 8) hx hb d_R_join_165 (by decide) ?_
        refine r_callv (np := 4) (As := [.int (nI (35)), .int (nI (35)), .int (nI (32)), .int (nI (8))]) (rest := []) ⟨hx, hb, hml, hown, ht⟩ hw (c_R_multiply l G u8 (hu8.ok hok8) (μ := 0) (by decide) (by decide) (by decide) (by decide) (by decide) (by rw [hu8.V]; exact f8_8)) ⟨km_R_96, kv_R_multiply, kx_R_multiply, kc_R_multiply⟩ (by decide +kernel) ⟨by decide, by decide⟩ rfl rfl rfl hl.1 rfl (by decide) d_R_join_167 ⟨Nat.le_refl _, Nat.le_refl _⟩ (fun u9 H locs hp hw => ?_)
        obtain ⟨V9, hu9, ht9, hk9, hok9⟩ := q_mul (by decide) hu8 hok8 hp
        have f9_8 : V9 (8) = rMod 0 := (hk9 _ (by decide)).trans f8_8
        have f9_p0 : V9 (p0) = x1 := (hk9 _ (by omega)).trans f8_p0
        have f9_p0_1 : V9 (p0 + 1) = y1 := (hk9 _ (by omega)).trans f8_p0_1
        have f9_p0_2 : V9 (p0 + 2) = z1 := (hk9 _ (by omega)).trans f8_p0_2
        have f9_q0_2 : V9 (q0 + 2) = z2 := (hk9 _ (by omega)).trans f8_q0_2
        have f9_31 : V9 (31) = uu := (hk9 _ (by decide)).trans f8_31
        have f9_32 : V9 (32) = vv := (hk9 _ (by decide)).trans f8_32
        have f9_33 : V9 (33) = mm (rMod 0) (mm (rMod 0) (vv) (vv)) (mm (rMod 0) (x1) (z2)) := (hk9 _ (by decide)).trans f8_33
        have hK9 : ∀ r, r ≠ p0 → r ≠ p0 + 1 → r ≠ p0 + 2 → (r < 31 ∨ 37 < r) → V9 r = rV σ r := fun r a0 a1 a2 a3 => (hk9 r (by omega)).trans (hK8 r a0 a1 a2 a3)
        have f9_35 : V9 (35) = mm (rMod 0) (mm (rMod 0) (vv) (vv)) (vv) := ht9.trans (by simp only [f8_32, f8_35])
        clear f8_8 f8_p0 f8_p0_1 f8_p0_2 f8_q0_2 f8_31 f8_32 f8_35 f8_33 ht9 hk9 hu8 hok8 hK8 hp
        refine lv_aload_n hx hb d_R_join_170 rfl (lv_at hl 0 rfl) ?_
        refine lv_bipush (v := nI 36) hx hb d_R_join_171 (by decide) ?_
        refine lv_iload_n hx hb d_R_join_173 rfl (lv_at hl 1 rfl) ?_
        refine lv_iconst (v := nI 2) hx hb d_R_join_174 (by decide) ?_
        refine lv_iadd hx hb d_R_join_175 ?_
        refine tp_i (y := nI (p0 + 2)) (nI_add _ _) ?_
        refine lv_iload_n hx hb d_R_join_176 rfl (lv_at hl 2 rfl) ?_
        refine lv_iconst (v := nI 2) hx hb d_R_join_177 (by decide) ?_
        refine lv_iadd hx hb d_R_join_178 ?_
        refine tp_i (y := nI (q0 + 2)) (nI_add _ _) ?_
        refine lv_bipush (v := nI 8) hx hb d_R_join_179 (by decide) ?_
        refine r_callv (np := 4) (As := [.int (nI (36)), .int (nI (p0 + 2)), .int (nI (q0 + 2)), .int (nI (8))]) (rest := []) ⟨hx, hb, hml, hown, ht⟩ hw (c_R_multiply l G u9 (hu9.ok hok9) (μ := 0) (by decide) (by decide) (by omega) (by omega) (by decide) (by rw [hu9.V]; exact f9_8)) ⟨km_R_96, kv_R_multiply, kx_R_multiply, kc_R_multiply⟩ (by decide +kernel) ⟨by decide, by decide⟩ rfl rfl rfl hl.1 rfl (by decide) d_R_join_181 ⟨Nat.le_refl _, Nat.le_refl _⟩ (fun u10 H locs hp hw => ?_)
        obtain ⟨V10, hu10, ht10, hk10, hok10⟩ := q_mul (by decide) hu9 hok9 hp
        have f10_8 : V10 (8) = rMod 0 := (hk10 _ (by decide)).trans f9_8
        have f10_p0 : V10 (p0) = x1 := (hk10 _ (by omega)).trans f9_p0
        have f10_p0_1 : V10 (p0 + 1) = y1 := (hk10 _ (by omega)).trans f9_p0_1
        have f10_p0_2 : V10 (p0 + 2) = z1 := (hk10 _ (by omega)).trans f9_p0_2
        have f10_q0_2 : V10 (q0 + 2) = z2 := (hk10 _ (by omega)).trans f9_q0_2
        have f10_31 : V10 (31) = uu := (hk10 _ (by decide)).trans f9_31
        have f10_32 : V10 (32) = vv := (hk10 _ (by decide)).trans f9_32
        have f10_33 : V10 (33) = mm (rMod 0) (mm (rMod 0) (vv) (vv)) (mm (rMod 0) (x1) (z2)) := (hk10 _ (by decide)).trans f9_33
        have f10_35 : V10 (35) = mm (rMod 0) (mm (rMod 0) (vv) (vv)) (vv) := (hk10 _ (by decide)).trans f9_35
        have hK10 : ∀ r, r ≠ p0 → r ≠ p0 + 1 → r ≠ p0 + 2 → (r < 31 ∨ 37 < r) → V10 r = rV σ r := fun r a0 a1 a2 a3 => (hk10 r (by omega)).trans (hK9 r a0 a1 a2 a3)
        have f10_36 : V10 (36) = mm (rMod 0) (z1) (z2) := ht10.trans (by simp only [f9_p0_2, f9_q0_2])
        clear f9_8 f9_p0 f9_p0_1 f9_p0_2 f9_q0_2 f9_31 f9_32 f9_33 f9_35 ht10 hk10 hu9 hok9 hK9 hp
        refine lv_aload_n hx hb d_R_join_184 rfl (lv_at hl 0 rfl) ?_
        refine lv_bipush (v := nI 34) hx hb d_R_join_185 (by decide) ?_
        refine lv_bipush (v := nI 31) hx hb d_R_join_187 (by decide) ?_
        refine lv_bipush (v := nI 31) hx hb d_R_join_189 (by decide) ?_
        refine lv_bipush (v := nI 8) hx hb d_R_join_191 (by decide) ?_
        refine r_callv (np := 4) (As := [.int (nI (34)), .int (nI (31)), .int (nI (31)), .int (nI (8))]) (rest := []) ⟨hx, hb, hml, hown, ht⟩ hw (c_R_multiply l G u10 (hu10.ok hok10) (μ := 0) (by decide) (by decide) (by decide) (by decide) (by decide) (by rw [hu10.V]; exact f10_8)) ⟨km_R_96, kv_R_multiply, kx_R_multiply, kc_R_multiply⟩ (by decide +kernel) ⟨by decide, by decide⟩ rfl rfl rfl hl.1 rfl (by decide) d_R_join_193 ⟨Nat.le_refl _, Nat.le_refl _⟩ (fun u11 H locs hp hw => ?_)
        obtain ⟨V11, hu11, ht11, hk11, hok11⟩ := q_mul (by decide) hu10 hok10 hp
        have f11_8 : V11 (8) = rMod 0 := (hk11 _ (by decide)).trans f10_8
        have f11_p0 : V11 (p0) = x1 := (hk11 _ (by omega)).trans f10_p0
        have f11_p0_1 : V11 (p0 + 1) = y1 := (hk11 _ (by omega)).trans f10_p0_1
        have f11_p0_2 : V11 (p0 + 2) = z1 := (hk11 _ (by omega)).trans f10_p0_2
        have f11_q0_2 : V11 (q0 + 2) = z2 := (hk11 _ (by omega)).trans f10_q0_2
        have f11_31 : V11 (31) = uu := (hk11 _ (by decide)).trans f10_31
        have f11_32 : V11 (32) = vv := (hk11 _ (by decide)).trans f10_32
        have f11_33 : V11 (33) = mm (rMod 0) (mm (rMod 0) (vv) (vv)) (mm (rMod 0) (x1) (z2)) := (hk11 _ (by decide)).trans f10_33
        have f11_35 : V11 (35) = mm (rMod 0) (mm (rMod 0) (vv) (vv)) (vv) := (hk11 _ (by decide)).trans f10_35
        have f11_36 : V11 (36) = mm (rMod 0) (z1) (z2) := (hk11 _ (by decide)).trans f10_36
        have hK11 : ∀ r, r ≠ p0 → r ≠ p0 + 1 → r ≠ p0 + 2 → (r < 31 ∨ 37 < r) → V11 r = rV σ r := fun r a0 a1 a2 a3 => (hk11 r (by omega)).trans (hK10 r a0 a1 a2 a3)
        have f11_34 : V11 (34) = mm (rMod 0) (uu) (uu) := ht11.trans (by simp only [f10_31])
        clear f10_8 f10_p0 f10_p0_1 f10_p0_2 f10_q0_2 f10_31 f10_32 f10_33 f10_35 f10_36 ht11 hk11 hu10 hok10 hK10 hp
        refine lv_aload_n hx hb d_R_join_196 rfl (lv_at hl 0 rfl) ?_
        refine lv_bipush (v := nI 34) hx hb d_R_join_197 (by decide) ?_
        refine lv_bipush (v := nI 34) hx hb d_R_join_199 (by decide) ?_
        refine lv_bipush (v := nI 36) hx hb d_R_join_201 (by decide) ?_
        refine lv_bipush (v := nI 8) hx hb d_R_join_203 (by decide) ?_
        refine r_callv (np := 4) (As := [.int (nI (34)), .int (nI (34)), .int (nI (36)), .int (nI (8))]) (rest := []) ⟨hx, hb, hml, hown, ht⟩ hw (c_R_multiply l G u11 (hu11.ok hok11) (μ := 0) (by decide) (by decide) (by decide) (by decide) (by decide) (by rw [hu11.V]; exact f11_8)) ⟨km_R_96, kv_R_multiply, kx_R_multiply, kc_R_multiply⟩ (by decide +kernel) ⟨by decide, by decide⟩ rfl rfl rfl hl.1 rfl (by decide) d_R_join_205 ⟨Nat.le_refl _, Nat.le_refl _⟩ (fun u12 H locs hp hw => ?_)
        obtain ⟨V12, hu12, ht12, hk12, hok12⟩ := q_mul (by decide) hu11 hok11 hp
        have f12_8 : V12 (8) = rMod 0 := (hk12 _ (by decide)).trans f11_8
        have f12_p0 : V12 (p0) = x1 := (hk12 _ (by omega)).trans f11_p0
        have f12_p0_1 : V12 (p0 + 1) = y1 := (hk12 _ (by omega)).trans f11_p0_1
        have f12_p0_2 : V12 (p0 + 2) = z1 := (hk12 _ (by omega)).trans f11_p0_2
        have f12_q0_2 : V12 (q0 + 2) = z2 := (hk12 _ (by omega)).trans f11_q0_2
        have f12_31 : V12 (31) = uu := (hk12 _ (by decide)).trans f11_31
        have f12_32 : V12 (32) = vv := (hk12 _ (by decide)).trans f11_32
        have f12_33 : V12 (33) = mm (rMod 0) (mm (rMod 0) (vv) (vv)) (mm (rMod 0) (x1) (z2)) := (hk12 _ (by decide)).trans f11_33
        have f12_35 : V12 (35) = mm (rMod 0) (mm (rMod 0) (vv) (vv)) (vv) := (hk12 _ (by decide)).trans f11_35
        have f12_36 : V12 (36) = mm (rMod 0) (z1) (z2) := (hk12 _ (by decide)).trans f11_36
        have hK12 : ∀ r, r ≠ p0 → r ≠ p0 + 1 → r ≠ p0 + 2 → (r < 31 ∨ 37 < r) → V12 r = rV σ r := fun r a0 a1 a2 a3 => (hk12 r (by omega)).trans (hK11 r a0 a1 a2 a3)
        have f12_34 : V12 (34) = mm (rMod 0) (mm (rMod 0) (uu) (uu)) (mm (rMod 0) (z1) (z2)) := ht12.trans (by simp only [f11_34, f11_36])
        clear f11_8 f11_p0 f11_p0_1 f11_p0_2 f11_q0_2 f11_31 f11_32 f11_33 f11_35 f11_36 f11_34 ht12 hk12 hu11 hok11 hK11 hp
        refine lv_aload_n hx hb d_R_join_208 rfl (lv_at hl 0 rfl) ?_
        refine lv_bipush (v := nI 34) hx hb d_R_join_209 (by decide) ?_
        refine lv_bipush (v := nI 34) hx hb d_R_join_211 (by decide) ?_
        refine lv_bipush (v := nI 35) hx hb d_R_join_213 (by decide) ?_
        refine lv_bipush (v := nI 8) hx hb d_R_join_215 (by decide) ?_
        refine r_callv (np := 4) (As := [.int (nI (34)), .int (nI (34)), .int (nI (35)), .int (nI (8))]) (rest := []) ⟨hx, hb, hml, hown, ht⟩ hw (c_R_minus l G u12 (hu12.ok hok12) (by decide) (by decide) (by decide) (by decide) (by decide) (by decide) (by decide) (by rw [hu12.V, f12_8]; exact rMod_le (by decide)) (by rw [hu12.V, f12_34, f12_8]; exact mm_lt (rMod_pos (by decide))) (by rw [hu12.V, f12_35, f12_8]; exact mm_lt (rMod_pos (by decide)))) ⟨km_R_112, kv_R_minus, kx_R_minus, kc_R_minus⟩ (by decide +kernel) ⟨by decide, by decide⟩ rfl rfl rfl hl.1 rfl (by decide) d_R_join_217 ⟨Nat.le_refl _, Nat.le_refl _⟩ (fun u13 H locs hp hw => ?_)
        obtain ⟨V13, hu13, ht13, hk13, hok13⟩ := q_minus hu12 hok12 (by rw [f12_8]; exact rMod_pos (by decide)) (by rw [f12_8]; exact rMod_le (by decide)) hp
        have f13_8 : V13 (8) = rMod 0 := (hk13 _ (by decide) (by decide)).trans f12_8
        have f13_p0 : V13 (p0) = x1 := (hk13 _ (by omega) (by omega)).trans f12_p0
        have f13_p0_1 : V13 (p0 + 1) = y1 := (hk13 _ (by omega) (by omega)).trans f12_p0_1
        have f13_p0_2 : V13 (p0 + 2) = z1 := (hk13 _ (by omega) (by omega)).trans f12_p0_2
        have f13_q0_2 : V13 (q0 + 2) = z2 := (hk13 _ (by omega) (by omega)).trans f12_q0_2
        have f13_31 : V13 (31) = uu := (hk13 _ (by decide) (by decide)).trans f12_31
        have f13_32 : V13 (32) = vv := (hk13 _ (by decide) (by decide)).trans f12_32
        have f13_33 : V13 (33) = mm (rMod 0) (mm (rMod 0) (vv) (vv)) (mm (rMod 0) (x1) (z2)) := (hk13 _ (by decide) (by decide)).trans f12_33
        have f13_35 : V13 (35) = mm (rMod 0) (mm (rMod 0) (vv) (vv)) (vv) := (hk13 _ (by decide) (by decide)).trans f12_35
        have f13_36 : V13 (36) = mm (rMod 0) (z1) (z2) := (hk13 _ (by decide) (by decide)).trans f12_36
        have hK13 : ∀ r, r ≠ p0 → r ≠ p0 + 1 → r ≠ p0 + 2 → (r < 31 ∨ 37 < r) → V13 r = rV σ r := fun r a0 a1 a2 a3 => (hk13 r (by omega) (by omega)).trans (hK12 r a0 a1 a2 a3)
        have f13_34 : V13 (34) = ss (rMod 0) (mm (rMod 0) (mm (rMod 0) (uu) (uu)) (mm (rMod 0) (z1) (z2))) (mm (rMod 0) (mm (rMod 0) (vv) (vv)) (vv)) := ht13.trans (by simp only [f12_34, f12_35, f12_8])
        clear f12_8 f12_p0 f12_p0_1 f12_p0_2 f12_q0_2 f12_31 f12_32 f12_33 f12_35 f12_36 f12_34 ht13 hk13 hu12 hok12 hK12 hp
        refine lv_aload_n hx hb d_R_join_220 rfl (lv_at hl 0 rfl) ?_
        refine lv_bipush (v := nI 34) hx hb d_R_join_221 (by decide) ?_
        refine lv_bipush (v := nI 34) hx hb d_R_join_223 (by decide) ?_
        refine lv_bipush (v := nI 33) hx hb d_R_join_225 (by decide) ?_
        refine lv_bipush (v := nI 8) hx hb d_R_join_227 (by decide) ?_
        refine r_callv (np := 4) (As := [.int (nI (34)), .int (nI (34)), .int (nI (33)), .int (nI (8))]) (rest := []) ⟨hx, hb, hml, hown, ht⟩ hw (c_R_minus l G u13 (hu13.ok hok13) (by decide) (by decide) (by decide) (by decide) (by decide) (by decide) (by decide) (by rw [hu13.V, f13_8]; exact rMod_le (by decide)) (by rw [hu13.V, f13_34, f13_8]; exact ss_lt (rMod_pos (by decide))) (by rw [hu13.V, f13_33, f13_8]; exact mm_lt (rMod_pos (by decide)))) ⟨km_R_112, kv_R_minus, kx_R_minus, kc_R_minus⟩ (by decide +kernel) ⟨by decide, by decide⟩ rfl rfl rfl hl.1 rfl (by decide) d_R_join_229 ⟨Nat.le_refl _, Nat.le_refl _⟩ (fun u14 H locs hp hw => ?_)
        obtain ⟨V14, hu14, ht14, hk14, hok14⟩ := q_minus hu13 hok13 (by rw [f13_8]; exact rMod_pos (by decide)) (by rw [f13_8]; exact rMod_le (by decide)) hp
        have f14_8 : V14 (8) = rMod 0 := (hk14 _ (by decide) (by decide)).trans f13_8
        have f14_p0 : V14 (p0) = x1 := (hk14 _ (by omega) (by omega)).trans f13_p0
        have f14_p0_1 : V14 (p0 + 1) = y1 := (hk14 _ (by omega) (by omega)).trans f13_p0_1
        have f14_p0_2 : V14 (p0 + 2) = z1 := (hk14 _ (by omega) (by omega)).trans f13_p0_2
        have f14_q0_2 : V14 (q0 + 2) = z2 := (hk14 _ (by omega) (by omega)).trans f13_q0_2
        have f14_31 : V14 (31) = uu := (hk14 _ (by decide) (by decide)).trans f13_31
        have f14_32 : V14 (32) = vv := (hk14 _ (by decide) (by decide)).trans f13_32
        have f14_33 : V14 (33) = mm (rMod 0) (mm (rMod 0) (vv) (vv)) (mm (rMod 0) (x1) (z2)) := (hk14 _ (by decide) (by decide)).trans f13_33
        have f14_35 : V14 (35) = mm (rMod 0) (mm (rMod 0) (vv) (vv)) (vv) := (hk14 _ (by decide) (by decide)).trans f13_35
        have f14_36 : V14 (36) = mm (rMod 0) (z1) (z2) := (hk14 _ (by decide) (by decide)).trans f13_36
        have hK14 : ∀ r, r ≠ p0 → r ≠ p0 + 1 → r ≠ p0 + 2 → (r < 31 ∨ 37 < r) → V14 r = rV σ r := fun r a0 a1 a2 a3 => (hk14 r (by omega) (by omega)).trans (hK13 r a0 a1 a2 a3)
        have f14_34 : V14 (34) = ss (rMod 0) (ss (rMod 0) (mm (rMod 0) (mm (rMod 0) (uu) (uu)) (mm (rMod 0) (z1) (z2))) (mm (rMod 0) (mm (rMod 0) (vv) (vv)) (vv))) (mm (rMod 0) (mm (rMod 0) (vv) (vv)) (mm (rMod 0) (x1) (z2))) := ht14.trans (by simp only [f13_33, f13_34, f13_8])
        clear f13_8 f13_p0 f13_p0_1 f13_p0_2 f13_q0_2 f13_31 f13_32 f13_33 f13_35 f13_36 f13_34 ht14 hk14 hu13 hok13 hK13 hp
        refine lv_aload_n hx hb d_R_join_232 rfl (lv_at hl 0 rfl) ?_
        refine lv_bipush (v := nI 34) hx hb d_R_join_233 (by decide) ?_
        refine lv_bipush (v := nI 34) hx hb d_R_join_235 (by decide) ?_
        refine lv_bipush (v := nI 33) hx hb d_R_join_237 (by decide) ?_
        refine lv_bipush (v := nI 8) hx hb d_R_join_239 (by decide) ?_
        refine r_callv (np := 4) (As := [.int (nI (34)), .int (nI (34)), .int (nI (33)), .int (nI (8))]) (rest := []) ⟨hx, hb, hml, hown, ht⟩ hw (c_R_minus l G u14 (hu14.ok hok14) (by decide) (by decide) (by decide) (by decide) (by decide) (by decide) (by decide) (by rw [hu14.V, f14_8]; exact rMod_le (by decide)) (by rw [hu14.V, f14_34, f14_8]; exact ss_lt (rMod_pos (by decide))) (by rw [hu14.V, f14_33, f14_8]; exact mm_lt (rMod_pos (by decide)))) ⟨km_R_112, kv_R_minus, kx_R_minus, kc_R_minus⟩ (by decide +kernel) ⟨by decide, by decide⟩ rfl rfl rfl hl.1 rfl (by decide) d_R_join_241 ⟨Nat.le_refl _, Nat.le_refl _⟩ (fun u15 H locs hp hw => ?_)
        obtain ⟨V15, hu15, ht15, hk15, hok15⟩ := q_minus hu14 hok14 (by rw [f14_8]; exact rMod_pos (by decide)) (by rw [f14_8]; exact rMod_le (by decide)) hp
        have f15_8 : V15 (8) = rMod 0 := (hk15 _ (by decide) (by decide)).trans f14_8
        have f15_p0 : V15 (p0) = x1 := (hk15 _ (by omega) (by omega)).trans f14_p0
        have f15_p0_1 : V15 (p0 + 1) = y1 := (hk15 _ (by omega) (by omega)).trans f14_p0_1
        have f15_p0_2 : V15 (p0 + 2) = z1 := (hk15 _ (by omega) (by omega)).trans f14_p0_2
        have f15_q0_2 : V15 (q0 + 2) = z2 := (hk15 _ (by omega) (by omega)).trans f14_q0_2
        have f15_31 : V15 (31) = uu := (hk15 _ (by decide) (by decide)).trans f14_31
        have f15_32 : V15 (32) = vv := (hk15 _ (by decide) (by decide)).trans f14_32
        have f15_33 : V15 (33) = mm (rMod 0) (mm (rMod 0) (vv) (vv)) (mm (rMod 0) (x1) (z2)) := (hk15 _ (by decide) (by decide)).trans f14_33
        have f15_35 : V15 (35) = mm (rMod 0) (mm (rMod 0) (vv) (vv)) (vv) := (hk15 _ (by decide) (by decide)).trans f14_35
        have f15_36 : V15 (36) = mm (rMod 0) (z1) (z2) := (hk15 _ (by decide) (by decide)).trans f14_36
        have hK15 : ∀ r, r ≠ p0 → r ≠ p0 + 1 → r ≠ p0 + 2 → (r < 31 ∨ 37 < r) → V15 r = rV σ r := fun r a0 a1 a2 a3 => (hk15 r (by omega) (by omega)).trans (hK14 r a0 a1 a2 a3)
        have f15_34 : V15 (34) = ss (rMod 0) (ss (rMod 0) (ss (rMod 0) (mm (rMod 0) (mm (rMod 0) (uu) (uu)) (mm (rMod 0) (z1) (z2))) (mm (rMod 0) (mm (rMod 0) (vv) (vv)) (vv))) (mm (rMod 0) (mm (rMod 0) (vv) (vv)) (mm (rMod 0) (x1) (z2)))) (mm (rMod 0) (mm (rMod 0) (vv) (vv)) (mm (rMod 0) (x1) (z2))) := ht15.trans (by simp only [f14_33, f14_34, f14_8])
        clear f14_8 f14_p0 f14_p0_1 f14_p0_2 f14_q0_2 f14_31 f14_32 f14_33 f14_35 f14_36 f14_34 ht15 hk15 hu14 hok14 hK14 hp
        have f15_34n : V15 (34) = jXX (rMod 0) uu vv (mm (rMod 0) x1 z2) (mm (rMod 0) z1 z2) := f15_34
        clear f15_34
        refine lv_aload_n hx hb d_R_join_244 rfl (lv_at hl 0 rfl) ?_
        refine lv_bipush (v := nI 33) hx hb d_R_join_245 (by decide) ?_
        refine lv_bipush (v := nI 33) hx hb d_R_join_247 (by decide) ?_
        refine lv_bipush (v := nI 34) hx hb d_R_join_249 (by decide) ?_
        refine lv_bipush (v := nI 8) hx hb d_R_join_251 (by decide) ?_
        refine r_callv (np := 4) (As := [.int (nI (33)), .int (nI (33)), .int (nI (34)), .int (nI (8))]) (rest := []) ⟨hx, hb, hml, hown, ht⟩ hw (c_R_minus l G u15 (hu15.ok hok15) (by decide) (by decide) (by decide) (by decide) (by decide) (by decide) (by decide) (by rw [hu15.V, f15_8]; exact rMod_le (by decide)) (by rw [hu15.V, f15_33, f15_8]; exact mm_lt (rMod_pos (by decide))) (by rw [hu15.V, f15_34n, f15_8]; exact ss_lt (rMod_pos (by decide)))) ⟨km_R_112, kv_R_minus, kx_R_minus, kc_R_minus⟩ (by decide +kernel) ⟨by decide, by decide⟩ rfl rfl rfl hl.1 rfl (by decide) d_R_join_253 ⟨Nat.le_refl _, Nat.le_refl _⟩ (fun u16 H locs hp hw => ?_)
        obtain ⟨V16, hu16, ht16, hk16, hok16⟩ := q_minus hu15 hok15 (by rw [f15_8]; exact rMod_pos (by decide)) (by rw [f15_8]; exact rMod_le (by decide)) hp
        have f16_8 : V16 (8) = rMod 0 := (hk16 _ (by decide) (by decide)).trans f15_8
        have f16_p0 : V16 (p0) = x1 := (hk16 _ (by omega) (by omega)).trans f15_p0
        have f16_p0_1 : V16 (p0 + 1) = y1 := (hk16 _ (by omega) (by omega)).trans f15_p0_1
        have f16_p0_2 : V16 (p0 + 2) = z1 := (hk16 _ (by omega) (by omega)).trans f15_p0_2
        have f16_q0_2 : V16 (q0 + 2) = z2 := (hk16 _ (by omega) (by omega)).trans f15_q0_2
        have f16_31 : V16 (31) = uu := (hk16 _ (by decide) (by decide)).trans f15_31
        have f16_32 : V16 (32) = vv := (hk16 _ (by decide) (by decide)).trans f15_32
        have f16_35 : V16 (35) = mm (rMod 0) (mm (rMod 0) (vv) (vv)) (vv) := (hk16 _ (by decide) (by decide)).trans f15_35
        have f16_36 : V16 (36) = mm (rMod 0) (z1) (z2) := (hk16 _ (by decide) (by decide)).trans f15_36
        have f16_34 : V16 (34) = jXX (rMod 0) uu vv (mm (rMod 0) x1 z2) (mm (rMod 0) z1 z2) := (hk16 _ (by decide) (by decide)).trans f15_34n
        have hK16 : ∀ r, r ≠ p0 → r ≠ p0 + 1 → r ≠ p0 + 2 → (r < 31 ∨ 37 < r) → V16 r = rV σ r := fun r a0 a1 a2 a3 => (hk16 r (by omega) (by omega)).trans (hK15 r a0 a1 a2 a3)
        have f16_33 : V16 (33) = ss (rMod 0) (mm (rMod 0) (mm (rMod 0) (vv) (vv)) (mm (rMod 0) (x1) (z2))) (jXX (rMod 0) uu vv (mm (rMod 0) x1 z2) (mm (rMod 0) z1 z2)) := ht16.trans (by simp only [f15_33, f15_34n, f15_8])
        clear f15_8 f15_p0 f15_p0_1 f15_p0_2 f15_q0_2 f15_31 f15_32 f15_33 f15_35 f15_36 f15_34n ht16 hk16 hu15 hok15 hK15 hp
        refine lv_aload_n hx hb d_R_join_256 rfl (lv_at hl 0 rfl) ?_
        refine lv_bipush (v := nI 33) hx hb d_R_join_257 (by decide) ?_
        refine lv_bipush (v := nI 31) hx hb d_R_join_259 (by decide) ?_
        refine lv_bipush (v := nI 33) hx hb d_R_join_261 (by decide) ?_
        refine lv_bipush (v := nI 8) hx hb d_R_join_263 (by decide) ?_
        refine r_callv (np := 4) (As := [.int (nI (33)), .int (nI (31)), .int (nI (33)), .int (nI (8))]) (rest := []) ⟨hx, hb, hml, hown, ht⟩ hw (c_R_multiply l G u16 (hu16.ok hok16) (μ := 0) (by decide) (by decide) (by decide) (by decide) (by decide) (by rw [hu16.V]; exact f16_8)) ⟨km_R_96, kv_R_multiply, kx_R_multiply, kc_R_multiply⟩ (by decide +kernel) ⟨by decide, by decide⟩ rfl rfl rfl hl.1 rfl (by decide) d_R_join_265 ⟨Nat.le_refl _, Nat.le_refl _⟩ (fun u17 H locs hp hw => ?_)
        obtain ⟨V17, hu17, ht17, hk17, hok17⟩ := q_mul (by decide) hu16 hok16 hp
        have f17_8 : V17 (8) = rMod 0 := (hk17 _ (by decide)).trans f16_8
        have f17_p0 : V17 (p0) = x1 := (hk17 _ (by omega)).trans f16_p0
        have f17_p0_1 : V17 (p0 + 1) = y1 := (hk17 _ (by omega)).trans f16_p0_1
        have f17_p0_2 : V17 (p0 + 2) = z1 := (hk17 _ (by omega)).trans f16_p0_2
        have f17_q0_2 : V17 (q0 + 2) = z2 := (hk17 _ (by omega)).trans f16_q0_2
        have f17_31 : V17 (31) = uu := (hk17 _ (by decide)).trans f16_31
        have f17_32 : V17 (32) = vv := (hk17 _ (by decide)).trans f16_32
        have f17_35 : V17 (35) = mm (rMod 0) (mm (rMod 0) (vv) (vv)) (vv) := (hk17 _ (by decide)).trans f16_35
        have f17_36 : V17 (36) = mm (rMod 0) (z1) (z2) := (hk17 _ (by decide)).trans f16_36
        have f17_34 : V17 (34) = jXX (rMod 0) uu vv (mm (rMod 0) x1 z2) (mm (rMod 0) z1 z2) := (hk17 _ (by decide)).trans f16_34
        have hK17 : ∀ r, r ≠ p0 → r ≠ p0 + 1 → r ≠ p0 + 2 → (r < 31 ∨ 37 < r) → V17 r = rV σ r := fun r a0 a1 a2 a3 => (hk17 r (by omega)).trans (hK16 r a0 a1 a2 a3)
        have f17_33 : V17 (33) = mm (rMod 0) (uu) (ss (rMod 0) (mm (rMod 0) (mm (rMod 0) (vv) (vv)) (mm (rMod 0) (x1) (z2))) (jXX (rMod 0) uu vv (mm (rMod 0) x1 z2) (mm (rMod 0) z1 z2))) := ht17.trans (by simp only [f16_31, f16_33])
        clear f16_8 f16_p0 f16_p0_1 f16_p0_2 f16_q0_2 f16_31 f16_32 f16_35 f16_36 f16_34 f16_33 ht17 hk17 hu16 hok16 hK16 hp
        refine lv_aload_n hx hb d_R_join_268 rfl (lv_at hl 0 rfl) ?_
        refine lv_bipush (v := nI 31) hx hb d_R_join_269 (by decide) ?_
        refine lv_iload_n hx hb d_R_join_271 rfl (lv_at hl 1 rfl) ?_
        refine lv_iconst (v := nI 1) hx hb d_R_join_272 (by decide) ?_
        refine lv_iadd hx hb d_R_join_273 ?_
        refine tp_i (y := nI (p0 + 1)) (nI_add _ _) ?_
        refine lv_iload_n hx hb d_R_join_274 rfl (lv_at hl 2 rfl) ?_
        refine lv_iconst (v := nI 2) hx hb d_R_join_275 (by decide) ?_
        refine lv_iadd hx hb d_R_join_276 ?_
        refine tp_i (y := nI (q0 + 2)) (nI_add _ _) ?_
        refine lv_bipush (v := nI 8) hx hb d_R_join_277 (by decide) ?_
        refine r_callv (np := 4) (As := [.int (nI (31)), .int (nI (p0 + 1)), .int (nI (q0 + 2)), .int (nI (8))]) (rest := []) ⟨hx, hb, hml, hown, ht⟩ hw (c_R_multiply l G u17 (hu17.ok hok17) (μ := 0) (by decide) (by decide) (by omega) (by omega) (by decide) (by rw [hu17.V]; exact f17_8)) ⟨km_R_96, kv_R_multiply, kx_R_multiply, kc_R_multiply⟩ (by decide +kernel) ⟨by decide, by decide⟩ rfl rfl rfl hl.1 rfl (by decide) d_R_join_279 ⟨Nat.le_refl _, Nat.le_refl _⟩ (fun u18 H locs hp hw => ?_)
        obtain ⟨V18, hu18, ht18, hk18, hok18⟩ := q_mul (by decide) hu17 hok17 hp
        have f18_8 : V18 (8) = rMod 0 := (hk18 _ (by decide)).trans f17_8
        have f18_p0 : V18 (p0) = x1 := (hk18 _ (by omega)).trans f17_p0
        have f18_p0_1 : V18 (p0 + 1) = y1 := (hk18 _ (by omega)).trans f17_p0_1
        have f18_p0_2 : V18 (p0 + 2) = z1 := (hk18 _ (by omega)).trans f17_p0_2
        have f18_q0_2 : V18 (q0 + 2) = z2 := (hk18 _ (by omega)).trans f17_q0_2
        have f18_32 : V18 (32) = vv := (hk18 _ (by decide)).trans f17_32
        have f18_35 : V18 (35) = mm (rMod 0) (mm (rMod 0) (vv) (vv)) (vv) := (hk18 _ (by decide)).trans f17_35
        have f18_36 : V18 (36) = mm (rMod 0) (z1) (z2) := (hk18 _ (by decide)).trans f17_36
        have f18_34 : V18 (34) = jXX (rMod 0) uu vv (mm (rMod 0) x1 z2) (mm (rMod 0) z1 z2) := (hk18 _ (by decide)).trans f17_34
        have f18_33 : V18 (33) = mm (rMod 0) (uu) (ss (rMod 0) (mm (rMod 0) (mm (rMod 0) (vv) (vv)) (mm (rMod 0) (x1) (z2))) (jXX (rMod 0) uu vv (mm (rMod 0) x1 z2) (mm (rMod 0) z1 z2))) := (hk18 _ (by decide)).trans f17_33
        have hK18 : ∀ r, r ≠ p0 → r ≠ p0 + 1 → r ≠ p0 + 2 → (r < 31 ∨ 37 < r) → V18 r = rV σ r := fun r a0 a1 a2 a3 => (hk18 r (by omega)).trans (hK17 r a0 a1 a2 a3)
        have f18_31 : V18 (31) = mm (rMod 0) (y1) (z2) := ht18.trans (by simp only [f17_p0_1, f17_q0_2])
        clear f17_8 f17_p0 f17_p0_1 f17_p0_2 f17_q0_2 f17_31 f17_32 f17_35 f17_36 f17_34 f17_33 ht18 hk18 hu17 hok17 hK17 hp
        clear f18_q0_2
        refine lv_aload_n hx hb d_R_join_282 rfl (lv_at hl 0 rfl) ?_
        refine lv_bipush (v := nI 31) hx hb d_R_join_283 (by decide) ?_
        refine lv_bipush (v := nI 31) hx hb d_R_join_285 (by decide) ?_
        refine lv_bipush (v := nI 35) hx hb d_R_join_287 (by decide) ?_
        refine lv_bipush (v := nI 8) hx hb d_R_join_289 (by decide) ?_
        refine r_callv (np := 4) (As := [.int (nI (31)), .int (nI (31)), .int (nI (35)), .int (nI (8))]) (rest := []) ⟨hx, hb, hml, hown, ht⟩ hw (c_R_multiply l G u18 (hu18.ok hok18) (μ := 0) (by decide) (by decide) (by decide) (by decide) (by decide) (by rw [hu18.V]; exact f18_8)) ⟨km_R_96, kv_R_multiply, kx_R_multiply, kc_R_multiply⟩ (by decide +kernel) ⟨by decide, by decide⟩ rfl rfl rfl hl.1 rfl (by decide) d_R_join_291 ⟨Nat.le_refl _, Nat.le_refl _⟩ (fun u19 H locs hp hw => ?_)
        obtain ⟨V19, hu19, ht19, hk19, hok19⟩ := q_mul (by decide) hu18 hok18 hp
        have f19_8 : V19 (8) = rMod 0 := (hk19 _ (by decide)).trans f18_8
        have f19_p0 : V19 (p0) = x1 := (hk19 _ (by omega)).trans f18_p0
        have f19_p0_1 : V19 (p0 + 1) = y1 := (hk19 _ (by omega)).trans f18_p0_1
        have f19_p0_2 : V19 (p0 + 2) = z1 := (hk19 _ (by omega)).trans f18_p0_2
        have f19_32 : V19 (32) = vv := (hk19 _ (by decide)).trans f18_32
        have f19_35 : V19 (35) = mm (rMod 0) (mm (rMod 0) (vv) (vv)) (vv) := (hk19 _ (by decide)).trans f18_35
        have f19_36 : V19 (36) = mm (rMod 0) (z1) (z2) := (hk19 _ (by decide)).trans f18_36
        have f19_34 : V19 (34) = jXX (rMod 0) uu vv (mm (rMod 0) x1 z2) (mm (rMod 0) z1 z2) := (hk19 _ (by decide)).trans f18_34
        have f19_33 : V19 (33) = mm (rMod 0) (uu) (ss (rMod 0) (mm (rMod 0) (mm (rMod 0) (vv) (vv)) (mm (rMod 0) (x1) (z2))) (jXX (rMod 0) uu vv (mm (rMod 0) x1 z2) (mm (rMod 0) z1 z2))) := (hk19 _ (by decide)).trans f18_33
        have hK19 : ∀ r, r ≠ p0 → r ≠ p0 + 1 → r ≠ p0 + 2 → (r < 31 ∨ 37 < r) → V19 r = rV σ r := fun r a0 a1 a2 a3 => (hk19 r (by omega)).trans (hK18 r a0 a1 a2 a3)
        have f19_31 : V19 (31) = mm (rMod 0) (mm (rMod 0) (y1) (z2)) (mm (rMod 0) (mm (rMod 0) (vv) (vv)) (vv)) := ht19.trans (by simp only [f18_31, f18_35])
        clear f18_8 f18_p0 f18_p0_1 f18_p0_2 f18_32 f18_35 f18_36 f18_34 f18_33 f18_31 ht19 hk19 hu18 hok18 hK18 hp
        refine lv_aload_n hx hb d_R_join_294 rfl (lv_at hl 0 rfl) ?_
        refine lv_iload_n hx hb d_R_join_295 rfl (lv_at hl 1 rfl) ?_
        refine lv_iconst (v := nI 1) hx hb d_R_join_296 (by decide) ?_
        refine lv_iadd hx hb d_R_join_297 ?_
        refine tp_i (y := nI (p0 + 1)) (nI_add _ _) ?_
        refine lv_bipush (v := nI 33) hx hb d_R_join_298 (by decide) ?_
        refine lv_bipush (v := nI 31) hx hb d_R_join_300 (by decide) ?_
        refine lv_bipush (v := nI 8) hx hb d_R_join_302 (by decide) ?_
        refine r_callv (np := 4) (As := [.int (nI (p0 + 1)), .int (nI (33)), .int (nI (31)), .int (nI (8))]) (rest := []) ⟨hx, hb, hml, hown, ht⟩ hw (c_R_minus l G u19 (hu19.ok hok19) (by omega) (by omega) (by decide) (by decide) (by decide) (by decide) (by decide) (by rw [hu19.V, f19_8]; exact rMod_le (by decide)) (by rw [hu19.V, f19_33, f19_8]; exact mm_lt (rMod_pos (by decide))) (by rw [hu19.V, f19_31, f19_8]; exact mm_lt (rMod_pos (by decide)))) ⟨km_R_112, kv_R_minus, kx_R_minus, kc_R_minus⟩ (by decide +kernel) ⟨by decide, by decide⟩ rfl rfl rfl hl.1 rfl (by decide) d_R_join_304 ⟨Nat.le_refl _, Nat.le_refl _⟩ (fun u20 H locs hp hw => ?_)
        obtain ⟨V20, hu20, ht20, hk20, hok20⟩ := q_minus hu19 hok19 (by rw [f19_8]; exact rMod_pos (by decide)) (by rw [f19_8]; exact rMod_le (by decide)) hp
        have f20_8 : V20 (8) = rMod 0 := (hk20 _ (by omega) (by decide)).trans f19_8
        have f20_p0 : V20 (p0) = x1 := (hk20 _ (by omega) (by omega)).trans f19_p0
        have f20_p0_2 : V20 (p0 + 2) = z1 := (hk20 _ (by omega) (by omega)).trans f19_p0_2
        have f20_32 : V20 (32) = vv := (hk20 _ (by omega) (by decide)).trans f19_32
        have f20_35 : V20 (35) = mm (rMod 0) (mm (rMod 0) (vv) (vv)) (vv) := (hk20 _ (by omega) (by decide)).trans f19_35
        have f20_36 : V20 (36) = mm (rMod 0) (z1) (z2) := (hk20 _ (by omega) (by decide)).trans f19_36
        have f20_34 : V20 (34) = jXX (rMod 0) uu vv (mm (rMod 0) x1 z2) (mm (rMod 0) z1 z2) := (hk20 _ (by omega) (by decide)).trans f19_34
        have f20_33 : V20 (33) = mm (rMod 0) (uu) (ss (rMod 0) (mm (rMod 0) (mm (rMod 0) (vv) (vv)) (mm (rMod 0) (x1) (z2))) (jXX (rMod 0) uu vv (mm (rMod 0) x1 z2) (mm (rMod 0) z1 z2))) := (hk20 _ (by omega) (by decide)).trans f19_33
        have f20_31 : V20 (31) = mm (rMod 0) (mm (rMod 0) (y1) (z2)) (mm (rMod 0) (mm (rMod 0) (vv) (vv)) (vv)) := (hk20 _ (by omega) (by decide)).trans f19_31
        have hK20 : ∀ r, r ≠ p0 → r ≠ p0 + 1 → r ≠ p0 + 2 → (r < 31 ∨ 37 < r) → V20 r = rV σ r := fun r a0 a1 a2 a3 => (hk20 r (by omega) (by omega)).trans (hK19 r a0 a1 a2 a3)
        have f20_p0_1 : V20 (p0 + 1) = ss (rMod 0) (mm (rMod 0) (uu) (ss (rMod 0) (mm (rMod 0) (mm (rMod 0) (vv) (vv)) (mm (rMod 0) (x1) (z2))) (jXX (rMod 0) uu vv (mm (rMod 0) x1 z2) (mm (rMod 0) z1 z2)))) (mm (rMod 0) (mm (rMod 0) (y1) (z2)) (mm (rMod 0) (mm (rMod 0) (vv) (vv)) (vv))) := ht20.trans (by simp only [f19_31, f19_33, f19_8])
        clear f19_8 f19_p0 f19_p0_1 f19_p0_2 f19_32 f19_35 f19_36 f19_34 f19_33 f19_31 ht20 hk20 hu19 hok19 hK19 hp
        have f20_p0_1n : V20 (p0 + 1) = jYY (rMod 0) uu vv (mm (rMod 0) x1 z2) (mm (rMod 0) z1 z2) (mm (rMod 0) y1 z2) := f20_p0_1
        clear f20_p0_1
        clear f20_33
        clear f20_31
        refine lv_aload_n hx hb d_R_join_307 rfl (lv_at hl 0 rfl) ?_
        refine lv_iload_n hx hb d_R_join_308 rfl (lv_at hl 1 rfl) ?_
        refine lv_bipush (v := nI 32) hx hb d_R_join_309 (by decide) ?_
        refine lv_bipush (v := nI 34) hx hb d_R_join_311 (by decide) ?_
        refine lv_bipush (v := nI 8) hx hb d_R_join_313 (by decide) ?_
        refine r_callv (np := 4) (As := [.int (nI (p0)), .int (nI (32)), .int (nI (34)), .int (nI (8))]) (rest := []) ⟨hx, hb, hml, hown, ht⟩ hw (c_R_multiply l G u20 (hu20.ok hok20) (μ := 0) (by decide) (by omega) (by decide) (by decide) (by omega) (by rw [hu20.V]; exact f20_8)) ⟨km_R_96, kv_R_multiply, kx_R_multiply, kc_R_multiply⟩ (by decide +kernel) ⟨by decide, by decide⟩ rfl rfl rfl hl.1 rfl (by decide) d_R_join_315 ⟨Nat.le_refl _, Nat.le_refl _⟩ (fun u21 H locs hp hw => ?_)
        obtain ⟨V21, hu21, ht21, hk21, hok21⟩ := q_mul (by decide) hu20 hok20 hp
        have f21_8 : V21 (8) = rMod 0 := (hk21 _ (by omega)).trans f20_8
        have f21_p0_2 : V21 (p0 + 2) = z1 := (hk21 _ (by omega)).trans f20_p0_2
        have f21_32 : V21 (32) = vv := (hk21 _ (by omega)).trans f20_32
        have f21_35 : V21 (35) = mm (rMod 0) (mm (rMod 0) (vv) (vv)) (vv) := (hk21 _ (by omega)).trans f20_35
        have f21_36 : V21 (36) = mm (rMod 0) (z1) (z2) := (hk21 _ (by omega)).trans f20_36
        have f21_34 : V21 (34) = jXX (rMod 0) uu vv (mm (rMod 0) x1 z2) (mm (rMod 0) z1 z2) := (hk21 _ (by omega)).trans f20_34
        have f21_p0_1 : V21 (p0 + 1) = jYY (rMod 0) uu vv (mm (rMod 0) x1 z2) (mm (rMod 0) z1 z2) (mm (rMod 0) y1 z2) := (hk21 _ (by omega)).trans f20_p0_1n
        have hK21 : ∀ r, r ≠ p0 → r ≠ p0 + 1 → r ≠ p0 + 2 → (r < 31 ∨ 37 < r) → V21 r = rV σ r := fun r a0 a1 a2 a3 => (hk21 r (by omega)).trans (hK20 r a0 a1 a2 a3)
        have f21_p0 : V21 (p0) = mm (rMod 0) (vv) (jXX (rMod 0) uu vv (mm (rMod 0) x1 z2) (mm (rMod 0) z1 z2)) := ht21.trans (by simp only [f20_32, f20_34])
        clear f20_8 f20_p0 f20_p0_2 f20_32 f20_35 f20_36 f20_34 f20_p0_1n ht21 hk21 hu20 hok20 hK20 hp
        clear f21_32
        clear f21_34
        refine lv_aload_n hx hb d_R_join_318 rfl (lv_at hl 0 rfl) ?_
        refine lv_iload_n hx hb d_R_join_319 rfl (lv_at hl 1 rfl) ?_
        refine lv_iconst (v := nI 2) hx hb d_R_join_320 (by decide) ?_
        refine lv_iadd hx hb d_R_join_321 ?_
        refine tp_i (y := nI (p0 + 2)) (nI_add _ _) ?_
        refine lv_bipush (v := nI 35) hx hb d_R_join_322 (by decide) ?_
        refine lv_bipush (v := nI 36) hx hb d_R_join_324 (by decide) ?_
        refine lv_bipush (v := nI 8) hx hb d_R_join_326 (by decide) ?_
        refine r_callv (np := 4) (As := [.int (nI (p0 + 2)), .int (nI (35)), .int (nI (36)), .int (nI (8))]) (rest := []) ⟨hx, hb, hml, hown, ht⟩ hw (c_R_multiply l G u21 (hu21.ok hok21) (μ := 0) (by decide) (by omega) (by decide) (by decide) (by omega) (by rw [hu21.V]; exact f21_8)) ⟨km_R_96, kv_R_multiply, kx_R_multiply, kc_R_multiply⟩ (by decide +kernel) ⟨by decide, by decide⟩ rfl rfl rfl hl.1 rfl (by decide) d_R_join_328 ⟨Nat.le_refl _, Nat.le_refl _⟩ (fun u22 H locs hp hw => ?_)
        obtain ⟨V22, hu22, ht22, hk22, hok22⟩ := q_mul (by decide) hu21 hok21 hp
        have f22_8 : V22 (8) = rMod 0 := (hk22 _ (by omega)).trans f21_8
        have f22_35 : V22 (35) = mm (rMod 0) (mm (rMod 0) (vv) (vv)) (vv) := (hk22 _ (by omega)).trans f21_35
        have f22_36 : V22 (36) = mm (rMod 0) (z1) (z2) := (hk22 _ (by omega)).trans f21_36
        have f22_p0_1 : V22 (p0 + 1) = jYY (rMod 0) uu vv (mm (rMod 0) x1 z2) (mm (rMod 0) z1 z2) (mm (rMod 0) y1 z2) := (hk22 _ (by omega)).trans f21_p0_1
        have f22_p0 : V22 (p0) = mm (rMod 0) (vv) (jXX (rMod 0) uu vv (mm (rMod 0) x1 z2) (mm (rMod 0) z1 z2)) := (hk22 _ (by omega)).trans f21_p0
        have hK22 : ∀ r, r ≠ p0 → r ≠ p0 + 1 → r ≠ p0 + 2 → (r < 31 ∨ 37 < r) → V22 r = rV σ r := fun r a0 a1 a2 a3 => (hk22 r (by omega)).trans (hK21 r a0 a1 a2 a3)
        have f22_p0_2 : V22 (p0 + 2) = mm (rMod 0) (mm (rMod 0) (mm (rMod 0) (vv) (vv)) (vv)) (mm (rMod 0) (z1) (z2)) := ht22.trans (by simp only [f21_35, f21_36])
        clear f21_8 f21_p0_2 f21_35 f21_36 f21_p0_1 f21_p0 ht22 hk22 hu21 hok21 hK21 hp
        rw [huu, hvv] at f22_p0 f22_p0_1
        rw [hvv] at f22_p0_2
        exact hJ V22 u22 H locs ls 331 d_R_join_331 hu22 hw (by unfold jn; rw [if_neg n1, if_neg n2, if_neg n3]; exact f22_p0) (by unfold jn; rw [if_neg n1, if_neg n2, if_neg n3]; exact f22_p0_1) (by unfold jn; rw [if_neg n1, if_neg n2, if_neg n3]; exact f22_p0_2) hK22 hok22
      · have n3 : jV (rMod 0) x1 z1 x2 z2 = 0 := boolN_1 c3
        refine lv_aload_n hx hb d_R_join_109 rfl (lv_at hl 0 rfl) ?_
        refine lv_bipush (v := nI 31) hx hb d_R_join_110 (by decide) ?_
        refine r_calli (np := 1) (As := [.int (nI (31))]) (rest := []) ⟨hx, hb, hml, hown, ht⟩ hw (c_R_isNothing l G u6 (hu6.ok hok6) (by decide)) ⟨km_R_115, kv_R_isNothing, kx_R_isNothing, kc_R_isNothing⟩ (by decide +kernel) ⟨by decide, by decide⟩ rfl rfl rfl hl.1 rfl (by decide) d_R_join_112 ⟨Nat.le_refl _, Nat.le_refl _⟩ (fun r ux H locs hp hw => ?_)
        obtain ⟨hpu, rfl⟩ := hp
        rw [hpu] at hw
        refine tp_i (y := nI (boolN (jU (rMod 0) y1 z1 y2 z2 = 0))) (by rw [hu6.V, f6_31]) ?_
        refine n_eq0 (tgt := 126) hx hb d_R_join_115 (by decide) (boolN_s _) (fun c4 => ?_) (fun c4 => ?_)
        · have n4 : ¬ jU (rMod 0) y1 z1 y2 z2 = 0 := boolN_0 c4
          refine lv_aload_n hx hb d_R_join_126 rfl (lv_at hl 0 rfl) ?_
          refine lv_iload_n hx hb d_R_join_127 rfl (lv_at hl 1 rfl) ?_
          refine lv_iconst (v := nI 2) hx hb d_R_join_128 (by decide) ?_
          refine lv_iadd hx hb d_R_join_129 ?_
          refine tp_i (y := nI (p0 + 2)) (nI_add _ _) ?_
          refine r_callv (np := 1) (As := [.int (nI (p0 + 2))]) (rest := []) ⟨hx, hb, hml, hown, ht⟩ hw (c_R_nothing l G u6 (hu6.ok hok6) (by omega)) ⟨km_R_62, kv_R_nothing, kx_R_nothing, kc_R_nothing⟩ (by decide +kernel) ⟨by decide, by decide⟩ rfl rfl rfl hl.1 rfl (by decide) d_R_join_130 ⟨Nat.le_refl _, Nat.le_refl _⟩ (fun u9 H locs hp hw => ?_)
          obtain ⟨V9, hu9, ht9, hk9, hok9⟩ := q_nothing hu6 hok6 hp
          exact hJ V9 u9 H locs ls 133 d_R_join_133 hu9 hw (by unfold jn; rw [if_neg n1, if_neg n2, if_pos n3, if_neg n4, hk9 _ (by omega)]; exact f6_p0) (by unfold jn; rw [if_neg n1, if_neg n2, if_pos n3, if_neg n4, hk9 _ (by omega)]; exact f6_p0_1) (by unfold jn; rw [if_neg n1, if_neg n2, if_pos n3, if_neg n4, ht9]) (fun r h1 h2 h3 h4 => by rw [hk9 r h3]; exact hK6 r h1 h2 h3 h4) hok9
        · have n4 : jU (rMod 0) y1 z1 y2 z2 = 0 := boolN_1 c4
          refine lv_aload_n hx hb d_R_join_118 rfl (lv_at hl 0 rfl) ?_
          refine lv_iload_n hx hb d_R_join_119 rfl (lv_at hl 1 rfl) ?_
          refine r_callv (np := 1) (As := [.int (nI (p0))]) (rest := []) ⟨hx, hb, hml, hown, ht⟩ hw (c_R_twice l G u6 (hu6.ok hok6) h1 h2 (by rw [hu6.V]; exact f6_8) (by rw [hu6.V, f6_p0]; exact hx1) (by rw [hu6.V, f6_p0_1]; exact hy1) (by rw [hu6.V, f6_p0_2]; exact hz1)) ⟨km_R_130, kv_R_twice, kx_R_twice, kc_R_twice⟩ (by decide +kernel) ⟨by decide, by decide⟩ rfl rfl rfl hl.1 rfl (by decide) d_R_join_120 ⟨Nat.le_refl _, Nat.le_refl _⟩ (fun u9 H locs hp hw => ?_)
          obtain ⟨V9, hu9, e1, e2, e3, hk9, hok9⟩ := hp
          rw [hu6.V, f6_p0, f6_p0_1, f6_p0_2] at e1 e2
          rw [hu6.V, f6_p0_1, f6_p0_2] at e3
          refine lv_goto (tgt := 133) hx hb d_R_join_123 (by decide) ?_
          exact hJ V9 u9 H locs ls 133 d_R_join_133 (hu6.trans hu9) hw (by unfold jn; rw [if_neg n1, if_neg n2, if_pos n3, if_pos n4]; exact e1) (by unfold jn; rw [if_neg n1, if_neg n2, if_pos n3, if_pos n4]; exact e2) (by unfold jn; rw [if_neg n1, if_neg n2, if_pos n3, if_pos n4]; exact e3) (fun r h h1 h2 h3 => by rw [hk9 r h h1 h2 h3, hu6.V]; exact hK6 r h h1 h2 h3) hok9
    · have n2 : z1 = 0 := boolN_1 c2
      refine lv_aload_n hx hb d_R_join_17 rfl (lv_at hl 0 rfl) ?_
      refine lv_iload_n hx hb d_R_join_18 rfl (lv_at hl 1 rfl) ?_
      refine lv_iload_n hx hb d_R_join_19 rfl (lv_at hl 2 rfl) ?_
      refine r_callv (np := 2) (As := [.int (nI (p0)), .int (nI (q0))]) (rest := []) ⟨hx, hb, hml, hown, ht⟩ hw (c_R_copyPoint l G u0 (hu0.ok hok0) (by omega) (by omega) (by omega)) ⟨km_R_127, kv_R_copyPoint, kx_R_copyPoint, kc_R_copyPoint⟩ (by decide +kernel) ⟨by decide, by decide⟩ rfl rfl rfl hl.1 rfl (by decide) d_R_join_20 ⟨Nat.le_refl _, Nat.le_refl _⟩ (fun u1 H locs hp hw => ?_)
      obtain ⟨V1, hu1, e1, e2, e3, hk1, hok1⟩ := hp
      rw [hu0.V] at e1 e2 e3
      exact hJ V1 u1 H locs ls 23 d_R_join_23 (hu0.trans hu1) hw (by unfold jn; rw [if_neg n1, if_pos n2, e1]; exact f0_x2) (by unfold jn; rw [if_neg n1, if_pos n2, e2]; exact f0_y2) (by unfold jn; rw [if_neg n1, if_pos n2, e3]; exact f0_z2) (fun r h h1 h2 h3 => by rw [hk1 r h h1 h2, hu0.V]; exact hK0 r h h1 h2 h3) hok1
  · have c2 := boolN_1 c1
    exact hJ V0 u0 H locs ls 8 d_R_join_8 hu0 hw (by unfold jn; rw [if_pos c2]; exact f0_x1) (by unfold jn; rw [if_pos c2]; exact f0_y1) (by unfold jn; rw [if_pos c2]; exact f0_z1) hK0 hok0
