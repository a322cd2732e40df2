/-! load, store, multiple, isPoint of the reference -/
theorem jn_lt {M x1 y1 z1 x2 y2 z2 : Nat} (hM : 0 < M) (a1 : x1 < M) (b1 : y1 < M) (c1 : z1 < M) (a2 : x2 < M) (b2 : y2 < M) (c2 : z2 < M) : (jn M x1 y1 z1 x2 y2 z2).1 < M ∧ (jn M x1 y1 z1 x2 y2 z2).2.1 < M ∧ (jn M x1 y1 z1 x2 y2 z2).2.2 < M := by
  unfold jn
  by_cases n1 : z2 = 0
  · rw [if_pos n1]; exact ⟨a1, b1, c1⟩
  rw [if_neg n1]
  by_cases n2 : z1 = 0
  · rw [if_pos n2]; exact ⟨a2, b2, c2⟩
  rw [if_neg n2]
  by_cases n3 : jV M x1 z1 x2 z2 = 0
  · rw [if_pos n3]
    by_cases n4 : jU M y1 z1 y2 z2 = 0
    · rw [if_pos n4]; exact ⟨pp_lt hM, ss_lt hM, pp_lt hM⟩
    · rw [if_neg n4]; exact ⟨a1, b1, hM⟩
  · rw [if_neg n3]; exact ⟨mm_lt hM, ss_lt hM, mm_lt hM⟩
def mtw (M : Nat) (t : Nat × Nat × Nat) : Nat × Nat × Nat := if t.2.2 = 0 then t else (twX M t.1 t.2.1 t.2.2, twY M t.1 t.2.1 t.2.2, twZ M t.2.1 t.2.2)
def mst (M : Nat) (q t : Nat × Nat × Nat) (b : Nat) : Nat × Nat × Nat := if b = 1 then jn M (mtw M t).1 (mtw M t).2.1 (mtw M t).2.2 q.1 q.2.1 q.2.2 else mtw M t
def mrun (M : Nat) (q t0 : Nat × Nat × Nat) (k : Nat) : Nat → Nat × Nat × Nat
  | 0 => t0
  | i + 1 => mst M q (mrun M q t0 k i) (k / 2 ^ (255 - i) % 2)
def t3lt (M : Nat) (t : Nat × Nat × Nat) : Prop := t.1 < M ∧ t.2.1 < M ∧ t.2.2 < M
theorem mtw_lt {M : Nat} {t : Nat × Nat × Nat} (hM : 0 < M) (h : t3lt M t) : t3lt M (mtw M t) := by
  unfold mtw
  split
  · exact h
  · exact ⟨pp_lt hM, ss_lt hM, pp_lt hM⟩
theorem mst_lt {M b : Nat} {q t : Nat × Nat × Nat} (hM : 0 < M) (hq : t3lt M q) (h : t3lt M t) : t3lt M (mst M q t b) := by
  unfold mst
  have h1 := mtw_lt hM h
  split
  · exact jn_lt hM h1.1 h1.2.1 h1.2.2 hq.1 hq.2.1 hq.2.2
  · exact h1
theorem mrun_lt {M k : Nat} {q t0 : Nat × Nat × Nat} (hM : 0 < M) (hq : t3lt M q) (h : t3lt M t0) : ∀ i, t3lt M (mrun M q t0 k i)
  | 0 => h
  | i + 1 => mst_lt hM hq (mrun_lt hM hq h i)
set_option maxHeartbeats 4000000 in
set_option maxRecDepth 100000 in
theorem c_R_load (l : Launch) (G : rG) (σ : rS) (hok : rOk σ) {to q : Nat} (h1 : 21 < to) (h2 : to < 29) (h3 : q < 4) (hone : rV σ 20 = 1) (hn : rN σ q < 2) : Met l y_R_load (zW y_R_load b_R_load 3 none) (zr 1 23) (va_Pc [.ref (rA G 0), .int (nI (to)), .int (nI (q))] (rC G σ)) (va_Qv (fun u => ∃ V, rU σ V u ∧ V to = rV σ (10 + 2 * q) ∧ V (to + 1) = rV σ (11 + 2 * q) ∧ V (to + 2) = 1 - rN σ q ∧ (∀ r, r ≠ to → r ≠ to + 1 → r ≠ to + 2 → V r = rV σ r) ∧ ∀ r, V r < b26 ^ 10) (fun u => rC G u) (rAA G)) 0 0 (rAA G) := by
  refine Met.ofW (cc := b_R_load) (maxL := 3) (ret := none) (by decide) rfl ?_
  intro p e s m args below meth c s₁ B hml hv
  obtain ⟨rfl, hw⟩ := hv
  have hx := B.exec
  have hb := B.bytes
  have hr := B.returns
  have hts := atoms_spec (ws := zW y_R_load b_R_load 3 none) B.pre
  have ht : ∀ w ∈ zT, w.before ([.ref (rA G 0), .int (nI (to)), .int (nI (q))] : List Value).toArray s = true := fun w h => hts w (List.mem_cons_of_mem _ h)
  have hown : s.vm.findClass R_R = some m.cls := findClass_of_methodNamed B.named
  have hlocks := B.notSynchronized
  have hl := lv_entry ([.ref (rA G 0), .int (nI (to)), .int (nI (q))]) (n := 3) (Nat.le_of_ble_eq_true rfl)
  rw [lg_entry_eq]
  generalize (lg_sl ([.ref (rA G 0), .int (nI (to)), .int (nI (q))]) ++ List.replicate (3 - (lg_sl ([.ref (rA G 0), .int (nI (to)), .int (nI (q))])).length) Slot.unset).toArray = ls at hl ⊢
  have hl : lv_has ls 3 [(0, .ref (rA G 0)), (1, .int (nI (to))), (2, .int (nI (q)))] := hl
  obtain ⟨V0, u0, hV0, hu0, hok0, hw⟩ : ∃ (V : Nat → Nat) (u : rS), V = rV σ ∧ rU σ V u ∧ (∀ r, V r < b26 ^ 10) ∧ rH G u s s.heap [] := ⟨rV σ, σ, rfl, rU.rfl' σ, hok, hw⟩
  have hK0 : ∀ r, r ≠ to → r ≠ to + 1 → r ≠ to + 2 → V0 r = rV σ r := fun r _ _ _ => by rw [hV0]
  have hN0 : rN u0 q = rN σ q := by obtain ⟨P, F, rfl⟩ := hu0; rfl
  have f0_a : V0 (10 + 2 * q) = rV σ (10 + 2 * q) := by rw [hV0]
  have f0_b : V0 (11 + 2 * q) = rV σ (11 + 2 * q) := by rw [hV0]
  have f0_c : V0 (20) = 1 := by rw [hV0]; exact hone
  refine lv_aload_n hx hb d_R_load_0 rfl (lv_at hl 0 rfl) ?_
  refine lv_iload_n hx hb d_R_load_1 rfl (lv_at hl 1 rfl) ?_
  refine lv_bipush (v := nI 10) hx hb d_R_load_2 (by decide) ?_
  refine lv_iconst (v := nI 2) hx hb d_R_load_4 (by decide) ?_
  refine lv_iload_n hx hb d_R_load_5 rfl (lv_at hl 2 rfl) ?_
  refine lv_imul hx hb d_R_load_6 ?_
  refine tp_i (y := nI (2 * q)) (pk_mul _ _) ?_
  refine lv_iadd hx hb d_R_load_7 ?_
  refine tp_i (y := nI (10 + (2 * q))) (nI_add _ _) ?_
  refine r_callv (np := 2) (As := [.int (nI (to)), .int (nI (10 + (2 * q)))]) (rest := []) ⟨hx, hb, hml, hown, ht⟩ hw (c_R_copy l G u0 (hu0.ok hok0) (by omega) (by omega) (by omega)) ⟨km_R_70, kv_R_copy, kx_R_copy, kc_R_copy⟩ (by decide +kernel) ⟨by decide, by decide⟩ rfl rfl rfl hl.1 rfl (Nat.le_of_ble_eq_true rfl) d_R_load_8 ⟨Nat.le_refl _, Nat.le_refl _⟩ (fun u1 H locs hp hw => ?_)
  obtain ⟨V1, hu1, ht1, hk1, hok1⟩ := q_copy hu0 hok0 hp
  have f1_10_2_q : V1 (10 + 2 * q) = rV σ (10 + 2 * q) := (hk1 _ (by omega)).trans f0_a
  have f1_11_2_q : V1 (11 + 2 * q) = rV σ (11 + 2 * q) := (hk1 _ (by omega)).trans f0_b
  have f1_20 : V1 (20) = 1 := (hk1 _ (by omega)).trans f0_c
  have hK1 : ∀ r, r ≠ to → r ≠ to + 1 → r ≠ to + 2 → V1 r = rV σ r := fun r a0 a1 a2 => (hk1 r (by omega)).trans (hK0 r a0 a1 a2)
  have f1_to : V1 (to) = rV σ (10 + 2 * q) := ht1.trans f0_a
  clear f0_a f0_b f0_c ht1 hk1 hu0 hok0 hK0 hp
  clear f1_10_2_q
  refine lv_aload_n hx hb d_R_load_11 rfl (lv_at hl 0 rfl) ?_
  refine lv_iload_n hx hb d_R_load_12 rfl (lv_at hl 1 rfl) ?_
  refine lv_iconst (v := nI 1) hx hb d_R_load_13 (by decide) ?_
  refine lv_iadd hx hb d_R_load_14 ?_
  refine tp_i (y := nI (to + 1)) (nI_add _ _) ?_
  refine lv_bipush (v := nI 11) hx hb d_R_load_15 (by decide) ?_
  refine lv_iconst (v := nI 2) hx hb d_R_load_17 (by decide) ?_
  refine lv_iload_n hx hb d_R_load_18 rfl (lv_at hl 2 rfl) ?_
  refine lv_imul hx hb d_R_load_19 ?_
  refine tp_i (y := nI (2 * q)) (pk_mul _ _) ?_
  refine lv_iadd hx hb d_R_load_20 ?_
  refine tp_i (y := nI (11 + (2 * q))) (nI_add _ _) ?_
  refine r_callv (np := 2) (As := [.int (nI (to + 1)), .int (nI (11 + (2 * q)))]) (rest := []) ⟨hx, hb, hml, hown, ht⟩ hw (c_R_copy l G u1 (hu1.ok hok1) (by omega) (by omega) (by omega)) ⟨km_R_70, kv_R_copy, kx_R_copy, kc_R_copy⟩ (by decide +kernel) ⟨by decide, by decide⟩ rfl rfl rfl hl.1 rfl (Nat.le_of_ble_eq_true rfl) d_R_load_21 ⟨Nat.le_refl _, Nat.le_refl _⟩ (fun u2 H locs hp hw => ?_)
  obtain ⟨V2, hu2, ht2, hk2, hok2⟩ := q_copy hu1 hok1 hp
  have f2_11_2_q : V2 (11 + 2 * q) = rV σ (11 + 2 * q) := (hk2 _ (by omega)).trans f1_11_2_q
  have f2_20 : V2 (20) = 1 := (hk2 _ (by omega)).trans f1_20
  have f2_to : V2 (to) = rV σ (10 + 2 * q) := (hk2 _ (by omega)).trans f1_to
  have hK2 : ∀ r, r ≠ to → r ≠ to + 1 → r ≠ to + 2 → V2 r = rV σ r := fun r a0 a1 a2 => (hk2 r (by omega)).trans (hK1 r a0 a1 a2)
  have f2_to_1 : V2 (to + 1) = rV σ (11 + 2 * q) := ht2.trans f1_11_2_q
  clear f1_11_2_q f1_20 f1_to ht2 hk2 hu1 hok1 hK1 hp
  clear f2_11_2_q
  refine lv_aload_n hx hb d_R_load_24 rfl (lv_at hl 0 rfl) ?_
  refine lv_iload_n hx hb d_R_load_25 rfl (lv_at hl 1 rfl) ?_
  refine lv_iconst (v := nI 2) hx hb d_R_load_26 (by decide) ?_
  refine lv_iadd hx hb d_R_load_27 ?_
  refine tp_i (y := nI (to + 2)) (nI_add _ _) ?_
  refine lv_bipush (v := nI 20) hx hb d_R_load_28 (by decide) ?_
  refine r_callv (np := 2) (As := [.int (nI (to + 2)), .int (nI (20))]) (rest := []) ⟨hx, hb, hml, hown, ht⟩ hw (c_R_copy l G u2 (hu2.ok hok2) (by omega) (by decide) (by omega)) ⟨km_R_70, kv_R_copy, kx_R_copy, kc_R_copy⟩ (by decide +kernel) ⟨by decide, by decide⟩ rfl rfl rfl hl.1 rfl (Nat.le_of_ble_eq_true rfl) d_R_load_30 ⟨Nat.le_refl _, Nat.le_refl _⟩ (fun u3 H locs hp hw => ?_)
  obtain ⟨V3, hu3, ht3, hk3, hok3⟩ := q_copy hu2 hok2 hp
  have f3_20 : V3 (20) = 1 := (hk3 _ (by omega)).trans f2_20
  have f3_to : V3 (to) = rV σ (10 + 2 * q) := (hk3 _ (by omega)).trans f2_to
  have f3_to_1 : V3 (to + 1) = rV σ (11 + 2 * q) := (hk3 _ (by omega)).trans f2_to_1
  have hK3 : ∀ r, r ≠ to → r ≠ to + 1 → r ≠ to + 2 → V3 r = rV σ r := fun r a0 a1 a2 => (hk3 r (by omega)).trans (hK2 r a0 a1 a2)
  have f3_to_2 : V3 (to + 2) = 1 := ht3.trans f2_20
  clear f2_20 f2_to f2_to_1 ht3 hk3 hu2 hok2 hK2 hp
  clear f3_20
  refine lv_aload_n hx hb d_R_load_33 rfl (lv_at hl 0 rfl) ?_
  refine r_get hx hb ht hown hw 4 (by decide) (ht _ kf_R_23) rfl d_R_load_34 (fun _ h9 => h9) ?_
  refine lv_iload_n hx hb d_R_load_37 rfl (lv_at hl 2 rfl) ?_
  have hN3 : rN u3 q = rN σ q := by obtain ⟨P, F, rfl⟩ := hu3; rfl
  refine r_zld hx hb hw h3 d_R_load_38 ?_
  refine tp_i (y := nI (rN σ q)) (congrArg nI hN3) ?_
  refine n_eq0 (tgt := 49) hx hb d_R_load_39 (by decide) (by omega) (fun c1 => ?_) (fun c1 => ?_)
  · exact z_vret (rZ _) hx hb hr hlocks u3 hw ⟨V3, hu3, f3_to, f3_to_1, by rw [c1]; exact f3_to_2, hK3, hok3⟩ d_R_load_49
  · have c2 : rN σ q = 1 := by omega
    refine lv_aload_n hx hb d_R_load_42 rfl (lv_at hl 0 rfl) ?_
    refine lv_iload_n hx hb d_R_load_43 rfl (lv_at hl 1 rfl) ?_
    refine lv_iconst (v := nI 2) hx hb d_R_load_44 (by decide) ?_
    refine lv_iadd hx hb d_R_load_45 ?_
    refine tp_i (y := nI (to + 2)) (nI_add _ _) ?_
    refine r_callv (np := 1) (As := [.int (nI (to + 2))]) (rest := []) ⟨hx, hb, hml, hown, ht⟩ hw (c_R_nothing l G u3 (hu3.ok hok3) (by omega)) ⟨km_R_62, kv_R_nothing, kx_R_nothing, kc_R_nothing⟩ (by decide +kernel) ⟨by decide, by decide⟩ rfl rfl rfl hl.1 rfl (Nat.le_of_ble_eq_true rfl) d_R_load_46 ⟨Nat.le_refl _, Nat.le_refl _⟩ (fun u4 H locs hp hw => ?_)
    obtain ⟨V4, hu4, ht4, hk4, hok4⟩ := q_nothing hu3 hok3 hp
    have f4_to : V4 (to) = rV σ (10 + 2 * q) := (hk4 _ (by omega)).trans f3_to
    have f4_to_1 : V4 (to + 1) = rV σ (11 + 2 * q) := (hk4 _ (by omega)).trans f3_to_1
    have hK4 : ∀ r, r ≠ to → r ≠ to + 1 → r ≠ to + 2 → V4 r = rV σ r := fun r a0 a1 a2 => (hk4 r (by omega)).trans (hK3 r a0 a1 a2)
    have f4_to_2 : V4 (to + 2) = 0 := ht4
    clear f3_to f3_to_1 f3_to_2 ht4 hk4 hu3 hok3 hK3 hp
    exact z_vret (rZ _) hx hb hr hlocks u4 hw ⟨V4, hu4, f4_to, f4_to_1, by rw [c2]; exact f4_to_2, hK4, hok4⟩ d_R_load_49
set_option maxHeartbeats 4000000 in
set_option maxRecDepth 100000 in
theorem c_R_store (l : Launch) (G : rG) (σ : rS) (hok : rOk σ) {q p0 : Nat} (h1 : q < 4) (h2 : 21 < p0) (h3 : p0 < 29) (hq : rV σ 8 = rMod 0) (hone : rV σ 20 = 1) : Met l y_R_store (zW y_R_store b_R_store 3 none) (zr 5 126) (va_Pc [.ref (rA G 0), .int (nI (q)), .int (nI (p0))] (rC G σ)) (va_Qv (fun u => ∃ V, rU (rsN σ (va_up (rN σ) q (boolN (rV σ (p0 + 2) = 0)))) V u ∧ (rV σ (p0 + 2) ≠ 0 → V (10 + 2 * q) = mm (rMod 0) (rV σ p0) (rV σ (p0 + 2) ^ (rMod 0 - 2) % rMod 0) ∧ V (11 + 2 * q) = mm (rMod 0) (rV σ (p0 + 1)) (rV σ (p0 + 2) ^ (rMod 0 - 2) % rMod 0)) ∧ (rV σ (p0 + 2) = 0 → V (10 + 2 * q) = rV σ (10 + 2 * q) ∧ V (11 + 2 * q) = rV σ (11 + 2 * q)) ∧ (∀ r, r ≠ 10 + 2 * q → r ≠ 11 + 2 * q → r ≠ 38 → r ≠ 39 → r ≠ 44 → r ≠ 45 → r ≠ 46 → V r = rV σ r) ∧ ∀ r, V r < b26 ^ 10) (fun u => rC G u) (rAA G)) 0 0 (rAA G) := by
  refine Met.ofW (cc := b_R_store) (maxL := 3) (ret := none) (by decide) rfl ?_
  intro p e s m args below meth c s₁ B hml hv
  obtain ⟨rfl, hw⟩ := hv
  have hx := B.exec
  have hb := B.bytes
  have hr := B.returns
  have hts := atoms_spec (ws := zW y_R_store b_R_store 3 none) B.pre
  have ht : ∀ w ∈ zT, w.before ([.ref (rA G 0), .int (nI (q)), .int (nI (p0))] : List Value).toArray s = true := fun w h => hts w (List.mem_cons_of_mem _ h)
  have hown : s.vm.findClass R_R = some m.cls := findClass_of_methodNamed B.named
  have hlocks := B.notSynchronized
  have hl := lv_entry ([.ref (rA G 0), .int (nI (q)), .int (nI (p0))]) (n := 3) (Nat.le_of_ble_eq_true rfl)
  rw [lg_entry_eq]
  generalize (lg_sl ([.ref (rA G 0), .int (nI (q)), .int (nI (p0))]) ++ List.replicate (3 - (lg_sl ([.ref (rA G 0), .int (nI (q)), .int (nI (p0))])).length) Slot.unset).toArray = ls at hl ⊢
  have hl : lv_has ls 3 [(0, .ref (rA G 0)), (1, .int (nI (q))), (2, .int (nI (p0)))] := hl
  refine lv_aload_n hx hb d_R_store_0 rfl (lv_at hl 0 rfl) ?_
  refine r_get hx hb ht hown hw 4 (by decide) (ht _ kf_R_23) rfl d_R_store_1 (fun _ h9 => h9) ?_
  refine lv_iload_n hx hb d_R_store_4 rfl (lv_at hl 1 rfl) ?_
  refine lv_aload_n hx hb d_R_store_5 rfl (lv_at hl 0 rfl) ?_
  refine lv_iload_n hx hb d_R_store_6 rfl (lv_at hl 2 rfl) ?_
  refine r_calli (np := 1) (As := [.int (nI (p0))]) (rest := [.int (nI (q)), .ref (rA G 5)]) ⟨hx, hb, hml, hown, ht⟩ hw (c_R_isNone l G σ hok (by omega)) ⟨km_R_118, kv_R_isNone, kx_R_isNone, kc_R_isNone⟩ (by decide +kernel) ⟨by decide, by decide⟩ rfl rfl rfl hl.1 rfl (Nat.le_of_ble_eq_true rfl) d_R_store_7 ⟨Nat.le_refl _, Nat.le_refl _⟩ (fun r u H locs hp hw => ?_)
  obtain ⟨hpu, rfl⟩ := hp
  rw [hpu] at hw
  refine r_zst hx hb hw h1 (boolN_lt _) d_R_store_10 (fun H locs hw => ?_)
  obtain ⟨τ, hτ⟩ : ∃ τ, τ = rsN σ (va_up (rN σ) q (boolN (rV σ (p0 + 2) = 0))) := ⟨_, rfl⟩
  rw [← hτ] at hw
  rw [← hτ]
  have hτV : rV τ = rV σ := by rw [hτ]
  have hτN : rN τ q = boolN (rV σ (p0 + 2) = 0) := by rw [hτ]; exact up_self _ _ _
  have hokτ : rOk τ := fun r => by rw [hτV]; exact hok r
  refine lv_aload_n hx hb d_R_store_11 rfl (lv_at hl 0 rfl) ?_
  refine r_get hx hb ht hown hw 4 (by decide) (ht _ kf_R_23) rfl d_R_store_12 (fun _ h9 => h9) ?_
  refine lv_iload_n hx hb d_R_store_15 rfl (lv_at hl 1 rfl) ?_
  refine r_zld hx hb hw h1 d_R_store_16 ?_
  refine tp_i (y := nI (boolN (rV σ (p0 + 2) = 0))) (congrArg nI hτN) ?_
  refine n_ne0 (tgt := 54) hx hb d_R_store_17 (by decide) (boolN_s _) (fun c1 => ?_) (fun c1 => ?_)
  · have c2 := boolN_1 c1
    exact z_vret (rZ _) hx hb hr hlocks τ hw ⟨rV τ, rU.rfl' τ, fun q9 => absurd c2 q9, fun _ => ⟨by rw [hτV], by rw [hτV]⟩, fun r _ _ _ _ _ _ _ => by rw [hτV], hokτ⟩ d_R_store_54
  · have c2 := boolN_0 c1
    refine lv_aload_n hx hb d_R_store_20 rfl (lv_at hl 0 rfl) ?_
    refine lv_bipush (v := nI 10) hx hb d_R_store_21 (by decide) ?_
    refine lv_iconst (v := nI 2) hx hb d_R_store_23 (by decide) ?_
    refine lv_iload_n hx hb d_R_store_24 rfl (lv_at hl 1 rfl) ?_
    refine lv_imul hx hb d_R_store_25 ?_
    refine tp_i (y := nI (2 * q)) (pk_mul _ _) ?_
    refine lv_iadd hx hb d_R_store_26 ?_
    refine tp_i (y := nI (10 + (2 * q))) (nI_add _ _) ?_
    refine lv_iload_n hx hb d_R_store_27 rfl (lv_at hl 2 rfl) ?_
    refine lv_iload_n hx hb d_R_store_28 rfl (lv_at hl 2 rfl) ?_
    refine lv_iconst (v := nI 2) hx hb d_R_store_29 (by decide) ?_
    refine lv_iadd hx hb d_R_store_30 ?_
    refine tp_i (y := nI (p0 + 2)) (nI_add _ _) ?_
    refine lv_bipush (v := nI 8) hx hb d_R_store_31 (by decide) ?_
    refine r_callv (np := 4) (As := [.int (nI (10 + (2 * q))), .int (nI (p0)), .int (nI (p0 + 2)), .int (nI (8))]) (rest := []) ⟨hx, hb, hml, hown, ht⟩ hw (c_R_divide l G τ hokτ (μ := 0) (by decide) (by omega) (by omega) (by omega) (by omega) (by omega) (by omega) (by omega) (by rw [hτV]; exact hq) (by rw [hτV]; exact hone)) ⟨km_R_121, kv_R_divide, kx_R_divide, kc_R_divide⟩ (by decide +kernel) ⟨by decide, by decide⟩ rfl rfl rfl hl.1 rfl (Nat.le_of_ble_eq_true rfl) d_R_store_33 ⟨Nat.le_refl _, Nat.le_refl _⟩ (fun u1 H locs hp hw => ?_)
    obtain ⟨V1, hu1, e1, hk1, hok1⟩ := hp
    rw [hτV] at e1 hk1
    have g8 : V1 8 = rMod 0 := by rw [hk1 8 (by omega) (by decide) (by decide) (by decide) (by decide) (by decide)]; exact hq
    have g20 : V1 20 = 1 := by rw [hk1 20 (by omega) (by decide) (by decide) (by decide) (by decide) (by decide)]; exact hone
    have gy : V1 (p0 + 1) = rV σ (p0 + 1) := hk1 _ (by omega) (by omega) (by omega) (by omega) (by omega) (by omega)
    have gz : V1 (p0 + 2) = rV σ (p0 + 2) := hk1 _ (by omega) (by omega) (by omega) (by omega) (by omega) (by omega)
    refine lv_aload_n hx hb d_R_store_36 rfl (lv_at hl 0 rfl) ?_
    refine lv_bipush (v := nI 11) hx hb d_R_store_37 (by decide) ?_
    refine lv_iconst (v := nI 2) hx hb d_R_store_39 (by decide) ?_
    refine lv_iload_n hx hb d_R_store_40 rfl (lv_at hl 1 rfl) ?_
    refine lv_imul hx hb d_R_store_41 ?_
    refine tp_i (y := nI (2 * q)) (pk_mul _ _) ?_
    refine lv_iadd hx hb d_R_store_42 ?_
    refine tp_i (y := nI (11 + (2 * q))) (nI_add _ _) ?_
    refine lv_iload_n hx hb d_R_store_43 rfl (lv_at hl 2 rfl) ?_
    refine lv_iconst (v := nI 1) hx hb d_R_store_44 (by decide) ?_
    refine lv_iadd hx hb d_R_store_45 ?_
    refine tp_i (y := nI (p0 + 1)) (nI_add _ _) ?_
    refine lv_iload_n hx hb d_R_store_46 rfl (lv_at hl 2 rfl) ?_
    refine lv_iconst (v := nI 2) hx hb d_R_store_47 (by decide) ?_
    refine lv_iadd hx hb d_R_store_48 ?_
    refine tp_i (y := nI (p0 + 2)) (nI_add _ _) ?_
    refine lv_bipush (v := nI 8) hx hb d_R_store_49 (by decide) ?_
    refine r_callv (np := 4) (As := [.int (nI (11 + (2 * q))), .int (nI (p0 + 1)), .int (nI (p0 + 2)), .int (nI (8))]) (rest := []) ⟨hx, hb, hml, hown, ht⟩ hw (c_R_divide l G u1 (hu1.ok hok1) (μ := 0) (by decide) (by omega) (by omega) (by omega) (by omega) (by omega) (by omega) (by omega) (by rw [hu1.V]; exact g8) (by rw [hu1.V]; exact g20)) ⟨km_R_121, kv_R_divide, kx_R_divide, kc_R_divide⟩ (by decide +kernel) ⟨by decide, by decide⟩ rfl rfl rfl hl.1 rfl (Nat.le_of_ble_eq_true rfl) d_R_store_51 ⟨Nat.le_refl _, Nat.le_refl _⟩ (fun u2 H locs hp hw => ?_)
    obtain ⟨V2, hu2, e2, hk2, hok2⟩ := hp
    rw [hu1.V] at e2 hk2
    refine z_vret (rZ _) hx hb hr hlocks u2 hw ⟨V2, hu1.trans hu2, fun _ => ⟨?_, ?_⟩, fun q9 => absurd q9 c2, fun r a1 a2 a3 a4 a5 a6 a7 => ?_, hok2⟩ d_R_store_54
    · rw [hk2 _ (by omega) (by omega) (by omega) (by omega) (by omega) (by omega)]; exact e1
    · rw [e2, gy, gz]
    · rw [hk2 r a2 a3 a4 a5 a6 a7, hk1 r a1 a3 a4 a5 a6 a7]
set_option maxHeartbeats 4000000 in
set_option maxRecDepth 100000 in
theorem c_R_isPoint (l : Launch) (G : rG) (σ : rS) (hok : rOk σ) {x y : Nat} (h1 : x < 31 ∨ 37 < x) (h1b : x < 48) (h2 : y < 31 ∨ 37 < y) (h2b : y < 48) (hq : rV σ 8 = rMod 0) (h7 : rV σ 21 = 7) : Met l y_R_isPoint (zW y_R_isPoint b_R_isPoint 3 (some .boolean)) (zr 4 100) (va_Pc [.ref (rA G 0), .int (nI (x)), .int (nI (y))] (rC G σ)) (va_Qi (fun r u => r = nI (boolN (rV σ x < rMod 0 ∧ rV σ y < rMod 0 ∧ mm (rMod 0) (rV σ y) (rV σ y) = pp (rMod 0) (mm (rMod 0) (mm (rMod 0) (rV σ x) (rV σ x)) (rV σ x)) 7)) ∧ ∃ V, rU σ V u ∧ (∀ r, r < 31 ∨ 37 < r → V r = rV σ r) ∧ ∀ r, V r < b26 ^ 10) (fun u => rC G u) (rAA G)) 0 0 (rAA G) := by
  refine Met.ofW (cc := b_R_isPoint) (maxL := 3) (ret := (some .boolean)) (by decide) rfl ?_
  intro p e s m args below meth c s₁ B hml hv
  obtain ⟨rfl, hw⟩ := hv
  have hx := B.exec
  have hb := B.bytes
  have hr := B.returns
  have hts := atoms_spec (ws := zW y_R_isPoint b_R_isPoint 3 (some .boolean)) B.pre
  have ht : ∀ w ∈ zT, w.before ([.ref (rA G 0), .int (nI (x)), .int (nI (y))] : List Value).toArray s = true := fun w h => hts w (List.mem_cons_of_mem _ h)
  have hown : s.vm.findClass R_R = some m.cls := findClass_of_methodNamed B.named
  have hlocks := B.notSynchronized
  have hl := lv_entry ([.ref (rA G 0), .int (nI (x)), .int (nI (y))]) (n := 3) (Nat.le_of_ble_eq_true rfl)
  rw [lg_entry_eq]
  generalize (lg_sl ([.ref (rA G 0), .int (nI (x)), .int (nI (y))]) ++ List.replicate (3 - (lg_sl ([.ref (rA G 0), .int (nI (x)), .int (nI (y))])).length) Slot.unset).toArray = ls at hl ⊢
  have hl : lv_has ls 3 [(0, .ref (rA G 0)), (1, .int (nI (x))), (2, .int (nI (y)))] := hl
  refine lv_aload_n hx hb d_R_isPoint_0 rfl (lv_at hl 0 rfl) ?_
  refine lv_iload_n hx hb d_R_isPoint_1 rfl (lv_at hl 1 rfl) ?_
  refine lv_bipush (v := nI 8) hx hb d_R_isPoint_2 (by decide) ?_
  refine r_calli (np := 2) (As := [.int (nI (x)), .int (nI (8))]) (rest := []) ⟨hx, hb, hml, hown, ht⟩ hw (c_R_compare l G σ hok h1b (by decide)) ⟨km_R_78, kv_R_compare, kx_R_compare, kc_R_compare⟩ (by decide +kernel) ⟨by decide, by decide⟩ rfl rfl rfl hl.1 rfl (Nat.le_of_ble_eq_true rfl) d_R_isPoint_4 ⟨Nat.le_refl _, Nat.le_refl _⟩ (fun r u H locs hp hw => ?_)
  obtain ⟨hpu, hc1⟩ := hp
  rw [hpu] at hw
  rw [hq] at hc1
  have no : ∀ (H : Heap) (locs : List Loc) (ls : Array Slot), rH G σ s H locs → ¬ (rV σ x < rMod 0 ∧ rV σ y < rMod 0 ∧ mm (rMod 0) (rV σ y) (rV σ y) = pp (rMod 0) (mm (rMod 0) (mm (rMod 0) (rV σ x) (rV σ x)) (rV σ x)) 7) → lv_has ls 3 [(0, .ref (rA G 0)), (1, .int (nI (x))), (2, .int (nI (y)))] → W p l e (headSpec (zW y_R_isPoint b_R_isPoint 3 (some .boolean)) (zr 4 100)).room s m ([.ref (rA G 0), .int (nI (x)), .int (nI (y))] : List Value).toArray below meth c H locs 0 0 (MQ below (va_Qi (fun r u => r = nI (boolN (rV σ x < rMod 0 ∧ rV σ y < rMod 0 ∧ mm (rMod 0) (rV σ y) (rV σ y) = pp (rMod 0) (mm (rMod 0) (mm (rMod 0) (rV σ x) (rV σ x)) (rV σ x)) 7)) ∧ ∃ V, rU σ V u ∧ (∀ r, r < 31 ∨ 37 < r → V r = rV σ r) ∧ ∀ r, V r < b26 ^ 10) (fun u => rC G u) (rAA G)) ([.ref (rA G 0), .int (nI (x)), .int (nI (y))] : List Value).toArray s 0 0 (rAA G)) (F0 m 20 ls []) := by
    intro H locs ls hw hn hl
    refine lv_iconst (v := nI 0) hx hb d_R_isPoint_20 (by decide) ?_
    exact z_zret (rZ _) hx hb hr hlocks (nar_b (by decide)) σ hw ⟨by rw [boolN_f hn], rV σ, rU.rfl' σ, fun _ _ => rfl, hok⟩ d_R_isPoint_21
  refine lv_if_ge (tgt := 20) hx hb d_R_isPoint_7 (by decide) (fun c1 => ?_) (fun c1 => ?_)
  · refine no H locs ls hw (fun q9 => ?_) hl
    rw [hc1] at c1
    exact absurd ((cmpN_lt _ _).mpr q9.1) (Int32.not_lt.mpr c1)
  · have l1 : rV σ x < rMod 0 := by rw [hc1] at c1; exact (cmpN_lt _ _).mp (Int32.not_le.mp c1)
    refine lv_aload_n hx hb d_R_isPoint_10 rfl (lv_at hl 0 rfl) ?_
    refine lv_iload_n hx hb d_R_isPoint_11 rfl (lv_at hl 2 rfl) ?_
    refine lv_bipush (v := nI 8) hx hb d_R_isPoint_12 (by decide) ?_
    refine r_calli (np := 2) (As := [.int (nI (y)), .int (nI (8))]) (rest := []) ⟨hx, hb, hml, hown, ht⟩ hw (c_R_compare l G σ hok h2b (by decide)) ⟨km_R_78, kv_R_compare, kx_R_compare, kc_R_compare⟩ (by decide +kernel) ⟨by decide, by decide⟩ rfl rfl rfl hl.1 rfl (Nat.le_of_ble_eq_true rfl) d_R_isPoint_14 ⟨Nat.le_refl _, Nat.le_refl _⟩ (fun r2 u H locs hp hw => ?_)
    obtain ⟨hpu, hc2⟩ := hp
    rw [hpu] at hw
    rw [hq] at hc2
    refine lv_if_lt (tgt := 22) hx hb d_R_isPoint_17 (by decide) (fun c2 => ?_) (fun c2 => ?_)
    · have l2 : rV σ y < rMod 0 := by rw [hc2] at c2; exact (cmpN_lt _ _).mp c2
      refine lv_aload_n hx hb d_R_isPoint_22 rfl (lv_at hl 0 rfl) ?_
      refine lv_bipush (v := nI 33) hx hb d_R_isPoint_23 (by decide) ?_
      refine lv_iload_n hx hb d_R_isPoint_25 rfl (lv_at hl 1 rfl) ?_
      refine r_callv (np := 2) (As := [.int (nI (33)), .int (nI (x))]) (rest := []) ⟨hx, hb, hml, hown, ht⟩ hw (c_R_curve l G σ hok (by decide) h1b (by decide) (by omega) hq h7) ⟨km_R_136, kv_R_curve, kx_R_curve, kc_R_curve⟩ (by decide +kernel) ⟨by decide, by decide⟩ rfl rfl rfl hl.1 rfl (Nat.le_of_ble_eq_true rfl) d_R_isPoint_26 ⟨Nat.le_refl _, Nat.le_refl _⟩ (fun u1 H locs hp hw => ?_)
      obtain ⟨V1, hu1, e1, hk1, hok1⟩ := hp
      have g8 : V1 8 = rMod 0 := by rw [hk1 8 (by decide) (by decide) (by decide)]; exact hq
      have gy : V1 y = rV σ y := hk1 y (by omega) (by omega) (by omega)
      refine lv_aload_n hx hb d_R_isPoint_29 rfl (lv_at hl 0 rfl) ?_
      refine lv_bipush (v := nI 32) hx hb d_R_isPoint_30 (by decide) ?_
      refine lv_iload_n hx hb d_R_isPoint_32 rfl (lv_at hl 2 rfl) ?_
      refine lv_iload_n hx hb d_R_isPoint_33 rfl (lv_at hl 2 rfl) ?_
      refine lv_bipush (v := nI 8) hx hb d_R_isPoint_34 (by decide) ?_
      refine r_callv (np := 4) (As := [.int (nI (32)), .int (nI (y)), .int (nI (y)), .int (nI (8))]) (rest := []) ⟨hx, hb, hml, hown, ht⟩ hw (c_R_multiply l G u1 (hu1.ok hok1) (μ := 0) (by decide) (by decide) h2b h2b (by decide) (by rw [hu1.V]; exact g8)) ⟨km_R_96, kv_R_multiply, kx_R_multiply, kc_R_multiply⟩ (by decide +kernel) ⟨by decide, by decide⟩ rfl rfl rfl hl.1 rfl (Nat.le_of_ble_eq_true rfl) d_R_isPoint_36 ⟨Nat.le_refl _, Nat.le_refl _⟩ (fun u2 H locs hp hw => ?_)
      obtain ⟨V2, hu2, ht2, hk2, hok2⟩ := q_mul (μ := 0) (by decide) hu1 hok1 hp
      rw [gy] at ht2
      have e2 : V2 33 = pp (rMod 0) (mm (rMod 0) (mm (rMod 0) (rV σ x) (rV σ x)) (rV σ x)) 7 := (hk2 33 (by decide)).trans e1
      refine lv_aload_n hx hb d_R_isPoint_39 rfl (lv_at hl 0 rfl) ?_
      refine lv_bipush (v := nI 32) hx hb d_R_isPoint_40 (by decide) ?_
      refine lv_bipush (v := nI 33) hx hb d_R_isPoint_42 (by decide) ?_
      refine r_calli (np := 2) (As := [.int (nI (32)), .int (nI (33))]) (rest := []) ⟨hx, hb, hml, hown, ht⟩ hw (c_R_compare l G u2 (hu2.ok hok2) (by decide) (by decide)) ⟨km_R_78, kv_R_compare, kx_R_compare, kc_R_compare⟩ (by decide +kernel) ⟨by decide, by decide⟩ rfl rfl rfl hl.1 rfl (Nat.le_of_ble_eq_true rfl) d_R_isPoint_44 ⟨Nat.le_refl _, Nat.le_refl _⟩ (fun r3 ux H locs hp hw => ?_)
      obtain ⟨hpu, hc3⟩ := hp
      rw [hpu] at hw
      rw [hu2.V, ht2, e2] at hc3
      have hKe : ∀ r, r < 31 ∨ 37 < r → V2 r = rV σ r := fun r hr9 => by rw [hk2 r (by omega), hk1 r (by omega) (by omega) (by omega)]
      refine lv_if_ne (tgt := 54) hx hb d_R_isPoint_47 (by decide) (fun c3 => ?_) (fun c3 => ?_)
      · refine lv_iconst (v := nI 0) hx hb d_R_isPoint_54 (by decide) ?_
        exact z_zret (rZ _) hx hb hr hlocks (nar_b (by decide)) u2 hw ⟨by rw [boolN_f (fun q9 => c3 (by rw [hc3]; exact (cmpN_eq _ _).mpr q9.2.2))], V2, hu2, hKe, hok2⟩ d_R_isPoint_55
      · refine lv_iconst (v := nI 1) hx hb d_R_isPoint_50 (by decide) ?_
        refine lv_goto (tgt := 55) hx hb d_R_isPoint_51 (by decide) ?_
        exact z_zret (rZ _) hx hb hr hlocks (nar_b (by decide)) u2 hw ⟨by rw [boolN_t ⟨l1, l2, (cmpN_eq _ _).mp (by rw [← hc3]; exact c3)⟩], V2, hu2, hKe, hok2⟩ d_R_isPoint_55
    · refine no H locs ls hw (fun q9 => ?_) hl
      rw [hc2] at c2
      exact c2 ((cmpN_lt _ _).mpr q9.2.1)
