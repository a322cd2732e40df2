/-! runs of calls on the rows -/
def mm (M a b : Nat) : Nat := a * b % M
def pp (M a b : Nat) : Nat := (a + b) % M
def ss (M a b : Nat) : Nat := (a + M - b) % M
theorem mm_lt {M a b : Nat} (h : 0 < M) : mm M a b < M := Nat.mod_lt _ h
theorem pp_lt {M a b : Nat} (h : 0 < M) : pp M a b < M := Nat.mod_lt _ h
theorem ss_lt {M a b : Nat} (h : 0 < M) : ss M a b < M := Nat.mod_lt _ h
theorem rMod_le {μ : Nat} (h : μ < 2) : rMod μ ≤ 2 ^ 256 := Nat.le_of_lt (rMod_lt h)
theorem q_copy {σ u u2 : rS} {V : Nat → Nat} {to fr : Nat} (hu : rU σ V u) (hok : ∀ r, V r < b26 ^ 10) (hp : u2 = rsV u (va_up (rV u) to (rV u fr))) : ∃ V2, rU σ V2 u2 ∧ V2 to = V fr ∧ (∀ r, r ≠ to → V2 r = V r) ∧ ∀ r, V2 r < b26 ^ 10 := by
  refine ⟨va_up V to (V fr), ?_, up_self _ _ _, fun r h => up_ne _ _ h, up_lt hok (hok fr)⟩
  have h := hu.trans (rU.of hp)
  rw [hu.V] at h
  exact h
theorem q_nothing {σ u u2 : rS} {V : Nat → Nat} {to : Nat} (hu : rU σ V u) (hok : ∀ r, V r < b26 ^ 10) (hp : u2 = rsV u (va_up (rV u) to 0)) : ∃ V2, rU σ V2 u2 ∧ V2 to = 0 ∧ (∀ r, r ≠ to → V2 r = V r) ∧ ∀ r, V2 r < b26 ^ 10 := by
  refine ⟨va_up V to 0, ?_, up_self _ _ _, fun r h => up_ne _ _ h, up_lt hok (Nat.pow_pos b26_pos)⟩
  have h := hu.trans (rU.of hp)
  rw [hu.V] at h
  exact h
theorem q_mul {σ u u2 : rS} {V : Nat → Nat} {μ to a b : Nat} (hμ : μ < 2) (hu : rU σ V u) (hok : ∀ r, V r < b26 ^ 10) (hp : ∃ P F, u2 = rsP (rsF (rsV u (va_up (rV u) to ((rV u a * rV u b) % rMod μ))) F) P) : ∃ V2, rU σ V2 u2 ∧ V2 to = mm (rMod μ) (V a) (V b) ∧ (∀ r, r ≠ to → V2 r = V r) ∧ ∀ r, V2 r < b26 ^ 10 := by
  refine ⟨va_up V to (mm (rMod μ) (V a) (V b)), ?_, up_self _ _ _, fun r h => up_ne _ _ h, up_lt hok (mod_ok hμ)⟩
  have h := hu.trans hp
  rw [hu.V] at h
  exact h
theorem q_plus {σ u u2 : rS} {V : Nat → Nat} {to a b q : Nat} (hu : rU σ V u) (hok : ∀ r, V r < b26 ^ 10) (h0 : 0 < V q) (hq : V q ≤ 2 ^ 256) (hp : u2 = rsV u (va_up (va_up (rV u) 37 ((rV u a + rV u b) % rV u q)) to ((rV u a + rV u b) % rV u q))) : ∃ V2, rU σ V2 u2 ∧ V2 to = pp (V q) (V a) (V b) ∧ (∀ r, r ≠ to → r ≠ 37 → V2 r = V r) ∧ ∀ r, V2 r < b26 ^ 10 := by
  have hx : pp (V q) (V a) (V b) < b26 ^ 10 := lt260 (Nat.lt_of_lt_of_le (pp_lt h0) hq)
  refine ⟨va_up (va_up V 37 (pp (V q) (V a) (V b))) to (pp (V q) (V a) (V b)), ?_, up_self _ _ _, fun r h h' => by rw [up_ne _ _ h, up_ne _ _ h'], up_lt (up_lt hok hx) hx⟩
  have h := hu.trans (rU.of hp)
  rw [hu.V] at h
  exact h
theorem q_minus {σ u u2 : rS} {V : Nat → Nat} {to a b q : Nat} (hu : rU σ V u) (hok : ∀ r, V r < b26 ^ 10) (h0 : 0 < V q) (hq : V q ≤ 2 ^ 256) (hp : u2 = rsV u (va_up (va_up (rV u) 37 ((rV u a + rV u q - rV u b) % rV u q)) to ((rV u a + rV u q - rV u b) % rV u q))) : ∃ V2, rU σ V2 u2 ∧ V2 to = ss (V q) (V a) (V b) ∧ (∀ r, r ≠ to → r ≠ 37 → V2 r = V r) ∧ ∀ r, V2 r < b26 ^ 10 := by
  have hx : ss (V q) (V a) (V b) < b26 ^ 10 := lt260 (Nat.lt_of_lt_of_le (ss_lt h0) hq)
  refine ⟨va_up (va_up V 37 (ss (V q) (V a) (V b))) to (ss (V q) (V a) (V b)), ?_, up_self _ _ _, fun r h h' => by rw [up_ne _ _ h, up_ne _ _ h'], up_lt (up_lt hok hx) hx⟩
  have h := hu.trans (rU.of hp)
  rw [hu.V] at h
  exact h
theorem q_power {σ u u2 : rS} {V : Nat → Nat} {μ to a : Nat} (hμ : μ < 2) (hu : rU σ V u) (hok : ∀ r, V r < b26 ^ 10) (hp : rU u (va_up (va_up (va_up (rV u) 44 (rV u a)) 38 (rV u a ^ rV u 39 % rMod μ)) to (rV u a ^ rV u 39 % rMod μ)) u2) : ∃ V2, rU σ V2 u2 ∧ V2 to = V a ^ V 39 % rMod μ ∧ (∀ r, r ≠ to → r ≠ 38 → r ≠ 44 → V2 r = V r) ∧ ∀ r, V2 r < b26 ^ 10 := by
  refine ⟨_, hu.trans hp, ?_, fun r h h' h2 => ?_, ?_⟩
  · rw [hu.V]; exact up_self _ _ _
  · rw [hu.V, up_ne _ _ h, up_ne _ _ h', up_ne _ _ h2]
  · rw [hu.V]; exact up_lt (up_lt (up_lt hok (hok a)) (mod_ok hμ)) (mod_ok hμ)
theorem low2 {μ : Nat} (h : μ < 2) : 2 ≤ dg b26 (rMod μ) 0 := by
  rcases (show μ = 0 ∨ μ = 1 by omega) with rfl | rfl <;> decide +kernel
theorem less2 {μ : Nat} (h : μ < 2) : ds b26 (rMod μ) 0 (dg b26 (rMod μ) 0 - 2) = rMod μ - 2 := by
  rcases (show μ = 0 ∨ μ = 1 by omega) with rfl | rfl <;> decide +kernel
set_option maxHeartbeats 4000000 in
set_option maxRecDepth 100000 in
theorem c_R_divide (l : Launch) (G : rG) (σ : rS) (hok : rOk σ) {μ to a b : Nat} (hμ : μ < 2) (h1 : to < 48) (h2 : a < 48) (h3 : b < 48) (hto : to ≠ 8 + μ) (ha1 : a ≠ 39) (ha2 : a ≠ 45) (hb1 : b < 38 ∨ 46 < b ∨ b = 42) (hq : rV σ (8 + μ) = rMod μ) (hone : rV σ 20 = 1) : Met l y_R_divide (zW y_R_divide b_R_divide 5 none) (zr 4 102) (va_Pc [.ref (rA G 0), .int (nI (to)), .int (nI (a)), .int (nI (b)), .int (nI (8 + μ))] (rC G σ)) (va_Qv (fun u => ∃ V, rU σ V u ∧ V to = mm (rMod μ) (rV σ a) (rV σ b ^ (rMod μ - 2) % rMod μ) ∧ (∀ r, r ≠ to → r ≠ 38 → r ≠ 39 → r ≠ 44 → r ≠ 45 → r ≠ 46 → V r = rV σ r) ∧ ∀ r, V r < b26 ^ 10) (fun u => rC G u) (rAA G)) 0 0 (rAA G) := by
  refine Met.ofW (cc := b_R_divide) (maxL := 5) (ret := none) (by decide) rfl ?_
  intro p e s m args below meth c s₁ B hml hv
  obtain ⟨rfl, hw⟩ := hv
  have hx := B.exec
  have hb := B.bytes
  have hr := B.returns
  have hts := atoms_spec (ws := zW y_R_divide b_R_divide 5 none) B.pre
  have ht : ∀ w ∈ zT, w.before ([.ref (rA G 0), .int (nI (to)), .int (nI (a)), .int (nI (b)), .int (nI (8 + μ))] : List Value).toArray s = true := fun w h => hts w (List.mem_cons_of_mem _ h)
  have hown : s.vm.findClass R_R = some m.cls := findClass_of_methodNamed B.named
  have hlocks := B.notSynchronized
  have hl := lv_entry ([.ref (rA G 0), .int (nI (to)), .int (nI (a)), .int (nI (b)), .int (nI (8 + μ))]) (n := 5) (Nat.le_of_ble_eq_true rfl)
  rw [lg_entry_eq]
  generalize (lg_sl ([.ref (rA G 0), .int (nI (to)), .int (nI (a)), .int (nI (b)), .int (nI (8 + μ))]) ++ List.replicate (5 - (lg_sl ([.ref (rA G 0), .int (nI (to)), .int (nI (a)), .int (nI (b)), .int (nI (8 + μ))])).length) Slot.unset).toArray = ls at hl ⊢
  have hl : lv_has ls 5 [(0, .ref (rA G 0)), (1, .int (nI (to))), (2, .int (nI (a))), (3, .int (nI (b))), (4, .int (nI (8 + μ)))] := hl
  obtain ⟨V0, u0, hV0, hu0, hok0, hw⟩ : ∃ (V : Nat → Nat) (u : rS), V = rV σ ∧ rU σ V u ∧ (∀ r, V r < b26 ^ 10) ∧ rH G u s s.heap [] := ⟨rV σ, σ, rfl, rU.rfl' σ, hok, hw⟩
  have f0_q : V0 (8 + μ) = rMod μ := by rw [hV0]; exact hq
  have f0_a : V0 a = rV σ a := by rw [hV0]
  have f0_b : V0 b = rV σ b := by rw [hV0]
  have f0_one : V0 20 = 1 := by rw [hV0]; exact hone
  refine lv_aload_n hx hb d_R_divide_0 rfl (lv_at hl 0 rfl) ?_
  refine lv_bipush (v := nI 39) hx hb d_R_divide_1 (by decide) ?_
  refine lv_iload hx hb d_R_divide_3 (lv_at hl 4 rfl) ?_
  refine r_callv (np := 2) (As := [.int (nI (39)), .int (nI (8 + μ))]) (rest := []) ⟨hx, hb, hml, hown, ht⟩ hw (c_R_copy l G u0 (hu0.ok hok0) (by decide) (by omega) (by omega)) ⟨km_R_70, kv_R_copy, kx_R_copy, kc_R_copy⟩ (by decide +kernel) ⟨by decide, by decide⟩ rfl rfl rfl hl.1 rfl (by decide) d_R_divide_5 ⟨Nat.le_refl _, Nat.le_refl _⟩ (fun u1 H locs hp hw => ?_)
  obtain ⟨V1, hu1, ht1, hk1, hok1⟩ := q_copy hu0 hok0 hp
  have f1_8_μ : V1 (8 + μ) = rMod μ := (hk1 _ (by omega)).trans f0_q
  have f1_a : V1 (a) = rV σ a := (hk1 _ (by omega)).trans f0_a
  have f1_b : V1 (b) = rV σ b := (hk1 _ (by omega)).trans f0_b
  have f1_20 : V1 (20) = 1 := (hk1 _ (by decide)).trans f0_one
  have f1_39 : V1 (39) = rMod μ := ht1.trans f0_q
  refine lv_aload_n hx hb d_R_divide_8 rfl (lv_at hl 0 rfl) ?_
  refine r_get hx hb ht hown hw 0 (by decide) (ht _ kf_R_7) rfl d_R_divide_9 (fun _ h9 => h9) ?_
  refine lv_sipush (v := nI 390) hx hb d_R_divide_12 (by decide) ?_
  refine lv_dup2_11 hx hb d_R_divide_15 rfl rfl ?_
  refine tp_i (y := nI (10 * 39 + 0)) (rfl) ?_
  refine r_ild' hx hb hw (by decide) (by decide) d_R_divide_16 ?_
  refine tp_i (y := nI (dg b26 (rMod μ) 0)) (congrArg nI (by rw [hu1.V, f1_39])) ?_
  refine lv_iconst (v := nI 2) hx hb d_R_divide_17 (by decide) ?_
  refine lv_isub hx hb d_R_divide_18 ?_
  refine tp_i (y := nI (dg b26 (rMod μ) 0 - 2)) (pk_sub (low2 hμ)) ?_
  have hix : nI 390 = nI (10 * 39 + 0) := rfl
  rw [hix]
  refine r_ist hx hb hw (by decide) (by decide) (show dg b26 (rMod μ) 0 - 2 < b26 from Nat.lt_of_le_of_lt (Nat.sub_le _ _) (dg_lt b26_pos _ _)) d_R_divide_19 (fun H locs hw => ?_)
  obtain ⟨u2, hu2e⟩ : ∃ u2, u2 = rsV u1 (va_up (rV u1) 39 (ds b26 (rV u1 39) 0 (dg b26 (rMod μ) 0 - 2))) := ⟨_, rfl⟩
  rw [← hu2e] at hw
  have e39 : ds b26 (rV u1 39) 0 (dg b26 (rMod μ) 0 - 2) = rMod μ - 2 := by rw [hu1.V, f1_39]; exact less2 hμ
  have hM2 : rMod μ - 2 < b26 ^ 10 := lt260 (Nat.lt_of_le_of_lt (Nat.sub_le _ _) (rMod_lt hμ))
  obtain ⟨V2, hu2, ht2, hk2, hok2⟩ : ∃ V2, rU σ V2 u2 ∧ V2 39 = rMod μ - 2 ∧ (∀ r, r ≠ 39 → V2 r = V1 r) ∧ ∀ r, V2 r < b26 ^ 10 := by
    refine ⟨va_up V1 39 (rMod μ - 2), ?_, up_self _ _ _, fun r h => up_ne _ _ h, up_lt hok1 hM2⟩
    have h := hu1.trans (rU.of hu2e)
    rw [e39, hu1.V] at h
    exact h
  have f2_8_μ : V2 (8 + μ) = rMod μ := (hk2 _ (by omega)).trans f1_8_μ
  have f2_a : V2 (a) = rV σ a := (hk2 _ (by omega)).trans f1_a
  have f2_b : V2 (b) = rV σ b := (hk2 _ (by omega)).trans f1_b
  have f2_20 : V2 (20) = 1 := (hk2 _ (by omega)).trans f1_20
  refine lv_aload_n hx hb d_R_divide_20 rfl (lv_at hl 0 rfl) ?_
  refine lv_bipush (v := nI 45) hx hb d_R_divide_21 (by decide) ?_
  refine lv_iload_n hx hb d_R_divide_23 rfl (lv_at hl 2 rfl) ?_
  refine r_callv (np := 2) (As := [.int (nI (45)), .int (nI (a))]) (rest := []) ⟨hx, hb, hml, hown, ht⟩ hw (c_R_copy l G u2 (hu2.ok hok2) (by decide) (by omega) (by omega)) ⟨km_R_70, kv_R_copy, kx_R_copy, kc_R_copy⟩ (by decide +kernel) ⟨by decide, by decide⟩ rfl rfl rfl hl.1 rfl (by decide) d_R_divide_24 ⟨Nat.le_refl _, Nat.le_refl _⟩ (fun u3 H locs hp hw => ?_)
  obtain ⟨V3, hu3, ht3, hk3, hok3⟩ := q_copy hu2 hok2 hp
  have f3_8_μ : V3 (8 + μ) = rMod μ := (hk3 _ (by omega)).trans f2_8_μ
  have f3_a : V3 (a) = rV σ a := (hk3 _ (by omega)).trans f2_a
  have f3_b : V3 (b) = rV σ b := (hk3 _ (by omega)).trans f2_b
  have f3_20 : V3 (20) = 1 := (hk3 _ (by decide)).trans f2_20
  have f3_39 : V3 (39) = rMod μ - 2 := (hk3 _ (by decide)).trans ht2
  have f3_45 : V3 (45) = rV σ a := ht3.trans f2_a
  refine lv_aload_n hx hb d_R_divide_27 rfl (lv_at hl 0 rfl) ?_
  refine lv_bipush (v := nI 46) hx hb d_R_divide_28 (by decide) ?_
  refine lv_iload_n hx hb d_R_divide_30 rfl (lv_at hl 3 rfl) ?_
  refine lv_iload hx hb d_R_divide_31 (lv_at hl 4 rfl) ?_
  refine r_callv (np := 3) (As := [.int (nI (46)), .int (nI (b)), .int (nI (8 + μ))]) (rest := []) ⟨hx, hb, hml, hown, ht⟩ hw (c_R_power l G u3 (hu3.ok hok3) hμ (by decide) h3 (by omega) (by omega) (by decide) (by rw [hu3.V]; exact f3_8_μ) (by rw [hu3.V]; exact f3_20) (by rw [hu3.V, f3_39]; exact Nat.lt_of_le_of_lt (Nat.sub_le _ _) (rMod_lt hμ))) ⟨km_R_104, kv_R_power, kx_R_power, kc_R_power⟩ (by decide +kernel) ⟨by decide, by decide⟩ rfl rfl rfl hl.1 rfl (by decide) d_R_divide_33 ⟨Nat.le_refl _, Nat.le_refl _⟩ (fun u4 H locs hp hw => ?_)
  obtain ⟨V4, hu4, ht4, hk4, hok4⟩ := q_power hμ hu3 hok3 hp
  have f4_8_μ : V4 (8 + μ) = rMod μ := (hk4 _ (by omega) (by omega) (by omega)).trans f3_8_μ
  have f4_20 : V4 (20) = 1 := (hk4 _ (by omega) (by omega) (by omega)).trans f3_20
  have f4_39 : V4 (39) = rMod μ - 2 := (hk4 _ (by omega) (by omega) (by omega)).trans f3_39
  have f4_45 : V4 (45) = rV σ a := (hk4 _ (by omega) (by omega) (by omega)).trans f3_45
  have f4_46 : V4 46 = rV σ b ^ (rMod μ - 2) % rMod μ := by rw [ht4, f3_b, f3_39]
  refine lv_aload_n hx hb d_R_divide_36 rfl (lv_at hl 0 rfl) ?_
  refine lv_iload_n hx hb d_R_divide_37 rfl (lv_at hl 1 rfl) ?_
  refine lv_bipush (v := nI 45) hx hb d_R_divide_38 (by decide) ?_
  refine lv_bipush (v := nI 46) hx hb d_R_divide_40 (by decide) ?_
  refine lv_iload hx hb d_R_divide_42 (lv_at hl 4 rfl) ?_
  refine r_callv (np := 4) (As := [.int (nI (to)), .int (nI (45)), .int (nI (46)), .int (nI (8 + μ))]) (rest := []) ⟨hx, hb, hml, hown, ht⟩ hw (c_R_multiply l G u4 (hu4.ok hok4) (μ := μ) hμ (by omega) (by decide) (by decide) (by omega) (by rw [hu4.V]; exact f4_8_μ)) ⟨km_R_96, kv_R_multiply, kx_R_multiply, kc_R_multiply⟩ (by decide +kernel) ⟨by decide, by decide⟩ rfl rfl rfl hl.1 rfl (by decide) d_R_divide_44 ⟨Nat.le_refl _, Nat.le_refl _⟩ (fun u5 H locs hp hw => ?_)
  obtain ⟨V5, hu5, ht5, hk5, hok5⟩ := q_mul hμ hu4 hok4 hp
  have f5_to : V5 (to) = mm (rMod μ) (rV σ a) (rV σ b ^ (rMod μ - 2) % rMod μ) := ht5.trans (by simp only [f4_45, f4_46])
  refine z_vret (rZ _) hx hb hr hlocks u5 hw ⟨V5, hu5, f5_to, fun r h h38 h39 h44 h45 h46 => ?_, hok5⟩ d_R_divide_47
  rw [hk5 r h, hk4 r h46 h38 h44, hk3 r h45, hk2 r h39, hk1 r h39, hV0]
set_option maxHeartbeats 4000000 in
set_option maxRecDepth 100000 in
theorem c_R_copyPoint (l : Launch) (G : rG) (σ : rS) (hok : rOk σ) {to q : Nat} (h1 : to < 46) (h2 : q < 46) (hd : q + 2 < to ∨ to + 2 < q) : Met l y_R_copyPoint (zW y_R_copyPoint b_R_copyPoint 3 none) (zr 1 23) (va_Pc [.ref (rA G 0), .int (nI (to)), .int (nI (q))] (rC G σ)) (va_Qv (fun u => ∃ V, rU σ V u ∧ V to = rV σ q ∧ V (to + 1) = rV σ (q + 1) ∧ V (to + 2) = rV σ (q + 2) ∧ (∀ r, r ≠ to → r ≠ to + 1 → r ≠ to + 2 → V r = rV σ r) ∧ ∀ r, V r < b26 ^ 10) (fun u => rC G u) (rAA G)) 0 0 (rAA G) := by
  refine Met.ofW (cc := b_R_copyPoint) (maxL := 3) (ret := none) (by decide) rfl ?_
  intro p e s m args below meth c s₁ B hml hv
  obtain ⟨rfl, hw⟩ := hv
  have hx := B.exec
  have hb := B.bytes
  have hr := B.returns
  have hts := atoms_spec (ws := zW y_R_copyPoint b_R_copyPoint 3 none) B.pre
  have ht : ∀ w ∈ zT, w.before ([.ref (rA G 0), .int (nI (to)), .int (nI (q))] : List Value).toArray s = true := fun w h => hts w (List.mem_cons_of_mem _ h)
  have hown : s.vm.findClass R_R = some m.cls := findClass_of_methodNamed B.named
  have hlocks := B.notSynchronized
  have hl := lv_entry ([.ref (rA G 0), .int (nI (to)), .int (nI (q))]) (n := 3) (Nat.le_of_ble_eq_true rfl)
  rw [lg_entry_eq]
  generalize (lg_sl ([.ref (rA G 0), .int (nI (to)), .int (nI (q))]) ++ List.replicate (3 - (lg_sl ([.ref (rA G 0), .int (nI (to)), .int (nI (q))])).length) Slot.unset).toArray = ls at hl ⊢
  have hl : lv_has ls 3 [(0, .ref (rA G 0)), (1, .int (nI (to))), (2, .int (nI (q)))] := hl
  obtain ⟨V0, u0, hV0, hu0, hok0, hw⟩ : ∃ (V : Nat → Nat) (u : rS), V = rV σ ∧ rU σ V u ∧ (∀ r, V r < b26 ^ 10) ∧ rH G u s s.heap [] := ⟨rV σ, σ, rfl, rU.rfl' σ, hok, hw⟩
  have f0_0 : V0 (q) = rV σ (q) := by rw [hV0]
  have f0_1 : V0 (q + 1) = rV σ (q + 1) := by rw [hV0]
  have f0_2 : V0 (q + 2) = rV σ (q + 2) := by rw [hV0]
  refine lv_aload_n hx hb d_R_copyPoint_0 rfl (lv_at hl 0 rfl) ?_
  refine lv_iload_n hx hb d_R_copyPoint_1 rfl (lv_at hl 1 rfl) ?_
  refine lv_iload_n hx hb d_R_copyPoint_2 rfl (lv_at hl 2 rfl) ?_
  refine r_callv (np := 2) (As := [.int (nI (to)), .int (nI (q))]) (rest := []) ⟨hx, hb, hml, hown, ht⟩ hw (c_R_copy l G u0 (hu0.ok hok0) (by omega) (by omega) (by omega)) ⟨km_R_70, kv_R_copy, kx_R_copy, kc_R_copy⟩ (by decide +kernel) ⟨by decide, by decide⟩ rfl rfl rfl hl.1 rfl (by decide) d_R_copyPoint_3 ⟨Nat.le_refl _, Nat.le_refl _⟩ (fun u1 H locs hp hw => ?_)
  obtain ⟨V1, hu1, ht1, hk1, hok1⟩ := q_copy hu0 hok0 hp
  have f1_q : V1 (q) = rV σ (q) := (hk1 _ (by omega)).trans f0_0
  have f1_q_1 : V1 (q + 1) = rV σ (q + 1) := (hk1 _ (by omega)).trans f0_1
  have f1_q_2 : V1 (q + 2) = rV σ (q + 2) := (hk1 _ (by omega)).trans f0_2
  have f1_to : V1 (to) = rV σ (q) := ht1.trans f0_0
  refine lv_aload_n hx hb d_R_copyPoint_6 rfl (lv_at hl 0 rfl) ?_
  refine lv_iload_n hx hb d_R_copyPoint_7 rfl (lv_at hl 1 rfl) ?_
  refine lv_iconst (v := nI 1) hx hb d_R_copyPoint_8 (by decide) ?_
  refine lv_iadd hx hb d_R_copyPoint_9 ?_
  refine tp_i (y := nI (to + 1)) (nI_add _ _) ?_
  refine lv_iload_n hx hb d_R_copyPoint_10 rfl (lv_at hl 2 rfl) ?_
  refine lv_iconst (v := nI 1) hx hb d_R_copyPoint_11 (by decide) ?_
  refine lv_iadd hx hb d_R_copyPoint_12 ?_
  refine tp_i (y := nI (q + 1)) (nI_add _ _) ?_
  refine r_callv (np := 2) (As := [.int (nI (to + 1)), .int (nI (q + 1))]) (rest := []) ⟨hx, hb, hml, hown, ht⟩ hw (c_R_copy l G u1 (hu1.ok hok1) (by omega) (by omega) (by omega)) ⟨km_R_70, kv_R_copy, kx_R_copy, kc_R_copy⟩ (by decide +kernel) ⟨by decide, by decide⟩ rfl rfl rfl hl.1 rfl (by decide) d_R_copyPoint_13 ⟨Nat.le_refl _, Nat.le_refl _⟩ (fun u2 H locs hp hw => ?_)
  obtain ⟨V2, hu2, ht2, hk2, hok2⟩ := q_copy hu1 hok1 hp
  have f2_q : V2 (q) = rV σ (q) := (hk2 _ (by omega)).trans f1_q
  have f2_q_1 : V2 (q + 1) = rV σ (q + 1) := (hk2 _ (by omega)).trans f1_q_1
  have f2_q_2 : V2 (q + 2) = rV σ (q + 2) := (hk2 _ (by omega)).trans f1_q_2
  have f2_to : V2 (to) = rV σ (q) := (hk2 _ (by omega)).trans f1_to
  have f2_to_1 : V2 (to + 1) = rV σ (q + 1) := ht2.trans f1_q_1
  refine lv_aload_n hx hb d_R_copyPoint_16 rfl (lv_at hl 0 rfl) ?_
  refine lv_iload_n hx hb d_R_copyPoint_17 rfl (lv_at hl 1 rfl) ?_
  refine lv_iconst (v := nI 2) hx hb d_R_copyPoint_18 (by decide) ?_
  refine lv_iadd hx hb d_R_copyPoint_19 ?_
  refine tp_i (y := nI (to + 2)) (nI_add _ _) ?_
  refine lv_iload_n hx hb d_R_copyPoint_20 rfl (lv_at hl 2 rfl) ?_
  refine lv_iconst (v := nI 2) hx hb d_R_copyPoint_21 (by decide) ?_
  refine lv_iadd hx hb d_R_copyPoint_22 ?_
  refine tp_i (y := nI (q + 2)) (nI_add _ _) ?_
  refine r_callv (np := 2) (As := [.int (nI (to + 2)), .int (nI (q + 2))]) (rest := []) ⟨hx, hb, hml, hown, ht⟩ hw (c_R_copy l G u2 (hu2.ok hok2) (by omega) (by omega) (by omega)) ⟨km_R_70, kv_R_copy, kx_R_copy, kc_R_copy⟩ (by decide +kernel) ⟨by decide, by decide⟩ rfl rfl rfl hl.1 rfl (by decide) d_R_copyPoint_23 ⟨Nat.le_refl _, Nat.le_refl _⟩ (fun u3 H locs hp hw => ?_)
  obtain ⟨V3, hu3, ht3, hk3, hok3⟩ := q_copy hu2 hok2 hp
  have f3_to : V3 (to) = rV σ (q) := (hk3 _ (by omega)).trans f2_to
  have f3_to_1 : V3 (to + 1) = rV σ (q + 1) := (hk3 _ (by omega)).trans f2_to_1
  have f3_to_2 : V3 (to + 2) = rV σ (q + 2) := ht3.trans f2_q_2
  refine z_vret (rZ _) hx hb hr hlocks u3 hw ⟨V3, hu3, f3_to, f3_to_1, f3_to_2, fun r h h1 h2 => ?_, hok3⟩ d_R_copyPoint_26
  rw [hk3 r h2, hk2 r h1, hk1 r h, hV0]
set_option maxHeartbeats 4000000 in
set_option maxRecDepth 100000 in
theorem c_R_curve (l : Launch) (G : rG) (σ : rS) (hok : rOk σ) {to x : Nat} (h1 : to < 37) (h2 : x < 48) (hto : to ≠ 8) (hx1 : x ≠ 31) (hq : rV σ 8 = rMod 0) (h7 : rV σ 21 = 7) : Met l y_R_curve (zW y_R_curve b_R_curve 3 none) (zr 3 78) (va_Pc [.ref (rA G 0), .int (nI (to)), .int (nI (x))] (rC G σ)) (va_Qv (fun u => ∃ V, rU σ V u ∧ V to = pp (rMod 0) (mm (rMod 0) (mm (rMod 0) (rV σ x) (rV σ x)) (rV σ x)) 7 ∧ (∀ r, r ≠ to → r ≠ 31 → r ≠ 37 → V r = rV σ r) ∧ ∀ r, V r < b26 ^ 10) (fun u => rC G u) (rAA G)) 0 0 (rAA G) := by
  refine Met.ofW (cc := b_R_curve) (maxL := 3) (ret := none) (by decide) rfl ?_
  intro p e s m args below meth c s₁ B hml hv
  obtain ⟨rfl, hw⟩ := hv
  have hx := B.exec
  have hb := B.bytes
  have hr := B.returns
  have hts := atoms_spec (ws := zW y_R_curve b_R_curve 3 none) B.pre
  have ht : ∀ w ∈ zT, w.before ([.ref (rA G 0), .int (nI (to)), .int (nI (x))] : List Value).toArray s = true := fun w h => hts w (List.mem_cons_of_mem _ h)
  have hown : s.vm.findClass R_R = some m.cls := findClass_of_methodNamed B.named
  have hlocks := B.notSynchronized
  have hl := lv_entry ([.ref (rA G 0), .int (nI (to)), .int (nI (x))]) (n := 3) (Nat.le_of_ble_eq_true rfl)
  rw [lg_entry_eq]
  generalize (lg_sl ([.ref (rA G 0), .int (nI (to)), .int (nI (x))]) ++ List.replicate (3 - (lg_sl ([.ref (rA G 0), .int (nI (to)), .int (nI (x))])).length) Slot.unset).toArray = ls at hl ⊢
  have hl : lv_has ls 3 [(0, .ref (rA G 0)), (1, .int (nI (to))), (2, .int (nI (x)))] := hl
  obtain ⟨V0, u0, hV0, hu0, hok0, hw⟩ : ∃ (V : Nat → Nat) (u : rS), V = rV σ ∧ rU σ V u ∧ (∀ r, V r < b26 ^ 10) ∧ rH G u s s.heap [] := ⟨rV σ, σ, rfl, rU.rfl' σ, hok, hw⟩
  have f0_8 : V0 8 = rMod 0 := by rw [hV0]; exact hq
  have f0_x : V0 x = rV σ x := by rw [hV0]
  have f0_21 : V0 21 = 7 := by rw [hV0]; exact h7
  refine lv_aload_n hx hb d_R_curve_0 rfl (lv_at hl 0 rfl) ?_
  refine lv_bipush (v := nI 31) hx hb d_R_curve_1 (by decide) ?_
  refine lv_iload_n hx hb d_R_curve_3 rfl (lv_at hl 2 rfl) ?_
  refine lv_iload_n hx hb d_R_curve_4 rfl (lv_at hl 2 rfl) ?_
  refine lv_bipush (v := nI 8) hx hb d_R_curve_5 (by decide) ?_
  refine r_callv (np := 4) (As := [.int (nI (31)), .int (nI (x)), .int (nI (x)), .int (nI (8))]) (rest := []) ⟨hx, hb, hml, hown, ht⟩ hw (c_R_multiply l G u0 (hu0.ok hok0) (μ := 0) (by decide) (by decide) (by omega) (by omega) (by decide) (by rw [hu0.V]; exact f0_8)) ⟨km_R_96, kv_R_multiply, kx_R_multiply, kc_R_multiply⟩ (by decide +kernel) ⟨by decide, by decide⟩ rfl rfl rfl hl.1 rfl (by decide) d_R_curve_7 ⟨Nat.le_refl _, Nat.le_refl _⟩ (fun u1 H locs hp hw => ?_)
  obtain ⟨V1, hu1, ht1, hk1, hok1⟩ := q_mul (by decide) hu0 hok0 hp
  have f1_8 : V1 (8) = rMod 0 := (hk1 _ (by decide)).trans f0_8
  have f1_x : V1 (x) = rV σ x := (hk1 _ (by omega)).trans f0_x
  have f1_21 : V1 (21) = 7 := (hk1 _ (by decide)).trans f0_21
  have f1_31 : V1 (31) = mm (rMod 0) (rV σ x) (rV σ x) := ht1.trans (by simp only [f0_x])
  refine lv_aload_n hx hb d_R_curve_10 rfl (lv_at hl 0 rfl) ?_
  refine lv_bipush (v := nI 31) hx hb d_R_curve_11 (by decide) ?_
  refine lv_bipush (v := nI 31) hx hb d_R_curve_13 (by decide) ?_
  refine lv_iload_n hx hb d_R_curve_15 rfl (lv_at hl 2 rfl) ?_
  refine lv_bipush (v := nI 8) hx hb d_R_curve_16 (by decide) ?_
  refine r_callv (np := 4) (As := [.int (nI (31)), .int (nI (31)), .int (nI (x)), .int (nI (8))]) (rest := []) ⟨hx, hb, hml, hown, ht⟩ hw (c_R_multiply l G u1 (hu1.ok hok1) (μ := 0) (by decide) (by decide) (by decide) (by omega) (by decide) (by rw [hu1.V]; exact f1_8)) ⟨km_R_96, kv_R_multiply, kx_R_multiply, kc_R_multiply⟩ (by decide +kernel) ⟨by decide, by decide⟩ rfl rfl rfl hl.1 rfl (by decide) d_R_curve_18 ⟨Nat.le_refl _, Nat.le_refl _⟩ (fun u2 H locs hp hw => ?_)
  obtain ⟨V2, hu2, ht2, hk2, hok2⟩ := q_mul (by decide) hu1 hok1 hp
  have f2_8 : V2 (8) = rMod 0 := (hk2 _ (by decide)).trans f1_8
  have f2_x : V2 (x) = rV σ x := (hk2 _ (by omega)).trans f1_x
  have f2_21 : V2 (21) = 7 := (hk2 _ (by decide)).trans f1_21
  have f2_31 : V2 (31) = mm (rMod 0) (mm (rMod 0) (rV σ x) (rV σ x)) (rV σ x) := ht2.trans (by simp only [f1_31, f1_x])
  refine lv_aload_n hx hb d_R_curve_21 rfl (lv_at hl 0 rfl) ?_
  refine lv_iload_n hx hb d_R_curve_22 rfl (lv_at hl 1 rfl) ?_
  refine lv_bipush (v := nI 31) hx hb d_R_curve_23 (by decide) ?_
  refine lv_bipush (v := nI 21) hx hb d_R_curve_25 (by decide) ?_
  refine lv_bipush (v := nI 8) hx hb d_R_curve_27 (by decide) ?_
  refine r_callv (np := 4) (As := [.int (nI (to)), .int (nI (31)), .int (nI (21)), .int (nI (8))]) (rest := []) ⟨hx, hb, hml, hown, ht⟩ hw (c_R_plus l G u2 (hu2.ok hok2) (by omega) (by decide) (by decide) (by decide) (by rw [hu2.V, f2_8]; exact rMod_le (by decide)) (by rw [hu2.V, f2_31, f2_8]; exact mm_lt (rMod_pos (by decide))) (by rw [hu2.V, f2_21, f2_8]; exact (by decide +kernel))) ⟨km_R_124, kv_R_plus, kx_R_plus, kc_R_plus⟩ (by decide +kernel) ⟨by decide, by decide⟩ rfl rfl rfl hl.1 rfl (by decide) d_R_curve_29 ⟨Nat.le_refl _, Nat.le_refl _⟩ (fun u3 H locs hp hw => ?_)
  obtain ⟨V3, hu3, ht3, hk3, hok3⟩ := q_plus hu2 hok2 (by rw [f2_8]; exact rMod_pos (by decide)) (by rw [f2_8]; exact rMod_le (by decide)) hp
  have f3_to : V3 (to) = pp (rMod 0) (mm (rMod 0) (mm (rMod 0) (rV σ x) (rV σ x)) (rV σ x)) (7) := ht3.trans (by simp only [f2_21, f2_31, f2_8])
  refine z_vret (rZ _) hx hb hr hlocks u3 hw ⟨V3, hu3, f3_to, fun r h h31 h37 => ?_, hok3⟩ d_R_curve_32
  rw [hk3 r h h37, hk2 r h31, hk1 r h31, hV0]
