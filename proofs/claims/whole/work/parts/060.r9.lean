/-! twice, in numbers and in the reference -/
def s8 (M a b : Nat) : Nat := ss M (ss M (ss M (ss M (ss M (ss M (ss M (ss M a b) b) b) b) b) b) b) b
def d8 (M a : Nat) : Nat := pp M (pp M (pp M a a) (pp M a a)) (pp M (pp M a a) (pp M a a))
def tU (M x : Nat) : Nat := pp M (mm M x x) (pp M (mm M x x) (mm M x x))
def tW (M x y z : Nat) : Nat := mm M (mm M x y) (mm M y z)
def tZ (M x y z : Nat) : Nat := s8 M (mm M (tU M x) (tU M x)) (tW M x y z)
def tX (M x y z : Nat) : Nat := ss M (pp M (pp M (tW M x y z) (tW M x y z)) (pp M (tW M x y z) (tW M x y z))) (tZ M x y z)
def tY (M y z : Nat) : Nat := mm M (mm M y (mm M y z)) (mm M y (mm M y z))
def twX (M x y z : Nat) : Nat := pp M (mm M (tZ M x y z) (mm M y z)) (mm M (tZ M x y z) (mm M y z))
def twY (M x y z : Nat) : Nat := s8 M (mm M (tU M x) (tX M x y z)) (tY M y z)
def twZ (M y z : Nat) : Nat := d8 M (mm M (mm M (mm M y z) (mm M y z)) (mm M y z))
set_option maxHeartbeats 4000000 in
set_option maxRecDepth 100000 in
theorem c_R_twice (l : Launch) (G : rG) (σ : rS) (hok : rOk σ) {p0 : Nat} (h1 : 21 < p0) (h2 : p0 < 29) (hq : rV σ 8 = rMod 0) (hx0 : rV σ p0 < rMod 0) (hy0 : rV σ (p0 + 1) < rMod 0) (hz0 : rV σ (p0 + 2) < rMod 0) : Met l y_R_twice (zW y_R_twice b_R_twice 3 none) (zr 3 78) (va_Pc [.ref (rA G 0), .int (nI (p0))] (rC G σ)) (va_Qv (fun u => ∃ V, rU σ V u ∧ V p0 = twX (rMod 0) (rV σ p0) (rV σ (p0 + 1)) (rV σ (p0 + 2)) ∧ V (p0 + 1) = twY (rMod 0) (rV σ p0) (rV σ (p0 + 1)) (rV σ (p0 + 2)) ∧ V (p0 + 2) = twZ (rMod 0) (rV σ (p0 + 1)) (rV σ (p0 + 2)) ∧ (∀ r, r ≠ p0 → r ≠ p0 + 1 → r ≠ p0 + 2 → (r < 31 ∨ 37 < r) → V r = rV σ r) ∧ ∀ r, V r < b26 ^ 10) (fun u => rC G u) (rAA G)) 0 0 (rAA G) := by
  refine Met.ofW (cc := b_R_twice) (maxL := 3) (ret := none) (by decide) rfl ?_
  intro p e s m args below meth c s₁ B hml hv
  obtain ⟨rfl, hw⟩ := hv
  have hx := B.exec
  have hb := B.bytes
  have hr := B.returns
  have hts := atoms_spec (ws := zW y_R_twice b_R_twice 3 none) B.pre
  have ht : ∀ w ∈ zT, w.before ([.ref (rA G 0), .int (nI (p0))] : List Value).toArray s = true := fun w h => hts w (List.mem_cons_of_mem _ h)
  have hown : s.vm.findClass R_R = some m.cls := findClass_of_methodNamed B.named
  have hlocks := B.notSynchronized
  have hl := lv_entry ([.ref (rA G 0), .int (nI (p0))]) (n := 3) (Nat.le_of_ble_eq_true rfl)
  rw [lg_entry_eq]
  generalize (lg_sl ([.ref (rA G 0), .int (nI (p0))]) ++ List.replicate (3 - (lg_sl ([.ref (rA G 0), .int (nI (p0))])).length) Slot.unset).toArray = ls at hl ⊢
  have hl : lv_has ls 3 [(0, .ref (rA G 0)), (1, .int (nI (p0)))] := hl
  obtain ⟨V0, u0, hV0, hu0, hok0, hw⟩ : ∃ (V : Nat → Nat) (u : rS), V = rV σ ∧ rU σ V u ∧ (∀ r, V r < b26 ^ 10) ∧ rH G u s s.heap [] := ⟨rV σ, σ, rfl, rU.rfl' σ, hok, hw⟩
  obtain ⟨x, hxe⟩ : ∃ x, x = rV σ p0 := ⟨_, rfl⟩
  obtain ⟨y, hye⟩ : ∃ y, y = rV σ (p0 + 1) := ⟨_, rfl⟩
  obtain ⟨z, hze⟩ : ∃ z, z = rV σ (p0 + 2) := ⟨_, rfl⟩
  obtain ⟨Q, hQ⟩ : ∃ Q, Q = rMod 0 := ⟨_, rfl⟩
  have f0_8 : V0 8 = rMod 0 := by rw [hV0]; exact hq
  have f0_x : V0 p0 = x := by rw [hV0, hxe]
  have f0_y : V0 (p0 + 1) = y := by rw [hV0, hye]
  have f0_z : V0 (p0 + 2) = z := by rw [hV0, hze]
  rw [← hxe] at hx0
  rw [← hye] at hy0
  rw [← hze] at hz0
  refine lv_aload_n hx hb d_R_twice_0 rfl (lv_at hl 0 rfl) ?_
  refine lv_bipush (v := nI 31) hx hb d_R_twice_1 (by decide) ?_
  refine lv_iload_n hx hb d_R_twice_3 rfl (lv_at hl 1 rfl) ?_
  refine lv_iload_n hx hb d_R_twice_4 rfl (lv_at hl 1 rfl) ?_
  refine lv_bipush (v := nI 8) hx hb d_R_twice_5 (by decide) ?_
  refine r_callv (np := 4) (As := [.int (nI (31)), .int (nI (p0)), .int (nI (p0)), .int (nI (8))]) (rest := []) ⟨hx, hb, hml, hown, ht⟩ hw (c_R_multiply l G u0 (hu0.ok hok0) (μ := 0) (by decide) (by decide) (by omega) (by omega) (by decide) (by rw [hu0.V]; exact f0_8)) ⟨km_R_96, kv_R_multiply, kx_R_multiply, kc_R_multiply⟩ (by decide +kernel) ⟨by decide, by decide⟩ rfl rfl rfl hl.1 rfl (by decide) d_R_twice_7 ⟨Nat.le_refl _, Nat.le_refl _⟩ (fun u1 H locs hp hw => ?_)
  obtain ⟨V1, hu1, ht1, hk1, hok1⟩ := q_mul (by decide) hu0 hok0 hp
  have f1_8 : V1 (8) = rMod 0 := (hk1 _ (by decide)).trans f0_8
  have f1_p0 : V1 (p0) = x := (hk1 _ (by omega)).trans f0_x
  have f1_p0_1 : V1 (p0 + 1) = y := (hk1 _ (by omega)).trans f0_y
  have f1_p0_2 : V1 (p0 + 2) = z := (hk1 _ (by omega)).trans f0_z
  have f1_31 : V1 (31) = mm (rMod 0) (x) (x) := ht1.trans (by simp only [f0_x])
  refine lv_aload_n hx hb d_R_twice_10 rfl (lv_at hl 0 rfl) ?_
  refine lv_bipush (v := nI 34) hx hb d_R_twice_11 (by decide) ?_
  refine lv_bipush (v := nI 31) hx hb d_R_twice_13 (by decide) ?_
  refine lv_bipush (v := nI 31) hx hb d_R_twice_15 (by decide) ?_
  refine lv_bipush (v := nI 8) hx hb d_R_twice_17 (by decide) ?_
  refine r_callv (np := 4) (As := [.int (nI (34)), .int (nI (31)), .int (nI (31)), .int (nI (8))]) (rest := []) ⟨hx, hb, hml, hown, ht⟩ hw (c_R_plus l G u1 (hu1.ok hok1) (by decide) (by decide) (by decide) (by decide) (by rw [hu1.V, f1_8]; exact rMod_le (by decide)) (by rw [hu1.V, f1_31, f1_8]; exact mm_lt (rMod_pos (by decide))) (by rw [hu1.V, f1_31, f1_8]; exact mm_lt (rMod_pos (by decide)))) ⟨km_R_124, kv_R_plus, kx_R_plus, kc_R_plus⟩ (by decide +kernel) ⟨by decide, by decide⟩ rfl rfl rfl hl.1 rfl (by decide) d_R_twice_19 ⟨Nat.le_refl _, Nat.le_refl _⟩ (fun u2 H locs hp hw => ?_)
  obtain ⟨V2, hu2, ht2, hk2, hok2⟩ := q_plus hu1 hok1 (by rw [f1_8]; exact rMod_pos (by decide)) (by rw [f1_8]; exact rMod_le (by decide)) hp
  have f2_8 : V2 (8) = rMod 0 := (hk2 _ (by decide) (by decide)).trans f1_8
  have f2_p0 : V2 (p0) = x := (hk2 _ (by omega) (by omega)).trans f1_p0
  have f2_p0_1 : V2 (p0 + 1) = y := (hk2 _ (by omega) (by omega)).trans f1_p0_1
  have f2_p0_2 : V2 (p0 + 2) = z := (hk2 _ (by omega) (by omega)).trans f1_p0_2
  have f2_31 : V2 (31) = mm (rMod 0) (x) (x) := (hk2 _ (by decide) (by decide)).trans f1_31
  have f2_34 : V2 (34) = pp (rMod 0) (mm (rMod 0) (x) (x)) (mm (rMod 0) (x) (x)) := ht2.trans (by simp only [f1_31, f1_8])
  refine lv_aload_n hx hb d_R_twice_22 rfl (lv_at hl 0 rfl) ?_
  refine lv_bipush (v := nI 31) hx hb d_R_twice_23 (by decide) ?_
  refine lv_bipush (v := nI 31) hx hb d_R_twice_25 (by decide) ?_
  refine lv_bipush (v := nI 34) hx hb d_R_twice_27 (by decide) ?_
  refine lv_bipush (v := nI 8) hx hb d_R_twice_29 (by decide) ?_
  refine r_callv (np := 4) (As := [.int (nI (31)), .int (nI (31)), .int (nI (34)), .int (nI (8))]) (rest := []) ⟨hx, hb, hml, hown, ht⟩ hw (c_R_plus l G u2 (hu2.ok hok2) (by decide) (by decide) (by decide) (by decide) (by rw [hu2.V, f2_8]; exact rMod_le (by decide)) (by rw [hu2.V, f2_31, f2_8]; exact mm_lt (rMod_pos (by decide))) (by rw [hu2.V, f2_34, f2_8]; exact pp_lt (rMod_pos (by decide)))) ⟨km_R_124, kv_R_plus, kx_R_plus, kc_R_plus⟩ (by decide +kernel) ⟨by decide, by decide⟩ rfl rfl rfl hl.1 rfl (by decide) d_R_twice_31 ⟨Nat.le_refl _, Nat.le_refl _⟩ (fun u3 H locs hp hw => ?_)
  obtain ⟨V3, hu3, ht3, hk3, hok3⟩ := q_plus hu2 hok2 (by rw [f2_8]; exact rMod_pos (by decide)) (by rw [f2_8]; exact rMod_le (by decide)) hp
  have f3_8 : V3 (8) = rMod 0 := (hk3 _ (by decide) (by decide)).trans f2_8
  have f3_p0 : V3 (p0) = x := (hk3 _ (by omega) (by omega)).trans f2_p0
  have f3_p0_1 : V3 (p0 + 1) = y := (hk3 _ (by omega) (by omega)).trans f2_p0_1
  have f3_p0_2 : V3 (p0 + 2) = z := (hk3 _ (by omega) (by omega)).trans f2_p0_2
  have f3_34 : V3 (34) = pp (rMod 0) (mm (rMod 0) (x) (x)) (mm (rMod 0) (x) (x)) := (hk3 _ (by decide) (by decide)).trans f2_34
  have f3_31 : V3 (31) = pp (rMod 0) (mm (rMod 0) (x) (x)) (pp (rMod 0) (mm (rMod 0) (x) (x)) (mm (rMod 0) (x) (x))) := ht3.trans (by simp only [f2_31, f2_34, f2_8])
  have f3_31n : V3 (31) = tU (rMod 0) x := f3_31
  refine lv_aload_n hx hb d_R_twice_34 rfl (lv_at hl 0 rfl) ?_
  refine lv_bipush (v := nI 32) hx hb d_R_twice_35 (by decide) ?_
  refine lv_iload_n hx hb d_R_twice_37 rfl (lv_at hl 1 rfl) ?_
  refine lv_iconst (v := nI 1) hx hb d_R_twice_38 (by decide) ?_
  refine lv_iadd hx hb d_R_twice_39 ?_
  refine tp_i (y := nI (p0 + 1)) (nI_add _ _) ?_
  refine lv_iload_n hx hb d_R_twice_40 rfl (lv_at hl 1 rfl) ?_
  refine lv_iconst (v := nI 2) hx hb d_R_twice_41 (by decide) ?_
  refine lv_iadd hx hb d_R_twice_42 ?_
  refine tp_i (y := nI (p0 + 2)) (nI_add _ _) ?_
  refine lv_bipush (v := nI 8) hx hb d_R_twice_43 (by decide) ?_
  refine r_callv (np := 4) (As := [.int (nI (32)), .int (nI (p0 + 1)), .int (nI (p0 + 2)), .int (nI (8))]) (rest := []) ⟨hx, hb, hml, hown, ht⟩ hw (c_R_multiply l G u3 (hu3.ok hok3) (μ := 0) (by decide) (by decide) (by omega) (by omega) (by decide) (by rw [hu3.V]; exact f3_8)) ⟨km_R_96, kv_R_multiply, kx_R_multiply, kc_R_multiply⟩ (by decide +kernel) ⟨by decide, by decide⟩ rfl rfl rfl hl.1 rfl (by decide) d_R_twice_45 ⟨Nat.le_refl _, Nat.le_refl _⟩ (fun u4 H locs hp hw => ?_)
  obtain ⟨V4, hu4, ht4, hk4, hok4⟩ := q_mul (by decide) hu3 hok3 hp
  have f4_8 : V4 (8) = rMod 0 := (hk4 _ (by decide)).trans f3_8
  have f4_p0 : V4 (p0) = x := (hk4 _ (by omega)).trans f3_p0
  have f4_p0_1 : V4 (p0 + 1) = y := (hk4 _ (by omega)).trans f3_p0_1
  have f4_p0_2 : V4 (p0 + 2) = z := (hk4 _ (by omega)).trans f3_p0_2
  have f4_31 : V4 (31) = tU (rMod 0) x := (hk4 _ (by decide)).trans f3_31n
  have f4_32 : V4 (32) = mm (rMod 0) (y) (z) := ht4.trans (by simp only [f3_p0_1, f3_p0_2])
  refine lv_aload_n hx hb d_R_twice_48 rfl (lv_at hl 0 rfl) ?_
  refine lv_bipush (v := nI 33) hx hb d_R_twice_49 (by decide) ?_
  refine lv_iload_n hx hb d_R_twice_51 rfl (lv_at hl 1 rfl) ?_
  refine lv_iload_n hx hb d_R_twice_52 rfl (lv_at hl 1 rfl) ?_
  refine lv_iconst (v := nI 1) hx hb d_R_twice_53 (by decide) ?_
  refine lv_iadd hx hb d_R_twice_54 ?_
  refine tp_i (y := nI (p0 + 1)) (nI_add _ _) ?_
  refine lv_bipush (v := nI 8) hx hb d_R_twice_55 (by decide) ?_
  refine r_callv (np := 4) (As := [.int (nI (33)), .int (nI (p0)), .int (nI (p0 + 1)), .int (nI (8))]) (rest := []) ⟨hx, hb, hml, hown, ht⟩ hw (c_R_multiply l G u4 (hu4.ok hok4) (μ := 0) (by decide) (by decide) (by omega) (by omega) (by decide) (by rw [hu4.V]; exact f4_8)) ⟨km_R_96, kv_R_multiply, kx_R_multiply, kc_R_multiply⟩ (by decide +kernel) ⟨by decide, by decide⟩ rfl rfl rfl hl.1 rfl (by decide) d_R_twice_57 ⟨Nat.le_refl _, Nat.le_refl _⟩ (fun u5 H locs hp hw => ?_)
  obtain ⟨V5, hu5, ht5, hk5, hok5⟩ := q_mul (by decide) hu4 hok4 hp
  have f5_8 : V5 (8) = rMod 0 := (hk5 _ (by decide)).trans f4_8
  have f5_p0 : V5 (p0) = x := (hk5 _ (by omega)).trans f4_p0
  have f5_p0_1 : V5 (p0 + 1) = y := (hk5 _ (by omega)).trans f4_p0_1
  have f5_p0_2 : V5 (p0 + 2) = z := (hk5 _ (by omega)).trans f4_p0_2
  have f5_31 : V5 (31) = tU (rMod 0) x := (hk5 _ (by decide)).trans f4_31
  have f5_32 : V5 (32) = mm (rMod 0) (y) (z) := (hk5 _ (by decide)).trans f4_32
  have f5_33 : V5 (33) = mm (rMod 0) (x) (y) := ht5.trans (by simp only [f4_p0, f4_p0_1])
  refine lv_aload_n hx hb d_R_twice_60 rfl (lv_at hl 0 rfl) ?_
  refine lv_bipush (v := nI 33) hx hb d_R_twice_61 (by decide) ?_
  refine lv_bipush (v := nI 33) hx hb d_R_twice_63 (by decide) ?_
  refine lv_bipush (v := nI 32) hx hb d_R_twice_65 (by decide) ?_
  refine lv_bipush (v := nI 8) hx hb d_R_twice_67 (by decide) ?_
  refine r_callv (np := 4) (As := [.int (nI (33)), .int (nI (33)), .int (nI (32)), .int (nI (8))]) (rest := []) ⟨hx, hb, hml, hown, ht⟩ hw (c_R_multiply l G u5 (hu5.ok hok5) (μ := 0) (by decide) (by decide) (by decide) (by decide) (by decide) (by rw [hu5.V]; exact f5_8)) ⟨km_R_96, kv_R_multiply, kx_R_multiply, kc_R_multiply⟩ (by decide +kernel) ⟨by decide, by decide⟩ rfl rfl rfl hl.1 rfl (by decide) d_R_twice_69 ⟨Nat.le_refl _, Nat.le_refl _⟩ (fun u6 H locs hp hw => ?_)
  obtain ⟨V6, hu6, ht6, hk6, hok6⟩ := q_mul (by decide) hu5 hok5 hp
  have f6_8 : V6 (8) = rMod 0 := (hk6 _ (by decide)).trans f5_8
  have f6_p0 : V6 (p0) = x := (hk6 _ (by omega)).trans f5_p0
  have f6_p0_1 : V6 (p0 + 1) = y := (hk6 _ (by omega)).trans f5_p0_1
  have f6_p0_2 : V6 (p0 + 2) = z := (hk6 _ (by omega)).trans f5_p0_2
  have f6_31 : V6 (31) = tU (rMod 0) x := (hk6 _ (by decide)).trans f5_31
  have f6_32 : V6 (32) = mm (rMod 0) (y) (z) := (hk6 _ (by decide)).trans f5_32
  have f6_33 : V6 (33) = mm (rMod 0) (mm (rMod 0) (x) (y)) (mm (rMod 0) (y) (z)) := ht6.trans (by simp only [f5_32, f5_33])
  have f6_33n : V6 (33) = tW (rMod 0) x y z := f6_33
  refine lv_aload_n hx hb d_R_twice_72 rfl (lv_at hl 0 rfl) ?_
  refine lv_bipush (v := nI 36) hx hb d_R_twice_73 (by decide) ?_
  refine lv_bipush (v := nI 31) hx hb d_R_twice_75 (by decide) ?_
  refine lv_bipush (v := nI 31) hx hb d_R_twice_77 (by decide) ?_
  refine lv_bipush (v := nI 8) hx hb d_R_twice_79 (by decide) ?_
  refine r_callv (np := 4) (As := [.int (nI (36)), .int (nI (31)), .int (nI (31)), .int (nI (8))]) (rest := []) ⟨hx, hb, hml, hown, ht⟩ hw (c_R_multiply l G u6 (hu6.ok hok6) (μ := 0) (by decide) (by decide) (by decide) (by decide) (by decide) (by rw [hu6.V]; exact f6_8)) ⟨km_R_96, kv_R_multiply, kx_R_multiply, kc_R_multiply⟩ (by decide +kernel) ⟨by decide, by decide⟩ rfl rfl rfl hl.1 rfl (by decide) d_R_twice_81 ⟨Nat.le_refl _, Nat.le_refl _⟩ (fun u7 H locs hp hw => ?_)
  obtain ⟨V7, hu7, ht7, hk7, hok7⟩ := q_mul (by decide) hu6 hok6 hp
  have f7_8 : V7 (8) = rMod 0 := (hk7 _ (by decide)).trans f6_8
  have f7_p0_1 : V7 (p0 + 1) = y := (hk7 _ (by omega)).trans f6_p0_1
  have f7_31 : V7 (31) = tU (rMod 0) x := (hk7 _ (by decide)).trans f6_31
  have f7_32 : V7 (32) = mm (rMod 0) (y) (z) := (hk7 _ (by decide)).trans f6_32
  have f7_33 : V7 (33) = tW (rMod 0) x y z := (hk7 _ (by decide)).trans f6_33n
  have f7_36 : V7 (36) = mm (rMod 0) (tU (rMod 0) x) (tU (rMod 0) x) := ht7.trans (by simp only [f6_31])
  refine lv_iconst (v := nI 0) hx hb d_R_twice_84 (by decide) ?_
  refine lv_istore_n (lv' := [(2, .int (nI (0))), (0, .ref (rA G 0)), (1, .int (nI (p0)))]) hx hb d_R_twice_85 rfl hl (by decide) rfl (fun ls hl => ?_)
  refine lv_iload_n hx hb d_R_twice_86 rfl (lv_at hl 0 rfl) ?_
  refine lv_bipush (v := nI 8) hx hb d_R_twice_87 (by decide) ?_
  refine n_ge (tgt := 110) hx hb d_R_twice_89 (by decide) (by decide) (by decide) (fun h => absurd h (by decide)) (fun _ => ?_)
  refine lv_aload_n hx hb d_R_twice_92 rfl (lv_at hl 1 rfl) ?_
  refine lv_bipush (v := nI 36) hx hb d_R_twice_93 (by decide) ?_
  refine lv_bipush (v := nI 36) hx hb d_R_twice_95 (by decide) ?_
  refine lv_bipush (v := nI 33) hx hb d_R_twice_97 (by decide) ?_
  refine lv_bipush (v := nI 8) hx hb d_R_twice_99 (by decide) ?_
  refine r_callv (np := 4) (As := [.int (nI (36)), .int (nI (36)), .int (nI (33)), .int (nI (8))]) (rest := []) ⟨hx, hb, hml, hown, ht⟩ hw (c_R_minus l G u7 (hu7.ok hok7) (by decide) (by decide) (by decide) (by decide) (by decide) (by decide) (by decide) (by rw [hu7.V, f7_8]; exact rMod_le (by decide)) (by rw [hu7.V, f7_36, f7_8]; exact mm_lt (rMod_pos (by decide))) (by rw [hu7.V, f7_33, f7_8]; exact mm_lt (rMod_pos (by decide)))) ⟨km_R_112, kv_R_minus, kx_R_minus, kc_R_minus⟩ (by decide +kernel) ⟨by decide, by decide⟩ rfl rfl rfl hl.1 rfl (by decide) d_R_twice_101 ⟨Nat.le_refl _, Nat.le_refl _⟩ (fun u8 H locs hp hw => ?_)
  obtain ⟨V8, hu8, ht8, hk8, hok8⟩ := q_minus hu7 hok7 (by rw [f7_8]; exact rMod_pos (by decide)) (by rw [f7_8]; exact rMod_le (by decide)) hp
  have f8_8 : V8 (8) = rMod 0 := (hk8 _ (by decide) (by decide)).trans f7_8
  have f8_p0_1 : V8 (p0 + 1) = y := (hk8 _ (by omega) (by omega)).trans f7_p0_1
  have f8_31 : V8 (31) = tU (rMod 0) x := (hk8 _ (by decide) (by decide)).trans f7_31
  have f8_32 : V8 (32) = mm (rMod 0) (y) (z) := (hk8 _ (by decide) (by decide)).trans f7_32
  have f8_33 : V8 (33) = tW (rMod 0) x y z := (hk8 _ (by decide) (by decide)).trans f7_33
  have f8_36 : V8 (36) = ss (rMod 0) (mm (rMod 0) (tU (rMod 0) x) (tU (rMod 0) x)) (tW (rMod 0) x y z) := ht8.trans (by simp only [f7_33, f7_36, f7_8])
  refine lv_iinc (v := nI 1) (lv' := [(2, .int (nI (1))), (0, .ref (rA G 0)), (1, .int (nI (p0)))]) hx hb d_R_twice_104 hl (k := 0) rfl (by decide) (by decide) rfl (fun ls hl => ?_)
  refine lv_goto (tgt := 86) hx hb d_R_twice_107 (by decide) ?_
  refine lv_iload_n hx hb d_R_twice_86 rfl (lv_at hl 0 rfl) ?_
  refine lv_bipush (v := nI 8) hx hb d_R_twice_87 (by decide) ?_
  refine n_ge (tgt := 110) hx hb d_R_twice_89 (by decide) (by decide) (by decide) (fun h => absurd h (by decide)) (fun _ => ?_)
  refine lv_aload_n hx hb d_R_twice_92 rfl (lv_at hl 1 rfl) ?_
  refine lv_bipush (v := nI 36) hx hb d_R_twice_93 (by decide) ?_
  refine lv_bipush (v := nI 36) hx hb d_R_twice_95 (by decide) ?_
  refine lv_bipush (v := nI 33) hx hb d_R_twice_97 (by decide) ?_
  refine lv_bipush (v := nI 8) hx hb d_R_twice_99 (by decide) ?_
  refine r_callv (np := 4) (As := [.int (nI (36)), .int (nI (36)), .int (nI (33)), .int (nI (8))]) (rest := []) ⟨hx, hb, hml, hown, ht⟩ hw (c_R_minus l G u8 (hu8.ok hok8) (by decide) (by decide) (by decide) (by decide) (by decide) (by decide) (by decide) (by rw [hu8.V, f8_8]; exact rMod_le (by decide)) (by rw [hu8.V, f8_36, f8_8]; exact ss_lt (rMod_pos (by decide))) (by rw [hu8.V, f8_33, f8_8]; exact mm_lt (rMod_pos (by decide)))) ⟨km_R_112, kv_R_minus, kx_R_minus, kc_R_minus⟩ (by decide +kernel) ⟨by decide, by decide⟩ rfl rfl rfl hl.1 rfl (by decide) d_R_twice_101 ⟨Nat.le_refl _, Nat.le_refl _⟩ (fun u9 H locs hp hw => ?_)
  obtain ⟨V9, hu9, ht9, hk9, hok9⟩ := q_minus hu8 hok8 (by rw [f8_8]; exact rMod_pos (by decide)) (by rw [f8_8]; exact rMod_le (by decide)) hp
  have f9_8 : V9 (8) = rMod 0 := (hk9 _ (by decide) (by decide)).trans f8_8
  have f9_p0_1 : V9 (p0 + 1) = y := (hk9 _ (by omega) (by omega)).trans f8_p0_1
  have f9_31 : V9 (31) = tU (rMod 0) x := (hk9 _ (by decide) (by decide)).trans f8_31
  have f9_32 : V9 (32) = mm (rMod 0) (y) (z) := (hk9 _ (by decide) (by decide)).trans f8_32
  have f9_33 : V9 (33) = tW (rMod 0) x y z := (hk9 _ (by decide) (by decide)).trans f8_33
  have f9_36 : V9 (36) = ss (rMod 0) (ss (rMod 0) (mm (rMod 0) (tU (rMod 0) x) (tU (rMod 0) x)) (tW (rMod 0) x y z)) (tW (rMod 0) x y z) := ht9.trans (by simp only [f8_33, f8_36, f8_8])
  refine lv_iinc (v := nI 2) (lv' := [(2, .int (nI (2))), (0, .ref (rA G 0)), (1, .int (nI (p0)))]) hx hb d_R_twice_104 hl (k := 0) rfl (by decide) (by decide) rfl (fun ls hl => ?_)
  refine lv_goto (tgt := 86) hx hb d_R_twice_107 (by decide) ?_
  refine lv_iload_n hx hb d_R_twice_86 rfl (lv_at hl 0 rfl) ?_
  refine lv_bipush (v := nI 8) hx hb d_R_twice_87 (by decide) ?_
  refine n_ge (tgt := 110) hx hb d_R_twice_89 (by decide) (by decide) (by decide) (fun h => absurd h (by decide)) (fun _ => ?_)
  refine lv_aload_n hx hb d_R_twice_92 rfl (lv_at hl 1 rfl) ?_
  refine lv_bipush (v := nI 36) hx hb d_R_twice_93 (by decide) ?_
  refine lv_bipush (v := nI 36) hx hb d_R_twice_95 (by decide) ?_
  refine lv_bipush (v := nI 33) hx hb d_R_twice_97 (by decide) ?_
  refine lv_bipush (v := nI 8) hx hb d_R_twice_99 (by decide) ?_
  refine r_callv (np := 4) (As := [.int (nI (36)), .int (nI (36)), .int (nI (33)), .int (nI (8))]) (rest := []) ⟨hx, hb, hml, hown, ht⟩ hw (c_R_minus l G u9 (hu9.ok hok9) (by decide) (by decide) (by decide) (by decide) (by decide) (by decide) (by decide) (by rw [hu9.V, f9_8]; exact rMod_le (by decide)) (by rw [hu9.V, f9_36, f9_8]; exact ss_lt (rMod_pos (by decide))) (by rw [hu9.V, f9_33, f9_8]; exact mm_lt (rMod_pos (by decide)))) ⟨km_R_112, kv_R_minus, kx_R_minus, kc_R_minus⟩ (by decide +kernel) ⟨by decide, by decide⟩ rfl rfl rfl hl.1 rfl (by decide) d_R_twice_101 ⟨Nat.le_refl _, Nat.le_refl _⟩ (fun u10 H locs hp hw => ?_)
  obtain ⟨V10, hu10, ht10, hk10, hok10⟩ := q_minus hu9 hok9 (by rw [f9_8]; exact rMod_pos (by decide)) (by rw [f9_8]; exact rMod_le (by decide)) hp
  have f10_8 : V10 (8) = rMod 0 := (hk10 _ (by decide) (by decide)).trans f9_8
  have f10_p0_1 : V10 (p0 + 1) = y := (hk10 _ (by omega) (by omega)).trans f9_p0_1
  have f10_31 : V10 (31) = tU (rMod 0) x := (hk10 _ (by decide) (by decide)).trans f9_31
  have f10_32 : V10 (32) = mm (rMod 0) (y) (z) := (hk10 _ (by decide) (by decide)).trans f9_32
  have f10_33 : V10 (33) = tW (rMod 0) x y z := (hk10 _ (by decide) (by decide)).trans f9_33
  have f10_36 : V10 (36) = ss (rMod 0) (ss (rMod 0) (ss (rMod 0) (mm (rMod 0) (tU (rMod 0) x) (tU (rMod 0) x)) (tW (rMod 0) x y z)) (tW (rMod 0) x y z)) (tW (rMod 0) x y z) := ht10.trans (by simp only [f9_33, f9_36, f9_8])
  refine lv_iinc (v := nI 3) (lv' := [(2, .int (nI (3))), (0, .ref (rA G 0)), (1, .int (nI (p0)))]) hx hb d_R_twice_104 hl (k := 0) rfl (by decide) (by decide) rfl (fun ls hl => ?_)
  refine lv_goto (tgt := 86) hx hb d_R_twice_107 (by decide) ?_
  refine lv_iload_n hx hb d_R_twice_86 rfl (lv_at hl 0 rfl) ?_
  refine lv_bipush (v := nI 8) hx hb d_R_twice_87 (by decide) ?_
  refine n_ge (tgt := 110) hx hb d_R_twice_89 (by decide) (by decide) (by decide) (fun h => absurd h (by decide)) (fun _ => ?_)
  refine lv_aload_n hx hb d_R_twice_92 rfl (lv_at hl 1 rfl) ?_
  refine lv_bipush (v := nI 36) hx hb d_R_twice_93 (by decide) ?_
  refine lv_bipush (v := nI 36) hx hb d_R_twice_95 (by decide) ?_
  refine lv_bipush (v := nI 33) hx hb d_R_twice_97 (by decide) ?_
  refine lv_bipush (v := nI 8) hx hb d_R_twice_99 (by decide) ?_
  refine r_callv (np := 4) (As := [.int (nI (36)), .int (nI (36)), .int (nI (33)), .int (nI (8))]) (rest := []) ⟨hx, hb, hml, hown, ht⟩ hw (c_R_minus l G u10 (hu10.ok hok10) (by decide) (by decide) (by decide) (by decide) (by decide) (by decide) (by decide) (by rw [hu10.V, f10_8]; exact rMod_le (by decide)) (by rw [hu10.V, f10_36, f10_8]; exact ss_lt (rMod_pos (by decide))) (by rw [hu10.V, f10_33, f10_8]; exact mm_lt (rMod_pos (by decide)))) ⟨km_R_112, kv_R_minus, kx_R_minus, kc_R_minus⟩ (by decide +kernel) ⟨by decide, by decide⟩ rfl rfl rfl hl.1 rfl (by decide) d_R_twice_101 ⟨Nat.le_refl _, Nat.le_refl _⟩ (fun u11 H locs hp hw => ?_)
  obtain ⟨V11, hu11, ht11, hk11, hok11⟩ := q_minus hu10 hok10 (by rw [f10_8]; exact rMod_pos (by decide)) (by rw [f10_8]; exact rMod_le (by decide)) hp
  have f11_8 : V11 (8) = rMod 0 := (hk11 _ (by decide) (by decide)).trans f10_8
  have f11_p0_1 : V11 (p0 + 1) = y := (hk11 _ (by omega) (by omega)).trans f10_p0_1
  have f11_31 : V11 (31) = tU (rMod 0) x := (hk11 _ (by decide) (by decide)).trans f10_31
  have f11_32 : V11 (32) = mm (rMod 0) (y) (z) := (hk11 _ (by decide) (by decide)).trans f10_32
  have f11_33 : V11 (33) = tW (rMod 0) x y z := (hk11 _ (by decide) (by decide)).trans f10_33
  have f11_36 : V11 (36) = ss (rMod 0) (ss (rMod 0) (ss (rMod 0) (ss (rMod 0) (mm (rMod 0) (tU (rMod 0) x) (tU (rMod 0) x)) (tW (rMod 0) x y z)) (tW (rMod 0) x y z)) (tW (rMod 0) x y z)) (tW (rMod 0) x y z) := ht11.trans (by simp only [f10_33, f10_36, f10_8])
  refine lv_iinc (v := nI 4) (lv' := [(2, .int (nI (4))), (0, .ref (rA G 0)), (1, .int (nI (p0)))]) hx hb d_R_twice_104 hl (k := 0) rfl (by decide) (by decide) rfl (fun ls hl => ?_)
  refine lv_goto (tgt := 86) hx hb d_R_twice_107 (by decide) ?_
  refine lv_iload_n hx hb d_R_twice_86 rfl (lv_at hl 0 rfl) ?_
  refine lv_bipush (v := nI 8) hx hb d_R_twice_87 (by decide) ?_
  refine n_ge (tgt := 110) hx hb d_R_twice_89 (by decide) (by decide) (by decide) (fun h => absurd h (by decide)) (fun _ => ?_)
  refine lv_aload_n hx hb d_R_twice_92 rfl (lv_at hl 1 rfl) ?_
  refine lv_bipush (v := nI 36) hx hb d_R_twice_93 (by decide) ?_
  refine lv_bipush (v := nI 36) hx hb d_R_twice_95 (by decide) ?_
  refine lv_bipush (v := nI 33) hx hb d_R_twice_97 (by decide) ?_
  refine lv_bipush (v := nI 8) hx hb d_R_twice_99 (by decide) ?_
  refine r_callv (np := 4) (As := [.int (nI (36)), .int (nI (36)), .int (nI (33)), .int (nI (8))]) (rest := []) ⟨hx, hb, hml, hown, ht⟩ hw (c_R_minus l G u11 (hu11.ok hok11) (by decide) (by decide) (by decide) (by decide) (by decide) (by decide) (by decide) (by rw [hu11.V, f11_8]; exact rMod_le (by decide)) (by rw [hu11.V, f11_36, f11_8]; exact ss_lt (rMod_pos (by decide))) (by rw [hu11.V, f11_33, f11_8]; exact mm_lt (rMod_pos (by decide)))) ⟨km_R_112, kv_R_minus, kx_R_minus, kc_R_minus⟩ (by decide +kernel) ⟨by decide, by decide⟩ rfl rfl rfl hl.1 rfl (by decide) d_R_twice_101 ⟨Nat.le_refl _, Nat.le_refl _⟩ (fun u12 H locs hp hw => ?_)
  obtain ⟨V12, hu12, ht12, hk12, hok12⟩ := q_minus hu11 hok11 (by rw [f11_8]; exact rMod_pos (by decide)) (by rw [f11_8]; exact rMod_le (by decide)) hp
  have f12_8 : V12 (8) = rMod 0 := (hk12 _ (by decide) (by decide)).trans f11_8
  have f12_p0_1 : V12 (p0 + 1) = y := (hk12 _ (by omega) (by omega)).trans f11_p0_1
  have f12_31 : V12 (31) = tU (rMod 0) x := (hk12 _ (by decide) (by decide)).trans f11_31
  have f12_32 : V12 (32) = mm (rMod 0) (y) (z) := (hk12 _ (by decide) (by decide)).trans f11_32
  have f12_33 : V12 (33) = tW (rMod 0) x y z := (hk12 _ (by decide) (by decide)).trans f11_33
  have f12_36 : V12 (36) = ss (rMod 0) (ss (rMod 0) (ss (rMod 0) (ss (rMod 0) (ss (rMod 0) (mm (rMod 0) (tU (rMod 0) x) (tU (rMod 0) x)) (tW (rMod 0) x y z)) (tW (rMod 0) x y z)) (tW (rMod 0) x y z)) (tW (rMod 0) x y z)) (tW (rMod 0) x y z) := ht12.trans (by simp only [f11_33, f11_36, f11_8])
  refine lv_iinc (v := nI 5) (lv' := [(2, .int (nI (5))), (0, .ref (rA G 0)), (1, .int (nI (p0)))]) hx hb d_R_twice_104 hl (k := 0) rfl (by decide) (by decide) rfl (fun ls hl => ?_)
  refine lv_goto (tgt := 86) hx hb d_R_twice_107 (by decide) ?_
  refine lv_iload_n hx hb d_R_twice_86 rfl (lv_at hl 0 rfl) ?_
  refine lv_bipush (v := nI 8) hx hb d_R_twice_87 (by decide) ?_
  refine n_ge (tgt := 110) hx hb d_R_twice_89 (by decide) (by decide) (by decide) (fun h => absurd h (by decide)) (fun _ => ?_)
  refine lv_aload_n hx hb d_R_twice_92 rfl (lv_at hl 1 rfl) ?_
  refine lv_bipush (v := nI 36) hx hb d_R_twice_93 (by decide) ?_
  refine lv_bipush (v := nI 36) hx hb d_R_twice_95 (by decide) ?_
  refine lv_bipush (v := nI 33) hx hb d_R_twice_97 (by decide) ?_
  refine lv_bipush (v := nI 8) hx hb d_R_twice_99 (by decide) ?_
  refine r_callv (np := 4) (As := [.int (nI (36)), .int (nI (36)), .int (nI (33)), .int (nI (8))]) (rest := []) ⟨hx, hb, hml, hown, ht⟩ hw (c_R_minus l G u12 (hu12.ok hok12) (by decide) (by decide) (by decide) (by decide) (by decide) (by decide) (by decide) (by rw [hu12.V, f12_8]; exact rMod_le (by decide)) (by rw [hu12.V, f12_36, f12_8]; exact ss_lt (rMod_pos (by decide))) (by rw [hu12.V, f12_33, f12_8]; exact mm_lt (rMod_pos (by decide)))) ⟨km_R_112, kv_R_minus, kx_R_minus, kc_R_minus⟩ (by decide +kernel) ⟨by decide, by decide⟩ rfl rfl rfl hl.1 rfl (by decide) d_R_twice_101 ⟨Nat.le_refl _, Nat.le_refl _⟩ (fun u13 H locs hp hw => ?_)
  obtain ⟨V13, hu13, ht13, hk13, hok13⟩ := q_minus hu12 hok12 (by rw [f12_8]; exact rMod_pos (by decide)) (by rw [f12_8]; exact rMod_le (by decide)) hp
  have f13_8 : V13 (8) = rMod 0 := (hk13 _ (by decide) (by decide)).trans f12_8
  have f13_p0_1 : V13 (p0 + 1) = y := (hk13 _ (by omega) (by omega)).trans f12_p0_1
  have f13_31 : V13 (31) = tU (rMod 0) x := (hk13 _ (by decide) (by decide)).trans f12_31
  have f13_32 : V13 (32) = mm (rMod 0) (y) (z) := (hk13 _ (by decide) (by decide)).trans f12_32
  have f13_33 : V13 (33) = tW (rMod 0) x y z := (hk13 _ (by decide) (by decide)).trans f12_33
  have f13_36 : V13 (36) = ss (rMod 0) (ss (rMod 0) (ss (rMod 0) (ss (rMod 0) (ss (rMod 0) (ss (rMod 0) (mm (rMod 0) (tU (rMod 0) x) (tU (rMod 0) x)) (tW (rMod 0) x y z)) (tW (rMod 0) x y z)) (tW (rMod 0) x y z)) (tW (rMod 0) x y z)) (tW (rMod 0) x y z)) (tW (rMod 0) x y z) := ht13.trans (by simp only [f12_33, f12_36, f12_8])
  refine lv_iinc (v := nI 6) (lv' := [(2, .int (nI (6))), (0, .ref (rA G 0)), (1, .int (nI (p0)))]) hx hb d_R_twice_104 hl (k := 0) rfl (by decide) (by decide) rfl (fun ls hl => ?_)
  refine lv_goto (tgt := 86) hx hb d_R_twice_107 (by decide) ?_
  refine lv_iload_n hx hb d_R_twice_86 rfl (lv_at hl 0 rfl) ?_
  refine lv_bipush (v := nI 8) hx hb d_R_twice_87 (by decide) ?_
  refine n_ge (tgt := 110) hx hb d_R_twice_89 (by decide) (by decide) (by decide) (fun h => absurd h (by decide)) (fun _ => ?_)
  refine lv_aload_n hx hb d_R_twice_92 rfl (lv_at hl 1 rfl) ?_
  refine lv_bipush (v := nI 36) hx hb d_R_twice_93 (by decide) ?_
  refine lv_bipush (v := nI 36) hx hb d_R_twice_95 (by decide) ?_
  refine lv_bipush (v := nI 33) hx hb d_R_twice_97 (by decide) ?_
  refine lv_bipush (v := nI 8) hx hb d_R_twice_99 (by decide) ?_
  refine r_callv (np := 4) (As := [.int (nI (36)), .int (nI (36)), .int (nI (33)), .int (nI (8))]) (rest := []) ⟨hx, hb, hml, hown, ht⟩ hw (c_R_minus l G u13 (hu13.ok hok13) (by decide) (by decide) (by decide) (by decide) (by decide) (by decide) (by decide) (by rw [hu13.V, f13_8]; exact rMod_le (by decide)) (by rw [hu13.V, f13_36, f13_8]; exact ss_lt (rMod_pos (by decide))) (by rw [hu13.V, f13_33, f13_8]; exact mm_lt (rMod_pos (by decide)))) ⟨km_R_112, kv_R_minus, kx_R_minus, kc_R_minus⟩ (by decide +kernel) ⟨by decide, by decide⟩ rfl rfl rfl hl.1 rfl (by decide) d_R_twice_101 ⟨Nat.le_refl _, Nat.le_refl _⟩ (fun u14 H locs hp hw => ?_)
  obtain ⟨V14, hu14, ht14, hk14, hok14⟩ := q_minus hu13 hok13 (by rw [f13_8]; exact rMod_pos (by decide)) (by rw [f13_8]; exact rMod_le (by decide)) hp
  have f14_8 : V14 (8) = rMod 0 := (hk14 _ (by decide) (by decide)).trans f13_8
  have f14_p0_1 : V14 (p0 + 1) = y := (hk14 _ (by omega) (by omega)).trans f13_p0_1
  have f14_31 : V14 (31) = tU (rMod 0) x := (hk14 _ (by decide) (by decide)).trans f13_31
  have f14_32 : V14 (32) = mm (rMod 0) (y) (z) := (hk14 _ (by decide) (by decide)).trans f13_32
  have f14_33 : V14 (33) = tW (rMod 0) x y z := (hk14 _ (by decide) (by decide)).trans f13_33
  have f14_36 : V14 (36) = ss (rMod 0) (ss (rMod 0) (ss (rMod 0) (ss (rMod 0) (ss (rMod 0) (ss (rMod 0) (ss (rMod 0) (mm (rMod 0) (tU (rMod 0) x) (tU (rMod 0) x)) (tW (rMod 0) x y z)) (tW (rMod 0) x y z)) (tW (rMod 0) x y z)) (tW (rMod 0) x y z)) (tW (rMod 0) x y z)) (tW (rMod 0) x y z)) (tW (rMod 0) x y z) := ht14.trans (by simp only [f13_33, f13_36, f13_8])
  refine lv_iinc (v := nI 7) (lv' := [(2, .int (nI (7))), (0, .ref (rA G 0)), (1, .int (nI (p0)))]) hx hb d_R_twice_104 hl (k := 0) rfl (by decide) (by decide) rfl (fun ls hl => ?_)
  refine lv_goto (tgt := 86) hx hb d_R_twice_107 (by decide) ?_
  refine lv_iload_n hx hb d_R_twice_86 rfl (lv_at hl 0 rfl) ?_
  refine lv_bipush (v := nI 8) hx hb d_R_twice_87 (by decide) ?_
  refine n_ge (tgt := 110) hx hb d_R_twice_89 (by decide) (by decide) (by decide) (fun h => absurd h (by decide)) (fun _ => ?_)
  refine lv_aload_n hx hb d_R_twice_92 rfl (lv_at hl 1 rfl) ?_
  refine lv_bipush (v := nI 36) hx hb d_R_twice_93 (by decide) ?_
  refine lv_bipush (v := nI 36) hx hb d_R_twice_95 (by decide) ?_
  refine lv_bipush (v := nI 33) hx hb d_R_twice_97 (by decide) ?_
  refine lv_bipush (v := nI 8) hx hb d_R_twice_99 (by decide) ?_
  refine r_callv (np := 4) (As := [.int (nI (36)), .int (nI (36)), .int (nI (33)), .int (nI (8))]) (rest := []) ⟨hx, hb, hml, hown, ht⟩ hw (c_R_minus l G u14 (hu14.ok hok14) (by decide) (by decide) (by decide) (by decide) (by decide) (by decide) (by decide) (by rw [hu14.V, f14_8]; exact rMod_le (by decide)) (by rw [hu14.V, f14_36, f14_8]; exact ss_lt (rMod_pos (by decide))) (by rw [hu14.V, f14_33, f14_8]; exact mm_lt (rMod_pos (by decide)))) ⟨km_R_112, kv_R_minus, kx_R_minus, kc_R_minus⟩ (by decide +kernel) ⟨by decide, by decide⟩ rfl rfl rfl hl.1 rfl (by decide) d_R_twice_101 ⟨Nat.le_refl _, Nat.le_refl _⟩ (fun u15 H locs hp hw => ?_)
  obtain ⟨V15, hu15, ht15, hk15, hok15⟩ := q_minus hu14 hok14 (by rw [f14_8]; exact rMod_pos (by decide)) (by rw [f14_8]; exact rMod_le (by decide)) hp
  have f15_8 : V15 (8) = rMod 0 := (hk15 _ (by decide) (by decide)).trans f14_8
  have f15_p0_1 : V15 (p0 + 1) = y := (hk15 _ (by omega) (by omega)).trans f14_p0_1
  have f15_31 : V15 (31) = tU (rMod 0) x := (hk15 _ (by decide) (by decide)).trans f14_31
  have f15_32 : V15 (32) = mm (rMod 0) (y) (z) := (hk15 _ (by decide) (by decide)).trans f14_32
  have f15_33 : V15 (33) = tW (rMod 0) x y z := (hk15 _ (by decide) (by decide)).trans f14_33
  have f15_36 : V15 (36) = ss (rMod 0) (ss (rMod 0) (ss (rMod 0) (ss (rMod 0) (ss (rMod 0) (ss (rMod 0) (ss (rMod 0) (ss (rMod 0) (mm (rMod 0) (tU (rMod 0) x) (tU (rMod 0) x)) (tW (rMod 0) x y z)) (tW (rMod 0) x y z)) (tW (rMod 0) x y z)) (tW (rMod 0) x y z)) (tW (rMod 0) x y z)) (tW (rMod 0) x y z)) (tW (rMod 0) x y z)) (tW (rMod 0) x y z) := ht15.trans (by simp only [f14_33, f14_36, f14_8])
  refine lv_iinc (v := nI 8) (lv' := [(2, .int (nI (8))), (0, .ref (rA G 0)), (1, .int (nI (p0)))]) hx hb d_R_twice_104 hl (k := 0) rfl (by decide) (by decide) rfl (fun ls hl => ?_)
  refine lv_goto (tgt := 86) hx hb d_R_twice_107 (by decide) ?_
  refine lv_iload_n hx hb d_R_twice_86 rfl (lv_at hl 0 rfl) ?_
  refine lv_bipush (v := nI 8) hx hb d_R_twice_87 (by decide) ?_
  refine n_ge (tgt := 110) hx hb d_R_twice_89 (by decide) (by decide) (by decide) (fun _ => ?_) (fun h => absurd h (by decide))
  have f15_36n : V15 (36) = tZ (rMod 0) x y z := f15_36
  refine lv_aload_n hx hb d_R_twice_110 rfl (lv_at hl 1 rfl) ?_
  refine lv_bipush (v := nI 34) hx hb d_R_twice_111 (by decide) ?_
  refine lv_bipush (v := nI 33) hx hb d_R_twice_113 (by decide) ?_
  refine lv_bipush (v := nI 33) hx hb d_R_twice_115 (by decide) ?_
  refine lv_bipush (v := nI 8) hx hb d_R_twice_117 (by decide) ?_
  refine r_callv (np := 4) (As := [.int (nI (34)), .int (nI (33)), .int (nI (33)), .int (nI (8))]) (rest := []) ⟨hx, hb, hml, hown, ht⟩ hw (c_R_plus l G u15 (hu15.ok hok15) (by decide) (by decide) (by decide) (by decide) (by rw [hu15.V, f15_8]; exact rMod_le (by decide)) (by rw [hu15.V, f15_33, f15_8]; exact mm_lt (rMod_pos (by decide))) (by rw [hu15.V, f15_33, f15_8]; exact mm_lt (rMod_pos (by decide)))) ⟨km_R_124, kv_R_plus, kx_R_plus, kc_R_plus⟩ (by decide +kernel) ⟨by decide, by decide⟩ rfl rfl rfl hl.1 rfl (by decide) d_R_twice_119 ⟨Nat.le_refl _, Nat.le_refl _⟩ (fun u16 H locs hp hw => ?_)
  obtain ⟨V16, hu16, ht16, hk16, hok16⟩ := q_plus hu15 hok15 (by rw [f15_8]; exact rMod_pos (by decide)) (by rw [f15_8]; exact rMod_le (by decide)) hp
  have f16_8 : V16 (8) = rMod 0 := (hk16 _ (by decide) (by decide)).trans f15_8
  have f16_p0_1 : V16 (p0 + 1) = y := (hk16 _ (by omega) (by omega)).trans f15_p0_1
  have f16_31 : V16 (31) = tU (rMod 0) x := (hk16 _ (by decide) (by decide)).trans f15_31
  have f16_32 : V16 (32) = mm (rMod 0) (y) (z) := (hk16 _ (by decide) (by decide)).trans f15_32
  have f16_33 : V16 (33) = tW (rMod 0) x y z := (hk16 _ (by decide) (by decide)).trans f15_33
  have f16_36 : V16 (36) = tZ (rMod 0) x y z := (hk16 _ (by decide) (by decide)).trans f15_36n
  have f16_34 : V16 (34) = pp (rMod 0) (tW (rMod 0) x y z) (tW (rMod 0) x y z) := ht16.trans (by simp only [f15_33, f15_8])
  refine lv_aload_n hx hb d_R_twice_122 rfl (lv_at hl 1 rfl) ?_
  refine lv_bipush (v := nI 34) hx hb d_R_twice_123 (by decide) ?_
  refine lv_bipush (v := nI 34) hx hb d_R_twice_125 (by decide) ?_
  refine lv_bipush (v := nI 34) hx hb d_R_twice_127 (by decide) ?_
  refine lv_bipush (v := nI 8) hx hb d_R_twice_129 (by decide) ?_
  refine r_callv (np := 4) (As := [.int (nI (34)), .int (nI (34)), .int (nI (34)), .int (nI (8))]) (rest := []) ⟨hx, hb, hml, hown, ht⟩ hw (c_R_plus l G u16 (hu16.ok hok16) (by decide) (by decide) (by decide) (by decide) (by rw [hu16.V, f16_8]; exact rMod_le (by decide)) (by rw [hu16.V, f16_34, f16_8]; exact pp_lt (rMod_pos (by decide))) (by rw [hu16.V, f16_34, f16_8]; exact pp_lt (rMod_pos (by decide)))) ⟨km_R_124, kv_R_plus, kx_R_plus, kc_R_plus⟩ (by decide +kernel) ⟨by decide, by decide⟩ rfl rfl rfl hl.1 rfl (by decide) d_R_twice_131 ⟨Nat.le_refl _, Nat.le_refl _⟩ (fun u17 H locs hp hw => ?_)
  obtain ⟨V17, hu17, ht17, hk17, hok17⟩ := q_plus hu16 hok16 (by rw [f16_8]; exact rMod_pos (by decide)) (by rw [f16_8]; exact rMod_le (by decide)) hp
  have f17_8 : V17 (8) = rMod 0 := (hk17 _ (by decide) (by decide)).trans f16_8
  have f17_p0_1 : V17 (p0 + 1) = y := (hk17 _ (by omega) (by omega)).trans f16_p0_1
  have f17_31 : V17 (31) = tU (rMod 0) x := (hk17 _ (by decide) (by decide)).trans f16_31
  have f17_32 : V17 (32) = mm (rMod 0) (y) (z) := (hk17 _ (by decide) (by decide)).trans f16_32
  have f17_33 : V17 (33) = tW (rMod 0) x y z := (hk17 _ (by decide) (by decide)).trans f16_33
  have f17_36 : V17 (36) = tZ (rMod 0) x y z := (hk17 _ (by decide) (by decide)).trans f16_36
  have f17_34 : V17 (34) = pp (rMod 0) (pp (rMod 0) (tW (rMod 0) x y z) (tW (rMod 0) x y z)) (pp (rMod 0) (tW (rMod 0) x y z) (tW (rMod 0) x y z)) := ht17.trans (by simp only [f16_34, f16_8])
  refine lv_aload_n hx hb d_R_twice_134 rfl (lv_at hl 1 rfl) ?_
  refine lv_bipush (v := nI 34) hx hb d_R_twice_135 (by decide) ?_
  refine lv_bipush (v := nI 34) hx hb d_R_twice_137 (by decide) ?_
  refine lv_bipush (v := nI 36) hx hb d_R_twice_139 (by decide) ?_
  refine lv_bipush (v := nI 8) hx hb d_R_twice_141 (by decide) ?_
  refine r_callv (np := 4) (As := [.int (nI (34)), .int (nI (34)), .int (nI (36)), .int (nI (8))]) (rest := []) ⟨hx, hb, hml, hown, ht⟩ hw (c_R_minus l G u17 (hu17.ok hok17) (by decide) (by decide) (by decide) (by decide) (by decide) (by decide) (by decide) (by rw [hu17.V, f17_8]; exact rMod_le (by decide)) (by rw [hu17.V, f17_34, f17_8]; exact pp_lt (rMod_pos (by decide))) (by rw [hu17.V, f17_36, f17_8]; exact ss_lt (rMod_pos (by decide)))) ⟨km_R_112, kv_R_minus, kx_R_minus, kc_R_minus⟩ (by decide +kernel) ⟨by decide, by decide⟩ rfl rfl rfl hl.1 rfl (by decide) d_R_twice_143 ⟨Nat.le_refl _, Nat.le_refl _⟩ (fun u18 H locs hp hw => ?_)
  obtain ⟨V18, hu18, ht18, hk18, hok18⟩ := q_minus hu17 hok17 (by rw [f17_8]; exact rMod_pos (by decide)) (by rw [f17_8]; exact rMod_le (by decide)) hp
  have f18_8 : V18 (8) = rMod 0 := (hk18 _ (by decide) (by decide)).trans f17_8
  have f18_p0_1 : V18 (p0 + 1) = y := (hk18 _ (by omega) (by omega)).trans f17_p0_1
  have f18_31 : V18 (31) = tU (rMod 0) x := (hk18 _ (by decide) (by decide)).trans f17_31
  have f18_32 : V18 (32) = mm (rMod 0) (y) (z) := (hk18 _ (by decide) (by decide)).trans f17_32
  have f18_36 : V18 (36) = tZ (rMod 0) x y z := (hk18 _ (by decide) (by decide)).trans f17_36
  have f18_34 : V18 (34) = ss (rMod 0) (pp (rMod 0) (pp (rMod 0) (tW (rMod 0) x y z) (tW (rMod 0) x y z)) (pp (rMod 0) (tW (rMod 0) x y z) (tW (rMod 0) x y z))) (tZ (rMod 0) x y z) := ht18.trans (by simp only [f17_34, f17_36, f17_8])
  have f18_34n : V18 (34) = tX (rMod 0) x y z := f18_34
  refine lv_aload_n hx hb d_R_twice_146 rfl (lv_at hl 1 rfl) ?_
  refine lv_bipush (v := nI 34) hx hb d_R_twice_147 (by decide) ?_
  refine lv_bipush (v := nI 31) hx hb d_R_twice_149 (by decide) ?_
  refine lv_bipush (v := nI 34) hx hb d_R_twice_151 (by decide) ?_
  refine lv_bipush (v := nI 8) hx hb d_R_twice_153 (by decide) ?_
  refine r_callv (np := 4) (As := [.int (nI (34)), .int (nI (31)), .int (nI (34)), .int (nI (8))]) (rest := []) ⟨hx, hb, hml, hown, ht⟩ hw (c_R_multiply l G u18 (hu18.ok hok18) (μ := 0) (by decide) (by decide) (by decide) (by decide) (by decide) (by rw [hu18.V]; exact f18_8)) ⟨km_R_96, kv_R_multiply, kx_R_multiply, kc_R_multiply⟩ (by decide +kernel) ⟨by decide, by decide⟩ rfl rfl rfl hl.1 rfl (by decide) d_R_twice_155 ⟨Nat.le_refl _, Nat.le_refl _⟩ (fun u19 H locs hp hw => ?_)
  obtain ⟨V19, hu19, ht19, hk19, hok19⟩ := q_mul (by decide) hu18 hok18 hp
  have f19_8 : V19 (8) = rMod 0 := (hk19 _ (by decide)).trans f18_8
  have f19_p0_1 : V19 (p0 + 1) = y := (hk19 _ (by omega)).trans f18_p0_1
  have f19_31 : V19 (31) = tU (rMod 0) x := (hk19 _ (by decide)).trans f18_31
  have f19_32 : V19 (32) = mm (rMod 0) (y) (z) := (hk19 _ (by decide)).trans f18_32
  have f19_36 : V19 (36) = tZ (rMod 0) x y z := (hk19 _ (by decide)).trans f18_36
  have f19_34 : V19 (34) = mm (rMod 0) (tU (rMod 0) x) (tX (rMod 0) x y z) := ht19.trans (by simp only [f18_31, f18_34n])
  refine lv_aload_n hx hb d_R_twice_158 rfl (lv_at hl 1 rfl) ?_
  refine lv_bipush (v := nI 35) hx hb d_R_twice_159 (by decide) ?_
  refine lv_iload_n hx hb d_R_twice_161 rfl (lv_at hl 2 rfl) ?_
  refine lv_iconst (v := nI 1) hx hb d_R_twice_162 (by decide) ?_
  refine lv_iadd hx hb d_R_twice_163 ?_
  refine tp_i (y := nI (p0 + 1)) (nI_add _ _) ?_
  refine lv_bipush (v := nI 32) hx hb d_R_twice_164 (by decide) ?_
  refine lv_bipush (v := nI 8) hx hb d_R_twice_166 (by decide) ?_
  refine r_callv (np := 4) (As := [.int (nI (35)), .int (nI (p0 + 1)), .int (nI (32)), .int (nI (8))]) (rest := []) ⟨hx, hb, hml, hown, ht⟩ hw (c_R_multiply l G u19 (hu19.ok hok19) (μ := 0) (by decide) (by decide) (by omega) (by decide) (by decide) (by rw [hu19.V]; exact f19_8)) ⟨km_R_96, kv_R_multiply, kx_R_multiply, kc_R_multiply⟩ (by decide +kernel) ⟨by decide, by decide⟩ rfl rfl rfl hl.1 rfl (by decide) d_R_twice_168 ⟨Nat.le_refl _, Nat.le_refl _⟩ (fun u20 H locs hp hw => ?_)
  obtain ⟨V20, hu20, ht20, hk20, hok20⟩ := q_mul (by decide) hu19 hok19 hp
  have f20_8 : V20 (8) = rMod 0 := (hk20 _ (by decide)).trans f19_8
  have f20_p0_1 : V20 (p0 + 1) = y := (hk20 _ (by omega)).trans f19_p0_1
  have f20_32 : V20 (32) = mm (rMod 0) (y) (z) := (hk20 _ (by decide)).trans f19_32
  have f20_36 : V20 (36) = tZ (rMod 0) x y z := (hk20 _ (by decide)).trans f19_36
  have f20_34 : V20 (34) = mm (rMod 0) (tU (rMod 0) x) (tX (rMod 0) x y z) := (hk20 _ (by decide)).trans f19_34
  have f20_35 : V20 (35) = mm (rMod 0) (y) (mm (rMod 0) (y) (z)) := ht20.trans (by simp only [f19_32, f19_p0_1])
  refine lv_aload_n hx hb d_R_twice_171 rfl (lv_at hl 1 rfl) ?_
  refine lv_bipush (v := nI 35) hx hb d_R_twice_172 (by decide) ?_
  refine lv_bipush (v := nI 35) hx hb d_R_twice_174 (by decide) ?_
  refine lv_bipush (v := nI 35) hx hb d_R_twice_176 (by decide) ?_
  refine lv_bipush (v := nI 8) hx hb d_R_twice_178 (by decide) ?_
  refine r_callv (np := 4) (As := [.int (nI (35)), .int (nI (35)), .int (nI (35)), .int (nI (8))]) (rest := []) ⟨hx, hb, hml, hown, ht⟩ hw (c_R_multiply l G u20 (hu20.ok hok20) (μ := 0) (by decide) (by decide) (by decide) (by decide) (by decide) (by rw [hu20.V]; exact f20_8)) ⟨km_R_96, kv_R_multiply, kx_R_multiply, kc_R_multiply⟩ (by decide +kernel) ⟨by decide, by decide⟩ rfl rfl rfl hl.1 rfl (by decide) d_R_twice_180 ⟨Nat.le_refl _, Nat.le_refl _⟩ (fun u21 H locs hp hw => ?_)
  obtain ⟨V21, hu21, ht21, hk21, hok21⟩ := q_mul (by decide) hu20 hok20 hp
  have f21_8 : V21 (8) = rMod 0 := (hk21 _ (by decide)).trans f20_8
  have f21_32 : V21 (32) = mm (rMod 0) (y) (z) := (hk21 _ (by decide)).trans f20_32
  have f21_36 : V21 (36) = tZ (rMod 0) x y z := (hk21 _ (by decide)).trans f20_36
  have f21_34 : V21 (34) = mm (rMod 0) (tU (rMod 0) x) (tX (rMod 0) x y z) := (hk21 _ (by decide)).trans f20_34
  have f21_35 : V21 (35) = mm (rMod 0) (mm (rMod 0) (y) (mm (rMod 0) (y) (z))) (mm (rMod 0) (y) (mm (rMod 0) (y) (z))) := ht21.trans (by simp only [f20_35])
  have f21_35n : V21 (35) = tY (rMod 0) y z := f21_35
  refine lv_iconst (v := nI 0) hx hb d_R_twice_183 (by decide) ?_
  refine lv_istore_n (lv' := [(2, .int (nI (0))), (0, .ref (rA G 0)), (1, .int (nI (p0)))]) hx hb d_R_twice_184 rfl hl (by decide) rfl (fun ls hl => ?_)
  refine lv_iload_n hx hb d_R_twice_185 rfl (lv_at hl 0 rfl) ?_
  refine lv_bipush (v := nI 8) hx hb d_R_twice_186 (by decide) ?_
  refine n_ge (tgt := 209) hx hb d_R_twice_188 (by decide) (by decide) (by decide) (fun h => absurd h (by decide)) (fun _ => ?_)
  refine lv_aload_n hx hb d_R_twice_191 rfl (lv_at hl 1 rfl) ?_
  refine lv_bipush (v := nI 34) hx hb d_R_twice_192 (by decide) ?_
  refine lv_bipush (v := nI 34) hx hb d_R_twice_194 (by decide) ?_
  refine lv_bipush (v := nI 35) hx hb d_R_twice_196 (by decide) ?_
  refine lv_bipush (v := nI 8) hx hb d_R_twice_198 (by decide) ?_
  refine r_callv (np := 4) (As := [.int (nI (34)), .int (nI (34)), .int (nI (35)), .int (nI (8))]) (rest := []) ⟨hx, hb, hml, hown, ht⟩ hw (c_R_minus l G u21 (hu21.ok hok21) (by decide) (by decide) (by decide) (by decide) (by decide) (by decide) (by decide) (by rw [hu21.V, f21_8]; exact rMod_le (by decide)) (by rw [hu21.V, f21_34, f21_8]; exact mm_lt (rMod_pos (by decide))) (by rw [hu21.V, f21_35n, f21_8]; exact mm_lt (rMod_pos (by decide)))) ⟨km_R_112, kv_R_minus, kx_R_minus, kc_R_minus⟩ (by decide +kernel) ⟨by decide, by decide⟩ rfl rfl rfl hl.1 rfl (by decide) d_R_twice_200 ⟨Nat.le_refl _, Nat.le_refl _⟩ (fun u22 H locs hp hw => ?_)
  obtain ⟨V22, hu22, ht22, hk22, hok22⟩ := q_minus hu21 hok21 (by rw [f21_8]; exact rMod_pos (by decide)) (by rw [f21_8]; exact rMod_le (by decide)) hp
  have f22_8 : V22 (8) = rMod 0 := (hk22 _ (by decide) (by decide)).trans f21_8
  have f22_32 : V22 (32) = mm (rMod 0) (y) (z) := (hk22 _ (by decide) (by decide)).trans f21_32
  have f22_36 : V22 (36) = tZ (rMod 0) x y z := (hk22 _ (by decide) (by decide)).trans f21_36
  have f22_35 : V22 (35) = tY (rMod 0) y z := (hk22 _ (by decide) (by decide)).trans f21_35n
  have f22_34 : V22 (34) = ss (rMod 0) (mm (rMod 0) (tU (rMod 0) x) (tX (rMod 0) x y z)) (tY (rMod 0) y z) := ht22.trans (by simp only [f21_34, f21_35n, f21_8])
  refine lv_iinc (v := nI 1) (lv' := [(2, .int (nI (1))), (0, .ref (rA G 0)), (1, .int (nI (p0)))]) hx hb d_R_twice_203 hl (k := 0) rfl (by decide) (by decide) rfl (fun ls hl => ?_)
  refine lv_goto (tgt := 185) hx hb d_R_twice_206 (by decide) ?_
  refine lv_iload_n hx hb d_R_twice_185 rfl (lv_at hl 0 rfl) ?_
  refine lv_bipush (v := nI 8) hx hb d_R_twice_186 (by decide) ?_
  refine n_ge (tgt := 209) hx hb d_R_twice_188 (by decide) (by decide) (by decide) (fun h => absurd h (by decide)) (fun _ => ?_)
  refine lv_aload_n hx hb d_R_twice_191 rfl (lv_at hl 1 rfl) ?_
  refine lv_bipush (v := nI 34) hx hb d_R_twice_192 (by decide) ?_
  refine lv_bipush (v := nI 34) hx hb d_R_twice_194 (by decide) ?_
  refine lv_bipush (v := nI 35) hx hb d_R_twice_196 (by decide) ?_
  refine lv_bipush (v := nI 8) hx hb d_R_twice_198 (by decide) ?_
  refine r_callv (np := 4) (As := [.int (nI (34)), .int (nI (34)), .int (nI (35)), .int (nI (8))]) (rest := []) ⟨hx, hb, hml, hown, ht⟩ hw (c_R_minus l G u22 (hu22.ok hok22) (by decide) (by decide) (by decide) (by decide) (by decide) (by decide) (by decide) (by rw [hu22.V, f22_8]; exact rMod_le (by decide)) (by rw [hu22.V, f22_34, f22_8]; exact ss_lt (rMod_pos (by decide))) (by rw [hu22.V, f22_35, f22_8]; exact mm_lt (rMod_pos (by decide)))) ⟨km_R_112, kv_R_minus, kx_R_minus, kc_R_minus⟩ (by decide +kernel) ⟨by decide, by decide⟩ rfl rfl rfl hl.1 rfl (by decide) d_R_twice_200 ⟨Nat.le_refl _, Nat.le_refl _⟩ (fun u23 H locs hp hw => ?_)
  obtain ⟨V23, hu23, ht23, hk23, hok23⟩ := q_minus hu22 hok22 (by rw [f22_8]; exact rMod_pos (by decide)) (by rw [f22_8]; exact rMod_le (by decide)) hp
  have f23_8 : V23 (8) = rMod 0 := (hk23 _ (by decide) (by decide)).trans f22_8
  have f23_32 : V23 (32) = mm (rMod 0) (y) (z) := (hk23 _ (by decide) (by decide)).trans f22_32
  have f23_36 : V23 (36) = tZ (rMod 0) x y z := (hk23 _ (by decide) (by decide)).trans f22_36
  have f23_35 : V23 (35) = tY (rMod 0) y z := (hk23 _ (by decide) (by decide)).trans f22_35
  have f23_34 : V23 (34) = ss (rMod 0) (ss (rMod 0) (mm (rMod 0) (tU (rMod 0) x) (tX (rMod 0) x y z)) (tY (rMod 0) y z)) (tY (rMod 0) y z) := ht23.trans (by simp only [f22_34, f22_35, f22_8])
  refine lv_iinc (v := nI 2) (lv' := [(2, .int (nI (2))), (0, .ref (rA G 0)), (1, .int (nI (p0)))]) hx hb d_R_twice_203 hl (k := 0) rfl (by decide) (by decide) rfl (fun ls hl => ?_)
  refine lv_goto (tgt := 185) hx hb d_R_twice_206 (by decide) ?_
  refine lv_iload_n hx hb d_R_twice_185 rfl (lv_at hl 0 rfl) ?_
  refine lv_bipush (v := nI 8) hx hb d_R_twice_186 (by decide) ?_
  refine n_ge (tgt := 209) hx hb d_R_twice_188 (by decide) (by decide) (by decide) (fun h => absurd h (by decide)) (fun _ => ?_)
  refine lv_aload_n hx hb d_R_twice_191 rfl (lv_at hl 1 rfl) ?_
  refine lv_bipush (v := nI 34) hx hb d_R_twice_192 (by decide) ?_
  refine lv_bipush (v := nI 34) hx hb d_R_twice_194 (by decide) ?_
  refine lv_bipush (v := nI 35) hx hb d_R_twice_196 (by decide) ?_
  refine lv_bipush (v := nI 8) hx hb d_R_twice_198 (by decide) ?_
  refine r_callv (np := 4) (As := [.int (nI (34)), .int (nI (34)), .int (nI (35)), .int (nI (8))]) (rest := []) ⟨hx, hb, hml, hown, ht⟩ hw (c_R_minus l G u23 (hu23.ok hok23) (by decide) (by decide) (by decide) (by decide) (by decide) (by decide) (by decide) (by rw [hu23.V, f23_8]; exact rMod_le (by decide)) (by rw [hu23.V, f23_34, f23_8]; exact ss_lt (rMod_pos (by decide))) (by rw [hu23.V, f23_35, f23_8]; exact mm_lt (rMod_pos (by decide)))) ⟨km_R_112, kv_R_minus, kx_R_minus, kc_R_minus⟩ (by decide +kernel) ⟨by decide, by decide⟩ rfl rfl rfl hl.1 rfl (by decide) d_R_twice_200 ⟨Nat.le_refl _, Nat.le_refl _⟩ (fun u24 H locs hp hw => ?_)
  obtain ⟨V24, hu24, ht24, hk24, hok24⟩ := q_minus hu23 hok23 (by rw [f23_8]; exact rMod_pos (by decide)) (by rw [f23_8]; exact rMod_le (by decide)) hp
  have f24_8 : V24 (8) = rMod 0 := (hk24 _ (by decide) (by decide)).trans f23_8
  have f24_32 : V24 (32) = mm (rMod 0) (y) (z) := (hk24 _ (by decide) (by decide)).trans f23_32
  have f24_36 : V24 (36) = tZ (rMod 0) x y z := (hk24 _ (by decide) (by decide)).trans f23_36
  have f24_35 : V24 (35) = tY (rMod 0) y z := (hk24 _ (by decide) (by decide)).trans f23_35
  have f24_34 : V24 (34) = ss (rMod 0) (ss (rMod 0) (ss (rMod 0) (mm (rMod 0) (tU (rMod 0) x) (tX (rMod 0) x y z)) (tY (rMod 0) y z)) (tY (rMod 0) y z)) (tY (rMod 0) y z) := ht24.trans (by simp only [f23_34, f23_35, f23_8])
  refine lv_iinc (v := nI 3) (lv' := [(2, .int (nI (3))), (0, .ref (rA G 0)), (1, .int (nI (p0)))]) hx hb d_R_twice_203 hl (k := 0) rfl (by decide) (by decide) rfl (fun ls hl => ?_)
  refine lv_goto (tgt := 185) hx hb d_R_twice_206 (by decide) ?_
  refine lv_iload_n hx hb d_R_twice_185 rfl (lv_at hl 0 rfl) ?_
  refine lv_bipush (v := nI 8) hx hb d_R_twice_186 (by decide) ?_
  refine n_ge (tgt := 209) hx hb d_R_twice_188 (by decide) (by decide) (by decide) (fun h => absurd h (by decide)) (fun _ => ?_)
  refine lv_aload_n hx hb d_R_twice_191 rfl (lv_at hl 1 rfl) ?_
  refine lv_bipush (v := nI 34) hx hb d_R_twice_192 (by decide) ?_
  refine lv_bipush (v := nI 34) hx hb d_R_twice_194 (by decide) ?_
  refine lv_bipush (v := nI 35) hx hb d_R_twice_196 (by decide) ?_
  refine lv_bipush (v := nI 8) hx hb d_R_twice_198 (by decide) ?_
  refine r_callv (np := 4) (As := [.int (nI (34)), .int (nI (34)), .int (nI (35)), .int (nI (8))]) (rest := []) ⟨hx, hb, hml, hown, ht⟩ hw (c_R_minus l G u24 (hu24.ok hok24) (by decide) (by decide) (by decide) (by decide) (by decide) (by decide) (by decide) (by rw [hu24.V, f24_8]; exact rMod_le (by decide)) (by rw [hu24.V, f24_34, f24_8]; exact ss_lt (rMod_pos (by decide))) (by rw [hu24.V, f24_35, f24_8]; exact mm_lt (rMod_pos (by decide)))) ⟨km_R_112, kv_R_minus, kx_R_minus, kc_R_minus⟩ (by decide +kernel) ⟨by decide, by decide⟩ rfl rfl rfl hl.1 rfl (by decide) d_R_twice_200 ⟨Nat.le_refl _, Nat.le_refl _⟩ (fun u25 H locs hp hw => ?_)
  obtain ⟨V25, hu25, ht25, hk25, hok25⟩ := q_minus hu24 hok24 (by rw [f24_8]; exact rMod_pos (by decide)) (by rw [f24_8]; exact rMod_le (by decide)) hp
  have f25_8 : V25 (8) = rMod 0 := (hk25 _ (by decide) (by decide)).trans f24_8
  have f25_32 : V25 (32) = mm (rMod 0) (y) (z) := (hk25 _ (by decide) (by decide)).trans f24_32
  have f25_36 : V25 (36) = tZ (rMod 0) x y z := (hk25 _ (by decide) (by decide)).trans f24_36
  have f25_35 : V25 (35) = tY (rMod 0) y z := (hk25 _ (by decide) (by decide)).trans f24_35
  have f25_34 : V25 (34) = ss (rMod 0) (ss (rMod 0) (ss (rMod 0) (ss (rMod 0) (mm (rMod 0) (tU (rMod 0) x) (tX (rMod 0) x y z)) (tY (rMod 0) y z)) (tY (rMod 0) y z)) (tY (rMod 0) y z)) (tY (rMod 0) y z) := ht25.trans (by simp only [f24_34, f24_35, f24_8])
  refine lv_iinc (v := nI 4) (lv' := [(2, .int (nI (4))), (0, .ref (rA G 0)), (1, .int (nI (p0)))]) hx hb d_R_twice_203 hl (k := 0) rfl (by decide) (by decide) rfl (fun ls hl => ?_)
  refine lv_goto (tgt := 185) hx hb d_R_twice_206 (by decide) ?_
  refine lv_iload_n hx hb d_R_twice_185 rfl (lv_at hl 0 rfl) ?_
  refine lv_bipush (v := nI 8) hx hb d_R_twice_186 (by decide) ?_
  refine n_ge (tgt := 209) hx hb d_R_twice_188 (by decide) (by decide) (by decide) (fun h => absurd h (by decide)) (fun _ => ?_)
  refine lv_aload_n hx hb d_R_twice_191 rfl (lv_at hl 1 rfl) ?_
  refine lv_bipush (v := nI 34) hx hb d_R_twice_192 (by decide) ?_
  refine lv_bipush (v := nI 34) hx hb d_R_twice_194 (by decide) ?_
  refine lv_bipush (v := nI 35) hx hb d_R_twice_196 (by decide) ?_
  refine lv_bipush (v := nI 8) hx hb d_R_twice_198 (by decide) ?_
  refine r_callv (np := 4) (As := [.int (nI (34)), .int (nI (34)), .int (nI (35)), .int (nI (8))]) (rest := []) ⟨hx, hb, hml, hown, ht⟩ hw (c_R_minus l G u25 (hu25.ok hok25) (by decide) (by decide) (by decide) (by decide) (by decide) (by decide) (by decide) (by rw [hu25.V, f25_8]; exact rMod_le (by decide)) (by rw [hu25.V, f25_34, f25_8]; exact ss_lt (rMod_pos (by decide))) (by rw [hu25.V, f25_35, f25_8]; exact mm_lt (rMod_pos (by decide)))) ⟨km_R_112, kv_R_minus, kx_R_minus, kc_R_minus⟩ (by decide +kernel) ⟨by decide, by decide⟩ rfl rfl rfl hl.1 rfl (by decide) d_R_twice_200 ⟨Nat.le_refl _, Nat.le_refl _⟩ (fun u26 H locs hp hw => ?_)
  obtain ⟨V26, hu26, ht26, hk26, hok26⟩ := q_minus hu25 hok25 (by rw [f25_8]; exact rMod_pos (by decide)) (by rw [f25_8]; exact rMod_le (by decide)) hp
  have f26_8 : V26 (8) = rMod 0 := (hk26 _ (by decide) (by decide)).trans f25_8
  have f26_32 : V26 (32) = mm (rMod 0) (y) (z) := (hk26 _ (by decide) (by decide)).trans f25_32
  have f26_36 : V26 (36) = tZ (rMod 0) x y z := (hk26 _ (by decide) (by decide)).trans f25_36
  have f26_35 : V26 (35) = tY (rMod 0) y z := (hk26 _ (by decide) (by decide)).trans f25_35
  have f26_34 : V26 (34) = ss (rMod 0) (ss (rMod 0) (ss (rMod 0) (ss (rMod 0) (ss (rMod 0) (mm (rMod 0) (tU (rMod 0) x) (tX (rMod 0) x y z)) (tY (rMod 0) y z)) (tY (rMod 0) y z)) (tY (rMod 0) y z)) (tY (rMod 0) y z)) (tY (rMod 0) y z) := ht26.trans (by simp only [f25_34, f25_35, f25_8])
  refine lv_iinc (v := nI 5) (lv' := [(2, .int (nI (5))), (0, .ref (rA G 0)), (1, .int (nI (p0)))]) hx hb d_R_twice_203 hl (k := 0) rfl (by decide) (by decide) rfl (fun ls hl => ?_)
  refine lv_goto (tgt := 185) hx hb d_R_twice_206 (by decide) ?_
  refine lv_iload_n hx hb d_R_twice_185 rfl (lv_at hl 0 rfl) ?_
  refine lv_bipush (v := nI 8) hx hb d_R_twice_186 (by decide) ?_
  refine n_ge (tgt := 209) hx hb d_R_twice_188 (by decide) (by decide) (by decide) (fun h => absurd h (by decide)) (fun _ => ?_)
  refine lv_aload_n hx hb d_R_twice_191 rfl (lv_at hl 1 rfl) ?_
  refine lv_bipush (v := nI 34) hx hb d_R_twice_192 (by decide) ?_
  refine lv_bipush (v := nI 34) hx hb d_R_twice_194 (by decide) ?_
  refine lv_bipush (v := nI 35) hx hb d_R_twice_196 (by decide) ?_
  refine lv_bipush (v := nI 8) hx hb d_R_twice_198 (by decide) ?_
  refine r_callv (np := 4) (As := [.int (nI (34)), .int (nI (34)), .int (nI (35)), .int (nI (8))]) (rest := []) ⟨hx, hb, hml, hown, ht⟩ hw (c_R_minus l G u26 (hu26.ok hok26) (by decide) (by decide) (by decide) (by decide) (by decide) (by decide) (by decide) (by rw [hu26.V, f26_8]; exact rMod_le (by decide)) (by rw [hu26.V, f26_34, f26_8]; exact ss_lt (rMod_pos (by decide))) (by rw [hu26.V, f26_35, f26_8]; exact mm_lt (rMod_pos (by decide)))) ⟨km_R_112, kv_R_minus, kx_R_minus, kc_R_minus⟩ (by decide +kernel) ⟨by decide, by decide⟩ rfl rfl rfl hl.1 rfl (by decide) d_R_twice_200 ⟨Nat.le_refl _, Nat.le_refl _⟩ (fun u27 H locs hp hw => ?_)
  obtain ⟨V27, hu27, ht27, hk27, hok27⟩ := q_minus hu26 hok26 (by rw [f26_8]; exact rMod_pos (by decide)) (by rw [f26_8]; exact rMod_le (by decide)) hp
  have f27_8 : V27 (8) = rMod 0 := (hk27 _ (by decide) (by decide)).trans f26_8
  have f27_32 : V27 (32) = mm (rMod 0) (y) (z) := (hk27 _ (by decide) (by decide)).trans f26_32
  have f27_36 : V27 (36) = tZ (rMod 0) x y z := (hk27 _ (by decide) (by decide)).trans f26_36
  have f27_35 : V27 (35) = tY (rMod 0) y z := (hk27 _ (by decide) (by decide)).trans f26_35
  have f27_34 : V27 (34) = ss (rMod 0) (ss (rMod 0) (ss (rMod 0) (ss (rMod 0) (ss (rMod 0) (ss (rMod 0) (mm (rMod 0) (tU (rMod 0) x) (tX (rMod 0) x y z)) (tY (rMod 0) y z)) (tY (rMod 0) y z)) (tY (rMod 0) y z)) (tY (rMod 0) y z)) (tY (rMod 0) y z)) (tY (rMod 0) y z) := ht27.trans (by simp only [f26_34, f26_35, f26_8])
  refine lv_iinc (v := nI 6) (lv' := [(2, .int (nI (6))), (0, .ref (rA G 0)), (1, .int (nI (p0)))]) hx hb d_R_twice_203 hl (k := 0) rfl (by decide) (by decide) rfl (fun ls hl => ?_)
  refine lv_goto (tgt := 185) hx hb d_R_twice_206 (by decide) ?_
  refine lv_iload_n hx hb d_R_twice_185 rfl (lv_at hl 0 rfl) ?_
  refine lv_bipush (v := nI 8) hx hb d_R_twice_186 (by decide) ?_
  refine n_ge (tgt := 209) hx hb d_R_twice_188 (by decide) (by decide) (by decide) (fun h => absurd h (by decide)) (fun _ => ?_)
  refine lv_aload_n hx hb d_R_twice_191 rfl (lv_at hl 1 rfl) ?_
  refine lv_bipush (v := nI 34) hx hb d_R_twice_192 (by decide) ?_
  refine lv_bipush (v := nI 34) hx hb d_R_twice_194 (by decide) ?_
  refine lv_bipush (v := nI 35) hx hb d_R_twice_196 (by decide) ?_
  refine lv_bipush (v := nI 8) hx hb d_R_twice_198 (by decide) ?_
  refine r_callv (np := 4) (As := [.int (nI (34)), .int (nI (34)), .int (nI (35)), .int (nI (8))]) (rest := []) ⟨hx, hb, hml, hown, ht⟩ hw (c_R_minus l G u27 (hu27.ok hok27) (by decide) (by decide) (by decide) (by decide) (by decide) (by decide) (by decide) (by rw [hu27.V, f27_8]; exact rMod_le (by decide)) (by rw [hu27.V, f27_34, f27_8]; exact ss_lt (rMod_pos (by decide))) (by rw [hu27.V, f27_35, f27_8]; exact mm_lt (rMod_pos (by decide)))) ⟨km_R_112, kv_R_minus, kx_R_minus, kc_R_minus⟩ (by decide +kernel) ⟨by decide, by decide⟩ rfl rfl rfl hl.1 rfl (by decide) d_R_twice_200 ⟨Nat.le_refl _, Nat.le_refl _⟩ (fun u28 H locs hp hw => ?_)
  obtain ⟨V28, hu28, ht28, hk28, hok28⟩ := q_minus hu27 hok27 (by rw [f27_8]; exact rMod_pos (by decide)) (by rw [f27_8]; exact rMod_le (by decide)) hp
  have f28_8 : V28 (8) = rMod 0 := (hk28 _ (by decide) (by decide)).trans f27_8
  have f28_32 : V28 (32) = mm (rMod 0) (y) (z) := (hk28 _ (by decide) (by decide)).trans f27_32
  have f28_36 : V28 (36) = tZ (rMod 0) x y z := (hk28 _ (by decide) (by decide)).trans f27_36
  have f28_35 : V28 (35) = tY (rMod 0) y z := (hk28 _ (by decide) (by decide)).trans f27_35
  have f28_34 : V28 (34) = ss (rMod 0) (ss (rMod 0) (ss (rMod 0) (ss (rMod 0) (ss (rMod 0) (ss (rMod 0) (ss (rMod 0) (mm (rMod 0) (tU (rMod 0) x) (tX (rMod 0) x y z)) (tY (rMod 0) y z)) (tY (rMod 0) y z)) (tY (rMod 0) y z)) (tY (rMod 0) y z)) (tY (rMod 0) y z)) (tY (rMod 0) y z)) (tY (rMod 0) y z) := ht28.trans (by simp only [f27_34, f27_35, f27_8])
  refine lv_iinc (v := nI 7) (lv' := [(2, .int (nI (7))), (0, .ref (rA G 0)), (1, .int (nI (p0)))]) hx hb d_R_twice_203 hl (k := 0) rfl (by decide) (by decide) rfl (fun ls hl => ?_)
  refine lv_goto (tgt := 185) hx hb d_R_twice_206 (by decide) ?_
  refine lv_iload_n hx hb d_R_twice_185 rfl (lv_at hl 0 rfl) ?_
  refine lv_bipush (v := nI 8) hx hb d_R_twice_186 (by decide) ?_
  refine n_ge (tgt := 209) hx hb d_R_twice_188 (by decide) (by decide) (by decide) (fun h => absurd h (by decide)) (fun _ => ?_)
  refine lv_aload_n hx hb d_R_twice_191 rfl (lv_at hl 1 rfl) ?_
  refine lv_bipush (v := nI 34) hx hb d_R_twice_192 (by decide) ?_
  refine lv_bipush (v := nI 34) hx hb d_R_twice_194 (by decide) ?_
  refine lv_bipush (v := nI 35) hx hb d_R_twice_196 (by decide) ?_
  refine lv_bipush (v := nI 8) hx hb d_R_twice_198 (by decide) ?_
  refine r_callv (np := 4) (As := [.int (nI (34)), .int (nI (34)), .int (nI (35)), .int (nI (8))]) (rest := []) ⟨hx, hb, hml, hown, ht⟩ hw (c_R_minus l G u28 (hu28.ok hok28) (by decide) (by decide) (by decide) (by decide) (by decide) (by decide) (by decide) (by rw [hu28.V, f28_8]; exact rMod_le (by decide)) (by rw [hu28.V, f28_34, f28_8]; exact ss_lt (rMod_pos (by decide))) (by rw [hu28.V, f28_35, f28_8]; exact mm_lt (rMod_pos (by decide)))) ⟨km_R_112, kv_R_minus, kx_R_minus, kc_R_minus⟩ (by decide +kernel) ⟨by decide, by decide⟩ rfl rfl rfl hl.1 rfl (by decide) d_R_twice_200 ⟨Nat.le_refl _, Nat.le_refl _⟩ (fun u29 H locs hp hw => ?_)
  obtain ⟨V29, hu29, ht29, hk29, hok29⟩ := q_minus hu28 hok28 (by rw [f28_8]; exact rMod_pos (by decide)) (by rw [f28_8]; exact rMod_le (by decide)) hp
  have f29_8 : V29 (8) = rMod 0 := (hk29 _ (by decide) (by decide)).trans f28_8
  have f29_32 : V29 (32) = mm (rMod 0) (y) (z) := (hk29 _ (by decide) (by decide)).trans f28_32
  have f29_36 : V29 (36) = tZ (rMod 0) x y z := (hk29 _ (by decide) (by decide)).trans f28_36
  have f29_35 : V29 (35) = tY (rMod 0) y z := (hk29 _ (by decide) (by decide)).trans f28_35
  have f29_34 : V29 (34) = ss (rMod 0) (ss (rMod 0) (ss (rMod 0) (ss (rMod 0) (ss (rMod 0) (ss (rMod 0) (ss (rMod 0) (ss (rMod 0) (mm (rMod 0) (tU (rMod 0) x) (tX (rMod 0) x y z)) (tY (rMod 0) y z)) (tY (rMod 0) y z)) (tY (rMod 0) y z)) (tY (rMod 0) y z)) (tY (rMod 0) y z)) (tY (rMod 0) y z)) (tY (rMod 0) y z)) (tY (rMod 0) y z) := ht29.trans (by simp only [f28_34, f28_35, f28_8])
  refine lv_iinc (v := nI 8) (lv' := [(2, .int (nI (8))), (0, .ref (rA G 0)), (1, .int (nI (p0)))]) hx hb d_R_twice_203 hl (k := 0) rfl (by decide) (by decide) rfl (fun ls hl => ?_)
  refine lv_goto (tgt := 185) hx hb d_R_twice_206 (by decide) ?_
  refine lv_iload_n hx hb d_R_twice_185 rfl (lv_at hl 0 rfl) ?_
  refine lv_bipush (v := nI 8) hx hb d_R_twice_186 (by decide) ?_
  refine n_ge (tgt := 209) hx hb d_R_twice_188 (by decide) (by decide) (by decide) (fun _ => ?_) (fun h => absurd h (by decide))
  have f29_34n : V29 (34) = twY (rMod 0) x y z := f29_34
  refine lv_aload_n hx hb d_R_twice_209 rfl (lv_at hl 1 rfl) ?_
  refine lv_iload_n hx hb d_R_twice_210 rfl (lv_at hl 2 rfl) ?_
  refine lv_iconst (v := nI 1) hx hb d_R_twice_211 (by decide) ?_
  refine lv_iadd hx hb d_R_twice_212 ?_
  refine tp_i (y := nI (p0 + 1)) (nI_add _ _) ?_
  refine lv_bipush (v := nI 34) hx hb d_R_twice_213 (by decide) ?_
  refine r_callv (np := 2) (As := [.int (nI (p0 + 1)), .int (nI (34))]) (rest := []) ⟨hx, hb, hml, hown, ht⟩ hw (c_R_copy l G u29 (hu29.ok hok29) (by omega) (by decide) (by omega)) ⟨km_R_70, kv_R_copy, kx_R_copy, kc_R_copy⟩ (by decide +kernel) ⟨by decide, by decide⟩ rfl rfl rfl hl.1 rfl (by decide) d_R_twice_215 ⟨Nat.le_refl _, Nat.le_refl _⟩ (fun u30 H locs hp hw => ?_)
  obtain ⟨V30, hu30, ht30, hk30, hok30⟩ := q_copy hu29 hok29 hp
  have f30_8 : V30 (8) = rMod 0 := (hk30 _ (by omega)).trans f29_8
  have f30_32 : V30 (32) = mm (rMod 0) (y) (z) := (hk30 _ (by omega)).trans f29_32
  have f30_36 : V30 (36) = tZ (rMod 0) x y z := (hk30 _ (by omega)).trans f29_36
  have f30_34 : V30 (34) = twY (rMod 0) x y z := (hk30 _ (by omega)).trans f29_34n
  have f30_p0_1 : V30 (p0 + 1) = twY (rMod 0) x y z := ht30.trans f29_34n
  refine lv_aload_n hx hb d_R_twice_218 rfl (lv_at hl 1 rfl) ?_
  refine lv_bipush (v := nI 34) hx hb d_R_twice_219 (by decide) ?_
  refine lv_bipush (v := nI 36) hx hb d_R_twice_221 (by decide) ?_
  refine lv_bipush (v := nI 32) hx hb d_R_twice_223 (by decide) ?_
  refine lv_bipush (v := nI 8) hx hb d_R_twice_225 (by decide) ?_
  refine r_callv (np := 4) (As := [.int (nI (34)), .int (nI (36)), .int (nI (32)), .int (nI (8))]) (rest := []) ⟨hx, hb, hml, hown, ht⟩ hw (c_R_multiply l G u30 (hu30.ok hok30) (μ := 0) (by decide) (by decide) (by decide) (by decide) (by decide) (by rw [hu30.V]; exact f30_8)) ⟨km_R_96, kv_R_multiply, kx_R_multiply, kc_R_multiply⟩ (by decide +kernel) ⟨by decide, by decide⟩ rfl rfl rfl hl.1 rfl (by decide) d_R_twice_227 ⟨Nat.le_refl _, Nat.le_refl _⟩ (fun u31 H locs hp hw => ?_)
  obtain ⟨V31, hu31, ht31, hk31, hok31⟩ := q_mul (by decide) hu30 hok30 hp
  have f31_8 : V31 (8) = rMod 0 := (hk31 _ (by decide)).trans f30_8
  have f31_32 : V31 (32) = mm (rMod 0) (y) (z) := (hk31 _ (by decide)).trans f30_32
  have f31_36 : V31 (36) = tZ (rMod 0) x y z := (hk31 _ (by decide)).trans f30_36
  have f31_p0_1 : V31 (p0 + 1) = twY (rMod 0) x y z := (hk31 _ (by omega)).trans f30_p0_1
  have f31_34 : V31 (34) = mm (rMod 0) (tZ (rMod 0) x y z) (mm (rMod 0) (y) (z)) := ht31.trans (by simp only [f30_32, f30_36])
  refine lv_aload_n hx hb d_R_twice_230 rfl (lv_at hl 1 rfl) ?_
  refine lv_iload_n hx hb d_R_twice_231 rfl (lv_at hl 2 rfl) ?_
  refine lv_bipush (v := nI 34) hx hb d_R_twice_232 (by decide) ?_
  refine lv_bipush (v := nI 34) hx hb d_R_twice_234 (by decide) ?_
  refine lv_bipush (v := nI 8) hx hb d_R_twice_236 (by decide) ?_
  refine r_callv (np := 4) (As := [.int (nI (p0)), .int (nI (34)), .int (nI (34)), .int (nI (8))]) (rest := []) ⟨hx, hb, hml, hown, ht⟩ hw (c_R_plus l G u31 (hu31.ok hok31) (by omega) (by decide) (by decide) (by decide) (by rw [hu31.V, f31_8]; exact rMod_le (by decide)) (by rw [hu31.V, f31_34, f31_8]; exact mm_lt (rMod_pos (by decide))) (by rw [hu31.V, f31_34, f31_8]; exact mm_lt (rMod_pos (by decide)))) ⟨km_R_124, kv_R_plus, kx_R_plus, kc_R_plus⟩ (by decide +kernel) ⟨by decide, by decide⟩ rfl rfl rfl hl.1 rfl (by decide) d_R_twice_238 ⟨Nat.le_refl _, Nat.le_refl _⟩ (fun u32 H locs hp hw => ?_)
  obtain ⟨V32, hu32, ht32, hk32, hok32⟩ := q_plus hu31 hok31 (by rw [f31_8]; exact rMod_pos (by decide)) (by rw [f31_8]; exact rMod_le (by decide)) hp
  have f32_8 : V32 (8) = rMod 0 := (hk32 _ (by omega) (by decide)).trans f31_8
  have f32_32 : V32 (32) = mm (rMod 0) (y) (z) := (hk32 _ (by omega) (by decide)).trans f31_32
  have f32_p0_1 : V32 (p0 + 1) = twY (rMod 0) x y z := (hk32 _ (by omega) (by omega)).trans f31_p0_1
  have f32_34 : V32 (34) = mm (rMod 0) (tZ (rMod 0) x y z) (mm (rMod 0) (y) (z)) := (hk32 _ (by omega) (by decide)).trans f31_34
  have f32_p0 : V32 (p0) = pp (rMod 0) (mm (rMod 0) (tZ (rMod 0) x y z) (mm (rMod 0) (y) (z))) (mm (rMod 0) (tZ (rMod 0) x y z) (mm (rMod 0) (y) (z))) := ht32.trans (by simp only [f31_34, f31_8])
  have f32_p0n : V32 (p0) = twX (rMod 0) x y z := f32_p0
  refine lv_aload_n hx hb d_R_twice_241 rfl (lv_at hl 1 rfl) ?_
  refine lv_bipush (v := nI 34) hx hb d_R_twice_242 (by decide) ?_
  refine lv_bipush (v := nI 32) hx hb d_R_twice_244 (by decide) ?_
  refine lv_bipush (v := nI 32) hx hb d_R_twice_246 (by decide) ?_
  refine lv_bipush (v := nI 8) hx hb d_R_twice_248 (by decide) ?_
  refine r_callv (np := 4) (As := [.int (nI (34)), .int (nI (32)), .int (nI (32)), .int (nI (8))]) (rest := []) ⟨hx, hb, hml, hown, ht⟩ hw (c_R_multiply l G u32 (hu32.ok hok32) (μ := 0) (by decide) (by decide) (by decide) (by decide) (by decide) (by rw [hu32.V]; exact f32_8)) ⟨km_R_96, kv_R_multiply, kx_R_multiply, kc_R_multiply⟩ (by decide +kernel) ⟨by decide, by decide⟩ rfl rfl rfl hl.1 rfl (by decide) d_R_twice_250 ⟨Nat.le_refl _, Nat.le_refl _⟩ (fun u33 H locs hp hw => ?_)
  obtain ⟨V33, hu33, ht33, hk33, hok33⟩ := q_mul (by decide) hu32 hok32 hp
  have f33_8 : V33 (8) = rMod 0 := (hk33 _ (by decide)).trans f32_8
  have f33_32 : V33 (32) = mm (rMod 0) (y) (z) := (hk33 _ (by decide)).trans f32_32
  have f33_p0_1 : V33 (p0 + 1) = twY (rMod 0) x y z := (hk33 _ (by omega)).trans f32_p0_1
  have f33_p0 : V33 (p0) = twX (rMod 0) x y z := (hk33 _ (by omega)).trans f32_p0n
  have f33_34 : V33 (34) = mm (rMod 0) (mm (rMod 0) (y) (z)) (mm (rMod 0) (y) (z)) := ht33.trans (by simp only [f32_32])
  refine lv_aload_n hx hb d_R_twice_253 rfl (lv_at hl 1 rfl) ?_
  refine lv_bipush (v := nI 34) hx hb d_R_twice_254 (by decide) ?_
  refine lv_bipush (v := nI 34) hx hb d_R_twice_256 (by decide) ?_
  refine lv_bipush (v := nI 32) hx hb d_R_twice_258 (by decide) ?_
  refine lv_bipush (v := nI 8) hx hb d_R_twice_260 (by decide) ?_
  refine r_callv (np := 4) (As := [.int (nI (34)), .int (nI (34)), .int (nI (32)), .int (nI (8))]) (rest := []) ⟨hx, hb, hml, hown, ht⟩ hw (c_R_multiply l G u33 (hu33.ok hok33) (μ := 0) (by decide) (by decide) (by decide) (by decide) (by decide) (by rw [hu33.V]; exact f33_8)) ⟨km_R_96, kv_R_multiply, kx_R_multiply, kc_R_multiply⟩ (by decide +kernel) ⟨by decide, by decide⟩ rfl rfl rfl hl.1 rfl (by decide) d_R_twice_262 ⟨Nat.le_refl _, Nat.le_refl _⟩ (fun u34 H locs hp hw => ?_)
  obtain ⟨V34, hu34, ht34, hk34, hok34⟩ := q_mul (by decide) hu33 hok33 hp
  have f34_8 : V34 (8) = rMod 0 := (hk34 _ (by decide)).trans f33_8
  have f34_32 : V34 (32) = mm (rMod 0) (y) (z) := (hk34 _ (by decide)).trans f33_32
  have f34_p0_1 : V34 (p0 + 1) = twY (rMod 0) x y z := (hk34 _ (by omega)).trans f33_p0_1
  have f34_p0 : V34 (p0) = twX (rMod 0) x y z := (hk34 _ (by omega)).trans f33_p0
  have f34_34 : V34 (34) = mm (rMod 0) (mm (rMod 0) (mm (rMod 0) (y) (z)) (mm (rMod 0) (y) (z))) (mm (rMod 0) (y) (z)) := ht34.trans (by simp only [f33_32, f33_34])
  refine lv_iconst (v := nI 0) hx hb d_R_twice_265 (by decide) ?_
  refine lv_istore_n (lv' := [(2, .int (nI (0))), (0, .ref (rA G 0)), (1, .int (nI (p0)))]) hx hb d_R_twice_266 rfl hl (by decide) rfl (fun ls hl => ?_)
  refine lv_iload_n hx hb d_R_twice_267 rfl (lv_at hl 0 rfl) ?_
  refine lv_iconst (v := nI 3) hx hb d_R_twice_268 (by decide) ?_
  refine n_ge (tgt := 290) hx hb d_R_twice_269 (by decide) (by decide) (by decide) (fun h => absurd h (by decide)) (fun _ => ?_)
  refine lv_aload_n hx hb d_R_twice_272 rfl (lv_at hl 1 rfl) ?_
  refine lv_bipush (v := nI 34) hx hb d_R_twice_273 (by decide) ?_
  refine lv_bipush (v := nI 34) hx hb d_R_twice_275 (by decide) ?_
  refine lv_bipush (v := nI 34) hx hb d_R_twice_277 (by decide) ?_
  refine lv_bipush (v := nI 8) hx hb d_R_twice_279 (by decide) ?_
  refine r_callv (np := 4) (As := [.int (nI (34)), .int (nI (34)), .int (nI (34)), .int (nI (8))]) (rest := []) ⟨hx, hb, hml, hown, ht⟩ hw (c_R_plus l G u34 (hu34.ok hok34) (by decide) (by decide) (by decide) (by decide) (by rw [hu34.V, f34_8]; exact rMod_le (by decide)) (by rw [hu34.V, f34_34, f34_8]; exact mm_lt (rMod_pos (by decide))) (by rw [hu34.V, f34_34, f34_8]; exact mm_lt (rMod_pos (by decide)))) ⟨km_R_124, kv_R_plus, kx_R_plus, kc_R_plus⟩ (by decide +kernel) ⟨by decide, by decide⟩ rfl rfl rfl hl.1 rfl (by decide) d_R_twice_281 ⟨Nat.le_refl _, Nat.le_refl _⟩ (fun u35 H locs hp hw => ?_)
  obtain ⟨V35, hu35, ht35, hk35, hok35⟩ := q_plus hu34 hok34 (by rw [f34_8]; exact rMod_pos (by decide)) (by rw [f34_8]; exact rMod_le (by decide)) hp
  have f35_8 : V35 (8) = rMod 0 := (hk35 _ (by decide) (by decide)).trans f34_8
  have f35_p0_1 : V35 (p0 + 1) = twY (rMod 0) x y z := (hk35 _ (by omega) (by omega)).trans f34_p0_1
  have f35_p0 : V35 (p0) = twX (rMod 0) x y z := (hk35 _ (by omega) (by omega)).trans f34_p0
  have f35_34 : V35 (34) = pp (rMod 0) (mm (rMod 0) (mm (rMod 0) (mm (rMod 0) (y) (z)) (mm (rMod 0) (y) (z))) (mm (rMod 0) (y) (z))) (mm (rMod 0) (mm (rMod 0) (mm (rMod 0) (y) (z)) (mm (rMod 0) (y) (z))) (mm (rMod 0) (y) (z))) := ht35.trans (by simp only [f34_34, f34_8])
  refine lv_iinc (v := nI 1) (lv' := [(2, .int (nI (1))), (0, .ref (rA G 0)), (1, .int (nI (p0)))]) hx hb d_R_twice_284 hl (k := 0) rfl (by decide) (by decide) rfl (fun ls hl => ?_)
  refine lv_goto (tgt := 267) hx hb d_R_twice_287 (by decide) ?_
  refine lv_iload_n hx hb d_R_twice_267 rfl (lv_at hl 0 rfl) ?_
  refine lv_iconst (v := nI 3) hx hb d_R_twice_268 (by decide) ?_
  refine n_ge (tgt := 290) hx hb d_R_twice_269 (by decide) (by decide) (by decide) (fun h => absurd h (by decide)) (fun _ => ?_)
  refine lv_aload_n hx hb d_R_twice_272 rfl (lv_at hl 1 rfl) ?_
  refine lv_bipush (v := nI 34) hx hb d_R_twice_273 (by decide) ?_
  refine lv_bipush (v := nI 34) hx hb d_R_twice_275 (by decide) ?_
  refine lv_bipush (v := nI 34) hx hb d_R_twice_277 (by decide) ?_
  refine lv_bipush (v := nI 8) hx hb d_R_twice_279 (by decide) ?_
  refine r_callv (np := 4) (As := [.int (nI (34)), .int (nI (34)), .int (nI (34)), .int (nI (8))]) (rest := []) ⟨hx, hb, hml, hown, ht⟩ hw (c_R_plus l G u35 (hu35.ok hok35) (by decide) (by decide) (by decide) (by decide) (by rw [hu35.V, f35_8]; exact rMod_le (by decide)) (by rw [hu35.V, f35_34, f35_8]; exact pp_lt (rMod_pos (by decide))) (by rw [hu35.V, f35_34, f35_8]; exact pp_lt (rMod_pos (by decide)))) ⟨km_R_124, kv_R_plus, kx_R_plus, kc_R_plus⟩ (by decide +kernel) ⟨by decide, by decide⟩ rfl rfl rfl hl.1 rfl (by decide) d_R_twice_281 ⟨Nat.le_refl _, Nat.le_refl _⟩ (fun u36 H locs hp hw => ?_)
  obtain ⟨V36, hu36, ht36, hk36, hok36⟩ := q_plus hu35 hok35 (by rw [f35_8]; exact rMod_pos (by decide)) (by rw [f35_8]; exact rMod_le (by decide)) hp
  have f36_8 : V36 (8) = rMod 0 := (hk36 _ (by decide) (by decide)).trans f35_8
  have f36_p0_1 : V36 (p0 + 1) = twY (rMod 0) x y z := (hk36 _ (by omega) (by omega)).trans f35_p0_1
  have f36_p0 : V36 (p0) = twX (rMod 0) x y z := (hk36 _ (by omega) (by omega)).trans f35_p0
  have f36_34 : V36 (34) = pp (rMod 0) (pp (rMod 0) (mm (rMod 0) (mm (rMod 0) (mm (rMod 0) (y) (z)) (mm (rMod 0) (y) (z))) (mm (rMod 0) (y) (z))) (mm (rMod 0) (mm (rMod 0) (mm (rMod 0) (y) (z)) (mm (rMod 0) (y) (z))) (mm (rMod 0) (y) (z)))) (pp (rMod 0) (mm (rMod 0) (mm (rMod 0) (mm (rMod 0) (y) (z)) (mm (rMod 0) (y) (z))) (mm (rMod 0) (y) (z))) (mm (rMod 0) (mm (rMod 0) (mm (rMod 0) (y) (z)) (mm (rMod 0) (y) (z))) (mm (rMod 0) (y) (z)))) := ht36.trans (by simp only [f35_34, f35_8])
  refine lv_iinc (v := nI 2) (lv' := [(2, .int (nI (2))), (0, .ref (rA G 0)), (1, .int (nI (p0)))]) hx hb d_R_twice_284 hl (k := 0) rfl (by decide) (by decide) rfl (fun ls hl => ?_)
  refine lv_goto (tgt := 267) hx hb d_R_twice_287 (by decide) ?_
  refine lv_iload_n hx hb d_R_twice_267 rfl (lv_at hl 0 rfl) ?_
  refine lv_iconst (v := nI 3) hx hb d_R_twice_268 (by decide) ?_
  refine n_ge (tgt := 290) hx hb d_R_twice_269 (by decide) (by decide) (by decide) (fun h => absurd h (by decide)) (fun _ => ?_)
  refine lv_aload_n hx hb d_R_twice_272 rfl (lv_at hl 1 rfl) ?_
  refine lv_bipush (v := nI 34) hx hb d_R_twice_273 (by decide) ?_
  refine lv_bipush (v := nI 34) hx hb d_R_twice_275 (by decide) ?_
  refine lv_bipush (v := nI 34) hx hb d_R_twice_277 (by decide) ?_
  refine lv_bipush (v := nI 8) hx hb d_R_twice_279 (by decide) ?_
  refine r_callv (np := 4) (As := [.int (nI (34)), .int (nI (34)), .int (nI (34)), .int (nI (8))]) (rest := []) ⟨hx, hb, hml, hown, ht⟩ hw (c_R_plus l G u36 (hu36.ok hok36) (by decide) (by decide) (by decide) (by decide) (by rw [hu36.V, f36_8]; exact rMod_le (by decide)) (by rw [hu36.V, f36_34, f36_8]; exact pp_lt (rMod_pos (by decide))) (by rw [hu36.V, f36_34, f36_8]; exact pp_lt (rMod_pos (by decide)))) ⟨km_R_124, kv_R_plus, kx_R_plus, kc_R_plus⟩ (by decide +kernel) ⟨by decide, by decide⟩ rfl rfl rfl hl.1 rfl (by decide) d_R_twice_281 ⟨Nat.le_refl _, Nat.le_refl _⟩ (fun u37 H locs hp hw => ?_)
  obtain ⟨V37, hu37, ht37, hk37, hok37⟩ := q_plus hu36 hok36 (by rw [f36_8]; exact rMod_pos (by decide)) (by rw [f36_8]; exact rMod_le (by decide)) hp
  have f37_8 : V37 (8) = rMod 0 := (hk37 _ (by decide) (by decide)).trans f36_8
  have f37_p0_1 : V37 (p0 + 1) = twY (rMod 0) x y z := (hk37 _ (by omega) (by omega)).trans f36_p0_1
  have f37_p0 : V37 (p0) = twX (rMod 0) x y z := (hk37 _ (by omega) (by omega)).trans f36_p0
  have f37_34 : V37 (34) = pp (rMod 0) (pp (rMod 0) (pp (rMod 0) (mm (rMod 0) (mm (rMod 0) (mm (rMod 0) (y) (z)) (mm (rMod 0) (y) (z))) (mm (rMod 0) (y) (z))) (mm (rMod 0) (mm (rMod 0) (mm (rMod 0) (y) (z)) (mm (rMod 0) (y) (z))) (mm (rMod 0) (y) (z)))) (pp (rMod 0) (mm (rMod 0) (mm (rMod 0) (mm (rMod 0) (y) (z)) (mm (rMod 0) (y) (z))) (mm (rMod 0) (y) (z))) (mm (rMod 0) (mm (rMod 0) (mm (rMod 0) (y) (z)) (mm (rMod 0) (y) (z))) (mm (rMod 0) (y) (z))))) (pp (rMod 0) (pp (rMod 0) (mm (rMod 0) (mm (rMod 0) (mm (rMod 0) (y) (z)) (mm (rMod 0) (y) (z))) (mm (rMod 0) (y) (z))) (mm (rMod 0) (mm (rMod 0) (mm (rMod 0) (y) (z)) (mm (rMod 0) (y) (z))) (mm (rMod 0) (y) (z)))) (pp (rMod 0) (mm (rMod 0) (mm (rMod 0) (mm (rMod 0) (y) (z)) (mm (rMod 0) (y) (z))) (mm (rMod 0) (y) (z))) (mm (rMod 0) (mm (rMod 0) (mm (rMod 0) (y) (z)) (mm (rMod 0) (y) (z))) (mm (rMod 0) (y) (z))))) := ht37.trans (by simp only [f36_34, f36_8])
  refine lv_iinc (v := nI 3) (lv' := [(2, .int (nI (3))), (0, .ref (rA G 0)), (1, .int (nI (p0)))]) hx hb d_R_twice_284 hl (k := 0) rfl (by decide) (by decide) rfl (fun ls hl => ?_)
  refine lv_goto (tgt := 267) hx hb d_R_twice_287 (by decide) ?_
  refine lv_iload_n hx hb d_R_twice_267 rfl (lv_at hl 0 rfl) ?_
  refine lv_iconst (v := nI 3) hx hb d_R_twice_268 (by decide) ?_
  refine n_ge (tgt := 290) hx hb d_R_twice_269 (by decide) (by decide) (by decide) (fun _ => ?_) (fun h => absurd h (by decide))
  have f37_34n : V37 (34) = twZ (rMod 0) y z := f37_34
  refine lv_aload_n hx hb d_R_twice_290 rfl (lv_at hl 1 rfl) ?_
  refine lv_iload_n hx hb d_R_twice_291 rfl (lv_at hl 2 rfl) ?_
  refine lv_iconst (v := nI 2) hx hb d_R_twice_292 (by decide) ?_
  refine lv_iadd hx hb d_R_twice_293 ?_
  refine tp_i (y := nI (p0 + 2)) (nI_add _ _) ?_
  refine lv_bipush (v := nI 34) hx hb d_R_twice_294 (by decide) ?_
  refine r_callv (np := 2) (As := [.int (nI (p0 + 2)), .int (nI (34))]) (rest := []) ⟨hx, hb, hml, hown, ht⟩ hw (c_R_copy l G u37 (hu37.ok hok37) (by omega) (by decide) (by omega)) ⟨km_R_70, kv_R_copy, kx_R_copy, kc_R_copy⟩ (by decide +kernel) ⟨by decide, by decide⟩ rfl rfl rfl hl.1 rfl (by decide) d_R_twice_296 ⟨Nat.le_refl _, Nat.le_refl _⟩ (fun u38 H locs hp hw => ?_)
  obtain ⟨V38, hu38, ht38, hk38, hok38⟩ := q_copy hu37 hok37 hp
  have f38_8 : V38 (8) = rMod 0 := (hk38 _ (by omega)).trans f37_8
  have f38_p0_1 : V38 (p0 + 1) = twY (rMod 0) x y z := (hk38 _ (by omega)).trans f37_p0_1
  have f38_p0 : V38 (p0) = twX (rMod 0) x y z := (hk38 _ (by omega)).trans f37_p0
  have f38_34 : V38 (34) = twZ (rMod 0) y z := (hk38 _ (by omega)).trans f37_34n
  have f38_p0_2 : V38 (p0 + 2) = twZ (rMod 0) y z := ht38.trans f37_34n
  refine z_vret (rZ _) hx hb hr hlocks u38 hw ⟨V38, hu38, ?_, ?_, ?_, fun r h h1 h2 h3 => ?_, hok38⟩ d_R_twice_299
  · rw [← hxe, ← hye, ← hze]; exact f38_p0
  · rw [← hxe, ← hye, ← hze]; exact f38_p0_1
  · rw [← hye, ← hze]; exact f38_p0_2
  have key : ∀ r, r ≠ p0 → r ≠ p0 + 1 → r ≠ p0 + 2 → (r < 31 ∨ 37 < r) → V38 r = V0 r := by
    intro r h h1 h2 h3
    rw [hk38 r (by omega), hk37 r (by omega) (by omega), hk36 r (by omega) (by omega), hk35 r (by omega) (by omega), hk34 r (by omega), hk33 r (by omega), hk32 r (by omega) (by omega), hk31 r (by omega), hk30 r (by omega), hk29 r (by omega) (by omega), hk28 r (by omega) (by omega), hk27 r (by omega) (by omega), hk26 r (by omega) (by omega), hk25 r (by omega) (by omega), hk24 r (by omega) (by omega), hk23 r (by omega) (by omega), hk22 r (by omega) (by omega), hk21 r (by omega), hk20 r (by omega), hk19 r (by omega), hk18 r (by omega) (by omega), hk17 r (by omega) (by omega), hk16 r (by omega) (by omega), hk15 r (by omega) (by omega), hk14 r (by omega) (by omega), hk13 r (by omega) (by omega), hk12 r (by omega) (by omega), hk11 r (by omega) (by omega), hk10 r (by omega) (by omega), hk9 r (by omega) (by omega), hk8 r (by omega) (by omega), hk7 r (by omega), hk6 r (by omega), hk5 r (by omega), hk4 r (by omega), hk3 r (by omega) (by omega), hk2 r (by omega) (by omega), hk1 r (by omega)]
  rw [key r h h1 h2 h3, hV0]
