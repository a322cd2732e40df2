/-! what the reference answers: sum, times, place -/
def rFine (σ : rS) : Prop := rCon σ ∧ (∀ r, 22 ≤ r → r < 31 → rV σ r < rMod 0) ∧ (∀ q, q < 4 → rN σ q < 2) ∧ ∀ r, 10 ≤ r → r < 18 → rV σ r < rMod 0
def rPt (σ : rS) (a : Nat) : Nat × Nat × Nat := (rV σ (10 + 2 * a), rV σ (11 + 2 * a), 1 - rN σ a)
theorem rFine.pt {σ : rS} (h : rFine σ) {a : Nat} (ha : a < 4) : t3lt (rMod 0) (rPt σ a) :=
  ⟨h.2.2.2 _ (by omega) (by omega), h.2.2.2 _ (by omega) (by omega), Nat.lt_of_le_of_lt (show 1 - rN σ a ≤ 1 by omega) (rMod_one (by decide))⟩
/-- spot q becomes the point that the three numbers stand for -/
def rPut (σ : rS) (q : Nat) (t : Nat × Nat × Nat) (u : rS) : Prop := ∃ V, rU (rsN σ (va_up (rN σ) q (boolN (t.2.2 = 0)))) V u ∧ (t.2.2 ≠ 0 → V (10 + 2 * q) = mm (rMod 0) t.1 (t.2.2 ^ (rMod 0 - 2) % rMod 0) ∧ V (11 + 2 * q) = mm (rMod 0) t.2.1 (t.2.2 ^ (rMod 0 - 2) % rMod 0)) ∧ (t.2.2 = 0 → V (10 + 2 * q) = rV σ (10 + 2 * q) ∧ V (11 + 2 * q) = rV σ (11 + 2 * q)) ∧ (∀ r, r ≠ 10 + 2 * q → r ≠ 11 + 2 * q → r < 22 → V r = rV σ r) ∧ (∀ r, 22 ≤ r → r < 31 → V r < rMod 0) ∧ ∀ r, V r < b26 ^ 10
theorem rU.N {σ u : rS} {V : Nat → Nat} (h : rU σ V u) : rN u = rN σ := by
  obtain ⟨P, F, rfl⟩ := h
  rfl
theorem rU.sN {σ u v : rS} {V W : Nat → Nat} {N : Nat → Nat} (h : rU σ V u) (h2 : rU (rsN u N) W v) : rU (rsN σ N) W v := by
  obtain ⟨P, F, rfl⟩ := h
  obtain ⟨P2, F2, rfl⟩ := h2
  exact ⟨P2, F2, rfl⟩
set_option maxHeartbeats 4000000 in
set_option maxRecDepth 100000 in
theorem c_R_sum (l : Launch) (G : rG) (σ : rS) (hf : rFine σ) (x y z : Int32) : Met l y_R_sum (zW y_R_sum b_R_sum 4 (some .boolean)) (zr 6 148) (va_Pc [.ref (rA G 0), .int (x), .int (y), .int (z)] (rC G σ)) (va_Qi (fun r u => (¬ (okR x 4 ∧ okR y 4 ∧ okR z 4) → r = nI 0 ∧ u = σ) ∧ ∀ q a b, q < 4 → a < 4 → b < 4 → x = nI q → y = nI a → z = nI b → r = nI 1 ∧ rPut σ q (jn (rMod 0) (rPt σ a).1 (rPt σ a).2.1 (rPt σ a).2.2 (rPt σ b).1 (rPt σ b).2.1 (rPt σ b).2.2) u) (fun u => rC G u) (rAA G)) 0 0 (rAA G) := by
  refine Met.ofW (cc := b_R_sum) (maxL := 4) (ret := (some .boolean)) (by decide) rfl ?_
  intro p e s m args below meth c s₁ B hml hv
  obtain ⟨rfl, hw⟩ := hv
  have hx := B.exec
  have hb := B.bytes
  have hr := B.returns
  have hts := atoms_spec (ws := zW y_R_sum b_R_sum 4 (some .boolean)) B.pre
  have ht : ∀ w ∈ zT, w.before ([.ref (rA G 0), .int (x), .int (y), .int (z)] : List Value).toArray s = true := fun w h => hts w (List.mem_cons_of_mem _ h)
  have hown : s.vm.findClass R_R = some m.cls := findClass_of_methodNamed B.named
  have hlocks := B.notSynchronized
  have hl := lv_entry ([.ref (rA G 0), .int (x), .int (y), .int (z)]) (n := 4) (Nat.le_of_ble_eq_true rfl)
  rw [lg_entry_eq]
  generalize (lg_sl ([.ref (rA G 0), .int (x), .int (y), .int (z)]) ++ List.replicate (4 - (lg_sl ([.ref (rA G 0), .int (x), .int (y), .int (z)])).length) Slot.unset).toArray = ls at hl ⊢
  have hl : lv_has ls 4 [(0, .ref (rA G 0)), (1, .int (x)), (2, .int (y)), (3, .int (z))] := hl
  have hno : ∀ (H : Heap) (locs : List Loc) (ls : Array Slot), rH G σ s H locs → lv_has ls 4 [(0, .ref (rA G 0)), (1, .int (x)), (2, .int (y)), (3, .int (z))] → ¬ (okR x 4 ∧ okR y 4 ∧ okR z 4) → W p l e (headSpec (zW y_R_sum b_R_sum 4 (some .boolean)) (zr 6 148)).room s m ([.ref (rA G 0), .int (x), .int (y), .int (z)] : List Value).toArray below meth c H locs 0 0 (MQ below (va_Qi (fun r u => (¬ (okR x 4 ∧ okR y 4 ∧ okR z 4) → r = nI 0 ∧ u = σ) ∧ ∀ q a b, q < 4 → a < 4 → b < 4 → x = nI q → y = nI a → z = nI b → r = nI 1 ∧ rPut σ q (jn (rMod 0) (rPt σ a).1 (rPt σ a).2.1 (rPt σ a).2.2 (rPt σ b).1 (rPt σ b).2.1 (rPt σ b).2.2) u) (fun u => rC G u) (rAA G)) ([.ref (rA G 0), .int (x), .int (y), .int (z)] : List Value).toArray s 0 0 (rAA G)) (F0 m 21 ls []) := by
    intro H locs ls hw hl hn
    refine lv_iconst (v := nI 0) hx hb d_R_sum_21 (by decide) ?_
    refine z_zret (rZ _) hx hb hr hlocks (nar_b (by decide)) σ hw ⟨fun _ => ⟨rfl, rfl⟩, fun q a b hq9 ha hb9 e1 e2 e3 => absurd ⟨?_, ?_, ?_⟩ hn⟩ d_R_sum_22
    · rw [e1]; exact okR_of hq9 (by decide)
    · rw [e2]; exact okR_of ha (by decide)
    · rw [e3]; exact okR_of hb9 (by decide)
  refine lv_iload_n hx hb d_R_sum_0 rfl (lv_at hl 1 rfl) ?_
  refine r_callsi (np := 1) (As := [.int (x)]) (rest := []) ⟨hx, hb, hml, hown, ht⟩ hw (c_R_isSpot l G σ x) ⟨km_R_148, ks_R_isSpot, kc_R_isSpot⟩ (by decide +kernel) ⟨by decide, by decide⟩ rfl rfl rfl rfl hl.1 rfl (Nat.le_of_ble_eq_true rfl) d_R_sum_1 ⟨Nat.le_refl _, Nat.le_refl _⟩ (fun r u H locs hp hw => ?_)
  obtain ⟨hpu, rfl⟩ := hp
  rw [hpu] at hw
  clear hpu
  refine n_eq0 (tgt := 21) hx hb d_R_sum_4 (by decide) (boolN_s _) (fun c0 => hno H locs ls hw hl (fun q => boolN_0 c0 q.1)) (fun c0 => ?_)
  refine lv_iload_n hx hb d_R_sum_7 rfl (lv_at hl 2 rfl) ?_
  refine r_callsi (np := 1) (As := [.int (y)]) (rest := []) ⟨hx, hb, hml, hown, ht⟩ hw (c_R_isSpot l G σ y) ⟨km_R_148, ks_R_isSpot, kc_R_isSpot⟩ (by decide +kernel) ⟨by decide, by decide⟩ rfl rfl rfl rfl hl.1 rfl (Nat.le_of_ble_eq_true rfl) d_R_sum_8 ⟨Nat.le_refl _, Nat.le_refl _⟩ (fun r u H locs hp hw => ?_)
  obtain ⟨hpu, rfl⟩ := hp
  rw [hpu] at hw
  clear hpu
  refine n_eq0 (tgt := 21) hx hb d_R_sum_11 (by decide) (boolN_s _) (fun c1 => hno H locs ls hw hl (fun q => boolN_0 c1 q.2.1)) (fun c1 => ?_)
  refine lv_iload_n hx hb d_R_sum_14 rfl (lv_at hl 3 rfl) ?_
  refine r_callsi (np := 1) (As := [.int (z)]) (rest := []) ⟨hx, hb, hml, hown, ht⟩ hw (c_R_isSpot l G σ z) ⟨km_R_148, ks_R_isSpot, kc_R_isSpot⟩ (by decide +kernel) ⟨by decide, by decide⟩ rfl rfl rfl rfl hl.1 rfl (Nat.le_of_ble_eq_true rfl) d_R_sum_15 ⟨Nat.le_refl _, Nat.le_refl _⟩ (fun r u H locs hp hw => ?_)
  obtain ⟨hpu, rfl⟩ := hp
  rw [hpu] at hw
  clear hpu
  refine n_ne0 (tgt := 23) hx hb d_R_sum_18 (by decide) (boolN_s _) (fun c2 => ?_) (fun c2 => hno H locs ls hw hl (fun q => boolN_0 c2 q.2.2))
  have k0 := boolN_1 c0
  have k1 := boolN_1 c1
  have k2 := boolN_1 c2
  clear hno
  obtain ⟨q, lt_q, ex⟩ := k0.ex (by decide)
  obtain ⟨a, lt_a, ey⟩ := k1.ex (by decide)
  obtain ⟨b, lt_b, ez⟩ := k2.ex (by decide)
  have hl2 := hl
  rw [ex, ey, ez] at hl2
  have hl : lv_has ls 4 [(0, .ref (rA G 0)), (1, .int (nI (q))), (2, .int (nI (a))), (3, .int (nI (b)))] := hl2
  clear hl2
  obtain ⟨hc, hpts, hN2, hsp⟩ := id hf
  have m1 : 1 < rMod 0 := rMod_one (by decide)
  have qa := hN2 a lt_a
  have qb := hN2 b lt_b
  refine lv_aload_n hx hb d_R_sum_23 rfl (lv_at hl 0 rfl) ?_
  refine lv_bipush (v := nI 22) hx hb d_R_sum_24 (by decide) ?_
  refine lv_iload_n hx hb d_R_sum_26 rfl (lv_at hl 2 rfl) ?_
  refine r_callv (np := 2) (As := [.int (nI (22)), .int (nI (a))]) (rest := []) ⟨hx, hb, hml, hown, ht⟩ hw (c_R_load l G σ hc.1 (by decide) (by decide) lt_a hc.2.2.2.1 qa) ⟨km_R_154, kv_R_load, kx_R_load, kc_R_load⟩ (by decide +kernel) ⟨by decide, by decide⟩ rfl rfl rfl hl.1 rfl (Nat.le_of_ble_eq_true rfl) d_R_sum_27 ⟨Nat.le_refl _, Nat.le_refl _⟩ (fun u1 H locs hp hw => ?_)
  obtain ⟨V1, hu1, a1, a2, a3, hk1, ho1⟩ := hp
  refine lv_aload_n hx hb d_R_sum_30 rfl (lv_at hl 0 rfl) ?_
  refine lv_bipush (v := nI 25) hx hb d_R_sum_31 (by decide) ?_
  refine lv_iload_n hx hb d_R_sum_33 rfl (lv_at hl 3 rfl) ?_
  refine r_callv (np := 2) (As := [.int (nI (25)), .int (nI (b))]) (rest := []) ⟨hx, hb, hml, hown, ht⟩ hw (c_R_load l G u1 (hu1.ok ho1) (by decide) (by decide) lt_b (by rw [hu1.V, hk1 20 (by decide) (by decide) (by decide)]; exact hc.2.2.2.1) (by rw [hu1.N]; exact qb)) ⟨km_R_154, kv_R_load, kx_R_load, kc_R_load⟩ (by decide +kernel) ⟨by decide, by decide⟩ rfl rfl rfl hl.1 rfl (Nat.le_of_ble_eq_true rfl) d_R_sum_34 ⟨Nat.le_refl _, Nat.le_refl _⟩ (fun u2 H locs hp hw => ?_)
  obtain ⟨V2, hu2, b1, b2, b3, hk2, ho2⟩ := hp
  rw [hu1.V] at b1 b2 hk2
  rw [hu1.N] at b3
  have hu12 := hu1.trans hu2
  have A1 : V2 22 = (rPt σ a).1 := (hk2 22 (by decide) (by decide) (by decide)).trans a1
  have A2 : V2 (22 + 1) = (rPt σ a).2.1 := (hk2 23 (by decide) (by decide) (by decide)).trans a2
  have A3 : V2 (22 + 2) = (rPt σ a).2.2 := (hk2 24 (by decide) (by decide) (by decide)).trans a3
  have B1 : V2 25 = (rPt σ b).1 := b1.trans (hk1 _ (by omega) (by omega) (by omega))
  have B2 : V2 (25 + 1) = (rPt σ b).2.1 := b2.trans (hk1 _ (by omega) (by omega) (by omega))
  have B3 : V2 (25 + 2) = (rPt σ b).2.2 := b3
  have C8 : V2 8 = rMod 0 := by rw [hk2 8 (by decide) (by decide) (by decide), hk1 8 (by decide) (by decide) (by decide)]; exact hc.2.1
  have C20 : V2 20 = 1 := by rw [hk2 20 (by decide) (by decide) (by decide), hk1 20 (by decide) (by decide) (by decide)]; exact hc.2.2.2.1
  have pa := hf.pt lt_a
  have pb := hf.pt lt_b
  refine lv_aload_n hx hb d_R_sum_37 rfl (lv_at hl 0 rfl) ?_
  refine lv_bipush (v := nI 22) hx hb d_R_sum_38 (by decide) ?_
  refine lv_bipush (v := nI 25) hx hb d_R_sum_40 (by decide) ?_
  refine r_callv (np := 2) (As := [.int (nI (22)), .int (nI (25))]) (rest := []) ⟨hx, hb, hml, hown, ht⟩ hw (c_R_join l G u2 (hu2.ok ho2) (by decide) (by decide) (by decide) (by decide) (by decide) (by rw [hu2.V]; exact C8) (by rw [hu2.V, A1]; exact pa.1) (by rw [hu2.V, A2]; exact pa.2.1) (by rw [hu2.V, A3]; exact pa.2.2) (by rw [hu2.V, B1]; exact pb.1) (by rw [hu2.V, B2]; exact pb.2.1) (by rw [hu2.V, B3]; exact pb.2.2)) ⟨km_R_133, kv_R_join, kx_R_join, kc_R_join⟩ (by decide +kernel) ⟨by decide, by decide⟩ rfl rfl rfl hl.1 rfl (Nat.le_of_ble_eq_true rfl) d_R_sum_42 ⟨Nat.le_refl _, Nat.le_refl _⟩ (fun u3 H locs hp hw => ?_)
  obtain ⟨V3, hu3, j1, j2, j3, hk3, ho3⟩ := hp
  rw [hu2.V, A1, A2, A3, B1, B2, B3] at j1 j2 j3
  rw [hu2.V] at hk3
  have jl := jn_lt (rMod_pos (by decide : 0 < 2)) pa.1 pa.2.1 pa.2.2 pb.1 pb.2.1 pb.2.2
  obtain ⟨t, ht9⟩ : ∃ t, t = (jn (rMod 0) (rPt σ a).1 (rPt σ a).2.1 (rPt σ a).2.2 (rPt σ b).1 (rPt σ b).2.1 (rPt σ b).2.2) := ⟨_, rfl⟩
  rw [← ht9] at j1 j2 j3 jl
  have hu123 := hu12.trans hu3
  have K3 : ∀ r, r < 22 → V3 r = rV σ r := fun r hr9 => by rw [hk3 r (by omega) (by omega) (by omega) (by omega), hk2 r (by omega) (by omega) (by omega), hk1 r (by omega) (by omega) (by omega)]
  have L3 : ∀ r, 22 ≤ r → r < 31 → V3 r < rMod 0 := by
    intro r h9 h8
    by_cases c22 : r = 22
    · rw [c22, j1]; exact jl.1
    by_cases c23 : r = 23
    · rw [c23]; exact Nat.lt_of_le_of_lt (Nat.le_of_eq j2) jl.2.1
    by_cases c24 : r = 24
    · rw [c24]; exact Nat.lt_of_le_of_lt (Nat.le_of_eq j3) jl.2.2
    rw [hk3 r (by omega) (by omega) (by omega) (by omega)]
    by_cases c25 : r = 25
    · rw [c25, B1]; exact pb.1
    by_cases c26 : r = 26
    · rw [c26]; exact Nat.lt_of_le_of_lt (Nat.le_of_eq B2) pb.2.1
    by_cases c27 : r = 27
    · rw [c27]; exact Nat.lt_of_le_of_lt (Nat.le_of_eq B3) pb.2.2
    rw [hk2 r (by omega) (by omega) (by omega), hk1 r (by omega) (by omega) (by omega)]
    exact hpts r h9 h8
  refine lv_aload_n hx hb d_R_sum_45 rfl (lv_at hl 0 rfl) ?_
  refine lv_iload_n hx hb d_R_sum_46 rfl (lv_at hl 1 rfl) ?_
  refine lv_bipush (v := nI 22) hx hb d_R_sum_47 (by decide) ?_
  have fin : ∀ (u4 : rS), (∃ V, rU (rsN u3 (va_up (rN u3) q (boolN (rV u3 (22 + 2) = 0)))) V u4 ∧ (rV u3 (22 + 2) ≠ 0 → V (10 + 2 * q) = mm (rMod 0) (rV u3 22) (rV u3 (22 + 2) ^ (rMod 0 - 2) % rMod 0) ∧ V (11 + 2 * q) = mm (rMod 0) (rV u3 (22 + 1)) (rV u3 (22 + 2) ^ (rMod 0 - 2) % rMod 0)) ∧ (rV u3 (22 + 2) = 0 → V (10 + 2 * q) = rV u3 (10 + 2 * q) ∧ V (11 + 2 * q) = rV u3 (11 + 2 * q)) ∧ (∀ r, r ≠ 10 + 2 * q → r ≠ 11 + 2 * q → r ≠ 38 → r ≠ 39 → r ≠ 44 → r ≠ 45 → r ≠ 46 → V r = rV u3 r) ∧ ∀ r, V r < b26 ^ 10) → rPut σ q t u4 := by
    rintro u4 ⟨V4, hu4, g1, g0, hk4, ho4⟩
    rw [hu3.V] at g1 g0 hk4 hu4
    rw [j1, j2, j3] at g1
    rw [j3] at g0 hu4
    refine ⟨V4, hu123.sN (by rw [hu3.N, hu123.N.symm.trans hu3.N] at *; exact hu4), g1, fun h => ?_, fun r b1 b2 b3 => ?_, fun r b1 b2 => ?_, ho4⟩
    · have h2 := g0 h; exact ⟨h2.1.trans (K3 _ (by omega)), h2.2.trans (K3 _ (by omega))⟩
    · rw [hk4 r b1 b2 (by omega) (by omega) (by omega) (by omega) (by omega)]; exact K3 r b3
    · rw [hk4 r (by omega) (by omega) (by omega) (by omega) (by omega) (by omega) (by omega)]; exact L3 r b1 b2
  refine r_callv (np := 2) (As := [.int (nI (q)), .int (nI (22))]) (rest := []) ⟨hx, hb, hml, hown, ht⟩ hw (c_R_store l G u3 (hu3.ok ho3) lt_q (by decide) (by decide) (by rw [hu3.V, K3 8 (by decide)]; exact hc.2.1) (by rw [hu3.V, K3 20 (by decide)]; exact hc.2.2.2.1)) ⟨km_R_157, kv_R_store, kx_R_store, kc_R_store⟩ (by decide +kernel) ⟨by decide, by decide⟩ rfl rfl rfl hl.1 rfl (Nat.le_of_ble_eq_true rfl) d_R_sum_49 ⟨Nat.le_refl _, Nat.le_refl _⟩ (fun u4 H locs hp hw => ?_)
  have hput := fin u4 hp
  refine lv_iconst (v := nI 1) hx hb d_R_sum_52 (by decide) ?_
  refine z_zret (rZ _) hx hb hr hlocks (nar_b (by decide)) u4 hw ⟨fun h => absurd ⟨k0, k1, k2⟩ h, fun q2 a2 b2 w1 w2 w3 e1 e2 e3 => ?_⟩ d_R_sum_53
  have q_q2 : q2 = q := (nI_eq (by omega) (by omega)).mp (e1.symm.trans ex)
  subst q_q2
  have q_a2 : a2 = a := (nI_eq (by omega) (by omega)).mp (e2.symm.trans ey)
  subst q_a2
  have q_b2 : b2 = b := (nI_eq (by omega) (by omega)).mp (e3.symm.trans ez)
  subst q_b2
  rw [← ht9]
  exact ⟨rfl, hput⟩
set_option maxHeartbeats 4000000 in
set_option maxRecDepth 100000 in
theorem c_R_times (l : Launch) (G : rG) (σ : rS) (hf : rFine σ) (x y z : Int32) : Met l y_R_times (zW y_R_times b_R_times 4 (some .boolean)) (zr 6 148) (va_Pc [.ref (rA G 0), .int (x), .int (y), .int (z)] (rC G σ)) (va_Qi (fun r u => (¬ (okR x 4 ∧ okR y 4 ∧ okR z 8) → r = nI 0 ∧ u = σ) ∧ ∀ q a b, q < 4 → a < 4 → b < 8 → x = nI q → y = nI a → z = nI b → r = nI 1 ∧ rPut σ q (mrun (rMod 0) (rPt σ a) (rV σ 25, rV σ 26, 0) (rV σ b) 256) u) (fun u => rC G u) (rAA G)) 0 0 (rAA G) := by
  refine Met.ofW (cc := b_R_times) (maxL := 4) (ret := (some .boolean)) (by decide) rfl ?_
  intro p e s m args below meth c s₁ B hml hv
  obtain ⟨rfl, hw⟩ := hv
  have hx := B.exec
  have hb := B.bytes
  have hr := B.returns
  have hts := atoms_spec (ws := zW y_R_times b_R_times 4 (some .boolean)) B.pre
  have ht : ∀ w ∈ zT, w.before ([.ref (rA G 0), .int (x), .int (y), .int (z)] : List Value).toArray s = true := fun w h => hts w (List.mem_cons_of_mem _ h)
  have hown : s.vm.findClass R_R = some m.cls := findClass_of_methodNamed B.named
  have hlocks := B.notSynchronized
  have hl := lv_entry ([.ref (rA G 0), .int (x), .int (y), .int (z)]) (n := 4) (Nat.le_of_ble_eq_true rfl)
  rw [lg_entry_eq]
  generalize (lg_sl ([.ref (rA G 0), .int (x), .int (y), .int (z)]) ++ List.replicate (4 - (lg_sl ([.ref (rA G 0), .int (x), .int (y), .int (z)])).length) Slot.unset).toArray = ls at hl ⊢
  have hl : lv_has ls 4 [(0, .ref (rA G 0)), (1, .int (x)), (2, .int (y)), (3, .int (z))] := hl
  have hno : ∀ (H : Heap) (locs : List Loc) (ls : Array Slot), rH G σ s H locs → lv_has ls 4 [(0, .ref (rA G 0)), (1, .int (x)), (2, .int (y)), (3, .int (z))] → ¬ (okR x 4 ∧ okR y 4 ∧ okR z 8) → W p l e (headSpec (zW y_R_times b_R_times 4 (some .boolean)) (zr 6 148)).room s m ([.ref (rA G 0), .int (x), .int (y), .int (z)] : List Value).toArray below meth c H locs 0 0 (MQ below (va_Qi (fun r u => (¬ (okR x 4 ∧ okR y 4 ∧ okR z 8) → r = nI 0 ∧ u = σ) ∧ ∀ q a b, q < 4 → a < 4 → b < 8 → x = nI q → y = nI a → z = nI b → r = nI 1 ∧ rPut σ q (mrun (rMod 0) (rPt σ a) (rV σ 25, rV σ 26, 0) (rV σ b) 256) u) (fun u => rC G u) (rAA G)) ([.ref (rA G 0), .int (x), .int (y), .int (z)] : List Value).toArray s 0 0 (rAA G)) (F0 m 21 ls []) := by
    intro H locs ls hw hl hn
    refine lv_iconst (v := nI 0) hx hb d_R_times_21 (by decide) ?_
    refine z_zret (rZ _) hx hb hr hlocks (nar_b (by decide)) σ hw ⟨fun _ => ⟨rfl, rfl⟩, fun q a b hq9 ha hb9 e1 e2 e3 => absurd ⟨?_, ?_, ?_⟩ hn⟩ d_R_times_22
    · rw [e1]; exact okR_of hq9 (by decide)
    · rw [e2]; exact okR_of ha (by decide)
    · rw [e3]; exact okR_of hb9 (by decide)
  refine lv_iload_n hx hb d_R_times_0 rfl (lv_at hl 1 rfl) ?_
  refine r_callsi (np := 1) (As := [.int (x)]) (rest := []) ⟨hx, hb, hml, hown, ht⟩ hw (c_R_isSpot l G σ x) ⟨km_R_148, ks_R_isSpot, kc_R_isSpot⟩ (by decide +kernel) ⟨by decide, by decide⟩ rfl rfl rfl rfl hl.1 rfl (Nat.le_of_ble_eq_true rfl) d_R_times_1 ⟨Nat.le_refl _, Nat.le_refl _⟩ (fun r u H locs hp hw => ?_)
  obtain ⟨hpu, rfl⟩ := hp
  rw [hpu] at hw
  clear hpu
  refine n_eq0 (tgt := 21) hx hb d_R_times_4 (by decide) (boolN_s _) (fun c0 => hno H locs ls hw hl (fun q => boolN_0 c0 q.1)) (fun c0 => ?_)
  refine lv_iload_n hx hb d_R_times_7 rfl (lv_at hl 2 rfl) ?_
  refine r_callsi (np := 1) (As := [.int (y)]) (rest := []) ⟨hx, hb, hml, hown, ht⟩ hw (c_R_isSpot l G σ y) ⟨km_R_148, ks_R_isSpot, kc_R_isSpot⟩ (by decide +kernel) ⟨by decide, by decide⟩ rfl rfl rfl rfl hl.1 rfl (Nat.le_of_ble_eq_true rfl) d_R_times_8 ⟨Nat.le_refl _, Nat.le_refl _⟩ (fun r u H locs hp hw => ?_)
  obtain ⟨hpu, rfl⟩ := hp
  rw [hpu] at hw
  clear hpu
  refine n_eq0 (tgt := 21) hx hb d_R_times_11 (by decide) (boolN_s _) (fun c1 => hno H locs ls hw hl (fun q => boolN_0 c1 q.2.1)) (fun c1 => ?_)
  refine lv_iload_n hx hb d_R_times_14 rfl (lv_at hl 3 rfl) ?_
  refine r_callsi (np := 1) (As := [.int (z)]) (rest := []) ⟨hx, hb, hml, hown, ht⟩ hw (c_R_isRegister l G σ z) ⟨km_R_139, ks_R_isRegister, kc_R_isRegister⟩ (by decide +kernel) ⟨by decide, by decide⟩ rfl rfl rfl rfl hl.1 rfl (Nat.le_of_ble_eq_true rfl) d_R_times_15 ⟨Nat.le_refl _, Nat.le_refl _⟩ (fun r u H locs hp hw => ?_)
  obtain ⟨hpu, rfl⟩ := hp
  rw [hpu] at hw
  clear hpu
  refine n_ne0 (tgt := 23) hx hb d_R_times_18 (by decide) (boolN_s _) (fun c2 => ?_) (fun c2 => hno H locs ls hw hl (fun q => boolN_0 c2 q.2.2))
  have k0 := boolN_1 c0
  have k1 := boolN_1 c1
  have k2 := boolN_1 c2
  clear hno
  obtain ⟨q, lt_q, ex⟩ := k0.ex (by decide)
  obtain ⟨a, lt_a, ey⟩ := k1.ex (by decide)
  obtain ⟨b, lt_b, ez⟩ := k2.ex (by decide)
  have hl2 := hl
  rw [ex, ey, ez] at hl2
  have hl : lv_has ls 4 [(0, .ref (rA G 0)), (1, .int (nI (q))), (2, .int (nI (a))), (3, .int (nI (b)))] := hl2
  clear hl2
  obtain ⟨hc, hpts, hN2, hsp⟩ := id hf
  have m1 : 1 < rMod 0 := rMod_one (by decide)
  have qa := hN2 a lt_a
  refine lv_aload_n hx hb d_R_times_23 rfl (lv_at hl 0 rfl) ?_
  refine lv_bipush (v := nI 22) hx hb d_R_times_24 (by decide) ?_
  refine lv_iload_n hx hb d_R_times_26 rfl (lv_at hl 2 rfl) ?_
  refine r_callv (np := 2) (As := [.int (nI (22)), .int (nI (a))]) (rest := []) ⟨hx, hb, hml, hown, ht⟩ hw (c_R_load l G σ hc.1 (by decide) (by decide) lt_a hc.2.2.2.1 qa) ⟨km_R_154, kv_R_load, kx_R_load, kc_R_load⟩ (by decide +kernel) ⟨by decide, by decide⟩ rfl rfl rfl hl.1 rfl (Nat.le_of_ble_eq_true rfl) d_R_times_27 ⟨Nat.le_refl _, Nat.le_refl _⟩ (fun u1 H locs hp hw => ?_)
  obtain ⟨V1, hu1, a1, a2, a3, hk1, ho1⟩ := hp
  have A3 : (V1 22, V1 23, V1 24) = rPt σ a := by
    have a2' : V1 23 = rV σ (11 + 2 * a) := a2
    have a3' : V1 24 = 1 - rN σ a := a3
    rw [a1, a2', a3']
    rfl
  have C8 : V1 8 = rMod 0 := (hk1 8 (by decide) (by decide) (by decide)).trans hc.2.1
  have T0 : (V1 25, V1 26, 0) = (rV σ 25, rV σ 26, 0) := by rw [hk1 25 (by decide) (by decide) (by decide), hk1 26 (by decide) (by decide) (by decide)]
  have hb9 : V1 b = rV σ b := hk1 b (by omega) (by omega) (by omega)
  have pa := hf.pt lt_a
  have pt : t3lt (rMod 0) (rV σ 25, rV σ 26, 0) := ⟨hpts 25 (by decide) (by decide), hpts 26 (by decide) (by decide), rMod_pos (by decide)⟩
  refine lv_aload_n hx hb d_R_times_30 rfl (lv_at hl 0 rfl) ?_
  refine lv_iload_n hx hb d_R_times_31 rfl (lv_at hl 3 rfl) ?_
  refine r_callv (np := 1) (As := [.int (nI (b))]) (rest := []) ⟨hx, hb, hml, hown, ht⟩ hw (c_R_multiple l G u1 (hu1.ok ho1) (by omega) (by omega) (by rw [hu1.V]; exact C8) (by rw [hu1.V, A3]; exact pa) (by rw [hu1.V, T0]; exact pt) (fun r h9 h8 => by rw [hu1.V, hk1 r (by omega) (by omega) (by omega)]; exact hpts r (by omega) h8)) ⟨km_R_160, kv_R_multiple, kx_R_multiple, kc_R_multiple⟩ (by decide +kernel) ⟨by decide, by decide⟩ rfl rfl rfl hl.1 rfl (Nat.le_of_ble_eq_true rfl) d_R_times_32 ⟨Nat.le_refl _, Nat.le_refl _⟩ (fun u3 H locs hp hw => ?_)
  obtain ⟨V3, hu3, j1, j2, j3, hk3, hs3, ho3⟩ := hp
  rw [hu1.V, A3, T0, hb9] at j1 j2 j3
  rw [hu1.V] at hk3
  have jl := mrun_lt (k := rV σ b) (rMod_pos (by decide : 0 < 2)) pa pt 256
  obtain ⟨t, ht9⟩ : ∃ t, t = (mrun (rMod 0) (rPt σ a) (rV σ 25, rV σ 26, 0) (rV σ b) 256) := ⟨_, rfl⟩
  rw [← ht9] at j1 j2 j3 jl
  have hu123 := hu1.trans hu3
  have K3 : ∀ r, r < 22 → V3 r = rV σ r := fun r hr9 => by rw [hk3 r (by omega), hk1 r (by omega) (by omega) (by omega)]
  have L3 : ∀ r, 22 ≤ r → r < 31 → V3 r < rMod 0 := by
    intro r h9 h8
    by_cases c28 : 28 ≤ r
    · exact hs3 r c28 h8
    by_cases c25 : r = 25
    · rw [c25, j1]; exact jl.1
    by_cases c26 : r = 26
    · rw [c26]; exact Nat.lt_of_le_of_lt (Nat.le_of_eq j2) jl.2.1
    by_cases c27 : r = 27
    · rw [c27]; exact Nat.lt_of_le_of_lt (Nat.le_of_eq j3) jl.2.2
    rw [hk3 r (by omega)]
    by_cases c22 : r = 22
    · rw [c22, a1]; exact pa.1
    by_cases c23 : r = 23
    · rw [c23]; exact Nat.lt_of_le_of_lt (Nat.le_of_eq a2) pa.2.1
    by_cases c24 : r = 24
    · rw [c24]; exact Nat.lt_of_le_of_lt (Nat.le_of_eq a3) pa.2.2
    omega
  have j2' : V3 (25 + 1) = t.2.1 := j2
  have j3' : V3 (25 + 2) = t.2.2 := j3
  clear j2 j3
  have j2 := j2'
  have j3 := j3'
  refine lv_aload_n hx hb d_R_times_35 rfl (lv_at hl 0 rfl) ?_
  refine lv_iload_n hx hb d_R_times_36 rfl (lv_at hl 1 rfl) ?_
  refine lv_bipush (v := nI 25) hx hb d_R_times_37 (by decide) ?_
  have fin : ∀ (u4 : rS), (∃ V, rU (rsN u3 (va_up (rN u3) q (boolN (rV u3 (25 + 2) = 0)))) V u4 ∧ (rV u3 (25 + 2) ≠ 0 → V (10 + 2 * q) = mm (rMod 0) (rV u3 25) (rV u3 (25 + 2) ^ (rMod 0 - 2) % rMod 0) ∧ V (11 + 2 * q) = mm (rMod 0) (rV u3 (25 + 1)) (rV u3 (25 + 2) ^ (rMod 0 - 2) % rMod 0)) ∧ (rV u3 (25 + 2) = 0 → V (10 + 2 * q) = rV u3 (10 + 2 * q) ∧ V (11 + 2 * q) = rV u3 (11 + 2 * q)) ∧ (∀ r, r ≠ 10 + 2 * q → r ≠ 11 + 2 * q → r ≠ 38 → r ≠ 39 → r ≠ 44 → r ≠ 45 → r ≠ 46 → V r = rV u3 r) ∧ ∀ r, V r < b26 ^ 10) → rPut σ q t u4 := by
    rintro u4 ⟨V4, hu4, g1, g0, hk4, ho4⟩
    rw [hu3.V] at g1 g0 hk4 hu4
    rw [j1, j2, j3] at g1
    rw [j3] at g0 hu4
    refine ⟨V4, hu123.sN (by rw [hu3.N, hu123.N.symm.trans hu3.N] at *; exact hu4), g1, fun h => ?_, fun r b1 b2 b3 => ?_, fun r b1 b2 => ?_, ho4⟩
    · have h2 := g0 h; exact ⟨h2.1.trans (K3 _ (by omega)), h2.2.trans (K3 _ (by omega))⟩
    · rw [hk4 r b1 b2 (by omega) (by omega) (by omega) (by omega) (by omega)]; exact K3 r b3
    · rw [hk4 r (by omega) (by omega) (by omega) (by omega) (by omega) (by omega) (by omega)]; exact L3 r b1 b2
  refine r_callv (np := 2) (As := [.int (nI (q)), .int (nI (25))]) (rest := []) ⟨hx, hb, hml, hown, ht⟩ hw (c_R_store l G u3 (hu3.ok ho3) lt_q (by decide) (by decide) (by rw [hu3.V, K3 8 (by decide)]; exact hc.2.1) (by rw [hu3.V, K3 20 (by decide)]; exact hc.2.2.2.1)) ⟨km_R_157, kv_R_store, kx_R_store, kc_R_store⟩ (by decide +kernel) ⟨by decide, by decide⟩ rfl rfl rfl hl.1 rfl (Nat.le_of_ble_eq_true rfl) d_R_times_39 ⟨Nat.le_refl _, Nat.le_refl _⟩ (fun u4 H locs hp hw => ?_)
  have hput := fin u4 hp
  refine lv_iconst (v := nI 1) hx hb d_R_times_42 (by decide) ?_
  refine z_zret (rZ _) hx hb hr hlocks (nar_b (by decide)) u4 hw ⟨fun h => absurd ⟨k0, k1, k2⟩ h, fun q2 a2 b2 w1 w2 w3 e1 e2 e3 => ?_⟩ d_R_times_43
  have q_q2 : q2 = q := (nI_eq (by omega) (by omega)).mp (e1.symm.trans ex)
  subst q_q2
  have q_a2 : a2 = a := (nI_eq (by omega) (by omega)).mp (e2.symm.trans ey)
  subst q_a2
  have q_b2 : b2 = b := (nI_eq (by omega) (by omega)).mp (e3.symm.trans ez)
  subst q_b2
  rw [← ht9]
  exact ⟨rfl, hput⟩
set_option maxHeartbeats 4000000 in
set_option maxRecDepth 100000 in
theorem c_R_place (l : Launch) (G : rG) (σ : rS) (hf : rFine σ) (x y z : Int32) : Met l y_R_place (zW y_R_place b_R_place 4 (some .int)) (zr 1 23) (va_Pc [.ref (rA G 0), .int (x), .int (y), .int (z)] (rC G σ)) (va_Qi (fun r u => (¬ (okR x 4 ∧ okR y 8 ∧ okR z 8 ∧ y ≠ z) → r = -1 ∧ u = σ) ∧ ∀ q a b, q < 4 → a < 8 → b < 8 → a ≠ b → x = nI q → y = nI a → z = nI b → (rN σ q ≠ 0 → r = nI 0 ∧ u = σ) ∧ (rN σ q = 0 → r = nI 1 ∧ rU σ (va_up (va_up (rV σ) a (rV σ (10 + 2 * q))) b (rV σ (11 + 2 * q))) u)) (fun u => rC G u) (rAA G)) 0 0 (rAA G) := by
  refine Met.ofW (cc := b_R_place) (maxL := 4) (ret := (some .int)) (by decide) rfl ?_
  intro p e s m args below meth c s₁ B hml hv
  obtain ⟨rfl, hw⟩ := hv
  have hx := B.exec
  have hb := B.bytes
  have hr := B.returns
  have hts := atoms_spec (ws := zW y_R_place b_R_place 4 (some .int)) B.pre
  have ht : ∀ w ∈ zT, w.before ([.ref (rA G 0), .int (x), .int (y), .int (z)] : List Value).toArray s = true := fun w h => hts w (List.mem_cons_of_mem _ h)
  have hown : s.vm.findClass R_R = some m.cls := findClass_of_methodNamed B.named
  have hlocks := B.notSynchronized
  have hl := lv_entry ([.ref (rA G 0), .int (x), .int (y), .int (z)]) (n := 4) (Nat.le_of_ble_eq_true rfl)
  rw [lg_entry_eq]
  generalize (lg_sl ([.ref (rA G 0), .int (x), .int (y), .int (z)]) ++ List.replicate (4 - (lg_sl ([.ref (rA G 0), .int (x), .int (y), .int (z)])).length) Slot.unset).toArray = ls at hl ⊢
  have hl : lv_has ls 4 [(0, .ref (rA G 0)), (1, .int (x)), (2, .int (y)), (3, .int (z))] := hl
  have hno : ∀ (H : Heap) (locs : List Loc) (ls : Array Slot), rH G σ s H locs → lv_has ls 4 [(0, .ref (rA G 0)), (1, .int (x)), (2, .int (y)), (3, .int (z))] → ¬ (okR x 4 ∧ okR y 8 ∧ okR z 8 ∧ y ≠ z) → W p l e (headSpec (zW y_R_place b_R_place 4 (some .int)) (zr 1 23)).room s m ([.ref (rA G 0), .int (x), .int (y), .int (z)] : List Value).toArray below meth c H locs 0 0 (MQ below (va_Qi (fun r u => (¬ (okR x 4 ∧ okR y 8 ∧ okR z 8 ∧ y ≠ z) → r = -1 ∧ u = σ) ∧ ∀ q a b, q < 4 → a < 8 → b < 8 → a ≠ b → x = nI q → y = nI a → z = nI b → (rN σ q ≠ 0 → r = nI 0 ∧ u = σ) ∧ (rN σ q = 0 → r = nI 1 ∧ rU σ (va_up (va_up (rV σ) a (rV σ (10 + 2 * q))) b (rV σ (11 + 2 * q))) u)) (fun u => rC G u) (rAA G)) ([.ref (rA G 0), .int (x), .int (y), .int (z)] : List Value).toArray s 0 0 (rAA G)) (F0 m 26 ls []) := by
    intro H locs ls hw hl hn
    refine lv_iconst (v := -1) hx hb d_R_place_26 (by decide) ?_
    refine z_iret (rZ _) hx hb hr hlocks σ hw ⟨fun _ => ⟨rfl, rfl⟩, fun q a b hq9 ha hb9 hab e1 e2 e3 => absurd ⟨?_, ?_, ?_, ?_⟩ hn⟩ d_R_place_27
    · rw [e1]; exact okR_of hq9 (by decide)
    · rw [e2]; exact okR_of ha (by decide)
    · rw [e3]; exact okR_of hb9 (by decide)
    · rw [e2, e3]; exact fun q9 => hab ((nI_eq (by omega) (by omega)).mp q9)
  refine lv_iload_n hx hb d_R_place_0 rfl (lv_at hl 1 rfl) ?_
  refine r_callsi (np := 1) (As := [.int (x)]) (rest := []) ⟨hx, hb, hml, hown, ht⟩ hw (c_R_isSpot l G σ x) ⟨km_R_148, ks_R_isSpot, kc_R_isSpot⟩ (by decide +kernel) ⟨by decide, by decide⟩ rfl rfl rfl rfl hl.1 rfl (Nat.le_of_ble_eq_true rfl) d_R_place_1 ⟨Nat.le_refl _, Nat.le_refl _⟩ (fun r u H locs hp hw => ?_)
  obtain ⟨hpu, rfl⟩ := hp
  rw [hpu] at hw
  clear hpu
  refine n_eq0 (tgt := 26) hx hb d_R_place_4 (by decide) (boolN_s _) (fun c0 => hno H locs ls hw hl (fun q => boolN_0 c0 q.1)) (fun c0 => ?_)
  refine lv_iload_n hx hb d_R_place_7 rfl (lv_at hl 2 rfl) ?_
  refine r_callsi (np := 1) (As := [.int (y)]) (rest := []) ⟨hx, hb, hml, hown, ht⟩ hw (c_R_isRegister l G σ y) ⟨km_R_139, ks_R_isRegister, kc_R_isRegister⟩ (by decide +kernel) ⟨by decide, by decide⟩ rfl rfl rfl rfl hl.1 rfl (Nat.le_of_ble_eq_true rfl) d_R_place_8 ⟨Nat.le_refl _, Nat.le_refl _⟩ (fun r u H locs hp hw => ?_)
  obtain ⟨hpu, rfl⟩ := hp
  rw [hpu] at hw
  clear hpu
  refine n_eq0 (tgt := 26) hx hb d_R_place_11 (by decide) (boolN_s _) (fun c1 => hno H locs ls hw hl (fun q => boolN_0 c1 q.2.1)) (fun c1 => ?_)
  refine lv_iload_n hx hb d_R_place_14 rfl (lv_at hl 3 rfl) ?_
  refine r_callsi (np := 1) (As := [.int (z)]) (rest := []) ⟨hx, hb, hml, hown, ht⟩ hw (c_R_isRegister l G σ z) ⟨km_R_139, ks_R_isRegister, kc_R_isRegister⟩ (by decide +kernel) ⟨by decide, by decide⟩ rfl rfl rfl rfl hl.1 rfl (Nat.le_of_ble_eq_true rfl) d_R_place_15 ⟨Nat.le_refl _, Nat.le_refl _⟩ (fun r u H locs hp hw => ?_)
  obtain ⟨hpu, rfl⟩ := hp
  rw [hpu] at hw
  clear hpu
  refine n_eq0 (tgt := 26) hx hb d_R_place_18 (by decide) (boolN_s _) (fun c2 => hno H locs ls hw hl (fun q => boolN_0 c2 q.2.2.1)) (fun c2 => ?_)
  refine lv_iload_n hx hb d_R_place_21 rfl (lv_at hl 2 rfl) ?_
  refine lv_iload_n hx hb d_R_place_22 rfl (lv_at hl 3 rfl) ?_
  refine lv_icmp_ne (tgt := 28) hx hb d_R_place_23 (by decide) (fun c3 => ?_) (fun c3 => hno H locs ls hw hl (fun q => q.2.2.2 c3))
  have k0 := boolN_1 c0
  have k1 := boolN_1 c1
  have k2 := boolN_1 c2
  clear hno
  obtain ⟨q, lt_q, ex⟩ := k0.ex (by decide)
  obtain ⟨a, lt_a, ey⟩ := k1.ex (by decide)
  obtain ⟨b, lt_b, ez⟩ := k2.ex (by decide)
  have hl2 := hl
  rw [ex, ey, ez] at hl2
  have hl : lv_has ls 4 [(0, .ref (rA G 0)), (1, .int (nI (q))), (2, .int (nI (a))), (3, .int (nI (b)))] := hl2
  clear hl2
  have hab : a ≠ b := fun q9 => c3 (by rw [ey, ez, q9])
  have qn := hf.2.2.1 q lt_q
  refine lv_aload_n hx hb d_R_place_28 rfl (lv_at hl 0 rfl) ?_
  refine r_get hx hb ht hown hw 4 (by decide) (ht _ kf_R_23) rfl d_R_place_29 (fun _ h9 => h9) ?_
  refine lv_iload_n hx hb d_R_place_32 rfl (lv_at hl 1 rfl) ?_
  refine r_zld hx hb hw lt_q d_R_place_33 ?_
  refine n_eq0 (tgt := 39) hx hb d_R_place_34 (by decide) (by omega) (fun c4 => ?_) (fun c4 => ?_)
  · refine lv_aload_n hx hb d_R_place_39 rfl (lv_at hl 0 rfl) ?_
    refine lv_iload_n hx hb d_R_place_40 rfl (lv_at hl 2 rfl) ?_
    refine lv_bipush (v := nI 10) hx hb d_R_place_41 (by decide) ?_
    refine lv_iconst (v := nI 2) hx hb d_R_place_43 (by decide) ?_
    refine lv_iload_n hx hb d_R_place_44 rfl (lv_at hl 1 rfl) ?_
    refine lv_imul hx hb d_R_place_45 ?_
    refine tp_i (y := nI (2 * q)) (pk_mul _ _) ?_
    refine lv_iadd hx hb d_R_place_46 ?_
    refine tp_i (y := nI (10 + (2 * q))) (nI_add _ _) ?_
    refine r_callv (np := 2) (As := [.int (nI (a)), .int (nI (10 + (2 * q)))]) (rest := []) ⟨hx, hb, hml, hown, ht⟩ hw (c_R_copy l G σ hf.1.1 (by omega) (by omega) (by omega)) ⟨km_R_70, kv_R_copy, kx_R_copy, kc_R_copy⟩ (by decide +kernel) ⟨by decide, by decide⟩ rfl rfl rfl hl.1 rfl (Nat.le_of_ble_eq_true rfl) d_R_place_47 ⟨Nat.le_refl _, Nat.le_refl _⟩ (fun u1 H locs hp hw => ?_)
    subst hp
    refine lv_aload_n hx hb d_R_place_50 rfl (lv_at hl 0 rfl) ?_
    refine lv_iload_n hx hb d_R_place_51 rfl (lv_at hl 3 rfl) ?_
    refine lv_bipush (v := nI 11) hx hb d_R_place_52 (by decide) ?_
    refine lv_iconst (v := nI 2) hx hb d_R_place_54 (by decide) ?_
    refine lv_iload_n hx hb d_R_place_55 rfl (lv_at hl 1 rfl) ?_
    refine lv_imul hx hb d_R_place_56 ?_
    refine tp_i (y := nI (2 * q)) (pk_mul _ _) ?_
    refine lv_iadd hx hb d_R_place_57 ?_
    refine tp_i (y := nI (11 + (2 * q))) (nI_add _ _) ?_
    refine r_callv (np := 2) (As := [.int (nI (b)), .int (nI (11 + (2 * q)))]) (rest := []) ⟨hx, hb, hml, hown, ht⟩ hw (c_R_copy l G _ (hf.1.1.up (hf.1.1 _)) (by omega) (by omega) (by omega)) ⟨km_R_70, kv_R_copy, kx_R_copy, kc_R_copy⟩ (by decide +kernel) ⟨by decide, by decide⟩ rfl rfl rfl hl.1 rfl (Nat.le_of_ble_eq_true rfl) d_R_place_58 ⟨Nat.le_refl _, Nat.le_refl _⟩ (fun u2 H locs hp hw => ?_)
    refine lv_iconst (v := nI 1) hx hb d_R_place_61 (by decide) ?_
    refine z_iret (rZ _) hx hb hr hlocks u2 hw ⟨fun h => absurd ⟨k0, k1, k2, c3⟩ h, fun q2 a2 b2 w1 w2 w3 w4 e1 e2 e3 => ?_⟩ d_R_place_62
    have q_q2 : q2 = q := (nI_eq (by omega) (by omega)).mp (e1.symm.trans ex)
    subst q_q2
    have q_a2 : a2 = a := (nI_eq (by omega) (by omega)).mp (e2.symm.trans ey)
    subst q_a2
    have q_b2 : b2 = b := (nI_eq (by omega) (by omega)).mp (e3.symm.trans ez)
    subst q_b2
    refine ⟨fun q9 => absurd c4 q9, fun _ => ⟨rfl, rU.of (hp.trans ?_)⟩⟩
    show rsV σ (va_up (va_up (rV σ) a2 (rV σ (10 + 2 * q2))) b2 (va_up (rV σ) a2 (rV σ (10 + 2 * q2)) (11 + 2 * q2))) = _
    rw [up_ne _ _ (by omega)]
  · refine lv_iconst (v := nI 0) hx hb d_R_place_37 (by decide) ?_
    refine z_iret (rZ _) hx hb hr hlocks σ hw ⟨fun h => absurd ⟨k0, k1, k2, c3⟩ h, fun q2 a2 b2 w1 w2 w3 w4 e1 e2 e3 => ?_⟩ d_R_place_38
    have q_q2 : q2 = q := (nI_eq (by omega) (by omega)).mp (e1.symm.trans ex)
    subst q_q2
    have q_a2 : a2 = a := (nI_eq (by omega) (by omega)).mp (e2.symm.trans ey)
    subst q_a2
    have q_b2 : b2 = b := (nI_eq (by omega) (by omega)).mp (e3.symm.trans ez)
    subst q_b2
    exact ⟨fun _ => ⟨rfl, rfl⟩, fun q9 => absurd q9 c4⟩
