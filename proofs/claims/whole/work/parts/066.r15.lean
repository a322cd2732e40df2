/-! what the reference answers: reduce, root, place, sum, times -/
/-- what the reference's rows hold besides the registers and spots -/
def rCon (σ : rS) : Prop := rOk σ ∧ rV σ 8 = rMod 0 ∧ rV σ 9 = rMod 1 ∧ rV σ 20 = 1 ∧ rV σ 21 = 7
theorem rCon.q {σ : rS} (h : rCon σ) {μ : Nat} (hμ : μ < 2) : rV σ (8 + μ) = rMod μ := by
  rcases (show μ = 0 ∨ μ = 1 by omega) with rfl | rfl
  · exact h.2.1
  · exact h.2.2.1
set_option maxHeartbeats 4000000 in
set_option maxRecDepth 100000 in
theorem c_R_reduce (l : Launch) (G : rG) (σ : rS) (hc : rCon σ) (x y : Int32) : Met l y_R_reduce (zW y_R_reduce b_R_reduce 3 (some .boolean)) (zr 3 78) (va_Pc [.ref (rA G 0), .int (x), .int (y)] (rC G σ)) (va_Qi (fun r u => r = nI (boolN (okR x 8 ∧ okR y 2)) ∧ (¬ (okR x 8 ∧ okR y 2) → u = σ) ∧ ∀ a μ, a < 8 → μ < 2 → x = nI a → y = nI μ → rU σ (va_up (rV σ) a (rV σ a % rMod μ)) u) (fun u => rC G u) (rAA G)) 0 0 (rAA G) := by
  refine Met.ofW (cc := b_R_reduce) (maxL := 3) (ret := (some .boolean)) (by decide) rfl ?_
  intro p e s m args below meth c s₁ B hml hv
  obtain ⟨rfl, hw⟩ := hv
  have hx := B.exec
  have hb := B.bytes
  have hr := B.returns
  have hts := atoms_spec (ws := zW y_R_reduce b_R_reduce 3 (some .boolean)) B.pre
  have ht : ∀ w ∈ zT, w.before ([.ref (rA G 0), .int (x), .int (y)] : List Value).toArray s = true := fun w h => hts w (List.mem_cons_of_mem _ h)
  have hown : s.vm.findClass R_R = some m.cls := findClass_of_methodNamed B.named
  have hlocks := B.notSynchronized
  have hl := lv_entry ([.ref (rA G 0), .int (x), .int (y)]) (n := 3) (Nat.le_of_ble_eq_true rfl)
  rw [lg_entry_eq]
  generalize (lg_sl ([.ref (rA G 0), .int (x), .int (y)]) ++ List.replicate (3 - (lg_sl ([.ref (rA G 0), .int (x), .int (y)])).length) Slot.unset).toArray = ls at hl ⊢
  have hl : lv_has ls 3 [(0, .ref (rA G 0)), (1, .int (x)), (2, .int (y))] := hl
  have hno : ∀ (H : Heap) (locs : List Loc) (ls : Array Slot), rH G σ s H locs → lv_has ls 3 [(0, .ref (rA G 0)), (1, .int (x)), (2, .int (y))] → ¬ (okR x 8 ∧ okR y 2) → W p l e (headSpec (zW y_R_reduce b_R_reduce 3 (some .boolean)) (zr 3 78)).room s m ([.ref (rA G 0), .int (x), .int (y)] : List Value).toArray below meth c H locs 0 0 (MQ below (va_Qi (fun r u => r = nI (boolN (okR x 8 ∧ okR y 2)) ∧ (¬ (okR x 8 ∧ okR y 2) → u = σ) ∧ ∀ a μ, a < 8 → μ < 2 → x = nI a → y = nI μ → rU σ (va_up (rV σ) a (rV σ a % rMod μ)) u) (fun u => rC G u) (rAA G)) ([.ref (rA G 0), .int (x), .int (y)] : List Value).toArray s 0 0 (rAA G)) (F0 m 14 ls []) := by
    intro H locs ls hw hl hn
    refine lv_iconst (v := nI 0) hx hb d_R_reduce_14 (by decide) ?_
    refine z_zret (rZ _) hx hb hr hlocks (nar_b (by decide)) σ hw ⟨by rw [boolN_f hn], fun _ => rfl, fun a μ ha hμ e1 e2 => absurd ⟨?_, ?_⟩ hn⟩ d_R_reduce_15
    · rw [e1]; exact okR_of ha (by decide)
    · rw [e2]; exact okR_of hμ (by decide)
  refine lv_iload_n hx hb d_R_reduce_0 rfl (lv_at hl 1 rfl) ?_
  refine r_callsi (np := 1) (As := [.int (x)]) (rest := []) ⟨hx, hb, hml, hown, ht⟩ hw (c_R_isRegister l G σ x) ⟨km_R_139, ks_R_isRegister, kc_R_isRegister⟩ (by decide +kernel) ⟨by decide, by decide⟩ rfl rfl rfl rfl hl.1 rfl (Nat.le_of_ble_eq_true rfl) d_R_reduce_1 ⟨Nat.le_refl _, Nat.le_refl _⟩ (fun r u H locs hp hw => ?_)
  obtain ⟨hpu, rfl⟩ := hp
  rw [hpu] at hw
  clear hpu
  refine n_eq0 (tgt := 14) hx hb d_R_reduce_4 (by decide) (boolN_s _) (fun c1 => hno H locs ls hw hl (fun q => boolN_0 c1 q.1)) (fun c1 => ?_)
  refine lv_iload_n hx hb d_R_reduce_7 rfl (lv_at hl 2 rfl) ?_
  refine r_callsi (np := 1) (As := [.int (y)]) (rest := []) ⟨hx, hb, hml, hown, ht⟩ hw (c_R_isModulus l G σ y) ⟨km_R_142, ks_R_isModulus, kc_R_isModulus⟩ (by decide +kernel) ⟨by decide, by decide⟩ rfl rfl rfl rfl hl.1 rfl (Nat.le_of_ble_eq_true rfl) d_R_reduce_8 ⟨Nat.le_refl _, Nat.le_refl _⟩ (fun r u H locs hp hw => ?_)
  obtain ⟨hpu, rfl⟩ := hp
  rw [hpu] at hw
  clear hpu
  refine n_ne0 (tgt := 16) hx hb d_R_reduce_11 (by decide) (boolN_s _) (fun c2 => ?_) (fun c2 => hno H locs ls hw hl (fun q => boolN_0 c2 q.2))
  have k1 := boolN_1 c1
  have k2 := boolN_1 c2
  obtain ⟨a, ha, rfl⟩ := k1.ex (by decide)
  obtain ⟨μ, hμ, rfl⟩ := k2.ex (by decide)
  refine lv_aload_n hx hb d_R_reduce_16 rfl (lv_at hl 0 rfl) ?_
  refine lv_iload_n hx hb d_R_reduce_17 rfl (lv_at hl 1 rfl) ?_
  refine lv_iload_n hx hb d_R_reduce_18 rfl (lv_at hl 1 rfl) ?_
  refine lv_bipush (v := nI 20) hx hb d_R_reduce_19 (by decide) ?_
  refine lv_bipush (v := nI 8) hx hb d_R_reduce_21 (by decide) ?_
  refine lv_iload_n hx hb d_R_reduce_23 rfl (lv_at hl 2 rfl) ?_
  refine lv_iadd hx hb d_R_reduce_24 ?_
  refine tp_i (y := nI (8 + μ)) (nI_add _ _) ?_
  refine r_callv (np := 4) (As := [.int (nI (a)), .int (nI (a)), .int (nI (20)), .int (nI (8 + μ))]) (rest := []) ⟨hx, hb, hml, hown, ht⟩ hw (c_R_multiply l G σ hc.1 hμ (by omega) (by omega) (by decide) (by omega) (hc.q hμ)) ⟨km_R_96, kv_R_multiply, kx_R_multiply, kc_R_multiply⟩ (by decide +kernel) ⟨by decide, by decide⟩ rfl rfl rfl hl.1 rfl (Nat.le_of_ble_eq_true rfl) d_R_reduce_25 ⟨Nat.le_refl _, Nat.le_refl _⟩ (fun u H locs hp hw => ?_)
  have e9 : rU σ (va_up (rV σ) a (rV σ a % rMod μ)) u := by
    have h : rU σ (va_up (rV σ) a ((rV σ a * rV σ 20) % rMod μ)) u := hp
    rw [hc.2.2.2.1, Nat.mul_one] at h
    exact h
  refine lv_iconst (v := nI 1) hx hb d_R_reduce_28 (by decide) ?_
  refine z_zret (rZ _) hx hb hr hlocks (nar_b (by decide)) u hw ⟨by rw [boolN_t ⟨k1, k2⟩], fun q => absurd ⟨k1, k2⟩ q, fun a2 μ2 ha2 hμ2 e1 e2 => ?_⟩ d_R_reduce_29
  rw [← (nI_eq (by omega) (by omega)).mp e1, ← (nI_eq (by omega) (by omega)).mp e2]
  exact e9
set_option maxHeartbeats 4000000 in
set_option maxRecDepth 100000 in
theorem c_R_root (l : Launch) (G : rG) (σ : rS) (hc : rCon σ) (x y : Int32) : Met l y_R_root (zW y_R_root b_R_root 3 (some .int)) (zr 5 127) (va_Pc [.ref (rA G 0), .int (x), .int (y)] (rC G σ)) (va_Qi (fun r u => (¬ (okR x 8 ∧ okR y 8) → r = nI 0 ∧ u = σ) ∧ ∀ t a, t < 8 → a < 8 → x = nI t → y = nI a → r = nI (boolN (rV σ a < rMod 0 ∧ mm (rMod 0) (rootN (rV σ a)) (rootN (rV σ a)) = rV σ a)) ∧ ∃ V, rU σ V u ∧ ((rV σ a < rMod 0 ∧ mm (rMod 0) (rootN (rV σ a)) (rootN (rV σ a)) = rV σ a) → V t = evenN (rMod 0) (rootN (rV σ a))) ∧ (¬ (rV σ a < rMod 0 ∧ mm (rMod 0) (rootN (rV σ a)) (rootN (rV σ a)) = rV σ a) → V t = rV σ t) ∧ (∀ r, r ≠ t → r < 37 → V r = rV σ r) ∧ ∀ r, V r < b26 ^ 10) (fun u => rC G u) (rAA G)) 0 0 (rAA G) := by
  refine Met.ofW (cc := b_R_root) (maxL := 3) (ret := (some .int)) (by decide) rfl ?_
  intro p e s m args below meth c s₁ B hml hv
  obtain ⟨rfl, hw⟩ := hv
  have hx := B.exec
  have hb := B.bytes
  have hr := B.returns
  have hts := atoms_spec (ws := zW y_R_root b_R_root 3 (some .int)) B.pre
  have ht : ∀ w ∈ zT, w.before ([.ref (rA G 0), .int (x), .int (y)] : List Value).toArray s = true := fun w h => hts w (List.mem_cons_of_mem _ h)
  have hown : s.vm.findClass R_R = some m.cls := findClass_of_methodNamed B.named
  have hlocks := B.notSynchronized
  have hl := lv_entry ([.ref (rA G 0), .int (x), .int (y)]) (n := 3) (Nat.le_of_ble_eq_true rfl)
  rw [lg_entry_eq]
  generalize (lg_sl ([.ref (rA G 0), .int (x), .int (y)]) ++ List.replicate (3 - (lg_sl ([.ref (rA G 0), .int (x), .int (y)])).length) Slot.unset).toArray = ls at hl ⊢
  have hl : lv_has ls 3 [(0, .ref (rA G 0)), (1, .int (x)), (2, .int (y))] := hl
  have hno : ∀ (H : Heap) (locs : List Loc) (ls : Array Slot), rH G σ s H locs → lv_has ls 3 [(0, .ref (rA G 0)), (1, .int (x)), (2, .int (y))] → ¬ (okR x 8 ∧ okR y 8) → W p l e (headSpec (zW y_R_root b_R_root 3 (some .int)) (zr 5 127)).room s m ([.ref (rA G 0), .int (x), .int (y)] : List Value).toArray below meth c H locs 0 0 (MQ below (va_Qi (fun r u => (¬ (okR x 8 ∧ okR y 8) → r = nI 0 ∧ u = σ) ∧ ∀ t a, t < 8 → a < 8 → x = nI t → y = nI a → r = nI (boolN (rV σ a < rMod 0 ∧ mm (rMod 0) (rootN (rV σ a)) (rootN (rV σ a)) = rV σ a)) ∧ ∃ V, rU σ V u ∧ ((rV σ a < rMod 0 ∧ mm (rMod 0) (rootN (rV σ a)) (rootN (rV σ a)) = rV σ a) → V t = evenN (rMod 0) (rootN (rV σ a))) ∧ (¬ (rV σ a < rMod 0 ∧ mm (rMod 0) (rootN (rV σ a)) (rootN (rV σ a)) = rV σ a) → V t = rV σ t) ∧ (∀ r, r ≠ t → r < 37 → V r = rV σ r) ∧ ∀ r, V r < b26 ^ 10) (fun u => rC G u) (rAA G)) ([.ref (rA G 0), .int (x), .int (y)] : List Value).toArray s 0 0 (rAA G)) (F0 m 37 ls []) := by
    intro H locs ls hw hl hn
    refine lv_iconst (v := nI 0) hx hb d_R_root_37 (by decide) ?_
    refine z_iret (rZ _) hx hb hr hlocks σ hw ⟨fun _ => ⟨rfl, rfl⟩, fun t a ht9 ha e1 e2 => absurd ⟨?_, ?_⟩ hn⟩ d_R_root_38
    · rw [e1]; exact okR_of ht9 (by decide)
    · rw [e2]; exact okR_of ha (by decide)
  refine lv_iload_n hx hb d_R_root_0 rfl (lv_at hl 1 rfl) ?_
  refine r_callsi (np := 1) (As := [.int (x)]) (rest := []) ⟨hx, hb, hml, hown, ht⟩ hw (c_R_isRegister l G σ x) ⟨km_R_139, ks_R_isRegister, kc_R_isRegister⟩ (by decide +kernel) ⟨by decide, by decide⟩ rfl rfl rfl rfl hl.1 rfl (Nat.le_of_ble_eq_true rfl) d_R_root_1 ⟨Nat.le_refl _, Nat.le_refl _⟩ (fun r u H locs hp hw => ?_)
  obtain ⟨hpu, rfl⟩ := hp
  rw [hpu] at hw
  clear hpu
  refine n_eq0 (tgt := 37) hx hb d_R_root_4 (by decide) (boolN_s _) (fun c1 => hno H locs ls hw hl (fun q => boolN_0 c1 q.1)) (fun c1 => ?_)
  refine lv_iload_n hx hb d_R_root_7 rfl (lv_at hl 2 rfl) ?_
  refine r_callsi (np := 1) (As := [.int (y)]) (rest := []) ⟨hx, hb, hml, hown, ht⟩ hw (c_R_isRegister l G σ y) ⟨km_R_139, ks_R_isRegister, kc_R_isRegister⟩ (by decide +kernel) ⟨by decide, by decide⟩ rfl rfl rfl rfl hl.1 rfl (Nat.le_of_ble_eq_true rfl) d_R_root_8 ⟨Nat.le_refl _, Nat.le_refl _⟩ (fun r u H locs hp hw => ?_)
  obtain ⟨hpu, rfl⟩ := hp
  rw [hpu] at hw
  clear hpu
  refine n_eq0 (tgt := 37) hx hb d_R_root_11 (by decide) (boolN_s _) (fun c2 => hno H locs ls hw hl (fun q => boolN_0 c2 q.2)) (fun c2 => ?_)
  have k1 := boolN_1 c1
  have k2 := boolN_1 c2
  clear hno
  obtain ⟨t, lt_t, ex⟩ := k1.ex (by decide)
  obtain ⟨a, lt_a, ey⟩ := k2.ex (by decide)
  have hl2 := hl
  rw [ex, ey] at hl2
  have hl : lv_has ls 3 [(0, .ref (rA G 0)), (1, .int (nI (t))), (2, .int (nI (a)))] := hl2
  clear hl2
  have bad : ∀ (V : Nat → Nat) (u : rS) (H : Heap) (locs : List Loc) (ls : Array Slot), ¬ (rV σ a < rMod 0 ∧ mm (rMod 0) (rootN (rV σ a)) (rootN (rV σ a)) = rV σ a) → rU σ V u → V t = rV σ t → (∀ r, r ≠ t → r < 37 → V r = rV σ r) → (∀ r, V r < b26 ^ 10) → rH G u s H locs → lv_has ls 3 [(0, .ref (rA G 0)), (1, .int (nI (t))), (2, .int (nI (a)))] → W p l e (headSpec (zW y_R_root b_R_root 3 (some .int)) (zr 5 127)).room s m ([.ref (rA G 0), .int (x), .int (y)] : List Value).toArray below meth c H locs 0 0 (MQ below (va_Qi (fun r u => (¬ (okR x 8 ∧ okR y 8) → r = nI 0 ∧ u = σ) ∧ ∀ t a, t < 8 → a < 8 → x = nI t → y = nI a → r = nI (boolN (rV σ a < rMod 0 ∧ mm (rMod 0) (rootN (rV σ a)) (rootN (rV σ a)) = rV σ a)) ∧ ∃ V, rU σ V u ∧ ((rV σ a < rMod 0 ∧ mm (rMod 0) (rootN (rV σ a)) (rootN (rV σ a)) = rV σ a) → V t = evenN (rMod 0) (rootN (rV σ a))) ∧ (¬ (rV σ a < rMod 0 ∧ mm (rMod 0) (rootN (rV σ a)) (rootN (rV σ a)) = rV σ a) → V t = rV σ t) ∧ (∀ r, r ≠ t → r < 37 → V r = rV σ r) ∧ ∀ r, V r < b26 ^ 10) (fun u => rC G u) (rAA G)) ([.ref (rA G 0), .int (x), .int (y)] : List Value).toArray s 0 0 (rAA G)) (F0 m 37 ls []) := by
    intro V u H locs ls hn hu et hk ho hw hl
    refine lv_iconst (v := nI 0) hx hb d_R_root_37 (by decide) ?_
    refine z_iret (rZ _) hx hb hr hlocks u hw ⟨fun q => absurd ⟨k1, k2⟩ q, fun t2 a2 b1 b2 e1 e2 => ?_⟩ d_R_root_38
    have q_t2 : t2 = t := (nI_eq (by omega) (by omega)).mp (e1.symm.trans ex)
    subst q_t2
    have q_a2 : a2 = a := (nI_eq (by omega) (by omega)).mp (e2.symm.trans ey)
    subst q_a2
    exact ⟨by rw [boolN_f hn], V, hu, fun q => absurd q hn, fun _ => et, hk, ho⟩
  refine lv_aload_n hx hb d_R_root_14 rfl (lv_at hl 0 rfl) ?_
  refine lv_iload_n hx hb d_R_root_15 rfl (lv_at hl 2 rfl) ?_
  refine lv_bipush (v := nI 8) hx hb d_R_root_16 (by decide) ?_
  refine r_calli (np := 2) (As := [.int (nI (a)), .int (nI (8))]) (rest := []) ⟨hx, hb, hml, hown, ht⟩ hw (c_R_compare l G σ hc.1 (by omega) (by decide)) ⟨km_R_78, kv_R_compare, kx_R_compare, kc_R_compare⟩ (by decide +kernel) ⟨by decide, by decide⟩ rfl rfl rfl hl.1 rfl (Nat.le_of_ble_eq_true rfl) d_R_root_18 ⟨Nat.le_refl _, Nat.le_refl _⟩ (fun r u H locs hp hw => ?_)
  obtain ⟨hpu, hc1⟩ := hp
  rw [hpu] at hw
  rw [hc.2.1] at hc1
  refine lv_if_ge (tgt := 37) hx hb d_R_root_21 (by decide) (fun c3 => ?_) (fun c3 => ?_)
  · refine bad (rV σ) σ H locs ls (fun q9 => ?_) (rU.rfl' σ) rfl (fun _ _ _ => rfl) hc.1 hw hl
    rw [hc1] at c3
    exact absurd ((cmpN_lt _ _).mpr q9.1) (Int32.not_lt.mpr c3)
  · have l1 : rV σ a < rMod 0 := by rw [hc1] at c3; exact (cmpN_lt _ _).mp (Int32.not_le.mp c3)
    refine lv_aload_n hx hb d_R_root_24 rfl (lv_at hl 0 rfl) ?_
    refine lv_iload_n hx hb d_R_root_25 rfl (lv_at hl 1 rfl) ?_
    refine lv_iload_n hx hb d_R_root_26 rfl (lv_at hl 2 rfl) ?_
    refine r_calli (np := 2) (As := [.int (nI (t)), .int (nI (a))]) (rest := []) ⟨hx, hb, hml, hown, ht⟩ hw (c_R_roots l G σ hc.1 (by omega) (by omega) (by omega) (by omega) (by omega) hc.2.1 hc.2.2.2.1) ⟨km_R_145, kv_R_roots, kx_R_roots, kc_R_roots⟩ (by decide +kernel) ⟨by decide, by decide⟩ rfl rfl rfl hl.1 rfl (Nat.le_of_ble_eq_true rfl) d_R_root_27 ⟨Nat.le_refl _, Nat.le_refl _⟩ (fun r u H locs hp hw => ?_)
    obtain ⟨rfl, V, hu, g1, g2, hk, ho⟩ := hp
    refine n_eq0 (tgt := 37) hx hb d_R_root_30 (by decide) (boolN_s _) (fun c4 => ?_) (fun c4 => ?_)
    · have c5 := boolN_0 c4
      exact bad V u H locs ls (fun q9 => c5 q9.2) hu ((g2 c5).elim id (fun q9 => absurd q9.1 (by omega))) (fun r b1 b2 => hk r b1 (by omega) (by omega)) ho hw hl
    · have c5 := boolN_1 c4
      refine lv_iconst (v := nI 1) hx hb d_R_root_33 (by decide) ?_
      refine lv_goto (tgt := 38) hx hb d_R_root_34 (by decide) ?_
      refine z_iret (rZ _) hx hb hr hlocks u hw ⟨fun q => absurd ⟨k1, k2⟩ q, fun t2 a2 b1 b2 e1 e2 => ?_⟩ d_R_root_38
      have q_t2 : t2 = t := (nI_eq (by omega) (by omega)).mp (e1.symm.trans ex)
      subst q_t2
      have q_a2 : a2 = a := (nI_eq (by omega) (by omega)).mp (e2.symm.trans ey)
      subst q_a2
      exact ⟨by rw [boolN_t ⟨l1, c5⟩], V, hu, fun _ => g1 c5, fun q => absurd ⟨l1, c5⟩ q, fun r b1 b2 => hk r b1 (by omega) (by omega), ho⟩
