/-! the desk: work, root -/
set_option maxHeartbeats 4000000 in
set_option maxRecDepth 100000 in
theorem c_D_work (l : Launch) (K : cG) (τ : cT) (hok : cOk τ) (x1 x2 x3 x4 x5 : Int32) : Met l y_D_work (zW y_D_work b_D_work 9 (some .int)) (zr 6 134) (va_Pc [.ref (cO K 0), .int (x1), .int (x2), .int (x3), .int (x4), .int (x5)] (cC K τ)) (va_Qi (fun r u => (¬ (okR x2 8 ∧ okR x3 8 ∧ okR x4 8 ∧ okR x5 2 ∧ okR x1 4) → r = nI 0 ∧ u = τ) ∧ ∀ k a c d μ, k < 4 → a < 8 → c < 8 → d < 8 → μ < 2 → x1 = nI k → x2 = nI a → x3 = nI c → x4 = nI d → x5 = nI μ → (¬ (cV τ c < rMod μ ∧ cV τ d < rMod μ ∧ (k = 3 → cV τ d ≠ 0)) → r = nI 0 ∧ u = τ) ∧ ((cV τ c < rMod μ ∧ cV τ d < rMod μ ∧ (k = 3 → cV τ d ≠ 0)) → r = nI 1 ∧ ∃ V, cU τ V u ∧ V a = wres k (rMod μ) (cV τ c) (cV τ d) ∧ ∀ r, r ≠ a → r < 20 ∨ r = 22 ∨ r = 23 → V r = cV τ r)) (fun u => cC K u) (cAA K)) 0 0 (cAA K) := by
  refine Met.ofW (cc := b_D_work) (maxL := 9) (ret := (some .int)) (by decide) rfl ?_
  intro p e s m args below meth c s₁ B hml hv
  obtain ⟨rfl, hw⟩ := hv
  have hx := B.exec
  have hb := B.bytes
  have hr := B.returns
  have hts := atoms_spec (ws := zW y_D_work b_D_work 9 (some .int)) B.pre
  have ht : ∀ w ∈ zT, w.before ([.ref (cO K 0), .int (x1), .int (x2), .int (x3), .int (x4), .int (x5)] : List Value).toArray s = true := fun w h => hts w (List.mem_cons_of_mem _ h)
  have hown : s.vm.findClass R_D = some m.cls := findClass_of_methodNamed B.named
  have hlocks := B.notSynchronized
  have hl := lv_entry ([.ref (cO K 0), .int (x1), .int (x2), .int (x3), .int (x4), .int (x5)]) (n := 9) (Nat.le_of_ble_eq_true rfl)
  rw [lg_entry_eq]
  generalize (lg_sl ([.ref (cO K 0), .int (x1), .int (x2), .int (x3), .int (x4), .int (x5)]) ++ List.replicate (9 - (lg_sl ([.ref (cO K 0), .int (x1), .int (x2), .int (x3), .int (x4), .int (x5)])).length) Slot.unset).toArray = ls at hl ⊢
  have hl : lv_has ls 9 [(0, .ref (cO K 0)), (1, .int (x1)), (2, .int (x2)), (3, .int (x3)), (4, .int (x4)), (5, .int (x5))] := hl
  have hno : ∀ (H : Heap) (locs : List Loc) (ls : Array Slot), cH K τ s H locs → lv_has ls 9 [(0, .ref (cO K 0)), (1, .int (x1)), (2, .int (x2)), (3, .int (x3)), (4, .int (x4)), (5, .int (x5))] → ¬ (okR x2 8 ∧ okR x3 8 ∧ okR x4 8 ∧ okR x5 2 ∧ okR x1 4) → W p l e (headSpec (zW y_D_work b_D_work 9 (some .int)) (zr 6 134)).room s m ([.ref (cO K 0), .int (x1), .int (x2), .int (x3), .int (x4), .int (x5)] : List Value).toArray below meth c H locs 0 0 (MQ below (va_Qi (fun r u => (¬ (okR x2 8 ∧ okR x3 8 ∧ okR x4 8 ∧ okR x5 2 ∧ okR x1 4) → r = nI 0 ∧ u = τ) ∧ ∀ k a c d μ, k < 4 → a < 8 → c < 8 → d < 8 → μ < 2 → x1 = nI k → x2 = nI a → x3 = nI c → x4 = nI d → x5 = nI μ → (¬ (cV τ c < rMod μ ∧ cV τ d < rMod μ ∧ (k = 3 → cV τ d ≠ 0)) → r = nI 0 ∧ u = τ) ∧ ((cV τ c < rMod μ ∧ cV τ d < rMod μ ∧ (k = 3 → cV τ d ≠ 0)) → r = nI 1 ∧ ∃ V, cU τ V u ∧ V a = wres k (rMod μ) (cV τ c) (cV τ d) ∧ ∀ r, r ≠ a → r < 20 ∨ r = 22 ∨ r = 23 → V r = cV τ r)) (fun u => cC K u) (cAA K)) ([.ref (cO K 0), .int (x1), .int (x2), .int (x3), .int (x4), .int (x5)] : List Value).toArray s 0 0 (cAA K)) (F0 m 17 ls []) := by
    intro H locs ls hw hl hn
    refine lv_iconst (v := nI 0) hx hb d_D_work_17 (by decide) ?_
    refine z_iret (cZ K) hx hb hr hlocks τ hw ⟨fun _ => ⟨rfl, rfl⟩, fun k a c d μ w1 w2 w3 w4 w5 e1 e2 e3 e4 e5 => absurd ⟨?_, ?_, ?_, ?_, ?_⟩ hn⟩ d_D_work_18
    · rw [e2]; exact okR_of w2 (by decide)
    · rw [e3]; exact okR_of w3 (by decide)
    · rw [e4]; exact okR_of w4 (by decide)
    · rw [e5]; exact okR_of w5 (by decide)
    · rw [e1]; exact okR_of w1 (by decide)
  have hno2 : ∀ (H : Heap) (locs : List Loc) (ls : Array Slot), cH K τ s H locs → lv_has ls 9 [(0, .ref (cO K 0)), (1, .int (x1)), (2, .int (x2)), (3, .int (x3)), (4, .int (x4)), (5, .int (x5))] → ¬ (okR x2 8 ∧ okR x3 8 ∧ okR x4 8 ∧ okR x5 2 ∧ okR x1 4) → W p l e (headSpec (zW y_D_work b_D_work 9 (some .int)) (zr 6 134)).room s m ([.ref (cO K 0), .int (x1), .int (x2), .int (x3), .int (x4), .int (x5)] : List Value).toArray below meth c H locs 0 0 (MQ below (va_Qi (fun r u => (¬ (okR x2 8 ∧ okR x3 8 ∧ okR x4 8 ∧ okR x5 2 ∧ okR x1 4) → r = nI 0 ∧ u = τ) ∧ ∀ k a c d μ, k < 4 → a < 8 → c < 8 → d < 8 → μ < 2 → x1 = nI k → x2 = nI a → x3 = nI c → x4 = nI d → x5 = nI μ → (¬ (cV τ c < rMod μ ∧ cV τ d < rMod μ ∧ (k = 3 → cV τ d ≠ 0)) → r = nI 0 ∧ u = τ) ∧ ((cV τ c < rMod μ ∧ cV τ d < rMod μ ∧ (k = 3 → cV τ d ≠ 0)) → r = nI 1 ∧ ∃ V, cU τ V u ∧ V a = wres k (rMod μ) (cV τ c) (cV τ d) ∧ ∀ r, r ≠ a → r < 20 ∨ r = 22 ∨ r = 23 → V r = cV τ r)) (fun u => cC K u) (cAA K)) ([.ref (cO K 0), .int (x1), .int (x2), .int (x3), .int (x4), .int (x5)] : List Value).toArray s 0 0 (cAA K)) (F0 m 41 ls []) := by
    intro H locs ls hw hl hn
    refine lv_iconst (v := nI 0) hx hb d_D_work_41 (by decide) ?_
    refine z_iret (cZ K) hx hb hr hlocks τ hw ⟨fun _ => ⟨rfl, rfl⟩, fun k a c d μ w1 w2 w3 w4 w5 e1 e2 e3 e4 e5 => absurd ⟨?_, ?_, ?_, ?_, ?_⟩ hn⟩ d_D_work_42
    · rw [e2]; exact okR_of w2 (by decide)
    · rw [e3]; exact okR_of w3 (by decide)
    · rw [e4]; exact okR_of w4 (by decide)
    · rw [e5]; exact okR_of w5 (by decide)
    · rw [e1]; exact okR_of w1 (by decide)
  refine lv_iload_n hx hb d_D_work_0 rfl (lv_at hl 1 rfl) ?_
  refine lv_if_lt (tgt := 17) hx hb d_D_work_1 (by decide) (fun c4 => hno _ _ ls hw hl (fun q => q.2.2.2.2.1 c4)) (fun c4 => ?_)
  refine lv_iload_n hx hb d_D_work_4 rfl (lv_at hl 1 rfl) ?_
  refine lv_iconst (v := nI 3) hx hb d_D_work_5 (by decide) ?_
  refine lv_icmp_gt (tgt := 17) hx hb d_D_work_6 (by decide) (fun c5 => hno _ _ ls hw hl (fun q => q.2.2.2.2.2 ((gt_le (by decide)).mp c5))) (fun c5 => ?_)
  refine lv_iload hx hb d_D_work_9 (lv_at hl 5 rfl) ?_
  refine c_si (np := 1) (As := [.int (x5)]) (rest := []) ⟨hx, hb, hml, hown, ht⟩ hw (c_D_isModulus l K τ x5) ⟨km_D_105, ks_D_isModulus, kc_D_isModulus⟩ ki_D (by decide +kernel) ⟨by decide, by decide⟩ rfl rfl rfl hl.1 rfl (Nat.le_of_ble_eq_true rfl) d_D_work_11 ⟨Nat.le_refl _, Nat.le_refl _⟩ (fun r ux H locs hp hw => ?_)
  obtain ⟨hpu, rfl⟩ := hp
  rw [hpu] at hw
  clear hpu
  refine n_ne0 (tgt := 19) hx hb d_D_work_14 (by decide) (boolN_s _) (fun c3 => ?_) (fun c3 => hno _ _ ls hw hl (fun q => boolN_0 c3 q.2.2.2.1))
  refine lv_iload_n hx hb d_D_work_19 rfl (lv_at hl 2 rfl) ?_
  refine c_si (np := 1) (As := [.int (x2)]) (rest := []) ⟨hx, hb, hml, hown, ht⟩ hw (c_D_isRegister l K τ x2) ⟨km_D_91, ks_D_isRegister, kc_D_isRegister⟩ ki_D (by decide +kernel) ⟨by decide, by decide⟩ rfl rfl rfl hl.1 rfl (Nat.le_of_ble_eq_true rfl) d_D_work_20 ⟨Nat.le_refl _, Nat.le_refl _⟩ (fun r ux H locs hp hw => ?_)
  obtain ⟨hpu, rfl⟩ := hp
  rw [hpu] at hw
  clear hpu
  refine n_eq0 (tgt := 41) hx hb d_D_work_23 (by decide) (boolN_s _) (fun c0 => hno2 _ _ ls hw hl (fun q => boolN_0 c0 q.1)) (fun c0 => ?_)
  refine lv_iload_n hx hb d_D_work_26 rfl (lv_at hl 3 rfl) ?_
  refine c_si (np := 1) (As := [.int (x3)]) (rest := []) ⟨hx, hb, hml, hown, ht⟩ hw (c_D_isRegister l K τ x3) ⟨km_D_91, ks_D_isRegister, kc_D_isRegister⟩ ki_D (by decide +kernel) ⟨by decide, by decide⟩ rfl rfl rfl hl.1 rfl (Nat.le_of_ble_eq_true rfl) d_D_work_27 ⟨Nat.le_refl _, Nat.le_refl _⟩ (fun r ux H locs hp hw => ?_)
  obtain ⟨hpu, rfl⟩ := hp
  rw [hpu] at hw
  clear hpu
  refine n_eq0 (tgt := 41) hx hb d_D_work_30 (by decide) (boolN_s _) (fun c1 => hno2 _ _ ls hw hl (fun q => boolN_0 c1 q.2.1)) (fun c1 => ?_)
  refine lv_iload hx hb d_D_work_33 (lv_at hl 4 rfl) ?_
  refine c_si (np := 1) (As := [.int (x4)]) (rest := []) ⟨hx, hb, hml, hown, ht⟩ hw (c_D_isRegister l K τ x4) ⟨km_D_91, ks_D_isRegister, kc_D_isRegister⟩ ki_D (by decide +kernel) ⟨by decide, by decide⟩ rfl rfl rfl hl.1 rfl (Nat.le_of_ble_eq_true rfl) d_D_work_35 ⟨Nat.le_refl _, Nat.le_refl _⟩ (fun r ux H locs hp hw => ?_)
  obtain ⟨hpu, rfl⟩ := hp
  rw [hpu] at hw
  clear hpu
  refine n_ne0 (tgt := 43) hx hb d_D_work_38 (by decide) (boolN_s _) (fun c2 => ?_) (fun c2 => hno2 _ _ ls hw hl (fun q => boolN_0 c2 q.2.2.1))
  have k0 := boolN_1 c0
  have k1 := boolN_1 c1
  have k2 := boolN_1 c2
  have k3 := boolN_1 c3
  have k4 : okR x1 4 := ⟨c4, fun q => c5 ((gt_le (by decide)).mpr q)⟩
  clear hno hno2 c0 c1 c2 c3
  obtain ⟨k, lt_k, ex1⟩ := k4.ex (by decide)
  obtain ⟨a, lt_a, ex2⟩ := k0.ex (by decide)
  obtain ⟨c9, lt_c9, ex3⟩ := k1.ex (by decide)
  obtain ⟨d, lt_d, ex4⟩ := k2.ex (by decide)
  obtain ⟨μ, lt_μ, ex5⟩ := k3.ex (by decide)
  have hl2 := hl
  rw [ex1, ex2, ex3, ex4, ex5] at hl2
  have hl : lv_has ls 9 [(0, .ref (cO K 0)), (1, .int (nI (k))), (2, .int (nI (a))), (3, .int (nI (c9))), (4, .int (nI (d))), (5, .int (nI (μ)))] := hl2
  clear hl2
  refine lv_aload_n hx hb d_D_work_43 rfl (lv_at hl 0 rfl) ?_
  refine lv_iload hx hb d_D_work_44 (lv_at hl 5 rfl) ?_
  refine c_cr (np := 1) (As := [.int (nI (μ))]) (rest := []) ⟨hx, hb, hml, hown, ht⟩ hw (c_D_modulusOf l K τ lt_μ) 0 rfl rfl ⟨km_D_108, kv_D_modulusOf, kx_D_modulusOf, kc_D_modulusOf⟩ ki_D (by decide +kernel) ⟨by decide, by decide⟩ rfl rfl rfl hl.1 rfl (Nat.le_of_ble_eq_true rfl) d_D_work_46 ⟨Nat.le_refl _, Nat.le_refl _⟩ (fun H locs hw => ?_)
  refine lv_astore (lv' := [(6, .ref (cO K (5 + μ))), (0, .ref (cO K 0)), (1, .int (nI (k))), (2, .int (nI (a))), (3, .int (nI (c9))), (4, .int (nI (d))), (5, .int (nI (μ)))]) hx hb d_D_work_49 hl (by decide) rfl (fun ls hl => ?_)
  refine lv_aload_n hx hb d_D_work_51 rfl (lv_at hl 1 rfl) ?_
  refine va_get (ci := 4) (C := R_D) (T := F_D) (N := 10) (v := .ref (cO K 3)) hx hb ht ku_D hown hw.2.1 hw.1 0 rfl rfl 0 (by decide) (ht _ kf_D_11) (fun _ h9 => h9) rfl d_D_work_52 ?_
  refine lv_iload_n hx hb d_D_work_55 rfl (lv_at hl 4 rfl) ?_
  refine c_reg hx hb hw (i := c9) (by omega) d_D_work_56 ?_
  refine lv_astore (lv' := [(7, .ref (cR K c9)), (6, .ref (cO K (5 + μ))), (0, .ref (cO K 0)), (1, .int (nI (k))), (2, .int (nI (a))), (3, .int (nI (c9))), (4, .int (nI (d))), (5, .int (nI (μ)))]) hx hb d_D_work_57 hl (by decide) rfl (fun ls hl => ?_)
  refine lv_aload_n hx hb d_D_work_59 rfl (lv_at hl 2 rfl) ?_
  refine va_get (ci := 4) (C := R_D) (T := F_D) (N := 10) (v := .ref (cO K 3)) hx hb ht ku_D hown hw.2.1 hw.1 0 rfl rfl 0 (by decide) (ht _ kf_D_11) (fun _ h9 => h9) rfl d_D_work_60 ?_
  refine lv_iload hx hb d_D_work_63 (lv_at hl 6 rfl) ?_
  refine c_reg hx hb hw (i := d) (by omega) d_D_work_65 ?_
  refine lv_astore (lv' := [(8, .ref (cR K d)), (7, .ref (cR K c9)), (6, .ref (cO K (5 + μ))), (0, .ref (cO K 0)), (1, .int (nI (k))), (2, .int (nI (a))), (3, .int (nI (c9))), (4, .int (nI (d))), (5, .int (nI (μ)))]) hx hb d_D_work_66 hl (by decide) rfl (fun ls hl => ?_)
  have bad : ∀ (H : Heap) (locs : List Loc) (ls : Array Slot), cH K τ s H locs → lv_has ls 9 [(8, .ref (cR K d)), (7, .ref (cR K c9)), (6, .ref (cO K (5 + μ))), (0, .ref (cO K 0)), (1, .int (nI (k))), (2, .int (nI (a))), (3, .int (nI (c9))), (4, .int (nI (d))), (5, .int (nI (μ)))] → ¬ (cV τ c9 < rMod μ ∧ cV τ d < rMod μ ∧ (k = 3 → cV τ d ≠ 0)) → W p l e (headSpec (zW y_D_work b_D_work 9 (some .int)) (zr 6 134)).room s m ([.ref (cO K 0), .int (x1), .int (x2), .int (x3), .int (x4), .int (x5)] : List Value).toArray below meth c H locs 0 0 (MQ below (va_Qi (fun r u => (¬ (okR x2 8 ∧ okR x3 8 ∧ okR x4 8 ∧ okR x5 2 ∧ okR x1 4) → r = nI 0 ∧ u = τ) ∧ ∀ k a c d μ, k < 4 → a < 8 → c < 8 → d < 8 → μ < 2 → x1 = nI k → x2 = nI a → x3 = nI c → x4 = nI d → x5 = nI μ → (¬ (cV τ c < rMod μ ∧ cV τ d < rMod μ ∧ (k = 3 → cV τ d ≠ 0)) → r = nI 0 ∧ u = τ) ∧ ((cV τ c < rMod μ ∧ cV τ d < rMod μ ∧ (k = 3 → cV τ d ≠ 0)) → r = nI 1 ∧ ∃ V, cU τ V u ∧ V a = wres k (rMod μ) (cV τ c) (cV τ d) ∧ ∀ r, r ≠ a → r < 20 ∨ r = 22 ∨ r = 23 → V r = cV τ r)) (fun u => cC K u) (cAA K)) ([.ref (cO K 0), .int (x1), .int (x2), .int (x3), .int (x4), .int (x5)] : List Value).toArray s 0 0 (cAA K)) (F0 m 88 ls []) := by
    intro H locs ls hw hl hn
    refine lv_iconst (v := nI 0) hx hb d_D_work_88 (by decide) ?_
    refine z_iret (cZ K) hx hb hr hlocks τ hw ⟨fun h => absurd ⟨k0, k1, k2, k3, k4⟩ h, fun k_ a_ c_ d_ μ_ w1 w2 w3 w4 w5 e1 e2 e3 e4 e5 => ?_⟩ d_D_work_89
    have q_k_ : k_ = k := (nI_eq (by omega) (by omega)).mp (e1.symm.trans ex1)
    subst q_k_
    have q_a_ : a_ = a := (nI_eq (by omega) (by omega)).mp (e2.symm.trans ex2)
    subst q_a_
    have q_c_ : c_ = c9 := (nI_eq (by omega) (by omega)).mp (e3.symm.trans ex3)
    subst q_c_
    have q_d_ : d_ = d := (nI_eq (by omega) (by omega)).mp (e4.symm.trans ex4)
    subst q_d_
    have q_μ_ : μ_ = μ := (nI_eq (by omega) (by omega)).mp (e5.symm.trans ex5)
    subst q_μ_
    exact ⟨fun _ => ⟨rfl, rfl⟩, fun q => absurd q hn⟩
  have bad2 : ∀ (H : Heap) (locs : List Loc) (ls : Array Slot), cH K τ s H locs → lv_has ls 9 [(8, .ref (cR K d)), (7, .ref (cR K c9)), (6, .ref (cO K (5 + μ))), (0, .ref (cO K 0)), (1, .int (nI (k))), (2, .int (nI (a))), (3, .int (nI (c9))), (4, .int (nI (d))), (5, .int (nI (μ)))] → ¬ (cV τ c9 < rMod μ ∧ cV τ d < rMod μ ∧ (k = 3 → cV τ d ≠ 0)) → W p l e (headSpec (zW y_D_work b_D_work 9 (some .int)) (zr 6 134)).room s m ([.ref (cO K 0), .int (x1), .int (x2), .int (x3), .int (x4), .int (x5)] : List Value).toArray below meth c H locs 0 0 (MQ below (va_Qi (fun r u => (¬ (okR x2 8 ∧ okR x3 8 ∧ okR x4 8 ∧ okR x5 2 ∧ okR x1 4) → r = nI 0 ∧ u = τ) ∧ ∀ k a c d μ, k < 4 → a < 8 → c < 8 → d < 8 → μ < 2 → x1 = nI k → x2 = nI a → x3 = nI c → x4 = nI d → x5 = nI μ → (¬ (cV τ c < rMod μ ∧ cV τ d < rMod μ ∧ (k = 3 → cV τ d ≠ 0)) → r = nI 0 ∧ u = τ) ∧ ((cV τ c < rMod μ ∧ cV τ d < rMod μ ∧ (k = 3 → cV τ d ≠ 0)) → r = nI 1 ∧ ∃ V, cU τ V u ∧ V a = wres k (rMod μ) (cV τ c) (cV τ d) ∧ ∀ r, r ≠ a → r < 20 ∨ r = 22 ∨ r = 23 → V r = cV τ r)) (fun u => cC K u) (cAA K)) ([.ref (cO K 0), .int (x1), .int (x2), .int (x3), .int (x4), .int (x5)] : List Value).toArray s 0 0 (cAA K)) (F0 m 103 ls []) := by
    intro H locs ls hw hl hn
    refine lv_iconst (v := nI 0) hx hb d_D_work_103 (by decide) ?_
    refine z_iret (cZ K) hx hb hr hlocks τ hw ⟨fun h => absurd ⟨k0, k1, k2, k3, k4⟩ h, fun k_ a_ c_ d_ μ_ w1 w2 w3 w4 w5 e1 e2 e3 e4 e5 => ?_⟩ d_D_work_104
    have q_k_ : k_ = k := (nI_eq (by omega) (by omega)).mp (e1.symm.trans ex1)
    subst q_k_
    have q_a_ : a_ = a := (nI_eq (by omega) (by omega)).mp (e2.symm.trans ex2)
    subst q_a_
    have q_c_ : c_ = c9 := (nI_eq (by omega) (by omega)).mp (e3.symm.trans ex3)
    subst q_c_
    have q_d_ : d_ = d := (nI_eq (by omega) (by omega)).mp (e4.symm.trans ex4)
    subst q_d_
    have q_μ_ : μ_ = μ := (nI_eq (by omega) (by omega)).mp (e5.symm.trans ex5)
    subst q_μ_
    exact ⟨fun _ => ⟨rfl, rfl⟩, fun q => absurd q hn⟩
  have good : ∀ (V : Nat → Nat) (u : cT) (H : Heap) (locs : List Loc) (ls : Array Slot), (cV τ c9 < rMod μ ∧ cV τ d < rMod μ ∧ (k = 3 → cV τ d ≠ 0)) → cU τ V u → V a = wres k (rMod μ) (cV τ c9) (cV τ d) → (∀ r, r ≠ a → r < 20 ∨ r = 22 ∨ r = 23 → V r = cV τ r) → cH K u s H locs → lv_has ls 9 [(8, .ref (cR K d)), (7, .ref (cR K c9)), (6, .ref (cO K (5 + μ))), (0, .ref (cO K 0)), (1, .int (nI (k))), (2, .int (nI (a))), (3, .int (nI (c9))), (4, .int (nI (d))), (5, .int (nI (μ)))] → W p l e (headSpec (zW y_D_work b_D_work 9 (some .int)) (zr 6 134)).room s m ([.ref (cO K 0), .int (x1), .int (x2), .int (x3), .int (x4), .int (x5)] : List Value).toArray below meth c H locs 0 0 (MQ below (va_Qi (fun r u => (¬ (okR x2 8 ∧ okR x3 8 ∧ okR x4 8 ∧ okR x5 2 ∧ okR x1 4) → r = nI 0 ∧ u = τ) ∧ ∀ k a c d μ, k < 4 → a < 8 → c < 8 → d < 8 → μ < 2 → x1 = nI k → x2 = nI a → x3 = nI c → x4 = nI d → x5 = nI μ → (¬ (cV τ c < rMod μ ∧ cV τ d < rMod μ ∧ (k = 3 → cV τ d ≠ 0)) → r = nI 0 ∧ u = τ) ∧ ((cV τ c < rMod μ ∧ cV τ d < rMod μ ∧ (k = 3 → cV τ d ≠ 0)) → r = nI 1 ∧ ∃ V, cU τ V u ∧ V a = wres k (rMod μ) (cV τ c) (cV τ d) ∧ ∀ r, r ≠ a → r < 20 ∨ r = 22 ∨ r = 23 → V r = cV τ r)) (fun u => cC K u) (cAA K)) ([.ref (cO K 0), .int (x1), .int (x2), .int (x3), .int (x4), .int (x5)] : List Value).toArray s 0 0 (cAA K)) (F0 m 214 ls []) := by
    intro V u H locs ls hy hu hv hk hw hl
    refine lv_iconst (v := nI 1) hx hb d_D_work_214 (by decide) ?_
    refine z_iret (cZ K) hx hb hr hlocks u hw ⟨fun h => absurd ⟨k0, k1, k2, k3, k4⟩ h, fun k_ a_ c_ d_ μ_ w1 w2 w3 w4 w5 e1 e2 e3 e4 e5 => ?_⟩ d_D_work_215
    have q_k_ : k_ = k := (nI_eq (by omega) (by omega)).mp (e1.symm.trans ex1)
    subst q_k_
    have q_a_ : a_ = a := (nI_eq (by omega) (by omega)).mp (e2.symm.trans ex2)
    subst q_a_
    have q_c_ : c_ = c9 := (nI_eq (by omega) (by omega)).mp (e3.symm.trans ex3)
    subst q_c_
    have q_d_ : d_ = d := (nI_eq (by omega) (by omega)).mp (e4.symm.trans ex4)
    subst q_d_
    have q_μ_ : μ_ = μ := (nI_eq (by omega) (by omega)).mp (e5.symm.trans ex5)
    subst q_μ_
    exact ⟨fun q => absurd hy q, fun _ => ⟨rfl, V, hu, hv, hk⟩⟩
  refine lv_aload hx hb d_D_work_68 (lv_at hl 2 rfl) ?_
  refine lv_aload hx hb d_D_work_70 (lv_at hl 1 rfl) ?_
  refine c_ci (np := 1) (As := [.ref (cR K c9)]) (rest := []) ⟨hx, hb, hml, hown, ht⟩ hw (c_M_isAbove l K τ hok (μ := μ) (a := c9) lt_μ (by omega) (by omega)) (5 + μ) (cWs_mod K _ lt_μ) rfl ⟨km_D_116, kv_M_isAbove, kx_M_isAbove, kc_M_isAbove⟩ ki_M (by decide +kernel) ⟨by decide, by decide⟩ rfl rfl rfl hl.1 rfl (Nat.le_of_ble_eq_true rfl) d_D_work_72 ⟨Nat.le_refl _, Nat.le_refl _⟩ (fun r ux H locs hp hw => ?_)
  obtain ⟨hpu, rfl⟩ := hp
  rw [hpu] at hw
  clear hpu
  refine n_eq0 (tgt := 88) hx hb d_D_work_75 (by decide) (boolN_s _) (fun c6 => bad _ _ ls hw hl (fun q => boolN_0 c6 q.1)) (fun c6 => ?_)
  refine lv_aload hx hb d_D_work_78 (lv_at hl 2 rfl) ?_
  refine lv_aload hx hb d_D_work_80 (lv_at hl 0 rfl) ?_
  refine c_ci (np := 1) (As := [.ref (cR K d)]) (rest := []) ⟨hx, hb, hml, hown, ht⟩ hw (c_M_isAbove l K τ hok (μ := μ) (a := d) lt_μ (by omega) (by omega)) (5 + μ) (cWs_mod K _ lt_μ) rfl ⟨km_D_116, kv_M_isAbove, kx_M_isAbove, kc_M_isAbove⟩ ki_M (by decide +kernel) ⟨by decide, by decide⟩ rfl rfl rfl hl.1 rfl (Nat.le_of_ble_eq_true rfl) d_D_work_82 ⟨Nat.le_refl _, Nat.le_refl _⟩ (fun r ux H locs hp hw => ?_)
  obtain ⟨hpu, rfl⟩ := hp
  rw [hpu] at hw
  clear hpu
  refine n_ne0 (tgt := 90) hx hb d_D_work_85 (by decide) (boolN_s _) (fun c7 => ?_) (fun c7 => bad _ _ ls hw hl (fun q => boolN_0 c7 q.2.1))
  have l1 := boolN_1 c6
  have l2 := boolN_1 c7
  clear c6 c7 bad
  have run : ∀ (H : Heap) (locs : List Loc) (ls : Array Slot), cH K τ s H locs → lv_has ls 9 [(8, .ref (cR K d)), (7, .ref (cR K c9)), (6, .ref (cO K (5 + μ))), (0, .ref (cO K 0)), (1, .int (nI (k))), (2, .int (nI (a))), (3, .int (nI (c9))), (4, .int (nI (d))), (5, .int (nI (μ)))] → (k = 3 → cV τ d ≠ 0) → W p l e (headSpec (zW y_D_work b_D_work 9 (some .int)) (zr 6 134)).room s m ([.ref (cO K 0), .int (x1), .int (x2), .int (x3), .int (x4), .int (x5)] : List Value).toArray below meth c H locs 0 0 (MQ below (va_Qi (fun r u => (¬ (okR x2 8 ∧ okR x3 8 ∧ okR x4 8 ∧ okR x5 2 ∧ okR x1 4) → r = nI 0 ∧ u = τ) ∧ ∀ k a c d μ, k < 4 → a < 8 → c < 8 → d < 8 → μ < 2 → x1 = nI k → x2 = nI a → x3 = nI c → x4 = nI d → x5 = nI μ → (¬ (cV τ c < rMod μ ∧ cV τ d < rMod μ ∧ (k = 3 → cV τ d ≠ 0)) → r = nI 0 ∧ u = τ) ∧ ((cV τ c < rMod μ ∧ cV τ d < rMod μ ∧ (k = 3 → cV τ d ≠ 0)) → r = nI 1 ∧ ∃ V, cU τ V u ∧ V a = wres k (rMod μ) (cV τ c) (cV τ d) ∧ ∀ r, r ≠ a → r < 20 ∨ r = 22 ∨ r = 23 → V r = cV τ r)) (fun u => cC K u) (cAA K)) ([.ref (cO K 0), .int (x1), .int (x2), .int (x3), .int (x4), .int (x5)] : List Value).toArray s 0 0 (cAA K)) (F0 m 105 ls []) := by
    intro H locs ls hw hl h3
    have hy : (cV τ c9 < rMod μ ∧ cV τ d < rMod μ ∧ (k = 3 → cV τ d ≠ 0)) := ⟨l1, l2, h3⟩
    clear bad2
    refine lv_iload_n hx hb d_D_work_105 rfl (lv_at hl 4 rfl) ?_
    rcases (show k = 0 ∨ k = 1 ∨ k = 2 ∨ k = 3 by omega) with rfl | rfl | rfl | rfl
    · refine lv_tableIn (tgt := 132) (off := 26) hx hb d_D_work_106 (by decide) (by decide) (by decide) (by decide) ?_
      refine lv_aload hx hb d_D_work_132 (lv_at hl 2 rfl) ?_
      refine lv_aload_n hx hb d_D_work_134 rfl (lv_at hl 3 rfl) ?_
      refine va_get (ci := 4) (C := R_D) (T := F_D) (N := 10) (v := .ref (cO K 3)) hx hb ht ku_D hown hw.2.1 hw.1 0 rfl rfl 0 (by decide) (ht _ kf_D_11) (fun _ h9 => h9) rfl d_D_work_135 ?_
      refine lv_iload_n hx hb d_D_work_138 rfl (lv_at hl 5 rfl) ?_
      refine c_reg hx hb hw (i := a) (by omega) d_D_work_139 ?_
      refine lv_aload hx hb d_D_work_140 (lv_at hl 1 rfl) ?_
      refine lv_aload hx hb d_D_work_142 (lv_at hl 0 rfl) ?_
      refine c_cv (np := 3) (As := [.ref (cR K a), .ref (cR K c9), .ref (cR K d)]) (rest := []) ⟨hx, hb, hml, hown, ht⟩ hw (c_M_add l K τ hok (μ := μ) (o := a) (a := c9) (b := d) lt_μ (by omega) (by omega) (by omega) (by omega) (by omega) l1 l2) (5 + μ) (cWs_mod K _ lt_μ) rfl ⟨km_D_123, kv_M_add, kx_M_add, kc_M_add⟩ ki_M (by decide +kernel) ⟨by decide, by decide⟩ rfl rfl rfl hl.1 rfl (Nat.le_of_ble_eq_true rfl) d_D_work_144 ⟨Nat.le_refl _, Nat.le_refl _⟩ (fun u1 H locs hp hw => ?_)
      obtain ⟨V, hu, hv, hk⟩ := qc_pp lt_μ (cU.refl hok) (by omega) (by omega) (by omega) hp
      refine lv_goto (tgt := 214) hx hb d_D_work_147 (by decide) ?_
      exact good V u1 _ _ ls hy hu (by rw [hv]; rfl) (fun r b1 _ => hk r b1) hw hl
    · refine lv_tableIn (tgt := 150) (off := 44) hx hb d_D_work_106 (by decide) (by decide) (by decide) (by decide) ?_
      refine lv_aload hx hb d_D_work_150 (lv_at hl 2 rfl) ?_
      refine lv_aload_n hx hb d_D_work_152 rfl (lv_at hl 3 rfl) ?_
      refine va_get (ci := 4) (C := R_D) (T := F_D) (N := 10) (v := .ref (cO K 3)) hx hb ht ku_D hown hw.2.1 hw.1 0 rfl rfl 0 (by decide) (ht _ kf_D_11) (fun _ h9 => h9) rfl d_D_work_153 ?_
      refine lv_iload_n hx hb d_D_work_156 rfl (lv_at hl 5 rfl) ?_
      refine c_reg hx hb hw (i := a) (by omega) d_D_work_157 ?_
      refine lv_aload hx hb d_D_work_158 (lv_at hl 1 rfl) ?_
      refine lv_aload hx hb d_D_work_160 (lv_at hl 0 rfl) ?_
      refine c_cv (np := 3) (As := [.ref (cR K a), .ref (cR K c9), .ref (cR K d)]) (rest := []) ⟨hx, hb, hml, hown, ht⟩ hw (c_M_subtract l K τ hok (μ := μ) (o := a) (a := c9) (b := d) lt_μ (by omega) (by omega) (by omega) (by omega) (by omega) l1 l2) (5 + μ) (cWs_mod K _ lt_μ) rfl ⟨km_D_126, kv_M_subtract, kx_M_subtract, kc_M_subtract⟩ ki_M (by decide +kernel) ⟨by decide, by decide⟩ rfl rfl rfl hl.1 rfl (Nat.le_of_ble_eq_true rfl) d_D_work_162 ⟨Nat.le_refl _, Nat.le_refl _⟩ (fun u1 H locs hp hw => ?_)
      obtain ⟨V, hu, hv, hk⟩ := qc_ss lt_μ (cU.refl hok) (by omega) (by omega) (by omega) hp
      refine lv_goto (tgt := 214) hx hb d_D_work_165 (by decide) ?_
      exact good V u1 _ _ ls hy hu (by rw [hv]; rfl) (fun r b1 _ => hk r b1) hw hl
    · refine lv_tableIn (tgt := 168) (off := 62) hx hb d_D_work_106 (by decide) (by decide) (by decide) (by decide) ?_
      refine lv_aload hx hb d_D_work_168 (lv_at hl 2 rfl) ?_
      refine lv_aload_n hx hb d_D_work_170 rfl (lv_at hl 3 rfl) ?_
      refine va_get (ci := 4) (C := R_D) (T := F_D) (N := 10) (v := .ref (cO K 3)) hx hb ht ku_D hown hw.2.1 hw.1 0 rfl rfl 0 (by decide) (ht _ kf_D_11) (fun _ h9 => h9) rfl d_D_work_171 ?_
      refine lv_iload_n hx hb d_D_work_174 rfl (lv_at hl 5 rfl) ?_
      refine c_reg hx hb hw (i := a) (by omega) d_D_work_175 ?_
      refine lv_aload hx hb d_D_work_176 (lv_at hl 1 rfl) ?_
      refine lv_aload hx hb d_D_work_178 (lv_at hl 0 rfl) ?_
      refine c_cv (np := 3) (As := [.ref (cR K a), .ref (cR K c9), .ref (cR K d)]) (rest := []) ⟨hx, hb, hml, hown, ht⟩ hw (c_M_multiply l K τ hok (μ := μ) (o := a) (a := c9) (b := d) lt_μ (by omega) (by omega) (by omega) (by omega) (by omega)) (5 + μ) (cWs_mod K _ lt_μ) rfl ⟨km_D_129, kv_M_multiply, kx_M_multiply, kc_M_multiply⟩ ki_M (by decide +kernel) ⟨by decide, by decide⟩ rfl rfl rfl hl.1 rfl (Nat.le_of_ble_eq_true rfl) d_D_work_180 ⟨Nat.le_refl _, Nat.le_refl _⟩ (fun u1 H locs hp hw => ?_)
      obtain ⟨V, hu, hv, hk⟩ := qc_mul (cU.refl hok) (by omega) (by omega) hp
      refine lv_goto (tgt := 214) hx hb d_D_work_183 (by decide) ?_
      exact good V u1 _ _ ls hy hu (by rw [hv]; rfl) (fun r b1 _ => hk r b1) hw hl
    · refine lv_tableOut (tgt := 186) hx hb d_D_work_106 (Or.inr (by decide)) (by decide) ?_
      refine lv_aload hx hb d_D_work_186 (lv_at hl 2 rfl) ?_
      refine lv_aload_n hx hb d_D_work_188 rfl (lv_at hl 3 rfl) ?_
      refine va_get (ci := 4) (C := R_D) (T := F_D) (N := 10) (v := .ref (cR K 20)) hx hb ht ku_D hown hw.2.1 hw.1 0 rfl rfl 8 (by decide) (ht _ kf_D_75) (fun _ h9 => h9) rfl d_D_work_189 ?_
      refine lv_aload hx hb d_D_work_192 (lv_at hl 0 rfl) ?_
      refine c_cv (np := 2) (As := [.ref (cR K 20), .ref (cR K d)]) (rest := []) ⟨hx, hb, hml, hown, ht⟩ hw (c_M_invert l K τ hok (μ := μ) (o := 20) (a := d) lt_μ (by omega) (by omega) (by omega) (by omega)) (5 + μ) (cWs_mod K _ lt_μ) rfl ⟨km_D_132, kv_M_invert, kx_M_invert, kc_M_invert⟩ ki_M (by decide +kernel) ⟨by decide, by decide⟩ rfl rfl rfl hl.1 rfl (Nat.le_of_ble_eq_true rfl) d_D_work_194 ⟨Nat.le_refl _, Nat.le_refl _⟩ (fun u1 H locs hp hw => ?_)
      obtain ⟨X, hX⟩ : ∃ X, X = cV τ d ^ (rMod μ - 2) % rMod μ := ⟨_, rfl⟩
      rw [← hX] at hp
      obtain ⟨V1, hu1, f1, k1_⟩ : ∃ V, cU τ V u1 ∧ V 20 = X ∧ ∀ r, r ≠ 20 → r ≠ 28 + μ → V r = cV τ r := ⟨_, hp, up_self _ _ _, fun r b1 b2 => by rw [up_ne _ _ b1, up_ne _ _ b2]⟩
      clear hp
      refine lv_aload hx hb d_D_work_197 (lv_at hl 2 rfl) ?_
      refine lv_aload_n hx hb d_D_work_199 rfl (lv_at hl 3 rfl) ?_
      refine va_get (ci := 4) (C := R_D) (T := F_D) (N := 10) (v := .ref (cO K 3)) hx hb ht ku_D hown hw.2.1 hw.1 0 rfl rfl 0 (by decide) (ht _ kf_D_11) (fun _ h9 => h9) rfl d_D_work_200 ?_
      refine lv_iload_n hx hb d_D_work_203 rfl (lv_at hl 5 rfl) ?_
      refine c_reg hx hb hw (i := a) (by omega) d_D_work_204 ?_
      refine lv_aload hx hb d_D_work_205 (lv_at hl 1 rfl) ?_
      refine lv_aload_n hx hb d_D_work_207 rfl (lv_at hl 3 rfl) ?_
      refine va_get (ci := 4) (C := R_D) (T := F_D) (N := 10) (v := .ref (cR K 20)) hx hb ht ku_D hown hw.2.1 hw.1 0 rfl rfl 8 (by decide) (ht _ kf_D_75) (fun _ h9 => h9) rfl d_D_work_208 ?_
      refine c_cv (np := 3) (As := [.ref (cR K a), .ref (cR K c9), .ref (cR K 20)]) (rest := []) ⟨hx, hb, hml, hown, ht⟩ hw (c_M_multiply l K u1 hu1.2.1 (μ := μ) (o := a) (a := c9) (b := 20) lt_μ (by omega) (by omega) (by omega) (by omega) (by omega)) (5 + μ) (cWs_mod K _ lt_μ) rfl ⟨km_D_129, kv_M_multiply, kx_M_multiply, kc_M_multiply⟩ ki_M (by decide +kernel) ⟨by decide, by decide⟩ rfl rfl rfl hl.1 rfl (Nat.le_of_ble_eq_true rfl) d_D_work_211 ⟨Nat.le_refl _, Nat.le_refl _⟩ (fun u2 H locs hp hw => ?_)
      obtain ⟨V, hu, hv, hk⟩ := qc_mul hu1 (by omega) (by omega) hp
      rw [f1, k1_ c9 (by omega) (by omega)] at hv
      exact good V u2 _ _ ls hy hu (by rw [hv, hX]; rfl) (fun r b1 b2 => (hk r b1).trans (k1_ r (by omega) (by omega))) hw hl
  refine lv_iload_n hx hb d_D_work_90 rfl (lv_at hl 4 rfl) ?_
  refine lv_iconst (v := nI 3) hx hb d_D_work_91 (by decide) ?_
  refine n_ne (tgt := 105) hx hb d_D_work_92 (by decide) (by omega) (by decide) (fun c8 => run _ _ ls hw hl (fun q => absurd q c8)) (fun c8 => ?_)
  refine lv_aload hx hb d_D_work_95 (lv_at hl 0 rfl) ?_
  refine c_si (np := 1) (As := [.ref (cR K d)]) (rest := []) ⟨hx, hb, hml, hown, ht⟩ hw (c_L_isZero l K τ hok (a := d) (by omega) (by omega)) ⟨km_D_120, ks_L_isZero, kc_L_isZero⟩ ki_L (by decide +kernel) ⟨by decide, by decide⟩ rfl rfl rfl hl.1 rfl (Nat.le_of_ble_eq_true rfl) d_D_work_97 ⟨Nat.le_refl _, Nat.le_refl _⟩ (fun r ux H locs hp hw => ?_)
  obtain ⟨hpu, rfl⟩ := hp
  rw [hpu] at hw
  clear hpu
  refine n_eq0 (tgt := 105) hx hb d_D_work_100 (by decide) (boolN_s _) (fun c6 => run _ _ ls hw hl (fun _ => boolN_0 c6)) (fun c6 => bad2 _ _ ls hw hl (fun q => q.2.2 c8 (boolN_1 c6)))
set_option maxHeartbeats 4000000 in
set_option maxRecDepth 100000 in
theorem c_D_root (l : Launch) (K : cG) (τ : cT) (hok : cOk τ) (x y : Int32) : Met l y_D_root (zW y_D_root b_D_root 3 (some .int)) (zr 6 134) (va_Pc [.ref (cO K 0), .int (x), .int (y)] (cC K τ)) (va_Qi (fun r u => (¬ (okR x 8 ∧ okR y 8) → r = nI 0 ∧ u = τ) ∧ ∀ t a, t < 8 → a < 8 → x = nI t → y = nI a → r = nI (boolN (cV τ a < rMod 0 ∧ mm (rMod 0) (rootN (cV τ a)) (rootN (cV τ a)) = cV τ a)) ∧ ∃ V, cU τ V u ∧ ((cV τ a < rMod 0 ∧ mm (rMod 0) (rootN (cV τ a)) (rootN (cV τ a)) = cV τ a) → V t = evenN (rMod 0) (rootN (cV τ a))) ∧ (¬ (cV τ a < rMod 0 ∧ mm (rMod 0) (rootN (cV τ a)) (rootN (cV τ a)) = cV τ a) → V t = cV τ t) ∧ ∀ r, r ≠ t → r < 20 ∨ r = 22 ∨ r = 23 → V r = cV τ r) (fun u => cC K u) (cAA K)) 0 0 (cAA K) := by
  refine Met.ofW (cc := b_D_root) (maxL := 3) (ret := (some .int)) (by decide) rfl ?_
  intro p e s m args below meth c s₁ B hml hv
  obtain ⟨rfl, hw⟩ := hv
  have hx := B.exec
  have hb := B.bytes
  have hr := B.returns
  have hts := atoms_spec (ws := zW y_D_root b_D_root 3 (some .int)) B.pre
  have ht : ∀ w ∈ zT, w.before ([.ref (cO K 0), .int (x), .int (y)] : List Value).toArray s = true := fun w h => hts w (List.mem_cons_of_mem _ h)
  have hown : s.vm.findClass R_D = some m.cls := findClass_of_methodNamed B.named
  have hlocks := B.notSynchronized
  have hl := lv_entry ([.ref (cO K 0), .int (x), .int (y)]) (n := 3) (Nat.le_of_ble_eq_true rfl)
  rw [lg_entry_eq]
  generalize (lg_sl ([.ref (cO K 0), .int (x), .int (y)]) ++ List.replicate (3 - (lg_sl ([.ref (cO K 0), .int (x), .int (y)])).length) Slot.unset).toArray = ls at hl ⊢
  have hl : lv_has ls 3 [(0, .ref (cO K 0)), (1, .int (x)), (2, .int (y))] := hl
  have hno : ∀ (H : Heap) (locs : List Loc) (ls : Array Slot), cH K τ s H locs → lv_has ls 3 [(0, .ref (cO K 0)), (1, .int (x)), (2, .int (y))] → ¬ (okR x 8 ∧ okR y 8) → W p l e (headSpec (zW y_D_root b_D_root 3 (some .int)) (zr 6 134)).room s m ([.ref (cO K 0), .int (x), .int (y)] : List Value).toArray below meth c H locs 0 0 (MQ below (va_Qi (fun r u => (¬ (okR x 8 ∧ okR y 8) → r = nI 0 ∧ u = τ) ∧ ∀ t a, t < 8 → a < 8 → x = nI t → y = nI a → r = nI (boolN (cV τ a < rMod 0 ∧ mm (rMod 0) (rootN (cV τ a)) (rootN (cV τ a)) = cV τ a)) ∧ ∃ V, cU τ V u ∧ ((cV τ a < rMod 0 ∧ mm (rMod 0) (rootN (cV τ a)) (rootN (cV τ a)) = cV τ a) → V t = evenN (rMod 0) (rootN (cV τ a))) ∧ (¬ (cV τ a < rMod 0 ∧ mm (rMod 0) (rootN (cV τ a)) (rootN (cV τ a)) = cV τ a) → V t = cV τ t) ∧ ∀ r, r ≠ t → r < 20 ∨ r = 22 ∨ r = 23 → V r = cV τ r) (fun u => cC K u) (cAA K)) ([.ref (cO K 0), .int (x), .int (y)] : List Value).toArray s 0 0 (cAA K)) (F0 m 30 ls []) := by
    intro H locs ls hw hl hn
    refine lv_iconst (v := nI 0) hx hb d_D_root_30 (by decide) ?_
    refine z_iret (cZ K) hx hb hr hlocks τ hw ⟨fun _ => ⟨rfl, rfl⟩, fun t a w1 w2 e1 e2 => absurd ⟨?_, ?_⟩ hn⟩ d_D_root_31
    · rw [e1]; exact okR_of w1 (by decide)
    · rw [e2]; exact okR_of w2 (by decide)
  refine lv_iload_n hx hb d_D_root_0 rfl (lv_at hl 1 rfl) ?_
  refine c_si (np := 1) (As := [.int (x)]) (rest := []) ⟨hx, hb, hml, hown, ht⟩ hw (c_D_isRegister l K τ x) ⟨km_D_91, ks_D_isRegister, kc_D_isRegister⟩ ki_D (by decide +kernel) ⟨by decide, by decide⟩ rfl rfl rfl hl.1 rfl (Nat.le_of_ble_eq_true rfl) d_D_root_1 ⟨Nat.le_refl _, Nat.le_refl _⟩ (fun r ux H locs hp hw => ?_)
  obtain ⟨hpu, rfl⟩ := hp
  rw [hpu] at hw
  clear hpu
  refine n_eq0 (tgt := 30) hx hb d_D_root_4 (by decide) (boolN_s _) (fun c1 => hno _ _ ls hw hl (fun q => boolN_0 c1 q.1)) (fun c1 => ?_)
  refine lv_iload_n hx hb d_D_root_7 rfl (lv_at hl 2 rfl) ?_
  refine c_si (np := 1) (As := [.int (y)]) (rest := []) ⟨hx, hb, hml, hown, ht⟩ hw (c_D_isRegister l K τ y) ⟨km_D_91, ks_D_isRegister, kc_D_isRegister⟩ ki_D (by decide +kernel) ⟨by decide, by decide⟩ rfl rfl rfl hl.1 rfl (Nat.le_of_ble_eq_true rfl) d_D_root_8 ⟨Nat.le_refl _, Nat.le_refl _⟩ (fun r ux H locs hp hw => ?_)
  obtain ⟨hpu, rfl⟩ := hp
  rw [hpu] at hw
  clear hpu
  refine n_eq0 (tgt := 30) hx hb d_D_root_11 (by decide) (boolN_s _) (fun c2 => hno _ _ ls hw hl (fun q => boolN_0 c2 q.2)) (fun c2 => ?_)
  have k1 := boolN_1 c1
  have k2 := boolN_1 c2
  clear hno
  obtain ⟨t, lt_t, ex⟩ := k1.ex (by decide)
  obtain ⟨a, lt_a, ey⟩ := k2.ex (by decide)
  have hl2 := hl
  rw [ex, ey] at hl2
  have hl : lv_has ls 3 [(0, .ref (cO K 0)), (1, .int (nI (t))), (2, .int (nI (a)))] := hl2
  clear hl2
  have b30 : ∀ (V : Nat → Nat) (u : cT) (H : Heap) (locs : List Loc) (ls : Array Slot), ¬ (cV τ a < rMod 0 ∧ mm (rMod 0) (rootN (cV τ a)) (rootN (cV τ a)) = cV τ a) → cU τ V u → V t = cV τ t → (∀ r, r ≠ t → r < 20 ∨ r = 22 ∨ r = 23 → V r = cV τ r) → cH K u s H locs → lv_has ls 3 [(0, .ref (cO K 0)), (1, .int (nI (t))), (2, .int (nI (a)))] → W p l e (headSpec (zW y_D_root b_D_root 3 (some .int)) (zr 6 134)).room s m ([.ref (cO K 0), .int (x), .int (y)] : List Value).toArray below meth c H locs 0 0 (MQ below (va_Qi (fun r u => (¬ (okR x 8 ∧ okR y 8) → r = nI 0 ∧ u = τ) ∧ ∀ t a, t < 8 → a < 8 → x = nI t → y = nI a → r = nI (boolN (cV τ a < rMod 0 ∧ mm (rMod 0) (rootN (cV τ a)) (rootN (cV τ a)) = cV τ a)) ∧ ∃ V, cU τ V u ∧ ((cV τ a < rMod 0 ∧ mm (rMod 0) (rootN (cV τ a)) (rootN (cV τ a)) = cV τ a) → V t = evenN (rMod 0) (rootN (cV τ a))) ∧ (¬ (cV τ a < rMod 0 ∧ mm (rMod 0) (rootN (cV τ a)) (rootN (cV τ a)) = cV τ a) → V t = cV τ t) ∧ ∀ r, r ≠ t → r < 20 ∨ r = 22 ∨ r = 23 → V r = cV τ r) (fun u => cC K u) (cAA K)) ([.ref (cO K 0), .int (x), .int (y)] : List Value).toArray s 0 0 (cAA K)) (F0 m 30 ls []) := by
    intro V u H locs ls hn hu et hk hw hl
    refine lv_iconst (v := nI 0) hx hb d_D_root_30 (by decide) ?_
    refine z_iret (cZ K) hx hb hr hlocks u hw ⟨fun q => absurd ⟨k1, k2⟩ q, fun t_ a_ b1 b2 e1 e2 => ?_⟩ d_D_root_31
    have q_t_ : t_ = t := (nI_eq (by omega) (by omega)).mp (e1.symm.trans ex)
    subst q_t_
    have q_a_ : a_ = a := (nI_eq (by omega) (by omega)).mp (e2.symm.trans ey)
    subst q_a_
    exact ⟨by rw [boolN_f hn], V, hu, fun q => absurd q hn, fun _ => et, hk⟩
  have b52 : ∀ (V : Nat → Nat) (u : cT) (H : Heap) (locs : List Loc) (ls : Array Slot), ¬ (cV τ a < rMod 0 ∧ mm (rMod 0) (rootN (cV τ a)) (rootN (cV τ a)) = cV τ a) → cU τ V u → V t = cV τ t → (∀ r, r ≠ t → r < 20 ∨ r = 22 ∨ r = 23 → V r = cV τ r) → cH K u s H locs → lv_has ls 3 [(0, .ref (cO K 0)), (1, .int (nI (t))), (2, .int (nI (a)))] → W p l e (headSpec (zW y_D_root b_D_root 3 (some .int)) (zr 6 134)).room s m ([.ref (cO K 0), .int (x), .int (y)] : List Value).toArray below meth c H locs 0 0 (MQ below (va_Qi (fun r u => (¬ (okR x 8 ∧ okR y 8) → r = nI 0 ∧ u = τ) ∧ ∀ t a, t < 8 → a < 8 → x = nI t → y = nI a → r = nI (boolN (cV τ a < rMod 0 ∧ mm (rMod 0) (rootN (cV τ a)) (rootN (cV τ a)) = cV τ a)) ∧ ∃ V, cU τ V u ∧ ((cV τ a < rMod 0 ∧ mm (rMod 0) (rootN (cV τ a)) (rootN (cV τ a)) = cV τ a) → V t = evenN (rMod 0) (rootN (cV τ a))) ∧ (¬ (cV τ a < rMod 0 ∧ mm (rMod 0) (rootN (cV τ a)) (rootN (cV τ a)) = cV τ a) → V t = cV τ t) ∧ ∀ r, r ≠ t → r < 20 ∨ r = 22 ∨ r = 23 → V r = cV τ r) (fun u => cC K u) (cAA K)) ([.ref (cO K 0), .int (x), .int (y)] : List Value).toArray s 0 0 (cAA K)) (F0 m 52 ls []) := by
    intro V u H locs ls hn hu et hk hw hl
    refine lv_iconst (v := nI 0) hx hb d_D_root_52 (by decide) ?_
    refine z_iret (cZ K) hx hb hr hlocks u hw ⟨fun q => absurd ⟨k1, k2⟩ q, fun t_ a_ b1 b2 e1 e2 => ?_⟩ d_D_root_53
    have q_t_ : t_ = t := (nI_eq (by omega) (by omega)).mp (e1.symm.trans ex)
    subst q_t_
    have q_a_ : a_ = a := (nI_eq (by omega) (by omega)).mp (e2.symm.trans ey)
    subst q_a_
    exact ⟨by rw [boolN_f hn], V, hu, fun q => absurd q hn, fun _ => et, hk⟩
  refine lv_aload_n hx hb d_D_root_14 rfl (lv_at hl 0 rfl) ?_
  refine va_get (ci := 4) (C := R_D) (T := F_D) (N := 10) (v := .ref (cO K 5)) hx hb ht ku_D hown hw.2.1 hw.1 0 rfl rfl 3 (by decide) (ht _ kf_D_42) (fun _ h9 => h9) rfl d_D_root_15 ?_
  refine lv_aload_n hx hb d_D_root_18 rfl (lv_at hl 0 rfl) ?_
  refine va_get (ci := 4) (C := R_D) (T := F_D) (N := 10) (v := .ref (cO K 3)) hx hb ht ku_D hown hw.2.1 hw.1 0 rfl rfl 0 (by decide) (ht _ kf_D_11) (fun _ h9 => h9) rfl d_D_root_19 ?_
  refine lv_iload_n hx hb d_D_root_22 rfl (lv_at hl 2 rfl) ?_
  refine c_reg hx hb hw (i := a) (by omega) d_D_root_23 ?_
  refine c_ci (np := 1) (As := [.ref (cR K a)]) (rest := []) ⟨hx, hb, hml, hown, ht⟩ hw (c_M_isAbove l K τ hok (μ := 0) (a := a) (by decide) (by omega) (by omega)) 5 rfl rfl ⟨km_D_116, kv_M_isAbove, kx_M_isAbove, kc_M_isAbove⟩ ki_M (by decide +kernel) ⟨by decide, by decide⟩ rfl rfl rfl hl.1 rfl (Nat.le_of_ble_eq_true rfl) d_D_root_24 ⟨Nat.le_refl _, Nat.le_refl _⟩ (fun r ux H locs hp hw => ?_)
  obtain ⟨hpu, rfl⟩ := hp
  rw [hpu] at hw
  clear hpu
  refine n_ne0 (tgt := 32) hx hb d_D_root_27 (by decide) (boolN_s _) (fun c3 => ?_) (fun c3 => b30 (cV τ) τ _ _ ls (fun q => boolN_0 c3 q.1) (cU.refl hok) rfl (fun _ _ _ => rfl) hw hl)
  have l1 := boolN_1 c3
  clear c3 b30
  refine lv_aload_n hx hb d_D_root_32 rfl (lv_at hl 0 rfl) ?_
  refine va_get (ci := 4) (C := R_D) (T := F_D) (N := 10) (v := .ref (cO K 7)) hx hb ht ku_D hown hw.2.1 hw.1 0 rfl rfl 5 (by decide) (ht _ kf_D_63) (fun _ h9 => h9) rfl d_D_root_33 ?_
  refine lv_aload_n hx hb d_D_root_36 rfl (lv_at hl 0 rfl) ?_
  refine va_get (ci := 4) (C := R_D) (T := F_D) (N := 10) (v := .ref (cR K 20)) hx hb ht ku_D hown hw.2.1 hw.1 0 rfl rfl 8 (by decide) (ht _ kf_D_75) (fun _ h9 => h9) rfl d_D_root_37 ?_
  refine lv_aload_n hx hb d_D_root_40 rfl (lv_at hl 0 rfl) ?_
  refine va_get (ci := 4) (C := R_D) (T := F_D) (N := 10) (v := .ref (cO K 3)) hx hb ht ku_D hown hw.2.1 hw.1 0 rfl rfl 0 (by decide) (ht _ kf_D_11) (fun _ h9 => h9) rfl d_D_root_41 ?_
  refine lv_iload_n hx hb d_D_root_44 rfl (lv_at hl 2 rfl) ?_
  refine c_reg hx hb hw (i := a) (by omega) d_D_root_45 ?_
  refine c_ci (np := 2) (As := [.ref (cR K 20), .ref (cR K a)]) (rest := []) ⟨hx, hb, hml, hown, ht⟩ hw (c_C_findEvenRoot l K τ hok (o := 20) (a := a) (by decide) (by omega)) 7 rfl rfl ⟨km_D_135, kv_C_findEvenRoot, kx_C_findEvenRoot, kc_C_findEvenRoot⟩ ki_C (by decide +kernel) ⟨by decide, by decide⟩ rfl rfl rfl hl.1 rfl (Nat.le_of_ble_eq_true rfl) d_D_root_46 ⟨Nat.le_refl _, Nat.le_refl _⟩ (fun r u1 H locs hp hw => ?_)
  obtain ⟨V1, hu1, rfl, f1, f2, g1⟩ := hp
  refine n_ne0 (tgt := 54) hx hb d_D_root_49 (by decide) (boolN_s _) (fun c3 => ?_) (fun c3 => b52 V1 u1 _ _ ls (fun q => boolN_0 c3 q.2) hu1 (g1 _ (by omega) (by omega) (by omega) (by omega)) (fun r b1 b2 => g1 r (by omega) (by omega) (by omega) (by omega)) hw hl)
  have c4 := boolN_1 c3
  have f20 := f1 c4
  clear f1 f2 c3 b52
  refine lv_aload_n hx hb d_D_root_54 rfl (lv_at hl 0 rfl) ?_
  refine va_get (ci := 4) (C := R_D) (T := F_D) (N := 10) (v := .ref (cO K 3)) hx hb ht ku_D hown hw.2.1 hw.1 0 rfl rfl 0 (by decide) (ht _ kf_D_11) (fun _ h9 => h9) rfl d_D_root_55 ?_
  refine lv_iload_n hx hb d_D_root_58 rfl (lv_at hl 1 rfl) ?_
  refine c_reg hx hb hw (i := t) (by omega) d_D_root_59 ?_
  refine lv_aload_n hx hb d_D_root_60 rfl (lv_at hl 0 rfl) ?_
  refine va_get (ci := 4) (C := R_D) (T := F_D) (N := 10) (v := .ref (cR K 20)) hx hb ht ku_D hown hw.2.1 hw.1 0 rfl rfl 8 (by decide) (ht _ kf_D_75) (fun _ h9 => h9) rfl d_D_root_61 ?_
  refine c_sv (np := 2) (As := [.ref (cR K t), .ref (cR K 20)]) (rest := []) ⟨hx, hb, hml, hown, ht⟩ hw (c_L_copy l K u1 hu1.2.1 (o := t) (a := 20) (by omega) (by omega)) ⟨km_D_139, ks_L_copy, kc_L_copy⟩ ki_L (by decide +kernel) ⟨by decide, by decide⟩ rfl rfl rfl hl.1 rfl (Nat.le_of_ble_eq_true rfl) d_D_root_64 ⟨Nat.le_refl _, Nat.le_refl _⟩ (fun u2 H locs hp hw => ?_)
  obtain ⟨V, hu, hv, hk⟩ := qc_copy hu1 (by omega) (by omega) (by omega) hp
  rw [f20] at hv
  refine lv_iconst (v := nI 1) hx hb d_D_root_67 (by decide) ?_
  refine z_iret (cZ K) hx hb hr hlocks u2 hw ⟨fun q => absurd ⟨k1, k2⟩ q, fun t_ a_ b1 b2 e1 e2 => ?_⟩ d_D_root_68
  have q_t_ : t_ = t := (nI_eq (by omega) (by omega)).mp (e1.symm.trans ex)
  subst q_t_
  have q_a_ : a_ = a := (nI_eq (by omega) (by omega)).mp (e2.symm.trans ey)
  subst q_a_
  exact ⟨by rw [boolN_t ⟨l1, c4⟩], V, hu, fun _ => hv, fun q => absurd ⟨l1, c4⟩ q, fun r b1 b2 => (hk r b1).trans (g1 r (by omega) (by omega) (by omega) (by omega))⟩
