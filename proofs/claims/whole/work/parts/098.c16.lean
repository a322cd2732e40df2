/-! the class reads a signature -/
abbrev wellN (B : Nat → Nat) (f c : Nat) : Prop := (B f = 0 ∧ (c = 1 ∨ 128 ≤ B (f + 1))) ∨ (B f ≠ 0 ∧ B f < 128 ∧ c ≤ 32)
theorem bA_W8 (B : Nat → Nat) (f n k : Nat) : bA B f n k < W8 := by rw [W8_eq]; exact Nat.mod_lt _ (Nat.two_pow_pos 256)
theorem okN_iff {B : Nat → Nat} {t c : Nat} (h1 : t + 2 ≤ c) (h2 : B t = 2) (h3 : 1 ≤ B (t + 1)) (h4 : B (t + 1) ≤ 33) (h5 : t + 2 + B (t + 1) ≤ c) : okN B t c ↔ wellN B (t + 2) (B (t + 1)) := by
  constructor
  · intro q
    obtain ⟨_, _, _, _, _, q1, q2, q3⟩ := q
    by_cases h : B (t + 2) = 0
    · left
      refine ⟨h, ?_⟩
      rcases q2 with q2 | q2 | q2
      · omega
      · exact Or.inl q2
      · exact Or.inr q2
    · right
      refine ⟨h, q1, ?_⟩
      rcases q3 with q3 | q3
      · omega
      · exact absurd q3 h
  · intro q
    refine ⟨h1, h2, h3, h4, h5, ?_⟩
    rcases q with ⟨q1, q2⟩ | ⟨q1, q2, q3⟩
    · exact ⟨by omega, Or.inr q2, Or.inr q1⟩
    · exact ⟨q2, Or.inl (by omega), Or.inl (by omega)⟩
set_option maxHeartbeats 4000000 in
set_option maxRecDepth 100000 in
theorem c_H_isWellWritten (l : Launch) (K : cG) (τ : cT) {f0 cn : Nat} (h1 : 1 ≤ cn) (h2 : f0 + cn ≤ 100) (h3 : cn ≤ 33) (hB : ∀ j, j < 100 → cB τ j < 256) : Met l y_H_isWellWritten (zW y_H_isWellWritten b_H_isWellWritten 4 (some .boolean)) (zr 0 0) (va_Pc [.ref (cO K 1), .int (nI (f0)), .int (nI (cn))] (cC K τ)) (va_Qi (fun r u => u = τ ∧ r = nI (boolN (wellN (cB τ) f0 cn))) (fun u => cC K u) (cAA K)) 0 0 (cAA K) := by
  refine Met.ofW (cc := b_H_isWellWritten) (maxL := 4) (ret := (some .boolean)) (by decide) rfl ?_
  intro p e s m args below meth c s₁ B hml hv
  obtain ⟨rfl, hw⟩ := hv
  have hx := B.exec
  have hb := B.bytes
  have hr := B.returns
  have hts := atoms_spec (ws := zW y_H_isWellWritten b_H_isWellWritten 4 (some .boolean)) B.pre
  have ht : ∀ w ∈ zT, w.before ([.ref (cO K 1), .int (nI (f0)), .int (nI (cn))] : List Value).toArray s = true := fun w h => hts w (List.mem_cons_of_mem _ h)
  have hown : s.vm.findClass R_H = some m.cls := findClass_of_methodNamed B.named
  have hlocks := B.notSynchronized
  have hl := lv_entry ([.ref (cO K 1), .int (nI (f0)), .int (nI (cn))]) (n := 4) (Nat.le_of_ble_eq_true rfl)
  rw [lg_entry_eq]
  generalize (lg_sl ([.ref (cO K 1), .int (nI (f0)), .int (nI (cn))]) ++ List.replicate (4 - (lg_sl ([.ref (cO K 1), .int (nI (f0)), .int (nI (cn))])).length) Slot.unset).toArray = ls at hl ⊢
  have hl : lv_has ls 4 [(0, .ref (cO K 1)), (1, .int (nI (f0))), (2, .int (nI (cn)))] := hl
  have b0 := hB f0 (by omega)
  refine lv_aload_n hx hb d_H_isWellWritten_0 rfl (lv_at hl 0 rfl) ?_
  refine va_get (ci := 1) (C := R_H) (T := F_H) (N := 2) (v := .ref (cO K 2)) hx hb ht ku_H hown hw.2.1 hw.1 1 rfl rfl 0 (by decide) (ht _ kf_H_9) (fun _ h9 => h9) rfl d_H_isWellWritten_1 ?_
  refine lv_iload_n hx hb d_H_isWellWritten_4 rfl (lv_at hl 1 rfl) ?_
  refine c_bld hx hb hw (show f0 < 100 by omega) d_H_isWellWritten_5 ?_
  refine tp_i (y := nI (cB τ f0)) rfl ?_
  refine lv_istore_n (lv' := [(3, .int (nI (cB τ f0))), (0, .ref (cO K 1)), (1, .int (nI (f0))), (2, .int (nI (cn)))]) hx hb d_H_isWellWritten_6 rfl hl (by decide) rfl (fun ls hl => ?_)
  have y30 : ∀ (ls : Array Slot), lv_has ls 4 [(3, .int (nI (cB τ f0))), (0, .ref (cO K 1)), (1, .int (nI (f0))), (2, .int (nI (cn)))] → wellN (cB τ) f0 cn → W p l e (headSpec (zW y_H_isWellWritten b_H_isWellWritten 4 (some .boolean)) (zr 0 0)).room s m ([.ref (cO K 1), .int (nI (f0)), .int (nI (cn))] : List Value).toArray below meth c s.heap [] 0 0 (MQ below (va_Qi (fun r u => u = τ ∧ r = nI (boolN (wellN (cB τ) f0 cn))) (fun u => cC K u) (cAA K)) ([.ref (cO K 1), .int (nI (f0)), .int (nI (cn))] : List Value).toArray s 0 0 (cAA K)) (F0 m 30 ls []) := by
    intro ls hl q
    refine lv_iconst (v := nI 1) hx hb d_H_isWellWritten_30 (by decide) ?_
    refine lv_goto (tgt := 35) hx hb d_H_isWellWritten_31 (by decide) ?_
    exact z_zret (cZ K) hx hb hr hlocks (nar_b (by decide)) τ hw ⟨rfl, by rw [boolN_t q]⟩ d_H_isWellWritten_35
  have n34 : ∀ (ls : Array Slot), lv_has ls 4 [(3, .int (nI (cB τ f0))), (0, .ref (cO K 1)), (1, .int (nI (f0))), (2, .int (nI (cn)))] → ¬ (wellN (cB τ) f0 cn) → W p l e (headSpec (zW y_H_isWellWritten b_H_isWellWritten 4 (some .boolean)) (zr 0 0)).room s m ([.ref (cO K 1), .int (nI (f0)), .int (nI (cn))] : List Value).toArray below meth c s.heap [] 0 0 (MQ below (va_Qi (fun r u => u = τ ∧ r = nI (boolN (wellN (cB τ) f0 cn))) (fun u => cC K u) (cAA K)) ([.ref (cO K 1), .int (nI (f0)), .int (nI (cn))] : List Value).toArray s 0 0 (cAA K)) (F0 m 34 ls []) := by
    intro ls hl q
    refine lv_iconst (v := nI 0) hx hb d_H_isWellWritten_34 (by decide) ?_
    exact z_zret (cZ K) hx hb hr hlocks (nar_b (by decide)) τ hw ⟨rfl, by rw [boolN_f q]⟩ d_H_isWellWritten_35
  have y49 : ∀ (ls : Array Slot), lv_has ls 4 [(3, .int (nI (cB τ f0))), (0, .ref (cO K 1)), (1, .int (nI (f0))), (2, .int (nI (cn)))] → wellN (cB τ) f0 cn → W p l e (headSpec (zW y_H_isWellWritten b_H_isWellWritten 4 (some .boolean)) (zr 0 0)).room s m ([.ref (cO K 1), .int (nI (f0)), .int (nI (cn))] : List Value).toArray below meth c s.heap [] 0 0 (MQ below (va_Qi (fun r u => u = τ ∧ r = nI (boolN (wellN (cB τ) f0 cn))) (fun u => cC K u) (cAA K)) ([.ref (cO K 1), .int (nI (f0)), .int (nI (cn))] : List Value).toArray s 0 0 (cAA K)) (F0 m 49 ls []) := by
    intro ls hl q
    refine lv_iconst (v := nI 1) hx hb d_H_isWellWritten_49 (by decide) ?_
    refine lv_goto (tgt := 54) hx hb d_H_isWellWritten_50 (by decide) ?_
    exact z_zret (cZ K) hx hb hr hlocks (nar_b (by decide)) τ hw ⟨rfl, by rw [boolN_t q]⟩ d_H_isWellWritten_54
  have n53 : ∀ (ls : Array Slot), lv_has ls 4 [(3, .int (nI (cB τ f0))), (0, .ref (cO K 1)), (1, .int (nI (f0))), (2, .int (nI (cn)))] → ¬ (wellN (cB τ) f0 cn) → W p l e (headSpec (zW y_H_isWellWritten b_H_isWellWritten 4 (some .boolean)) (zr 0 0)).room s m ([.ref (cO K 1), .int (nI (f0)), .int (nI (cn))] : List Value).toArray below meth c s.heap [] 0 0 (MQ below (va_Qi (fun r u => u = τ ∧ r = nI (boolN (wellN (cB τ) f0 cn))) (fun u => cC K u) (cAA K)) ([.ref (cO K 1), .int (nI (f0)), .int (nI (cn))] : List Value).toArray s 0 0 (cAA K)) (F0 m 53 ls []) := by
    intro ls hl q
    refine lv_iconst (v := nI 0) hx hb d_H_isWellWritten_53 (by decide) ?_
    exact z_zret (cZ K) hx hb hr hlocks (nar_b (by decide)) τ hw ⟨rfl, by rw [boolN_f q]⟩ d_H_isWellWritten_54
  refine lv_iload_n hx hb d_H_isWellWritten_7 rfl (lv_at hl 0 rfl) ?_
  refine n_ne0 (tgt := 36) hx hb d_H_isWellWritten_8 (by decide) (by omega) (fun c1 => ?_) (fun c1 => ?_)
  · refine lv_iload_n hx hb d_H_isWellWritten_36 rfl (lv_at hl 0 rfl) ?_
    refine lv_sipush (v := nI 128) hx hb d_H_isWellWritten_37 (by decide) ?_
    refine n_ge (tgt := 53) hx hb d_H_isWellWritten_40 (by decide) (by omega) (by omega) (fun c2 => n53 ls hl (fun q => by rcases q with q | q <;> omega)) (fun c2 => ?_)
    refine lv_iload_n hx hb d_H_isWellWritten_43 rfl (lv_at hl 3 rfl) ?_
    refine lv_bipush (v := nI 32) hx hb d_H_isWellWritten_44 (by decide) ?_
    refine n_gt (tgt := 53) hx hb d_H_isWellWritten_46 (by decide) (by omega) (by omega) (fun c3 => n53 ls hl (fun q => by rcases q with q | q <;> omega)) (fun c3 => y49 ls hl (Or.inr ⟨c1, by omega, by omega⟩))
  · refine lv_iload_n hx hb d_H_isWellWritten_11 rfl (lv_at hl 3 rfl) ?_
    refine lv_iconst (v := nI 1) hx hb d_H_isWellWritten_12 (by decide) ?_
    refine n_eq (tgt := 30) hx hb d_H_isWellWritten_13 (by decide) (by omega) (by omega) (fun c2 => y30 ls hl (Or.inl ⟨c1, Or.inl c2⟩)) (fun c2 => ?_)
    have b1 := hB (f0 + 1) (by omega)
    refine lv_aload_n hx hb d_H_isWellWritten_16 rfl (lv_at hl 1 rfl) ?_
    refine va_get (ci := 1) (C := R_H) (T := F_H) (N := 2) (v := .ref (cO K 2)) hx hb ht ku_H hown hw.2.1 hw.1 1 rfl rfl 0 (by decide) (ht _ kf_H_9) (fun _ h9 => h9) rfl d_H_isWellWritten_17 ?_
    refine lv_iload_n hx hb d_H_isWellWritten_20 rfl (lv_at hl 2 rfl) ?_
    refine lv_iconst (v := nI 1) hx hb d_H_isWellWritten_21 (by decide) ?_
    refine lv_iadd hx hb d_H_isWellWritten_22 ?_
    refine tp_i (y := nI (f0 + 1)) (nI_add _ _) ?_
    refine c_bld hx hb hw (show f0 + 1 < 100 by omega) d_H_isWellWritten_23 ?_
    refine tp_i (y := nI (cB τ (f0 + 1))) rfl ?_
    refine lv_sipush (v := nI 128) hx hb d_H_isWellWritten_24 (by decide) ?_
    refine n_lt (tgt := 34) hx hb d_H_isWellWritten_27 (by decide) (by omega) (by omega) (fun c3 => n34 ls hl (fun q => by rcases q with q | q <;> omega)) (fun c3 => y30 ls hl (Or.inl ⟨c1, Or.inr (by omega)⟩))
set_option maxHeartbeats 4000000 in
set_option maxRecDepth 100000 in
theorem c_H_readPart (l : Launch) (K : cG) (τ : cT) (hok : cOk τ) {o t c0 : Nat} (ho : o < 30) (hc : c0 ≤ 100) (ht0 : t ≤ 100) (hB : ∀ j, j < 100 → cB τ j < 256) : Met l y_H_readPart (zW y_H_readPart b_H_readPart 6 (some .int)) (zr 3 72) (va_Pc [.ref (cO K 1), .ref (cR K o), .int (nI (t)), .int (nI (c0))] (cC K τ)) (va_Qi (fun r u => r = endN (cB τ) t c0 ∧ (okN (cB τ) t c0 → u = csV τ o (bA (cB τ) (t + 2) (cB τ (t + 1)) (cB τ (t + 1)))) ∧ (¬ okN (cB τ) t c0 → u = τ)) (fun u => cC K u) (cAA K)) 0 0 (cAA K) := by
  refine Met.ofW (cc := b_H_readPart) (maxL := 6) (ret := (some .int)) (by decide) rfl ?_
  intro p e s m args below meth c s₁ B hml hv
  obtain ⟨rfl, hw⟩ := hv
  have hx := B.exec
  have hb := B.bytes
  have hr := B.returns
  have hts := atoms_spec (ws := zW y_H_readPart b_H_readPart 6 (some .int)) B.pre
  have ht : ∀ w ∈ zT, w.before ([.ref (cO K 1), .ref (cR K o), .int (nI (t)), .int (nI (c0))] : List Value).toArray s = true := fun w h => hts w (List.mem_cons_of_mem _ h)
  have hown : s.vm.findClass R_H = some m.cls := findClass_of_methodNamed B.named
  have hlocks := B.notSynchronized
  have hl := lv_entry ([.ref (cO K 1), .ref (cR K o), .int (nI (t)), .int (nI (c0))]) (n := 6) (Nat.le_of_ble_eq_true rfl)
  rw [lg_entry_eq]
  generalize (lg_sl ([.ref (cO K 1), .ref (cR K o), .int (nI (t)), .int (nI (c0))]) ++ List.replicate (6 - (lg_sl ([.ref (cO K 1), .ref (cR K o), .int (nI (t)), .int (nI (c0))])).length) Slot.unset).toArray = ls at hl ⊢
  have hl : lv_has ls 6 [(0, .ref (cO K 1)), (1, .ref (cR K o)), (2, .int (nI (t))), (3, .int (nI (c0)))] := hl
  have n17 : ∀ (H : Heap) (locs : List Loc) (ls : Array Slot), cH K τ s H locs → lv_has ls 6 [(0, .ref (cO K 1)), (1, .ref (cR K o)), (2, .int (nI (t))), (3, .int (nI (c0)))] → ¬ okN (cB τ) t c0 → W p l e (headSpec (zW y_H_readPart b_H_readPart 6 (some .int)) (zr 3 72)).room s m ([.ref (cO K 1), .ref (cR K o), .int (nI (t)), .int (nI (c0))] : List Value).toArray below meth c H locs 0 0 (MQ below (va_Qi (fun r u => r = endN (cB τ) t c0 ∧ (okN (cB τ) t c0 → u = csV τ o (bA (cB τ) (t + 2) (cB τ (t + 1)) (cB τ (t + 1)))) ∧ (¬ okN (cB τ) t c0 → u = τ)) (fun u => cC K u) (cAA K)) ([.ref (cO K 1), .ref (cR K o), .int (nI (t)), .int (nI (c0))] : List Value).toArray s 0 0 (cAA K)) (F0 m 17 ls []) := by
    intro H locs ls hw hl hn
    refine lv_iconst (v := -1) hx hb d_H_readPart_17 (by decide) ?_
    exact z_iret (cZ K) hx hb hr hlocks τ hw ⟨by rw [endN, if_neg hn], fun q => absurd q hn, fun _ => rfl⟩ d_H_readPart_18
  refine lv_iload_n hx hb d_H_readPart_0 rfl (lv_at hl 2 rfl) ?_
  refine lv_iconst (v := nI 2) hx hb d_H_readPart_1 (by decide) ?_
  refine lv_iadd hx hb d_H_readPart_2 ?_
  refine tp_i (y := nI (t + 2)) (nI_add _ _) ?_
  refine lv_iload_n hx hb d_H_readPart_3 rfl (lv_at hl 3 rfl) ?_
  refine n_gt (tgt := 17) hx hb d_H_readPart_4 (by decide) (by omega) (by omega) (fun c1 => n17 _ _ ls hw hl (fun q => absurd q.1 (by omega))) (fun c1 => ?_)
  have b0 := hB t (by omega)
  have b1 := hB (t + 1) (by omega)
  refine lv_aload_n hx hb d_H_readPart_7 rfl (lv_at hl 0 rfl) ?_
  refine va_get (ci := 1) (C := R_H) (T := F_H) (N := 2) (v := .ref (cO K 2)) hx hb ht ku_H hown hw.2.1 hw.1 1 rfl rfl 0 (by decide) (ht _ kf_H_9) (fun _ h9 => h9) rfl d_H_readPart_8 ?_
  refine lv_iload_n hx hb d_H_readPart_11 rfl (lv_at hl 2 rfl) ?_
  refine c_bld hx hb hw (show t < 100 by omega) d_H_readPart_12 ?_
  refine tp_i (y := nI (cB τ t)) rfl ?_
  refine lv_iconst (v := nI 2) hx hb d_H_readPart_13 (by decide) ?_
  refine n_eq (tgt := 19) hx hb d_H_readPart_14 (by decide) (by omega) (by decide) (fun c2 => ?_) (fun c2 => n17 _ _ ls hw hl (fun q => c2 q.2.1))
  refine lv_iload_n hx hb d_H_readPart_19 rfl (lv_at hl 2 rfl) ?_
  refine lv_iconst (v := nI 2) hx hb d_H_readPart_20 (by decide) ?_
  refine lv_iadd hx hb d_H_readPart_21 ?_
  refine tp_i (y := nI (t + 2)) (nI_add _ _) ?_
  refine lv_istore (lv' := [(4, .int (nI (t + 2))), (0, .ref (cO K 1)), (1, .ref (cR K o)), (2, .int (nI (t))), (3, .int (nI (c0)))]) hx hb d_H_readPart_22 hl (by decide) rfl (fun ls hl => ?_)
  refine lv_aload_n hx hb d_H_readPart_24 rfl (lv_at hl 1 rfl) ?_
  refine va_get (ci := 1) (C := R_H) (T := F_H) (N := 2) (v := .ref (cO K 2)) hx hb ht ku_H hown hw.2.1 hw.1 1 rfl rfl 0 (by decide) (ht _ kf_H_9) (fun _ h9 => h9) rfl d_H_readPart_25 ?_
  refine lv_iload_n hx hb d_H_readPart_28 rfl (lv_at hl 3 rfl) ?_
  refine lv_iconst (v := nI 1) hx hb d_H_readPart_29 (by decide) ?_
  refine lv_iadd hx hb d_H_readPart_30 ?_
  refine tp_i (y := nI (t + 1)) (nI_add _ _) ?_
  refine c_bld hx hb hw (show t + 1 < 100 by omega) d_H_readPart_31 ?_
  refine tp_i (y := nI (cB τ (t + 1))) rfl ?_
  refine lv_istore (lv' := [(5, .int (nI (cB τ (t + 1)))), (4, .int (nI (t + 2))), (0, .ref (cO K 1)), (1, .ref (cR K o)), (2, .int (nI (t))), (3, .int (nI (c0)))]) hx hb d_H_readPart_32 hl (by decide) rfl (fun ls hl => ?_)
  have n56 : ∀ (H : Heap) (locs : List Loc) (ls : Array Slot), cH K τ s H locs → lv_has ls 6 [(5, .int (nI (cB τ (t + 1)))), (4, .int (nI (t + 2))), (0, .ref (cO K 1)), (1, .ref (cR K o)), (2, .int (nI (t))), (3, .int (nI (c0)))] → ¬ okN (cB τ) t c0 → W p l e (headSpec (zW y_H_readPart b_H_readPart 6 (some .int)) (zr 3 72)).room s m ([.ref (cO K 1), .ref (cR K o), .int (nI (t)), .int (nI (c0))] : List Value).toArray below meth c H locs 0 0 (MQ below (va_Qi (fun r u => r = endN (cB τ) t c0 ∧ (okN (cB τ) t c0 → u = csV τ o (bA (cB τ) (t + 2) (cB τ (t + 1)) (cB τ (t + 1)))) ∧ (¬ okN (cB τ) t c0 → u = τ)) (fun u => cC K u) (cAA K)) ([.ref (cO K 1), .ref (cR K o), .int (nI (t)), .int (nI (c0))] : List Value).toArray s 0 0 (cAA K)) (F0 m 56 ls []) := by
    intro H locs ls hw hl hn
    refine lv_iconst (v := -1) hx hb d_H_readPart_56 (by decide) ?_
    exact z_iret (cZ K) hx hb hr hlocks τ hw ⟨by rw [endN, if_neg hn], fun q => absurd q hn, fun _ => rfl⟩ d_H_readPart_57
  have n69 : ∀ (H : Heap) (locs : List Loc) (ls : Array Slot), cH K τ s H locs → lv_has ls 6 [(5, .int (nI (cB τ (t + 1)))), (4, .int (nI (t + 2))), (0, .ref (cO K 1)), (1, .ref (cR K o)), (2, .int (nI (t))), (3, .int (nI (c0)))] → ¬ okN (cB τ) t c0 → W p l e (headSpec (zW y_H_readPart b_H_readPart 6 (some .int)) (zr 3 72)).room s m ([.ref (cO K 1), .ref (cR K o), .int (nI (t)), .int (nI (c0))] : List Value).toArray below meth c H locs 0 0 (MQ below (va_Qi (fun r u => r = endN (cB τ) t c0 ∧ (okN (cB τ) t c0 → u = csV τ o (bA (cB τ) (t + 2) (cB τ (t + 1)) (cB τ (t + 1)))) ∧ (¬ okN (cB τ) t c0 → u = τ)) (fun u => cC K u) (cAA K)) ([.ref (cO K 1), .ref (cR K o), .int (nI (t)), .int (nI (c0))] : List Value).toArray s 0 0 (cAA K)) (F0 m 69 ls []) := by
    intro H locs ls hw hl hn
    refine lv_iconst (v := -1) hx hb d_H_readPart_69 (by decide) ?_
    exact z_iret (cZ K) hx hb hr hlocks τ hw ⟨by rw [endN, if_neg hn], fun q => absurd q hn, fun _ => rfl⟩ d_H_readPart_70
  refine lv_iload hx hb d_H_readPart_34 (lv_at hl 0 rfl) ?_
  refine lv_iconst (v := nI 1) hx hb d_H_readPart_36 (by decide) ?_
  refine n_lt (tgt := 56) hx hb d_H_readPart_37 (by decide) (by omega) (by decide) (fun c3 => n56 _ _ ls hw hl (fun q => absurd q.2.2.1 (by omega))) (fun c3 => ?_)
  refine lv_iload hx hb d_H_readPart_40 (lv_at hl 0 rfl) ?_
  refine lv_bipush (v := nI 33) hx hb d_H_readPart_42 (by decide) ?_
  refine n_gt (tgt := 56) hx hb d_H_readPart_44 (by decide) (by omega) (by decide) (fun c4 => n56 _ _ ls hw hl (fun q => absurd q.2.2.2.1 (by omega))) (fun c4 => ?_)
  refine lv_iload hx hb d_H_readPart_47 (lv_at hl 1 rfl) ?_
  refine lv_iload hx hb d_H_readPart_49 (lv_at hl 0 rfl) ?_
  refine lv_iadd hx hb d_H_readPart_51 ?_
  refine tp_i (y := nI ((t + 2) + (cB τ (t + 1)))) (nI_add _ _) ?_
  refine lv_iload_n hx hb d_H_readPart_52 rfl (lv_at hl 5 rfl) ?_
  refine n_le (tgt := 58) hx hb d_H_readPart_53 (by decide) (by omega) (by omega) (fun c5 => ?_) (fun c5 => n56 _ _ ls hw hl (fun q => absurd q.2.2.2.2.1 (by omega)))
  have hiff := okN_iff (B := cB τ) (t := t) (c := c0) (by omega) c2 (by omega) (by omega) (by omega)
  refine lv_aload_n hx hb d_H_readPart_58 rfl (lv_at hl 2 rfl) ?_
  refine lv_iload hx hb d_H_readPart_59 (lv_at hl 1 rfl) ?_
  refine lv_iload hx hb d_H_readPart_61 (lv_at hl 0 rfl) ?_
  refine c_ci (np := 2) (As := [.int (nI (t + 2)), .int (nI (cB τ (t + 1)))]) (rest := []) ⟨hx, hb, hml, hown, ht⟩ hw (c_H_isWellWritten l K τ (f0 := t + 2) (cn := cB τ (t + 1)) (by omega) (by omega) (by omega) hB) 1 rfl rfl ⟨km_H_33, kv_H_isWellWritten, kx_H_isWellWritten, kc_H_isWellWritten⟩ ki_H (by decide +kernel) ⟨by decide, by decide⟩ rfl rfl rfl hl.1 rfl (Nat.le_of_ble_eq_true rfl) d_H_readPart_63 ⟨Nat.le_refl _, Nat.le_refl _⟩ (fun r ux H locs hp hw => ?_)
  obtain ⟨hpu, rfl⟩ := hp
  rw [hpu] at hw
  clear hpu
  refine n_ne0 (tgt := 71) hx hb d_H_readPart_66 (by decide) (boolN_s _) (fun c6 => ?_) (fun c6 => n69 _ _ ls hw hl (fun q => boolN_0 c6 (hiff.mp q)))
  have okk := hiff.mpr (boolN_1 c6)
  refine lv_aload_n hx hb d_H_readPart_71 rfl (lv_at hl 2 rfl) ?_
  refine lv_aload_n hx hb d_H_readPart_72 rfl (lv_at hl 3 rfl) ?_
  refine lv_iload hx hb d_H_readPart_73 (lv_at hl 1 rfl) ?_
  refine lv_iload hx hb d_H_readPart_75 (lv_at hl 0 rfl) ?_
  refine c_cv (np := 3) (As := [.ref (cR K o), .int (nI (t + 2)), .int (nI (cB τ (t + 1)))]) (rest := []) ⟨hx, hb, hml, hown, ht⟩ hw (c_H_readNumber l K τ hok (o := o) (f0 := t + 2) (cn := cB τ (t + 1)) ho (by omega) (by omega) (by omega) (by omega) hB) 1 rfl rfl ⟨km_H_37, kv_H_readNumber, kx_H_readNumber, kc_H_readNumber⟩ ki_H (by decide +kernel) ⟨by decide, by decide⟩ rfl rfl rfl hl.1 rfl (Nat.le_of_ble_eq_true rfl) d_H_readPart_77 ⟨Nat.le_refl _, Nat.le_refl _⟩ (fun u1 H locs hp hw => ?_)
  refine lv_iload hx hb d_H_readPart_80 (lv_at hl 1 rfl) ?_
  refine lv_iload hx hb d_H_readPart_82 (lv_at hl 0 rfl) ?_
  refine lv_iadd hx hb d_H_readPart_84 ?_
  refine tp_i (y := nI ((t + 2) + (cB τ (t + 1)))) (nI_add _ _) ?_
  exact z_iret (cZ K) hx hb hr hlocks u1 hw ⟨by rw [endN, if_pos okk], fun _ => hp, fun q => absurd okk q⟩ d_H_readPart_85
set_option maxHeartbeats 4000000 in
set_option maxRecDepth 100000 in
theorem c_H_readSignature (l : Launch) (K : cG) (τ : cT) (hok : cOk τ) {c0 : Nat} (hc : c0 ≤ 100) (hB : ∀ j, j < 100 → cB τ j < 256) : Met l y_H_readSignature (zW y_H_readSignature b_H_readSignature 5 (some .boolean)) (zr 4 97) (va_Pc [.ref (cO K 1), .ref (cR K 20), .ref (cR K 21), .int (nI (c0))] (cC K τ)) (va_Qi (fun r u => r = nI (boolN (okSig (cB τ) c0)) ∧ ∃ V, cU τ V u ∧ (okSig (cB τ) c0 → V 20 = bA (cB τ) 4 (cB τ 3) (cB τ 3) ∧ V 21 = bA (cB τ) (4 + cB τ 3 + 2) (cB τ (4 + cB τ 3 + 1)) (cB τ (4 + cB τ 3 + 1))) ∧ ∀ r, r ≠ 20 → r ≠ 21 → V r = cV τ r) (fun u => cC K u) (cAA K)) 0 0 (cAA K) := by
  refine Met.ofW (cc := b_H_readSignature) (maxL := 5) (ret := (some .boolean)) (by decide) rfl ?_
  intro p e s m args below meth c s₁ B hml hv
  obtain ⟨rfl, hw⟩ := hv
  have hx := B.exec
  have hb := B.bytes
  have hr := B.returns
  have hts := atoms_spec (ws := zW y_H_readSignature b_H_readSignature 5 (some .boolean)) B.pre
  have ht : ∀ w ∈ zT, w.before ([.ref (cO K 1), .ref (cR K 20), .ref (cR K 21), .int (nI (c0))] : List Value).toArray s = true := fun w h => hts w (List.mem_cons_of_mem _ h)
  have hown : s.vm.findClass R_H = some m.cls := findClass_of_methodNamed B.named
  have hlocks := B.notSynchronized
  have hl := lv_entry ([.ref (cO K 1), .ref (cR K 20), .ref (cR K 21), .int (nI (c0))]) (n := 5) (Nat.le_of_ble_eq_true rfl)
  rw [lg_entry_eq]
  generalize (lg_sl ([.ref (cO K 1), .ref (cR K 20), .ref (cR K 21), .int (nI (c0))]) ++ List.replicate (5 - (lg_sl ([.ref (cO K 1), .ref (cR K 20), .ref (cR K 21), .int (nI (c0))])).length) Slot.unset).toArray = ls at hl ⊢
  have hl : lv_has ls 5 [(0, .ref (cO K 1)), (1, .ref (cR K 20)), (2, .ref (cR K 21)), (3, .int (nI (c0)))] := hl
  have b28 : ∀ (V : Nat → Nat) (u : cT) (H : Heap) (locs : List Loc) (ls : Array Slot), cU τ V u → (∀ r, r ≠ 20 → r ≠ 21 → V r = cV τ r) → cH K u s H locs → lv_has ls 5 [(0, .ref (cO K 1)), (1, .ref (cR K 20)), (2, .ref (cR K 21)), (3, .int (nI (c0)))] → ¬ okSig (cB τ) c0 → W p l e (headSpec (zW y_H_readSignature b_H_readSignature 5 (some .boolean)) (zr 4 97)).room s m ([.ref (cO K 1), .ref (cR K 20), .ref (cR K 21), .int (nI (c0))] : List Value).toArray below meth c H locs 0 0 (MQ below (va_Qi (fun r u => r = nI (boolN (okSig (cB τ) c0)) ∧ ∃ V, cU τ V u ∧ (okSig (cB τ) c0 → V 20 = bA (cB τ) 4 (cB τ 3) (cB τ 3) ∧ V 21 = bA (cB τ) (4 + cB τ 3 + 2) (cB τ (4 + cB τ 3 + 1)) (cB τ (4 + cB τ 3 + 1))) ∧ ∀ r, r ≠ 20 → r ≠ 21 → V r = cV τ r) (fun u => cC K u) (cAA K)) ([.ref (cO K 1), .ref (cR K 20), .ref (cR K 21), .int (nI (c0))] : List Value).toArray s 0 0 (cAA K)) (F0 m 28 ls []) := by
    intro V u H locs ls hu hk hw hl hn
    refine lv_iconst (v := nI 0) hx hb d_H_readSignature_28 (by decide) ?_
    exact z_zret (cZ K) hx hb hr hlocks (nar_b (by decide)) u hw ⟨by rw [boolN_f hn], V, hu, fun q => absurd q hn, hk⟩ d_H_readSignature_29
  refine lv_iload_n hx hb d_H_readSignature_0 rfl (lv_at hl 3 rfl) ?_
  refine lv_iconst (v := nI 2) hx hb d_H_readSignature_1 (by decide) ?_
  refine n_lt (tgt := 28) hx hb d_H_readSignature_2 (by decide) (by omega) (by decide) (fun c3 => b28 (cV τ) τ _ _ ls (cU.refl hok) (fun _ _ _ => rfl) hw hl (fun q => absurd q.1 (by omega))) (fun c3 => ?_)
  have v0 := hB 0 (by decide)
  have v1 := hB 1 (by decide)
  have v3 := hB 3 (by decide)
  refine lv_aload_n hx hb d_H_readSignature_5 rfl (lv_at hl 0 rfl) ?_
  refine va_get (ci := 1) (C := R_H) (T := F_H) (N := 2) (v := .ref (cO K 2)) hx hb ht ku_H hown hw.2.1 hw.1 1 rfl rfl 0 (by decide) (ht _ kf_H_9) (fun _ h9 => h9) rfl d_H_readSignature_6 ?_
  refine lv_iconst (v := nI 0) hx hb d_H_readSignature_9 (by decide) ?_
  refine c_bld hx hb hw (by decide) d_H_readSignature_10 ?_
  refine tp_i (y := nI (cB τ 0)) rfl ?_
  refine lv_bipush (v := nI 48) hx hb d_H_readSignature_11 (by decide) ?_
  refine n_ne (tgt := 28) hx hb d_H_readSignature_13 (by decide) (by omega) (by decide) (fun c4 => b28 (cV τ) τ _ _ ls (cU.refl hok) (fun _ _ _ => rfl) hw hl (fun q => c4 q.2.1)) (fun c4 => ?_)
  refine lv_aload_n hx hb d_H_readSignature_16 rfl (lv_at hl 0 rfl) ?_
  refine va_get (ci := 1) (C := R_H) (T := F_H) (N := 2) (v := .ref (cO K 2)) hx hb ht ku_H hown hw.2.1 hw.1 1 rfl rfl 0 (by decide) (ht _ kf_H_9) (fun _ h9 => h9) rfl d_H_readSignature_17 ?_
  refine lv_iconst (v := nI 1) hx hb d_H_readSignature_20 (by decide) ?_
  refine c_bld hx hb hw (by decide) d_H_readSignature_21 ?_
  refine tp_i (y := nI (cB τ 1)) rfl ?_
  refine lv_iload_n hx hb d_H_readSignature_22 rfl (lv_at hl 3 rfl) ?_
  refine lv_iconst (v := nI 2) hx hb d_H_readSignature_23 (by decide) ?_
  refine lv_isub hx hb d_H_readSignature_24 ?_
  refine tp_i (y := nI (c0 - 2)) (pk_sub (by omega)) ?_
  refine n_eq (tgt := 30) hx hb d_H_readSignature_25 (by decide) (by omega) (by omega) (fun c5 => ?_) (fun c5 => b28 (cV τ) τ _ _ ls (cU.refl hok) (fun _ _ _ => rfl) hw hl (fun q => c5 q.2.2.1))
  refine lv_aload_n hx hb d_H_readSignature_30 rfl (lv_at hl 0 rfl) ?_
  refine lv_aload_n hx hb d_H_readSignature_31 rfl (lv_at hl 1 rfl) ?_
  refine lv_iconst (v := nI 2) hx hb d_H_readSignature_32 (by decide) ?_
  refine lv_iload_n hx hb d_H_readSignature_33 rfl (lv_at hl 3 rfl) ?_
  refine c_ci (np := 3) (As := [.ref (cR K 20), .int (nI (2)), .int (nI (c0))]) (rest := []) ⟨hx, hb, hml, hown, ht⟩ hw (c_H_readPart l K τ hok (o := 20) (t := 2) (c0 := c0) (by decide) hc (by decide) hB) 1 rfl rfl ⟨km_H_29, kv_H_readPart, kx_H_readPart, kc_H_readPart⟩ ki_H (by decide +kernel) ⟨by decide, by decide⟩ rfl rfl rfl hl.1 rfl (Nat.le_of_ble_eq_true rfl) d_H_readSignature_34 ⟨Nat.le_refl _, Nat.le_refl _⟩ (fun r1 u1 H locs hp hw => ?_)
  obtain ⟨hr1, p1, p2⟩ := hp
  obtain ⟨V1, hu1, k1⟩ : ∃ V, cU τ V u1 ∧ ∀ r, r ≠ 20 → V r = cV τ r := by
    by_cases q : okN (cB τ) 2 c0
    · obtain ⟨V1, h1, h2, h3⟩ := qc_set (cU.refl hok) (by decide) (bA_W8 _ _ _ _) (p1 q)
      exact ⟨V1, h1, h3⟩
    · rw [p2 q]; exact ⟨cV τ, cU.refl hok, fun _ _ => rfl⟩
  refine lv_istore (lv' := [(4, .int (r1)), (0, .ref (cO K 1)), (1, .ref (cR K 20)), (2, .ref (cR K 21)), (3, .int (nI (c0)))]) hx hb d_H_readSignature_37 hl (by decide) rfl (fun ls hl => ?_)
  refine lv_iload hx hb d_H_readSignature_39 (lv_at hl 0 rfl) ?_
  have b60 : ∀ (V : Nat → Nat) (u : cT) (H : Heap) (locs : List Loc) (ls : Array Slot), cU τ V u → (∀ r, r ≠ 20 → r ≠ 21 → V r = cV τ r) → cH K u s H locs → lv_has ls 5 [(4, .int (r1)), (0, .ref (cO K 1)), (1, .ref (cR K 20)), (2, .ref (cR K 21)), (3, .int (nI (c0)))] → ¬ okSig (cB τ) c0 → W p l e (headSpec (zW y_H_readSignature b_H_readSignature 5 (some .boolean)) (zr 4 97)).room s m ([.ref (cO K 1), .ref (cR K 20), .ref (cR K 21), .int (nI (c0))] : List Value).toArray below meth c H locs 0 0 (MQ below (va_Qi (fun r u => r = nI (boolN (okSig (cB τ) c0)) ∧ ∃ V, cU τ V u ∧ (okSig (cB τ) c0 → V 20 = bA (cB τ) 4 (cB τ 3) (cB τ 3) ∧ V 21 = bA (cB τ) (4 + cB τ 3 + 2) (cB τ (4 + cB τ 3 + 1)) (cB τ (4 + cB τ 3 + 1))) ∧ ∀ r, r ≠ 20 → r ≠ 21 → V r = cV τ r) (fun u => cC K u) (cAA K)) ([.ref (cO K 1), .ref (cR K 20), .ref (cR K 21), .int (nI (c0))] : List Value).toArray s 0 0 (cAA K)) (F0 m 60 ls []) := by
    intro V u H locs ls hu hk hw hl hn
    refine lv_iconst (v := nI 0) hx hb d_H_readSignature_60 (by decide) ?_
    exact z_zret (cZ K) hx hb hr hlocks (nar_b (by decide)) u hw ⟨by rw [boolN_f hn], V, hu, fun q => absurd q hn, hk⟩ d_H_readSignature_61
  refine lv_if_le (tgt := 60) hx hb d_H_readSignature_41 (by decide) (fun c6 => b60 V1 u1 _ _ ls hu1 (fun r h _ => k1 r h) hw hl (fun q => ?_)) (fun c6 => ?_)
  · rw [hr1, endN, if_pos q.2.2.2.1] at c6
    exact absurd c6 (Int32.not_le.mpr (nI_lt (a := 0) (by omega) (by have := q.2.2.2.1.2.2.2.1; omega)))
  · have okA : okN (cB τ) 2 c0 := by
      by_cases q : okN (cB τ) 2 c0
      · exact q
      · rw [hr1, endN, if_neg q] at c6; exact absurd (by decide) c6
    have hu1e := p1 okA
    clear p1 p2 b28
    have hmid : r1 = nI (4 + cB τ 3) := by rw [hr1, endN, if_pos okA]
    have w3 : 1 ≤ cB τ 3 ∧ cB τ 3 ≤ 33 ∧ 4 + cB τ 3 ≤ c0 := ⟨okA.2.2.1, okA.2.2.2.1, okA.2.2.2.2.1⟩
    have hl2 := hl
    rw [hmid] at hl2
    have hlo := hl
    have hl : lv_has ls 5 [(4, .int (nI (4 + cB τ 3))), (0, .ref (cO K 1)), (1, .ref (cR K 20)), (2, .ref (cR K 21)), (3, .int (nI (c0)))] := hl2
    clear hl2
    have eB : cB u1 = cB τ := hu1.2.2.2.1
    refine lv_aload_n hx hb d_H_readSignature_44 rfl (lv_at hl 1 rfl) ?_
    refine lv_aload_n hx hb d_H_readSignature_45 rfl (lv_at hl 3 rfl) ?_
    refine lv_iload hx hb d_H_readSignature_46 (lv_at hl 0 rfl) ?_
    refine lv_iload_n hx hb d_H_readSignature_48 rfl (lv_at hl 4 rfl) ?_
    refine c_ci (np := 3) (As := [.ref (cR K 21), .int (nI (4 + cB τ 3)), .int (nI (c0))]) (rest := []) ⟨hx, hb, hml, hown, ht⟩ hw (c_H_readPart l K u1 hu1.2.1 (o := 21) (t := 4 + cB τ 3) (c0 := c0) (by decide) hc (by omega) (by rw [eB]; exact hB)) 1 rfl rfl ⟨km_H_29, kv_H_readPart, kx_H_readPart, kc_H_readPart⟩ ki_H (by decide +kernel) ⟨by decide, by decide⟩ rfl rfl rfl hl.1 rfl (Nat.le_of_ble_eq_true rfl) d_H_readSignature_49 ⟨Nat.le_refl _, Nat.le_refl _⟩ (fun r2 u2 H locs hp hw => ?_)
    rw [eB] at hp
    obtain ⟨hr2, p3, p4⟩ := hp
    have v20 : V1 20 = bA (cB τ) 4 (cB τ 3) (cB τ 3) := by rw [← hu1.v (by decide), hu1e]; exact cV_self _ (by decide)
    obtain ⟨V2, hu2, f2, k2⟩ : ∃ V, cU τ V u2 ∧ (okN (cB τ) (4 + cB τ 3) c0 → V 21 = bA (cB τ) (4 + cB τ 3 + 2) (cB τ (4 + cB τ 3 + 1)) (cB τ (4 + cB τ 3 + 1))) ∧ ∀ r, r ≠ 21 → V r = V1 r := by
      by_cases q : okN (cB τ) (4 + cB τ 3) c0
      · obtain ⟨V2, h1, h2, h3⟩ := qc_set hu1 (by decide) (bA_W8 _ _ _ _) (p3 q)
        exact ⟨V2, h1, fun _ => h2, h3⟩
      · rw [p4 q]; exact ⟨V1, hu1, fun h => absurd h q, fun _ _ => rfl⟩
    have k3 : ∀ r, r ≠ 20 → r ≠ 21 → V2 r = cV τ r := fun r h1 h2 => (k2 r h2).trans (k1 r h1)
    refine lv_iload_n hx hb d_H_readSignature_52 rfl (lv_at hl 4 rfl) ?_
    refine lv_icmp_ne (tgt := 60) hx hb d_H_readSignature_53 (by decide) (fun c7 => ?_) (fun c7 => ?_)
    · refine b60 V2 u2 _ _ ls hu2 k3 hw hlo (fun q => c7 ?_)
      rw [hr2, endN, if_pos q.2.2.2.2.1, q.2.2.2.2.2]
    · have okB : okN (cB τ) (4 + cB τ 3) c0 := by
        by_cases q : okN (cB τ) (4 + cB τ 3) c0
        · exact q
        · rw [hr2, endN, if_neg q] at c7; exact absurd c7.symm (fun q9 => absurd (show nI c0 < 0 by rw [q9]; decide) (nI_pos (by omega)))
      have w4 : 1 ≤ cB τ (4 + cB τ 3 + 1) ∧ cB τ (4 + cB τ 3 + 1) ≤ 33 := ⟨okB.2.2.1, okB.2.2.2.1⟩
      have hend : 4 + cB τ 3 + 2 + cB τ (4 + cB τ 3 + 1) = c0 := by
        rw [hr2, endN, if_pos okB] at c7
        exact (nI_eq (by omega) (by omega)).mp c7
      have hsig : okSig (cB τ) c0 := ⟨c3, c4, c5, okA, okB, hend⟩
      refine lv_iconst (v := nI 1) hx hb d_H_readSignature_56 (by decide) ?_
      refine lv_goto (tgt := 61) hx hb d_H_readSignature_57 (by decide) ?_
      exact z_zret (cZ K) hx hb hr hlocks (nar_b (by decide)) u2 hw ⟨by rw [boolN_t hsig], V2, hu2, fun _ => ⟨(k2 20 (by decide)).trans v20, f2 okB⟩, k3⟩ d_H_readSignature_61
