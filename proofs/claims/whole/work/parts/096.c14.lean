/-! the class's hand: append, takeAll, firstByte -/
theorem and255 (x : Nat) : nI x &&& nI 255 = nI (x % 256) := by
  apply Int32.toBitVec_inj.mp
  show BitVec.ofNat 32 x &&& BitVec.ofNat 32 255 = BitVec.ofNat 32 (x % 256)
  apply BitVec.eq_of_toNat_eq
  rw [BitVec.toNat_and, BitVec.toNat_ofNat, BitVec.toNat_ofNat, BitVec.toNat_ofNat, show 255 % 2 ^ 32 = 2 ^ 8 - 1 by decide, Nat.and_two_pow_sub_one_eq_mod]
  omega
abbrev cs2 (τ : cT) (B : Nat → Nat) (M : Nat) : cT := (τ.1, τ.2.1, B, M)
set_option maxHeartbeats 4000000 in
set_option maxRecDepth 100000 in
theorem c_H_append (l : Launch) (K : cG) (τ : cT) (hm : cM τ ≤ 100) {v : Nat} (hv : v < 2 ^ 64) (x : Int32) : Met l y_H_append (zW y_H_append b_H_append 5 (some .boolean)) (zr 0 0) (va_Pc [.ref (cO K 1), .long (lN (v)), .int (x)] (cC K τ)) (va_Qi (fun r u => (¬ (¬ x < nI 1 ∧ ¬ nI 8 < x) → r = nI 0 ∧ u = τ) ∧ ∀ j, j < 9 → 0 < j → x = nI j → (¬ cM τ + j ≤ 100 → r = nI 0 ∧ u = τ) ∧ (cM τ + j ≤ 100 → r = nI 1 ∧ u = cs2 τ (pb v j (cM τ) (cB τ)) (cM τ + j))) (fun u => cC K u) (cAA K)) 0 0 (cAA K) := by
  refine Met.ofW (cc := b_H_append) (maxL := 5) (ret := (some .boolean)) (by decide) rfl ?_
  intro p e s m args below meth c s₁ B hml hv
  obtain ⟨rfl, hw⟩ := hv
  have hx := B.exec
  have hb := B.bytes
  have hr := B.returns
  have hts := atoms_spec (ws := zW y_H_append b_H_append 5 (some .boolean)) B.pre
  have ht : ∀ w ∈ zT, w.before ([.ref (cO K 1), .long (lN (v)), .int (x)] : List Value).toArray s = true := fun w h => hts w (List.mem_cons_of_mem _ h)
  have hown : s.vm.findClass R_H = some m.cls := findClass_of_methodNamed B.named
  have hlocks := B.notSynchronized
  have hl := lv_entry ([.ref (cO K 1), .long (lN (v)), .int (x)]) (n := 5) (Nat.le_of_ble_eq_true rfl)
  rw [lg_entry_eq]
  generalize (lg_sl ([.ref (cO K 1), .long (lN (v)), .int (x)]) ++ List.replicate (5 - (lg_sl ([.ref (cO K 1), .long (lN (v)), .int (x)])).length) Slot.unset).toArray = ls at hl ⊢
  have hl : lv_has ls 5 [(0, .ref (cO K 1)), (1, .long (lN (v))), (3, .int (x))] := hl
  have hno : ∀ (H : Heap) (locs : List Loc) (ls : Array Slot), cH K τ s H locs → lv_has ls 5 [(0, .ref (cO K 1)), (1, .long (lN (v))), (3, .int (x))] → ((¬ x < nI 1 ∧ ¬ nI 8 < x) → ∀ j, j < 9 → x = nI j → ¬ cM τ + j ≤ 100) → W p l e (headSpec (zW y_H_append b_H_append 5 (some .boolean)) (zr 0 0)).room s m ([.ref (cO K 1), .long (lN (v)), .int (x)] : List Value).toArray below meth c H locs 0 0 (MQ below (va_Qi (fun r u => (¬ (¬ x < nI 1 ∧ ¬ nI 8 < x) → r = nI 0 ∧ u = τ) ∧ ∀ j, j < 9 → 0 < j → x = nI j → (¬ cM τ + j ≤ 100 → r = nI 0 ∧ u = τ) ∧ (cM τ + j ≤ 100 → r = nI 1 ∧ u = cs2 τ (pb v j (cM τ) (cB τ)) (cM τ + j))) (fun u => cC K u) (cAA K)) ([.ref (cO K 1), .long (lN (v)), .int (x)] : List Value).toArray s 0 0 (cAA K)) (F0 m 22 ls []) := by
    intro H locs ls hw hl hn
    refine lv_iconst (v := nI 0) hx hb d_H_append_22 (by decide) ?_
    refine z_zret (cZ K) hx hb hr hlocks (nar_b (by decide)) τ hw ⟨fun _ => ⟨rfl, rfl⟩, fun j w1 w2 e1 => ⟨fun _ => ⟨rfl, rfl⟩, fun q => absurd q (hn ⟨?_, ?_⟩ j w1 e1)⟩⟩ d_H_append_23
    · rw [e1]; exact nI_nlt w2 (by omega)
    · rw [e1]; exact nI_nlt (by omega) (by decide)
  refine lv_iload_n hx hb d_H_append_0 rfl (lv_at hl 2 rfl) ?_
  refine lv_iconst (v := nI 1) hx hb d_H_append_1 (by decide) ?_
  refine lv_icmp_lt (tgt := 22) hx hb d_H_append_2 (by decide) (fun c0 => hno _ _ ls hw hl (fun q => absurd c0 q.1)) (fun c0 => ?_)
  refine lv_iload_n hx hb d_H_append_5 rfl (lv_at hl 2 rfl) ?_
  refine lv_bipush (v := nI 8) hx hb d_H_append_6 (by decide) ?_
  refine lv_icmp_gt (tgt := 22) hx hb d_H_append_8 (by decide) (fun c1 => hno _ _ ls hw hl (fun q => absurd c1 q.2)) (fun c1 => ?_)
  obtain ⟨j, lt_j, ex⟩ : ∃ j : Nat, j < 9 ∧ x = nI j := by
    rcases pk_ix x (n := 9) (by decide) with h | h | h
    · exact absurd (Int32.lt_trans h (by decide)) c0
    · exact absurd ((gt_le (k := 8) (by decide)).mpr h) c1
    · exact h
  have j0 : 0 < j := by
    rcases Nat.eq_zero_or_pos j with h | h
    · rw [ex, h] at c0; exact absurd (by decide) c0
    · exact h
  have hlx := hl
  have hl2 := hl
  rw [ex] at hl2
  have hl : lv_has ls 5 [(0, .ref (cO K 1)), (1, .long (lN (v))), (3, .int (nI (j)))] := hl2
  refine lv_aload_n hx hb d_H_append_11 rfl (lv_at hl 0 rfl) ?_
  refine va_get (ci := 1) (C := R_H) (T := F_H) (N := 2) (v := .int (nI (cM τ))) hx hb ht ku_H hown hw.2.1 hw.1 1 rfl rfl 1 (by decide) (ht _ kf_H_15) (fun _ h9 => h9) rfl d_H_append_12 ?_
  refine lv_iload_n hx hb d_H_append_15 rfl (lv_at hl 2 rfl) ?_
  refine lv_iadd hx hb d_H_append_16 ?_
  refine tp_i (y := nI ((cM τ) + j)) (nI_add _ _) ?_
  refine lv_bipush (v := nI 100) hx hb d_H_append_17 (by decide) ?_
  refine n_le (tgt := 24) hx hb d_H_append_19 (by decide) (by omega) (by decide) (fun c2 => ?_) (fun c2 => hno _ _ ls hw hlx (fun _ j2 w1 e1 => by have q9 : j2 = j := (nI_eq (by omega) (by omega)).mp (e1.symm.trans ex); omega))
  clear hno hlx
  refine lv_iload_n hx hb d_H_append_24 rfl (lv_at hl 2 rfl) ?_
  refine lv_iconst (v := nI 1) hx hb d_H_append_25 (by decide) ?_
  refine lv_isub hx hb d_H_append_26 ?_
  refine tp_i (y := (iv j)) (by obtain ⟨t, rfl⟩ : ∃ t, j = t + 1 := ⟨j - 1, by omega⟩; exact nI_pred t) ?_
  refine lv_istore (lv' := [(4, .int (iv j)), (0, .ref (cO K 1)), (1, .long (lN (v))), (3, .int (nI (j)))]) hx hb d_H_append_27 hl (by decide) rfl (fun ls hl => ?_)
  have loop : ∀ (n : Nat), n ≤ j → ∀ (B : Nat → Nat) (mm0 : Nat) (H : Heap) (locs : List Loc) (ls : Array Slot), mm0 + n = cM τ + j → pb v n mm0 B = pb v j (cM τ) (cB τ) → cH K (cs2 τ B mm0) s H locs → lv_has ls 5 [(0, .ref (cO K 1)), (1, .long (lN (v))), (3, .int (nI (j))), (4, .int (iv n))] → W p l e (headSpec (zW y_H_append b_H_append 5 (some .boolean)) (zr 0 0)).room s m ([.ref (cO K 1), .long (lN (v)), .int (x)] : List Value).toArray below meth c H locs 0 0 (MQ below (va_Qi (fun r u => (¬ (¬ x < nI 1 ∧ ¬ nI 8 < x) → r = nI 0 ∧ u = τ) ∧ ∀ j, j < 9 → 0 < j → x = nI j → (¬ cM τ + j ≤ 100 → r = nI 0 ∧ u = τ) ∧ (cM τ + j ≤ 100 → r = nI 1 ∧ u = cs2 τ (pb v j (cM τ) (cB τ)) (cM τ + j))) (fun u => cC K u) (cAA K)) ([.ref (cO K 1), .long (lN (v)), .int (x)] : List Value).toArray s 0 0 (cAA K)) (F0 m 29 ls []) := by
    intro n
    induction n with
    | zero =>
      intro hn B mm0 H locs ls hm0 hB hw hl
      refine lv_iload hx hb d_H_append_29 (lv_at hl 3 rfl) ?_
      refine lv_if_lt (tgt := 71) hx hb d_H_append_31 (by decide) (fun _ => ?_) (fun h => absurd (show iv 0 < 0 by decide) h)
      refine lv_iconst (v := nI 1) hx hb d_H_append_71 (by decide) ?_
      refine z_zret (cZ K) hx hb hr hlocks (nar_b (by decide)) _ hw ⟨fun h => absurd ⟨c0, c1⟩ h, fun j_ w1 w2 e1 => ?_⟩ d_H_append_72
      have q_j_ : j_ = j := (nI_eq (by omega) (by omega)).mp (e1.symm.trans ex)
      subst q_j_
      refine ⟨fun h => absurd c2 h, fun _ => ⟨rfl, ?_⟩⟩
      have hB2 : B = pb v j_ (cM τ) (cB τ) := hB
      rw [← hB2, show mm0 = cM τ + j_ by omega]
    | succ n ih =>
      intro hn B mm0 H locs ls hm0 hB hw hl
      have hl : lv_has ls 5 [(0, .ref (cO K 1)), (1, .long (lN (v))), (3, .int (nI (j))), (4, .int (nI (n)))] := hl
      refine lv_iload hx hb d_H_append_29 (lv_at hl 3 rfl) ?_
      refine lv_if_lt (tgt := 71) hx hb d_H_append_31 (by decide) (fun h => absurd h (nI_pos (by omega))) (fun _ => ?_)
      refine lv_aload_n hx hb d_H_append_34 rfl (lv_at hl 0 rfl) ?_
      refine va_get (ci := 1) (C := R_H) (T := F_H) (N := 2) (v := .ref (cO K 2)) hx hb ht ku_H hown hw.2.1 hw.1 1 rfl rfl 0 (by decide) (ht _ kf_H_9) (fun _ h9 => h9) rfl d_H_append_35 ?_
      refine lv_aload_n hx hb d_H_append_38 rfl (lv_at hl 0 rfl) ?_
      refine va_get (ci := 1) (C := R_H) (T := F_H) (N := 2) (v := .int (nI (cM (cs2 τ B mm0)))) hx hb ht ku_H hown hw.2.1 hw.1 1 rfl rfl 1 (by decide) (ht _ kf_H_15) (fun _ h9 => h9) rfl d_H_append_39 ?_
      refine lv_lload_n hx hb d_H_append_42 rfl (lv_at hl 1 rfl) ?_
      refine lv_bipush (v := nI 8) hx hb d_H_append_43 (by decide) ?_
      refine lv_iload hx hb d_H_append_45 (lv_at hl 3 rfl) ?_
      refine lv_imul hx hb d_H_append_47 ?_
      refine tp_i (y := nI (8 * n)) (pk_mul _ _) ?_
      refine lv_lushr (v := lN (v / 2 ^ (8 * n))) hx hb d_H_append_48 (wb_shr hv (by omega)) ?_
      refine lv_l2i (v := nI (v / 2 ^ (8 * n))) hx hb d_H_append_49 (lN_i _) ?_
      refine lv_sipush (v := nI 255) hx hb d_H_append_50 (by decide) ?_
      refine lv_iand hx hb d_H_append_53 ?_
      refine tp_i (y := nI (v / 2 ^ (8 * n) % 256)) (and255 _) ?_
      refine c_bst hx hb hw (show mm0 < 100 by omega) d_H_append_54 (fun H locs hw => ?_)
      refine lv_aload_n hx hb d_H_append_55 rfl (lv_at hl 0 rfl) ?_
      refine lv_dup hx hb d_H_append_56 rfl ?_
      refine va_get (ci := 1) (C := R_H) (T := F_H) (N := 2) (v := .int (nI (cM (cs2 τ (va_up B mm0 (v / 2 ^ (8 * n) % 256)) mm0)))) hx hb ht ku_H hown hw.2.1 hw.1 1 rfl rfl 1 (by decide) (ht _ kf_H_15) (fun _ h9 => h9) rfl d_H_append_57 ?_
      refine lv_iconst (v := nI 1) hx hb d_H_append_60 (by decide) ?_
      refine lv_iadd hx hb d_H_append_61 ?_
      refine tp_i (y := nI ((cM (cs2 τ (va_up B mm0 (v / 2 ^ (8 * n) % 256)) mm0)) + 1)) (nI_add _ _) ?_
      refine c_putM (x := mm0 + 1) hx hb ht hown hw (ht _ kf_H_15) d_H_append_62 (fun H locs hw => ?_)
      refine lv_iinc (v := iv n) (lv' := [(4, .int (iv n)), (0, .ref (cO K 1)), (1, .long (lN (v))), (3, .int (nI (j)))]) hx hb d_H_append_65 hl (k := 3) rfl (iv_dec n) (by decide) rfl (fun ls hl => ?_)
      refine lv_goto (tgt := 29) hx hb d_H_append_68 (by decide) ?_
      exact ih (by omega) (va_up B mm0 (v / 2 ^ (8 * n) % 256)) (mm0 + 1) H locs ls (by omega) hB hw (lv_sub hl [1, 2, 3, 0] rfl)
  exact loop j (Nat.le_refl _) (cB τ) (cM τ) _ _ ls rfl rfl hw (lv_sub hl [1, 2, 3, 0] rfl)
set_option maxHeartbeats 4000000 in
set_option maxRecDepth 100000 in
theorem c_H_takeAll (l : Launch) (K : cG) (τ : cT)  : Met l y_H_takeAll (zW y_H_takeAll b_H_takeAll 2 (some .int)) (zr 0 0) (va_Pc [.ref (cO K 1)] (cC K τ)) (va_Qi (fun r u => r = nI (cM τ) ∧ u = csM τ 0) (fun u => cC K u) (cAA K)) 0 0 (cAA K) := by
  refine Met.ofW (cc := b_H_takeAll) (maxL := 2) (ret := (some .int)) (by decide) rfl ?_
  intro p e s m args below meth c s₁ B hml hv
  obtain ⟨rfl, hw⟩ := hv
  have hx := B.exec
  have hb := B.bytes
  have hr := B.returns
  have hts := atoms_spec (ws := zW y_H_takeAll b_H_takeAll 2 (some .int)) B.pre
  have ht : ∀ w ∈ zT, w.before ([.ref (cO K 1)] : List Value).toArray s = true := fun w h => hts w (List.mem_cons_of_mem _ h)
  have hown : s.vm.findClass R_H = some m.cls := findClass_of_methodNamed B.named
  have hlocks := B.notSynchronized
  have hl := lv_entry ([.ref (cO K 1)]) (n := 2) (Nat.le_of_ble_eq_true rfl)
  rw [lg_entry_eq]
  generalize (lg_sl ([.ref (cO K 1)]) ++ List.replicate (2 - (lg_sl ([.ref (cO K 1)])).length) Slot.unset).toArray = ls at hl ⊢
  have hl : lv_has ls 2 [(0, .ref (cO K 1))] := hl
  refine lv_aload_n hx hb d_H_takeAll_0 rfl (lv_at hl 0 rfl) ?_
  refine va_get (ci := 1) (C := R_H) (T := F_H) (N := 2) (v := .int (nI (cM τ))) hx hb ht ku_H hown hw.2.1 hw.1 1 rfl rfl 1 (by decide) (ht _ kf_H_15) (fun _ h9 => h9) rfl d_H_takeAll_1 ?_
  refine lv_istore_n (lv' := [(1, .int (nI (cM τ))), (0, .ref (cO K 1))]) hx hb d_H_takeAll_4 rfl hl (by decide) rfl (fun ls hl => ?_)
  refine lv_aload_n hx hb d_H_takeAll_5 rfl (lv_at hl 1 rfl) ?_
  refine lv_iconst (v := nI 0) hx hb d_H_takeAll_6 (by decide) ?_
  refine c_putM (x := 0) hx hb ht hown hw (ht _ kf_H_15) d_H_takeAll_7 (fun H locs hw => ?_)
  refine lv_iload_n hx hb d_H_takeAll_10 rfl (lv_at hl 0 rfl) ?_
  exact z_iret (cZ K) hx hb hr hlocks _ hw ⟨rfl, rfl⟩ d_H_takeAll_11
set_option maxHeartbeats 4000000 in
set_option maxRecDepth 100000 in
theorem c_H_firstByte (l : Launch) (K : cG) (τ : cT)  : Met l y_H_firstByte (zW y_H_firstByte b_H_firstByte 1 (some .int)) (zr 0 0) (va_Pc [.ref (cO K 1)] (cC K τ)) (va_Qi (fun r u => u = τ ∧ r = nI (cB τ 0)) (fun u => cC K u) (cAA K)) 0 0 (cAA K) := by
  refine Met.ofW (cc := b_H_firstByte) (maxL := 1) (ret := (some .int)) (by decide) rfl ?_
  intro p e s m args below meth c s₁ B hml hv
  obtain ⟨rfl, hw⟩ := hv
  have hx := B.exec
  have hb := B.bytes
  have hr := B.returns
  have hts := atoms_spec (ws := zW y_H_firstByte b_H_firstByte 1 (some .int)) B.pre
  have ht : ∀ w ∈ zT, w.before ([.ref (cO K 1)] : List Value).toArray s = true := fun w h => hts w (List.mem_cons_of_mem _ h)
  have hown : s.vm.findClass R_H = some m.cls := findClass_of_methodNamed B.named
  have hlocks := B.notSynchronized
  have hl := lv_entry ([.ref (cO K 1)]) (n := 1) (Nat.le_of_ble_eq_true rfl)
  rw [lg_entry_eq]
  generalize (lg_sl ([.ref (cO K 1)]) ++ List.replicate (1 - (lg_sl ([.ref (cO K 1)])).length) Slot.unset).toArray = ls at hl ⊢
  have hl : lv_has ls 1 [(0, .ref (cO K 1))] := hl
  refine lv_aload_n hx hb d_H_firstByte_0 rfl (lv_at hl 0 rfl) ?_
  refine va_get (ci := 1) (C := R_H) (T := F_H) (N := 2) (v := .ref (cO K 2)) hx hb ht ku_H hown hw.2.1 hw.1 1 rfl rfl 0 (by decide) (ht _ kf_H_9) (fun _ h9 => h9) rfl d_H_firstByte_1 ?_
  refine lv_iconst (v := nI 0) hx hb d_H_firstByte_4 (by decide) ?_
  refine c_bld hx hb hw (show 0 < 100 by decide) d_H_firstByte_5 ?_
  exact z_iret (cZ K) hx hb hr hlocks τ hw ⟨rfl, rfl⟩ d_H_firstByte_6
