/-! the references carry and isWide -/
set_option maxHeartbeats 4000000 in
set_option maxRecDepth 100000 in
theorem c_R_carry (l : Launch) (G : rG) (σ : rS) (hP : ∀ j, j < 22 → rP σ j < 2 ^ 60) (hv : pw (rP σ) < B22) : Met l y_R_carry (zW y_R_carry b_R_carry 6 none) (zr 0 0) (va_Pc [.ref (rA G 0)] (rC G σ)) (va_Qv (fun u => ∃ P, u = rsP σ P ∧ (∀ j, j < 22 → P j < b26) ∧ pw P = pw (rP σ)) (fun u => rC G u) (rAA G)) 0 0 (rAA G) := by
  refine Met.ofW (cc := b_R_carry) (maxL := 6) (ret := none) (by decide) rfl ?_
  intro p e s m args below meth c s₁ B hml hv
  obtain ⟨rfl, hw⟩ := hv
  have hx := B.exec
  have hb := B.bytes
  have hr := B.returns
  have hts := atoms_spec (ws := zW y_R_carry b_R_carry 6 none) B.pre
  have ht : ∀ w ∈ zT, w.before ([.ref (rA G 0)] : List Value).toArray s = true := fun w h => hts w (List.mem_cons_of_mem _ h)
  have hown : s.vm.findClass R_R = some m.cls := findClass_of_methodNamed B.named
  have hlocks := B.notSynchronized
  have hl := lv_entry ([.ref (rA G 0)]) (n := 6) (Nat.le_of_ble_eq_true rfl)
  rw [lg_entry_eq]
  generalize (lg_sl ([.ref (rA G 0)]) ++ List.replicate (6 - (lg_sl ([.ref (rA G 0)])).length) Slot.unset).toArray = ls at hl ⊢
  have hl : lv_has ls 6 [(0, .ref (rA G 0))] := hl
  refine lv_lconst (v := lN 0) hx hb d_R_carry_0 (by decide) ?_
  refine lv_lstore_n (lv' := [(1, .long (lN (0))), (0, .ref (rA G 0))]) hx hb d_R_carry_1 rfl hl (by decide) rfl (fun ls hl => ?_)
  refine lv_iconst (v := nI 0) hx hb d_R_carry_2 (by decide) ?_
  refine lv_istore_n (lv' := [(3, .int (nI (0))), (1, .long (lN (0))), (0, .ref (rA G 0))]) hx hb d_R_carry_3 rfl hl (by decide) rfl (fun ls hl => ?_)
  have loop : ∀ (n k : Nat), k + n = 22 → ∀ (P : Nat → Nat) (cy : Nat) (H : Heap) (locs : List Loc) (ls : Array Slot), cy < 2 ^ 36 → (∀ j, j < k → P j < b26) → (∀ j, k ≤ j → P j = rP σ j) → pv P k + cy * b26 ^ k = pv (rP σ) k → rH G (rsP σ P) s H locs → lv_has ls 6 [(0, .ref (rA G 0)), (1, .long (lN (cy))), (3, .int (nI (k)))] → W p l e (headSpec (zW y_R_carry b_R_carry 6 none) (zr 0 0)).room s m ([.ref (rA G 0)] : List Value).toArray below meth c H locs 0 0 (MQ below (va_Qv (fun u => ∃ P, u = rsP σ P ∧ (∀ j, j < 22 → P j < b26) ∧ pw P = pw (rP σ)) (fun u => rC G u) (rAA G)) ([.ref (rA G 0)] : List Value).toArray s 0 0 (rAA G)) (F0 m 4 ls []) := by
    intro n
    induction n with
    | zero =>
      intro k hk P cy H locs ls hcy hlo hup hsum hw hl
      have hk : k = 22 := by omega
      subst hk
      refine lv_iload_n hx hb d_R_carry_4 rfl (lv_at hl 2 rfl) ?_
      refine lv_bipush (v := nI 22) hx hb d_R_carry_5 (by decide) ?_
      refine n_ge (tgt := 44) hx hb d_R_carry_7 (by decide) (by decide) (by decide) (fun _ => ?_) (fun h => absurd h (by omega))
      exact z_vret (rZ _) hx hb hr hlocks _ hw ⟨P, rfl, hlo, carry_end hsum hv⟩ d_R_carry_44
    | succ n ih =>
      intro k hk P cy H locs ls hcy hlo hup hsum hw hl
      refine lv_iload_n hx hb d_R_carry_4 rfl (lv_at hl 2 rfl) ?_
      refine lv_bipush (v := nI 22) hx hb d_R_carry_5 (by decide) ?_
      refine n_ge (tgt := 44) hx hb d_R_carry_7 (by decide) (by omega) (by decide) (fun h => absurd h (by omega)) (fun _ => ?_)
      clear hv
      have hPk := hP k (by omega)
      refine lv_aload_n hx hb d_R_carry_10 rfl (lv_at hl 0 rfl) ?_
      refine r_get hx hb ht hown hw 1 (by decide) (ht _ kf_R_13) rfl d_R_carry_11 (fun _ h9 => h9) ?_
      refine lv_iload_n hx hb d_R_carry_14 rfl (lv_at hl 2 rfl) ?_
      refine r_lldP hx hb hw (by omega) d_R_carry_15 ?_
      refine tp_l (congrArg lN (hup k (Nat.le_refl k))) ?_
      refine lv_lload_n hx hb d_R_carry_16 rfl (lv_at hl 1 rfl) ?_
      refine lv_ladd hx hb d_R_carry_17 ?_
      refine tp_l (y := lN ((rP σ k) + cy)) (lN_add _ _) ?_
      refine lv_lstore (lv' := [(4, .long (lN ((rP σ k) + cy))), (0, .ref (rA G 0)), (1, .long (lN (cy))), (3, .int (nI (k)))]) hx hb d_R_carry_18 hl (by decide) rfl (fun ls hl => ?_)
      refine lv_aload_n hx hb d_R_carry_20 rfl (lv_at hl 1 rfl) ?_
      refine r_get hx hb ht hown hw 1 (by decide) (ht _ kf_R_13) rfl d_R_carry_21 (fun _ h9 => h9) ?_
      refine lv_iload_n hx hb d_R_carry_24 rfl (lv_at hl 3 rfl) ?_
      refine lv_lload hx hb d_R_carry_25 (lv_at hl 0 rfl) ?_
      refine lv_ldc2 hx hb hown (ht _ kl_R_82) d_R_carry_27 ?_
      refine lv_land hx hb d_R_carry_30 ?_
      refine tp_l (y := lN ((rP σ k + cy) % b26)) (land26 (by omega)) ?_
      refine r_lstP hx hb hw (by omega) d_R_carry_31 (fun H locs hw => ?_)
      refine lv_lload hx hb d_R_carry_32 (lv_at hl 0 rfl) ?_
      refine lv_bipush (v := nI 26) hx hb d_R_carry_34 (by decide) ?_
      refine lv_lshr (v := lN ((rP σ k + cy) / b26)) hx hb d_R_carry_36 (lshr26 (by omega)) ?_
      refine lv_lstore_n (lv' := [(1, .long (lN ((rP σ k + cy) / b26))), (4, .long (lN ((rP σ k) + cy))), (0, .ref (rA G 0)), (3, .int (nI (k)))]) hx hb d_R_carry_37 rfl hl (by decide) rfl (fun ls hl => ?_)
      refine lv_iinc (v := nI (k + 1)) (lv' := [(3, .int (nI (k + 1))), (1, .long (lN ((rP σ k + cy) / b26))), (4, .long (lN ((rP σ k) + cy))), (0, .ref (rA G 0))]) hx hb d_R_carry_38 hl (k := 3) rfl (nI_add k 1) (by decide) rfl (fun ls hl => ?_)
      refine lv_goto (tgt := 4) hx hb d_R_carry_41 (by decide) ?_
      refine ih (k + 1) (by omega) (va_up P k ((rP σ k + cy) % b26)) ((rP σ k + cy) / b26) H locs ls (by show _ / 67108864 < _; omega) (fun j hj => ?_) (fun j hj => ?_) ?_ hw (lv_sub hl [3, 1, 0] rfl)
      · by_cases e : j = k
        · rw [e, up_self]; exact Nat.mod_lt _ b26_pos
        · rw [up_ne _ _ e]; exact hlo j (by omega)
      · rw [up_ne _ _ (by omega)]; exact hup j (by omega)
      · show pv (va_up P k ((rP σ k + cy) % b26)) k + va_up P k ((rP σ k + cy) % b26) k * b26 ^ k + (rP σ k + cy) / b26 * b26 ^ (k + 1) = pv (rP σ) k + rP σ k * b26 ^ k
        rw [pv_up_ge P _ (Nat.le_refl k), up_self, Nat.pow_succ]
        have e := add_step (b := b26) (da := rP σ k) (db := 0) (A := pv (rP σ) k) (B := 0) (cy := cy) (p := b26 ^ k) (w := pv P k) (by omega)
        rw [Nat.add_zero] at e
        omega
  exact loop 22 0 rfl (rP σ) 0 _ _ ls (by decide) (fun j hj => absurd hj (by omega)) (fun _ _ => rfl) rfl hw (lv_sub hl [2, 1, 0] rfl)
set_option maxHeartbeats 4000000 in
set_option maxRecDepth 100000 in
theorem c_R_isWide (l : Launch) (G : rG) (σ : rS) (hP : ∀ j, j < 22 → rP σ j < b26) : Met l y_R_isWide (zW y_R_isWide b_R_isWide 3 (some .boolean)) (zr 0 0) (va_Pc [.ref (rA G 0)] (rC G σ)) (va_Qi (fun r u => u = σ ∧ r = nI (boolN (W256 ≤ pw (rP σ)))) (fun u => rC G u) (rAA G)) 0 0 (rAA G) := by
  refine Met.ofW (cc := b_R_isWide) (maxL := 3) (ret := (some .boolean)) (by decide) rfl ?_
  intro p e s m args below meth c s₁ B hml hv
  obtain ⟨rfl, hw⟩ := hv
  have hx := B.exec
  have hb := B.bytes
  have hr := B.returns
  have hts := atoms_spec (ws := zW y_R_isWide b_R_isWide 3 (some .boolean)) B.pre
  have ht : ∀ w ∈ zT, w.before ([.ref (rA G 0)] : List Value).toArray s = true := fun w h => hts w (List.mem_cons_of_mem _ h)
  have hown : s.vm.findClass R_R = some m.cls := findClass_of_methodNamed B.named
  have hlocks := B.notSynchronized
  have hl := lv_entry ([.ref (rA G 0)]) (n := 3) (Nat.le_of_ble_eq_true rfl)
  rw [lg_entry_eq]
  generalize (lg_sl ([.ref (rA G 0)]) ++ List.replicate (3 - (lg_sl ([.ref (rA G 0)])).length) Slot.unset).toArray = ls at hl ⊢
  have hl : lv_has ls 3 [(0, .ref (rA G 0))] := hl
  have hP9 : rP σ 9 < 67108864 := hP 9 (by decide)
  refine lv_aload_n hx hb d_R_isWide_0 rfl (lv_at hl 0 rfl) ?_
  refine r_get hx hb ht hown hw 1 (by decide) (ht _ kf_R_13) rfl d_R_isWide_1 (fun _ h9 => h9) ?_
  refine lv_bipush (v := nI 9) hx hb d_R_isWide_4 (by decide) ?_
  refine r_lldP hx hb hw (by decide) d_R_isWide_6 ?_
  refine lv_ldc2 hx hb hown (ht _ kl_R_84) d_R_isWide_7 ?_
  refine tp_l (y := lN 4194303) (by decide) ?_
  refine W.lcmp hx hb d_R_isWide_10 ?_
  have key := pw_wide hP
  have done : ∀ (z : Nat), z = boolN (W256 ≤ pw (rP σ)) → ∀ (k : Nat) (H : Heap) (locs : List Loc) (ls : Array Slot), rH G σ s H locs → lv_has ls 3 [(0, .ref (rA G 0)), (1, .int (nI (z))), (2, .int (nI (k)))] → W p l e (headSpec (zW y_R_isWide b_R_isWide 3 (some .boolean)) (zr 0 0)).room s m ([.ref (rA G 0)] : List Value).toArray below meth c H locs 0 0 (MQ below (va_Qi (fun r u => u = σ ∧ r = nI (boolN (W256 ≤ pw (rP σ)))) (fun u => rC G u) (rAA G)) ([.ref (rA G 0)] : List Value).toArray s 0 0 (rAA G)) (F0 m 56 ls []) := by
    intro z hz k H locs ls hw hl
    refine lv_iload_n hx hb d_R_isWide_56 rfl (lv_at hl 1 rfl) ?_
    exact z_zret (rZ _) hx hb hr hlocks (nar_b (by rw [hz]; exact boolN_lt _)) σ hw ⟨rfl, by rw [hz]⟩ d_R_isWide_57
  have loop : ∀ (n k : Nat), k + n = 22 → 10 ≤ k → ∀ (z : Nat), z < 2 → (z = 1 → W256 ≤ pw (rP σ)) → (z = 0 → ¬ 4194303 < rP σ 9 ∧ ∀ j, 10 ≤ j → j < k → rP σ j = 0) → ∀ (H : Heap) (locs : List Loc) (ls : Array Slot), rH G σ s H locs → lv_has ls 3 [(0, .ref (rA G 0)), (1, .int (nI (z))), (2, .int (nI (k)))] → W p l e (headSpec (zW y_R_isWide b_R_isWide 3 (some .boolean)) (zr 0 0)).room s m ([.ref (rA G 0)] : List Value).toArray below meth c H locs 0 0 (MQ below (va_Qi (fun r u => u = σ ∧ r = nI (boolN (W256 ≤ pw (rP σ)))) (fun u => rC G u) (rAA G)) ([.ref (rA G 0)] : List Value).toArray s 0 0 (rAA G)) (F0 m 23 ls []) := by
    intro n
    induction n with
    | zero =>
      intro k hk h10 z hz2 hz1 hz0 H locs ls hw hl
      have hk : k = 22 := by omega
      subst hk
      refine lv_iload_n hx hb d_R_isWide_23 rfl (lv_at hl 2 rfl) ?_
      refine lv_bipush (v := nI 22) hx hb d_R_isWide_24 (by decide) ?_
      refine n_ge (tgt := 56) hx hb d_R_isWide_26 (by decide) (by decide) (by decide) (fun _ => ?_) (fun h => absurd h (by omega))
      refine done z ?_ 22 H locs ls hw hl
      rcases (show z = 0 ∨ z = 1 by omega) with h | h
      · rw [h, boolN_f]
        intro hh
        rcases key.mp hh with h3 | ⟨j, h3, h4, h5⟩
        · exact (hz0 h).1 h3
        · have := (hz0 h).2 j h4 (by omega)
          omega
      · rw [h, boolN_t (hz1 h)]
    | succ n ih =>
      intro k hk h10 z hz2 hz1 hz0 H locs ls hw hl
      refine lv_iload_n hx hb d_R_isWide_23 rfl (lv_at hl 2 rfl) ?_
      refine lv_bipush (v := nI 22) hx hb d_R_isWide_24 (by decide) ?_
      refine n_ge (tgt := 56) hx hb d_R_isWide_26 (by decide) (by omega) (by decide) (fun h => absurd h (by omega)) (fun _ => ?_)
      refine lv_iload_n hx hb d_R_isWide_29 rfl (lv_at hl 1 rfl) ?_
      refine n_ne0 (tgt := 56) hx hb d_R_isWide_30 (by decide) (by omega) (fun c1 => done z (by rw [show z = 1 by omega, boolN_t (hz1 (by omega))]) k H locs ls hw hl) (fun c1 => ?_)
      have hPk : rP σ k < 67108864 := hP k (by omega)
      refine lv_aload_n hx hb d_R_isWide_33 rfl (lv_at hl 0 rfl) ?_
      refine r_get hx hb ht hown hw 1 (by decide) (ht _ kf_R_13) rfl d_R_isWide_34 (fun _ h9 => h9) ?_
      refine lv_iload_n hx hb d_R_isWide_37 rfl (lv_at hl 2 rfl) ?_
      refine r_lldP hx hb hw (by omega) d_R_isWide_38 ?_
      refine lv_lconst (v := lN 0) hx hb d_R_isWide_39 (by decide) ?_
      refine W.lcmp hx hb d_R_isWide_40 ?_
      refine lv_if_le (tgt := 48) hx hb d_R_isWide_41 (by decide) (fun c2 => ?_) (fun c2 => ?_)
      · rw [lcmp_le (by omega) (by decide)] at c2
        refine lv_iconst (v := nI 0) hx hb d_R_isWide_48 (by decide) ?_
        refine lv_istore_n (lv' := [(1, .int (nI (0))), (0, .ref (rA G 0)), (2, .int (nI (k)))]) hx hb d_R_isWide_49 rfl hl (by decide) rfl (fun ls hl => ?_)
        refine lv_iinc (v := nI (k + 1)) (lv' := [(2, .int (nI (k + 1))), (1, .int (nI (0))), (0, .ref (rA G 0))]) hx hb d_R_isWide_50 hl (k := 2) rfl (nI_add k 1) (by decide) rfl (fun ls hl => ?_)
        refine lv_goto (tgt := 23) hx hb d_R_isWide_53 (by decide) ?_
        exact ih (k + 1) (by omega) (by omega) 0 (by decide) (fun h => absurd h (by decide)) (fun _ => ⟨(hz0 c1).1, fun j h1 h2 => if h : j = k then by rw [h]; omega else (hz0 c1).2 j h1 (by omega)⟩) H locs ls hw (lv_sub hl [2, 1, 0] rfl)
      · rw [lcmp_le (by omega) (by decide)] at c2
        refine lv_iconst (v := nI 1) hx hb d_R_isWide_44 (by decide) ?_
        refine lv_goto (tgt := 49) hx hb d_R_isWide_45 (by decide) ?_
        refine lv_istore_n (lv' := [(1, .int (nI (1))), (0, .ref (rA G 0)), (2, .int (nI (k)))]) hx hb d_R_isWide_49 rfl hl (by decide) rfl (fun ls hl => ?_)
        refine lv_iinc (v := nI (k + 1)) (lv' := [(2, .int (nI (k + 1))), (1, .int (nI (1))), (0, .ref (rA G 0))]) hx hb d_R_isWide_50 hl (k := 2) rfl (nI_add k 1) (by decide) rfl (fun ls hl => ?_)
        refine lv_goto (tgt := 23) hx hb d_R_isWide_53 (by decide) ?_
        exact ih (k + 1) (by omega) (by omega) 1 (by decide) (fun _ => key.mpr (Or.inr ⟨k, by omega, h10, by omega⟩)) (fun h => absurd h (by decide)) H locs ls hw (lv_sub hl [2, 1, 0] rfl)
  refine lv_if_le (tgt := 18) hx hb d_R_isWide_11 (by decide) (fun c2 => ?_) (fun c2 => ?_)
  · rw [lcmp_le (by omega) (by decide)] at c2
    refine lv_iconst (v := nI 0) hx hb d_R_isWide_18 (by decide) ?_
    refine lv_istore_n (lv' := [(1, .int (nI (0))), (0, .ref (rA G 0))]) hx hb d_R_isWide_19 rfl hl (by decide) rfl (fun ls hl => ?_)
    refine lv_bipush (v := nI 10) hx hb d_R_isWide_20 (by decide) ?_
    refine lv_istore_n (lv' := [(2, .int (nI (10))), (1, .int (nI (0))), (0, .ref (rA G 0))]) hx hb d_R_isWide_22 rfl hl (by decide) rfl (fun ls hl => ?_)
    exact loop 12 10 rfl (Nat.le_refl _) 0 (by decide) (fun h => absurd h (by decide)) (fun _ => ⟨by omega, fun j h1 h2 => absurd h2 (by omega)⟩) _ _ ls hw (lv_sub hl [2, 1, 0] rfl)
  · rw [lcmp_le (by omega) (by decide)] at c2
    refine lv_iconst (v := nI 1) hx hb d_R_isWide_14 (by decide) ?_
    refine lv_goto (tgt := 19) hx hb d_R_isWide_15 (by decide) ?_
    refine lv_istore_n (lv' := [(1, .int (nI (1))), (0, .ref (rA G 0))]) hx hb d_R_isWide_19 rfl hl (by decide) rfl (fun ls hl => ?_)
    refine lv_bipush (v := nI 10) hx hb d_R_isWide_20 (by decide) ?_
    refine lv_istore_n (lv' := [(2, .int (nI (10))), (1, .int (nI (1))), (0, .ref (rA G 0))]) hx hb d_R_isWide_22 rfl hl (by decide) rfl (fun ls hl => ?_)
    exact loop 12 10 rfl (Nat.le_refl _) 1 (by decide) (fun _ => key.mpr (Or.inl (by omega))) (fun h => absurd h (by decide)) _ _ ls hw (lv_sub hl [2, 1, 0] rfl)
