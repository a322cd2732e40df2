/-! the modulus: fold, multiply -/
def cGap (μ : Nat) : Nat := cst (44 + μ)
theorem cV_gap (τ : cT) {μ : Nat} : cV τ (44 + μ) = cGap μ := cV_st (by omega)
theorem cGap_eq {μ : Nat} (h : μ < 2) : cGap μ + rMod μ = W8 := by
  rcases (show μ = 0 ∨ μ = 1 by omega) with rfl | rfl <;> decide +kernel
theorem cGap_len {μ : Nat} (h : μ < 2) : cGap μ + 1 ≤ b32 ^ rl (44 + μ) := by
  rcases (show μ = 0 ∨ μ = 1 by omega) with rfl | rfl <;> decide +kernel
theorem cGap_sq {μ : Nat} (h : μ < 2) : cGap μ * cGap μ ≤ 2 * W8 ∧ 3 * cGap μ < W8 := by
  rcases (show μ = 0 ∨ μ = 1 by omega) with rfl | rfl <;> decide +kernel
theorem rl_g {μ : Nat} (h : μ < 2) : rl (44 + μ) ≤ 5 ∧ 2 ≤ rl (44 + μ) := by
  rcases (show μ = 0 ∨ μ = 1 by omega) with rfl | rfl <;> decide
def fo (W G T : Nat) : Nat := T % W + T / W * G
theorem fo_1 {W G T : Nat} (hW : 0 < W) (hT : T < W * W) : fo W G T < W * (G + 1) := by
  have h1 : T / W < W := Nat.div_lt_of_lt_mul hT
  have h2 : T % W < W := Nat.mod_lt _ hW
  have h3 : T / W * G ≤ W * G := Nat.mul_le_mul_right _ (Nat.le_of_lt h1)
  unfold fo
  rw [Nat.mul_add, Nat.mul_one]
  omega
theorem fo_2 {W G T : Nat} (hW : 0 < W) (hG : G * G ≤ 2 * W) (hT : T < W * (G + 1)) : fo W G T < 3 * W := by
  have h1 : T / W < G + 1 := Nat.div_lt_of_lt_mul hT
  have h2 : T % W < W := Nat.mod_lt _ hW
  have h3 : T / W * G ≤ G * G := Nat.mul_le_mul_right _ (by omega)
  unfold fo
  omega
theorem fo_3 {W G T : Nat} (hW : 0 < W) (hT : T < 3 * W) : fo W G T < W + 2 * G := by
  have h1 : T / W < 3 := Nat.div_lt_of_lt_mul (by omega)
  have h2 : T % W < W := Nat.mod_lt _ hW
  have h3 : T / W * G ≤ 2 * G := Nat.mul_le_mul_right _ (by omega)
  unfold fo
  omega
theorem fo_4 {W G T : Nat} (hG : 3 * G < W) (hT : T < W + 2 * G) : fo W G T < W := by
  unfold fo
  by_cases h : T < W
  · rw [Nat.div_eq_of_lt h, Nat.mod_eq_of_lt h, Nat.zero_mul]; exact h
  · have e1 : T % W = T - W := by rw [Nat.mod_eq_sub_mod (by omega), Nat.mod_eq_of_lt (by omega)]
    have e2 : T / W = 1 := by
      have := Nat.div_add_mod T W
      have h5 : T / W < 2 := Nat.div_lt_of_lt_mul (by omega)
      have h6 : 0 < T / W := Nat.div_pos (by omega) (by omega)
      omega
    rw [e1, e2, Nat.one_mul]
    omega
theorem fo_mod {W G Mo : Nat} (h : G + Mo = W) (T : Nat) : fo W G T % Mo = T % Mo := fold_mod h
theorem csV_comm {τ : cT} {i j x y : Nat} (h : i ≠ j) : csV (csV τ i x) j y = csV (csV τ j y) i x := by
  show (va_up (va_up τ.1 i x) j y, τ.2) = (va_up (va_up τ.1 j y) i x, τ.2)
  congr 1
  funext k
  unfold va_up
  by_cases h1 : k = j
  · rw [if_pos h1, if_neg (by omega), if_pos h1]
  · rw [if_neg h1]
    by_cases h2 : k = i
    · rw [if_pos h2, if_pos h2]
    · rw [if_neg h2, if_neg h2, if_neg h1]
theorem dg_sh (T i : Nat) : dg b32 (T / W8) i = dg b32 T (8 + i) := by
  unfold dg W8
  rw [Nat.div_div_eq_div_mul, ← Nat.pow_add]
theorem fold_ov {x y g : Nat} (hx : x < b32 ^ 8) (hy : y ≤ b32 ^ 8) (hg : g ≤ b32 ^ 5) : x + g * y < b32 ^ 16 := by
  have h1 : g * y ≤ b32 ^ 5 * b32 ^ 8 := Nat.mul_le_mul hg hy
  have h2 : b32 ^ 8 + b32 ^ 5 * b32 ^ 8 ≤ b32 ^ 16 := by decide
  exact Nat.lt_of_lt_of_le (Nat.add_lt_add_of_lt_of_le hx h1) h2
set_option maxHeartbeats 4000000 in
set_option maxRecDepth 100000 in
theorem c_M_fold (l : Launch) (K : cG) (τ : cT) (hok : cOk τ) {μ cn : Nat} (hμ : μ < 2) (hcn : cn ≤ 8) (hT : cV τ (32 + μ) < b32 ^ (8 + cn)) : Met l y_M_fold (zW y_M_fold b_M_fold 3 none) (zr 1 31) (va_Pc [.ref (cO K (5 + μ)), .int (nI (cn))] (cC K τ)) (va_Qv (fun u => ∃ h, h < b32 ^ 8 ∧ u = csV (csV τ (30 + μ) h) (32 + μ) (fo W8 (cGap μ) (cV τ (32 + μ)))) (fun u => cC K u) (cAA K)) 0 0 (cAA K) := by
  refine Met.ofW (cc := b_M_fold) (maxL := 3) (ret := none) (by decide) rfl ?_
  intro p e s m args below meth c s₁ B hml hv
  obtain ⟨rfl, hw⟩ := hv
  have hx := B.exec
  have hb := B.bytes
  have hr := B.returns
  have hts := atoms_spec (ws := zW y_M_fold b_M_fold 3 none) B.pre
  have ht : ∀ w ∈ zT, w.before ([.ref (cO K (5 + μ)), .int (nI (cn))] : List Value).toArray s = true := fun w h => hts w (List.mem_cons_of_mem _ h)
  have hown : s.vm.findClass R_M = some m.cls := findClass_of_methodNamed B.named
  have hlocks := B.notSynchronized
  have hl := lv_entry ([.ref (cO K (5 + μ)), .int (nI (cn))]) (n := 3) (Nat.le_of_ble_eq_true rfl)
  rw [lg_entry_eq]
  generalize (lg_sl ([.ref (cO K (5 + μ)), .int (nI (cn))]) ++ List.replicate (3 - (lg_sl ([.ref (cO K (5 + μ)), .int (nI (cn))])).length) Slot.unset).toArray = ls at hl ⊢
  have hl : lv_has ls 3 [(0, .ref (cO K (5 + μ))), (1, .int (nI (cn)))] := hl
  have rw16 := rl_w hμ
  have rh : rl (30 + μ) = 8 := rl_32 (by omega)
  have rg := rl_g hμ
  obtain ⟨T, hTd⟩ : ∃ T, T = cV τ (32 + μ) := ⟨_, rfl⟩
  rw [← hTd] at hT
  have hT16 : T < b32 ^ 16 := Nat.lt_of_lt_of_le hT (Nat.pow_le_pow_right b32_pos (by omega))
  have hq : T / W8 < b32 ^ cn := Nat.div_lt_of_lt_mul (by rw [show W8 * b32 ^ cn = b32 ^ (8 + cn) from (Nat.pow_add b32 8 cn).symm]; exact hT)
  have loop2 : ∀ (n j : Nat), j + n = rl (44 + μ) → ∀ (h w : Nat) (H : Heap) (locs : List Loc) (ls : Array Slot), h < b32 ^ 8 → h % b32 ^ cn = T / W8 → w = (T % W8 + cGap μ % b32 ^ j * (T / W8)) → cH K (csV (csV τ (30 + μ) h) (32 + μ) w) s H locs → lv_has ls 3 [(0, .ref (cO K (5 + μ))), (1, .int (nI (cn))), (2, .int (nI (j)))] → W p l e (headSpec (zW y_M_fold b_M_fold 3 none) (zr 1 31)).room s m ([.ref (cO K (5 + μ)), .int (nI (cn))] : List Value).toArray below meth c H locs 0 0 (MQ below (va_Qv (fun u => ∃ h, h < b32 ^ 8 ∧ u = csV (csV τ (30 + μ) h) (32 + μ) (fo W8 (cGap μ) (cV τ (32 + μ)))) (fun u => cC K u) (cAA K)) ([.ref (cO K (5 + μ)), .int (nI (cn))] : List Value).toArray s 0 0 (cAA K)) (F0 m 40 ls []) := by
    intro n
    induction n with
    | zero =>
      intro j hj h w H locs ls hh hq9 hwe hw hl
      refine lv_iload_n hx hb d_M_fold_40 rfl (lv_at hl 2 rfl) ?_
      refine lv_aload_n hx hb d_M_fold_41 rfl (lv_at hl 0 rfl) ?_
      refine va_get (ci := 2) (C := R_M) (T := F_M) (N := 6) (v := .ref (cR K (44 + μ))) hx hb ht ku_M hown hw.2.1 hw.1 (5 + μ) (cWs_mod K _ hμ) rfl 1 (by decide) (ht _ kf_M_24) (fun _ h9 => h9) rfl d_M_fold_42 ?_
      refine c_len hx hb hw (i := 44 + μ) (by omega) d_M_fold_45 ?_
      refine n_ge (tgt := 71) hx hb d_M_fold_46 (by decide) (by omega) (by omega) (fun _ => ?_) (fun h => absurd h (by omega))
      have e9 : w = fo W8 (cGap μ) T := by rw [hwe, show j = rl (44 + μ) by omega, Nat.mod_eq_of_lt (cGap_len hμ), Nat.mul_comm]; rfl
      exact z_vret (cZ K) hx hb hr hlocks _ hw ⟨h, hh, by rw [e9, hTd]⟩ d_M_fold_71
    | succ n ih =>
      intro j hj h w H locs ls hh hq9 hwe hw hl
      refine lv_iload_n hx hb d_M_fold_40 rfl (lv_at hl 2 rfl) ?_
      refine lv_aload_n hx hb d_M_fold_41 rfl (lv_at hl 0 rfl) ?_
      refine va_get (ci := 2) (C := R_M) (T := F_M) (N := 6) (v := .ref (cR K (44 + μ))) hx hb ht ku_M hown hw.2.1 hw.1 (5 + μ) (cWs_mod K _ hμ) rfl 1 (by decide) (ht _ kf_M_24) (fun _ h9 => h9) rfl d_M_fold_42 ?_
      refine c_len hx hb hw (i := 44 + μ) (by omega) d_M_fold_45 ?_
      refine n_ge (tgt := 71) hx hb d_M_fold_46 (by decide) (by omega) (by omega) (fun h => absurd h (by omega)) (fun _ => ?_)
      refine lv_aload_n hx hb d_M_fold_49 rfl (lv_at hl 0 rfl) ?_
      refine lv_aload_n hx hb d_M_fold_50 rfl (lv_at hl 0 rfl) ?_
      refine va_get (ci := 2) (C := R_M) (T := F_M) (N := 6) (v := .ref (cR K (44 + μ))) hx hb ht ku_M hown hw.2.1 hw.1 (5 + μ) (cWs_mod K _ hμ) rfl 1 (by decide) (ht _ kf_M_24) (fun _ h9 => h9) rfl d_M_fold_51 ?_
      refine lv_iload_n hx hb d_M_fold_54 rfl (lv_at hl 2 rfl) ?_
      refine c_ld hx hb hw (by omega) (by omega) d_M_fold_55 ?_
      refine tp_l (y := lN (dg b32 (cGap μ) j)) (congrArg lN (by rw [cV_gap])) ?_
      refine lv_aload_n hx hb d_M_fold_56 rfl (lv_at hl 0 rfl) ?_
      refine va_get (ci := 2) (C := R_M) (T := F_M) (N := 6) (v := .ref (cR K (30 + μ))) hx hb ht ku_M hown hw.2.1 hw.1 (5 + μ) (cWs_mod K _ hμ) rfl 4 (by decide) (ht _ kf_M_15) (fun _ h9 => h9) rfl d_M_fold_57 ?_
      refine lv_iload_n hx hb d_M_fold_60 rfl (lv_at hl 1 rfl) ?_
      refine lv_iload_n hx hb d_M_fold_61 rfl (lv_at hl 2 rfl) ?_
      have em : cGap μ % b32 ^ (j + 1) * (T / W8) = cGap μ % b32 ^ j * (T / W8) + dg b32 (cGap μ) j * (T / W8) * b32 ^ j := by rw [dg_mod, Nat.add_mul, Nat.mul_assoc, Nat.mul_assoc, Nat.mul_comm (b32 ^ j)]
      have hw8 : T % W8 < b32 ^ 8 := Nat.mod_lt _ W8_pos
      have hov : w + dg b32 (cGap μ) j * (T / W8) * b32 ^ j < b32 ^ 16 := by
        rw [hwe, Nat.add_assoc, ← em]
        exact fold_ov hw8 (Nat.le_of_lt (Nat.lt_of_lt_of_le hq (Nat.pow_le_pow_right b32_pos hcn))) (Nat.le_trans (Nat.mod_le _ _) (Nat.le_trans (Nat.le_of_lt (cGap_len hμ)) (Nat.pow_le_pow_right b32_pos rg.1)))
      have hw16 : w < b32 ^ 16 := Nat.lt_of_le_of_lt (Nat.le_add_right _ _) hov
      have hok2 : cOk (csV (csV τ (30 + μ) h) (32 + μ) w) := (hok.up (by omega) (by rw [rh]; exact hh)).up (by omega) (by rw [rw16]; exact hw16)
      have ew : cV (csV (csV τ (30 + μ) h) (32 + μ) w) (32 + μ) = w := cV_self _ (by omega)
      have eh : cV (csV (csV τ (30 + μ) h) (32 + μ) w) (30 + μ) = h := by rw [cV_ne _ (by omega) (by omega), cV_self _ (by omega)]
      refine c_cv (np := 4) (As := [.long (lN (dg b32 (cGap μ) j)), .ref (cR K (30 + μ)), .int (nI (cn)), .int (nI (j))]) (rest := []) ⟨hx, hb, hml, hown, ht⟩ hw (c_M_addProduct l K (csV (csV τ (30 + μ) h) (32 + μ) w) hok2 hμ (dg_lt b32_pos _ _) (Or.inl (by omega)) (by omega) (by omega) (by omega) (by rw [ew, eh, hq9]; exact hov)) (5 + μ) (cWs_mod K _ hμ) rfl ⟨km_M_47, kv_M_addProduct, kx_M_addProduct, kc_M_addProduct⟩ ki_M (by decide +kernel) ⟨by decide, by decide⟩ rfl rfl rfl hl.1 rfl (Nat.le_of_ble_eq_true rfl) d_M_fold_62 ⟨Nat.le_refl _, Nat.le_refl _⟩ (fun u H locs hp hw => ?_)
      rw [ew, eh, hq9, csV_up] at hp
      subst hp
      refine lv_iinc (v := nI (j + 1)) (lv' := [(2, .int (nI (j + 1))), (0, .ref (cO K (5 + μ))), (1, .int (nI (cn)))]) hx hb d_M_fold_65 hl (k := 2) rfl (nI_add j 1) (by decide) rfl (fun ls hl => ?_)
      refine lv_goto (tgt := 40) hx hb d_M_fold_68 (by decide) ?_
      exact ih (j + 1) (by omega) h _ H locs ls hh hq9 (by rw [em, hwe, Nat.add_assoc]) hw (lv_sub hl [1, 2, 0] rfl)
  have loop1 : ∀ (n i : Nat), i + n = cn → ∀ (h w : Nat) (H : Heap) (locs : List Loc) (ls : Array Slot), h < b32 ^ 8 → w < b32 ^ 16 → h % b32 ^ i = T / W8 % b32 ^ i → w % b32 ^ (8 + i) = T % W8 → w / b32 ^ (8 + i) = T / b32 ^ (8 + i) → cH K (csV (csV τ (30 + μ) h) (32 + μ) w) s H locs → lv_has ls 3 [(0, .ref (cO K (5 + μ))), (1, .int (nI (cn))), (2, .int (nI (i)))] → W p l e (headSpec (zW y_M_fold b_M_fold 3 none) (zr 1 31)).room s m ([.ref (cO K (5 + μ)), .int (nI (cn))] : List Value).toArray below meth c H locs 0 0 (MQ below (va_Qv (fun u => ∃ h, h < b32 ^ 8 ∧ u = csV (csV τ (30 + μ) h) (32 + μ) (fo W8 (cGap μ) (cV τ (32 + μ)))) (fun u => cC K u) (cAA K)) ([.ref (cO K (5 + μ)), .int (nI (cn))] : List Value).toArray s 0 0 (cAA K)) (F0 m 2 ls []) := by
    intro n
    induction n with
    | zero =>
      intro i hi h w H locs ls hh hw16 hhm hwm hwd hw hl
      refine lv_iload_n hx hb d_M_fold_2 rfl (lv_at hl 2 rfl) ?_
      refine lv_iload_n hx hb d_M_fold_3 rfl (lv_at hl 1 rfl) ?_
      have hi9 : i = cn := by omega
      refine n_ge (tgt := 38) hx hb d_M_fold_4 (by decide) (by omega) (by omega) (fun _ => ?_) (fun h => absurd h (by omega))
      refine lv_iconst (v := nI 0) hx hb d_M_fold_38 (by decide) ?_
      refine lv_istore_n (lv' := [(2, .int (nI (0))), (0, .ref (cO K (5 + μ))), (1, .int (nI (cn)))]) hx hb d_M_fold_39 rfl hl (by decide) rfl (fun ls hl => ?_)
      rw [hi9] at hhm hwm hwd
      rw [Nat.mod_eq_of_lt hq] at hhm
      have hw0 : w = T % W8 := by have e1 := Nat.div_add_mod w (b32 ^ (8 + cn)); rw [hwd, Nat.div_eq_of_lt hT, Nat.mul_zero, Nat.zero_add, hwm] at e1; exact e1.symm
      exact loop2 (rl (44 + μ)) 0 (by omega) h w H locs ls hh hhm (by rw [hw0, Nat.pow_zero, Nat.mod_one, Nat.zero_mul, Nat.add_zero]) hw (lv_sub hl [1, 2, 0] rfl)
    | succ n ih =>
      intro i hi h w H locs ls hh hw16 hhm hwm hwd hw hl
      refine lv_iload_n hx hb d_M_fold_2 rfl (lv_at hl 2 rfl) ?_
      refine lv_iload_n hx hb d_M_fold_3 rfl (lv_at hl 1 rfl) ?_
      refine n_ge (tgt := 38) hx hb d_M_fold_4 (by decide) (by omega) (by omega) (fun h => absurd h (by omega)) (fun _ => ?_)
      have ew : cV (csV (csV τ (30 + μ) h) (32 + μ) w) (32 + μ) = w := cV_self _ (by omega)
      have eh : cV (csV (csV τ (30 + μ) h) (32 + μ) w) (30 + μ) = h := by rw [cV_ne _ (by omega) (by omega), cV_self _ (by omega)]
      have ed : dg b32 (cV (csV (csV τ (30 + μ) h) (32 + μ) w) (32 + μ)) (8 + i) = dg b32 (T / W8) i := by rw [ew, dg_sh]; exact dg_of_div hwd
      refine lv_aload_n hx hb d_M_fold_7 rfl (lv_at hl 0 rfl) ?_
      refine va_get (ci := 2) (C := R_M) (T := F_M) (N := 6) (v := .ref (cR K (30 + μ))) hx hb ht ku_M hown hw.2.1 hw.1 (5 + μ) (cWs_mod K _ hμ) rfl 4 (by decide) (ht _ kf_M_15) (fun _ h9 => h9) rfl d_M_fold_8 ?_
      refine lv_iload_n hx hb d_M_fold_11 rfl (lv_at hl 2 rfl) ?_
      refine lv_aload_n hx hb d_M_fold_12 rfl (lv_at hl 0 rfl) ?_
      refine va_get (ci := 2) (C := R_M) (T := F_M) (N := 6) (v := .ref (cR K (32 + μ))) hx hb ht ku_M hown hw.2.1 hw.1 (5 + μ) (cWs_mod K _ hμ) rfl 3 (by decide) (ht _ kf_M_9) (fun _ h9 => h9) rfl d_M_fold_13 ?_
      refine lv_bipush (v := nI 8) hx hb d_M_fold_16 (by decide) ?_
      refine lv_iload_n hx hb d_M_fold_18 rfl (lv_at hl 2 rfl) ?_
      refine lv_iadd hx hb d_M_fold_19 ?_
      refine tp_i (y := nI (8 + i)) (nI_add _ _) ?_
      refine c_ld hx hb hw (by omega) (by omega) d_M_fold_20 ?_
      refine tp_l (y := lN (dg b32 (T / W8) i)) (congrArg lN (ed)) ?_
      refine c_st hx hb hw (show 30 + μ < 34 by omega) (by omega) (dg_lt b32_pos _ _) d_M_fold_21 (fun H locs hw => ?_)
      rw [eh, csV_comm (show 32 + μ ≠ 30 + μ by omega), csV_up] at hw
      refine lv_aload_n hx hb d_M_fold_22 rfl (lv_at hl 0 rfl) ?_
      refine va_get (ci := 2) (C := R_M) (T := F_M) (N := 6) (v := .ref (cR K (32 + μ))) hx hb ht ku_M hown hw.2.1 hw.1 (5 + μ) (cWs_mod K _ hμ) rfl 3 (by decide) (ht _ kf_M_9) (fun _ h9 => h9) rfl d_M_fold_23 ?_
      refine lv_bipush (v := nI 8) hx hb d_M_fold_26 (by decide) ?_
      refine lv_iload_n hx hb d_M_fold_28 rfl (lv_at hl 2 rfl) ?_
      refine lv_iadd hx hb d_M_fold_29 ?_
      refine tp_i (y := nI (8 + i)) (nI_add _ _) ?_
      refine lv_lconst (v := lN 0) hx hb d_M_fold_30 (by decide) ?_
      refine c_st hx hb hw (show 32 + μ < 34 by omega) (by omega) b32_pos d_M_fold_31 (fun H locs hw => ?_)
      rw [cV_self _ (show 32 + μ < 34 by omega), csV_up] at hw
      refine lv_iinc (v := nI (i + 1)) (lv' := [(2, .int (nI (i + 1))), (0, .ref (cO K (5 + μ))), (1, .int (nI (cn)))]) hx hb d_M_fold_32 hl (k := 2) rfl (nI_add i 1) (by decide) rfl (fun ls hl => ?_)
      refine lv_goto (tgt := 2) hx hb d_M_fold_35 (by decide) ?_
      refine ih (i + 1) (by omega) (ds b32 h i (dg b32 (T / W8) i)) (ds b32 w (8 + i) 0) H locs ls (ds_lt b32_pos (dg_lt b32_pos _ _) (by omega) hh) (ds_lt b32_pos b32_pos (by omega) hw16) ?_ ?_ ?_ hw (lv_sub hl [1, 2, 0] rfl)
      · rw [ds_mod b32_pos _ (dg_lt b32_pos _ _), hhm, dg_mod b32 (T / W8) i]
      · rw [show 8 + (i + 1) = 8 + i + 1 by omega, ds_mod b32_pos _ b32_pos, hwm, Nat.zero_mul, Nat.add_zero]
      · rw [show 8 + (i + 1) = 8 + i + 1 by omega, ds_high b32_pos _ b32_pos (by omega)]; exact div_down hwd
  refine lv_iconst (v := nI 0) hx hb d_M_fold_0 (by decide) ?_
  refine lv_istore_n (lv' := [(2, .int (nI (0))), (0, .ref (cO K (5 + μ))), (1, .int (nI (cn)))]) hx hb d_M_fold_1 rfl hl (by decide) rfl (fun ls hl => ?_)
  refine loop1 cn 0 (by omega) (cV τ (30 + μ)) T _ _ ls (cV_lt hok (Or.inl (by omega)) (by omega)) hT16 (by rw [Nat.pow_zero, Nat.mod_one, Nat.mod_one]) rfl rfl ?_ (lv_sub hl [1, 2, 0] rfl)
  rw [hTd, csV_id (show 30 + μ < 34 by omega), csV_id (show 32 + μ < 34 by omega)]
  exact hw
