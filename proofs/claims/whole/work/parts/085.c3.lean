/-! the modulus: sums and differences -/
theorem cV_prime (τ : cT) {μ : Nat} (h : μ < 2) : cV τ (37 + 3 * μ) = rMod μ := by
  rcases (show μ = 0 ∨ μ = 1 by omega) with rfl | rfl <;> rfl
theorem rMod8 {μ : Nat} (h : μ < 2) : rMod μ < W8 ∧ W8 < 2 * rMod μ := by rw [W8_eq]; exact ⟨rMod_lt h, rMod_half h⟩
theorem pp_c0 {A B M W : Nat} (hA : A < M) (hB : B < M) (hM : M < W) (h : (A + B) / W = 0) (h2 : (A + B) % W < M) : (A + B) % W = pp M A B := by
  unfold pp
  have h3 : A + B < W := by
    rcases Nat.lt_or_ge (A + B) W with q | q
    · exact q
    · have := Nat.div_pos q (by omega); omega
  rw [Nat.mod_eq_of_lt h3] at h2 ⊢
  rw [Nat.mod_eq_of_lt h2]
theorem pp_c1 {A B M W : Nat} (hA : A < M) (hB : B < M) (hM : M < W) (hW : W < 2 * M) (h : (A + B) / W ≠ 0 ∨ ¬ (A + B) % W < M) : ((A + B) % W + W - M) % W = pp M A B := by
  unfold pp
  by_cases h3 : A + B < W
  · rw [Nat.div_eq_of_lt h3, Nat.mod_eq_of_lt h3] at h
    have h4 : M ≤ A + B := by rcases h with h | h; exact absurd rfl h; omega
    rw [Nat.mod_eq_of_lt h3, show A + B + W - M = (A + B - M) + W by omega, Nat.add_mod_right, Nat.mod_eq_of_lt (by omega), Nat.mod_eq_sub_mod h4, Nat.mod_eq_of_lt (by omega)]
  · have e1 : (A + B) % W = A + B - W := by rw [Nat.mod_eq_sub_mod (by omega), Nat.mod_eq_of_lt (by omega)]
    rw [e1, show A + B - W + W - M = A + B - M by omega, Nat.mod_eq_of_lt (by omega), Nat.mod_eq_sub_mod (by omega), Nat.mod_eq_of_lt (by omega)]
theorem ss_c0 {A B M W : Nat} (hA : A < M) (hM : M < W) (h : ¬ A < B) : (A + W - B) % W = ss M A B := by
  unfold ss
  rw [show A + W - B = (A - B) + W by omega, show A + M - B = (A - B) + M by omega, Nat.add_mod_right, Nat.add_mod_right, Nat.mod_eq_of_lt (by omega), Nat.mod_eq_of_lt (by omega)]
theorem ss_c1 {A B M W : Nat} (hB : B < M) (hM : M < W) (h : A < B) : ((A + W - B) % W + M) % W = ss M A B := by
  unfold ss
  rw [Nat.mod_eq_of_lt (show A + W - B < W by omega), show A + W - B + M = (A + M - B) + W by omega, Nat.add_mod_right, Nat.mod_eq_of_lt (by omega), Nat.mod_eq_of_lt (by omega)]
theorem below_1 {A M W : Nat} (hA : A < W) (hM : M < W) (hW : W < 2 * M) (h : ¬ A < M) : (A + W - M) % W = A % M := by
  rw [show A + W - M = (A - M) + W by omega, Nat.add_mod_right, Nat.mod_eq_of_lt (by omega), Nat.mod_eq_sub_mod (by omega), Nat.mod_eq_of_lt (by omega)]
theorem W8_pos : 0 < W8 := Nat.pow_pos b32_pos
theorem rl_32 {o : Nat} (ho : o < 32) : rl o = 8 := if_pos ho
theorem cOk.u8 {τ : cT} (h : cOk τ) {o x : Nat} (ho : o < 32) (hx : x < W8) : cOk (csV τ o x) := h.up (by omega) (by rw [rl_32 ho]; exact hx)
set_option maxHeartbeats 4000000 in
set_option maxRecDepth 100000 in
theorem c_M_isAbove (l : Launch) (K : cG) (τ : cT) (hok : cOk τ) {μ a : Nat} (hμ : μ < 2) (ha : a < 32 ∨ 34 ≤ a) (ha2 : a < 44) : Met l y_M_isAbove (zW y_M_isAbove b_M_isAbove 2 (some .boolean)) (zr 1 22) (va_Pc [.ref (cO K (5 + μ)), .ref (cR K a)] (cC K τ)) (va_Qi (fun r u => u = τ ∧ r = nI (boolN (cV τ a < rMod μ))) (fun u => cC K u) (cAA K)) 0 0 (cAA K) := by
  refine Met.ofW (cc := b_M_isAbove) (maxL := 2) (ret := (some .boolean)) (by decide) rfl ?_
  intro p e s m args below meth c s₁ B hml hv
  obtain ⟨rfl, hw⟩ := hv
  have hx := B.exec
  have hb := B.bytes
  have hr := B.returns
  have hts := atoms_spec (ws := zW y_M_isAbove b_M_isAbove 2 (some .boolean)) B.pre
  have ht : ∀ w ∈ zT, w.before ([.ref (cO K (5 + μ)), .ref (cR K a)] : List Value).toArray s = true := fun w h => hts w (List.mem_cons_of_mem _ h)
  have hown : s.vm.findClass R_M = some m.cls := findClass_of_methodNamed B.named
  have hlocks := B.notSynchronized
  have hl := lv_entry ([.ref (cO K (5 + μ)), .ref (cR K a)]) (n := 2) (Nat.le_of_ble_eq_true rfl)
  rw [lg_entry_eq]
  generalize (lg_sl ([.ref (cO K (5 + μ)), .ref (cR K a)]) ++ List.replicate (2 - (lg_sl ([.ref (cO K (5 + μ)), .ref (cR K a)])).length) Slot.unset).toArray = ls at hl ⊢
  have hl : lv_has ls 2 [(0, .ref (cO K (5 + μ))), (1, .ref (cR K a))] := hl
  refine lv_aload_n hx hb d_M_isAbove_0 rfl (lv_at hl 1 rfl) ?_
  refine lv_aload_n hx hb d_M_isAbove_1 rfl (lv_at hl 0 rfl) ?_
  refine va_get (ci := 2) (C := R_M) (T := F_M) (N := 6) (v := .ref (cR K (37 + 3 * μ))) hx hb ht ku_M hown hw.2.1 hw.1 (5 + μ) (cWs_mod K _ hμ) rfl 0 (by decide) (ht _ kf_M_21) (fun _ h9 => h9) rfl d_M_isAbove_2 ?_
  refine c_si (np := 2) (As := [.ref (cR K a), .ref (cR K (37 + 3 * μ))]) (rest := []) ⟨hx, hb, hml, hown, ht⟩ hw (c_L_isBelow l K τ hok ha ha2 (Or.inr (by omega)) (by omega)) ⟨km_M_30, ks_L_isBelow, kc_L_isBelow⟩ ki_L (by decide +kernel) ⟨by decide, by decide⟩ rfl rfl rfl hl.1 rfl (Nat.le_of_ble_eq_true rfl) d_M_isAbove_5 ⟨Nat.le_refl _, Nat.le_refl _⟩ (fun r u H locs hp hw => ?_)
  obtain ⟨hpu, rfl⟩ := hp
  rw [hpu] at hw
  exact z_zret (cZ K) hx hb hr hlocks (nar_b (boolN_lt _)) τ hw ⟨rfl, by simp only [cV_prime τ hμ]⟩ d_M_isAbove_8
set_option maxHeartbeats 4000000 in
set_option maxRecDepth 100000 in
theorem c_M_bringBelow (l : Launch) (K : cG) (τ : cT) (hok : cOk τ) {μ o : Nat} (hμ : μ < 2) (ho : o < 32) : Met l y_M_bringBelow (zW y_M_bringBelow b_M_bringBelow 2 none) (zr 2 43) (va_Pc [.ref (cO K (5 + μ)), .ref (cR K o)] (cC K τ)) (va_Qv (fun u => u = csV τ o (cV τ o % rMod μ)) (fun u => cC K u) (cAA K)) 0 0 (cAA K) := by
  refine Met.ofW (cc := b_M_bringBelow) (maxL := 2) (ret := none) (by decide) rfl ?_
  intro p e s m args below meth c s₁ B hml hv
  obtain ⟨rfl, hw⟩ := hv
  have hx := B.exec
  have hb := B.bytes
  have hr := B.returns
  have hts := atoms_spec (ws := zW y_M_bringBelow b_M_bringBelow 2 none) B.pre
  have ht : ∀ w ∈ zT, w.before ([.ref (cO K (5 + μ)), .ref (cR K o)] : List Value).toArray s = true := fun w h => hts w (List.mem_cons_of_mem _ h)
  have hown : s.vm.findClass R_M = some m.cls := findClass_of_methodNamed B.named
  have hlocks := B.notSynchronized
  have hl := lv_entry ([.ref (cO K (5 + μ)), .ref (cR K o)]) (n := 2) (Nat.le_of_ble_eq_true rfl)
  rw [lg_entry_eq]
  generalize (lg_sl ([.ref (cO K (5 + μ)), .ref (cR K o)]) ++ List.replicate (2 - (lg_sl ([.ref (cO K (5 + μ)), .ref (cR K o)])).length) Slot.unset).toArray = ls at hl ⊢
  have hl : lv_has ls 2 [(0, .ref (cO K (5 + μ))), (1, .ref (cR K o))] := hl
  have hM := rMod8 hμ
  refine lv_aload_n hx hb d_M_bringBelow_0 rfl (lv_at hl 0 rfl) ?_
  refine lv_aload_n hx hb d_M_bringBelow_1 rfl (lv_at hl 1 rfl) ?_
  refine c_ci (np := 1) (As := [.ref (cR K o)]) (rest := []) ⟨hx, hb, hml, hown, ht⟩ hw (c_M_isAbove l K τ hok hμ (Or.inl ho) (by omega)) (5 + μ) (cWs_mod K _ hμ) rfl ⟨km_M_36, kv_M_isAbove, kx_M_isAbove, kc_M_isAbove⟩ ki_M (by decide +kernel) ⟨by decide, by decide⟩ rfl rfl rfl hl.1 rfl (Nat.le_of_ble_eq_true rfl) d_M_bringBelow_2 ⟨Nat.le_refl _, Nat.le_refl _⟩ (fun r u H locs hp hw => ?_)
  obtain ⟨hpu, rfl⟩ := hp
  rw [hpu] at hw
  refine n_ne0 (tgt := 18) hx hb d_M_bringBelow_5 (by decide) (boolN_s _) (fun c1 => ?_) (fun c1 => ?_)
  · have c2 := boolN_1 c1
    exact z_vret (cZ K) hx hb hr hlocks τ hw (by rw [Nat.mod_eq_of_lt c2, csV_id (by omega)]) d_M_bringBelow_18
  · have c2 := boolN_0 c1
    refine lv_aload_n hx hb d_M_bringBelow_8 rfl (lv_at hl 1 rfl) ?_
    refine lv_aload_n hx hb d_M_bringBelow_9 rfl (lv_at hl 1 rfl) ?_
    refine lv_aload_n hx hb d_M_bringBelow_10 rfl (lv_at hl 0 rfl) ?_
    refine va_get (ci := 2) (C := R_M) (T := F_M) (N := 6) (v := .ref (cR K (37 + 3 * μ))) hx hb ht ku_M hown hw.2.1 hw.1 (5 + μ) (cWs_mod K _ hμ) rfl 0 (by decide) (ht _ kf_M_21) (fun _ h9 => h9) rfl d_M_bringBelow_11 ?_
    refine c_sl (np := 3) (As := [.ref (cR K o), .ref (cR K o), .ref (cR K (37 + 3 * μ))]) (rest := []) ⟨hx, hb, hml, hown, ht⟩ hw (c_L_subtract l K τ hok ho (Or.inl ho) (by omega) (Or.inr (by omega)) (by omega)) ⟨km_M_40, ks_L_subtract, kc_L_subtract⟩ ki_L (by decide +kernel) ⟨by decide, by decide⟩ rfl rfl rfl hl.1 rfl (Nat.le_of_ble_eq_true rfl) d_M_bringBelow_14 ⟨Nat.le_refl _, Nat.le_refl _⟩ (fun r u H locs hp hw => ?_)
    refine lv_pop2_2 hx hb d_M_bringBelow_17 rfl ?_
    have hO : cV τ o < W8 := cV_lt hok (Or.inl ho) (by omega)
    exact z_vret (cZ K) hx hb hr hlocks u hw (by rw [hp.2, cV_prime τ hμ, below_1 hO hM.1 hM.2 c2]) d_M_bringBelow_18
set_option maxHeartbeats 4000000 in
set_option maxRecDepth 100000 in
theorem c_M_add (l : Launch) (K : cG) (τ : cT) (hok : cOk τ) {μ o a b : Nat} (hμ : μ < 2) (ho : o < 32) (ha : a < 32 ∨ 34 ≤ a) (ha2 : a < 44) (hb0 : b < 32 ∨ 34 ≤ b) (hb2 : b < 44) (hA : cV τ a < rMod μ) (hB : cV τ b < rMod μ) : Met l y_M_add (zW y_M_add b_M_add 6 none) (zr 2 43) (va_Pc [.ref (cO K (5 + μ)), .ref (cR K o), .ref (cR K a), .ref (cR K b)] (cC K τ)) (va_Qv (fun u => u = csV τ o (pp (rMod μ) (cV τ a) (cV τ b))) (fun u => cC K u) (cAA K)) 0 0 (cAA K) := by
  refine Met.ofW (cc := b_M_add) (maxL := 6) (ret := none) (by decide) rfl ?_
  intro p e s m args below meth c s₁ B hml hv
  obtain ⟨rfl, hw⟩ := hv
  have hx := B.exec
  have hb := B.bytes
  have hr := B.returns
  have hts := atoms_spec (ws := zW y_M_add b_M_add 6 none) B.pre
  have ht : ∀ w ∈ zT, w.before ([.ref (cO K (5 + μ)), .ref (cR K o), .ref (cR K a), .ref (cR K b)] : List Value).toArray s = true := fun w h => hts w (List.mem_cons_of_mem _ h)
  have hown : s.vm.findClass R_M = some m.cls := findClass_of_methodNamed B.named
  have hlocks := B.notSynchronized
  have hl := lv_entry ([.ref (cO K (5 + μ)), .ref (cR K o), .ref (cR K a), .ref (cR K b)]) (n := 6) (Nat.le_of_ble_eq_true rfl)
  rw [lg_entry_eq]
  generalize (lg_sl ([.ref (cO K (5 + μ)), .ref (cR K o), .ref (cR K a), .ref (cR K b)]) ++ List.replicate (6 - (lg_sl ([.ref (cO K (5 + μ)), .ref (cR K o), .ref (cR K a), .ref (cR K b)])).length) Slot.unset).toArray = ls at hl ⊢
  have hl : lv_has ls 6 [(0, .ref (cO K (5 + μ))), (1, .ref (cR K o)), (2, .ref (cR K a)), (3, .ref (cR K b))] := hl
  have hM := rMod8 hμ
  have hS : (cV τ a + cV τ b) / W8 < 2 := Nat.div_lt_of_lt_mul (by omega)
  have hR : (cV τ a + cV τ b) % W8 < W8 := Nat.mod_lt _ W8_pos
  refine lv_aload_n hx hb d_M_add_0 rfl (lv_at hl 1 rfl) ?_
  refine lv_aload_n hx hb d_M_add_1 rfl (lv_at hl 2 rfl) ?_
  refine lv_aload_n hx hb d_M_add_2 rfl (lv_at hl 3 rfl) ?_
  refine c_sl (np := 3) (As := [.ref (cR K o), .ref (cR K a), .ref (cR K b)]) (rest := []) ⟨hx, hb, hml, hown, ht⟩ hw (c_L_add l K τ hok ho ha ha2 hb0 hb2) ⟨km_M_44, ks_L_add, kc_L_add⟩ ki_L (by decide +kernel) ⟨by decide, by decide⟩ rfl rfl rfl hl.1 rfl (Nat.le_of_ble_eq_true rfl) d_M_add_3 ⟨Nat.le_refl _, Nat.le_refl _⟩ (fun r u1 H locs hp hw => ?_)
  obtain ⟨rfl, rfl⟩ := hp
  have hok1 := hok.u8 ho hR
  refine lv_lstore (lv' := [(4, .long (lN ((cV τ a + cV τ b) / W8))), (0, .ref (cO K (5 + μ))), (1, .ref (cR K o)), (2, .ref (cR K a)), (3, .ref (cR K b))]) hx hb d_M_add_6 hl (by decide) rfl (fun ls hl => ?_)
  refine lv_lload hx hb d_M_add_8 (lv_at hl 0 rfl) ?_
  refine lv_lconst (v := lN 0) hx hb d_M_add_10 (by decide) ?_
  have red : ∀ (H : Heap) (locs : List Loc) (ls : Array Slot), cH K (csV τ o ((cV τ a + cV τ b) % W8)) s H locs → lv_has ls 6 [(4, .long (lN ((cV τ a + cV τ b) / W8))), (0, .ref (cO K (5 + μ))), (1, .ref (cR K o)), (2, .ref (cR K a)), (3, .ref (cR K b))] → ((cV τ a + cV τ b) / W8 ≠ 0 ∨ ¬ (cV τ a + cV τ b) % W8 < rMod μ) → W p l e (headSpec (zW y_M_add b_M_add 6 none) (zr 2 43)).room s m ([.ref (cO K (5 + μ)), .ref (cR K o), .ref (cR K a), .ref (cR K b)] : List Value).toArray below meth c H locs 0 0 (MQ below (va_Qv (fun u => u = csV τ o (pp (rMod μ) (cV τ a) (cV τ b))) (fun u => cC K u) (cAA K)) ([.ref (cO K (5 + μ)), .ref (cR K o), .ref (cR K a), .ref (cR K b)] : List Value).toArray s 0 0 (cAA K)) (F0 m 23 ls []) := by
    intro H locs ls hw hl hc
    refine lv_aload_n hx hb d_M_add_23 rfl (lv_at hl 2 rfl) ?_
    refine lv_aload_n hx hb d_M_add_24 rfl (lv_at hl 2 rfl) ?_
    refine lv_aload_n hx hb d_M_add_25 rfl (lv_at hl 1 rfl) ?_
    refine va_get (ci := 2) (C := R_M) (T := F_M) (N := 6) (v := .ref (cR K (37 + 3 * μ))) hx hb ht ku_M hown hw.2.1 hw.1 (5 + μ) (cWs_mod K _ hμ) rfl 0 (by decide) (ht _ kf_M_21) (fun _ h9 => h9) rfl d_M_add_26 ?_
    refine c_sl (np := 3) (As := [.ref (cR K o), .ref (cR K o), .ref (cR K (37 + 3 * μ))]) (rest := []) ⟨hx, hb, hml, hown, ht⟩ hw (c_L_subtract l K (csV τ o ((cV τ a + cV τ b) % W8)) hok1 ho (Or.inl ho) (by omega) (Or.inr (by omega)) (by omega)) ⟨km_M_40, ks_L_subtract, kc_L_subtract⟩ ki_L (by decide +kernel) ⟨by decide, by decide⟩ rfl rfl rfl hl.1 rfl (Nat.le_of_ble_eq_true rfl) d_M_add_29 ⟨Nat.le_refl _, Nat.le_refl _⟩ (fun r u H locs hp hw => ?_)
    refine lv_pop2_2 hx hb d_M_add_32 rfl ?_
    obtain ⟨-, hp⟩ := hp
    rw [cV_prime _ hμ, cV_self _ (show o < 34 by omega), csV_up, pp_c1 hA hB hM.1 hM.2 hc] at hp
    exact z_vret (cZ K) hx hb hr hlocks u hw hp d_M_add_33
  refine l_ne (tgt := 23) hx hb d_M_add_11 d_M_add_12 (by decide) (by omega) (by decide) (fun c1 => red _ _ ls hw hl (Or.inl c1)) (fun c1 => ?_)
  refine lv_aload_n hx hb d_M_add_15 rfl (lv_at hl 1 rfl) ?_
  refine lv_aload_n hx hb d_M_add_16 rfl (lv_at hl 2 rfl) ?_
  refine c_ci (np := 1) (As := [.ref (cR K o)]) (rest := []) ⟨hx, hb, hml, hown, ht⟩ hw (c_M_isAbove l K (csV τ o ((cV τ a + cV τ b) % W8)) hok1 hμ (Or.inl ho) (by omega)) (5 + μ) (cWs_mod K _ hμ) rfl ⟨km_M_36, kv_M_isAbove, kx_M_isAbove, kc_M_isAbove⟩ ki_M (by decide +kernel) ⟨by decide, by decide⟩ rfl rfl rfl hl.1 rfl (Nat.le_of_ble_eq_true rfl) d_M_add_17 ⟨Nat.le_refl _, Nat.le_refl _⟩ (fun r u H locs hp hw => ?_)
  obtain ⟨hpu, rfl⟩ := hp
  rw [hpu] at hw
  have eo : cV (csV τ o ((cV τ a + cV τ b) % W8)) o = (cV τ a + cV τ b) % W8 := cV_self _ (by omega)
  refine n_ne0 (tgt := 33) hx hb d_M_add_20 (by decide) (boolN_s _) (fun c2 => ?_) (fun c2 => red _ _ ls hw hl (Or.inr (by rw [← eo]; exact boolN_0 c2)))
  have c3 := boolN_1 c2
  rw [eo] at c3
  exact z_vret (cZ K) hx hb hr hlocks _ hw (by rw [pp_c0 hA hB hM.1 c1 c3]) d_M_add_33
set_option maxHeartbeats 4000000 in
set_option maxRecDepth 100000 in
theorem c_M_subtract (l : Launch) (K : cG) (τ : cT) (hok : cOk τ) {μ o a b : Nat} (hμ : μ < 2) (ho : o < 32) (ha : a < 32 ∨ 34 ≤ a) (ha2 : a < 44) (hb0 : b < 32 ∨ 34 ≤ b) (hb2 : b < 44) (hA : cV τ a < rMod μ) (hB : cV τ b < rMod μ) : Met l y_M_subtract (zW y_M_subtract b_M_subtract 6 none) (zr 1 27) (va_Pc [.ref (cO K (5 + μ)), .ref (cR K o), .ref (cR K a), .ref (cR K b)] (cC K τ)) (va_Qv (fun u => u = csV τ o (ss (rMod μ) (cV τ a) (cV τ b))) (fun u => cC K u) (cAA K)) 0 0 (cAA K) := by
  refine Met.ofW (cc := b_M_subtract) (maxL := 6) (ret := none) (by decide) rfl ?_
  intro p e s m args below meth c s₁ B hml hv
  obtain ⟨rfl, hw⟩ := hv
  have hx := B.exec
  have hb := B.bytes
  have hr := B.returns
  have hts := atoms_spec (ws := zW y_M_subtract b_M_subtract 6 none) B.pre
  have ht : ∀ w ∈ zT, w.before ([.ref (cO K (5 + μ)), .ref (cR K o), .ref (cR K a), .ref (cR K b)] : List Value).toArray s = true := fun w h => hts w (List.mem_cons_of_mem _ h)
  have hown : s.vm.findClass R_M = some m.cls := findClass_of_methodNamed B.named
  have hlocks := B.notSynchronized
  have hl := lv_entry ([.ref (cO K (5 + μ)), .ref (cR K o), .ref (cR K a), .ref (cR K b)]) (n := 6) (Nat.le_of_ble_eq_true rfl)
  rw [lg_entry_eq]
  generalize (lg_sl ([.ref (cO K (5 + μ)), .ref (cR K o), .ref (cR K a), .ref (cR K b)]) ++ List.replicate (6 - (lg_sl ([.ref (cO K (5 + μ)), .ref (cR K o), .ref (cR K a), .ref (cR K b)])).length) Slot.unset).toArray = ls at hl ⊢
  have hl : lv_has ls 6 [(0, .ref (cO K (5 + μ))), (1, .ref (cR K o)), (2, .ref (cR K a)), (3, .ref (cR K b))] := hl
  have hM := rMod8 hμ
  have hR : (cV τ a + W8 - cV τ b) % W8 < W8 := Nat.mod_lt _ W8_pos
  refine lv_aload_n hx hb d_M_subtract_0 rfl (lv_at hl 1 rfl) ?_
  refine lv_aload_n hx hb d_M_subtract_1 rfl (lv_at hl 2 rfl) ?_
  refine lv_aload_n hx hb d_M_subtract_2 rfl (lv_at hl 3 rfl) ?_
  refine c_sl (np := 3) (As := [.ref (cR K o), .ref (cR K a), .ref (cR K b)]) (rest := []) ⟨hx, hb, hml, hown, ht⟩ hw (c_L_subtract l K τ hok ho ha ha2 hb0 hb2) ⟨km_M_40, ks_L_subtract, kc_L_subtract⟩ ki_L (by decide +kernel) ⟨by decide, by decide⟩ rfl rfl rfl hl.1 rfl (Nat.le_of_ble_eq_true rfl) d_M_subtract_3 ⟨Nat.le_refl _, Nat.le_refl _⟩ (fun r u1 H locs hp hw => ?_)
  obtain ⟨rfl, rfl⟩ := hp
  have hok1 := hok.u8 ho hR
  refine lv_lstore (lv' := [(4, .long (lN (boolN (cV τ a < cV τ b)))), (0, .ref (cO K (5 + μ))), (1, .ref (cR K o)), (2, .ref (cR K a)), (3, .ref (cR K b))]) hx hb d_M_subtract_6 hl (by decide) rfl (fun ls hl => ?_)
  refine lv_lload hx hb d_M_subtract_8 (lv_at hl 0 rfl) ?_
  refine lv_lconst (v := lN 0) hx hb d_M_subtract_10 (by decide) ?_
  refine l_eq (tgt := 25) hx hb d_M_subtract_11 d_M_subtract_12 (by decide) (Nat.lt_trans (boolN_lt _) (by decide)) (by decide) (fun c1 => ?_) (fun c1 => ?_)
  · exact z_vret (cZ K) hx hb hr hlocks _ hw (by rw [ss_c0 hA hM.1 (boolN_0 c1)]) d_M_subtract_25
  · refine lv_aload_n hx hb d_M_subtract_15 rfl (lv_at hl 2 rfl) ?_
    refine lv_aload_n hx hb d_M_subtract_16 rfl (lv_at hl 2 rfl) ?_
    refine lv_aload_n hx hb d_M_subtract_17 rfl (lv_at hl 1 rfl) ?_
    refine va_get (ci := 2) (C := R_M) (T := F_M) (N := 6) (v := .ref (cR K (37 + 3 * μ))) hx hb ht ku_M hown hw.2.1 hw.1 (5 + μ) (cWs_mod K _ hμ) rfl 0 (by decide) (ht _ kf_M_21) (fun _ h9 => h9) rfl d_M_subtract_18 ?_
    refine c_sl (np := 3) (As := [.ref (cR K o), .ref (cR K o), .ref (cR K (37 + 3 * μ))]) (rest := []) ⟨hx, hb, hml, hown, ht⟩ hw (c_L_add l K (csV τ o ((cV τ a + W8 - cV τ b) % W8)) hok1 ho (Or.inl ho) (by omega) (Or.inr (by omega)) (by omega)) ⟨km_M_44, ks_L_add, kc_L_add⟩ ki_L (by decide +kernel) ⟨by decide, by decide⟩ rfl rfl rfl hl.1 rfl (Nat.le_of_ble_eq_true rfl) d_M_subtract_21 ⟨Nat.le_refl _, Nat.le_refl _⟩ (fun r u H locs hp hw => ?_)
    refine lv_pop2_2 hx hb d_M_subtract_24 rfl ?_
    obtain ⟨-, hp⟩ := hp
    rw [cV_prime _ hμ, cV_self _ (show o < 34 by omega), csV_up, ss_c1 hB hM.1 (boolN_1 c1)] at hp
    exact z_vret (cZ K) hx hb hr hlocks u hw hp d_M_subtract_25
