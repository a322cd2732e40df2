/-! numbers of eight limbs -/
theorem rl_8 {i : Nat} (h : i < 32 ∨ 34 ≤ i) (h2 : i < 44) : rl i = 8 := by
  unfold rl
  rcases h with h | h
  · rw [if_pos h]
  · rw [if_neg (by omega), if_neg (by omega), if_pos h2]
theorem cst_lt (i : Nat) (h2 : i < 44) : cst i < b32 ^ 8 := by
  by_cases h : i < 34
  · unfold cst
    repeat (rw [if_neg (by omega)])
    decide
  · have : i = 34 ∨ i = 35 ∨ i = 36 ∨ i = 37 ∨ i = 38 ∨ i = 39 ∨ i = 40 ∨ i = 41 ∨ i = 42 ∨ i = 43 := by omega
    rcases this with rfl | rfl | rfl | rfl | rfl | rfl | rfl | rfl | rfl | rfl <;> decide
theorem cV_lt {τ : cT} (hok : cOk τ) {i : Nat} (h : i < 32 ∨ 34 ≤ i) (h2 : i < 44) : cV τ i < b32 ^ 8 := by
  by_cases h3 : i < 34
  · have := hok i h3
    rw [rl_8 h h2] at this
    exact this
  · rw [cV_st (by omega)]
    exact cst_lt i h2
theorem b32_pos : 0 < b32 := by decide
theorem dg32 (v j : Nat) : dg b32 v j < 4294967296 := dg_lt b32_pos v j
theorem lmask {x : Nat} (h : x < 2 ^ 64) : lN x &&& 4294967295 = lN (x % b32) := wb_mask (k := 32) h (by decide)
theorem lsh32 {x : Nat} (h : x < 2 ^ 64) : ((lN x).toUInt64 >>> ((nI 32).toInt64.toUInt64 &&& Int64.toUInt64 63)).toInt64 = lN (x / b32) := wb_shr (k := 32) h (by decide)
theorem csV_id {τ : cT} {o : Nat} (ho : o < 34) : csV τ o (cV τ o) = τ := by
  show (va_up τ.1 o (cV τ o), τ.2) = τ
  rw [cV_row ho, up_id]
theorem csV_up {τ : cT} {o x y : Nat} : csV (csV τ o x) o y = csV τ o y := by
  show (va_up (va_up τ.1 o x) o y, τ.2) = (va_up τ.1 o y, τ.2)
  rw [up_up]
/-- a row is read while another, or the same, is written from below -/
theorem dg_part {τ : cT} {o a w k : Nat} (ho : o < 34) (hup : ∀ j, k ≤ j → dg b32 w j = dg b32 (cV τ o) j) : dg b32 (cV (csV τ o w) a) k = dg b32 (cV τ a) k := by
  by_cases h : a = o
  · subst h; rw [cV_self _ ho]; exact hup k (Nat.le_refl k)
  · rw [cV_ne _ ho h]
set_option maxHeartbeats 4000000 in
set_option maxRecDepth 100000 in
theorem c_L_copy (l : Launch) (K : cG) (τ : cT) (hok : cOk τ) {o a : Nat} (ho : o < 32) (ha2 : a < 44) : Met l y_L_copy (zW y_L_copy b_L_copy 2 none) (zr 1 26) (va_Pc [.ref (cR K o), .ref (cR K a)] (cC K τ)) (va_Qv (fun u => u = csV τ o (cV τ a % b32 ^ 8)) (fun u => cC K u) (cAA K)) 0 0 (cAA K) := by
  refine Met.ofW (cc := b_L_copy) (maxL := 2) (ret := none) (by decide) rfl ?_
  intro p e s m args below meth c s₁ B hml hv
  obtain ⟨rfl, hw⟩ := hv
  have hx := B.exec
  have hb := B.bytes
  have hr := B.returns
  have hts := atoms_spec (ws := zW y_L_copy b_L_copy 2 none) B.pre
  have ht : ∀ w ∈ zT, w.before ([.ref (cR K o), .ref (cR K a)] : List Value).toArray s = true := fun w h => hts w (List.mem_cons_of_mem _ h)
  have hown : s.vm.findClass R_L = some m.cls := findClass_of_methodNamed B.named
  have hlocks := B.notSynchronized
  have hl := lv_entry ([.ref (cR K o), .ref (cR K a)]) (n := 2) (Nat.le_of_ble_eq_true rfl)
  rw [lg_entry_eq]
  generalize (lg_sl ([.ref (cR K o), .ref (cR K a)]) ++ List.replicate (2 - (lg_sl ([.ref (cR K o), .ref (cR K a)])).length) Slot.unset).toArray = ls at hl ⊢
  have hl : lv_has ls 2 [(0, .ref (cR K o)), (1, .ref (cR K a))] := hl
  refine lv_aload_n hx hb d_L_copy_0 rfl (lv_at hl 1 rfl) ?_
  refine lv_iconst (v := nI 0) hx hb d_L_copy_1 (by decide) ?_
  refine lv_aload_n hx hb d_L_copy_2 rfl (lv_at hl 0 rfl) ?_
  refine lv_iconst (v := nI 0) hx hb d_L_copy_3 (by decide) ?_
  refine lv_bipush (v := nI 8) hx hb d_L_copy_4 (by decide) ?_
  refine c_copyR hx hb (hml.trans hl.1.symm) ht hown (ht _ km_L_9) (ht _ kY_native) (ht _ ks_Y_arraycopy) hw hok ho ha2 (by decide) (by decide) d_L_copy_6 (fun H locs hw => ?_)
  exact z_vret (cZ K) hx hb hr hlocks _ hw rfl d_L_copy_9
set_option maxHeartbeats 4000000 in
set_option maxRecDepth 100000 in
theorem c_L_areSame (l : Launch) (K : cG) (τ : cT) (hok : cOk τ) {a b : Nat} (ha : a < 32 ∨ 34 ≤ a) (ha2 : a < 44) (hb0 : b < 32 ∨ 34 ≤ b) (hb2 : b < 44) : Met l y_L_areSame (zW y_L_areSame b_L_areSame 3 (some .boolean)) (zr 0 0) (va_Pc [.ref (cR K a), .ref (cR K b)] (cC K τ)) (va_Qi (fun r u => u = τ ∧ r = nI (boolN (cV τ a = cV τ b))) (fun u => cC K u) (cAA K)) 0 0 (cAA K) := by
  refine Met.ofW (cc := b_L_areSame) (maxL := 3) (ret := (some .boolean)) (by decide) rfl ?_
  intro p e s m args below meth c s₁ B hml hv
  obtain ⟨rfl, hw⟩ := hv
  have hx := B.exec
  have hb := B.bytes
  have hr := B.returns
  have hts := atoms_spec (ws := zW y_L_areSame b_L_areSame 3 (some .boolean)) B.pre
  have ht : ∀ w ∈ zT, w.before ([.ref (cR K a), .ref (cR K b)] : List Value).toArray s = true := fun w h => hts w (List.mem_cons_of_mem _ h)
  have hown : s.vm.findClass R_L = some m.cls := findClass_of_methodNamed B.named
  have hlocks := B.notSynchronized
  have hl := lv_entry ([.ref (cR K a), .ref (cR K b)]) (n := 3) (Nat.le_of_ble_eq_true rfl)
  rw [lg_entry_eq]
  generalize (lg_sl ([.ref (cR K a), .ref (cR K b)]) ++ List.replicate (3 - (lg_sl ([.ref (cR K a), .ref (cR K b)])).length) Slot.unset).toArray = ls at hl ⊢
  have hl : lv_has ls 3 [(0, .ref (cR K a)), (1, .ref (cR K b))] := hl
  have ra := rl_8 ha ha2
  have rb := rl_8 hb0 hb2
  have loop : ∀ (n k : Nat), k + n = 8 → (∀ j, j < k → dg b32 (cV τ a) j = dg b32 (cV τ b) j) → ∀ (H : Heap) (locs : List Loc) (ls : Array Slot), cH K τ s H locs → lv_has ls 3 [(0, .ref (cR K a)), (1, .ref (cR K b)), (2, .int (nI (k)))] → W p l e (headSpec (zW y_L_areSame b_L_areSame 3 (some .boolean)) (zr 0 0)).room s m ([.ref (cR K a), .ref (cR K b)] : List Value).toArray below meth c H locs 0 0 (MQ below (va_Qi (fun r u => u = τ ∧ r = nI (boolN (cV τ a = cV τ b))) (fun u => cC K u) (cAA K)) ([.ref (cR K a), .ref (cR K b)] : List Value).toArray s 0 0 (cAA K)) (F0 m 2 ls []) := by
    intro n
    induction n with
    | zero =>
      intro k hk hj H locs ls hw hl
      refine lv_iload_n hx hb d_L_areSame_2 rfl (lv_at hl 2 rfl) ?_
      refine lv_bipush (v := nI 8) hx hb d_L_areSame_3 (by decide) ?_
      refine n_ge (tgt := 26) hx hb d_L_areSame_5 (by decide) (by omega) (by decide) (fun _ => ?_) (fun h => absurd h (by omega))
      refine lv_iconst (v := nI 1) hx hb d_L_areSame_26 (by decide) ?_
      have e1 : cV τ a = cV τ b := dg_ext' 8 (cV_lt hok ha ha2) (cV_lt hok hb0 hb2) (fun j h => hj j (by omega))
      exact z_zret (cZ K) hx hb hr hlocks (nar_b (by decide)) τ hw ⟨rfl, by rw [boolN_t e1]⟩ d_L_areSame_27
    | succ n ih =>
      intro k hk hj H locs ls hw hl
      refine lv_iload_n hx hb d_L_areSame_2 rfl (lv_at hl 2 rfl) ?_
      refine lv_bipush (v := nI 8) hx hb d_L_areSame_3 (by decide) ?_
      refine n_ge (tgt := 26) hx hb d_L_areSame_5 (by decide) (by omega) (by decide) (fun h => absurd h (by omega)) (fun _ => ?_)
      refine lv_aload_n hx hb d_L_areSame_8 rfl (lv_at hl 0 rfl) ?_
      refine lv_iload_n hx hb d_L_areSame_9 rfl (lv_at hl 2 rfl) ?_
      refine c_ld hx hb hw (by omega) (by omega) d_L_areSame_10 ?_
      refine tp_l (y := lN (dg b32 (cV τ a) k)) (rfl) ?_
      refine lv_aload_n hx hb d_L_areSame_11 rfl (lv_at hl 1 rfl) ?_
      refine lv_iload_n hx hb d_L_areSame_12 rfl (lv_at hl 2 rfl) ?_
      refine c_ld hx hb hw (by omega) (by omega) d_L_areSame_13 ?_
      refine tp_l (y := lN (dg b32 (cV τ b) k)) (rfl) ?_
      have da := dg32 (cV τ a) k
      have db := dg32 (cV τ b) k
      refine l_eq (tgt := 20) hx hb d_L_areSame_14 d_L_areSame_15 (by decide) (by omega) (by omega) (fun c1 => ?_) (fun c1 => ?_)
      · refine lv_iinc (v := nI (k + 1)) (lv' := [(2, .int (nI (k + 1))), (0, .ref (cR K a)), (1, .ref (cR K b))]) hx hb d_L_areSame_20 hl (k := 2) rfl (nI_add k 1) (by decide) rfl (fun ls hl => ?_)
        refine lv_goto (tgt := 2) hx hb d_L_areSame_23 (by decide) ?_
        exact ih (k + 1) (by omega) (fun j h => if h2 : j = k then by rw [h2]; exact c1 else hj j (by omega)) H locs ls hw (lv_sub hl [1, 2, 0] rfl)
      · refine lv_iconst (v := nI 0) hx hb d_L_areSame_18 (by decide) ?_
        exact z_zret (cZ K) hx hb hr hlocks (nar_b (by decide)) τ hw ⟨rfl, by rw [boolN_f (fun q => c1 (by rw [q]))]⟩ d_L_areSame_19
  refine lv_iconst (v := nI 0) hx hb d_L_areSame_0 (by decide) ?_
  refine lv_istore_n (lv' := [(2, .int (nI (0))), (0, .ref (cR K a)), (1, .ref (cR K b))]) hx hb d_L_areSame_1 rfl hl (by decide) rfl (fun ls hl => ?_)
  exact loop 8 0 rfl (fun j h => absurd h (by omega)) _ _ ls hw (lv_sub hl [1, 2, 0] rfl)
set_option maxHeartbeats 4000000 in
set_option maxRecDepth 100000 in
theorem c_L_isZero (l : Launch) (K : cG) (τ : cT) (hok : cOk τ) {a : Nat} (ha : a < 32 ∨ 34 ≤ a) (ha2 : a < 44) : Met l y_L_isZero (zW y_L_isZero b_L_isZero 1 (some .boolean)) (zr 1 22) (va_Pc [.ref (cR K a)] (cC K τ)) (va_Qi (fun r u => u = τ ∧ r = nI (boolN (cV τ a = 0))) (fun u => cC K u) (cAA K)) 0 0 (cAA K) := by
  refine Met.ofW (cc := b_L_isZero) (maxL := 1) (ret := (some .boolean)) (by decide) rfl ?_
  intro p e s m args below meth c s₁ B hml hv
  obtain ⟨rfl, hw⟩ := hv
  have hx := B.exec
  have hb := B.bytes
  have hr := B.returns
  have hts := atoms_spec (ws := zW y_L_isZero b_L_isZero 1 (some .boolean)) B.pre
  have ht : ∀ w ∈ zT, w.before ([.ref (cR K a)] : List Value).toArray s = true := fun w h => hts w (List.mem_cons_of_mem _ h)
  have hown : s.vm.findClass R_L = some m.cls := findClass_of_methodNamed B.named
  have hlocks := B.notSynchronized
  have hl := lv_entry ([.ref (cR K a)]) (n := 1) (Nat.le_of_ble_eq_true rfl)
  rw [lg_entry_eq]
  generalize (lg_sl ([.ref (cR K a)]) ++ List.replicate (1 - (lg_sl ([.ref (cR K a)])).length) Slot.unset).toArray = ls at hl ⊢
  have hl : lv_has ls 1 [(0, .ref (cR K a))] := hl
  refine lv_aload_n hx hb d_L_isZero_0 rfl (lv_at hl 0 rfl) ?_
  refine c_getsN hx hb hown hw 34 (by decide) (by decide) (index := 17) (by decide) d_L_isZero_1 ?_
  refine c_si (np := 2) (As := [.ref (cR K a), .ref (cR K 34)]) (rest := []) ⟨hx, hb, hml, hown, ht⟩ hw (c_L_areSame l K τ hok ha ha2 (by decide) (by decide)) ⟨km_L_21, ks_L_areSame, kc_L_areSame⟩ ki_L (by decide +kernel) ⟨by decide, by decide⟩ rfl rfl rfl hl.1 rfl (Nat.le_of_ble_eq_true rfl) d_L_isZero_4 ⟨Nat.le_refl _, Nat.le_refl _⟩ (fun r u H locs hp hw => ?_)
  obtain ⟨hpu, rfl⟩ := hp
  rw [hpu] at hw
  exact z_zret (cZ K) hx hb hr hlocks (nar_b (boolN_lt _)) τ hw ⟨rfl, rfl⟩ d_L_isZero_7
set_option maxHeartbeats 4000000 in
set_option maxRecDepth 100000 in
theorem c_L_isOdd (l : Launch) (K : cG) (τ : cT) {a : Nat} (ha : a < 32 ∨ 34 ≤ a) (ha2 : a < 44) : Met l y_L_isOdd (zW y_L_isOdd b_L_isOdd 1 (some .boolean)) (zr 0 0) (va_Pc [.ref (cR K a)] (cC K τ)) (va_Qi (fun r u => u = τ ∧ r = nI (boolN (cV τ a % 2 = 1))) (fun u => cC K u) (cAA K)) 0 0 (cAA K) := by
  refine Met.ofW (cc := b_L_isOdd) (maxL := 1) (ret := (some .boolean)) (by decide) rfl ?_
  intro p e s m args below meth c s₁ B hml hv
  obtain ⟨rfl, hw⟩ := hv
  have hx := B.exec
  have hb := B.bytes
  have hr := B.returns
  have hts := atoms_spec (ws := zW y_L_isOdd b_L_isOdd 1 (some .boolean)) B.pre
  have ht : ∀ w ∈ zT, w.before ([.ref (cR K a)] : List Value).toArray s = true := fun w h => hts w (List.mem_cons_of_mem _ h)
  have hown : s.vm.findClass R_L = some m.cls := findClass_of_methodNamed B.named
  have hlocks := B.notSynchronized
  have hl := lv_entry ([.ref (cR K a)]) (n := 1) (Nat.le_of_ble_eq_true rfl)
  rw [lg_entry_eq]
  generalize (lg_sl ([.ref (cR K a)]) ++ List.replicate (1 - (lg_sl ([.ref (cR K a)])).length) Slot.unset).toArray = ls at hl ⊢
  have hl : lv_has ls 1 [(0, .ref (cR K a))] := hl
  have ra := rl_8 ha ha2
  have d0 := dg32 (cV τ a) 0
  have e0 : dg b32 (cV τ a) 0 % 2 = cV τ a % 2 := by unfold dg; rw [Nat.pow_zero, Nat.div_one]; show cV τ a % 4294967296 % 2 = _; omega
  refine lv_aload_n hx hb d_L_isOdd_0 rfl (lv_at hl 0 rfl) ?_
  refine lv_iconst (v := nI 0) hx hb d_L_isOdd_1 (by decide) ?_
  refine c_ld hx hb hw (by omega) (by omega) d_L_isOdd_2 ?_
  refine tp_l (y := lN (dg b32 (cV τ a) 0)) (rfl) ?_
  refine lv_lconst (v := lN 1) hx hb d_L_isOdd_3 (by decide) ?_
  refine lv_land hx hb d_L_isOdd_4 ?_
  refine tp_l (y := lN (cV τ a % 2)) ((wb_mask (k := 1) (Nat.lt_trans d0 (by decide)) (by decide)).trans (congrArg lN e0)) ?_
  refine lv_lconst (v := lN 0) hx hb d_L_isOdd_5 (by decide) ?_
  refine l_eq (tgt := 14) hx hb d_L_isOdd_6 d_L_isOdd_7 (by decide) (by omega) (by decide) (fun c1 => ?_) (fun c1 => ?_)
  · refine lv_iconst (v := nI 0) hx hb d_L_isOdd_14 (by decide) ?_
    exact z_zret (cZ K) hx hb hr hlocks (nar_b (by decide)) τ hw ⟨rfl, by rw [boolN_f (by omega)]⟩ d_L_isOdd_15
  · refine lv_iconst (v := nI 1) hx hb d_L_isOdd_10 (by decide) ?_
    refine lv_goto (tgt := 15) hx hb d_L_isOdd_11 (by decide) ?_
    exact z_zret (cZ K) hx hb hr hlocks (nar_b (by decide)) τ hw ⟨rfl, by rw [boolN_t (by omega)]⟩ d_L_isOdd_15
theorem bit_dg32 (v k : Nat) : dg b32 v (k / 32) / 2 ^ (k % 32) % 2 = v / 2 ^ k % 2 := by
  unfold dg
  have e : (2 : Nat) ^ k = b32 ^ (k / 32) * 2 ^ (k % 32) := by
    rw [show b32 = 2 ^ 32 by decide, ← Nat.pow_mul, ← Nat.pow_add]
    congr 1
    omega
  rw [e, ← Nat.div_div_eq_div_mul]
  generalize v / b32 ^ (k / 32) = z
  have ht : k % 32 < 32 := Nat.mod_lt _ (by decide)
  generalize k % 32 = t at ht ⊢
  have e2 : b32 = 2 ^ t * (2 * 2 ^ (31 - t)) := by
    rw [← Nat.pow_succ', ← Nat.pow_add, show b32 = 2 ^ 32 by decide]
    congr 1
    omega
  rw [e2, Nat.mod_mul_right_div_self, Nat.mod_mul_right_mod]
set_option maxHeartbeats 4000000 in
set_option maxRecDepth 100000 in
theorem c_L_hasBit (l : Launch) (K : cG) (τ : cT) {a k : Nat} (ha : a < 32 ∨ 34 ≤ a) (ha2 : a < 44) (hk : k < 256) : Met l y_L_hasBit (zW y_L_hasBit b_L_hasBit 2 (some .boolean)) (zr 0 0) (va_Pc [.ref (cR K a), .int (nI (k))] (cC K τ)) (va_Qi (fun r u => u = τ ∧ r = nI (boolN (cV τ a / 2 ^ k % 2 = 1))) (fun u => cC K u) (cAA K)) 0 0 (cAA K) := by
  refine Met.ofW (cc := b_L_hasBit) (maxL := 2) (ret := (some .boolean)) (by decide) rfl ?_
  intro p e s m args below meth c s₁ B hml hv
  obtain ⟨rfl, hw⟩ := hv
  have hx := B.exec
  have hb := B.bytes
  have hr := B.returns
  have hts := atoms_spec (ws := zW y_L_hasBit b_L_hasBit 2 (some .boolean)) B.pre
  have ht : ∀ w ∈ zT, w.before ([.ref (cR K a), .int (nI (k))] : List Value).toArray s = true := fun w h => hts w (List.mem_cons_of_mem _ h)
  have hown : s.vm.findClass R_L = some m.cls := findClass_of_methodNamed B.named
  have hlocks := B.notSynchronized
  have hl := lv_entry ([.ref (cR K a), .int (nI (k))]) (n := 2) (Nat.le_of_ble_eq_true rfl)
  rw [lg_entry_eq]
  generalize (lg_sl ([.ref (cR K a), .int (nI (k))]) ++ List.replicate (2 - (lg_sl ([.ref (cR K a), .int (nI (k))])).length) Slot.unset).toArray = ls at hl ⊢
  have hl : lv_has ls 2 [(0, .ref (cR K a)), (1, .int (nI (k)))] := hl
  have ra := rl_8 ha ha2
  have d0 := dg32 (cV τ a) (k / 32)
  have e0 := bit_dg32 (cV τ a) k
  refine lv_aload_n hx hb d_L_hasBit_0 rfl (lv_at hl 0 rfl) ?_
  refine lv_iload_n hx hb d_L_hasBit_1 rfl (lv_at hl 1 rfl) ?_
  refine lv_bipush (v := nI 32) hx hb d_L_hasBit_2 (by decide) ?_
  refine lv_idiv hx hb d_L_hasBit_4 (by decide) ?_
  refine tp_i (y := nI (k / 32)) (pk_div (by omega) (by decide) (by decide)) ?_
  refine c_ld hx hb hw (by omega) (by omega) d_L_hasBit_5 ?_
  refine tp_l (y := lN (dg b32 (cV τ a) (k / 32))) (rfl) ?_
  refine lv_iload_n hx hb d_L_hasBit_6 rfl (lv_at hl 1 rfl) ?_
  refine lv_bipush (v := nI 32) hx hb d_L_hasBit_7 (by decide) ?_
  refine lv_irem hx hb d_L_hasBit_9 (by decide) ?_
  refine tp_i (y := nI (k % 32)) (pk_rem (by omega) (by decide) (by decide)) ?_
  refine lv_lushr (v := lN (dg b32 (cV τ a) (k / 32) / 2 ^ (k % 32))) hx hb d_L_hasBit_10 (wb_shr (Nat.lt_trans d0 (by decide)) (Nat.lt_trans (Nat.mod_lt k (show 0 < 32 by decide)) (by decide))) ?_
  refine lv_lconst (v := lN 1) hx hb d_L_hasBit_11 (by decide) ?_
  refine lv_land hx hb d_L_hasBit_12 ?_
  refine tp_l (y := lN (cV τ a / 2 ^ k % 2)) ((wb_mask (k := 1) (Nat.lt_of_le_of_lt (Nat.div_le_self _ _) (Nat.lt_trans d0 (by decide))) (by decide)).trans (congrArg lN e0)) ?_
  refine lv_lconst (v := lN 0) hx hb d_L_hasBit_13 (by decide) ?_
  have hm2 : cV τ a / 2 ^ k % 2 < 2 := Nat.mod_lt _ (by decide)
  generalize hz : cV τ a / 2 ^ k % 2 = z at hm2 ⊢
  refine l_eq (tgt := 22) hx hb d_L_hasBit_14 d_L_hasBit_15 (by decide) (by omega) (by decide) (fun c1 => ?_) (fun c1 => ?_)
  · refine lv_iconst (v := nI 0) hx hb d_L_hasBit_22 (by decide) ?_
    exact z_zret (cZ K) hx hb hr hlocks (nar_b (by decide)) τ hw ⟨rfl, by rw [boolN_f (by omega)]⟩ d_L_hasBit_23
  · refine lv_iconst (v := nI 1) hx hb d_L_hasBit_18 (by decide) ?_
    refine lv_goto (tgt := 23) hx hb d_L_hasBit_19 (by decide) ?_
    exact z_zret (cZ K) hx hb hr hlocks (nar_b (by decide)) τ hw ⟨rfl, by rw [boolN_t (by omega)]⟩ d_L_hasBit_23
set_option maxHeartbeats 4000000 in
set_option maxRecDepth 100000 in
theorem c_L_isBelow (l : Launch) (K : cG) (τ : cT) (hok : cOk τ) {a b : Nat} (ha : a < 32 ∨ 34 ≤ a) (ha2 : a < 44) (hb0 : b < 32 ∨ 34 ≤ b) (hb2 : b < 44) : Met l y_L_isBelow (zW y_L_isBelow b_L_isBelow 3 (some .boolean)) (zr 0 0) (va_Pc [.ref (cR K a), .ref (cR K b)] (cC K τ)) (va_Qi (fun r u => u = τ ∧ r = nI (boolN (cV τ a < cV τ b))) (fun u => cC K u) (cAA K)) 0 0 (cAA K) := by
  refine Met.ofW (cc := b_L_isBelow) (maxL := 3) (ret := (some .boolean)) (by decide) rfl ?_
  intro p e s m args below meth c s₁ B hml hv
  obtain ⟨rfl, hw⟩ := hv
  have hx := B.exec
  have hb := B.bytes
  have hr := B.returns
  have hts := atoms_spec (ws := zW y_L_isBelow b_L_isBelow 3 (some .boolean)) B.pre
  have ht : ∀ w ∈ zT, w.before ([.ref (cR K a), .ref (cR K b)] : List Value).toArray s = true := fun w h => hts w (List.mem_cons_of_mem _ h)
  have hown : s.vm.findClass R_L = some m.cls := findClass_of_methodNamed B.named
  have hlocks := B.notSynchronized
  have hl := lv_entry ([.ref (cR K a), .ref (cR K b)]) (n := 3) (Nat.le_of_ble_eq_true rfl)
  rw [lg_entry_eq]
  generalize (lg_sl ([.ref (cR K a), .ref (cR K b)]) ++ List.replicate (3 - (lg_sl ([.ref (cR K a), .ref (cR K b)])).length) Slot.unset).toArray = ls at hl ⊢
  have hl : lv_has ls 3 [(0, .ref (cR K a)), (1, .ref (cR K b))] := hl
  have ra := rl_8 ha ha2
  have rb := rl_8 hb0 hb2
  have loop : ∀ (k : Nat), k ≤ 8 → (∀ j, k ≤ j → j < 8 → dg b32 (cV τ a) j = dg b32 (cV τ b) j) → ∀ (H : Heap) (locs : List Loc) (ls : Array Slot), cH K τ s H locs → lv_has ls 3 [(0, .ref (cR K a)), (1, .ref (cR K b)), (2, .int (iv k))] → W p l e (headSpec (zW y_L_isBelow b_L_isBelow 3 (some .boolean)) (zr 0 0)).room s m ([.ref (cR K a), .ref (cR K b)] : List Value).toArray below meth c H locs 0 0 (MQ below (va_Qi (fun r u => u = τ ∧ r = nI (boolN (cV τ a < cV τ b))) (fun u => cC K u) (cAA K)) ([.ref (cR K a), .ref (cR K b)] : List Value).toArray s 0 0 (cAA K)) (F0 m 3 ls []) := by
    intro k
    induction k with
    | zero =>
      intro hk hj H locs ls hw hl
      refine lv_iload_n hx hb d_L_isBelow_3 rfl (lv_at hl 2 rfl) ?_
      refine lv_if_lt (tgt := 39) hx hb d_L_isBelow_4 (by decide) (fun _ => ?_) (fun h => absurd (show iv 0 < 0 by decide) h)
      refine lv_iconst (v := nI 0) hx hb d_L_isBelow_39 (by decide) ?_
      have e1 : cV τ a = cV τ b := dg_ext' 8 (cV_lt hok ha ha2) (cV_lt hok hb0 hb2) (fun j h => hj j (Nat.zero_le _) h)
      exact z_zret (cZ K) hx hb hr hlocks (nar_b (by decide)) τ hw ⟨rfl, by rw [boolN_f (by rw [e1]; exact Nat.lt_irrefl _)]⟩ d_L_isBelow_40
    | succ k ih =>
      intro hk hj H locs ls hw hl
      have hl : lv_has ls 3 [(0, .ref (cR K a)), (1, .ref (cR K b)), (2, .int (nI (k)))] := hl
      refine lv_iload_n hx hb d_L_isBelow_3 rfl (lv_at hl 2 rfl) ?_
      refine lv_if_lt (tgt := 39) hx hb d_L_isBelow_4 (by decide) (fun h => absurd h (nI_pos (by omega))) (fun _ => ?_)
      refine lv_aload_n hx hb d_L_isBelow_7 rfl (lv_at hl 0 rfl) ?_
      refine lv_iload_n hx hb d_L_isBelow_8 rfl (lv_at hl 2 rfl) ?_
      refine c_ld hx hb hw (by omega) (by omega) d_L_isBelow_9 ?_
      refine tp_l (y := lN (dg b32 (cV τ a) k)) (rfl) ?_
      refine lv_aload_n hx hb d_L_isBelow_10 rfl (lv_at hl 1 rfl) ?_
      refine lv_iload_n hx hb d_L_isBelow_11 rfl (lv_at hl 2 rfl) ?_
      refine c_ld hx hb hw (by omega) (by omega) d_L_isBelow_12 ?_
      refine tp_l (y := lN (dg b32 (cV τ b) k)) (rfl) ?_
      have da := dg32 (cV τ a) k
      have db := dg32 (cV τ b) k
      refine l_eq (tgt := 33) hx hb d_L_isBelow_13 d_L_isBelow_14 (by decide) (by omega) (by omega) (fun c1 => ?_) (fun c1 => ?_)
      · refine lv_iinc (v := iv k) (lv' := [(2, .int (iv k)), (0, .ref (cR K a)), (1, .ref (cR K b))]) hx hb d_L_isBelow_33 hl (k := 2) rfl (iv_dec k) (by decide) rfl (fun ls hl => ?_)
        refine lv_goto (tgt := 3) hx hb d_L_isBelow_36 (by decide) ?_
        exact ih (by omega) (fun j h1 h2 => if h3 : j = k then by rw [h3]; exact c1 else hj j (by omega) h2) H locs ls hw (lv_sub hl [1, 2, 0] rfl)
      · refine lv_aload_n hx hb d_L_isBelow_17 rfl (lv_at hl 0 rfl) ?_
        refine lv_iload_n hx hb d_L_isBelow_18 rfl (lv_at hl 2 rfl) ?_
        refine c_ld hx hb hw (by omega) (by omega) d_L_isBelow_19 ?_
        refine tp_l (y := lN (dg b32 (cV τ a) k)) (rfl) ?_
        refine lv_aload_n hx hb d_L_isBelow_20 rfl (lv_at hl 1 rfl) ?_
        refine lv_iload_n hx hb d_L_isBelow_21 rfl (lv_at hl 2 rfl) ?_
        refine c_ld hx hb hw (by omega) (by omega) d_L_isBelow_22 ?_
        refine tp_l (y := lN (dg b32 (cV τ b) k)) (rfl) ?_
        refine l_ge (tgt := 31) hx hb d_L_isBelow_23 d_L_isBelow_24 (by decide) (fun c2 => ?_) (fun c2 => ?_)
        · have c3 := (lN_le' (show dg b32 (cV τ b) k < 2 ^ 63 by omega) (show dg b32 (cV τ a) k < 2 ^ 63 by omega)).mp c2
          refine lv_iconst (v := nI 0) hx hb d_L_isBelow_31 (by decide) ?_
          exact z_zret (cZ K) hx hb hr hlocks (nar_b (by decide)) τ hw ⟨rfl, by rw [boolN_f (fun q => Nat.lt_asymm q (dg_cmp b32_pos (show k < 8 by omega) (cV_lt hok hb0 hb2) (cV_lt hok ha ha2) (fun j h1 h2 => (hj j h1 h2).symm) (by omega)))]⟩ d_L_isBelow_32
        · have c3 : ¬ dg b32 (cV τ b) k ≤ dg b32 (cV τ a) k := fun q => c2 ((lN_le' (by omega) (by omega)).mpr q)
          refine lv_iconst (v := nI 1) hx hb d_L_isBelow_27 (by decide) ?_
          refine lv_goto (tgt := 32) hx hb d_L_isBelow_28 (by decide) ?_
          exact z_zret (cZ K) hx hb hr hlocks (nar_b (by decide)) τ hw ⟨rfl, by rw [boolN_t (dg_cmp b32_pos (show k < 8 by omega) (cV_lt hok ha ha2) (cV_lt hok hb0 hb2) (fun j h1 h2 => hj j h1 h2) (by omega))]⟩ d_L_isBelow_32
  refine lv_bipush (v := nI 7) hx hb d_L_isBelow_0 (by decide) ?_
  refine lv_istore_n (lv' := [(2, .int (nI (7))), (0, .ref (cR K a)), (1, .ref (cR K b))]) hx hb d_L_isBelow_2 rfl hl (by decide) rfl (fun ls hl => ?_)
  exact loop 8 (by decide) (fun j h1 h2 => absurd h1 (by omega)) _ _ ls hw (lv_sub hl [1, 2, 0] rfl)
