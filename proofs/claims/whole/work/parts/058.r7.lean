/-! bits, powers, quotients of the reference -/
theorem sh_c : ∀ t, t < 32 → ((nI t &&& 31).toBitVec.smod 32).toNat = t := by decide +kernel
theorem shrt {n t : Nat} (hn : n < 2 ^ 31) (ht : t < 32) : nI n >>> (nI t &&& 31) = nI (n / 2 ^ t) := pk_shrN hn _ t (sh_c t ht)
theorem and1 {n : Nat} (h : n < 2 ^ 32) : nI n &&& nI 1 = nI (n % 2) := pk_andN h 1 (by decide)
theorem bit_dg (v k : Nat) : dg b26 v (k / 26) / 2 ^ (k % 26) % 2 = v / 2 ^ k % 2 := by
  unfold dg
  have e : (2 : Nat) ^ k = b26 ^ (k / 26) * 2 ^ (k % 26) := by
    rw [show b26 = 2 ^ 26 by decide, ← Nat.pow_mul, ← Nat.pow_add]
    congr 1
    omega
  rw [e, ← Nat.div_div_eq_div_mul]
  generalize v / b26 ^ (k / 26) = z
  have ht : k % 26 < 26 := Nat.mod_lt _ (by decide)
  generalize k % 26 = t at ht ⊢
  have e2 : b26 = 2 ^ t * (2 * 2 ^ (25 - t)) := by
    rw [← Nat.pow_succ', ← Nat.pow_add, show b26 = 2 ^ 26 by decide]
    congr 1
    omega
  rw [e2, Nat.mod_mul_right_div_self, Nat.mod_mul_right_mod]
def iv : Nat → Int32
  | 0 => -1
  | n + 1 => nI n
theorem iv_dec (n : Nat) : nI n + Int32.ofInt (-1) = iv n := by
  cases n with
  | zero => decide
  | succ n => exact pk_m1 n
/-- σ with other rows, and any long rows -/
def rU (σ : rS) (V : Nat → Nat) (u : rS) : Prop := ∃ P F, u = rsP (rsF (rsV σ V) F) P
theorem rU.V {σ u : rS} {V : Nat → Nat} (h : rU σ V u) : rV u = V := by
  obtain ⟨P, F, rfl⟩ := h
  rfl
theorem rU.trans {σ u v : rS} {V W : Nat → Nat} (h : rU σ V u) (h2 : rU u W v) : rU σ W v := by
  obtain ⟨P, F, rfl⟩ := h
  obtain ⟨P2, F2, rfl⟩ := h2
  exact ⟨P2, F2, rfl⟩
theorem rU.rfl' (σ : rS) : rU σ (rV σ) σ := ⟨rP σ, rF σ, rfl⟩
theorem rU.of {σ u : rS} {V : Nat → Nat} (h : u = rsV σ V) : rU σ V u := ⟨rP σ, rF σ, h⟩
theorem rU.ok {σ u : rS} {V : Nat → Nat} (h : rU σ V u) (hV : ∀ r, V r < b26 ^ 10) : rOk u := by
  intro r
  rw [h.V]
  exact hV r
theorem up_lt {V : Nat → Nat} {B : Nat} (h : ∀ r, V r < B) {k x : Nat} (hx : x < B) : ∀ r, va_up V k x r < B := by
  intro r
  unfold va_up
  split
  · exact hx
  · exact h r
theorem rMod_lt {μ : Nat} (h : μ < 2) : rMod μ < W256 := by
  rcases (show μ = 0 ∨ μ = 1 by omega) with rfl | rfl <;> decide +kernel
theorem rMod_one {μ : Nat} (h : μ < 2) : 1 < rMod μ := by
  have h1 := rMod_half h
  have h2 : 2 < W256 := by decide
  omega
theorem mod_ok {μ x : Nat} (h : μ < 2) : x % rMod μ < b26 ^ 10 := Nat.lt_of_lt_of_le (Nat.lt_trans (Nat.mod_lt _ (rMod_pos h)) (rMod_lt h)) W256_10
theorem pow_bit (E k : Nat) : E / 2 ^ k = 2 * (E / 2 ^ (k + 1)) + E / 2 ^ k % 2 := by
  rw [Nat.pow_succ, ← Nat.div_div_eq_div_mul]
  omega
theorem pow_step0 {A E k M x : Nat} (hx : x = A ^ (E / 2 ^ (k + 1)) % M) (hb : ¬ E / 2 ^ k % 2 = 1) : x * x % M = A ^ (E / 2 ^ k) % M := by
  have e := pow_bit E k
  rw [show E / 2 ^ k % 2 = 0 by omega, Nat.add_zero] at e
  rw [hx, ← Nat.mul_mod, ← Nat.pow_add, ← Nat.two_mul, ← e]
theorem pow_step1 {A E k M x : Nat} (hx : x = A ^ (E / 2 ^ (k + 1)) % M) (hb : E / 2 ^ k % 2 = 1) : x * x % M * A % M = A ^ (E / 2 ^ k) % M := by
  have e := pow_bit E k
  rw [hb] at e
  rw [hx, ← Nat.mul_mod, ← Nat.pow_add, ← Nat.two_mul, Nat.mod_mul_mod, ← Nat.pow_succ, Nat.succ_eq_add_one, ← e]
set_option maxHeartbeats 4000000 in
set_option maxRecDepth 100000 in
theorem c_R_bit (l : Launch) (G : rG) (σ : rS) {a k : Nat} (h1 : a < 48) (h2 : k < 260) : Met l y_R_bit (zW y_R_bit b_R_bit 3 (some .boolean)) (zr 0 0) (va_Pc [.ref (rA G 0), .int (nI (a)), .int (nI (k))] (rC G σ)) (va_Qi (fun r u => u = σ ∧ r = nI (boolN (rV σ a / 2 ^ k % 2 = 1))) (fun u => rC G u) (rAA G)) 0 0 (rAA G) := by
  refine Met.ofW (cc := b_R_bit) (maxL := 3) (ret := (some .boolean)) (by decide) rfl ?_
  intro p e s m args below meth c s₁ B hml hv
  obtain ⟨rfl, hw⟩ := hv
  have hx := B.exec
  have hb := B.bytes
  have hr := B.returns
  have hts := atoms_spec (ws := zW y_R_bit b_R_bit 3 (some .boolean)) B.pre
  have ht : ∀ w ∈ zT, w.before ([.ref (rA G 0), .int (nI (a)), .int (nI (k))] : List Value).toArray s = true := fun w h => hts w (List.mem_cons_of_mem _ h)
  have hown : s.vm.findClass R_R = some m.cls := findClass_of_methodNamed B.named
  have hlocks := B.notSynchronized
  have hl := lv_entry ([.ref (rA G 0), .int (nI (a)), .int (nI (k))]) (n := 3) (Nat.le_of_ble_eq_true rfl)
  rw [lg_entry_eq]
  generalize (lg_sl ([.ref (rA G 0), .int (nI (a)), .int (nI (k))]) ++ List.replicate (3 - (lg_sl ([.ref (rA G 0), .int (nI (a)), .int (nI (k))])).length) Slot.unset).toArray = ls at hl ⊢
  have hl : lv_has ls 3 [(0, .ref (rA G 0)), (1, .int (nI (a))), (2, .int (nI (k)))] := hl
  refine lv_aload_n hx hb d_R_bit_0 rfl (lv_at hl 0 rfl) ?_
  refine r_get hx hb ht hown hw 0 (by decide) (ht _ kf_R_7) rfl d_R_bit_1 (fun _ h9 => h9) ?_
  refine lv_bipush (v := nI 10) hx hb d_R_bit_4 (by decide) ?_
  refine lv_iload_n hx hb d_R_bit_6 rfl (lv_at hl 1 rfl) ?_
  refine lv_imul hx hb d_R_bit_7 ?_
  refine tp_i (y := nI (10 * a)) (pk_mul _ _) ?_
  refine lv_iload_n hx hb d_R_bit_8 rfl (lv_at hl 2 rfl) ?_
  refine lv_bipush (v := nI 26) hx hb d_R_bit_9 (by decide) ?_
  refine lv_idiv hx hb d_R_bit_11 (by decide) ?_
  refine tp_i (y := nI (k / 26)) (pk_div (by omega) (by decide) (by decide)) ?_
  refine lv_iadd hx hb d_R_bit_12 ?_
  refine tp_i (y := nI ((10 * a) + (k / 26))) (nI_add _ _) ?_
  refine r_ild' hx hb hw h1 (by omega) d_R_bit_13 ?_
  refine tp_i (y := nI (dg b26 (rV σ a) (k / 26))) (rfl) ?_
  refine lv_iload_n hx hb d_R_bit_14 rfl (lv_at hl 2 rfl) ?_
  refine lv_bipush (v := nI 26) hx hb d_R_bit_15 (by decide) ?_
  refine lv_irem hx hb d_R_bit_17 (by decide) ?_
  refine tp_i (y := nI (k % 26)) (pk_rem (by omega) (by decide) (by decide)) ?_
  refine lv_ishr hx hb d_R_bit_18 ?_
  refine tp_i (y := nI (dg b26 (rV σ a) (k / 26) / 2 ^ (k % 26))) (shrt (dg_small _ _) (by omega)) ?_
  have hs : dg b26 (rV σ a) (k / 26) / 2 ^ (k % 26) < 2 ^ 31 := Nat.lt_of_le_of_lt (Nat.div_le_self _ _) (dg_small _ _)
  refine lv_iconst (v := nI 1) hx hb d_R_bit_19 (by decide) ?_
  refine lv_iand hx hb d_R_bit_20 ?_
  refine tp_i (y := nI (dg b26 (rV σ a) (k / 26) / 2 ^ (k % 26) % 2)) (and1 (Nat.lt_trans hs (by decide))) ?_
  refine tp_i (y := nI (rV σ a / 2 ^ k % 2)) (congrArg nI (bit_dg _ _)) ?_
  refine lv_iconst (v := nI 1) hx hb d_R_bit_21 (by decide) ?_
  have hb2 : rV σ a / 2 ^ k % 2 < 2 := Nat.mod_lt _ (by decide)
  refine n_ne (tgt := 29) hx hb d_R_bit_22 (by decide) (by omega) (by decide) (fun c1 => ?_) (fun c1 => ?_)
  · refine lv_iconst (v := nI 0) hx hb d_R_bit_29 (by decide) ?_
    exact z_zret (rZ _) hx hb hr hlocks (nar_b (by decide)) σ hw ⟨rfl, by rw [boolN_f c1]⟩ d_R_bit_30
  · refine lv_iconst (v := nI 1) hx hb d_R_bit_25 (by decide) ?_
    refine lv_goto (tgt := 30) hx hb d_R_bit_26 (by decide) ?_
    exact z_zret (rZ _) hx hb hr hlocks (nar_b (by decide)) σ hw ⟨rfl, by rw [boolN_t c1]⟩ d_R_bit_30
set_option maxHeartbeats 4000000 in
set_option maxRecDepth 100000 in
theorem c_R_isOdd (l : Launch) (G : rG) (σ : rS) {a : Nat} (h1 : a < 48) : Met l y_R_isOdd (zW y_R_isOdd b_R_isOdd 2 (some .boolean)) (zr 0 0) (va_Pc [.ref (rA G 0), .int (nI (a))] (rC G σ)) (va_Qi (fun r u => u = σ ∧ r = nI (boolN (rV σ a % 2 = 1))) (fun u => rC G u) (rAA G)) 0 0 (rAA G) := by
  refine Met.ofW (cc := b_R_isOdd) (maxL := 2) (ret := (some .boolean)) (by decide) rfl ?_
  intro p e s m args below meth c s₁ B hml hv
  obtain ⟨rfl, hw⟩ := hv
  have hx := B.exec
  have hb := B.bytes
  have hr := B.returns
  have hts := atoms_spec (ws := zW y_R_isOdd b_R_isOdd 2 (some .boolean)) B.pre
  have ht : ∀ w ∈ zT, w.before ([.ref (rA G 0), .int (nI (a))] : List Value).toArray s = true := fun w h => hts w (List.mem_cons_of_mem _ h)
  have hown : s.vm.findClass R_R = some m.cls := findClass_of_methodNamed B.named
  have hlocks := B.notSynchronized
  have hl := lv_entry ([.ref (rA G 0), .int (nI (a))]) (n := 2) (Nat.le_of_ble_eq_true rfl)
  rw [lg_entry_eq]
  generalize (lg_sl ([.ref (rA G 0), .int (nI (a))]) ++ List.replicate (2 - (lg_sl ([.ref (rA G 0), .int (nI (a))])).length) Slot.unset).toArray = ls at hl ⊢
  have hl : lv_has ls 2 [(0, .ref (rA G 0)), (1, .int (nI (a)))] := hl
  refine lv_aload_n hx hb d_R_isOdd_0 rfl (lv_at hl 0 rfl) ?_
  refine r_get hx hb ht hown hw 0 (by decide) (ht _ kf_R_7) rfl d_R_isOdd_1 (fun _ h9 => h9) ?_
  refine lv_bipush (v := nI 10) hx hb d_R_isOdd_4 (by decide) ?_
  refine lv_iload_n hx hb d_R_isOdd_6 rfl (lv_at hl 1 rfl) ?_
  refine lv_imul hx hb d_R_isOdd_7 ?_
  refine tp_i (y := nI (10 * a)) (pk_mul _ _) ?_
  refine tp_i (y := nI (10 * a + 0)) (by rw [Nat.add_zero]) ?_
  refine r_ild' hx hb hw h1 (by decide) d_R_isOdd_8 ?_
  refine tp_i (y := nI (dg b26 (rV σ a) 0)) (rfl) ?_
  refine lv_iconst (v := nI 2) hx hb d_R_isOdd_9 (by decide) ?_
  refine lv_irem hx hb d_R_isOdd_10 (by decide) ?_
  refine tp_i (y := nI (dg b26 (rV σ a) 0 % 2)) (pk_rem (dg_small _ _) (by decide) (by decide)) ?_
  refine tp_i (y := nI (rV σ a % 2)) (congrArg nI (by have := bit_dg (rV σ a) 0; rw [Nat.pow_zero, Nat.div_one] at this; exact (by simpa using this))) ?_
  refine lv_iconst (v := nI 1) hx hb d_R_isOdd_11 (by decide) ?_
  have hb2 : rV σ a % 2 < 2 := Nat.mod_lt _ (by decide)
  refine n_ne (tgt := 19) hx hb d_R_isOdd_12 (by decide) (by omega) (by decide) (fun c1 => ?_) (fun c1 => ?_)
  · refine lv_iconst (v := nI 0) hx hb d_R_isOdd_19 (by decide) ?_
    exact z_zret (rZ _) hx hb hr hlocks (nar_b (by decide)) σ hw ⟨rfl, by rw [boolN_f c1]⟩ d_R_isOdd_20
  · refine lv_iconst (v := nI 1) hx hb d_R_isOdd_15 (by decide) ?_
    refine lv_goto (tgt := 20) hx hb d_R_isOdd_16 (by decide) ?_
    exact z_zret (rZ _) hx hb hr hlocks (nar_b (by decide)) σ hw ⟨rfl, by rw [boolN_t c1]⟩ d_R_isOdd_20
set_option maxHeartbeats 4000000 in
set_option maxRecDepth 100000 in
theorem c_R_isNone (l : Launch) (G : rG) (σ : rS) (hok : rOk σ) {a : Nat} (h1 : a < 46) : Met l y_R_isNone (zW y_R_isNone b_R_isNone 2 (some .boolean)) (zr 1 23) (va_Pc [.ref (rA G 0), .int (nI (a))] (rC G σ)) (va_Qi (fun r u => u = σ ∧ r = nI (boolN (rV σ (a + 2) = 0))) (fun u => rC G u) (rAA G)) 0 0 (rAA G) := by
  refine Met.ofW (cc := b_R_isNone) (maxL := 2) (ret := (some .boolean)) (by decide) rfl ?_
  intro p e s m args below meth c s₁ B hml hv
  obtain ⟨rfl, hw⟩ := hv
  have hx := B.exec
  have hb := B.bytes
  have hr := B.returns
  have hts := atoms_spec (ws := zW y_R_isNone b_R_isNone 2 (some .boolean)) B.pre
  have ht : ∀ w ∈ zT, w.before ([.ref (rA G 0), .int (nI (a))] : List Value).toArray s = true := fun w h => hts w (List.mem_cons_of_mem _ h)
  have hown : s.vm.findClass R_R = some m.cls := findClass_of_methodNamed B.named
  have hlocks := B.notSynchronized
  have hl := lv_entry ([.ref (rA G 0), .int (nI (a))]) (n := 2) (Nat.le_of_ble_eq_true rfl)
  rw [lg_entry_eq]
  generalize (lg_sl ([.ref (rA G 0), .int (nI (a))]) ++ List.replicate (2 - (lg_sl ([.ref (rA G 0), .int (nI (a))])).length) Slot.unset).toArray = ls at hl ⊢
  have hl : lv_has ls 2 [(0, .ref (rA G 0)), (1, .int (nI (a)))] := hl
  refine lv_aload_n hx hb d_R_isNone_0 rfl (lv_at hl 0 rfl) ?_
  refine lv_iload_n hx hb d_R_isNone_1 rfl (lv_at hl 1 rfl) ?_
  refine lv_iconst (v := nI 2) hx hb d_R_isNone_2 (by decide) ?_
  refine lv_iadd hx hb d_R_isNone_3 ?_
  refine tp_i (y := nI (a + 2)) (nI_add _ _) ?_
  refine r_calli (np := 1) (As := [.int (nI (a + 2))]) (rest := []) ⟨hx, hb, hml, hown, ht⟩ hw (c_R_isNothing l G σ hok (by omega)) ⟨km_R_115, kv_R_isNothing, kx_R_isNothing, kc_R_isNothing⟩ (by decide +kernel) ⟨by decide, by decide⟩ rfl rfl rfl hl.1 rfl (by decide) d_R_isNone_4 ⟨Nat.le_refl _, Nat.le_refl _⟩ (fun r u H locs hp hw => ?_)
  obtain ⟨hpu, rfl⟩ := hp
  rw [hpu] at hw
  exact z_zret (rZ _) hx hb hr hlocks (nar_b (boolN_lt _)) _ hw ⟨rfl, rfl⟩ d_R_isNone_7
set_option maxHeartbeats 4000000 in
set_option maxRecDepth 100000 in
theorem c_R_power (l : Launch) (G : rG) (σ : rS) (hok : rOk σ) {μ to a : Nat} (hμ : μ < 2) (h1 : to < 48) (h2 : a < 48) (ha1 : a ≠ 44) (ha2 : a ≠ 38) (hto : to ≠ 38) (hq : rV σ (8 + μ) = rMod μ) (hone : rV σ 20 = 1) (hE : rV σ 39 < 2 ^ 256) : Met l y_R_power (zW y_R_power b_R_power 5 none) (zr 3 78) (va_Pc [.ref (rA G 0), .int (nI (to)), .int (nI (a)), .int (nI (8 + μ))] (rC G σ)) (va_Qv (fun u => rU σ (va_up (va_up (va_up (rV σ) 44 (rV σ a)) 38 (rV σ a ^ rV σ 39 % rMod μ)) to (rV σ a ^ rV σ 39 % rMod μ)) u) (fun u => rC G u) (rAA G)) 0 0 (rAA G) := by
  refine Met.ofW (cc := b_R_power) (maxL := 5) (ret := none) (by decide) rfl ?_
  intro p e s m args below meth c s₁ B hml hv
  obtain ⟨rfl, hw⟩ := hv
  have hx := B.exec
  have hb := B.bytes
  have hr := B.returns
  have hts := atoms_spec (ws := zW y_R_power b_R_power 5 none) B.pre
  have ht : ∀ w ∈ zT, w.before ([.ref (rA G 0), .int (nI (to)), .int (nI (a)), .int (nI (8 + μ))] : List Value).toArray s = true := fun w h => hts w (List.mem_cons_of_mem _ h)
  have hown : s.vm.findClass R_R = some m.cls := findClass_of_methodNamed B.named
  have hlocks := B.notSynchronized
  have hl := lv_entry ([.ref (rA G 0), .int (nI (to)), .int (nI (a)), .int (nI (8 + μ))]) (n := 5) (Nat.le_of_ble_eq_true rfl)
  rw [lg_entry_eq]
  generalize (lg_sl ([.ref (rA G 0), .int (nI (to)), .int (nI (a)), .int (nI (8 + μ))]) ++ List.replicate (5 - (lg_sl ([.ref (rA G 0), .int (nI (to)), .int (nI (a)), .int (nI (8 + μ))])).length) Slot.unset).toArray = ls at hl ⊢
  have hl : lv_has ls 5 [(0, .ref (rA G 0)), (1, .int (nI (to))), (2, .int (nI (a))), (3, .int (nI (8 + μ)))] := hl
  refine lv_aload_n hx hb d_R_power_0 rfl (lv_at hl 0 rfl) ?_
  refine lv_bipush (v := nI 44) hx hb d_R_power_1 (by decide) ?_
  refine lv_iload_n hx hb d_R_power_3 rfl (lv_at hl 2 rfl) ?_
  refine r_callv (np := 2) (As := [.int (nI (44)), .int (nI (a))]) (rest := []) ⟨hx, hb, hml, hown, ht⟩ hw (c_R_copy l G σ hok (by decide) h2 ha1) ⟨km_R_70, kv_R_copy, kx_R_copy, kc_R_copy⟩ (by decide +kernel) ⟨by decide, by decide⟩ rfl rfl rfl hl.1 rfl (by decide) d_R_power_4 ⟨Nat.le_refl _, Nat.le_refl _⟩ (fun u H locs hp hw => ?_)
  subst hp
  have hok1 := hok.up (r := 44) (hok a)
  refine lv_aload_n hx hb d_R_power_7 rfl (lv_at hl 0 rfl) ?_
  refine lv_bipush (v := nI 38) hx hb d_R_power_8 (by decide) ?_
  refine lv_bipush (v := nI 20) hx hb d_R_power_10 (by decide) ?_
  refine r_callv (np := 2) (As := [.int (nI (38)), .int (nI (20))]) (rest := []) ⟨hx, hb, hml, hown, ht⟩ hw (c_R_copy l G _ hok1 (by decide) (by decide) (by decide)) ⟨km_R_70, kv_R_copy, kx_R_copy, kc_R_copy⟩ (by decide +kernel) ⟨by decide, by decide⟩ rfl rfl rfl hl.1 rfl (by decide) d_R_power_12 ⟨Nat.le_refl _, Nat.le_refl _⟩ (fun u H locs hp hw => ?_)
  have hu : rU σ (va_up (va_up (rV σ) 44 (rV σ a)) 38 1) u := rU.of (by rw [hp]; show rsV σ (va_up (va_up (rV σ) 44 (rV σ a)) 38 (va_up (rV σ) 44 (rV σ a) 20)) = _; rw [up_ne _ _ (by decide), hone])
  clear hp
  refine lv_sipush (v := nI 255) hx hb d_R_power_15 (by decide) ?_
  refine tp_i (y := (iv 256)) (rfl) ?_
  refine lv_istore (lv' := [(4, .int (iv 256)), (0, .ref (rA G 0)), (1, .int (nI (to))), (2, .int (nI (a))), (3, .int (nI (8 + μ)))]) hx hb d_R_power_18 hl (by decide) rfl (fun ls hl => ?_)
  have h44 : ∀ x, va_up (va_up (rV σ) 44 (rV σ a)) 38 x 44 = rV σ a := fun x => by rw [up_ne _ _ (by decide), up_self]
  have h38 : ∀ x, va_up (va_up (rV σ) 44 (rV σ a)) 38 x 38 = x := fun x => up_self _ _ _
  have h39 : ∀ x, va_up (va_up (rV σ) 44 (rV σ a)) 38 x 39 = rV σ 39 := fun x => by rw [up_ne _ _ (by decide), up_ne _ _ (by decide)]
  have hqq : ∀ x, va_up (va_up (rV σ) 44 (rV σ a)) 38 x (8 + μ) = rMod μ := fun x => by rw [up_ne _ _ (by omega), up_ne _ _ (by omega)]; exact hq
  have hVok : ∀ x, x < b26 ^ 10 → ∀ r, va_up (va_up (rV σ) 44 (rV σ a)) 38 x r < b26 ^ 10 := fun x hx9 => up_lt (up_lt hok (hok a)) hx9
  have loop : ∀ (n : Nat), n ≤ 256 → ∀ (x : Nat) (u : rS) (H : Heap) (locs : List Loc) (ls : Array Slot), x = rV σ a ^ (rV σ 39 / 2 ^ n) % rMod μ → rU σ (va_up (va_up (rV σ) 44 (rV σ a)) 38 x) u → rH G u s H locs → lv_has ls 5 [(0, .ref (rA G 0)), (1, .int (nI (to))), (2, .int (nI (a))), (3, .int (nI (8 + μ))), (4, .int (iv n))] → W p l e (headSpec (zW y_R_power b_R_power 5 none) (zr 3 78)).room s m ([.ref (rA G 0), .int (nI (to)), .int (nI (a)), .int (nI (8 + μ))] : List Value).toArray below meth c H locs 0 0 (MQ below (va_Qv (fun u => rU σ (va_up (va_up (va_up (rV σ) 44 (rV σ a)) 38 (rV σ a ^ rV σ 39 % rMod μ)) to (rV σ a ^ rV σ 39 % rMod μ)) u) (fun u => rC G u) (rAA G)) ([.ref (rA G 0), .int (nI (to)), .int (nI (a)), .int (nI (8 + μ))] : List Value).toArray s 0 0 (rAA G)) (F0 m 20 ls []) := by
    intro n
    induction n with
    | zero =>
      intro hn x u H locs ls hx9 hu hw hl
      refine lv_iload hx hb d_R_power_20 (lv_at hl 4 rfl) ?_
      have hxb : x < b26 ^ 10 := by rw [hx9]; exact mod_ok hμ
      refine lv_if_lt (tgt := 64) hx hb d_R_power_22 (by decide) (fun _ => ?_) (fun h => absurd (show iv 0 < 0 by decide) h)
      refine lv_aload_n hx hb d_R_power_64 rfl (lv_at hl 0 rfl) ?_
      refine lv_iload_n hx hb d_R_power_65 rfl (lv_at hl 1 rfl) ?_
      refine lv_bipush (v := nI 38) hx hb d_R_power_66 (by decide) ?_
      refine r_callv (np := 2) (As := [.int (nI (to)), .int (nI (38))]) (rest := []) ⟨hx, hb, hml, hown, ht⟩ hw (c_R_copy l G u (hu.ok (hVok x hxb)) h1 (by decide) (Ne.symm hto)) ⟨km_R_70, kv_R_copy, kx_R_copy, kc_R_copy⟩ (by decide +kernel) ⟨by decide, by decide⟩ rfl rfl rfl hl.1 rfl (by decide) d_R_power_68 ⟨Nat.le_refl _, Nat.le_refl _⟩ (fun u2 H locs hp hw => ?_)
      refine z_vret (rZ _) hx hb hr hlocks u2 hw ?_ d_R_power_71
      rw [Nat.pow_zero, Nat.div_one] at hx9
      have h := hu.trans (rU.of hp)
      rw [hu.V, h38, hx9] at h
      exact h
    | succ n ih =>
      intro hn x u H locs ls hx9 hu hw hl
      have hl : lv_has ls 5 [(0, .ref (rA G 0)), (1, .int (nI (to))), (2, .int (nI (a))), (3, .int (nI (8 + μ))), (4, .int (nI (n)))] := hl
      refine lv_iload hx hb d_R_power_20 (lv_at hl 4 rfl) ?_
      have hxb : x < b26 ^ 10 := by rw [hx9]; exact mod_ok hμ
      refine lv_if_lt (tgt := 64) hx hb d_R_power_22 (by decide) (fun h => absurd h (nI_pos (by omega))) (fun _ => ?_)
      refine lv_aload_n hx hb d_R_power_25 rfl (lv_at hl 0 rfl) ?_
      refine lv_bipush (v := nI 38) hx hb d_R_power_26 (by decide) ?_
      refine lv_bipush (v := nI 38) hx hb d_R_power_28 (by decide) ?_
      refine lv_bipush (v := nI 38) hx hb d_R_power_30 (by decide) ?_
      refine lv_iload_n hx hb d_R_power_32 rfl (lv_at hl 3 rfl) ?_
      refine r_callv (np := 4) (As := [.int (nI (38)), .int (nI (38)), .int (nI (38)), .int (nI (8 + μ))]) (rest := []) ⟨hx, hb, hml, hown, ht⟩ hw (c_R_multiply l G u (hu.ok (hVok x hxb)) hμ (by decide) (by decide) (by decide) (by omega) (by rw [hu.V]; exact hqq x)) ⟨km_R_96, kv_R_multiply, kx_R_multiply, kc_R_multiply⟩ (by decide +kernel) ⟨by decide, by decide⟩ rfl rfl rfl hl.1 rfl (by decide) d_R_power_33 ⟨Nat.le_refl _, Nat.le_refl _⟩ (fun u2 H locs hp hw => ?_)
      have hu2 : rU σ (va_up (va_up (rV σ) 44 (rV σ a)) 38 (x * x % rMod μ)) u2 := by
        have h := hu.trans hp
        rw [hu.V, h38, up_up] at h
        exact h
      have hxb2 : x * x % rMod μ < b26 ^ 10 := mod_ok hμ
      refine lv_aload_n hx hb d_R_power_36 rfl (lv_at hl 0 rfl) ?_
      refine lv_bipush (v := nI 39) hx hb d_R_power_37 (by decide) ?_
      refine lv_iload hx hb d_R_power_39 (lv_at hl 4 rfl) ?_
      refine r_calli (np := 2) (As := [.int (nI (39)), .int (nI (n))]) (rest := []) ⟨hx, hb, hml, hown, ht⟩ hw (c_R_bit l G u2 (by decide) (by omega)) ⟨km_R_100, kv_R_bit, kx_R_bit, kc_R_bit⟩ (by decide +kernel) ⟨by decide, by decide⟩ rfl rfl rfl hl.1 rfl (by decide) d_R_power_41 ⟨Nat.le_refl _, Nat.le_refl _⟩ (fun r u3 H locs hp2 hw => ?_)
      obtain ⟨hpu, rfl⟩ := hp2
      rw [hpu] at hw
      rw [show rV u2 39 = rV σ 39 by rw [hu2.V]; exact h39 _]
      refine n_eq0 (tgt := 58) hx hb d_R_power_44 (by decide) (Nat.lt_trans (boolN_lt _) (by decide)) (fun c1 => ?_) (fun c1 => ?_)
      · have c2 : ¬ rV σ 39 / 2 ^ n % 2 = 1 := fun q => by rw [boolN_t q] at c1; cases c1
        refine lv_iinc (v := iv n) (lv' := [(4, .int (iv n)), (0, .ref (rA G 0)), (1, .int (nI (to))), (2, .int (nI (a))), (3, .int (nI (8 + μ)))]) hx hb d_R_power_58 hl (k := 4) rfl (iv_dec n) (by decide) rfl (fun ls hl => ?_)
        refine lv_goto (tgt := 20) hx hb d_R_power_61 (by decide) ?_
        exact ih (by omega) _ u2 H locs ls (pow_step0 hx9 c2) hu2 hw (lv_sub hl [1, 2, 3, 4, 0] rfl)
      · have c2 : rV σ 39 / 2 ^ n % 2 = 1 := by
          by_cases q : rV σ 39 / 2 ^ n % 2 = 1
          · exact q
          · exact absurd (boolN_f q) c1
        refine lv_aload_n hx hb d_R_power_47 rfl (lv_at hl 0 rfl) ?_
        refine lv_bipush (v := nI 38) hx hb d_R_power_48 (by decide) ?_
        refine lv_bipush (v := nI 38) hx hb d_R_power_50 (by decide) ?_
        refine lv_bipush (v := nI 44) hx hb d_R_power_52 (by decide) ?_
        refine lv_iload_n hx hb d_R_power_54 rfl (lv_at hl 3 rfl) ?_
        refine r_callv (np := 4) (As := [.int (nI (38)), .int (nI (38)), .int (nI (44)), .int (nI (8 + μ))]) (rest := []) ⟨hx, hb, hml, hown, ht⟩ hw (c_R_multiply l G u2 (hu2.ok (hVok _ hxb2)) hμ (by decide) (by decide) (by decide) (by omega) (by rw [hu2.V]; exact hqq _)) ⟨km_R_96, kv_R_multiply, kx_R_multiply, kc_R_multiply⟩ (by decide +kernel) ⟨by decide, by decide⟩ rfl rfl rfl hl.1 rfl (by decide) d_R_power_55 ⟨Nat.le_refl _, Nat.le_refl _⟩ (fun u4 H locs hp hw => ?_)
        have hu4 : rU σ (va_up (va_up (rV σ) 44 (rV σ a)) 38 (x * x % rMod μ * rV σ a % rMod μ)) u4 := by
          have h := hu2.trans hp
          rw [hu2.V, h38, h44, up_up] at h
          exact h
        refine lv_iinc (v := iv n) (lv' := [(4, .int (iv n)), (0, .ref (rA G 0)), (1, .int (nI (to))), (2, .int (nI (a))), (3, .int (nI (8 + μ)))]) hx hb d_R_power_58 hl (k := 4) rfl (iv_dec n) (by decide) rfl (fun ls hl => ?_)
        refine lv_goto (tgt := 20) hx hb d_R_power_61 (by decide) ?_
        exact ih (by omega) _ u4 H locs ls (pow_step1 hx9 c2) hu4 hw (lv_sub hl [1, 2, 3, 4, 0] rfl)
  refine loop 256 (Nat.le_refl _) 1 u _ _ ls ?_ hu hw (lv_sub hl [1, 2, 3, 4, 0] rfl)
  rw [Nat.div_eq_of_lt hE, Nat.pow_zero]
  exact (Nat.mod_eq_of_lt (rMod_one hμ)).symm
