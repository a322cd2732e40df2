/-! the class reads a number out of its bytes -/
/-- the number of the k bytes down from t, the lowest first -/
def lo8 (B : Nat → Nat) (t : Nat) : Nat → Nat
  | 0 => 0
  | k + 1 => lo8 B t k + B (t - k) * 256 ^ k
theorem lo8_lt {B : Nat → Nat} {t : Nat} : ∀ k, (∀ i, i < k → B (t - i) < 256) → lo8 B t k < 256 ^ k
  | 0, _ => Nat.one_pos
  | k + 1, h => by
    have h1 := lo8_lt k (fun i hi => h i (by omega))
    have h2 := h k (by omega)
    show lo8 B t k + B (t - k) * 256 ^ k < 256 ^ (k + 1)
    have h3 : B (t - k) * 256 ^ k ≤ 255 * 256 ^ k := Nat.mul_le_mul_right _ (by omega)
    rw [Nat.pow_succ]
    generalize 256 ^ k = w at *
    generalize B (t - k) * w = y at *
    omega
theorem bv_lo8 (B : Nat → Nat) (f c : Nat) : ∀ k, k ≤ c → bv B f c = bv B f (c - k) * 256 ^ k + lo8 B (f + c - 1) k
  | 0, _ => by show bv B f c = bv B f (c - 0) * 1 + 0; rw [Nat.sub_zero, Nat.mul_one, Nat.add_zero]
  | k + 1, h => by
    rw [bv_lo8 B f c k (by omega)]
    obtain ⟨d, hd⟩ : ∃ d, c - k = d + 1 := ⟨c - k - 1, by omega⟩
    rw [hd, show c - (k + 1) = d by omega]
    show (bv B f d * 256 + B (f + d)) * 256 ^ k + lo8 B (f + c - 1) k = bv B f d * 256 ^ (k + 1) + (lo8 B (f + c - 1) k + B (f + c - 1 - k) * 256 ^ k)
    rw [show f + c - 1 - k = f + d by omega, Nat.add_mul, Nat.pow_succ, Nat.mul_assoc, Nat.mul_comm 256 (256 ^ k)]
    generalize bv B f d * (256 ^ k * 256) = a
    generalize B (f + d) * 256 ^ k = b
    omega
theorem bv_lt {B : Nat → Nat} {f : Nat} : ∀ k, (∀ i, i < k → B (f + i) < 256) → bv B f k < 256 ^ k
  | 0, _ => Nat.one_pos
  | k + 1, h => by
    have h1 := bv_lt k (fun i hi => h i (by omega))
    have h2 := h k (by omega)
    show bv B f k * 256 + B (f + k) < 256 ^ (k + 1)
    rw [Nat.pow_succ]
    generalize 256 ^ k = w at *
    omega
theorem p256 (k : Nat) : (256 : Nat) ^ k = 2 ^ (8 * k) := by rw [Nat.pow_mul]
theorem lo8_bA {B : Nat → Nat} {f c : Nat} (hB : ∀ i, i < c → B (f + i) < 256) : lo8 B (f + c - 1) (min c 32) = bA B f c c := by
  unfold bA
  rw [Nat.sub_self, Nat.mul_zero, Nat.pow_zero, Nat.mul_one]
  by_cases h : c ≤ 32
  · rw [Nat.min_eq_left h, Nat.mod_eq_of_lt]
    · have e := bv_lo8 B f c c (Nat.le_refl _)
      rw [Nat.sub_self] at e
      have e2 : bv B f 0 = 0 := rfl
      rw [e2, Nat.zero_mul, Nat.zero_add] at e
      exact e.symm
    · refine Nat.lt_of_lt_of_le (bv_lt c hB) ?_
      rw [p256]
      exact Nat.pow_le_pow_right (by decide) (by omega)
  · rw [Nat.min_eq_right (by omega)]
    have e := bv_lo8 B f c 32 (by omega)
    have h2 : lo8 B (f + c - 1) 32 < 256 ^ 32 := lo8_lt 32 (fun i hi => by
      rw [show f + c - 1 - i = f + (c - 1 - i) by omega]
      exact hB _ (by omega))
    rw [e, show (2 : Nat) ^ 256 = 256 ^ 32 by rw [p256], Nat.mul_comm, Nat.mul_add_mod, Nat.mod_eq_of_lt h2]
theorem b32_p (j : Nat) : b32 ^ j = 2 ^ (32 * j) := by rw [Nat.pow_mul]
theorem lN_orp {d b t : Nat} (h : d < 2 ^ t) (h1 : d < 2 ^ 64) (h2 : b * 2 ^ t < 2 ^ 64) : lN d ||| lN (b * 2 ^ t) = lN (d + b * 2 ^ t) := by
  rw [wb_or h1 h2]
  congr 1
  have := Nat.two_pow_add_eq_or_of_lt h b
  rw [Nat.mul_comm b, Nat.add_comm, this, Nat.or_comm]
/-- a byte more -/
theorem lo8_dg {v k : Nat} (hv : v < 256 ^ k) : dg b32 v (k / 4) < 2 ^ (8 * (k % 4)) := by
  unfold dg
  rw [b32_p]
  have e : (256 : Nat) ^ k = 2 ^ (32 * (k / 4)) * 2 ^ (8 * (k % 4)) := by
    rw [p256, ← Nat.pow_add]
    congr 1
    omega
  have h : v / 2 ^ (32 * (k / 4)) < 2 ^ (8 * (k % 4)) := by
    rw [Nat.div_lt_iff_lt_mul (Nat.two_pow_pos _), Nat.mul_comm, ← e]
    exact hv
  exact Nat.lt_of_le_of_lt (Nat.mod_le _ _) h
theorem lo8_ds {v k b : Nat} (hv : v < 256 ^ k) (hb : b < 256) : dg b32 v (k / 4) + b * 2 ^ (8 * (k % 4)) < b32 ∧ ds b32 v (k / 4) (dg b32 v (k / 4) + b * 2 ^ (8 * (k % 4))) = v + b * 256 ^ k := by
  have h1 := lo8_dg hv
  have hk : k % 4 < 4 := Nat.mod_lt _ (by decide)
  have h5 : v / b32 ^ (k / 4 + 1) = 0 := by
    apply Nat.div_eq_of_lt
    refine Nat.lt_of_lt_of_le hv ?_
    rw [p256, b32_p]
    exact Nat.pow_le_pow_right (by decide) (by omega)
  refine ⟨?_, ?_⟩
  · have h2 : b * 2 ^ (8 * (k % 4)) ≤ 255 * 2 ^ (8 * (k % 4)) := Nat.mul_le_mul_right _ (by omega)
    have h3 : (2 : Nat) ^ (8 * (k % 4)) * 256 ≤ b32 := by
      rcases (show k % 4 = 0 ∨ k % 4 = 1 ∨ k % 4 = 2 ∨ k % 4 = 3 by omega) with q | q | q | q <;> rw [q] <;> decide
    generalize 2 ^ (8 * (k % 4)) = w at *
    generalize b * w = y at *
    omega
  · unfold ds
    rw [h5, Nat.zero_mul, Nat.add_zero, Nat.add_mul, ← Nat.add_assoc, ← dg_mod, Nat.mod_eq_of_lt, Nat.mul_assoc, b32_p, ← Nat.pow_add, p256, show 8 * (k % 4) + 32 * (k / 4) = 8 * k by omega]
    refine Nat.lt_of_lt_of_le hv ?_
    rw [p256, b32_p]
    exact Nat.pow_le_pow_right (by decide) (by omega)
set_option maxHeartbeats 4000000 in
set_option maxRecDepth 100000 in
theorem c_H_readNumber (l : Launch) (K : cG) (τ : cT) (hok : cOk τ) {o f0 cn : Nat} (ho : o < 30) (h1 : 1 ≤ f0) (h2 : f0 + cn ≤ 100) (h3 : cn ≤ 33) (h4 : 1 ≤ cn) (hB : ∀ j, j < 100 → cB τ j < 256) : Met l y_H_readNumber (zW y_H_readNumber b_H_readNumber 6 none) (zr 2 47) (va_Pc [.ref (cO K 1), .ref (cR K o), .int (nI (f0)), .int (nI (cn))] (cC K τ)) (va_Qv (fun u => u = csV τ o (bA (cB τ) f0 cn cn)) (fun u => cC K u) (cAA K)) 0 0 (cAA K) := by
  refine Met.ofW (cc := b_H_readNumber) (maxL := 6) (ret := none) (by decide) rfl ?_
  intro p e s m args below meth c s₁ B hml hv
  obtain ⟨rfl, hw⟩ := hv
  have hx := B.exec
  have hb := B.bytes
  have hr := B.returns
  have hts := atoms_spec (ws := zW y_H_readNumber b_H_readNumber 6 none) B.pre
  have ht : ∀ w ∈ zT, w.before ([.ref (cO K 1), .ref (cR K o), .int (nI (f0)), .int (nI (cn))] : List Value).toArray s = true := fun w h => hts w (List.mem_cons_of_mem _ h)
  have hown : s.vm.findClass R_H = some m.cls := findClass_of_methodNamed B.named
  have hlocks := B.notSynchronized
  have hl := lv_entry ([.ref (cO K 1), .ref (cR K o), .int (nI (f0)), .int (nI (cn))]) (n := 6) (Nat.le_of_ble_eq_true rfl)
  rw [lg_entry_eq]
  generalize (lg_sl ([.ref (cO K 1), .ref (cR K o), .int (nI (f0)), .int (nI (cn))]) ++ List.replicate (6 - (lg_sl ([.ref (cO K 1), .ref (cR K o), .int (nI (f0)), .int (nI (cn))])).length) Slot.unset).toArray = ls at hl ⊢
  have hl : lv_has ls 6 [(0, .ref (cO K 1)), (1, .ref (cR K o)), (2, .int (nI (f0))), (3, .int (nI (cn)))] := hl
  refine lv_aload_n hx hb d_H_readNumber_0 rfl (lv_at hl 1 rfl) ?_
  refine c_getsN hx hb hown hw 34 (by decide) (by decide) (index := 19) (by decide) d_H_readNumber_1 ?_
  refine c_sv (np := 2) (As := [.ref (cR K o), .ref (cR K 34)]) (rest := []) ⟨hx, hb, hml, hown, ht⟩ hw (c_L_copy l K τ hok (o := o) (a := 34) (by omega) (by omega)) ⟨km_H_23, ks_L_copy, kc_L_copy⟩ ki_L (by decide +kernel) ⟨by decide, by decide⟩ rfl rfl rfl hl.1 rfl (Nat.le_of_ble_eq_true rfl) d_H_readNumber_4 ⟨Nat.le_refl _, Nat.le_refl _⟩ (fun u1 H locs hp hw => ?_)
  have e0 : cV τ 34 % b32 ^ 8 = 0 := by rw [show cV τ 34 = 0 from rfl]; exact Nat.zero_mod _
  rw [e0] at hp
  rw [hp] at hw
  clear hp e0
  refine lv_iload_n hx hb d_H_readNumber_7 rfl (lv_at hl 2 rfl) ?_
  refine lv_iload_n hx hb d_H_readNumber_8 rfl (lv_at hl 3 rfl) ?_
  refine lv_iadd hx hb d_H_readNumber_9 ?_
  refine tp_i (y := nI (f0 + cn)) (nI_add _ _) ?_
  refine lv_iconst (v := nI 1) hx hb d_H_readNumber_10 (by decide) ?_
  refine lv_isub hx hb d_H_readNumber_11 ?_
  refine tp_i (y := nI (f0 + cn - 1)) (pk_sub (by omega)) ?_
  refine lv_istore (lv' := [(4, .int (nI (f0 + cn - 1))), (0, .ref (cO K 1)), (1, .ref (cR K o)), (2, .int (nI (f0))), (3, .int (nI (cn)))]) hx hb d_H_readNumber_12 hl (by decide) rfl (fun ls hl => ?_)
  refine lv_iconst (v := nI 0) hx hb d_H_readNumber_14 (by decide) ?_
  refine lv_istore (lv' := [(5, .int (nI (0))), (4, .int (nI (f0 + cn - 1))), (0, .ref (cO K 1)), (1, .ref (cR K o)), (2, .int (nI (f0))), (3, .int (nI (cn)))]) hx hb d_H_readNumber_15 hl (by decide) rfl (fun ls hl => ?_)
  obtain ⟨t, ht0⟩ : ∃ t, t = f0 + cn - 1 := ⟨_, rfl⟩
  have hl2 := hl
  rw [← ht0] at hl2
  have hl : lv_has ls 6 [(5, .int (nI (0))), (4, .int (nI (t))), (0, .ref (cO K 1)), (1, .ref (cR K o)), (2, .int (nI (f0))), (3, .int (nI (cn)))] := hl2
  clear hl2
  obtain ⟨N, hN⟩ : ∃ N, N = min cn 32 := ⟨_, rfl⟩
  have loop : ∀ (d k : Nat), k + d = N → ∀ (H : Heap) (locs : List Loc) (ls : Array Slot), cH K (csV τ o (lo8 (cB τ) t k)) s H locs → lv_has ls 6 [(0, .ref (cO K 1)), (1, .ref (cR K o)), (2, .int (nI (f0))), (3, .int (nI (cn))), (4, .int (nI (t))), (5, .int (nI (k)))] → W p l e (headSpec (zW y_H_readNumber b_H_readNumber 6 none) (zr 2 47)).room s m ([.ref (cO K 1), .ref (cR K o), .int (nI (f0)), .int (nI (cn))] : List Value).toArray below meth c H locs 0 0 (MQ below (va_Qv (fun u => u = csV τ o (bA (cB τ) f0 cn cn)) (fun u => cC K u) (cAA K)) ([.ref (cO K 1), .ref (cR K o), .int (nI (f0)), .int (nI (cn))] : List Value).toArray s 0 0 (cAA K)) (F0 m 17 ls []) := by
    intro d
    induction d with
    | zero =>
      intro k hk H locs ls hw hl
      have hk : k = N := by omega
      subst hk
      have fin : lo8 (cB τ) t k = bA (cB τ) f0 cn cn := by rw [hN, ht0]; exact lo8_bA (fun i hi => hB _ (by omega))
      rw [fin] at hw
      refine lv_iload hx hb d_H_readNumber_17 (lv_at hl 5 rfl) ?_
      refine lv_iload_n hx hb d_H_readNumber_19 rfl (lv_at hl 3 rfl) ?_
      refine n_ge (tgt := 64) hx hb d_H_readNumber_20 (by decide) (by omega) (by omega) (fun _ => ?_) (fun c1 => ?_)
      · exact z_vret (cZ K) hx hb hr hlocks _ hw rfl d_H_readNumber_64
      · refine lv_iload hx hb d_H_readNumber_23 (lv_at hl 5 rfl) ?_
        refine lv_bipush (v := nI 32) hx hb d_H_readNumber_25 (by decide) ?_
        refine n_ge (tgt := 64) hx hb d_H_readNumber_27 (by decide) (by omega) (by omega) (fun _ => ?_) (fun c2 => absurd c2 (by omega))
        exact z_vret (cZ K) hx hb hr hlocks _ hw rfl d_H_readNumber_64
    | succ d ih =>
      intro k hk H locs ls hw hl
      have hk33 : k < cn ∧ k < 32 := by omega
      have hv : lo8 (cB τ) t k < 256 ^ k := lo8_lt k (fun i hi => hB _ (by omega))
      have hb9 : cB τ (t - k) < 256 := hB _ (by omega)
      obtain ⟨v, hv0⟩ : ∃ v, v = lo8 (cB τ) t k := ⟨_, rfl⟩
      rw [← hv0] at hw hv
      obtain ⟨q1, q2⟩ := lo8_ds hv hb9
      have q3 := lo8_dg hv
      have ev : cV (csV τ o v) o = v := cV_self v (by omega)
      refine lv_iload hx hb d_H_readNumber_17 (lv_at hl 5 rfl) ?_
      refine lv_iload_n hx hb d_H_readNumber_19 rfl (lv_at hl 3 rfl) ?_
      refine n_ge (tgt := 64) hx hb d_H_readNumber_20 (by decide) (by omega) (by omega) (fun c1 => absurd c1 (by omega)) (fun _ => ?_)
      refine lv_iload hx hb d_H_readNumber_23 (lv_at hl 5 rfl) ?_
      refine lv_bipush (v := nI 32) hx hb d_H_readNumber_25 (by decide) ?_
      refine n_ge (tgt := 64) hx hb d_H_readNumber_27 (by decide) (by omega) (by omega) (fun c1 => absurd c1 (by omega)) (fun _ => ?_)
      refine lv_aload_n hx hb d_H_readNumber_30 rfl (lv_at hl 1 rfl) ?_
      refine lv_iload hx hb d_H_readNumber_31 (lv_at hl 5 rfl) ?_
      refine lv_iconst (v := nI 4) hx hb d_H_readNumber_33 (by decide) ?_
      refine lv_idiv hx hb d_H_readNumber_34 (by decide) ?_
      refine tp_i (y := nI (k / 4)) (pk_div (by omega) (by decide) (by decide)) ?_
      refine lv_dup2_11 hx hb d_H_readNumber_35 rfl rfl ?_
      refine c_ld hx hb hw (show o < 46 by omega) (by rw [rl_32 (by omega)]; omega) d_H_readNumber_36 ?_
      refine tp_l (y := lN (dg b32 v (k / 4))) (congrArg lN (by rw [ev])) ?_
      refine lv_aload_n hx hb d_H_readNumber_37 rfl (lv_at hl 0 rfl) ?_
      refine va_get (ci := 1) (C := R_H) (T := F_H) (N := 2) (v := .ref (cO K 2)) hx hb ht ku_H hown hw.2.1 hw.1 1 rfl rfl 0 (by decide) (ht _ kf_H_9) (fun _ h9 => h9) rfl d_H_readNumber_38 ?_
      refine lv_iload hx hb d_H_readNumber_41 (lv_at hl 4 rfl) ?_
      refine lv_iload hx hb d_H_readNumber_43 (lv_at hl 5 rfl) ?_
      refine lv_isub hx hb d_H_readNumber_45 ?_
      refine tp_i (y := nI (t - k)) (pk_sub (by omega)) ?_
      refine c_bld hx hb hw (show t - k < 100 by omega) d_H_readNumber_46 ?_
      refine tp_i (y := nI (cB τ (t - k))) rfl ?_
      refine lv_i2l (v := lN (cB τ (t - k))) hx hb d_H_readNumber_47 (nI_l (by omega)) ?_
      refine lv_bipush (v := nI 8) hx hb d_H_readNumber_48 (by decide) ?_
      refine lv_iload hx hb d_H_readNumber_50 (lv_at hl 5 rfl) ?_
      refine lv_iconst (v := nI 4) hx hb d_H_readNumber_52 (by decide) ?_
      refine lv_irem hx hb d_H_readNumber_53 (by decide) ?_
      refine tp_i (y := nI (k % 4)) (pk_rem (by omega) (by decide) (by decide)) ?_
      refine lv_imul hx hb d_H_readNumber_54 ?_
      refine tp_i (y := nI (8 * (k % 4))) (pk_mul _ _) ?_
      refine lv_lshl (v := lN (cB τ (t - k) * 2 ^ (8 * (k % 4)))) hx hb d_H_readNumber_55 (wb_shl _ (by omega)) ?_
      refine lv_lor hx hb d_H_readNumber_56 ?_
      refine tp_l (y := lN (dg b32 v (k / 4) + cB τ (t - k) * 2 ^ (8 * (k % 4)))) (lN_orp q3 (Nat.lt_trans (dg32 _ _) (by decide)) (Nat.lt_of_le_of_lt (Nat.le_add_left _ _) (Nat.lt_trans q1 (by decide)))) ?_
      refine c_st hx hb hw (i := o) (k := k / 4) (by omega) (by rw [rl_32 (by omega)]; omega) q1 d_H_readNumber_57 (fun H locs hw => ?_)
      rw [csV_up, ev, q2, hv0] at hw
      refine lv_iinc (v := nI (k + 1)) (lv' := [(5, .int (nI (k + 1))), (0, .ref (cO K 1)), (1, .ref (cR K o)), (2, .int (nI (f0))), (3, .int (nI (cn))), (4, .int (nI (t)))]) hx hb d_H_readNumber_58 hl (k := 5) rfl (nI_add k 1) (by decide) rfl (fun ls hl => ?_)
      refine lv_goto (tgt := 17) hx hb d_H_readNumber_61 (by decide) ?_
      exact ih (k + 1) (by omega) H locs ls hw (lv_sub hl [1, 2, 3, 4, 5, 0] rfl)
  exact loop N 0 (by omega) _ _ ls hw (lv_sub hl [2, 3, 4, 5, 1, 0] rfl)
