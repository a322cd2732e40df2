/-! what the reference answers: get, put -/
theorem get_step {Z m : Nat} : Z / 2 % 2 ^ m * 2 + Z % 2 = Z % 2 ^ (m + 1) := by
  rw [Nat.pow_succ, Nat.mul_comm (2 ^ m), Nat.mod_mul, Nat.mul_comm 2]
  omega
/-- the lowest k bytes of v behind the m bytes in hand -/
def pb (v : Nat) : Nat → Nat → (Nat → Nat) → Nat → Nat
  | 0, _, B => B
  | k + 1, m, B => pb v k (m + 1) (va_up B m (v / 2 ^ (8 * k) % 256))
set_option maxHeartbeats 4000000 in
set_option maxRecDepth 100000 in
theorem c_R_get (l : Launch) (G : rG) (σ : rS) (hc0 : rCon σ) (x y : Int32) : Met l y_R_get (zW y_R_get b_R_get 6 (some .long)) (zr 1 22) (va_Pc [.ref (rA G 0), .int (x), .int (y)] (rC G σ)) (va_Ql (fun r u => u = σ ∧ (¬ (okR x 8 ∧ okR y 4) → r = lN 0) ∧ ∀ j k, j < 8 → k < 4 → x = nI j → y = nI k → r = lN (rV σ j / 2 ^ (64 * (3 - k)) % 2 ^ 64)) (fun u => rC G u) (rAA G)) 0 0 (rAA G) := by
  refine Met.ofW (cc := b_R_get) (maxL := 6) (ret := (some .long)) (by decide) rfl ?_
  intro p e s m args below meth c s₁ B hml hv
  obtain ⟨rfl, hw⟩ := hv
  have hx := B.exec
  have hb := B.bytes
  have hr := B.returns
  have hts := atoms_spec (ws := zW y_R_get b_R_get 6 (some .long)) B.pre
  have ht : ∀ w ∈ zT, w.before ([.ref (rA G 0), .int (x), .int (y)] : List Value).toArray s = true := fun w h => hts w (List.mem_cons_of_mem _ h)
  have hown : s.vm.findClass R_R = some m.cls := findClass_of_methodNamed B.named
  have hlocks := B.notSynchronized
  have hl := lv_entry ([.ref (rA G 0), .int (x), .int (y)]) (n := 6) (Nat.le_of_ble_eq_true rfl)
  rw [lg_entry_eq]
  generalize (lg_sl ([.ref (rA G 0), .int (x), .int (y)]) ++ List.replicate (6 - (lg_sl ([.ref (rA G 0), .int (x), .int (y)])).length) Slot.unset).toArray = ls at hl ⊢
  have hl : lv_has ls 6 [(0, .ref (rA G 0)), (1, .int (x)), (2, .int (y))] := hl
  have hno : ∀ (H : Heap) (locs : List Loc) (ls : Array Slot), rH G σ s H locs → lv_has ls 6 [(0, .ref (rA G 0)), (1, .int (x)), (2, .int (y))] → ¬ (okR x 8 ∧ okR y 4) → W p l e (headSpec (zW y_R_get b_R_get 6 (some .long)) (zr 1 22)).room s m ([.ref (rA G 0), .int (x), .int (y)] : List Value).toArray below meth c H locs 0 0 (MQ below (va_Ql (fun r u => u = σ ∧ (¬ (okR x 8 ∧ okR y 4) → r = lN 0) ∧ ∀ j k, j < 8 → k < 4 → x = nI j → y = nI k → r = lN (rV σ j / 2 ^ (64 * (3 - k)) % 2 ^ 64)) (fun u => rC G u) (rAA G)) ([.ref (rA G 0), .int (x), .int (y)] : List Value).toArray s 0 0 (rAA G)) (F0 m 16 ls []) := by
    intro H locs ls hw hl hn
    refine lv_lconst (v := lN 0) hx hb d_R_get_16 (by decide) ?_
    refine z_lret (rZ _) hx hb hr hlocks σ hw ⟨rfl, fun _ => rfl, fun j k w1 w2 e1 e2 => absurd ⟨?_, ?_⟩ hn⟩ d_R_get_17
    · rw [e1]; exact okR_of w1 (by decide)
    · rw [e2]; exact okR_of w2 (by decide)
  refine lv_iload_n hx hb d_R_get_0 rfl (lv_at hl 1 rfl) ?_
  refine r_callsi (np := 1) (As := [.int (x)]) (rest := []) ⟨hx, hb, hml, hown, ht⟩ hw (c_R_isRegister l G σ x) ⟨km_R_139, ks_R_isRegister, kc_R_isRegister⟩ (by decide +kernel) ⟨by decide, by decide⟩ rfl rfl rfl rfl hl.1 rfl (Nat.le_of_ble_eq_true rfl) d_R_get_1 ⟨Nat.le_refl _, Nat.le_refl _⟩ (fun r u H locs hp hw => ?_)
  obtain ⟨hpu, rfl⟩ := hp
  rw [hpu] at hw
  clear hpu
  refine n_eq0 (tgt := 16) hx hb d_R_get_4 (by decide) (boolN_s _) (fun c0 => hno H locs ls hw hl (fun q => boolN_0 c0 q.1)) (fun c0 => ?_)
  refine lv_iload_n hx hb d_R_get_7 rfl (lv_at hl 2 rfl) ?_
  refine lv_if_lt (tgt := 16) hx hb d_R_get_8 (by decide) (fun c1 => hno H locs ls hw hl (fun q => q.2.1 c1)) (fun c1 => ?_)
  refine lv_iload_n hx hb d_R_get_11 rfl (lv_at hl 2 rfl) ?_
  refine lv_iconst (v := nI 3) hx hb d_R_get_12 (by decide) ?_
  refine lv_icmp_le (tgt := 18) hx hb d_R_get_13 (by decide) (fun c2 => ?_) (fun c2 => hno H locs ls hw hl (fun q => c2 ((le_lt (by decide)).mpr q.2.2)))
  have k0 := boolN_1 c0
  have k1 : okR y 4 := ⟨c1, (le_lt (by decide)).mp c2⟩
  clear hno
  obtain ⟨j, lt_j, ex⟩ := k0.ex (by decide)
  obtain ⟨k, lt_k, ey⟩ := k1.ex (by decide)
  have hl2 := hl
  rw [ex, ey] at hl2
  have hl : lv_has ls 6 [(0, .ref (rA G 0)), (1, .int (nI (j))), (2, .int (nI (k)))] := hl2
  clear hl2
  obtain ⟨X, hX⟩ : ∃ X, X = rV σ j := ⟨_, rfl⟩
  refine lv_lconst (v := lN 0) hx hb d_R_get_18 (by decide) ?_
  refine lv_lstore_n (lv' := [(3, .long (lN (0))), (0, .ref (rA G 0)), (1, .int (nI (j))), (2, .int (nI (k)))]) hx hb d_R_get_19 rfl hl (by decide) rfl (fun ls hl => ?_)
  refine lv_bipush (v := nI 63) hx hb d_R_get_20 (by decide) ?_
  refine tp_i (y := (iv 64)) (rfl) ?_
  refine lv_istore (lv' := [(5, .int (iv 64)), (3, .long (lN (0))), (0, .ref (rA G 0)), (1, .int (nI (j))), (2, .int (nI (k)))]) hx hb d_R_get_22 hl (by decide) rfl (fun ls hl => ?_)
  have loop : ∀ (n : Nat), n ≤ 64 → ∀ (v : Nat) (H : Heap) (locs : List Loc) (ls : Array Slot), v = X / 2 ^ (64 * (3 - k) + n) % 2 ^ (64 - n) → rH G σ s H locs → lv_has ls 6 [(0, .ref (rA G 0)), (1, .int (nI (j))), (2, .int (nI (k))), (3, .long (lN (v))), (5, .int (iv n))] → W p l e (headSpec (zW y_R_get b_R_get 6 (some .long)) (zr 1 22)).room s m ([.ref (rA G 0), .int (x), .int (y)] : List Value).toArray below meth c H locs 0 0 (MQ below (va_Ql (fun r u => u = σ ∧ (¬ (okR x 8 ∧ okR y 4) → r = lN 0) ∧ ∀ j k, j < 8 → k < 4 → x = nI j → y = nI k → r = lN (rV σ j / 2 ^ (64 * (3 - k)) % 2 ^ 64)) (fun u => rC G u) (rAA G)) ([.ref (rA G 0), .int (x), .int (y)] : List Value).toArray s 0 0 (rAA G)) (F0 m 24 ls []) := by
    intro n
    induction n with
    | zero =>
      intro hn v H locs ls hv hw hl
      refine lv_iload hx hb d_R_get_24 (lv_at hl 4 rfl) ?_
      refine lv_if_lt (tgt := 62) hx hb d_R_get_26 (by decide) (fun _ => ?_) (fun h => absurd (show iv 0 < 0 by decide) h)
      refine lv_lload_n hx hb d_R_get_62 rfl (lv_at hl 3 rfl) ?_
      refine z_lret (rZ _) hx hb hr hlocks σ hw ⟨rfl, fun h => absurd ⟨k0, k1⟩ h, fun j_ k_ w1 w2 e1 e2 => ?_⟩ d_R_get_63
      have q_j_ : j_ = j := (nI_eq (by omega) (by omega)).mp (e1.symm.trans ex)
      subst q_j_
      have q_k_ : k_ = k := (nI_eq (by omega) (by omega)).mp (e2.symm.trans ey)
      subst q_k_
      rw [hv, Nat.add_zero, Nat.sub_zero, hX]
    | succ n ih =>
      intro hn v H locs ls hv hw hl
      have hl : lv_has ls 6 [(0, .ref (rA G 0)), (1, .int (nI (j))), (2, .int (nI (k))), (3, .long (lN (v))), (5, .int (nI (n)))] := hl
      refine lv_iload hx hb d_R_get_24 (lv_at hl 4 rfl) ?_
      refine lv_if_lt (tgt := 62) hx hb d_R_get_26 (by decide) (fun h => absurd h (nI_pos (by omega))) (fun _ => ?_)
      refine lv_lload_n hx hb d_R_get_29 rfl (lv_at hl 3 rfl) ?_
      refine lv_iconst (v := nI 1) hx hb d_R_get_30 (by decide) ?_
      refine lv_lshl (v := lN (v * 2 ^ 1)) hx hb d_R_get_31 (wb_shl v (k := 1) (by decide)) ?_
      refine lv_aload_n hx hb d_R_get_32 rfl (lv_at hl 0 rfl) ?_
      refine lv_iload_n hx hb d_R_get_33 rfl (lv_at hl 1 rfl) ?_
      refine lv_bipush (v := nI 64) hx hb d_R_get_34 (by decide) ?_
      refine lv_iconst (v := nI 3) hx hb d_R_get_36 (by decide) ?_
      refine lv_iload_n hx hb d_R_get_37 rfl (lv_at hl 2 rfl) ?_
      refine lv_isub hx hb d_R_get_38 ?_
      refine tp_i (y := nI (3 - k)) (pk_sub (by omega)) ?_
      refine lv_imul hx hb d_R_get_39 ?_
      refine tp_i (y := nI (64 * (3 - k))) (pk_mul _ _) ?_
      refine lv_iload hx hb d_R_get_40 (lv_at hl 4 rfl) ?_
      refine lv_iadd hx hb d_R_get_42 ?_
      refine tp_i (y := nI ((64 * (3 - k)) + n)) (nI_add _ _) ?_
      refine r_calli (np := 2) (As := [.int (nI (j)), .int (nI ((64 * (3 - k)) + n))]) (rest := [.long (lN (v * 2 ^ 1))]) ⟨hx, hb, hml, hown, ht⟩ hw (c_R_bit l G σ (by omega) (by omega)) ⟨km_R_100, kv_R_bit, kx_R_bit, kc_R_bit⟩ (by decide +kernel) ⟨by decide, by decide⟩ rfl rfl rfl hl.1 rfl (Nat.le_of_ble_eq_true rfl) d_R_get_43 ⟨Nat.le_refl _, Nat.le_refl _⟩ (fun r u H locs hp hw => ?_)
      obtain ⟨hpu, rfl⟩ := hp
      rw [hpu] at hw
      rw [← hX]
      have hstep : v * 2 + X / 2 ^ (64 * (3 - k) + n) % 2 = X / 2 ^ (64 * (3 - k) + n) % 2 ^ (64 - n) := by
        rw [hv, show 64 * (3 - k) + (n + 1) = (64 * (3 - k) + n) + 1 by omega, Nat.pow_succ, ← Nat.div_div_eq_div_mul, show 64 - (n + 1) = 63 - n by omega, get_step, show 63 - n + 1 = 64 - n by omega]
      have hvb : X / 2 ^ (64 * (3 - k) + n) % 2 ^ (64 - n) < 2 ^ 64 := Nat.lt_of_lt_of_le (Nat.mod_lt _ (Nat.two_pow_pos _)) (Nat.pow_le_pow_right (by decide) (by omega))
      generalize hZ : X / 2 ^ (64 * (3 - k) + n) % 2 = z at hstep ⊢
      have hz2 : z < 2 := by rw [← hZ]; exact Nat.mod_lt _ (by decide)
      have cont : ∀ ls, lv_has ls 6 [(0, .ref (rA G 0)), (1, .int (nI (j))), (2, .int (nI (k))), (3, .long (lN (v))), (5, .int (nI (n)))] → W p l e (headSpec (zW y_R_get b_R_get 6 (some .long)) (zr 1 22)).room s m ([.ref (rA G 0), .int (x), .int (y)] : List Value).toArray below meth c H locs 0 0 (MQ below (va_Ql (fun r u => u = σ ∧ (¬ (okR x 8 ∧ okR y 4) → r = lN 0) ∧ ∀ j k, j < 8 → k < 4 → x = nI j → y = nI k → r = lN (rV σ j / 2 ^ (64 * (3 - k)) % 2 ^ 64)) (fun u => rC G u) (rAA G)) ([.ref (rA G 0), .int (x), .int (y)] : List Value).toArray s 0 0 (rAA G)) (F0 m 54 ls [.long (lN z), .long (lN (v * 2 ^ 1))]) := by
        intro ls hl
        refine lv_lor hx hb d_R_get_54 ?_
        refine tp_l (y := lN (v * 2 ^ 1 + z)) (g_or (k := 1) (p := 2 ^ 1) rfl hz2 (by rw [Nat.pow_one]; omega)) ?_
        refine lv_lstore_n (lv' := [(3, .long (lN (v * 2 ^ 1 + z))), (0, .ref (rA G 0)), (1, .int (nI (j))), (2, .int (nI (k))), (5, .int (nI (n)))]) hx hb d_R_get_55 rfl hl (by decide) rfl (fun ls hl => ?_)
        refine lv_iinc (v := iv n) (lv' := [(5, .int (iv n)), (3, .long (lN (v * 2 ^ 1 + z))), (0, .ref (rA G 0)), (1, .int (nI (j))), (2, .int (nI (k)))]) hx hb d_R_get_56 hl (k := 4) rfl (iv_dec n) (by decide) rfl (fun ls hl => ?_)
        refine lv_goto (tgt := 24) hx hb d_R_get_59 (by decide) ?_
        exact ih (by omega) _ H locs ls (by rw [Nat.pow_one]; exact hstep) hw (lv_sub hl [2, 3, 4, 1, 0] rfl)
      refine n_eq0 (tgt := 53) hx hb d_R_get_46 (by decide) (boolN_s _) (fun c3 => ?_) (fun c3 => ?_)
      · have c4 : z = 0 := by have := boolN_0 c3; omega
        refine lv_lconst (v := lN 0) hx hb d_R_get_53 (by decide) ?_
        have := cont ls hl
        rw [c4] at this
        exact this
      · have c4 : z = 1 := boolN_1 c3
        refine lv_lconst (v := lN 1) hx hb d_R_get_49 (by decide) ?_
        refine lv_goto (tgt := 54) hx hb d_R_get_50 (by decide) ?_
        have := cont ls hl
        rw [c4] at this
        exact this
  exact loop 64 (Nat.le_refl _) 0 H locs ls (by rw [Nat.sub_self, Nat.pow_zero, Nat.mod_one]) hw (lv_sub hl [2, 3, 4, 1, 0] rfl)
set_option maxHeartbeats 4000000 in
set_option maxRecDepth 100000 in
theorem c_R_put (l : Launch) (G : rG) (σ : rS) (hm : rM σ ≤ 100) {v : Nat} (hv : v < 2 ^ 64) (x : Int32) : Met l y_R_put (zW y_R_put b_R_put 5 (some .boolean)) (zr 0 0) (va_Pc [.ref (rA G 0), .long (lN (v)), .int (x)] (rC G σ)) (va_Qi (fun r u => (¬ (¬ x < nI 1 ∧ ¬ nI 8 < x) → r = nI 0 ∧ u = σ) ∧ ∀ j, j < 9 → 0 < j → x = nI j → (¬ rM σ + j ≤ 100 → r = nI 0 ∧ u = σ) ∧ (rM σ + j ≤ 100 → r = nI 1 ∧ u = rsM (rsB σ (pb v j (rM σ) (rB σ))) (rM σ + j))) (fun u => rC G u) (rAA G)) 0 0 (rAA G) := by
  refine Met.ofW (cc := b_R_put) (maxL := 5) (ret := (some .boolean)) (by decide) rfl ?_
  intro p e s m args below meth c s₁ B hml hv
  obtain ⟨rfl, hw⟩ := hv
  have hx := B.exec
  have hb := B.bytes
  have hr := B.returns
  have hts := atoms_spec (ws := zW y_R_put b_R_put 5 (some .boolean)) B.pre
  have ht : ∀ w ∈ zT, w.before ([.ref (rA G 0), .long (lN (v)), .int (x)] : List Value).toArray s = true := fun w h => hts w (List.mem_cons_of_mem _ h)
  have hown : s.vm.findClass R_R = some m.cls := findClass_of_methodNamed B.named
  have hlocks := B.notSynchronized
  have hl := lv_entry ([.ref (rA G 0), .long (lN (v)), .int (x)]) (n := 5) (Nat.le_of_ble_eq_true rfl)
  rw [lg_entry_eq]
  generalize (lg_sl ([.ref (rA G 0), .long (lN (v)), .int (x)]) ++ List.replicate (5 - (lg_sl ([.ref (rA G 0), .long (lN (v)), .int (x)])).length) Slot.unset).toArray = ls at hl ⊢
  have hl : lv_has ls 5 [(0, .ref (rA G 0)), (1, .long (lN (v))), (3, .int (x))] := hl
  have hno : ∀ (H : Heap) (locs : List Loc) (ls : Array Slot), rH G σ s H locs → lv_has ls 5 [(0, .ref (rA G 0)), (1, .long (lN (v))), (3, .int (x))] → ((¬ x < nI 1 ∧ ¬ nI 8 < x) → ∀ j, j < 9 → x = nI j → ¬ rM σ + j ≤ 100) → W p l e (headSpec (zW y_R_put b_R_put 5 (some .boolean)) (zr 0 0)).room s m ([.ref (rA G 0), .long (lN (v)), .int (x)] : List Value).toArray below meth c H locs 0 0 (MQ below (va_Qi (fun r u => (¬ (¬ x < nI 1 ∧ ¬ nI 8 < x) → r = nI 0 ∧ u = σ) ∧ ∀ j, j < 9 → 0 < j → x = nI j → (¬ rM σ + j ≤ 100 → r = nI 0 ∧ u = σ) ∧ (rM σ + j ≤ 100 → r = nI 1 ∧ u = rsM (rsB σ (pb v j (rM σ) (rB σ))) (rM σ + j))) (fun u => rC G u) (rAA G)) ([.ref (rA G 0), .long (lN (v)), .int (x)] : List Value).toArray s 0 0 (rAA G)) (F0 m 22 ls []) := by
    intro H locs ls hw hl hn
    refine lv_iconst (v := nI 0) hx hb d_R_put_22 (by decide) ?_
    refine z_zret (rZ _) hx hb hr hlocks (nar_b (by decide)) σ hw ⟨fun _ => ⟨rfl, rfl⟩, fun j w1 w2 e1 => ⟨fun _ => ⟨rfl, rfl⟩, fun q => absurd q (hn ⟨?_, ?_⟩ j w1 e1)⟩⟩ d_R_put_23
    · rw [e1]; exact nI_nlt w2 (by omega)
    · rw [e1]; exact nI_nlt (by omega) (by decide)
  refine lv_iload_n hx hb d_R_put_0 rfl (lv_at hl 2 rfl) ?_
  refine lv_iconst (v := nI 1) hx hb d_R_put_1 (by decide) ?_
  refine lv_icmp_lt (tgt := 22) hx hb d_R_put_2 (by decide) (fun c0 => hno _ _ ls hw hl (fun q => absurd c0 q.1)) (fun c0 => ?_)
  refine lv_iload_n hx hb d_R_put_5 rfl (lv_at hl 2 rfl) ?_
  refine lv_bipush (v := nI 8) hx hb d_R_put_6 (by decide) ?_
  refine lv_icmp_gt (tgt := 22) hx hb d_R_put_8 (by decide) (fun c1 => hno _ _ ls hw hl (fun q => absurd c1 q.2)) (fun c1 => ?_)
  obtain ⟨j, lt_j, ex⟩ : ∃ j : Nat, j < 9 ∧ x = nI j := by
    rcases pk_ix x (n := 9) (by decide) with h | h | h
    · exact absurd (Int32.lt_trans h (by decide)) c0
    · exact absurd ((gt_le (k := 8) (by decide)).mpr h) c1
    · exact h
  have j0 : 0 < j := by
    rcases Nat.eq_zero_or_pos j with h | h
    · rw [ex, h] at c0; exact absurd (by decide) c0
    · exact h
  have hlx := hl
  have hl2 := hl
  rw [ex] at hl2
  have hl : lv_has ls 5 [(0, .ref (rA G 0)), (1, .long (lN (v))), (3, .int (nI (j)))] := hl2
  refine lv_aload_n hx hb d_R_put_11 rfl (lv_at hl 0 rfl) ?_
  refine r_get hx hb ht hown hw 6 (by decide) (ht _ kf_R_163) rfl d_R_put_12 (fun _ h9 => h9) ?_
  refine lv_iload_n hx hb d_R_put_15 rfl (lv_at hl 2 rfl) ?_
  refine lv_iadd hx hb d_R_put_16 ?_
  refine tp_i (y := nI ((rM σ) + j)) (nI_add _ _) ?_
  refine lv_bipush (v := nI 100) hx hb d_R_put_17 (by decide) ?_
  refine n_le (tgt := 24) hx hb d_R_put_19 (by decide) (by omega) (by decide) (fun c2 => ?_) (fun c2 => hno _ _ ls hw hlx (fun _ j2 w1 e1 => by have q9 : j2 = j := (nI_eq (by omega) (by omega)).mp (e1.symm.trans ex); omega))
  clear hno hlx
  refine lv_iload_n hx hb d_R_put_24 rfl (lv_at hl 2 rfl) ?_
  refine lv_iconst (v := nI 1) hx hb d_R_put_25 (by decide) ?_
  refine lv_isub hx hb d_R_put_26 ?_
  refine tp_i (y := (iv j)) (by obtain ⟨t, rfl⟩ : ∃ t, j = t + 1 := ⟨j - 1, by omega⟩; exact nI_pred t) ?_
  refine lv_istore (lv' := [(4, .int (iv j)), (0, .ref (rA G 0)), (1, .long (lN (v))), (3, .int (nI (j)))]) hx hb d_R_put_27 hl (by decide) rfl (fun ls hl => ?_)
  have loop : ∀ (n : Nat), n ≤ j → ∀ (B : Nat → Nat) (mm0 : Nat) (H : Heap) (locs : List Loc) (ls : Array Slot), mm0 + n = rM σ + j → pb v n mm0 B = pb v j (rM σ) (rB σ) → rH G (rsM (rsB σ B) mm0) s H locs → lv_has ls 5 [(0, .ref (rA G 0)), (1, .long (lN (v))), (3, .int (nI (j))), (4, .int (iv n))] → W p l e (headSpec (zW y_R_put b_R_put 5 (some .boolean)) (zr 0 0)).room s m ([.ref (rA G 0), .long (lN (v)), .int (x)] : List Value).toArray below meth c H locs 0 0 (MQ below (va_Qi (fun r u => (¬ (¬ x < nI 1 ∧ ¬ nI 8 < x) → r = nI 0 ∧ u = σ) ∧ ∀ j, j < 9 → 0 < j → x = nI j → (¬ rM σ + j ≤ 100 → r = nI 0 ∧ u = σ) ∧ (rM σ + j ≤ 100 → r = nI 1 ∧ u = rsM (rsB σ (pb v j (rM σ) (rB σ))) (rM σ + j))) (fun u => rC G u) (rAA G)) ([.ref (rA G 0), .long (lN (v)), .int (x)] : List Value).toArray s 0 0 (rAA G)) (F0 m 29 ls []) := by
    intro n
    induction n with
    | zero =>
      intro hn B mm0 H locs ls hm0 hB hw hl
      refine lv_iload hx hb d_R_put_29 (lv_at hl 3 rfl) ?_
      refine lv_if_lt (tgt := 71) hx hb d_R_put_31 (by decide) (fun _ => ?_) (fun h => absurd (show iv 0 < 0 by decide) h)
      refine lv_iconst (v := nI 1) hx hb d_R_put_71 (by decide) ?_
      refine z_zret (rZ _) hx hb hr hlocks (nar_b (by decide)) _ hw ⟨fun h => absurd ⟨c0, c1⟩ h, fun j_ w1 w2 e1 => ?_⟩ d_R_put_72
      have q_j_ : j_ = j := (nI_eq (by omega) (by omega)).mp (e1.symm.trans ex)
      subst q_j_
      refine ⟨fun h => absurd c2 h, fun _ => ⟨rfl, ?_⟩⟩
      have hB2 : B = pb v j_ (rM σ) (rB σ) := hB
      rw [← hB2, show mm0 = rM σ + j_ by omega]
    | succ n ih =>
      intro hn B mm0 H locs ls hm0 hB hw hl
      have hl : lv_has ls 5 [(0, .ref (rA G 0)), (1, .long (lN (v))), (3, .int (nI (j))), (4, .int (nI (n)))] := hl
      refine lv_iload hx hb d_R_put_29 (lv_at hl 3 rfl) ?_
      refine lv_if_lt (tgt := 71) hx hb d_R_put_31 (by decide) (fun h => absurd h (nI_pos (by omega))) (fun _ => ?_)
      refine lv_aload_n hx hb d_R_put_34 rfl (lv_at hl 0 rfl) ?_
      refine r_get hx hb ht hown hw 5 (by decide) (ht _ kf_R_27) rfl d_R_put_35 (fun _ h9 => h9) ?_
      refine lv_aload_n hx hb d_R_put_38 rfl (lv_at hl 0 rfl) ?_
      refine r_get hx hb ht hown hw 6 (by decide) (ht _ kf_R_163) rfl d_R_put_39 (fun _ h9 => h9) ?_
      refine lv_lload_n hx hb d_R_put_42 rfl (lv_at hl 1 rfl) ?_
      refine lv_bipush (v := nI 8) hx hb d_R_put_43 (by decide) ?_
      refine lv_iload hx hb d_R_put_45 (lv_at hl 3 rfl) ?_
      refine lv_imul hx hb d_R_put_47 ?_
      refine tp_i (y := nI (8 * n)) (pk_mul _ _) ?_
      refine lv_lshr hx hb d_R_put_48 rfl ?_
      refine lv_ldc2 hx hb hown (ht _ kl_R_167) d_R_put_49 ?_
      refine lv_land hx hb d_R_put_52 ?_
      refine tp_l (y := lN (v / 2 ^ (8 * n) % 256)) (sbits (j := 8) hv (by omega) (by decide)) ?_
      refine lv_l2i (v := nI (v / 2 ^ (8 * n) % 256)) hx hb d_R_put_53 (lN_i _) ?_
      refine r_bst hx hb hw (show mm0 < 100 by omega) d_R_put_54 (fun H locs hw => ?_)
      refine lv_aload_n hx hb d_R_put_55 rfl (lv_at hl 0 rfl) ?_
      refine lv_dup hx hb d_R_put_56 rfl ?_
      refine r_get hx hb ht hown hw 6 (by decide) (ht _ kf_R_163) rfl d_R_put_57 (fun _ h9 => h9) ?_
      refine lv_iconst (v := nI 1) hx hb d_R_put_60 (by decide) ?_
      refine lv_iadd hx hb d_R_put_61 ?_
      refine tp_i (y := nI ((rM (rsB (rsM (rsB σ B) mm0) (va_up (rB (rsM (rsB σ B) mm0)) mm0 (v / 2 ^ (8 * n) % 256)))) + 1)) (nI_add _ _) ?_
      refine r_put (x := mm0 + 1) hx hb ht hown hw (ht _ kf_R_163) d_R_put_62 (fun H locs hw => ?_)
      refine lv_iinc (v := iv n) (lv' := [(4, .int (iv n)), (0, .ref (rA G 0)), (1, .long (lN (v))), (3, .int (nI (j)))]) hx hb d_R_put_65 hl (k := 3) rfl (iv_dec n) (by decide) rfl (fun ls hl => ?_)
      refine lv_goto (tgt := 29) hx hb d_R_put_68 (by decide) ?_
      exact ih (by omega) (va_up B mm0 (v / 2 ^ (8 * n) % 256)) (mm0 + 1) H locs ls (by omega) hB hw (lv_sub hl [1, 2, 3, 0] rfl)
  exact loop j (Nat.le_refl _) (rB σ) (rM σ) _ _ ls rfl rfl hw (lv_sub hl [1, 2, 3, 0] rfl)
