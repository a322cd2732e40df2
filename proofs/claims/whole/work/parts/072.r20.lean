/-! what the reference answers: set -/
def wd (a b c d k : Nat) : Nat := if k = 0 then d else if k = 1 then c else if k = 2 then b else a
def W4 (a b c d : Nat) : Nat := ((a * 18446744073709551616 + b) * 18446744073709551616 + c) * 18446744073709551616 + d
theorem W4_lt {a b c d : Nat} (ha : a < 2 ^ 64) (hb : b < 2 ^ 64) (hc : c < 2 ^ 64) (hd : d < 2 ^ 64) : W4 a b c d < 2 ^ 256 := by
  unfold W4
  omega
theorem wd_lt {a b c d : Nat} (ha : a < 2 ^ 64) (hb : b < 2 ^ 64) (hc : c < 2 ^ 64) (hd : d < 2 ^ 64) (k : Nat) : wd a b c d k < 2 ^ 64 := by
  unfold wd
  split
  · exact hd
  split
  · exact hc
  split
  · exact hb
  · exact ha
theorem W4_wd {a b c d j : Nat} (ha : a < 2 ^ 64) (hb : b < 2 ^ 64) (hc : c < 2 ^ 64) (hd : d < 2 ^ 64) (hj : j < 4) : W4 a b c d / 2 ^ (64 * j) % 18446744073709551616 = wd a b c d j := by
  unfold W4 wd
  rcases (show j = 0 ∨ j = 1 ∨ j = 2 ∨ j = 3 by omega) with rfl | rfl | rfl | rfl
  · simp only [if_true]
    omega
  · rw [if_neg (by decide), if_pos rfl]
    show _ / 18446744073709551616 % 18446744073709551616 = c
    omega
  · rw [if_neg (by decide), if_neg (by decide), if_pos rfl]
    show _ / 340282366920938463463374607431768211456 % 18446744073709551616 = b
    omega
  · rw [if_neg (by decide), if_neg (by decide), if_neg (by decide)]
    show _ / 6277101735386680763835789423207666416102355444464034512896 % 18446744073709551616 = a
    omega
theorem mod64_bit {z t : Nat} (ht : t < 64) : z % 18446744073709551616 / 2 ^ t % 2 = z / 2 ^ t % 2 := by
  have e2 : 18446744073709551616 = 2 ^ t * (2 * 2 ^ (63 - t)) := by
    rw [← Nat.pow_succ', ← Nat.pow_add, show (18446744073709551616 : Nat) = 2 ^ 64 by decide]
    congr 1
    omega
  rw [e2, Nat.mod_mul_right_div_self, Nat.mod_mul_right_mod]
theorem W4_bit {a b c d k : Nat} (ha : a < 2 ^ 64) (hb : b < 2 ^ 64) (hc : c < 2 ^ 64) (hd : d < 2 ^ 64) (hk : k < 256) : wd a b c d (k / 64) / 2 ^ (k % 64) % 2 = W4 a b c d / 2 ^ k % 2 := by
  rw [← W4_wd ha hb hc hd (show k / 64 < 4 by omega), mod64_bit (Nat.mod_lt _ (by decide)), Nat.div_div_eq_div_mul, ← Nat.pow_add]
  congr 3
  omega
theorem ds_add {b : Nat} (w i e : Nat) : ds b w i (dg b w i + e) = w + e * b ^ i := by
  unfold ds
  have h := dg_mod b w i
  have h2 := Nat.div_add_mod w (b ^ (i + 1))
  rw [Nat.add_mul]
  rw [Nat.mul_comm (b ^ (i + 1))] at h2
  omega
theorem dg_low {w k : Nat} (h : w < 2 ^ k) : dg b26 w (k / 26) < 2 ^ (k % 26) := by
  unfold dg
  refine Nat.lt_of_le_of_lt (Nat.mod_le _ _) ?_
  refine Nat.div_lt_of_lt_mul ?_
  rw [show b26 = 2 ^ 26 by decide, ← Nat.pow_mul, ← Nat.pow_add, show 26 * (k / 26) + k % 26 = k by omega]
  exact h
theorem pw26 (k : Nat) : 2 ^ (k % 26) * b26 ^ (k / 26) = 2 ^ k := by
  rw [show b26 = 2 ^ 26 by decide, ← Nat.pow_mul, ← Nat.pow_add]
  congr 1
  omega
theorem bit_fit {d b t : Nat} (ht : t < 26) (hd : d < 2 ^ t) (hb : b < 2) : d + b * 2 ^ t < 67108864 := by
  have h1 : 2 ^ (t + 1) ≤ 2 ^ 26 := Nat.pow_le_pow_right (by decide) ht
  rw [Nat.pow_succ] at h1
  have h2 : b * 2 ^ t ≤ 1 * 2 ^ t := Nat.mul_le_mul_right _ (by omega)
  omega
set_option maxHeartbeats 4000000 in
set_option maxRecDepth 100000 in
theorem c_R_wordOf (l : Launch) (G : rG) (σ : rS) (k a b c d : Nat) (hk : k < 4) : Met l y_R_wordOf (zW y_R_wordOf b_R_wordOf 9 (some .long)) (zr 0 0) (va_Pc [.int (nI (k)), .long (lN (a)), .long (lN (b)), .long (lN (c)), .long (lN (d))] (rC G σ)) (va_Ql (fun r u => u = σ ∧ r = lN (wd a b c d k)) (fun u => rC G u) (rAA G)) 0 0 (rAA G) := by
  refine Met.ofW (cc := b_R_wordOf) (maxL := 9) (ret := (some .long)) (by decide) rfl ?_
  intro p e s m args below meth c9 s₁ B hml hv
  obtain ⟨rfl, hw⟩ := hv
  have hx := B.exec
  have hb := B.bytes
  have hr := B.returns
  have hts := atoms_spec (ws := zW y_R_wordOf b_R_wordOf 9 (some .long)) B.pre
  have ht : ∀ w ∈ zT, w.before ([.int (nI (k)), .long (lN (a)), .long (lN (b)), .long (lN (c)), .long (lN (d))] : List Value).toArray s = true := fun w h => hts w (List.mem_cons_of_mem _ h)
  have hown : s.vm.findClass R_R = some m.cls := findClass_of_methodNamed B.named
  have hlocks := B.notSynchronized
  have hl := lv_entry ([.int (nI (k)), .long (lN (a)), .long (lN (b)), .long (lN (c)), .long (lN (d))]) (n := 9) (Nat.le_of_ble_eq_true rfl)
  rw [lg_entry_eq]
  generalize (lg_sl ([.int (nI (k)), .long (lN (a)), .long (lN (b)), .long (lN (c)), .long (lN (d))]) ++ List.replicate (9 - (lg_sl ([.int (nI (k)), .long (lN (a)), .long (lN (b)), .long (lN (c)), .long (lN (d))])).length) Slot.unset).toArray = ls at hl ⊢
  have hl : lv_has ls 9 [(0, .int (nI (k))), (1, .long (lN (a))), (3, .long (lN (b))), (5, .long (lN (c))), (7, .long (lN (d)))] := hl
  refine lv_iload_n hx hb d_R_wordOf_0 rfl (lv_at hl 0 rfl) ?_
  refine n_ne0 (tgt := 9) hx hb d_R_wordOf_1 (by decide) (by omega) (fun c1 => ?_) (fun c1 => ?_)
  · refine lv_iload_n hx hb d_R_wordOf_9 rfl (lv_at hl 0 rfl) ?_
    refine lv_iconst (v := nI 1) hx hb d_R_wordOf_10 (by decide) ?_
    refine n_ne (tgt := 19) hx hb d_R_wordOf_11 (by decide) (by omega) (by decide) (fun c2 => ?_) (fun c2 => ?_)
    · refine lv_iload_n hx hb d_R_wordOf_19 rfl (lv_at hl 0 rfl) ?_
      refine lv_iconst (v := nI 2) hx hb d_R_wordOf_20 (by decide) ?_
      refine n_ne (tgt := 28) hx hb d_R_wordOf_21 (by decide) (by omega) (by decide) (fun c3 => ?_) (fun c3 => ?_)
      · refine lv_lload_n hx hb d_R_wordOf_28 rfl (lv_at hl 1 rfl) ?_
        exact z_lret (rZ _) hx hb hr hlocks σ hw ⟨rfl, by rw [wd, if_neg c1, if_neg c2, if_neg c3]⟩ d_R_wordOf_29
      · refine lv_lload_n hx hb d_R_wordOf_24 rfl (lv_at hl 2 rfl) ?_
        refine lv_goto (tgt := 29) hx hb d_R_wordOf_25 (by decide) ?_
        exact z_lret (rZ _) hx hb hr hlocks σ hw ⟨rfl, by rw [wd, if_neg c1, if_neg c2, if_pos c3]⟩ d_R_wordOf_29
    · refine lv_lload hx hb d_R_wordOf_14 (lv_at hl 3 rfl) ?_
      refine lv_goto (tgt := 29) hx hb d_R_wordOf_16 (by decide) ?_
      exact z_lret (rZ _) hx hb hr hlocks σ hw ⟨rfl, by rw [wd, if_neg c1, if_pos c2]⟩ d_R_wordOf_29
  · refine lv_lload hx hb d_R_wordOf_4 (lv_at hl 4 rfl) ?_
    refine lv_goto (tgt := 29) hx hb d_R_wordOf_6 (by decide) ?_
    exact z_lret (rZ _) hx hb hr hlocks σ hw ⟨rfl, by rw [wd, if_pos c1]⟩ d_R_wordOf_29
set_option maxHeartbeats 4000000 in
set_option maxRecDepth 100000 in
theorem c_R_write (l : Launch) (G : rG) (σ : rS) (hok : rOk σ) {r a b c d : Nat} (h1 : r < 48) (ha : a < 2 ^ 64) (hb0 : b < 2 ^ 64) (hc : c < 2 ^ 64) (hd : d < 2 ^ 64) : Met l y_R_write (zW y_R_write b_R_write 13 none) (zr 1 28) (va_Pc [.ref (rA G 0), .int (nI (r)), .long (lN (a)), .long (lN (b)), .long (lN (c)), .long (lN (d))] (rC G σ)) (va_Qv (fun u => u = rsV σ (va_up (rV σ) r (W4 a b c d))) (fun u => rC G u) (rAA G)) 0 0 (rAA G) := by
  refine Met.ofW (cc := b_R_write) (maxL := 13) (ret := none) (by decide) rfl ?_
  intro p e s m args below meth c9 s₁ B hml hv
  obtain ⟨rfl, hw⟩ := hv
  have hx := B.exec
  have hb := B.bytes
  have hr := B.returns
  have hts := atoms_spec (ws := zW y_R_write b_R_write 13 none) B.pre
  have ht : ∀ w ∈ zT, w.before ([.ref (rA G 0), .int (nI (r)), .long (lN (a)), .long (lN (b)), .long (lN (c)), .long (lN (d))] : List Value).toArray s = true := fun w h => hts w (List.mem_cons_of_mem _ h)
  have hown : s.vm.findClass R_R = some m.cls := findClass_of_methodNamed B.named
  have hlocks := B.notSynchronized
  have hl := lv_entry ([.ref (rA G 0), .int (nI (r)), .long (lN (a)), .long (lN (b)), .long (lN (c)), .long (lN (d))]) (n := 13) (Nat.le_of_ble_eq_true rfl)
  rw [lg_entry_eq]
  generalize (lg_sl ([.ref (rA G 0), .int (nI (r)), .long (lN (a)), .long (lN (b)), .long (lN (c)), .long (lN (d))]) ++ List.replicate (13 - (lg_sl ([.ref (rA G 0), .int (nI (r)), .long (lN (a)), .long (lN (b)), .long (lN (c)), .long (lN (d))])).length) Slot.unset).toArray = ls at hl ⊢
  have hl : lv_has ls 13 [(0, .ref (rA G 0)), (1, .int (nI (r))), (2, .long (lN (a))), (4, .long (lN (b))), (6, .long (lN (c))), (8, .long (lN (d)))] := hl
  refine lv_aload_n hx hb d_R_write_0 rfl (lv_at hl 0 rfl) ?_
  refine lv_iload_n hx hb d_R_write_1 rfl (lv_at hl 1 rfl) ?_
  refine r_callv (np := 1) (As := [.int (nI (r))]) (rest := []) ⟨hx, hb, hml, hown, ht⟩ hw (c_R_nothing l G σ hok h1) ⟨km_R_62, kv_R_nothing, kx_R_nothing, kc_R_nothing⟩ (by decide +kernel) ⟨by decide, by decide⟩ rfl rfl rfl hl.1 rfl (Nat.le_of_ble_eq_true rfl) d_R_write_2 ⟨Nat.le_refl _, Nat.le_refl _⟩ (fun u H locs hp hw => ?_)
  subst hp
  obtain ⟨X, hX⟩ : ∃ X, X = W4 a b c d := ⟨_, rfl⟩
  rw [← hX]
  have hXl : X < 2 ^ 256 := by rw [hX]; exact W4_lt ha hb0 hc hd
  refine lv_iconst (v := nI 0) hx hb d_R_write_5 (by decide) ?_
  refine lv_istore (lv' := [(10, .int (nI (0))), (0, .ref (rA G 0)), (1, .int (nI (r))), (2, .long (lN (a))), (4, .long (lN (b))), (6, .long (lN (c))), (8, .long (lN (d)))]) hx hb d_R_write_6 hl (by decide) rfl (fun ls hl => ?_)
  have loop : ∀ (n k : Nat), k + n = 256 → ∀ (H : Heap) (locs : List Loc) (ls : Array Slot), rH G (rsV σ (va_up (rV σ) r (X % 2 ^ k))) s H locs → lv_has ls 13 [(0, .ref (rA G 0)), (1, .int (nI (r))), (2, .long (lN (a))), (4, .long (lN (b))), (6, .long (lN (c))), (8, .long (lN (d))), (10, .int (nI (k)))] → W p l e (headSpec (zW y_R_write b_R_write 13 none) (zr 1 28)).room s m ([.ref (rA G 0), .int (nI (r)), .long (lN (a)), .long (lN (b)), .long (lN (c)), .long (lN (d))] : List Value).toArray below meth c9 H locs 0 0 (MQ below (va_Qv (fun u => u = rsV σ (va_up (rV σ) r X)) (fun u => rC G u) (rAA G)) ([.ref (rA G 0), .int (nI (r)), .long (lN (a)), .long (lN (b)), .long (lN (c)), .long (lN (d))] : List Value).toArray s 0 0 (rAA G)) (F0 m 8 ls []) := by
    intro n
    induction n with
    | zero =>
      intro k hk H locs ls hw hl
      have hk : k = 256 := by omega
      subst hk
      refine lv_iload hx hb d_R_write_8 (lv_at hl 6 rfl) ?_
      refine lv_sipush (v := nI 256) hx hb d_R_write_10 (by decide) ?_
      refine n_ge (tgt := 74) hx hb d_R_write_13 (by decide) (by decide) (by decide) (fun _ => ?_) (fun h => absurd h (by omega))
      rw [Nat.mod_eq_of_lt hXl] at hw
      exact z_vret (rZ _) hx hb hr hlocks _ hw rfl d_R_write_74
    | succ n ih =>
      intro k hk H locs ls hw hl
      refine lv_iload hx hb d_R_write_8 (lv_at hl 6 rfl) ?_
      refine lv_sipush (v := nI 256) hx hb d_R_write_10 (by decide) ?_
      have hkl : k < 256 := by omega
      clear hXl
      refine n_ge (tgt := 74) hx hb d_R_write_13 (by decide) (by omega) (by decide) (fun h => absurd h (by omega)) (fun _ => ?_)
      refine lv_iload hx hb d_R_write_16 (lv_at hl 6 rfl) ?_
      refine lv_bipush (v := nI 64) hx hb d_R_write_18 (by decide) ?_
      refine lv_idiv hx hb d_R_write_20 (by decide) ?_
      refine tp_i (y := nI (k / 64)) (pk_div (by omega) (by decide) (by decide)) ?_
      refine lv_lload_n hx hb d_R_write_21 rfl (lv_at hl 2 rfl) ?_
      refine lv_lload hx hb d_R_write_22 (lv_at hl 3 rfl) ?_
      refine lv_lload hx hb d_R_write_24 (lv_at hl 4 rfl) ?_
      refine lv_lload hx hb d_R_write_26 (lv_at hl 5 rfl) ?_
      refine r_callsl (np := 5) (As := [.int (nI (k / 64)), .long (lN (a)), .long (lN (b)), .long (lN (c)), .long (lN (d))]) (rest := []) ⟨hx, hb, hml, hown, ht⟩ hw (c_R_wordOf l G _ (k / 64) a b c d (by omega)) ⟨km_R_66, ks_R_wordOf, kc_R_wordOf⟩ (by decide +kernel) ⟨by decide, by decide⟩ rfl rfl rfl rfl hl.1 rfl (Nat.le_of_ble_eq_true rfl) d_R_write_28 ⟨Nat.le_refl _, Nat.le_refl _⟩ (fun rr u H locs hp hw => ?_)
      obtain ⟨hpu, rfl⟩ := hp
      rw [hpu] at hw
      refine lv_iload hx hb d_R_write_31 (lv_at hl 6 rfl) ?_
      refine lv_bipush (v := nI 64) hx hb d_R_write_33 (by decide) ?_
      refine lv_irem hx hb d_R_write_35 (by decide) ?_
      refine tp_i (y := nI (k % 64)) (pk_rem (by omega) (by decide) (by decide)) ?_
      refine lv_lshr hx hb d_R_write_36 rfl ?_
      refine lv_lconst (v := lN 1) hx hb d_R_write_37 (by decide) ?_
      refine lv_land hx hb d_R_write_38 ?_
      refine tp_l (y := lN (X / 2 ^ k % 2)) ((sbit (wd_lt ha hb0 hc hd _) (by omega)).trans (congrArg lN (by rw [W4_bit ha hb0 hc hd hkl, ← hX]))) ?_
      have hb2 : X / 2 ^ k % 2 < 2 := Nat.mod_lt _ (by decide)
      have hw2 : X % 2 ^ k < 2 ^ k := Nat.mod_lt _ (Nat.two_pow_pos k)
      refine lv_lstore (lv' := [(11, .long (lN (X / 2 ^ k % 2))), (0, .ref (rA G 0)), (1, .int (nI (r))), (2, .long (lN (a))), (4, .long (lN (b))), (6, .long (lN (c))), (8, .long (lN (d))), (10, .int (nI (k)))]) hx hb d_R_write_39 hl (by decide) rfl (fun ls hl => ?_)
      refine lv_aload_n hx hb d_R_write_41 rfl (lv_at hl 1 rfl) ?_
      refine r_get hx hb ht hown hw 0 (by decide) (ht _ kf_R_7) rfl d_R_write_42 (fun _ h9 => h9) ?_
      refine lv_bipush (v := nI 10) hx hb d_R_write_45 (by decide) ?_
      refine lv_iload_n hx hb d_R_write_47 rfl (lv_at hl 2 rfl) ?_
      refine lv_imul hx hb d_R_write_48 ?_
      refine tp_i (y := nI (10 * r)) (pk_mul _ _) ?_
      refine lv_iload hx hb d_R_write_49 (lv_at hl 7 rfl) ?_
      refine lv_bipush (v := nI 26) hx hb d_R_write_51 (by decide) ?_
      refine lv_idiv hx hb d_R_write_53 (by decide) ?_
      refine tp_i (y := nI (k / 26)) (pk_div (by omega) (by decide) (by decide)) ?_
      refine lv_iadd hx hb d_R_write_54 ?_
      refine tp_i (y := nI ((10 * r) + (k / 26))) (nI_add _ _) ?_
      refine lv_dup2_11 hx hb d_R_write_55 rfl rfl ?_
      refine r_ild' hx hb hw h1 (by omega) d_R_write_56 ?_
      refine tp_i (y := nI (dg b26 (X % 2 ^ k) (k / 26))) (congrArg nI (congrArg (fun v => dg b26 v (k / 26)) (up_self _ _ _))) ?_
      refine lv_lload hx hb d_R_write_57 (lv_at hl 0 rfl) ?_
      refine lv_l2i (v := nI (X / 2 ^ k % 2)) hx hb d_R_write_59 (lN_i _) ?_
      refine lv_iload hx hb d_R_write_60 (lv_at hl 7 rfl) ?_
      refine lv_bipush (v := nI 26) hx hb d_R_write_62 (by decide) ?_
      refine lv_irem hx hb d_R_write_64 (by decide) ?_
      refine tp_i (y := nI (k % 26)) (pk_rem (by omega) (by decide) (by decide)) ?_
      have ht26 : k % 26 < 26 := Nat.mod_lt _ (by decide)
      have hfit := bit_fit ht26 (dg_low hw2) hb2
      refine lv_ishl hx hb d_R_write_65 ?_
      refine tp_i (y := nI (X / 2 ^ k % 2 * 2 ^ (k % 26))) (shlt (by omega) (by omega)) ?_
      refine lv_ior hx hb d_R_write_66 ?_
      refine tp_i (y := nI (dg b26 (X % 2 ^ k) (k / 26) + X / 2 ^ k % 2 * 2 ^ (k % 26))) (nI_orp (dg_low hw2)) ?_
      refine r_ist hx hb hw h1 (by omega) hfit d_R_write_67 (fun H locs hw => ?_)
      refine lv_iinc (v := nI (k + 1)) (lv' := [(10, .int (nI (k + 1))), (11, .long (lN (X / 2 ^ k % 2))), (0, .ref (rA G 0)), (1, .int (nI (r))), (2, .long (lN (a))), (4, .long (lN (b))), (6, .long (lN (c))), (8, .long (lN (d)))]) hx hb d_R_write_68 hl (k := 7) rfl (nI_add k 1) (by decide) rfl (fun ls hl => ?_)
      refine lv_goto (tgt := 8) hx hb d_R_write_71 (by decide) ?_
      refine ih (k + 1) (by omega) H locs ls ?_ (lv_sub hl [2, 3, 4, 5, 6, 7, 0] rfl)
      have e1 : ds b26 (X % 2 ^ k) (k / 26) (dg b26 (X % 2 ^ k) (k / 26) + X / 2 ^ k % 2 * 2 ^ (k % 26)) = X % 2 ^ (k + 1) := by
        rw [ds_add, Nat.mul_assoc, pw26, dg_mod 2 X k]
        rfl
      have e2 : va_up (va_up (rV σ) r (X % 2 ^ k)) r (ds b26 (va_up (rV σ) r (X % 2 ^ k) r) (k / 26) (dg b26 (X % 2 ^ k) (k / 26) + X / 2 ^ k % 2 * 2 ^ (k % 26))) = va_up (rV σ) r (X % 2 ^ (k + 1)) := by rw [up_up, up_self, e1]
      rw [← e2]
      exact hw
  refine loop 256 0 rfl _ _ ls ?_ (lv_sub hl [1, 2, 3, 4, 5, 6, 0] rfl)
  rw [Nat.pow_zero, Nat.mod_one]
  exact hw
set_option maxHeartbeats 4000000 in
set_option maxRecDepth 100000 in
theorem c_R_set (l : Launch) (G : rG) (σ : rS) (hc0 : rCon σ) (x : Int32) {a b c d : Nat} (ha : a < 2 ^ 64) (hb0 : b < 2 ^ 64) (hc : c < 2 ^ 64) (hd : d < 2 ^ 64) : Met l y_R_set (zW y_R_set b_R_set 10 (some .boolean)) (zr 2 60) (va_Pc [.ref (rA G 0), .int (x), .long (lN (a)), .long (lN (b)), .long (lN (c)), .long (lN (d))] (rC G σ)) (va_Qi (fun r u => r = nI (boolN (okR x 8)) ∧ (¬ okR x 8 → u = σ) ∧ ∀ j, j < 8 → x = nI j → u = rsV σ (va_up (rV σ) j (W4 a b c d))) (fun u => rC G u) (rAA G)) 0 0 (rAA G) := by
  refine Met.ofW (cc := b_R_set) (maxL := 10) (ret := (some .boolean)) (by decide) rfl ?_
  intro p e s m args below meth c9 s₁ B hml hv
  obtain ⟨rfl, hw⟩ := hv
  have hx := B.exec
  have hb := B.bytes
  have hr := B.returns
  have hts := atoms_spec (ws := zW y_R_set b_R_set 10 (some .boolean)) B.pre
  have ht : ∀ w ∈ zT, w.before ([.ref (rA G 0), .int (x), .long (lN (a)), .long (lN (b)), .long (lN (c)), .long (lN (d))] : List Value).toArray s = true := fun w h => hts w (List.mem_cons_of_mem _ h)
  have hown : s.vm.findClass R_R = some m.cls := findClass_of_methodNamed B.named
  have hlocks := B.notSynchronized
  have hl := lv_entry ([.ref (rA G 0), .int (x), .long (lN (a)), .long (lN (b)), .long (lN (c)), .long (lN (d))]) (n := 10) (Nat.le_of_ble_eq_true rfl)
  rw [lg_entry_eq]
  generalize (lg_sl ([.ref (rA G 0), .int (x), .long (lN (a)), .long (lN (b)), .long (lN (c)), .long (lN (d))]) ++ List.replicate (10 - (lg_sl ([.ref (rA G 0), .int (x), .long (lN (a)), .long (lN (b)), .long (lN (c)), .long (lN (d))])).length) Slot.unset).toArray = ls at hl ⊢
  have hl : lv_has ls 10 [(0, .ref (rA G 0)), (1, .int (x)), (2, .long (lN (a))), (4, .long (lN (b))), (6, .long (lN (c))), (8, .long (lN (d)))] := hl
  refine lv_iload_n hx hb d_R_set_0 rfl (lv_at hl 1 rfl) ?_
  refine r_callsi (np := 1) (As := [.int (x)]) (rest := []) ⟨hx, hb, hml, hown, ht⟩ hw (c_R_isRegister l G σ x) ⟨km_R_139, ks_R_isRegister, kc_R_isRegister⟩ (by decide +kernel) ⟨by decide, by decide⟩ rfl rfl rfl rfl hl.1 rfl (Nat.le_of_ble_eq_true rfl) d_R_set_1 ⟨Nat.le_refl _, Nat.le_refl _⟩ (fun r u H locs hp hw => ?_)
  obtain ⟨hpu, rfl⟩ := hp
  rw [hpu] at hw
  clear hpu
  refine n_ne0 (tgt := 9) hx hb d_R_set_4 (by decide) (boolN_s _) (fun c1 => ?_) (fun c1 => ?_)
  · have k0 := boolN_1 c1
    obtain ⟨j, lt_j, ex⟩ := k0.ex (by decide)
    have hl2 := hl
    rw [ex] at hl2
    have hl : lv_has ls 10 [(0, .ref (rA G 0)), (1, .int (nI (j))), (2, .long (lN (a))), (4, .long (lN (b))), (6, .long (lN (c))), (8, .long (lN (d)))] := hl2
    clear hl2
    refine lv_aload_n hx hb d_R_set_9 rfl (lv_at hl 0 rfl) ?_
    refine lv_iload_n hx hb d_R_set_10 rfl (lv_at hl 1 rfl) ?_
    refine lv_lload_n hx hb d_R_set_11 rfl (lv_at hl 2 rfl) ?_
    refine lv_lload hx hb d_R_set_12 (lv_at hl 3 rfl) ?_
    refine lv_lload hx hb d_R_set_14 (lv_at hl 4 rfl) ?_
    refine lv_lload hx hb d_R_set_16 (lv_at hl 5 rfl) ?_
    refine r_callv (np := 5) (As := [.int (nI (j)), .long (lN (a)), .long (lN (b)), .long (lN (c)), .long (lN (d))]) (rest := []) ⟨hx, hb, hml, hown, ht⟩ hw (c_R_write l G σ hc0.1 (by omega) ha hb0 hc hd) ⟨km_R_34, kv_R_write, kx_R_write, kc_R_write⟩ (by decide +kernel) ⟨by decide, by decide⟩ rfl rfl rfl hl.1 rfl (Nat.le_of_ble_eq_true rfl) d_R_set_18 ⟨Nat.le_refl _, Nat.le_refl _⟩ (fun u H locs hp hw => ?_)
    refine lv_iconst (v := nI 1) hx hb d_R_set_21 (by decide) ?_
    refine z_zret (rZ _) hx hb hr hlocks (nar_b (by decide)) u hw ⟨by rw [boolN_t k0], fun h => absurd k0 h, fun j_ w1 e1 => ?_⟩ d_R_set_22
    have q_j_ : j_ = j := (nI_eq (by omega) (by omega)).mp (e1.symm.trans ex)
    subst q_j_
    exact hp
  · have k0 := boolN_0 c1
    refine lv_iconst (v := nI 0) hx hb d_R_set_7 (by decide) ?_
    refine z_zret (rZ _) hx hb hr hlocks (nar_b (by decide)) σ hw ⟨by rw [boolN_f k0], fun _ => rfl, fun j w1 e1 => absurd ?_ k0⟩ d_R_set_8
    rw [e1]; exact okR_of w1 (by decide)
