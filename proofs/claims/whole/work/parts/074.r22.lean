/-! the reference reads numbers out of its bytes -/
theorem or_free {d b t : Nat} (h : d / 2 ^ t % 2 = 0) (hb : b < 2) : d ||| b * 2 ^ t = d + b * 2 ^ t := by
  have e : d = 2 ^ (t + 1) * (d / 2 ^ (t + 1)) + d % 2 ^ t := by
    have h1 := Nat.div_add_mod d (2 ^ (t + 1))
    have h2 := dg_mod 2 d t
    unfold dg at h2
    rw [h, Nat.zero_mul, Nat.add_zero] at h2
    rw [h2] at h1
    exact h1.symm
  generalize d / 2 ^ (t + 1) = hi at e
  have hl : d % 2 ^ t < 2 ^ t := Nat.mod_lt _ (Nat.two_pow_pos t)
  generalize d % 2 ^ t = lo at e hl
  have hl2 : lo < 2 ^ (t + 1) := Nat.lt_of_lt_of_le hl (Nat.pow_le_pow_right (by decide) (by omega))
  have hs : 2 ^ t * b + lo < 2 ^ (t + 1) := by
    have : 2 ^ t * b ≤ 2 ^ t * 1 := Nat.mul_le_mul_left _ (by omega)
    rw [Nat.pow_succ]
    omega
  subst e
  rw [Nat.two_pow_add_eq_or_of_lt hl2, Nat.or_assoc, Nat.mul_comm b, Nat.or_comm lo, ← Nat.two_pow_add_eq_or_of_lt hl, ← Nat.two_pow_add_eq_or_of_lt hs, ← Nat.two_pow_add_eq_or_of_lt hl2]
  omega
theorem nI_orf {d b t : Nat} (h : d / 2 ^ t % 2 = 0) (hb : b < 2) : nI d ||| nI (b * 2 ^ t) = nI (d + b * 2 ^ t) := by
  rw [nI_or, or_free h hb]
/-- the number of the k bytes from f on, the highest first -/
def bv (B : Nat → Nat) (f : Nat) : Nat → Nat
  | 0 => 0
  | k + 1 => bv B f k * 256 + B (f + k)
/-- what is read so far, of c bytes k -/
def bA (B : Nat → Nat) (f c k : Nat) : Nat := bv B f k * 2 ^ (8 * (c - k)) % 2 ^ 256
theorem bA_mul (B : Nat → Nat) {f c k : Nat} (hk : k < c) (hl : 8 * (c - 1 - k) < 256) : ∃ M, bA B f c k = M * 2 ^ (8 * (c - 1 - k) + 8) := by
  unfold bA
  have e : (2 : Nat) ^ 256 = 2 ^ (8 * (c - k)) * 2 ^ (256 - 8 * (c - k)) := by
    rw [← Nat.pow_add]
    congr 1
    omega
  rw [e, Nat.mul_comm (bv B f k), Nat.mul_mod_mul_left]
  refine ⟨bv B f k % 2 ^ (256 - 8 * (c - k)), ?_⟩
  rw [Nat.mul_comm, show 8 * (c - k) = 8 * (c - 1 - k) + 8 by omega]
theorem bA_step_hi (B : Nat → Nat) {f c k : Nat} (hk : k < c) (hl : 256 ≤ 8 * (c - 1 - k)) : bA B f c (k + 1) = bA B f c k := by
  unfold bA
  show (bv B f k * 256 + B (f + k)) * 2 ^ (8 * (c - (k + 1))) % 2 ^ 256 = _
  have e1 : (2 : Nat) ^ (8 * (c - (k + 1))) = 2 ^ 256 * 2 ^ (8 * (c - (k + 1)) - 256) := wb_pw (by omega)
  have e2 : (2 : Nat) ^ (8 * (c - k)) = 2 ^ 256 * 2 ^ (8 * (c - k) - 256) := wb_pw (by omega)
  rw [e1, e2, Nat.mul_left_comm, Nat.mul_left_comm (bv B f k), Nat.mul_mod_right, Nat.mul_mod_right]
theorem bA_step {B : Nat → Nat} {f c k : Nat} (hk : k < c) (hl : 8 * (c - 1 - k) < 256) (hb : B (f + k) < 256) : bA B f c (k + 1) = bA B f c k + B (f + k) * 2 ^ (8 * (c - 1 - k)) ∧ bA B f c k + B (f + k) * 2 ^ (8 * (c - 1 - k)) < 2 ^ 256 := by
  have hlt : bA B f c k + B (f + k) * 2 ^ (8 * (c - 1 - k)) < 2 ^ 256 := by
    obtain ⟨M, hM⟩ := bA_mul B (f := f) hk hl
    have h0 : bA B f c k < 2 ^ 256 := Nat.mod_lt _ (Nat.two_pow_pos 256)
    have e : (2 : Nat) ^ 256 = 2 ^ (248 - 8 * (c - 1 - k)) * 2 ^ (8 * (c - 1 - k) + 8) := by rw [← Nat.pow_add]; congr 1; omega
    have h1 : M < 2 ^ (248 - 8 * (c - 1 - k)) := by
      rw [hM, e] at h0
      exact Nat.lt_of_mul_lt_mul_right h0
    have h2 : (M + 1) * 2 ^ (8 * (c - 1 - k) + 8) ≤ 2 ^ (248 - 8 * (c - 1 - k)) * 2 ^ (8 * (c - 1 - k) + 8) := Nat.mul_le_mul_right _ h1
    rw [hM, e]
    have h3 : B (f + k) * 2 ^ (8 * (c - 1 - k)) < 256 * 2 ^ (8 * (c - 1 - k)) := Nat.mul_lt_mul_of_pos_right hb (Nat.two_pow_pos _)
    have h4 : (2 : Nat) ^ (8 * (c - 1 - k) + 8) = 256 * 2 ^ (8 * (c - 1 - k)) := by rw [Nat.pow_add, Nat.mul_comm]
    rw [Nat.add_mul, Nat.one_mul] at h2
    generalize M * 2 ^ (8 * (c - 1 - k) + 8) = X at h2 ⊢
    generalize 2 ^ (248 - 8 * (c - 1 - k)) * 2 ^ (8 * (c - 1 - k) + 8) = Y at h2 ⊢
    omega
  refine ⟨?_, hlt⟩
  rw [← Nat.mod_eq_of_lt hlt]
  unfold bA
  rw [Nat.mod_add_mod]
  show (bv B f k * 256 + B (f + k)) * 2 ^ (8 * (c - (k + 1))) % 2 ^ 256 = _
  rw [Nat.add_mul, show c - (k + 1) = c - 1 - k by omega]
  congr 2
  rw [show 8 * (c - k) = 8 * (c - 1 - k) + 8 by omega, Nat.pow_add, Nat.mul_assoc]
  congr 1
  rw [Nat.mul_comm]
theorem free_bit {M lo i β : Nat} (hi : i < 8) : (M * 2 ^ (lo + 8) + β % 2 ^ i * 2 ^ lo) / 2 ^ (lo + i) % 2 = 0 := by
  have e1 : M * 2 ^ (lo + 8) = (M * 2 ^ (7 - i) * 2) * 2 ^ (lo + i) := by
    rw [Nat.mul_assoc, Nat.mul_assoc, ← Nat.pow_succ', ← Nat.pow_add]
    congr 2
    omega
  have h1 : β % 2 ^ i * 2 ^ lo < 2 ^ (lo + i) := by
    rw [Nat.pow_add, Nat.mul_comm (2 ^ lo)]
    exact Nat.mul_lt_mul_of_pos_right (Nat.mod_lt _ (Nat.two_pow_pos i)) (Nat.two_pow_pos lo)
  rw [e1, Nat.add_comm, Nat.add_mul_div_right _ _ (Nat.two_pow_pos _), Nat.div_eq_of_lt h1, Nat.zero_add, Nat.mul_mod_left]
set_option maxHeartbeats 4000000 in
set_option maxRecDepth 100000 in
theorem c_R_read (l : Launch) (G : rG) (σ : rS) (hok : rOk σ) {r f0 cn : Nat} (h1 : r < 48) (h2 : f0 + cn ≤ 100) (h3 : cn ≤ 33) (hB : ∀ j, j < 100 → rB σ j < 256) : Met l y_R_read (zW y_R_read b_R_read 7 none) (zr 1 22) (va_Pc [.ref (rA G 0), .int (nI (r)), .int (nI (f0)), .int (nI (cn))] (rC G σ)) (va_Qv (fun u => u = rsV σ (va_up (rV σ) r (bA (rB σ) f0 cn cn))) (fun u => rC G u) (rAA G)) 0 0 (rAA G) := by
  refine Met.ofW (cc := b_R_read) (maxL := 7) (ret := none) (by decide) rfl ?_
  intro p e s m args below meth c s₁ B hml hv
  obtain ⟨rfl, hw⟩ := hv
  have hx := B.exec
  have hb := B.bytes
  have hr := B.returns
  have hts := atoms_spec (ws := zW y_R_read b_R_read 7 none) B.pre
  have ht : ∀ w ∈ zT, w.before ([.ref (rA G 0), .int (nI (r)), .int (nI (f0)), .int (nI (cn))] : List Value).toArray s = true := fun w h => hts w (List.mem_cons_of_mem _ h)
  have hown : s.vm.findClass R_R = some m.cls := findClass_of_methodNamed B.named
  have hlocks := B.notSynchronized
  have hl := lv_entry ([.ref (rA G 0), .int (nI (r)), .int (nI (f0)), .int (nI (cn))]) (n := 7) (Nat.le_of_ble_eq_true rfl)
  rw [lg_entry_eq]
  generalize (lg_sl ([.ref (rA G 0), .int (nI (r)), .int (nI (f0)), .int (nI (cn))]) ++ List.replicate (7 - (lg_sl ([.ref (rA G 0), .int (nI (r)), .int (nI (f0)), .int (nI (cn))])).length) Slot.unset).toArray = ls at hl ⊢
  have hl : lv_has ls 7 [(0, .ref (rA G 0)), (1, .int (nI (r))), (2, .int (nI (f0))), (3, .int (nI (cn)))] := hl
  refine lv_aload_n hx hb d_R_read_0 rfl (lv_at hl 0 rfl) ?_
  refine lv_iload_n hx hb d_R_read_1 rfl (lv_at hl 1 rfl) ?_
  refine r_callv (np := 1) (As := [.int (nI (r))]) (rest := []) ⟨hx, hb, hml, hown, ht⟩ hw (c_R_nothing l G σ hok h1) ⟨km_R_62, kv_R_nothing, kx_R_nothing, kc_R_nothing⟩ (by decide +kernel) ⟨by decide, by decide⟩ rfl rfl rfl hl.1 rfl (Nat.le_of_ble_eq_true rfl) d_R_read_2 ⟨Nat.le_refl _, Nat.le_refl _⟩ (fun u H locs hp hw => ?_)
  subst hp
  refine lv_iconst (v := nI 0) hx hb d_R_read_5 (by decide) ?_
  refine lv_istore (lv' := [(4, .int (nI (0))), (0, .ref (rA G 0)), (1, .int (nI (r))), (2, .int (nI (f0))), (3, .int (nI (cn)))]) hx hb d_R_read_6 hl (by decide) rfl (fun ls hl => ?_)
  have loop : ∀ (n k : Nat), k + n = cn → ∀ (H : Heap) (locs : List Loc) (ls : Array Slot), rH G (rsV σ (va_up (rV σ) r (bA (rB σ) f0 cn k))) s H locs → lv_has ls 7 [(0, .ref (rA G 0)), (1, .int (nI (r))), (2, .int (nI (f0))), (3, .int (nI (cn))), (4, .int (nI (k)))] → W p l e (headSpec (zW y_R_read b_R_read 7 none) (zr 1 22)).room s m ([.ref (rA G 0), .int (nI (r)), .int (nI (f0)), .int (nI (cn))] : List Value).toArray below meth c H locs 0 0 (MQ below (va_Qv (fun u => u = rsV σ (va_up (rV σ) r (bA (rB σ) f0 cn cn))) (fun u => rC G u) (rAA G)) ([.ref (rA G 0), .int (nI (r)), .int (nI (f0)), .int (nI (cn))] : List Value).toArray s 0 0 (rAA G)) (F0 m 8 ls []) := by
    intro n
    induction n with
    | zero =>
      intro k hk H locs ls hw hl
      have hk : k = cn := by omega
      subst hk
      refine lv_iload hx hb d_R_read_8 (lv_at hl 4 rfl) ?_
      refine lv_iload_n hx hb d_R_read_10 rfl (lv_at hl 3 rfl) ?_
      refine n_ge (tgt := 99) hx hb d_R_read_11 (by decide) (by omega) (by omega) (fun _ => ?_) (fun h => absurd h (by omega))
      exact z_vret (rZ _) hx hb hr hlocks _ hw rfl d_R_read_99
    | succ n ih =>
      intro k hk H locs ls hw hl
      refine lv_iload hx hb d_R_read_8 (lv_at hl 4 rfl) ?_
      refine lv_iload_n hx hb d_R_read_10 rfl (lv_at hl 3 rfl) ?_
      refine n_ge (tgt := 99) hx hb d_R_read_11 (by decide) (by omega) (by omega) (fun h => absurd h (by omega)) (fun _ => ?_)
      refine lv_bipush (v := nI 8) hx hb d_R_read_14 (by decide) ?_
      refine lv_iload_n hx hb d_R_read_16 rfl (lv_at hl 3 rfl) ?_
      refine lv_iconst (v := nI 1) hx hb d_R_read_17 (by decide) ?_
      refine lv_isub hx hb d_R_read_18 ?_
      refine tp_i (y := nI (cn - 1)) (pk_sub (by omega)) ?_
      refine lv_iload hx hb d_R_read_19 (lv_at hl 4 rfl) ?_
      refine lv_isub hx hb d_R_read_21 ?_
      refine tp_i (y := nI (cn - 1 - k)) (pk_sub (by omega)) ?_
      refine lv_imul hx hb d_R_read_22 ?_
      refine tp_i (y := nI (8 * (cn - 1 - k))) (pk_mul _ _) ?_
      refine lv_istore (lv' := [(5, .int (nI (8 * (cn - 1 - k)))), (0, .ref (rA G 0)), (1, .int (nI (r))), (2, .int (nI (f0))), (3, .int (nI (cn))), (4, .int (nI (k)))]) hx hb d_R_read_23 hl (by decide) rfl (fun ls hl => ?_)
      refine lv_iconst (v := nI 0) hx hb d_R_read_25 (by decide) ?_
      refine lv_istore (lv' := [(6, .int (nI (0))), (5, .int (nI (8 * (cn - 1 - k)))), (0, .ref (rA G 0)), (1, .int (nI (r))), (2, .int (nI (f0))), (3, .int (nI (cn))), (4, .int (nI (k)))]) hx hb d_R_read_26 hl (by decide) rfl (fun ls hl => ?_)
      have hβ := hB (f0 + k) (by omega)
      have leave : ∀ (w i : Nat) (H : Heap) (locs : List Loc) (ls : Array Slot), w = bA (rB σ) f0 cn (k + 1) → rH G (rsV σ (va_up (rV σ) r w)) s H locs → lv_has ls 7 [(0, .ref (rA G 0)), (1, .int (nI (r))), (2, .int (nI (f0))), (3, .int (nI (cn))), (4, .int (nI (k))), (5, .int (nI (8 * (cn - 1 - k)))), (6, .int (nI (i)))] → W p l e (headSpec (zW y_R_read b_R_read 7 none) (zr 1 22)).room s m ([.ref (rA G 0), .int (nI (r)), .int (nI (f0)), .int (nI (cn))] : List Value).toArray below meth c H locs 0 0 (MQ below (va_Qv (fun u => u = rsV σ (va_up (rV σ) r (bA (rB σ) f0 cn cn))) (fun u => rC G u) (rAA G)) ([.ref (rA G 0), .int (nI (r)), .int (nI (f0)), .int (nI (cn))] : List Value).toArray s 0 0 (rAA G)) (F0 m 93 ls []) := by
        intro w i H locs ls hw9 hw hl
        refine lv_iinc (v := nI (k + 1)) (lv' := [(4, .int (nI (k + 1))), (0, .ref (rA G 0)), (1, .int (nI (r))), (2, .int (nI (f0))), (3, .int (nI (cn))), (5, .int (nI (8 * (cn - 1 - k)))), (6, .int (nI (i)))]) hx hb d_R_read_93 hl (k := 4) rfl (nI_add k 1) (by decide) rfl (fun ls hl => ?_)
        refine lv_goto (tgt := 8) hx hb d_R_read_96 (by decide) ?_
        rw [hw9] at hw
        exact ih (k + 1) (by omega) H locs ls hw (lv_sub hl [1, 2, 3, 4, 0] rfl)
      by_cases hlo : 8 * (cn - 1 - k) < 256
      · obtain ⟨M, hM⟩ := bA_mul (rB σ) (f := f0) (show k < cn by omega) hlo
        obtain ⟨hst, hlt⟩ := bA_step (B := rB σ) (show k < cn by omega) hlo hβ
        obtain ⟨β, hβe⟩ : ∃ β, β = rB σ (f0 + k) := ⟨_, rfl⟩
        rw [← hβe] at hβ hst hlt
        have inner : ∀ (n i : Nat), i + n = 8 → ∀ (H : Heap) (locs : List Loc) (ls : Array Slot), rH G (rsV σ (va_up (rV σ) r (bA (rB σ) f0 cn k + β % 2 ^ i * 2 ^ (8 * (cn - 1 - k))))) s H locs → lv_has ls 7 [(0, .ref (rA G 0)), (1, .int (nI (r))), (2, .int (nI (f0))), (3, .int (nI (cn))), (4, .int (nI (k))), (5, .int (nI (8 * (cn - 1 - k)))), (6, .int (nI (i)))] → W p l e (headSpec (zW y_R_read b_R_read 7 none) (zr 1 22)).room s m ([.ref (rA G 0), .int (nI (r)), .int (nI (f0)), .int (nI (cn))] : List Value).toArray below meth c H locs 0 0 (MQ below (va_Qv (fun u => u = rsV σ (va_up (rV σ) r (bA (rB σ) f0 cn cn))) (fun u => rC G u) (rAA G)) ([.ref (rA G 0), .int (nI (r)), .int (nI (f0)), .int (nI (cn))] : List Value).toArray s 0 0 (rAA G)) (F0 m 28 ls []) := by
          intro n
          induction n with
          | zero =>
            intro i hi H locs ls hw hl
            have hi : i = 8 := by omega
            subst hi
            refine lv_iload hx hb d_R_read_28 (lv_at hl 6 rfl) ?_
            refine lv_bipush (v := nI 8) hx hb d_R_read_30 (by decide) ?_
            refine n_ge (tgt := 93) hx hb d_R_read_32 (by decide) (by decide) (by decide) (fun _ => ?_) (fun h => absurd h (by omega))
            exact leave _ 8 H locs ls (by rw [hst, Nat.mod_eq_of_lt hβ]) hw hl
          | succ n ih2 =>
            intro i hi H locs ls hw hl
            refine lv_iload hx hb d_R_read_28 (lv_at hl 6 rfl) ?_
            refine lv_bipush (v := nI 8) hx hb d_R_read_30 (by decide) ?_
            refine n_ge (tgt := 93) hx hb d_R_read_32 (by decide) (by omega) (by decide) (fun h => absurd h (by omega)) (fun _ => ?_)
            refine lv_iload hx hb d_R_read_35 (lv_at hl 5 rfl) ?_
            refine lv_sipush (v := nI 256) hx hb d_R_read_37 (by decide) ?_
            refine n_ge (tgt := 93) hx hb d_R_read_40 (by decide) (by omega) (by decide) (fun h => absurd h (by omega)) (fun _ => ?_)
            obtain ⟨w, hw9⟩ : ∃ w, w = bA (rB σ) f0 cn k + β % 2 ^ i * 2 ^ (8 * (cn - 1 - k)) := ⟨_, rfl⟩
            rw [← hw9] at hw
            obtain ⟨q, hq9⟩ : ∃ q, q = 8 * (cn - 1 - k) + i := ⟨_, rfl⟩
            have hfree : w / 2 ^ q % 2 = 0 := by rw [hw9, hM, hq9]; exact free_bit (by omega)
            have hq256 : q < 260 := by omega
            refine lv_aload_n hx hb d_R_read_43 rfl (lv_at hl 0 rfl) ?_
            refine r_get hx hb ht hown hw 0 (by decide) (ht _ kf_R_7) rfl d_R_read_44 (fun _ h9 => h9) ?_
            refine lv_bipush (v := nI 10) hx hb d_R_read_47 (by decide) ?_
            refine lv_iload_n hx hb d_R_read_49 rfl (lv_at hl 1 rfl) ?_
            refine lv_imul hx hb d_R_read_50 ?_
            refine tp_i (y := nI (10 * r)) (pk_mul _ _) ?_
            refine lv_iload hx hb d_R_read_51 (lv_at hl 5 rfl) ?_
            refine lv_iload hx hb d_R_read_53 (lv_at hl 6 rfl) ?_
            refine lv_iadd hx hb d_R_read_55 ?_
            refine tp_i (y := nI ((8 * (cn - 1 - k)) + i)) (nI_add _ _) ?_
            refine tp_i (y := nI (q)) (congrArg nI hq9.symm) ?_
            refine lv_bipush (v := nI 26) hx hb d_R_read_56 (by decide) ?_
            refine lv_idiv hx hb d_R_read_58 (by decide) ?_
            refine tp_i (y := nI (q / 26)) (pk_div (by omega) (by decide) (by decide)) ?_
            refine lv_iadd hx hb d_R_read_59 ?_
            refine tp_i (y := nI ((10 * r) + (q / 26))) (nI_add _ _) ?_
            refine lv_dup2_11 hx hb d_R_read_60 rfl rfl ?_
            refine r_ild' hx hb hw h1 (by omega) d_R_read_61 ?_
            refine tp_i (y := nI (dg b26 w (q / 26))) (congrArg nI (congrArg (fun v => dg b26 v (q / 26)) (up_self _ _ _))) ?_
            refine lv_aload_n hx hb d_R_read_62 rfl (lv_at hl 0 rfl) ?_
            refine r_get hx hb ht hown hw 5 (by decide) (ht _ kf_R_27) rfl d_R_read_63 (fun _ h9 => h9) ?_
            refine lv_iload_n hx hb d_R_read_66 rfl (lv_at hl 2 rfl) ?_
            refine lv_iload hx hb d_R_read_67 (lv_at hl 4 rfl) ?_
            refine lv_iadd hx hb d_R_read_69 ?_
            refine tp_i (y := nI (f0 + k)) (nI_add _ _) ?_
            refine r_bld hx hb hw (show f0 + k < 100 by omega) d_R_read_70 ?_
            refine tp_i (y := nI (β)) (congrArg nI hβe.symm) ?_
            refine lv_iload hx hb d_R_read_71 (lv_at hl 6 rfl) ?_
            refine lv_ishr hx hb d_R_read_73 ?_
            refine tp_i (y := nI (β / 2 ^ i)) (shrt (by omega) (by omega)) ?_
            have hbi : β / 2 ^ i ≤ β := Nat.div_le_self _ _
            refine lv_iconst (v := nI 1) hx hb d_R_read_74 (by decide) ?_
            refine lv_iand hx hb d_R_read_75 ?_
            refine tp_i (y := nI (β / 2 ^ i % 2)) (and1 (by omega)) ?_
            have hb2 : β / 2 ^ i % 2 < 2 := Nat.mod_lt _ (by decide)
            refine lv_iload hx hb d_R_read_76 (lv_at hl 5 rfl) ?_
            refine lv_iload hx hb d_R_read_78 (lv_at hl 6 rfl) ?_
            refine lv_iadd hx hb d_R_read_80 ?_
            refine tp_i (y := nI ((8 * (cn - 1 - k)) + i)) (nI_add _ _) ?_
            refine tp_i (y := nI (q)) (congrArg nI hq9.symm) ?_
            refine lv_bipush (v := nI 26) hx hb d_R_read_81 (by decide) ?_
            refine lv_irem hx hb d_R_read_83 (by decide) ?_
            refine tp_i (y := nI (q % 26)) (pk_rem (by omega) (by decide) (by decide)) ?_
            have ht26 : q % 26 < 26 := Nat.mod_lt _ (by decide)
            have hp26 : β / 2 ^ i % 2 * 2 ^ (q % 26) < 67108864 := by have := bit_fit ht26 (show 0 < 2 ^ (q % 26) from Nat.two_pow_pos _) hb2; omega
            refine lv_ishl hx hb d_R_read_84 ?_
            refine tp_i (y := nI (β / 2 ^ i % 2 * 2 ^ (q % 26))) (shlt (by omega) (by omega)) ?_
            have hdf : dg b26 w (q / 26) / 2 ^ (q % 26) % 2 = 0 := by rw [bit_dg]; exact hfree
            refine lv_ior hx hb d_R_read_85 ?_
            refine tp_i (y := nI (dg b26 w (q / 26) + β / 2 ^ i % 2 * 2 ^ (q % 26))) (nI_orf hdf hb2) ?_
            have hfit : dg b26 w (q / 26) + β / 2 ^ i % 2 * 2 ^ (q % 26) < b26 := by
              have e := or_free hdf hb2
              rw [← e]
              exact Nat.or_lt_two_pow (n := 26) (dg_lt b26_pos _ _) hp26
            refine r_ist hx hb hw h1 (by omega) hfit d_R_read_86 (fun H locs hw => ?_)
            refine lv_iinc (v := nI (i + 1)) (lv' := [(6, .int (nI (i + 1))), (0, .ref (rA G 0)), (1, .int (nI (r))), (2, .int (nI (f0))), (3, .int (nI (cn))), (4, .int (nI (k))), (5, .int (nI (8 * (cn - 1 - k))))]) hx hb d_R_read_87 hl (k := 6) rfl (nI_add i 1) (by decide) rfl (fun ls hl => ?_)
            refine lv_goto (tgt := 28) hx hb d_R_read_90 (by decide) ?_
            refine ih2 (i + 1) (by omega) H locs ls ?_ (lv_sub hl [1, 2, 3, 4, 5, 6, 0] rfl)
            have e1 : ds b26 w (q / 26) (dg b26 w (q / 26) + β / 2 ^ i % 2 * 2 ^ (q % 26)) = bA (rB σ) f0 cn k + β % 2 ^ (i + 1) * 2 ^ (8 * (cn - 1 - k)) := by
              rw [ds_add, Nat.mul_assoc, pw26, dg_mod 2 β i, hw9, hq9, Nat.add_mul, Nat.pow_add 2 (8 * (cn - 1 - k)) i, Nat.mul_comm (2 ^ (8 * (cn - 1 - k)))]
              unfold dg
              rw [Nat.mul_assoc, Nat.add_assoc]
            have e2 : va_up (va_up (rV σ) r w) r (ds b26 (va_up (rV σ) r w r) (q / 26) (dg b26 w (q / 26) + β / 2 ^ i % 2 * 2 ^ (q % 26))) = va_up (rV σ) r (bA (rB σ) f0 cn k + β % 2 ^ (i + 1) * 2 ^ (8 * (cn - 1 - k))) := by rw [up_up, up_self, e1]
            rw [← e2]
            exact hw
        refine inner 8 0 rfl H locs ls ?_ (lv_sub hl [2, 3, 4, 5, 6, 1, 0] rfl)
        rw [Nat.pow_zero, Nat.mod_one, Nat.zero_mul, Nat.add_zero]
        exact hw
      · refine lv_iload hx hb d_R_read_28 (lv_at hl 0 rfl) ?_
        refine lv_bipush (v := nI 8) hx hb d_R_read_30 (by decide) ?_
        refine n_ge (tgt := 93) hx hb d_R_read_32 (by decide) (by decide) (by decide) (fun h => absurd h (by decide)) (fun _ => ?_)
        refine lv_iload hx hb d_R_read_35 (lv_at hl 1 rfl) ?_
        refine lv_sipush (v := nI 256) hx hb d_R_read_37 (by decide) ?_
        refine n_ge (tgt := 93) hx hb d_R_read_40 (by decide) (by omega) (by decide) (fun _ => ?_) (fun h => absurd h (by omega))
        exact leave _ 0 H locs ls (bA_step_hi (rB σ) (by omega) (by omega)).symm hw (lv_sub hl [2, 3, 4, 5, 6, 1, 0] rfl)
  refine loop cn 0 (by omega) _ _ ls ?_ (lv_sub hl [1, 2, 3, 4, 0] rfl)
  have e0 : bA (rB σ) f0 cn 0 = 0 := by unfold bA; rw [show bv (rB σ) f0 0 = 0 from rfl, Nat.zero_mul, Nat.zero_mod]
  rw [e0]
  exact hw
