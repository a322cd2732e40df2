/-! the reference's add, plus, minus -/
theorem add_step {b p w cy A B da db : Nat} (h : w + cy * p = A + B) : w + ((da + db + cy) % b) * p + ((da + db + cy) / b) * (p * b) = (A + da * p) + (B + db * p) := by
  have e := Nat.div_add_mod (da + db + cy) b
  generalize (da + db + cy) / b = q at e ⊢
  generalize (da + db + cy) % b = r at e ⊢
  have e2 : r * p + q * (p * b) = (b * q + r) * p := by grind
  rw [e] at e2
  rw [Nat.add_mul, Nat.add_mul] at e2
  omega
theorem sub_step {b p w o A B da db : Nat} (hda : da < b) (hdb : db < b) (ho : o < 2) (h : w + B = A + o * p) : w + ((da + b - (db + o)) % b) * p + (B + db * p) = (A + da * p) + boolN (da < db + o) * (p * b) := by
  have e : (da + b - (db + o)) % b + (db + o) = da + boolN (da < db + o) * b := by
    by_cases c : da < db + o
    · rw [boolN_t c, Nat.mod_eq_of_lt (by omega)]
      omega
    · rw [boolN_f c, show da + b - (db + o) = (da - (db + o)) + b by omega, Nat.add_mod_right, Nat.mod_eq_of_lt (by omega)]
      omega
  generalize (da + b - (db + o)) % b = r at e ⊢
  generalize boolN (da < db + o) = t at e ⊢
  have e2 : (r + (db + o)) * p = (da + t * b) * p := by rw [e]
  rw [Nat.add_mul, Nat.add_mul, Nat.add_mul] at e2
  have e3 : t * b * p = t * (p * b) := by rw [Nat.mul_assoc, Nat.mul_comm b]
  omega
set_option maxHeartbeats 4000000 in
set_option maxRecDepth 100000 in
theorem c_R_addp (l : Launch) (G : rG) (σ : rS) (hok : rOk σ) {a b : Nat} (h1 : a < 48) (h2 : b < 48) (hne : b ≠ a) : Met l y_R_add (zW y_R_add b_R_add 7 none) (zr 0 0) (va_Pc [.ref (rA G 0), .int (nI (a)), .int (nI (b)), .int (nI (1))] (rC G σ)) (va_Qv (fun u => u = rsV σ (va_up (rV σ) a ((rV σ a + rV σ b) % b26 ^ 10))) (fun u => rC G u) (rAA G)) 0 0 (rAA G) := by
  refine Met.ofW (cc := b_R_add) (maxL := 7) (ret := none) (by decide) rfl ?_
  intro p e s m args below meth c s₁ B hml hv
  obtain ⟨rfl, hw⟩ := hv
  have hx := B.exec
  have hb := B.bytes
  have hr := B.returns
  have hts := atoms_spec (ws := zW y_R_add b_R_add 7 none) B.pre
  have ht : ∀ w ∈ zT, w.before ([.ref (rA G 0), .int (nI (a)), .int (nI (b)), .int (nI (1))] : List Value).toArray s = true := fun w h => hts w (List.mem_cons_of_mem _ h)
  have hown : s.vm.findClass R_R = some m.cls := findClass_of_methodNamed B.named
  have hlocks := B.notSynchronized
  have hl := lv_entry ([.ref (rA G 0), .int (nI (a)), .int (nI (b)), .int (nI (1))]) (n := 7) (Nat.le_of_ble_eq_true rfl)
  rw [lg_entry_eq]
  generalize (lg_sl ([.ref (rA G 0), .int (nI (a)), .int (nI (b)), .int (nI (1))]) ++ List.replicate (7 - (lg_sl ([.ref (rA G 0), .int (nI (a)), .int (nI (b)), .int (nI (1))])).length) Slot.unset).toArray = ls at hl ⊢
  have hl : lv_has ls 7 [(0, .ref (rA G 0)), (1, .int (nI (a))), (2, .int (nI (b))), (3, .int (nI (1)))] := hl
  refine lv_iconst (v := nI 0) hx hb d_R_add_0 (by decide) ?_
  refine lv_istore (lv' := [(4, .int (nI (0))), (0, .ref (rA G 0)), (1, .int (nI (a))), (2, .int (nI (b))), (3, .int (nI (1)))]) hx hb d_R_add_1 hl (by decide) rfl (fun ls hl => ?_)
  refine lv_iconst (v := nI 0) hx hb d_R_add_3 (by decide) ?_
  refine lv_istore (lv' := [(5, .int (nI (0))), (4, .int (nI (0))), (0, .ref (rA G 0)), (1, .int (nI (a))), (2, .int (nI (b))), (3, .int (nI (1)))]) hx hb d_R_add_4 hl (by decide) rfl (fun ls hl => ?_)
  have loop : ∀ (n k : Nat), k + n = 10 → ∀ (w cy : Nat) (H : Heap) (locs : List Loc) (ls : Array Slot), w < b26 ^ 10 → cy < 2 → (∀ j, k ≤ j → dg b26 w j = dg b26 (rV σ a) j) → w % b26 ^ k + cy * b26 ^ k = rV σ a % b26 ^ k + rV σ b % b26 ^ k → rH G (rsV σ (va_up (rV σ) a w)) s H locs → lv_has ls 7 [(0, .ref (rA G 0)), (1, .int (nI (a))), (2, .int (nI (b))), (3, .int (nI (1))), (4, .int (nI (cy))), (5, .int (nI (k)))] → W p l e (headSpec (zW y_R_add b_R_add 7 none) (zr 0 0)).room s m ([.ref (rA G 0), .int (nI (a)), .int (nI (b)), .int (nI (1))] : List Value).toArray below meth c H locs 0 0 (MQ below (va_Qv (fun u => u = rsV σ (va_up (rV σ) a ((rV σ a + rV σ b) % b26 ^ 10))) (fun u => rC G u) (rAA G)) ([.ref (rA G 0), .int (nI (a)), .int (nI (b)), .int (nI (1))] : List Value).toArray s 0 0 (rAA G)) (F0 m 6 ls []) := by
    intro n
    induction n with
    | zero =>
      intro k hk w cy H locs ls hwb hcy hup hsum hw hl
      have hk : k = 10 := by omega
      subst hk
      refine lv_iload hx hb d_R_add_6 (lv_at hl 5 rfl) ?_
      refine lv_bipush (v := nI 10) hx hb d_R_add_8 (by decide) ?_
      refine n_ge (tgt := 75) hx hb d_R_add_10 (by decide) (by decide) (by decide) (fun _ => ?_) (fun h => absurd h (by omega))
      rw [Nat.mod_eq_of_lt hwb, Nat.mod_eq_of_lt (hok a), Nat.mod_eq_of_lt (hok b)] at hsum
      have hw9 : w = (rV σ a + rV σ b) % b26 ^ 10 := by rw [← hsum, Nat.add_mul_mod_self_right, Nat.mod_eq_of_lt hwb]
      exact z_vret (rZ _) hx hb hr hlocks _ hw (by rw [← hw9]) d_R_add_75
    | succ n ih =>
      intro k hk w cy H locs ls hwb hcy hup hsum hw hl
      refine lv_iload hx hb d_R_add_6 (lv_at hl 5 rfl) ?_
      refine lv_bipush (v := nI 10) hx hb d_R_add_8 (by decide) ?_
      refine n_ge (tgt := 75) hx hb d_R_add_10 (by decide) (by omega) (by decide) (fun h => absurd h (by omega)) (fun _ => ?_)
      have hda : dg b26 (rV σ a) k < 67108864 := dg_lt b26_pos _ _
      have hdb : dg b26 (rV σ b) k < 67108864 := dg_lt b26_pos _ _
      have ea : dg b26 (va_up (rV σ) a w a) k = dg b26 (rV σ a) k := by rw [up_self]; exact hup k (Nat.le_refl k)
      have eb : dg b26 (va_up (rV σ) a w b) k = dg b26 (rV σ b) k := by rw [up_ne _ _ hne]
      refine lv_aload_n hx hb d_R_add_13 rfl (lv_at hl 0 rfl) ?_
      refine r_get hx hb ht hown hw 0 (by decide) (ht _ kf_R_7) rfl d_R_add_14 (fun _ h9 => h9) ?_
      refine lv_bipush (v := nI 10) hx hb d_R_add_17 (by decide) ?_
      refine lv_iload_n hx hb d_R_add_19 rfl (lv_at hl 1 rfl) ?_
      refine lv_imul hx hb d_R_add_20 ?_
      refine tp_i (y := nI (10 * a)) (pk_mul _ _) ?_
      refine lv_iload hx hb d_R_add_21 (lv_at hl 5 rfl) ?_
      refine lv_iadd hx hb d_R_add_23 ?_
      refine tp_i (y := nI ((10 * a) + k)) (nI_add _ _) ?_
      refine r_ild' hx hb hw h1 (by omega) d_R_add_24 ?_
      refine tp_i (congrArg nI (ea)) ?_
      refine lv_iload_n hx hb d_R_add_25 rfl (lv_at hl 3 rfl) ?_
      refine lv_aload_n hx hb d_R_add_26 rfl (lv_at hl 0 rfl) ?_
      refine r_get hx hb ht hown hw 0 (by decide) (ht _ kf_R_7) rfl d_R_add_27 (fun _ h9 => h9) ?_
      refine lv_bipush (v := nI 10) hx hb d_R_add_30 (by decide) ?_
      refine lv_iload_n hx hb d_R_add_32 rfl (lv_at hl 2 rfl) ?_
      refine lv_imul hx hb d_R_add_33 ?_
      refine tp_i (y := nI (10 * b)) (pk_mul _ _) ?_
      refine lv_iload hx hb d_R_add_34 (lv_at hl 5 rfl) ?_
      refine lv_iadd hx hb d_R_add_36 ?_
      refine tp_i (y := nI ((10 * b) + k)) (nI_add _ _) ?_
      refine r_ild' hx hb hw h2 (by omega) d_R_add_37 ?_
      refine tp_i (congrArg nI (eb)) ?_
      refine lv_imul hx hb d_R_add_38 ?_
      refine tp_i (y := nI (1 * (dg b26 (rV σ b) k))) (pk_mul _ _) ?_
      refine lv_iadd hx hb d_R_add_39 ?_
      refine tp_i (y := nI ((dg b26 (rV σ a) k) + (1 * (dg b26 (rV σ b) k)))) (nI_add _ _) ?_
      refine lv_iload hx hb d_R_add_40 (lv_at hl 4 rfl) ?_
      refine lv_iadd hx hb d_R_add_42 ?_
      refine tp_i (y := nI (((dg b26 (rV σ a) k) + (1 * (dg b26 (rV σ b) k))) + cy)) (nI_add _ _) ?_
      refine lv_istore (lv' := [(6, .int (nI (((dg b26 (rV σ a) k) + (1 * (dg b26 (rV σ b) k))) + cy))), (0, .ref (rA G 0)), (1, .int (nI (a))), (2, .int (nI (b))), (3, .int (nI (1))), (4, .int (nI (cy))), (5, .int (nI (k)))]) hx hb d_R_add_43 hl (by decide) rfl (fun ls hl => ?_)
      refine lv_aload_n hx hb d_R_add_45 rfl (lv_at hl 1 rfl) ?_
      refine r_get hx hb ht hown hw 0 (by decide) (ht _ kf_R_7) rfl d_R_add_46 (fun _ h9 => h9) ?_
      refine lv_bipush (v := nI 10) hx hb d_R_add_49 (by decide) ?_
      refine lv_iload_n hx hb d_R_add_51 rfl (lv_at hl 2 rfl) ?_
      refine lv_imul hx hb d_R_add_52 ?_
      refine tp_i (y := nI (10 * a)) (pk_mul _ _) ?_
      refine lv_iload hx hb d_R_add_53 (lv_at hl 6 rfl) ?_
      refine lv_iadd hx hb d_R_add_55 ?_
      refine tp_i (y := nI ((10 * a) + k)) (nI_add _ _) ?_
      refine lv_iload hx hb d_R_add_56 (lv_at hl 0 rfl) ?_
      refine lv_ldc hx hb hown (ht _ kl_R_60) d_R_add_58 ?_
      refine lv_iand hx hb d_R_add_60 ?_
      refine tp_i (y := nI ((dg b26 (rV σ a) k + 1 * dg b26 (rV σ b) k + cy) % b26)) (and26 (by omega)) ?_
      refine r_ist hx hb hw h1 (by omega) (Nat.mod_lt _ b26_pos) d_R_add_61 (fun H locs hw => ?_)
      refine lv_iload hx hb d_R_add_62 (lv_at hl 0 rfl) ?_
      refine lv_bipush (v := nI 26) hx hb d_R_add_64 (by decide) ?_
      refine lv_ishr hx hb d_R_add_66 ?_
      refine tp_i (y := nI ((dg b26 (rV σ a) k + 1 * dg b26 (rV σ b) k + cy) / b26)) (shr26 (by omega)) ?_
      refine lv_istore (lv' := [(4, .int (nI ((dg b26 (rV σ a) k + 1 * dg b26 (rV σ b) k + cy) / b26))), (6, .int (nI (((dg b26 (rV σ a) k) + (1 * (dg b26 (rV σ b) k))) + cy))), (0, .ref (rA G 0)), (1, .int (nI (a))), (2, .int (nI (b))), (3, .int (nI (1))), (5, .int (nI (k)))]) hx hb d_R_add_67 hl (by decide) rfl (fun ls hl => ?_)
      refine lv_iinc (v := nI (k + 1)) (lv' := [(5, .int (nI (k + 1))), (4, .int (nI ((dg b26 (rV σ a) k + 1 * dg b26 (rV σ b) k + cy) / b26))), (6, .int (nI (((dg b26 (rV σ a) k) + (1 * (dg b26 (rV σ b) k))) + cy))), (0, .ref (rA G 0)), (1, .int (nI (a))), (2, .int (nI (b))), (3, .int (nI (1)))]) hx hb d_R_add_69 hl (k := 6) rfl (nI_add k 1) (by decide) rfl (fun ls hl => ?_)
      refine lv_goto (tgt := 6) hx hb d_R_add_72 (by decide) ?_
      have e1 : dg b26 (rV σ a) k + 1 * dg b26 (rV σ b) k + cy = dg b26 (rV σ a) k + dg b26 (rV σ b) k + cy := by rw [Nat.one_mul]
      rw [e1] at hw hl
      refine ih (k + 1) (by omega) (ds b26 w k ((dg b26 (rV σ a) k + dg b26 (rV σ b) k + cy) % b26)) ((dg b26 (rV σ a) k + dg b26 (rV σ b) k + cy) / b26) H locs ls (ds_lt b26_pos (Nat.mod_lt _ b26_pos) (by omega) hwb) (by show _ / 67108864 < 2; omega) (fun j hj => ?_) ?_ ?_ (lv_sub hl [3, 4, 5, 6, 1, 0] rfl)
      · rw [ds_dg b26_pos _ (Nat.mod_lt _ b26_pos), if_neg (by omega)]; exact hup j (by omega)
      · rw [ds_mod b26_pos _ (Nat.mod_lt _ b26_pos), dg_mod b26 (rV σ a) k, dg_mod b26 (rV σ b) k, Nat.pow_succ]; exact add_step hsum
      · have e2 : va_up (va_up (rV σ) a w) a (ds b26 (va_up (rV σ) a w a) k ((dg b26 (rV σ a) k + dg b26 (rV σ b) k + cy) % b26)) = va_up (rV σ) a (ds b26 w k ((dg b26 (rV σ a) k + dg b26 (rV σ b) k + cy) % b26)) := by rw [up_up, up_self]
        rw [← e2]
        exact hw
  refine loop 10 0 rfl (rV σ a) 0 _ _ ls (hok a) (by decide) (fun _ _ => rfl) (by rw [Nat.pow_zero, Nat.mod_one, Nat.mod_one]) ?_ (lv_sub hl [2, 3, 4, 5, 1, 0] rfl)
  rw [up_id]
  exact hw
set_option maxHeartbeats 4000000 in
set_option maxRecDepth 100000 in
theorem c_R_addm (l : Launch) (G : rG) (σ : rS) (hok : rOk σ) {a b : Nat} (h1 : a < 48) (h2 : b < 48) (hne : b ≠ a) (hle : rV σ b ≤ rV σ a) : Met l y_R_add (zW y_R_add b_R_add 7 none) (zr 0 0) (va_Pc [.ref (rA G 0), .int (nI (a)), .int (nI (b)), .int (-1 : Int32)] (rC G σ)) (va_Qv (fun u => u = rsV σ (va_up (rV σ) a (rV σ a - rV σ b))) (fun u => rC G u) (rAA G)) 0 0 (rAA G) := by
  refine Met.ofW (cc := b_R_add) (maxL := 7) (ret := none) (by decide) rfl ?_
  intro p e s m args below meth c s₁ B hml hv
  obtain ⟨rfl, hw⟩ := hv
  have hx := B.exec
  have hb := B.bytes
  have hr := B.returns
  have hts := atoms_spec (ws := zW y_R_add b_R_add 7 none) B.pre
  have ht : ∀ w ∈ zT, w.before ([.ref (rA G 0), .int (nI (a)), .int (nI (b)), .int (-1 : Int32)] : List Value).toArray s = true := fun w h => hts w (List.mem_cons_of_mem _ h)
  have hown : s.vm.findClass R_R = some m.cls := findClass_of_methodNamed B.named
  have hlocks := B.notSynchronized
  have hl := lv_entry ([.ref (rA G 0), .int (nI (a)), .int (nI (b)), .int (-1 : Int32)]) (n := 7) (Nat.le_of_ble_eq_true rfl)
  rw [lg_entry_eq]
  generalize (lg_sl ([.ref (rA G 0), .int (nI (a)), .int (nI (b)), .int (-1 : Int32)]) ++ List.replicate (7 - (lg_sl ([.ref (rA G 0), .int (nI (a)), .int (nI (b)), .int (-1 : Int32)])).length) Slot.unset).toArray = ls at hl ⊢
  have hl : lv_has ls 7 [(0, .ref (rA G 0)), (1, .int (nI (a))), (2, .int (nI (b))), (3, .int (-1 : Int32))] := hl
  refine lv_iconst (v := nI 0) hx hb d_R_add_0 (by decide) ?_
  refine lv_istore (lv' := [(4, .int (nI (0))), (0, .ref (rA G 0)), (1, .int (nI (a))), (2, .int (nI (b))), (3, .int (-1 : Int32))]) hx hb d_R_add_1 hl (by decide) rfl (fun ls hl => ?_)
  refine lv_iconst (v := nI 0) hx hb d_R_add_3 (by decide) ?_
  refine lv_istore (lv' := [(5, .int (nI (0))), (4, .int (nI (0))), (0, .ref (rA G 0)), (1, .int (nI (a))), (2, .int (nI (b))), (3, .int (-1 : Int32))]) hx hb d_R_add_4 hl (by decide) rfl (fun ls hl => ?_)
  have loop : ∀ (n k : Nat), k + n = 10 → ∀ (w o : Nat) (cI : Int32) (H : Heap) (locs : List Loc) (ls : Array Slot), w < b26 ^ 10 → o < 2 → cI = - nI o → (∀ j, k ≤ j → dg b26 w j = dg b26 (rV σ a) j) → w % b26 ^ k + rV σ b % b26 ^ k = rV σ a % b26 ^ k + o * b26 ^ k → rH G (rsV σ (va_up (rV σ) a w)) s H locs → lv_has ls 7 [(0, .ref (rA G 0)), (1, .int (nI (a))), (2, .int (nI (b))), (3, .int (-1 : Int32)), (4, .int (cI)), (5, .int (nI (k)))] → W p l e (headSpec (zW y_R_add b_R_add 7 none) (zr 0 0)).room s m ([.ref (rA G 0), .int (nI (a)), .int (nI (b)), .int (-1 : Int32)] : List Value).toArray below meth c H locs 0 0 (MQ below (va_Qv (fun u => u = rsV σ (va_up (rV σ) a (rV σ a - rV σ b))) (fun u => rC G u) (rAA G)) ([.ref (rA G 0), .int (nI (a)), .int (nI (b)), .int (-1 : Int32)] : List Value).toArray s 0 0 (rAA G)) (F0 m 6 ls []) := by
    intro n
    induction n with
    | zero =>
      intro k hk w o cI H locs ls hwb ho hc hup hsum hw hl
      have hk : k = 10 := by omega
      subst hk
      refine lv_iload hx hb d_R_add_6 (lv_at hl 5 rfl) ?_
      refine lv_bipush (v := nI 10) hx hb d_R_add_8 (by decide) ?_
      refine n_ge (tgt := 75) hx hb d_R_add_10 (by decide) (by decide) (by decide) (fun _ => ?_) (fun h => absurd h (by omega))
      rw [Nat.mod_eq_of_lt hwb, Nat.mod_eq_of_lt (hok a), Nat.mod_eq_of_lt (hok b)] at hsum
      have hw9 : w = rV σ a - rV σ b := by
        rcases (show o = 0 ∨ o = 1 by omega) with h | h
        · rw [h] at hsum; omega
        · rw [h] at hsum; omega
      exact z_vret (rZ _) hx hb hr hlocks _ hw (by rw [← hw9]) d_R_add_75
    | succ n ih =>
      intro k hk w o cI H locs ls hwb ho hc hup hsum hw hl
      refine lv_iload hx hb d_R_add_6 (lv_at hl 5 rfl) ?_
      refine lv_bipush (v := nI 10) hx hb d_R_add_8 (by decide) ?_
      refine n_ge (tgt := 75) hx hb d_R_add_10 (by decide) (by omega) (by decide) (fun h => absurd h (by omega)) (fun _ => ?_)
      have hda : dg b26 (rV σ a) k < b26 := dg_lt b26_pos _ _
      have hdb : dg b26 (rV σ b) k < b26 := dg_lt b26_pos _ _
      have ea : dg b26 (va_up (rV σ) a w a) k = dg b26 (rV σ a) k := by rw [up_self]; exact hup k (Nat.le_refl k)
      have eb : dg b26 (va_up (rV σ) a w b) k = dg b26 (rV σ b) k := by rw [up_ne _ _ hne]
      refine lv_aload_n hx hb d_R_add_13 rfl (lv_at hl 0 rfl) ?_
      refine r_get hx hb ht hown hw 0 (by decide) (ht _ kf_R_7) rfl d_R_add_14 (fun _ h9 => h9) ?_
      refine lv_bipush (v := nI 10) hx hb d_R_add_17 (by decide) ?_
      refine lv_iload_n hx hb d_R_add_19 rfl (lv_at hl 1 rfl) ?_
      refine lv_imul hx hb d_R_add_20 ?_
      refine tp_i (y := nI (10 * a)) (pk_mul _ _) ?_
      refine lv_iload hx hb d_R_add_21 (lv_at hl 5 rfl) ?_
      refine lv_iadd hx hb d_R_add_23 ?_
      refine tp_i (y := nI ((10 * a) + k)) (nI_add _ _) ?_
      refine r_ild' hx hb hw h1 (by omega) d_R_add_24 ?_
      refine tp_i (congrArg nI (ea)) ?_
      refine lv_iload_n hx hb d_R_add_25 rfl (lv_at hl 3 rfl) ?_
      refine lv_aload_n hx hb d_R_add_26 rfl (lv_at hl 0 rfl) ?_
      refine r_get hx hb ht hown hw 0 (by decide) (ht _ kf_R_7) rfl d_R_add_27 (fun _ h9 => h9) ?_
      refine lv_bipush (v := nI 10) hx hb d_R_add_30 (by decide) ?_
      refine lv_iload_n hx hb d_R_add_32 rfl (lv_at hl 2 rfl) ?_
      refine lv_imul hx hb d_R_add_33 ?_
      refine tp_i (y := nI (10 * b)) (pk_mul _ _) ?_
      refine lv_iload hx hb d_R_add_34 (lv_at hl 5 rfl) ?_
      refine lv_iadd hx hb d_R_add_36 ?_
      refine tp_i (y := nI ((10 * b) + k)) (nI_add _ _) ?_
      refine r_ild' hx hb hw h2 (by omega) d_R_add_37 ?_
      refine tp_i (congrArg nI (eb)) ?_
      refine lv_imul hx hb d_R_add_38 ?_
      refine lv_iadd hx hb d_R_add_39 ?_
      refine lv_iload hx hb d_R_add_40 (lv_at hl 4 rfl) ?_
      refine lv_iadd hx hb d_R_add_42 ?_
      refine lv_istore (lv' := [(6, .int ((nI (dg b26 (rV σ a) k) + ((-1 : Int32) * nI (dg b26 (rV σ b) k))) + (cI))), (0, .ref (rA G 0)), (1, .int (nI (a))), (2, .int (nI (b))), (3, .int (-1 : Int32)), (4, .int (cI)), (5, .int (nI (k)))]) hx hb d_R_add_43 hl (by decide) rfl (fun ls hl => ?_)
      refine lv_aload_n hx hb d_R_add_45 rfl (lv_at hl 1 rfl) ?_
      refine r_get hx hb ht hown hw 0 (by decide) (ht _ kf_R_7) rfl d_R_add_46 (fun _ h9 => h9) ?_
      refine lv_bipush (v := nI 10) hx hb d_R_add_49 (by decide) ?_
      refine lv_iload_n hx hb d_R_add_51 rfl (lv_at hl 2 rfl) ?_
      refine lv_imul hx hb d_R_add_52 ?_
      refine tp_i (y := nI (10 * a)) (pk_mul _ _) ?_
      refine lv_iload hx hb d_R_add_53 (lv_at hl 6 rfl) ?_
      refine lv_iadd hx hb d_R_add_55 ?_
      refine tp_i (y := nI ((10 * a) + k)) (nI_add _ _) ?_
      refine lv_iload hx hb d_R_add_56 (lv_at hl 0 rfl) ?_
      refine lv_ldc hx hb hown (ht _ kl_R_60) d_R_add_58 ?_
      refine lv_iand hx hb d_R_add_60 ?_
      refine tp_i (y := nI ((dg b26 (rV σ a) k + b26 - (dg b26 (rV σ b) k + o)) % b26)) (by rw [hc]; exact sub26a hda hdb ho) ?_
      refine r_ist hx hb hw h1 (by omega) (Nat.mod_lt _ b26_pos) d_R_add_61 (fun H locs hw => ?_)
      refine lv_iload hx hb d_R_add_62 (lv_at hl 0 rfl) ?_
      refine lv_bipush (v := nI 26) hx hb d_R_add_64 (by decide) ?_
      refine lv_ishr hx hb d_R_add_66 ?_
      refine tp_i (y := (- nI (boolN (dg b26 (rV σ a) k < dg b26 (rV σ b) k + o)))) (by rw [hc]; exact sub26s hda hdb ho) ?_
      refine lv_istore (lv' := [(4, .int (- nI (boolN (dg b26 (rV σ a) k < dg b26 (rV σ b) k + o)))), (6, .int ((nI (dg b26 (rV σ a) k) + ((-1 : Int32) * nI (dg b26 (rV σ b) k))) + (cI))), (0, .ref (rA G 0)), (1, .int (nI (a))), (2, .int (nI (b))), (3, .int (-1 : Int32)), (5, .int (nI (k)))]) hx hb d_R_add_67 hl (by decide) rfl (fun ls hl => ?_)
      refine lv_iinc (v := nI (k + 1)) (lv' := [(5, .int (nI (k + 1))), (4, .int (- nI (boolN (dg b26 (rV σ a) k < dg b26 (rV σ b) k + o)))), (6, .int ((nI (dg b26 (rV σ a) k) + ((-1 : Int32) * nI (dg b26 (rV σ b) k))) + (cI))), (0, .ref (rA G 0)), (1, .int (nI (a))), (2, .int (nI (b))), (3, .int (-1 : Int32))]) hx hb d_R_add_69 hl (k := 6) rfl (nI_add k 1) (by decide) rfl (fun ls hl => ?_)
      refine lv_goto (tgt := 6) hx hb d_R_add_72 (by decide) ?_
      refine ih (k + 1) (by omega) (ds b26 w k ((dg b26 (rV σ a) k + b26 - (dg b26 (rV σ b) k + o)) % b26)) (boolN (dg b26 (rV σ a) k < dg b26 (rV σ b) k + o)) _ H locs ls (ds_lt b26_pos (Nat.mod_lt _ b26_pos) (by omega) hwb) (boolN_lt _) rfl (fun j hj => ?_) ?_ ?_ (lv_sub hl [3, 4, 5, 6, 1, 0] rfl)
      · rw [ds_dg b26_pos _ (Nat.mod_lt _ b26_pos), if_neg (by omega)]; exact hup j (by omega)
      · rw [ds_mod b26_pos _ (Nat.mod_lt _ b26_pos), dg_mod b26 (rV σ a) k, dg_mod b26 (rV σ b) k, Nat.pow_succ]; exact sub_step hda hdb ho hsum
      · have e2 : va_up (va_up (rV σ) a w) a (ds b26 (va_up (rV σ) a w a) k ((dg b26 (rV σ a) k + b26 - (dg b26 (rV σ b) k + o)) % b26)) = va_up (rV σ) a (ds b26 w k ((dg b26 (rV σ a) k + b26 - (dg b26 (rV σ b) k + o)) % b26)) := by rw [up_up, up_self]
        rw [← e2]
        exact hw
  refine loop 10 0 rfl (rV σ a) 0 (nI 0) _ _ ls (hok a) (by decide) (by decide) (fun _ _ => rfl) (by rw [Nat.pow_zero, Nat.mod_one, Nat.mod_one]) ?_ (lv_sub hl [2, 3, 4, 5, 1, 0] rfl)
  rw [up_id]
  exact hw
theorem b256 : 2 ^ 256 * 16 = b26 ^ 10 := by decide
theorem lt260 {x : Nat} (h : x < 2 ^ 256) : x < b26 ^ 10 := by
  rw [← b256]
  omega
set_option maxHeartbeats 4000000 in
set_option maxRecDepth 100000 in
theorem c_R_plus (l : Launch) (G : rG) (σ : rS) (hok : rOk σ) {to a b q : Nat} (h1 : to < 37) (h2 : a < 37) (h3 : b < 37) (h4 : q < 37) (hq : rV σ q ≤ 2 ^ 256) (ha : rV σ a < rV σ q) (hb0 : rV σ b < rV σ q) : Met l y_R_plus (zW y_R_plus b_R_plus 5 none) (zr 1 26) (va_Pc [.ref (rA G 0), .int (nI (to)), .int (nI (a)), .int (nI (b)), .int (nI (q))] (rC G σ)) (va_Qv (fun u => u = rsV σ (va_up (va_up (rV σ) 37 ((rV σ a + rV σ b) % rV σ q)) to ((rV σ a + rV σ b) % rV σ q))) (fun u => rC G u) (rAA G)) 0 0 (rAA G) := by
  refine Met.ofW (cc := b_R_plus) (maxL := 5) (ret := none) (by decide) rfl ?_
  intro p e s m args below meth c s₁ B hml hv
  obtain ⟨rfl, hw⟩ := hv
  have hx := B.exec
  have hb := B.bytes
  have hr := B.returns
  have hts := atoms_spec (ws := zW y_R_plus b_R_plus 5 none) B.pre
  have ht : ∀ w ∈ zT, w.before ([.ref (rA G 0), .int (nI (to)), .int (nI (a)), .int (nI (b)), .int (nI (q))] : List Value).toArray s = true := fun w h => hts w (List.mem_cons_of_mem _ h)
  have hown : s.vm.findClass R_R = some m.cls := findClass_of_methodNamed B.named
  have hlocks := B.notSynchronized
  have hl := lv_entry ([.ref (rA G 0), .int (nI (to)), .int (nI (a)), .int (nI (b)), .int (nI (q))]) (n := 5) (Nat.le_of_ble_eq_true rfl)
  rw [lg_entry_eq]
  generalize (lg_sl ([.ref (rA G 0), .int (nI (to)), .int (nI (a)), .int (nI (b)), .int (nI (q))]) ++ List.replicate (5 - (lg_sl ([.ref (rA G 0), .int (nI (to)), .int (nI (a)), .int (nI (b)), .int (nI (q))])).length) Slot.unset).toArray = ls at hl ⊢
  have hl : lv_has ls 5 [(0, .ref (rA G 0)), (1, .int (nI (to))), (2, .int (nI (a))), (3, .int (nI (b))), (4, .int (nI (q)))] := hl
  refine lv_aload_n hx hb d_R_plus_0 rfl (lv_at hl 0 rfl) ?_
  refine lv_bipush (v := nI 37) hx hb d_R_plus_1 (by decide) ?_
  refine lv_iload_n hx hb d_R_plus_3 rfl (lv_at hl 2 rfl) ?_
  refine r_callv (np := 2) (As := [.int (nI (37)), .int (nI (a))]) (rest := []) ⟨hx, hb, hml, hown, ht⟩ hw (c_R_copy l G σ hok (by decide) (by omega) (by omega)) ⟨km_R_70, kv_R_copy, kx_R_copy, kc_R_copy⟩ (by decide +kernel) ⟨by decide, by decide⟩ rfl rfl rfl hl.1 rfl (by decide) d_R_plus_4 ⟨Nat.le_refl _, Nat.le_refl _⟩ (fun u H locs hp hw => ?_)
  subst hp
  have hok1 : rOk (rsV σ (va_up (rV σ) 37 (rV σ a))) := hok.up (hok a)
  refine lv_aload_n hx hb d_R_plus_7 rfl (lv_at hl 0 rfl) ?_
  refine lv_bipush (v := nI 37) hx hb d_R_plus_8 (by decide) ?_
  refine lv_iload_n hx hb d_R_plus_10 rfl (lv_at hl 3 rfl) ?_
  refine lv_iconst (v := nI 1) hx hb d_R_plus_11 (by decide) ?_
  refine r_callv (np := 3) (As := [.int (nI (37)), .int (nI (b)), .int (nI (1))]) (rest := []) ⟨hx, hb, hml, hown, ht⟩ hw (c_R_addp l G _ hok1 (by decide) (by omega) (by omega)) ⟨km_R_74, kv_R_add, kx_R_add, kc_R_add⟩ (by decide +kernel) ⟨by decide, by decide⟩ rfl rfl rfl hl.1 rfl (by decide) d_R_plus_12 ⟨Nat.le_refl _, Nat.le_refl _⟩ (fun u H locs hp hw => ?_)
  have e1 : u = rsV σ (va_up (rV σ) 37 (rV σ a + rV σ b)) := by
    rw [hp]
    show rsV σ (va_up (va_up (rV σ) 37 (rV σ a)) 37 ((va_up (rV σ) 37 (rV σ a) 37 + va_up (rV σ) 37 (rV σ a) b) % b26 ^ 10)) = _
    rw [up_up, up_self, up_ne _ _ (by omega), Nat.mod_eq_of_lt (by rw [← b256]; omega)]
  subst e1
  clear hp
  have hs : rV σ a + rV σ b < b26 ^ 10 := by rw [← b256]; omega
  have hok2 : rOk (rsV σ (va_up (rV σ) 37 (rV σ a + rV σ b))) := hok.up hs
  refine lv_aload_n hx hb d_R_plus_15 rfl (lv_at hl 0 rfl) ?_
  refine lv_bipush (v := nI 37) hx hb d_R_plus_16 (by decide) ?_
  refine lv_iload hx hb d_R_plus_18 (lv_at hl 4 rfl) ?_
  refine r_calli (np := 2) (As := [.int (nI (37)), .int (nI (q))]) (rest := []) ⟨hx, hb, hml, hown, ht⟩ hw (c_R_compare l G _ hok2 (by decide) (by omega)) ⟨km_R_78, kv_R_compare, kx_R_compare, kc_R_compare⟩ (by decide +kernel) ⟨by decide, by decide⟩ rfl rfl rfl hl.1 rfl (by decide) d_R_plus_20 ⟨Nat.le_refl _, Nat.le_refl _⟩ (fun r u H locs hp hw => ?_)
  obtain ⟨rfl, hp⟩ := hp
  have ec : r = cmpN (rV σ a + rV σ b) (rV σ q) := by
    rw [hp]
    show cmpN (va_up (rV σ) 37 (rV σ a + rV σ b) 37) (va_up (rV σ) 37 (rV σ a + rV σ b) q) = _
    rw [up_self, up_ne _ _ (by omega)]
  have fin : ∀ (x : Nat), x = (rV σ a + rV σ b) % rV σ q → ∀ (H : Heap) (locs : List Loc) (ls : Array Slot), rH G (rsV σ (va_up (rV σ) 37 x)) s H locs → lv_has ls 5 [(0, .ref (rA G 0)), (1, .int (nI (to))), (2, .int (nI (a))), (3, .int (nI (b))), (4, .int (nI (q)))] → W p l e (headSpec (zW y_R_plus b_R_plus 5 none) (zr 1 26)).room s m ([.ref (rA G 0), .int (nI (to)), .int (nI (a)), .int (nI (b)), .int (nI (q))] : List Value).toArray below meth c H locs 0 0 (MQ below (va_Qv (fun u => u = rsV σ (va_up (va_up (rV σ) 37 ((rV σ a + rV σ b) % rV σ q)) to ((rV σ a + rV σ b) % rV σ q))) (fun u => rC G u) (rAA G)) ([.ref (rA G 0), .int (nI (to)), .int (nI (a)), .int (nI (b)), .int (nI (q))] : List Value).toArray s 0 0 (rAA G)) (F0 m 35 ls []) := by
    intro x hx9 H locs ls hw hl
    have hx8 : x < b26 ^ 10 := by rw [hx9]; exact Nat.lt_of_le_of_lt (Nat.mod_le _ _) hs
    refine lv_aload_n hx hb d_R_plus_35 rfl (lv_at hl 0 rfl) ?_
    refine lv_iload_n hx hb d_R_plus_36 rfl (lv_at hl 1 rfl) ?_
    refine lv_bipush (v := nI 37) hx hb d_R_plus_37 (by decide) ?_
    refine r_callv (np := 2) (As := [.int (nI (to)), .int (nI (37))]) (rest := []) ⟨hx, hb, hml, hown, ht⟩ hw (c_R_copy l G _ (hok.up hx8) (by omega) (by decide) (by omega)) ⟨km_R_70, kv_R_copy, kx_R_copy, kc_R_copy⟩ (by decide +kernel) ⟨by decide, by decide⟩ rfl rfl rfl hl.1 rfl (by decide) d_R_plus_39 ⟨Nat.le_refl _, Nat.le_refl _⟩ (fun u H locs hp hw => ?_)
    refine z_vret (rZ _) hx hb hr hlocks u hw ?_ d_R_plus_42
    rw [hp, ← hx9]
    show rsV σ (va_up (va_up (rV σ) 37 x) to (va_up (rV σ) 37 x 37)) = _
    rw [up_self]
  refine lv_if_lt (tgt := 35) hx hb d_R_plus_23 (by decide) (fun c1 => ?_) (fun c1 => ?_)
  · rw [ec, cmpN_lt] at c1
    exact fin _ (Nat.mod_eq_of_lt c1).symm H locs ls hw hl
  · rw [ec, cmpN_lt] at c1
    refine lv_aload_n hx hb d_R_plus_26 rfl (lv_at hl 0 rfl) ?_
    refine lv_bipush (v := nI 37) hx hb d_R_plus_27 (by decide) ?_
    refine lv_iload hx hb d_R_plus_29 (lv_at hl 4 rfl) ?_
    refine lv_iconst (v := -1) hx hb d_R_plus_31 (by decide) ?_
    refine r_callv (np := 3) (As := [.int (nI (37)), .int (nI (q)), .int ((-1 : Int32))]) (rest := []) ⟨hx, hb, hml, hown, ht⟩ hw (c_R_addm l G _ hok2 (by decide) (by omega) (by omega) (by show va_up (rV σ) 37 (rV σ a + rV σ b) q ≤ va_up (rV σ) 37 (rV σ a + rV σ b) 37; rw [up_self, up_ne _ _ (by omega)]; omega)) ⟨km_R_74, kv_R_add, kx_R_add, kc_R_add⟩ (by decide +kernel) ⟨by decide, by decide⟩ rfl rfl rfl hl.1 rfl (by decide) d_R_plus_32 ⟨Nat.le_refl _, Nat.le_refl _⟩ (fun u H locs hp hw => ?_)
    have e3 : u = rsV σ (va_up (rV σ) 37 (rV σ a + rV σ b - rV σ q)) := by
      rw [hp]
      show rsV σ (va_up (va_up (rV σ) 37 (rV σ a + rV σ b)) 37 (va_up (rV σ) 37 (rV σ a + rV σ b) 37 - va_up (rV σ) 37 (rV σ a + rV σ b) q)) = _
      rw [up_up, up_self, up_ne _ _ (by omega)]
    subst e3
    refine fin _ ?_ H locs ls hw hl
    rw [Nat.mod_eq_sub_mod (by omega), Nat.mod_eq_of_lt (by omega)]
set_option maxHeartbeats 4000000 in
set_option maxRecDepth 100000 in
theorem c_R_minus (l : Launch) (G : rG) (σ : rS) (hok : rOk σ) {to a b q : Nat} (h1 : to < 37 ∨ 37 < to) (h1b : to < 48) (h2 : a < 37 ∨ 37 < a) (h2b : a < 48) (h3 : b < 37 ∨ 37 < b) (h3b : b < 48) (h4 : q < 37) (hq : rV σ q ≤ 2 ^ 256) (ha : rV σ a < rV σ q) (hb0 : rV σ b < rV σ q) : Met l y_R_minus (zW y_R_minus b_R_minus 5 none) (zr 1 26) (va_Pc [.ref (rA G 0), .int (nI (to)), .int (nI (a)), .int (nI (b)), .int (nI (q))] (rC G σ)) (va_Qv (fun u => u = rsV σ (va_up (va_up (rV σ) 37 ((rV σ a + rV σ q - rV σ b) % rV σ q)) to ((rV σ a + rV σ q - rV σ b) % rV σ q))) (fun u => rC G u) (rAA G)) 0 0 (rAA G) := by
  refine Met.ofW (cc := b_R_minus) (maxL := 5) (ret := none) (by decide) rfl ?_
  intro p e s m args below meth c s₁ B hml hv
  obtain ⟨rfl, hw⟩ := hv
  have hx := B.exec
  have hb := B.bytes
  have hr := B.returns
  have hts := atoms_spec (ws := zW y_R_minus b_R_minus 5 none) B.pre
  have ht : ∀ w ∈ zT, w.before ([.ref (rA G 0), .int (nI (to)), .int (nI (a)), .int (nI (b)), .int (nI (q))] : List Value).toArray s = true := fun w h => hts w (List.mem_cons_of_mem _ h)
  have hown : s.vm.findClass R_R = some m.cls := findClass_of_methodNamed B.named
  have hlocks := B.notSynchronized
  have hl := lv_entry ([.ref (rA G 0), .int (nI (to)), .int (nI (a)), .int (nI (b)), .int (nI (q))]) (n := 5) (Nat.le_of_ble_eq_true rfl)
  rw [lg_entry_eq]
  generalize (lg_sl ([.ref (rA G 0), .int (nI (to)), .int (nI (a)), .int (nI (b)), .int (nI (q))]) ++ List.replicate (5 - (lg_sl ([.ref (rA G 0), .int (nI (to)), .int (nI (a)), .int (nI (b)), .int (nI (q))])).length) Slot.unset).toArray = ls at hl ⊢
  have hl : lv_has ls 5 [(0, .ref (rA G 0)), (1, .int (nI (to))), (2, .int (nI (a))), (3, .int (nI (b))), (4, .int (nI (q)))] := hl
  refine lv_aload_n hx hb d_R_minus_0 rfl (lv_at hl 0 rfl) ?_
  refine lv_bipush (v := nI 37) hx hb d_R_minus_1 (by decide) ?_
  refine lv_iload_n hx hb d_R_minus_3 rfl (lv_at hl 2 rfl) ?_
  refine r_callv (np := 2) (As := [.int (nI (37)), .int (nI (a))]) (rest := []) ⟨hx, hb, hml, hown, ht⟩ hw (c_R_copy l G σ hok (by decide) h2b (by omega)) ⟨km_R_70, kv_R_copy, kx_R_copy, kc_R_copy⟩ (by decide +kernel) ⟨by decide, by decide⟩ rfl rfl rfl hl.1 rfl (by decide) d_R_minus_4 ⟨Nat.le_refl _, Nat.le_refl _⟩ (fun u H locs hp hw => ?_)
  subst hp
  have hok1 : rOk (rsV σ (va_up (rV σ) 37 (rV σ a))) := hok.up (hok a)
  refine lv_aload_n hx hb d_R_minus_7 rfl (lv_at hl 0 rfl) ?_
  refine lv_bipush (v := nI 37) hx hb d_R_minus_8 (by decide) ?_
  refine lv_iload_n hx hb d_R_minus_10 rfl (lv_at hl 3 rfl) ?_
  refine r_calli (np := 2) (As := [.int (nI (37)), .int (nI (b))]) (rest := []) ⟨hx, hb, hml, hown, ht⟩ hw (c_R_compare l G _ hok1 (by decide) h3b) ⟨km_R_78, kv_R_compare, kx_R_compare, kc_R_compare⟩ (by decide +kernel) ⟨by decide, by decide⟩ rfl rfl rfl hl.1 rfl (by decide) d_R_minus_11 ⟨Nat.le_refl _, Nat.le_refl _⟩ (fun r u H locs hp hw => ?_)
  obtain ⟨rfl, hp⟩ := hp
  have ec : r = cmpN (rV σ a) (rV σ b) := by
    rw [hp]
    show cmpN (va_up (rV σ) 37 (rV σ a) 37) (va_up (rV σ) 37 (rV σ a) b) = _
    rw [up_self, up_ne _ _ (by omega)]
  have fin : ∀ (x : Nat), x < b26 ^ 10 → rV σ b ≤ x → x - rV σ b = ((rV σ a + rV σ q - rV σ b) % rV σ q) → ∀ (H : Heap) (locs : List Loc) (ls : Array Slot), rH G (rsV σ (va_up (rV σ) 37 x)) s H locs → lv_has ls 5 [(0, .ref (rA G 0)), (1, .int (nI (to))), (2, .int (nI (a))), (3, .int (nI (b))), (4, .int (nI (q)))] → W p l e (headSpec (zW y_R_minus b_R_minus 5 none) (zr 1 26)).room s m ([.ref (rA G 0), .int (nI (to)), .int (nI (a)), .int (nI (b)), .int (nI (q))] : List Value).toArray below meth c H locs 0 0 (MQ below (va_Qv (fun u => u = rsV σ (va_up (va_up (rV σ) 37 ((rV σ a + rV σ q - rV σ b) % rV σ q)) to ((rV σ a + rV σ q - rV σ b) % rV σ q))) (fun u => rC G u) (rAA G)) ([.ref (rA G 0), .int (nI (to)), .int (nI (a)), .int (nI (b)), .int (nI (q))] : List Value).toArray s 0 0 (rAA G)) (F0 m 26 ls []) := by
    intro x hx8 hx7 hx9 H locs ls hw hl
    refine lv_aload_n hx hb d_R_minus_26 rfl (lv_at hl 0 rfl) ?_
    refine lv_bipush (v := nI 37) hx hb d_R_minus_27 (by decide) ?_
    refine lv_iload_n hx hb d_R_minus_29 rfl (lv_at hl 3 rfl) ?_
    refine lv_iconst (v := -1) hx hb d_R_minus_30 (by decide) ?_
    refine r_callv (np := 3) (As := [.int (nI (37)), .int (nI (b)), .int ((-1 : Int32))]) (rest := []) ⟨hx, hb, hml, hown, ht⟩ hw (c_R_addm l G _ (hok.up hx8) (by decide) h3b (by omega) (by show va_up (rV σ) 37 x b ≤ va_up (rV σ) 37 x 37; rw [up_self, up_ne _ _ (by omega)]; exact hx7)) ⟨km_R_74, kv_R_add, kx_R_add, kc_R_add⟩ (by decide +kernel) ⟨by decide, by decide⟩ rfl rfl rfl hl.1 rfl (by decide) d_R_minus_31 ⟨Nat.le_refl _, Nat.le_refl _⟩ (fun u H locs hp hw => ?_)
    have e3 : u = rsV σ (va_up (rV σ) 37 ((rV σ a + rV σ q - rV σ b) % rV σ q)) := by
      rw [hp]
      show rsV σ (va_up (va_up (rV σ) 37 x) 37 (va_up (rV σ) 37 x 37 - va_up (rV σ) 37 x b)) = _
      rw [up_up, up_self, up_ne _ _ (by omega), hx9]
    subst e3
    clear hp
    have hx6 : ((rV σ a + rV σ q - rV σ b) % rV σ q) < b26 ^ 10 := by rw [← hx9]; omega
    refine lv_aload_n hx hb d_R_minus_34 rfl (lv_at hl 0 rfl) ?_
    refine lv_iload_n hx hb d_R_minus_35 rfl (lv_at hl 1 rfl) ?_
    refine lv_bipush (v := nI 37) hx hb d_R_minus_36 (by decide) ?_
    refine r_callv (np := 2) (As := [.int (nI (to)), .int (nI (37))]) (rest := []) ⟨hx, hb, hml, hown, ht⟩ hw (c_R_copy l G _ (hok.up hx6) h1b (by decide) (by omega)) ⟨km_R_70, kv_R_copy, kx_R_copy, kc_R_copy⟩ (by decide +kernel) ⟨by decide, by decide⟩ rfl rfl rfl hl.1 rfl (by decide) d_R_minus_38 ⟨Nat.le_refl _, Nat.le_refl _⟩ (fun u H locs hp hw => ?_)
    refine z_vret (rZ _) hx hb hr hlocks u hw ?_ d_R_minus_41
    rw [hp]
    show rsV σ (va_up (va_up (rV σ) 37 ((rV σ a + rV σ q - rV σ b) % rV σ q)) to (va_up (rV σ) 37 ((rV σ a + rV σ q - rV σ b) % rV σ q) 37)) = _
    rw [up_self]
  have ha2 := hok a
  refine lv_if_ge (tgt := 26) hx hb d_R_minus_14 (by decide) (fun c1 => ?_) (fun c1 => ?_)
  · have c2 : ¬ rV σ a < rV σ b := fun q9 => by rw [ec] at c1; exact absurd ((cmpN_lt _ _).mpr q9) (Int32.not_lt.mpr c1)
    refine fin _ (hok a) (by omega) ?_ H locs ls hw hl
    rw [show rV σ a + rV σ q - rV σ b = (rV σ a - rV σ b) + rV σ q by omega, Nat.add_mod_right, Nat.mod_eq_of_lt (by omega)]
  · have c2 : rV σ a < rV σ b := by rw [ec] at c1; exact (cmpN_lt _ _).mp (Int32.not_le.mp c1)
    refine lv_aload_n hx hb d_R_minus_17 rfl (lv_at hl 0 rfl) ?_
    refine lv_bipush (v := nI 37) hx hb d_R_minus_18 (by decide) ?_
    refine lv_iload hx hb d_R_minus_20 (lv_at hl 4 rfl) ?_
    refine lv_iconst (v := nI 1) hx hb d_R_minus_22 (by decide) ?_
    refine r_callv (np := 3) (As := [.int (nI (37)), .int (nI (q)), .int (nI (1))]) (rest := []) ⟨hx, hb, hml, hown, ht⟩ hw (c_R_addp l G _ hok1 (by decide) (by omega) (by omega)) ⟨km_R_74, kv_R_add, kx_R_add, kc_R_add⟩ (by decide +kernel) ⟨by decide, by decide⟩ rfl rfl rfl hl.1 rfl (by decide) d_R_minus_23 ⟨Nat.le_refl _, Nat.le_refl _⟩ (fun u H locs hp hw => ?_)
    have e1 : u = rsV σ (va_up (rV σ) 37 (rV σ a + rV σ q)) := by
      rw [hp]
      show rsV σ (va_up (va_up (rV σ) 37 (rV σ a)) 37 ((va_up (rV σ) 37 (rV σ a) 37 + va_up (rV σ) 37 (rV σ a) q) % b26 ^ 10)) = _
      rw [up_up, up_self, up_ne _ _ (by omega), Nat.mod_eq_of_lt (by rw [← b256]; omega)]
    subst e1
    refine fin _ (by rw [← b256]; omega) (by omega) ?_ H locs ls hw hl
    rw [Nat.mod_eq_of_lt (by omega)]
