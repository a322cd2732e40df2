/-! sums and differences of rows -/
def W8 : Nat := b32 ^ 8
theorem W8_eq : W8 = W256 := by decide
theorem lN_wrap (n : Nat) : lN (n + 2 ^ 64) = lN n := by rw [wb_mod, Nat.add_mod_right, ← wb_mod]
theorem lsub_wrap {a b : Nat} (hb : b ≤ 2 ^ 64) : lN a - lN b = lN (a + (2 ^ 64 - b)) := by
  have h : lN (a + (2 ^ 64 - b)) + lN b = lN a := by
    rw [lN_add, show a + (2 ^ 64 - b) + b = a + 2 ^ 64 by omega, lN_wrap]
  rw [← h, Int64.add_sub_cancel]
theorem sub64 {x y o : Nat} (hx : x < b32) (hy : y < b32) (ho : o < 2) : lN x - lN y - lN o = lN (x + (2 ^ 64 - (y + o))) := by
  have hx' : x < 4294967296 := hx
  have hy' : y < 4294967296 := hy
  rw [lsub_wrap (by omega), lsub_wrap (by omega), show x + (2 ^ 64 - y) + (2 ^ 64 - o) = x + (2 ^ 64 - (y + o)) + 2 ^ 64 by omega, lN_wrap]
theorem sub64a {x y o : Nat} (hx : x < b32) (hy : y < b32) (ho : o < 2) : lN (x + (2 ^ 64 - (y + o))) &&& 4294967295 = lN ((x + b32 - (y + o)) % b32) := by
  have hx' : x < 4294967296 := hx
  have hy' : y < 4294967296 := hy
  rw [wb_mod, lmask (Nat.mod_lt _ (by decide))]
  congr 1
  show (x + (18446744073709551616 - (y + o))) % 18446744073709551616 % 4294967296 = (x + 4294967296 - (y + o)) % 4294967296
  omega
theorem sub64s {x y o : Nat} (hx : x < b32) (hy : y < b32) (ho : o < 2) : lN 0 ≤ lN (x + (2 ^ 64 - (y + o))) ↔ y + o ≤ x := by
  have hx' : x < 4294967296 := hx
  have hy' : y < 4294967296 := hy
  by_cases h : y + o ≤ x
  · rw [show x + (2 ^ 64 - (y + o)) = (x - (y + o)) + 2 ^ 64 by omega, lN_wrap, lN_le' (by decide) (by omega)]
    exact ⟨fun _ => h, fun _ => Nat.zero_le _⟩
  · refine ⟨fun q => ?_, fun q => absurd q h⟩
    obtain ⟨d, hd, hd1, hd2⟩ : ∃ d, x + (2 ^ 64 - (y + o)) = 2 ^ 64 - d ∧ 0 < d ∧ d < 2 ^ 33 := ⟨y + o - x, by omega, by omega, by omega⟩
    rw [hd, Int64.le_iff_toInt_le] at q
    have e : lN (2 ^ 64 - d) + lN d = 0 := by
      rw [lN_add, show 2 ^ 64 - d + d = 0 + 2 ^ 64 by omega, lN_wrap]
      rfl
    have e2 : lN (2 ^ 64 - d) = - lN d := by
      have h3 := congrArg (· - lN d) e
      simp only [Int64.add_sub_cancel, Int64.zero_sub] at h3
      exact h3
    rw [e2, Int64.toInt_neg, show (lN d).toInt = (d : Int) from pf_lI (by omega), show (lN 0).toInt = ((0 : Nat) : Int) from pf_lI (by decide)] at q
    have e3 : (-(d : Int)).bmod (2 ^ 64) = -(d : Int) := Int.bmod_eq_of_le (by omega) (by omega)
    rw [e3] at q
    omega
set_option maxHeartbeats 4000000 in
set_option maxRecDepth 100000 in
theorem c_L_add (l : Launch) (K : cG) (τ : cT) (hok : cOk τ) {o a b : Nat} (ho : o < 32) (ha : a < 32 ∨ 34 ≤ a) (ha2 : a < 44) (hb0 : b < 32 ∨ 34 ≤ b) (hb2 : b < 44) : Met l y_L_add (zW y_L_add b_L_add 8 (some .long)) (zr 0 0) (va_Pc [.ref (cR K o), .ref (cR K a), .ref (cR K b)] (cC K τ)) (va_Ql (fun r u => r = lN ((cV τ a + cV τ b) / W8) ∧ u = csV τ o ((cV τ a + cV τ b) % W8)) (fun u => cC K u) (cAA K)) 0 0 (cAA K) := by
  refine Met.ofW (cc := b_L_add) (maxL := 8) (ret := (some .long)) (by decide) rfl ?_
  intro p e s m args below meth c s₁ B hml hv
  obtain ⟨rfl, hw⟩ := hv
  have hx := B.exec
  have hb := B.bytes
  have hr := B.returns
  have hts := atoms_spec (ws := zW y_L_add b_L_add 8 (some .long)) B.pre
  have ht : ∀ w ∈ zT, w.before ([.ref (cR K o), .ref (cR K a), .ref (cR K b)] : List Value).toArray s = true := fun w h => hts w (List.mem_cons_of_mem _ h)
  have hown : s.vm.findClass R_L = some m.cls := findClass_of_methodNamed B.named
  have hlocks := B.notSynchronized
  have hl := lv_entry ([.ref (cR K o), .ref (cR K a), .ref (cR K b)]) (n := 8) (Nat.le_of_ble_eq_true rfl)
  rw [lg_entry_eq]
  generalize (lg_sl ([.ref (cR K o), .ref (cR K a), .ref (cR K b)]) ++ List.replicate (8 - (lg_sl ([.ref (cR K o), .ref (cR K a), .ref (cR K b)])).length) Slot.unset).toArray = ls at hl ⊢
  have hl : lv_has ls 8 [(0, .ref (cR K o)), (1, .ref (cR K a)), (2, .ref (cR K b))] := hl
  have ra := rl_8 ha ha2
  have rb := rl_8 hb0 hb2
  have ro := rl_8 (Or.inl ho) (show o < 44 by omega)
  have hA := cV_lt hok ha ha2
  have hB := cV_lt hok hb0 hb2
  have hO := cV_lt hok (Or.inl ho) (show o < 44 by omega)
  have loop : ∀ (n k : Nat), k + n = 8 → ∀ (w cy : Nat) (H : Heap) (locs : List Loc) (ls : Array Slot), w < b32 ^ 8 → cy < 2 → (∀ j, k ≤ j → dg b32 w j = dg b32 (cV τ o) j) → w % b32 ^ k + cy * b32 ^ k = cV τ a % b32 ^ k + cV τ b % b32 ^ k → cH K (csV τ o w) s H locs → lv_has ls 8 [(0, .ref (cR K o)), (1, .ref (cR K a)), (2, .ref (cR K b)), (3, .long (lN (cy))), (5, .int (nI (k)))] → W p l e (headSpec (zW y_L_add b_L_add 8 (some .long)) (zr 0 0)).room s m ([.ref (cR K o), .ref (cR K a), .ref (cR K b)] : List Value).toArray below meth c H locs 0 0 (MQ below (va_Ql (fun r u => r = lN ((cV τ a + cV τ b) / W8) ∧ u = csV τ o ((cV τ a + cV τ b) % W8)) (fun u => cC K u) (cAA K)) ([.ref (cR K o), .ref (cR K a), .ref (cR K b)] : List Value).toArray s 0 0 (cAA K)) (F0 m 5 ls []) := by
    intro n
    induction n with
    | zero =>
      intro k hk w cy H locs ls hwb hcy hup hsum hw hl
      have hk : k = 8 := by omega
      subst hk
      refine lv_iload hx hb d_L_add_5 (lv_at hl 4 rfl) ?_
      refine lv_bipush (v := nI 8) hx hb d_L_add_7 (by decide) ?_
      refine n_ge (tgt := 47) hx hb d_L_add_9 (by decide) (by decide) (by decide) (fun _ => ?_) (fun h => absurd h (by omega))
      refine lv_lload_n hx hb d_L_add_47 rfl (lv_at hl 3 rfl) ?_
      rw [Nat.mod_eq_of_lt hwb, Nat.mod_eq_of_lt hA, Nat.mod_eq_of_lt hB] at hsum
      have hw9 : w = (cV τ a + cV τ b) % W8 := by rw [← hsum]; show w = (w + cy * b32 ^ 8) % b32 ^ 8; rw [Nat.add_mul_mod_self_right, Nat.mod_eq_of_lt hwb]
      have hc9 : cy = (cV τ a + cV τ b) / W8 := by rw [← hsum]; show cy = (w + cy * b32 ^ 8) / b32 ^ 8; rw [Nat.add_mul_div_right _ _ (Nat.pow_pos b32_pos), Nat.div_eq_of_lt hwb, Nat.zero_add]
      exact z_lret (cZ K) hx hb hr hlocks _ hw ⟨by rw [← hc9], by rw [← hw9]⟩ d_L_add_48
    | succ n ih =>
      intro k hk w cy H locs ls hwb hcy hup hsum hw hl
      refine lv_iload hx hb d_L_add_5 (lv_at hl 4 rfl) ?_
      refine lv_bipush (v := nI 8) hx hb d_L_add_7 (by decide) ?_
      refine n_ge (tgt := 47) hx hb d_L_add_9 (by decide) (by omega) (by decide) (fun h => absurd h (by omega)) (fun _ => ?_)
      have hda := dg32 (cV τ a) k
      have hdb := dg32 (cV τ b) k
      refine lv_aload_n hx hb d_L_add_12 rfl (lv_at hl 1 rfl) ?_
      refine lv_iload hx hb d_L_add_13 (lv_at hl 4 rfl) ?_
      refine c_ld hx hb hw (by omega) (by omega) d_L_add_15 ?_
      refine tp_l (y := lN (dg b32 (cV τ a) k)) (congrArg lN (dg_part (by omega) hup)) ?_
      refine lv_aload_n hx hb d_L_add_16 rfl (lv_at hl 2 rfl) ?_
      refine lv_iload hx hb d_L_add_17 (lv_at hl 4 rfl) ?_
      refine c_ld hx hb hw (by omega) (by omega) d_L_add_19 ?_
      refine tp_l (y := lN (dg b32 (cV τ b) k)) (congrArg lN (dg_part (by omega) hup)) ?_
      refine lv_ladd hx hb d_L_add_20 ?_
      refine tp_l (y := lN ((dg b32 (cV τ a) k) + (dg b32 (cV τ b) k))) (lN_add _ _) ?_
      refine lv_lload_n hx hb d_L_add_21 rfl (lv_at hl 3 rfl) ?_
      refine lv_ladd hx hb d_L_add_22 ?_
      refine tp_l (y := lN (((dg b32 (cV τ a) k) + (dg b32 (cV τ b) k)) + cy)) (lN_add _ _) ?_
      refine lv_lstore (lv' := [(6, .long (lN (((dg b32 (cV τ a) k) + (dg b32 (cV τ b) k)) + cy))), (0, .ref (cR K o)), (1, .ref (cR K a)), (2, .ref (cR K b)), (3, .long (lN (cy))), (5, .int (nI (k)))]) hx hb d_L_add_23 hl (by decide) rfl (fun ls hl => ?_)
      refine lv_aload_n hx hb d_L_add_25 rfl (lv_at hl 1 rfl) ?_
      refine lv_iload hx hb d_L_add_26 (lv_at hl 5 rfl) ?_
      refine lv_lload hx hb d_L_add_28 (lv_at hl 0 rfl) ?_
      refine lv_ldc2 hx hb hown (ht _ kl_L_15) d_L_add_30 ?_
      refine lv_land hx hb d_L_add_33 ?_
      refine tp_l (y := lN ((dg b32 (cV τ a) k + dg b32 (cV τ b) k + cy) % b32)) (lmask (by omega)) ?_
      refine c_st hx hb hw (show o < 34 by omega) (by omega) (Nat.mod_lt _ b32_pos) d_L_add_34 (fun H locs hw => ?_)
      refine lv_lload hx hb d_L_add_35 (lv_at hl 0 rfl) ?_
      refine lv_bipush (v := nI 32) hx hb d_L_add_37 (by decide) ?_
      refine lv_lushr (v := lN ((dg b32 (cV τ a) k + dg b32 (cV τ b) k + cy) / b32)) hx hb d_L_add_39 (lsh32 (by omega)) ?_
      refine lv_lstore_n (lv' := [(3, .long (lN ((dg b32 (cV τ a) k + dg b32 (cV τ b) k + cy) / b32))), (6, .long (lN (((dg b32 (cV τ a) k) + (dg b32 (cV τ b) k)) + cy))), (0, .ref (cR K o)), (1, .ref (cR K a)), (2, .ref (cR K b)), (5, .int (nI (k)))]) hx hb d_L_add_40 rfl hl (by decide) rfl (fun ls hl => ?_)
      refine lv_iinc (v := nI (k + 1)) (lv' := [(5, .int (nI (k + 1))), (3, .long (lN ((dg b32 (cV τ a) k + dg b32 (cV τ b) k + cy) / b32))), (6, .long (lN (((dg b32 (cV τ a) k) + (dg b32 (cV τ b) k)) + cy))), (0, .ref (cR K o)), (1, .ref (cR K a)), (2, .ref (cR K b))]) hx hb d_L_add_41 hl (k := 5) rfl (nI_add k 1) (by decide) rfl (fun ls hl => ?_)
      refine lv_goto (tgt := 5) hx hb d_L_add_44 (by decide) ?_
      refine ih (k + 1) (by omega) (ds b32 w k ((dg b32 (cV τ a) k + dg b32 (cV τ b) k + cy) % b32)) ((dg b32 (cV τ a) k + dg b32 (cV τ b) k + cy) / b32) H locs ls (ds_lt b32_pos (Nat.mod_lt _ b32_pos) (by omega) hwb) (by show _ / 4294967296 < 2; omega) (fun j hj => ?_) ?_ ?_ (lv_sub hl [3, 4, 5, 1, 0] rfl)
      · rw [ds_dg b32_pos _ (Nat.mod_lt _ b32_pos), if_neg (by omega)]; exact hup j (by omega)
      · rw [ds_mod b32_pos _ (Nat.mod_lt _ b32_pos), dg_mod b32 (cV τ a) k, dg_mod b32 (cV τ b) k, Nat.pow_succ]; exact add_step hsum
      · rw [csV_up, cV_self _ (show o < 34 by omega)] at hw; exact hw
  refine lv_lconst (v := lN 0) hx hb d_L_add_0 (by decide) ?_
  refine lv_lstore_n (lv' := [(3, .long (lN (0))), (0, .ref (cR K o)), (1, .ref (cR K a)), (2, .ref (cR K b))]) hx hb d_L_add_1 rfl hl (by decide) rfl (fun ls hl => ?_)
  refine lv_iconst (v := nI 0) hx hb d_L_add_2 (by decide) ?_
  refine lv_istore (lv' := [(5, .int (nI (0))), (3, .long (lN (0))), (0, .ref (cR K o)), (1, .ref (cR K a)), (2, .ref (cR K b))]) hx hb d_L_add_3 hl (by decide) rfl (fun ls hl => ?_)
  refine loop 8 0 rfl (cV τ o) 0 _ _ ls hO (by decide) (fun _ _ => rfl) (by rw [Nat.pow_zero, Nat.mod_one, Nat.mod_one, Nat.mod_one]) ?_ (lv_sub hl [2, 3, 4, 1, 0] rfl)
  rw [csV_id (by omega)]
  exact hw
theorem sub_fin {w W A B cy : Nat} (hw : w < W) (hA : A < W) (hB : B < W) (hc : cy < 2) (h : w + B = A + cy * W) : lN cy = lN (boolN (A < B)) ∧ w = (A + W - B) % W := by
  rcases (show cy = 0 ∨ cy = 1 by omega) with rfl | rfl
  · rw [Nat.zero_mul] at h
    rw [boolN_f (by omega), show A + W - B = w + W by omega, Nat.add_mod_right, Nat.mod_eq_of_lt hw]
    exact ⟨rfl, rfl⟩
  · rw [Nat.one_mul] at h
    rw [boolN_t (by omega), show A + W - B = w by omega, Nat.mod_eq_of_lt hw]
    exact ⟨rfl, rfl⟩
set_option maxHeartbeats 4000000 in
set_option maxRecDepth 100000 in
theorem c_L_subtract (l : Launch) (K : cG) (τ : cT) (hok : cOk τ) {o a b : Nat} (ho : o < 32) (ha : a < 32 ∨ 34 ≤ a) (ha2 : a < 44) (hb0 : b < 32 ∨ 34 ≤ b) (hb2 : b < 44) : Met l y_L_subtract (zW y_L_subtract b_L_subtract 8 (some .long)) (zr 0 0) (va_Pc [.ref (cR K o), .ref (cR K a), .ref (cR K b)] (cC K τ)) (va_Ql (fun r u => r = lN (boolN (cV τ a < cV τ b)) ∧ u = csV τ o ((cV τ a + W8 - cV τ b) % W8)) (fun u => cC K u) (cAA K)) 0 0 (cAA K) := by
  refine Met.ofW (cc := b_L_subtract) (maxL := 8) (ret := (some .long)) (by decide) rfl ?_
  intro p e s m args below meth c s₁ B hml hv
  obtain ⟨rfl, hw⟩ := hv
  have hx := B.exec
  have hb := B.bytes
  have hr := B.returns
  have hts := atoms_spec (ws := zW y_L_subtract b_L_subtract 8 (some .long)) B.pre
  have ht : ∀ w ∈ zT, w.before ([.ref (cR K o), .ref (cR K a), .ref (cR K b)] : List Value).toArray s = true := fun w h => hts w (List.mem_cons_of_mem _ h)
  have hown : s.vm.findClass R_L = some m.cls := findClass_of_methodNamed B.named
  have hlocks := B.notSynchronized
  have hl := lv_entry ([.ref (cR K o), .ref (cR K a), .ref (cR K b)]) (n := 8) (Nat.le_of_ble_eq_true rfl)
  rw [lg_entry_eq]
  generalize (lg_sl ([.ref (cR K o), .ref (cR K a), .ref (cR K b)]) ++ List.replicate (8 - (lg_sl ([.ref (cR K o), .ref (cR K a), .ref (cR K b)])).length) Slot.unset).toArray = ls at hl ⊢
  have hl : lv_has ls 8 [(0, .ref (cR K o)), (1, .ref (cR K a)), (2, .ref (cR K b))] := hl
  have ra := rl_8 ha ha2
  have rb := rl_8 hb0 hb2
  have ro := rl_8 (Or.inl ho) (show o < 44 by omega)
  have hA := cV_lt hok ha ha2
  have hB := cV_lt hok hb0 hb2
  have hO := cV_lt hok (Or.inl ho) (show o < 44 by omega)
  have loop : ∀ (n k : Nat), k + n = 8 → ∀ (w cy : Nat) (H : Heap) (locs : List Loc) (ls : Array Slot), w < b32 ^ 8 → cy < 2 → (∀ j, k ≤ j → dg b32 w j = dg b32 (cV τ o) j) → w % b32 ^ k + cV τ b % b32 ^ k = cV τ a % b32 ^ k + cy * b32 ^ k → cH K (csV τ o w) s H locs → lv_has ls 8 [(0, .ref (cR K o)), (1, .ref (cR K a)), (2, .ref (cR K b)), (3, .long (lN (cy))), (5, .int (nI (k)))] → W p l e (headSpec (zW y_L_subtract b_L_subtract 8 (some .long)) (zr 0 0)).room s m ([.ref (cR K o), .ref (cR K a), .ref (cR K b)] : List Value).toArray below meth c H locs 0 0 (MQ below (va_Ql (fun r u => r = lN (boolN (cV τ a < cV τ b)) ∧ u = csV τ o ((cV τ a + W8 - cV τ b) % W8)) (fun u => cC K u) (cAA K)) ([.ref (cR K o), .ref (cR K a), .ref (cR K b)] : List Value).toArray s 0 0 (cAA K)) (F0 m 5 ls []) := by
    intro n
    induction n with
    | zero =>
      intro k hk w cy H locs ls hwb hcy hup hsum hw hl
      have hk : k = 8 := by omega
      subst hk
      refine lv_iload hx hb d_L_subtract_5 (lv_at hl 4 rfl) ?_
      refine lv_bipush (v := nI 8) hx hb d_L_subtract_7 (by decide) ?_
      refine n_ge (tgt := 54) hx hb d_L_subtract_9 (by decide) (by decide) (by decide) (fun _ => ?_) (fun h => absurd h (by omega))
      refine lv_lload_n hx hb d_L_subtract_54 rfl (lv_at hl 3 rfl) ?_
      rw [Nat.mod_eq_of_lt hwb, Nat.mod_eq_of_lt hA, Nat.mod_eq_of_lt hB] at hsum
      have fin : lN cy = lN (boolN (cV τ a < cV τ b)) ∧ w = (cV τ a + W8 - cV τ b) % W8 := by
        rw [show b32 ^ 8 = W8 from rfl] at hsum hwb hA hB
        exact sub_fin hwb hA hB hcy hsum
      exact z_lret (cZ K) hx hb hr hlocks _ hw ⟨fin.1, by rw [← fin.2]⟩ d_L_subtract_55
    | succ n ih =>
      intro k hk w cy H locs ls hwb hcy hup hsum hw hl
      refine lv_iload hx hb d_L_subtract_5 (lv_at hl 4 rfl) ?_
      refine lv_bipush (v := nI 8) hx hb d_L_subtract_7 (by decide) ?_
      refine n_ge (tgt := 54) hx hb d_L_subtract_9 (by decide) (by omega) (by decide) (fun h => absurd h (by omega)) (fun _ => ?_)
      have hda := dg_lt b32_pos (cV τ a) k
      have hdb := dg_lt b32_pos (cV τ b) k
      refine lv_aload_n hx hb d_L_subtract_12 rfl (lv_at hl 1 rfl) ?_
      refine lv_iload hx hb d_L_subtract_13 (lv_at hl 4 rfl) ?_
      refine c_ld hx hb hw (by omega) (by omega) d_L_subtract_15 ?_
      refine tp_l (y := lN (dg b32 (cV τ a) k)) (congrArg lN (dg_part (by omega) hup)) ?_
      refine lv_aload_n hx hb d_L_subtract_16 rfl (lv_at hl 2 rfl) ?_
      refine lv_iload hx hb d_L_subtract_17 (lv_at hl 4 rfl) ?_
      refine c_ld hx hb hw (by omega) (by omega) d_L_subtract_19 ?_
      refine tp_l (y := lN (dg b32 (cV τ b) k)) (congrArg lN (dg_part (by omega) hup)) ?_
      refine lv_lsub hx hb d_L_subtract_20 ?_
      refine lv_lload_n hx hb d_L_subtract_21 rfl (lv_at hl 3 rfl) ?_
      refine lv_lsub hx hb d_L_subtract_22 ?_
      refine tp_l (y := lN (dg b32 (cV τ a) k + (2 ^ 64 - (dg b32 (cV τ b) k + cy)))) (sub64 hda hdb hcy) ?_
      refine lv_lstore (lv' := [(6, .long (lN (dg b32 (cV τ a) k + (2 ^ 64 - (dg b32 (cV τ b) k + cy))))), (0, .ref (cR K o)), (1, .ref (cR K a)), (2, .ref (cR K b)), (3, .long (lN (cy))), (5, .int (nI (k)))]) hx hb d_L_subtract_23 hl (by decide) rfl (fun ls hl => ?_)
      refine lv_aload_n hx hb d_L_subtract_25 rfl (lv_at hl 1 rfl) ?_
      refine lv_iload hx hb d_L_subtract_26 (lv_at hl 5 rfl) ?_
      refine lv_lload hx hb d_L_subtract_28 (lv_at hl 0 rfl) ?_
      refine lv_ldc2 hx hb hown (ht _ kl_L_15) d_L_subtract_30 ?_
      refine lv_land hx hb d_L_subtract_33 ?_
      refine tp_l (y := lN (((dg b32 (cV τ a) k + b32 - (dg b32 (cV τ b) k + cy)) % b32))) (sub64a hda hdb hcy) ?_
      refine c_st hx hb hw (show o < 34 by omega) (by omega) (Nat.mod_lt _ b32_pos) d_L_subtract_34 (fun H locs hw => ?_)
      refine lv_lload hx hb d_L_subtract_35 (lv_at hl 0 rfl) ?_
      refine lv_lconst (v := lN 0) hx hb d_L_subtract_37 (by decide) ?_
      refine l_ge (tgt := 46) hx hb d_L_subtract_38 d_L_subtract_39 (by decide) (fun c1 => ?_) (fun c1 => ?_)
      · have c2 : ¬ dg b32 (cV τ a) k < dg b32 (cV τ b) k + cy := Nat.not_lt.mpr ((sub64s hda hdb hcy).mp c1)
        refine lv_lconst (v := lN 0) hx hb d_L_subtract_46 (by decide) ?_
        refine lv_lstore_n (lv' := [(3, .long (lN (0))), (6, .long (lN (dg b32 (cV τ a) k + (2 ^ 64 - (dg b32 (cV τ b) k + cy))))), (0, .ref (cR K o)), (1, .ref (cR K a)), (2, .ref (cR K b)), (5, .int (nI (k)))]) hx hb d_L_subtract_47 rfl hl (by decide) rfl (fun ls hl => ?_)
        refine lv_iinc (v := nI (k + 1)) (lv' := [(5, .int (nI (k + 1))), (3, .long (lN (0))), (6, .long (lN (dg b32 (cV τ a) k + (2 ^ 64 - (dg b32 (cV τ b) k + cy))))), (0, .ref (cR K o)), (1, .ref (cR K a)), (2, .ref (cR K b))]) hx hb d_L_subtract_48 hl (k := 5) rfl (nI_add k 1) (by decide) rfl (fun ls hl => ?_)
        refine lv_goto (tgt := 5) hx hb d_L_subtract_51 (by decide) ?_
        refine ih (k + 1) (by omega) (ds b32 w k ((dg b32 (cV τ a) k + b32 - (dg b32 (cV τ b) k + cy)) % b32)) 0 H locs ls (ds_lt b32_pos (Nat.mod_lt _ b32_pos) (by omega) hwb) (by decide) (fun j hj => ?_) ?_ ?_ (lv_sub hl [3, 4, 5, 1, 0] rfl)
        · rw [ds_dg b32_pos _ (Nat.mod_lt _ b32_pos), if_neg (by omega)]; exact hup j (by omega)
        · have h9 := sub_step hda hdb hcy hsum
          rw [boolN_f c2] at h9
          rw [ds_mod b32_pos _ (Nat.mod_lt _ b32_pos), dg_mod b32 (cV τ a) k, dg_mod b32 (cV τ b) k, Nat.pow_succ]
          exact h9
        · rw [csV_up, cV_self _ (show o < 34 by omega)] at hw; exact hw
      · have c2 : dg b32 (cV τ a) k < dg b32 (cV τ b) k + cy := Nat.not_le.mp (fun q => c1 ((sub64s hda hdb hcy).mpr q))
        refine lv_lconst (v := lN 1) hx hb d_L_subtract_42 (by decide) ?_
        refine lv_goto (tgt := 47) hx hb d_L_subtract_43 (by decide) ?_
        refine lv_lstore_n (lv' := [(3, .long (lN (1))), (6, .long (lN (dg b32 (cV τ a) k + (2 ^ 64 - (dg b32 (cV τ b) k + cy))))), (0, .ref (cR K o)), (1, .ref (cR K a)), (2, .ref (cR K b)), (5, .int (nI (k)))]) hx hb d_L_subtract_47 rfl hl (by decide) rfl (fun ls hl => ?_)
        refine lv_iinc (v := nI (k + 1)) (lv' := [(5, .int (nI (k + 1))), (3, .long (lN (1))), (6, .long (lN (dg b32 (cV τ a) k + (2 ^ 64 - (dg b32 (cV τ b) k + cy))))), (0, .ref (cR K o)), (1, .ref (cR K a)), (2, .ref (cR K b))]) hx hb d_L_subtract_48 hl (k := 5) rfl (nI_add k 1) (by decide) rfl (fun ls hl => ?_)
        refine lv_goto (tgt := 5) hx hb d_L_subtract_51 (by decide) ?_
        refine ih (k + 1) (by omega) (ds b32 w k ((dg b32 (cV τ a) k + b32 - (dg b32 (cV τ b) k + cy)) % b32)) 1 H locs ls (ds_lt b32_pos (Nat.mod_lt _ b32_pos) (by omega) hwb) (by decide) (fun j hj => ?_) ?_ ?_ (lv_sub hl [3, 4, 5, 1, 0] rfl)
        · rw [ds_dg b32_pos _ (Nat.mod_lt _ b32_pos), if_neg (by omega)]; exact hup j (by omega)
        · have h9 := sub_step hda hdb hcy hsum
          rw [boolN_t c2] at h9
          rw [ds_mod b32_pos _ (Nat.mod_lt _ b32_pos), dg_mod b32 (cV τ a) k, dg_mod b32 (cV τ b) k, Nat.pow_succ]
          exact h9
        · rw [csV_up, cV_self _ (show o < 34 by omega)] at hw; exact hw
  refine lv_lconst (v := lN 0) hx hb d_L_subtract_0 (by decide) ?_
  refine lv_lstore_n (lv' := [(3, .long (lN (0))), (0, .ref (cR K o)), (1, .ref (cR K a)), (2, .ref (cR K b))]) hx hb d_L_subtract_1 rfl hl (by decide) rfl (fun ls hl => ?_)
  refine lv_iconst (v := nI 0) hx hb d_L_subtract_2 (by decide) ?_
  refine lv_istore (lv' := [(5, .int (nI (0))), (3, .long (lN (0))), (0, .ref (cR K o)), (1, .ref (cR K a)), (2, .ref (cR K b))]) hx hb d_L_subtract_3 hl (by decide) rfl (fun ls hl => ?_)
  refine loop 8 0 rfl (cV τ o) 0 _ _ ls hO (by decide) (fun _ _ => rfl) (by rw [Nat.pow_zero, Nat.mod_one, Nat.mod_one, Nat.mod_one]) ?_ (lv_sub hl [2, 3, 4, 1, 0] rfl)
  rw [csV_id (by omega)]
  exact hw
set_option maxHeartbeats 4000000 in
set_option maxRecDepth 100000 in
theorem c_L_setLong (l : Launch) (K : cG) (τ : cT) {o k v : Nat} (ho : o < 32) (hk : k < 4) (hv0 : v < 2 ^ 64) : Met l y_L_setLong (zW y_L_setLong b_L_setLong 5 none) (zr 0 0) (va_Pc [.ref (cR K o), .int (nI (k)), .long (lN (v))] (cC K τ)) (va_Qv (fun u => u = csV τ o (ds b32 (ds b32 (cV τ o) (6 - 2 * k) (v % b32)) (6 - 2 * k + 1) (v / b32))) (fun u => cC K u) (cAA K)) 0 0 (cAA K) := by
  refine Met.ofW (cc := b_L_setLong) (maxL := 5) (ret := none) (by decide) rfl ?_
  intro p e s m args below meth c s₁ B hml hv
  obtain ⟨rfl, hw⟩ := hv
  have hx := B.exec
  have hb := B.bytes
  have hr := B.returns
  have hts := atoms_spec (ws := zW y_L_setLong b_L_setLong 5 none) B.pre
  have ht : ∀ w ∈ zT, w.before ([.ref (cR K o), .int (nI (k)), .long (lN (v))] : List Value).toArray s = true := fun w h => hts w (List.mem_cons_of_mem _ h)
  have hown : s.vm.findClass R_L = some m.cls := findClass_of_methodNamed B.named
  have hlocks := B.notSynchronized
  have hl := lv_entry ([.ref (cR K o), .int (nI (k)), .long (lN (v))]) (n := 5) (Nat.le_of_ble_eq_true rfl)
  rw [lg_entry_eq]
  generalize (lg_sl ([.ref (cR K o), .int (nI (k)), .long (lN (v))]) ++ List.replicate (5 - (lg_sl ([.ref (cR K o), .int (nI (k)), .long (lN (v))])).length) Slot.unset).toArray = ls at hl ⊢
  have hl : lv_has ls 5 [(0, .ref (cR K o)), (1, .int (nI (k))), (2, .long (lN (v)))] := hl
  have ro := rl_8 (Or.inl ho) (show o < 44 by omega)
  refine lv_bipush (v := nI 6) hx hb d_L_setLong_0 (by decide) ?_
  refine lv_iconst (v := nI 2) hx hb d_L_setLong_2 (by decide) ?_
  refine lv_iload_n hx hb d_L_setLong_3 rfl (lv_at hl 1 rfl) ?_
  refine lv_imul hx hb d_L_setLong_4 ?_
  refine tp_i (y := nI (2 * k)) (pk_mul _ _) ?_
  refine lv_isub hx hb d_L_setLong_5 ?_
  refine tp_i (y := nI (6 - 2 * k)) (pk_sub (by omega)) ?_
  refine lv_istore (lv' := [(4, .int (nI (6 - 2 * k))), (0, .ref (cR K o)), (1, .int (nI (k))), (2, .long (lN (v)))]) hx hb d_L_setLong_6 hl (by decide) rfl (fun ls hl => ?_)
  refine lv_aload_n hx hb d_L_setLong_8 rfl (lv_at hl 1 rfl) ?_
  refine lv_iload hx hb d_L_setLong_9 (lv_at hl 0 rfl) ?_
  refine lv_lload_n hx hb d_L_setLong_11 rfl (lv_at hl 3 rfl) ?_
  refine lv_ldc2 hx hb hown (ht _ kl_L_15) d_L_setLong_12 ?_
  refine lv_land hx hb d_L_setLong_15 ?_
  refine tp_l (y := lN (v % b32)) (lmask hv0) ?_
  refine c_st hx hb hw (show o < 34 by omega) (by omega) (Nat.mod_lt _ b32_pos) d_L_setLong_16 (fun H locs hw => ?_)
  refine lv_aload_n hx hb d_L_setLong_17 rfl (lv_at hl 1 rfl) ?_
  refine lv_iload hx hb d_L_setLong_18 (lv_at hl 0 rfl) ?_
  refine lv_iconst (v := nI 1) hx hb d_L_setLong_20 (by decide) ?_
  refine lv_iadd hx hb d_L_setLong_21 ?_
  refine tp_i (y := nI ((6 - 2 * k) + 1)) (nI_add _ _) ?_
  refine lv_lload_n hx hb d_L_setLong_22 rfl (lv_at hl 3 rfl) ?_
  refine lv_bipush (v := nI 32) hx hb d_L_setLong_23 (by decide) ?_
  refine lv_lushr (v := lN (v / b32)) hx hb d_L_setLong_25 (lsh32 hv0) ?_
  have hd9 : v / b32 < b32 := Nat.div_lt_of_lt_mul hv0
  refine c_st hx hb hw (show o < 34 by omega) (by omega) hd9 d_L_setLong_26 (fun H locs hw => ?_)
  rw [csV_up, cV_self _ (show o < 34 by omega)] at hw
  exact z_vret (cZ K) hx hb hr hlocks _ hw rfl d_L_setLong_27
set_option maxHeartbeats 4000000 in
set_option maxRecDepth 100000 in
theorem c_L_longOf (l : Launch) (K : cG) (τ : cT) {a k : Nat} (ha : a < 32 ∨ 34 ≤ a) (ha2 : a < 44) (hk : k < 4) : Met l y_L_longOf (zW y_L_longOf b_L_longOf 3 (some .long)) (zr 0 0) (va_Pc [.ref (cR K a), .int (nI (k))] (cC K τ)) (va_Ql (fun r u => u = τ ∧ r = lN (dg b32 (cV τ a) (6 - 2 * k + 1) * b32 + dg b32 (cV τ a) (6 - 2 * k))) (fun u => cC K u) (cAA K)) 0 0 (cAA K) := by
  refine Met.ofW (cc := b_L_longOf) (maxL := 3) (ret := (some .long)) (by decide) rfl ?_
  intro p e s m args below meth c s₁ B hml hv
  obtain ⟨rfl, hw⟩ := hv
  have hx := B.exec
  have hb := B.bytes
  have hr := B.returns
  have hts := atoms_spec (ws := zW y_L_longOf b_L_longOf 3 (some .long)) B.pre
  have ht : ∀ w ∈ zT, w.before ([.ref (cR K a), .int (nI (k))] : List Value).toArray s = true := fun w h => hts w (List.mem_cons_of_mem _ h)
  have hown : s.vm.findClass R_L = some m.cls := findClass_of_methodNamed B.named
  have hlocks := B.notSynchronized
  have hl := lv_entry ([.ref (cR K a), .int (nI (k))]) (n := 3) (Nat.le_of_ble_eq_true rfl)
  rw [lg_entry_eq]
  generalize (lg_sl ([.ref (cR K a), .int (nI (k))]) ++ List.replicate (3 - (lg_sl ([.ref (cR K a), .int (nI (k))])).length) Slot.unset).toArray = ls at hl ⊢
  have hl : lv_has ls 3 [(0, .ref (cR K a)), (1, .int (nI (k)))] := hl
  have ra := rl_8 ha ha2
  refine lv_bipush (v := nI 6) hx hb d_L_longOf_0 (by decide) ?_
  refine lv_iconst (v := nI 2) hx hb d_L_longOf_2 (by decide) ?_
  refine lv_iload_n hx hb d_L_longOf_3 rfl (lv_at hl 1 rfl) ?_
  refine lv_imul hx hb d_L_longOf_4 ?_
  refine tp_i (y := nI (2 * k)) (pk_mul _ _) ?_
  refine lv_isub hx hb d_L_longOf_5 ?_
  refine tp_i (y := nI (6 - 2 * k)) (pk_sub (by omega)) ?_
  refine lv_istore_n (lv' := [(2, .int (nI (6 - 2 * k))), (0, .ref (cR K a)), (1, .int (nI (k)))]) hx hb d_L_longOf_6 rfl hl (by decide) rfl (fun ls hl => ?_)
  refine lv_aload_n hx hb d_L_longOf_7 rfl (lv_at hl 1 rfl) ?_
  refine lv_iload_n hx hb d_L_longOf_8 rfl (lv_at hl 0 rfl) ?_
  refine lv_iconst (v := nI 1) hx hb d_L_longOf_9 (by decide) ?_
  refine lv_iadd hx hb d_L_longOf_10 ?_
  refine tp_i (y := nI ((6 - 2 * k) + 1)) (nI_add _ _) ?_
  refine c_ld hx hb hw (by omega) (by omega) d_L_longOf_11 ?_
  refine tp_l (y := lN (dg b32 (cV τ a) (6 - 2 * k + 1))) (rfl) ?_
  have d1 := dg32 (cV τ a) (6 - 2 * k + 1)
  have d0 := dg32 (cV τ a) (6 - 2 * k)
  refine lv_bipush (v := nI 32) hx hb d_L_longOf_12 (by decide) ?_
  refine lv_lshl (v := lN (dg b32 (cV τ a) (6 - 2 * k + 1) * b32)) hx hb d_L_longOf_14 (wb_shl _ (k := 32) (by decide)) ?_
  refine lv_aload_n hx hb d_L_longOf_15 rfl (lv_at hl 1 rfl) ?_
  refine lv_iload_n hx hb d_L_longOf_16 rfl (lv_at hl 0 rfl) ?_
  refine c_ld hx hb hw (by omega) (by omega) d_L_longOf_17 ?_
  refine tp_l (y := lN (dg b32 (cV τ a) (6 - 2 * k))) (rfl) ?_
  refine lv_lor hx hb d_L_longOf_18 ?_
  refine tp_l (y := lN (dg b32 (cV τ a) (6 - 2 * k + 1) * b32 + dg b32 (cV τ a) (6 - 2 * k))) (g_or (k := 32) rfl d0 (by show _ * 4294967296 + _ < _; omega)) ?_
  exact z_lret (cZ K) hx hb hr hlocks τ hw ⟨rfl, rfl⟩ d_L_longOf_19
