/-! the modulus: a product is added to the wide row -/
theorem prod_lt {f d x y : Nat} (hf : f < b32) (hd : d < b32) (hx : x < b32) (hy : y < b32) : f * d + x + y < 2 ^ 64 := by
  have hf' : f ≤ 4294967295 := Nat.le_of_lt_succ hf
  have hd' : d ≤ 4294967295 := Nat.le_of_lt_succ hd
  have h := Nat.mul_le_mul hf' hd'
  have hx' : x < 4294967296 := hx
  have hy' : y < 4294967296 := hy
  omega
theorem mul_step (f A k i : Nat) : f * (A % b32 ^ (i + 1)) * b32 ^ k = f * (A % b32 ^ i) * b32 ^ k + f * dg b32 A i * b32 ^ (k + i) := by
  rw [dg_mod, Nat.pow_add]
  generalize A % b32 ^ i = x
  generalize dg b32 A i = d
  generalize b32 ^ i = p
  generalize b32 ^ k = q
  grind
theorem dg_of_div {w v t : Nat} (h : w / b32 ^ t = v / b32 ^ t) : dg b32 w t = dg b32 v t := by unfold dg; rw [h]
theorem div_down {w v t : Nat} (h : w / b32 ^ t = v / b32 ^ t) : w / b32 ^ (t + 1) = v / b32 ^ (t + 1) := by
  rw [Nat.pow_succ, ← Nat.div_div_eq_div_mul, ← Nat.div_div_eq_div_mul, h]
theorem acc_end {w v X t : Nat} (h : w / b32 ^ t = v / b32 ^ t) (hs : w % b32 ^ t + 0 * b32 ^ t = X + v % b32 ^ t) : w = v + X := by
  have e1 := Nat.div_add_mod w (b32 ^ t)
  have e2 := Nat.div_add_mod v (b32 ^ t)
  rw [h] at e1
  omega
theorem rl_w {μ : Nat} (h : μ < 2) : rl (32 + μ) = 16 := by
  rcases (show μ = 0 ∨ μ = 1 by omega) with rfl | rfl <;> rfl
set_option maxHeartbeats 4000000 in
set_option maxRecDepth 100000 in
theorem c_M_addProduct (l : Launch) (K : cG) (τ : cT) (hok : cOk τ) {μ f a cn k : Nat} (hμ : μ < 2) (hf : f < b32) (ha : a < 32 ∨ 34 ≤ a) (ha2 : a < 46) (hcn : cn ≤ rl a) (hk : k + cn ≤ 16) (hov : cV τ (32 + μ) + f * (cV τ a % b32 ^ cn) * b32 ^ k < b32 ^ 16) : Met l y_M_addProduct (zW y_M_addProduct b_M_addProduct 12 none) (zr 0 0) (va_Pc [.ref (cO K (5 + μ)), .long (lN (f)), .ref (cR K a), .int (nI (cn)), .int (nI (k))] (cC K τ)) (va_Qv (fun u => u = csV τ (32 + μ) (cV τ (32 + μ) + f * (cV τ a % b32 ^ cn) * b32 ^ k)) (fun u => cC K u) (cAA K)) 0 0 (cAA K) := by
  refine Met.ofW (cc := b_M_addProduct) (maxL := 12) (ret := none) (by decide) rfl ?_
  intro p e s m args below meth c s₁ B hml hv
  obtain ⟨rfl, hw⟩ := hv
  have hx := B.exec
  have hb := B.bytes
  have hr := B.returns
  have hts := atoms_spec (ws := zW y_M_addProduct b_M_addProduct 12 none) B.pre
  have ht : ∀ w ∈ zT, w.before ([.ref (cO K (5 + μ)), .long (lN (f)), .ref (cR K a), .int (nI (cn)), .int (nI (k))] : List Value).toArray s = true := fun w h => hts w (List.mem_cons_of_mem _ h)
  have hown : s.vm.findClass R_M = some m.cls := findClass_of_methodNamed B.named
  have hlocks := B.notSynchronized
  have hl := lv_entry ([.ref (cO K (5 + μ)), .long (lN (f)), .ref (cR K a), .int (nI (cn)), .int (nI (k))]) (n := 12) (Nat.le_of_ble_eq_true rfl)
  rw [lg_entry_eq]
  generalize (lg_sl ([.ref (cO K (5 + μ)), .long (lN (f)), .ref (cR K a), .int (nI (cn)), .int (nI (k))]) ++ List.replicate (12 - (lg_sl ([.ref (cO K (5 + μ)), .long (lN (f)), .ref (cR K a), .int (nI (cn)), .int (nI (k))])).length) Slot.unset).toArray = ls at hl ⊢
  have hl : lv_has ls 12 [(0, .ref (cO K (5 + μ))), (1, .long (lN (f))), (3, .ref (cR K a)), (4, .int (nI (cn))), (5, .int (nI (k)))] := hl
  have rw16 := rl_w hμ
  have hra := rl_lt a
  have hW0 : cV τ (32 + μ) < b32 ^ 16 := by have h9 := hok (32 + μ) (by omega); rw [rw16] at h9; exact h9
  have tail : ∀ (n t : Nat), t + n = 16 → ∀ (w cy : Nat) (H : Heap) (locs : List Loc) (ls : Array Slot), w < b32 ^ 16 → cy < b32 → w / b32 ^ t = cV τ (32 + μ) / b32 ^ t → w % b32 ^ t + cy * b32 ^ t = f * (cV τ a % b32 ^ cn) * b32 ^ k + cV τ (32 + μ) % b32 ^ t → cH K (csV τ (32 + μ) w) s H locs → lv_has ls 12 [(0, .ref (cO K (5 + μ))), (6, .long (lN (cy))), (8, .int (nI (t)))] → W p l e (headSpec (zW y_M_addProduct b_M_addProduct 12 none) (zr 0 0)).room s m ([.ref (cO K (5 + μ)), .long (lN (f)), .ref (cR K a), .int (nI (cn)), .int (nI (k))] : List Value).toArray below meth c H locs 0 0 (MQ below (va_Qv (fun u => u = csV τ (32 + μ) (cV τ (32 + μ) + f * (cV τ a % b32 ^ cn) * b32 ^ k)) (fun u => cC K u) (cAA K)) ([.ref (cO K (5 + μ)), .long (lN (f)), .ref (cR K a), .int (nI (cn)), .int (nI (k))] : List Value).toArray s 0 0 (cAA K)) (F0 m 65 ls []) := by
    intro n
    induction n with
    | zero =>
      intro t htn w cy H locs ls hwb hcy hhi hsum hw hl
      have hcy9 : cy < 4294967296 := hcy
      refine lv_lload hx hb d_M_addProduct_65 (lv_at hl 1 rfl) ?_
      refine lv_lconst (v := lN 0) hx hb d_M_addProduct_67 (by decide) ?_
      refine l_eq (tgt := 120) hx hb d_M_addProduct_68 d_M_addProduct_69 (by decide) (by omega) (by decide) (fun c1 => ?_) (fun c1 => ?_)
      · rw [c1] at hsum
        exact z_vret (cZ K) hx hb hr hlocks _ hw (by rw [acc_end hhi hsum]) d_M_addProduct_120
      · refine lv_iload hx hb d_M_addProduct_72 (lv_at hl 2 rfl) ?_
        refine lv_aload_n hx hb d_M_addProduct_74 rfl (lv_at hl 0 rfl) ?_
        refine va_get (ci := 2) (C := R_M) (T := F_M) (N := 6) (v := .ref (cR K (32 + μ))) hx hb ht ku_M hown hw.2.1 hw.1 (5 + μ) (cWs_mod K _ hμ) rfl 3 (by decide) (ht _ kf_M_9) (fun _ h9 => h9) rfl d_M_addProduct_75 ?_
        refine c_len hx hb hw (i := 32 + μ) (by omega) d_M_addProduct_78 ?_
        refine tp_i (y := nI (16)) (congrArg nI rw16) ?_
        have ht16 : t = 16 := by omega
        rw [ht16, Nat.mod_eq_of_lt hwb, Nat.mod_eq_of_lt hW0] at hsum
        have h9 := Nat.mul_le_mul_right (b32 ^ 16) (show 1 ≤ cy by omega)
        exact absurd hov (by omega)
    | succ n ih =>
      intro t htn w cy H locs ls hwb hcy hhi hsum hw hl
      have hcy9 : cy < 4294967296 := hcy
      refine lv_lload hx hb d_M_addProduct_65 (lv_at hl 1 rfl) ?_
      refine lv_lconst (v := lN 0) hx hb d_M_addProduct_67 (by decide) ?_
      refine l_eq (tgt := 120) hx hb d_M_addProduct_68 d_M_addProduct_69 (by decide) (by omega) (by decide) (fun c1 => ?_) (fun c1 => ?_)
      · rw [c1] at hsum
        exact z_vret (cZ K) hx hb hr hlocks _ hw (by rw [acc_end hhi hsum]) d_M_addProduct_120
      · refine lv_iload hx hb d_M_addProduct_72 (lv_at hl 2 rfl) ?_
        refine lv_aload_n hx hb d_M_addProduct_74 rfl (lv_at hl 0 rfl) ?_
        refine va_get (ci := 2) (C := R_M) (T := F_M) (N := 6) (v := .ref (cR K (32 + μ))) hx hb ht ku_M hown hw.2.1 hw.1 (5 + μ) (cWs_mod K _ hμ) rfl 3 (by decide) (ht _ kf_M_9) (fun _ h9 => h9) rfl d_M_addProduct_75 ?_
        refine c_len hx hb hw (i := 32 + μ) (by omega) d_M_addProduct_78 ?_
        refine tp_i (y := nI (16)) (congrArg nI rw16) ?_
        refine n_ge (tgt := 120) hx hb d_M_addProduct_79 (by decide) (by omega) (by decide) (fun h => absurd h (by omega)) (fun _ => ?_)
        have d0 := dg32 (cV τ (32 + μ)) t
        have ed : dg b32 (cV (csV τ (32 + μ) w) (32 + μ)) t = dg b32 (cV τ (32 + μ)) t := by rw [cV_self _ (by omega)]; exact dg_of_div hhi
        refine lv_aload_n hx hb d_M_addProduct_82 rfl (lv_at hl 0 rfl) ?_
        refine va_get (ci := 2) (C := R_M) (T := F_M) (N := 6) (v := .ref (cR K (32 + μ))) hx hb ht ku_M hown hw.2.1 hw.1 (5 + μ) (cWs_mod K _ hμ) rfl 3 (by decide) (ht _ kf_M_9) (fun _ h9 => h9) rfl d_M_addProduct_83 ?_
        refine lv_iload hx hb d_M_addProduct_86 (lv_at hl 2 rfl) ?_
        refine c_ld hx hb hw (by omega) (by omega) d_M_addProduct_88 ?_
        refine tp_l (y := lN (dg b32 (cV τ (32 + μ)) t)) (congrArg lN (ed)) ?_
        refine lv_lload hx hb d_M_addProduct_89 (lv_at hl 1 rfl) ?_
        refine lv_ladd hx hb d_M_addProduct_91 ?_
        refine tp_l (y := lN ((dg b32 (cV τ (32 + μ)) t) + cy)) (lN_add _ _) ?_
        refine lv_lstore (lv' := [(9, .long (lN ((dg b32 (cV τ (32 + μ)) t) + cy))), (0, .ref (cO K (5 + μ))), (6, .long (lN (cy))), (8, .int (nI (t)))]) hx hb d_M_addProduct_92 hl (by decide) rfl (fun ls hl => ?_)
        refine lv_aload_n hx hb d_M_addProduct_94 rfl (lv_at hl 1 rfl) ?_
        refine va_get (ci := 2) (C := R_M) (T := F_M) (N := 6) (v := .ref (cR K (32 + μ))) hx hb ht ku_M hown hw.2.1 hw.1 (5 + μ) (cWs_mod K _ hμ) rfl 3 (by decide) (ht _ kf_M_9) (fun _ h9 => h9) rfl d_M_addProduct_95 ?_
        refine lv_iload hx hb d_M_addProduct_98 (lv_at hl 3 rfl) ?_
        refine lv_lload hx hb d_M_addProduct_100 (lv_at hl 0 rfl) ?_
        refine lv_ldc2 hx hb hown (ht _ kl_M_77) d_M_addProduct_102 ?_
        refine lv_land hx hb d_M_addProduct_105 ?_
        refine tp_l (y := lN ((dg b32 (cV τ (32 + μ)) t + cy) % b32)) (lmask (by omega)) ?_
        refine c_st hx hb hw (show 32 + μ < 34 by omega) (by omega) (Nat.mod_lt _ b32_pos) d_M_addProduct_106 (fun H locs hw => ?_)
        refine lv_lload hx hb d_M_addProduct_107 (lv_at hl 0 rfl) ?_
        refine lv_bipush (v := nI 32) hx hb d_M_addProduct_109 (by decide) ?_
        refine lv_lushr (v := lN ((dg b32 (cV τ (32 + μ)) t + cy) / b32)) hx hb d_M_addProduct_111 (lsh32 (by omega)) ?_
        refine lv_lstore (lv' := [(6, .long (lN ((dg b32 (cV τ (32 + μ)) t + cy) / b32))), (9, .long (lN ((dg b32 (cV τ (32 + μ)) t) + cy))), (0, .ref (cO K (5 + μ))), (8, .int (nI (t)))]) hx hb d_M_addProduct_112 hl (by decide) rfl (fun ls hl => ?_)
        refine lv_iinc (v := nI (t + 1)) (lv' := [(8, .int (nI (t + 1))), (6, .long (lN ((dg b32 (cV τ (32 + μ)) t + cy) / b32))), (9, .long (lN ((dg b32 (cV τ (32 + μ)) t) + cy))), (0, .ref (cO K (5 + μ)))]) hx hb d_M_addProduct_114 hl (k := 3) rfl (nI_add t 1) (by decide) rfl (fun ls hl => ?_)
        refine lv_goto (tgt := 65) hx hb d_M_addProduct_117 (by decide) ?_
        rw [csV_up, cV_self _ (show 32 + μ < 34 by omega)] at hw
        refine ih (t + 1) (by omega) (ds b32 w t ((dg b32 (cV τ (32 + μ)) t + cy) % b32)) ((dg b32 (cV τ (32 + μ)) t + cy) / b32) H locs ls (ds_lt b32_pos (Nat.mod_lt _ b32_pos) (by omega) hwb) (by show _ / 4294967296 < 4294967296; omega) ?_ ?_ hw (lv_sub hl [3, 1, 0] rfl)
        · rw [ds_high b32_pos _ (Nat.mod_lt _ b32_pos) (by omega)]; exact div_down hhi
        · have h9 := add_step (b := b32) (da := 0) (db := dg b32 (cV τ (32 + μ)) t) hsum
          rw [Nat.zero_mul, Nat.add_zero, Nat.zero_add] at h9
          rw [ds_mod b32_pos _ (Nat.mod_lt _ b32_pos), dg_mod b32 (cV τ (32 + μ)) t, Nat.pow_succ]
          exact h9
  have loop : ∀ (n i : Nat), i + n = cn → ∀ (w cy : Nat) (H : Heap) (locs : List Loc) (ls : Array Slot), w < b32 ^ 16 → cy < b32 → w / b32 ^ (k + i) = cV τ (32 + μ) / b32 ^ (k + i) → w % b32 ^ (k + i) + cy * b32 ^ (k + i) = f * (cV τ a % b32 ^ i) * b32 ^ k + cV τ (32 + μ) % b32 ^ (k + i) → cH K (csV τ (32 + μ) w) s H locs → lv_has ls 12 [(0, .ref (cO K (5 + μ))), (1, .long (lN (f))), (3, .ref (cR K a)), (4, .int (nI (cn))), (6, .long (lN (cy))), (8, .int (nI (k + i))), (9, .int (nI (i)))] → W p l e (headSpec (zW y_M_addProduct b_M_addProduct 12 none) (zr 0 0)).room s m ([.ref (cO K (5 + μ)), .long (lN (f)), .ref (cR K a), .int (nI (cn)), .int (nI (k))] : List Value).toArray below meth c H locs 0 0 (MQ below (va_Qv (fun u => u = csV τ (32 + μ) (cV τ (32 + μ) + f * (cV τ a % b32 ^ cn) * b32 ^ k)) (fun u => cC K u) (cAA K)) ([.ref (cO K (5 + μ)), .long (lN (f)), .ref (cR K a), .int (nI (cn)), .int (nI (k))] : List Value).toArray s 0 0 (cAA K)) (F0 m 10 ls []) := by
    intro n
    induction n with
    | zero =>
      intro i hin w cy H locs ls hwb hcy hhi hsum hw hl
      have hi9 : i = cn := by omega
      subst hi9
      refine lv_iload hx hb d_M_addProduct_10 (lv_at hl 6 rfl) ?_
      refine lv_iload hx hb d_M_addProduct_12 (lv_at hl 3 rfl) ?_
      refine n_ge (tgt := 65) hx hb d_M_addProduct_14 (by decide) (by omega) (by omega) (fun _ => ?_) (fun h => absurd h (by omega))
      exact tail (16 - (k + i)) (k + i) (by omega) w cy H locs ls hwb hcy hhi hsum hw (lv_sub hl [0, 4, 5] rfl)
    | succ n ih =>
      intro i hin w cy H locs ls hwb hcy hhi hsum hw hl
      refine lv_iload hx hb d_M_addProduct_10 (lv_at hl 6 rfl) ?_
      refine lv_iload hx hb d_M_addProduct_12 (lv_at hl 3 rfl) ?_
      refine n_ge (tgt := 65) hx hb d_M_addProduct_14 (by decide) (by omega) (by omega) (fun h => absurd h (by omega)) (fun _ => ?_)
      have d0 := dg_lt b32_pos (cV τ (32 + μ)) (k + i)
      have d1 := dg_lt b32_pos (cV τ a) i
      have hp9 := prod_lt hf d1 d0 hcy
      have ea : dg b32 (cV (csV τ (32 + μ) w) a) i = dg b32 (cV τ a) i := by rw [cV_ne _ (show 32 + μ < 34 by omega) (show a ≠ 32 + μ by omega)]
      have ed : dg b32 (cV (csV τ (32 + μ) w) (32 + μ)) (k + i) = dg b32 (cV τ (32 + μ)) (k + i) := by rw [cV_self _ (by omega)]; exact dg_of_div hhi
      refine lv_lload_n hx hb d_M_addProduct_17 rfl (lv_at hl 1 rfl) ?_
      refine lv_aload_n hx hb d_M_addProduct_18 rfl (lv_at hl 2 rfl) ?_
      refine lv_iload hx hb d_M_addProduct_19 (lv_at hl 6 rfl) ?_
      refine c_ld hx hb hw (by omega) (by omega) d_M_addProduct_21 ?_
      refine tp_l (y := lN (dg b32 (cV τ a) i)) (congrArg lN (ea)) ?_
      refine lv_lmul hx hb d_M_addProduct_22 ?_
      refine tp_l (y := lN (f * (dg b32 (cV τ a) i))) (lN_mul _ _) ?_
      refine lv_aload_n hx hb d_M_addProduct_23 rfl (lv_at hl 0 rfl) ?_
      refine va_get (ci := 2) (C := R_M) (T := F_M) (N := 6) (v := .ref (cR K (32 + μ))) hx hb ht ku_M hown hw.2.1 hw.1 (5 + μ) (cWs_mod K _ hμ) rfl 3 (by decide) (ht _ kf_M_9) (fun _ h9 => h9) rfl d_M_addProduct_24 ?_
      refine lv_iload hx hb d_M_addProduct_27 (lv_at hl 5 rfl) ?_
      refine c_ld hx hb hw (by omega) (by omega) d_M_addProduct_29 ?_
      refine tp_l (y := lN (dg b32 (cV τ (32 + μ)) (k + i))) (congrArg lN (ed)) ?_
      refine lv_ladd hx hb d_M_addProduct_30 ?_
      refine tp_l (y := lN ((f * (dg b32 (cV τ a) i)) + (dg b32 (cV τ (32 + μ)) (k + i)))) (lN_add _ _) ?_
      refine lv_lload hx hb d_M_addProduct_31 (lv_at hl 4 rfl) ?_
      refine lv_ladd hx hb d_M_addProduct_33 ?_
      refine tp_l (y := lN (((f * (dg b32 (cV τ a) i)) + (dg b32 (cV τ (32 + μ)) (k + i))) + cy)) (lN_add _ _) ?_
      refine lv_lstore (lv' := [(10, .long (lN (((f * (dg b32 (cV τ a) i)) + (dg b32 (cV τ (32 + μ)) (k + i))) + cy))), (0, .ref (cO K (5 + μ))), (1, .long (lN (f))), (3, .ref (cR K a)), (4, .int (nI (cn))), (6, .long (lN (cy))), (8, .int (nI (k + i))), (9, .int (nI (i)))]) hx hb d_M_addProduct_34 hl (by decide) rfl (fun ls hl => ?_)
      refine lv_aload_n hx hb d_M_addProduct_36 rfl (lv_at hl 1 rfl) ?_
      refine va_get (ci := 2) (C := R_M) (T := F_M) (N := 6) (v := .ref (cR K (32 + μ))) hx hb ht ku_M hown hw.2.1 hw.1 (5 + μ) (cWs_mod K _ hμ) rfl 3 (by decide) (ht _ kf_M_9) (fun _ h9 => h9) rfl d_M_addProduct_37 ?_
      refine lv_iload hx hb d_M_addProduct_40 (lv_at hl 6 rfl) ?_
      refine lv_lload hx hb d_M_addProduct_42 (lv_at hl 0 rfl) ?_
      refine lv_ldc2 hx hb hown (ht _ kl_M_77) d_M_addProduct_44 ?_
      refine lv_land hx hb d_M_addProduct_47 ?_
      refine tp_l (y := lN ((f * dg b32 (cV τ a) i + dg b32 (cV τ (32 + μ)) (k + i) + cy) % b32)) (lmask hp9) ?_
      refine c_st hx hb hw (show 32 + μ < 34 by omega) (by omega) (Nat.mod_lt _ b32_pos) d_M_addProduct_48 (fun H locs hw => ?_)
      refine lv_lload hx hb d_M_addProduct_49 (lv_at hl 0 rfl) ?_
      refine lv_bipush (v := nI 32) hx hb d_M_addProduct_51 (by decide) ?_
      refine lv_lushr (v := lN ((f * dg b32 (cV τ a) i + dg b32 (cV τ (32 + μ)) (k + i) + cy) / b32)) hx hb d_M_addProduct_53 (lsh32 hp9) ?_
      refine lv_lstore (lv' := [(6, .long (lN ((f * dg b32 (cV τ a) i + dg b32 (cV τ (32 + μ)) (k + i) + cy) / b32))), (10, .long (lN (((f * (dg b32 (cV τ a) i)) + (dg b32 (cV τ (32 + μ)) (k + i))) + cy))), (0, .ref (cO K (5 + μ))), (1, .long (lN (f))), (3, .ref (cR K a)), (4, .int (nI (cn))), (8, .int (nI (k + i))), (9, .int (nI (i)))]) hx hb d_M_addProduct_54 hl (by decide) rfl (fun ls hl => ?_)
      refine lv_iinc (v := nI (k + i + 1)) (lv' := [(8, .int (nI (k + i + 1))), (6, .long (lN ((f * dg b32 (cV τ a) i + dg b32 (cV τ (32 + μ)) (k + i) + cy) / b32))), (10, .long (lN (((f * (dg b32 (cV τ a) i)) + (dg b32 (cV τ (32 + μ)) (k + i))) + cy))), (0, .ref (cO K (5 + μ))), (1, .long (lN (f))), (3, .ref (cR K a)), (4, .int (nI (cn))), (9, .int (nI (i)))]) hx hb d_M_addProduct_56 hl (k := 6) rfl (nI_add (k + i) 1) (by decide) rfl (fun ls hl => ?_)
      refine lv_iinc (v := nI (i + 1)) (lv' := [(9, .int (nI (i + 1))), (8, .int (nI (k + i + 1))), (6, .long (lN ((f * dg b32 (cV τ a) i + dg b32 (cV τ (32 + μ)) (k + i) + cy) / b32))), (10, .long (lN (((f * (dg b32 (cV τ a) i)) + (dg b32 (cV τ (32 + μ)) (k + i))) + cy))), (0, .ref (cO K (5 + μ))), (1, .long (lN (f))), (3, .ref (cR K a)), (4, .int (nI (cn)))]) hx hb d_M_addProduct_59 hl (k := 7) rfl (nI_add i 1) (by decide) rfl (fun ls hl => ?_)
      refine lv_goto (tgt := 10) hx hb d_M_addProduct_62 (by decide) ?_
      rw [csV_up, cV_self _ (show 32 + μ < 34 by omega)] at hw
      refine ih (i + 1) (by omega) (ds b32 w (k + i) ((f * dg b32 (cV τ a) i + dg b32 (cV τ (32 + μ)) (k + i) + cy) % b32)) ((f * dg b32 (cV τ a) i + dg b32 (cV τ (32 + μ)) (k + i) + cy) / b32) H locs ls (ds_lt b32_pos (Nat.mod_lt _ b32_pos) (by omega) hwb) (Nat.div_lt_of_lt_mul hp9) ?_ ?_ hw (lv_sub hl [4, 5, 6, 7, 2, 1, 0] rfl)
      · rw [show k + (i + 1) = k + i + 1 by omega, ds_high b32_pos _ (Nat.mod_lt _ b32_pos) (by omega)]; exact div_down hhi
      · have h9 := add_step (b := b32) (da := f * dg b32 (cV τ a) i) (db := dg b32 (cV τ (32 + μ)) (k + i)) hsum
        rw [show k + (i + 1) = k + i + 1 by omega, ds_mod b32_pos _ (Nat.mod_lt _ b32_pos), dg_mod b32 (cV τ (32 + μ)) (k + i), mul_step, Nat.pow_succ]
        exact h9
  refine lv_lconst (v := lN 0) hx hb d_M_addProduct_0 (by decide) ?_
  refine lv_lstore (lv' := [(6, .long (lN (0))), (0, .ref (cO K (5 + μ))), (1, .long (lN (f))), (3, .ref (cR K a)), (4, .int (nI (cn))), (5, .int (nI (k)))]) hx hb d_M_addProduct_1 hl (by decide) rfl (fun ls hl => ?_)
  refine lv_iload hx hb d_M_addProduct_3 (lv_at hl 5 rfl) ?_
  refine lv_istore (lv' := [(8, .int (nI (k))), (6, .long (lN (0))), (0, .ref (cO K (5 + μ))), (1, .long (lN (f))), (3, .ref (cR K a)), (4, .int (nI (cn))), (5, .int (nI (k)))]) hx hb d_M_addProduct_5 hl (by decide) rfl (fun ls hl => ?_)
  refine lv_iconst (v := nI 0) hx hb d_M_addProduct_7 (by decide) ?_
  refine lv_istore (lv' := [(9, .int (nI (0))), (8, .int (nI (k))), (6, .long (lN (0))), (0, .ref (cO K (5 + μ))), (1, .long (lN (f))), (3, .ref (cR K a)), (4, .int (nI (cn))), (5, .int (nI (k)))]) hx hb d_M_addProduct_8 hl (by decide) rfl (fun ls hl => ?_)
  refine loop cn 0 (by omega) (cV τ (32 + μ)) 0 _ _ ls hW0 (by decide) rfl (by rw [Nat.pow_zero, Nat.mod_one, Nat.mul_zero, Nat.zero_mul, Nat.zero_mul, Nat.zero_add, Nat.add_zero]) ?_ (lv_sub hl [3, 4, 5, 6, 2, 1, 0] rfl)
  rw [csV_id (by omega)]
  exact hw
