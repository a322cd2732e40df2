/-! the reference's constructor -/
def rn0 : Nat → Nat := va_up (va_up (va_up (va_up (fun _ => 0) 0 1) 1 1) 2 1) 3 1
def rσ0 : rS := (fun _ => 0, fun k => dg b32 0 k, fun k => dg b32 0 k, rn0, fun _ => 0, 0)
def rV1 : Nat → Nat := va_up (va_up (va_up (va_up (va_up (va_up (fun _ => 0) 8 ec_P) 9 ec_N) 18 bX) 19 bY) 20 1) 21 7
def rσ1 : rS := rsV rσ0 rV1
def rE (a : Nat → Nat) (q : Nat) : Prop := ∃ j, j < 7 ∧ q = a j
theorem rWs_addr (G : rG) (σ : rS) {k : Nat} {q : Nat × va_E} (h : (rWs G σ)[k]? = some q) : rE (rA G) q.1 := by
  by_cases hk : k < 7
  · rcases (show k = 0 ∨ k = 1 ∨ k = 2 ∨ k = 3 ∨ k = 4 ∨ k = 5 ∨ k = 6 by omega) with rfl | rfl | rfl | rfl | rfl | rfl | rfl <;> (cases h; exact ⟨_, by decide, rfl⟩)
  · rw [List.getElem?_eq_none (by show 7 ≤ k; omega)] at h
    cases h
theorem zI480 : zI 480 = (480, .inl (rRows rσ0)) := by
  unfold zI
  refine congrArg (fun f => ((480, .inl f) : vp_A)) (funext fun k => ?_)
  show nI 0 = nI (dg b26 0 (k % 10))
  rw [dg0]
def rcr (k : Nat) : Int32 := if k = 0 then nI 0 else -1
theorem rest_step : ∀ m : Fin 2, ∀ k : Fin 10, ((rcr k.val - nI (dg b26 (rMod m.val) k.val)) &&& (if k.val < 9 then (67108863 : Int32) else 4194303)) = nI (rRest (10 * m.val + k.val)) ∧ ((rcr k.val - nI (dg b26 (rMod m.val) k.val)) >>> (nI 26 &&& 31)) = rcr (k.val + 1) := by decide +kernel
def rho (n j : Nat) : Nat := if j < n then rRest j else 0
theorem rho_up (n : Nat) : va_up (rho n) n (rRest n) = rho (n + 1) := by
  funext j
  unfold rho
  by_cases h : j = n
  · subst h
    rw [up_self, if_pos (by omega)]
  · rw [up_ne _ _ h]
    by_cases h2 : j < n
    · rw [if_pos h2, if_pos (by omega)]
    · rw [if_neg h2, if_neg (by omega)]
theorem gapN_lt : 2 ^ 256 - ec_N < b26 ^ 10 := by decide +kernel
theorem rho20 : rho 20 = rRest := by
  funext j
  unfold rho
  by_cases h : j < 20
  · rw [if_pos h]
  · rw [if_neg h]
    unfold rRest
    rw [if_neg (by omega)]
    unfold dg
    rw [Nat.div_eq_of_lt (Nat.lt_of_lt_of_le gapN_lt (Nat.pow_le_pow_right (by decide) (by omega))), Nat.zero_mod]
theorem rV_lt (V : Nat → Nat) {r x : Nat} (h : ∀ i, V i < b26 ^ 10) (hx : x < b26 ^ 10) : ∀ i, va_up V r x i < b26 ^ 10 := fun i => by
  by_cases e : i = r
  · subst e; rw [up_self]; exact hx
  · rw [up_ne _ _ e]; exact h i
set_option maxHeartbeats 4000000 in
set_option maxRecDepth 100000 in
theorem c_R_init (l : Launch) (D : va_G) (cI cJ cZ : ClassId) (h0 : Nat) (sz : Nat) : Met l y_R_init (zW y_R_init b_R_init 5 none) ({ frames := 2, cells := 6, slots := 648, locals := 60 }) (va_Pc [.ref (h0)] (fun U => U.heap.size = sz ∧ va_P D zcl [(h0, .inr (5, [.null, .null, .null, .null, .null, .null, .int 0]))] U.heap ∧ va_K D zcl [(cI, .int), (cJ, .long), (cZ, .boolean)] U ∧ va_D (fun _ => True) [(h0, .inr (5, [.null, .null, .null, .null, .null, .null, .int 0]))])) (va_Qv (fun G : rG => G.1 = D ∧ rA G 0 = h0 ∧ rAA G = rE (rA G) ∧ ∀ q, rAA G q → va_A [(h0, .inr (5, [.null, .null, .null, .null, .null, .null, .int 0]))] sz q) (fun G t => rC G rσ1 t) (va_A [(h0, .inr (5, [.null, .null, .null, .null, .null, .null, .int 0]))] sz)) 6 648 (va_A [(h0, .inr (5, [.null, .null, .null, .null, .null, .null, .int 0]))] sz) := by
  refine Met.ofW (cc := b_R_init) (maxL := 5) (ret := none) (by decide) rfl ?_
  intro p e s m args below meth c s₁ B hml hv
  obtain ⟨rfl, hsz, hP, hK, hD0⟩ := hv
  have hx := B.exec
  have hb := B.bytes
  have hr := B.returns
  have hts := atoms_spec (ws := zW y_R_init b_R_init 5 none) B.pre
  have ht : ∀ w ∈ zT, w.before ([.ref (h0)] : List Value).toArray s = true := fun w h => hts w (List.mem_cons_of_mem _ h)
  have hown : s.vm.findClass R_R = some m.cls := findClass_of_methodNamed B.named
  have hlocks := B.notSynchronized
  have hin : meth.name = "<init>" := (name_of_methodNamed B.named B.method).1
  subst hsz
  have hD := hD0.self (sz := s.heap.size)
  generalize hAe : va_A [(h0, .inr (5, [.null, .null, .null, .null, .null, .null, .int 0]))] s.heap.size = A at hD ⊢
  have hA : ∀ q : Nat, s.heap.size ≤ q → A q := fun q h => by rw [← hAe]; exact Or.inr h
  have hS : va_S A s.heap s.heap [] := va_S.rf
  have hl := lv_entry ([.ref (h0)]) (n := 5) (Nat.le_of_ble_eq_true rfl)
  rw [lg_entry_eq]
  generalize (lg_sl ([.ref (h0)]) ++ List.replicate (5 - (lg_sl ([.ref (h0)])).length) Slot.unset).toArray = ls at hl ⊢
  have hl : lv_has ls 5 [(0, .ref (h0))] := hl
  refine lv_aload_n hx hb d_R_init_0 rfl (lv_at hl 0 rfl) ?_
  refine W.objInit hx hb hown (ht _ km_R_1) (ht _ kv_O_init) (ht _ kc_O_init) rfl (by rw [hml]; exact hl.1) rfl d_R_init_1 (Nat.le_of_ble_eq_true rfl) (Nat.le_of_ble_eq_true rfl) ?_
  refine W.eq (g2 := F0 m 4 ls []) rfl ?_
  refine lv_aload_n hx hb d_R_init_4 rfl (lv_at hl 0 rfl) ?_
  refine lv_sipush (v := nI 480) hx hb d_R_init_5 (by decide) ?_
  refine z_newa (ty := .int) (N := 480) (a0 := zI 480) hx hb (fun _ _ => rfl) rfl (ht _ kA_int) 0 rfl hK hP hD hS hA (zI_cell _) (by decide) (by decide) (by decide) (by decide) d_R_init_8 (fun q1 H hP hD hS => ?_)
  have hP : va_P D zcl [(h0, .inr (5, [.null, .null, .null, .null, .null, .null, .int 0])), (q1, .inl (cI, zI 480))] H := hP
  have hD : va_D A [(h0, .inr (5, [.null, .null, .null, .null, .null, .null, .int 0])), (q1, .inl (cI, zI 480))] := hD
  refine va_putF (D := D) (ci := 5) (v := .ref (q1)) (ty := .array .int) (C := R_R) (T := F_R) (N := 7) hx hb ht ku_R t_R t_R_ok n_R hown hK hP hD hS 0 rfl rfl 0 (by decide) (ht _ kf_R_7) (fun _ h9 => h9) rfl hin rfl (by decide +kernel) rfl rfl (Nat.le_of_ble_eq_true rfl) d_R_init_10 (fun H locs hP hD hS => ?_)
  have hP : va_P D zcl [(h0, .inr (5, [.ref (q1), .null, .null, .null, .null, .null, .int 0])), (q1, .inl (cI, zI 480))] H := hP
  have hD : va_D A [(h0, .inr (5, [.ref (q1), .null, .null, .null, .null, .null, .int 0])), (q1, .inl (cI, zI 480))] := hD
  refine lv_aload_n hx hb d_R_init_13 rfl (lv_at hl 0 rfl) ?_
  refine lv_bipush (v := nI 22) hx hb d_R_init_14 (by decide) ?_
  refine z_newa (ty := .long) (N := 22) (a0 := zJ 22) hx hb (fun _ _ => rfl) rfl (ht _ kA_long) 1 rfl hK hP hD hS hA (zJ_cell _) (by decide) (by decide) (by decide) (by decide) d_R_init_16 (fun q2 H hP hD hS => ?_)
  have hP : va_P D zcl [(h0, .inr (5, [.ref (q1), .null, .null, .null, .null, .null, .int 0])), (q1, .inl (cI, zI 480)), (q2, .inl (cJ, zJ 22))] H := hP
  have hD : va_D A [(h0, .inr (5, [.ref (q1), .null, .null, .null, .null, .null, .int 0])), (q1, .inl (cI, zI 480)), (q2, .inl (cJ, zJ 22))] := hD
  refine va_putF (D := D) (ci := 5) (v := .ref (q2)) (ty := .array .long) (C := R_R) (T := F_R) (N := 7) hx hb ht ku_R t_R t_R_ok n_R hown hK hP hD hS 0 rfl rfl 1 (by decide) (ht _ kf_R_13) (fun _ h9 => h9) rfl hin rfl (by decide +kernel) rfl rfl (Nat.le_of_ble_eq_true rfl) d_R_init_18 (fun H locs hP hD hS => ?_)
  have hP : va_P D zcl [(h0, .inr (5, [.ref (q1), .ref (q2), .null, .null, .null, .null, .int 0])), (q1, .inl (cI, zI 480)), (q2, .inl (cJ, zJ 22))] H := hP
  have hD : va_D A [(h0, .inr (5, [.ref (q1), .ref (q2), .null, .null, .null, .null, .int 0])), (q1, .inl (cI, zI 480)), (q2, .inl (cJ, zJ 22))] := hD
  refine lv_aload_n hx hb d_R_init_21 rfl (lv_at hl 0 rfl) ?_
  refine lv_bipush (v := nI 22) hx hb d_R_init_22 (by decide) ?_
  refine z_newa (ty := .long) (N := 22) (a0 := zJ 22) hx hb (fun _ _ => rfl) rfl (ht _ kA_long) 1 rfl hK hP hD hS hA (zJ_cell _) (by decide) (by decide) (by decide) (by decide) d_R_init_24 (fun q3 H hP hD hS => ?_)
  have hP : va_P D zcl [(h0, .inr (5, [.ref (q1), .ref (q2), .null, .null, .null, .null, .int 0])), (q1, .inl (cI, zI 480)), (q2, .inl (cJ, zJ 22)), (q3, .inl (cJ, zJ 22))] H := hP
  have hD : va_D A [(h0, .inr (5, [.ref (q1), .ref (q2), .null, .null, .null, .null, .int 0])), (q1, .inl (cI, zI 480)), (q2, .inl (cJ, zJ 22)), (q3, .inl (cJ, zJ 22))] := hD
  refine va_putF (D := D) (ci := 5) (v := .ref (q3)) (ty := .array .long) (C := R_R) (T := F_R) (N := 7) hx hb ht ku_R t_R t_R_ok n_R hown hK hP hD hS 0 rfl rfl 2 (by decide) (ht _ kf_R_17) (fun _ h9 => h9) rfl hin rfl (by decide +kernel) rfl rfl (Nat.le_of_ble_eq_true rfl) d_R_init_26 (fun H locs hP hD hS => ?_)
  have hP : va_P D zcl [(h0, .inr (5, [.ref (q1), .ref (q2), .ref (q3), .null, .null, .null, .int 0])), (q1, .inl (cI, zI 480)), (q2, .inl (cJ, zJ 22)), (q3, .inl (cJ, zJ 22))] H := hP
  have hD : va_D A [(h0, .inr (5, [.ref (q1), .ref (q2), .ref (q3), .null, .null, .null, .int 0])), (q1, .inl (cI, zI 480)), (q2, .inl (cJ, zJ 22)), (q3, .inl (cJ, zJ 22))] := hD
  refine lv_aload_n hx hb d_R_init_29 rfl (lv_at hl 0 rfl) ?_
  refine lv_bipush (v := nI 20) hx hb d_R_init_30 (by decide) ?_
  refine z_newa (ty := .int) (N := 20) (a0 := zI 20) hx hb (fun _ _ => rfl) rfl (ht _ kA_int) 0 rfl hK hP hD hS hA (zI_cell _) (by decide) (by decide) (by decide) (by decide) d_R_init_32 (fun q4 H hP hD hS => ?_)
  have hP : va_P D zcl [(h0, .inr (5, [.ref (q1), .ref (q2), .ref (q3), .null, .null, .null, .int 0])), (q1, .inl (cI, zI 480)), (q2, .inl (cJ, zJ 22)), (q3, .inl (cJ, zJ 22)), (q4, .inl (cI, zI 20))] H := hP
  have hD : va_D A [(h0, .inr (5, [.ref (q1), .ref (q2), .ref (q3), .null, .null, .null, .int 0])), (q1, .inl (cI, zI 480)), (q2, .inl (cJ, zJ 22)), (q3, .inl (cJ, zJ 22)), (q4, .inl (cI, zI 20))] := hD
  refine va_putF (D := D) (ci := 5) (v := .ref (q4)) (ty := .array .int) (C := R_R) (T := F_R) (N := 7) hx hb ht ku_R t_R t_R_ok n_R hown hK hP hD hS 0 rfl rfl 3 (by decide) (ht _ kf_R_20) (fun _ h9 => h9) rfl hin rfl (by decide +kernel) rfl rfl (Nat.le_of_ble_eq_true rfl) d_R_init_34 (fun H locs hP hD hS => ?_)
  have hP : va_P D zcl [(h0, .inr (5, [.ref (q1), .ref (q2), .ref (q3), .ref (q4), .null, .null, .int 0])), (q1, .inl (cI, zI 480)), (q2, .inl (cJ, zJ 22)), (q3, .inl (cJ, zJ 22)), (q4, .inl (cI, zI 20))] H := hP
  have hD : va_D A [(h0, .inr (5, [.ref (q1), .ref (q2), .ref (q3), .ref (q4), .null, .null, .int 0])), (q1, .inl (cI, zI 480)), (q2, .inl (cJ, zJ 22)), (q3, .inl (cJ, zJ 22)), (q4, .inl (cI, zI 20))] := hD
  refine lv_aload_n hx hb d_R_init_37 rfl (lv_at hl 0 rfl) ?_
  refine lv_iconst (v := nI 4) hx hb d_R_init_38 (by decide) ?_
  refine z_newa (ty := .boolean) (N := 4) (a0 := zI 4) hx hb (fun _ _ => rfl) rfl (ht _ kA_boolean) 2 rfl hK hP hD hS hA (zZ_cell _) (by decide) (by decide) (by decide) (by decide) d_R_init_39 (fun q5 H hP hD hS => ?_)
  have hP : va_P D zcl [(h0, .inr (5, [.ref (q1), .ref (q2), .ref (q3), .ref (q4), .null, .null, .int 0])), (q1, .inl (cI, zI 480)), (q2, .inl (cJ, zJ 22)), (q3, .inl (cJ, zJ 22)), (q4, .inl (cI, zI 20)), (q5, .inl (cZ, zI 4))] H := hP
  have hD : va_D A [(h0, .inr (5, [.ref (q1), .ref (q2), .ref (q3), .ref (q4), .null, .null, .int 0])), (q1, .inl (cI, zI 480)), (q2, .inl (cJ, zJ 22)), (q3, .inl (cJ, zJ 22)), (q4, .inl (cI, zI 20)), (q5, .inl (cZ, zI 4))] := hD
  have hP : va_P D zcl [(h0, .inr (5, [.ref (q1), .ref (q2), .ref (q3), .ref (q4), .null, .null, .int 0])), (q1, .inl (cI, zI 480)), (q2, .inl (cJ, zJ 22)), (q3, .inl (cJ, zJ 22)), (q4, .inl (cI, zI 20)), (q5, .inl (cZ, 4, .inl (fun _ => nI 0)))] H := hP
  have hD : va_D A [(h0, .inr (5, [.ref (q1), .ref (q2), .ref (q3), .ref (q4), .null, .null, .int 0])), (q1, .inl (cI, zI 480)), (q2, .inl (cJ, zJ 22)), (q3, .inl (cJ, zJ 22)), (q4, .inl (cI, zI 20)), (q5, .inl (cZ, 4, .inl (fun _ => nI 0)))] := hD
  refine lv_dup hx hb d_R_init_41 rfl ?_
  refine lv_iconst (v := nI 0) hx hb d_R_init_42 (by decide) ?_
  refine lv_iconst (v := nI 1) hx hb d_R_init_43 (by decide) ?_
  refine va_zast hx hb hK hP hD hS 5 2 rfl rfl (vp_in_nI (show 0 < 4 by decide) (by decide)) d_R_init_44 (fun H locs hP hD hS => ?_)
  rw [nI_clamp (show 0 < 2 ^ 31 by decide), nar_z (by decide), show (fun _ : Nat => nI 0) = (fun k => nI ((fun _ => 0) k)) from rfl, up_nI] at hP hD
  have hP : va_P D zcl [(h0, .inr (5, [.ref (q1), .ref (q2), .ref (q3), .ref (q4), .null, .null, .int 0])), (q1, .inl (cI, zI 480)), (q2, .inl (cJ, zJ 22)), (q3, .inl (cJ, zJ 22)), (q4, .inl (cI, zI 20)), (q5, .inl (cZ, 4, .inl (fun k => nI (va_up (fun _ => 0) 0 1 k))))] H := hP
  have hD : va_D A [(h0, .inr (5, [.ref (q1), .ref (q2), .ref (q3), .ref (q4), .null, .null, .int 0])), (q1, .inl (cI, zI 480)), (q2, .inl (cJ, zJ 22)), (q3, .inl (cJ, zJ 22)), (q4, .inl (cI, zI 20)), (q5, .inl (cZ, 4, .inl (fun k => nI (va_up (fun _ => 0) 0 1 k))))] := hD
  refine lv_dup hx hb d_R_init_45 rfl ?_
  refine lv_iconst (v := nI 1) hx hb d_R_init_46 (by decide) ?_
  refine lv_iconst (v := nI 1) hx hb d_R_init_47 (by decide) ?_
  refine va_zast hx hb hK hP hD hS 5 2 rfl rfl (vp_in_nI (show 1 < 4 by decide) (by decide)) d_R_init_48 (fun H locs hP hD hS => ?_)
  rw [nI_clamp (show 1 < 2 ^ 31 by decide), nar_z (by decide), up_nI] at hP hD
  have hP : va_P D zcl [(h0, .inr (5, [.ref (q1), .ref (q2), .ref (q3), .ref (q4), .null, .null, .int 0])), (q1, .inl (cI, zI 480)), (q2, .inl (cJ, zJ 22)), (q3, .inl (cJ, zJ 22)), (q4, .inl (cI, zI 20)), (q5, .inl (cZ, 4, .inl (fun k => nI (va_up (va_up (fun _ => 0) 0 1) 1 1 k))))] H := hP
  have hD : va_D A [(h0, .inr (5, [.ref (q1), .ref (q2), .ref (q3), .ref (q4), .null, .null, .int 0])), (q1, .inl (cI, zI 480)), (q2, .inl (cJ, zJ 22)), (q3, .inl (cJ, zJ 22)), (q4, .inl (cI, zI 20)), (q5, .inl (cZ, 4, .inl (fun k => nI (va_up (va_up (fun _ => 0) 0 1) 1 1 k))))] := hD
  refine lv_dup hx hb d_R_init_49 rfl ?_
  refine lv_iconst (v := nI 2) hx hb d_R_init_50 (by decide) ?_
  refine lv_iconst (v := nI 1) hx hb d_R_init_51 (by decide) ?_
  refine va_zast hx hb hK hP hD hS 5 2 rfl rfl (vp_in_nI (show 2 < 4 by decide) (by decide)) d_R_init_52 (fun H locs hP hD hS => ?_)
  rw [nI_clamp (show 2 < 2 ^ 31 by decide), nar_z (by decide), up_nI] at hP hD
  have hP : va_P D zcl [(h0, .inr (5, [.ref (q1), .ref (q2), .ref (q3), .ref (q4), .null, .null, .int 0])), (q1, .inl (cI, zI 480)), (q2, .inl (cJ, zJ 22)), (q3, .inl (cJ, zJ 22)), (q4, .inl (cI, zI 20)), (q5, .inl (cZ, 4, .inl (fun k => nI (va_up (va_up (va_up (fun _ => 0) 0 1) 1 1) 2 1 k))))] H := hP
  have hD : va_D A [(h0, .inr (5, [.ref (q1), .ref (q2), .ref (q3), .ref (q4), .null, .null, .int 0])), (q1, .inl (cI, zI 480)), (q2, .inl (cJ, zJ 22)), (q3, .inl (cJ, zJ 22)), (q4, .inl (cI, zI 20)), (q5, .inl (cZ, 4, .inl (fun k => nI (va_up (va_up (va_up (fun _ => 0) 0 1) 1 1) 2 1 k))))] := hD
  refine lv_dup hx hb d_R_init_53 rfl ?_
  refine lv_iconst (v := nI 3) hx hb d_R_init_54 (by decide) ?_
  refine lv_iconst (v := nI 1) hx hb d_R_init_55 (by decide) ?_
  refine va_zast hx hb hK hP hD hS 5 2 rfl rfl (vp_in_nI (show 3 < 4 by decide) (by decide)) d_R_init_56 (fun H locs hP hD hS => ?_)
  rw [nI_clamp (show 3 < 2 ^ 31 by decide), nar_z (by decide), up_nI] at hP hD
  have hP : va_P D zcl [(h0, .inr (5, [.ref (q1), .ref (q2), .ref (q3), .ref (q4), .null, .null, .int 0])), (q1, .inl (cI, zI 480)), (q2, .inl (cJ, zJ 22)), (q3, .inl (cJ, zJ 22)), (q4, .inl (cI, zI 20)), (q5, .inl (cZ, 4, .inl (fun k => nI (va_up (va_up (va_up (va_up (fun _ => 0) 0 1) 1 1) 2 1) 3 1 k))))] H := hP
  have hD : va_D A [(h0, .inr (5, [.ref (q1), .ref (q2), .ref (q3), .ref (q4), .null, .null, .int 0])), (q1, .inl (cI, zI 480)), (q2, .inl (cJ, zJ 22)), (q3, .inl (cJ, zJ 22)), (q4, .inl (cI, zI 20)), (q5, .inl (cZ, 4, .inl (fun k => nI (va_up (va_up (va_up (va_up (fun _ => 0) 0 1) 1 1) 2 1) 3 1 k))))] := hD
  refine va_putF (D := D) (ci := 5) (v := .ref (q5)) (ty := .array .boolean) (C := R_R) (T := F_R) (N := 7) hx hb ht ku_R t_R t_R_ok n_R hown hK hP hD hS 0 rfl rfl 4 (by decide) (ht _ kf_R_23) (fun _ h9 => h9) rfl hin rfl (by decide +kernel) rfl rfl (Nat.le_of_ble_eq_true rfl) d_R_init_57 (fun H locs hP hD hS => ?_)
  have hP : va_P D zcl [(h0, .inr (5, [.ref (q1), .ref (q2), .ref (q3), .ref (q4), .ref (q5), .null, .int 0])), (q1, .inl (cI, zI 480)), (q2, .inl (cJ, zJ 22)), (q3, .inl (cJ, zJ 22)), (q4, .inl (cI, zI 20)), (q5, .inl (cZ, 4, .inl (fun k => nI (va_up (va_up (va_up (va_up (fun _ => 0) 0 1) 1 1) 2 1) 3 1 k))))] H := hP
  have hD : va_D A [(h0, .inr (5, [.ref (q1), .ref (q2), .ref (q3), .ref (q4), .ref (q5), .null, .int 0])), (q1, .inl (cI, zI 480)), (q2, .inl (cJ, zJ 22)), (q3, .inl (cJ, zJ 22)), (q4, .inl (cI, zI 20)), (q5, .inl (cZ, 4, .inl (fun k => nI (va_up (va_up (va_up (va_up (fun _ => 0) 0 1) 1 1) 2 1) 3 1 k))))] := hD
  refine lv_aload_n hx hb d_R_init_60 rfl (lv_at hl 0 rfl) ?_
  refine lv_bipush (v := nI 100) hx hb d_R_init_61 (by decide) ?_
  refine z_newa (ty := .int) (N := 100) (a0 := zI 100) hx hb (fun _ _ => rfl) rfl (ht _ kA_int) 0 rfl hK hP hD hS hA (zI_cell _) (by decide) (by decide) (by decide) (by decide) d_R_init_63 (fun q6 H hP hD hS => ?_)
  have hP : va_P D zcl [(h0, .inr (5, [.ref (q1), .ref (q2), .ref (q3), .ref (q4), .ref (q5), .null, .int 0])), (q1, .inl (cI, zI 480)), (q2, .inl (cJ, zJ 22)), (q3, .inl (cJ, zJ 22)), (q4, .inl (cI, zI 20)), (q5, .inl (cZ, 4, .inl (fun k => nI (va_up (va_up (va_up (va_up (fun _ => 0) 0 1) 1 1) 2 1) 3 1 k)))), (q6, .inl (cI, zI 100))] H := hP
  have hD : va_D A [(h0, .inr (5, [.ref (q1), .ref (q2), .ref (q3), .ref (q4), .ref (q5), .null, .int 0])), (q1, .inl (cI, zI 480)), (q2, .inl (cJ, zJ 22)), (q3, .inl (cJ, zJ 22)), (q4, .inl (cI, zI 20)), (q5, .inl (cZ, 4, .inl (fun k => nI (va_up (va_up (va_up (va_up (fun _ => 0) 0 1) 1 1) 2 1) 3 1 k)))), (q6, .inl (cI, zI 100))] := hD
  refine va_putF (D := D) (ci := 5) (v := .ref (q6)) (ty := .array .int) (C := R_R) (T := F_R) (N := 7) hx hb ht ku_R t_R t_R_ok n_R hown hK hP hD hS 0 rfl rfl 5 (by decide) (ht _ kf_R_27) (fun _ h9 => h9) rfl hin rfl (by decide +kernel) rfl rfl (Nat.le_of_ble_eq_true rfl) d_R_init_65 (fun H locs hP hD hS => ?_)
  have hP : va_P D zcl [(h0, .inr (5, [.ref (q1), .ref (q2), .ref (q3), .ref (q4), .ref (q5), .ref (q6), .int 0])), (q1, .inl (cI, zI 480)), (q2, .inl (cJ, zJ 22)), (q3, .inl (cJ, zJ 22)), (q4, .inl (cI, zI 20)), (q5, .inl (cZ, 4, .inl (fun k => nI (va_up (va_up (va_up (va_up (fun _ => 0) 0 1) 1 1) 2 1) 3 1 k)))), (q6, .inl (cI, zI 100))] H := hP
  have hD : va_D A [(h0, .inr (5, [.ref (q1), .ref (q2), .ref (q3), .ref (q4), .ref (q5), .ref (q6), .int 0])), (q1, .inl (cI, zI 480)), (q2, .inl (cJ, zJ 22)), (q3, .inl (cJ, zJ 22)), (q4, .inl (cI, zI 20)), (q5, .inl (cZ, 4, .inl (fun k => nI (va_up (va_up (va_up (va_up (fun _ => 0) 0 1) 1 1) 2 1) 3 1 k)))), (q6, .inl (cI, zI 100))] := hD
  obtain ⟨aF, haF⟩ : ∃ aF : Nat → Nat, aF 0 = h0 ∧ aF 1 = q1 ∧ aF 2 = q2 ∧ aF 3 = q3 ∧ aF 4 = q4 ∧ aF 5 = q5 ∧ aF 6 = q6 := ⟨fun j => [h0, q1, q2, q3, q4, q5, q6].getD j 0, rfl, rfl, rfl, rfl, rfl, rfl, rfl⟩
  obtain ⟨e0, e1, e2, e3, e4, e5, e6⟩ := haF
  rw [← e0, ← e1, ← e2, ← e3, ← e4, ← e5, ← e6, zI480] at hP hD
  obtain ⟨G, hGe⟩ : ∃ G : rG, G = (D, A, aF, cI, cJ, cZ) := ⟨_, rfl⟩
  have hw : xH (rho 0) G rσ0 s H locs := by
    subst hGe
    have er : (fun k => nI (rho 0 k)) = fun _ => nI 0 := funext fun k => by unfold rho; rw [if_neg (by omega)]
    refine ⟨?_, hK, ?_, hS, trivial⟩
    · unfold xWs; rw [er]; exact hP.sub [0, 1, 2, 3, 4, 5, 6] rfl
    · unfold xWs; rw [er]; exact hD.sub [0, 1, 2, 3, 4, 5, 6] (by decide) rfl
  have k0 : rA G 0 = h0 := by subst hGe; exact e0
  have hl2 := hl
  rw [← k0] at hl2
  clear hP hD
  have hl : lv_has ls 5 [(0, .ref (rA G 0))] := hl2
  clear hl2
  have hv0 : ∀ i, (fun _ : Nat => 0) i < b26 ^ 10 := fun _ => (show 0 < b26 ^ 10 by decide)
  have hw : xH (rho 0) G (rsV rσ0 (fun _ => 0)) s H locs := hw
  refine lv_aload_n hx hb d_R_init_68 rfl (lv_at hl 0 rfl) ?_
  refine lv_bipush (v := nI 8) hx hb d_R_init_69 (by decide) ?_
  refine lv_ldc2 hx hb hown (ht _ kl_R_30) d_R_init_71 ?_
  refine tp_l (y := lN (18446744073709551615)) (by decide) ?_
  refine lv_ldc2 hx hb hown (ht _ kl_R_30) d_R_init_74 ?_
  refine tp_l (y := lN (18446744073709551615)) (by decide) ?_
  refine lv_ldc2 hx hb hown (ht _ kl_R_30) d_R_init_77 ?_
  refine tp_l (y := lN (18446744073709551615)) (by decide) ?_
  refine lv_ldc2 hx hb hown (ht _ kl_R_32) d_R_init_80 ?_
  refine tp_l (y := lN (18446744069414583343)) (by decide) ?_
  refine x_callv (np := 5) (As := [.int (nI (8)), .long (lN (18446744073709551615)), .long (lN (18446744073709551615)), .long (lN (18446744073709551615)), .long (lN (18446744069414583343))]) (rest := []) ⟨hx, hb, hml, hown, ht⟩ hw (x_R_write l (rho 0) G (rsV rσ0 (fun _ => 0)) hv0 (r := 8) (a := 18446744073709551615) (b := 18446744073709551615) (c := 18446744073709551615) (d := 18446744069414583343) (by decide) (by decide) (by decide) (by decide) (by decide)) ⟨km_R_34, kv_R_write, kx_R_write, kc_R_write⟩ (by decide +kernel) ⟨by decide, by decide⟩ rfl rfl rfl hl.1 rfl (Nat.le_of_ble_eq_true rfl) d_R_init_83 ⟨by decide, by decide⟩ (fun u H locs hp hw => ?_)
  rw [show W4 18446744073709551615 18446744073709551615 18446744073709551615 18446744069414583343 = ec_P by decide +kernel] at hp
  have hw : xH (rho 0) G (rsV rσ0 (va_up (fun _ => 0) 8 ec_P)) s H locs := by rw [hp] at hw; exact hw
  clear hp
  have hv8 := rV_lt (fun _ => 0) hv0 (r := 8) (x := ec_P) (by decide +kernel)
  refine lv_aload_n hx hb d_R_init_86 rfl (lv_at hl 0 rfl) ?_
  refine lv_bipush (v := nI 9) hx hb d_R_init_87 (by decide) ?_
  refine lv_ldc2 hx hb hown (ht _ kl_R_30) d_R_init_89 ?_
  refine tp_l (y := lN (18446744073709551615)) (by decide) ?_
  refine lv_ldc2 hx hb hown (ht _ kl_R_38) d_R_init_92 ?_
  refine tp_l (y := lN (18446744073709551614)) (by decide) ?_
  refine lv_ldc2 hx hb hown (ht _ kl_R_40) d_R_init_95 ?_
  refine tp_l (y := lN (13451932020343611451)) (by decide) ?_
  refine lv_ldc2 hx hb hown (ht _ kl_R_42) d_R_init_98 ?_
  refine tp_l (y := lN (13822214165235122497)) (by decide) ?_
  refine x_callv (np := 5) (As := [.int (nI (9)), .long (lN (18446744073709551615)), .long (lN (18446744073709551614)), .long (lN (13451932020343611451)), .long (lN (13822214165235122497))]) (rest := []) ⟨hx, hb, hml, hown, ht⟩ hw (x_R_write l (rho 0) G (rsV rσ0 (va_up (fun _ => 0) 8 ec_P)) hv8 (r := 9) (a := 18446744073709551615) (b := 18446744073709551614) (c := 13451932020343611451) (d := 13822214165235122497) (by decide) (by decide) (by decide) (by decide) (by decide)) ⟨km_R_34, kv_R_write, kx_R_write, kc_R_write⟩ (by decide +kernel) ⟨by decide, by decide⟩ rfl rfl rfl hl.1 rfl (Nat.le_of_ble_eq_true rfl) d_R_init_101 ⟨by decide, by decide⟩ (fun u H locs hp hw => ?_)
  rw [show W4 18446744073709551615 18446744073709551614 13451932020343611451 13822214165235122497 = ec_N by decide +kernel] at hp
  have hw : xH (rho 0) G (rsV rσ0 (va_up (va_up (fun _ => 0) 8 ec_P) 9 ec_N)) s H locs := by rw [hp] at hw; exact hw
  clear hp
  have hv9 := rV_lt (va_up (fun _ => 0) 8 ec_P) hv8 (r := 9) (x := ec_N) (by decide +kernel)
  refine lv_aload_n hx hb d_R_init_104 rfl (lv_at hl 0 rfl) ?_
  refine lv_bipush (v := nI 18) hx hb d_R_init_105 (by decide) ?_
  refine lv_ldc2 hx hb hown (ht _ kl_R_44) d_R_init_107 ?_
  refine tp_l (y := lN (8772561819708210092)) (by decide) ?_
  refine lv_ldc2 hx hb hown (ht _ kl_R_46) d_R_init_110 ?_
  refine tp_l (y := lN (6170039885052185351)) (by decide) ?_
  refine lv_ldc2 hx hb hown (ht _ kl_R_48) d_R_init_113 ?_
  refine tp_l (y := lN (188021827762530521)) (by decide) ?_
  refine lv_ldc2 hx hb hown (ht _ kl_R_50) d_R_init_116 ?_
  refine tp_l (y := lN (6481385041966929816)) (by decide) ?_
  refine x_callv (np := 5) (As := [.int (nI (18)), .long (lN (8772561819708210092)), .long (lN (6170039885052185351)), .long (lN (188021827762530521)), .long (lN (6481385041966929816))]) (rest := []) ⟨hx, hb, hml, hown, ht⟩ hw (x_R_write l (rho 0) G (rsV rσ0 (va_up (va_up (fun _ => 0) 8 ec_P) 9 ec_N)) hv9 (r := 18) (a := 8772561819708210092) (b := 6170039885052185351) (c := 188021827762530521) (d := 6481385041966929816) (by decide) (by decide) (by decide) (by decide) (by decide)) ⟨km_R_34, kv_R_write, kx_R_write, kc_R_write⟩ (by decide +kernel) ⟨by decide, by decide⟩ rfl rfl rfl hl.1 rfl (Nat.le_of_ble_eq_true rfl) d_R_init_119 ⟨by decide, by decide⟩ (fun u H locs hp hw => ?_)
  rw [show W4 8772561819708210092 6170039885052185351 188021827762530521 6481385041966929816 = bX by decide +kernel] at hp
  have hw : xH (rho 0) G (rsV rσ0 (va_up (va_up (va_up (fun _ => 0) 8 ec_P) 9 ec_N) 18 bX)) s H locs := by rw [hp] at hw; exact hw
  clear hp
  have hv18 := rV_lt (va_up (va_up (fun _ => 0) 8 ec_P) 9 ec_N) hv9 (r := 18) (x := bX) (by decide +kernel)
  refine lv_aload_n hx hb d_R_init_122 rfl (lv_at hl 0 rfl) ?_
  refine lv_bipush (v := nI 19) hx hb d_R_init_123 (by decide) ?_
  refine lv_ldc2 hx hb hown (ht _ kl_R_52) d_R_init_125 ?_
  refine tp_l (y := lN (5204712524664259685)) (by decide) ?_
  refine lv_ldc2 hx hb hown (ht _ kl_R_54) d_R_init_128 ?_
  refine tp_l (y := lN (6747795201694173352)) (by decide) ?_
  refine lv_ldc2 hx hb hown (ht _ kl_R_56) d_R_init_131 ?_
  refine tp_l (y := lN (18237243440184513561)) (by decide) ?_
  refine lv_ldc2 hx hb hown (ht _ kl_R_58) d_R_init_134 ?_
  refine tp_l (y := lN (11261198710074299576)) (by decide) ?_
  refine x_callv (np := 5) (As := [.int (nI (19)), .long (lN (5204712524664259685)), .long (lN (6747795201694173352)), .long (lN (18237243440184513561)), .long (lN (11261198710074299576))]) (rest := []) ⟨hx, hb, hml, hown, ht⟩ hw (x_R_write l (rho 0) G (rsV rσ0 (va_up (va_up (va_up (fun _ => 0) 8 ec_P) 9 ec_N) 18 bX)) hv18 (r := 19) (a := 5204712524664259685) (b := 6747795201694173352) (c := 18237243440184513561) (d := 11261198710074299576) (by decide) (by decide) (by decide) (by decide) (by decide)) ⟨km_R_34, kv_R_write, kx_R_write, kc_R_write⟩ (by decide +kernel) ⟨by decide, by decide⟩ rfl rfl rfl hl.1 rfl (Nat.le_of_ble_eq_true rfl) d_R_init_137 ⟨by decide, by decide⟩ (fun u H locs hp hw => ?_)
  rw [show W4 5204712524664259685 6747795201694173352 18237243440184513561 11261198710074299576 = bY by decide +kernel] at hp
  have hw : xH (rho 0) G (rsV rσ0 (va_up (va_up (va_up (va_up (fun _ => 0) 8 ec_P) 9 ec_N) 18 bX) 19 bY)) s H locs := by rw [hp] at hw; exact hw
  clear hp
  have hv19 := rV_lt (va_up (va_up (va_up (fun _ => 0) 8 ec_P) 9 ec_N) 18 bX) hv18 (r := 19) (x := bY) (by decide +kernel)
  refine lv_aload_n hx hb d_R_init_140 rfl (lv_at hl 0 rfl) ?_
  refine x_get hx hb ht hown hw 0 (by decide) (ht _ kf_R_7) rfl d_R_init_141 (fun _ h9 => h9) ?_
  refine lv_sipush (v := nI 200) hx hb d_R_init_144 (by decide) ?_
  refine lv_iconst (v := nI 1) hx hb d_R_init_147 (by decide) ?_
  refine x_ist (r := 20) (k := 0) (x := 1) hx hb hw (by decide) (by decide) (by decide) d_R_init_148 (fun H locs hw => ?_)
  have hw : xH (rho 0) G (rsV rσ0 (va_up (va_up (va_up (va_up (va_up (fun _ => 0) 8 ec_P) 9 ec_N) 18 bX) 19 bY) 20 1)) s H locs := by
    have e9 : ds b26 (rV (rsV rσ0 (va_up (va_up (va_up (va_up (fun _ => 0) 8 ec_P) 9 ec_N) 18 bX) 19 bY)) 20) 0 1 = 1 := by
      rw [show rV (rsV rσ0 (va_up (va_up (va_up (va_up (fun _ => 0) 8 ec_P) 9 ec_N) 18 bX) 19 bY)) 20 = 0 from rfl]; decide
    rw [e9] at hw; exact hw
  refine lv_aload_n hx hb d_R_init_149 rfl (lv_at hl 0 rfl) ?_
  refine x_get hx hb ht hown hw 0 (by decide) (ht _ kf_R_7) rfl d_R_init_150 (fun _ h9 => h9) ?_
  refine lv_sipush (v := nI 210) hx hb d_R_init_153 (by decide) ?_
  refine lv_bipush (v := nI 7) hx hb d_R_init_156 (by decide) ?_
  refine x_ist (r := 21) (k := 0) (x := 7) hx hb hw (by decide) (by decide) (by decide) d_R_init_158 (fun H locs hw => ?_)
  have hw : xH (rho 0) G (rsV rσ0 (va_up (va_up (va_up (va_up (va_up (va_up (fun _ => 0) 8 ec_P) 9 ec_N) 18 bX) 19 bY) 20 1) 21 7)) s H locs := by
    have e9 : ds b26 (rV (rsV rσ0 (va_up (va_up (va_up (va_up (va_up (fun _ => 0) 8 ec_P) 9 ec_N) 18 bX) 19 bY) 20 1)) 21) 0 7 = 7 := by
      rw [show rV (rsV rσ0 (va_up (va_up (va_up (va_up (va_up (fun _ => 0) 8 ec_P) 9 ec_N) 18 bX) 19 bY) 20 1)) 21 = 0 from rfl]; decide
    rw [e9] at hw; exact hw
  have hw : xH (rho (10 * 0)) G rσ1 s H locs := hw
  refine lv_iconst (v := nI 0) hx hb d_R_init_159 (by decide) ?_
  refine lv_istore_n (lv' := [(1, .int (nI (0))), (0, .ref (rA G 0))]) hx hb d_R_init_160 rfl hl (by decide) rfl (fun ls hl => ?_)
  have v89 : ∀ m, m < 2 → rV rσ1 (8 + m) = rMod m := by
    intro m hm
    rcases (show m = 0 ∨ m = 1 by omega) with rfl | rfl <;> rfl
  have outer : ∀ (n mm : Nat), mm + n = 2 → ∀ (H : Heap) (locs : List Loc) (ls : Array Slot), xH (rho (10 * mm)) G rσ1 s H locs → lv_has ls 5 [(0, .ref (rA G 0)), (1, .int (nI (mm)))] → W p l e (headSpec (zW y_R_init b_R_init 5 none) ({ frames := 2, cells := 6, slots := 648, locals := 60 })).room s m ([.ref h0] : List Value).toArray below meth c H locs (0 + 1 + 1 + 1 + 1 + 1 + 1) (0 + 480 + 22 + 22 + 20 + 4 + 100) (MQ below (va_Qv (fun G : rG => G.1 = D ∧ rA G 0 = h0 ∧ rAA G = rE (rA G) ∧ ∀ q, rAA G q → A q) (fun G t => rC G rσ1 t) A) ([.ref h0] : List Value).toArray s 6 648 A) (F0 m 161 ls []) := by
    intro n
    induction n with
    | zero =>
      intro mm hm H locs ls hw hl
      have hm : mm = 2 := by omega
      subst hm
      refine lv_iload_n hx hb d_R_init_161 rfl (lv_at hl 1 rfl) ?_
      refine lv_iconst (v := nI 2) hx hb d_R_init_162 (by decide) ?_
      refine n_ge (tgt := 239) hx hb d_R_init_163 (by decide) (by decide) (by decide) (fun _ => ?_) (fun h => absurd h (by decide))
      have hw : rH G rσ1 s H locs := by
        have e9 : rho (10 * 2) = rRest := rho20
        rw [e9] at hw; exact hw
      have hEA : ∀ q, rE aF q → A q := by
        rintro q ⟨j, hj, rfl⟩
        subst hGe
        rcases (show j = 0 ∨ j = 1 ∨ j = 2 ∨ j = 3 ∨ j = 4 ∨ j = 5 ∨ j = 6 by omega) with rfl | rfl | rfl | rfl | rfl | rfl | rfl
        · exact hw.2.2.1.2 0 _ rfl
        · exact hw.2.2.1.2 1 _ rfl
        · exact hw.2.2.1.2 2 _ rfl
        · exact hw.2.2.1.2 3 _ rfl
        · exact hw.2.2.1.2 4 _ rfl
        · exact hw.2.2.1.2 5 _ rfl
        · exact hw.2.2.1.2 6 _ rfl
      subst hGe
      have hfree : ∀ q ∈ locs, A q.base := hw.2.2.2.1.2.2
      refine W.widen (k := 6) (n := 648) (by decide) (by decide) ?_
      refine W.vret hx hb hr (fun t ht9 hW => ?_) hfree d_R_init_239 hlocks
      have hc := hw.at (rZ _) t ht9 hW
      refine ⟨⟨(D, rE aF, aF, cI, cJ, cZ), rfl, ⟨rfl, k0, rfl, hEA⟩, hc.1, hc.2.1, ⟨hc.2.2.1.1, fun k q hk => ?_⟩, va_S.rf, trivial⟩, hw.2.2.2.1.F ht9⟩
      exact rWs_addr (D, A, aF, cI, cJ, cZ) rσ1 hk
    | succ n ih =>
      intro mm hm H locs ls hw hl
      have hm2 : mm < 2 := by omega
      refine lv_iload_n hx hb d_R_init_161 rfl (lv_at hl 1 rfl) ?_
      refine lv_iconst (v := nI 2) hx hb d_R_init_162 (by decide) ?_
      refine n_ge (tgt := 239) hx hb d_R_init_163 (by decide) (by omega) (by decide) (fun h => absurd h (by omega)) (fun _ => ?_)
      refine lv_iconst (v := nI 0) hx hb d_R_init_166 (by decide) ?_
      refine lv_istore_n (lv' := [(2, .int (nI (0))), (0, .ref (rA G 0)), (1, .int (nI (mm)))]) hx hb d_R_init_167 rfl hl (by decide) rfl (fun ls hl => ?_)
      refine lv_iconst (v := nI 0) hx hb d_R_init_168 (by decide) ?_
      refine lv_istore_n (lv' := [(3, .int (nI (0))), (2, .int (nI (0))), (0, .ref (rA G 0)), (1, .int (nI (mm)))]) hx hb d_R_init_169 rfl hl (by decide) rfl (fun ls hl => ?_)
      have inner : ∀ (d k : Nat), k + d = 10 → ∀ (H : Heap) (locs : List Loc) (ls : Array Slot), xH (rho (10 * mm + k)) G rσ1 s H locs → lv_has ls 5 [(0, .ref (rA G 0)), (1, .int (nI (mm))), (2, .int (rcr k)), (3, .int (nI (k)))] → W p l e (headSpec (zW y_R_init b_R_init 5 none) ({ frames := 2, cells := 6, slots := 648, locals := 60 })).room s m ([.ref h0] : List Value).toArray below meth c H locs (0 + 1 + 1 + 1 + 1 + 1 + 1) (0 + 480 + 22 + 22 + 20 + 4 + 100) (MQ below (va_Qv (fun G : rG => G.1 = D ∧ rA G 0 = h0 ∧ rAA G = rE (rA G) ∧ ∀ q, rAA G q → A q) (fun G t => rC G rσ1 t) A) ([.ref h0] : List Value).toArray s 6 648 A) (F0 m 170 ls []) := by
        intro d
        induction d with
        | zero =>
          intro k hk H locs ls hw hl
          have hk : k = 10 := by omega
          subst hk
          refine lv_iload_n hx hb d_R_init_170 rfl (lv_at hl 3 rfl) ?_
          refine lv_bipush (v := nI 10) hx hb d_R_init_171 (by decide) ?_
          refine n_ge (tgt := 233) hx hb d_R_init_173 (by decide) (by decide) (by decide) (fun _ => ?_) (fun h => absurd h (by decide))
          refine lv_iinc (v := nI (mm + 1)) (lv' := [(1, .int (nI (mm + 1))), (0, .ref (rA G 0)), (2, .int (rcr 10)), (3, .int (nI (10)))]) hx hb d_R_init_233 hl (k := 1) rfl (nI_add mm 1) (by decide) rfl (fun ls hl => ?_)
          refine lv_goto (tgt := 161) hx hb d_R_init_236 (by decide) ?_
          rw [show 10 * mm + 10 = 10 * (mm + 1) by omega] at hw
          exact ih (mm + 1) (by omega) H locs ls hw (lv_sub hl [1, 0] rfl)
        | succ d ih2 =>
          intro k hk H locs ls hw hl
          have hk2 : k < 10 := by omega
          refine lv_iload_n hx hb d_R_init_170 rfl (lv_at hl 3 rfl) ?_
          refine lv_bipush (v := nI 10) hx hb d_R_init_171 (by decide) ?_
          refine n_ge (tgt := 233) hx hb d_R_init_173 (by decide) (by omega) (by decide) (fun h => absurd h (by omega)) (fun _ => ?_)
          obtain ⟨st1, st2⟩ := rest_step ⟨mm, hm2⟩ ⟨k, hk2⟩
          dsimp only at st1 st2
          refine lv_iload_n hx hb d_R_init_176 rfl (lv_at hl 2 rfl) ?_
          refine lv_aload_n hx hb d_R_init_177 rfl (lv_at hl 0 rfl) ?_
          refine x_get hx hb ht hown hw 0 (by decide) (ht _ kf_R_7) rfl d_R_init_178 (fun _ h9 => h9) ?_
          refine lv_bipush (v := nI 10) hx hb d_R_init_181 (by decide) ?_
          refine lv_bipush (v := nI 8) hx hb d_R_init_183 (by decide) ?_
          refine lv_iload_n hx hb d_R_init_185 rfl (lv_at hl 1 rfl) ?_
          refine lv_iadd hx hb d_R_init_186 ?_
          refine tp_i (y := nI (8 + mm)) (nI_add _ _) ?_
          refine lv_imul hx hb d_R_init_187 ?_
          refine tp_i (y := nI (10 * (8 + mm))) (pk_mul _ _) ?_
          refine lv_iload_n hx hb d_R_init_188 rfl (lv_at hl 3 rfl) ?_
          refine lv_iadd hx hb d_R_init_189 ?_
          refine tp_i (y := nI ((10 * (8 + mm)) + k)) (nI_add _ _) ?_
          refine x_ild' hx hb hw (show 8 + mm < 48 by omega) hk2 d_R_init_190 ?_
          refine tp_i (y := nI (dg b26 (rMod mm) k)) (by rw [v89 mm hm2]) ?_
          refine lv_isub hx hb d_R_init_191 ?_
          obtain ⟨sv, hsv⟩ : ∃ sv : Int32, sv = rcr k - nI (dg b26 (rMod mm) k) := ⟨_, rfl⟩
          rw [← hsv] at st1 st2
          refine tp_i (y := (sv)) (hsv.symm) ?_
          refine lv_istore (lv' := [(4, .int (sv)), (0, .ref (rA G 0)), (1, .int (nI (mm))), (2, .int (rcr k)), (3, .int (nI (k)))]) hx hb d_R_init_192 hl (by decide) rfl (fun ls hl => ?_)
          refine lv_aload_n hx hb d_R_init_194 rfl (lv_at hl 1 rfl) ?_
          refine x_get hx hb ht hown hw 3 (by decide) (ht _ kf_R_20) rfl d_R_init_195 (fun _ h9 => h9) ?_
          refine lv_bipush (v := nI 10) hx hb d_R_init_198 (by decide) ?_
          refine lv_iload_n hx hb d_R_init_200 rfl (lv_at hl 2 rfl) ?_
          refine lv_imul hx hb d_R_init_201 ?_
          refine tp_i (y := nI (10 * mm)) (pk_mul _ _) ?_
          refine lv_iload_n hx hb d_R_init_202 rfl (lv_at hl 4 rfl) ?_
          refine lv_iadd hx hb d_R_init_203 ?_
          refine tp_i (y := nI ((10 * mm) + k)) (nI_add _ _) ?_
          refine lv_iload hx hb d_R_init_204 (lv_at hl 0 rfl) ?_
          refine lv_iload_n hx hb d_R_init_206 rfl (lv_at hl 4 rfl) ?_
          refine lv_bipush (v := nI 9) hx hb d_R_init_207 (by decide) ?_
          have fin : ∀ (mk : Int32), sv &&& mk = nI (rRest (10 * mm + k)) → W p l e (headSpec (zW y_R_init b_R_init 5 none) ({ frames := 2, cells := 6, slots := 648, locals := 60 })).room s m ([.ref h0] : List Value).toArray below meth c H locs (0 + 1 + 1 + 1 + 1 + 1 + 1) (0 + 480 + 22 + 22 + 20 + 4 + 100) (MQ below (va_Qv (fun G : rG => G.1 = D ∧ rA G 0 = h0 ∧ rAA G = rE (rA G) ∧ ∀ q, rAA G q → A q) (fun G t => rC G rσ1 t) A) ([.ref h0] : List Value).toArray s 6 648 A) (F0 m 219 ls [.int mk, .int (sv), .int (nI ((10 * mm) + k)), .ref (rA G 4)]) := by
            intro mk hmk
            refine lv_iand hx hb d_R_init_219 ?_
            refine tp_i (y := nI (rRest (10 * mm + k))) (hmk) ?_
            refine x_rst (n := 10 * mm + k) hx hb hw (by omega) d_R_init_220 (fun H locs hw => ?_)
            rw [rho_up] at hw
            refine lv_iload hx hb d_R_init_221 (lv_at hl 0 rfl) ?_
            refine lv_bipush (v := nI 26) hx hb d_R_init_223 (by decide) ?_
            refine lv_ishr hx hb d_R_init_225 ?_
            refine tp_i (y := (rcr (k + 1))) (st2) ?_
            refine lv_istore_n (lv' := [(2, .int (rcr (k + 1))), (4, .int (sv)), (0, .ref (rA G 0)), (1, .int (nI (mm))), (3, .int (nI (k)))]) hx hb d_R_init_226 rfl hl (by decide) rfl (fun ls hl => ?_)
            refine lv_iinc (v := nI (k + 1)) (lv' := [(3, .int (nI (k + 1))), (2, .int (rcr (k + 1))), (4, .int (sv)), (0, .ref (rA G 0)), (1, .int (nI (mm)))]) hx hb d_R_init_227 hl (k := 4) rfl (nI_add k 1) (by decide) rfl (fun ls hl => ?_)
            refine lv_goto (tgt := 170) hx hb d_R_init_230 (by decide) ?_
            exact ih2 (k + 1) (by omega) H locs ls hw (lv_sub hl [3, 4, 1, 0] rfl)
          refine n_ge (tgt := 217) hx hb d_R_init_209 (by decide) (by omega) (by decide) (fun c9 => ?_) (fun c9 => ?_)
          · refine lv_ldc hx hb hown (ht _ kl_R_61) d_R_init_217 ?_
            exact fin _ (by rw [if_neg (by omega)] at st1; exact st1)
          · refine lv_ldc hx hb hown (ht _ kl_R_60) d_R_init_212 ?_
            refine lv_goto (tgt := 219) hx hb d_R_init_214 (by decide) ?_
            exact fin _ (by rw [if_pos (by omega)] at st1; exact st1)
      exact inner 10 0 (by decide) _ _ ls hw (lv_sub hl [2, 3, 1, 0] rfl)
  exact outer 2 0 (by decide) _ _ ls hw (lv_sub hl [1, 0] rfl)
