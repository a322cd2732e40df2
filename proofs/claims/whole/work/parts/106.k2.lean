/-! the small constructors -/
set_option maxHeartbeats 4000000 in
set_option maxRecDepth 100000 in
theorem c_P_init (l : Launch) (D : va_G) (cJ : ClassId) (h0 : Nat) (sz : Nat) : Met l y_P_init (zW y_P_init b_P_init 1 none) ({ frames := 1, cells := 2, slots := 16, locals := 12 }) (va_Pc [.ref (h0)] (fun U => U.heap.size = sz ∧ va_P D zcl [(h0, .inr (3, [.int 0, .null, .null]))] U.heap ∧ va_K D zcl [(cJ, .long)] U ∧ va_D (fun _ => True) [(h0, .inr (3, [.int 0, .null, .null]))])) (va_Qv (fun _ : Nat × Nat => True) (fun u t => va_P D zcl [(h0, .inr (3, [.int (nI 1), .ref u.1, .ref u.2])), (u.1, .inl (cJ, zJ 8)), (u.2, .inl (cJ, zJ 8))] t.heap ∧ va_D (va_A [(h0, .inr (3, [.int 0, .null, .null]))] sz) [(h0, .inr (3, [.int (nI 1), .ref u.1, .ref u.2])), (u.1, .inl (cJ, zJ 8)), (u.2, .inl (cJ, zJ 8))]) (va_A [(h0, .inr (3, [.int 0, .null, .null]))] sz)) 2 16 (va_A [(h0, .inr (3, [.int 0, .null, .null]))] sz) := by
  refine Met.ofW (cc := b_P_init) (maxL := 1) (ret := none) (by decide) rfl ?_
  intro p e s m args below meth c s₁ B hml hv
  obtain ⟨rfl, hsz, hP, hK, hD0⟩ := hv
  have hx := B.exec
  have hb := B.bytes
  have hr := B.returns
  have hts := atoms_spec (ws := zW y_P_init b_P_init 1 none) B.pre
  have ht : ∀ w ∈ zT, w.before ([.ref (h0)] : List Value).toArray s = true := fun w h => hts w (List.mem_cons_of_mem _ h)
  have hown : s.vm.findClass R_P = some m.cls := findClass_of_methodNamed B.named
  have hlocks := B.notSynchronized
  have hin : meth.name = "<init>" := (name_of_methodNamed B.named B.method).1
  subst hsz
  have hD := hD0.self (sz := s.heap.size)
  generalize hAe : va_A [(h0, .inr (3, [.int 0, .null, .null]))] s.heap.size = A at hD ⊢
  have hA : ∀ q : Nat, s.heap.size ≤ q → A q := fun q h => by rw [← hAe]; exact Or.inr h
  have hS : va_S A s.heap s.heap [] := va_S.rf
  have hl := lv_entry ([.ref (h0)]) (n := 1) (Nat.le_of_ble_eq_true rfl)
  rw [lg_entry_eq]
  generalize (lg_sl ([.ref (h0)]) ++ List.replicate (1 - (lg_sl ([.ref (h0)])).length) Slot.unset).toArray = ls at hl ⊢
  have hl : lv_has ls 1 [(0, .ref (h0))] := hl
  refine lv_aload_n hx hb d_P_init_0 rfl (lv_at hl 0 rfl) ?_
  refine W.objInit hx hb hown (ht _ km_P_3) (ht _ kv_O_init) (ht _ kc_O_init) rfl (by rw [hml]; exact hl.1) rfl d_P_init_1 (Nat.le_of_ble_eq_true rfl) (Nat.le_of_ble_eq_true rfl) ?_
  refine W.eq (g2 := F0 m 4 ls []) rfl ?_
  refine lv_aload_n hx hb d_P_init_4 rfl (lv_at hl 0 rfl) ?_
  refine lv_iconst (v := nI 1) hx hb d_P_init_5 (by decide) ?_
  refine va_put (D := D) (ci := 3) (v := .int (nI (1))) (ty := .boolean) (C := R_P) (T := F_P) (N := 3) hx hb ht ku_P t_P t_P_ok n_P hown hK hP hD hS 0 rfl rfl 0 (by decide) (ht _ kf_P_9) (fun _ h9 => h9) rfl (by decide +kernel) rfl rfl (Nat.le_of_ble_eq_true rfl) d_P_init_6 (fun H locs hP hD hS => ?_)
  have hP : va_P D zcl [(h0, .inr (3, [.int (nI (1)), .null, .null]))] H := hP
  have hD : va_D A [(h0, .inr (3, [.int (nI (1)), .null, .null]))] := hD
  refine lv_aload_n hx hb d_P_init_9 rfl (lv_at hl 0 rfl) ?_
  refine lv_bipush (v := nI 8) hx hb d_P_init_10 (by decide) ?_
  refine z_newa (ty := .long) (N := 8) (a0 := zJ 8) hx hb (fun _ _ => rfl) rfl (ht _ kA_long) 0 rfl hK hP hD hS hA (zJ_cell _) (by decide) (by decide) (by decide) (by decide) d_P_init_12 (fun q1 H hP hD hS => ?_)
  have hP : va_P D zcl [(h0, .inr (3, [.int (nI (1)), .null, .null])), (q1, .inl (cJ, zJ 8))] H := hP
  have hD : va_D A [(h0, .inr (3, [.int (nI (1)), .null, .null])), (q1, .inl (cJ, zJ 8))] := hD
  refine va_putF (D := D) (ci := 3) (v := .ref (q1)) (ty := .array .long) (C := R_P) (T := F_P) (N := 3) hx hb ht ku_P t_P t_P_ok n_P hown hK hP hD hS 0 rfl rfl 1 (by decide) (ht _ kf_P_15) (fun _ h9 => h9) rfl hin rfl (by decide +kernel) rfl rfl (Nat.le_of_ble_eq_true rfl) d_P_init_14 (fun H locs hP hD hS => ?_)
  have hP : va_P D zcl [(h0, .inr (3, [.int (nI (1)), .ref (q1), .null])), (q1, .inl (cJ, zJ 8))] H := hP
  have hD : va_D A [(h0, .inr (3, [.int (nI (1)), .ref (q1), .null])), (q1, .inl (cJ, zJ 8))] := hD
  refine lv_aload_n hx hb d_P_init_17 rfl (lv_at hl 0 rfl) ?_
  refine lv_bipush (v := nI 8) hx hb d_P_init_18 (by decide) ?_
  refine z_newa (ty := .long) (N := 8) (a0 := zJ 8) hx hb (fun _ _ => rfl) rfl (ht _ kA_long) 0 rfl hK hP hD hS hA (zJ_cell _) (by decide) (by decide) (by decide) (by decide) d_P_init_20 (fun q2 H hP hD hS => ?_)
  have hP : va_P D zcl [(h0, .inr (3, [.int (nI (1)), .ref (q1), .null])), (q1, .inl (cJ, zJ 8)), (q2, .inl (cJ, zJ 8))] H := hP
  have hD : va_D A [(h0, .inr (3, [.int (nI (1)), .ref (q1), .null])), (q1, .inl (cJ, zJ 8)), (q2, .inl (cJ, zJ 8))] := hD
  refine va_putF (D := D) (ci := 3) (v := .ref (q2)) (ty := .array .long) (C := R_P) (T := F_P) (N := 3) hx hb ht ku_P t_P t_P_ok n_P hown hK hP hD hS 0 rfl rfl 2 (by decide) (ht _ kf_P_19) (fun _ h9 => h9) rfl hin rfl (by decide +kernel) rfl rfl (Nat.le_of_ble_eq_true rfl) d_P_init_22 (fun H locs hP hD hS => ?_)
  have hP : va_P D zcl [(h0, .inr (3, [.int (nI (1)), .ref (q1), .ref (q2)])), (q1, .inl (cJ, zJ 8)), (q2, .inl (cJ, zJ 8))] H := hP
  have hD : va_D A [(h0, .inr (3, [.int (nI (1)), .ref (q1), .ref (q2)])), (q1, .inl (cJ, zJ 8)), (q2, .inl (cJ, zJ 8))] := hD
  have hP9 := hP.sub (ws' := [(h0, .inr (3, [.int (nI 1), .ref q1, .ref q2])), (q1, .inl (cJ, zJ 8)), (q2, .inl (cJ, zJ 8))]) [0, 1, 2] rfl
  have hD9 := hD.sub (ws' := [(h0, .inr (3, [.int (nI 1), .ref q1, .ref q2])), (q1, .inl (cJ, zJ 8)), (q2, .inl (cJ, zJ 8))]) [0, 1, 2] (by decide) rfl
  refine W.widen (k := 2) (n := 16) (by decide) (by decide) ?_
  exact W.vret hx hb hr (fun t ht9 hW => ⟨⟨(q1, q2), rfl, trivial, by rw [ht9]; exact hP9, hD9⟩, hS.F ht9⟩) hS.2.2 d_P_init_25 hlocks
set_option maxHeartbeats 4000000 in
set_option maxRecDepth 100000 in
theorem c_H_init (l : Launch) (D : va_G) (cI : ClassId) (h0 : Nat) (sz : Nat) : Met l y_H_init (zW y_H_init b_H_init 1 none) ({ frames := 1, cells := 1, slots := 100, locals := 12 }) (va_Pc [.ref (h0)] (fun U => U.heap.size = sz ∧ va_P D zcl [(h0, .inr (1, [.null, .int 0]))] U.heap ∧ va_K D zcl [(cI, .int)] U ∧ va_D (fun _ => True) [(h0, .inr (1, [.null, .int 0]))])) (va_Qv (fun _ : Nat => True) (fun u t => va_P D zcl [(h0, .inr (1, [.ref u, .int (nI 0)])), (u, .inl (cI, zI 100))] t.heap ∧ va_D (va_A [(h0, .inr (1, [.null, .int 0]))] sz) [(h0, .inr (1, [.ref u, .int (nI 0)])), (u, .inl (cI, zI 100))]) (va_A [(h0, .inr (1, [.null, .int 0]))] sz)) 1 100 (va_A [(h0, .inr (1, [.null, .int 0]))] sz) := by
  refine Met.ofW (cc := b_H_init) (maxL := 1) (ret := none) (by decide) rfl ?_
  intro p e s m args below meth c s₁ B hml hv
  obtain ⟨rfl, hsz, hP, hK, hD0⟩ := hv
  have hx := B.exec
  have hb := B.bytes
  have hr := B.returns
  have hts := atoms_spec (ws := zW y_H_init b_H_init 1 none) B.pre
  have ht : ∀ w ∈ zT, w.before ([.ref (h0)] : List Value).toArray s = true := fun w h => hts w (List.mem_cons_of_mem _ h)
  have hown : s.vm.findClass R_H = some m.cls := findClass_of_methodNamed B.named
  have hlocks := B.notSynchronized
  have hin : meth.name = "<init>" := (name_of_methodNamed B.named B.method).1
  subst hsz
  have hD := hD0.self (sz := s.heap.size)
  generalize hAe : va_A [(h0, .inr (1, [.null, .int 0]))] s.heap.size = A at hD ⊢
  have hA : ∀ q : Nat, s.heap.size ≤ q → A q := fun q h => by rw [← hAe]; exact Or.inr h
  have hS : va_S A s.heap s.heap [] := va_S.rf
  have hl := lv_entry ([.ref (h0)]) (n := 1) (Nat.le_of_ble_eq_true rfl)
  rw [lg_entry_eq]
  generalize (lg_sl ([.ref (h0)]) ++ List.replicate (1 - (lg_sl ([.ref (h0)])).length) Slot.unset).toArray = ls at hl ⊢
  have hl : lv_has ls 1 [(0, .ref (h0))] := hl
  refine lv_aload_n hx hb d_H_init_0 rfl (lv_at hl 0 rfl) ?_
  refine W.objInit hx hb hown (ht _ km_H_3) (ht _ kv_O_init) (ht _ kc_O_init) rfl (by rw [hml]; exact hl.1) rfl d_H_init_1 (Nat.le_of_ble_eq_true rfl) (Nat.le_of_ble_eq_true rfl) ?_
  refine W.eq (g2 := F0 m 4 ls []) rfl ?_
  refine lv_aload_n hx hb d_H_init_4 rfl (lv_at hl 0 rfl) ?_
  refine lv_bipush (v := nI 100) hx hb d_H_init_5 (by decide) ?_
  refine z_newa (ty := .int) (N := 100) (a0 := zI 100) hx hb (fun _ _ => rfl) rfl (ht _ kA_int) 0 rfl hK hP hD hS hA (zI_cell _) (by decide) (by decide) (by decide) (by decide) d_H_init_7 (fun q1 H hP hD hS => ?_)
  have hP : va_P D zcl [(h0, .inr (1, [.null, .int 0])), (q1, .inl (cI, zI 100))] H := hP
  have hD : va_D A [(h0, .inr (1, [.null, .int 0])), (q1, .inl (cI, zI 100))] := hD
  refine va_putF (D := D) (ci := 1) (v := .ref (q1)) (ty := .array .int) (C := R_H) (T := F_H) (N := 2) hx hb ht ku_H t_H t_H_ok n_H hown hK hP hD hS 0 rfl rfl 0 (by decide) (ht _ kf_H_9) (fun _ h9 => h9) rfl hin rfl (by decide +kernel) rfl rfl (Nat.le_of_ble_eq_true rfl) d_H_init_9 (fun H locs hP hD hS => ?_)
  have hP : va_P D zcl [(h0, .inr (1, [.ref (q1), .int 0])), (q1, .inl (cI, zI 100))] H := hP
  have hD : va_D A [(h0, .inr (1, [.ref (q1), .int 0])), (q1, .inl (cI, zI 100))] := hD
  refine lv_aload_n hx hb d_H_init_12 rfl (lv_at hl 0 rfl) ?_
  refine lv_iconst (v := nI 0) hx hb d_H_init_13 (by decide) ?_
  refine va_put (D := D) (ci := 1) (v := .int (nI (0))) (ty := .int) (C := R_H) (T := F_H) (N := 2) hx hb ht ku_H t_H t_H_ok n_H hown hK hP hD hS 0 rfl rfl 1 (by decide) (ht _ kf_H_15) (fun _ h9 => h9) rfl (by decide +kernel) rfl rfl (Nat.le_of_ble_eq_true rfl) d_H_init_14 (fun H locs hP hD hS => ?_)
  have hP : va_P D zcl [(h0, .inr (1, [.ref (q1), .int (nI (0))])), (q1, .inl (cI, zI 100))] H := hP
  have hD : va_D A [(h0, .inr (1, [.ref (q1), .int (nI (0))])), (q1, .inl (cI, zI 100))] := hD
  have hP9 := hP.sub (ws' := [(h0, .inr (1, [.ref q1, .int (nI 0)])), (q1, .inl (cI, zI 100))]) [0, 1] rfl
  have hD9 := hD.sub (ws' := [(h0, .inr (1, [.ref q1, .int (nI 0)])), (q1, .inl (cI, zI 100))]) [0, 1] (by decide) rfl
  refine W.widen (k := 1) (n := 100) (by decide) (by decide) ?_
  exact W.vret hx hb hr (fun t ht9 hW => ⟨⟨q1, rfl, trivial, by rw [ht9]; exact hP9, hD9⟩, hS.F ht9⟩) hS.2.2 d_H_init_17 hlocks
set_option maxHeartbeats 4000000 in
set_option maxRecDepth 100000 in
theorem c_M_init (l : Launch) (D : va_G) (cJ : ClassId) (h0 a0 a1 a2 : Nat) (sz : Nat) : Met l y_M_init (zW y_M_init b_M_init 4 none) ({ frames := 1, cells := 3, slots := 32, locals := 12 }) (va_Pc [.ref (h0), .ref (a0), .ref (a1), .ref (a2)] (fun U => U.heap.size = sz ∧ va_P D zcl [(h0, .inr (2, [.null, .null, .null, .null, .null, .null]))] U.heap ∧ va_K D zcl [(cJ, .long)] U ∧ va_D (fun _ => True) [(h0, .inr (2, [.null, .null, .null, .null, .null, .null]))])) (va_Qv (fun _ : Nat × Nat × Nat => True) (fun u t => va_P D zcl [(h0, .inr (2, [.ref a0, .ref a1, .ref a2, .ref u.1, .ref u.2.1, .ref u.2.2])), (u.1, .inl (cJ, zJ 16)), (u.2.1, .inl (cJ, zJ 8)), (u.2.2, .inl (cJ, zJ 8))] t.heap ∧ va_D (va_A [(h0, .inr (2, [.null, .null, .null, .null, .null, .null]))] sz) [(h0, .inr (2, [.ref a0, .ref a1, .ref a2, .ref u.1, .ref u.2.1, .ref u.2.2])), (u.1, .inl (cJ, zJ 16)), (u.2.1, .inl (cJ, zJ 8)), (u.2.2, .inl (cJ, zJ 8))]) (va_A [(h0, .inr (2, [.null, .null, .null, .null, .null, .null]))] sz)) 3 32 (va_A [(h0, .inr (2, [.null, .null, .null, .null, .null, .null]))] sz) := by
  refine Met.ofW (cc := b_M_init) (maxL := 4) (ret := none) (by decide) rfl ?_
  intro p e s m args below meth c s₁ B hml hv
  obtain ⟨rfl, hsz, hP, hK, hD0⟩ := hv
  have hx := B.exec
  have hb := B.bytes
  have hr := B.returns
  have hts := atoms_spec (ws := zW y_M_init b_M_init 4 none) B.pre
  have ht : ∀ w ∈ zT, w.before ([.ref (h0), .ref (a0), .ref (a1), .ref (a2)] : List Value).toArray s = true := fun w h => hts w (List.mem_cons_of_mem _ h)
  have hown : s.vm.findClass R_M = some m.cls := findClass_of_methodNamed B.named
  have hlocks := B.notSynchronized
  have hin : meth.name = "<init>" := (name_of_methodNamed B.named B.method).1
  subst hsz
  have hD := hD0.self (sz := s.heap.size)
  generalize hAe : va_A [(h0, .inr (2, [.null, .null, .null, .null, .null, .null]))] s.heap.size = A at hD ⊢
  have hA : ∀ q : Nat, s.heap.size ≤ q → A q := fun q h => by rw [← hAe]; exact Or.inr h
  have hS : va_S A s.heap s.heap [] := va_S.rf
  have hl := lv_entry ([.ref (h0), .ref (a0), .ref (a1), .ref (a2)]) (n := 4) (Nat.le_of_ble_eq_true rfl)
  rw [lg_entry_eq]
  generalize (lg_sl ([.ref (h0), .ref (a0), .ref (a1), .ref (a2)]) ++ List.replicate (4 - (lg_sl ([.ref (h0), .ref (a0), .ref (a1), .ref (a2)])).length) Slot.unset).toArray = ls at hl ⊢
  have hl : lv_has ls 4 [(0, .ref (h0)), (1, .ref (a0)), (2, .ref (a1)), (3, .ref (a2))] := hl
  refine lv_aload_n hx hb d_M_init_0 rfl (lv_at hl 0 rfl) ?_
  refine W.objInit hx hb hown (ht _ km_M_3) (ht _ kv_O_init) (ht _ kc_O_init) rfl (by rw [hml]; exact hl.1) rfl d_M_init_1 (Nat.le_of_ble_eq_true rfl) (Nat.le_of_ble_eq_true rfl) ?_
  refine W.eq (g2 := F0 m 4 ls []) rfl ?_
  refine lv_aload_n hx hb d_M_init_4 rfl (lv_at hl 0 rfl) ?_
  refine lv_bipush (v := nI 16) hx hb d_M_init_5 (by decide) ?_
  refine z_newa (ty := .long) (N := 16) (a0 := zJ 16) hx hb (fun _ _ => rfl) rfl (ht _ kA_long) 0 rfl hK hP hD hS hA (zJ_cell _) (by decide) (by decide) (by decide) (by decide) d_M_init_7 (fun q1 H hP hD hS => ?_)
  have hP : va_P D zcl [(h0, .inr (2, [.null, .null, .null, .null, .null, .null])), (q1, .inl (cJ, zJ 16))] H := hP
  have hD : va_D A [(h0, .inr (2, [.null, .null, .null, .null, .null, .null])), (q1, .inl (cJ, zJ 16))] := hD
  refine va_putF (D := D) (ci := 2) (v := .ref (q1)) (ty := .array .long) (C := R_M) (T := F_M) (N := 6) hx hb ht ku_M t_M t_M_ok n_M hown hK hP hD hS 0 rfl rfl 3 (by decide) (ht _ kf_M_9) (fun _ h9 => h9) rfl hin rfl (by decide +kernel) rfl rfl (Nat.le_of_ble_eq_true rfl) d_M_init_9 (fun H locs hP hD hS => ?_)
  have hP : va_P D zcl [(h0, .inr (2, [.null, .null, .null, .ref (q1), .null, .null])), (q1, .inl (cJ, zJ 16))] H := hP
  have hD : va_D A [(h0, .inr (2, [.null, .null, .null, .ref (q1), .null, .null])), (q1, .inl (cJ, zJ 16))] := hD
  refine lv_aload_n hx hb d_M_init_12 rfl (lv_at hl 0 rfl) ?_
  refine lv_bipush (v := nI 8) hx hb d_M_init_13 (by decide) ?_
  refine z_newa (ty := .long) (N := 8) (a0 := zJ 8) hx hb (fun _ _ => rfl) rfl (ht _ kA_long) 0 rfl hK hP hD hS hA (zJ_cell _) (by decide) (by decide) (by decide) (by decide) d_M_init_15 (fun q2 H hP hD hS => ?_)
  have hP : va_P D zcl [(h0, .inr (2, [.null, .null, .null, .ref (q1), .null, .null])), (q1, .inl (cJ, zJ 16)), (q2, .inl (cJ, zJ 8))] H := hP
  have hD : va_D A [(h0, .inr (2, [.null, .null, .null, .ref (q1), .null, .null])), (q1, .inl (cJ, zJ 16)), (q2, .inl (cJ, zJ 8))] := hD
  refine va_putF (D := D) (ci := 2) (v := .ref (q2)) (ty := .array .long) (C := R_M) (T := F_M) (N := 6) hx hb ht ku_M t_M t_M_ok n_M hown hK hP hD hS 0 rfl rfl 4 (by decide) (ht _ kf_M_15) (fun _ h9 => h9) rfl hin rfl (by decide +kernel) rfl rfl (Nat.le_of_ble_eq_true rfl) d_M_init_17 (fun H locs hP hD hS => ?_)
  have hP : va_P D zcl [(h0, .inr (2, [.null, .null, .null, .ref (q1), .ref (q2), .null])), (q1, .inl (cJ, zJ 16)), (q2, .inl (cJ, zJ 8))] H := hP
  have hD : va_D A [(h0, .inr (2, [.null, .null, .null, .ref (q1), .ref (q2), .null])), (q1, .inl (cJ, zJ 16)), (q2, .inl (cJ, zJ 8))] := hD
  refine lv_aload_n hx hb d_M_init_20 rfl (lv_at hl 0 rfl) ?_
  refine lv_bipush (v := nI 8) hx hb d_M_init_21 (by decide) ?_
  refine z_newa (ty := .long) (N := 8) (a0 := zJ 8) hx hb (fun _ _ => rfl) rfl (ht _ kA_long) 0 rfl hK hP hD hS hA (zJ_cell _) (by decide) (by decide) (by decide) (by decide) d_M_init_23 (fun q3 H hP hD hS => ?_)
  have hP : va_P D zcl [(h0, .inr (2, [.null, .null, .null, .ref (q1), .ref (q2), .null])), (q1, .inl (cJ, zJ 16)), (q2, .inl (cJ, zJ 8)), (q3, .inl (cJ, zJ 8))] H := hP
  have hD : va_D A [(h0, .inr (2, [.null, .null, .null, .ref (q1), .ref (q2), .null])), (q1, .inl (cJ, zJ 16)), (q2, .inl (cJ, zJ 8)), (q3, .inl (cJ, zJ 8))] := hD
  refine va_putF (D := D) (ci := 2) (v := .ref (q3)) (ty := .array .long) (C := R_M) (T := F_M) (N := 6) hx hb ht ku_M t_M t_M_ok n_M hown hK hP hD hS 0 rfl rfl 5 (by decide) (ht _ kf_M_18) (fun _ h9 => h9) rfl hin rfl (by decide +kernel) rfl rfl (Nat.le_of_ble_eq_true rfl) d_M_init_25 (fun H locs hP hD hS => ?_)
  have hP : va_P D zcl [(h0, .inr (2, [.null, .null, .null, .ref (q1), .ref (q2), .ref (q3)])), (q1, .inl (cJ, zJ 16)), (q2, .inl (cJ, zJ 8)), (q3, .inl (cJ, zJ 8))] H := hP
  have hD : va_D A [(h0, .inr (2, [.null, .null, .null, .ref (q1), .ref (q2), .ref (q3)])), (q1, .inl (cJ, zJ 16)), (q2, .inl (cJ, zJ 8)), (q3, .inl (cJ, zJ 8))] := hD
  refine lv_aload_n hx hb d_M_init_28 rfl (lv_at hl 0 rfl) ?_
  refine lv_aload_n hx hb d_M_init_29 rfl (lv_at hl 1 rfl) ?_
  refine va_putF (D := D) (ci := 2) (v := .ref (a0)) (ty := .array .long) (C := R_M) (T := F_M) (N := 6) hx hb ht ku_M t_M t_M_ok n_M hown hK hP hD hS 0 rfl rfl 0 (by decide) (ht _ kf_M_21) (fun _ h9 => h9) rfl hin rfl (by decide +kernel) rfl rfl (Nat.le_of_ble_eq_true rfl) d_M_init_30 (fun H locs hP hD hS => ?_)
  have hP : va_P D zcl [(h0, .inr (2, [.ref (a0), .null, .null, .ref (q1), .ref (q2), .ref (q3)])), (q1, .inl (cJ, zJ 16)), (q2, .inl (cJ, zJ 8)), (q3, .inl (cJ, zJ 8))] H := hP
  have hD : va_D A [(h0, .inr (2, [.ref (a0), .null, .null, .ref (q1), .ref (q2), .ref (q3)])), (q1, .inl (cJ, zJ 16)), (q2, .inl (cJ, zJ 8)), (q3, .inl (cJ, zJ 8))] := hD
  refine lv_aload_n hx hb d_M_init_33 rfl (lv_at hl 0 rfl) ?_
  refine lv_aload_n hx hb d_M_init_34 rfl (lv_at hl 2 rfl) ?_
  refine va_putF (D := D) (ci := 2) (v := .ref (a1)) (ty := .array .long) (C := R_M) (T := F_M) (N := 6) hx hb ht ku_M t_M t_M_ok n_M hown hK hP hD hS 0 rfl rfl 1 (by decide) (ht _ kf_M_24) (fun _ h9 => h9) rfl hin rfl (by decide +kernel) rfl rfl (Nat.le_of_ble_eq_true rfl) d_M_init_35 (fun H locs hP hD hS => ?_)
  have hP : va_P D zcl [(h0, .inr (2, [.ref (a0), .ref (a1), .null, .ref (q1), .ref (q2), .ref (q3)])), (q1, .inl (cJ, zJ 16)), (q2, .inl (cJ, zJ 8)), (q3, .inl (cJ, zJ 8))] H := hP
  have hD : va_D A [(h0, .inr (2, [.ref (a0), .ref (a1), .null, .ref (q1), .ref (q2), .ref (q3)])), (q1, .inl (cJ, zJ 16)), (q2, .inl (cJ, zJ 8)), (q3, .inl (cJ, zJ 8))] := hD
  refine lv_aload_n hx hb d_M_init_38 rfl (lv_at hl 0 rfl) ?_
  refine lv_aload_n hx hb d_M_init_39 rfl (lv_at hl 3 rfl) ?_
  refine va_putF (D := D) (ci := 2) (v := .ref (a2)) (ty := .array .long) (C := R_M) (T := F_M) (N := 6) hx hb ht ku_M t_M t_M_ok n_M hown hK hP hD hS 0 rfl rfl 2 (by decide) (ht _ kf_M_27) (fun _ h9 => h9) rfl hin rfl (by decide +kernel) rfl rfl (Nat.le_of_ble_eq_true rfl) d_M_init_40 (fun H locs hP hD hS => ?_)
  have hP : va_P D zcl [(h0, .inr (2, [.ref (a0), .ref (a1), .ref (a2), .ref (q1), .ref (q2), .ref (q3)])), (q1, .inl (cJ, zJ 16)), (q2, .inl (cJ, zJ 8)), (q3, .inl (cJ, zJ 8))] H := hP
  have hD : va_D A [(h0, .inr (2, [.ref (a0), .ref (a1), .ref (a2), .ref (q1), .ref (q2), .ref (q3)])), (q1, .inl (cJ, zJ 16)), (q2, .inl (cJ, zJ 8)), (q3, .inl (cJ, zJ 8))] := hD
  have hP9 := hP.sub (ws' := [(h0, .inr (2, [.ref a0, .ref a1, .ref a2, .ref q1, .ref q2, .ref q3])), (q1, .inl (cJ, zJ 16)), (q2, .inl (cJ, zJ 8)), (q3, .inl (cJ, zJ 8))]) [0, 1, 2, 3] rfl
  have hD9 := hD.sub (ws' := [(h0, .inr (2, [.ref a0, .ref a1, .ref a2, .ref q1, .ref q2, .ref q3])), (q1, .inl (cJ, zJ 16)), (q2, .inl (cJ, zJ 8)), (q3, .inl (cJ, zJ 8))]) [0, 1, 2, 3] (by decide) rfl
  refine W.widen (k := 3) (n := 32) (by decide) (by decide) ?_
  exact W.vret hx hb hr (fun t ht9 hW => ⟨⟨(q1, q2, q3), rfl, trivial, by rw [ht9]; exact hP9, hD9⟩, hS.F ht9⟩) hS.2.2 d_M_init_43 hlocks
set_option maxHeartbeats 4000000 in
set_option maxRecDepth 100000 in
theorem c_C_init (l : Launch) (D : va_G) (cJ : ClassId) (h0 a0 : Nat) (sz : Nat) : Met l y_C_init (zW y_C_init b_C_init 2 none) ({ frames := 1, cells := 6, slots := 48, locals := 12 }) (va_Pc [.ref (h0), .ref (a0)] (fun U => U.heap.size = sz ∧ va_P D zcl [(h0, .inr (0, [.null, .null, .null, .null, .null, .null, .null]))] U.heap ∧ va_K D zcl [(cJ, .long)] U ∧ va_D (fun _ => True) [(h0, .inr (0, [.null, .null, .null, .null, .null, .null, .null]))])) (va_Qv (fun _ : Nat × Nat × Nat × Nat × Nat × Nat => True) (fun u t => va_P D zcl [(h0, .inr (0, [.ref a0, .ref u.1, .ref u.2.1, .ref u.2.2.1, .ref u.2.2.2.1, .ref u.2.2.2.2.1, .ref u.2.2.2.2.2])), (u.1, .inl (cJ, zJ 8)), (u.2.1, .inl (cJ, zJ 8)), (u.2.2.1, .inl (cJ, zJ 8)), (u.2.2.2.1, .inl (cJ, zJ 8)), (u.2.2.2.2.1, .inl (cJ, zJ 8)), (u.2.2.2.2.2, .inl (cJ, zJ 8))] t.heap ∧ va_D (va_A [(h0, .inr (0, [.null, .null, .null, .null, .null, .null, .null]))] sz) [(h0, .inr (0, [.ref a0, .ref u.1, .ref u.2.1, .ref u.2.2.1, .ref u.2.2.2.1, .ref u.2.2.2.2.1, .ref u.2.2.2.2.2])), (u.1, .inl (cJ, zJ 8)), (u.2.1, .inl (cJ, zJ 8)), (u.2.2.1, .inl (cJ, zJ 8)), (u.2.2.2.1, .inl (cJ, zJ 8)), (u.2.2.2.2.1, .inl (cJ, zJ 8)), (u.2.2.2.2.2, .inl (cJ, zJ 8))]) (va_A [(h0, .inr (0, [.null, .null, .null, .null, .null, .null, .null]))] sz)) 6 48 (va_A [(h0, .inr (0, [.null, .null, .null, .null, .null, .null, .null]))] sz) := by
  refine Met.ofW (cc := b_C_init) (maxL := 2) (ret := none) (by decide) rfl ?_
  intro p e s m args below meth c s₁ B hml hv
  obtain ⟨rfl, hsz, hP, hK, hD0⟩ := hv
  have hx := B.exec
  have hb := B.bytes
  have hr := B.returns
  have hts := atoms_spec (ws := zW y_C_init b_C_init 2 none) B.pre
  have ht : ∀ w ∈ zT, w.before ([.ref (h0), .ref (a0)] : List Value).toArray s = true := fun w h => hts w (List.mem_cons_of_mem _ h)
  have hown : s.vm.findClass R_C = some m.cls := findClass_of_methodNamed B.named
  have hlocks := B.notSynchronized
  have hin : meth.name = "<init>" := (name_of_methodNamed B.named B.method).1
  subst hsz
  have hD := hD0.self (sz := s.heap.size)
  generalize hAe : va_A [(h0, .inr (0, [.null, .null, .null, .null, .null, .null, .null]))] s.heap.size = A at hD ⊢
  have hA : ∀ q : Nat, s.heap.size ≤ q → A q := fun q h => by rw [← hAe]; exact Or.inr h
  have hS : va_S A s.heap s.heap [] := va_S.rf
  have hl := lv_entry ([.ref (h0), .ref (a0)]) (n := 2) (Nat.le_of_ble_eq_true rfl)
  rw [lg_entry_eq]
  generalize (lg_sl ([.ref (h0), .ref (a0)]) ++ List.replicate (2 - (lg_sl ([.ref (h0), .ref (a0)])).length) Slot.unset).toArray = ls at hl ⊢
  have hl : lv_has ls 2 [(0, .ref (h0)), (1, .ref (a0))] := hl
  refine lv_aload_n hx hb d_C_init_0 rfl (lv_at hl 0 rfl) ?_
  refine W.objInit hx hb hown (ht _ km_C_3) (ht _ kv_O_init) (ht _ kc_O_init) rfl (by rw [hml]; exact hl.1) rfl d_C_init_1 (Nat.le_of_ble_eq_true rfl) (Nat.le_of_ble_eq_true rfl) ?_
  refine W.eq (g2 := F0 m 4 ls []) rfl ?_
  refine lv_aload_n hx hb d_C_init_4 rfl (lv_at hl 0 rfl) ?_
  refine lv_bipush (v := nI 8) hx hb d_C_init_5 (by decide) ?_
  refine z_newa (ty := .long) (N := 8) (a0 := zJ 8) hx hb (fun _ _ => rfl) rfl (ht _ kA_long) 0 rfl hK hP hD hS hA (zJ_cell _) (by decide) (by decide) (by decide) (by decide) d_C_init_7 (fun q1 H hP hD hS => ?_)
  have hP : va_P D zcl [(h0, .inr (0, [.null, .null, .null, .null, .null, .null, .null])), (q1, .inl (cJ, zJ 8))] H := hP
  have hD : va_D A [(h0, .inr (0, [.null, .null, .null, .null, .null, .null, .null])), (q1, .inl (cJ, zJ 8))] := hD
  refine va_putF (D := D) (ci := 0) (v := .ref (q1)) (ty := .array .long) (C := R_C) (T := F_C) (N := 7) hx hb ht ku_C t_C t_C_ok n_C hown hK hP hD hS 0 rfl rfl 1 (by decide) (ht _ kf_C_9) (fun _ h9 => h9) rfl hin rfl (by decide +kernel) rfl rfl (Nat.le_of_ble_eq_true rfl) d_C_init_9 (fun H locs hP hD hS => ?_)
  have hP : va_P D zcl [(h0, .inr (0, [.null, .ref (q1), .null, .null, .null, .null, .null])), (q1, .inl (cJ, zJ 8))] H := hP
  have hD : va_D A [(h0, .inr (0, [.null, .ref (q1), .null, .null, .null, .null, .null])), (q1, .inl (cJ, zJ 8))] := hD
  refine lv_aload_n hx hb d_C_init_12 rfl (lv_at hl 0 rfl) ?_
  refine lv_bipush (v := nI 8) hx hb d_C_init_13 (by decide) ?_
  refine z_newa (ty := .long) (N := 8) (a0 := zJ 8) hx hb (fun _ _ => rfl) rfl (ht _ kA_long) 0 rfl hK hP hD hS hA (zJ_cell _) (by decide) (by decide) (by decide) (by decide) d_C_init_15 (fun q2 H hP hD hS => ?_)
  have hP : va_P D zcl [(h0, .inr (0, [.null, .ref (q1), .null, .null, .null, .null, .null])), (q1, .inl (cJ, zJ 8)), (q2, .inl (cJ, zJ 8))] H := hP
  have hD : va_D A [(h0, .inr (0, [.null, .ref (q1), .null, .null, .null, .null, .null])), (q1, .inl (cJ, zJ 8)), (q2, .inl (cJ, zJ 8))] := hD
  refine va_putF (D := D) (ci := 0) (v := .ref (q2)) (ty := .array .long) (C := R_C) (T := F_C) (N := 7) hx hb ht ku_C t_C t_C_ok n_C hown hK hP hD hS 0 rfl rfl 2 (by decide) (ht _ kf_C_15) (fun _ h9 => h9) rfl hin rfl (by decide +kernel) rfl rfl (Nat.le_of_ble_eq_true rfl) d_C_init_17 (fun H locs hP hD hS => ?_)
  have hP : va_P D zcl [(h0, .inr (0, [.null, .ref (q1), .ref (q2), .null, .null, .null, .null])), (q1, .inl (cJ, zJ 8)), (q2, .inl (cJ, zJ 8))] H := hP
  have hD : va_D A [(h0, .inr (0, [.null, .ref (q1), .ref (q2), .null, .null, .null, .null])), (q1, .inl (cJ, zJ 8)), (q2, .inl (cJ, zJ 8))] := hD
  refine lv_aload_n hx hb d_C_init_20 rfl (lv_at hl 0 rfl) ?_
  refine lv_bipush (v := nI 8) hx hb d_C_init_21 (by decide) ?_
  refine z_newa (ty := .long) (N := 8) (a0 := zJ 8) hx hb (fun _ _ => rfl) rfl (ht _ kA_long) 0 rfl hK hP hD hS hA (zJ_cell _) (by decide) (by decide) (by decide) (by decide) d_C_init_23 (fun q3 H hP hD hS => ?_)
  have hP : va_P D zcl [(h0, .inr (0, [.null, .ref (q1), .ref (q2), .null, .null, .null, .null])), (q1, .inl (cJ, zJ 8)), (q2, .inl (cJ, zJ 8)), (q3, .inl (cJ, zJ 8))] H := hP
  have hD : va_D A [(h0, .inr (0, [.null, .ref (q1), .ref (q2), .null, .null, .null, .null])), (q1, .inl (cJ, zJ 8)), (q2, .inl (cJ, zJ 8)), (q3, .inl (cJ, zJ 8))] := hD
  refine va_putF (D := D) (ci := 0) (v := .ref (q3)) (ty := .array .long) (C := R_C) (T := F_C) (N := 7) hx hb ht ku_C t_C t_C_ok n_C hown hK hP hD hS 0 rfl rfl 3 (by decide) (ht _ kf_C_18) (fun _ h9 => h9) rfl hin rfl (by decide +kernel) rfl rfl (Nat.le_of_ble_eq_true rfl) d_C_init_25 (fun H locs hP hD hS => ?_)
  have hP : va_P D zcl [(h0, .inr (0, [.null, .ref (q1), .ref (q2), .ref (q3), .null, .null, .null])), (q1, .inl (cJ, zJ 8)), (q2, .inl (cJ, zJ 8)), (q3, .inl (cJ, zJ 8))] H := hP
  have hD : va_D A [(h0, .inr (0, [.null, .ref (q1), .ref (q2), .ref (q3), .null, .null, .null])), (q1, .inl (cJ, zJ 8)), (q2, .inl (cJ, zJ 8)), (q3, .inl (cJ, zJ 8))] := hD
  refine lv_aload_n hx hb d_C_init_28 rfl (lv_at hl 0 rfl) ?_
  refine lv_bipush (v := nI 8) hx hb d_C_init_29 (by decide) ?_
  refine z_newa (ty := .long) (N := 8) (a0 := zJ 8) hx hb (fun _ _ => rfl) rfl (ht _ kA_long) 0 rfl hK hP hD hS hA (zJ_cell _) (by decide) (by decide) (by decide) (by decide) d_C_init_31 (fun q4 H hP hD hS => ?_)
  have hP : va_P D zcl [(h0, .inr (0, [.null, .ref (q1), .ref (q2), .ref (q3), .null, .null, .null])), (q1, .inl (cJ, zJ 8)), (q2, .inl (cJ, zJ 8)), (q3, .inl (cJ, zJ 8)), (q4, .inl (cJ, zJ 8))] H := hP
  have hD : va_D A [(h0, .inr (0, [.null, .ref (q1), .ref (q2), .ref (q3), .null, .null, .null])), (q1, .inl (cJ, zJ 8)), (q2, .inl (cJ, zJ 8)), (q3, .inl (cJ, zJ 8)), (q4, .inl (cJ, zJ 8))] := hD
  refine va_putF (D := D) (ci := 0) (v := .ref (q4)) (ty := .array .long) (C := R_C) (T := F_C) (N := 7) hx hb ht ku_C t_C t_C_ok n_C hown hK hP hD hS 0 rfl rfl 4 (by decide) (ht _ kf_C_21) (fun _ h9 => h9) rfl hin rfl (by decide +kernel) rfl rfl (Nat.le_of_ble_eq_true rfl) d_C_init_33 (fun H locs hP hD hS => ?_)
  have hP : va_P D zcl [(h0, .inr (0, [.null, .ref (q1), .ref (q2), .ref (q3), .ref (q4), .null, .null])), (q1, .inl (cJ, zJ 8)), (q2, .inl (cJ, zJ 8)), (q3, .inl (cJ, zJ 8)), (q4, .inl (cJ, zJ 8))] H := hP
  have hD : va_D A [(h0, .inr (0, [.null, .ref (q1), .ref (q2), .ref (q3), .ref (q4), .null, .null])), (q1, .inl (cJ, zJ 8)), (q2, .inl (cJ, zJ 8)), (q3, .inl (cJ, zJ 8)), (q4, .inl (cJ, zJ 8))] := hD
  refine lv_aload_n hx hb d_C_init_36 rfl (lv_at hl 0 rfl) ?_
  refine lv_bipush (v := nI 8) hx hb d_C_init_37 (by decide) ?_
  refine z_newa (ty := .long) (N := 8) (a0 := zJ 8) hx hb (fun _ _ => rfl) rfl (ht _ kA_long) 0 rfl hK hP hD hS hA (zJ_cell _) (by decide) (by decide) (by decide) (by decide) d_C_init_39 (fun q5 H hP hD hS => ?_)
  have hP : va_P D zcl [(h0, .inr (0, [.null, .ref (q1), .ref (q2), .ref (q3), .ref (q4), .null, .null])), (q1, .inl (cJ, zJ 8)), (q2, .inl (cJ, zJ 8)), (q3, .inl (cJ, zJ 8)), (q4, .inl (cJ, zJ 8)), (q5, .inl (cJ, zJ 8))] H := hP
  have hD : va_D A [(h0, .inr (0, [.null, .ref (q1), .ref (q2), .ref (q3), .ref (q4), .null, .null])), (q1, .inl (cJ, zJ 8)), (q2, .inl (cJ, zJ 8)), (q3, .inl (cJ, zJ 8)), (q4, .inl (cJ, zJ 8)), (q5, .inl (cJ, zJ 8))] := hD
  refine va_putF (D := D) (ci := 0) (v := .ref (q5)) (ty := .array .long) (C := R_C) (T := F_C) (N := 7) hx hb ht ku_C t_C t_C_ok n_C hown hK hP hD hS 0 rfl rfl 5 (by decide) (ht _ kf_C_24) (fun _ h9 => h9) rfl hin rfl (by decide +kernel) rfl rfl (Nat.le_of_ble_eq_true rfl) d_C_init_41 (fun H locs hP hD hS => ?_)
  have hP : va_P D zcl [(h0, .inr (0, [.null, .ref (q1), .ref (q2), .ref (q3), .ref (q4), .ref (q5), .null])), (q1, .inl (cJ, zJ 8)), (q2, .inl (cJ, zJ 8)), (q3, .inl (cJ, zJ 8)), (q4, .inl (cJ, zJ 8)), (q5, .inl (cJ, zJ 8))] H := hP
  have hD : va_D A [(h0, .inr (0, [.null, .ref (q1), .ref (q2), .ref (q3), .ref (q4), .ref (q5), .null])), (q1, .inl (cJ, zJ 8)), (q2, .inl (cJ, zJ 8)), (q3, .inl (cJ, zJ 8)), (q4, .inl (cJ, zJ 8)), (q5, .inl (cJ, zJ 8))] := hD
  refine lv_aload_n hx hb d_C_init_44 rfl (lv_at hl 0 rfl) ?_
  refine lv_bipush (v := nI 8) hx hb d_C_init_45 (by decide) ?_
  refine z_newa (ty := .long) (N := 8) (a0 := zJ 8) hx hb (fun _ _ => rfl) rfl (ht _ kA_long) 0 rfl hK hP hD hS hA (zJ_cell _) (by decide) (by decide) (by decide) (by decide) d_C_init_47 (fun q6 H hP hD hS => ?_)
  have hP : va_P D zcl [(h0, .inr (0, [.null, .ref (q1), .ref (q2), .ref (q3), .ref (q4), .ref (q5), .null])), (q1, .inl (cJ, zJ 8)), (q2, .inl (cJ, zJ 8)), (q3, .inl (cJ, zJ 8)), (q4, .inl (cJ, zJ 8)), (q5, .inl (cJ, zJ 8)), (q6, .inl (cJ, zJ 8))] H := hP
  have hD : va_D A [(h0, .inr (0, [.null, .ref (q1), .ref (q2), .ref (q3), .ref (q4), .ref (q5), .null])), (q1, .inl (cJ, zJ 8)), (q2, .inl (cJ, zJ 8)), (q3, .inl (cJ, zJ 8)), (q4, .inl (cJ, zJ 8)), (q5, .inl (cJ, zJ 8)), (q6, .inl (cJ, zJ 8))] := hD
  refine va_putF (D := D) (ci := 0) (v := .ref (q6)) (ty := .array .long) (C := R_C) (T := F_C) (N := 7) hx hb ht ku_C t_C t_C_ok n_C hown hK hP hD hS 0 rfl rfl 6 (by decide) (ht _ kf_C_27) (fun _ h9 => h9) rfl hin rfl (by decide +kernel) rfl rfl (Nat.le_of_ble_eq_true rfl) d_C_init_49 (fun H locs hP hD hS => ?_)
  have hP : va_P D zcl [(h0, .inr (0, [.null, .ref (q1), .ref (q2), .ref (q3), .ref (q4), .ref (q5), .ref (q6)])), (q1, .inl (cJ, zJ 8)), (q2, .inl (cJ, zJ 8)), (q3, .inl (cJ, zJ 8)), (q4, .inl (cJ, zJ 8)), (q5, .inl (cJ, zJ 8)), (q6, .inl (cJ, zJ 8))] H := hP
  have hD : va_D A [(h0, .inr (0, [.null, .ref (q1), .ref (q2), .ref (q3), .ref (q4), .ref (q5), .ref (q6)])), (q1, .inl (cJ, zJ 8)), (q2, .inl (cJ, zJ 8)), (q3, .inl (cJ, zJ 8)), (q4, .inl (cJ, zJ 8)), (q5, .inl (cJ, zJ 8)), (q6, .inl (cJ, zJ 8))] := hD
  refine lv_aload_n hx hb d_C_init_52 rfl (lv_at hl 0 rfl) ?_
  refine lv_aload_n hx hb d_C_init_53 rfl (lv_at hl 1 rfl) ?_
  refine va_putF (D := D) (ci := 0) (v := .ref (a0)) (ty := .object "CurveDesk$Modulus") (C := R_C) (T := F_C) (N := 7) hx hb ht ku_C t_C t_C_ok n_C hown hK hP hD hS 0 rfl rfl 0 (by decide) (ht _ kf_C_30) (fun _ h9 => h9) rfl hin rfl (by decide +kernel) rfl rfl (Nat.le_of_ble_eq_true rfl) d_C_init_54 (fun H locs hP hD hS => ?_)
  have hP : va_P D zcl [(h0, .inr (0, [.ref (a0), .ref (q1), .ref (q2), .ref (q3), .ref (q4), .ref (q5), .ref (q6)])), (q1, .inl (cJ, zJ 8)), (q2, .inl (cJ, zJ 8)), (q3, .inl (cJ, zJ 8)), (q4, .inl (cJ, zJ 8)), (q5, .inl (cJ, zJ 8)), (q6, .inl (cJ, zJ 8))] H := hP
  have hD : va_D A [(h0, .inr (0, [.ref (a0), .ref (q1), .ref (q2), .ref (q3), .ref (q4), .ref (q5), .ref (q6)])), (q1, .inl (cJ, zJ 8)), (q2, .inl (cJ, zJ 8)), (q3, .inl (cJ, zJ 8)), (q4, .inl (cJ, zJ 8)), (q5, .inl (cJ, zJ 8)), (q6, .inl (cJ, zJ 8))] := hD
  have hP9 := hP.sub (ws' := [(h0, .inr (0, [.ref a0, .ref q1, .ref q2, .ref q3, .ref q4, .ref q5, .ref q6])), (q1, .inl (cJ, zJ 8)), (q2, .inl (cJ, zJ 8)), (q3, .inl (cJ, zJ 8)), (q4, .inl (cJ, zJ 8)), (q5, .inl (cJ, zJ 8)), (q6, .inl (cJ, zJ 8))]) [0, 1, 2, 3, 4, 5, 6] rfl
  have hD9 := hD.sub (ws' := [(h0, .inr (0, [.ref a0, .ref q1, .ref q2, .ref q3, .ref q4, .ref q5, .ref q6])), (q1, .inl (cJ, zJ 8)), (q2, .inl (cJ, zJ 8)), (q3, .inl (cJ, zJ 8)), (q4, .inl (cJ, zJ 8)), (q5, .inl (cJ, zJ 8)), (q6, .inl (cJ, zJ 8))]) [0, 1, 2, 3, 4, 5, 6] (by decide) rfl
  refine W.widen (k := 6) (n := 48) (by decide) (by decide) ?_
  exact W.vret hx hb hr (fun t ht9 hW => ⟨⟨(q1, q2, q3, q4, q5, q6), rfl, trivial, by rw [ht9]; exact hP9, hD9⟩, hS.F ht9⟩) hS.2.2 d_C_init_57 hlocks
