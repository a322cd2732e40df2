/-! the desk's questions -/
section CRR
variable {p : Program} {l : Launch} {e : Env} {R : Room} {s : State} {m : MethodId} {args : Array Value} {below : List Frame} {meth : Method} {c : Code} {H : Heap} {locs : List Loc} {cells slots : Nat} {Q : State → Prop}
variable {cc : ByteArray} {pc : Nat} {ls : Array Slot} {rest : List Value} {K : cG} {τ : cT}
variable {y : MethodName} {bytes : ByteArray} {maxL nL np index : Nat} {rm : Room} {As st0 : List Value} {own : String}
theorem c_cr {a0 : Nat} {rt : FieldType} {C : String} {T : u_T} {N ci b : Nat} {fs : List Value} (S : CallFix p m c cc nL s args zT own) (hw : cH K τ s H locs) (hM : Met l y (zW y bytes maxL (some rt)) rm (va_Pc (.ref b :: As) (cC K τ)) (va_Qr (fun u => u = τ) (fun u a t => a = a0 ∧ cC K u t) (cAA K)) 0 0 (cAA K))
    (q0 : Nat) (he : (cWs K τ)[q0]? = some (b, .inr (ci, fs))) (hcl : zcl[ci]? = some (C, T, N))
    (k : Cond.methodLink own index y ∈ zT ∧ Cond.instanceMethod y ∈ zT ∧ Cond.selects C y y ∈ zT ∧ Cond.code y bytes maxL (some rt) ∈ zT) (hini : Cond.initialized C ∈ zT)
    (hd : y.cls = C ∧ y.cls ≠ "java/lang/invoke/MethodHandle" ∧ y.cls ≠ "java/lang/invoke/VarHandle" ∧ (parseMethodDescriptor y.desc).map (fun d => d.parameters.length) = some np) (hR : rm.frames + 1 ≤ R.frames ∧ 8 + (maxL + 11) + rm.locals ≤ R.locals) (hrc : rm.cells = 0) (hrs : rm.slots = 0) (hn : As.length = np) (hsize : ls.size = nL) (hst : st0 = As.reverse ++ .ref b :: rest) (hW : (rest.map fun v => v.category).sum ≤ 8) (hdg : decode cc pc = .ok (.invokevirtual index, 3)) (hf : cells ≤ R.cells ∧ slots ≤ R.slots)
    (kk : ∀ (H1 : Heap) (locs1 : List Loc), cH K τ s H1 locs1 → W p l e R s m args below meth c H1 locs1 cells slots Q (F0 m (pc + 3) ls (.ref a0 :: rest))) : W p l e R s m args below meth c H locs cells slots Q (F0 m pc ls st0) :=
  va_callr (va_runV (As := As) (rest := rest) S hM (cwV np S.2.2.2.2 (gd_V k.1 k.2.1 k.2.2.1 hini k.2.2.2) rfl hrc hrs hd hR) (z_preV (cZ K) hw q0 he hcl As) rfl hn hsize hst (by show 2 * 0 + _ ≤ 8; omega) hdg hf) hw.2.2.2.1 (fun _ _ h => h) (fun _ h => h) (fun u ra t H1 locs1 ht hvm hp hB _ _ hS => by
    rw [hB.1]
    rw [hp] at hB
    exact kk H1 locs1 ⟨by rw [← ht]; exact hB.2.1, va_K.moved hvm.symm hB.2.2.1, hB.2.2.2.1, hS, hw.2.2.2.2⟩)
end CRR
set_option maxHeartbeats 4000000 in
set_option maxRecDepth 100000 in
theorem c_D_isRegister (l : Launch) (K : cG) (τ : cT) (x : Int32) : Met l y_D_isRegister (zW y_D_isRegister b_D_isRegister 1 (some .boolean)) (zr 0 0) (va_Pc [.int (x)] (cC K τ)) (va_Qi (fun r u => u = τ ∧ r = nI (boolN (okR x 8))) (fun u => cC K u) (cAA K)) 0 0 (cAA K) := by
  refine Met.ofW (cc := b_D_isRegister) (maxL := 1) (ret := (some .boolean)) (by decide) rfl ?_
  intro p e s m args below meth c s₁ B hml hv
  obtain ⟨rfl, hw⟩ := hv
  have hx := B.exec
  have hb := B.bytes
  have hr := B.returns
  have hts := atoms_spec (ws := zW y_D_isRegister b_D_isRegister 1 (some .boolean)) B.pre
  have ht : ∀ w ∈ zT, w.before ([.int (x)] : List Value).toArray s = true := fun w h => hts w (List.mem_cons_of_mem _ h)
  have hown : s.vm.findClass R_D = some m.cls := findClass_of_methodNamed B.named
  have hlocks := B.notSynchronized
  have hl := lv_entry ([.int (x)]) (n := 1) (Nat.le_of_ble_eq_true rfl)
  rw [lg_entry_eq]
  generalize (lg_sl ([.int (x)]) ++ List.replicate (1 - (lg_sl ([.int (x)])).length) Slot.unset).toArray = ls at hl ⊢
  have hl : lv_has ls 1 [(0, .int (x))] := hl
  have hno : ∀ ls, lv_has ls 1 [(0, .int (x))] → ¬ okR x 8 → W p l e (headSpec (zW y_D_isRegister b_D_isRegister 1 (some .boolean)) (zr 0 0)).room s m ([.int (x)] : List Value).toArray below meth c s.heap [] 0 0 (MQ below (va_Qi (fun r u => u = τ ∧ r = nI (boolN (okR x 8))) (fun u => cC K u) (cAA K)) ([.int (x)] : List Value).toArray s 0 0 (cAA K)) (F0 m 14 ls []) := by
    intro ls hl hn
    refine lv_iconst (v := nI 0) hx hb d_D_isRegister_14 (by decide) ?_
    exact z_zret (cZ K) hx hb hr hlocks (nar_b (by decide)) τ hw ⟨rfl, by rw [boolN_f hn]⟩ d_D_isRegister_15
  refine lv_iload_n hx hb d_D_isRegister_0 rfl (lv_at hl 0 rfl) ?_
  refine lv_if_lt (tgt := 14) hx hb d_D_isRegister_1 (by decide) (fun c1 => hno ls hl (fun q => q.1 c1)) (fun c1 => ?_)
  refine lv_iload_n hx hb d_D_isRegister_4 rfl (lv_at hl 0 rfl) ?_
  refine lv_bipush (v := nI 8) hx hb d_D_isRegister_5 (by decide) ?_
  refine lv_icmp_ge (tgt := 14) hx hb d_D_isRegister_7 (by decide) (fun c2 => hno ls hl (fun q => q.2 c2)) (fun c2 => ?_)
  refine lv_iconst (v := nI 1) hx hb d_D_isRegister_10 (by decide) ?_
  refine lv_goto (tgt := 15) hx hb d_D_isRegister_11 (by decide) ?_
  exact z_zret (cZ K) hx hb hr hlocks (nar_b (by decide)) τ hw ⟨rfl, by rw [boolN_t ⟨c1, c2⟩]⟩ d_D_isRegister_15
set_option maxHeartbeats 4000000 in
set_option maxRecDepth 100000 in
theorem c_D_isSpot (l : Launch) (K : cG) (τ : cT) (x : Int32) : Met l y_D_isSpot (zW y_D_isSpot b_D_isSpot 1 (some .boolean)) (zr 0 0) (va_Pc [.int (x)] (cC K τ)) (va_Qi (fun r u => u = τ ∧ r = nI (boolN (okR x 4))) (fun u => cC K u) (cAA K)) 0 0 (cAA K) := by
  refine Met.ofW (cc := b_D_isSpot) (maxL := 1) (ret := (some .boolean)) (by decide) rfl ?_
  intro p e s m args below meth c s₁ B hml hv
  obtain ⟨rfl, hw⟩ := hv
  have hx := B.exec
  have hb := B.bytes
  have hr := B.returns
  have hts := atoms_spec (ws := zW y_D_isSpot b_D_isSpot 1 (some .boolean)) B.pre
  have ht : ∀ w ∈ zT, w.before ([.int (x)] : List Value).toArray s = true := fun w h => hts w (List.mem_cons_of_mem _ h)
  have hown : s.vm.findClass R_D = some m.cls := findClass_of_methodNamed B.named
  have hlocks := B.notSynchronized
  have hl := lv_entry ([.int (x)]) (n := 1) (Nat.le_of_ble_eq_true rfl)
  rw [lg_entry_eq]
  generalize (lg_sl ([.int (x)]) ++ List.replicate (1 - (lg_sl ([.int (x)])).length) Slot.unset).toArray = ls at hl ⊢
  have hl : lv_has ls 1 [(0, .int (x))] := hl
  have hno : ∀ ls, lv_has ls 1 [(0, .int (x))] → ¬ okR x 4 → W p l e (headSpec (zW y_D_isSpot b_D_isSpot 1 (some .boolean)) (zr 0 0)).room s m ([.int (x)] : List Value).toArray below meth c s.heap [] 0 0 (MQ below (va_Qi (fun r u => u = τ ∧ r = nI (boolN (okR x 4))) (fun u => cC K u) (cAA K)) ([.int (x)] : List Value).toArray s 0 0 (cAA K)) (F0 m 13 ls []) := by
    intro ls hl hn
    refine lv_iconst (v := nI 0) hx hb d_D_isSpot_13 (by decide) ?_
    exact z_zret (cZ K) hx hb hr hlocks (nar_b (by decide)) τ hw ⟨rfl, by rw [boolN_f hn]⟩ d_D_isSpot_14
  refine lv_iload_n hx hb d_D_isSpot_0 rfl (lv_at hl 0 rfl) ?_
  refine lv_if_lt (tgt := 13) hx hb d_D_isSpot_1 (by decide) (fun c1 => hno ls hl (fun q => q.1 c1)) (fun c1 => ?_)
  refine lv_iload_n hx hb d_D_isSpot_4 rfl (lv_at hl 0 rfl) ?_
  refine lv_iconst (v := nI 4) hx hb d_D_isSpot_5 (by decide) ?_
  refine lv_icmp_ge (tgt := 13) hx hb d_D_isSpot_6 (by decide) (fun c2 => hno ls hl (fun q => q.2 c2)) (fun c2 => ?_)
  refine lv_iconst (v := nI 1) hx hb d_D_isSpot_9 (by decide) ?_
  refine lv_goto (tgt := 14) hx hb d_D_isSpot_10 (by decide) ?_
  exact z_zret (cZ K) hx hb hr hlocks (nar_b (by decide)) τ hw ⟨rfl, by rw [boolN_t ⟨c1, c2⟩]⟩ d_D_isSpot_14
set_option maxHeartbeats 4000000 in
set_option maxRecDepth 100000 in
theorem c_D_isModulus (l : Launch) (K : cG) (τ : cT) (x : Int32) : Met l y_D_isModulus (zW y_D_isModulus b_D_isModulus 1 (some .boolean)) (zr 0 0) (va_Pc [.int (x)] (cC K τ)) (va_Qi (fun r u => u = τ ∧ r = nI (boolN (okR x 2))) (fun u => cC K u) (cAA K)) 0 0 (cAA K) := by
  refine Met.ofW (cc := b_D_isModulus) (maxL := 1) (ret := (some .boolean)) (by decide) rfl ?_
  intro p e s m args below meth c s₁ B hml hv
  obtain ⟨rfl, hw⟩ := hv
  have hx := B.exec
  have hb := B.bytes
  have hr := B.returns
  have hts := atoms_spec (ws := zW y_D_isModulus b_D_isModulus 1 (some .boolean)) B.pre
  have ht : ∀ w ∈ zT, w.before ([.int (x)] : List Value).toArray s = true := fun w h => hts w (List.mem_cons_of_mem _ h)
  have hown : s.vm.findClass R_D = some m.cls := findClass_of_methodNamed B.named
  have hlocks := B.notSynchronized
  have hl := lv_entry ([.int (x)]) (n := 1) (Nat.le_of_ble_eq_true rfl)
  rw [lg_entry_eq]
  generalize (lg_sl ([.int (x)]) ++ List.replicate (1 - (lg_sl ([.int (x)])).length) Slot.unset).toArray = ls at hl ⊢
  have hl : lv_has ls 1 [(0, .int (x))] := hl
  have hno : ∀ ls, lv_has ls 1 [(0, .int (x))] → ¬ okR x 2 → W p l e (headSpec (zW y_D_isModulus b_D_isModulus 1 (some .boolean)) (zr 0 0)).room s m ([.int (x)] : List Value).toArray below meth c s.heap [] 0 0 (MQ below (va_Qi (fun r u => u = τ ∧ r = nI (boolN (okR x 2))) (fun u => cC K u) (cAA K)) ([.int (x)] : List Value).toArray s 0 0 (cAA K)) (F0 m 13 ls []) := by
    intro ls hl hn
    refine lv_iconst (v := nI 0) hx hb d_D_isModulus_13 (by decide) ?_
    exact z_zret (cZ K) hx hb hr hlocks (nar_b (by decide)) τ hw ⟨rfl, by rw [boolN_f hn]⟩ d_D_isModulus_14
  refine lv_iload_n hx hb d_D_isModulus_0 rfl (lv_at hl 0 rfl) ?_
  refine lv_if_lt (tgt := 13) hx hb d_D_isModulus_1 (by decide) (fun c1 => hno ls hl (fun q => q.1 c1)) (fun c1 => ?_)
  refine lv_iload_n hx hb d_D_isModulus_4 rfl (lv_at hl 0 rfl) ?_
  refine lv_iconst (v := nI 2) hx hb d_D_isModulus_5 (by decide) ?_
  refine lv_icmp_ge (tgt := 13) hx hb d_D_isModulus_6 (by decide) (fun c2 => hno ls hl (fun q => q.2 c2)) (fun c2 => ?_)
  refine lv_iconst (v := nI 1) hx hb d_D_isModulus_9 (by decide) ?_
  refine lv_goto (tgt := 14) hx hb d_D_isModulus_10 (by decide) ?_
  exact z_zret (cZ K) hx hb hr hlocks (nar_b (by decide)) τ hw ⟨rfl, by rw [boolN_t ⟨c1, c2⟩]⟩ d_D_isModulus_14
set_option maxHeartbeats 4000000 in
set_option maxRecDepth 100000 in
theorem c_D_areTwoRegisters (l : Launch) (K : cG) (τ : cT) (x y : Int32) : Met l y_D_areTwoRegisters (zW y_D_areTwoRegisters b_D_areTwoRegisters 2 (some .boolean)) (zr 1 20) (va_Pc [.int (x), .int (y)] (cC K τ)) (va_Qi (fun r u => u = τ ∧ r = nI (boolN (okR x 8 ∧ okR y 8 ∧ x ≠ y))) (fun u => cC K u) (cAA K)) 0 0 (cAA K) := by
  refine Met.ofW (cc := b_D_areTwoRegisters) (maxL := 2) (ret := (some .boolean)) (by decide) rfl ?_
  intro p e s m args below meth c s₁ B hml hv
  obtain ⟨rfl, hw⟩ := hv
  have hx := B.exec
  have hb := B.bytes
  have hr := B.returns
  have hts := atoms_spec (ws := zW y_D_areTwoRegisters b_D_areTwoRegisters 2 (some .boolean)) B.pre
  have ht : ∀ w ∈ zT, w.before ([.int (x), .int (y)] : List Value).toArray s = true := fun w h => hts w (List.mem_cons_of_mem _ h)
  have hown : s.vm.findClass R_D = some m.cls := findClass_of_methodNamed B.named
  have hlocks := B.notSynchronized
  have hl := lv_entry ([.int (x), .int (y)]) (n := 2) (Nat.le_of_ble_eq_true rfl)
  rw [lg_entry_eq]
  generalize (lg_sl ([.int (x), .int (y)]) ++ List.replicate (2 - (lg_sl ([.int (x), .int (y)])).length) Slot.unset).toArray = ls at hl ⊢
  have hl : lv_has ls 2 [(0, .int (x)), (1, .int (y))] := hl
  have hno : ∀ (H : Heap) (locs : List Loc) (ls : Array Slot), cH K τ s H locs → lv_has ls 2 [(0, .int (x)), (1, .int (y))] → ¬ (okR x 8 ∧ okR y 8 ∧ x ≠ y) → W p l e (headSpec (zW y_D_areTwoRegisters b_D_areTwoRegisters 2 (some .boolean)) (zr 1 20)).room s m ([.int (x), .int (y)] : List Value).toArray below meth c H locs 0 0 (MQ below (va_Qi (fun r u => u = τ ∧ r = nI (boolN (okR x 8 ∧ okR y 8 ∧ x ≠ y))) (fun u => cC K u) (cAA K)) ([.int (x), .int (y)] : List Value).toArray s 0 0 (cAA K)) (F0 m 23 ls []) := by
    intro H locs ls hw hl hn
    refine lv_iconst (v := nI 0) hx hb d_D_areTwoRegisters_23 (by decide) ?_
    exact z_zret (cZ K) hx hb hr hlocks (nar_b (by decide)) τ hw ⟨rfl, by rw [boolN_f hn]⟩ d_D_areTwoRegisters_24
  refine lv_iload_n hx hb d_D_areTwoRegisters_0 rfl (lv_at hl 0 rfl) ?_
  refine c_si (np := 1) (As := [.int (x)]) (rest := []) ⟨hx, hb, hml, hown, ht⟩ hw (c_D_isRegister l K τ x) ⟨km_D_91, ks_D_isRegister, kc_D_isRegister⟩ ki_D (by decide +kernel) ⟨by decide, by decide⟩ rfl rfl rfl hl.1 rfl (Nat.le_of_ble_eq_true rfl) d_D_areTwoRegisters_1 ⟨Nat.le_refl _, Nat.le_refl _⟩ (fun r ux H locs hp hw => ?_)
  obtain ⟨hpu, rfl⟩ := hp
  rw [hpu] at hw
  clear hpu
  refine n_eq0 (tgt := 23) hx hb d_D_areTwoRegisters_4 (by decide) (boolN_s _) (fun c1 => hno _ _ ls hw hl (fun q => boolN_0 c1 q.1)) (fun c1 => ?_)
  refine lv_iload_n hx hb d_D_areTwoRegisters_7 rfl (lv_at hl 1 rfl) ?_
  refine c_si (np := 1) (As := [.int (y)]) (rest := []) ⟨hx, hb, hml, hown, ht⟩ hw (c_D_isRegister l K τ y) ⟨km_D_91, ks_D_isRegister, kc_D_isRegister⟩ ki_D (by decide +kernel) ⟨by decide, by decide⟩ rfl rfl rfl hl.1 rfl (Nat.le_of_ble_eq_true rfl) d_D_areTwoRegisters_8 ⟨Nat.le_refl _, Nat.le_refl _⟩ (fun r ux H locs hp hw => ?_)
  obtain ⟨hpu, rfl⟩ := hp
  rw [hpu] at hw
  clear hpu
  refine n_eq0 (tgt := 23) hx hb d_D_areTwoRegisters_11 (by decide) (boolN_s _) (fun c2 => hno _ _ ls hw hl (fun q => boolN_0 c2 q.2.1)) (fun c2 => ?_)
  refine lv_iload_n hx hb d_D_areTwoRegisters_14 rfl (lv_at hl 0 rfl) ?_
  refine lv_iload_n hx hb d_D_areTwoRegisters_15 rfl (lv_at hl 1 rfl) ?_
  refine lv_icmp_eq (tgt := 23) hx hb d_D_areTwoRegisters_16 (by decide) (fun c3 => hno _ _ ls hw hl (fun q => q.2.2 c3)) (fun c3 => ?_)
  refine lv_iconst (v := nI 1) hx hb d_D_areTwoRegisters_19 (by decide) ?_
  refine lv_goto (tgt := 24) hx hb d_D_areTwoRegisters_20 (by decide) ?_
  exact z_zret (cZ K) hx hb hr hlocks (nar_b (by decide)) τ hw ⟨rfl, by rw [boolN_t ⟨boolN_1 c1, boolN_1 c2, c3⟩]⟩ d_D_areTwoRegisters_24
set_option maxHeartbeats 4000000 in
set_option maxRecDepth 100000 in
theorem c_D_modulusOf (l : Launch) (K : cG) (τ : cT) {μ : Nat} (hμ : μ < 2) : Met l y_D_modulusOf (zW y_D_modulusOf b_D_modulusOf 2 (some (.object "CurveDesk$Modulus"))) (zr 0 0) (va_Pc [.ref (cO K 0), .int (nI (μ))] (cC K τ)) (va_Qr (fun u => u = τ) (fun u a t => a = cO K (5 + μ) ∧ cC K u t) (cAA K)) 0 0 (cAA K) := by
  refine Met.ofW (cc := b_D_modulusOf) (maxL := 2) (ret := (some (.object "CurveDesk$Modulus"))) (by decide) rfl ?_
  intro p e s m args below meth c s₁ B hml hv
  obtain ⟨rfl, hw⟩ := hv
  have hx := B.exec
  have hb := B.bytes
  have hr := B.returns
  have hts := atoms_spec (ws := zW y_D_modulusOf b_D_modulusOf 2 (some (.object "CurveDesk$Modulus"))) B.pre
  have ht : ∀ w ∈ zT, w.before ([.ref (cO K 0), .int (nI (μ))] : List Value).toArray s = true := fun w h => hts w (List.mem_cons_of_mem _ h)
  have hown : s.vm.findClass R_D = some m.cls := findClass_of_methodNamed B.named
  have hlocks := B.notSynchronized
  have hl := lv_entry ([.ref (cO K 0), .int (nI (μ))]) (n := 2) (Nat.le_of_ble_eq_true rfl)
  rw [lg_entry_eq]
  generalize (lg_sl ([.ref (cO K 0), .int (nI (μ))]) ++ List.replicate (2 - (lg_sl ([.ref (cO K 0), .int (nI (μ))])).length) Slot.unset).toArray = ls at hl ⊢
  have hl : lv_has ls 2 [(0, .ref (cO K 0)), (1, .int (nI (μ)))] := hl
  refine lv_iload_n hx hb d_D_modulusOf_0 rfl (lv_at hl 1 rfl) ?_
  refine n_ne0 (tgt := 11) hx hb d_D_modulusOf_1 (by decide) (by omega) (fun c1 => ?_) (fun c1 => ?_)
  · refine lv_aload_n hx hb d_D_modulusOf_11 rfl (lv_at hl 0 rfl) ?_
    refine va_get (ci := 4) (C := R_D) (T := F_D) (N := 10) (v := .ref (cO K 6)) hx hb ht ku_D hown hw.2.1 hw.1 0 rfl rfl 4 (by decide) (ht _ kf_D_55) (fun _ h9 => h9) rfl d_D_modulusOf_12 ?_
    exact W.aret hx hb hr (Or.inl ⟨_, rfl⟩) (Or.inr ⟨_, rfl⟩) (fun t ht9 hW => ⟨⟨τ, _, rfl, rfl, by rw [show μ = 1 by omega], hw.at (cZ K) t ht9 hW⟩, hw.2.2.2.1.F ht9⟩) hw.2.2.2.1.2.2 d_D_modulusOf_15 hlocks
  · refine lv_aload_n hx hb d_D_modulusOf_4 rfl (lv_at hl 0 rfl) ?_
    refine va_get (ci := 4) (C := R_D) (T := F_D) (N := 10) (v := .ref (cO K 5)) hx hb ht ku_D hown hw.2.1 hw.1 0 rfl rfl 3 (by decide) (ht _ kf_D_42) (fun _ h9 => h9) rfl d_D_modulusOf_5 ?_
    refine lv_goto (tgt := 15) hx hb d_D_modulusOf_8 (by decide) ?_
    exact W.aret hx hb hr (Or.inl ⟨_, rfl⟩) (Or.inr ⟨_, rfl⟩) (fun t ht9 hW => ⟨⟨τ, _, rfl, rfl, by rw [c1], hw.at (cZ K) t ht9 hW⟩, hw.2.2.2.1.F ht9⟩) hw.2.2.2.1.2.2 d_D_modulusOf_15 hlocks
set_option maxHeartbeats 4000000 in
set_option maxRecDepth 100000 in
theorem c_D_isUnit (l : Launch) (K : cG) (τ : cT) (hok : cOk τ) {a : Nat} (ha : a < 8) : Met l y_D_isUnit (zW y_D_isUnit b_D_isUnit 2 (some .boolean)) (zr 2 43) (va_Pc [.ref (cO K 0), .ref (cR K a)] (cC K τ)) (va_Qi (fun r u => u = τ ∧ r = nI (boolN (cV τ a ≠ 0 ∧ cV τ a < rMod 1))) (fun u => cC K u) (cAA K)) 0 0 (cAA K) := by
  refine Met.ofW (cc := b_D_isUnit) (maxL := 2) (ret := (some .boolean)) (by decide) rfl ?_
  intro p e s m args below meth c s₁ B hml hv
  obtain ⟨rfl, hw⟩ := hv
  have hx := B.exec
  have hb := B.bytes
  have hr := B.returns
  have hts := atoms_spec (ws := zW y_D_isUnit b_D_isUnit 2 (some .boolean)) B.pre
  have ht : ∀ w ∈ zT, w.before ([.ref (cO K 0), .ref (cR K a)] : List Value).toArray s = true := fun w h => hts w (List.mem_cons_of_mem _ h)
  have hown : s.vm.findClass R_D = some m.cls := findClass_of_methodNamed B.named
  have hlocks := B.notSynchronized
  have hl := lv_entry ([.ref (cO K 0), .ref (cR K a)]) (n := 2) (Nat.le_of_ble_eq_true rfl)
  rw [lg_entry_eq]
  generalize (lg_sl ([.ref (cO K 0), .ref (cR K a)]) ++ List.replicate (2 - (lg_sl ([.ref (cO K 0), .ref (cR K a)])).length) Slot.unset).toArray = ls at hl ⊢
  have hl : lv_has ls 2 [(0, .ref (cO K 0)), (1, .ref (cR K a))] := hl
  have hno : ∀ (H : Heap) (locs : List Loc) (ls : Array Slot), cH K τ s H locs → lv_has ls 2 [(0, .ref (cO K 0)), (1, .ref (cR K a))] → ¬ (cV τ a ≠ 0 ∧ cV τ a < rMod 1) → W p l e (headSpec (zW y_D_isUnit b_D_isUnit 2 (some .boolean)) (zr 2 43)).room s m ([.ref (cO K 0), .ref (cR K a)] : List Value).toArray below meth c H locs 0 0 (MQ below (va_Qi (fun r u => u = τ ∧ r = nI (boolN (cV τ a ≠ 0 ∧ cV τ a < rMod 1))) (fun u => cC K u) (cAA K)) ([.ref (cO K 0), .ref (cR K a)] : List Value).toArray s 0 0 (cAA K)) (F0 m 22 ls []) := by
    intro H locs ls hw hl hn
    refine lv_iconst (v := nI 0) hx hb d_D_isUnit_22 (by decide) ?_
    exact z_zret (cZ K) hx hb hr hlocks (nar_b (by decide)) τ hw ⟨rfl, by rw [boolN_f hn]⟩ d_D_isUnit_23
  refine lv_aload_n hx hb d_D_isUnit_0 rfl (lv_at hl 1 rfl) ?_
  refine c_si (np := 1) (As := [.ref (cR K a)]) (rest := []) ⟨hx, hb, hml, hown, ht⟩ hw (c_L_isZero l K τ hok (a := a) (by omega) (by omega)) ⟨km_D_120, ks_L_isZero, kc_L_isZero⟩ ki_L (by decide +kernel) ⟨by decide, by decide⟩ rfl rfl rfl hl.1 rfl (Nat.le_of_ble_eq_true rfl) d_D_isUnit_1 ⟨Nat.le_refl _, Nat.le_refl _⟩ (fun r ux H locs hp hw => ?_)
  obtain ⟨hpu, rfl⟩ := hp
  rw [hpu] at hw
  clear hpu
  refine n_ne0 (tgt := 22) hx hb d_D_isUnit_4 (by decide) (boolN_s _) (fun c1 => hno _ _ ls hw hl (fun q => q.1 (boolN_1 c1))) (fun c1 => ?_)
  refine lv_aload_n hx hb d_D_isUnit_7 rfl (lv_at hl 0 rfl) ?_
  refine va_get (ci := 4) (C := R_D) (T := F_D) (N := 10) (v := .ref (cO K 6)) hx hb ht ku_D hown hw.2.1 hw.1 0 rfl rfl 4 (by decide) (ht _ kf_D_55) (fun _ h9 => h9) rfl d_D_isUnit_8 ?_
  refine lv_aload_n hx hb d_D_isUnit_11 rfl (lv_at hl 1 rfl) ?_
  refine c_ci (np := 1) (As := [.ref (cR K a)]) (rest := []) ⟨hx, hb, hml, hown, ht⟩ hw (c_M_isAbove l K τ hok (μ := 1) (a := a) (by decide) (by omega) (by omega)) 6 rfl rfl ⟨km_D_116, kv_M_isAbove, kx_M_isAbove, kc_M_isAbove⟩ ki_M (by decide +kernel) ⟨by decide, by decide⟩ rfl rfl rfl hl.1 rfl (Nat.le_of_ble_eq_true rfl) d_D_isUnit_12 ⟨Nat.le_refl _, Nat.le_refl _⟩ (fun r ux H locs hp hw => ?_)
  obtain ⟨hpu, rfl⟩ := hp
  rw [hpu] at hw
  clear hpu
  refine n_eq0 (tgt := 22) hx hb d_D_isUnit_15 (by decide) (boolN_s _) (fun c2 => hno _ _ ls hw hl (fun q => boolN_0 c2 q.2)) (fun c2 => ?_)
  refine lv_iconst (v := nI 1) hx hb d_D_isUnit_18 (by decide) ?_
  refine lv_goto (tgt := 23) hx hb d_D_isUnit_19 (by decide) ?_
  exact z_zret (cZ K) hx hb hr hlocks (nar_b (by decide)) τ hw ⟨rfl, by rw [boolN_t ⟨boolN_0 c1, boolN_1 c2⟩]⟩ d_D_isUnit_23
