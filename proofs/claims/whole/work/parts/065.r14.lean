/-! the questions of the reference, and calls of them -/
abbrev okR (x : Int32) (n : Nat) : Prop := ¬ x < 0 ∧ ¬ nI n ≤ x
theorem okR.ex {x : Int32} {n : Nat} (h : okR x n) (hn : n < 2 ^ 31) : ∃ j : Nat, j < n ∧ x = nI j := by
  rcases pk_ix x hn with h1 | h1 | h1
  · exact absurd h1 h.1
  · exact absurd h1 h.2
  · exact h1
theorem okR_of {j n : Nat} (hj : j < n) (hn : n < 2 ^ 31) : okR (nI j) n := ⟨nI_pos (by omega), nI_ge hj hn⟩
section RS
variable {p : Program} {l : Launch} {e : Env} {R : Room} {s : State} {m : MethodId} {args : Array Value} {below : List Frame} {meth : Method} {c : Code} {H : Heap} {locs : List Loc} {cells slots : Nat} {Q : State → Prop}
variable {cc : ByteArray} {pc : Nat} {ls : Array Slot} {rest : List Value} {G : rG} {σ : rS}
variable {y : MethodName} {bytes : ByteArray} {maxL nL np index : Nat} {rm : Room} {As st0 : List Value}
theorem r_callsi {post : Int32 → rS → Prop} {rt : FieldType} (S : CallFix p m c cc nL s args zT R_R) (hw : rH G σ s H locs) (hM : Met l y (zW y bytes maxL (some rt)) rm (va_Pc As (rC G σ)) (va_Qi post (fun u => rC G u) (rAA G)) 0 0 (rAA G))
    (k : Cond.methodLink R_R index y ∈ zT ∧ Cond.static y ∈ zT ∧ Cond.code y bytes maxL (some rt) ∈ zT)
    (hd : y.cls ≠ "java/lang/invoke/MethodHandle" ∧ y.cls ≠ "java/lang/invoke/VarHandle" ∧ (parseMethodDescriptor y.desc).map (fun d => d.parameters.length) = some np) (hR : rm.frames + 1 ≤ R.frames ∧ 8 + (maxL + 11) + rm.locals ≤ R.locals) (hyc : y.cls = R_R) (hrc : rm.cells = 0) (hrs : rm.slots = 0) (hn : As.length = np) (hsize : ls.size = nL) (hst : st0 = As.reverse ++ rest) (hW : (rest.map fun v => v.category).sum ≤ 8) (hdg : decode cc pc = .ok (.invokestatic index, 3)) (hf : cells ≤ R.cells ∧ slots ≤ R.slots)
    (kk : ∀ (r : Int32) (u : rS) (H1 : Heap) (locs1 : List Loc), post r u → rH G u s H1 locs1 → W p l e R s m args below meth c H1 locs1 cells slots Q (F0 m (pc + 3) ls (.int r :: rest))) : W p l e R s m args below meth c H locs cells slots Q (F0 m pc ls st0) :=
  z_calli (va_runS (As := As) (rest := rest) S hM (va_cwS np S.2.2.2.2 (gd_S k.1 k.2.1 (by rw [hyc]; exact ki_R) k.2.2) rfl hrc hrs hd hR) (z_preS (rZ _) hw As) rfl hn hsize hst (by show 2 * 0 + _ ≤ 8; omega) hdg hf) hw kk
theorem r_callsl {post : Int64 → rS → Prop} {rt : FieldType} (S : CallFix p m c cc nL s args zT R_R) (hw : rH G σ s H locs) (hM : Met l y (zW y bytes maxL (some rt)) rm (va_Pc As (rC G σ)) (va_Ql post (fun u => rC G u) (rAA G)) 0 0 (rAA G))
    (k : Cond.methodLink R_R index y ∈ zT ∧ Cond.static y ∈ zT ∧ Cond.code y bytes maxL (some rt) ∈ zT)
    (hd : y.cls ≠ "java/lang/invoke/MethodHandle" ∧ y.cls ≠ "java/lang/invoke/VarHandle" ∧ (parseMethodDescriptor y.desc).map (fun d => d.parameters.length) = some np) (hR : rm.frames + 1 ≤ R.frames ∧ 8 + (maxL + 11) + rm.locals ≤ R.locals) (hyc : y.cls = R_R) (hrc : rm.cells = 0) (hrs : rm.slots = 0) (hn : As.length = np) (hsize : ls.size = nL) (hst : st0 = As.reverse ++ rest) (hW : (rest.map fun v => v.category).sum ≤ 8) (hdg : decode cc pc = .ok (.invokestatic index, 3)) (hf : cells ≤ R.cells ∧ slots ≤ R.slots)
    (kk : ∀ (r : Int64) (u : rS) (H1 : Heap) (locs1 : List Loc), post r u → rH G u s H1 locs1 → W p l e R s m args below meth c H1 locs1 cells slots Q (F0 m (pc + 3) ls (.long r :: rest))) : W p l e R s m args below meth c H locs cells slots Q (F0 m pc ls st0) :=
  z_calll (va_runS (As := As) (rest := rest) S hM (va_cwS np S.2.2.2.2 (gd_S k.1 k.2.1 (by rw [hyc]; exact ki_R) k.2.2) rfl hrc hrs hd hR) (z_preS (rZ _) hw As) rfl hn hsize hst (by show 2 * 0 + _ ≤ 8; omega) hdg hf) hw kk
end RS
set_option maxHeartbeats 4000000 in
set_option maxRecDepth 100000 in
theorem c_R_isRegister (l : Launch) (G : rG) (σ : rS) (x : Int32) : Met l y_R_isRegister (zW y_R_isRegister b_R_isRegister 1 (some .boolean)) (zr 0 0) (va_Pc [.int (x)] (rC G σ)) (va_Qi (fun r u => u = σ ∧ r = nI (boolN (okR x 8))) (fun u => rC G u) (rAA G)) 0 0 (rAA G) := by
  refine Met.ofW (cc := b_R_isRegister) (maxL := 1) (ret := (some .boolean)) (by decide) rfl ?_
  intro p e s m args below meth c s₁ B hml hv
  obtain ⟨rfl, hw⟩ := hv
  have hx := B.exec
  have hb := B.bytes
  have hr := B.returns
  have hts := atoms_spec (ws := zW y_R_isRegister b_R_isRegister 1 (some .boolean)) B.pre
  have ht : ∀ w ∈ zT, w.before ([.int (x)] : List Value).toArray s = true := fun w h => hts w (List.mem_cons_of_mem _ h)
  have hown : s.vm.findClass R_R = some m.cls := findClass_of_methodNamed B.named
  have hlocks := B.notSynchronized
  have hl := lv_entry ([.int (x)]) (n := 1) (Nat.le_of_ble_eq_true rfl)
  rw [lg_entry_eq]
  generalize (lg_sl ([.int (x)]) ++ List.replicate (1 - (lg_sl ([.int (x)])).length) Slot.unset).toArray = ls at hl ⊢
  have hl : lv_has ls 1 [(0, .int (x))] := hl
  have hno : ∀ ls, lv_has ls 1 [(0, .int (x))] → ¬ okR x 8 → W p l e (headSpec (zW y_R_isRegister b_R_isRegister 1 (some .boolean)) (zr 0 0)).room s m ([.int (x)] : List Value).toArray below meth c s.heap [] 0 0 (MQ below (va_Qi (fun r u => u = σ ∧ r = nI (boolN (okR x 8))) (fun u => rC G u) (rAA G)) ([.int (x)] : List Value).toArray s 0 0 (rAA G)) (F0 m 14 ls []) := by
    intro ls hl hn
    refine lv_iconst (v := nI 0) hx hb d_R_isRegister_14 (by decide) ?_
    exact z_zret (rZ _) hx hb hr hlocks (nar_b (by decide)) σ hw ⟨rfl, by rw [boolN_f hn]⟩ d_R_isRegister_15
  refine lv_iload_n hx hb d_R_isRegister_0 rfl (lv_at hl 0 rfl) ?_
  refine lv_if_lt (tgt := 14) hx hb d_R_isRegister_1 (by decide) (fun c1 => hno ls hl (fun q => q.1 c1)) (fun c1 => ?_)
  refine lv_iload_n hx hb d_R_isRegister_4 rfl (lv_at hl 0 rfl) ?_
  refine lv_bipush (v := nI 8) hx hb d_R_isRegister_5 (by decide) ?_
  refine lv_icmp_ge (tgt := 14) hx hb d_R_isRegister_7 (by decide) (fun c2 => hno ls hl (fun q => q.2 c2)) (fun c2 => ?_)
  refine lv_iconst (v := nI 1) hx hb d_R_isRegister_10 (by decide) ?_
  refine lv_goto (tgt := 15) hx hb d_R_isRegister_11 (by decide) ?_
  exact z_zret (rZ _) hx hb hr hlocks (nar_b (by decide)) σ hw ⟨rfl, by rw [boolN_t ⟨c1, c2⟩]⟩ d_R_isRegister_15
set_option maxHeartbeats 4000000 in
set_option maxRecDepth 100000 in
theorem c_R_isSpot (l : Launch) (G : rG) (σ : rS) (x : Int32) : Met l y_R_isSpot (zW y_R_isSpot b_R_isSpot 1 (some .boolean)) (zr 0 0) (va_Pc [.int (x)] (rC G σ)) (va_Qi (fun r u => u = σ ∧ r = nI (boolN (okR x 4))) (fun u => rC G u) (rAA G)) 0 0 (rAA G) := by
  refine Met.ofW (cc := b_R_isSpot) (maxL := 1) (ret := (some .boolean)) (by decide) rfl ?_
  intro p e s m args below meth c s₁ B hml hv
  obtain ⟨rfl, hw⟩ := hv
  have hx := B.exec
  have hb := B.bytes
  have hr := B.returns
  have hts := atoms_spec (ws := zW y_R_isSpot b_R_isSpot 1 (some .boolean)) B.pre
  have ht : ∀ w ∈ zT, w.before ([.int (x)] : List Value).toArray s = true := fun w h => hts w (List.mem_cons_of_mem _ h)
  have hown : s.vm.findClass R_R = some m.cls := findClass_of_methodNamed B.named
  have hlocks := B.notSynchronized
  have hl := lv_entry ([.int (x)]) (n := 1) (Nat.le_of_ble_eq_true rfl)
  rw [lg_entry_eq]
  generalize (lg_sl ([.int (x)]) ++ List.replicate (1 - (lg_sl ([.int (x)])).length) Slot.unset).toArray = ls at hl ⊢
  have hl : lv_has ls 1 [(0, .int (x))] := hl
  have hno : ∀ ls, lv_has ls 1 [(0, .int (x))] → ¬ okR x 4 → W p l e (headSpec (zW y_R_isSpot b_R_isSpot 1 (some .boolean)) (zr 0 0)).room s m ([.int (x)] : List Value).toArray below meth c s.heap [] 0 0 (MQ below (va_Qi (fun r u => u = σ ∧ r = nI (boolN (okR x 4))) (fun u => rC G u) (rAA G)) ([.int (x)] : List Value).toArray s 0 0 (rAA G)) (F0 m 13 ls []) := by
    intro ls hl hn
    refine lv_iconst (v := nI 0) hx hb d_R_isSpot_13 (by decide) ?_
    exact z_zret (rZ _) hx hb hr hlocks (nar_b (by decide)) σ hw ⟨rfl, by rw [boolN_f hn]⟩ d_R_isSpot_14
  refine lv_iload_n hx hb d_R_isSpot_0 rfl (lv_at hl 0 rfl) ?_
  refine lv_if_lt (tgt := 13) hx hb d_R_isSpot_1 (by decide) (fun c1 => hno ls hl (fun q => q.1 c1)) (fun c1 => ?_)
  refine lv_iload_n hx hb d_R_isSpot_4 rfl (lv_at hl 0 rfl) ?_
  refine lv_iconst (v := nI 4) hx hb d_R_isSpot_5 (by decide) ?_
  refine lv_icmp_ge (tgt := 13) hx hb d_R_isSpot_6 (by decide) (fun c2 => hno ls hl (fun q => q.2 c2)) (fun c2 => ?_)
  refine lv_iconst (v := nI 1) hx hb d_R_isSpot_9 (by decide) ?_
  refine lv_goto (tgt := 14) hx hb d_R_isSpot_10 (by decide) ?_
  exact z_zret (rZ _) hx hb hr hlocks (nar_b (by decide)) σ hw ⟨rfl, by rw [boolN_t ⟨c1, c2⟩]⟩ d_R_isSpot_14
set_option maxHeartbeats 4000000 in
set_option maxRecDepth 100000 in
theorem c_R_isModulus (l : Launch) (G : rG) (σ : rS) (x : Int32) : Met l y_R_isModulus (zW y_R_isModulus b_R_isModulus 1 (some .boolean)) (zr 0 0) (va_Pc [.int (x)] (rC G σ)) (va_Qi (fun r u => u = σ ∧ r = nI (boolN (okR x 2))) (fun u => rC G u) (rAA G)) 0 0 (rAA G) := by
  refine Met.ofW (cc := b_R_isModulus) (maxL := 1) (ret := (some .boolean)) (by decide) rfl ?_
  intro p e s m args below meth c s₁ B hml hv
  obtain ⟨rfl, hw⟩ := hv
  have hx := B.exec
  have hb := B.bytes
  have hr := B.returns
  have hts := atoms_spec (ws := zW y_R_isModulus b_R_isModulus 1 (some .boolean)) B.pre
  have ht : ∀ w ∈ zT, w.before ([.int (x)] : List Value).toArray s = true := fun w h => hts w (List.mem_cons_of_mem _ h)
  have hown : s.vm.findClass R_R = some m.cls := findClass_of_methodNamed B.named
  have hlocks := B.notSynchronized
  have hl := lv_entry ([.int (x)]) (n := 1) (Nat.le_of_ble_eq_true rfl)
  rw [lg_entry_eq]
  generalize (lg_sl ([.int (x)]) ++ List.replicate (1 - (lg_sl ([.int (x)])).length) Slot.unset).toArray = ls at hl ⊢
  have hl : lv_has ls 1 [(0, .int (x))] := hl
  have yes : ∀ ls, lv_has ls 1 [(0, .int (x))] → okR x 2 → W p l e (headSpec (zW y_R_isModulus b_R_isModulus 1 (some .boolean)) (zr 0 0)).room s m ([.int (x)] : List Value).toArray below meth c s.heap [] 0 0 (MQ below (va_Qi (fun r u => u = σ ∧ r = nI (boolN (okR x 2))) (fun u => rC G u) (rAA G)) ([.int (x)] : List Value).toArray s 0 0 (rAA G)) (F0 m 9 ls []) := by
    intro ls hl hy
    refine lv_iconst (v := nI 1) hx hb d_R_isModulus_9 (by decide) ?_
    refine lv_goto (tgt := 14) hx hb d_R_isModulus_10 (by decide) ?_
    exact z_zret (rZ _) hx hb hr hlocks (nar_b (by decide)) σ hw ⟨rfl, by rw [boolN_t hy]⟩ d_R_isModulus_14
  refine lv_iload_n hx hb d_R_isModulus_0 rfl (lv_at hl 0 rfl) ?_
  refine lv_if_eq (tgt := 9) hx hb d_R_isModulus_1 (by decide) (fun c1 => yes ls hl (by rw [c1]; exact okR_of (j := 0) (by decide) (by decide))) (fun c1 => ?_)
  refine lv_iload_n hx hb d_R_isModulus_4 rfl (lv_at hl 0 rfl) ?_
  refine lv_iconst (v := nI 1) hx hb d_R_isModulus_5 (by decide) ?_
  refine lv_icmp_ne (tgt := 13) hx hb d_R_isModulus_6 (by decide) (fun c2 => ?_) (fun c2 => yes ls hl (by rw [c2]; exact okR_of (by decide) (by decide)))
  refine lv_iconst (v := nI 0) hx hb d_R_isModulus_13 (by decide) ?_
  have hn : ¬ okR x 2 := by
    intro q
    obtain ⟨j, hj, rfl⟩ := q.ex (by decide)
    rcases (show j = 0 ∨ j = 1 by omega) with rfl | rfl
    · exact c1 rfl
    · exact c2 rfl
  exact z_zret (rZ _) hx hb hr hlocks (nar_b (by decide)) σ hw ⟨rfl, by rw [boolN_f hn]⟩ d_R_isModulus_14
