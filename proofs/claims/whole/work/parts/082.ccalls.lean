/-! two longs compared; calls within the class -/
theorem lcmp_eq {a b : Nat} (ha : a < 2 ^ 63) (hb : b < 2 ^ 63) : lg_cmp (lN a) (lN b) = 0 ↔ a = b := by
  have h1 : lN b < lN a ↔ b < a := by rw [Int64.lt_iff_toInt_lt, pf_lI ha, pf_lI hb]; omega
  have h2 : lN a = lN b ↔ a = b := by rw [← Int64.toInt_inj, pf_lI ha, pf_lI hb]; omega
  unfold lg_cmp
  by_cases h : lN b < lN a
  · rw [if_pos h]
    have := h1.mp h
    exact ⟨fun q => absurd q (by decide), fun q => by omega⟩
  · rw [if_neg h]
    by_cases h3 : lN a = lN b
    · rw [if_pos h3]; exact ⟨fun _ => h2.mp h3, fun _ => rfl⟩
    · rw [if_neg h3]; exact ⟨fun q => absurd q (by decide), fun q => absurd (h2.mpr q) h3⟩
theorem lcmp_ge {x y : Int64} : 0 ≤ lg_cmp x y ↔ y ≤ x := by
  unfold lg_cmp
  by_cases h : y < x
  · rw [if_pos h]
    exact ⟨fun _ => Int64.le_of_lt h, fun _ => by decide⟩
  · rw [if_neg h]
    by_cases h3 : x = y
    · rw [if_pos h3, h3]; exact ⟨fun _ => Int64.le_refl _, fun _ => by decide⟩
    · rw [if_neg h3]; exact ⟨fun q => absurd q (by decide), fun q => absurd (Int64.le_antisymm (Int64.not_lt.mp h) q) h3⟩
theorem lN_le' {a b : Nat} (ha : a < 2 ^ 63) (hb : b < 2 ^ 63) : lN a ≤ lN b ↔ a ≤ b := by rw [Int64.le_iff_toInt_le, pf_lI ha, pf_lI hb]; omega
section LC
variable {p : Program} {l : Launch} {e : Env} {R : Room} {s : State} {m : MethodId} {args : Array Value} {below : List Frame} {meth : Method} {c : Code} {H : Heap} {locs : List Loc} {cells slots : Nat} {Q : State → Prop}
variable {cc : ByteArray} {pc tgt : Nat} {off : Int} {ls : Array Slot} {rest : List Value} {a b : Nat}
theorem l_eq (hexec : p.tables.exec = Jvm.exec) (hb : c.code = cc) (hd1 : decode cc pc = .ok (.lcmp, 1)) (hd2 : decode cc (pc + 1) = .ok (.ifCond .eq off, 3)) (ht : ((pc + 1 : Nat) : Int) + off = (tgt : Int)) (ha : a < 2 ^ 63) (hb2 : b < 2 ^ 63)
    (kt : a = b → W p l e R s m args below meth c H locs cells slots Q (F0 m tgt ls rest)) (kf : a ≠ b → W p l e R s m args below meth c H locs cells slots Q (F0 m (pc + 1 + 3) ls rest)) : W p l e R s m args below meth c H locs cells slots Q (F0 m pc ls (.long (lN b) :: .long (lN a) :: rest)) :=
  W.lcmp hexec hb hd1 (lv_if_eq hexec hb hd2 ht (fun h => kt ((lcmp_eq ha hb2).mp h)) (fun h => kf (fun q => h ((lcmp_eq ha hb2).mpr q))))
theorem l_ne (hexec : p.tables.exec = Jvm.exec) (hb : c.code = cc) (hd1 : decode cc pc = .ok (.lcmp, 1)) (hd2 : decode cc (pc + 1) = .ok (.ifCond .ne off, 3)) (ht : ((pc + 1 : Nat) : Int) + off = (tgt : Int)) (ha : a < 2 ^ 63) (hb2 : b < 2 ^ 63)
    (kt : a ≠ b → W p l e R s m args below meth c H locs cells slots Q (F0 m tgt ls rest)) (kf : a = b → W p l e R s m args below meth c H locs cells slots Q (F0 m (pc + 1 + 3) ls rest)) : W p l e R s m args below meth c H locs cells slots Q (F0 m pc ls (.long (lN b) :: .long (lN a) :: rest)) :=
  W.lcmp hexec hb hd1 (lv_if_ne hexec hb hd2 ht (fun h => kt (fun q => h ((lcmp_eq ha hb2).mpr q))) (fun h => kf ((lcmp_eq ha hb2).mp h)))
theorem l_ge {x y : Int64} (hexec : p.tables.exec = Jvm.exec) (hb : c.code = cc) (hd1 : decode cc pc = .ok (.lcmp, 1)) (hd2 : decode cc (pc + 1) = .ok (.ifCond .ge off, 3)) (ht : ((pc + 1 : Nat) : Int) + off = (tgt : Int))
    (kt : y ≤ x → W p l e R s m args below meth c H locs cells slots Q (F0 m tgt ls rest)) (kf : ¬ y ≤ x → W p l e R s m args below meth c H locs cells slots Q (F0 m (pc + 1 + 3) ls rest)) : W p l e R s m args below meth c H locs cells slots Q (F0 m pc ls (.long y :: .long x :: rest)) :=
  W.lcmp hexec hb hd1 (lv_if_ge hexec hb hd2 ht (fun h => kt (lcmp_ge.mp h)) (fun h => kf (fun q => h (lcmp_ge.mpr q))))
end LC
section CS
variable {p : Program} {l : Launch} {e : Env} {R : Room} {s : State} {m : MethodId} {args : Array Value} {below : List Frame} {meth : Method} {c : Code} {H : Heap} {locs : List Loc} {cells slots : Nat} {Q : State → Prop}
variable {cc : ByteArray} {pc : Nat} {ls : Array Slot} {rest : List Value} {K : cG} {τ : cT}
variable {y : MethodName} {bytes : ByteArray} {maxL nL np index : Nat} {rm : Room} {As st0 : List Value} {own : String}
theorem c_sv {post : cT → Prop} (S : CallFix p m c cc nL s args zT own) (hw : cH K τ s H locs) (hM : Met l y (zW y bytes maxL none) rm (va_Pc As (cC K τ)) (va_Qv post (fun u => cC K u) (cAA K)) 0 0 (cAA K))
    (k : Cond.methodLink own index y ∈ zT ∧ Cond.static y ∈ zT ∧ Cond.code y bytes maxL none ∈ zT) (hini : Cond.initialized y.cls ∈ zT)
    (hd : y.cls ≠ "java/lang/invoke/MethodHandle" ∧ y.cls ≠ "java/lang/invoke/VarHandle" ∧ (parseMethodDescriptor y.desc).map (fun d => d.parameters.length) = some np) (hR : rm.frames + 1 ≤ R.frames ∧ 8 + (maxL + 11) + rm.locals ≤ R.locals) (hrc : rm.cells = 0) (hrs : rm.slots = 0) (hn : As.length = np) (hsize : ls.size = nL) (hst : st0 = As.reverse ++ rest) (hW : (rest.map fun v => v.category).sum ≤ 8) (hdg : decode cc pc = .ok (.invokestatic index, 3)) (hf : cells ≤ R.cells ∧ slots ≤ R.slots)
    (kk : ∀ (u : cT) (H1 : Heap) (locs1 : List Loc), post u → cH K u s H1 locs1 → W p l e R s m args below meth c H1 locs1 cells slots Q (F0 m (pc + 3) ls rest)) : W p l e R s m args below meth c H locs cells slots Q (F0 m pc ls st0) :=
  z_callv (va_runS (As := As) (rest := rest) S hM (va_cwS np S.2.2.2.2 (gd_S k.1 k.2.1 hini k.2.2) rfl hrc hrs hd hR) (z_preS (cZ K) hw As) rfl hn hsize hst (by show 2 * 0 + _ ≤ 8; omega) hdg hf) hw kk
theorem c_cv {post : cT → Prop} {C : String} {T : u_T} {N ci b : Nat} {fs : List Value} (S : CallFix p m c cc nL s args zT own) (hw : cH K τ s H locs) (hM : Met l y (zW y bytes maxL none) rm (va_Pc (.ref b :: As) (cC K τ)) (va_Qv post (fun u => cC K u) (cAA K)) 0 0 (cAA K))
    (q0 : Nat) (he : (cWs K τ)[q0]? = some (b, .inr (ci, fs))) (hcl : zcl[ci]? = some (C, T, N))
    (k : Cond.methodLink own index y ∈ zT ∧ Cond.instanceMethod y ∈ zT ∧ Cond.selects C y y ∈ zT ∧ Cond.code y bytes maxL none ∈ zT) (hini : Cond.initialized C ∈ zT)
    (hd : y.cls = C ∧ y.cls ≠ "java/lang/invoke/MethodHandle" ∧ y.cls ≠ "java/lang/invoke/VarHandle" ∧ (parseMethodDescriptor y.desc).map (fun d => d.parameters.length) = some np) (hR : rm.frames + 1 ≤ R.frames ∧ 8 + (maxL + 11) + rm.locals ≤ R.locals) (hrc : rm.cells = 0) (hrs : rm.slots = 0) (hn : As.length = np) (hsize : ls.size = nL) (hst : st0 = As.reverse ++ .ref b :: rest) (hW : (rest.map fun v => v.category).sum ≤ 8) (hdg : decode cc pc = .ok (.invokevirtual index, 3)) (hf : cells ≤ R.cells ∧ slots ≤ R.slots)
    (kk : ∀ (u : cT) (H1 : Heap) (locs1 : List Loc), post u → cH K u s H1 locs1 → W p l e R s m args below meth c H1 locs1 cells slots Q (F0 m (pc + 3) ls rest)) : W p l e R s m args below meth c H locs cells slots Q (F0 m pc ls st0) :=
  z_callv (va_runV (As := As) (rest := rest) S hM (cwV np S.2.2.2.2 (gd_V k.1 k.2.1 k.2.2.1 hini k.2.2.2) rfl hrc hrs hd hR) (z_preV (cZ K) hw q0 he hcl As) rfl hn hsize hst (by show 2 * 0 + _ ≤ 8; omega) hdg hf) hw kk
theorem c_si {post : Int32 → cT → Prop} {rt : FieldType} (S : CallFix p m c cc nL s args zT own) (hw : cH K τ s H locs) (hM : Met l y (zW y bytes maxL (some rt)) rm (va_Pc As (cC K τ)) (va_Qi post (fun u => cC K u) (cAA K)) 0 0 (cAA K))
    (k : Cond.methodLink own index y ∈ zT ∧ Cond.static y ∈ zT ∧ Cond.code y bytes maxL (some rt) ∈ zT) (hini : Cond.initialized y.cls ∈ zT)
    (hd : y.cls ≠ "java/lang/invoke/MethodHandle" ∧ y.cls ≠ "java/lang/invoke/VarHandle" ∧ (parseMethodDescriptor y.desc).map (fun d => d.parameters.length) = some np) (hR : rm.frames + 1 ≤ R.frames ∧ 8 + (maxL + 11) + rm.locals ≤ R.locals) (hrc : rm.cells = 0) (hrs : rm.slots = 0) (hn : As.length = np) (hsize : ls.size = nL) (hst : st0 = As.reverse ++ rest) (hW : (rest.map fun v => v.category).sum ≤ 8) (hdg : decode cc pc = .ok (.invokestatic index, 3)) (hf : cells ≤ R.cells ∧ slots ≤ R.slots)
    (kk : ∀ (r : Int32) (u : cT) (H1 : Heap) (locs1 : List Loc), post r u → cH K u s H1 locs1 → W p l e R s m args below meth c H1 locs1 cells slots Q (F0 m (pc + 3) ls (.int r :: rest))) : W p l e R s m args below meth c H locs cells slots Q (F0 m pc ls st0) :=
  z_calli (va_runS (As := As) (rest := rest) S hM (va_cwS np S.2.2.2.2 (gd_S k.1 k.2.1 hini k.2.2) rfl hrc hrs hd hR) (z_preS (cZ K) hw As) rfl hn hsize hst (by show 2 * 0 + _ ≤ 8; omega) hdg hf) hw kk
theorem c_ci {post : Int32 → cT → Prop} {rt : FieldType} {C : String} {T : u_T} {N ci b : Nat} {fs : List Value} (S : CallFix p m c cc nL s args zT own) (hw : cH K τ s H locs) (hM : Met l y (zW y bytes maxL (some rt)) rm (va_Pc (.ref b :: As) (cC K τ)) (va_Qi post (fun u => cC K u) (cAA K)) 0 0 (cAA K))
    (q0 : Nat) (he : (cWs K τ)[q0]? = some (b, .inr (ci, fs))) (hcl : zcl[ci]? = some (C, T, N))
    (k : Cond.methodLink own index y ∈ zT ∧ Cond.instanceMethod y ∈ zT ∧ Cond.selects C y y ∈ zT ∧ Cond.code y bytes maxL (some rt) ∈ zT) (hini : Cond.initialized C ∈ zT)
    (hd : y.cls = C ∧ y.cls ≠ "java/lang/invoke/MethodHandle" ∧ y.cls ≠ "java/lang/invoke/VarHandle" ∧ (parseMethodDescriptor y.desc).map (fun d => d.parameters.length) = some np) (hR : rm.frames + 1 ≤ R.frames ∧ 8 + (maxL + 11) + rm.locals ≤ R.locals) (hrc : rm.cells = 0) (hrs : rm.slots = 0) (hn : As.length = np) (hsize : ls.size = nL) (hst : st0 = As.reverse ++ .ref b :: rest) (hW : (rest.map fun v => v.category).sum ≤ 8) (hdg : decode cc pc = .ok (.invokevirtual index, 3)) (hf : cells ≤ R.cells ∧ slots ≤ R.slots)
    (kk : ∀ (r : Int32) (u : cT) (H1 : Heap) (locs1 : List Loc), post r u → cH K u s H1 locs1 → W p l e R s m args below meth c H1 locs1 cells slots Q (F0 m (pc + 3) ls (.int r :: rest))) : W p l e R s m args below meth c H locs cells slots Q (F0 m pc ls st0) :=
  z_calli (va_runV (As := As) (rest := rest) S hM (cwV np S.2.2.2.2 (gd_V k.1 k.2.1 k.2.2.1 hini k.2.2.2) rfl hrc hrs hd hR) (z_preV (cZ K) hw q0 he hcl As) rfl hn hsize hst (by show 2 * 0 + _ ≤ 8; omega) hdg hf) hw kk
theorem c_sl {post : Int64 → cT → Prop} {rt : FieldType} (S : CallFix p m c cc nL s args zT own) (hw : cH K τ s H locs) (hM : Met l y (zW y bytes maxL (some rt)) rm (va_Pc As (cC K τ)) (va_Ql post (fun u => cC K u) (cAA K)) 0 0 (cAA K))
    (k : Cond.methodLink own index y ∈ zT ∧ Cond.static y ∈ zT ∧ Cond.code y bytes maxL (some rt) ∈ zT) (hini : Cond.initialized y.cls ∈ zT)
    (hd : y.cls ≠ "java/lang/invoke/MethodHandle" ∧ y.cls ≠ "java/lang/invoke/VarHandle" ∧ (parseMethodDescriptor y.desc).map (fun d => d.parameters.length) = some np) (hR : rm.frames + 1 ≤ R.frames ∧ 8 + (maxL + 11) + rm.locals ≤ R.locals) (hrc : rm.cells = 0) (hrs : rm.slots = 0) (hn : As.length = np) (hsize : ls.size = nL) (hst : st0 = As.reverse ++ rest) (hW : (rest.map fun v => v.category).sum ≤ 8) (hdg : decode cc pc = .ok (.invokestatic index, 3)) (hf : cells ≤ R.cells ∧ slots ≤ R.slots)
    (kk : ∀ (r : Int64) (u : cT) (H1 : Heap) (locs1 : List Loc), post r u → cH K u s H1 locs1 → W p l e R s m args below meth c H1 locs1 cells slots Q (F0 m (pc + 3) ls (.long r :: rest))) : W p l e R s m args below meth c H locs cells slots Q (F0 m pc ls st0) :=
  z_calll (va_runS (As := As) (rest := rest) S hM (va_cwS np S.2.2.2.2 (gd_S k.1 k.2.1 hini k.2.2) rfl hrc hrs hd hR) (z_preS (cZ K) hw As) rfl hn hsize hst (by show 2 * 0 + _ ≤ 8; omega) hdg hf) hw kk
theorem c_cl {post : Int64 → cT → Prop} {rt : FieldType} {C : String} {T : u_T} {N ci b : Nat} {fs : List Value} (S : CallFix p m c cc nL s args zT own) (hw : cH K τ s H locs) (hM : Met l y (zW y bytes maxL (some rt)) rm (va_Pc (.ref b :: As) (cC K τ)) (va_Ql post (fun u => cC K u) (cAA K)) 0 0 (cAA K))
    (q0 : Nat) (he : (cWs K τ)[q0]? = some (b, .inr (ci, fs))) (hcl : zcl[ci]? = some (C, T, N))
    (k : Cond.methodLink own index y ∈ zT ∧ Cond.instanceMethod y ∈ zT ∧ Cond.selects C y y ∈ zT ∧ Cond.code y bytes maxL (some rt) ∈ zT) (hini : Cond.initialized C ∈ zT)
    (hd : y.cls = C ∧ y.cls ≠ "java/lang/invoke/MethodHandle" ∧ y.cls ≠ "java/lang/invoke/VarHandle" ∧ (parseMethodDescriptor y.desc).map (fun d => d.parameters.length) = some np) (hR : rm.frames + 1 ≤ R.frames ∧ 8 + (maxL + 11) + rm.locals ≤ R.locals) (hrc : rm.cells = 0) (hrs : rm.slots = 0) (hn : As.length = np) (hsize : ls.size = nL) (hst : st0 = As.reverse ++ .ref b :: rest) (hW : (rest.map fun v => v.category).sum ≤ 8) (hdg : decode cc pc = .ok (.invokevirtual index, 3)) (hf : cells ≤ R.cells ∧ slots ≤ R.slots)
    (kk : ∀ (r : Int64) (u : cT) (H1 : Heap) (locs1 : List Loc), post r u → cH K u s H1 locs1 → W p l e R s m args below meth c H1 locs1 cells slots Q (F0 m (pc + 3) ls (.long r :: rest))) : W p l e R s m args below meth c H locs cells slots Q (F0 m pc ls st0) :=
  z_calll (va_runV (As := As) (rest := rest) S hM (cwV np S.2.2.2.2 (gd_V k.1 k.2.1 k.2.2.1 hini k.2.2.2) rfl hrc hrs hd hR) (z_preV (cZ K) hw q0 he hcl As) rfl hn hsize hst (by show 2 * 0 + _ ≤ 8; omega) hdg hf) hw kk
end CS
