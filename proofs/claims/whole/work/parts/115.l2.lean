/-! the law's world: both sides, apart -/
abbrev lA (s : State) : Nat → Prop := fun q => s.heap.size ≤ q
def lH (K : cG) (G : rG) (τ : cT) (σ : rS) (s : State) (H : Heap) (locs : List Loc) : Prop :=
  (va_P K.1 zcl (cWs K τ) H ∧ va_K K.1 zcl (cTy K) s ∧ va_D (cAA K) (cWs K τ) ∧ cS K s s.heap) ∧ (va_P G.1 zcl (rWs G σ) H ∧ va_K G.1 zcl (rTy G) s ∧ va_D (rAA G) (rWs G σ)) ∧ (∀ q, cAA K q → lA s q) ∧ (∀ q, rAA G q → lA s q) ∧ (∀ q, cAA K q → ¬ rAA G q) ∧ va_S (lA s) s.heap H locs
section LK
variable {p : Program} {l : Launch} {e : Env} {R : Room} {s : State} {m : MethodId} {args : Array Value} {below : List Frame} {meth : Method} {c : Code} {H : Heap} {locs : List Loc} {cells slots : Nat} {Q : State → Prop}
variable {cc : ByteArray} {pc : Nat} {ls : Array Slot} {rest : List Value} {K : cG} {τ : cT} {G : rG} {σ : rS}
variable {y : MethodName} {bytes : ByteArray} {maxL nL np index : Nat} {rm : Room} {As st0 : List Value}
theorem lH.cAt (hw : lH K G τ σ s H locs) (U : State) (hU : U.heap = H) (hW : s.WarmedH U.vm) : cC K τ U := by
  obtain ⟨⟨hP, hK, hD, hs⟩, _, _, _, _, hS⟩ := hw
  refine ⟨by rw [hU]; exact hP, va_K.moved hW.alike hK, hD, va_S.rf, (cZ K).1 s U hW (fun a h1 _ => ?_) hs⟩
  rw [hU]
  exact hS.2.1 a h1 (Nat.not_le.mpr h1)
theorem lH.rAt (hw : lH K G τ σ s H locs) (U : State) (hU : U.heap = H) (hW : s.WarmedH U.vm) : rC G σ U := by
  obtain ⟨_, ⟨hP, hK, hD⟩, _, _, _, hS⟩ := hw
  exact ⟨by rw [hU]; exact hP, va_K.moved hW.alike hK, hD, va_S.rf, trivial⟩
theorem lH.cStep (hw : lH K G τ σ s H locs) {u : cT} {t : State} {H1 : Heap} {locs1 : List Loc} (ht : t.heap = H1) (hvm : s.vm.Alike t.vm) (hB : cC K u t) (hk : ∀ q : Nat, q < H.size → ¬ cAA K q → H1[q]? = H[q]?) (hS : va_S (lA s) s.heap H1 locs1) : lH K G u σ s H1 locs1 := by
  obtain ⟨⟨hP, hK, hD, hs⟩, ⟨hP2, hK2, hD2⟩, a1, a2, a3, _⟩ := hw
  refine ⟨⟨by rw [← ht]; exact hB.1, hK, hB.2.2.1, hs⟩, ⟨hP2.kept (fun k x hx => hk x.1 (hP2 k x hx).lt (fun q => a3 _ q (hD2.2 k x hx))), hK2, hD2⟩, a1, a2, a3, hS⟩
theorem lH.rStep (hw : lH K G τ σ s H locs) {u : rS} {t : State} {H1 : Heap} {locs1 : List Loc} (ht : t.heap = H1) (hvm : s.vm.Alike t.vm) (hB : rC G u t) (hk : ∀ q : Nat, q < H.size → ¬ rAA G q → H1[q]? = H[q]?) (hS : va_S (lA s) s.heap H1 locs1) : lH K G τ u s H1 locs1 := by
  obtain ⟨⟨hP, hK, hD, hs⟩, ⟨hP2, hK2, hD2⟩, a1, a2, a3, _⟩ := hw
  refine ⟨⟨hP.kept (fun k x hx => hk x.1 (hP k x hx).lt (fun q => a3 _ (hD.2 k x hx) q)), hK, hD, hs⟩, ⟨by rw [← ht]; exact hB.1, hK2, hB.2.2.1⟩, a1, a2, a3, hS⟩
theorem l_ci {post : Int32 → cT → Prop} {rt : FieldType} (S : CallFix p m c cc nL s args zT R_W) (hw : lH K G τ σ s H locs) (hM : Met l y (zW y bytes maxL (some rt)) rm (va_Pc (.ref (cO K 0) :: As) (cC K τ)) (va_Qi post (fun u => cC K u) (cAA K)) 0 0 (cAA K))
    (k : Cond.methodLink R_W index y ∈ zT ∧ Cond.instanceMethod y ∈ zT ∧ Cond.selects R_D y y ∈ zT ∧ Cond.code y bytes maxL (some rt) ∈ zT)
    (hd : y.cls = R_D ∧ y.cls ≠ "java/lang/invoke/MethodHandle" ∧ y.cls ≠ "java/lang/invoke/VarHandle" ∧ (parseMethodDescriptor y.desc).map (fun d => d.parameters.length) = some np) (hR : rm.frames + 1 ≤ R.frames ∧ 8 + (maxL + 11) + rm.locals ≤ R.locals) (hrc : rm.cells = 0) (hrs : rm.slots = 0) (hn : As.length = np) (hsize : ls.size = nL) (hst : st0 = As.reverse ++ .ref (cO K 0) :: rest) (hW : (rest.map fun v => v.category).sum ≤ 8) (hdg : decode cc pc = .ok (.invokevirtual index, 3)) (hf : cells ≤ R.cells ∧ slots ≤ R.slots)
    (kk : ∀ (r : Int32) (u : cT) (H1 : Heap) (locs1 : List Loc), post r u → lH K G u σ s H1 locs1 → W p l e R s m args below meth c H1 locs1 cells slots Q (F0 m (pc + 3) ls (.int r :: rest))) : W p l e R s m args below meth c H locs cells slots Q (F0 m pc ls st0) :=
  va_calli (va_runV (As := As) (rest := rest) S hM (cwV np S.2.2.2.2 (gd_V k.1 k.2.1 k.2.2.1 ki_D k.2.2.2) rfl hrc hrs hd hR) ⟨zC.blind (cZ K), va_recv hw.1.2.1 hw.1.1 (ci := 4) (q0 := 0) rfl rfl, fun U hU hW => ⟨rfl, hw.cAt U hU hW⟩⟩ rfl hn hsize hst (by show 2 * 0 + _ ≤ 8; omega) hdg hf) hw.2.2.2.2.2 (fun q _ h => hw.2.2.1 q h) (fun q h => hw.2.2.1 q h) (fun r u t H1 locs1 ht hvm hp hB hz hk hS => kk r u H1 locs1 hp (hw.cStep ht hvm hB hk hS))
theorem l_cl {post : Int64 → cT → Prop} {rt : FieldType} (S : CallFix p m c cc nL s args zT R_W) (hw : lH K G τ σ s H locs) (hM : Met l y (zW y bytes maxL (some rt)) rm (va_Pc (.ref (cO K 0) :: As) (cC K τ)) (va_Ql post (fun u => cC K u) (cAA K)) 0 0 (cAA K))
    (k : Cond.methodLink R_W index y ∈ zT ∧ Cond.instanceMethod y ∈ zT ∧ Cond.selects R_D y y ∈ zT ∧ Cond.code y bytes maxL (some rt) ∈ zT)
    (hd : y.cls = R_D ∧ y.cls ≠ "java/lang/invoke/MethodHandle" ∧ y.cls ≠ "java/lang/invoke/VarHandle" ∧ (parseMethodDescriptor y.desc).map (fun d => d.parameters.length) = some np) (hR : rm.frames + 1 ≤ R.frames ∧ 8 + (maxL + 11) + rm.locals ≤ R.locals) (hrc : rm.cells = 0) (hrs : rm.slots = 0) (hn : As.length = np) (hsize : ls.size = nL) (hst : st0 = As.reverse ++ .ref (cO K 0) :: rest) (hW : (rest.map fun v => v.category).sum ≤ 8) (hdg : decode cc pc = .ok (.invokevirtual index, 3)) (hf : cells ≤ R.cells ∧ slots ≤ R.slots)
    (kk : ∀ (r : Int64) (u : cT) (H1 : Heap) (locs1 : List Loc), post r u → lH K G u σ s H1 locs1 → W p l e R s m args below meth c H1 locs1 cells slots Q (F0 m (pc + 3) ls (.long r :: rest))) : W p l e R s m args below meth c H locs cells slots Q (F0 m pc ls st0) :=
  va_calll (va_runV (As := As) (rest := rest) S hM (cwV np S.2.2.2.2 (gd_V k.1 k.2.1 k.2.2.1 ki_D k.2.2.2) rfl hrc hrs hd hR) ⟨zC.blind (cZ K), va_recv hw.1.2.1 hw.1.1 (ci := 4) (q0 := 0) rfl rfl, fun U hU hW => ⟨rfl, hw.cAt U hU hW⟩⟩ rfl hn hsize hst (by show 2 * 0 + _ ≤ 8; omega) hdg hf) hw.2.2.2.2.2 (fun q _ h => hw.2.2.1 q h) (fun q h => hw.2.2.1 q h) (fun r u t H1 locs1 ht hvm hp hB hz hk hS => kk r u H1 locs1 hp (hw.cStep ht hvm hB hk hS))
theorem l_ri {post : Int32 → rS → Prop} {rt : FieldType} (S : CallFix p m c cc nL s args zT R_W) (hw : lH K G τ σ s H locs) (hM : Met l y (zW y bytes maxL (some rt)) rm (va_Pc (.ref (rA G 0) :: As) (rC G σ)) (va_Qi post (fun u => rC G u) (rAA G)) 0 0 (rAA G))
    (k : Cond.methodLink R_W index y ∈ zT ∧ Cond.instanceMethod y ∈ zT ∧ Cond.selects R_R y y ∈ zT ∧ Cond.code y bytes maxL (some rt) ∈ zT)
    (hd : y.cls = R_R ∧ y.cls ≠ "java/lang/invoke/MethodHandle" ∧ y.cls ≠ "java/lang/invoke/VarHandle" ∧ (parseMethodDescriptor y.desc).map (fun d => d.parameters.length) = some np) (hR : rm.frames + 1 ≤ R.frames ∧ 8 + (maxL + 11) + rm.locals ≤ R.locals) (hrc : rm.cells = 0) (hrs : rm.slots = 0) (hn : As.length = np) (hsize : ls.size = nL) (hst : st0 = As.reverse ++ .ref (rA G 0) :: rest) (hW : (rest.map fun v => v.category).sum ≤ 8) (hdg : decode cc pc = .ok (.invokevirtual index, 3)) (hf : cells ≤ R.cells ∧ slots ≤ R.slots)
    (kk : ∀ (r : Int32) (u : rS) (H1 : Heap) (locs1 : List Loc), post r u → lH K G τ u s H1 locs1 → W p l e R s m args below meth c H1 locs1 cells slots Q (F0 m (pc + 3) ls (.int r :: rest))) : W p l e R s m args below meth c H locs cells slots Q (F0 m pc ls st0) :=
  va_calli (va_runV (As := As) (rest := rest) S hM (cwV np S.2.2.2.2 (gd_V k.1 k.2.1 k.2.2.1 ki_R k.2.2.2) rfl hrc hrs hd hR) ⟨zC.blind (rZ _), va_recv hw.2.1.2.1 hw.2.1.1 (ci := 5) (q0 := 0) rfl rfl, fun U hU hW => ⟨rfl, hw.rAt U hU hW⟩⟩ rfl hn hsize hst (by show 2 * 0 + _ ≤ 8; omega) hdg hf) hw.2.2.2.2.2 (fun q _ h => hw.2.2.2.1 q h) (fun q h => hw.2.2.2.1 q h) (fun r u t H1 locs1 ht hvm hp hB hz hk hS => kk r u H1 locs1 hp (hw.rStep ht hvm hB hk hS))
theorem l_rl {post : Int64 → rS → Prop} {rt : FieldType} (S : CallFix p m c cc nL s args zT R_W) (hw : lH K G τ σ s H locs) (hM : Met l y (zW y bytes maxL (some rt)) rm (va_Pc (.ref (rA G 0) :: As) (rC G σ)) (va_Ql post (fun u => rC G u) (rAA G)) 0 0 (rAA G))
    (k : Cond.methodLink R_W index y ∈ zT ∧ Cond.instanceMethod y ∈ zT ∧ Cond.selects R_R y y ∈ zT ∧ Cond.code y bytes maxL (some rt) ∈ zT)
    (hd : y.cls = R_R ∧ y.cls ≠ "java/lang/invoke/MethodHandle" ∧ y.cls ≠ "java/lang/invoke/VarHandle" ∧ (parseMethodDescriptor y.desc).map (fun d => d.parameters.length) = some np) (hR : rm.frames + 1 ≤ R.frames ∧ 8 + (maxL + 11) + rm.locals ≤ R.locals) (hrc : rm.cells = 0) (hrs : rm.slots = 0) (hn : As.length = np) (hsize : ls.size = nL) (hst : st0 = As.reverse ++ .ref (rA G 0) :: rest) (hW : (rest.map fun v => v.category).sum ≤ 8) (hdg : decode cc pc = .ok (.invokevirtual index, 3)) (hf : cells ≤ R.cells ∧ slots ≤ R.slots)
    (kk : ∀ (r : Int64) (u : rS) (H1 : Heap) (locs1 : List Loc), post r u → lH K G τ u s H1 locs1 → W p l e R s m args below meth c H1 locs1 cells slots Q (F0 m (pc + 3) ls (.long r :: rest))) : W p l e R s m args below meth c H locs cells slots Q (F0 m pc ls st0) :=
  va_calll (va_runV (As := As) (rest := rest) S hM (cwV np S.2.2.2.2 (gd_V k.1 k.2.1 k.2.2.1 ki_R k.2.2.2) rfl hrc hrs hd hR) ⟨zC.blind (rZ _), va_recv hw.2.1.2.1 hw.2.1.1 (ci := 5) (q0 := 0) rfl rfl, fun U hU hW => ⟨rfl, hw.rAt U hU hW⟩⟩ rfl hn hsize hst (by show 2 * 0 + _ ≤ 8; omega) hdg hf) hw.2.2.2.2.2 (fun q _ h => hw.2.2.2.1 q h) (fun q h => hw.2.2.2.1 q h) (fun r u t H1 locs1 ht hvm hp hB hz hk hS => kk r u H1 locs1 hp (hw.rStep ht hvm hB hk hS))
theorem l_sld {b L : Nat} {xs : Nat → Int32} (hexec : p.tables.exec = Jvm.exec) (hb : c.code = cc) (hX : va_X b L xs s s.heap) (hbl : b < s.heap.size) (hw : lH K G τ σ s H locs) {n : Nat} (hn : n < L) (hL : L ≤ 5120) (hdg : decode cc pc = .ok (.iaload, 1))
    (kk : W p l e R s m args below meth c H locs cells slots Q (F0 m (pc + 1) ls (.int (xs n) :: rest))) : W p l e R s m args below meth c H locs cells slots Q (F0 m pc ls (.int (nI n) :: .ref b :: rest)) := by
  refine va_sld hexec hb hX hbl (A := lA s) (Nat.not_le.mpr hbl) hw.2.2.2.2.2 (vp_in_nI hn (by omega)) hdg ?_
  rw [nI_clamp (by omega)]
  exact kk
theorem l_cmp {x y : Int64} {off : Int} {tgt : Nat} (hexec : p.tables.exec = Jvm.exec) (hb : c.code = cc) (hd1 : decode cc pc = .ok (.lcmp, 1)) (hd2 : decode cc (pc + 1) = .ok (.ifCond .eq off, 3)) (ht : ((pc + 1 : Nat) : Int) + off = (tgt : Int)) (h : x = y)
    (kt : W p l e R s m args below meth c H locs cells slots Q (F0 m tgt ls rest)) : W p l e R s m args below meth c H locs cells slots Q (F0 m pc ls (.long y :: .long x :: rest)) := by
  subst h
  refine W.lcmp hexec hb hd1 (lv_if_eq hexec hb hd2 ht (fun _ => kt) (fun h => absurd ?_ h))
  unfold lg_cmp
  rw [if_neg (show ¬ x < x from Int64.lt_irrefl), if_pos rfl]
end LK
theorem Rl.rm {τ : cT} {σ : rS} (h : Rl τ σ) : rM σ ≤ 100 := by rw [← h.b.2.2.1]; exact h.b.2.2.2
theorem Rl.rb {τ : cT} {σ : rS} (h : Rl τ σ) : ∀ j, j < 100 → rB σ j < 256 := by rw [← h.b.1]; exact h.b.2.1
theorem rV1_lt : ∀ r, rV1 r < b26 ^ 10 := rV_lt _ (rV_lt _ (rV_lt _ (rV_lt _ (rV_lt _ (rV_lt _ (fun _ => (show 0 < b26 ^ 10 by decide)) (by decide +kernel)) (by decide +kernel)) (by decide +kernel)) (by decide +kernel)) (by decide +kernel)) (by decide +kernel)
theorem Rl.init {u : cT} (hu : cU (csN cτ0 4 0) (va_up (va_up (cV cτ0) 16 bX) 17 bY) u) : Rl u rσ1 := by
  refine Rl.of hu (rU.rfl' rσ1) ?_
  have hM : 0 < rMod 0 := rMod_pos (by decide)
  have z0 : ∀ i, i < 34 → cV cτ0 i = 0 := fun i hi => cV_row hi
  show Rv _ (va_up (fun _ => 1) 4 0) (fun _ => 0) 0 rV1 rn0 (fun _ => 0) 0
  refine ⟨fun i hi => ?_, fun q hq => ?_, fun q hq hz => ?_, fun q hq => ?_, fun r a b => ?_, ?_, ⟨rfl, ?_, ?_⟩, ⟨rfl, rfl, rfl, rfl, rfl, rfl⟩, rV1_lt, fun r a b => ?_, fun r a b => ?_, rfl, fun _ _ => (show 0 < 256 by decide), rfl, (show 0 ≤ 100 by decide)⟩
  · rw [up_ne _ _ (by omega), up_ne _ _ (by omega), z0 i (by omega)]
    unfold rV1
    rw [up_ne _ _ (by omega), up_ne _ _ (by omega), up_ne _ _ (by omega), up_ne _ _ (by omega), up_ne _ _ (by omega), up_ne _ _ (by omega)]
  · rcases (show q = 0 ∨ q = 1 ∨ q = 2 ∨ q = 3 by omega) with rfl | rfl | rfl | rfl <;> rfl
  · rw [up_ne _ _ (by omega)] at hz
    cases hz
  · by_cases e : q = 4
    · rw [e]; decide
    · rw [up_ne _ _ e]; decide
  · by_cases e : r = 17
    · rw [e, up_self]; exact base_on.2.1
    · rw [up_ne _ _ e]
      by_cases e2 : r = 16
      · rw [e2, up_self]; exact base_on.1
      · rw [up_ne _ _ e2, z0 r (by omega)]; exact hM
  · rw [up_ne _ _ (by decide), up_ne _ _ (by decide), up_ne _ _ (by decide), up_ne _ _ (by decide), z0 22 (by decide), z0 23 (by decide)]
    exact ⟨hM, hM⟩
  · rw [up_ne _ _ (by decide), up_self]
  · rw [up_self]
  · show rV1 r < _
    unfold rV1
    rw [up_ne _ _ (by omega), up_ne _ _ (by omega), up_ne _ _ (by omega), up_ne _ _ (by omega), up_ne _ _ (by omega), up_ne _ _ (by omega)]
    exact hM
  · show rV1 r < _
    unfold rV1
    rw [up_ne _ _ (by omega), up_ne _ _ (by omega), up_ne _ _ (by omega), up_ne _ _ (by omega), up_ne _ _ (by omega), up_ne _ _ (by omega)]
    exact hM
