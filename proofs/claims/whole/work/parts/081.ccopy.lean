/-! eight limbs of a row come into another row -/
section CC
variable {p : Program} {l : Launch} {e : Env} {R : Room} {s : State} {m : MethodId} {args : Array Value} {below : List Frame} {meth : Method} {c : Code} {H : Heap} {locs : List Loc} {cells slots : Nat} {Q : State → Prop}
variable {cc : ByteArray} {pc : Nat} {ls : Array Slot} {rest : List Value} {K : cG} {τ : cT}
/-- the heap behind a copy, out of the step that the library has -/
theorem c_behind {T : State} {X2 : Vm} {a q1 : Nat} {ws : va_W} {D : va_G} {cl : List vw_C} {A : Nat → Prop} {H0 : Heap} {cell : Cell} {old new : Nat × va_E} (hP : va_P D cl ws H) (hD : va_D A ws) (hS : va_S A H0 H locs) (hT : T.heap = H) (h1 : ws[q1]? = some old) (h2 : old.1 = a) (h3 : new.1 = a) (hl : a < H.size) (hc : ∀ H1 : Heap, H1[a]? = some cell → va_at D cl new H1) :
    ((T.setVm X2).setCell a cell).heap = H.setIfInBounds a cell ∧ va_P D cl (ws.set q1 new) (H.setIfInBounds a cell) ∧ va_D A (ws.set q1 new) ∧ ∀ ls2 : List Loc, (∀ q ∈ ls2, q.base = a) → va_S A H0 (H.setIfInBounds a cell) (locs ++ ls2) := by
  subst h2
  have oq : ∀ q : Nat, q ≠ old.1 → (H.setIfInBounds old.1 cell)[q]? = H[q]? := fun q hq => by simp [Array.getElem?_setIfInBounds, Ne.symm hq]
  have hat : (H.setIfInBounds old.1 cell)[old.1]? = some cell := by simp [Array.getElem?_setIfInBounds, hl]
  obtain ⟨na, ne⟩ := new
  obtain ⟨oa, oe⟩ := old
  dsimp only at h3 oq hat hc hl ⊢
  subst h3
  have hA : A na := hD.2 q1 _ h1
  refine ⟨by rw [← hT]; rfl, hP.set hD h1 (hc _ hat) oq, hD.set h1, fun ls2 hls => ⟨by simp; exact hS.1, fun q g1 g2 => ?_, fun q hq => ?_⟩⟩
  · rw [oq q (fun e => g2 (by rw [e]; exact hA))]
    exact hS.2.1 q g1 g2
  · rcases List.mem_append.mp hq with h | h
    · exact hS.2.2 q h
    · rw [hls q h]
      exact hA
theorem cpy_dg {va vo : Nat} (ho : vo < b32 ^ 8) : va_cpy (fun k => lN (dg b32 va k)) (fun k => lN (dg b32 vo k)) 0 0 8 = fun k => lN (dg b32 (va % b32 ^ 8) k) := by
  funext k
  unfold va_cpy
  by_cases h : 0 ≤ k ∧ k < 0 + 8
  · rw [if_pos h]
    show lN (dg b32 va (0 + (k - 0))) = _
    rw [show 0 + (k - 0) = k by omega]
    congr 1
    unfold dg
    rw [show (8 : Nat) = k + (8 - k) by omega, Nat.pow_add, Nat.mod_mul_right_div_self, Nat.mod_mod_of_dvd]
    exact ⟨b32 ^ (8 - k - 1), by rw [← Nat.pow_succ']; congr 1; omega⟩
  · rw [if_neg h]
    show lN (dg b32 vo k) = lN (dg b32 (va % b32 ^ 8) k)
    unfold dg
    have h2 : b32 ^ 8 ≤ b32 ^ k := Nat.pow_le_pow_right (by decide) (by omega)
    rw [Nat.div_eq_of_lt (Nat.lt_of_lt_of_le ho h2), Nat.div_eq_of_lt (Nat.lt_of_lt_of_le (Nat.mod_lt _ (Nat.pow_pos (by decide))) h2)]
theorem c_copyT {own : String} {index : Nat} (hexec : p.tables.exec = Jvm.exec) (hb : c.code = cc) (hml : c.maxLocals = ls.size) (ht : ∀ w ∈ zT, w.before args s = true) (hown : s.vm.findClass own = some m.cls) (hlink : (Cond.methodLink own index arraycopyName).before args s = true) (hnat : (Cond.native arraycopyName).before args s = true) (hstat : (Cond.static arraycopyName).before args s = true) (hw : cH K τ s H locs) (hok : cOk τ) {o i : Nat} (ho : o < 32) (h34 : 34 ≤ i) (hi : i < 44)
    (hR : 1 ≤ R.frames) (hlo : (rest.map fun v => v.category).sum + (nativeFrameWords "java/lang/System" "arraycopy" 5 + 11) ≤ R.locals) (hdg : decode cc pc = .ok (.invokestatic index, 3))
    (kk : ∀ (H1 : Heap) (locs1 : List Loc), cH K (csV τ o (cV τ i % b32 ^ 8)) s H1 locs1 → W p l e R s m args below meth c H1 locs1 cells slots Q (F0 m (pc + 3) ls rest)) : W p l e R s m args below meth c H locs cells slots Q (F0 m pc ls (.int (nI 8) :: .int (nI 0) :: .ref (cR K o) :: .int (nI 0) :: .ref (cR K i) :: rest)) := by
  intro T hT X
  obtain ⟨hP, hK, hD, hS, h0⟩ := hw
  have hrl : rl i = 8 := by unfold rl; rw [if_neg (by omega), if_neg (by omega), if_pos hi]
  have hro : rl o = 8 := if_pos ho
  have hvo : τ.1 o < b32 ^ 8 := by have h := hok o (by omega); rw [cV_row (by omega), hro] at h; exact h
  obtain ⟨scr, hs1, ⟨hs6, k0, hk0, cm0, hkk0⟩, hs3, hs4, hs4', hs5, hs7⟩ := (h0.2 i h34 (by omega)).1
  rw [hrl] at hs4 hs5
  have hc0 : H[cR K i]? = some scr := by rw [hS.2.1 _ (Array.getElem?_eq_some_iff.mp hs1).1 hs7]; exact hs1
  have hrow := cWs_row K τ (show o < 34 by omega)
  have hc1 : H[cR K o]? = some (vp_cell K.2.2.2.2.2.1 (rl o, .inr (.inl (fun k => lN (dg b32 (τ.1 o) k))))) := hP _ _ hrow
  rw [hro] at hc1
  obtain ⟨-, k1, hk1, cm1, hkk1⟩ := (hK.2 1 _ rfl).1 8 (fun j => .long (lN (dg b32 (τ.1 o) j)))
  have n0 : (nI 0).toNatClampNeg = 0 := nI_clamp (by decide)
  have n8 : (nI 8).toNatClampNeg = 8 := nI_clamp (by decide)
  obtain ⟨vm', X', step⟩ := X.arraycopy hexec hown hlink hnat hstat (ht _ ki_Y) (src := cR K i) (dst := cR K o) (cs := scr) (cd := vp_cell K.2.2.2.2.2.1 (8, .inr (.inl (fun k => lN (dg b32 (τ.1 o) k))))) (srcPos := nI 0) (destPos := nI 0) (n := nI 8) (by rw [hT]; exact hc0) (by rw [hT]; exact hc1)
    hs6 (fun _ h => by cases h) hs3 (fun h => by cases h) hk0 hk1 hkk0 hkk1 (by simp [refKind]) (by decide) (by decide) (by decide)
    (by rw [show (nI 0).toInt = 0 by decide, show (nI 8).toInt = 8 by decide]; omega)
    (by rw [show (nI 0).toInt = 0 by decide, show (nI 8).toInt = 8 by decide]; show ¬ _ > ((arrV _ 8 _).slots.size : Int); rw [arrV_size]; decide)
    (fun vm₁ _ j hj => by
      rw [n8] at hj
      have e : scr.slots.getD ((nI 0).toNatClampNeg + j) .null = .long (lN (dg b32 (cst i) j)) := by
        rw [Array.getD_eq_getD_getElem?, n0, Nat.zero_add, hs5 _ hj]
        rfl
      rw [e]
      exact ⟨rfl, trivial⟩)
    (g := F0 m pc ls _) rfl (by rw [hml]) (rest := rest) rfl (by rw [hb]; exact hdg) hR (by show 2 * 0 + _ + _ ≤ _; omega)
  have e1 : copied scr (vp_cell K.2.2.2.2.2.1 (8, .inr (.inl (fun k => lN (dg b32 (τ.1 o) k))))) (nI 0) (nI 0) (nI 8) = vp_cell K.2.2.2.2.2.1 (8, .inr (.inl (fun k => lN (dg b32 (cst i % b32 ^ 8) k)))) := by
    have h := va_copiedX (fun z => Value.long z) scr K.2.2.2.2.2.1 (n0 := 8) (n1 := 8) (sp := 0) (dp := 0) (n := 8) (fun k => lN (dg b32 (cst i) k)) (fun k => lN (dg b32 (τ.1 o) k)) hs5 (by decide)
    rw [cpy_dg hvo] at h
    exact h
  rw [e1] at X' step
  have hl : cR K o < H.size := (Array.getElem?_eq_some_iff.mp hc1).1
  obtain ⟨j1, j2, j3, j4⟩ := c_behind (T := T) (X2 := vm') (a := cR K o) (q1 := 14 + o) (cell := vp_cell K.2.2.2.2.2.1 (8, .inr (.inl (fun k => lN (dg b32 (cst i % b32 ^ 8) k))))) (new := (cR K o, .inl (K.2.2.2.2.2.1, rl o, .inr (.inl (fun k => lN (dg b32 (cst i % b32 ^ 8) k)))))) hP hD hS hT hrow rfl rfl hl (fun H1 h => by rw [hro]; exact h)
  rw [cWs_set K τ _ (by omega)] at j2 j3
  rw [cV_st h34] at kk
  have hk := fun hh => kk _ _ hh _ j1 X'
  obtain ⟨t, a1, b1⟩ := hk ⟨j2, hK, j3, j4 _ (fun q hq => by
    obtain ⟨z, -, hz⟩ := List.mem_map.mp hq
    rw [← hz]), h0⟩
  exact ⟨t, step t a1, b1⟩
theorem c_copyR {own : String} {index : Nat} (hexec : p.tables.exec = Jvm.exec) (hb : c.code = cc) (hml : c.maxLocals = ls.size) (ht : ∀ w ∈ zT, w.before args s = true) (hown : s.vm.findClass own = some m.cls) (hlink : (Cond.methodLink own index arraycopyName).before args s = true) (hnat : (Cond.native arraycopyName).before args s = true) (hstat : (Cond.static arraycopyName).before args s = true) (hw : cH K τ s H locs) (hok : cOk τ) {o i : Nat} (ho : o < 32) (hi : i < 44)
    (hR : 1 ≤ R.frames) (hlo : (rest.map fun v => v.category).sum + (nativeFrameWords "java/lang/System" "arraycopy" 5 + 11) ≤ R.locals) (hdg : decode cc pc = .ok (.invokestatic index, 3))
    (kk : ∀ (H1 : Heap) (locs1 : List Loc), cH K (csV τ o (cV τ i % b32 ^ 8)) s H1 locs1 → W p l e R s m args below meth c H1 locs1 cells slots Q (F0 m (pc + 3) ls rest)) : W p l e R s m args below meth c H locs cells slots Q (F0 m pc ls (.int (nI 8) :: .int (nI 0) :: .ref (cR K o) :: .int (nI 0) :: .ref (cR K i) :: rest)) := by
  by_cases h : i < 34
  · have hro : rl o = 8 := if_pos ho
    have hri : 8 ≤ rl i := by unfold rl; split; exact Nat.le_refl _; decide
    have hvo : τ.1 o < b32 ^ 8 := by have h := hok o (by omega); rw [cV_row (by omega), hro] at h; exact h
    obtain ⟨hP, hK, hD, hS, h0⟩ := hw
    have n0 : (nI 0).toNatClampNeg = 0 := nI_clamp (by decide)
    have n8 : (nI 8).toNatClampNeg = 8 := nI_clamp (by decide)
    refine va_copyl hexec hb hml hown hlink hnat hstat (ht _ ki_Y) hK hP hD hS (14 + i) (14 + o) 1 1 (cWs_row K τ h) (cWs_row K τ (show o < 34 by omega)) rfl rfl rfl (by decide) (by decide) (by decide) (by rw [n0, n8]; omega) (by rw [n0, n8, hro]; decide) (fun _ _ => rfl) hR hlo hdg (fun H1 locs1 hP1 hD1 hS1 => ?_)
    rw [n0, n8, cpy_dg hvo, cWs_set K τ _ (by omega)] at hP1 hD1
    rw [cV_row h] at kk
    exact kk H1 locs1 ⟨hP1, hK, hD1, hS1, h0⟩
  · exact c_copyT hexec hb hml ht hown hlink hnat hstat hw hok ho (by omega) hi hR hlo hdg kk
end CC
