/-! the class's world: objects 0..13 (desk hand bytes registers spots field order curve, points 8..13), rows 0..33 (registers 0..7, points' x and y 8..19, first 20, second 21, the curve's x y z a b c 22..27, raised 28 29, high 30 31, wide 32 33), static rows 34..45 -/
abbrev cG : Type := va_G × (Nat → Prop) × (Nat → Nat) × (Nat → Nat) × ClassId × ClassId × ClassId × ClassId
abbrev cT : Type := (Nat → Nat) × (Nat → Nat) × (Nat → Nat) × Nat
abbrev cAA (K : cG) : Nat → Prop := K.2.1
abbrev cO (K : cG) (j : Nat) : Nat := K.2.2.1 j
abbrev cR (K : cG) (i : Nat) : Nat := K.2.2.2.1 i
abbrev cN (τ : cT) : Nat → Nat := τ.2.1
abbrev cB (τ : cT) : Nat → Nat := τ.2.2.1
abbrev cM (τ : cT) : Nat := τ.2.2.2
abbrev b32 : Nat := 4294967296
def bX : Nat := 55066263022277343669578718895168534326250603453777594175500187360389116729240
def bY : Nat := 32670510020758816978083085130507043184471273380659243275938904335757337482424
def cst (i : Nat) : Nat := if i = 34 then 0 else if i = 35 then 1 else if i = 36 then 7 else if i = 37 then ec_P else if i = 38 then ec_P - 2 else if i = 39 then (ec_P + 1) / 4 else if i = 40 then ec_N else if i = 41 then ec_N - 2 else if i = 42 then bX else if i = 43 then bY else if i = 44 then 2 ^ 256 - ec_P else 2 ^ 256 - ec_N
def rl (i : Nat) : Nat := if i < 32 then 8 else if i < 34 then 16 else if i < 44 then 8 else if i = 44 then 2 else 5
def cnm (i : Nat) : String := if i = 34 then "ZERO" else if i = 35 then "ONE" else if i = 36 then "SEVEN" else if i = 37 then "P" else if i = 38 then "P_LESS_TWO" else if i = 39 then "P_MORE_ONE_BY_FOUR" else if i = 40 then "N" else if i = 41 then "N_LESS_TWO" else if i = 42 then "BASE_X" else if i = 43 then "BASE_Y" else if i = 44 then "P_GAP" else "N_GAP"
def cV (τ : cT) (i : Nat) : Nat := if i < 34 then τ.1 i else cst i
abbrev csV (τ : cT) (i x : Nat) : cT := (va_up τ.1 i x, τ.2)
abbrev csN (τ : cT) (j x : Nat) : cT := (τ.1, va_up τ.2.1 j x, τ.2.2)
abbrev csB (τ : cT) (j x : Nat) : cT := (τ.1, τ.2.1, va_up τ.2.2.1 j x, τ.2.2.2)
abbrev csM (τ : cT) (x : Nat) : cT := (τ.1, τ.2.1, τ.2.2.1, x)
def cRow (K : cG) (τ : cT) (i : Nat) : Nat × va_E := (cR K i, .inl (K.2.2.2.2.2.1, rl i, .inr (.inl (fun k => lN (dg b32 (τ.1 i) k)))))
def cPnt (K : cG) (τ : cT) (j : Nat) : Nat × va_E := (cO K (8 + j), .inr (3, [.int (nI (cN τ j)), .ref (cR K (8 + 2 * j)), .ref (cR K (9 + 2 * j))]))
def cMods (K : cG) (μ : Nat) : List Value := [.ref (cR K (37 + 3 * μ)), .ref (cR K (44 + μ)), .ref (cR K (38 + 3 * μ)), .ref (cR K (32 + μ)), .ref (cR K (30 + μ)), .ref (cR K (28 + μ))]
def cDesk (K : cG) : List Value := [.ref (cO K 3), .ref (cO K 4), .ref (cO K 1), .ref (cO K 5), .ref (cO K 6), .ref (cO K 7), .ref (cO K 12), .ref (cO K 13), .ref (cR K 20), .ref (cR K 21)]
def cCurv (K : cG) : List Value := [.ref (cO K 5), .ref (cR K 22), .ref (cR K 23), .ref (cR K 24), .ref (cR K 25), .ref (cR K 26), .ref (cR K 27)]
def cObj (K : cG) (τ : cT) : va_W := [(cO K 0, .inr (4, cDesk K)), (cO K 1, .inr (1, [.ref (cO K 2), .int (nI (cM τ))])), (cO K 2, .inl (K.2.2.2.2.1, 100, .inl (fun k => nI (cB τ k)))),
  (cO K 3, .inl (K.2.2.2.2.2.2.1, 8, .inr (.inr (.inr (.inr (fun i => if i < 8 then some (cR K i) else none)))))), (cO K 4, .inl (K.2.2.2.2.2.2.2, 4, .inr (.inr (.inr (.inr (fun i => if i < 4 then some (cO K (8 + i)) else none)))))),
  (cO K 5, .inr (2, cMods K 0)), (cO K 6, .inr (2, cMods K 1)), (cO K 7, .inr (0, cCurv K)), cPnt K τ 0, cPnt K τ 1, cPnt K τ 2, cPnt K τ 3, cPnt K τ 4, cPnt K τ 5]
def cWs (K : cG) (τ : cT) : va_W := cObj K τ ++ (List.range 34).map (cRow K τ)
def cTy (K : cG) : List (ClassId × FieldType) := [(K.2.2.2.2.1, .int), (K.2.2.2.2.2.1, .long), (K.2.2.2.2.2.2.1, .array .long), (K.2.2.2.2.2.2.2, .object "CurveDesk$Point")]
def cS (K : cG) (s : State) (H : Heap) : Prop := (∀ w ∈ zN, va_Nw w s) ∧ ∀ i, 34 ≤ i → i < 46 → va_T .long (cR K i) (rl i) (fun k => .long (lN (dg b32 (cst i) k))) (cAA K) s H ∧ va_Z "CurveDesk" (cnm i) "[J" (.ref (cR K i)) (cAA K) s H
abbrev cH (K : cG) (τ : cT) (s : State) (H : Heap) (locs : List Loc) : Prop := zH K.1 zcl (cTy K) (cAA K) (cS K) (cWs K τ) s H locs
abbrev cC (K : cG) (τ : cT) (U : State) : Prop := zC K.1 zcl (cTy K) (cAA K) (cS K) (cWs K τ) U
theorem zN_warm {s U : State} (hW : s.WarmedH U.vm) : ∀ w ∈ zN, va_Nw w s → va_Nw w U := by
  intro w hw
  simp only [zN, List.mem_cons, List.not_mem_nil, or_false] at hw
  rcases hw with rfl | rfl | rfl | rfl | rfl | rfl | rfl | rfl | rfl | rfl
  · exact fun h => h.warmM hW
  · exact fun h => h.warmM hW
  all_goals exact fun h => h.warmF hW
theorem zN_tab : ∀ w ∈ zN, w.onTables = true := by decide
theorem cZ (K : cG) : zS (cAA K) (cS K) := by
  refine ⟨fun s U hW hk h => ⟨fun w hw => zN_warm hW w hw (h.1 w hw), fun i h1 h2 => ?_⟩, fun U g mk a h => ⟨fun w hw => ?_, fun i h1 h2 => ?_⟩⟩
  · exact ⟨((h.2 i h1 h2).1.moved hW.alike).kept hk, ((h.2 i h1 h2).2.moved hW.alike).kept hk⟩
  · exact va_Nw.same (u := U) (U := U.calling g mk a) (zN_tab w hw) rfl (h.1 w hw)
  · exact ⟨(h.2 i h1 h2).1.moved (Vm.Alike.refl U.vm), (h.2 i h1 h2).2.moved (Vm.Alike.refl U.vm)⟩
theorem cWs_row (K : cG) (τ : cT) {i : Nat} (hi : i < 34) : (cWs K τ)[14 + i]? = some (cRow K τ i) := by
  unfold cWs
  rw [List.getElem?_append_right (by show 14 ≤ _; omega), show 14 + i - (cObj K τ).length = i by show 14 + i - 14 = i; omega, List.getElem?_map, List.getElem?_range hi]
  rfl
theorem cWs_pnt (K : cG) (τ : cT) {j : Nat} (hj : j < 6) : (cWs K τ)[8 + j]? = some (cPnt K τ j) := by
  rcases (show j = 0 ∨ j = 1 ∨ j = 2 ∨ j = 3 ∨ j = 4 ∨ j = 5 by omega) with rfl | rfl | rfl | rfl | rfl | rfl <;> rfl
theorem cWs_mod (K : cG) (τ : cT) {μ : Nat} (hμ : μ < 2) : (cWs K τ)[5 + μ]? = some (cO K (5 + μ), .inr (2, cMods K μ)) := by
  rcases (show μ = 0 ∨ μ = 1 by omega) with rfl | rfl <;> rfl
theorem cWs_set (K : cG) (τ : cT) {i : Nat} (x : Nat) (hi : i < 34) : (cWs K τ).set (14 + i) (cR K i, .inl (K.2.2.2.2.2.1, rl i, .inr (.inl (fun k => lN (dg b32 x k))))) = cWs K (csV τ i x) := by
  unfold cWs
  rw [List.set_append_right _ _ (by show 14 ≤ _; omega), show 14 + i - (cObj K τ).length = i by show 14 + i - 14 = i; omega]
  congr 1
  apply List.ext_getElem?
  intro k
  rw [List.getElem?_set, List.length_map, List.length_range]
  by_cases h : i = k
  · subst h
    rw [if_pos rfl, if_pos hi, List.getElem?_map, List.getElem?_range hi]
    show some _ = some (cRow K (csV τ i x) i)
    unfold cRow
    rw [show (csV τ i x).1 i = x from up_self _ _ _]
  · rw [if_neg h, List.getElem?_map, List.getElem?_map]
    by_cases h3 : k < 34
    · rw [List.getElem?_range h3]
      show some (cRow K τ k) = some (cRow K (csV τ i x) k)
      unfold cRow
      rw [show (csV τ i x).1 k = τ.1 k from up_ne _ _ (Ne.symm h)]
    · rw [List.getElem?_eq_none (by rw [List.length_range]; omega)]
      rfl
theorem cV_row {τ : cT} {i : Nat} (hi : i < 34) : cV τ i = τ.1 i := if_pos hi
theorem cV_st {τ : cT} {i : Nat} (hi : 34 ≤ i) : cV τ i = cst i := if_neg (by omega)
theorem cV_up {τ : cT} {o : Nat} (x : Nat) (ho : o < 34) (i : Nat) : cV (csV τ o x) i = if i = o then x else cV τ i := by
  unfold cV
  by_cases h : i = o
  · subst h
    rw [if_pos ho, if_pos rfl]
    exact up_self _ _ _
  · rw [if_neg h]
    by_cases h2 : i < 34
    · rw [if_pos h2, if_pos h2]
      exact up_ne _ _ h
    · rw [if_neg h2, if_neg h2]
theorem cV_self {τ : cT} {o : Nat} (x : Nat) (ho : o < 34) : cV (csV τ o x) o = x := by rw [cV_up x ho, if_pos rfl]
theorem cV_ne {τ : cT} {o : Nat} (x : Nat) (ho : o < 34) {i : Nat} (h : i ≠ o) : cV (csV τ o x) i = cV τ i := by rw [cV_up x ho, if_neg h]
theorem rl_lt (i : Nat) : rl i < 17 := by unfold rl; split; decide; split; decide; split; decide; split <;> decide
/-- the numbers fit their rows -/
def cOk (τ : cT) : Prop := ∀ i, i < 34 → cV τ i < b32 ^ rl i
theorem cOk.up {τ : cT} (h : cOk τ) {o x : Nat} (ho : o < 34) (hx : x < b32 ^ rl o) : cOk (csV τ o x) := by
  intro i hi
  rw [cV_up x ho]
  split
  · next e => rw [e]; exact hx
  · exact h i hi
section CK
variable {p : Program} {l : Launch} {e : Env} {R : Room} {s : State} {m : MethodId} {args : Array Value} {below : List Frame} {meth : Method} {c : Code} {H : Heap} {locs : List Loc} {cells slots : Nat} {Q : State → Prop}
variable {cc : ByteArray} {pc : Nat} {ls : Array Slot} {rest : List Value} {K : cG} {τ : cT}
/-- an element of a row -/
theorem c_ld (hexec : p.tables.exec = Jvm.exec) (hb : c.code = cc) (hw : cH K τ s H locs) {i k : Nat} (hi : i < 46) (hk : k < rl i) (hdg : decode cc pc = .ok (.laload, 1))
    (kk : W p l e R s m args below meth c H locs cells slots Q (F0 m (pc + 1) ls (.long (lN (dg b32 (cV τ i) k)) :: rest))) : W p l e R s m args below meth c H locs cells slots Q (F0 m pc ls (.int (nI k) :: .ref (cR K i) :: rest)) := by
  have hr := rl_lt i
  by_cases h : i < 34
  · rw [cV_row h] at kk
    refine va_lald hexec hb hw.2.1 hw.1 (14 + i) 1 (cWs_row K τ h) rfl (vp_in_nI hk (by omega)) hdg ?_
    rw [nI_clamp (by omega)]
    exact kk
  · rw [cV_st (by omega)] at kk
    refine va_tl hexec hb (hw.2.2.2.2.2 i (by omega) hi).1 hw.2.2.2.1 (vp_in_nI hk (by omega)) ?_ hdg kk
    rw [nI_clamp (by omega)]
theorem upL_ds {v k x : Nat} (hx : x < b32) : vp_updL (fun j => lN (dg b32 v j)) k (lN x) = fun j => lN (dg b32 (ds b32 v k x) j) := by
  funext j
  unfold vp_updL
  rw [ds_dg (by decide) v hx j]
  by_cases h : j = k
  · rw [if_pos h, if_pos h]
  · rw [if_neg h, if_neg h]
theorem c_st (hexec : p.tables.exec = Jvm.exec) (hb : c.code = cc) (hw : cH K τ s H locs) {i k x : Nat} (hi : i < 34) (hk : k < rl i) (hx : x < b32) (hdg : decode cc pc = .ok (.lastore, 1))
    (kk : ∀ (H1 : Heap) (locs1 : List Loc), cH K (csV τ i (ds b32 (cV τ i) k x)) s H1 locs1 → W p l e R s m args below meth c H1 locs1 cells slots Q (F0 m (pc + 1) ls rest)) : W p l e R s m args below meth c H locs cells slots Q (F0 m pc ls (.long (lN x) :: .int (nI k) :: .ref (cR K i) :: rest)) := by
  have hr := rl_lt i
  obtain ⟨hP, hK, hD, hS, h0⟩ := hw
  refine va_last hexec hb hK hP hD hS (14 + i) 1 (cWs_row K τ hi) rfl (vp_in_nI hk (by omega)) hdg (fun H1 locs1 hP1 hD1 hS1 => ?_)
  rw [nI_clamp (show k < 2 ^ 31 by omega), upL_ds hx, cWs_set K τ _ hi] at hP1 hD1
  rw [cV_row hi] at kk
  exact kk H1 locs1 ⟨hP1, hK, hD1, hS1, h0⟩
/-- the length of a row -/
theorem c_len (hexec : p.tables.exec = Jvm.exec) (hb : c.code = cc) (hw : cH K τ s H locs) {i : Nat} (hi : i < 46) (hdg : decode cc pc = .ok (.arraylength, 1))
    (kk : W p l e R s m args below meth c H locs cells slots Q (F0 m (pc + 1) ls (.int (nI (rl i)) :: rest))) : W p l e R s m args below meth c H locs cells slots Q (F0 m pc ls (.ref (cR K i) :: rest)) := by
  by_cases h : i < 34
  · exact va_alen hexec hb hw.2.1 hw.1 (14 + i) 1 (cWs_row K τ h) rfl rfl hdg kk
  · exact va_tlen hexec hb (hw.2.2.2.2.2 i (by omega) hi).1 hw.2.2.2.1 rfl hdg kk
/-- a static row's address -/
theorem c_gets (hexec : p.tables.exec = Jvm.exec) (hb : c.code = cc) (ht : ∀ w ∈ zT, w.before args s = true) (hown : s.vm.findClass R_D = some m.cls) (hw : cH K τ s H locs) (i : Nat) (h1 : 34 ≤ i) (hi : i < 46) {index : Nat} (hlink : Cond.fieldLink R_D index "CurveDesk" (cnm i) "[J" ∈ zT) (hdg : decode cc pc = .ok (.getstatic index, 3))
    (kk : W p l e R s m args below meth c H locs cells slots Q (F0 m (pc + 3) ls (.ref (cR K i) :: rest))) : W p l e R s m args below meth c H locs cells slots Q (F0 m pc ls rest) :=
  va_gets hexec hb (hw.2.2.2.2.2 i h1 hi).2 hw.2.2.2.1 hown (ht _ hlink) (fun _ h => h) hdg kk
theorem c_getsN (hexec : p.tables.exec = Jvm.exec) (hb : c.code = cc) {own : String} (hown : s.vm.findClass own = some m.cls) (hw : cH K τ s H locs) (i : Nat) (h1 : 34 ≤ i) (hi : i < 46) {index : Nat} (hlink : Cond.fieldLinkNest own index "CurveDesk" (cnm i) "[J" "CurveDesk" ∈ zN) (hdg : decode cc pc = .ok (.getstatic index, 3))
    (kk : W p l e R s m args below meth c H locs cells slots Q (F0 m (pc + 3) ls (.ref (cR K i) :: rest))) : W p l e R s m args below meth c H locs cells slots Q (F0 m pc ls rest) :=
  va_getsN hexec hb (hw.2.2.2.2.2 i h1 hi).2 hw.2.2.2.1 hown (va_Nw.use rfl (hw.2.2.2.2.1 _ hlink)) (fun _ h => h) hdg kk
/-- a row out of the registers, a point out of the spots -/
theorem c_reg (hexec : p.tables.exec = Jvm.exec) (hb : c.code = cc) (hw : cH K τ s H locs) {i : Nat} (hi : i < 8) (hdg : decode cc pc = .ok (.aaload, 1))
    (kk : W p l e R s m args below meth c H locs cells slots Q (F0 m (pc + 1) ls (.ref (cR K i) :: rest))) : W p l e R s m args below meth c H locs cells slots Q (F0 m pc ls (.int (nI i) :: .ref (cO K 3) :: rest)) := by
  have hin : vp_in (nI i) 8 := vp_in_nI hi (by decide)
  have hc : (nI i).toNatClampNeg = i := nI_clamp (by omega)
  refine W.aald (v := .ref (cR K i)) (ty := .array .long) hexec hb (hw.1 3 _ rfl) ((hw.2.1.2 2 _ rfl).1 8 (fun j => va_rf (if j < 8 then some (cR K j) else none))) rfl (fun q => by cases q) (by show ¬ (nI i < 0 ∨ (arrV _ _ _).slots.size ≤ _); rw [arrV_size]; exact hin) ?_ rfl rfl hdg kk
  show (arrV _ _ _).slots[_]? = _
  rw [hc, arrV_read _ _ hi]
  show some (va_rf (if i < 8 then some (cR K i) else none)) = _
  rw [if_pos hi]
  rfl
theorem c_spt (hexec : p.tables.exec = Jvm.exec) (hb : c.code = cc) (hw : cH K τ s H locs) {i : Nat} (hi : i < 4) (hdg : decode cc pc = .ok (.aaload, 1))
    (kk : W p l e R s m args below meth c H locs cells slots Q (F0 m (pc + 1) ls (.ref (cO K (8 + i)) :: rest))) : W p l e R s m args below meth c H locs cells slots Q (F0 m pc ls (.int (nI i) :: .ref (cO K 4) :: rest)) := by
  refine va_aldq hexec hb hw.2.1 hw.1 4 3 rfl rfl (vp_in_nI hi (by decide)) hdg ?_
  rw [nI_clamp (by omega), if_pos hi]
  exact kk
/-- the bytes in hand -/
theorem c_bld (hexec : p.tables.exec = Jvm.exec) (hb : c.code = cc) (hw : cH K τ s H locs) {n : Nat} (hn : n < 100) (hdg : decode cc pc = .ok (.iaload, 1))
    (kk : W p l e R s m args below meth c H locs cells slots Q (F0 m (pc + 1) ls (.int (nI (cB τ n)) :: rest))) : W p l e R s m args below meth c H locs cells slots Q (F0 m pc ls (.int (nI n) :: .ref (cO K 2) :: rest)) := by
  refine va_iald hexec hb hw.2.1 hw.1 2 0 rfl rfl (vp_in_nI hn (by decide)) hdg ?_
  rw [nI_clamp (by omega)]
  exact kk
theorem c_bst (hexec : p.tables.exec = Jvm.exec) (hb : c.code = cc) (hw : cH K τ s H locs) {n x : Nat} (hn : n < 100) (hdg : decode cc pc = .ok (.iastore, 1))
    (kk : ∀ (H1 : Heap) (locs1 : List Loc), cH K (csB τ n x) s H1 locs1 → W p l e R s m args below meth c H1 locs1 cells slots Q (F0 m (pc + 1) ls rest)) : W p l e R s m args below meth c H locs cells slots Q (F0 m pc ls (.int (nI x) :: .int (nI n) :: .ref (cO K 2) :: rest)) := by
  obtain ⟨hP, hK, hD, hS, h0⟩ := hw
  refine va_iast hexec hb hK hP hD hS 2 0 rfl rfl (vp_in_nI hn (by decide)) hdg (fun H1 locs1 hP1 hD1 hS1 => ?_)
  rw [nI_clamp (show n < 2 ^ 31 by omega), up_nI] at hP1 hD1
  exact kk H1 locs1 ⟨hP1, hK, hD1, hS1, h0⟩
/-- count and none are written -/
theorem c_putM (hexec : p.tables.exec = Jvm.exec) (hb : c.code = cc) (ht : ∀ w ∈ zT, w.before args s = true) (hown : s.vm.findClass R_H = some m.cls) (hw : cH K τ s H locs) {index x : Nat} (hlink : (Cond.fieldLink R_H index R_H "count" "I").before args s = true) (hdg : decode cc pc = .ok (.putfield index, 3))
    (kk : ∀ (H1 : Heap) (locs1 : List Loc), cH K (csM τ x) s H1 locs1 → W p l e R s m args below meth c H1 locs1 cells slots Q (F0 m (pc + 3) ls rest)) : W p l e R s m args below meth c H locs cells slots Q (F0 m pc ls (.int (nI x) :: .ref (cO K 1) :: rest)) := by
  obtain ⟨hP, hK, hD, hS, h0⟩ := hw
  exact va_put (ci := 1) (v := .int (nI x)) (ty := .int) (C := R_H) (T := F_H) (N := 2) hexec hb ht ku_H t_H t_H_ok n_H hown hK hP hD hS 1 rfl rfl 1 (by decide) hlink (fun _ h9 => h9) rfl rfl rfl rfl (show 1 < 2 by decide) hdg (fun H1 locs1 hP1 hD1 hS1 => kk H1 locs1 ⟨hP1, hK, hD1, hS1, h0⟩)
end CK
