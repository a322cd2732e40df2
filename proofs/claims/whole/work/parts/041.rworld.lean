/-! the reference: its one object and its six arrays -/
/-- what stays: numbers of kinds, which cells may change, the addresses, the kinds of the arrays -/
abbrev rG : Type := va_G × (Nat → Prop) × (Nat → Nat) × ClassId × ClassId × ClassId
/-- what changes: the rows' numbers, the two long rows, the marks, the bytes, how many -/
abbrev rS : Type := (Nat → Nat) × (Nat → Nat) × (Nat → Nat) × (Nat → Nat) × (Nat → Nat) × Nat
abbrev rV (σ : rS) : Nat → Nat := σ.1
abbrev rP (σ : rS) : Nat → Nat := σ.2.1
abbrev rF (σ : rS) : Nat → Nat := σ.2.2.1
abbrev rN (σ : rS) : Nat → Nat := σ.2.2.2.1
abbrev rB (σ : rS) : Nat → Nat := σ.2.2.2.2.1
abbrev rM (σ : rS) : Nat := σ.2.2.2.2.2
abbrev rsV (σ : rS) (V : Nat → Nat) : rS := (V, σ.2)
abbrev rsP (σ : rS) (P : Nat → Nat) : rS := (σ.1, P, σ.2.2)
abbrev rsF (σ : rS) (F : Nat → Nat) : rS := (σ.1, σ.2.1, F, σ.2.2.2)
abbrev rsN (σ : rS) (N : Nat → Nat) : rS := (σ.1, σ.2.1, σ.2.2.1, N, σ.2.2.2.2)
abbrev rsB (σ : rS) (B : Nat → Nat) : rS := (σ.1, σ.2.1, σ.2.2.1, σ.2.2.2.1, B, σ.2.2.2.2.2)
abbrev rsM (σ : rS) (M : Nat) : rS := (σ.1, σ.2.1, σ.2.2.1, σ.2.2.2.1, σ.2.2.2.2.1, M)
abbrev rA (G : rG) (i : Nat) : Nat := G.2.2.1 i
abbrev rAA (G : rG) : Nat → Prop := G.2.1
abbrev b26 : Nat := 67108864
def ec_N : Nat := 115792089237316195423570985008687907852837564279074904382605163141518161494337
/-- what 2 ^ 256 is more than a modulus -/
def rRest (k : Nat) : Nat := if k < 10 then dg b26 (2 ^ 256 - ec_P) k else dg b26 (2 ^ 256 - ec_N) (k - 10)
def rFs (G : rG) (σ : rS) : List Value := [.ref (rA G 1), .ref (rA G 2), .ref (rA G 3), .ref (rA G 4), .ref (rA G 5), .ref (rA G 6), .int (nI (rM σ))]
def rRows (σ : rS) : Nat → Int32 := fun k => nI (dg b26 (rV σ (k / 10)) (k % 10))
def rWs (G : rG) (σ : rS) : va_W := [(rA G 0, .inr (5, rFs G σ)), (rA G 1, .inl (G.2.2.2.1, 480, .inl (rRows σ))), (rA G 2, .inl (G.2.2.2.2.1, 22, .inr (.inl (fun k => lN (rP σ k))))), (rA G 3, .inl (G.2.2.2.2.1, 22, .inr (.inl (fun k => lN (rF σ k))))),
  (rA G 4, .inl (G.2.2.2.1, 20, .inl (fun k => nI (rRest k)))), (rA G 5, .inl (G.2.2.2.2.2, 4, .inl (fun k => nI (rN σ k)))), (rA G 6, .inl (G.2.2.2.1, 100, .inl (fun k => nI (rB σ k))))]
def rTy (G : rG) : List (ClassId × FieldType) := [(G.2.2.2.1, .int), (G.2.2.2.2.1, .long), (G.2.2.2.2.2, .boolean)]
abbrev r0 : State → Heap → Prop := fun _ _ => True
abbrev rH (G : rG) (σ : rS) (s : State) (H : Heap) (locs : List Loc) : Prop := zH G.1 zcl (rTy G) (rAA G) r0 (rWs G σ) s H locs
abbrev rC (G : rG) (σ : rS) (U : State) : Prop := zC G.1 zcl (rTy G) (rAA G) r0 (rWs G σ) U
theorem rZ (A : Nat → Prop) : zS A r0 := ⟨fun _ _ _ _ _ => trivial, fun _ _ _ _ _ => trivial⟩
theorem up_self {α : Type} (f : Nat → α) (k : Nat) (v : α) : va_up f k v k = v := if_pos rfl
theorem up_ne {α : Type} (f : Nat → α) {k j : Nat} (v : α) (h : j ≠ k) : va_up f k v j = f j := if_neg h
section RK
variable {p : Program} {l : Launch} {e : Env} {R : Room} {s : State} {m : MethodId} {args : Array Value} {below : List Frame} {meth : Method} {c : Code} {H : Heap} {locs : List Loc} {cells slots : Nat} {Q : State → Prop}
variable {cc : ByteArray} {pc : Nat} {ls : Array Slot} {rest : List Value} {G : rG} {σ : rS}
theorem r_get (hexec : p.tables.exec = Jvm.exec) (hb : c.code = cc) (ht : ∀ w ∈ zT, w.before args s = true) (hown : s.vm.findClass R_R = some m.cls) (hw : rH G σ s H locs) (k : Nat) (hk : k < 7) {index : Nat} (hlink : (Cond.fieldLink R_R index R_R (F_R k).2.1 (F_R k).2.2.1).before args s = true) {v : Value} (hv : (rFs G σ)[k]? = some v) (hdg : decode cc pc = .ok (.getfield index, 3))
    (hsame : ∀ x, s.fieldFound? (F_R k).1 (F_R k).2.1 (F_R k).2.2.1 = some x → s.fieldFound? R_R (F_R k).2.1 (F_R k).2.2.1 = some x)
    (kk : W p l e R s m args below meth c H locs cells slots Q (F0 m (pc + 3) ls (v :: rest))) : W p l e R s m args below meth c H locs cells slots Q (F0 m pc ls (.ref (rA G 0) :: rest)) :=
  va_get (ci := 5) (C := R_R) (T := F_R) (N := 7) hexec hb ht ku_R hown hw.2.1 hw.1 0 rfl rfl k hk hlink hsame hv hdg kk
/-- an element of the rows -/
theorem r_ild (hexec : p.tables.exec = Jvm.exec) (hb : c.code = cc) (hw : rH G σ s H locs) {n : Nat} (hn : n < 480) (hdg : decode cc pc = .ok (.iaload, 1))
    (kk : W p l e R s m args below meth c H locs cells slots Q (F0 m (pc + 1) ls (.int (nI (dg b26 (rV σ (n / 10)) (n % 10))) :: rest))) : W p l e R s m args below meth c H locs cells slots Q (F0 m pc ls (.int (nI n) :: .ref (rA G 1) :: rest)) := by
  refine va_iald hexec hb hw.2.1 hw.1 1 0 rfl rfl (vp_in_nI hn (by decide)) hdg ?_
  rw [nI_clamp (by omega)]
  exact kk
theorem r_ild' (hexec : p.tables.exec = Jvm.exec) (hb : c.code = cc) (hw : rH G σ s H locs) {r k : Nat} (hr : r < 48) (hk : k < 10) (hdg : decode cc pc = .ok (.iaload, 1))
    (kk : W p l e R s m args below meth c H locs cells slots Q (F0 m (pc + 1) ls (.int (nI (dg b26 (rV σ r) k)) :: rest))) : W p l e R s m args below meth c H locs cells slots Q (F0 m pc ls (.int (nI (10 * r + k)) :: .ref (rA G 1) :: rest)) := by
  refine r_ild hexec hb hw (by omega) hdg ?_
  rw [show (10 * r + k) / 10 = r by omega, show (10 * r + k) % 10 = k by omega]
  exact kk
theorem rRows_set (σ : rS) {r k x : Nat} (hk : k < 10) (hx : x < b26) : upd (rRows σ) (10 * r + k) (nI x) = rRows (rsV σ (va_up (rV σ) r (ds b26 (rV σ r) k x))) := by
  funext j
  unfold upd rRows
  by_cases h : j = 10 * r + k
  · subst h
    rw [if_pos rfl]
    show nI x = nI (dg b26 (va_up (rV σ) r (ds b26 (rV σ r) k x) ((10 * r + k) / 10)) ((10 * r + k) % 10))
    rw [show (10 * r + k) / 10 = r by omega, show (10 * r + k) % 10 = k by omega, up_self, ds_mid (by decide) _ hx]
  · rw [if_neg h]
    show nI (dg b26 (rV σ (j / 10)) (j % 10)) = nI (dg b26 (va_up (rV σ) r (ds b26 (rV σ r) k x) (j / 10)) (j % 10))
    by_cases h2 : j / 10 = r
    · subst h2
      rw [up_self, ds_dg (by decide) _ hx, if_neg (by omega)]
    · rw [up_ne _ _ h2]
theorem rWs_1 (G : rG) (σ : rS) (V : Nat → Nat) (q : Nat × va_E) (h : q = (rA G 1, .inl (G.2.2.2.1, 480, .inl (rRows (rsV σ V))))) : (rWs G σ).set 1 q = rWs G (rsV σ V) := by
  subst h
  rfl
/-- an element of the rows is written -/
theorem r_ist (hexec : p.tables.exec = Jvm.exec) (hb : c.code = cc) (hw : rH G σ s H locs) {r k x : Nat} (hr : r < 48) (hk : k < 10) (hx : x < b26) (hdg : decode cc pc = .ok (.iastore, 1))
    (kk : ∀ (H1 : Heap) (locs1 : List Loc), rH G (rsV σ (va_up (rV σ) r (ds b26 (rV σ r) k x))) s H1 locs1 → W p l e R s m args below meth c H1 locs1 cells slots Q (F0 m (pc + 1) ls rest)) : W p l e R s m args below meth c H locs cells slots Q (F0 m pc ls (.int (nI x) :: .int (nI (10 * r + k)) :: .ref (rA G 1) :: rest)) := by
  obtain ⟨hP, hK, hD, hS, h0⟩ := hw
  refine va_iast hexec hb hK hP hD hS 1 0 rfl rfl (vp_in_nI (show 10 * r + k < 480 by omega) (by decide)) hdg (fun H1 locs1 hP1 hD1 hS1 => ?_)
  rw [nI_clamp (show 10 * r + k < 2 ^ 31 by omega), rRows_set σ hk hx, rWs_1 G σ _ _ rfl] at hP1 hD1
  exact kk H1 locs1 ⟨hP1, hK, hD1, hS1, h0⟩
/-- the long rows: product is 2, folded 3 -/
theorem r_lldP (hexec : p.tables.exec = Jvm.exec) (hb : c.code = cc) (hw : rH G σ s H locs) {n : Nat} (hn : n < 22) (hdg : decode cc pc = .ok (.laload, 1))
    (kk : W p l e R s m args below meth c H locs cells slots Q (F0 m (pc + 1) ls (.long (lN (rP σ n)) :: rest))) : W p l e R s m args below meth c H locs cells slots Q (F0 m pc ls (.int (nI n) :: .ref (rA G 2) :: rest)) := by
  refine va_lald hexec hb hw.2.1 hw.1 2 1 rfl rfl (vp_in_nI hn (by decide)) hdg ?_
  rw [nI_clamp (by omega)]
  exact kk
theorem r_lldF (hexec : p.tables.exec = Jvm.exec) (hb : c.code = cc) (hw : rH G σ s H locs) {n : Nat} (hn : n < 22) (hdg : decode cc pc = .ok (.laload, 1))
    (kk : W p l e R s m args below meth c H locs cells slots Q (F0 m (pc + 1) ls (.long (lN (rF σ n)) :: rest))) : W p l e R s m args below meth c H locs cells slots Q (F0 m pc ls (.int (nI n) :: .ref (rA G 3) :: rest)) := by
  refine va_lald hexec hb hw.2.1 hw.1 3 1 rfl rfl (vp_in_nI hn (by decide)) hdg ?_
  rw [nI_clamp (by omega)]
  exact kk
theorem up_lN (f : Nat → Nat) (n x : Nat) : vp_updL (fun k => lN (f k)) n (lN x) = fun k => lN (va_up f n x k) := by
  funext j
  unfold vp_updL va_up
  by_cases h : j = n
  · rw [if_pos h, if_pos h]
  · rw [if_neg h, if_neg h]
theorem up_nI (f : Nat → Nat) (n x : Nat) : upd (fun k => nI (f k)) n (nI x) = fun k => nI (va_up f n x k) := by
  funext j
  unfold upd va_up
  by_cases h : j = n
  · rw [if_pos h, if_pos h]
  · rw [if_neg h, if_neg h]
theorem r_lstP (hexec : p.tables.exec = Jvm.exec) (hb : c.code = cc) (hw : rH G σ s H locs) {n x : Nat} (hn : n < 22) (hdg : decode cc pc = .ok (.lastore, 1))
    (kk : ∀ (H1 : Heap) (locs1 : List Loc), rH G (rsP σ (va_up (rP σ) n x)) s H1 locs1 → W p l e R s m args below meth c H1 locs1 cells slots Q (F0 m (pc + 1) ls rest)) : W p l e R s m args below meth c H locs cells slots Q (F0 m pc ls (.long (lN x) :: .int (nI n) :: .ref (rA G 2) :: rest)) := by
  obtain ⟨hP, hK, hD, hS, h0⟩ := hw
  refine va_last hexec hb hK hP hD hS 2 1 rfl rfl (vp_in_nI hn (by decide)) hdg (fun H1 locs1 hP1 hD1 hS1 => ?_)
  rw [nI_clamp (show n < 2 ^ 31 by omega), up_lN] at hP1 hD1
  exact kk H1 locs1 ⟨hP1, hK, hD1, hS1, h0⟩
theorem r_lstF (hexec : p.tables.exec = Jvm.exec) (hb : c.code = cc) (hw : rH G σ s H locs) {n x : Nat} (hn : n < 22) (hdg : decode cc pc = .ok (.lastore, 1))
    (kk : ∀ (H1 : Heap) (locs1 : List Loc), rH G (rsF σ (va_up (rF σ) n x)) s H1 locs1 → W p l e R s m args below meth c H1 locs1 cells slots Q (F0 m (pc + 1) ls rest)) : W p l e R s m args below meth c H locs cells slots Q (F0 m pc ls (.long (lN x) :: .int (nI n) :: .ref (rA G 3) :: rest)) := by
  obtain ⟨hP, hK, hD, hS, h0⟩ := hw
  refine va_last hexec hb hK hP hD hS 3 1 rfl rfl (vp_in_nI hn (by decide)) hdg (fun H1 locs1 hP1 hD1 hS1 => ?_)
  rw [nI_clamp (show n < 2 ^ 31 by omega), up_lN] at hP1 hD1
  exact kk H1 locs1 ⟨hP1, hK, hD1, hS1, h0⟩
/-- rest -/
theorem r_ildR (hexec : p.tables.exec = Jvm.exec) (hb : c.code = cc) (hw : rH G σ s H locs) {n : Nat} (hn : n < 20) (hdg : decode cc pc = .ok (.iaload, 1))
    (kk : W p l e R s m args below meth c H locs cells slots Q (F0 m (pc + 1) ls (.int (nI (rRest n)) :: rest))) : W p l e R s m args below meth c H locs cells slots Q (F0 m pc ls (.int (nI n) :: .ref (rA G 4) :: rest)) := by
  refine va_iald hexec hb hw.2.1 hw.1 4 0 rfl rfl (vp_in_nI hn (by decide)) hdg ?_
  rw [nI_clamp (by omega)]
  exact kk
/-- none -/
theorem r_zld (hexec : p.tables.exec = Jvm.exec) (hb : c.code = cc) (hw : rH G σ s H locs) {n : Nat} (hn : n < 4) (hdg : decode cc pc = .ok (.baload, 1))
    (kk : W p l e R s m args below meth c H locs cells slots Q (F0 m (pc + 1) ls (.int (nI (rN σ n)) :: rest))) : W p l e R s m args below meth c H locs cells slots Q (F0 m pc ls (.int (nI n) :: .ref (rA G 5) :: rest)) := by
  refine va_zald hexec hb hw.2.1 hw.1 5 2 rfl rfl (vp_in_nI hn (by decide)) hdg ?_
  rw [nI_clamp (by omega)]
  exact kk
theorem nar_z {x : Nat} (hx : x < 2) : vp_nar .boolean (nI x) = nI x := by
  rcases (show x = 0 ∨ x = 1 by omega) with rfl | rfl <;> decide
theorem r_zst (hexec : p.tables.exec = Jvm.exec) (hb : c.code = cc) (hw : rH G σ s H locs) {n x : Nat} (hn : n < 4) (hx : x < 2) (hdg : decode cc pc = .ok (.bastore, 1))
    (kk : ∀ (H1 : Heap) (locs1 : List Loc), rH G (rsN σ (va_up (rN σ) n x)) s H1 locs1 → W p l e R s m args below meth c H1 locs1 cells slots Q (F0 m (pc + 1) ls rest)) : W p l e R s m args below meth c H locs cells slots Q (F0 m pc ls (.int (nI x) :: .int (nI n) :: .ref (rA G 5) :: rest)) := by
  obtain ⟨hP, hK, hD, hS, h0⟩ := hw
  refine va_zast hexec hb hK hP hD hS 5 2 rfl rfl (vp_in_nI hn (by decide)) hdg (fun H1 locs1 hP1 hD1 hS1 => ?_)
  rw [nI_clamp (show n < 2 ^ 31 by omega), nar_z hx, up_nI] at hP1 hD1
  exact kk H1 locs1 ⟨hP1, hK, hD1, hS1, h0⟩
/-- bytes -/
theorem r_bld (hexec : p.tables.exec = Jvm.exec) (hb : c.code = cc) (hw : rH G σ s H locs) {n : Nat} (hn : n < 100) (hdg : decode cc pc = .ok (.iaload, 1))
    (kk : W p l e R s m args below meth c H locs cells slots Q (F0 m (pc + 1) ls (.int (nI (rB σ n)) :: rest))) : W p l e R s m args below meth c H locs cells slots Q (F0 m pc ls (.int (nI n) :: .ref (rA G 6) :: rest)) := by
  refine va_iald hexec hb hw.2.1 hw.1 6 0 rfl rfl (vp_in_nI hn (by decide)) hdg ?_
  rw [nI_clamp (by omega)]
  exact kk
theorem r_bst (hexec : p.tables.exec = Jvm.exec) (hb : c.code = cc) (hw : rH G σ s H locs) {n x : Nat} (hn : n < 100) (hdg : decode cc pc = .ok (.iastore, 1))
    (kk : ∀ (H1 : Heap) (locs1 : List Loc), rH G (rsB σ (va_up (rB σ) n x)) s H1 locs1 → W p l e R s m args below meth c H1 locs1 cells slots Q (F0 m (pc + 1) ls rest)) : W p l e R s m args below meth c H locs cells slots Q (F0 m pc ls (.int (nI x) :: .int (nI n) :: .ref (rA G 6) :: rest)) := by
  obtain ⟨hP, hK, hD, hS, h0⟩ := hw
  refine va_iast hexec hb hK hP hD hS 6 0 rfl rfl (vp_in_nI hn (by decide)) hdg (fun H1 locs1 hP1 hD1 hS1 => ?_)
  rw [nI_clamp (show n < 2 ^ 31 by omega), up_nI] at hP1 hD1
  exact kk H1 locs1 ⟨hP1, hK, hD1, hS1, h0⟩
/-- many is written -/
theorem r_put (hexec : p.tables.exec = Jvm.exec) (hb : c.code = cc) (ht : ∀ w ∈ zT, w.before args s = true) (hown : s.vm.findClass R_R = some m.cls) (hw : rH G σ s H locs) {index x : Nat} (hlink : (Cond.fieldLink R_R index R_R "many" "I").before args s = true) (hdg : decode cc pc = .ok (.putfield index, 3))
    (kk : ∀ (H1 : Heap) (locs1 : List Loc), rH G (rsM σ x) s H1 locs1 → W p l e R s m args below meth c H1 locs1 cells slots Q (F0 m (pc + 3) ls rest)) : W p l e R s m args below meth c H locs cells slots Q (F0 m pc ls (.int (nI x) :: .ref (rA G 0) :: rest)) := by
  obtain ⟨hP, hK, hD, hS, h0⟩ := hw
  exact va_put (ci := 5) (v := .int (nI x)) (ty := .int) (C := R_R) (T := F_R) (N := 7) hexec hb ht ku_R t_R t_R_ok n_R hown hK hP hD hS 0 rfl rfl 6 (by decide) hlink (fun _ h9 => h9) rfl rfl rfl rfl (show 6 < 7 by decide) hdg (fun H1 locs1 hP1 hD1 hS1 => kk H1 locs1 ⟨hP1, hK, hD1, hS1, h0⟩)
variable {y : MethodName} {bytes : ByteArray} {maxL nL np index : Nat} {rm : Room} {As st0 : List Value}
theorem r_callv {post : rS → Prop} (S : CallFix p m c cc nL s args zT R_R) (hw : rH G σ s H locs) (hM : Met l y (zW y bytes maxL none) rm (va_Pc (.ref (rA G 0) :: As) (rC G σ)) (va_Qv post (fun u => rC G u) (rAA G)) 0 0 (rAA G))
    (k : Cond.methodLink R_R index y ∈ zT ∧ Cond.instanceMethod y ∈ zT ∧ Cond.selects R_R y y ∈ zT ∧ Cond.code y bytes maxL none ∈ zT)
    (hd : y.cls = R_R ∧ y.cls ≠ "java/lang/invoke/MethodHandle" ∧ y.cls ≠ "java/lang/invoke/VarHandle" ∧ (parseMethodDescriptor y.desc).map (fun d => d.parameters.length) = some np) (hR : rm.frames + 1 ≤ R.frames ∧ 8 + (maxL + 11) + rm.locals ≤ R.locals) (hrc : rm.cells = 0) (hrs : rm.slots = 0) (hn : As.length = np) (hsize : ls.size = nL) (hst : st0 = As.reverse ++ .ref (rA G 0) :: rest) (hW : (rest.map fun v => v.category).sum ≤ 8) (hdg : decode cc pc = .ok (.invokevirtual index, 3)) (hf : cells ≤ R.cells ∧ slots ≤ R.slots)
    (kk : ∀ (u : rS) (H1 : Heap) (locs1 : List Loc), post u → rH G u s H1 locs1 → W p l e R s m args below meth c H1 locs1 cells slots Q (F0 m (pc + 3) ls rest)) : W p l e R s m args below meth c H locs cells slots Q (F0 m pc ls st0) :=
  z_callv (va_runV (As := As) (rest := rest) S hM (cwV np S.2.2.2.2 (gd_V k.1 k.2.1 k.2.2.1 ki_R k.2.2.2) rfl hrc hrs hd hR) (z_preV (rZ _) hw 0 rfl rfl As) rfl hn hsize hst (by show 2 * 0 + _ ≤ 8; omega) hdg hf) hw kk
theorem r_calli {post : Int32 → rS → Prop} {rt : FieldType} (S : CallFix p m c cc nL s args zT R_R) (hw : rH G σ s H locs) (hM : Met l y (zW y bytes maxL (some rt)) rm (va_Pc (.ref (rA G 0) :: As) (rC G σ)) (va_Qi post (fun u => rC G u) (rAA G)) 0 0 (rAA G))
    (k : Cond.methodLink R_R index y ∈ zT ∧ Cond.instanceMethod y ∈ zT ∧ Cond.selects R_R y y ∈ zT ∧ Cond.code y bytes maxL (some rt) ∈ zT)
    (hd : y.cls = R_R ∧ y.cls ≠ "java/lang/invoke/MethodHandle" ∧ y.cls ≠ "java/lang/invoke/VarHandle" ∧ (parseMethodDescriptor y.desc).map (fun d => d.parameters.length) = some np) (hR : rm.frames + 1 ≤ R.frames ∧ 8 + (maxL + 11) + rm.locals ≤ R.locals) (hrc : rm.cells = 0) (hrs : rm.slots = 0) (hn : As.length = np) (hsize : ls.size = nL) (hst : st0 = As.reverse ++ .ref (rA G 0) :: rest) (hW : (rest.map fun v => v.category).sum ≤ 8) (hdg : decode cc pc = .ok (.invokevirtual index, 3)) (hf : cells ≤ R.cells ∧ slots ≤ R.slots)
    (kk : ∀ (r : Int32) (u : rS) (H1 : Heap) (locs1 : List Loc), post r u → rH G u s H1 locs1 → W p l e R s m args below meth c H1 locs1 cells slots Q (F0 m (pc + 3) ls (.int r :: rest))) : W p l e R s m args below meth c H locs cells slots Q (F0 m pc ls st0) :=
  z_calli (va_runV (As := As) (rest := rest) S hM (cwV np S.2.2.2.2 (gd_V k.1 k.2.1 k.2.2.1 ki_R k.2.2.2) rfl hrc hrs hd hR) (z_preV (rZ _) hw 0 rfl rfl As) rfl hn hsize hst (by show 2 * 0 + _ ≤ 8; omega) hdg hf) hw kk
end RK
