/-! the reference's world while its constructor runs: its rest is any row -/
def xWs (ρ : Nat → Nat) (G : rG) (σ : rS) : va_W := [(rA G 0, .inr (5, rFs G σ)), (rA G 1, .inl (G.2.2.2.1, 480, .inl (rRows σ))), (rA G 2, .inl (G.2.2.2.2.1, 22, .inr (.inl (fun k => lN (rP σ k))))), (rA G 3, .inl (G.2.2.2.2.1, 22, .inr (.inl (fun k => lN (rF σ k))))),
  (rA G 4, .inl (G.2.2.2.1, 20, .inl (fun k => nI (ρ k)))), (rA G 5, .inl (G.2.2.2.2.2, 4, .inl (fun k => nI (rN σ k)))), (rA G 6, .inl (G.2.2.2.1, 100, .inl (fun k => nI (rB σ k))))]
abbrev xH (ρ : Nat → Nat) (G : rG) (σ : rS) (s : State) (H : Heap) (locs : List Loc) : Prop := zH G.1 zcl (rTy G) (rAA G) r0 (xWs ρ G σ) s H locs
abbrev xC (ρ : Nat → Nat) (G : rG) (σ : rS) (U : State) : Prop := zC G.1 zcl (rTy G) (rAA G) r0 (xWs ρ G σ) U
theorem xWs_1 (ρ : Nat → Nat) (G : rG) (σ : rS) (V : Nat → Nat) (q : Nat × va_E) (h : q = (rA G 1, .inl (G.2.2.2.1, 480, .inl (rRows (rsV σ V))))) : (xWs ρ G σ).set 1 q = xWs ρ G (rsV σ V) := by
  subst h
  rfl
section XK
variable {p : Program} {l : Launch} {e : Env} {R : Room} {s : State} {m : MethodId} {args : Array Value} {below : List Frame} {meth : Method} {c : Code} {H : Heap} {locs : List Loc} {cells slots : Nat} {Q : State → Prop}
variable {cc : ByteArray} {pc : Nat} {ls : Array Slot} {rest : List Value} {ρ : Nat → Nat} {G : rG} {σ : rS}
variable {y : MethodName} {bytes : ByteArray} {maxL nL np index : Nat} {rm : Room} {As st0 : List Value}
theorem x_get (hexec : p.tables.exec = Jvm.exec) (hb : c.code = cc) (ht : ∀ w ∈ zT, w.before args s = true) (hown : s.vm.findClass R_R = some m.cls) (hw : xH ρ G σ s H locs) (k : Nat) (hk : k < 7) {index : Nat} (hlink : (Cond.fieldLink R_R index R_R (F_R k).2.1 (F_R k).2.2.1).before args s = true) {v : Value} (hv : (rFs G σ)[k]? = some v) (hdg : decode cc pc = .ok (.getfield index, 3))
    (hsame : ∀ x, s.fieldFound? (F_R k).1 (F_R k).2.1 (F_R k).2.2.1 = some x → s.fieldFound? R_R (F_R k).2.1 (F_R k).2.2.1 = some x)
    (kk : W p l e R s m args below meth c H locs cells slots Q (F0 m (pc + 3) ls (v :: rest))) : W p l e R s m args below meth c H locs cells slots Q (F0 m pc ls (.ref (rA G 0) :: rest)) :=
  va_get (ci := 5) (C := R_R) (T := F_R) (N := 7) hexec hb ht ku_R hown hw.2.1 hw.1 0 rfl rfl k hk hlink hsame hv hdg kk
theorem x_ild (hexec : p.tables.exec = Jvm.exec) (hb : c.code = cc) (hw : xH ρ G σ s H locs) {n : Nat} (hn : n < 480) (hdg : decode cc pc = .ok (.iaload, 1))
    (kk : W p l e R s m args below meth c H locs cells slots Q (F0 m (pc + 1) ls (.int (nI (dg b26 (rV σ (n / 10)) (n % 10))) :: rest))) : W p l e R s m args below meth c H locs cells slots Q (F0 m pc ls (.int (nI n) :: .ref (rA G 1) :: rest)) := by
  refine va_iald hexec hb hw.2.1 hw.1 1 0 rfl rfl (vp_in_nI hn (by decide)) hdg ?_
  rw [nI_clamp (by omega)]
  exact kk
theorem x_ild' (hexec : p.tables.exec = Jvm.exec) (hb : c.code = cc) (hw : xH ρ G σ s H locs) {r k : Nat} (hr : r < 48) (hk : k < 10) (hdg : decode cc pc = .ok (.iaload, 1))
    (kk : W p l e R s m args below meth c H locs cells slots Q (F0 m (pc + 1) ls (.int (nI (dg b26 (rV σ r) k)) :: rest))) : W p l e R s m args below meth c H locs cells slots Q (F0 m pc ls (.int (nI (10 * r + k)) :: .ref (rA G 1) :: rest)) := by
  refine x_ild hexec hb hw (by omega) hdg ?_
  rw [show (10 * r + k) / 10 = r by omega, show (10 * r + k) % 10 = k by omega]
  exact kk
theorem x_ist (hexec : p.tables.exec = Jvm.exec) (hb : c.code = cc) (hw : xH ρ G σ s H locs) {r k x : Nat} (hr : r < 48) (hk : k < 10) (hx : x < b26) (hdg : decode cc pc = .ok (.iastore, 1))
    (kk : ∀ (H1 : Heap) (locs1 : List Loc), xH ρ G (rsV σ (va_up (rV σ) r (ds b26 (rV σ r) k x))) s H1 locs1 → W p l e R s m args below meth c H1 locs1 cells slots Q (F0 m (pc + 1) ls rest)) : W p l e R s m args below meth c H locs cells slots Q (F0 m pc ls (.int (nI x) :: .int (nI (10 * r + k)) :: .ref (rA G 1) :: rest)) := by
  obtain ⟨hP, hK, hD, hS, h0⟩ := hw
  refine va_iast hexec hb hK hP hD hS 1 0 rfl rfl (vp_in_nI (show 10 * r + k < 480 by omega) (by decide)) hdg (fun H1 locs1 hP1 hD1 hS1 => ?_)
  rw [nI_clamp (show 10 * r + k < 2 ^ 31 by omega), rRows_set σ hk hx, xWs_1 ρ G σ _ _ rfl] at hP1 hD1
  exact kk H1 locs1 ⟨hP1, hK, hD1, hS1, h0⟩
theorem x_callv {post : rS → Prop} (S : CallFix p m c cc nL s args zT R_R) (hw : xH ρ G σ s H locs) (hM : Met l y (zW y bytes maxL none) rm (va_Pc (.ref (rA G 0) :: As) (xC ρ G σ)) (va_Qv post (fun u => xC ρ G u) (rAA G)) 0 0 (rAA G))
    (k : Cond.methodLink R_R index y ∈ zT ∧ Cond.instanceMethod y ∈ zT ∧ Cond.selects R_R y y ∈ zT ∧ Cond.code y bytes maxL none ∈ zT)
    (hd : y.cls = R_R ∧ y.cls ≠ "java/lang/invoke/MethodHandle" ∧ y.cls ≠ "java/lang/invoke/VarHandle" ∧ (parseMethodDescriptor y.desc).map (fun d => d.parameters.length) = some np) (hR : rm.frames + 1 ≤ R.frames ∧ 8 + (maxL + 11) + rm.locals ≤ R.locals) (hrc : rm.cells = 0) (hrs : rm.slots = 0) (hn : As.length = np) (hsize : ls.size = nL) (hst : st0 = As.reverse ++ .ref (rA G 0) :: rest) (hW : (rest.map fun v => v.category).sum ≤ 8) (hdg : decode cc pc = .ok (.invokevirtual index, 3)) (hf : cells ≤ R.cells ∧ slots ≤ R.slots)
    (kk : ∀ (u : rS) (H1 : Heap) (locs1 : List Loc), post u → xH ρ G u s H1 locs1 → W p l e R s m args below meth c H1 locs1 cells slots Q (F0 m (pc + 3) ls rest)) : W p l e R s m args below meth c H locs cells slots Q (F0 m pc ls st0) :=
  z_callv (va_runV (As := As) (rest := rest) S hM (cwV np S.2.2.2.2 (gd_V k.1 k.2.1 k.2.2.1 ki_R k.2.2.2) rfl hrc hrs hd hR) (z_preV (rZ _) hw 0 rfl rfl As) rfl hn hsize hst (by show 2 * 0 + _ ≤ 8; omega) hdg hf) hw kk
theorem x_callsl {post : Int64 → rS → Prop} {rt : FieldType} (S : CallFix p m c cc nL s args zT R_R) (hw : xH ρ G σ s H locs) (hM : Met l y (zW y bytes maxL (some rt)) rm (va_Pc As (xC ρ G σ)) (va_Ql post (fun u => xC ρ G u) (rAA G)) 0 0 (rAA G))
    (k : Cond.methodLink R_R index y ∈ zT ∧ Cond.static y ∈ zT ∧ Cond.code y bytes maxL (some rt) ∈ zT)
    (hd : y.cls ≠ "java/lang/invoke/MethodHandle" ∧ y.cls ≠ "java/lang/invoke/VarHandle" ∧ (parseMethodDescriptor y.desc).map (fun d => d.parameters.length) = some np) (hR : rm.frames + 1 ≤ R.frames ∧ 8 + (maxL + 11) + rm.locals ≤ R.locals) (hyc : y.cls = R_R) (hrc : rm.cells = 0) (hrs : rm.slots = 0) (hn : As.length = np) (hsize : ls.size = nL) (hst : st0 = As.reverse ++ rest) (hW : (rest.map fun v => v.category).sum ≤ 8) (hdg : decode cc pc = .ok (.invokestatic index, 3)) (hf : cells ≤ R.cells ∧ slots ≤ R.slots)
    (kk : ∀ (r : Int64) (u : rS) (H1 : Heap) (locs1 : List Loc), post r u → xH ρ G u s H1 locs1 → W p l e R s m args below meth c H1 locs1 cells slots Q (F0 m (pc + 3) ls (.long r :: rest))) : W p l e R s m args below meth c H locs cells slots Q (F0 m pc ls st0) :=
  z_calll (va_runS (As := As) (rest := rest) S hM (va_cwS np S.2.2.2.2 (gd_S k.1 k.2.1 (by rw [hyc]; exact ki_R) k.2.2) rfl hrc hrs hd hR) (z_preS (rZ _) hw As) rfl hn hsize hst (by show 2 * 0 + _ ≤ 8; omega) hdg hf) hw kk
theorem x_rst (hexec : p.tables.exec = Jvm.exec) (hb : c.code = cc) (hw : xH ρ G σ s H locs) {n x : Nat} (hn : n < 20) (hdg : decode cc pc = .ok (.iastore, 1))
    (kk : ∀ (H1 : Heap) (locs1 : List Loc), xH (va_up ρ n x) G σ s H1 locs1 → W p l e R s m args below meth c H1 locs1 cells slots Q (F0 m (pc + 1) ls rest)) : W p l e R s m args below meth c H locs cells slots Q (F0 m pc ls (.int (nI x) :: .int (nI n) :: .ref (rA G 4) :: rest)) := by
  obtain ⟨hP, hK, hD, hS, h0⟩ := hw
  refine va_iast hexec hb hK hP hD hS 4 0 rfl rfl (vp_in_nI hn (by decide)) hdg (fun H1 locs1 hP1 hD1 hS1 => ?_)
  rw [nI_clamp (show n < 2 ^ 31 by omega), up_nI] at hP1 hD1
  exact kk H1 locs1 ⟨hP1, hK, hD1, hS1, h0⟩
end XK
set_option maxHeartbeats 4000000 in
set_option maxRecDepth 100000 in
theorem x_R_nothing (l : Launch) (ρ : Nat → Nat) (G : rG) (σ : rS) (hok : rOk σ) {to : Nat} (h1 : to < 48) : Met l y_R_nothing (zW y_R_nothing b_R_nothing 3 none) (zr 0 0) (va_Pc [.ref (rA G 0), .int (nI (to))] (xC ρ G σ)) (va_Qv (fun u => u = rsV σ (va_up (rV σ) to 0)) (fun u => xC ρ G u) (rAA G)) 0 0 (rAA G) := by
  refine Met.ofW (cc := b_R_nothing) (maxL := 3) (ret := none) (by decide) rfl ?_
  intro p e s m args below meth c s₁ B hml hv
  obtain ⟨rfl, hw⟩ := hv
  have hx := B.exec
  have hb := B.bytes
  have hr := B.returns
  have hts := atoms_spec (ws := zW y_R_nothing b_R_nothing 3 none) B.pre
  have ht : ∀ w ∈ zT, w.before ([.ref (rA G 0), .int (nI (to))] : List Value).toArray s = true := fun w h => hts w (List.mem_cons_of_mem _ h)
  have hown : s.vm.findClass R_R = some m.cls := findClass_of_methodNamed B.named
  have hlocks := B.notSynchronized
  have hl := lv_entry ([.ref (rA G 0), .int (nI (to))]) (n := 3) (Nat.le_of_ble_eq_true rfl)
  rw [lg_entry_eq]
  generalize (lg_sl ([.ref (rA G 0), .int (nI (to))]) ++ List.replicate (3 - (lg_sl ([.ref (rA G 0), .int (nI (to))])).length) Slot.unset).toArray = ls at hl ⊢
  have hl : lv_has ls 3 [(0, .ref (rA G 0)), (1, .int (nI (to)))] := hl
  refine lv_iconst (v := nI 0) hx hb d_R_nothing_0 (by decide) ?_
  refine lv_istore_n (lv' := [(2, .int (nI (0))), (0, .ref (rA G 0)), (1, .int (nI (to)))]) hx hb d_R_nothing_1 rfl hl (by decide) rfl (fun ls hl => ?_)
  have loop : ∀ (n k : Nat), k + n = 10 → ∀ (w : Nat) (H : Heap) (locs : List Loc) (ls : Array Slot), w < b26 ^ 10 → w % b26 ^ k = 0 → xH ρ G (rsV σ (va_up (rV σ) to w)) s H locs → lv_has ls 3 [(0, .ref (rA G 0)), (1, .int (nI (to))), (2, .int (nI (k)))] → W p l e (headSpec (zW y_R_nothing b_R_nothing 3 none) (zr 0 0)).room s m ([.ref (rA G 0), .int (nI (to))] : List Value).toArray below meth c H locs 0 0 (MQ below (va_Qv (fun u => u = rsV σ (va_up (rV σ) to 0)) (fun u => xC ρ G u) (rAA G)) ([.ref (rA G 0), .int (nI (to))] : List Value).toArray s 0 0 (rAA G)) (F0 m 2 ls []) := by
    intro n
    induction n with
    | zero =>
      intro k hk w H locs ls hwb hwm hw hl
      have hk : k = 10 := by omega
      subst hk
      refine lv_iload_n hx hb d_R_nothing_2 rfl (lv_at hl 2 rfl) ?_
      refine lv_bipush (v := nI 10) hx hb d_R_nothing_3 (by decide) ?_
      refine n_ge (tgt := 26) hx hb d_R_nothing_5 (by decide) (by decide) (by decide) (fun _ => ?_) (fun h => absurd h (by omega))
      rw [Nat.mod_eq_of_lt hwb] at hwm
      subst hwm
      exact z_vret (rZ _) hx hb hr hlocks _ hw rfl d_R_nothing_26
    | succ n ih =>
      intro k hk w H locs ls hwb hwm hw hl
      refine lv_iload_n hx hb d_R_nothing_2 rfl (lv_at hl 2 rfl) ?_
      refine lv_bipush (v := nI 10) hx hb d_R_nothing_3 (by decide) ?_
      refine n_ge (tgt := 26) hx hb d_R_nothing_5 (by decide) (by omega) (by decide) (fun h => absurd h (by omega)) (fun _ => ?_)
      refine lv_aload_n hx hb d_R_nothing_8 rfl (lv_at hl 0 rfl) ?_
      refine x_get hx hb ht hown hw 0 (by decide) (ht _ kf_R_7) rfl d_R_nothing_9 (fun _ h9 => h9) ?_
      refine lv_bipush (v := nI 10) hx hb d_R_nothing_12 (by decide) ?_
      refine lv_iload_n hx hb d_R_nothing_14 rfl (lv_at hl 1 rfl) ?_
      refine lv_imul hx hb d_R_nothing_15 ?_
      refine tp_i (pk_mul _ _) ?_
      refine lv_iload_n hx hb d_R_nothing_16 rfl (lv_at hl 2 rfl) ?_
      refine lv_iadd hx hb d_R_nothing_17 ?_
      refine tp_i (nI_add _ _) ?_
      refine lv_iconst (v := nI 0) hx hb d_R_nothing_18 (by decide) ?_
      refine x_ist hx hb hw h1 (by omega) (show 0 < b26 by decide) d_R_nothing_19 (fun H locs hw => ?_)
      refine lv_iinc (v := nI (k + 1)) (lv' := [(2, .int (nI (k + 1))), (0, .ref (rA G 0)), (1, .int (nI (to)))]) hx hb d_R_nothing_20 hl (k := 2) rfl (nI_add k 1) (by decide) rfl (fun ls hl => ?_)
      refine lv_goto (tgt := 2) hx hb d_R_nothing_23 (by decide) ?_
      refine ih (k + 1) (by omega) (ds b26 w k 0) H locs ls (ds_lt b26_pos b26_pos (by omega) hwb) ?_ ?_ (lv_sub hl [1, 2, 0] rfl)
      · rw [ds_mod b26_pos _ b26_pos, hwm]
        omega
      · have e2 : va_up (va_up (rV σ) to w) to (ds b26 (va_up (rV σ) to w to) k 0) = va_up (rV σ) to (ds b26 w k 0) := by rw [up_up, up_self]
        rw [← e2]
        exact hw
  refine loop 10 0 rfl (rV σ to) _ _ ls (hok to) (by rw [Nat.pow_zero, Nat.mod_one]) ?_ (lv_sub hl [1, 2, 0] rfl)
  rw [up_id]
  exact hw
set_option maxHeartbeats 4000000 in
set_option maxRecDepth 100000 in
theorem x_R_wordOf (l : Launch) (ρ : Nat → Nat) (G : rG) (σ : rS) (k a b c d : Nat) (hk : k < 4) : Met l y_R_wordOf (zW y_R_wordOf b_R_wordOf 9 (some .long)) (zr 0 0) (va_Pc [.int (nI (k)), .long (lN (a)), .long (lN (b)), .long (lN (c)), .long (lN (d))] (xC ρ G σ)) (va_Ql (fun r u => u = σ ∧ r = lN (wd a b c d k)) (fun u => xC ρ G u) (rAA G)) 0 0 (rAA G) := by
  refine Met.ofW (cc := b_R_wordOf) (maxL := 9) (ret := (some .long)) (by decide) rfl ?_
  intro p e s m args below meth c9 s₁ B hml hv
  obtain ⟨rfl, hw⟩ := hv
  have hx := B.exec
  have hb := B.bytes
  have hr := B.returns
  have hts := atoms_spec (ws := zW y_R_wordOf b_R_wordOf 9 (some .long)) B.pre
  have ht : ∀ w ∈ zT, w.before ([.int (nI (k)), .long (lN (a)), .long (lN (b)), .long (lN (c)), .long (lN (d))] : List Value).toArray s = true := fun w h => hts w (List.mem_cons_of_mem _ h)
  have hown : s.vm.findClass R_R = some m.cls := findClass_of_methodNamed B.named
  have hlocks := B.notSynchronized
  have hl := lv_entry ([.int (nI (k)), .long (lN (a)), .long (lN (b)), .long (lN (c)), .long (lN (d))]) (n := 9) (Nat.le_of_ble_eq_true rfl)
  rw [lg_entry_eq]
  generalize (lg_sl ([.int (nI (k)), .long (lN (a)), .long (lN (b)), .long (lN (c)), .long (lN (d))]) ++ List.replicate (9 - (lg_sl ([.int (nI (k)), .long (lN (a)), .long (lN (b)), .long (lN (c)), .long (lN (d))])).length) Slot.unset).toArray = ls at hl ⊢
  have hl : lv_has ls 9 [(0, .int (nI (k))), (1, .long (lN (a))), (3, .long (lN (b))), (5, .long (lN (c))), (7, .long (lN (d)))] := hl
  refine lv_iload_n hx hb d_R_wordOf_0 rfl (lv_at hl 0 rfl) ?_
  refine n_ne0 (tgt := 9) hx hb d_R_wordOf_1 (by decide) (by omega) (fun c1 => ?_) (fun c1 => ?_)
  · refine lv_iload_n hx hb d_R_wordOf_9 rfl (lv_at hl 0 rfl) ?_
    refine lv_iconst (v := nI 1) hx hb d_R_wordOf_10 (by decide) ?_
    refine n_ne (tgt := 19) hx hb d_R_wordOf_11 (by decide) (by omega) (by decide) (fun c2 => ?_) (fun c2 => ?_)
    · refine lv_iload_n hx hb d_R_wordOf_19 rfl (lv_at hl 0 rfl) ?_
      refine lv_iconst (v := nI 2) hx hb d_R_wordOf_20 (by decide) ?_
      refine n_ne (tgt := 28) hx hb d_R_wordOf_21 (by decide) (by omega) (by decide) (fun c3 => ?_) (fun c3 => ?_)
      · refine lv_lload_n hx hb d_R_wordOf_28 rfl (lv_at hl 1 rfl) ?_
        exact z_lret (rZ _) hx hb hr hlocks σ hw ⟨rfl, by rw [wd, if_neg c1, if_neg c2, if_neg c3]⟩ d_R_wordOf_29
      · refine lv_lload_n hx hb d_R_wordOf_24 rfl (lv_at hl 2 rfl) ?_
        refine lv_goto (tgt := 29) hx hb d_R_wordOf_25 (by decide) ?_
        exact z_lret (rZ _) hx hb hr hlocks σ hw ⟨rfl, by rw [wd, if_neg c1, if_neg c2, if_pos c3]⟩ d_R_wordOf_29
    · refine lv_lload hx hb d_R_wordOf_14 (lv_at hl 3 rfl) ?_
      refine lv_goto (tgt := 29) hx hb d_R_wordOf_16 (by decide) ?_
      exact z_lret (rZ _) hx hb hr hlocks σ hw ⟨rfl, by rw [wd, if_neg c1, if_pos c2]⟩ d_R_wordOf_29
  · refine lv_lload hx hb d_R_wordOf_4 (lv_at hl 4 rfl) ?_
    refine lv_goto (tgt := 29) hx hb d_R_wordOf_6 (by decide) ?_
    exact z_lret (rZ _) hx hb hr hlocks σ hw ⟨rfl, by rw [wd, if_pos c1]⟩ d_R_wordOf_29
set_option maxHeartbeats 4000000 in
set_option maxRecDepth 100000 in
theorem x_R_write (l : Launch) (ρ : Nat → Nat) (G : rG) (σ : rS) (hok : rOk σ) {r a b c d : Nat} (h1 : r < 48) (ha : a < 2 ^ 64) (hb0 : b < 2 ^ 64) (hc : c < 2 ^ 64) (hd : d < 2 ^ 64) : Met l y_R_write (zW y_R_write b_R_write 13 none) (zr 1 28) (va_Pc [.ref (rA G 0), .int (nI (r)), .long (lN (a)), .long (lN (b)), .long (lN (c)), .long (lN (d))] (xC ρ G σ)) (va_Qv (fun u => u = rsV σ (va_up (rV σ) r (W4 a b c d))) (fun u => xC ρ G u) (rAA G)) 0 0 (rAA G) := by
  refine Met.ofW (cc := b_R_write) (maxL := 13) (ret := none) (by decide) rfl ?_
  intro p e s m args below meth c9 s₁ B hml hv
  obtain ⟨rfl, hw⟩ := hv
  have hx := B.exec
  have hb := B.bytes
  have hr := B.returns
  have hts := atoms_spec (ws := zW y_R_write b_R_write 13 none) B.pre
  have ht : ∀ w ∈ zT, w.before ([.ref (rA G 0), .int (nI (r)), .long (lN (a)), .long (lN (b)), .long (lN (c)), .long (lN (d))] : List Value).toArray s = true := fun w h => hts w (List.mem_cons_of_mem _ h)
  have hown : s.vm.findClass R_R = some m.cls := findClass_of_methodNamed B.named
  have hlocks := B.notSynchronized
  have hl := lv_entry ([.ref (rA G 0), .int (nI (r)), .long (lN (a)), .long (lN (b)), .long (lN (c)), .long (lN (d))]) (n := 13) (Nat.le_of_ble_eq_true rfl)
  rw [lg_entry_eq]
  generalize (lg_sl ([.ref (rA G 0), .int (nI (r)), .long (lN (a)), .long (lN (b)), .long (lN (c)), .long (lN (d))]) ++ List.replicate (13 - (lg_sl ([.ref (rA G 0), .int (nI (r)), .long (lN (a)), .long (lN (b)), .long (lN (c)), .long (lN (d))])).length) Slot.unset).toArray = ls at hl ⊢
  have hl : lv_has ls 13 [(0, .ref (rA G 0)), (1, .int (nI (r))), (2, .long (lN (a))), (4, .long (lN (b))), (6, .long (lN (c))), (8, .long (lN (d)))] := hl
  refine lv_aload_n hx hb d_R_write_0 rfl (lv_at hl 0 rfl) ?_
  refine lv_iload_n hx hb d_R_write_1 rfl (lv_at hl 1 rfl) ?_
  refine x_callv (np := 1) (As := [.int (nI (r))]) (rest := []) ⟨hx, hb, hml, hown, ht⟩ hw (x_R_nothing l ρ G σ hok h1) ⟨km_R_62, kv_R_nothing, kx_R_nothing, kc_R_nothing⟩ (by decide +kernel) ⟨by decide, by decide⟩ rfl rfl rfl hl.1 rfl (Nat.le_of_ble_eq_true rfl) d_R_write_2 ⟨Nat.le_refl _, Nat.le_refl _⟩ (fun u H locs hp hw => ?_)
  subst hp
  obtain ⟨X, hX⟩ : ∃ X, X = W4 a b c d := ⟨_, rfl⟩
  rw [← hX]
  have hXl : X < 2 ^ 256 := by rw [hX]; exact W4_lt ha hb0 hc hd
  refine lv_iconst (v := nI 0) hx hb d_R_write_5 (by decide) ?_
  refine lv_istore (lv' := [(10, .int (nI (0))), (0, .ref (rA G 0)), (1, .int (nI (r))), (2, .long (lN (a))), (4, .long (lN (b))), (6, .long (lN (c))), (8, .long (lN (d)))]) hx hb d_R_write_6 hl (by decide) rfl (fun ls hl => ?_)
  have loop : ∀ (n k : Nat), k + n = 256 → ∀ (H : Heap) (locs : List Loc) (ls : Array Slot), xH ρ G (rsV σ (va_up (rV σ) r (X % 2 ^ k))) s H locs → lv_has ls 13 [(0, .ref (rA G 0)), (1, .int (nI (r))), (2, .long (lN (a))), (4, .long (lN (b))), (6, .long (lN (c))), (8, .long (lN (d))), (10, .int (nI (k)))] → W p l e (headSpec (zW y_R_write b_R_write 13 none) (zr 1 28)).room s m ([.ref (rA G 0), .int (nI (r)), .long (lN (a)), .long (lN (b)), .long (lN (c)), .long (lN (d))] : List Value).toArray below meth c9 H locs 0 0 (MQ below (va_Qv (fun u => u = rsV σ (va_up (rV σ) r X)) (fun u => xC ρ G u) (rAA G)) ([.ref (rA G 0), .int (nI (r)), .long (lN (a)), .long (lN (b)), .long (lN (c)), .long (lN (d))] : List Value).toArray s 0 0 (rAA G)) (F0 m 8 ls []) := by
    intro n
    induction n with
    | zero =>
      intro k hk H locs ls hw hl
      have hk : k = 256 := by omega
      subst hk
      refine lv_iload hx hb d_R_write_8 (lv_at hl 6 rfl) ?_
      refine lv_sipush (v := nI 256) hx hb d_R_write_10 (by decide) ?_
      refine n_ge (tgt := 74) hx hb d_R_write_13 (by decide) (by decide) (by decide) (fun _ => ?_) (fun h => absurd h (by omega))
      rw [Nat.mod_eq_of_lt hXl] at hw
      exact z_vret (rZ _) hx hb hr hlocks _ hw rfl d_R_write_74
    | succ n ih =>
      intro k hk H locs ls hw hl
      refine lv_iload hx hb d_R_write_8 (lv_at hl 6 rfl) ?_
      refine lv_sipush (v := nI 256) hx hb d_R_write_10 (by decide) ?_
      have hkl : k < 256 := by omega
      clear hXl
      refine n_ge (tgt := 74) hx hb d_R_write_13 (by decide) (by omega) (by decide) (fun h => absurd h (by omega)) (fun _ => ?_)
      refine lv_iload hx hb d_R_write_16 (lv_at hl 6 rfl) ?_
      refine lv_bipush (v := nI 64) hx hb d_R_write_18 (by decide) ?_
      refine lv_idiv hx hb d_R_write_20 (by decide) ?_
      refine tp_i (y := nI (k / 64)) (pk_div (by omega) (by decide) (by decide)) ?_
      refine lv_lload_n hx hb d_R_write_21 rfl (lv_at hl 2 rfl) ?_
      refine lv_lload hx hb d_R_write_22 (lv_at hl 3 rfl) ?_
      refine lv_lload hx hb d_R_write_24 (lv_at hl 4 rfl) ?_
      refine lv_lload hx hb d_R_write_26 (lv_at hl 5 rfl) ?_
      refine x_callsl (np := 5) (As := [.int (nI (k / 64)), .long (lN (a)), .long (lN (b)), .long (lN (c)), .long (lN (d))]) (rest := []) ⟨hx, hb, hml, hown, ht⟩ hw (x_R_wordOf l ρ G _ (k / 64) a b c d (by omega)) ⟨km_R_66, ks_R_wordOf, kc_R_wordOf⟩ (by decide +kernel) ⟨by decide, by decide⟩ rfl rfl rfl rfl hl.1 rfl (Nat.le_of_ble_eq_true rfl) d_R_write_28 ⟨Nat.le_refl _, Nat.le_refl _⟩ (fun rr u H locs hp hw => ?_)
      obtain ⟨hpu, rfl⟩ := hp
      rw [hpu] at hw
      refine lv_iload hx hb d_R_write_31 (lv_at hl 6 rfl) ?_
      refine lv_bipush (v := nI 64) hx hb d_R_write_33 (by decide) ?_
      refine lv_irem hx hb d_R_write_35 (by decide) ?_
      refine tp_i (y := nI (k % 64)) (pk_rem (by omega) (by decide) (by decide)) ?_
      refine lv_lshr hx hb d_R_write_36 rfl ?_
      refine lv_lconst (v := lN 1) hx hb d_R_write_37 (by decide) ?_
      refine lv_land hx hb d_R_write_38 ?_
      refine tp_l (y := lN (X / 2 ^ k % 2)) ((sbit (wd_lt ha hb0 hc hd _) (by omega)).trans (congrArg lN (by rw [W4_bit ha hb0 hc hd hkl, ← hX]))) ?_
      have hb2 : X / 2 ^ k % 2 < 2 := Nat.mod_lt _ (by decide)
      have hw2 : X % 2 ^ k < 2 ^ k := Nat.mod_lt _ (Nat.two_pow_pos k)
      refine lv_lstore (lv' := [(11, .long (lN (X / 2 ^ k % 2))), (0, .ref (rA G 0)), (1, .int (nI (r))), (2, .long (lN (a))), (4, .long (lN (b))), (6, .long (lN (c))), (8, .long (lN (d))), (10, .int (nI (k)))]) hx hb d_R_write_39 hl (by decide) rfl (fun ls hl => ?_)
      refine lv_aload_n hx hb d_R_write_41 rfl (lv_at hl 1 rfl) ?_
      refine x_get hx hb ht hown hw 0 (by decide) (ht _ kf_R_7) rfl d_R_write_42 (fun _ h9 => h9) ?_
      refine lv_bipush (v := nI 10) hx hb d_R_write_45 (by decide) ?_
      refine lv_iload_n hx hb d_R_write_47 rfl (lv_at hl 2 rfl) ?_
      refine lv_imul hx hb d_R_write_48 ?_
      refine tp_i (y := nI (10 * r)) (pk_mul _ _) ?_
      refine lv_iload hx hb d_R_write_49 (lv_at hl 7 rfl) ?_
      refine lv_bipush (v := nI 26) hx hb d_R_write_51 (by decide) ?_
      refine lv_idiv hx hb d_R_write_53 (by decide) ?_
      refine tp_i (y := nI (k / 26)) (pk_div (by omega) (by decide) (by decide)) ?_
      refine lv_iadd hx hb d_R_write_54 ?_
      refine tp_i (y := nI ((10 * r) + (k / 26))) (nI_add _ _) ?_
      refine lv_dup2_11 hx hb d_R_write_55 rfl rfl ?_
      refine x_ild' hx hb hw h1 (by omega) d_R_write_56 ?_
      refine tp_i (y := nI (dg b26 (X % 2 ^ k) (k / 26))) (congrArg nI (congrArg (fun v => dg b26 v (k / 26)) (up_self _ _ _))) ?_
      refine lv_lload hx hb d_R_write_57 (lv_at hl 0 rfl) ?_
      refine lv_l2i (v := nI (X / 2 ^ k % 2)) hx hb d_R_write_59 (lN_i _) ?_
      refine lv_iload hx hb d_R_write_60 (lv_at hl 7 rfl) ?_
      refine lv_bipush (v := nI 26) hx hb d_R_write_62 (by decide) ?_
      refine lv_irem hx hb d_R_write_64 (by decide) ?_
      refine tp_i (y := nI (k % 26)) (pk_rem (by omega) (by decide) (by decide)) ?_
      have ht26 : k % 26 < 26 := Nat.mod_lt _ (by decide)
      have hfit := bit_fit ht26 (dg_low hw2) hb2
      refine lv_ishl hx hb d_R_write_65 ?_
      refine tp_i (y := nI (X / 2 ^ k % 2 * 2 ^ (k % 26))) (shlt (by omega) (by omega)) ?_
      refine lv_ior hx hb d_R_write_66 ?_
      refine tp_i (y := nI (dg b26 (X % 2 ^ k) (k / 26) + X / 2 ^ k % 2 * 2 ^ (k % 26))) (nI_orp (dg_low hw2)) ?_
      refine x_ist hx hb hw h1 (by omega) hfit d_R_write_67 (fun H locs hw => ?_)
      refine lv_iinc (v := nI (k + 1)) (lv' := [(10, .int (nI (k + 1))), (11, .long (lN (X / 2 ^ k % 2))), (0, .ref (rA G 0)), (1, .int (nI (r))), (2, .long (lN (a))), (4, .long (lN (b))), (6, .long (lN (c))), (8, .long (lN (d)))]) hx hb d_R_write_68 hl (k := 7) rfl (nI_add k 1) (by decide) rfl (fun ls hl => ?_)
      refine lv_goto (tgt := 8) hx hb d_R_write_71 (by decide) ?_
      refine ih (k + 1) (by omega) H locs ls ?_ (lv_sub hl [2, 3, 4, 5, 6, 7, 0] rfl)
      have e1 : ds b26 (X % 2 ^ k) (k / 26) (dg b26 (X % 2 ^ k) (k / 26) + X / 2 ^ k % 2 * 2 ^ (k % 26)) = X % 2 ^ (k + 1) := by
        rw [ds_add, Nat.mul_assoc, pw26, dg_mod 2 X k]
        rfl
      have e2 : va_up (va_up (rV σ) r (X % 2 ^ k)) r (ds b26 (va_up (rV σ) r (X % 2 ^ k) r) (k / 26) (dg b26 (X % 2 ^ k) (k / 26) + X / 2 ^ k % 2 * 2 ^ (k % 26))) = va_up (rV σ) r (X % 2 ^ (k + 1)) := by rw [up_up, up_self, e1]
      rw [← e2]
      exact hw
  refine loop 256 0 rfl _ _ ls ?_ (lv_sub hl [1, 2, 3, 4, 5, 6, 0] rfl)
  rw [Nat.pow_zero, Nat.mod_one]
  exact hw
