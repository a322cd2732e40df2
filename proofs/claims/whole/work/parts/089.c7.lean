/-! points, and runs of calls on the class's rows -/
theorem cWs_setN (K : cG) (τ : cT) {j : Nat} (x : Nat) (hj : j < 6) : (cWs K τ).set (8 + j) (cO K (8 + j), .inr (3, [.int (nI x), .ref (cR K (8 + 2 * j)), .ref (cR K (9 + 2 * j))])) = cWs K (csN τ j x) := by
  rcases (show j = 0 ∨ j = 1 ∨ j = 2 ∨ j = 3 ∨ j = 4 ∨ j = 5 by omega) with rfl | rfl | rfl | rfl | rfl | rfl <;> rfl
theorem c_putN {p : Program} {l : Launch} {e : Env} {R : Room} {s : State} {m : MethodId} {args : Array Value} {below : List Frame} {meth : Method} {c : Code} {H : Heap} {locs : List Loc} {cells slots : Nat} {Q : State → Prop} {cc : ByteArray} {pc : Nat} {ls : Array Slot} {rest : List Value} {K : cG} {τ : cT}
    (hexec : p.tables.exec = Jvm.exec) (hb : c.code = cc) (ht : ∀ w ∈ zT, w.before args s = true) (hown : s.vm.findClass R_P = some m.cls) (hw : cH K τ s H locs) {index j x : Nat} (hj : j < 6) (hx : x < 2) (hlink : (Cond.fieldLink R_P index R_P "none" "Z").before args s = true) (hdg : decode cc pc = .ok (.putfield index, 3))
    (kk : ∀ (H1 : Heap) (locs1 : List Loc), cH K (csN τ j x) s H1 locs1 → W p l e R s m args below meth c H1 locs1 cells slots Q (F0 m (pc + 3) ls rest)) : W p l e R s m args below meth c H locs cells slots Q (F0 m pc ls (.int (nI x) :: .ref (cO K (8 + j)) :: rest)) := by
  obtain ⟨hP, hK, hD, hS, h0⟩ := hw
  refine va_put (ci := 3) (v := .int (nI x)) (ty := .boolean) (C := R_P) (T := F_P) (N := 3) hexec hb ht ku_P t_P t_P_ok n_P hown hK hP hD hS (8 + j) (cWs_pnt K τ hj) rfl 0 (by decide) hlink (fun _ h9 => h9) rfl rfl ?_ ?_ (show 0 < 3 by decide) hdg (fun H1 locs1 hP1 hD1 hS1 => ?_)
  · rcases (show x = 0 ∨ x = 1 by omega) with rfl | rfl <;> decide
  · rcases (show x = 0 ∨ x = 1 by omega) with rfl | rfl <;> decide
  · have e := cWs_setN K τ x hj
    exact kk H1 locs1 ⟨by rw [← e]; exact hP1, hK, by rw [← e]; exact hD1, hS1, h0⟩
theorem qc_mul {τ u w : cT} {V : Nat → Nat} {μ o a b : Nat} (hu : cU τ V u) (ha : a < 30 ∨ 33 < a) (hb : b < 30 ∨ 33 < b) (hp : cU u (va_up (cV u) o (mm (rMod μ) (cV u a) (cV u b))) w) : ∃ V2, cU τ V2 w ∧ V2 o = mm (rMod μ) (V a) (V b) ∧ ∀ r, r ≠ o → V2 r = V r := by
  have h := hu.up hp
  rw [hu.v ha, hu.v hb] at h
  exact ⟨_, h, up_self _ _ _, fun r hr => up_ne _ _ hr⟩
theorem qc_set {τ u w : cT} {V : Nat → Nat} {o x : Nat} (hu : cU τ V u) (ho : o < 30) (hx : x < W8) (hp : w = csV u o x) : ∃ V2, cU τ V2 w ∧ V2 o = x ∧ ∀ r, r ≠ o → V2 r = V r :=
  ⟨_, hu.set ho hx hp, up_self _ _ _, fun r hr => up_ne _ _ hr⟩
theorem qc_pp {τ u w : cT} {V : Nat → Nat} {μ o a b : Nat} (hμ : μ < 2) (hu : cU τ V u) (ho : o < 30) (ha : a < 30 ∨ 33 < a) (hb : b < 30 ∨ 33 < b) (hp : w = csV u o (pp (rMod μ) (cV u a) (cV u b))) : ∃ V2, cU τ V2 w ∧ V2 o = pp (rMod μ) (V a) (V b) ∧ ∀ r, r ≠ o → V2 r = V r := by
  rw [hu.v ha, hu.v hb] at hp
  exact qc_set hu ho (Nat.lt_trans (pp_lt (rMod_pos hμ)) (rMod8 hμ).1) hp
theorem qc_ss {τ u w : cT} {V : Nat → Nat} {μ o a b : Nat} (hμ : μ < 2) (hu : cU τ V u) (ho : o < 30) (ha : a < 30 ∨ 33 < a) (hb : b < 30 ∨ 33 < b) (hp : w = csV u o (ss (rMod μ) (cV u a) (cV u b))) : ∃ V2, cU τ V2 w ∧ V2 o = ss (rMod μ) (V a) (V b) ∧ ∀ r, r ≠ o → V2 r = V r := by
  rw [hu.v ha, hu.v hb] at hp
  exact qc_set hu ho (Nat.lt_trans (ss_lt (rMod_pos hμ)) (rMod8 hμ).1) hp
theorem qc_copy {τ u w : cT} {V : Nat → Nat} {o a : Nat} (hu : cU τ V u) (ho : o < 30) (ha : a < 30 ∨ 33 < a) (ha2 : a < 44) (hp : w = csV u o (cV u a % b32 ^ 8)) : ∃ V2, cU τ V2 w ∧ V2 o = V a ∧ ∀ r, r ≠ o → V2 r = V r := by
  have h := cV_lt hu.2.1 (show a < 32 ∨ 34 ≤ a by omega) ha2
  rw [mod8 h] at hp
  rw [hu.v ha] at h hp
  exact qc_set hu ho h hp
theorem qc_raise {τ u w : cT} {V : Nat → Nat} {μ o a e : Nat} (hu : cU τ V u) (ha : a < 30 ∨ 33 < a) (he : e < 30 ∨ 33 < e) (hp : cU u (va_up (va_up (cV u) (28 + μ) (cV u a ^ cV u e % rMod μ)) o (cV u a ^ cV u e % rMod μ)) w) : ∃ V2, cU τ V2 w ∧ V2 o = V a ^ V e % rMod μ ∧ ∀ r, r ≠ o → r ≠ 28 + μ → V2 r = V r := by
  rw [hu.v ha, hu.v he] at hp
  refine ⟨va_up (va_up V (28 + μ) (V a ^ V e % rMod μ)) o (V a ^ V e % rMod μ), (hu.trans hp).re (fun i hi => ?_), up_self _ _ _, fun r h1 h2 => by rw [up_ne _ _ h1, up_ne _ _ h2]⟩
  unfold va_up
  split
  · rfl
  · split
    · rfl
    · exact hu.1 i hi
/-! what the class's curve does with its running sum -/
def cdA (M y : Nat) : Nat := pp M (mm M y y) (mm M y y)
def cdB (M x y : Nat) : Nat := pp M (mm M (cdA M y) x) (mm M (cdA M y) x)
def cdC (M x : Nat) : Nat := pp M (pp M (mm M x x) (mm M x x)) (mm M x x)
def cdX (M x y : Nat) : Nat := ss M (ss M (mm M (cdC M x) (cdC M x)) (cdB M x y)) (cdB M x y)
def cdY (M x y : Nat) : Nat := ss M (mm M (ss M (cdB M x y) (cdX M x y)) (cdC M x)) (pp M (mm M (cdA M y) (cdA M y)) (mm M (cdA M y) (cdA M y)))
def cdZ (M y z : Nat) : Nat := pp M (mm M z y) (mm M z y)
def cdb (M : Nat) (t : Nat × Nat × Nat) : Nat × Nat × Nat := if t.2.2 = 0 then t else (cdX M t.1 t.2.1, cdY M t.1 t.2.1, cdZ M t.2.1 t.2.2)
def cfB (M x z px : Nat) : Nat := ss M (mm M px (mm M z z)) x
def cfC (M y z py : Nat) : Nat := ss M (mm M py (mm M (mm M z z) z)) y
def cmX (M x b c : Nat) : Nat := ss M (ss M (ss M (mm M c c) (mm M (mm M b b) b)) (mm M (mm M b b) x)) (mm M (mm M b b) x)
def cmY (M x y b c : Nat) : Nat := ss M (mm M (ss M (mm M (mm M b b) x) (cmX M x b c)) c) (mm M (mm M (mm M b b) b) y)
def cin (M : Nat) (t : Nat × Nat × Nat) (nn px py : Nat) : Nat × Nat × Nat := if nn ≠ 0 then t else if t.2.2 = 0 then (px, py, 1) else if cfB M t.1 t.2.2 px ≠ 0 then (cmX M t.1 (cfB M t.1 t.2.2 px) (cfC M t.2.1 t.2.2 py), cmY M t.1 t.2.1 (cfB M t.1 t.2.2 px) (cfC M t.2.1 t.2.2 py), mm M t.2.2 (cfB M t.1 t.2.2 px)) else if cfC M t.2.1 t.2.2 py = 0 then cdb M t else (t.1, t.2.1, 0)
theorem cdb_lt {M : Nat} (hM : 0 < M) {t : Nat × Nat × Nat} (h : t3lt M t) : t3lt M (cdb M t) := by
  unfold cdb
  split
  · exact h
  · exact ⟨ss_lt hM, ss_lt hM, pp_lt hM⟩
theorem cin_lt {M : Nat} (hM : 1 < M) {t : Nat × Nat × Nat} {nn px py : Nat} (h : t3lt M t) (hx : px < M) (hy : py < M) : t3lt M (cin M t nn px py) := by
  have h0 : 0 < M := by omega
  unfold cin
  split
  · exact h
  · split
    · exact ⟨hx, hy, hM⟩
    · split
      · exact ⟨ss_lt h0, ss_lt h0, mm_lt h0⟩
      · split
        · exact cdb_lt h0 h
        · exact ⟨h.1, h.2.1, h0⟩
set_option maxHeartbeats 4000000 in
set_option maxRecDepth 100000 in
theorem c_P_becomeNone (l : Launch) (K : cG) (τ : cT) {j : Nat} (hj : j < 6) : Met l y_P_becomeNone (zW y_P_becomeNone b_P_becomeNone 1 none) (zr 0 0) (va_Pc [.ref (cO K (8 + j))] (cC K τ)) (va_Qv (fun u => u = csN τ j 1) (fun u => cC K u) (cAA K)) 0 0 (cAA K) := by
  refine Met.ofW (cc := b_P_becomeNone) (maxL := 1) (ret := none) (by decide) rfl ?_
  intro p e s m args below meth c s₁ B hml hv
  obtain ⟨rfl, hw⟩ := hv
  have hx := B.exec
  have hb := B.bytes
  have hr := B.returns
  have hts := atoms_spec (ws := zW y_P_becomeNone b_P_becomeNone 1 none) B.pre
  have ht : ∀ w ∈ zT, w.before ([.ref (cO K (8 + j))] : List Value).toArray s = true := fun w h => hts w (List.mem_cons_of_mem _ h)
  have hown : s.vm.findClass R_P = some m.cls := findClass_of_methodNamed B.named
  have hlocks := B.notSynchronized
  have hl := lv_entry ([.ref (cO K (8 + j))]) (n := 1) (Nat.le_of_ble_eq_true rfl)
  rw [lg_entry_eq]
  generalize (lg_sl ([.ref (cO K (8 + j))]) ++ List.replicate (1 - (lg_sl ([.ref (cO K (8 + j))])).length) Slot.unset).toArray = ls at hl ⊢
  have hl : lv_has ls 1 [(0, .ref (cO K (8 + j)))] := hl
  refine lv_aload_n hx hb d_P_becomeNone_0 rfl (lv_at hl 0 rfl) ?_
  refine lv_iconst (v := nI 1) hx hb d_P_becomeNone_1 (by decide) ?_
  refine c_putN hx hb ht hown hw hj (by decide) (ht _ kf_P_9) d_P_becomeNone_2 (fun H locs hw => ?_)
  exact z_vret (cZ K) hx hb hr hlocks _ hw rfl d_P_becomeNone_5
set_option maxHeartbeats 4000000 in
set_option maxRecDepth 100000 in
theorem c_P_become (l : Launch) (K : cG) (τ : cT) (hok : cOk τ) {j x y : Nat} (hj : j < 6) (h1 : x < 30 ∨ 33 < x) (h2 : x < 44) (h3 : y < 30 ∨ 33 < y) (h4 : y < 44) (hne : y ≠ 8 + 2 * j) : Met l y_P_become (zW y_P_become b_P_become 3 none) (zr 2 47) (va_Pc [.ref (cO K (8 + j)), .ref (cR K x), .ref (cR K y)] (cC K τ)) (va_Qv (fun u => cU (csN τ j 0) (va_up (va_up (cV τ) (8 + 2 * j) (cV τ x)) (9 + 2 * j) (cV τ y)) u) (fun u => cC K u) (cAA K)) 0 0 (cAA K) := by
  refine Met.ofW (cc := b_P_become) (maxL := 3) (ret := none) (by decide) rfl ?_
  intro p e s m args below meth c s₁ B hml hv
  obtain ⟨rfl, hw⟩ := hv
  have hx := B.exec
  have hb := B.bytes
  have hr := B.returns
  have hts := atoms_spec (ws := zW y_P_become b_P_become 3 none) B.pre
  have ht : ∀ w ∈ zT, w.before ([.ref (cO K (8 + j)), .ref (cR K x), .ref (cR K y)] : List Value).toArray s = true := fun w h => hts w (List.mem_cons_of_mem _ h)
  have hown : s.vm.findClass R_P = some m.cls := findClass_of_methodNamed B.named
  have hlocks := B.notSynchronized
  have hl := lv_entry ([.ref (cO K (8 + j)), .ref (cR K x), .ref (cR K y)]) (n := 3) (Nat.le_of_ble_eq_true rfl)
  rw [lg_entry_eq]
  generalize (lg_sl ([.ref (cO K (8 + j)), .ref (cR K x), .ref (cR K y)]) ++ List.replicate (3 - (lg_sl ([.ref (cO K (8 + j)), .ref (cR K x), .ref (cR K y)])).length) Slot.unset).toArray = ls at hl ⊢
  have hl : lv_has ls 3 [(0, .ref (cO K (8 + j))), (1, .ref (cR K x)), (2, .ref (cR K y))] := hl
  refine lv_aload_n hx hb d_P_become_0 rfl (lv_at hl 0 rfl) ?_
  refine lv_iconst (v := nI 0) hx hb d_P_become_1 (by decide) ?_
  refine c_putN hx hb ht hown hw hj (by decide) (ht _ kf_P_9) d_P_become_2 (fun H locs hw => ?_)
  have hu0 : cU (csN τ j 0) (cV τ) (csN τ j 0) := cU.refl (τ := csN τ j 0) hok
  refine lv_aload_n hx hb d_P_become_5 rfl (lv_at hl 0 rfl) ?_
  refine va_get (ci := 3) (C := R_P) (T := F_P) (N := 3) (v := .ref (cR K (8 + 2 * j))) hx hb ht ku_P hown hw.2.1 hw.1 (8 + j) (cWs_pnt K _ hj) rfl 1 (by decide) (ht _ kf_P_15) (fun _ h9 => h9) rfl d_P_become_6 ?_
  refine lv_aload_n hx hb d_P_become_9 rfl (lv_at hl 1 rfl) ?_
  refine c_sv (np := 2) (As := [.ref (cR K (8 + 2 * j)), .ref (cR K x)]) (rest := []) ⟨hx, hb, hml, hown, ht⟩ hw (c_L_copy l K (csN τ j 0) hu0.2.1 (o := 8 + 2 * j) (a := x) (by omega) h2) ⟨km_P_22, ks_L_copy, kc_L_copy⟩ ki_L (by decide +kernel) ⟨by decide, by decide⟩ rfl rfl rfl hl.1 rfl (Nat.le_of_ble_eq_true rfl) d_P_become_10 ⟨Nat.le_refl _, Nat.le_refl _⟩ (fun u1 H locs hp hw => ?_)
  obtain ⟨V1, hu1, ht1, hk1⟩ := qc_copy hu0 (by omega) h1 h2 hp
  refine lv_aload_n hx hb d_P_become_13 rfl (lv_at hl 0 rfl) ?_
  refine va_get (ci := 3) (C := R_P) (T := F_P) (N := 3) (v := .ref (cR K (9 + 2 * j))) hx hb ht ku_P hown hw.2.1 hw.1 (8 + j) (cWs_pnt K _ hj) rfl 2 (by decide) (ht _ kf_P_19) (fun _ h9 => h9) rfl d_P_become_14 ?_
  refine lv_aload_n hx hb d_P_become_17 rfl (lv_at hl 2 rfl) ?_
  refine c_sv (np := 2) (As := [.ref (cR K (9 + 2 * j)), .ref (cR K y)]) (rest := []) ⟨hx, hb, hml, hown, ht⟩ hw (c_L_copy l K u1 hu1.2.1 (o := 9 + 2 * j) (a := y) (by omega) h4) ⟨km_P_22, ks_L_copy, kc_L_copy⟩ ki_L (by decide +kernel) ⟨by decide, by decide⟩ rfl rfl rfl hl.1 rfl (Nat.le_of_ble_eq_true rfl) d_P_become_18 ⟨Nat.le_refl _, Nat.le_refl _⟩ (fun u2 H locs hp hw => ?_)
  obtain ⟨V2, hu2, ht2, hk2⟩ := qc_copy hu1 (by omega) h3 h4 hp
  refine z_vret (cZ K) hx hb hr hlocks u2 hw ?_ d_P_become_21
  refine hu2.re (fun i hi => ?_)
  by_cases e1 : i = 9 + 2 * j
  · rw [e1, ht2, hk1 y hne, up_self]
  · rw [hk2 i e1, up_ne _ _ e1]
    by_cases e2 : i = 8 + 2 * j
    · rw [e2, ht1, up_self]
    · rw [hk1 i e2, up_ne _ _ e2]
