/-! the desk: set, get, reduce, place, put -/
theorem dg_c0 {b x : Nat} (y : Nat) (hx : x < b) : dg b (x + b * y) 0 = x := by
  unfold dg
  rw [Nat.pow_zero, Nat.div_one, Nat.add_mul_mod_self_left, Nat.mod_eq_of_lt hx]
theorem dg_cs {b x : Nat} (y j : Nat) (hx : x < b) : dg b (x + b * y) (j + 1) = dg b y j := by
  unfold dg
  rw [Nat.pow_succ', ← Nat.div_div_eq_div_mul, Nat.add_mul_div_left _ _ (by omega), Nat.div_eq_of_lt hx, Nat.zero_add]
theorem div32 {v : Nat} (h : v < 2 ^ 64) : v / b32 < b32 := by unfold b32; omega
def set2 (w k v : Nat) : Nat := ds b32 (ds b32 w (6 - 2 * k) (v % b32)) (6 - 2 * k + 1) (v / b32)
theorem set2_lt {w k v : Nat} (hk : k < 4) (hv : v < 2 ^ 64) (hw : w < b32 ^ 8) : set2 w k v < b32 ^ 8 := by
  unfold set2
  exact ds_lt b32_pos (div32 hv) (by omega) (ds_lt b32_pos (Nat.mod_lt _ b32_pos) (by omega) hw)
theorem set2_dg {w k v : Nat} (hv : v < 2 ^ 64) (j : Nat) : dg b32 (set2 w k v) j = if j = 6 - 2 * k + 1 then v / b32 else if j = 6 - 2 * k then v % b32 else dg b32 w j := by
  unfold set2
  rw [ds_dg b32_pos _ (div32 hv), ds_dg b32_pos _ (Nat.mod_lt _ b32_pos)]
theorem set8 {w a b c d : Nat} (hw : w < b32 ^ 8) (ha : a < 2 ^ 64) (hb : b < 2 ^ 64) (hc : c < 2 ^ 64) (hd : d < 2 ^ 64) : set2 (set2 (set2 (set2 w 0 a) 1 b) 2 c) 3 d = W4 a b c d := by
  have p : ∀ v : Nat, v % b32 < b32 := fun v => Nat.mod_lt _ b32_pos
  have q : ∀ {v : Nat}, v < 2 ^ 64 → v / b32 < b32 := fun h => div32 h
  have e : W4 a b c d = d % b32 + b32 * (d / b32 + b32 * (c % b32 + b32 * (c / b32 + b32 * (b % b32 + b32 * (b / b32 + b32 * (a % b32 + b32 * (a / b32 + b32 * 0))))))) := by
    unfold W4
    unfold b32
    omega
  have hl : W4 a b c d < b32 ^ 8 := by
    unfold W4
    rw [show b32 ^ 8 = 115792089237316195423570985008687907853269984665640564039457584007913129639936 by decide]
    omega
  refine dg_ext' 8 (set2_lt (by decide) hd (set2_lt (by decide) hc (set2_lt (by decide) hb (set2_lt (by decide) ha hw)))) hl (fun j hj => ?_)
  rw [set2_dg hd, set2_dg hc, set2_dg hb, set2_dg ha, e]
  rcases (show j = 0 ∨ j = 1 ∨ j = 2 ∨ j = 3 ∨ j = 4 ∨ j = 5 ∨ j = 6 ∨ j = 7 by omega) with rfl | rfl | rfl | rfl | rfl | rfl | rfl | rfl
  · rw [dg_c0 _ (p d)]; rfl
  · rw [dg_cs _ _ (p d), dg_c0 _ (q hd)]; rfl
  · rw [dg_cs _ _ (p d), dg_cs _ _ (q hd), dg_c0 _ (p c)]; rfl
  · rw [dg_cs _ _ (p d), dg_cs _ _ (q hd), dg_cs _ _ (p c), dg_c0 _ (q hc)]; rfl
  · rw [dg_cs _ _ (p d), dg_cs _ _ (q hd), dg_cs _ _ (p c), dg_cs _ _ (q hc), dg_c0 _ (p b)]; rfl
  · rw [dg_cs _ _ (p d), dg_cs _ _ (q hd), dg_cs _ _ (p c), dg_cs _ _ (q hc), dg_cs _ _ (p b), dg_c0 _ (q hb)]; rfl
  · rw [dg_cs _ _ (p d), dg_cs _ _ (q hd), dg_cs _ _ (p c), dg_cs _ _ (q hc), dg_cs _ _ (p b), dg_cs _ _ (q hb), dg_c0 _ (p a)]; rfl
  · rw [dg_cs _ _ (p d), dg_cs _ _ (q hd), dg_cs _ _ (p c), dg_cs _ _ (q hc), dg_cs _ _ (p b), dg_cs _ _ (q hb), dg_cs _ _ (p a), dg_c0 _ (q ha)]; rfl
theorem get2 (v i : Nat) : dg b32 v (2 * i + 1) * b32 + dg b32 v (2 * i) = v / 2 ^ (64 * i) % 2 ^ 64 := by
  unfold dg
  rw [b32_p, b32_p, show 32 * (2 * i + 1) = 64 * i + 32 by omega, show 32 * (2 * i) = 64 * i by omega, Nat.pow_add, ← Nat.div_div_eq_div_mul]
  generalize v / 2 ^ (64 * i) = z
  unfold b32
  omega
set_option maxHeartbeats 4000000 in
set_option maxRecDepth 100000 in
theorem c_D_set (l : Launch) (K : cG) (τ : cT) (hok : cOk τ) (x : Int32) {a b c9 d : Nat} (ha : a < 2 ^ 64) (hb0 : b < 2 ^ 64) (hc : c9 < 2 ^ 64) (hd : d < 2 ^ 64) : Met l y_D_set (zW y_D_set b_D_set 11 (some .boolean)) (zr 1 24) (va_Pc [.ref (cO K 0), .int (x), .long (lN (a)), .long (lN (b)), .long (lN (c9)), .long (lN (d))] (cC K τ)) (va_Qi (fun r u => r = nI (boolN (okR x 8)) ∧ (¬ okR x 8 → u = τ) ∧ ∀ j, j < 8 → x = nI j → u = csV τ j (W4 a b c9 d)) (fun u => cC K u) (cAA K)) 0 0 (cAA K) := by
  refine Met.ofW (cc := b_D_set) (maxL := 11) (ret := (some .boolean)) (by decide) rfl ?_
  intro p e s m args below meth c s₁ B hml hv
  obtain ⟨rfl, hw⟩ := hv
  have hx := B.exec
  have hb := B.bytes
  have hr := B.returns
  have hts := atoms_spec (ws := zW y_D_set b_D_set 11 (some .boolean)) B.pre
  have ht : ∀ w ∈ zT, w.before ([.ref (cO K 0), .int (x), .long (lN (a)), .long (lN (b)), .long (lN (c9)), .long (lN (d))] : List Value).toArray s = true := fun w h => hts w (List.mem_cons_of_mem _ h)
  have hown : s.vm.findClass R_D = some m.cls := findClass_of_methodNamed B.named
  have hlocks := B.notSynchronized
  have hl := lv_entry ([.ref (cO K 0), .int (x), .long (lN (a)), .long (lN (b)), .long (lN (c9)), .long (lN (d))]) (n := 11) (Nat.le_of_ble_eq_true rfl)
  rw [lg_entry_eq]
  generalize (lg_sl ([.ref (cO K 0), .int (x), .long (lN (a)), .long (lN (b)), .long (lN (c9)), .long (lN (d))]) ++ List.replicate (11 - (lg_sl ([.ref (cO K 0), .int (x), .long (lN (a)), .long (lN (b)), .long (lN (c9)), .long (lN (d))])).length) Slot.unset).toArray = ls at hl ⊢
  have hl : lv_has ls 11 [(0, .ref (cO K 0)), (1, .int (x)), (2, .long (lN (a))), (4, .long (lN (b))), (6, .long (lN (c9))), (8, .long (lN (d)))] := hl
  refine lv_iload_n hx hb d_D_set_0 rfl (lv_at hl 1 rfl) ?_
  refine c_si (np := 1) (As := [.int (x)]) (rest := []) ⟨hx, hb, hml, hown, ht⟩ hw (c_D_isRegister l K τ x) ⟨km_D_91, ks_D_isRegister, kc_D_isRegister⟩ ki_D (by decide +kernel) ⟨by decide, by decide⟩ rfl rfl rfl hl.1 rfl (Nat.le_of_ble_eq_true rfl) d_D_set_1 ⟨Nat.le_refl _, Nat.le_refl _⟩ (fun r ux H locs hp hw => ?_)
  obtain ⟨hpu, rfl⟩ := hp
  rw [hpu] at hw
  clear hpu
  refine n_ne0 (tgt := 9) hx hb d_D_set_4 (by decide) (boolN_s _) (fun c1 => ?_) (fun c1 => ?_)
  · have k1 := boolN_1 c1
    obtain ⟨j, lt_j, ex⟩ := k1.ex (by decide)
    have hl2 := hl
    rw [ex] at hl2
    have hl : lv_has ls 11 [(0, .ref (cO K 0)), (1, .int (nI (j))), (2, .long (lN (a))), (4, .long (lN (b))), (6, .long (lN (c9))), (8, .long (lN (d)))] := hl2
    clear hl2
    refine lv_aload_n hx hb d_D_set_9 rfl (lv_at hl 0 rfl) ?_
    refine va_get (ci := 4) (C := R_D) (T := F_D) (N := 10) (v := .ref (cO K 3)) hx hb ht ku_D hown hw.2.1 hw.1 0 rfl rfl 0 (by decide) (ht _ kf_D_11) (fun _ h9 => h9) rfl d_D_set_10 ?_
    refine lv_iload_n hx hb d_D_set_13 rfl (lv_at hl 1 rfl) ?_
    refine c_reg hx hb hw (i := j) (by omega) d_D_set_14 ?_
    refine lv_astore (lv' := [(10, .ref (cR K j)), (0, .ref (cO K 0)), (1, .int (nI (j))), (2, .long (lN (a))), (4, .long (lN (b))), (6, .long (lN (c9))), (8, .long (lN (d)))]) hx hb d_D_set_15 hl (by decide) rfl (fun ls hl => ?_)
    have w0 : cV τ j < b32 ^ 8 := cV_lt hok (by omega) (by omega)
    refine lv_aload hx hb d_D_set_17 (lv_at hl 0 rfl) ?_
    refine lv_iconst (v := nI 0) hx hb d_D_set_19 (by decide) ?_
    refine lv_lload_n hx hb d_D_set_20 rfl (lv_at hl 3 rfl) ?_
    refine c_sv (np := 3) (As := [.ref (cR K j), .int (nI (0)), .long (lN (a))]) (rest := []) ⟨hx, hb, hml, hown, ht⟩ hw (c_L_setLong l K τ (o := j) (k := 0) (v := a) (by omega) (by decide) (by assumption)) ⟨km_D_95, ks_L_setLong, kc_L_setLong⟩ ki_L (by decide +kernel) ⟨by decide, by decide⟩ rfl rfl rfl hl.1 rfl (Nat.le_of_ble_eq_true rfl) d_D_set_21 ⟨Nat.le_refl _, Nat.le_refl _⟩ (fun u0 H locs hp hw => ?_)
    have f0 : cV u0 j = set2 (cV τ j) 0 a := by rw [hp]; exact cV_self _ (by omega)
    have hp0 : u0 = csV τ j (cV u0 j) := by
      rw [f0]; exact hp
    clear hp
    refine lv_aload hx hb d_D_set_24 (lv_at hl 0 rfl) ?_
    refine lv_iconst (v := nI 1) hx hb d_D_set_26 (by decide) ?_
    refine lv_lload hx hb d_D_set_27 (lv_at hl 4 rfl) ?_
    refine c_sv (np := 3) (As := [.ref (cR K j), .int (nI (1)), .long (lN (b))]) (rest := []) ⟨hx, hb, hml, hown, ht⟩ hw (c_L_setLong l K _ (o := j) (k := 1) (v := b) (by omega) (by decide) (by assumption)) ⟨km_D_95, ks_L_setLong, kc_L_setLong⟩ ki_L (by decide +kernel) ⟨by decide, by decide⟩ rfl rfl rfl hl.1 rfl (Nat.le_of_ble_eq_true rfl) d_D_set_29 ⟨Nat.le_refl _, Nat.le_refl _⟩ (fun u1 H locs hp hw => ?_)
    have f1 : cV u1 j = set2 (cV u0 j) 1 b := by rw [hp]; exact cV_self _ (by omega)
    have hp1 : u1 = csV τ j (cV u1 j) := by
      rw [f1, hp, hp0, csV_up, ← hp0]; rfl
    clear hp
    refine lv_aload hx hb d_D_set_32 (lv_at hl 0 rfl) ?_
    refine lv_iconst (v := nI 2) hx hb d_D_set_34 (by decide) ?_
    refine lv_lload hx hb d_D_set_35 (lv_at hl 5 rfl) ?_
    refine c_sv (np := 3) (As := [.ref (cR K j), .int (nI (2)), .long (lN (c9))]) (rest := []) ⟨hx, hb, hml, hown, ht⟩ hw (c_L_setLong l K _ (o := j) (k := 2) (v := c9) (by omega) (by decide) (by assumption)) ⟨km_D_95, ks_L_setLong, kc_L_setLong⟩ ki_L (by decide +kernel) ⟨by decide, by decide⟩ rfl rfl rfl hl.1 rfl (Nat.le_of_ble_eq_true rfl) d_D_set_37 ⟨Nat.le_refl _, Nat.le_refl _⟩ (fun u2 H locs hp hw => ?_)
    have f2 : cV u2 j = set2 (cV u1 j) 2 c9 := by rw [hp]; exact cV_self _ (by omega)
    have hp2 : u2 = csV τ j (cV u2 j) := by
      rw [f2, hp, hp1, csV_up, ← hp1]; rfl
    clear hp
    refine lv_aload hx hb d_D_set_40 (lv_at hl 0 rfl) ?_
    refine lv_iconst (v := nI 3) hx hb d_D_set_42 (by decide) ?_
    refine lv_lload hx hb d_D_set_43 (lv_at hl 6 rfl) ?_
    refine c_sv (np := 3) (As := [.ref (cR K j), .int (nI (3)), .long (lN (d))]) (rest := []) ⟨hx, hb, hml, hown, ht⟩ hw (c_L_setLong l K _ (o := j) (k := 3) (v := d) (by omega) (by decide) (by assumption)) ⟨km_D_95, ks_L_setLong, kc_L_setLong⟩ ki_L (by decide +kernel) ⟨by decide, by decide⟩ rfl rfl rfl hl.1 rfl (Nat.le_of_ble_eq_true rfl) d_D_set_45 ⟨Nat.le_refl _, Nat.le_refl _⟩ (fun u3 H locs hp hw => ?_)
    have f3 : cV u3 j = set2 (cV u2 j) 3 d := by rw [hp]; exact cV_self _ (by omega)
    have hp3 : u3 = csV τ j (cV u3 j) := by
      rw [f3, hp, hp2, csV_up, ← hp2]; rfl
    clear hp
    refine lv_iconst (v := nI 1) hx hb d_D_set_48 (by decide) ?_
    refine z_zret (cZ K) hx hb hr hlocks (nar_b (by decide)) u3 hw ⟨by rw [boolN_t k1], fun q => absurd k1 q, fun j_ w1 e1 => ?_⟩ d_D_set_49
    have q_j_ : j_ = j := (nI_eq (by omega) (by omega)).mp (e1.symm.trans ex)
    subst q_j_
    rw [hp3, f3, f2, f1, f0, set8 w0 ha hb0 hc hd]
  · refine lv_iconst (v := nI 0) hx hb d_D_set_7 (by decide) ?_
    have k1 := boolN_0 c1
    exact z_zret (cZ K) hx hb hr hlocks (nar_b (by decide)) τ hw ⟨by rw [boolN_f k1], fun _ => rfl, fun j w1 e1 => absurd (by rw [e1]; exact okR_of w1 (by decide)) k1⟩ d_D_set_8
set_option maxHeartbeats 4000000 in
set_option maxRecDepth 100000 in
theorem c_D_get (l : Launch) (K : cG) (τ : cT) (x y : Int32) : Met l y_D_get (zW y_D_get b_D_get 3 (some .long)) (zr 1 22) (va_Pc [.ref (cO K 0), .int (x), .int (y)] (cC K τ)) (va_Ql (fun r u => u = τ ∧ (¬ (okR x 8 ∧ okR y 4) → r = lN 0) ∧ ∀ j k, j < 8 → k < 4 → x = nI j → y = nI k → r = lN (cV τ j / 2 ^ (64 * (3 - k)) % 2 ^ 64)) (fun u => cC K u) (cAA K)) 0 0 (cAA K) := by
  refine Met.ofW (cc := b_D_get) (maxL := 3) (ret := (some .long)) (by decide) rfl ?_
  intro p e s m args below meth c s₁ B hml hv
  obtain ⟨rfl, hw⟩ := hv
  have hx := B.exec
  have hb := B.bytes
  have hr := B.returns
  have hts := atoms_spec (ws := zW y_D_get b_D_get 3 (some .long)) B.pre
  have ht : ∀ w ∈ zT, w.before ([.ref (cO K 0), .int (x), .int (y)] : List Value).toArray s = true := fun w h => hts w (List.mem_cons_of_mem _ h)
  have hown : s.vm.findClass R_D = some m.cls := findClass_of_methodNamed B.named
  have hlocks := B.notSynchronized
  have hl := lv_entry ([.ref (cO K 0), .int (x), .int (y)]) (n := 3) (Nat.le_of_ble_eq_true rfl)
  rw [lg_entry_eq]
  generalize (lg_sl ([.ref (cO K 0), .int (x), .int (y)]) ++ List.replicate (3 - (lg_sl ([.ref (cO K 0), .int (x), .int (y)])).length) Slot.unset).toArray = ls at hl ⊢
  have hl : lv_has ls 3 [(0, .ref (cO K 0)), (1, .int (x)), (2, .int (y))] := hl
  have hno : ∀ (H : Heap) (locs : List Loc) (ls : Array Slot), cH K τ s H locs → lv_has ls 3 [(0, .ref (cO K 0)), (1, .int (x)), (2, .int (y))] → ¬ (okR x 8 ∧ okR y 4) → W p l e (headSpec (zW y_D_get b_D_get 3 (some .long)) (zr 1 22)).room s m ([.ref (cO K 0), .int (x), .int (y)] : List Value).toArray below meth c H locs 0 0 (MQ below (va_Ql (fun r u => u = τ ∧ (¬ (okR x 8 ∧ okR y 4) → r = lN 0) ∧ ∀ j k, j < 8 → k < 4 → x = nI j → y = nI k → r = lN (cV τ j / 2 ^ (64 * (3 - k)) % 2 ^ 64)) (fun u => cC K u) (cAA K)) ([.ref (cO K 0), .int (x), .int (y)] : List Value).toArray s 0 0 (cAA K)) (F0 m 16 ls []) := by
    intro H locs ls hw hl hn
    refine lv_lconst (v := lN 0) hx hb d_D_get_16 (by decide) ?_
    refine z_lret (cZ K) hx hb hr hlocks τ hw ⟨rfl, fun _ => rfl, fun j k w1 w2 e1 e2 => absurd ⟨?_, ?_⟩ hn⟩ d_D_get_17
    · rw [e1]; exact okR_of w1 (by decide)
    · rw [e2]; exact okR_of w2 (by decide)
  refine lv_iload_n hx hb d_D_get_0 rfl (lv_at hl 1 rfl) ?_
  refine c_si (np := 1) (As := [.int (x)]) (rest := []) ⟨hx, hb, hml, hown, ht⟩ hw (c_D_isRegister l K τ x) ⟨km_D_91, ks_D_isRegister, kc_D_isRegister⟩ ki_D (by decide +kernel) ⟨by decide, by decide⟩ rfl rfl rfl hl.1 rfl (Nat.le_of_ble_eq_true rfl) d_D_get_1 ⟨Nat.le_refl _, Nat.le_refl _⟩ (fun r ux H locs hp hw => ?_)
  obtain ⟨hpu, rfl⟩ := hp
  rw [hpu] at hw
  clear hpu
  refine n_eq0 (tgt := 16) hx hb d_D_get_4 (by decide) (boolN_s _) (fun c1 => hno _ _ ls hw hl (fun q => boolN_0 c1 q.1)) (fun c1 => ?_)
  refine lv_iload_n hx hb d_D_get_7 rfl (lv_at hl 2 rfl) ?_
  refine lv_if_lt (tgt := 16) hx hb d_D_get_8 (by decide) (fun c2 => hno _ _ ls hw hl (fun q => q.2.1 c2)) (fun c2 => ?_)
  refine lv_iload_n hx hb d_D_get_11 rfl (lv_at hl 2 rfl) ?_
  refine lv_iconst (v := nI 3) hx hb d_D_get_12 (by decide) ?_
  refine lv_icmp_le (tgt := 18) hx hb d_D_get_13 (by decide) (fun c3 => ?_) (fun c3 => hno _ _ ls hw hl (fun q => c3 ((le_lt (by decide)).mpr q.2.2)))
  have k1 := boolN_1 c1
  have k2 : okR y 4 := ⟨c2, (le_lt (by decide)).mp c3⟩
  clear hno
  obtain ⟨j, lt_j, ex⟩ := k1.ex (by decide)
  obtain ⟨k, lt_k, ey⟩ := k2.ex (by decide)
  have hl2 := hl
  rw [ex, ey] at hl2
  have hl : lv_has ls 3 [(0, .ref (cO K 0)), (1, .int (nI (j))), (2, .int (nI (k)))] := hl2
  clear hl2
  refine lv_aload_n hx hb d_D_get_18 rfl (lv_at hl 0 rfl) ?_
  refine va_get (ci := 4) (C := R_D) (T := F_D) (N := 10) (v := .ref (cO K 3)) hx hb ht ku_D hown hw.2.1 hw.1 0 rfl rfl 0 (by decide) (ht _ kf_D_11) (fun _ h9 => h9) rfl d_D_get_19 ?_
  refine lv_iload_n hx hb d_D_get_22 rfl (lv_at hl 1 rfl) ?_
  refine c_reg hx hb hw (i := j) (by omega) d_D_get_23 ?_
  refine lv_iload_n hx hb d_D_get_24 rfl (lv_at hl 2 rfl) ?_
  refine c_sl (np := 2) (As := [.ref (cR K j), .int (nI (k))]) (rest := []) ⟨hx, hb, hml, hown, ht⟩ hw (c_L_longOf l K τ (a := j) (k := k) (by omega) (by omega) (by omega)) ⟨km_D_101, ks_L_longOf, kc_L_longOf⟩ ki_L (by decide +kernel) ⟨by decide, by decide⟩ rfl rfl rfl hl.1 rfl (Nat.le_of_ble_eq_true rfl) d_D_get_25 ⟨Nat.le_refl _, Nat.le_refl _⟩ (fun r ux H locs hp hw => ?_)
  obtain ⟨hpu, rfl⟩ := hp
  rw [hpu] at hw
  refine z_lret (cZ K) hx hb hr hlocks τ hw ⟨rfl, fun q => absurd ⟨k1, k2⟩ q, fun j_ k_ w1 w2 e1 e2 => ?_⟩ d_D_get_28
  have q_j_ : j_ = j := (nI_eq (by omega) (by omega)).mp (e1.symm.trans ex)
  subst q_j_
  have q_k_ : k_ = k := (nI_eq (by omega) (by omega)).mp (e2.symm.trans ey)
  subst q_k_
  rw [show 6 - 2 * k_ + 1 = 2 * (3 - k_) + 1 by omega, show 6 - 2 * k_ = 2 * (3 - k_) by omega, get2]
set_option maxHeartbeats 4000000 in
set_option maxRecDepth 100000 in
theorem c_D_reduce (l : Launch) (K : cG) (τ : cT) (hok : cOk τ) (x y : Int32) : Met l y_D_reduce (zW y_D_reduce b_D_reduce 3 (some .boolean)) (zr 3 64) (va_Pc [.ref (cO K 0), .int (x), .int (y)] (cC K τ)) (va_Qi (fun r u => r = nI (boolN (okR x 8 ∧ okR y 2)) ∧ (¬ (okR x 8 ∧ okR y 2) → u = τ) ∧ ∀ a μ, a < 8 → μ < 2 → x = nI a → y = nI μ → u = csV τ a (cV τ a % rMod μ)) (fun u => cC K u) (cAA K)) 0 0 (cAA K) := by
  refine Met.ofW (cc := b_D_reduce) (maxL := 3) (ret := (some .boolean)) (by decide) rfl ?_
  intro p e s m args below meth c s₁ B hml hv
  obtain ⟨rfl, hw⟩ := hv
  have hx := B.exec
  have hb := B.bytes
  have hr := B.returns
  have hts := atoms_spec (ws := zW y_D_reduce b_D_reduce 3 (some .boolean)) B.pre
  have ht : ∀ w ∈ zT, w.before ([.ref (cO K 0), .int (x), .int (y)] : List Value).toArray s = true := fun w h => hts w (List.mem_cons_of_mem _ h)
  have hown : s.vm.findClass R_D = some m.cls := findClass_of_methodNamed B.named
  have hlocks := B.notSynchronized
  have hl := lv_entry ([.ref (cO K 0), .int (x), .int (y)]) (n := 3) (Nat.le_of_ble_eq_true rfl)
  rw [lg_entry_eq]
  generalize (lg_sl ([.ref (cO K 0), .int (x), .int (y)]) ++ List.replicate (3 - (lg_sl ([.ref (cO K 0), .int (x), .int (y)])).length) Slot.unset).toArray = ls at hl ⊢
  have hl : lv_has ls 3 [(0, .ref (cO K 0)), (1, .int (x)), (2, .int (y))] := hl
  have hno : ∀ (H : Heap) (locs : List Loc) (ls : Array Slot), cH K τ s H locs → lv_has ls 3 [(0, .ref (cO K 0)), (1, .int (x)), (2, .int (y))] → ¬ (okR x 8 ∧ okR y 2) → W p l e (headSpec (zW y_D_reduce b_D_reduce 3 (some .boolean)) (zr 3 64)).room s m ([.ref (cO K 0), .int (x), .int (y)] : List Value).toArray below meth c H locs 0 0 (MQ below (va_Qi (fun r u => r = nI (boolN (okR x 8 ∧ okR y 2)) ∧ (¬ (okR x 8 ∧ okR y 2) → u = τ) ∧ ∀ a μ, a < 8 → μ < 2 → x = nI a → y = nI μ → u = csV τ a (cV τ a % rMod μ)) (fun u => cC K u) (cAA K)) ([.ref (cO K 0), .int (x), .int (y)] : List Value).toArray s 0 0 (cAA K)) (F0 m 14 ls []) := by
    intro H locs ls hw hl hn
    refine lv_iconst (v := nI 0) hx hb d_D_reduce_14 (by decide) ?_
    refine z_zret (cZ K) hx hb hr hlocks (nar_b (by decide)) τ hw ⟨by rw [boolN_f hn], fun _ => rfl, fun j k w1 w2 e1 e2 => absurd ⟨?_, ?_⟩ hn⟩ d_D_reduce_15
    · rw [e1]; exact okR_of w1 (by decide)
    · rw [e2]; exact okR_of w2 (by decide)
  refine lv_iload_n hx hb d_D_reduce_0 rfl (lv_at hl 1 rfl) ?_
  refine c_si (np := 1) (As := [.int (x)]) (rest := []) ⟨hx, hb, hml, hown, ht⟩ hw (c_D_isRegister l K τ x) ⟨km_D_91, ks_D_isRegister, kc_D_isRegister⟩ ki_D (by decide +kernel) ⟨by decide, by decide⟩ rfl rfl rfl hl.1 rfl (Nat.le_of_ble_eq_true rfl) d_D_reduce_1 ⟨Nat.le_refl _, Nat.le_refl _⟩ (fun r ux H locs hp hw => ?_)
  obtain ⟨hpu, rfl⟩ := hp
  rw [hpu] at hw
  clear hpu
  refine n_eq0 (tgt := 14) hx hb d_D_reduce_4 (by decide) (boolN_s _) (fun c1 => hno _ _ ls hw hl (fun q => boolN_0 c1 q.1)) (fun c1 => ?_)
  refine lv_iload_n hx hb d_D_reduce_7 rfl (lv_at hl 2 rfl) ?_
  refine c_si (np := 1) (As := [.int (y)]) (rest := []) ⟨hx, hb, hml, hown, ht⟩ hw (c_D_isModulus l K τ y) ⟨km_D_105, ks_D_isModulus, kc_D_isModulus⟩ ki_D (by decide +kernel) ⟨by decide, by decide⟩ rfl rfl rfl hl.1 rfl (Nat.le_of_ble_eq_true rfl) d_D_reduce_8 ⟨Nat.le_refl _, Nat.le_refl _⟩ (fun r ux H locs hp hw => ?_)
  obtain ⟨hpu, rfl⟩ := hp
  rw [hpu] at hw
  clear hpu
  refine n_ne0 (tgt := 16) hx hb d_D_reduce_11 (by decide) (boolN_s _) (fun c2 => ?_) (fun c2 => hno _ _ ls hw hl (fun q => boolN_0 c2 q.2))
  have k1 := boolN_1 c1
  have k2 := boolN_1 c2
  clear hno
  obtain ⟨a, lt_a, ex⟩ := k1.ex (by decide)
  obtain ⟨μ, lt_μ, ey⟩ := k2.ex (by decide)
  have hl2 := hl
  rw [ex, ey] at hl2
  have hl : lv_has ls 3 [(0, .ref (cO K 0)), (1, .int (nI (a))), (2, .int (nI (μ)))] := hl2
  clear hl2
  refine lv_aload_n hx hb d_D_reduce_16 rfl (lv_at hl 0 rfl) ?_
  refine lv_iload_n hx hb d_D_reduce_17 rfl (lv_at hl 2 rfl) ?_
  refine c_cr (np := 1) (As := [.int (nI (μ))]) (rest := []) ⟨hx, hb, hml, hown, ht⟩ hw (c_D_modulusOf l K τ lt_μ) 0 rfl rfl ⟨km_D_108, kv_D_modulusOf, kx_D_modulusOf, kc_D_modulusOf⟩ ki_D (by decide +kernel) ⟨by decide, by decide⟩ rfl rfl rfl hl.1 rfl (Nat.le_of_ble_eq_true rfl) d_D_reduce_18 ⟨Nat.le_refl _, Nat.le_refl _⟩ (fun H locs hw => ?_)
  refine lv_aload_n hx hb d_D_reduce_21 rfl (lv_at hl 0 rfl) ?_
  refine va_get (ci := 4) (C := R_D) (T := F_D) (N := 10) (v := .ref (cO K 3)) hx hb ht ku_D hown hw.2.1 hw.1 0 rfl rfl 0 (by decide) (ht _ kf_D_11) (fun _ h9 => h9) rfl d_D_reduce_22 ?_
  refine lv_iload_n hx hb d_D_reduce_25 rfl (lv_at hl 1 rfl) ?_
  refine c_reg hx hb hw (i := a) (by omega) d_D_reduce_26 ?_
  refine c_cv (np := 1) (As := [.ref (cR K a)]) (rest := []) ⟨hx, hb, hml, hown, ht⟩ hw (c_M_bringBelow l K τ hok (μ := μ) (o := a) lt_μ (by omega)) (5 + μ) (cWs_mod K _ lt_μ) rfl ⟨km_D_112, kv_M_bringBelow, kx_M_bringBelow, kc_M_bringBelow⟩ ki_M (by decide +kernel) ⟨by decide, by decide⟩ rfl rfl rfl hl.1 rfl (Nat.le_of_ble_eq_true rfl) d_D_reduce_27 ⟨Nat.le_refl _, Nat.le_refl _⟩ (fun u1 H locs hp hw => ?_)
  refine lv_iconst (v := nI 1) hx hb d_D_reduce_30 (by decide) ?_
  refine z_zret (cZ K) hx hb hr hlocks (nar_b (by decide)) u1 hw ⟨by rw [boolN_t ⟨k1, k2⟩], fun q => absurd ⟨k1, k2⟩ q, fun a_ μ_ w1 w2 e1 e2 => ?_⟩ d_D_reduce_31
  have q_a_ : a_ = a := (nI_eq (by omega) (by omega)).mp (e1.symm.trans ex)
  subst q_a_
  have q_μ_ : μ_ = μ := (nI_eq (by omega) (by omega)).mp (e2.symm.trans ey)
  subst q_μ_
  exact hp
set_option maxHeartbeats 4000000 in
set_option maxRecDepth 100000 in
theorem c_D_place (l : Launch) (K : cG) (τ : cT) (hok : cOk τ) (hn2 : ∀ q, q < 6 → cN τ q < 2) (x y z : Int32) : Met l y_D_place (zW y_D_place b_D_place 4 (some .int)) (zr 2 47) (va_Pc [.ref (cO K 0), .int (x), .int (y), .int (z)] (cC K τ)) (va_Qi (fun r u => (¬ (okR x 4 ∧ okR y 8 ∧ okR z 8 ∧ y ≠ z) → r = -1 ∧ u = τ) ∧ ∀ q a b, q < 4 → a < 8 → b < 8 → a ≠ b → x = nI q → y = nI a → z = nI b → (cN τ q ≠ 0 → r = nI 0 ∧ u = τ) ∧ (cN τ q = 0 → r = nI 1 ∧ u = csV (csV τ a (cV τ (8 + 2 * q))) b (cV τ (9 + 2 * q)))) (fun u => cC K u) (cAA K)) 0 0 (cAA K) := by
  refine Met.ofW (cc := b_D_place) (maxL := 4) (ret := (some .int)) (by decide) rfl ?_
  intro p e s m args below meth c s₁ B hml hv
  obtain ⟨rfl, hw⟩ := hv
  have hx := B.exec
  have hb := B.bytes
  have hr := B.returns
  have hts := atoms_spec (ws := zW y_D_place b_D_place 4 (some .int)) B.pre
  have ht : ∀ w ∈ zT, w.before ([.ref (cO K 0), .int (x), .int (y), .int (z)] : List Value).toArray s = true := fun w h => hts w (List.mem_cons_of_mem _ h)
  have hown : s.vm.findClass R_D = some m.cls := findClass_of_methodNamed B.named
  have hlocks := B.notSynchronized
  have hl := lv_entry ([.ref (cO K 0), .int (x), .int (y), .int (z)]) (n := 4) (Nat.le_of_ble_eq_true rfl)
  rw [lg_entry_eq]
  generalize (lg_sl ([.ref (cO K 0), .int (x), .int (y), .int (z)]) ++ List.replicate (4 - (lg_sl ([.ref (cO K 0), .int (x), .int (y), .int (z)])).length) Slot.unset).toArray = ls at hl ⊢
  have hl : lv_has ls 4 [(0, .ref (cO K 0)), (1, .int (x)), (2, .int (y)), (3, .int (z))] := hl
  have hno : ∀ (H : Heap) (locs : List Loc) (ls : Array Slot), cH K τ s H locs → lv_has ls 4 [(0, .ref (cO K 0)), (1, .int (x)), (2, .int (y)), (3, .int (z))] → ¬ (okR x 4 ∧ okR y 8 ∧ okR z 8 ∧ y ≠ z) → W p l e (headSpec (zW y_D_place b_D_place 4 (some .int)) (zr 2 47)).room s m ([.ref (cO K 0), .int (x), .int (y), .int (z)] : List Value).toArray below meth c H locs 0 0 (MQ below (va_Qi (fun r u => (¬ (okR x 4 ∧ okR y 8 ∧ okR z 8 ∧ y ≠ z) → r = -1 ∧ u = τ) ∧ ∀ q a b, q < 4 → a < 8 → b < 8 → a ≠ b → x = nI q → y = nI a → z = nI b → (cN τ q ≠ 0 → r = nI 0 ∧ u = τ) ∧ (cN τ q = 0 → r = nI 1 ∧ u = csV (csV τ a (cV τ (8 + 2 * q))) b (cV τ (9 + 2 * q)))) (fun u => cC K u) (cAA K)) ([.ref (cO K 0), .int (x), .int (y), .int (z)] : List Value).toArray s 0 0 (cAA K)) (F0 m 15 ls []) := by
    intro H locs ls hw hl hn
    refine lv_iconst (v := -1) hx hb d_D_place_15 (by decide) ?_
    refine z_iret (cZ K) hx hb hr hlocks τ hw ⟨fun _ => ⟨rfl, rfl⟩, fun q a b hq9 ha hb9 hab e1 e2 e3 => absurd ⟨?_, ?_, ?_, ?_⟩ hn⟩ d_D_place_16
    · rw [e1]; exact okR_of hq9 (by decide)
    · rw [e2]; exact okR_of ha (by decide)
    · rw [e3]; exact okR_of hb9 (by decide)
    · rw [e2, e3]; exact fun q9 => hab ((nI_eq (by omega) (by omega)).mp q9)
  refine lv_iload_n hx hb d_D_place_0 rfl (lv_at hl 1 rfl) ?_
  refine c_si (np := 1) (As := [.int (x)]) (rest := []) ⟨hx, hb, hml, hown, ht⟩ hw (c_D_isSpot l K τ x) ⟨km_D_142, ks_D_isSpot, kc_D_isSpot⟩ ki_D (by decide +kernel) ⟨by decide, by decide⟩ rfl rfl rfl hl.1 rfl (Nat.le_of_ble_eq_true rfl) d_D_place_1 ⟨Nat.le_refl _, Nat.le_refl _⟩ (fun r ux H locs hp hw => ?_)
  obtain ⟨hpu, rfl⟩ := hp
  rw [hpu] at hw
  clear hpu
  refine n_eq0 (tgt := 15) hx hb d_D_place_4 (by decide) (boolN_s _) (fun c1 => hno _ _ ls hw hl (fun q => boolN_0 c1 q.1)) (fun c1 => ?_)
  refine lv_iload_n hx hb d_D_place_7 rfl (lv_at hl 2 rfl) ?_
  refine lv_iload_n hx hb d_D_place_8 rfl (lv_at hl 3 rfl) ?_
  refine c_si (np := 2) (As := [.int (y), .int (z)]) (rest := []) ⟨hx, hb, hml, hown, ht⟩ hw (c_D_areTwoRegisters l K τ y z) ⟨km_D_163, ks_D_areTwoRegisters, kc_D_areTwoRegisters⟩ ki_D (by decide +kernel) ⟨by decide, by decide⟩ rfl rfl rfl hl.1 rfl (Nat.le_of_ble_eq_true rfl) d_D_place_9 ⟨Nat.le_refl _, Nat.le_refl _⟩ (fun r ux H locs hp hw => ?_)
  obtain ⟨hpu, rfl⟩ := hp
  rw [hpu] at hw
  clear hpu
  refine n_ne0 (tgt := 17) hx hb d_D_place_12 (by decide) (boolN_s _) (fun c2 => ?_) (fun c2 => hno _ _ ls hw hl (fun q => boolN_0 c2 q.2))
  have k0 := boolN_1 c1
  have k9 := boolN_1 c2
  have k1 := k9.1
  have k2 := k9.2.1
  have c3 := k9.2.2
  clear hno k9 c1 c2
  obtain ⟨q, lt_q, ex⟩ := k0.ex (by decide)
  obtain ⟨a, lt_a, ey⟩ := k1.ex (by decide)
  obtain ⟨b, lt_b, ez⟩ := k2.ex (by decide)
  have hl2 := hl
  rw [ex, ey, ez] at hl2
  have hl : lv_has ls 4 [(0, .ref (cO K 0)), (1, .int (nI (q))), (2, .int (nI (a))), (3, .int (nI (b)))] := hl2
  clear hl2
  have hab : a ≠ b := fun q9 => c3 (by rw [ey, ez, q9])
  have qn := hn2 q (by omega)
  refine lv_aload_n hx hb d_D_place_17 rfl (lv_at hl 0 rfl) ?_
  refine va_get (ci := 4) (C := R_D) (T := F_D) (N := 10) (v := .ref (cO K 4)) hx hb ht ku_D hown hw.2.1 hw.1 0 rfl rfl 1 (by decide) (ht _ kf_D_16) (fun _ h9 => h9) rfl d_D_place_18 ?_
  refine lv_iload_n hx hb d_D_place_21 rfl (lv_at hl 1 rfl) ?_
  refine c_spt hx hb hw (i := q) (by omega) d_D_place_22 ?_
  refine va_get (ci := 3) (C := R_P) (T := F_P) (N := 3) (v := .int (nI (cN τ q))) hx hb ht ku_P hown hw.2.1 hw.1 (8 + q) (cWs_pnt K _ (by omega)) rfl 0 (by decide) (ht _ kf_D_167) (fun _ h9 => h9) rfl d_D_place_23 ?_
  refine n_eq0 (tgt := 31) hx hb d_D_place_26 (by decide) (by omega) (fun c4 => ?_) (fun c4 => ?_)
  · refine lv_aload_n hx hb d_D_place_31 rfl (lv_at hl 0 rfl) ?_
    refine va_get (ci := 4) (C := R_D) (T := F_D) (N := 10) (v := .ref (cO K 3)) hx hb ht ku_D hown hw.2.1 hw.1 0 rfl rfl 0 (by decide) (ht _ kf_D_11) (fun _ h9 => h9) rfl d_D_place_32 ?_
    refine lv_iload_n hx hb d_D_place_35 rfl (lv_at hl 2 rfl) ?_
    refine c_reg hx hb hw (i := a) (by omega) d_D_place_36 ?_
    refine lv_aload_n hx hb d_D_place_37 rfl (lv_at hl 0 rfl) ?_
    refine va_get (ci := 4) (C := R_D) (T := F_D) (N := 10) (v := .ref (cO K 4)) hx hb ht ku_D hown hw.2.1 hw.1 0 rfl rfl 1 (by decide) (ht _ kf_D_16) (fun _ h9 => h9) rfl d_D_place_38 ?_
    refine lv_iload_n hx hb d_D_place_41 rfl (lv_at hl 1 rfl) ?_
    refine c_spt hx hb hw (i := q) (by omega) d_D_place_42 ?_
    refine va_get (ci := 3) (C := R_P) (T := F_P) (N := 3) (v := .ref (cR K (8 + 2 * q))) hx hb ht ku_P hown hw.2.1 hw.1 (8 + q) (cWs_pnt K _ (by omega)) rfl 1 (by decide) (ht _ kf_D_171) (fun _ h9 => h9) rfl d_D_place_43 ?_
    have m8 : ∀ i, i < 20 → cV τ i % b32 ^ 8 = cV τ i := fun i hi => mod8 (cV_lt hok (by omega) (by omega))
    refine c_sv (np := 2) (As := [.ref (cR K a), .ref (cR K (8 + 2 * q))]) (rest := []) ⟨hx, hb, hml, hown, ht⟩ hw (c_L_copy l K τ hok (o := a) (a := 8 + 2 * q) (by omega) (by omega)) ⟨km_D_139, ks_L_copy, kc_L_copy⟩ ki_L (by decide +kernel) ⟨by decide, by decide⟩ rfl rfl rfl hl.1 rfl (Nat.le_of_ble_eq_true rfl) d_D_place_46 ⟨Nat.le_refl _, Nat.le_refl _⟩ (fun u1 H locs hp hw => ?_)
    rw [m8 _ (by omega)] at hp
    have ok1 : cOk u1 := by rw [hp]; exact hok.u8 (by omega) (cV_lt hok (by omega) (by omega))
    have hp1 := hp
    clear hp
    refine lv_aload_n hx hb d_D_place_49 rfl (lv_at hl 0 rfl) ?_
    refine va_get (ci := 4) (C := R_D) (T := F_D) (N := 10) (v := .ref (cO K 3)) hx hb ht ku_D hown hw.2.1 hw.1 0 rfl rfl 0 (by decide) (ht _ kf_D_11) (fun _ h9 => h9) rfl d_D_place_50 ?_
    refine lv_iload_n hx hb d_D_place_53 rfl (lv_at hl 3 rfl) ?_
    refine c_reg hx hb hw (i := b) (by omega) d_D_place_54 ?_
    refine lv_aload_n hx hb d_D_place_55 rfl (lv_at hl 0 rfl) ?_
    refine va_get (ci := 4) (C := R_D) (T := F_D) (N := 10) (v := .ref (cO K 4)) hx hb ht ku_D hown hw.2.1 hw.1 0 rfl rfl 1 (by decide) (ht _ kf_D_16) (fun _ h9 => h9) rfl d_D_place_56 ?_
    refine lv_iload_n hx hb d_D_place_59 rfl (lv_at hl 1 rfl) ?_
    refine c_spt hx hb hw (i := q) (by omega) d_D_place_60 ?_
    refine va_get (ci := 3) (C := R_P) (T := F_P) (N := 3) (v := .ref (cR K (9 + 2 * q))) hx hb ht ku_P hown hw.2.1 hw.1 (8 + q) (cWs_pnt K _ (by omega)) rfl 2 (by decide) (ht _ kf_D_174) (fun _ h9 => h9) rfl d_D_place_61 ?_
    refine c_sv (np := 2) (As := [.ref (cR K b), .ref (cR K (9 + 2 * q))]) (rest := []) ⟨hx, hb, hml, hown, ht⟩ hw (c_L_copy l K u1 ok1 (o := b) (a := 9 + 2 * q) (by omega) (by omega)) ⟨km_D_139, ks_L_copy, kc_L_copy⟩ ki_L (by decide +kernel) ⟨by decide, by decide⟩ rfl rfl rfl hl.1 rfl (Nat.le_of_ble_eq_true rfl) d_D_place_64 ⟨Nat.le_refl _, Nat.le_refl _⟩ (fun u2 H locs hp hw => ?_)
    have e9 : cV u1 (9 + 2 * q) = cV τ (9 + 2 * q) := by rw [hp1]; exact cV_ne _ (by omega) (by omega)
    rw [e9, m8 _ (by omega), hp1] at hp
    refine lv_iconst (v := nI 1) hx hb d_D_place_67 (by decide) ?_
    refine z_iret (cZ K) hx hb hr hlocks u2 hw ⟨fun h => absurd ⟨k0, k1, k2, c3⟩ h, fun q2 a2 b2 w1 w2 w3 w4 e1 e2 e3 => ?_⟩ d_D_place_68
    have q_q2 : q2 = q := (nI_eq (by omega) (by omega)).mp (e1.symm.trans ex)
    subst q_q2
    have q_a2 : a2 = a := (nI_eq (by omega) (by omega)).mp (e2.symm.trans ey)
    subst q_a2
    have q_b2 : b2 = b := (nI_eq (by omega) (by omega)).mp (e3.symm.trans ez)
    subst q_b2
    exact ⟨fun q9 => absurd c4 q9, fun _ => ⟨rfl, hp⟩⟩
  · refine lv_iconst (v := nI 0) hx hb d_D_place_29 (by decide) ?_
    refine z_iret (cZ K) hx hb hr hlocks τ hw ⟨fun h => absurd ⟨k0, k1, k2, c3⟩ h, fun q2 a2 b2 w1 w2 w3 w4 e1 e2 e3 => ?_⟩ d_D_place_30
    have q_q2 : q2 = q := (nI_eq (by omega) (by omega)).mp (e1.symm.trans ex)
    subst q_q2
    have q_a2 : a2 = a := (nI_eq (by omega) (by omega)).mp (e2.symm.trans ey)
    subst q_a2
    have q_b2 : b2 = b := (nI_eq (by omega) (by omega)).mp (e3.symm.trans ez)
    subst q_b2
    exact ⟨fun _ => ⟨rfl, rfl⟩, fun q9 => absurd q9 c4⟩
set_option maxHeartbeats 4000000 in
set_option maxRecDepth 100000 in
theorem c_D_put (l : Launch) (K : cG) (τ : cT) (hm : cM τ ≤ 100) {v : Nat} (hv : v < 2 ^ 64) (x : Int32) : Met l y_D_put (zW y_D_put b_D_put 4 (some .boolean)) (zr 1 24) (va_Pc [.ref (cO K 0), .long (lN (v)), .int (x)] (cC K τ)) (va_Qi (fun r u => (¬ (¬ x < nI 1 ∧ ¬ nI 8 < x) → r = nI 0 ∧ u = τ) ∧ ∀ j, j < 9 → 0 < j → x = nI j → (¬ cM τ + j ≤ 100 → r = nI 0 ∧ u = τ) ∧ (cM τ + j ≤ 100 → r = nI 1 ∧ u = cs2 τ (pb v j (cM τ) (cB τ)) (cM τ + j))) (fun u => cC K u) (cAA K)) 0 0 (cAA K) := by
  refine Met.ofW (cc := b_D_put) (maxL := 4) (ret := (some .boolean)) (by decide) rfl ?_
  intro p e s m args below meth c s₁ B hml hv
  obtain ⟨rfl, hw⟩ := hv
  have hx := B.exec
  have hb := B.bytes
  have hr := B.returns
  have hts := atoms_spec (ws := zW y_D_put b_D_put 4 (some .boolean)) B.pre
  have ht : ∀ w ∈ zT, w.before ([.ref (cO K 0), .long (lN (v)), .int (x)] : List Value).toArray s = true := fun w h => hts w (List.mem_cons_of_mem _ h)
  have hown : s.vm.findClass R_D = some m.cls := findClass_of_methodNamed B.named
  have hlocks := B.notSynchronized
  have hl := lv_entry ([.ref (cO K 0), .long (lN (v)), .int (x)]) (n := 4) (Nat.le_of_ble_eq_true rfl)
  rw [lg_entry_eq]
  generalize (lg_sl ([.ref (cO K 0), .long (lN (v)), .int (x)]) ++ List.replicate (4 - (lg_sl ([.ref (cO K 0), .long (lN (v)), .int (x)])).length) Slot.unset).toArray = ls at hl ⊢
  have hl : lv_has ls 4 [(0, .ref (cO K 0)), (1, .long (lN (v))), (3, .int (x))] := hl
  refine lv_aload_n hx hb d_D_put_0 rfl (lv_at hl 0 rfl) ?_
  refine va_get (ci := 4) (C := R_D) (T := F_D) (N := 10) (v := .ref (cO K 1)) hx hb ht ku_D hown hw.2.1 hw.1 0 rfl rfl 2 (by decide) (ht _ kf_D_23) (fun _ h9 => h9) rfl d_D_put_1 ?_
  refine lv_lload_n hx hb d_D_put_4 rfl (lv_at hl 1 rfl) ?_
  refine lv_iload_n hx hb d_D_put_5 rfl (lv_at hl 2 rfl) ?_
  refine c_ci (np := 2) (As := [.long (lN (v)), .int (x)]) (rest := []) ⟨hx, hb, hml, hown, ht⟩ hw (c_H_append l K τ hm hv x) 1 rfl rfl ⟨km_D_177, kv_H_append, kx_H_append, kc_H_append⟩ ki_H (by decide +kernel) ⟨by decide, by decide⟩ rfl rfl rfl hl.1 rfl (Nat.le_of_ble_eq_true rfl) d_D_put_6 ⟨Nat.le_refl _, Nat.le_refl _⟩ (fun r u1 H locs hp hw => ?_)
  have hn9 : narrow .boolean (.int r) = .int r := by
    by_cases h : (¬ x < nI 1 ∧ ¬ nI 8 < x)
    · obtain ⟨j, lt_j, ex⟩ : ∃ j : Nat, j < 9 ∧ x = nI j := by
        rcases pk_ix x (n := 9) (by decide) with h1 | h1 | h1
        · exact absurd (Int32.lt_trans h1 (by decide)) h.1
        · exact absurd ((gt_le (k := 8) (by decide)).mpr h1) h.2
        · exact h1
      have j0 : 0 < j := by
        rcases Nat.eq_zero_or_pos j with h1 | h1
        · rw [ex, h1] at h; exact absurd (by decide) h.1
        · exact h1
      by_cases h2 : cM τ + j ≤ 100
      · rw [((hp.2 j lt_j j0 ex).2 h2).1]; exact nar_b (by decide)
      · rw [((hp.2 j lt_j j0 ex).1 h2).1]; exact nar_b (by decide)
    · rw [(hp.1 h).1]; exact nar_b (by decide)
  exact z_zret (cZ K) hx hb hr hlocks hn9 u1 hw hp d_D_put_9
