/-! from the law's entry: both objects are made -/
theorem arr_known {args : Array Value} {s : State} {ty : FieldType} (h : (Cond.arrayClass ty).before args s = true) : ∃ cA, ArrOfT s cA ty ∧ s.vm.findClass ("[" ++ ty.toString) = some cA := by
  obtain ⟨c, k, comp, h1, h2, h3⟩ := Cond.arrayClass_spec h
  exact ⟨c, fun n z => ⟨fun k h => (by cases h), k, h2, comp, h3⟩, h1⟩
theorem app_P1 {D : va_G} {cl : List vw_C} {ws w2 : va_W} {H : Heap} (h : va_P D cl (ws ++ w2) H) : va_P D cl ws H := fun k q hq => h k q (by rw [List.getElem?_append_left (List.getElem?_eq_some_iff.mp hq).1]; exact hq)
theorem app_i2 {ws w2 : va_W} {k : Nat} : (ws ++ w2)[ws.length + k]? = w2[k]? := by rw [List.getElem?_append_right (Nat.le_add_right _ _), Nat.add_sub_cancel_left]
theorem app_P2 {D : va_G} {cl : List vw_C} {ws w2 : va_W} {H : Heap} (h : va_P D cl (ws ++ w2) H) : va_P D cl w2 H := fun k q hq => h (ws.length + k) q (by rw [app_i2]; exact hq)
theorem app_D1 {A : Nat → Prop} {ws w2 : va_W} (h : va_D A (ws ++ w2)) : va_D A ws := ⟨fun i j p q hi hj e => h.1 i j p q (by rw [List.getElem?_append_left (List.getElem?_eq_some_iff.mp hi).1]; exact hi) (by rw [List.getElem?_append_left (List.getElem?_eq_some_iff.mp hj).1]; exact hj) e, fun k q hq => h.2 k q (by rw [List.getElem?_append_left (List.getElem?_eq_some_iff.mp hq).1]; exact hq)⟩
theorem app_D2 {A : Nat → Prop} {ws w2 : va_W} (h : va_D A (ws ++ w2)) : va_D A w2 := ⟨fun i j p q hi hj e => by
  have := h.1 (ws.length + i) (ws.length + j) p q (by rw [app_i2]; exact hi) (by rw [app_i2]; exact hj) e
  omega, fun k q hq => h.2 (ws.length + k) q (by rw [app_i2]; exact hq)⟩
theorem app_ne {A : Nat → Prop} {ws w2 : va_W} (h : va_D A (ws ++ w2)) {i j : Nat} {p q : Nat × va_E} (hi : ws[i]? = some p) (hj : w2[j]? = some q) : p.1 ≠ q.1 := fun e => by
  have hl := (List.getElem?_eq_some_iff.mp hi).1
  have := h.1 i (ws.length + j) p q (by rw [List.getElem?_append_left hl]; exact hi) (by rw [app_i2]; exact hj) e
  omega
theorem cWs_mem (K : cG) (u : cT) {q : Nat} (h : cE (cO K) (cR K) q) : ∃ (k : Nat) (e : va_E), (cWs K u)[k]? = some (q, e) := by
  rcases h with ⟨j, hj, rfl⟩ | ⟨i, hi, rfl⟩
  · rcases (show j = 0 ∨ j = 1 ∨ j = 2 ∨ j = 3 ∨ j = 4 ∨ j = 5 ∨ j = 6 ∨ j = 7 ∨ j = 8 ∨ j = 9 ∨ j = 10 ∨ j = 11 ∨ j = 12 ∨ j = 13 by omega) with rfl | rfl | rfl | rfl | rfl | rfl | rfl | rfl | rfl | rfl | rfl | rfl | rfl | rfl
    · exact ⟨0, _, rfl⟩
    · exact ⟨1, _, rfl⟩
    · exact ⟨2, _, rfl⟩
    · exact ⟨3, _, rfl⟩
    · exact ⟨4, _, rfl⟩
    · exact ⟨5, _, rfl⟩
    · exact ⟨6, _, rfl⟩
    · exact ⟨7, _, rfl⟩
    · exact ⟨8, _, rfl⟩
    · exact ⟨9, _, rfl⟩
    · exact ⟨10, _, rfl⟩
    · exact ⟨11, _, rfl⟩
    · exact ⟨12, _, rfl⟩
    · exact ⟨13, _, rfl⟩
  · exact ⟨14 + i, _, cWs_row K u hi⟩
theorem zN_in : ∀ w ∈ zN, w ∈ lw_tbl := by
  intro w hw
  simp only [zN, List.mem_cons, List.not_mem_nil, or_false] at hw
  rcases hw with rfl | rfl | rfl | rfl | rfl | rfl | rfl | rfl | rfl | rfl
  · exact kn_D_22_t
  · exact kn_D_67_t
  · exact kq_L_17_t
  · exact kq_M_67_t
  · exact kq_C_60_t
  · exact kq_C_69_t
  · exact kq_C_54_t
  · exact kq_C_106_t
  · exact kq_C_118_t
  · exact kq_H_19_t
set_option maxHeartbeats 4000000 in
set_option maxRecDepth 100000 in
theorem whole_start {p : Program} {e : Env} {s : State} {m : MethodId} {below : List Frame} {meth : Method} {c : Code} (l : Launch) {b L : Nat} {xs : Nat → Int32} (hL : L ≤ 5120) (C0 : lw_At p s m meth c b L xs) : W p l e room_1 s m #[Value.ref b] below meth c s.heap [] 0 0 (lw_Z below #[Value.ref b] s) (entryFrame m ([Value.ref b] : List Value).toArray 4) := by
  obtain ⟨hx, hb, hr, hml, hown, hts, hX, hbl, hlocks, hgv⟩ := id C0
  have ht : ∀ w ∈ zT, w.before #[Value.ref b] s = true := fun w hw => hts w (List.mem_filter.mp hw).1
  have hown : s.vm.findClass R_W = some m.cls := hown
  have hA : ∀ q : Nat, s.heap.size ≤ q → lA s q := fun _ h => h
  obtain ⟨st, hst⟩ := sT_all (A := lA s) hgv hts (fun a h => Nat.not_le.mpr h)
  have hSt : sSt st (lA s) s s.heap := ⟨fun w hw => va_Nw.of (zN_tab w hw) (hts w (zN_in w hw)), va_AO.of (hts _ kO_Point_t), hts _ kO_rows_t, hst⟩
  obtain ⟨c0, i0, n0⟩ := u_known (C := R_C) (T := F_C) (N := 7) (n := 7) ht ku_C (ht _ kz_C)
  obtain ⟨c1, i1, n1⟩ := u_known (C := R_H) (T := F_H) (N := 2) (n := 2) ht ku_H (ht _ kz_H)
  obtain ⟨c2, i2, n2⟩ := u_known (C := R_M) (T := F_M) (N := 6) (n := 6) ht ku_M (ht _ kz_M)
  obtain ⟨c3, i3, n3⟩ := u_known (C := R_P) (T := F_P) (N := 3) (n := 3) ht ku_P (ht _ kz_P)
  obtain ⟨c4, i4, n4⟩ := u_known (C := R_D) (T := F_D) (N := 10) (n := 10) ht ku_D (ht _ kz_D)
  obtain ⟨c5, i5, n5⟩ := u_known (C := R_R) (T := F_R) (N := 7) (n := 7) ht ku_R (ht _ kz_R)
  obtain ⟨D, hKc⟩ : ∃ D : va_G, ∀ (k : Nat) (q : vw_C), zcl[k]? = some q → u_Kn s q.1 q.2.1 q.2.2 (D.1 k) (D.2 k) := by
    refine ⟨(fun k => [c0, c1, c2, c3, c4, c5].getD k c0, fun k => [i0, i1, i2, i3, i4, i5].getD k i0), ?_⟩
    intro k q hq
    match k, hq with
    | 0, hq => cases hq; exact n0
    | 1, hq => cases hq; exact n1
    | 2, hq => cases hq; exact n2
    | 3, hq => cases hq; exact n3
    | 4, hq => cases hq; exact n4
    | 5, hq => cases hq; exact n5
    | k + 6, hq => simp [zcl] at hq
  obtain ⟨cI, aI, fI⟩ := arr_known (ty := .int) (ht _ kA_int)
  obtain ⟨cJ, aJ, fJ⟩ := arr_known (ty := .long) (ht _ kA_long)
  obtain ⟨cZ0, aZ, fZ⟩ := arr_known (ty := .boolean) (ht _ kA_boolean)
  have hK2 : va_K D zcl [(cI, .int), (cJ, .long)] s := ⟨hKc, fun k q hq => by
    match k, hq with
    | 0, hq => cases hq; exact ⟨aI, fI⟩
    | 1, hq => cases hq; exact ⟨aJ, fJ⟩
    | k + 2, hq => simp at hq⟩
  have hK3 : va_K D zcl [(cI, .int), (cJ, .long), (cZ0, .boolean)] s := ⟨hKc, fun k q hq => by
    match k, hq with
    | 0, hq => cases hq; exact ⟨aI, fI⟩
    | 1, hq => cases hq; exact ⟨aJ, fJ⟩
    | 2, hq => cases hq; exact ⟨aZ, fZ⟩
    | k + 3, hq => simp at hq⟩
  have hS : va_S (lA s) s.heap s.heap [] := va_S.rf
  have hP : va_P D zcl [] s.heap := fun k q h => by simp at h
  have hD : va_D (lA s) [] := ⟨fun i j p q h => by simp at h, fun k q h => by simp at h⟩
  have hl := lv_entry ([.ref b]) (n := 4) (Nat.le_of_ble_eq_true rfl)
  rw [lg_entry_eq]
  generalize (lg_sl ([.ref b]) ++ List.replicate (4 - (lg_sl ([.ref b])).length) Slot.unset).toArray = ls at hl ⊢
  have hl : lv_has ls 4 [(0, .ref b)] := hl
  refine va_new (ci := 4) (fs := [.null, .null, .null, .null, .null, .null, .null, .null, .null, .null]) (C := R_D) (T := F_D) (N := 10) hx hb ht ku_D t_D t_D_ok hown (ht _ ka_W_7) (ht _ kz_D) (ht _ ki_D) hK2 hP hD hS hA rfl (fun j hj => by rcases (show j = 0 ∨ j = 1 ∨ j = 2 ∨ j = 3 ∨ j = 4 ∨ j = 5 ∨ j = 6 ∨ j = 7 ∨ j = 8 ∨ j = 9 by omega) with rfl | rfl | rfl | rfl | rfl | rfl | rfl | rfl | rfl | rfl <;> rfl) (by decide) (by decide) d_W_law_0 (fun q0 H hP hD hS => ?_)
  have hP : va_P D zcl [(q0, .inr (4, [.null, .null, .null, .null, .null, .null, .null, .null, .null, .null]))] H := hP
  have hD : va_D (lA s) [(q0, .inr (4, [.null, .null, .null, .null, .null, .null, .null, .null, .null, .null]))] := hD
  refine lv_dup hx hb d_W_law_3 rfl ?_
  have hFc : ∀ q, va_A [(q0, .inr (4, [.null, .null, .null, .null, .null, .null, .null, .null, .null, .null]))] H.size q → lA s q := va_free (wc := [(q0, .inr (4, [.null, .null, .null, .null, .null, .null, .null, .null, .null, .null]))]) hD hS hA [0] rfl
  refine va_callv (va_runI (As := []) (rest := [.ref q0]) ⟨hx, hb, hml, hown, ht⟩ (c_D_init l D st cI cJ q0 H.size) (cwI 0 ht (gd_W kc_D_init) rfl rfl rfl (ht _ ki_D) (ht _ km_W_9) (ht _ kv_D_init) rfl (by decide +kernel) ⟨by decide, by decide⟩) ⟨fun a U g mk q => by obtain ⟨q0, q1, qP, qK, qD, qS⟩ := q; exact ⟨q0, q1, qP, va_K.moved (u := U) (U := U.calling g mk a) (Vm.Alike.refl U.vm) qK, qD, qS.call g mk a⟩, fun U hU hW => ⟨rfl, by rw [hU], by rw [hU]; exact hP, va_K.moved hW.alike hK2, hD.weaken (fun _ _ _ _ => trivial), (hSt.weak hFc).at hW (fun a h1 _ => by rw [hU]; exact hS.2.1 a h1 (Nat.not_le.mpr h1))⟩⟩ rfl rfl hl.1 rfl (lv_room (Nat.le_of_ble_eq_true rfl)) d_W_law_4 ⟨by decide, by decide⟩) hS (fun q _ h => hFc q h) hFc (fun w t H1 locs ht9 hvm hw9 hB hz1 hk1 hS => ?_)
  obtain ⟨K, u⟩ := w
  obtain ⟨w1, w2, w3, w4, w5, w6⟩ := hw9
  have w1 : K.1 = D := w1
  have w2 : cO K 0 = q0 := w2
  have w3 : cAA K = cE (cO K) (cR K) := w3
  have hcA : ∀ q, cAA K q → lA s q := fun q hq => hFc q (w4 q hq)
  clear w4
  have hB : cC K u t := hB
  have hPc : va_P K.1 zcl (cWs K u) H1 := by rw [← ht9]; exact hB.1
  have hKc2 : va_K K.1 zcl (cTy K) s := va_K.moved hvm.symm hB.2.1
  have hDc : va_D (cAA K) (cWs K u) := hB.2.2.1
  have hcS : cS K s s.heap := by
    have hE := hSt.weak hcA
    refine ⟨hE.1, fun i h1 h2 => ?_⟩
    rw [w5 i h1]
    exact hE.2.2.2 i h1 h2
  have hRl : Rl u rσ1 := Rl.init w6
  clear hP hD hk1 hz1 hB ht9 hvm hFc w6
  subst w1
  subst w2
  refine lv_astore_n (lv' := [(1, .ref (cO K 0)), (0, .ref b)]) hx hb d_W_law_7 rfl hl (by decide) rfl (fun ls hl => ?_)
  have hD : va_D (lA s) (cWs K u) := hDc.weaken (fun k q hk h => hcA _ h)
  refine va_new (ci := 5) (fs := [.null, .null, .null, .null, .null, .null, .int 0]) (C := R_R) (T := F_R) (N := 7) hx hb ht ku_R t_R t_R_ok hown (ht _ ka_W_10) (ht _ kz_R) (ht _ ki_R) hKc2 hPc hD hS hA rfl (fun j hj => by rcases (show j = 0 ∨ j = 1 ∨ j = 2 ∨ j = 3 ∨ j = 4 ∨ j = 5 ∨ j = 6 by omega) with rfl | rfl | rfl | rfl | rfl | rfl | rfl <;> rfl) (by decide) (by decide) d_W_law_8 (fun q1 H hP hD hS => ?_)
  refine lv_dup hx hb d_W_law_11 rfl ?_
  have hP2 := app_P2 hP
  have hD2 := app_D2 hD
  have hFc : ∀ q, va_A [(q1, .inr (5, [.null, .null, .null, .null, .null, .null, .int 0]))] H.size q → lA s q := va_free (wc := [(q1, .inr (5, [.null, .null, .null, .null, .null, .null, .int 0]))]) hD2 hS hA [0] rfl
  refine va_callv (va_runI (As := []) (rest := [.ref q1]) ⟨hx, hb, hml, hown, ht⟩ (c_R_init l K.1 cI cJ cZ0 q1 H.size) (cwI 0 ht (gd_W kc_R_init) rfl rfl rfl (ht _ ki_R) (ht _ km_W_12) (ht _ kv_R_init) rfl (by decide +kernel) ⟨by decide, by decide⟩) ⟨fun a U g mk q => by obtain ⟨q0, q1, qP, qK, qD⟩ := q; exact ⟨q0, q1, qP, va_K.moved (u := U) (U := U.calling g mk a) (Vm.Alike.refl U.vm) qK, qD⟩, fun U hU hW => ⟨rfl, by rw [hU], by rw [hU]; exact hP2, va_K.moved hW.alike hK3, hD2.weaken (fun _ _ _ _ => trivial)⟩⟩ rfl rfl hl.1 rfl (lv_room (Nat.le_of_ble_eq_true rfl)) d_W_law_12 ⟨by decide, by decide⟩) hS (fun q _ h => hFc q h) hFc (fun G t H1 locs ht9 hvm hw9 hB hz1 hk1 hS => ?_)
  obtain ⟨v1, v2, v3, v4⟩ := hw9
  have hB : rC G rσ1 t := hB
  have hPr : va_P G.1 zcl (rWs G rσ1) H1 := by rw [← ht9]; exact hB.1
  have hKr : va_K G.1 zcl (rTy G) s := va_K.moved hvm.symm hB.2.1
  have hDr : va_D (rAA G) (rWs G rσ1) := hB.2.2.1
  have hap : ∀ (k : Nat) (x : Nat × va_E), (cWs K u)[k]? = some x → x.1 < H.size ∧ ¬ va_A [(q1, .inr (5, [.null, .null, .null, .null, .null, .null, .int 0]))] H.size x.1 := by
    intro k x hx9
    have hlt := (app_P1 hP k x hx9).lt
    refine ⟨hlt, fun h => ?_⟩
    rcases h with ⟨j, e9, h⟩ | h
    · exact app_ne hD hx9 h rfl
    · omega
  have hPc2 : va_P K.1 zcl (cWs K u) H1 := (app_P1 hP).kept (fun k x hx9 => hk1 x.1 (hap k x hx9).1 (hap k x hx9).2)
  have hw : lH K G u rσ1 s H1 locs := by
    refine ⟨⟨hPc2, hKc2, hDc, hcS⟩, ⟨hPr, hKr, hDr⟩, hcA, fun q hq => hFc q (v4 q hq), fun q hq hq2 => ?_, hS⟩
    rw [w3] at hq
    obtain ⟨k, e9, h9⟩ := cWs_mem K u hq
    exact (hap k _ h9).2 (v4 q hq2)
  refine W.widen (k := 55) (n := 1104) (by decide) (by decide) ?_
  have v2 : rA G 0 = q1 := v2
  subst v2
  refine lv_astore_n (lv' := [(2, .ref (rA G 0)), (1, .ref (cO K 0)), (0, .ref b)]) hx hb d_W_law_15 rfl hl (by decide) rfl (fun ls hl => ?_)
  refine lv_iconst (v := nI 0) hx hb d_W_law_16 (by decide) ?_
  refine lv_istore_n (lv' := [(3, .int (nI 0)), (2, .ref (rA G 0)), (1, .ref (cO K 0)), (0, .ref b)]) hx hb d_W_law_17 rfl hl (by decide) rfl (fun ls hl => ?_)
  exact law_loop hL C0 L 0 (Nat.zero_le _) (by omega) u rσ1 H1 locs ls hRl hw (lv_sub hl [3, 2, 1, 0] rfl)
