/-! multiple of the reference -/
set_option maxHeartbeats 4000000 in
set_option maxRecDepth 100000 in
theorem c_R_multiple (l : Launch) (G : rG) (σ : rS) (hok : rOk σ) {nb : Nat} (h1 : nb < 22 ∨ 37 < nb) (h1b : nb < 48) (hq : rV σ 8 = rMod 0) (hQ : t3lt (rMod 0) (rV σ 22, rV σ 23, rV σ 24)) (hT : t3lt (rMod 0) (rV σ 25, rV σ 26, 0)) (hS : ∀ r, 28 ≤ r → r < 31 → rV σ r < rMod 0) : Met l y_R_multiple (zW y_R_multiple b_R_multiple 3 none) (zr 5 122) (va_Pc [.ref (rA G 0), .int (nI (nb))] (rC G σ)) (va_Qv (fun u => ∃ V, rU σ V u ∧ V 25 = (mrun (rMod 0) (rV σ 22, rV σ 23, rV σ 24) (rV σ 25, rV σ 26, 0) (rV σ nb) 256).1 ∧ V 26 = (mrun (rMod 0) (rV σ 22, rV σ 23, rV σ 24) (rV σ 25, rV σ 26, 0) (rV σ nb) 256).2.1 ∧ V 27 = (mrun (rMod 0) (rV σ 22, rV σ 23, rV σ 24) (rV σ 25, rV σ 26, 0) (rV σ nb) 256).2.2 ∧ (∀ r, r < 25 ∨ 37 < r → V r = rV σ r) ∧ (∀ r, 28 ≤ r → r < 31 → V r < rMod 0) ∧ ∀ r, V r < b26 ^ 10) (fun u => rC G u) (rAA G)) 0 0 (rAA G) := by
  refine Met.ofW (cc := b_R_multiple) (maxL := 3) (ret := none) (by decide) rfl ?_
  intro p e s m args below meth c s₁ B hml hv
  obtain ⟨rfl, hw⟩ := hv
  have hx := B.exec
  have hb := B.bytes
  have hr := B.returns
  have hts := atoms_spec (ws := zW y_R_multiple b_R_multiple 3 none) B.pre
  have ht : ∀ w ∈ zT, w.before ([.ref (rA G 0), .int (nI (nb))] : List Value).toArray s = true := fun w h => hts w (List.mem_cons_of_mem _ h)
  have hown : s.vm.findClass R_R = some m.cls := findClass_of_methodNamed B.named
  have hlocks := B.notSynchronized
  have hl := lv_entry ([.ref (rA G 0), .int (nI (nb))]) (n := 3) (Nat.le_of_ble_eq_true rfl)
  rw [lg_entry_eq]
  generalize (lg_sl ([.ref (rA G 0), .int (nI (nb))]) ++ List.replicate (3 - (lg_sl ([.ref (rA G 0), .int (nI (nb))])).length) Slot.unset).toArray = ls at hl ⊢
  have hl : lv_has ls 3 [(0, .ref (rA G 0)), (1, .int (nI (nb)))] := hl
  refine lv_aload_n hx hb d_R_multiple_0 rfl (lv_at hl 0 rfl) ?_
  refine lv_bipush (v := nI 27) hx hb d_R_multiple_1 (by decide) ?_
  refine r_callv (np := 1) (As := [.int (nI (27))]) (rest := []) ⟨hx, hb, hml, hown, ht⟩ hw (c_R_nothing l G σ hok (by decide)) ⟨km_R_62, kv_R_nothing, kx_R_nothing, kc_R_nothing⟩ (by decide +kernel) ⟨by decide, by decide⟩ rfl rfl rfl hl.1 rfl (Nat.le_of_ble_eq_true rfl) d_R_multiple_3 ⟨Nat.le_refl _, Nat.le_refl _⟩ (fun u0 H locs hp hw => ?_)
  obtain ⟨V0, hu0, ht0, hk0, hok0⟩ := q_nothing (rU.rfl' σ) hok hp
  refine lv_sipush (v := nI 255) hx hb d_R_multiple_6 (by decide) ?_
  refine tp_i (y := (iv 256)) (rfl) ?_
  refine lv_istore_n (lv' := [(2, .int (iv 256)), (0, .ref (rA G 0)), (1, .int (nI (nb)))]) hx hb d_R_multiple_9 rfl hl (by decide) rfl (fun ls hl => ?_)
  have hM0 : 0 < rMod 0 := rMod_pos (by decide)
  have loop : ∀ (n : Nat), n ≤ 256 → ∀ (V : Nat → Nat) (u : rS) (t : Nat × Nat × Nat) (H : Heap) (locs : List Loc) (ls : Array Slot), t = (mrun (rMod 0) (rV σ 22, rV σ 23, rV σ 24) (rV σ 25, rV σ 26, 0) (rV σ nb) (256 - n)) → rU σ V u → V 25 = t.1 → V 26 = t.2.1 → V 27 = t.2.2 → (∀ r, r < 25 ∨ 37 < r → V r = rV σ r) → (∀ r, 28 ≤ r → r < 31 → V r < rMod 0) → (∀ r, V r < b26 ^ 10) → rH G u s H locs → lv_has ls 3 [(0, .ref (rA G 0)), (1, .int (nI (nb))), (2, .int (iv n))] → W p l e (headSpec (zW y_R_multiple b_R_multiple 3 none) (zr 5 122)).room s m ([.ref (rA G 0), .int (nI (nb))] : List Value).toArray below meth c H locs 0 0 (MQ below (va_Qv (fun u => ∃ V, rU σ V u ∧ V 25 = (mrun (rMod 0) (rV σ 22, rV σ 23, rV σ 24) (rV σ 25, rV σ 26, 0) (rV σ nb) 256).1 ∧ V 26 = (mrun (rMod 0) (rV σ 22, rV σ 23, rV σ 24) (rV σ 25, rV σ 26, 0) (rV σ nb) 256).2.1 ∧ V 27 = (mrun (rMod 0) (rV σ 22, rV σ 23, rV σ 24) (rV σ 25, rV σ 26, 0) (rV σ nb) 256).2.2 ∧ (∀ r, r < 25 ∨ 37 < r → V r = rV σ r) ∧ (∀ r, 28 ≤ r → r < 31 → V r < rMod 0) ∧ ∀ r, V r < b26 ^ 10) (fun u => rC G u) (rAA G)) ([.ref (rA G 0), .int (nI (nb))] : List Value).toArray s 0 0 (rAA G)) (F0 m 10 ls []) := by
    intro n
    induction n with
    | zero =>
      intro hn V u t H locs ls ht9 hu e1 e2 e3 hk hs ho hw hl
      refine lv_iload_n hx hb d_R_multiple_10 rfl (lv_at hl 2 rfl) ?_
      refine lv_if_lt (tgt := 60) hx hb d_R_multiple_11 (by decide) (fun _ => ?_) (fun h => absurd (show iv 0 < 0 by decide) h)
      subst ht9
      exact z_vret (rZ _) hx hb hr hlocks u hw ⟨V, hu, e1, e2, e3, hk, hs, ho⟩ d_R_multiple_60
    | succ n ih =>
      intro hn V u t H locs ls ht9 hu e1 e2 e3 hk hs ho hw hl
      have hl : lv_has ls 3 [(0, .ref (rA G 0)), (1, .int (nI (nb))), (2, .int (nI (n)))] := hl
      refine lv_iload_n hx hb d_R_multiple_10 rfl (lv_at hl 2 rfl) ?_
      refine lv_if_lt (tgt := 60) hx hb d_R_multiple_11 (by decide) (fun h => absurd h (nI_pos (by omega))) (fun _ => ?_)
      have htl : t3lt (rMod 0) t := by rw [ht9]; exact mrun_lt hM0 hQ hT _
      have g8 : V 8 = rMod 0 := (hk 8 (by decide)).trans hq
      have half : ∀ (V : Nat → Nat) (u : rS) (H : Heap) (locs : List Loc) (ls : Array Slot), rU σ V u → V 25 = (mtw (rMod 0) t).1 → V 26 = (mtw (rMod 0) t).2.1 → V 27 = (mtw (rMod 0) t).2.2 → (∀ r, r < 25 ∨ 37 < r → V r = rV σ r) → (∀ r, 28 ≤ r → r < 31 → V r < rMod 0) → (∀ r, V r < b26 ^ 10) → rH G u s H locs → lv_has ls 3 [(0, .ref (rA G 0)), (1, .int (nI (nb))), (2, .int (nI (n)))] → W p l e (headSpec (zW y_R_multiple b_R_multiple 3 none) (zr 5 122)).room s m ([.ref (rA G 0), .int (nI (nb))] : List Value).toArray below meth c H locs 0 0 (MQ below (va_Qv (fun u => ∃ V, rU σ V u ∧ V 25 = (mrun (rMod 0) (rV σ 22, rV σ 23, rV σ 24) (rV σ 25, rV σ 26, 0) (rV σ nb) 256).1 ∧ V 26 = (mrun (rMod 0) (rV σ 22, rV σ 23, rV σ 24) (rV σ 25, rV σ 26, 0) (rV σ nb) 256).2.1 ∧ V 27 = (mrun (rMod 0) (rV σ 22, rV σ 23, rV σ 24) (rV σ 25, rV σ 26, 0) (rV σ nb) 256).2.2 ∧ (∀ r, r < 25 ∨ 37 < r → V r = rV σ r) ∧ (∀ r, 28 ≤ r → r < 31 → V r < rMod 0) ∧ ∀ r, V r < b26 ^ 10) (fun u => rC G u) (rAA G)) ([.ref (rA G 0), .int (nI (nb))] : List Value).toArray s 0 0 (rAA G)) (F0 m 29 ls []) := by
        intro V u H locs ls hu e1 e2 e3 hk hs ho hw hl
        refine lv_aload_n hx hb d_R_multiple_29 rfl (lv_at hl 0 rfl) ?_
        refine lv_iload_n hx hb d_R_multiple_30 rfl (lv_at hl 1 rfl) ?_
        refine lv_iload_n hx hb d_R_multiple_31 rfl (lv_at hl 2 rfl) ?_
        refine r_calli (np := 2) (As := [.int (nI (nb)), .int (nI (n))]) (rest := []) ⟨hx, hb, hml, hown, ht⟩ hw (c_R_bit l G u h1b (by omega)) ⟨km_R_100, kv_R_bit, kx_R_bit, kc_R_bit⟩ (by decide +kernel) ⟨by decide, by decide⟩ rfl rfl rfl hl.1 rfl (Nat.le_of_ble_eq_true rfl) d_R_multiple_32 ⟨Nat.le_refl _, Nat.le_refl _⟩ (fun r ux H locs hp hw => ?_)
        obtain ⟨hpu, rfl⟩ := hp
        rw [hpu] at hw
        refine tp_i (y := nI (boolN (rV σ nb / 2 ^ n % 2 = 1))) (by rw [hu.V, hk nb (by omega)]) ?_
        have enext : mrun (rMod 0) (rV σ 22, rV σ 23, rV σ 24) (rV σ 25, rV σ 26, 0) (rV σ nb) (256 - n) = mst (rMod 0) (rV σ 22, rV σ 23, rV σ 24) t (rV σ nb / 2 ^ n % 2) := by
          rw [show 256 - n = (256 - (n + 1)) + 1 by omega]
          show mst (rMod 0) _ (mrun (rMod 0) (rV σ 22, rV σ 23, rV σ 24) (rV σ 25, rV σ 26, 0) (rV σ nb) (256 - (n + 1))) (rV σ nb / 2 ^ (255 - (256 - (n + 1))) % 2) = _
          rw [← ht9, show 255 - (256 - (n + 1)) = n by omega]
        refine n_eq0 (tgt := 54) hx hb d_R_multiple_35 (by decide) (boolN_s _) (fun c1 => ?_) (fun c1 => ?_)
        · have c2 := boolN_0 c1
          refine lv_iinc (v := iv n) (lv' := [(2, .int (iv n)), (0, .ref (rA G 0)), (1, .int (nI (nb)))]) hx hb d_R_multiple_54 hl (k := 2) rfl (iv_dec n) (by decide) rfl (fun ls hl => ?_)
          refine lv_goto (tgt := 10) hx hb d_R_multiple_57 (by decide) ?_
          refine ih (by omega) V u _ H locs ls rfl hu ?_ ?_ ?_ hk hs ho hw (lv_sub hl [1, 2, 0] rfl)
          · rw [enext, mst, if_neg c2]; exact e1
          · rw [enext, mst, if_neg c2]; exact e2
          · rw [enext, mst, if_neg c2]; exact e3
        · have c2 := boolN_1 c1
          refine lv_aload_n hx hb d_R_multiple_38 rfl (lv_at hl 0 rfl) ?_
          refine lv_bipush (v := nI 28) hx hb d_R_multiple_39 (by decide) ?_
          refine lv_bipush (v := nI 22) hx hb d_R_multiple_41 (by decide) ?_
          refine r_callv (np := 2) (As := [.int (nI (28)), .int (nI (22))]) (rest := []) ⟨hx, hb, hml, hown, ht⟩ hw (c_R_copyPoint l G u (hu.ok ho) (by decide) (by decide) (by decide)) ⟨km_R_127, kv_R_copyPoint, kx_R_copyPoint, kc_R_copyPoint⟩ (by decide +kernel) ⟨by decide, by decide⟩ rfl rfl rfl hl.1 rfl (Nat.le_of_ble_eq_true rfl) d_R_multiple_43 ⟨Nat.le_refl _, Nat.le_refl _⟩ (fun u1 H locs hp hw => ?_)
          obtain ⟨V1, hu1, a1, a2, a3, hk1, ho1⟩ := hp
          rw [hu.V] at a1 a2 a3 hk1
          have b25 : V1 25 = (mtw (rMod 0) t).1 := (hk1 25 (by decide) (by decide) (by decide)).trans e1
          have b26_ : V1 (25 + 1) = (mtw (rMod 0) t).2.1 := (hk1 26 (by decide) (by decide) (by decide)).trans e2
          have b27 : V1 (25 + 2) = (mtw (rMod 0) t).2.2 := (hk1 27 (by decide) (by decide) (by decide)).trans e3
          have b28 : V1 28 = rV σ 22 := a1.trans (hk 22 (by decide))
          have b29 : V1 (28 + 1) = rV σ 23 := a2.trans (hk 23 (by decide))
          have b30 : V1 (28 + 2) = rV σ 24 := a3.trans (hk 24 (by decide))
          have m3 := mtw_lt hM0 htl
          refine lv_aload_n hx hb d_R_multiple_46 rfl (lv_at hl 0 rfl) ?_
          refine lv_bipush (v := nI 25) hx hb d_R_multiple_47 (by decide) ?_
          refine lv_bipush (v := nI 28) hx hb d_R_multiple_49 (by decide) ?_
          refine r_callv (np := 2) (As := [.int (nI (25)), .int (nI (28))]) (rest := []) ⟨hx, hb, hml, hown, ht⟩ hw (c_R_join l G u1 (hu1.ok ho1) (by decide) (by decide) (by decide) (by decide) (by decide) (by rw [hu1.V, hk1 8 (by decide) (by decide) (by decide), hk 8 (by decide)]; exact hq) (by rw [hu1.V, b25]; exact m3.1) (by rw [hu1.V, b26_]; exact m3.2.1) (by rw [hu1.V, b27]; exact m3.2.2) (by rw [hu1.V, b28]; exact hQ.1) (by rw [hu1.V, b29]; exact hQ.2.1) (by rw [hu1.V, b30]; exact hQ.2.2)) ⟨km_R_133, kv_R_join, kx_R_join, kc_R_join⟩ (by decide +kernel) ⟨by decide, by decide⟩ rfl rfl rfl hl.1 rfl (Nat.le_of_ble_eq_true rfl) d_R_multiple_51 ⟨Nat.le_refl _, Nat.le_refl _⟩ (fun u2 H locs hp hw => ?_)
          obtain ⟨V2, hu2, j1, j2, j3, hk2, ho2⟩ := hp
          rw [hu1.V, b25, b26_, b27, b28, b29, b30] at j1 j2 j3
          rw [hu1.V] at hk2
          refine lv_iinc (v := iv n) (lv' := [(2, .int (iv n)), (0, .ref (rA G 0)), (1, .int (nI (nb)))]) hx hb d_R_multiple_54 hl (k := 2) rfl (iv_dec n) (by decide) rfl (fun ls hl => ?_)
          refine lv_goto (tgt := 10) hx hb d_R_multiple_57 (by decide) ?_
          refine ih (by omega) V2 u2 _ H locs ls rfl ((hu.trans hu1).trans hu2) ?_ ?_ ?_ (fun r hr9 => ?_) (fun r h9 h8 => ?_) ho2 hw (lv_sub hl [1, 2, 0] rfl)
          · rw [enext, mst, if_pos c2]; exact j1
          · rw [enext, mst, if_pos c2]; exact j2
          · rw [enext, mst, if_pos c2]; exact j3
          · rw [hk2 r (by omega) (by omega) (by omega) (by omega), hk1 r (by omega) (by omega) (by omega)]; exact hk r hr9
          · rw [hk2 r (by omega) (by omega) (by omega) (by omega)]
            rcases (show r = 28 ∨ r = 28 + 1 ∨ r = 28 + 2 by omega) with c9 | c9 | c9
            · rw [c9, b28]; exact hQ.1
            · rw [c9, b29]; exact hQ.2.1
            · rw [c9, b30]; exact hQ.2.2
      refine lv_aload_n hx hb d_R_multiple_14 rfl (lv_at hl 0 rfl) ?_
      refine lv_bipush (v := nI 25) hx hb d_R_multiple_15 (by decide) ?_
      refine r_calli (np := 1) (As := [.int (nI (25))]) (rest := []) ⟨hx, hb, hml, hown, ht⟩ hw (c_R_isNone l G u (hu.ok ho) (by decide)) ⟨km_R_118, kv_R_isNone, kx_R_isNone, kc_R_isNone⟩ (by decide +kernel) ⟨by decide, by decide⟩ rfl rfl rfl hl.1 rfl (Nat.le_of_ble_eq_true rfl) d_R_multiple_17 ⟨Nat.le_refl _, Nat.le_refl _⟩ (fun r ux H locs hp hw => ?_)
      obtain ⟨hpu, rfl⟩ := hp
      rw [hpu] at hw
      refine tp_i (y := nI (boolN (t.2.2 = 0))) (by rw [hu.V, e3]) ?_
      refine n_ne0 (tgt := 29) hx hb d_R_multiple_20 (by decide) (boolN_s _) (fun c1 => ?_) (fun c1 => ?_)
      · have c2 := boolN_1 c1
        exact half V u H locs ls hu (by rw [mtw, if_pos c2]; exact e1) (by rw [mtw, if_pos c2]; exact e2) (by rw [mtw, if_pos c2]; exact e3) hk hs ho hw hl
      · have c2 := boolN_0 c1
        refine lv_aload_n hx hb d_R_multiple_23 rfl (lv_at hl 0 rfl) ?_
        refine lv_bipush (v := nI 25) hx hb d_R_multiple_24 (by decide) ?_
        have e2' : V (25 + 1) = t.2.1 := e2
        have e3' : V (25 + 2) = t.2.2 := e3
        refine r_callv (np := 1) (As := [.int (nI (25))]) (rest := []) ⟨hx, hb, hml, hown, ht⟩ hw (c_R_twice l G u (hu.ok ho) (by decide) (by decide) (by rw [hu.V]; exact g8) (by rw [hu.V, e1]; exact htl.1) (by rw [hu.V, e2']; exact htl.2.1) (by rw [hu.V, e3']; exact htl.2.2)) ⟨km_R_130, kv_R_twice, kx_R_twice, kc_R_twice⟩ (by decide +kernel) ⟨by decide, by decide⟩ rfl rfl rfl hl.1 rfl (Nat.le_of_ble_eq_true rfl) d_R_multiple_26 ⟨Nat.le_refl _, Nat.le_refl _⟩ (fun u1 H locs hp hw => ?_)
        obtain ⟨V1, hu1, j1, j2, j3, hk1, ho1⟩ := hp
        rw [hu.V, e1, e2', e3'] at j1 j2
        rw [hu.V, e2', e3'] at j3
        rw [hu.V] at hk1
        exact half V1 u1 H locs ls (hu.trans hu1) (by rw [mtw, if_neg c2]; exact j1) (by rw [mtw, if_neg c2]; exact j2) (by rw [mtw, if_neg c2]; exact j3) (fun r hr9 => by rw [hk1 r (by omega) (by omega) (by omega) (by omega)]; exact hk r hr9) (fun r h9 h8 => by rw [hk1 r (by omega) (by omega) (by omega) (by omega)]; exact hs r h9 h8) ho1 hw hl
  refine loop 256 (Nat.le_refl _) V0 u0 (rV σ 25, rV σ 26, 0) _ _ ls rfl hu0 (hk0 25 (by decide)) (hk0 26 (by decide)) ht0 (fun r hr9 => hk0 r (by omega)) (fun r h9 h8 => by rw [hk0 r (by omega)]; exact hS r h9 h8) hok0 hw (lv_sub hl [1, 2, 0] rfl)
