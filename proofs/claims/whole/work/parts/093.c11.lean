/-! the class's curve: multiples, roots -/
set_option maxHeartbeats 4000000 in
set_option maxRecDepth 100000 in
theorem c_C_addMultiples (l : Launch) (K : cG) (τ : cT) (hok : cOk τ) {j a0 b0 k0 l0 : Nat} (hj : j < 6) (ha : a0 < 6) (hb0 : b0 < 6) (hk0 : k0 < 22 ∨ 33 < k0) (hk2 : k0 < 44) (hl0 : l0 < 22 ∨ 33 < l0) (hl2 : l0 < 44) (hn : ∀ q, q < 6 → cN τ q < 2) (hpt : ∀ r, 8 ≤ r → r < 20 → cV τ r < rMod 0) (h22 : cV τ 22 < rMod 0) (h23 : cV τ 23 < rMod 0) : Met l y_C_addMultiples (zW y_C_addMultiples b_C_addMultiples 7 none) (zr 6 133) (va_Pc [.ref (cO K 7), .ref (cO K (8 + j)), .ref (cR K k0), .ref (cO K (8 + a0)), .ref (cR K l0), .ref (cO K (8 + b0))] (cC K τ)) (va_Qv (fun u => cPut τ j (crun (rMod 0) (cPt τ a0) (cPt τ b0) (cV τ 22, cV τ 23, 0) (cV τ k0) (cV τ l0) 256) u) (fun u => cC K u) (cAA K)) 0 0 (cAA K) := by
  refine Met.ofW (cc := b_C_addMultiples) (maxL := 7) (ret := none) (by decide) rfl ?_
  intro p e s m args below meth c s₁ B hml hv
  obtain ⟨rfl, hw⟩ := hv
  have hx := B.exec
  have hb := B.bytes
  have hr := B.returns
  have hts := atoms_spec (ws := zW y_C_addMultiples b_C_addMultiples 7 none) B.pre
  have ht : ∀ w ∈ zT, w.before ([.ref (cO K 7), .ref (cO K (8 + j)), .ref (cR K k0), .ref (cO K (8 + a0)), .ref (cR K l0), .ref (cO K (8 + b0))] : List Value).toArray s = true := fun w h => hts w (List.mem_cons_of_mem _ h)
  have hown : s.vm.findClass R_C = some m.cls := findClass_of_methodNamed B.named
  have hlocks := B.notSynchronized
  have hl := lv_entry ([.ref (cO K 7), .ref (cO K (8 + j)), .ref (cR K k0), .ref (cO K (8 + a0)), .ref (cR K l0), .ref (cO K (8 + b0))]) (n := 7) (Nat.le_of_ble_eq_true rfl)
  rw [lg_entry_eq]
  generalize (lg_sl ([.ref (cO K 7), .ref (cO K (8 + j)), .ref (cR K k0), .ref (cO K (8 + a0)), .ref (cR K l0), .ref (cO K (8 + b0))]) ++ List.replicate (7 - (lg_sl ([.ref (cO K 7), .ref (cO K (8 + j)), .ref (cR K k0), .ref (cO K (8 + a0)), .ref (cR K l0), .ref (cO K (8 + b0))])).length) Slot.unset).toArray = ls at hl ⊢
  have hl : lv_has ls 7 [(0, .ref (cO K 7)), (1, .ref (cO K (8 + j))), (2, .ref (cR K k0)), (3, .ref (cO K (8 + a0))), (4, .ref (cR K l0)), (5, .ref (cO K (8 + b0)))] := hl
  have hM1 : 1 < rMod 0 := rMod_one (by decide)
  have hl9 : ∀ n, t3lt (rMod 0) (crun (rMod 0) (cPt τ a0) (cPt τ b0) (cV τ 22, cV τ 23, 0) (cV τ k0) (cV τ l0) n) := crun_lt hM1 ⟨h22, h23, show 0 < rMod 0 by omega⟩ (hpt _ (by omega) (by omega)) (hpt _ (by omega) (by omega)) (hpt _ (by omega) (by omega)) (hpt _ (by omega) (by omega))
  refine lv_aload_n hx hb d_C_addMultiples_0 rfl (lv_at hl 0 rfl) ?_
  refine c_cv (np := 0) (As := []) (rest := []) ⟨hx, hb, hml, hown, ht⟩ hw (c_C_startSum l K τ hok) 7 rfl rfl ⟨km_C_78, kv_C_startSum, kx_C_startSum, kc_C_startSum⟩ ki_C (by decide +kernel) ⟨by decide, by decide⟩ rfl rfl rfl hl.1 rfl (Nat.le_of_ble_eq_true rfl) d_C_addMultiples_1 ⟨Nat.le_refl _, Nat.le_refl _⟩ (fun u1 H locs hp hw => ?_)
  have hu1 := (cU.refl hok).set (o := 24) (x := 0) (by decide) W8_pos hp
  clear hp
  obtain ⟨V1, hV1⟩ : ∃ V1, V1 = va_up (cV τ) 24 0 := ⟨_, rfl⟩
  rw [← hV1] at hu1
  have t1 : (V1 22, V1 23, V1 24) = (cV τ 22, cV τ 23, 0) := by rw [hV1, up_ne _ _ (by decide), up_ne _ _ (by decide), up_self]
  have k1 : ∀ r, r < 22 ∨ 27 < r → V1 r = cV τ r := fun r h => by rw [hV1]; exact up_ne _ _ (by omega)
  have loop : ∀ (n : Nat), n ≤ 256 → ∀ (V : Nat → Nat) (u : cT) (H : Heap) (locs : List Loc) (ls : Array Slot), (V 22, V 23, V 24) = (crun (rMod 0) (cPt τ a0) (cPt τ b0) (cV τ 22, cV τ 23, 0) (cV τ k0) (cV τ l0) (256 - n)) → (∀ r, r < 22 ∨ 27 < r → V r = cV τ r) → cU τ V u → cH K u s H locs → lv_has ls 7 [(0, .ref (cO K 7)), (1, .ref (cO K (8 + j))), (2, .ref (cR K k0)), (3, .ref (cO K (8 + a0))), (4, .ref (cR K l0)), (5, .ref (cO K (8 + b0))), (6, .int (iv n))] → W p l e (headSpec (zW y_C_addMultiples b_C_addMultiples 7 none) (zr 6 133)).room s m ([.ref (cO K 7), .ref (cO K (8 + j)), .ref (cR K k0), .ref (cO K (8 + a0)), .ref (cR K l0), .ref (cO K (8 + b0))] : List Value).toArray below meth c H locs 0 0 (MQ below (va_Qv (fun u => cPut τ j (crun (rMod 0) (cPt τ a0) (cPt τ b0) (cV τ 22, cV τ 23, 0) (cV τ k0) (cV τ l0) 256) u) (fun u => cC K u) (cAA K)) ([.ref (cO K 7), .ref (cO K (8 + j)), .ref (cR K k0), .ref (cO K (8 + a0)), .ref (cR K l0), .ref (cO K (8 + b0))] : List Value).toArray s 0 0 (cAA K)) (F0 m 9 ls []) := by
    intro n
    induction n with
    | zero =>
      intro hn9 V u H locs ls hT hk hu hw hl
      refine lv_iload hx hb d_C_addMultiples_9 (lv_at hl 6 rfl) ?_
      refine lv_if_lt (tgt := 54) hx hb d_C_addMultiples_11 (by decide) (fun _ => ?_) (fun h => absurd (show iv 0 < 0 by decide) h)
      refine lv_aload_n hx hb d_C_addMultiples_54 rfl (lv_at hl 0 rfl) ?_
      refine lv_aload_n hx hb d_C_addMultiples_55 rfl (lv_at hl 1 rfl) ?_
      have z9 : (cV u 22, cV u 23, cV u 24) = (V 22, V 23, V 24) := by rw [hu.v (by omega), hu.v (by omega), hu.v (by omega)]
      refine c_cv (np := 1) (As := [.ref (cO K (8 + j))]) (rest := []) ⟨hx, hb, hml, hown, ht⟩ hw (c_C_storeSum l K u hu.2.1 (j := j) hj (by rw [z9, hT]; exact hl9 _)) 7 rfl rfl ⟨km_C_85, kv_C_storeSum, kx_C_storeSum, kc_C_storeSum⟩ ki_C (by decide +kernel) ⟨by decide, by decide⟩ rfl rfl rfl hl.1 rfl (Nat.le_of_ble_eq_true rfl) d_C_addMultiples_56 ⟨Nat.le_refl _, Nat.le_refl _⟩ (fun w9 H locs hp hw => ?_)
      rw [z9, hT] at hp
      exact z_vret (cZ K) hx hb hr hlocks w9 hw (cPut.of hj hu hk hp) d_C_addMultiples_59
    | succ n ih =>
      intro hn9 V u H locs ls hT hk hu hw hl
      have hl : lv_has ls 7 [(0, .ref (cO K 7)), (1, .ref (cO K (8 + j))), (2, .ref (cR K k0)), (3, .ref (cO K (8 + a0))), (4, .ref (cR K l0)), (5, .ref (cO K (8 + b0))), (6, .int (nI (n)))] := hl
      refine lv_iload hx hb d_C_addMultiples_9 (lv_at hl 6 rfl) ?_
      refine lv_if_lt (tgt := 54) hx hb d_C_addMultiples_11 (by decide) (fun h => absurd h (nI_pos (by omega))) (fun _ => ?_)
      have es : 256 - n = (256 - (n + 1)) + 1 := by omega
      have eb : 255 - (256 - (n + 1)) = n := by omega
      generalize hr9 : (crun (rMod 0) (cPt τ a0) (cPt τ b0) (cV τ 22, cV τ 23, 0) (cV τ k0) (cV τ l0) (256 - (n + 1))) = t at hT
      have ht9 : t3lt (rMod 0) t := by rw [← hr9]; exact hl9 _
      have z0 : (cV u 22, cV u 23, cV u 24) = t := by rw [hu.v (by omega), hu.v (by omega), hu.v (by omega)]; exact hT
      refine lv_aload_n hx hb d_C_addMultiples_14 rfl (lv_at hl 0 rfl) ?_
      refine c_cv (np := 0) (As := []) (rest := []) ⟨hx, hb, hml, hown, ht⟩ hw (c_C_doubleSum l K u hu.2.1 (by rw [z0]; exact ht9)) 7 rfl rfl ⟨km_C_88, kv_C_doubleSum, kx_C_doubleSum, kc_C_doubleSum⟩ ki_C (by decide +kernel) ⟨by decide, by decide⟩ rfl rfl rfl hl.1 rfl (Nat.le_of_ble_eq_true rfl) d_C_addMultiples_15 ⟨Nat.le_refl _, Nat.le_refl _⟩ (fun u2 H locs hp hw => ?_)
      obtain ⟨W2, hv2, q2, gk2⟩ := hp
      rw [z0] at q2
      obtain ⟨V2, hu2, e3, e4⟩ := (hu.trans hv2).fix τ
      have t2 : (V2 22, V2 23, V2 24) = cdb (rMod 0) t := by rw [e3 _ (by omega), e3 _ (by omega), e3 _ (by omega), q2]
      have k2 : ∀ r, r < 22 ∨ 27 < r → V2 r = cV τ r := by
        intro r h
        by_cases hr : r < 30 ∨ 33 < r
        · rw [e3 r hr, gk2 r h, hu.v hr, hk r h]
        · exact e4 r hr
      clear e3 e4 gk2 hv2 q2
      have l2 : t3lt (rMod 0) (cdb (rMod 0) t) := cdb_lt (by omega) ht9
      have half : ∀ (V3 : Nat → Nat) (u3 : cT) (H : Heap) (locs : List Loc) (ls : Array Slot), (V3 22, V3 23, V3 24) = cst1 (rMod 0) (cPt τ a0) (cdb (rMod 0) t) (cV τ k0 / 2 ^ n % 2) → (∀ r, r < 22 ∨ 27 < r → V3 r = cV τ r) → cU τ V3 u3 → cH K u3 s H locs → lv_has ls 7 [(0, .ref (cO K 7)), (1, .ref (cO K (8 + j))), (2, .ref (cR K k0)), (3, .ref (cO K (8 + a0))), (4, .ref (cR K l0)), (5, .ref (cO K (8 + b0))), (6, .int (nI (n)))] → W p l e (headSpec (zW y_C_addMultiples b_C_addMultiples 7 none) (zr 6 133)).room s m ([.ref (cO K 7), .ref (cO K (8 + j)), .ref (cR K k0), .ref (cO K (8 + a0)), .ref (cR K l0), .ref (cO K (8 + b0))] : List Value).toArray below meth c H locs 0 0 (MQ below (va_Qv (fun u => cPut τ j (crun (rMod 0) (cPt τ a0) (cPt τ b0) (cV τ 22, cV τ 23, 0) (cV τ k0) (cV τ l0) 256) u) (fun u => cC K u) (cAA K)) ([.ref (cO K 7), .ref (cO K (8 + j)), .ref (cR K k0), .ref (cO K (8 + a0)), .ref (cR K l0), .ref (cO K (8 + b0))] : List Value).toArray s 0 0 (cAA K)) (F0 m 32 ls []) := by
        intro V3 u3 H locs ls t3 k3 hu3 hw hl
        have l3 : t3lt (rMod 0) (cst1 (rMod 0) (cPt τ a0) (cdb (rMod 0) t) (cV τ k0 / 2 ^ n % 2)) := cst1_lt hM1 l2 (hpt _ (by omega) (by omega)) (hpt _ (by omega) (by omega))
        have fin : ∀ (V4 : Nat → Nat) (u4 : cT) (H : Heap) (locs : List Loc) (ls : Array Slot), (V4 22, V4 23, V4 24) = cst1 (rMod 0) (cPt τ b0) (cst1 (rMod 0) (cPt τ a0) (cdb (rMod 0) t) (cV τ k0 / 2 ^ n % 2)) (cV τ l0 / 2 ^ n % 2) → (∀ r, r < 22 ∨ 27 < r → V4 r = cV τ r) → cU τ V4 u4 → cH K u4 s H locs → lv_has ls 7 [(0, .ref (cO K 7)), (1, .ref (cO K (8 + j))), (2, .ref (cR K k0)), (3, .ref (cO K (8 + a0))), (4, .ref (cR K l0)), (5, .ref (cO K (8 + b0))), (6, .int (nI (n)))] → W p l e (headSpec (zW y_C_addMultiples b_C_addMultiples 7 none) (zr 6 133)).room s m ([.ref (cO K 7), .ref (cO K (8 + j)), .ref (cR K k0), .ref (cO K (8 + a0)), .ref (cR K l0), .ref (cO K (8 + b0))] : List Value).toArray below meth c H locs 0 0 (MQ below (va_Qv (fun u => cPut τ j (crun (rMod 0) (cPt τ a0) (cPt τ b0) (cV τ 22, cV τ 23, 0) (cV τ k0) (cV τ l0) 256) u) (fun u => cC K u) (cAA K)) ([.ref (cO K 7), .ref (cO K (8 + j)), .ref (cR K k0), .ref (cO K (8 + a0)), .ref (cR K l0), .ref (cO K (8 + b0))] : List Value).toArray s 0 0 (cAA K)) (F0 m 48 ls []) := by
          intro V4 u4 H locs ls t4 k4 hu4 hw hl
          refine lv_iinc (v := iv n) (lv' := [(6, .int (iv n)), (0, .ref (cO K 7)), (1, .ref (cO K (8 + j))), (2, .ref (cR K k0)), (3, .ref (cO K (8 + a0))), (4, .ref (cR K l0)), (5, .ref (cO K (8 + b0)))]) hx hb d_C_addMultiples_48 hl (k := 6) rfl (iv_dec n) (by decide) rfl (fun ls hl => ?_)
          refine lv_goto (tgt := 9) hx hb d_C_addMultiples_51 (by decide) ?_
          refine ih (by omega) V4 u4 H locs ls ?_ k4 hu4 hw (lv_sub hl [1, 2, 3, 4, 5, 6, 0] rfl)
          rw [es, crun, hr9, eb]
          exact t4
        clear ih
        refine lv_aload hx hb d_C_addMultiples_32 (lv_at hl 4 rfl) ?_
        refine lv_iload hx hb d_C_addMultiples_34 (lv_at hl 6 rfl) ?_
        have ek : cV u3 l0 = cV τ l0 := (hu3.v (by omega)).trans (k3 _ (by omega))
        refine c_si (np := 2) (As := [.ref (cR K l0), .int (nI (n))]) (rest := []) ⟨hx, hb, hml, hown, ht⟩ hw (c_L_hasBit l K u3 (a := l0) (show l0 < 32 ∨ 34 ≤ l0 by omega) (by omega) (show n < 256 by omega)) ⟨km_C_91, ks_L_hasBit, kc_L_hasBit⟩ ki_L (by decide +kernel) ⟨by decide, by decide⟩ rfl rfl rfl hl.1 rfl (Nat.le_of_ble_eq_true rfl) d_C_addMultiples_36 ⟨Nat.le_refl _, Nat.le_refl _⟩ (fun r ux H locs hp hw => ?_)
        obtain ⟨hpu, rfl⟩ := hp
        rw [hpu] at hw
        refine tp_i (y := nI (boolN (cV τ l0 / 2 ^ n % 2 = 1))) (by simp only [ek]) ?_
        clear ek hpu
        refine n_eq0 (tgt := 48) hx hb d_C_addMultiples_39 (by decide) (boolN_s _) (fun c1 => fin V3 u3 _ _ ls (by rw [cst1, if_neg (boolN_0 c1)]; exact t3) k3 hu3 hw hl) (fun c1 => ?_)
        have c2 := boolN_1 c1
        refine lv_aload_n hx hb d_C_addMultiples_42 rfl (lv_at hl 0 rfl) ?_
        refine lv_aload hx hb d_C_addMultiples_43 (lv_at hl 5 rfl) ?_
        have x9 : cV u3 (8 + 2 * b0) = cV τ (8 + 2 * b0) := (hu3.v (by omega)).trans (k3 _ (by omega))
        have y9 : cV u3 (9 + 2 * b0) = cV τ (9 + 2 * b0) := (hu3.v (by omega)).trans (k3 _ (by omega))
        have z9 : (cV u3 22, cV u3 23, cV u3 24) = (cst1 (rMod 0) (cPt τ a0) (cdb (rMod 0) t) (cV τ k0 / 2 ^ n % 2)) := by rw [hu3.v (by omega), hu3.v (by omega), hu3.v (by omega)]; exact t3
        have nn9 : cN u3 b0 = cN τ b0 := by rw [hu3.2.2.1]
        refine c_cv (np := 1) (As := [.ref (cO K (8 + b0))]) (rest := []) ⟨hx, hb, hml, hown, ht⟩ hw (c_C_include l K u3 hu3.2.1 (j := b0) hb0 (by rw [nn9]; exact hn _ hb0) (by rw [z9]; exact l3) (by rw [x9]; exact hpt _ (by omega) (by omega)) (by rw [y9]; exact hpt _ (by omega) (by omega))) 7 rfl rfl ⟨km_C_81, kv_C_include, kx_C_include, kc_C_include⟩ ki_C (by decide +kernel) ⟨by decide, by decide⟩ rfl rfl rfl hl.1 rfl (Nat.le_of_ble_eq_true rfl) d_C_addMultiples_45 ⟨Nat.le_refl _, Nat.le_refl _⟩ (fun u4 H locs hp hw => ?_)
        obtain ⟨W4, hv4, q4, gk4⟩ := hp
        rw [z9, nn9, x9, y9] at q4
        obtain ⟨V4, hu4, e3, e4⟩ := (hu3.trans hv4).fix τ
        have t4 : (V4 22, V4 23, V4 24) = cin (rMod 0) ((cst1 (rMod 0) (cPt τ a0) (cdb (rMod 0) t) (cV τ k0 / 2 ^ n % 2))) (cN τ b0) (cV τ (8 + 2 * b0)) (cV τ (9 + 2 * b0)) := by rw [e3 _ (by omega), e3 _ (by omega), e3 _ (by omega), q4]
        have k4 : ∀ r, r < 22 ∨ 27 < r → V4 r = cV τ r := by
          intro r h
          by_cases hr : r < 30 ∨ 33 < r
          · rw [e3 r hr, gk4 r h, hu3.v hr, k3 r h]
          · exact e4 r hr
        clear e3 e4 gk4 hv4 q4
        clear x9 y9 z9 nn9
        exact fin V4 u4 _ _ ls (by rw [cst1, if_pos c2]; exact t4) k4 hu4 hw hl
      clear ih
      refine lv_aload_n hx hb d_C_addMultiples_18 rfl (lv_at hl 2 rfl) ?_
      refine lv_iload hx hb d_C_addMultiples_19 (lv_at hl 6 rfl) ?_
      have ek : cV u2 k0 = cV τ k0 := (hu2.v (by omega)).trans (k2 _ (by omega))
      refine c_si (np := 2) (As := [.ref (cR K k0), .int (nI (n))]) (rest := []) ⟨hx, hb, hml, hown, ht⟩ hw (c_L_hasBit l K u2 (a := k0) (show k0 < 32 ∨ 34 ≤ k0 by omega) (by omega) (show n < 256 by omega)) ⟨km_C_91, ks_L_hasBit, kc_L_hasBit⟩ ki_L (by decide +kernel) ⟨by decide, by decide⟩ rfl rfl rfl hl.1 rfl (Nat.le_of_ble_eq_true rfl) d_C_addMultiples_21 ⟨Nat.le_refl _, Nat.le_refl _⟩ (fun r ux H locs hp hw => ?_)
      obtain ⟨hpu, rfl⟩ := hp
      rw [hpu] at hw
      refine tp_i (y := nI (boolN (cV τ k0 / 2 ^ n % 2 = 1))) (by simp only [ek]) ?_
      clear ek hpu
      refine n_eq0 (tgt := 32) hx hb d_C_addMultiples_24 (by decide) (boolN_s _) (fun c1 => half V2 u2 _ _ ls (by rw [cst1, if_neg (boolN_0 c1)]; exact t2) k2 hu2 hw hl) (fun c1 => ?_)
      have c2 := boolN_1 c1
      refine lv_aload_n hx hb d_C_addMultiples_27 rfl (lv_at hl 0 rfl) ?_
      refine lv_aload_n hx hb d_C_addMultiples_28 rfl (lv_at hl 3 rfl) ?_
      have x9 : cV u2 (8 + 2 * a0) = cV τ (8 + 2 * a0) := (hu2.v (by omega)).trans (k2 _ (by omega))
      have y9 : cV u2 (9 + 2 * a0) = cV τ (9 + 2 * a0) := (hu2.v (by omega)).trans (k2 _ (by omega))
      have z9 : (cV u2 22, cV u2 23, cV u2 24) = (cdb (rMod 0) t) := by rw [hu2.v (by omega), hu2.v (by omega), hu2.v (by omega)]; exact t2
      have nn9 : cN u2 a0 = cN τ a0 := by rw [hu2.2.2.1]
      refine c_cv (np := 1) (As := [.ref (cO K (8 + a0))]) (rest := []) ⟨hx, hb, hml, hown, ht⟩ hw (c_C_include l K u2 hu2.2.1 (j := a0) ha (by rw [nn9]; exact hn _ ha) (by rw [z9]; exact l2) (by rw [x9]; exact hpt _ (by omega) (by omega)) (by rw [y9]; exact hpt _ (by omega) (by omega))) 7 rfl rfl ⟨km_C_81, kv_C_include, kx_C_include, kc_C_include⟩ ki_C (by decide +kernel) ⟨by decide, by decide⟩ rfl rfl rfl hl.1 rfl (Nat.le_of_ble_eq_true rfl) d_C_addMultiples_29 ⟨Nat.le_refl _, Nat.le_refl _⟩ (fun u3 H locs hp hw => ?_)
      obtain ⟨W3, hv3, q3, gk3⟩ := hp
      rw [z9, nn9, x9, y9] at q3
      obtain ⟨V3, hu3, e3, e4⟩ := (hu2.trans hv3).fix τ
      have t3 : (V3 22, V3 23, V3 24) = cin (rMod 0) ((cdb (rMod 0) t)) (cN τ a0) (cV τ (8 + 2 * a0)) (cV τ (9 + 2 * a0)) := by rw [e3 _ (by omega), e3 _ (by omega), e3 _ (by omega), q3]
      have k3 : ∀ r, r < 22 ∨ 27 < r → V3 r = cV τ r := by
        intro r h
        by_cases hr : r < 30 ∨ 33 < r
        · rw [e3 r hr, gk3 r h, hu2.v hr, k2 r h]
        · exact e4 r hr
      clear e3 e4 gk3 hv3 q3
      clear x9 y9 z9 nn9
      exact half V3 u3 _ _ ls (by rw [cst1, if_pos c2]; exact t3) k3 hu3 hw hl
  refine lv_sipush (v := nI 255) hx hb d_C_addMultiples_4 (by decide) ?_
  refine tp_i (y := (iv 256)) (rfl) ?_
  refine lv_istore (lv' := [(6, .int (iv 256)), (0, .ref (cO K 7)), (1, .ref (cO K (8 + j))), (2, .ref (cR K k0)), (3, .ref (cO K (8 + a0))), (4, .ref (cR K l0)), (5, .ref (cO K (8 + b0)))]) hx hb d_C_addMultiples_7 hl (by decide) rfl (fun ls hl => ?_)
  exact loop 256 (Nat.le_refl _) V1 u1 _ _ ls t1 k1 hu1 hw (lv_sub hl [1, 2, 3, 4, 5, 6, 0] rfl)
