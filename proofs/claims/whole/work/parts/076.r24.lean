/-! what the reference answers: key -/
def keyX (B : Nat → Nat) : Nat := bA B 1 32 32
def keyY (B : Nat → Nat) : Nat := bA B 33 32 32
def keyS (B : Nat → Nat) : Nat := pp (rMod 0) (mm (rMod 0) (mm (rMod 0) (keyX B) (keyX B)) (keyX B)) 7
def keyE (B : Nat → Nat) : Nat := evenN (rMod 0) (rootN (keyS B))
abbrev okK (B : Nat → Nat) : Prop := keyX B < rMod 0 ∧ mm (rMod 0) (rootN (keyS B)) (rootN (keyS B)) = keyS B
def keyR (B : Nat → Nat) (m : Nat) : Option (Nat × Nat) :=
  if m = 33 ∧ (B 0 = 2 ∨ B 0 = 3) then (if okK B then some (keyX B, if B 0 = 3 then ss (rMod 0) 0 (keyE B) else keyE B) else none)
  else if m = 65 ∧ B 0 = 4 then (if onN (rMod 0) (keyX B) (keyY B) then some (keyX B, keyY B) else none) else none
theorem bA_lt (B : Nat → Nat) (f n k : Nat) : bA B f n k < b26 ^ 10 := Nat.lt_of_lt_of_le (Nat.mod_lt _ (Nat.two_pow_pos 256)) W256_10
theorem q_read {σ u u2 : rS} {V : Nat → Nat} {to f n : Nat} (hu : rU σ V u) (hok : ∀ r, V r < b26 ^ 10) (hp : u2 = rsV u (va_up (rV u) to (bA (rB u) f n n))) : ∃ V2, rU σ V2 u2 ∧ V2 to = bA (rB σ) f n n ∧ (∀ r, r ≠ to → V2 r = V r) ∧ ∀ r, V2 r < b26 ^ 10 := by
  refine ⟨va_up V to (bA (rB σ) f n n), ?_, up_self _ _ _, fun r h => up_ne _ _ h, up_lt hok (bA_lt _ _ _ _)⟩
  have e1 := hu.V
  have e2 := hu.B.1
  rw [e1, e2] at hp
  exact hu.trans (rU.of hp)
theorem rootN_lt (a : Nat) : rootN a < rMod 0 := Nat.mod_lt _ (rMod_pos (by decide))
theorem evenN_lt {M x : Nat} (h : x < M) : evenN M x < M := by
  unfold evenN
  split
  · exact ss_lt (by omega)
  · exact h
set_option maxHeartbeats 4000000 in
set_option maxRecDepth 100000 in
theorem c_R_key (l : Launch) (G : rG) (σ : rS) (hc0 : rCon σ) (hm : rM σ ≤ 100) (hB : ∀ j, j < 100 → rB σ j < 256) (x : Int32) : Met l y_R_key (zW y_R_key b_R_key 3 (some .int)) (zr 5 127) (va_Pc [.ref (rA G 0), .int (x)] (rC G σ)) (va_Qi (fun r u => (¬ okR x 4 → r = -1 ∧ u = σ) ∧ ∀ q, q < 4 → x = nI q → (keyR (rB σ) (rM σ) = none → r = nI 0 ∧ ∃ V, rU (rsM σ 0) V u ∧ (∀ r, r < 31 → V r = rV σ r) ∧ ∀ r, V r < b26 ^ 10) ∧ ∀ X Y, keyR (rB σ) (rM σ) = some (X, Y) → r = nI 1 ∧ rSet (rsM σ 0) q X Y u) (fun u => rC G u) (rAA G)) 0 0 (rAA G) := by
  refine Met.ofW (cc := b_R_key) (maxL := 3) (ret := (some .int)) (by decide) rfl ?_
  intro p e s m args below meth c s₁ B hml hv
  obtain ⟨rfl, hw⟩ := hv
  have hx := B.exec
  have hb := B.bytes
  have hr := B.returns
  have hts := atoms_spec (ws := zW y_R_key b_R_key 3 (some .int)) B.pre
  have ht : ∀ w ∈ zT, w.before ([.ref (rA G 0), .int (x)] : List Value).toArray s = true := fun w h => hts w (List.mem_cons_of_mem _ h)
  have hown : s.vm.findClass R_R = some m.cls := findClass_of_methodNamed B.named
  have hlocks := B.notSynchronized
  have hl := lv_entry ([.ref (rA G 0), .int (x)]) (n := 3) (Nat.le_of_ble_eq_true rfl)
  rw [lg_entry_eq]
  generalize (lg_sl ([.ref (rA G 0), .int (x)]) ++ List.replicate (3 - (lg_sl ([.ref (rA G 0), .int (x)])).length) Slot.unset).toArray = ls at hl ⊢
  have hl : lv_has ls 3 [(0, .ref (rA G 0)), (1, .int (x))] := hl
  refine lv_iload_n hx hb d_R_key_0 rfl (lv_at hl 1 rfl) ?_
  refine r_callsi (np := 1) (As := [.int (x)]) (rest := []) ⟨hx, hb, hml, hown, ht⟩ hw (c_R_isSpot l G σ x) ⟨km_R_148, ks_R_isSpot, kc_R_isSpot⟩ (by decide +kernel) ⟨by decide, by decide⟩ rfl rfl rfl rfl hl.1 rfl (Nat.le_of_ble_eq_true rfl) d_R_key_1 ⟨Nat.le_refl _, Nat.le_refl _⟩ (fun r u H locs hp hw => ?_)
  obtain ⟨hpu, rfl⟩ := hp
  rw [hpu] at hw
  clear hpu
  refine n_ne0 (tgt := 9) hx hb d_R_key_4 (by decide) (boolN_s _) (fun c0 => ?_) (fun c0 => ?_)
  · have k0 := boolN_1 c0
    obtain ⟨q, lt_q, ex⟩ := k0.ex (by decide)
    have hl2 := hl
    rw [ex] at hl2
    have hl : lv_has ls 3 [(0, .ref (rA G 0)), (1, .int (nI (q)))] := hl2
    clear hl2
    refine lv_aload_n hx hb d_R_key_9 rfl (lv_at hl 0 rfl) ?_
    refine r_get hx hb ht hown hw 6 (by decide) (ht _ kf_R_163) rfl d_R_key_10 (fun _ h9 => h9) ?_
    refine lv_istore_n (lv' := [(2, .int (nI (rM σ))), (0, .ref (rA G 0)), (1, .int (nI (q)))]) hx hb d_R_key_13 rfl hl (by decide) rfl (fun ls hl => ?_)
    refine lv_aload_n hx hb d_R_key_14 rfl (lv_at hl 1 rfl) ?_
    refine lv_iconst (v := nI 0) hx hb d_R_key_15 (by decide) ?_
    refine r_put (x := 0) hx hb ht hown hw (ht _ kf_R_163) d_R_key_16 (fun H locs hw => ?_)
    obtain ⟨cc, hcM⟩ : ∃ c, c = rM σ := ⟨_, rfl⟩
    rw [← hcM] at hm
    have hl2 := hl
    rw [← hcM] at hl2
    have hl : lv_has ls 3 [(2, .int (nI (cc))), (0, .ref (rA G 0)), (1, .int (nI (q)))] := hl2
    clear hl2
    have b65 : ∀ (V : Nat → Nat) (u : rS) (H : Heap) (locs : List Loc) (ls : Array Slot), keyR (rB σ) cc = none → rU (rsM σ 0) V u → (∀ r, r < 31 → V r = rV σ r) → (∀ r, V r < b26 ^ 10) → rH G u s H locs → lv_has ls 3 [(2, .int (nI (cc))), (0, .ref (rA G 0)), (1, .int (nI (q)))] → W p l e (headSpec (zW y_R_key b_R_key 3 (some .int)) (zr 5 127)).room s m ([.ref (rA G 0), .int (x)] : List Value).toArray below meth c H locs 0 0 (MQ below (va_Qi (fun r u => (¬ okR x 4 → r = -1 ∧ u = σ) ∧ ∀ q, q < 4 → x = nI q → (keyR (rB σ) (rM σ) = none → r = nI 0 ∧ ∃ V, rU (rsM σ 0) V u ∧ (∀ r, r < 31 → V r = rV σ r) ∧ ∀ r, V r < b26 ^ 10) ∧ ∀ X Y, keyR (rB σ) (rM σ) = some (X, Y) → r = nI 1 ∧ rSet (rsM σ 0) q X Y u) (fun u => rC G u) (rAA G)) ([.ref (rA G 0), .int (x)] : List Value).toArray s 0 0 (rAA G)) (F0 m 65 ls []) := by
      intro V u H locs ls hn hu hk ho hw hl
      refine lv_iconst (v := nI 0) hx hb d_R_key_65 (by decide) ?_
      refine z_iret (rZ _) hx hb hr hlocks u hw ⟨fun h => absurd k0 h, fun q_ w1 e1 => ?_⟩ d_R_key_66
      have q_q_ : q_ = q := (nI_eq (by omega) (by omega)).mp (e1.symm.trans ex)
      subst q_q_
      rw [← hcM]
      exact ⟨fun _ => ⟨rfl, V, hu, hk, ho⟩, fun X Y h => absurd (hn.symm.trans h) (by simp)⟩
    have b86 : ∀ (V : Nat → Nat) (u : rS) (H : Heap) (locs : List Loc) (ls : Array Slot), keyR (rB σ) cc = none → rU (rsM σ 0) V u → (∀ r, r < 31 → V r = rV σ r) → (∀ r, V r < b26 ^ 10) → rH G u s H locs → lv_has ls 3 [(2, .int (nI (cc))), (0, .ref (rA G 0)), (1, .int (nI (q)))] → W p l e (headSpec (zW y_R_key b_R_key 3 (some .int)) (zr 5 127)).room s m ([.ref (rA G 0), .int (x)] : List Value).toArray below meth c H locs 0 0 (MQ below (va_Qi (fun r u => (¬ okR x 4 → r = -1 ∧ u = σ) ∧ ∀ q, q < 4 → x = nI q → (keyR (rB σ) (rM σ) = none → r = nI 0 ∧ ∃ V, rU (rsM σ 0) V u ∧ (∀ r, r < 31 → V r = rV σ r) ∧ ∀ r, V r < b26 ^ 10) ∧ ∀ X Y, keyR (rB σ) (rM σ) = some (X, Y) → r = nI 1 ∧ rSet (rsM σ 0) q X Y u) (fun u => rC G u) (rAA G)) ([.ref (rA G 0), .int (x)] : List Value).toArray s 0 0 (rAA G)) (F0 m 86 ls []) := by
      intro V u H locs ls hn hu hk ho hw hl
      refine lv_iconst (v := nI 0) hx hb d_R_key_86 (by decide) ?_
      refine z_iret (rZ _) hx hb hr hlocks u hw ⟨fun h => absurd k0 h, fun q_ w1 e1 => ?_⟩ d_R_key_87
      have q_q_ : q_ = q := (nI_eq (by omega) (by omega)).mp (e1.symm.trans ex)
      subst q_q_
      rw [← hcM]
      exact ⟨fun _ => ⟨rfl, V, hu, hk, ho⟩, fun X Y h => absurd (hn.symm.trans h) (by simp)⟩
    have b165 : ∀ (V : Nat → Nat) (u : rS) (H : Heap) (locs : List Loc) (ls : Array Slot), keyR (rB σ) cc = none → rU (rsM σ 0) V u → (∀ r, r < 31 → V r = rV σ r) → (∀ r, V r < b26 ^ 10) → rH G u s H locs → lv_has ls 3 [(2, .int (nI (cc))), (0, .ref (rA G 0)), (1, .int (nI (q)))] → W p l e (headSpec (zW y_R_key b_R_key 3 (some .int)) (zr 5 127)).room s m ([.ref (rA G 0), .int (x)] : List Value).toArray below meth c H locs 0 0 (MQ below (va_Qi (fun r u => (¬ okR x 4 → r = -1 ∧ u = σ) ∧ ∀ q, q < 4 → x = nI q → (keyR (rB σ) (rM σ) = none → r = nI 0 ∧ ∃ V, rU (rsM σ 0) V u ∧ (∀ r, r < 31 → V r = rV σ r) ∧ ∀ r, V r < b26 ^ 10) ∧ ∀ X Y, keyR (rB σ) (rM σ) = some (X, Y) → r = nI 1 ∧ rSet (rsM σ 0) q X Y u) (fun u => rC G u) (rAA G)) ([.ref (rA G 0), .int (x)] : List Value).toArray s 0 0 (rAA G)) (F0 m 165 ls []) := by
      intro V u H locs ls hn hu hk ho hw hl
      refine lv_iconst (v := nI 0) hx hb d_R_key_165 (by decide) ?_
      refine z_iret (rZ _) hx hb hr hlocks u hw ⟨fun h => absurd k0 h, fun q_ w1 e1 => ?_⟩ d_R_key_166
      have q_q_ : q_ = q := (nI_eq (by omega) (by omega)).mp (e1.symm.trans ex)
      subst q_q_
      rw [← hcM]
      exact ⟨fun _ => ⟨rfl, V, hu, hk, ho⟩, fun X Y h => absurd (hn.symm.trans h) (by simp)⟩
    have b167 : ∀ (V : Nat → Nat) (u : rS) (H : Heap) (locs : List Loc) (ls : Array Slot), keyR (rB σ) cc = none → rU (rsM σ 0) V u → (∀ r, r < 31 → V r = rV σ r) → (∀ r, V r < b26 ^ 10) → rH G u s H locs → lv_has ls 3 [(2, .int (nI (cc))), (0, .ref (rA G 0)), (1, .int (nI (q)))] → W p l e (headSpec (zW y_R_key b_R_key 3 (some .int)) (zr 5 127)).room s m ([.ref (rA G 0), .int (x)] : List Value).toArray below meth c H locs 0 0 (MQ below (va_Qi (fun r u => (¬ okR x 4 → r = -1 ∧ u = σ) ∧ ∀ q, q < 4 → x = nI q → (keyR (rB σ) (rM σ) = none → r = nI 0 ∧ ∃ V, rU (rsM σ 0) V u ∧ (∀ r, r < 31 → V r = rV σ r) ∧ ∀ r, V r < b26 ^ 10) ∧ ∀ X Y, keyR (rB σ) (rM σ) = some (X, Y) → r = nI 1 ∧ rSet (rsM σ 0) q X Y u) (fun u => rC G u) (rAA G)) ([.ref (rA G 0), .int (x)] : List Value).toArray s 0 0 (rAA G)) (F0 m 167 ls []) := by
      intro V u H locs ls hn hu hk ho hw hl
      refine lv_iconst (v := nI 0) hx hb d_R_key_167 (by decide) ?_
      refine z_iret (rZ _) hx hb hr hlocks u hw ⟨fun h => absurd k0 h, fun q_ w1 e1 => ?_⟩ d_R_key_168
      have q_q_ : q_ = q := (nI_eq (by omega) (by omega)).mp (e1.symm.trans ex)
      subst q_q_
      rw [← hcM]
      exact ⟨fun _ => ⟨rfl, V, hu, hk, ho⟩, fun X Y h => absurd (hn.symm.trans h) (by simp)⟩
    have good : ∀ (X Y : Nat) (V : Nat → Nat) (u : rS) (H : Heap) (locs : List Loc) (ls : Array Slot), keyR (rB σ) cc = some (X, Y) → V 40 = X → V 41 = Y → rU (rsM σ 0) V u → (∀ r, r < 31 → V r = rV σ r) → (∀ r, V r < b26 ^ 10) → rH G u s H locs → lv_has ls 3 [(2, .int (nI (cc))), (0, .ref (rA G 0)), (1, .int (nI (q)))] → W p l e (headSpec (zW y_R_key b_R_key 3 (some .int)) (zr 5 127)).room s m ([.ref (rA G 0), .int (x)] : List Value).toArray below meth c H locs 0 0 (MQ below (va_Qi (fun r u => (¬ okR x 4 → r = -1 ∧ u = σ) ∧ ∀ q, q < 4 → x = nI q → (keyR (rB σ) (rM σ) = none → r = nI 0 ∧ ∃ V, rU (rsM σ 0) V u ∧ (∀ r, r < 31 → V r = rV σ r) ∧ ∀ r, V r < b26 ^ 10) ∧ ∀ X Y, keyR (rB σ) (rM σ) = some (X, Y) → r = nI 1 ∧ rSet (rsM σ 0) q X Y u) (fun u => rC G u) (rAA G)) ([.ref (rA G 0), .int (x)] : List Value).toArray s 0 0 (rAA G)) (F0 m 169 ls []) := by
      intro X Y V u H locs ls hn hX hY hu hk ho hw hl
      refine lv_aload_n hx hb d_R_key_169 rfl (lv_at hl 1 rfl) ?_
      refine lv_bipush (v := nI 10) hx hb d_R_key_170 (by decide) ?_
      refine lv_iconst (v := nI 2) hx hb d_R_key_172 (by decide) ?_
      refine lv_iload_n hx hb d_R_key_173 rfl (lv_at hl 2 rfl) ?_
      refine lv_imul hx hb d_R_key_174 ?_
      refine tp_i (y := nI (2 * q)) (pk_mul _ _) ?_
      refine lv_iadd hx hb d_R_key_175 ?_
      refine tp_i (y := nI (10 + (2 * q))) (nI_add _ _) ?_
      refine lv_bipush (v := nI 40) hx hb d_R_key_176 (by decide) ?_
      refine r_callv (np := 2) (As := [.int (nI (10 + (2 * q))), .int (nI (40))]) (rest := []) ⟨hx, hb, hml, hown, ht⟩ hw (c_R_copy l G u (hu.ok ho) (by omega) (by decide) (by omega)) ⟨km_R_70, kv_R_copy, kx_R_copy, kc_R_copy⟩ (by decide +kernel) ⟨by decide, by decide⟩ rfl rfl rfl hl.1 rfl (Nat.le_of_ble_eq_true rfl) d_R_key_178 ⟨Nat.le_refl _, Nat.le_refl _⟩ (fun ua H locs hp hw => ?_)
      obtain ⟨Va, hua, hta, hka, hoka⟩ := q_copy hu ho hp
      refine lv_aload_n hx hb d_R_key_181 rfl (lv_at hl 1 rfl) ?_
      refine lv_bipush (v := nI 11) hx hb d_R_key_182 (by decide) ?_
      refine lv_iconst (v := nI 2) hx hb d_R_key_184 (by decide) ?_
      refine lv_iload_n hx hb d_R_key_185 rfl (lv_at hl 2 rfl) ?_
      refine lv_imul hx hb d_R_key_186 ?_
      refine tp_i (y := nI (2 * q)) (pk_mul _ _) ?_
      refine lv_iadd hx hb d_R_key_187 ?_
      refine tp_i (y := nI (11 + (2 * q))) (nI_add _ _) ?_
      refine lv_bipush (v := nI 41) hx hb d_R_key_188 (by decide) ?_
      refine r_callv (np := 2) (As := [.int (nI (11 + (2 * q))), .int (nI (41))]) (rest := []) ⟨hx, hb, hml, hown, ht⟩ hw (c_R_copy l G ua (hua.ok hoka) (by omega) (by decide) (by omega)) ⟨km_R_70, kv_R_copy, kx_R_copy, kc_R_copy⟩ (by decide +kernel) ⟨by decide, by decide⟩ rfl rfl rfl hl.1 rfl (Nat.le_of_ble_eq_true rfl) d_R_key_190 ⟨Nat.le_refl _, Nat.le_refl _⟩ (fun ub H locs hp hw => ?_)
      obtain ⟨Vb, hub, htb, hkb, hokb⟩ := q_copy hua hoka hp
      refine lv_aload_n hx hb d_R_key_193 rfl (lv_at hl 1 rfl) ?_
      refine r_get hx hb ht hown hw 4 (by decide) (ht _ kf_R_23) rfl d_R_key_194 (fun _ h9 => h9) ?_
      refine lv_iload_n hx hb d_R_key_197 rfl (lv_at hl 2 rfl) ?_
      refine lv_iconst (v := nI 0) hx hb d_R_key_198 (by decide) ?_
      refine r_zst hx hb hw lt_q (by decide) d_R_key_199 (fun H locs hw => ?_)
      refine lv_iconst (v := nI 1) hx hb d_R_key_200 (by decide) ?_
      refine z_iret (rZ _) hx hb hr hlocks _ hw ⟨fun h => absurd k0 h, fun q_ w1 e1 => ?_⟩ d_R_key_201
      have q_q_ : q_ = q := (nI_eq (by omega) (by omega)).mp (e1.symm.trans ex)
      subst q_q_
      rw [← hcM]
      refine ⟨fun h => absurd (hn.symm.trans h) (by simp), fun X_ Y_ h => ⟨rfl, Vb, ?_, ?_, ?_, fun r b1 b2 b3 => ?_, hokb⟩⟩
      · rw [hub.N]; exact hub.toN _
      · have e9 := Option.some.inj (hn.symm.trans h)
        rw [← (Prod.mk.inj e9).1, ← hX, hkb _ (by omega), hta]
      · have e9 := Option.some.inj (hn.symm.trans h)
        rw [← (Prod.mk.inj e9).2, ← hY, htb, hka _ (by omega)]
      · exact (hkb r b2).trans ((hka r b1).trans (hk r b3))
    obtain ⟨V0, u0, hV0, hu0, hok0, hw⟩ : ∃ (V : Nat → Nat) (u : rS), V = rV σ ∧ rU (rsM σ 0) V u ∧ (∀ r, V r < b26 ^ 10) ∧ rH G u s H locs := ⟨rV σ, rsM σ 0, rfl, rU.rfl' _, hc0.1, hw⟩
    have hK0 : ∀ r, r < 31 → V0 r = rV σ r := fun r _ => by rw [hV0]
    have v0 := hB 0 (by decide)
    have B0 : rB u0 = rB σ := hu0.B.1
    have br : ∀ (ls : Array Slot), lv_has ls 3 [(2, .int (nI (cc))), (0, .ref (rA G 0)), (1, .int (nI (q)))] → ¬ (cc = 33 ∧ (rB σ 0 = 2 ∨ rB σ 0 = 3)) → W p l e (headSpec (zW y_R_key b_R_key 3 (some .int)) (zr 5 127)).room s m ([.ref (rA G 0), .int (x)] : List Value).toArray below meth c H locs 0 0 (MQ below (va_Qi (fun r u => (¬ okR x 4 → r = -1 ∧ u = σ) ∧ ∀ q, q < 4 → x = nI q → (keyR (rB σ) (rM σ) = none → r = nI 0 ∧ ∃ V, rU (rsM σ 0) V u ∧ (∀ r, r < 31 → V r = rV σ r) ∧ ∀ r, V r < b26 ^ 10) ∧ ∀ X Y, keyR (rB σ) (rM σ) = some (X, Y) → r = nI 1 ∧ rSet (rsM σ 0) q X Y u) (fun u => rC G u) (rAA G)) ([.ref (rA G 0), .int (x)] : List Value).toArray s 0 0 (rAA G)) (F0 m 119 ls []) := by
      intro ls hl hn
      refine lv_iload_n hx hb d_R_key_119 rfl (lv_at hl 0 rfl) ?_
      refine lv_bipush (v := nI 65) hx hb d_R_key_120 (by decide) ?_
      refine n_ne (tgt := 167) hx hb d_R_key_122 (by decide) (by omega) (by decide) (fun c2 => b167 V0 u0 _ _ ls (by rw [keyR, if_neg hn, if_neg (fun q => c2 q.1)]) hu0 hK0 hok0 hw hl) (fun c2 => ?_)
      refine lv_aload_n hx hb d_R_key_125 rfl (lv_at hl 1 rfl) ?_
      refine r_get hx hb ht hown hw 5 (by decide) (ht _ kf_R_27) rfl d_R_key_126 (fun _ h9 => h9) ?_
      refine lv_iconst (v := nI 0) hx hb d_R_key_129 (by decide) ?_
      refine r_bld hx hb hw (by decide) d_R_key_130 ?_
      refine tp_i (y := nI (rB σ 0)) (by rw [B0]) ?_
      refine lv_iconst (v := nI 4) hx hb d_R_key_131 (by decide) ?_
      refine n_ne (tgt := 167) hx hb d_R_key_132 (by decide) (by omega) (by decide) (fun c3 => b167 V0 u0 _ _ ls (by rw [keyR, if_neg hn, if_neg (fun q => c3 q.2)]) hu0 hK0 hok0 hw hl) (fun c3 => ?_)
      refine lv_aload_n hx hb d_R_key_135 rfl (lv_at hl 1 rfl) ?_
      refine lv_bipush (v := nI 40) hx hb d_R_key_136 (by decide) ?_
      refine lv_iconst (v := nI 1) hx hb d_R_key_138 (by decide) ?_
      refine lv_bipush (v := nI 32) hx hb d_R_key_139 (by decide) ?_
      refine r_callv (np := 3) (As := [.int (nI (40)), .int (nI (1)), .int (nI (32))]) (rest := []) ⟨hx, hb, hml, hown, ht⟩ hw (c_R_read l G u0 (hu0.ok hok0) (by decide) (by decide) (by decide) (by rw [hu0.B.1]; exact hB)) ⟨km_R_169, kv_R_read, kx_R_read, kc_R_read⟩ (by decide +kernel) ⟨by decide, by decide⟩ rfl rfl rfl hl.1 rfl (Nat.le_of_ble_eq_true rfl) d_R_key_141 ⟨Nat.le_refl _, Nat.le_refl _⟩ (fun u1 H locs hp hw => ?_)
      obtain ⟨V1, hu1, ht1, hk1, hok1⟩ := q_read hu0 hok0 hp
      have hK1 : ∀ r, r < 31 → V1 r = rV σ r := fun r w => (hk1 r (by omega)).trans (hK0 r w)
      refine lv_aload_n hx hb d_R_key_144 rfl (lv_at hl 1 rfl) ?_
      refine lv_bipush (v := nI 41) hx hb d_R_key_145 (by decide) ?_
      refine lv_bipush (v := nI 33) hx hb d_R_key_147 (by decide) ?_
      refine lv_bipush (v := nI 32) hx hb d_R_key_149 (by decide) ?_
      refine r_callv (np := 3) (As := [.int (nI (41)), .int (nI (33)), .int (nI (32))]) (rest := []) ⟨hx, hb, hml, hown, ht⟩ hw (c_R_read l G u1 (hu1.ok hok1) (by decide) (by decide) (by decide) (by rw [hu1.B.1]; exact hB)) ⟨km_R_169, kv_R_read, kx_R_read, kc_R_read⟩ (by decide +kernel) ⟨by decide, by decide⟩ rfl rfl rfl hl.1 rfl (Nat.le_of_ble_eq_true rfl) d_R_key_151 ⟨Nat.le_refl _, Nat.le_refl _⟩ (fun u2 H locs hp hw => ?_)
      obtain ⟨V2, hu2, ht2, hk2, hok2⟩ := q_read hu1 hok1 hp
      have hK2 : ∀ r, r < 31 → V2 r = rV σ r := fun r w => (hk2 r (by omega)).trans (hK1 r w)
      refine lv_aload_n hx hb d_R_key_154 rfl (lv_at hl 1 rfl) ?_
      refine lv_bipush (v := nI 40) hx hb d_R_key_155 (by decide) ?_
      refine lv_bipush (v := nI 41) hx hb d_R_key_157 (by decide) ?_
      have x2 : V2 40 = keyX (rB σ) := (hk2 40 (by decide)).trans ht1
      have y2 : V2 41 = keyY (rB σ) := ht2
      refine r_calli (np := 2) (As := [.int (nI (40)), .int (nI (41))]) (rest := []) ⟨hx, hb, hml, hown, ht⟩ hw (c_R_isPoint l G u2 (hu2.ok hok2) (by decide) (by decide) (by decide) (by decide) (by rw [hu2.V, hK2 8 (by decide)]; exact hc0.2.1) (by rw [hu2.V, hK2 21 (by decide)]; exact hc0.2.2.2.2)) ⟨km_R_151, kv_R_isPoint, kx_R_isPoint, kc_R_isPoint⟩ (by decide +kernel) ⟨by decide, by decide⟩ rfl rfl rfl hl.1 rfl (Nat.le_of_ble_eq_true rfl) d_R_key_159 ⟨Nat.le_refl _, Nat.le_refl _⟩ (fun r u3 H locs hp hw => ?_)
      rw [hu2.V, x2, y2] at hp
      obtain ⟨rfl, V3, hu3, hk3, hok3⟩ := hp
      have hu3 := hu2.trans hu3
      have hK3 : ∀ r, r < 31 → V3 r = rV σ r := fun r w => (hk3 r (Or.inl w)).trans (hK2 r w)
      refine n_ne0 (tgt := 169) hx hb d_R_key_162 (by decide) (boolN_s _) (fun c5 => ?_) (fun c5 => ?_)
      · exact good (keyX (rB σ)) (keyY (rB σ)) V3 u3 _ _ ls (by rw [keyR, if_neg hn, if_pos ⟨c2, c3⟩, if_pos (boolN_1 c5)]) ((hk3 40 (by decide)).trans x2) ((hk3 41 (by decide)).trans y2) hu3 hK3 hok3 hw hl
      · exact b165 V3 u3 _ _ ls (by rw [keyR, if_neg hn, if_pos ⟨c2, c3⟩, if_neg (boolN_0 c5)]) hu3 hK3 hok3 hw hl
    refine lv_iload_n hx hb d_R_key_19 rfl (lv_at hl 0 rfl) ?_
    refine lv_bipush (v := nI 33) hx hb d_R_key_20 (by decide) ?_
    refine n_ne (tgt := 119) hx hb d_R_key_22 (by decide) (by omega) (by decide) (fun c1 => br ls hl (fun q => c1 q.1)) (fun c1 => ?_)
    have main : ∀ (ls : Array Slot), lv_has ls 3 [(2, .int (nI (cc))), (0, .ref (rA G 0)), (1, .int (nI (q)))] → (rB σ 0 = 2 ∨ rB σ 0 = 3) → W p l e (headSpec (zW y_R_key b_R_key 3 (some .int)) (zr 5 127)).room s m ([.ref (rA G 0), .int (x)] : List Value).toArray below meth c H locs 0 0 (MQ below (va_Qi (fun r u => (¬ okR x 4 → r = -1 ∧ u = σ) ∧ ∀ q, q < 4 → x = nI q → (keyR (rB σ) (rM σ) = none → r = nI 0 ∧ ∃ V, rU (rsM σ 0) V u ∧ (∀ r, r < 31 → V r = rV σ r) ∧ ∀ r, V r < b26 ^ 10) ∧ ∀ X Y, keyR (rB σ) (rM σ) = some (X, Y) → r = nI 1 ∧ rSet (rsM σ 0) q X Y u) (fun u => rC G u) (rAA G)) ([.ref (rA G 0), .int (x)] : List Value).toArray s 0 0 (rAA G)) (F0 m 45 ls []) := by
      intro ls hl hs
      have kR : keyR (rB σ) cc = (if okK (rB σ) then some (keyX (rB σ), if rB σ 0 = 3 then ss (rMod 0) 0 (keyE (rB σ)) else keyE (rB σ)) else none) := by rw [keyR, if_pos ⟨c1, hs⟩]
      refine lv_aload_n hx hb d_R_key_45 rfl (lv_at hl 1 rfl) ?_
      refine lv_bipush (v := nI 40) hx hb d_R_key_46 (by decide) ?_
      refine lv_iconst (v := nI 1) hx hb d_R_key_48 (by decide) ?_
      refine lv_bipush (v := nI 32) hx hb d_R_key_49 (by decide) ?_
      refine r_callv (np := 3) (As := [.int (nI (40)), .int (nI (1)), .int (nI (32))]) (rest := []) ⟨hx, hb, hml, hown, ht⟩ hw (c_R_read l G u0 (hu0.ok hok0) (by decide) (by decide) (by decide) (by rw [hu0.B.1]; exact hB)) ⟨km_R_169, kv_R_read, kx_R_read, kc_R_read⟩ (by decide +kernel) ⟨by decide, by decide⟩ rfl rfl rfl hl.1 rfl (Nat.le_of_ble_eq_true rfl) d_R_key_51 ⟨Nat.le_refl _, Nat.le_refl _⟩ (fun u1 H locs hp hw => ?_)
      obtain ⟨V1, hu1, ht1, hk1, hok1⟩ := q_read hu0 hok0 hp
      have hK1 : ∀ r, r < 31 → V1 r = rV σ r := fun r w => (hk1 r (by omega)).trans (hK0 r w)
      refine lv_aload_n hx hb d_R_key_54 rfl (lv_at hl 1 rfl) ?_
      refine lv_bipush (v := nI 40) hx hb d_R_key_55 (by decide) ?_
      refine lv_bipush (v := nI 8) hx hb d_R_key_57 (by decide) ?_
      have x1 : V1 40 = keyX (rB σ) := ht1
      have m1 : V1 8 = rMod 0 := (hK1 8 (by decide)).trans hc0.2.1
      refine r_calli (np := 2) (As := [.int (nI (40)), .int (nI (8))]) (rest := []) ⟨hx, hb, hml, hown, ht⟩ hw (c_R_compare l G u1 (hu1.ok hok1) (by decide) (by decide)) ⟨km_R_78, kv_R_compare, kx_R_compare, kc_R_compare⟩ (by decide +kernel) ⟨by decide, by decide⟩ rfl rfl rfl hl.1 rfl (Nat.le_of_ble_eq_true rfl) d_R_key_59 ⟨Nat.le_refl _, Nat.le_refl _⟩ (fun r ux H locs hp hw => ?_)
      obtain ⟨hpu, hc1⟩ := hp
      rw [hpu] at hw
      rw [hu1.V, x1, m1] at hc1
      refine lv_if_lt (tgt := 67) hx hb d_R_key_62 (by decide) (fun c3 => ?_) (fun c3 => ?_)
      · have l1 : keyX (rB σ) < rMod 0 := by rw [hc1] at c3; exact (cmpN_lt _ _).mp c3
        refine lv_aload_n hx hb d_R_key_67 rfl (lv_at hl 1 rfl) ?_
        refine lv_bipush (v := nI 33) hx hb d_R_key_68 (by decide) ?_
        refine lv_bipush (v := nI 40) hx hb d_R_key_70 (by decide) ?_
        refine r_callv (np := 2) (As := [.int (nI (33)), .int (nI (40))]) (rest := []) ⟨hx, hb, hml, hown, ht⟩ hw (c_R_curve l G u1 (hu1.ok hok1) (by decide) (by decide) (by decide) (by decide) (by rw [hu1.V]; exact m1) (by rw [hu1.V, hK1 21 (by decide)]; exact hc0.2.2.2.2)) ⟨km_R_136, kv_R_curve, kx_R_curve, kc_R_curve⟩ (by decide +kernel) ⟨by decide, by decide⟩ rfl rfl rfl hl.1 rfl (Nat.le_of_ble_eq_true rfl) d_R_key_72 ⟨Nat.le_refl _, Nat.le_refl _⟩ (fun u2 H locs hp hw => ?_)
        rw [hu1.V, x1] at hp
        obtain ⟨V2, hu2, ht2, hk2, hok2⟩ := hp
        have hu2 := hu1.trans hu2
        have s2 : V2 33 = keyS (rB σ) := ht2
        have hK2 : ∀ r, r < 31 → V2 r = rV σ r := fun r w => (hk2 r (by omega) (by omega) (by omega)).trans (hK1 r w)
        have x2 : V2 40 = keyX (rB σ) := (hk2 40 (by decide) (by decide) (by decide)).trans x1
        refine lv_aload_n hx hb d_R_key_75 rfl (lv_at hl 1 rfl) ?_
        refine lv_bipush (v := nI 41) hx hb d_R_key_76 (by decide) ?_
        refine lv_bipush (v := nI 33) hx hb d_R_key_78 (by decide) ?_
        refine r_calli (np := 2) (As := [.int (nI (41)), .int (nI (33))]) (rest := []) ⟨hx, hb, hml, hown, ht⟩ hw (c_R_roots l G u2 (hu2.ok hok2) (by decide) (by decide) (by decide) (by decide) (by decide) (by rw [hu2.V, hK2 8 (by decide)]; exact hc0.2.1) (by rw [hu2.V, hK2 20 (by decide)]; exact hc0.2.2.2.1)) ⟨km_R_145, kv_R_roots, kx_R_roots, kc_R_roots⟩ (by decide +kernel) ⟨by decide, by decide⟩ rfl rfl rfl hl.1 rfl (Nat.le_of_ble_eq_true rfl) d_R_key_80 ⟨Nat.le_refl _, Nat.le_refl _⟩ (fun r u3 H locs hp hw => ?_)
        rw [hu2.V, s2] at hp
        obtain ⟨rfl, V3, hu3, g1, g2, hk3, hok3⟩ := hp
        have hu3 := hu2.trans hu3
        have hK3 : ∀ r, r < 31 → V3 r = rV σ r := fun r w => (hk3 r (by omega) (by omega) (by omega)).trans (hK2 r w)
        have x3 : V3 40 = keyX (rB σ) := (hk3 40 (by decide) (by decide) (by decide)).trans x2
        refine n_ne0 (tgt := 88) hx hb d_R_key_83 (by decide) (boolN_s _) (fun c4 => ?_) (fun c4 => ?_)
        · have c5 := boolN_1 c4
          have y3 : V3 41 = keyE (rB σ) := g1 c5
          have B3 : rB u3 = rB σ := hu3.B.1
          refine lv_aload_n hx hb d_R_key_88 rfl (lv_at hl 1 rfl) ?_
          refine r_get hx hb ht hown hw 5 (by decide) (ht _ kf_R_27) rfl d_R_key_89 (fun _ h9 => h9) ?_
          refine lv_iconst (v := nI 0) hx hb d_R_key_92 (by decide) ?_
          refine r_bld hx hb hw (by decide) d_R_key_93 ?_
          refine tp_i (y := nI (rB σ 0)) (by rw [B3]) ?_
          refine lv_iconst (v := nI 3) hx hb d_R_key_94 (by decide) ?_
          refine n_ne (tgt := 169) hx hb d_R_key_95 (by decide) (by omega) (by decide) (fun c6 => good (keyX (rB σ)) (keyE (rB σ)) V3 u3 _ _ ls (by rw [kR, if_pos ⟨l1, c5⟩, if_neg c6]) x3 y3 hu3 hK3 hok3 hw hl) (fun c6 => ?_)
          refine lv_aload_n hx hb d_R_key_98 rfl (lv_at hl 1 rfl) ?_
          refine lv_bipush (v := nI 33) hx hb d_R_key_99 (by decide) ?_
          refine r_callv (np := 1) (As := [.int (nI (33))]) (rest := []) ⟨hx, hb, hml, hown, ht⟩ hw (c_R_nothing l G u3 (hu3.ok hok3) (by decide)) ⟨km_R_62, kv_R_nothing, kx_R_nothing, kc_R_nothing⟩ (by decide +kernel) ⟨by decide, by decide⟩ rfl rfl rfl hl.1 rfl (Nat.le_of_ble_eq_true rfl) d_R_key_101 ⟨Nat.le_refl _, Nat.le_refl _⟩ (fun u4 H locs hp hw => ?_)
          obtain ⟨V4, hu4, ht4, hk4, hok4⟩ := q_nothing hu3 hok3 hp
          have y4 : V4 41 = keyE (rB σ) := (hk4 41 (by decide)).trans y3
          have m4 : V4 8 = rMod 0 := (hk4 8 (by decide)).trans ((hK3 8 (by decide)).trans hc0.2.1)
          refine lv_aload_n hx hb d_R_key_104 rfl (lv_at hl 1 rfl) ?_
          refine lv_bipush (v := nI 41) hx hb d_R_key_105 (by decide) ?_
          refine lv_bipush (v := nI 33) hx hb d_R_key_107 (by decide) ?_
          refine lv_bipush (v := nI 41) hx hb d_R_key_109 (by decide) ?_
          refine lv_bipush (v := nI 8) hx hb d_R_key_111 (by decide) ?_
          have ey : keyE (rB σ) < rMod 0 := evenN_lt (rootN_lt _)
          refine r_callv (np := 4) (As := [.int (nI (41)), .int (nI (33)), .int (nI (41)), .int (nI (8))]) (rest := []) ⟨hx, hb, hml, hown, ht⟩ hw (c_R_minus l G u4 (hu4.ok hok4) (by decide) (by decide) (by decide) (by decide) (by decide) (by decide) (by decide) (by rw [hu4.V, m4]; exact rMod_le (by decide)) (by rw [hu4.V, m4, ht4]; exact rMod_pos (by decide)) (by rw [hu4.V, m4, y4]; exact ey)) ⟨km_R_112, kv_R_minus, kx_R_minus, kc_R_minus⟩ (by decide +kernel) ⟨by decide, by decide⟩ rfl rfl rfl hl.1 rfl (Nat.le_of_ble_eq_true rfl) d_R_key_113 ⟨Nat.le_refl _, Nat.le_refl _⟩ (fun u5 H locs hp hw => ?_)
          obtain ⟨V5, hu5, ht5, hk5, hok5⟩ := q_minus hu4 hok4 (by rw [m4]; exact rMod_pos (by decide)) (by rw [m4]; exact rMod_le (by decide)) hp
          rw [m4, ht4, y4] at ht5
          refine lv_goto (tgt := 169) hx hb d_R_key_116 (by decide) ?_
          exact good (keyX (rB σ)) (ss (rMod 0) 0 (keyE (rB σ))) V5 u5 _ _ ls (by rw [kR, if_pos ⟨l1, c5⟩, if_pos c6]) ((hk5 40 (by decide) (by decide)).trans ((hk4 40 (by decide)).trans x3)) ht5 hu5 (fun r w => (hk5 r (by omega) (by omega)).trans ((hk4 r (by omega)).trans (hK3 r w))) hok5 hw hl
        · exact b86 V3 u3 _ _ ls (by rw [kR, if_neg (fun q9 => boolN_0 c4 q9.2)]) hu3 hK3 hok3 hw hl
      · exact b65 V1 u1 _ _ ls (by rw [kR, if_neg (fun q9 => c3 (by rw [hc1]; exact (cmpN_lt _ _).mpr q9.1))]) hu1 hK1 hok1 hw hl
    refine lv_aload_n hx hb d_R_key_25 rfl (lv_at hl 1 rfl) ?_
    refine r_get hx hb ht hown hw 5 (by decide) (ht _ kf_R_27) rfl d_R_key_26 (fun _ h9 => h9) ?_
    refine lv_iconst (v := nI 0) hx hb d_R_key_29 (by decide) ?_
    refine r_bld hx hb hw (by decide) d_R_key_30 ?_
    refine tp_i (y := nI (rB σ 0)) (by rw [B0]) ?_
    refine lv_iconst (v := nI 2) hx hb d_R_key_31 (by decide) ?_
    refine n_eq (tgt := 45) hx hb d_R_key_32 (by decide) (by omega) (by decide) (fun c2 => main ls hl (Or.inl c2)) (fun c2 => ?_)
    refine lv_aload_n hx hb d_R_key_35 rfl (lv_at hl 1 rfl) ?_
    refine r_get hx hb ht hown hw 5 (by decide) (ht _ kf_R_27) rfl d_R_key_36 (fun _ h9 => h9) ?_
    refine lv_iconst (v := nI 0) hx hb d_R_key_39 (by decide) ?_
    refine r_bld hx hb hw (by decide) d_R_key_40 ?_
    refine tp_i (y := nI (rB σ 0)) (by rw [B0]) ?_
    refine lv_iconst (v := nI 3) hx hb d_R_key_41 (by decide) ?_
    refine n_ne (tgt := 119) hx hb d_R_key_42 (by decide) (by omega) (by decide) (fun c3 => br ls hl (fun q => q.2.elim c2 c3)) (fun c3 => main ls hl (Or.inr c3))
  · refine lv_iconst (v := -1) hx hb d_R_key_7 (by decide) ?_
    exact z_iret (rZ _) hx hb hr hlocks σ hw ⟨fun _ => ⟨rfl, rfl⟩, fun q w e1 => absurd (by rw [e1]; exact okR_of w (by decide)) (boolN_0 c0)⟩ d_R_key_8
