/-! roots of the reference -/
theorem half_dg {v k : Nat} : dg b26 (v / 2) k = dg b26 v k / 2 + dg b26 v (k + 1) % 2 * 33554432 := by
  unfold dg
  have e1 : v / 2 / b26 ^ k = v / b26 ^ k / 2 := by rw [Nat.div_div_eq_div_mul, Nat.div_div_eq_div_mul, Nat.mul_comm]
  have e2 : v / b26 ^ (k + 1) = v / b26 ^ k / 67108864 := by rw [Nat.pow_succ, ← Nat.div_div_eq_div_mul]
  rw [e1, e2]
  generalize v / b26 ^ k = z
  show z / 2 % 67108864 = z % 67108864 / 2 + z / 67108864 % 67108864 % 2 * 33554432
  omega
theorem dg_zero {v k n : Nat} (hv : v < b26 ^ n) (hk : n ≤ k) : dg b26 v k = 0 := by
  unfold dg
  rw [Nat.div_eq_of_lt (Nat.lt_of_lt_of_le hv (Nat.pow_le_pow_right (by decide) hk)), Nat.zero_mod]
def eRoot : Nat := (ec_P + 1) / 4
theorem rMod0 : rMod 0 = ec_P := rfl
theorem eRoot_lt : eRoot < 2 ^ 256 := by decide +kernel
theorem eP1 : (ec_P + 1) % b26 ^ 10 = ec_P + 1 := by decide +kernel
theorem eP1_lt : ec_P + 1 < b26 ^ 10 := by decide +kernel
theorem two_lt (x : Nat) (h : x < b26 ^ 10) : x / 2 < b26 ^ 10 := Nat.lt_of_le_of_lt (Nat.div_le_self _ _) h
def rootN (a : Nat) : Nat := a ^ eRoot % rMod 0
def evenN (M x : Nat) : Nat := if x % 2 = 1 then ss M 0 x else x
set_option maxHeartbeats 4000000 in
set_option maxRecDepth 100000 in
theorem c_R_roots (l : Launch) (G : rG) (σ : rS) (hok : rOk σ) {to a : Nat} (h1 : to < 37 ∨ 39 < to) (h1b : to < 44) (h2 : a < 44) (h2b : a < 37 ∨ 39 < a) (hto : to ≠ 8) (hq : rV σ 8 = rMod 0) (hone : rV σ 20 = 1) : Met l y_R_roots (zW y_R_roots b_R_roots 6 (some .boolean)) (zr 4 102) (va_Pc [.ref (rA G 0), .int (nI (to)), .int (nI (a))] (rC G σ)) (va_Qi (fun r u => r = nI (boolN (mm (rMod 0) (rootN (rV σ a)) (rootN (rV σ a)) = rV σ a)) ∧ ∃ V, rU σ V u ∧ (mm (rMod 0) (rootN (rV σ a)) (rootN (rV σ a)) = rV σ a → V to = evenN (rMod 0) (rootN (rV σ a))) ∧ (mm (rMod 0) (rootN (rV σ a)) (rootN (rV σ a)) ≠ rV σ a → V to = rV σ to ∨ (37 < to ∧ to < 40)) ∧ (∀ r, r ≠ to → (r < 37 ∨ 39 < r) → r < 44 → V r = rV σ r) ∧ ∀ r, V r < b26 ^ 10) (fun u => rC G u) (rAA G)) 0 0 (rAA G) := by
  refine Met.ofW (cc := b_R_roots) (maxL := 6) (ret := (some .boolean)) (by decide) rfl ?_
  intro p e s m args below meth c s₁ B hml hv
  obtain ⟨rfl, hw⟩ := hv
  have hx := B.exec
  have hb := B.bytes
  have hr := B.returns
  have hts := atoms_spec (ws := zW y_R_roots b_R_roots 6 (some .boolean)) B.pre
  have ht : ∀ w ∈ zT, w.before ([.ref (rA G 0), .int (nI (to)), .int (nI (a))] : List Value).toArray s = true := fun w h => hts w (List.mem_cons_of_mem _ h)
  have hown : s.vm.findClass R_R = some m.cls := findClass_of_methodNamed B.named
  have hlocks := B.notSynchronized
  have hl := lv_entry ([.ref (rA G 0), .int (nI (to)), .int (nI (a))]) (n := 6) (Nat.le_of_ble_eq_true rfl)
  rw [lg_entry_eq]
  generalize (lg_sl ([.ref (rA G 0), .int (nI (to)), .int (nI (a))]) ++ List.replicate (6 - (lg_sl ([.ref (rA G 0), .int (nI (to)), .int (nI (a))])).length) Slot.unset).toArray = ls at hl ⊢
  have hl : lv_has ls 6 [(0, .ref (rA G 0)), (1, .int (nI (to))), (2, .int (nI (a)))] := hl
  obtain ⟨V0, u0, hV0, hu0, hok0, hw⟩ : ∃ (V : Nat → Nat) (u : rS), V = rV σ ∧ rU σ V u ∧ (∀ r, V r < b26 ^ 10) ∧ rH G u s s.heap [] := ⟨rV σ, σ, rfl, rU.rfl' σ, hok, hw⟩
  have hK0 : ∀ r, (r < 37 ∨ 39 < r) → r < 44 → V0 r = rV σ r := fun r _ _ => by rw [hV0]
  have f0_q : V0 (8) = rMod 0 := by rw [hV0]; exact hq
  have f0_o : V0 (20) = 1 := by rw [hV0]; exact hone
  have f0_a : V0 (a) = rV σ a := by rw [hV0]
  refine lv_aload_n hx hb d_R_roots_0 rfl (lv_at hl 0 rfl) ?_
  refine lv_bipush (v := nI 47) hx hb d_R_roots_1 (by decide) ?_
  refine lv_iload_n hx hb d_R_roots_3 rfl (lv_at hl 2 rfl) ?_
  refine r_callv (np := 2) (As := [.int (nI (47)), .int (nI (a))]) (rest := []) ⟨hx, hb, hml, hown, ht⟩ hw (c_R_copy l G u0 (hu0.ok hok0) (by decide) (by omega) (by omega)) ⟨km_R_70, kv_R_copy, kx_R_copy, kc_R_copy⟩ (by decide +kernel) ⟨by decide, by decide⟩ rfl rfl rfl hl.1 rfl (Nat.le_of_ble_eq_true rfl) d_R_roots_4 ⟨Nat.le_refl _, Nat.le_refl _⟩ (fun u1 H locs hp hw => ?_)
  obtain ⟨V1, hu1, ht1, hk1, hok1⟩ := q_copy hu0 hok0 hp
  have f1_8 : V1 (8) = rMod 0 := (hk1 _ (by decide)).trans f0_q
  have f1_20 : V1 (20) = 1 := (hk1 _ (by decide)).trans f0_o
  have f1_a : V1 (a) = rV σ a := (hk1 _ (by omega)).trans f0_a
  have hK1 : ∀ r, (r < 37 ∨ 39 < r) → r < 44 → V1 r = rV σ r := fun r a0 a1 => (hk1 r (by omega)).trans (hK0 r a0 a1)
  have f1_47 : V1 (47) = rV σ a := ht1.trans f0_a
  clear f0_q f0_o f0_a ht1 hk1 hu0 hok0 hK0 hp
  clear f1_a
  refine lv_aload_n hx hb d_R_roots_7 rfl (lv_at hl 0 rfl) ?_
  refine lv_bipush (v := nI 39) hx hb d_R_roots_8 (by decide) ?_
  refine lv_bipush (v := nI 8) hx hb d_R_roots_10 (by decide) ?_
  refine r_callv (np := 2) (As := [.int (nI (39)), .int (nI (8))]) (rest := []) ⟨hx, hb, hml, hown, ht⟩ hw (c_R_copy l G u1 (hu1.ok hok1) (by decide) (by decide) (by decide)) ⟨km_R_70, kv_R_copy, kx_R_copy, kc_R_copy⟩ (by decide +kernel) ⟨by decide, by decide⟩ rfl rfl rfl hl.1 rfl (Nat.le_of_ble_eq_true rfl) d_R_roots_12 ⟨Nat.le_refl _, Nat.le_refl _⟩ (fun u2 H locs hp hw => ?_)
  obtain ⟨V2, hu2, ht2, hk2, hok2⟩ := q_copy hu1 hok1 hp
  have f2_8 : V2 (8) = rMod 0 := (hk2 _ (by decide)).trans f1_8
  have f2_20 : V2 (20) = 1 := (hk2 _ (by decide)).trans f1_20
  have f2_47 : V2 (47) = rV σ a := (hk2 _ (by decide)).trans f1_47
  have hK2 : ∀ r, (r < 37 ∨ 39 < r) → r < 44 → V2 r = rV σ r := fun r a0 a1 => (hk2 r (by omega)).trans (hK1 r a0 a1)
  have f2_39 : V2 (39) = rMod 0 := ht2.trans f1_8
  clear f1_8 f1_20 f1_47 ht2 hk2 hu1 hok1 hK1 hp
  refine lv_aload_n hx hb d_R_roots_15 rfl (lv_at hl 0 rfl) ?_
  refine lv_bipush (v := nI 39) hx hb d_R_roots_16 (by decide) ?_
  refine lv_bipush (v := nI 20) hx hb d_R_roots_18 (by decide) ?_
  refine lv_iconst (v := nI 1) hx hb d_R_roots_20 (by decide) ?_
  refine r_callv (np := 3) (As := [.int (nI (39)), .int (nI (20)), .int (nI (1))]) (rest := []) ⟨hx, hb, hml, hown, ht⟩ hw (c_R_addp l G u2 (hu2.ok hok2) (by decide) (by decide) (by decide)) ⟨km_R_74, kv_R_add, kx_R_add, kc_R_add⟩ (by decide +kernel) ⟨by decide, by decide⟩ rfl rfl rfl hl.1 rfl (Nat.le_of_ble_eq_true rfl) d_R_roots_21 ⟨Nat.le_refl _, Nat.le_refl _⟩ (fun u3 H locs hp hw => ?_)
  obtain ⟨V3, hu3, ht3, hk3, hok3⟩ : ∃ V3, rU σ V3 u3 ∧ V3 39 = ec_P + 1 ∧ (∀ r, r ≠ 39 → V3 r = V2 r) ∧ ∀ r, V3 r < b26 ^ 10 := by
    refine ⟨va_up V2 39 (ec_P + 1), ?_, up_self _ _ _, fun r h => up_ne _ _ h, up_lt hok2 eP1_lt⟩
    have h := hu2.trans (rU.of hp)
    rw [hu2.V, f2_39, f2_20, rMod0, eP1] at h
    exact h
  have f3_8 : V3 8 = rMod 0 := (hk3 _ (by decide)).trans f2_8
  have f3_20 : V3 20 = 1 := (hk3 _ (by decide)).trans f2_20
  have f3_47 : V3 47 = rV σ a := (hk3 _ (by decide)).trans f2_47
  have hK3 : ∀ r, (r < 37 ∨ 39 < r) → r < 44 → V3 r = rV σ r := fun r a0 a1 => (hk3 r (by omega)).trans (hK2 r a0 a1)
  clear hk3 hu2 hok2 hK2 hp f2_8 f2_20 f2_47 f2_39
  refine lv_iconst (v := nI 0) hx hb d_R_roots_24 (by decide) ?_
  refine lv_istore_n (lv' := [(3, .int (nI (0))), (0, .ref (rA G 0)), (1, .int (nI (to))), (2, .int (nI (a)))]) hx hb d_R_roots_25 rfl hl (by decide) rfl (fun ls hl => ?_)
  have halve : ∀ (t : Nat), t < 2 → ∀ (V : Nat → Nat) (v : Nat), v < b26 ^ 10 → (∀ r, V r < b26 ^ 10) → (∀ (w : Nat) (u : rS) (H : Heap) (locs : List Loc) (ls : Array Slot), w = v / 2 → rU σ (va_up V 39 w) u → rH G u s H locs → lv_has ls 6 [(0, .ref (rA G 0)), (1, .int (nI (to))), (2, .int (nI (a))), (3, .int (nI (t + 1)))] → W p l e (headSpec (zW y_R_roots b_R_roots 6 (some .boolean)) (zr 4 102)).room s m ([.ref (rA G 0), .int (nI (to)), .int (nI (a))] : List Value).toArray below meth c H locs 0 0 (MQ below (va_Qi (fun r u => r = nI (boolN (mm (rMod 0) (rootN (rV σ a)) (rootN (rV σ a)) = rV σ a)) ∧ ∃ V, rU σ V u ∧ (mm (rMod 0) (rootN (rV σ a)) (rootN (rV σ a)) = rV σ a → V to = evenN (rMod 0) (rootN (rV σ a))) ∧ (mm (rMod 0) (rootN (rV σ a)) (rootN (rV σ a)) ≠ rV σ a → V to = rV σ to ∨ (37 < to ∧ to < 40)) ∧ (∀ r, r ≠ to → (r < 37 ∨ 39 < r) → r < 44 → V r = rV σ r) ∧ ∀ r, V r < b26 ^ 10) (fun u => rC G u) (rAA G)) ([.ref (rA G 0), .int (nI (to)), .int (nI (a))] : List Value).toArray s 0 0 (rAA G)) (F0 m 26 ls [])) → ∀ (n k : Nat), k + n = 10 → ∀ (w : Nat) (u : rS) (H : Heap) (locs : List Loc) (ls : Array Slot), w < b26 ^ 10 → w % b26 ^ k = (v / 2) % b26 ^ k → (∀ j, k ≤ j → dg b26 w j = dg b26 v j) → rU σ (va_up V 39 w) u → rH G u s H locs → lv_has ls 6 [(0, .ref (rA G 0)), (1, .int (nI (to))), (2, .int (nI (a))), (3, .int (nI (t))), (4, .int (nI (k)))] → W p l e (headSpec (zW y_R_roots b_R_roots 6 (some .boolean)) (zr 4 102)).room s m ([.ref (rA G 0), .int (nI (to)), .int (nI (a))] : List Value).toArray below meth c H locs 0 0 (MQ below (va_Qi (fun r u => r = nI (boolN (mm (rMod 0) (rootN (rV σ a)) (rootN (rV σ a)) = rV σ a)) ∧ ∃ V, rU σ V u ∧ (mm (rMod 0) (rootN (rV σ a)) (rootN (rV σ a)) = rV σ a → V to = evenN (rMod 0) (rootN (rV σ a))) ∧ (mm (rMod 0) (rootN (rV σ a)) (rootN (rV σ a)) ≠ rV σ a → V to = rV σ to ∨ (37 < to ∧ to < 40)) ∧ (∀ r, r ≠ to → (r < 37 ∨ 39 < r) → r < 44 → V r = rV σ r) ∧ ∀ r, V r < b26 ^ 10) (fun u => rC G u) (rAA G)) ([.ref (rA G 0), .int (nI (to)), .int (nI (a))] : List Value).toArray s 0 0 (rAA G)) (F0 m 34 ls []) := by
    intro t ht2 V v hv hVb next n
    induction n with
    | zero =>
      intro k hk w u H locs ls hwb hwm hup hu hw hl
      have hk : k = 10 := by omega
      subst hk
      refine lv_iload hx hb d_R_roots_34 (lv_at hl 4 rfl) ?_
      refine lv_bipush (v := nI 10) hx hb d_R_roots_36 (by decide) ?_
      refine n_ge (tgt := 107) hx hb d_R_roots_38 (by decide) (by decide) (by decide) (fun _ => ?_) (fun h => absurd h (by omega))
      refine lv_iinc (v := nI (t + 1)) (lv' := [(3, .int (nI (t + 1))), (0, .ref (rA G 0)), (1, .int (nI (to))), (2, .int (nI (a))), (4, .int (nI (10)))]) hx hb d_R_roots_107 hl (k := 3) rfl (nI_add t 1) (by decide) rfl (fun ls hl => ?_)
      refine lv_goto (tgt := 26) hx hb d_R_roots_110 (by decide) ?_
      rw [Nat.mod_eq_of_lt hwb, Nat.mod_eq_of_lt (two_lt v hv)] at hwm
      exact next w u H locs ls hwm hu hw (lv_sub hl [1, 2, 3, 0] rfl)
    | succ n ih =>
      intro k hk w u H locs ls hwb hwm hup hu hw hl
      refine lv_iload hx hb d_R_roots_34 (lv_at hl 4 rfl) ?_
      refine lv_bipush (v := nI 10) hx hb d_R_roots_36 (by decide) ?_
      refine n_ge (tgt := 107) hx hb d_R_roots_38 (by decide) (by omega) (by decide) (fun h => absurd h (by omega)) (fun _ => ?_)
      have h39 : rV u 39 = w := by rw [hu.V]; exact up_self _ _ _
      have cont : ∀ (nx : Nat), nx = dg b26 v (k + 1) → ∀ (ls : Array Slot), lv_has ls 6 [(0, .ref (rA G 0)), (1, .int (nI (to))), (2, .int (nI (a))), (3, .int (nI (t))), (4, .int (nI (k)))] → W p l e (headSpec (zW y_R_roots b_R_roots 6 (some .boolean)) (zr 4 102)).room s m ([.ref (rA G 0), .int (nI (to)), .int (nI (a))] : List Value).toArray below meth c H locs 0 0 (MQ below (va_Qi (fun r u => r = nI (boolN (mm (rMod 0) (rootN (rV σ a)) (rootN (rV σ a)) = rV σ a)) ∧ ∃ V, rU σ V u ∧ (mm (rMod 0) (rootN (rV σ a)) (rootN (rV σ a)) = rV σ a → V to = evenN (rMod 0) (rootN (rV σ a))) ∧ (mm (rMod 0) (rootN (rV σ a)) (rootN (rV σ a)) ≠ rV σ a → V to = rV σ to ∨ (37 < to ∧ to < 40)) ∧ (∀ r, r ≠ to → (r < 37 ∨ 39 < r) → r < 44 → V r = rV σ r) ∧ ∀ r, V r < b26 ^ 10) (fun u => rC G u) (rAA G)) ([.ref (rA G 0), .int (nI (to)), .int (nI (a))] : List Value).toArray s 0 0 (rAA G)) (F0 m 67 ls [.int (nI nx)]) := by
        intro nx hnx ls hl
        refine lv_istore (lv' := [(5, .int (nI (nx))), (0, .ref (rA G 0)), (1, .int (nI (to))), (2, .int (nI (a))), (3, .int (nI (t))), (4, .int (nI (k)))]) hx hb d_R_roots_67 hl (by decide) rfl (fun ls hl => ?_)
        refine lv_aload_n hx hb d_R_roots_69 rfl (lv_at hl 1 rfl) ?_
        refine r_get hx hb ht hown hw 0 (by decide) (ht _ kf_R_7) rfl d_R_roots_70 (fun _ h9 => h9) ?_
        refine lv_sipush (v := nI 390) hx hb d_R_roots_73 (by decide) ?_
        refine lv_iload hx hb d_R_roots_76 (lv_at hl 5 rfl) ?_
        refine lv_iadd hx hb d_R_roots_78 ?_
        refine tp_i (y := nI (390 + k)) (nI_add _ _) ?_
        refine lv_aload_n hx hb d_R_roots_79 rfl (lv_at hl 1 rfl) ?_
        refine r_get hx hb ht hown hw 0 (by decide) (ht _ kf_R_7) rfl d_R_roots_80 (fun _ h9 => h9) ?_
        refine lv_sipush (v := nI 390) hx hb d_R_roots_83 (by decide) ?_
        refine lv_iload hx hb d_R_roots_86 (lv_at hl 5 rfl) ?_
        refine lv_iadd hx hb d_R_roots_88 ?_
        refine tp_i (y := nI (390 + k)) (nI_add _ _) ?_
        have hnb : nx < 67108864 := by rw [hnx]; exact dg_lt b26_pos _ _
        have hdb : dg b26 v k < 67108864 := dg_lt b26_pos _ _
        refine tp_i (y := nI (10 * 39 + k)) (rfl) ?_
        refine r_ild' hx hb hw (by decide) (by omega) d_R_roots_89 ?_
        refine tp_i (y := nI (dg b26 v k)) (congrArg nI (by rw [h39]; exact hup k (Nat.le_refl k))) ?_
        refine lv_iconst (v := nI 2) hx hb d_R_roots_90 (by decide) ?_
        refine lv_idiv hx hb d_R_roots_91 (by decide) ?_
        refine tp_i (y := nI (dg b26 v k / 2)) (pk_div (by omega) (by decide) (by decide)) ?_
        refine lv_iload hx hb d_R_roots_92 (lv_at hl 0 rfl) ?_
        refine lv_iconst (v := nI 2) hx hb d_R_roots_94 (by decide) ?_
        refine lv_irem hx hb d_R_roots_95 (by decide) ?_
        refine tp_i (y := nI (nx % 2)) (pk_rem (by omega) (by decide) (by decide)) ?_
        refine lv_ldc hx hb hown (ht _ kl_R_107) d_R_roots_96 ?_
        refine tp_i (y := nI (33554432)) ((by decide : (33554432 : Int32) = nI 33554432)) ?_
        refine lv_imul hx hb d_R_roots_98 ?_
        refine tp_i (y := nI ((nx % 2) * 33554432)) (pk_mul _ _) ?_
        refine lv_iadd hx hb d_R_roots_99 ?_
        refine tp_i (y := nI ((dg b26 v k / 2) + ((nx % 2) * 33554432))) (nI_add _ _) ?_
        refine tp_i (y := nI (dg b26 (v / 2) k)) (congrArg nI (by rw [hnx, half_dg])) ?_
        have hix : nI (390 + k) = nI (10 * 39 + k) := rfl
        rw [hix]
        refine r_ist hx hb hw (by decide) (by omega) (dg_lt b26_pos _ _) d_R_roots_100 (fun H locs hw => ?_)
        refine lv_iinc (v := nI (k + 1)) (lv' := [(4, .int (nI (k + 1))), (5, .int (nI (nx))), (0, .ref (rA G 0)), (1, .int (nI (to))), (2, .int (nI (a))), (3, .int (nI (t)))]) hx hb d_R_roots_101 hl (k := 5) rfl (nI_add k 1) (by decide) rfl (fun ls hl => ?_)
        refine lv_goto (tgt := 34) hx hb d_R_roots_104 (by decide) ?_
        have hu2 : rU σ (va_up V 39 (ds b26 w k (dg b26 (v / 2) k))) (rsV u (va_up (rV u) 39 (ds b26 (rV u 39) k (dg b26 (v / 2) k)))) := by
          have e9 : va_up (rV u) 39 (ds b26 (rV u 39) k (dg b26 (v / 2) k)) = va_up V 39 (ds b26 w k (dg b26 (v / 2) k)) := by rw [h39, hu.V, up_up]
          rw [← e9]
          exact hu.trans (rU.of rfl)
        refine ih (k + 1) (by omega) (ds b26 w k (dg b26 (v / 2) k)) _ H locs ls (ds_lt b26_pos (dg_lt b26_pos _ _) (by omega) hwb) ?_ (fun j hj => ?_) hu2 hw (lv_sub hl [2, 3, 4, 5, 0] rfl)
        · rw [ds_mod b26_pos _ (dg_lt b26_pos _ _), dg_mod b26 (v / 2) k, hwm]
        · rw [ds_dg b26_pos _ (dg_lt b26_pos _ _), if_neg (by omega)]; exact hup j (by omega)
      refine lv_iload hx hb d_R_roots_41 (lv_at hl 4 rfl) ?_
      refine lv_iconst (v := nI 1) hx hb d_R_roots_43 (by decide) ?_
      refine lv_iadd hx hb d_R_roots_44 ?_
      refine tp_i (y := nI (k + 1)) (nI_add _ _) ?_
      refine lv_bipush (v := nI 10) hx hb d_R_roots_45 (by decide) ?_
      refine n_ge (tgt := 66) hx hb d_R_roots_47 (by decide) (by omega) (by decide) (fun c1 => ?_) (fun c1 => ?_)
      · refine lv_iconst (v := nI 0) hx hb d_R_roots_66 (by decide) ?_
        exact cont 0 (dg_zero hv (by omega)).symm ls hl
      · refine lv_aload_n hx hb d_R_roots_50 rfl (lv_at hl 0 rfl) ?_
        refine r_get hx hb ht hown hw 0 (by decide) (ht _ kf_R_7) rfl d_R_roots_51 (fun _ h9 => h9) ?_
        refine lv_sipush (v := nI 390) hx hb d_R_roots_54 (by decide) ?_
        refine lv_iload hx hb d_R_roots_57 (lv_at hl 4 rfl) ?_
        refine lv_iadd hx hb d_R_roots_59 ?_
        refine tp_i (y := nI (390 + k)) (nI_add _ _) ?_
        refine lv_iconst (v := nI 1) hx hb d_R_roots_60 (by decide) ?_
        refine lv_iadd hx hb d_R_roots_61 ?_
        refine tp_i (y := nI ((390 + k) + 1)) (nI_add _ _) ?_
        refine tp_i (y := nI (10 * 39 + (k + 1))) (congrArg nI (by omega)) ?_
        refine r_ild' hx hb hw (by decide) (by omega) d_R_roots_62 ?_
        refine tp_i (y := nI (dg b26 v (k + 1))) (congrArg nI (by rw [h39]; exact hup (k + 1) (by omega))) ?_
        refine lv_goto (tgt := 67) hx hb d_R_roots_63 (by decide) ?_
        exact cont _ rfl ls hl
  have after : ∀ (u4 : rS) (H : Heap) (locs : List Loc) (ls : Array Slot), rU σ (va_up V3 39 eRoot) u4 → rH G u4 s H locs → lv_has ls 6 [(0, .ref (rA G 0)), (1, .int (nI (to))), (2, .int (nI (a))), (3, .int (nI (2)))] → W p l e (headSpec (zW y_R_roots b_R_roots 6 (some .boolean)) (zr 4 102)).room s m ([.ref (rA G 0), .int (nI (to)), .int (nI (a))] : List Value).toArray below meth c H locs 0 0 (MQ below (va_Qi (fun r u => r = nI (boolN (mm (rMod 0) (rootN (rV σ a)) (rootN (rV σ a)) = rV σ a)) ∧ ∃ V, rU σ V u ∧ (mm (rMod 0) (rootN (rV σ a)) (rootN (rV σ a)) = rV σ a → V to = evenN (rMod 0) (rootN (rV σ a))) ∧ (mm (rMod 0) (rootN (rV σ a)) (rootN (rV σ a)) ≠ rV σ a → V to = rV σ to ∨ (37 < to ∧ to < 40)) ∧ (∀ r, r ≠ to → (r < 37 ∨ 39 < r) → r < 44 → V r = rV σ r) ∧ ∀ r, V r < b26 ^ 10) (fun u => rC G u) (rAA G)) ([.ref (rA G 0), .int (nI (to)), .int (nI (a))] : List Value).toArray s 0 0 (rAA G)) (F0 m 26 ls []) := by
    intro u4 H locs ls hu4 hw hl
    refine lv_iload_n hx hb d_R_roots_26 rfl (lv_at hl 3 rfl) ?_
    refine lv_iconst (v := nI 2) hx hb d_R_roots_27 (by decide) ?_
    refine n_ge (tgt := 113) hx hb d_R_roots_28 (by decide) (by decide) (by decide) (fun _ => ?_) (fun h => absurd h (by decide))
    have ok4 : ∀ r, va_up V3 39 eRoot r < b26 ^ 10 := up_lt hok3 (lt260 eRoot_lt)
    obtain ⟨V4, hV4⟩ : ∃ V4, V4 = va_up V3 39 eRoot := ⟨_, rfl⟩
    rw [← hV4] at hu4 ok4
    have k4 : ∀ r, r ≠ 39 → V4 r = V3 r := fun r h => by rw [hV4]; exact up_ne _ _ h
    have e39 : V4 39 = eRoot := by rw [hV4]; exact up_self _ _ _
    have g8 : V4 8 = rMod 0 := (k4 8 (by decide)).trans f3_8
    have g20 : V4 20 = 1 := (k4 20 (by decide)).trans f3_20
    have g47 : V4 47 = rV σ a := (k4 47 (by decide)).trans f3_47
    refine lv_aload_n hx hb d_R_roots_113 rfl (lv_at hl 0 rfl) ?_
    refine lv_bipush (v := nI 45) hx hb d_R_roots_114 (by decide) ?_
    refine lv_bipush (v := nI 47) hx hb d_R_roots_116 (by decide) ?_
    refine lv_bipush (v := nI 8) hx hb d_R_roots_118 (by decide) ?_
    refine r_callv (np := 3) (As := [.int (nI (45)), .int (nI (47)), .int (nI (8))]) (rest := []) ⟨hx, hb, hml, hown, ht⟩ hw (c_R_power l G u4 (hu4.ok ok4) (μ := 0) (by decide) (by decide) (by decide) (by decide) (by decide) (by decide) (by rw [hu4.V]; exact g8) (by rw [hu4.V]; exact g20) (by rw [hu4.V, e39]; exact eRoot_lt)) ⟨km_R_104, kv_R_power, kx_R_power, kc_R_power⟩ (by decide +kernel) ⟨by decide, by decide⟩ rfl rfl rfl hl.1 rfl (Nat.le_of_ble_eq_true rfl) d_R_roots_120 ⟨Nat.le_refl _, Nat.le_refl _⟩ (fun u5 H locs hp hw => ?_)
    obtain ⟨V5, hu5, ht5, hk5, hok5⟩ := q_power (μ := 0) (by decide) hu4 ok4 hp
    rw [g47, e39] at ht5
    have t5 : V5 45 = (rootN (rV σ a)) := ht5
    have p8 : V5 8 = rMod 0 := (hk5 8 (by decide) (by decide) (by decide)).trans g8
    have p47 : V5 47 = rV σ a := (hk5 47 (by decide) (by decide) (by decide)).trans g47
    have rl : (rootN (rV σ a)) < rMod 0 := Nat.mod_lt _ (rMod_pos (by decide))
    have K5 : ∀ r, (r < 37 ∨ 39 < r) → r < 44 → V5 r = rV σ r := fun r a0 a1 => (hk5 r (by omega) (by omega) (by omega)).trans ((k4 r (by omega)).trans (hK3 r a0 a1))
    clear ht5 hk5 hp k4 e39 g8 g20 g47
    refine lv_aload_n hx hb d_R_roots_123 rfl (lv_at hl 0 rfl) ?_
    refine lv_bipush (v := nI 46) hx hb d_R_roots_124 (by decide) ?_
    refine lv_bipush (v := nI 45) hx hb d_R_roots_126 (by decide) ?_
    refine lv_bipush (v := nI 45) hx hb d_R_roots_128 (by decide) ?_
    refine lv_bipush (v := nI 8) hx hb d_R_roots_130 (by decide) ?_
    refine r_callv (np := 4) (As := [.int (nI (46)), .int (nI (45)), .int (nI (45)), .int (nI (8))]) (rest := []) ⟨hx, hb, hml, hown, ht⟩ hw (c_R_multiply l G u5 (hu5.ok hok5) (μ := 0) (by decide) (by decide) (by decide) (by decide) (by decide) (by rw [hu5.V]; exact p8)) ⟨km_R_96, kv_R_multiply, kx_R_multiply, kc_R_multiply⟩ (by decide +kernel) ⟨by decide, by decide⟩ rfl rfl rfl hl.1 rfl (Nat.le_of_ble_eq_true rfl) d_R_roots_132 ⟨Nat.le_refl _, Nat.le_refl _⟩ (fun u6 H locs hp hw => ?_)
    obtain ⟨V6, hu6, ht6, hk6, hok6⟩ := q_mul (μ := 0) (by decide) hu5 hok5 hp
    rw [t5] at ht6
    have p45 : V6 45 = (rootN (rV σ a)) := (hk6 45 (by decide)).trans t5
    have r8 : V6 8 = rMod 0 := (hk6 8 (by decide)).trans p8
    have r47 : V6 47 = rV σ a := (hk6 47 (by decide)).trans p47
    have K6 : ∀ r, (r < 37 ∨ 39 < r) → r < 44 → V6 r = rV σ r := fun r a0 a1 => (hk6 r (by omega)).trans (K5 r a0 a1)
    clear hk6 hp K5 p8 p47 t5
    refine lv_aload_n hx hb d_R_roots_135 rfl (lv_at hl 0 rfl) ?_
    refine lv_bipush (v := nI 46) hx hb d_R_roots_136 (by decide) ?_
    refine lv_bipush (v := nI 47) hx hb d_R_roots_138 (by decide) ?_
    refine r_calli (np := 2) (As := [.int (nI (46)), .int (nI (47))]) (rest := []) ⟨hx, hb, hml, hown, ht⟩ hw (c_R_compare l G u6 (hu6.ok hok6) (by decide) (by decide)) ⟨km_R_78, kv_R_compare, kx_R_compare, kc_R_compare⟩ (by decide +kernel) ⟨by decide, by decide⟩ rfl rfl rfl hl.1 rfl (Nat.le_of_ble_eq_true rfl) d_R_roots_140 ⟨Nat.le_refl _, Nat.le_refl _⟩ (fun r ux H locs hp hw => ?_)
    obtain ⟨hpu, hc⟩ := hp
    rw [hpu] at hw
    rw [hu6.V, ht6, r47] at hc
    refine lv_if_eq (tgt := 148) hx hb d_R_roots_143 (by decide) (fun c1 => ?_) (fun c1 => ?_)
    · have c2 : mm (rMod 0) (rootN (rV σ a)) (rootN (rV σ a)) = rV σ a := (cmpN_eq _ _).mp (by rw [← hc]; exact c1)
      have fin : ∀ (V : Nat → Nat) (u : rS) (H : Heap) (locs : List Loc) (ls : Array Slot), rU σ V u → V 45 = evenN (rMod 0) (rootN (rV σ a)) → (∀ r, (r < 37 ∨ 39 < r) → r < 44 → V r = rV σ r) → (∀ r, V r < b26 ^ 10) → rH G u s H locs → lv_has ls 6 [(0, .ref (rA G 0)), (1, .int (nI (to))), (2, .int (nI (a))), (3, .int (nI (2)))] → W p l e (headSpec (zW y_R_roots b_R_roots 6 (some .boolean)) (zr 4 102)).room s m ([.ref (rA G 0), .int (nI (to)), .int (nI (a))] : List Value).toArray below meth c H locs 0 0 (MQ below (va_Qi (fun r u => r = nI (boolN (mm (rMod 0) (rootN (rV σ a)) (rootN (rV σ a)) = rV σ a)) ∧ ∃ V, rU σ V u ∧ (mm (rMod 0) (rootN (rV σ a)) (rootN (rV σ a)) = rV σ a → V to = evenN (rMod 0) (rootN (rV σ a))) ∧ (mm (rMod 0) (rootN (rV σ a)) (rootN (rV σ a)) ≠ rV σ a → V to = rV σ to ∨ (37 < to ∧ to < 40)) ∧ (∀ r, r ≠ to → (r < 37 ∨ 39 < r) → r < 44 → V r = rV σ r) ∧ ∀ r, V r < b26 ^ 10) (fun u => rC G u) (rAA G)) ([.ref (rA G 0), .int (nI (to)), .int (nI (a))] : List Value).toArray s 0 0 (rAA G)) (F0 m 175 ls []) := by
        intro V u H locs ls hu e45 hK ho hw hl
        refine lv_aload_n hx hb d_R_roots_175 rfl (lv_at hl 0 rfl) ?_
        refine lv_iload_n hx hb d_R_roots_176 rfl (lv_at hl 1 rfl) ?_
        refine lv_bipush (v := nI 45) hx hb d_R_roots_177 (by decide) ?_
        refine r_callv (np := 2) (As := [.int (nI (to)), .int (nI (45))]) (rest := []) ⟨hx, hb, hml, hown, ht⟩ hw (c_R_copy l G u (hu.ok ho) (by omega) (by decide) (by omega)) ⟨km_R_70, kv_R_copy, kx_R_copy, kc_R_copy⟩ (by decide +kernel) ⟨by decide, by decide⟩ rfl rfl rfl hl.1 rfl (Nat.le_of_ble_eq_true rfl) d_R_roots_179 ⟨Nat.le_refl _, Nat.le_refl _⟩ (fun u7 H locs hp hw => ?_)
        obtain ⟨V7, hu7, ht7, hk7, hok7⟩ := q_copy hu ho hp
        refine lv_iconst (v := nI 1) hx hb d_R_roots_182 (by decide) ?_
        exact z_zret (rZ _) hx hb hr hlocks (nar_b (by decide)) u7 hw ⟨by rw [boolN_t c2], V7, hu7, fun _ => ht7.trans e45, fun q9 => absurd c2 q9, fun r h a0 a1 => (hk7 r h).trans (hK r a0 a1), hok7⟩ d_R_roots_183
      refine lv_aload_n hx hb d_R_roots_148 rfl (lv_at hl 0 rfl) ?_
      refine lv_bipush (v := nI 45) hx hb d_R_roots_149 (by decide) ?_
      refine r_calli (np := 1) (As := [.int (nI (45))]) (rest := []) ⟨hx, hb, hml, hown, ht⟩ hw (c_R_isOdd l G u6 (by decide)) ⟨km_R_108, kv_R_isOdd, kx_R_isOdd, kc_R_isOdd⟩ (by decide +kernel) ⟨by decide, by decide⟩ rfl rfl rfl hl.1 rfl (Nat.le_of_ble_eq_true rfl) d_R_roots_151 ⟨Nat.le_refl _, Nat.le_refl _⟩ (fun r ux H locs hp hw => ?_)
      obtain ⟨hpu, rfl⟩ := hp
      rw [hpu] at hw
      refine tp_i (y := nI (boolN ((rootN (rV σ a)) % 2 = 1))) (by rw [hu6.V, p45]) ?_
      refine n_eq0 (tgt := 175) hx hb d_R_roots_154 (by decide) (boolN_s _) (fun c3 => ?_) (fun c3 => ?_)
      · exact fin V6 u6 H locs ls hu6 (by rw [p45, evenN, if_neg (boolN_0 c3)]) K6 hok6 hw hl
      · have c4 := boolN_1 c3
        refine lv_aload_n hx hb d_R_roots_157 rfl (lv_at hl 0 rfl) ?_
        refine lv_bipush (v := nI 46) hx hb d_R_roots_158 (by decide) ?_
        refine r_callv (np := 1) (As := [.int (nI (46))]) (rest := []) ⟨hx, hb, hml, hown, ht⟩ hw (c_R_nothing l G u6 (hu6.ok hok6) (by decide)) ⟨km_R_62, kv_R_nothing, kx_R_nothing, kc_R_nothing⟩ (by decide +kernel) ⟨by decide, by decide⟩ rfl rfl rfl hl.1 rfl (Nat.le_of_ble_eq_true rfl) d_R_roots_160 ⟨Nat.le_refl _, Nat.le_refl _⟩ (fun u7 H locs hp hw => ?_)
        obtain ⟨V7, hu7, ht7, hk7, hok7⟩ := q_nothing hu6 hok6 hp
        have s45 : V7 45 = (rootN (rV σ a)) := (hk7 45 (by decide)).trans p45
        have s8 : V7 8 = rMod 0 := (hk7 8 (by decide)).trans r8
        refine lv_aload_n hx hb d_R_roots_163 rfl (lv_at hl 0 rfl) ?_
        refine lv_bipush (v := nI 45) hx hb d_R_roots_164 (by decide) ?_
        refine lv_bipush (v := nI 46) hx hb d_R_roots_166 (by decide) ?_
        refine lv_bipush (v := nI 45) hx hb d_R_roots_168 (by decide) ?_
        refine lv_bipush (v := nI 8) hx hb d_R_roots_170 (by decide) ?_
        refine r_callv (np := 4) (As := [.int (nI (45)), .int (nI (46)), .int (nI (45)), .int (nI (8))]) (rest := []) ⟨hx, hb, hml, hown, ht⟩ hw (c_R_minus l G u7 (hu7.ok hok7) (by decide) (by decide) (by decide) (by decide) (by decide) (by decide) (by decide) (by rw [hu7.V, s8]; exact rMod_le (by decide)) (by rw [hu7.V, ht7, s8]; exact rMod_pos (by decide)) (by rw [hu7.V, s45, s8]; exact rl)) ⟨km_R_112, kv_R_minus, kx_R_minus, kc_R_minus⟩ (by decide +kernel) ⟨by decide, by decide⟩ rfl rfl rfl hl.1 rfl (Nat.le_of_ble_eq_true rfl) d_R_roots_172 ⟨Nat.le_refl _, Nat.le_refl _⟩ (fun u8 H locs hp hw => ?_)
        obtain ⟨V8, hu8, ht8, hk8, hok8⟩ := q_minus hu7 hok7 (by rw [s8]; exact rMod_pos (by decide)) (by rw [s8]; exact rMod_le (by decide)) hp
        rw [s8, ht7, s45] at ht8
        exact fin V8 u8 H locs ls hu8 (by rw [ht8, evenN, if_pos c4]) (fun r a0 a1 => (hk8 r (by omega) (by omega)).trans ((hk7 r (by omega)).trans (K6 r a0 a1))) hok8 hw hl
    · have c2 : ¬ mm (rMod 0) (rootN (rV σ a)) (rootN (rV σ a)) = rV σ a := fun q9 => c1 (by rw [hc]; exact (cmpN_eq _ _).mpr q9)
      refine lv_iconst (v := nI 0) hx hb d_R_roots_146 (by decide) ?_
      exact z_zret (rZ _) hx hb hr hlocks (nar_b (by decide)) u6 hw ⟨by rw [boolN_f c2], V6, hu6, fun q9 => absurd q9 c2, fun _ => Or.inl (K6 to h1 h1b), fun r _ a0 a1 => K6 r a0 a1, hok6⟩ d_R_roots_147
  have turn1 : ∀ (w : Nat) (u4 : rS) (H : Heap) (locs : List Loc) (ls : Array Slot), w = (ec_P + 1) / 2 → rU σ (va_up V3 39 w) u4 → rH G u4 s H locs → lv_has ls 6 [(0, .ref (rA G 0)), (1, .int (nI (to))), (2, .int (nI (a))), (3, .int (nI (1)))] → W p l e (headSpec (zW y_R_roots b_R_roots 6 (some .boolean)) (zr 4 102)).room s m ([.ref (rA G 0), .int (nI (to)), .int (nI (a))] : List Value).toArray below meth c H locs 0 0 (MQ below (va_Qi (fun r u => r = nI (boolN (mm (rMod 0) (rootN (rV σ a)) (rootN (rV σ a)) = rV σ a)) ∧ ∃ V, rU σ V u ∧ (mm (rMod 0) (rootN (rV σ a)) (rootN (rV σ a)) = rV σ a → V to = evenN (rMod 0) (rootN (rV σ a))) ∧ (mm (rMod 0) (rootN (rV σ a)) (rootN (rV σ a)) ≠ rV σ a → V to = rV σ to ∨ (37 < to ∧ to < 40)) ∧ (∀ r, r ≠ to → (r < 37 ∨ 39 < r) → r < 44 → V r = rV σ r) ∧ ∀ r, V r < b26 ^ 10) (fun u => rC G u) (rAA G)) ([.ref (rA G 0), .int (nI (to)), .int (nI (a))] : List Value).toArray s 0 0 (rAA G)) (F0 m 26 ls []) := by
    intro w u4 H locs ls hw9 hu4 hw hl
    refine lv_iload_n hx hb d_R_roots_26 rfl (lv_at hl 3 rfl) ?_
    refine lv_iconst (v := nI 2) hx hb d_R_roots_27 (by decide) ?_
    refine n_ge (tgt := 113) hx hb d_R_roots_28 (by decide) (by decide) (by decide) (fun h => absurd h (by decide)) (fun _ => ?_)
    refine lv_iconst (v := nI 0) hx hb d_R_roots_31 (by decide) ?_
    refine lv_istore (lv' := [(4, .int (nI (0))), (0, .ref (rA G 0)), (1, .int (nI (to))), (2, .int (nI (a))), (3, .int (nI (1)))]) hx hb d_R_roots_32 hl (by decide) rfl (fun ls hl => ?_)
    have hwb : w < b26 ^ 10 := by rw [hw9]; exact two_lt _ eP1_lt
    refine halve 1 (by decide) V3 w hwb hok3 (fun w2 u5 H locs ls h2 hu5 hw hl => ?_) 10 0 rfl w u4 H locs ls hwb (by rw [Nat.pow_zero, Nat.mod_one, Nat.mod_one]) (fun _ _ => rfl) hu4 hw (lv_sub hl [1, 2, 3, 4, 0] rfl)
    have e2 : w2 = eRoot := by rw [h2, hw9, Nat.div_div_eq_div_mul]; rfl
    rw [e2] at hu5
    exact after u5 H locs ls hu5 hw hl
  refine lv_iload_n hx hb d_R_roots_26 rfl (lv_at hl 0 rfl) ?_
  refine lv_iconst (v := nI 2) hx hb d_R_roots_27 (by decide) ?_
  refine n_ge (tgt := 113) hx hb d_R_roots_28 (by decide) (by decide) (by decide) (fun h => absurd h (by decide)) (fun _ => ?_)
  refine lv_iconst (v := nI 0) hx hb d_R_roots_31 (by decide) ?_
  refine lv_istore (lv' := [(4, .int (nI (0))), (3, .int (nI (0))), (0, .ref (rA G 0)), (1, .int (nI (to))), (2, .int (nI (a)))]) hx hb d_R_roots_32 hl (by decide) rfl (fun ls hl => ?_)
  refine halve 0 (by decide) V3 (ec_P + 1) eP1_lt hok3 (fun w2 u5 H locs ls h2 hu5 hw hl => turn1 w2 u5 H locs ls h2 hu5 hw hl) 10 0 rfl (ec_P + 1) u3 H locs ls eP1_lt (by rw [Nat.pow_zero, Nat.mod_one, Nat.mod_one]) (fun _ _ => rfl) ?_ hw (lv_sub hl [2, 3, 4, 1, 0] rfl)
  rw [← ht3, up_id]
  exact hu3
