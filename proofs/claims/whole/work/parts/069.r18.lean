/-! what the reference answers: spot -/
abbrev onN (M x y : Nat) : Prop := x < M ∧ y < M ∧ mm M y y = pp M (mm M (mm M x x) x) 7
theorem rU.toN {σ u : rS} {V : Nat → Nat} (h : rU σ V u) (N : Nat → Nat) : rU (rsN σ N) V (rsN u N) := by
  obtain ⟨P, F, rfl⟩ := h
  exact ⟨P, F, rfl⟩
theorem rU.B {σ u : rS} {V : Nat → Nat} (h : rU σ V u) : rB u = rB σ ∧ rM u = rM σ := by
  obtain ⟨P, F, rfl⟩ := h
  exact ⟨rfl, rfl⟩
/-- spot q becomes x, y; other rows below 31 stay -/
def rSet (σ : rS) (q x y : Nat) (u : rS) : Prop := ∃ V, rU (rsN σ (va_up (rN σ) q 0)) V u ∧ V (10 + 2 * q) = x ∧ V (11 + 2 * q) = y ∧ (∀ r, r ≠ 10 + 2 * q → r ≠ 11 + 2 * q → r < 31 → V r = rV σ r) ∧ ∀ r, V r < b26 ^ 10
set_option maxHeartbeats 4000000 in
set_option maxRecDepth 100000 in
theorem c_R_spot (l : Launch) (G : rG) (σ : rS) (hc : rCon σ) (x1 x2 x3 x4 : Int32) : Met l y_R_spot (zW y_R_spot b_R_spot 5 (some .int)) (zr 5 122) (va_Pc [.ref (rA G 0), .int (x1), .int (x2), .int (x3), .int (x4)] (rC G σ)) (va_Qi (fun r u => (¬ (okR x2 4 ∧ okR x1 3) → r = nI 0 ∧ u = σ) ∧ ∀ k q, k < 3 → q < 4 → x1 = nI k → x2 = nI q → (k = 0 → r = nI 1 ∧ u = rsN σ (va_up (rN σ) q 1)) ∧ (k = 1 → r = nI 1 ∧ rSet σ q (rV σ 18) (rV σ 19) u) ∧ (k = 2 → (¬ (okR x3 8 ∧ okR x4 8) → r = nI 0 ∧ u = σ) ∧ ∀ a b, a < 8 → b < 8 → x3 = nI a → x4 = nI b → (onN (rMod 0) (rV σ a) (rV σ b) → r = nI 1 ∧ rSet σ q (rV σ a) (rV σ b) u) ∧ (¬ onN (rMod 0) (rV σ a) (rV σ b) → r = nI 0 ∧ ∃ V, rU σ V u ∧ (∀ r, r < 31 ∨ 37 < r → V r = rV σ r) ∧ ∀ r, V r < b26 ^ 10))) (fun u => rC G u) (rAA G)) 0 0 (rAA G) := by
  refine Met.ofW (cc := b_R_spot) (maxL := 5) (ret := (some .int)) (by decide) rfl ?_
  intro p e s m args below meth c s₁ B hml hv
  obtain ⟨rfl, hw⟩ := hv
  have hx := B.exec
  have hb := B.bytes
  have hr := B.returns
  have hts := atoms_spec (ws := zW y_R_spot b_R_spot 5 (some .int)) B.pre
  have ht : ∀ w ∈ zT, w.before ([.ref (rA G 0), .int (x1), .int (x2), .int (x3), .int (x4)] : List Value).toArray s = true := fun w h => hts w (List.mem_cons_of_mem _ h)
  have hown : s.vm.findClass R_R = some m.cls := findClass_of_methodNamed B.named
  have hlocks := B.notSynchronized
  have hl := lv_entry ([.ref (rA G 0), .int (x1), .int (x2), .int (x3), .int (x4)]) (n := 5) (Nat.le_of_ble_eq_true rfl)
  rw [lg_entry_eq]
  generalize (lg_sl ([.ref (rA G 0), .int (x1), .int (x2), .int (x3), .int (x4)]) ++ List.replicate (5 - (lg_sl ([.ref (rA G 0), .int (x1), .int (x2), .int (x3), .int (x4)])).length) Slot.unset).toArray = ls at hl ⊢
  have hl : lv_has ls 5 [(0, .ref (rA G 0)), (1, .int (x1)), (2, .int (x2)), (3, .int (x3)), (4, .int (x4))] := hl
  have hno : ∀ (H : Heap) (locs : List Loc) (ls : Array Slot), rH G σ s H locs → lv_has ls 5 [(0, .ref (rA G 0)), (1, .int (x1)), (2, .int (x2)), (3, .int (x3)), (4, .int (x4))] → ¬ (okR x2 4 ∧ okR x1 3) → W p l e (headSpec (zW y_R_spot b_R_spot 5 (some .int)) (zr 5 122)).room s m ([.ref (rA G 0), .int (x1), .int (x2), .int (x3), .int (x4)] : List Value).toArray below meth c H locs 0 0 (MQ below (va_Qi (fun r u => (¬ (okR x2 4 ∧ okR x1 3) → r = nI 0 ∧ u = σ) ∧ ∀ k q, k < 3 → q < 4 → x1 = nI k → x2 = nI q → (k = 0 → r = nI 1 ∧ u = rsN σ (va_up (rN σ) q 1)) ∧ (k = 1 → r = nI 1 ∧ rSet σ q (rV σ 18) (rV σ 19) u) ∧ (k = 2 → (¬ (okR x3 8 ∧ okR x4 8) → r = nI 0 ∧ u = σ) ∧ ∀ a b, a < 8 → b < 8 → x3 = nI a → x4 = nI b → (onN (rMod 0) (rV σ a) (rV σ b) → r = nI 1 ∧ rSet σ q (rV σ a) (rV σ b) u) ∧ (¬ onN (rMod 0) (rV σ a) (rV σ b) → r = nI 0 ∧ ∃ V, rU σ V u ∧ (∀ r, r < 31 ∨ 37 < r → V r = rV σ r) ∧ ∀ r, V r < b26 ^ 10))) (fun u => rC G u) (rAA G)) ([.ref (rA G 0), .int (x1), .int (x2), .int (x3), .int (x4)] : List Value).toArray s 0 0 (rAA G)) (F0 m 46 ls []) := by
    intro H locs ls hw hl hn
    refine lv_iconst (v := nI 0) hx hb d_R_spot_46 (by decide) ?_
    refine z_iret (rZ _) hx hb hr hlocks σ hw ⟨fun _ => ⟨rfl, rfl⟩, fun k q w1 w2 e1 e2 => absurd ⟨?_, ?_⟩ hn⟩ d_R_spot_47
    · rw [e2]; exact okR_of w2 (by decide)
    · rw [e1]; exact okR_of w1 (by decide)
  refine lv_iload_n hx hb d_R_spot_0 rfl (lv_at hl 2 rfl) ?_
  refine r_callsi (np := 1) (As := [.int (x2)]) (rest := []) ⟨hx, hb, hml, hown, ht⟩ hw (c_R_isSpot l G σ x2) ⟨km_R_148, ks_R_isSpot, kc_R_isSpot⟩ (by decide +kernel) ⟨by decide, by decide⟩ rfl rfl rfl rfl hl.1 rfl (Nat.le_of_ble_eq_true rfl) d_R_spot_1 ⟨Nat.le_refl _, Nat.le_refl _⟩ (fun r u H locs hp hw => ?_)
  obtain ⟨hpu, rfl⟩ := hp
  rw [hpu] at hw
  clear hpu
  refine n_eq0 (tgt := 46) hx hb d_R_spot_4 (by decide) (boolN_s _) (fun c0 => hno H locs ls hw hl (fun q => boolN_0 c0 q.1)) (fun c0 => ?_)
  refine lv_iload_n hx hb d_R_spot_7 rfl (lv_at hl 1 rfl) ?_
  refine lv_if_lt (tgt := 46) hx hb d_R_spot_8 (by decide) (fun c1 => hno H locs ls hw hl (fun q => q.2.1 c1)) (fun c1 => ?_)
  refine lv_iload_n hx hb d_R_spot_11 rfl (lv_at hl 1 rfl) ?_
  refine lv_iconst (v := nI 2) hx hb d_R_spot_12 (by decide) ?_
  refine lv_icmp_gt (tgt := 46) hx hb d_R_spot_13 (by decide) (fun c2 => hno H locs ls hw hl (fun q => q.2.2 ((gt_le (by decide)).mp c2))) (fun c2 => ?_)
  have k0 := boolN_1 c0
  have k1 : okR x1 3 := ⟨c1, fun q => c2 ((gt_le (by decide)).mpr q)⟩
  clear hno
  obtain ⟨q, lt_q, ex2⟩ := k0.ex (by decide)
  obtain ⟨k, lt_k, ex1⟩ := k1.ex (by decide)
  have hl2 := hl
  rw [ex2, ex1] at hl2
  have hl : lv_has ls 5 [(0, .ref (rA G 0)), (1, .int (nI (k))), (2, .int (nI (q))), (3, .int (x3)), (4, .int (x4))] := hl2
  clear hl2
  rcases (show k = 0 ∨ k = 1 ∨ k = 2 by omega) with hk9 | hk9 | hk9
  · subst hk9
    refine lv_iload_n hx hb d_R_spot_16 rfl (lv_at hl 1 rfl) ?_
    refine lv_iconst (v := nI 2) hx hb d_R_spot_17 (by decide) ?_
    refine n_ne (tgt := 48) hx hb d_R_spot_18 (by decide) (by decide) (by decide) (fun _ => ?_) (fun h => absurd h (by decide))
    refine lv_aload_n hx hb d_R_spot_48 rfl (lv_at hl 0 rfl) ?_
    refine r_get hx hb ht hown hw 4 (by decide) (ht _ kf_R_23) rfl d_R_spot_49 (fun _ h9 => h9) ?_
    refine lv_iload_n hx hb d_R_spot_52 rfl (lv_at hl 2 rfl) ?_
    refine lv_iload_n hx hb d_R_spot_53 rfl (lv_at hl 1 rfl) ?_
    refine n_ne0 (tgt := 61) hx hb d_R_spot_54 (by decide) (by decide) (fun h => absurd rfl h) (fun _ => ?_)
    refine lv_iconst (v := nI 1) hx hb d_R_spot_57 (by decide) ?_
    refine lv_goto (tgt := 62) hx hb d_R_spot_58 (by decide) ?_
    refine r_zst hx hb hw lt_q (by decide) d_R_spot_62 (fun H locs hw => ?_)
    refine lv_iload_n hx hb d_R_spot_63 rfl (lv_at hl 1 rfl) ?_
    refine lv_if_le (tgt := 110) hx hb d_R_spot_64 (by decide) (fun _ => ?_) (fun h => absurd (show nI 0 ≤ 0 by decide) h)
    refine lv_iconst (v := nI 1) hx hb d_R_spot_110 (by decide) ?_
    refine z_iret (rZ _) hx hb hr hlocks _ hw ⟨fun h => absurd ⟨k0, k1⟩ h, fun k_ q_ w1 w2 e1 e2 => ?_⟩ d_R_spot_111
    have q_k_ : k_ = 0 := (nI_eq (by omega) (by omega)).mp (e1.symm.trans ex1)
    subst q_k_
    have q_q_ : q_ = q := (nI_eq (by omega) (by omega)).mp (e2.symm.trans ex2)
    subst q_q_
    exact ⟨fun _ => ⟨rfl, rfl⟩, fun h => absurd h (by decide), fun h => absurd h (by decide)⟩
  · subst hk9
    refine lv_iload_n hx hb d_R_spot_16 rfl (lv_at hl 1 rfl) ?_
    refine lv_iconst (v := nI 2) hx hb d_R_spot_17 (by decide) ?_
    refine n_ne (tgt := 48) hx hb d_R_spot_18 (by decide) (by decide) (by decide) (fun _ => ?_) (fun h => absurd h (by decide))
    refine lv_aload_n hx hb d_R_spot_48 rfl (lv_at hl 0 rfl) ?_
    refine r_get hx hb ht hown hw 4 (by decide) (ht _ kf_R_23) rfl d_R_spot_49 (fun _ h9 => h9) ?_
    refine lv_iload_n hx hb d_R_spot_52 rfl (lv_at hl 2 rfl) ?_
    refine lv_iload_n hx hb d_R_spot_53 rfl (lv_at hl 1 rfl) ?_
    refine n_ne0 (tgt := 61) hx hb d_R_spot_54 (by decide) (by decide) (fun _ => ?_) (fun h => absurd h (by decide))
    refine lv_iconst (v := nI 0) hx hb d_R_spot_61 (by decide) ?_
    refine r_zst hx hb hw lt_q (by decide) d_R_spot_62 (fun H locs hw => ?_)
    refine lv_iload_n hx hb d_R_spot_63 rfl (lv_at hl 1 rfl) ?_
    refine lv_if_le (tgt := 110) hx hb d_R_spot_64 (by decide) (fun h => absurd h (by decide)) (fun _ => ?_)
    obtain ⟨τ, hτ⟩ : ∃ τ, τ = rsN σ (va_up (rN σ) q 0) := ⟨_, rfl⟩
    rw [← hτ] at hw
    have hτU : rU (rsN σ (va_up (rN σ) q 0)) (rV σ) τ := by rw [hτ, (rU.rfl' σ).N]; exact (rU.rfl' σ).toN _
    refine lv_aload_n hx hb d_R_spot_67 rfl (lv_at hl 0 rfl) ?_
    refine lv_bipush (v := nI 10) hx hb d_R_spot_68 (by decide) ?_
    refine lv_iconst (v := nI 2) hx hb d_R_spot_70 (by decide) ?_
    refine lv_iload_n hx hb d_R_spot_71 rfl (lv_at hl 2 rfl) ?_
    refine lv_imul hx hb d_R_spot_72 ?_
    refine tp_i (y := nI (2 * q)) (pk_mul _ _) ?_
    refine lv_iadd hx hb d_R_spot_73 ?_
    refine tp_i (y := nI (10 + (2 * q))) (nI_add _ _) ?_
    refine lv_iload_n hx hb d_R_spot_74 rfl (lv_at hl 1 rfl) ?_
    refine lv_iconst (v := nI 1) hx hb d_R_spot_75 (by decide) ?_
    refine n_ne (tgt := 84) hx hb d_R_spot_76 (by decide) (by decide) (by decide) (fun h => absurd rfl h) (fun _ => ?_)
    refine lv_bipush (v := nI 18) hx hb d_R_spot_79 (by decide) ?_
    refine lv_goto (tgt := 85) hx hb d_R_spot_81 (by decide) ?_
    refine r_callv (np := 2) (As := [.int (nI (10 + (2 * q))), .int (nI (18))]) (rest := []) ⟨hx, hb, hml, hown, ht⟩ hw (c_R_copy l G τ (hτU.ok hc.1) (by omega) (by omega) (by omega)) ⟨km_R_70, kv_R_copy, kx_R_copy, kc_R_copy⟩ (by decide +kernel) ⟨by decide, by decide⟩ rfl rfl rfl hl.1 rfl (Nat.le_of_ble_eq_true rfl) d_R_spot_85 ⟨Nat.le_refl _, Nat.le_refl _⟩ (fun ua H locs hp hw => ?_)
    obtain ⟨Va, hua, hta, hka, hoka⟩ := q_copy hτU hc.1 hp
    refine lv_aload_n hx hb d_R_spot_88 rfl (lv_at hl 0 rfl) ?_
    refine lv_bipush (v := nI 11) hx hb d_R_spot_89 (by decide) ?_
    refine lv_iconst (v := nI 2) hx hb d_R_spot_91 (by decide) ?_
    refine lv_iload_n hx hb d_R_spot_92 rfl (lv_at hl 2 rfl) ?_
    refine lv_imul hx hb d_R_spot_93 ?_
    refine tp_i (y := nI (2 * q)) (pk_mul _ _) ?_
    refine lv_iadd hx hb d_R_spot_94 ?_
    refine tp_i (y := nI (11 + (2 * q))) (nI_add _ _) ?_
    refine lv_iload_n hx hb d_R_spot_95 rfl (lv_at hl 1 rfl) ?_
    refine lv_iconst (v := nI 1) hx hb d_R_spot_96 (by decide) ?_
    refine n_ne (tgt := 105) hx hb d_R_spot_97 (by decide) (by decide) (by decide) (fun h => absurd rfl h) (fun _ => ?_)
    refine lv_bipush (v := nI 19) hx hb d_R_spot_100 (by decide) ?_
    refine lv_goto (tgt := 107) hx hb d_R_spot_102 (by decide) ?_
    refine r_callv (np := 2) (As := [.int (nI (11 + (2 * q))), .int (nI (19))]) (rest := []) ⟨hx, hb, hml, hown, ht⟩ hw (c_R_copy l G ua (hua.ok hoka) (by omega) (by omega) (by omega)) ⟨km_R_70, kv_R_copy, kx_R_copy, kc_R_copy⟩ (by decide +kernel) ⟨by decide, by decide⟩ rfl rfl rfl hl.1 rfl (Nat.le_of_ble_eq_true rfl) d_R_spot_107 ⟨Nat.le_refl _, Nat.le_refl _⟩ (fun ub H locs hp hw => ?_)
    obtain ⟨Vb, hub, htb, hkb, hokb⟩ := q_copy hua hoka hp
    refine lv_iconst (v := nI 1) hx hb d_R_spot_110 (by decide) ?_
    have hset : rSet σ q (rV σ 18) (rV σ 19) ub := by
      refine ⟨Vb, hub, ?_, ?_, fun r b1 b2 b3 => ?_, hokb⟩
      · exact (hkb _ (by omega)).trans (hta.trans (rfl))
      · exact htb.trans ((hka _ (by omega)).trans (rfl))
      · exact (hkb r b2).trans ((hka r b1).trans (rfl))
    refine z_iret (rZ _) hx hb hr hlocks ub hw ⟨fun h => absurd ⟨k0, k1⟩ h, fun k_ q_ w1 w2 e1 e2 => ?_⟩ d_R_spot_111
    have q_k_ : k_ = 1 := (nI_eq (by omega) (by omega)).mp (e1.symm.trans ex1)
    subst q_k_
    have q_q_ : q_ = q := (nI_eq (by omega) (by omega)).mp (e2.symm.trans ex2)
    subst q_q_
    exact ⟨fun h => absurd h (by decide), fun _ => ⟨rfl, hset⟩, fun h => absurd h (by decide)⟩
  · subst hk9
    refine lv_iload_n hx hb d_R_spot_16 rfl (lv_at hl 1 rfl) ?_
    refine lv_iconst (v := nI 2) hx hb d_R_spot_17 (by decide) ?_
    refine n_ne (tgt := 48) hx hb d_R_spot_18 (by decide) (by decide) (by decide) (fun h => absurd rfl h) (fun _ => ?_)
    have hno : ∀ (H : Heap) (locs : List Loc) (ls : Array Slot), rH G σ s H locs → lv_has ls 5 [(0, .ref (rA G 0)), (1, .int (nI (2))), (2, .int (nI (q))), (3, .int (x3)), (4, .int (x4))] → ¬ (okR x3 8 ∧ okR x4 8) → W p l e (headSpec (zW y_R_spot b_R_spot 5 (some .int)) (zr 5 122)).room s m ([.ref (rA G 0), .int (x1), .int (x2), .int (x3), .int (x4)] : List Value).toArray below meth c H locs 0 0 (MQ below (va_Qi (fun r u => (¬ (okR x2 4 ∧ okR x1 3) → r = nI 0 ∧ u = σ) ∧ ∀ k q, k < 3 → q < 4 → x1 = nI k → x2 = nI q → (k = 0 → r = nI 1 ∧ u = rsN σ (va_up (rN σ) q 1)) ∧ (k = 1 → r = nI 1 ∧ rSet σ q (rV σ 18) (rV σ 19) u) ∧ (k = 2 → (¬ (okR x3 8 ∧ okR x4 8) → r = nI 0 ∧ u = σ) ∧ ∀ a b, a < 8 → b < 8 → x3 = nI a → x4 = nI b → (onN (rMod 0) (rV σ a) (rV σ b) → r = nI 1 ∧ rSet σ q (rV σ a) (rV σ b) u) ∧ (¬ onN (rMod 0) (rV σ a) (rV σ b) → r = nI 0 ∧ ∃ V, rU σ V u ∧ (∀ r, r < 31 ∨ 37 < r → V r = rV σ r) ∧ ∀ r, V r < b26 ^ 10))) (fun u => rC G u) (rAA G)) ([.ref (rA G 0), .int (x1), .int (x2), .int (x3), .int (x4)] : List Value).toArray s 0 0 (rAA G)) (F0 m 46 ls []) := by
      intro H locs ls hw hl hn
      refine lv_iconst (v := nI 0) hx hb d_R_spot_46 (by decide) ?_
      refine z_iret (rZ _) hx hb hr hlocks σ hw ⟨fun h => absurd ⟨k0, k1⟩ h, fun k_ q_ w1 w2 e1 e2 => ?_⟩ d_R_spot_47
      have q_k_ : k_ = 2 := (nI_eq (by omega) (by omega)).mp (e1.symm.trans ex1)
      subst q_k_
      have q_q_ : q_ = q := (nI_eq (by omega) (by omega)).mp (e2.symm.trans ex2)
      subst q_q_
      refine ⟨fun h => absurd h (by decide), fun h => absurd h (by decide), fun _ => ⟨fun _ => ⟨rfl, rfl⟩, fun a b w3 w4 e3 e4 => absurd ⟨?_, ?_⟩ hn⟩⟩
      · rw [e3]; exact okR_of w3 (by decide)
      · rw [e4]; exact okR_of w4 (by decide)
    refine lv_iload_n hx hb d_R_spot_21 rfl (lv_at hl 3 rfl) ?_
    refine r_callsi (np := 1) (As := [.int (x3)]) (rest := []) ⟨hx, hb, hml, hown, ht⟩ hw (c_R_isRegister l G σ x3) ⟨km_R_139, ks_R_isRegister, kc_R_isRegister⟩ (by decide +kernel) ⟨by decide, by decide⟩ rfl rfl rfl rfl hl.1 rfl (Nat.le_of_ble_eq_true rfl) d_R_spot_22 ⟨Nat.le_refl _, Nat.le_refl _⟩ (fun r u H locs hp hw => ?_)
    obtain ⟨hpu, rfl⟩ := hp
    rw [hpu] at hw
    clear hpu
    refine n_eq0 (tgt := 46) hx hb d_R_spot_25 (by decide) (boolN_s _) (fun c3 => hno H locs ls hw hl (fun q => boolN_0 c3 q.1)) (fun c3 => ?_)
    refine lv_iload hx hb d_R_spot_28 (lv_at hl 4 rfl) ?_
    refine r_callsi (np := 1) (As := [.int (x4)]) (rest := []) ⟨hx, hb, hml, hown, ht⟩ hw (c_R_isRegister l G σ x4) ⟨km_R_139, ks_R_isRegister, kc_R_isRegister⟩ (by decide +kernel) ⟨by decide, by decide⟩ rfl rfl rfl rfl hl.1 rfl (Nat.le_of_ble_eq_true rfl) d_R_spot_30 ⟨Nat.le_refl _, Nat.le_refl _⟩ (fun r u H locs hp hw => ?_)
    obtain ⟨hpu, rfl⟩ := hp
    rw [hpu] at hw
    clear hpu
    refine n_eq0 (tgt := 46) hx hb d_R_spot_33 (by decide) (boolN_s _) (fun c4 => hno H locs ls hw hl (fun q => boolN_0 c4 q.2)) (fun c4 => ?_)
    have k3 := boolN_1 c3
    have k4 := boolN_1 c4
    clear hno
    obtain ⟨a, lt_a, ex3⟩ := k3.ex (by decide)
    obtain ⟨b, lt_b, ex4⟩ := k4.ex (by decide)
    have hl2 := hl
    rw [ex3, ex4] at hl2
    have hl : lv_has ls 5 [(0, .ref (rA G 0)), (1, .int (nI (2))), (2, .int (nI (q))), (3, .int (nI (a))), (4, .int (nI (b)))] := hl2
    clear hl2
    refine lv_aload_n hx hb d_R_spot_36 rfl (lv_at hl 0 rfl) ?_
    refine lv_iload_n hx hb d_R_spot_37 rfl (lv_at hl 3 rfl) ?_
    refine lv_iload hx hb d_R_spot_38 (lv_at hl 4 rfl) ?_
    refine r_calli (np := 2) (As := [.int (nI (a)), .int (nI (b))]) (rest := []) ⟨hx, hb, hml, hown, ht⟩ hw (c_R_isPoint l G σ hc.1 (by omega) (by omega) (by omega) (by omega) hc.2.1 hc.2.2.2.2) ⟨km_R_151, kv_R_isPoint, kx_R_isPoint, kc_R_isPoint⟩ (by decide +kernel) ⟨by decide, by decide⟩ rfl rfl rfl hl.1 rfl (Nat.le_of_ble_eq_true rfl) d_R_spot_40 ⟨Nat.le_refl _, Nat.le_refl _⟩ (fun r u1 H locs hp hw => ?_)
    obtain ⟨rfl, V1, hu1, hk1, hok1⟩ := hp
    refine n_ne0 (tgt := 48) hx hb d_R_spot_43 (by decide) (boolN_s _) (fun c5 => ?_) (fun c5 => ?_)
    · have c6 : onN (rMod 0) (rV σ a) (rV σ b) := boolN_1 c5
      refine lv_aload_n hx hb d_R_spot_48 rfl (lv_at hl 0 rfl) ?_
      refine r_get hx hb ht hown hw 4 (by decide) (ht _ kf_R_23) rfl d_R_spot_49 (fun _ h9 => h9) ?_
      refine lv_iload_n hx hb d_R_spot_52 rfl (lv_at hl 2 rfl) ?_
      refine lv_iload_n hx hb d_R_spot_53 rfl (lv_at hl 1 rfl) ?_
      refine n_ne0 (tgt := 61) hx hb d_R_spot_54 (by decide) (by decide) (fun _ => ?_) (fun h => absurd h (by decide))
      refine lv_iconst (v := nI 0) hx hb d_R_spot_61 (by decide) ?_
      refine r_zst hx hb hw lt_q (by decide) d_R_spot_62 (fun H locs hw => ?_)
      refine lv_iload_n hx hb d_R_spot_63 rfl (lv_at hl 1 rfl) ?_
      refine lv_if_le (tgt := 110) hx hb d_R_spot_64 (by decide) (fun h => absurd h (by decide)) (fun _ => ?_)
      obtain ⟨τ, hτ⟩ : ∃ τ, τ = rsN u1 (va_up (rN u1) q 0) := ⟨_, rfl⟩
      rw [← hτ] at hw
      have hτU : rU (rsN σ (va_up (rN σ) q 0)) V1 τ := by rw [hτ, hu1.N]; exact hu1.toN _
      refine lv_aload_n hx hb d_R_spot_67 rfl (lv_at hl 0 rfl) ?_
      refine lv_bipush (v := nI 10) hx hb d_R_spot_68 (by decide) ?_
      refine lv_iconst (v := nI 2) hx hb d_R_spot_70 (by decide) ?_
      refine lv_iload_n hx hb d_R_spot_71 rfl (lv_at hl 2 rfl) ?_
      refine lv_imul hx hb d_R_spot_72 ?_
      refine tp_i (y := nI (2 * q)) (pk_mul _ _) ?_
      refine lv_iadd hx hb d_R_spot_73 ?_
      refine tp_i (y := nI (10 + (2 * q))) (nI_add _ _) ?_
      refine lv_iload_n hx hb d_R_spot_74 rfl (lv_at hl 1 rfl) ?_
      refine lv_iconst (v := nI 1) hx hb d_R_spot_75 (by decide) ?_
      refine n_ne (tgt := 84) hx hb d_R_spot_76 (by decide) (by decide) (by decide) (fun _ => ?_) (fun h => absurd h (by decide))
      refine lv_iload_n hx hb d_R_spot_84 rfl (lv_at hl 3 rfl) ?_
      refine r_callv (np := 2) (As := [.int (nI (10 + (2 * q))), .int (nI (a))]) (rest := []) ⟨hx, hb, hml, hown, ht⟩ hw (c_R_copy l G τ (hτU.ok hok1) (by omega) (by omega) (by omega)) ⟨km_R_70, kv_R_copy, kx_R_copy, kc_R_copy⟩ (by decide +kernel) ⟨by decide, by decide⟩ rfl rfl rfl hl.1 rfl (Nat.le_of_ble_eq_true rfl) d_R_spot_85 ⟨Nat.le_refl _, Nat.le_refl _⟩ (fun ua H locs hp hw => ?_)
      obtain ⟨Va, hua, hta, hka, hoka⟩ := q_copy hτU hok1 hp
      refine lv_aload_n hx hb d_R_spot_88 rfl (lv_at hl 0 rfl) ?_
      refine lv_bipush (v := nI 11) hx hb d_R_spot_89 (by decide) ?_
      refine lv_iconst (v := nI 2) hx hb d_R_spot_91 (by decide) ?_
      refine lv_iload_n hx hb d_R_spot_92 rfl (lv_at hl 2 rfl) ?_
      refine lv_imul hx hb d_R_spot_93 ?_
      refine tp_i (y := nI (2 * q)) (pk_mul _ _) ?_
      refine lv_iadd hx hb d_R_spot_94 ?_
      refine tp_i (y := nI (11 + (2 * q))) (nI_add _ _) ?_
      refine lv_iload_n hx hb d_R_spot_95 rfl (lv_at hl 1 rfl) ?_
      refine lv_iconst (v := nI 1) hx hb d_R_spot_96 (by decide) ?_
      refine n_ne (tgt := 105) hx hb d_R_spot_97 (by decide) (by decide) (by decide) (fun _ => ?_) (fun h => absurd h (by decide))
      refine lv_iload hx hb d_R_spot_105 (lv_at hl 4 rfl) ?_
      refine r_callv (np := 2) (As := [.int (nI (11 + (2 * q))), .int (nI (b))]) (rest := []) ⟨hx, hb, hml, hown, ht⟩ hw (c_R_copy l G ua (hua.ok hoka) (by omega) (by omega) (by omega)) ⟨km_R_70, kv_R_copy, kx_R_copy, kc_R_copy⟩ (by decide +kernel) ⟨by decide, by decide⟩ rfl rfl rfl hl.1 rfl (Nat.le_of_ble_eq_true rfl) d_R_spot_107 ⟨Nat.le_refl _, Nat.le_refl _⟩ (fun ub H locs hp hw => ?_)
      obtain ⟨Vb, hub, htb, hkb, hokb⟩ := q_copy hua hoka hp
      refine lv_iconst (v := nI 1) hx hb d_R_spot_110 (by decide) ?_
      have hset : rSet σ q (rV σ a) (rV σ b) ub := by
        refine ⟨Vb, hub, ?_, ?_, fun r b1 b2 b3 => ?_, hokb⟩
        · exact (hkb _ (by omega)).trans (hta.trans (hk1 _ (by omega)))
        · exact htb.trans ((hka _ (by omega)).trans (hk1 _ (by omega)))
        · exact (hkb r b2).trans ((hka r b1).trans (hk1 _ (by omega)))
      refine z_iret (rZ _) hx hb hr hlocks ub hw ⟨fun h => absurd ⟨k0, k1⟩ h, fun k_ q_ w1 w2 e1 e2 => ?_⟩ d_R_spot_111
      have q_k_ : k_ = 2 := (nI_eq (by omega) (by omega)).mp (e1.symm.trans ex1)
      subst q_k_
      have q_q_ : q_ = q := (nI_eq (by omega) (by omega)).mp (e2.symm.trans ex2)
      subst q_q_
      refine ⟨fun h => absurd h (by decide), fun h => absurd h (by decide), fun _ => ⟨fun h => absurd ⟨k3, k4⟩ h, fun a_ b_ w3 w4 e3 e4 => ?_⟩⟩
      have q_a_ : a_ = a := (nI_eq (by omega) (by omega)).mp (e3.symm.trans ex3)
      subst q_a_
      have q_b_ : b_ = b := (nI_eq (by omega) (by omega)).mp (e4.symm.trans ex4)
      subst q_b_
      exact ⟨fun _ => ⟨rfl, hset⟩, fun h => absurd c6 h⟩
    · have c6 : ¬ onN (rMod 0) (rV σ a) (rV σ b) := boolN_0 c5
      refine lv_iconst (v := nI 0) hx hb d_R_spot_46 (by decide) ?_
      refine z_iret (rZ _) hx hb hr hlocks u1 hw ⟨fun h => absurd ⟨k0, k1⟩ h, fun k_ q_ w1 w2 e1 e2 => ?_⟩ d_R_spot_47
      have q_k_ : k_ = 2 := (nI_eq (by omega) (by omega)).mp (e1.symm.trans ex1)
      subst q_k_
      have q_q_ : q_ = q := (nI_eq (by omega) (by omega)).mp (e2.symm.trans ex2)
      subst q_q_
      refine ⟨fun h => absurd h (by decide), fun h => absurd h (by decide), fun _ => ⟨fun h => absurd ⟨k3, k4⟩ h, fun a_ b_ w3 w4 e3 e4 => ?_⟩⟩
      have q_a_ : a_ = a := (nI_eq (by omega) (by omega)).mp (e3.symm.trans ex3)
      subst q_a_
      have q_b_ : b_ = b := (nI_eq (by omega) (by omega)).mp (e4.symm.trans ex4)
      subst q_b_
      exact ⟨fun h => absurd h c6, fun _ => ⟨rfl, V1, hu1, hk1, hok1⟩⟩
