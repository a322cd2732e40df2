/-! what the reference answers: work -/
theorem le_lt {x : Int32} {k : Nat} (hk : k + 1 < 2 ^ 31) : x ≤ nI k ↔ ¬ nI (k + 1) ≤ x := by
  rw [Int32.le_iff_toInt_le, Int32.le_iff_toInt_le, nI_toInt (by omega), nI_toInt hk]
  omega
theorem gt_le {x : Int32} {k : Nat} (hk : k + 1 < 2 ^ 31) : nI k < x ↔ nI (k + 1) ≤ x := by
  rw [Int32.lt_iff_toInt_lt, Int32.le_iff_toInt_le, nI_toInt (by omega), nI_toInt hk]
  omega
def wres (k M a b : Nat) : Nat := if k = 0 then pp M a b else if k = 1 then ss M a b else if k = 2 then mm M a b else mm M a (b ^ (M - 2) % M)
set_option maxHeartbeats 4000000 in
set_option maxRecDepth 100000 in
theorem c_R_work (l : Launch) (G : rG) (σ : rS) (hc : rCon σ) (x1 x2 x3 x4 x5 : Int32) : Met l y_R_work (zW y_R_work b_R_work 6 (some .int)) (zr 5 126) (va_Pc [.ref (rA G 0), .int (x1), .int (x2), .int (x3), .int (x4), .int (x5)] (rC G σ)) (va_Qi (fun r u => (¬ (okR x2 8 ∧ okR x3 8 ∧ okR x4 8 ∧ okR x5 2 ∧ okR x1 4) → r = nI 0 ∧ u = σ) ∧ ∀ k a c d μ, k < 4 → a < 8 → c < 8 → d < 8 → μ < 2 → x1 = nI k → x2 = nI a → x3 = nI c → x4 = nI d → x5 = nI μ → (¬ (rV σ c < rMod μ ∧ rV σ d < rMod μ ∧ (k = 3 → rV σ d ≠ 0)) → r = nI 0 ∧ u = σ) ∧ ((rV σ c < rMod μ ∧ rV σ d < rMod μ ∧ (k = 3 → rV σ d ≠ 0)) → r = nI 1 ∧ ∃ V, rU σ V u ∧ V a = wres k (rMod μ) (rV σ c) (rV σ d) ∧ (∀ r, r ≠ a → r < 37 → V r = rV σ r) ∧ ∀ r, V r < b26 ^ 10)) (fun u => rC G u) (rAA G)) 0 0 (rAA G) := by
  refine Met.ofW (cc := b_R_work) (maxL := 6) (ret := (some .int)) (by decide) rfl ?_
  intro p e s m args below meth c s₁ B hml hv
  obtain ⟨rfl, hw⟩ := hv
  have hx := B.exec
  have hb := B.bytes
  have hr := B.returns
  have hts := atoms_spec (ws := zW y_R_work b_R_work 6 (some .int)) B.pre
  have ht : ∀ w ∈ zT, w.before ([.ref (rA G 0), .int (x1), .int (x2), .int (x3), .int (x4), .int (x5)] : List Value).toArray s = true := fun w h => hts w (List.mem_cons_of_mem _ h)
  have hown : s.vm.findClass R_R = some m.cls := findClass_of_methodNamed B.named
  have hlocks := B.notSynchronized
  have hl := lv_entry ([.ref (rA G 0), .int (x1), .int (x2), .int (x3), .int (x4), .int (x5)]) (n := 6) (Nat.le_of_ble_eq_true rfl)
  rw [lg_entry_eq]
  generalize (lg_sl ([.ref (rA G 0), .int (x1), .int (x2), .int (x3), .int (x4), .int (x5)]) ++ List.replicate (6 - (lg_sl ([.ref (rA G 0), .int (x1), .int (x2), .int (x3), .int (x4), .int (x5)])).length) Slot.unset).toArray = ls at hl ⊢
  have hl : lv_has ls 6 [(0, .ref (rA G 0)), (1, .int (x1)), (2, .int (x2)), (3, .int (x3)), (4, .int (x4)), (5, .int (x5))] := hl
  have hno : ∀ (H : Heap) (locs : List Loc) (ls : Array Slot), rH G σ s H locs → lv_has ls 6 [(0, .ref (rA G 0)), (1, .int (x1)), (2, .int (x2)), (3, .int (x3)), (4, .int (x4)), (5, .int (x5))] → ¬ (okR x2 8 ∧ okR x3 8 ∧ okR x4 8 ∧ okR x5 2 ∧ okR x1 4) → W p l e (headSpec (zW y_R_work b_R_work 6 (some .int)) (zr 5 126)).room s m ([.ref (rA G 0), .int (x1), .int (x2), .int (x3), .int (x4), .int (x5)] : List Value).toArray below meth c H locs 0 0 (MQ below (va_Qi (fun r u => (¬ (okR x2 8 ∧ okR x3 8 ∧ okR x4 8 ∧ okR x5 2 ∧ okR x1 4) → r = nI 0 ∧ u = σ) ∧ ∀ k a c d μ, k < 4 → a < 8 → c < 8 → d < 8 → μ < 2 → x1 = nI k → x2 = nI a → x3 = nI c → x4 = nI d → x5 = nI μ → (¬ (rV σ c < rMod μ ∧ rV σ d < rMod μ ∧ (k = 3 → rV σ d ≠ 0)) → r = nI 0 ∧ u = σ) ∧ ((rV σ c < rMod μ ∧ rV σ d < rMod μ ∧ (k = 3 → rV σ d ≠ 0)) → r = nI 1 ∧ ∃ V, rU σ V u ∧ V a = wres k (rMod μ) (rV σ c) (rV σ d) ∧ (∀ r, r ≠ a → r < 37 → V r = rV σ r) ∧ ∀ r, V r < b26 ^ 10)) (fun u => rC G u) (rAA G)) ([.ref (rA G 0), .int (x1), .int (x2), .int (x3), .int (x4), .int (x5)] : List Value).toArray s 0 0 (rAA G)) (F0 m 39 ls []) := by
    intro H locs ls hw hl hn
    refine lv_iconst (v := nI 0) hx hb d_R_work_39 (by decide) ?_
    refine z_iret (rZ _) hx hb hr hlocks σ hw ⟨fun _ => ⟨rfl, rfl⟩, fun k a c d μ w1 w2 w3 w4 w5 e1 e2 e3 e4 e5 => absurd ⟨?_, ?_, ?_, ?_, ?_⟩ hn⟩ d_R_work_40
    · rw [e2]; exact okR_of w2 (by decide)
    · rw [e3]; exact okR_of w3 (by decide)
    · rw [e4]; exact okR_of w4 (by decide)
    · rw [e5]; exact okR_of w5 (by decide)
    · rw [e1]; exact okR_of w1 (by decide)
  refine lv_iload_n hx hb d_R_work_0 rfl (lv_at hl 2 rfl) ?_
  refine r_callsi (np := 1) (As := [.int (x2)]) (rest := []) ⟨hx, hb, hml, hown, ht⟩ hw (c_R_isRegister l G σ x2) ⟨km_R_139, ks_R_isRegister, kc_R_isRegister⟩ (by decide +kernel) ⟨by decide, by decide⟩ rfl rfl rfl rfl hl.1 rfl (Nat.le_of_ble_eq_true rfl) d_R_work_1 ⟨Nat.le_refl _, Nat.le_refl _⟩ (fun r u H locs hp hw => ?_)
  obtain ⟨hpu, rfl⟩ := hp
  rw [hpu] at hw
  clear hpu
  refine n_eq0 (tgt := 39) hx hb d_R_work_4 (by decide) (boolN_s _) (fun c0 => hno H locs ls hw hl (fun q => boolN_0 c0 q.1)) (fun c0 => ?_)
  refine lv_iload_n hx hb d_R_work_7 rfl (lv_at hl 3 rfl) ?_
  refine r_callsi (np := 1) (As := [.int (x3)]) (rest := []) ⟨hx, hb, hml, hown, ht⟩ hw (c_R_isRegister l G σ x3) ⟨km_R_139, ks_R_isRegister, kc_R_isRegister⟩ (by decide +kernel) ⟨by decide, by decide⟩ rfl rfl rfl rfl hl.1 rfl (Nat.le_of_ble_eq_true rfl) d_R_work_8 ⟨Nat.le_refl _, Nat.le_refl _⟩ (fun r u H locs hp hw => ?_)
  obtain ⟨hpu, rfl⟩ := hp
  rw [hpu] at hw
  clear hpu
  refine n_eq0 (tgt := 39) hx hb d_R_work_11 (by decide) (boolN_s _) (fun c1 => hno H locs ls hw hl (fun q => boolN_0 c1 q.2.1)) (fun c1 => ?_)
  refine lv_iload hx hb d_R_work_14 (lv_at hl 4 rfl) ?_
  refine r_callsi (np := 1) (As := [.int (x4)]) (rest := []) ⟨hx, hb, hml, hown, ht⟩ hw (c_R_isRegister l G σ x4) ⟨km_R_139, ks_R_isRegister, kc_R_isRegister⟩ (by decide +kernel) ⟨by decide, by decide⟩ rfl rfl rfl rfl hl.1 rfl (Nat.le_of_ble_eq_true rfl) d_R_work_16 ⟨Nat.le_refl _, Nat.le_refl _⟩ (fun r u H locs hp hw => ?_)
  obtain ⟨hpu, rfl⟩ := hp
  rw [hpu] at hw
  clear hpu
  refine n_eq0 (tgt := 39) hx hb d_R_work_19 (by decide) (boolN_s _) (fun c2 => hno H locs ls hw hl (fun q => boolN_0 c2 q.2.2.1)) (fun c2 => ?_)
  refine lv_iload hx hb d_R_work_22 (lv_at hl 5 rfl) ?_
  refine r_callsi (np := 1) (As := [.int (x5)]) (rest := []) ⟨hx, hb, hml, hown, ht⟩ hw (c_R_isModulus l G σ x5) ⟨km_R_142, ks_R_isModulus, kc_R_isModulus⟩ (by decide +kernel) ⟨by decide, by decide⟩ rfl rfl rfl rfl hl.1 rfl (Nat.le_of_ble_eq_true rfl) d_R_work_24 ⟨Nat.le_refl _, Nat.le_refl _⟩ (fun r u H locs hp hw => ?_)
  obtain ⟨hpu, rfl⟩ := hp
  rw [hpu] at hw
  clear hpu
  refine n_eq0 (tgt := 39) hx hb d_R_work_27 (by decide) (boolN_s _) (fun c3 => hno H locs ls hw hl (fun q => boolN_0 c3 q.2.2.2.1)) (fun c3 => ?_)
  refine lv_iload_n hx hb d_R_work_30 rfl (lv_at hl 1 rfl) ?_
  refine lv_if_lt (tgt := 39) hx hb d_R_work_31 (by decide) (fun c4 => hno H locs ls hw hl (fun q => q.2.2.2.2.1 c4)) (fun c4 => ?_)
  refine lv_iload_n hx hb d_R_work_34 rfl (lv_at hl 1 rfl) ?_
  refine lv_iconst (v := nI 3) hx hb d_R_work_35 (by decide) ?_
  refine lv_icmp_le (tgt := 41) hx hb d_R_work_36 (by decide) (fun c5 => ?_) (fun c5 => hno H locs ls hw hl (fun q => c5 ((le_lt (by decide)).mpr q.2.2.2.2.2)))
  have k0 := boolN_1 c0
  have k1 := boolN_1 c1
  have k2 := boolN_1 c2
  have k3 := boolN_1 c3
  have k4 : okR x1 4 := ⟨c4, (le_lt (by decide)).mp c5⟩
  clear hno c0 c1 c2 c3
  obtain ⟨k, lt_k, ex1⟩ := k4.ex (by decide)
  obtain ⟨a, lt_a, ex2⟩ := k0.ex (by decide)
  obtain ⟨c9, lt_c9, ex3⟩ := k1.ex (by decide)
  obtain ⟨d, lt_d, ex4⟩ := k2.ex (by decide)
  obtain ⟨μ, lt_μ, ex5⟩ := k3.ex (by decide)
  have hl2 := hl
  rw [ex1, ex2, ex3, ex4, ex5] at hl2
  have hl : lv_has ls 6 [(0, .ref (rA G 0)), (1, .int (nI (k))), (2, .int (nI (a))), (3, .int (nI (c9))), (4, .int (nI (d))), (5, .int (nI (μ)))] := hl2
  clear hl2
  have hqm := hc.q lt_μ
  have bad : ∀ (H : Heap) (locs : List Loc) (ls : Array Slot), rH G σ s H locs → lv_has ls 6 [(0, .ref (rA G 0)), (1, .int (nI (k))), (2, .int (nI (a))), (3, .int (nI (c9))), (4, .int (nI (d))), (5, .int (nI (μ)))] → ¬ (rV σ c9 < rMod μ ∧ rV σ d < rMod μ ∧ (k = 3 → rV σ d ≠ 0)) → W p l e (headSpec (zW y_R_work b_R_work 6 (some .int)) (zr 5 126)).room s m ([.ref (rA G 0), .int (x1), .int (x2), .int (x3), .int (x4), .int (x5)] : List Value).toArray below meth c H locs 0 0 (MQ below (va_Qi (fun r u => (¬ (okR x2 8 ∧ okR x3 8 ∧ okR x4 8 ∧ okR x5 2 ∧ okR x1 4) → r = nI 0 ∧ u = σ) ∧ ∀ k a c d μ, k < 4 → a < 8 → c < 8 → d < 8 → μ < 2 → x1 = nI k → x2 = nI a → x3 = nI c → x4 = nI d → x5 = nI μ → (¬ (rV σ c < rMod μ ∧ rV σ d < rMod μ ∧ (k = 3 → rV σ d ≠ 0)) → r = nI 0 ∧ u = σ) ∧ ((rV σ c < rMod μ ∧ rV σ d < rMod μ ∧ (k = 3 → rV σ d ≠ 0)) → r = nI 1 ∧ ∃ V, rU σ V u ∧ V a = wres k (rMod μ) (rV σ c) (rV σ d) ∧ (∀ r, r ≠ a → r < 37 → V r = rV σ r) ∧ ∀ r, V r < b26 ^ 10)) (fun u => rC G u) (rAA G)) ([.ref (rA G 0), .int (x1), .int (x2), .int (x3), .int (x4), .int (x5)] : List Value).toArray s 0 0 (rAA G)) (F0 m 82 ls []) := by
    intro H locs ls hw hl hn
    refine lv_iconst (v := nI 0) hx hb d_R_work_82 (by decide) ?_
    refine z_iret (rZ _) hx hb hr hlocks σ hw ⟨fun h => absurd ⟨k0, k1, k2, k3, k4⟩ h, fun k_ a_ c_ d_ μ_ w1 w2 w3 w4 w5 e1 e2 e3 e4 e5 => ?_⟩ d_R_work_83
    have q_k_ : k_ = k := (nI_eq (by omega) (by omega)).mp (e1.symm.trans ex1)
    subst q_k_
    have q_a_ : a_ = a := (nI_eq (by omega) (by omega)).mp (e2.symm.trans ex2)
    subst q_a_
    have q_c_ : c_ = c9 := (nI_eq (by omega) (by omega)).mp (e3.symm.trans ex3)
    subst q_c_
    have q_d_ : d_ = d := (nI_eq (by omega) (by omega)).mp (e4.symm.trans ex4)
    subst q_d_
    have q_μ_ : μ_ = μ := (nI_eq (by omega) (by omega)).mp (e5.symm.trans ex5)
    subst q_μ_
    exact ⟨fun _ => ⟨rfl, rfl⟩, fun q => absurd q hn⟩
  have good : ∀ (V : Nat → Nat) (u : rS) (H : Heap) (locs : List Loc) (ls : Array Slot), (rV σ c9 < rMod μ ∧ rV σ d < rMod μ ∧ (k = 3 → rV σ d ≠ 0)) → rU σ V u → V a = wres k (rMod μ) (rV σ c9) (rV σ d) → (∀ r, r ≠ a → r < 37 → V r = rV σ r) → (∀ r, V r < b26 ^ 10) → rH G u s H locs → lv_has ls 6 [(0, .ref (rA G 0)), (1, .int (nI (k))), (2, .int (nI (a))), (3, .int (nI (c9))), (4, .int (nI (d))), (5, .int (nI (μ)))] → W p l e (headSpec (zW y_R_work b_R_work 6 (some .int)) (zr 5 126)).room s m ([.ref (rA G 0), .int (x1), .int (x2), .int (x3), .int (x4), .int (x5)] : List Value).toArray below meth c H locs 0 0 (MQ below (va_Qi (fun r u => (¬ (okR x2 8 ∧ okR x3 8 ∧ okR x4 8 ∧ okR x5 2 ∧ okR x1 4) → r = nI 0 ∧ u = σ) ∧ ∀ k a c d μ, k < 4 → a < 8 → c < 8 → d < 8 → μ < 2 → x1 = nI k → x2 = nI a → x3 = nI c → x4 = nI d → x5 = nI μ → (¬ (rV σ c < rMod μ ∧ rV σ d < rMod μ ∧ (k = 3 → rV σ d ≠ 0)) → r = nI 0 ∧ u = σ) ∧ ((rV σ c < rMod μ ∧ rV σ d < rMod μ ∧ (k = 3 → rV σ d ≠ 0)) → r = nI 1 ∧ ∃ V, rU σ V u ∧ V a = wres k (rMod μ) (rV σ c) (rV σ d) ∧ (∀ r, r ≠ a → r < 37 → V r = rV σ r) ∧ ∀ r, V r < b26 ^ 10)) (fun u => rC G u) (rAA G)) ([.ref (rA G 0), .int (x1), .int (x2), .int (x3), .int (x4), .int (x5)] : List Value).toArray s 0 0 (rAA G)) (F0 m 159 ls []) := by
    intro V u H locs ls hy hu hv hk ho hw hl
    refine lv_iconst (v := nI 1) hx hb d_R_work_159 (by decide) ?_
    refine z_iret (rZ _) hx hb hr hlocks u hw ⟨fun h => absurd ⟨k0, k1, k2, k3, k4⟩ h, fun k_ a_ c_ d_ μ_ w1 w2 w3 w4 w5 e1 e2 e3 e4 e5 => ?_⟩ d_R_work_160
    have q_k_ : k_ = k := (nI_eq (by omega) (by omega)).mp (e1.symm.trans ex1)
    subst q_k_
    have q_a_ : a_ = a := (nI_eq (by omega) (by omega)).mp (e2.symm.trans ex2)
    subst q_a_
    have q_c_ : c_ = c9 := (nI_eq (by omega) (by omega)).mp (e3.symm.trans ex3)
    subst q_c_
    have q_d_ : d_ = d := (nI_eq (by omega) (by omega)).mp (e4.symm.trans ex4)
    subst q_d_
    have q_μ_ : μ_ = μ := (nI_eq (by omega) (by omega)).mp (e5.symm.trans ex5)
    subst q_μ_
    exact ⟨fun q => absurd hy q, fun _ => ⟨rfl, V, hu, hv, hk, ho⟩⟩
  refine lv_aload_n hx hb d_R_work_41 rfl (lv_at hl 0 rfl) ?_
  refine lv_iload_n hx hb d_R_work_42 rfl (lv_at hl 3 rfl) ?_
  refine lv_bipush (v := nI 8) hx hb d_R_work_43 (by decide) ?_
  refine lv_iload hx hb d_R_work_45 (lv_at hl 5 rfl) ?_
  refine lv_iadd hx hb d_R_work_47 ?_
  refine tp_i (y := nI (8 + μ)) (nI_add _ _) ?_
  refine r_calli (np := 2) (As := [.int (nI (c9)), .int (nI (8 + μ))]) (rest := []) ⟨hx, hb, hml, hown, ht⟩ hw (c_R_compare l G σ hc.1 (by omega) (by omega)) ⟨km_R_78, kv_R_compare, kx_R_compare, kc_R_compare⟩ (by decide +kernel) ⟨by decide, by decide⟩ rfl rfl rfl hl.1 rfl (Nat.le_of_ble_eq_true rfl) d_R_work_48 ⟨Nat.le_refl _, Nat.le_refl _⟩ (fun r u H locs hp hw => ?_)
  obtain ⟨hpu, hcc⟩ := hp
  rw [hpu] at hw
  rw [hqm] at hcc
  refine lv_if_ge (tgt := 82) hx hb d_R_work_51 (by decide) (fun c6 => bad H locs ls hw hl (fun q => absurd ((cmpN_lt _ _).mpr q.1) (by rw [← hcc]; exact Int32.not_lt.mpr c6))) (fun c6 => ?_)
  have l1 : rV σ c9 < rMod μ := (cmpN_lt _ _).mp (by rw [← hcc]; exact Int32.not_le.mp c6)
  clear hcc c6 hpu
  refine lv_aload_n hx hb d_R_work_54 rfl (lv_at hl 0 rfl) ?_
  refine lv_iload hx hb d_R_work_55 (lv_at hl 4 rfl) ?_
  refine lv_bipush (v := nI 8) hx hb d_R_work_57 (by decide) ?_
  refine lv_iload hx hb d_R_work_59 (lv_at hl 5 rfl) ?_
  refine lv_iadd hx hb d_R_work_61 ?_
  refine tp_i (y := nI (8 + μ)) (nI_add _ _) ?_
  refine r_calli (np := 2) (As := [.int (nI (d)), .int (nI (8 + μ))]) (rest := []) ⟨hx, hb, hml, hown, ht⟩ hw (c_R_compare l G σ hc.1 (by omega) (by omega)) ⟨km_R_78, kv_R_compare, kx_R_compare, kc_R_compare⟩ (by decide +kernel) ⟨by decide, by decide⟩ rfl rfl rfl hl.1 rfl (Nat.le_of_ble_eq_true rfl) d_R_work_62 ⟨Nat.le_refl _, Nat.le_refl _⟩ (fun r u H locs hp hw => ?_)
  obtain ⟨hpu, hcc⟩ := hp
  rw [hpu] at hw
  rw [hqm] at hcc
  refine lv_if_ge (tgt := 82) hx hb d_R_work_65 (by decide) (fun c6 => bad H locs ls hw hl (fun q => absurd ((cmpN_lt _ _).mpr q.2.1) (by rw [← hcc]; exact Int32.not_lt.mpr c6))) (fun c6 => ?_)
  have l2 : rV σ d < rMod μ := (cmpN_lt _ _).mp (by rw [← hcc]; exact Int32.not_le.mp c6)
  clear hcc c6 hpu
  have run : ∀ (H : Heap) (locs : List Loc) (ls : Array Slot), rH G σ s H locs → lv_has ls 6 [(0, .ref (rA G 0)), (1, .int (nI (k))), (2, .int (nI (a))), (3, .int (nI (c9))), (4, .int (nI (d))), (5, .int (nI (μ)))] → (k = 3 → rV σ d ≠ 0) → W p l e (headSpec (zW y_R_work b_R_work 6 (some .int)) (zr 5 126)).room s m ([.ref (rA G 0), .int (x1), .int (x2), .int (x3), .int (x4), .int (x5)] : List Value).toArray below meth c H locs 0 0 (MQ below (va_Qi (fun r u => (¬ (okR x2 8 ∧ okR x3 8 ∧ okR x4 8 ∧ okR x5 2 ∧ okR x1 4) → r = nI 0 ∧ u = σ) ∧ ∀ k a c d μ, k < 4 → a < 8 → c < 8 → d < 8 → μ < 2 → x1 = nI k → x2 = nI a → x3 = nI c → x4 = nI d → x5 = nI μ → (¬ (rV σ c < rMod μ ∧ rV σ d < rMod μ ∧ (k = 3 → rV σ d ≠ 0)) → r = nI 0 ∧ u = σ) ∧ ((rV σ c < rMod μ ∧ rV σ d < rMod μ ∧ (k = 3 → rV σ d ≠ 0)) → r = nI 1 ∧ ∃ V, rU σ V u ∧ V a = wres k (rMod μ) (rV σ c) (rV σ d) ∧ (∀ r, r ≠ a → r < 37 → V r = rV σ r) ∧ ∀ r, V r < b26 ^ 10)) (fun u => rC G u) (rAA G)) ([.ref (rA G 0), .int (x1), .int (x2), .int (x3), .int (x4), .int (x5)] : List Value).toArray s 0 0 (rAA G)) (F0 m 84 ls []) := by
    intro H locs ls hw hl h3
    have hy : (rV σ c9 < rMod μ ∧ rV σ d < rMod μ ∧ (k = 3 → rV σ d ≠ 0)) := ⟨l1, l2, h3⟩
    refine lv_iload_n hx hb d_R_work_84 rfl (lv_at hl 1 rfl) ?_
    refine n_ne0 (tgt := 104) hx hb d_R_work_85 (by decide) (by omega) (fun c7 => ?_) (fun c7 => ?_)
    · refine lv_iload_n hx hb d_R_work_104 rfl (lv_at hl 1 rfl) ?_
      refine lv_iconst (v := nI 1) hx hb d_R_work_105 (by decide) ?_
      refine n_ne (tgt := 125) hx hb d_R_work_106 (by decide) (by omega) (by decide) (fun c8 => ?_) (fun c8 => ?_)
      · refine lv_iload_n hx hb d_R_work_125 rfl (lv_at hl 1 rfl) ?_
        refine lv_iconst (v := nI 2) hx hb d_R_work_126 (by decide) ?_
        refine n_ne (tgt := 146) hx hb d_R_work_127 (by decide) (by omega) (by decide) (fun c9_ => ?_) (fun c9_ => ?_)
        · refine lv_aload_n hx hb d_R_work_146 rfl (lv_at hl 0 rfl) ?_
          refine lv_iload_n hx hb d_R_work_147 rfl (lv_at hl 2 rfl) ?_
          refine lv_iload_n hx hb d_R_work_148 rfl (lv_at hl 3 rfl) ?_
          refine lv_iload hx hb d_R_work_149 (lv_at hl 4 rfl) ?_
          refine lv_bipush (v := nI 8) hx hb d_R_work_151 (by decide) ?_
          refine lv_iload hx hb d_R_work_153 (lv_at hl 5 rfl) ?_
          refine lv_iadd hx hb d_R_work_155 ?_
          refine tp_i (y := nI (8 + μ)) (nI_add _ _) ?_
          refine r_callv (np := 4) (As := [.int (nI (a)), .int (nI (c9)), .int (nI (d)), .int (nI (8 + μ))]) (rest := []) ⟨hx, hb, hml, hown, ht⟩ hw (c_R_divide l G σ hc.1 lt_μ (by omega) (by omega) (by omega) (by omega) (by omega) (by omega) (by omega) hqm hc.2.2.2.1) ⟨km_R_121, kv_R_divide, kx_R_divide, kc_R_divide⟩ (by decide +kernel) ⟨by decide, by decide⟩ rfl rfl rfl hl.1 rfl (Nat.le_of_ble_eq_true rfl) d_R_work_156 ⟨Nat.le_refl _, Nat.le_refl _⟩ (fun u1 H locs hp hw => ?_)
          obtain ⟨V, hu, hv, hk, ho⟩ := hp
          exact good V u1 H locs ls hy hu (by rw [hv, wres, if_neg c7, if_neg c8, if_neg c9_]) (fun r b1 b2 => hk r b1 (by omega) (by omega) (by omega) (by omega) (by omega)) ho hw hl
        · refine lv_aload_n hx hb d_R_work_130 rfl (lv_at hl 0 rfl) ?_
          refine lv_iload_n hx hb d_R_work_131 rfl (lv_at hl 2 rfl) ?_
          refine lv_iload_n hx hb d_R_work_132 rfl (lv_at hl 3 rfl) ?_
          refine lv_iload hx hb d_R_work_133 (lv_at hl 4 rfl) ?_
          refine lv_bipush (v := nI 8) hx hb d_R_work_135 (by decide) ?_
          refine lv_iload hx hb d_R_work_137 (lv_at hl 5 rfl) ?_
          refine lv_iadd hx hb d_R_work_139 ?_
          refine tp_i (y := nI (8 + μ)) (nI_add _ _) ?_
          refine r_callv (np := 4) (As := [.int (nI (a)), .int (nI (c9)), .int (nI (d)), .int (nI (8 + μ))]) (rest := []) ⟨hx, hb, hml, hown, ht⟩ hw (c_R_multiply l G σ hc.1 lt_μ (by omega) (by omega) (by omega) (by omega) hqm) ⟨km_R_96, kv_R_multiply, kx_R_multiply, kc_R_multiply⟩ (by decide +kernel) ⟨by decide, by decide⟩ rfl rfl rfl hl.1 rfl (Nat.le_of_ble_eq_true rfl) d_R_work_140 ⟨Nat.le_refl _, Nat.le_refl _⟩ (fun u1 H locs hp hw => ?_)
          obtain ⟨V, hu, hv, hk, ho⟩ := q_mul lt_μ (rU.rfl' σ) hc.1 hp
          refine lv_goto (tgt := 159) hx hb d_R_work_143 (by decide) ?_
          exact good V u1 H locs ls hy hu (by rw [hv, wres, if_neg c7, if_neg c8, if_pos c9_]) (fun r b1 b2 => hk r b1) ho hw hl
      · refine lv_aload_n hx hb d_R_work_109 rfl (lv_at hl 0 rfl) ?_
        refine lv_iload_n hx hb d_R_work_110 rfl (lv_at hl 2 rfl) ?_
        refine lv_iload_n hx hb d_R_work_111 rfl (lv_at hl 3 rfl) ?_
        refine lv_iload hx hb d_R_work_112 (lv_at hl 4 rfl) ?_
        refine lv_bipush (v := nI 8) hx hb d_R_work_114 (by decide) ?_
        refine lv_iload hx hb d_R_work_116 (lv_at hl 5 rfl) ?_
        refine lv_iadd hx hb d_R_work_118 ?_
        refine tp_i (y := nI (8 + μ)) (nI_add _ _) ?_
        refine r_callv (np := 4) (As := [.int (nI (a)), .int (nI (c9)), .int (nI (d)), .int (nI (8 + μ))]) (rest := []) ⟨hx, hb, hml, hown, ht⟩ hw (c_R_minus l G σ hc.1 (by omega) (by omega) (by omega) (by omega) (by omega) (by omega) (by omega) (by rw [hqm]; exact rMod_le lt_μ) (by rw [hqm]; exact l1) (by rw [hqm]; exact l2)) ⟨km_R_112, kv_R_minus, kx_R_minus, kc_R_minus⟩ (by decide +kernel) ⟨by decide, by decide⟩ rfl rfl rfl hl.1 rfl (Nat.le_of_ble_eq_true rfl) d_R_work_119 ⟨Nat.le_refl _, Nat.le_refl _⟩ (fun u1 H locs hp hw => ?_)
        obtain ⟨V, hu, hv, hk, ho⟩ := q_minus (rU.rfl' σ) hc.1 (by rw [hqm]; exact rMod_pos lt_μ) (by rw [hqm]; exact rMod_le lt_μ) hp
        refine lv_goto (tgt := 159) hx hb d_R_work_122 (by decide) ?_
        exact good V u1 H locs ls hy hu (by rw [hv, hqm, wres, if_neg c7, if_pos c8]) (fun r b1 b2 => hk r b1 (by omega)) ho hw hl
    · refine lv_aload_n hx hb d_R_work_88 rfl (lv_at hl 0 rfl) ?_
      refine lv_iload_n hx hb d_R_work_89 rfl (lv_at hl 2 rfl) ?_
      refine lv_iload_n hx hb d_R_work_90 rfl (lv_at hl 3 rfl) ?_
      refine lv_iload hx hb d_R_work_91 (lv_at hl 4 rfl) ?_
      refine lv_bipush (v := nI 8) hx hb d_R_work_93 (by decide) ?_
      refine lv_iload hx hb d_R_work_95 (lv_at hl 5 rfl) ?_
      refine lv_iadd hx hb d_R_work_97 ?_
      refine tp_i (y := nI (8 + μ)) (nI_add _ _) ?_
      refine r_callv (np := 4) (As := [.int (nI (a)), .int (nI (c9)), .int (nI (d)), .int (nI (8 + μ))]) (rest := []) ⟨hx, hb, hml, hown, ht⟩ hw (c_R_plus l G σ hc.1 (by omega) (by omega) (by omega) (by omega) (by rw [hqm]; exact rMod_le lt_μ) (by rw [hqm]; exact l1) (by rw [hqm]; exact l2)) ⟨km_R_124, kv_R_plus, kx_R_plus, kc_R_plus⟩ (by decide +kernel) ⟨by decide, by decide⟩ rfl rfl rfl hl.1 rfl (Nat.le_of_ble_eq_true rfl) d_R_work_98 ⟨Nat.le_refl _, Nat.le_refl _⟩ (fun u1 H locs hp hw => ?_)
      obtain ⟨V, hu, hv, hk, ho⟩ := q_plus (rU.rfl' σ) hc.1 (by rw [hqm]; exact rMod_pos lt_μ) (by rw [hqm]; exact rMod_le lt_μ) hp
      refine lv_goto (tgt := 159) hx hb d_R_work_101 (by decide) ?_
      exact good V u1 H locs ls hy hu (by rw [hv, hqm, wres, if_pos c7]) (fun r b1 b2 => hk r b1 (by omega)) ho hw hl
  refine lv_iload_n hx hb d_R_work_68 rfl (lv_at hl 1 rfl) ?_
  refine lv_iconst (v := nI 3) hx hb d_R_work_69 (by decide) ?_
  refine n_ne (tgt := 84) hx hb d_R_work_70 (by decide) (by omega) (by decide) (fun c7 => run H locs ls hw hl (fun q => absurd q c7)) (fun c7 => ?_)
  refine lv_aload_n hx hb d_R_work_73 rfl (lv_at hl 0 rfl) ?_
  refine lv_iload hx hb d_R_work_74 (lv_at hl 4 rfl) ?_
  refine r_calli (np := 1) (As := [.int (nI (d))]) (rest := []) ⟨hx, hb, hml, hown, ht⟩ hw (c_R_isNothing l G σ hc.1 (by omega)) ⟨km_R_115, kv_R_isNothing, kx_R_isNothing, kc_R_isNothing⟩ (by decide +kernel) ⟨by decide, by decide⟩ rfl rfl rfl hl.1 rfl (Nat.le_of_ble_eq_true rfl) d_R_work_76 ⟨Nat.le_refl _, Nat.le_refl _⟩ (fun r u H locs hp hw => ?_)
  obtain ⟨hpu, rfl⟩ := hp
  rw [hpu] at hw
  refine n_eq0 (tgt := 84) hx hb d_R_work_79 (by decide) (boolN_s _) (fun c8 => run H locs ls hw hl (fun _ => boolN_0 c8)) (fun c8 => bad H locs ls hw hl (fun q => q.2.2 c7 (boolN_1 c8)))
