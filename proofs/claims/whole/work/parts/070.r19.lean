/-! what the reference answers: fits -/
def fU1 (z s : Nat) : Nat := mm (rMod 1) (mm (rMod 1) z 1) (s ^ (rMod 1 - 2) % rMod 1)
def fU2 (r s : Nat) : Nat := mm (rMod 1) r (s ^ (rMod 1 - 2) % rMod 1)
def fA (σ : rS) (u1 : Nat) : Nat × Nat × Nat := mrun (rMod 0) (rV σ 18, rV σ 19, 1) (rV σ 25, rV σ 26, 0) u1 256
def fB (σ : rS) (q u1 u2 : Nat) : Nat × Nat × Nat := mrun (rMod 0) (rPt σ q) ((fA σ u1).1, (fA σ u1).2.1, 0) u2 256
def fJ (σ : rS) (q u1 u2 : Nat) : Nat × Nat × Nat := jn (rMod 0) (fB σ q u1 u2).1 (fB σ q u1 u2).2.1 (fB σ q u1 u2).2.2 (fA σ u1).1 (fA σ u1).2.1 (fA σ u1).2.2
abbrev fitsR (σ : rS) (q r s z : Nat) : Prop := (fJ σ q (fU1 z s) (fU2 r s)).2.2 ≠ 0 ∧ mm (rMod 1) (mm (rMod 0) (fJ σ q (fU1 z s) (fU2 r s)).1 ((fJ σ q (fU1 z s) (fU2 r s)).2.2 ^ (rMod 0 - 2) % rMod 0)) 1 = r
abbrev badR (σ : rS) (q r s : Nat) : Prop := rN σ q ≠ 0 ∨ r = 0 ∨ s = 0 ∨ ¬ r < rMod 1 ∨ ¬ s < rMod 1
set_option maxHeartbeats 4000000 in
set_option maxRecDepth 100000 in
theorem c_R_fits (l : Launch) (G : rG) (σ : rS) (hf : rFine σ) (hb18 : rV σ 18 < rMod 0) (hb19 : rV σ 19 < rMod 0) (x1 x2 x3 x4 : Int32) : Met l y_R_fits (zW y_R_fits b_R_fits 5 (some .int)) (zr 6 144) (va_Pc [.ref (rA G 0), .int (x1), .int (x2), .int (x3), .int (x4)] (rC G σ)) (va_Qi (fun r u => (¬ (okR x1 4 ∧ okR x2 8 ∧ okR x3 8 ∧ okR x4 8) → r = -1 ∧ u = σ) ∧ ∀ q a b d, q < 4 → a < 8 → b < 8 → d < 8 → x1 = nI q → x2 = nI a → x3 = nI b → x4 = nI d → (badR σ q (rV σ a) (rV σ b) → r = nI 0 ∧ u = σ) ∧ (¬ badR σ q (rV σ a) (rV σ b) → r = nI (boolN (fitsR σ q (rV σ a) (rV σ b) (rV σ d))) ∧ ∃ V, rU σ V u ∧ (∀ r, r < 22 → V r = rV σ r) ∧ (∀ r, 22 ≤ r → r < 31 → V r < rMod 0) ∧ ∀ r, V r < b26 ^ 10)) (fun u => rC G u) (rAA G)) 0 0 (rAA G) := by
  refine Met.ofW (cc := b_R_fits) (maxL := 5) (ret := (some .int)) (by decide) rfl ?_
  intro p e s m args below meth c s₁ B hml hv
  obtain ⟨rfl, hw⟩ := hv
  have hx := B.exec
  have hb := B.bytes
  have hr := B.returns
  have hts := atoms_spec (ws := zW y_R_fits b_R_fits 5 (some .int)) B.pre
  have ht : ∀ w ∈ zT, w.before ([.ref (rA G 0), .int (x1), .int (x2), .int (x3), .int (x4)] : List Value).toArray s = true := fun w h => hts w (List.mem_cons_of_mem _ h)
  have hown : s.vm.findClass R_R = some m.cls := findClass_of_methodNamed B.named
  have hlocks := B.notSynchronized
  have hl := lv_entry ([.ref (rA G 0), .int (x1), .int (x2), .int (x3), .int (x4)]) (n := 5) (Nat.le_of_ble_eq_true rfl)
  rw [lg_entry_eq]
  generalize (lg_sl ([.ref (rA G 0), .int (x1), .int (x2), .int (x3), .int (x4)]) ++ List.replicate (5 - (lg_sl ([.ref (rA G 0), .int (x1), .int (x2), .int (x3), .int (x4)])).length) Slot.unset).toArray = ls at hl ⊢
  have hl : lv_has ls 5 [(0, .ref (rA G 0)), (1, .int (x1)), (2, .int (x2)), (3, .int (x3)), (4, .int (x4))] := hl
  have hno : ∀ (H : Heap) (locs : List Loc) (ls : Array Slot), rH G σ s H locs → lv_has ls 5 [(0, .ref (rA G 0)), (1, .int (x1)), (2, .int (x2)), (3, .int (x3)), (4, .int (x4))] → ¬ (okR x1 4 ∧ okR x2 8 ∧ okR x3 8 ∧ okR x4 8) → W p l e (headSpec (zW y_R_fits b_R_fits 5 (some .int)) (zr 6 144)).room s m ([.ref (rA G 0), .int (x1), .int (x2), .int (x3), .int (x4)] : List Value).toArray below meth c H locs 0 0 (MQ below (va_Qi (fun r u => (¬ (okR x1 4 ∧ okR x2 8 ∧ okR x3 8 ∧ okR x4 8) → r = -1 ∧ u = σ) ∧ ∀ q a b d, q < 4 → a < 8 → b < 8 → d < 8 → x1 = nI q → x2 = nI a → x3 = nI b → x4 = nI d → (badR σ q (rV σ a) (rV σ b) → r = nI 0 ∧ u = σ) ∧ (¬ badR σ q (rV σ a) (rV σ b) → r = nI (boolN (fitsR σ q (rV σ a) (rV σ b) (rV σ d))) ∧ ∃ V, rU σ V u ∧ (∀ r, r < 22 → V r = rV σ r) ∧ (∀ r, 22 ≤ r → r < 31 → V r < rMod 0) ∧ ∀ r, V r < b26 ^ 10)) (fun u => rC G u) (rAA G)) ([.ref (rA G 0), .int (x1), .int (x2), .int (x3), .int (x4)] : List Value).toArray s 0 0 (rAA G)) (F0 m 29 ls []) := by
    intro H locs ls hw hl hn
    refine lv_iconst (v := -1) hx hb d_R_fits_29 (by decide) ?_
    refine z_iret (rZ _) hx hb hr hlocks σ hw ⟨fun _ => ⟨rfl, rfl⟩, fun q a b d w1 w2 w3 w4 e1 e2 e3 e4 => absurd ⟨?_, ?_, ?_, ?_⟩ hn⟩ d_R_fits_30
    · rw [e1]; exact okR_of w1 (by decide)
    · rw [e2]; exact okR_of w2 (by decide)
    · rw [e3]; exact okR_of w3 (by decide)
    · rw [e4]; exact okR_of w4 (by decide)
  refine lv_iload_n hx hb d_R_fits_0 rfl (lv_at hl 1 rfl) ?_
  refine r_callsi (np := 1) (As := [.int (x1)]) (rest := []) ⟨hx, hb, hml, hown, ht⟩ hw (c_R_isSpot l G σ x1) ⟨km_R_148, ks_R_isSpot, kc_R_isSpot⟩ (by decide +kernel) ⟨by decide, by decide⟩ rfl rfl rfl rfl hl.1 rfl (Nat.le_of_ble_eq_true rfl) d_R_fits_1 ⟨Nat.le_refl _, Nat.le_refl _⟩ (fun r u H locs hp hw => ?_)
  obtain ⟨hpu, rfl⟩ := hp
  rw [hpu] at hw
  clear hpu
  refine n_eq0 (tgt := 29) hx hb d_R_fits_4 (by decide) (boolN_s _) (fun c0 => hno H locs ls hw hl (fun q => boolN_0 c0 q.1)) (fun c0 => ?_)
  refine lv_iload_n hx hb d_R_fits_7 rfl (lv_at hl 2 rfl) ?_
  refine r_callsi (np := 1) (As := [.int (x2)]) (rest := []) ⟨hx, hb, hml, hown, ht⟩ hw (c_R_isRegister l G σ x2) ⟨km_R_139, ks_R_isRegister, kc_R_isRegister⟩ (by decide +kernel) ⟨by decide, by decide⟩ rfl rfl rfl rfl hl.1 rfl (Nat.le_of_ble_eq_true rfl) d_R_fits_8 ⟨Nat.le_refl _, Nat.le_refl _⟩ (fun r u H locs hp hw => ?_)
  obtain ⟨hpu, rfl⟩ := hp
  rw [hpu] at hw
  clear hpu
  refine n_eq0 (tgt := 29) hx hb d_R_fits_11 (by decide) (boolN_s _) (fun c1 => hno H locs ls hw hl (fun q => boolN_0 c1 q.2.1)) (fun c1 => ?_)
  refine lv_iload_n hx hb d_R_fits_14 rfl (lv_at hl 3 rfl) ?_
  refine r_callsi (np := 1) (As := [.int (x3)]) (rest := []) ⟨hx, hb, hml, hown, ht⟩ hw (c_R_isRegister l G σ x3) ⟨km_R_139, ks_R_isRegister, kc_R_isRegister⟩ (by decide +kernel) ⟨by decide, by decide⟩ rfl rfl rfl rfl hl.1 rfl (Nat.le_of_ble_eq_true rfl) d_R_fits_15 ⟨Nat.le_refl _, Nat.le_refl _⟩ (fun r u H locs hp hw => ?_)
  obtain ⟨hpu, rfl⟩ := hp
  rw [hpu] at hw
  clear hpu
  refine n_eq0 (tgt := 29) hx hb d_R_fits_18 (by decide) (boolN_s _) (fun c2 => hno H locs ls hw hl (fun q => boolN_0 c2 q.2.2.1)) (fun c2 => ?_)
  refine lv_iload hx hb d_R_fits_21 (lv_at hl 4 rfl) ?_
  refine r_callsi (np := 1) (As := [.int (x4)]) (rest := []) ⟨hx, hb, hml, hown, ht⟩ hw (c_R_isRegister l G σ x4) ⟨km_R_139, ks_R_isRegister, kc_R_isRegister⟩ (by decide +kernel) ⟨by decide, by decide⟩ rfl rfl rfl rfl hl.1 rfl (Nat.le_of_ble_eq_true rfl) d_R_fits_23 ⟨Nat.le_refl _, Nat.le_refl _⟩ (fun r u H locs hp hw => ?_)
  obtain ⟨hpu, rfl⟩ := hp
  rw [hpu] at hw
  clear hpu
  refine n_ne0 (tgt := 31) hx hb d_R_fits_26 (by decide) (boolN_s _) (fun c3 => ?_) (fun c3 => hno H locs ls hw hl (fun q => boolN_0 c3 q.2.2.2))
  have k0 := boolN_1 c0
  have k1 := boolN_1 c1
  have k2 := boolN_1 c2
  have k3 := boolN_1 c3
  clear hno c0 c1 c2 c3
  obtain ⟨q, lt_q, ex1⟩ := k0.ex (by decide)
  obtain ⟨a, lt_a, ex2⟩ := k1.ex (by decide)
  obtain ⟨b, lt_b, ex3⟩ := k2.ex (by decide)
  obtain ⟨d, lt_d, ex4⟩ := k3.ex (by decide)
  have hl2 := hl
  rw [ex1, ex2, ex3, ex4] at hl2
  have hl : lv_has ls 5 [(0, .ref (rA G 0)), (1, .int (nI (q))), (2, .int (nI (a))), (3, .int (nI (b))), (4, .int (nI (d)))] := hl2
  clear hl2
  obtain ⟨hc, hpts, hN2, hsp⟩ := id hf
  have qn := hN2 q lt_q
  have bad : ∀ (H : Heap) (locs : List Loc) (ls : Array Slot), rH G σ s H locs → lv_has ls 5 [(0, .ref (rA G 0)), (1, .int (nI (q))), (2, .int (nI (a))), (3, .int (nI (b))), (4, .int (nI (d)))] → badR σ q (rV σ a) (rV σ b) → W p l e (headSpec (zW y_R_fits b_R_fits 5 (some .int)) (zr 6 144)).room s m ([.ref (rA G 0), .int (x1), .int (x2), .int (x3), .int (x4)] : List Value).toArray below meth c H locs 0 0 (MQ below (va_Qi (fun r u => (¬ (okR x1 4 ∧ okR x2 8 ∧ okR x3 8 ∧ okR x4 8) → r = -1 ∧ u = σ) ∧ ∀ q a b d, q < 4 → a < 8 → b < 8 → d < 8 → x1 = nI q → x2 = nI a → x3 = nI b → x4 = nI d → (badR σ q (rV σ a) (rV σ b) → r = nI 0 ∧ u = σ) ∧ (¬ badR σ q (rV σ a) (rV σ b) → r = nI (boolN (fitsR σ q (rV σ a) (rV σ b) (rV σ d))) ∧ ∃ V, rU σ V u ∧ (∀ r, r < 22 → V r = rV σ r) ∧ (∀ r, 22 ≤ r → r < 31 → V r < rMod 0) ∧ ∀ r, V r < b26 ^ 10)) (fun u => rC G u) (rAA G)) ([.ref (rA G 0), .int (x1), .int (x2), .int (x3), .int (x4)] : List Value).toArray s 0 0 (rAA G)) (F0 m 76 ls []) := by
    intro H locs ls hw hl hn
    refine lv_iconst (v := nI 0) hx hb d_R_fits_76 (by decide) ?_
    refine z_iret (rZ _) hx hb hr hlocks σ hw ⟨fun h => absurd ⟨k0, k1, k2, k3⟩ h, fun q_ a_ b_ d_ w1 w2 w3 w4 e1 e2 e3 e4 => ?_⟩ d_R_fits_77
    have q_q_ : q_ = q := (nI_eq (by omega) (by omega)).mp (e1.symm.trans ex1)
    subst q_q_
    have q_a_ : a_ = a := (nI_eq (by omega) (by omega)).mp (e2.symm.trans ex2)
    subst q_a_
    have q_b_ : b_ = b := (nI_eq (by omega) (by omega)).mp (e3.symm.trans ex3)
    subst q_b_
    have q_d_ : d_ = d := (nI_eq (by omega) (by omega)).mp (e4.symm.trans ex4)
    subst q_d_
    exact ⟨fun _ => ⟨rfl, rfl⟩, fun h => absurd hn h⟩
  refine lv_aload_n hx hb d_R_fits_31 rfl (lv_at hl 0 rfl) ?_
  refine r_get hx hb ht hown hw 4 (by decide) (ht _ kf_R_23) rfl d_R_fits_32 (fun _ h9 => h9) ?_
  refine lv_iload_n hx hb d_R_fits_35 rfl (lv_at hl 1 rfl) ?_
  refine r_zld hx hb hw lt_q d_R_fits_36 ?_
  refine n_ne0 (tgt := 76) hx hb d_R_fits_37 (by decide) (by omega) (fun c4 => bad H locs ls hw hl (Or.inl c4)) (fun c4 => ?_)
  refine lv_aload_n hx hb d_R_fits_40 rfl (lv_at hl 0 rfl) ?_
  refine lv_iload_n hx hb d_R_fits_41 rfl (lv_at hl 2 rfl) ?_
  refine r_calli (np := 1) (As := [.int (nI (a))]) (rest := []) ⟨hx, hb, hml, hown, ht⟩ hw (c_R_isNothing l G σ hc.1 (by omega)) ⟨km_R_115, kv_R_isNothing, kx_R_isNothing, kc_R_isNothing⟩ (by decide +kernel) ⟨by decide, by decide⟩ rfl rfl rfl hl.1 rfl (Nat.le_of_ble_eq_true rfl) d_R_fits_42 ⟨Nat.le_refl _, Nat.le_refl _⟩ (fun r u H locs hp hw => ?_)
  obtain ⟨hpu, rfl⟩ := hp
  rw [hpu] at hw
  refine n_ne0 (tgt := 76) hx hb d_R_fits_45 (by decide) (boolN_s _) (fun c5 => bad H locs ls hw hl (Or.inr (Or.inl (boolN_1 c5)))) (fun c5 => ?_)
  refine lv_aload_n hx hb d_R_fits_48 rfl (lv_at hl 0 rfl) ?_
  refine lv_iload_n hx hb d_R_fits_49 rfl (lv_at hl 3 rfl) ?_
  refine r_calli (np := 1) (As := [.int (nI (b))]) (rest := []) ⟨hx, hb, hml, hown, ht⟩ hw (c_R_isNothing l G σ hc.1 (by omega)) ⟨km_R_115, kv_R_isNothing, kx_R_isNothing, kc_R_isNothing⟩ (by decide +kernel) ⟨by decide, by decide⟩ rfl rfl rfl hl.1 rfl (Nat.le_of_ble_eq_true rfl) d_R_fits_50 ⟨Nat.le_refl _, Nat.le_refl _⟩ (fun r u H locs hp hw => ?_)
  obtain ⟨hpu, rfl⟩ := hp
  rw [hpu] at hw
  refine n_ne0 (tgt := 76) hx hb d_R_fits_53 (by decide) (boolN_s _) (fun c6 => bad H locs ls hw hl (Or.inr (Or.inr (Or.inl (boolN_1 c6))))) (fun c6 => ?_)
  have h9 : rV σ 9 = rMod 1 := hc.2.2.1
  refine lv_aload_n hx hb d_R_fits_56 rfl (lv_at hl 0 rfl) ?_
  refine lv_iload_n hx hb d_R_fits_57 rfl (lv_at hl 2 rfl) ?_
  refine lv_bipush (v := nI 9) hx hb d_R_fits_58 (by decide) ?_
  refine r_calli (np := 2) (As := [.int (nI (a)), .int (nI (9))]) (rest := []) ⟨hx, hb, hml, hown, ht⟩ hw (c_R_compare l G σ hc.1 (by omega) (by decide)) ⟨km_R_78, kv_R_compare, kx_R_compare, kc_R_compare⟩ (by decide +kernel) ⟨by decide, by decide⟩ rfl rfl rfl hl.1 rfl (Nat.le_of_ble_eq_true rfl) d_R_fits_60 ⟨Nat.le_refl _, Nat.le_refl _⟩ (fun r u H locs hp hw => ?_)
  obtain ⟨hpu, hcc⟩ := hp
  rw [hpu] at hw
  rw [h9] at hcc
  refine lv_if_ge (tgt := 76) hx hb d_R_fits_63 (by decide) (fun c7 => bad H locs ls hw hl (Or.inr (Or.inr (Or.inr (Or.inl (fun q => absurd ((cmpN_lt _ _).mpr q) (by rw [← hcc]; exact Int32.not_lt.mpr c7))))))) (fun c7 => ?_)
  have l1 : rV σ a < rMod 1 := (cmpN_lt _ _).mp (by rw [← hcc]; exact Int32.not_le.mp c7)
  clear hcc c7 hpu
  try clear hp
  refine lv_aload_n hx hb d_R_fits_66 rfl (lv_at hl 0 rfl) ?_
  refine lv_iload_n hx hb d_R_fits_67 rfl (lv_at hl 3 rfl) ?_
  refine lv_bipush (v := nI 9) hx hb d_R_fits_68 (by decide) ?_
  refine r_calli (np := 2) (As := [.int (nI (b)), .int (nI (9))]) (rest := []) ⟨hx, hb, hml, hown, ht⟩ hw (c_R_compare l G σ hc.1 (by omega) (by decide)) ⟨km_R_78, kv_R_compare, kx_R_compare, kc_R_compare⟩ (by decide +kernel) ⟨by decide, by decide⟩ rfl rfl rfl hl.1 rfl (Nat.le_of_ble_eq_true rfl) d_R_fits_70 ⟨Nat.le_refl _, Nat.le_refl _⟩ (fun r u H locs hp hw => ?_)
  obtain ⟨hpu, hcc⟩ := hp
  rw [hpu] at hw
  rw [h9] at hcc
  refine lv_if_lt (tgt := 78) hx hb d_R_fits_73 (by decide) (fun c7 => ?_) (fun c7 => bad H locs ls hw hl (Or.inr (Or.inr (Or.inr (Or.inr (fun q => c7 (by rw [hcc]; exact (cmpN_lt _ _).mpr q)))))))
  have l2 : rV σ b < rMod 1 := (cmpN_lt _ _).mp (by rw [← hcc]; exact c7)
  clear hcc c7 hpu bad
  try clear hp
  have nbad : ¬ badR σ q (rV σ a) (rV σ b) := by
    rintro (h | h | h | h | h)
    · exact h c4
    · exact boolN_0 c5 h
    · exact boolN_0 c6 h
    · exact h l1
    · exact h l2
  refine lv_aload_n hx hb d_R_fits_78 rfl (lv_at hl 0 rfl) ?_
  refine lv_bipush (v := nI 42) hx hb d_R_fits_79 (by decide) ?_
  refine lv_iload hx hb d_R_fits_81 (lv_at hl 4 rfl) ?_
  refine lv_bipush (v := nI 20) hx hb d_R_fits_83 (by decide) ?_
  refine lv_bipush (v := nI 9) hx hb d_R_fits_85 (by decide) ?_
  obtain ⟨zd, hzd⟩ : ∃ t, t = rV σ d := ⟨_, rfl⟩
  obtain ⟨ra, hra⟩ : ∃ t, t = rV σ a := ⟨_, rfl⟩
  obtain ⟨sb, hsb⟩ : ∃ t, t = rV σ b := ⟨_, rfl⟩
  refine r_callv (np := 4) (As := [.int (nI (42)), .int (nI (d)), .int (nI (20)), .int (nI (9))]) (rest := []) ⟨hx, hb, hml, hown, ht⟩ hw (c_R_multiply l G σ hc.1 (μ := 1) (by decide) (by decide) (by omega) (by decide) (by decide) h9) ⟨km_R_96, kv_R_multiply, kx_R_multiply, kc_R_multiply⟩ (by decide +kernel) ⟨by decide, by decide⟩ rfl rfl rfl hl.1 rfl (Nat.le_of_ble_eq_true rfl) d_R_fits_87 ⟨Nat.le_refl _, Nat.le_refl _⟩ (fun u1 H locs hp hw => ?_)
  obtain ⟨V1, hu1, t1, hk1, ho1⟩ := q_mul (μ := 1) (by decide) (rU.rfl' σ) hc.1 hp
  rw [hc.2.2.2.1, ← hzd] at t1
  have F1 : ∀ r, r < 31 → V1 r = rV σ r := fun r h => hk1 r (by omega)
  refine lv_aload_n hx hb d_R_fits_90 rfl (lv_at hl 0 rfl) ?_
  refine lv_bipush (v := nI 42) hx hb d_R_fits_91 (by decide) ?_
  refine lv_bipush (v := nI 42) hx hb d_R_fits_93 (by decide) ?_
  refine lv_iload_n hx hb d_R_fits_95 rfl (lv_at hl 3 rfl) ?_
  refine lv_bipush (v := nI 9) hx hb d_R_fits_96 (by decide) ?_
  refine r_callv (np := 4) (As := [.int (nI (42)), .int (nI (42)), .int (nI (b)), .int (nI (9))]) (rest := []) ⟨hx, hb, hml, hown, ht⟩ hw (c_R_divide l G u1 (hu1.ok ho1) (μ := 1) (by decide) (by decide) (by decide) (by omega) (by decide) (by decide) (by decide) (by omega) (by rw [hu1.V, F1 _ (by decide)]; exact h9) (by rw [hu1.V, F1 _ (by decide)]; exact hc.2.2.2.1)) ⟨km_R_121, kv_R_divide, kx_R_divide, kc_R_divide⟩ (by decide +kernel) ⟨by decide, by decide⟩ rfl rfl rfl hl.1 rfl (Nat.le_of_ble_eq_true rfl) d_R_fits_98 ⟨Nat.le_refl _, Nat.le_refl _⟩ (fun u2 H locs hp hw => ?_)
  obtain ⟨V2, hu2, t2, hk2, ho2⟩ := hp
  rw [hu1.V, t1, F1 b (by omega), ← hsb] at t2
  rw [hu1.V] at hk2
  have F2 : ∀ r, r < 31 → V2 r = rV σ r := fun r h => (hk2 r (by omega) (by omega) (by omega) (by omega) (by omega) (by omega)).trans (F1 r h)
  have t2 : V2 42 = fU1 zd sb := t2
  clear hk1 hk2 ho1 F1 t1
  try clear hp
  refine lv_aload_n hx hb d_R_fits_101 rfl (lv_at hl 0 rfl) ?_
  refine lv_bipush (v := nI 43) hx hb d_R_fits_102 (by decide) ?_
  refine lv_iload_n hx hb d_R_fits_104 rfl (lv_at hl 2 rfl) ?_
  refine lv_iload_n hx hb d_R_fits_105 rfl (lv_at hl 3 rfl) ?_
  refine lv_bipush (v := nI 9) hx hb d_R_fits_106 (by decide) ?_
  refine r_callv (np := 4) (As := [.int (nI (43)), .int (nI (a)), .int (nI (b)), .int (nI (9))]) (rest := []) ⟨hx, hb, hml, hown, ht⟩ hw (c_R_divide l G u2 (hu2.ok ho2) (μ := 1) (by decide) (by decide) (by omega) (by omega) (by decide) (by omega) (by omega) (by omega) (by rw [hu2.V, F2 _ (by decide)]; exact h9) (by rw [hu2.V, F2 _ (by decide)]; exact hc.2.2.2.1)) ⟨km_R_121, kv_R_divide, kx_R_divide, kc_R_divide⟩ (by decide +kernel) ⟨by decide, by decide⟩ rfl rfl rfl hl.1 rfl (Nat.le_of_ble_eq_true rfl) d_R_fits_108 ⟨Nat.le_refl _, Nat.le_refl _⟩ (fun u3 H locs hp hw => ?_)
  obtain ⟨V3, hu3, t3, hk3, ho3⟩ := hp
  rw [hu2.V, F2 a (by omega), F2 b (by omega), ← hsb, ← hra] at t3
  rw [hu2.V] at hk3
  have F3 : ∀ r, r < 31 → V3 r = rV σ r := fun r h => (hk3 r (by omega) (by omega) (by omega) (by omega) (by omega) (by omega)).trans (F2 r h)
  have t3 : V3 43 = fU2 ra sb := t3
  have s3 : V3 42 = fU1 zd sb := (hk3 42 (by decide) (by decide) (by decide) (by decide) (by decide) (by decide)).trans t2
  have U3 := (hu1.trans hu2).trans hu3
  clear hk3 ho2 F2 t2 hu1 hu2
  try clear hp
  obtain ⟨w1, hw1⟩ : ∃ t, t = fU1 zd sb := ⟨_, rfl⟩
  obtain ⟨w2, hw2⟩ : ∃ t, t = fU2 ra sb := ⟨_, rfl⟩
  rw [← hw1] at s3
  rw [← hw2] at t3
  refine lv_aload_n hx hb d_R_fits_111 rfl (lv_at hl 0 rfl) ?_
  refine lv_bipush (v := nI 22) hx hb d_R_fits_112 (by decide) ?_
  refine lv_bipush (v := nI 18) hx hb d_R_fits_114 (by decide) ?_
  refine r_callv (np := 2) (As := [.int (nI (22)), .int (nI (18))]) (rest := []) ⟨hx, hb, hml, hown, ht⟩ hw (c_R_copy l G u3 (hu3.ok ho3) (by decide) (by decide) (by decide)) ⟨km_R_70, kv_R_copy, kx_R_copy, kc_R_copy⟩ (by decide +kernel) ⟨by decide, by decide⟩ rfl rfl rfl hl.1 rfl (Nat.le_of_ble_eq_true rfl) d_R_fits_116 ⟨Nat.le_refl _, Nat.le_refl _⟩ (fun u4 H locs hp hw => ?_)
  obtain ⟨V4, U4, c4_, hk4, ho4⟩ := q_copy U3 ho3 hp
  refine lv_aload_n hx hb d_R_fits_119 rfl (lv_at hl 0 rfl) ?_
  refine lv_bipush (v := nI 23) hx hb d_R_fits_120 (by decide) ?_
  refine lv_bipush (v := nI 19) hx hb d_R_fits_122 (by decide) ?_
  refine r_callv (np := 2) (As := [.int (nI (23)), .int (nI (19))]) (rest := []) ⟨hx, hb, hml, hown, ht⟩ hw (c_R_copy l G u4 (U4.ok ho4) (by decide) (by decide) (by decide)) ⟨km_R_70, kv_R_copy, kx_R_copy, kc_R_copy⟩ (by decide +kernel) ⟨by decide, by decide⟩ rfl rfl rfl hl.1 rfl (Nat.le_of_ble_eq_true rfl) d_R_fits_124 ⟨Nat.le_refl _, Nat.le_refl _⟩ (fun u5 H locs hp hw => ?_)
  obtain ⟨V5, U5, c5_, hk5, ho5⟩ := q_copy U4 ho4 hp
  refine lv_aload_n hx hb d_R_fits_127 rfl (lv_at hl 0 rfl) ?_
  refine lv_bipush (v := nI 24) hx hb d_R_fits_128 (by decide) ?_
  refine lv_bipush (v := nI 20) hx hb d_R_fits_130 (by decide) ?_
  refine r_callv (np := 2) (As := [.int (nI (24)), .int (nI (20))]) (rest := []) ⟨hx, hb, hml, hown, ht⟩ hw (c_R_copy l G u5 (U5.ok ho5) (by decide) (by decide) (by decide)) ⟨km_R_70, kv_R_copy, kx_R_copy, kc_R_copy⟩ (by decide +kernel) ⟨by decide, by decide⟩ rfl rfl rfl hl.1 rfl (Nat.le_of_ble_eq_true rfl) d_R_fits_132 ⟨Nat.le_refl _, Nat.le_refl _⟩ (fun u6 H locs hp hw => ?_)
  obtain ⟨V6, U6, c6_, hk6, ho6⟩ := q_copy U5 ho5 hp
  have B18 : V6 22 = rV σ 18 := (hk6 22 (by decide)).trans ((hk5 22 (by decide)).trans (c4_.trans (F3 18 (by decide))))
  have B19 : V6 23 = rV σ 19 := (hk6 23 (by decide)).trans (c5_.trans ((hk4 19 (by decide)).trans (F3 19 (by decide))))
  have B20 : V6 24 = 1 := c6_.trans ((hk5 20 (by decide)).trans ((hk4 20 (by decide)).trans ((F3 20 (by decide)).trans hc.2.2.2.1)))
  have F6 : ∀ r, r < 31 → r ≠ 22 → r ≠ 23 → r ≠ 24 → V6 r = rV σ r := fun r h b1 b2 b3 => (hk6 r b3).trans ((hk5 r b2).trans ((hk4 r b1).trans (F3 r h)))
  have s6 : V6 42 = w1 := (hk6 42 (by decide)).trans ((hk5 42 (by decide)).trans ((hk4 42 (by decide)).trans s3))
  have t6 : V6 43 = w2 := (hk6 43 (by decide)).trans ((hk5 43 (by decide)).trans ((hk4 43 (by decide)).trans t3))
  clear hk4 hk5 hk6 c4_ c5_ c6_ F3 s3 t3 U3 U4 U5 ho3 ho4 ho5
  try clear hp
  have Q6 : (V6 22, V6 23, V6 24) = (rV σ 18, rV σ 19, 1) := by rw [B18, B19, B20]
  have T6 : (V6 25, V6 26, 0) = (rV σ 25, rV σ 26, 0) := by rw [F6 25 (by decide) (by decide) (by decide) (by decide), F6 26 (by decide) (by decide) (by decide) (by decide)]
  have m1 : 1 < rMod 0 := rMod_one (by decide)
  have m0 : 0 < rMod 0 := rMod_pos (by decide)
  have pQ : t3lt (rMod 0) (rV σ 18, rV σ 19, 1) := ⟨hb18, hb19, m1⟩
  have pT : t3lt (rMod 0) (rV σ 25, rV σ 26, 0) := ⟨hpts 25 (by decide) (by decide), hpts 26 (by decide) (by decide), m0⟩
  refine lv_aload_n hx hb d_R_fits_135 rfl (lv_at hl 0 rfl) ?_
  refine lv_bipush (v := nI 42) hx hb d_R_fits_136 (by decide) ?_
  refine r_callv (np := 1) (As := [.int (nI (42))]) (rest := []) ⟨hx, hb, hml, hown, ht⟩ hw (c_R_multiple l G u6 (U6.ok ho6) (by decide) (by decide) (by rw [U6.V, F6 8 (by decide) (by decide) (by decide) (by decide)]; exact hc.2.1) (by rw [U6.V, Q6]; exact pQ) (by rw [U6.V, T6]; exact pT) (fun r h1 h2 => by rw [U6.V, F6 r h2 (by omega) (by omega) (by omega)]; exact hpts r (by omega) h2)) ⟨km_R_160, kv_R_multiple, kx_R_multiple, kc_R_multiple⟩ (by decide +kernel) ⟨by decide, by decide⟩ rfl rfl rfl hl.1 rfl (Nat.le_of_ble_eq_true rfl) d_R_fits_138 ⟨Nat.le_refl _, Nat.le_refl _⟩ (fun u7 H locs hp hw => ?_)
  obtain ⟨V7, hu7, j1, j2, j3, hk7, hs7, ho7⟩ := hp
  rw [U6.V, Q6, T6, s6] at j1 j2 j3
  rw [U6.V] at hk7
  have U7 := U6.trans hu7
  have jA : V7 25 = (fA σ w1).1 := j1
  have jB : V7 26 = (fA σ w1).2.1 := j2
  have jC : V7 27 = (fA σ w1).2.2 := j3
  have lA : t3lt (rMod 0) (fA σ w1) := mrun_lt m0 pQ pT 256
  have F7 : ∀ r, r < 22 → V7 r = rV σ r := fun r h => (hk7 r (by omega)).trans (F6 r (by omega) (by omega) (by omega) (by omega))
  have t7 : V7 43 = w2 := (hk7 43 (by decide)).trans t6
  clear j1 j2 j3 hk7 F6 s6 t6 U6 hu7 ho6 B18 B19 B20 Q6 T6
  try clear hp
  refine lv_aload_n hx hb d_R_fits_141 rfl (lv_at hl 0 rfl) ?_
  refine lv_bipush (v := nI 44) hx hb d_R_fits_142 (by decide) ?_
  refine lv_bipush (v := nI 25) hx hb d_R_fits_144 (by decide) ?_
  refine r_callv (np := 2) (As := [.int (nI (44)), .int (nI (25))]) (rest := []) ⟨hx, hb, hml, hown, ht⟩ hw (c_R_copyPoint l G u7 (U7.ok ho7) (by decide) (by decide) (by decide)) ⟨km_R_127, kv_R_copyPoint, kx_R_copyPoint, kc_R_copyPoint⟩ (by decide +kernel) ⟨by decide, by decide⟩ rfl rfl rfl hl.1 rfl (Nat.le_of_ble_eq_true rfl) d_R_fits_146 ⟨Nat.le_refl _, Nat.le_refl _⟩ (fun u8 H locs hp hw => ?_)
  obtain ⟨V8, hu8, p1, p2, p3, hk8, ho8⟩ := hp
  rw [U7.V] at p1 p2 p3 hk8
  have U8 := U7.trans hu8
  have p1 : V8 44 = (fA σ w1).1 := p1.trans jA
  have p2 : V8 (44 + 1) = (fA σ w1).2.1 := p2.trans jB
  have p3 : V8 (44 + 2) = (fA σ w1).2.2 := p3.trans jC
  have K8 : ∀ r, r < 44 → V8 r = V7 r := fun r h => hk8 r (by omega) (by omega) (by omega)
  clear hk8 U7 hu8 ho7
  try clear hp
  refine lv_aload_n hx hb d_R_fits_149 rfl (lv_at hl 0 rfl) ?_
  refine lv_bipush (v := nI 22) hx hb d_R_fits_150 (by decide) ?_
  refine lv_iload_n hx hb d_R_fits_152 rfl (lv_at hl 1 rfl) ?_
  refine r_callv (np := 2) (As := [.int (nI (22)), .int (nI (q))]) (rest := []) ⟨hx, hb, hml, hown, ht⟩ hw (c_R_load l G u8 (U8.ok ho8) (by decide) (by decide) lt_q (by rw [U8.V, K8 20 (by decide), F7 20 (by decide)]; exact hc.2.2.2.1) (by rw [U8.N]; exact qn)) ⟨km_R_154, kv_R_load, kx_R_load, kc_R_load⟩ (by decide +kernel) ⟨by decide, by decide⟩ rfl rfl rfl hl.1 rfl (Nat.le_of_ble_eq_true rfl) d_R_fits_153 ⟨Nat.le_refl _, Nat.le_refl _⟩ (fun u9 H locs hp hw => ?_)
  obtain ⟨V9, hu9, l1_, l2_, l3_, hk9, ho9⟩ := hp
  rw [U8.V] at l1_ l2_ hk9
  rw [U8.N] at l3_
  have U9 := U8.trans hu9
  have Q9 : (V9 22, V9 23, V9 24) = rPt σ q := by
    have b1 : V9 22 = rV σ (10 + 2 * q) := l1_.trans ((K8 _ (by omega)).trans (F7 _ (by omega)))
    have b2 : V9 23 = rV σ (11 + 2 * q) := l2_.trans ((K8 _ (by omega)).trans (F7 _ (by omega)))
    have b3 : V9 24 = 1 - rN σ q := l3_
    rw [b1, b2, b3]
    rfl
  have K9 : ∀ r, r < 22 ∨ 24 < r → V9 r = V8 r := fun r h => hk9 r (by omega) (by omega) (by omega)
  have T9 : (V9 25, V9 26, 0) = ((fA σ w1).1, (fA σ w1).2.1, 0) := by rw [K9 25 (by decide), K9 26 (by decide), K8 25 (by decide), K8 26 (by decide), jA, jB]
  have t9 : V9 43 = w2 := (K9 43 (by decide)).trans ((K8 43 (by decide)).trans t7)
  have pP := hf.pt lt_q
  have pT9 : t3lt (rMod 0) ((fA σ w1).1, (fA σ w1).2.1, 0) := ⟨lA.1, lA.2.1, m0⟩
  have F9 : ∀ r, r < 22 → V9 r = rV σ r := fun r h => (K9 r (by omega)).trans ((K8 r (by omega)).trans (F7 r h))
  have S9 : ∀ r, 28 ≤ r → r < 31 → V9 r < rMod 0 := fun r h1 h2 => by rw [K9 r (by omega), K8 r (by omega)]; exact hs7 r h1 h2
  have o1 : V9 44 = (fA σ w1).1 := (K9 44 (by decide)).trans p1
  have o2 : V9 (44 + 1) = (fA σ w1).2.1 := (K9 45 (by decide)).trans p2
  have o3 : V9 (44 + 2) = (fA σ w1).2.2 := (K9 46 (by decide)).trans p3
  clear l1_ l2_ l3_ hk9 U8 hu9 ho8 K8 K9 F7 hs7 t7 p1 p2 p3 jA jB jC
  try clear hp
  refine lv_aload_n hx hb d_R_fits_156 rfl (lv_at hl 0 rfl) ?_
  refine lv_bipush (v := nI 43) hx hb d_R_fits_157 (by decide) ?_
  refine r_callv (np := 1) (As := [.int (nI (43))]) (rest := []) ⟨hx, hb, hml, hown, ht⟩ hw (c_R_multiple l G u9 (U9.ok ho9) (by decide) (by decide) (by rw [U9.V, F9 8 (by decide)]; exact hc.2.1) (by rw [U9.V, Q9]; exact pP) (by rw [U9.V, T9]; exact pT9) (by rw [U9.V]; exact S9)) ⟨km_R_160, kv_R_multiple, kx_R_multiple, kc_R_multiple⟩ (by decide +kernel) ⟨by decide, by decide⟩ rfl rfl rfl hl.1 rfl (Nat.le_of_ble_eq_true rfl) d_R_fits_159 ⟨Nat.le_refl _, Nat.le_refl _⟩ (fun ua H locs hp hw => ?_)
  obtain ⟨Va, hua, j1, j2, j3, hka, hsa, hoa⟩ := hp
  rw [U9.V, Q9, T9, t9] at j1 j2 j3
  rw [U9.V] at hka
  have Ua := U9.trans hua
  have i1 : Va 25 = (fB σ q w1 w2).1 := j1
  have i2 : Va (25 + 1) = (fB σ q w1 w2).2.1 := j2
  have i3 : Va (25 + 2) = (fB σ q w1 w2).2.2 := j3
  have lB : t3lt (rMod 0) (fB σ q w1 w2) := mrun_lt m0 pP pT9 256
  have Q9a : t3lt (rMod 0) (V9 22, V9 23, V9 24) := by rw [Q9]; exact pP
  have o1 : Va 44 = (fA σ w1).1 := (hka 44 (by decide)).trans o1
  have o2 : Va (44 + 1) = (fA σ w1).2.1 := (hka 45 (by decide)).trans o2
  have o3 : Va (44 + 2) = (fA σ w1).2.2 := (hka 46 (by decide)).trans o3
  have Fa : ∀ r, r < 22 → Va r = rV σ r := fun r h => (hka r (by omega)).trans (F9 r h)
  have Ga : Va 22 < rMod 0 ∧ Va 23 < rMod 0 ∧ Va 24 < rMod 0 := by rw [hka 22 (by decide), hka 23 (by decide), hka 24 (by decide)]; exact Q9a
  clear j1 j2 j3 hka U9 hua ho9 F9 S9 Q9 T9 t9 Q9a
  try clear hp
  refine lv_aload_n hx hb d_R_fits_162 rfl (lv_at hl 0 rfl) ?_
  refine lv_bipush (v := nI 25) hx hb d_R_fits_163 (by decide) ?_
  refine lv_bipush (v := nI 44) hx hb d_R_fits_165 (by decide) ?_
  refine r_callv (np := 2) (As := [.int (nI (25)), .int (nI (44))]) (rest := []) ⟨hx, hb, hml, hown, ht⟩ hw (c_R_join l G ua (Ua.ok hoa) (by decide) (by decide) (by decide) (by decide) (by decide) (by rw [Ua.V, Fa 8 (by decide)]; exact hc.2.1) (by rw [Ua.V, i1]; exact lB.1) (by rw [Ua.V, i2]; exact lB.2.1) (by rw [Ua.V, i3]; exact lB.2.2) (by rw [Ua.V, o1]; exact lA.1) (by rw [Ua.V, o2]; exact lA.2.1) (by rw [Ua.V, o3]; exact lA.2.2)) ⟨km_R_133, kv_R_join, kx_R_join, kc_R_join⟩ (by decide +kernel) ⟨by decide, by decide⟩ rfl rfl rfl hl.1 rfl (Nat.le_of_ble_eq_true rfl) d_R_fits_167 ⟨Nat.le_refl _, Nat.le_refl _⟩ (fun ub H locs hp hw => ?_)
  obtain ⟨Vb, hub, j1, j2, j3, hkb, hob⟩ := hp
  rw [Ua.V, i1, i2, i3, o1, o2, o3] at j1 j2 j3
  rw [Ua.V] at hkb
  have Ub := Ua.trans hub
  have y1 : Vb 25 = (fJ σ q w1 w2).1 := j1
  have y2 : Vb (25 + 1) = (fJ σ q w1 w2).2.1 := j2
  have y3 : Vb (25 + 2) = (fJ σ q w1 w2).2.2 := j3
  have lJ : t3lt (rMod 0) (fJ σ q w1 w2) := jn_lt m0 lB.1 lB.2.1 lB.2.2 lA.1 lA.2.1 lA.2.2
  have Fb : ∀ r, r < 22 → Vb r = rV σ r := fun r h => (hkb r (by omega) (by omega) (by omega) (by omega)).trans (Fa r h)
  have Lb : ∀ r, 22 ≤ r → r < 31 → Vb r < rMod 0 := by
    intro r h9 h8
    by_cases c25 : r = 25
    · rw [c25, y1]; exact lJ.1
    by_cases c26 : r = 25 + 1
    · rw [c26, y2]; exact lJ.2.1
    by_cases c27 : r = 25 + 2
    · rw [c27, y3]; exact lJ.2.2
    rw [hkb r c25 c26 c27 (by omega)]
    by_cases c28 : 28 ≤ r
    · exact hsa r c28 h8
    rcases (show r = 22 ∨ r = 23 ∨ r = 24 by omega) with c9 | c9 | c9
    · rw [c9]; exact Ga.1
    · rw [c9]; exact Ga.2.1
    · rw [c9]; exact Ga.2.2
  clear j1 j2 j3 hkb Ua hub hoa Fa Ga hsa i1 i2 i3 o1 o2 o3
  try clear hp
  refine lv_aload_n hx hb d_R_fits_170 rfl (lv_at hl 0 rfl) ?_
  refine lv_bipush (v := nI 25) hx hb d_R_fits_171 (by decide) ?_
  refine r_calli (np := 1) (As := [.int (nI (25))]) (rest := []) ⟨hx, hb, hml, hown, ht⟩ hw (c_R_isNone l G ub (Ub.ok hob) (by decide)) ⟨km_R_118, kv_R_isNone, kx_R_isNone, kc_R_isNone⟩ (by decide +kernel) ⟨by decide, by decide⟩ rfl rfl rfl hl.1 rfl (Nat.le_of_ble_eq_true rfl) d_R_fits_173 ⟨Nat.le_refl _, Nat.le_refl _⟩ (fun r ux H locs hp hw => ?_)
  obtain ⟨hpu, rfl⟩ := hp
  rw [hpu] at hw
  refine tp_i (y := nI (boolN ((fJ σ q w1 w2).2.2 = 0))) (by rw [Ub.V, y3]) ?_
  refine n_eq0 (tgt := 181) hx hb d_R_fits_176 (by decide) (boolN_s _) (fun c7 => ?_) (fun c7 => ?_)
  · have nz := boolN_0 c7
    refine lv_aload_n hx hb d_R_fits_181 rfl (lv_at hl 0 rfl) ?_
    refine lv_bipush (v := nI 42) hx hb d_R_fits_182 (by decide) ?_
    refine lv_bipush (v := nI 25) hx hb d_R_fits_184 (by decide) ?_
    refine lv_bipush (v := nI 27) hx hb d_R_fits_186 (by decide) ?_
    refine lv_bipush (v := nI 8) hx hb d_R_fits_188 (by decide) ?_
    refine r_callv (np := 4) (As := [.int (nI (42)), .int (nI (25)), .int (nI (27)), .int (nI (8))]) (rest := []) ⟨hx, hb, hml, hown, ht⟩ hw (c_R_divide l G ub (Ub.ok hob) (μ := 0) (by decide) (by decide) (by decide) (by decide) (by decide) (by decide) (by decide) (by decide) (by rw [Ub.V, Fb _ (by decide)]; exact hc.2.1) (by rw [Ub.V, Fb _ (by decide)]; exact hc.2.2.2.1)) ⟨km_R_121, kv_R_divide, kx_R_divide, kc_R_divide⟩ (by decide +kernel) ⟨by decide, by decide⟩ rfl rfl rfl hl.1 rfl (Nat.le_of_ble_eq_true rfl) d_R_fits_190 ⟨Nat.le_refl _, Nat.le_refl _⟩ (fun uc H locs hp hw => ?_)
    obtain ⟨Vc, huc, t1, hkc, hoc⟩ := hp
    have y3' : Vb 27 = (fJ σ q w1 w2).2.2 := y3
    rw [Ub.V, y1, y3'] at t1
    rw [Ub.V] at hkc
    have Uc := Ub.trans huc
    have Fc : ∀ r, r < 31 → Vc r = Vb r := fun r h => hkc r (by omega) (by omega) (by omega) (by omega) (by omega) (by omega)
    refine lv_aload_n hx hb d_R_fits_193 rfl (lv_at hl 0 rfl) ?_
    refine lv_bipush (v := nI 42) hx hb d_R_fits_194 (by decide) ?_
    refine lv_bipush (v := nI 42) hx hb d_R_fits_196 (by decide) ?_
    refine lv_bipush (v := nI 20) hx hb d_R_fits_198 (by decide) ?_
    refine lv_bipush (v := nI 9) hx hb d_R_fits_200 (by decide) ?_
    refine r_callv (np := 4) (As := [.int (nI (42)), .int (nI (42)), .int (nI (20)), .int (nI (9))]) (rest := []) ⟨hx, hb, hml, hown, ht⟩ hw (c_R_multiply l G uc (Uc.ok hoc) (μ := 1) (by decide) (by decide) (by decide) (by decide) (by decide) (by rw [Uc.V, Fc _ (by decide), Fb _ (by decide)]; exact h9)) ⟨km_R_96, kv_R_multiply, kx_R_multiply, kc_R_multiply⟩ (by decide +kernel) ⟨by decide, by decide⟩ rfl rfl rfl hl.1 rfl (Nat.le_of_ble_eq_true rfl) d_R_fits_202 ⟨Nat.le_refl _, Nat.le_refl _⟩ (fun ud H locs hp hw => ?_)
    obtain ⟨Vd, Ud, t2, hkd, hod⟩ := q_mul (μ := 1) (by decide) Uc hoc hp
    rw [t1, Fc 20 (by decide), Fb 20 (by decide), hc.2.2.2.1] at t2
    refine lv_aload_n hx hb d_R_fits_205 rfl (lv_at hl 0 rfl) ?_
    refine lv_bipush (v := nI 42) hx hb d_R_fits_206 (by decide) ?_
    refine lv_iload_n hx hb d_R_fits_208 rfl (lv_at hl 2 rfl) ?_
    refine r_calli (np := 2) (As := [.int (nI (42)), .int (nI (a))]) (rest := []) ⟨hx, hb, hml, hown, ht⟩ hw (c_R_compare l G ud (Ud.ok hod) (by decide) (by omega)) ⟨km_R_78, kv_R_compare, kx_R_compare, kc_R_compare⟩ (by decide +kernel) ⟨by decide, by decide⟩ rfl rfl rfl hl.1 rfl (Nat.le_of_ble_eq_true rfl) d_R_fits_209 ⟨Nat.le_refl _, Nat.le_refl _⟩ (fun r ux H locs hp hw => ?_)
    obtain ⟨hpu, hcc⟩ := hp
    rw [hpu] at hw
    rw [Ud.V, t2, hkd a (by omega), Fc a (by omega), Fb a (by omega), ← hra] at hcc
    refine lv_if_ne (tgt := 219) hx hb d_R_fits_212 (by decide) (fun c8 => ?_) (fun c8 => ?_)
    · refine lv_iconst (v := nI 0) hx hb d_R_fits_219 (by decide) ?_
      refine z_iret (rZ _) hx hb hr hlocks ud hw ⟨fun h => absurd ⟨k0, k1, k2, k3⟩ h, fun q_ a_ b_ d_ w1 w2 w3 w4 e1 e2 e3 e4 => ?_⟩ d_R_fits_220
      have q_q_ : q_ = q := (nI_eq (by omega) (by omega)).mp (e1.symm.trans ex1)
      subst q_q_
      have q_a_ : a_ = a := (nI_eq (by omega) (by omega)).mp (e2.symm.trans ex2)
      subst q_a_
      have q_b_ : b_ = b := (nI_eq (by omega) (by omega)).mp (e3.symm.trans ex3)
      subst q_b_
      have q_d_ : d_ = d := (nI_eq (by omega) (by omega)).mp (e4.symm.trans ex4)
      subst q_d_
      refine ⟨fun h => absurd h nbad, fun _ => ⟨?_, Vd, Ud, fun r h => (hkd r (by omega)).trans ((Fc r (by omega)).trans (Fb r h)), fun r h1 h2 => by rw [hkd r (by omega), Fc r h2]; exact Lb r h1 h2, hod⟩⟩
      subst hw1 hw2 hzd hra hsb
      rw [boolN_f (fun q9 => c8 (by rw [hcc]; exact (cmpN_eq _ _).mpr q9.2))]
    · refine lv_iconst (v := nI 1) hx hb d_R_fits_215 (by decide) ?_
      refine lv_goto (tgt := 220) hx hb d_R_fits_216 (by decide) ?_
      refine z_iret (rZ _) hx hb hr hlocks ud hw ⟨fun h => absurd ⟨k0, k1, k2, k3⟩ h, fun q_ a_ b_ d_ w1 w2 w3 w4 e1 e2 e3 e4 => ?_⟩ d_R_fits_220
      have q_q_ : q_ = q := (nI_eq (by omega) (by omega)).mp (e1.symm.trans ex1)
      subst q_q_
      have q_a_ : a_ = a := (nI_eq (by omega) (by omega)).mp (e2.symm.trans ex2)
      subst q_a_
      have q_b_ : b_ = b := (nI_eq (by omega) (by omega)).mp (e3.symm.trans ex3)
      subst q_b_
      have q_d_ : d_ = d := (nI_eq (by omega) (by omega)).mp (e4.symm.trans ex4)
      subst q_d_
      refine ⟨fun h => absurd h nbad, fun _ => ⟨?_, Vd, Ud, fun r h => (hkd r (by omega)).trans ((Fc r (by omega)).trans (Fb r h)), fun r h1 h2 => by rw [hkd r (by omega), Fc r h2]; exact Lb r h1 h2, hod⟩⟩
      subst hw1 hw2 hzd hra hsb
      rw [boolN_t ⟨nz, (cmpN_eq _ _).mp (by rw [← hcc]; exact c8)⟩]
  · have nz := boolN_1 c7
    refine lv_iconst (v := nI 0) hx hb d_R_fits_179 (by decide) ?_
    refine z_iret (rZ _) hx hb hr hlocks ub hw ⟨fun h => absurd ⟨k0, k1, k2, k3⟩ h, fun q_ a_ b_ d_ w1 w2 w3 w4 e1 e2 e3 e4 => ?_⟩ d_R_fits_180
    have q_q_ : q_ = q := (nI_eq (by omega) (by omega)).mp (e1.symm.trans ex1)
    subst q_q_
    have q_a_ : a_ = a := (nI_eq (by omega) (by omega)).mp (e2.symm.trans ex2)
    subst q_a_
    have q_b_ : b_ = b := (nI_eq (by omega) (by omega)).mp (e3.symm.trans ex3)
    subst q_b_
    have q_d_ : d_ = d := (nI_eq (by omega) (by omega)).mp (e4.symm.trans ex4)
    subst q_d_
    refine ⟨fun h => absurd h nbad, fun _ => ⟨?_, Vb, Ub, Fb, Lb, hob⟩⟩
    subst hw1 hw2 hzd hra hsb
    rw [boolN_f (fun q9 => q9.1 nz)]
