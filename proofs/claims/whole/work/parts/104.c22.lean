/-! the desk: fits -/
def cZi (t : Nat × Nat × Nat) : Nat := t.2.2 ^ (rMod 0 - 2) % rMod 0
def cFt (τ : cT) (q r s z : Nat) : Nat × Nat × Nat := crun (rMod 0) (cPt τ 4) (cPt τ q) (cV τ 22, cV τ 23, 0) (fU1 z s) (fU2 r s) 256
abbrev fitsC (τ : cT) (q r s z : Nat) : Prop := (cFt τ q r s z).2.2 ≠ 0 ∧ mm (rMod 0) (cFt τ q r s z).1 (mm (rMod 0) (cZi (cFt τ q r s z)) (cZi (cFt τ q r s z))) % rMod 1 = r
abbrev badC (τ : cT) (q r s : Nat) : Prop := cN τ q ≠ 0 ∨ r = 0 ∨ s = 0 ∨ ¬ r < rMod 1 ∨ ¬ s < rMod 1
theorem qc_inv {τ u : cT} {μ o d : Nat} (hp : cU τ (va_up (va_up (cV τ) (28 + μ) (cV τ d ^ (rMod μ - 2) % rMod μ)) o (cV τ d ^ (rMod μ - 2) % rMod μ)) u) : ∃ V, cU τ V u ∧ V o = cV τ d ^ (rMod μ - 2) % rMod μ ∧ ∀ r, r ≠ o → r ≠ 28 + μ → V r = cV τ r :=
  ⟨_, hp, up_self _ _ _, fun r b1 b2 => by rw [up_ne _ _ b1, up_ne _ _ b2]⟩
theorem fU1_eq (z s : Nat) : mm (rMod 1) (z % rMod 1) (s ^ (rMod 1 - 2) % rMod 1) = fU1 z s := by
  unfold fU1
  rw [show mm (rMod 1) z 1 = z % rMod 1 by unfold mm; rw [Nat.mul_one]]
theorem fU2_eq (r s : Nat) : mm (rMod 1) (s ^ (rMod 1 - 2) % rMod 1) r = fU2 r s := by
  unfold fU2
  generalize s ^ (rMod 1 - 2) % rMod 1 = w
  unfold mm
  rw [Nat.mul_comm]
set_option maxHeartbeats 4000000 in
set_option maxRecDepth 100000 in
theorem c_D_fits (l : Launch) (K : cG) (τ : cT) (hok : cOk τ) (hn2 : ∀ q, q < 6 → cN τ q < 2) (hpt : ∀ r, 8 ≤ r → r < 20 → cV τ r < rMod 0) (h22 : cV τ 22 < rMod 0) (h23 : cV τ 23 < rMod 0) (x1 x2 x3 x4 : Int32) : Met l y_D_fits (zW y_D_fits b_D_fits 5 (some .int)) (zr 7 159) (va_Pc [.ref (cO K 0), .int (x1), .int (x2), .int (x3), .int (x4)] (cC K τ)) (va_Qi (fun r u => (¬ (okR x1 4 ∧ okR x2 8 ∧ okR x3 8 ∧ okR x4 8) → r = -1 ∧ u = τ) ∧ ∀ q a b d, q < 4 → a < 8 → b < 8 → d < 8 → x1 = nI q → x2 = nI a → x3 = nI b → x4 = nI d → (badC τ q (cV τ a) (cV τ b) → r = nI 0 ∧ u = τ) ∧ (¬ (badC τ q (cV τ a) (cV τ b)) → r = nI (boolN (fitsC τ q (cV τ a) (cV τ b) (cV τ d))) ∧ ∃ V n5, n5 < 2 ∧ cU (csN τ 5 n5) V u ∧ V 18 < rMod 0 ∧ V 19 < rMod 0 ∧ V 22 < rMod 0 ∧ V 23 < rMod 0 ∧ ∀ r, r < 18 → V r = cV τ r)) (fun u => cC K u) (cAA K)) 0 0 (cAA K) := by
  refine Met.ofW (cc := b_D_fits) (maxL := 5) (ret := (some .int)) (by decide) rfl ?_
  intro p e s m args below meth c s₁ B hml hv
  obtain ⟨rfl, hw⟩ := hv
  have hx := B.exec
  have hb := B.bytes
  have hr := B.returns
  have hts := atoms_spec (ws := zW y_D_fits b_D_fits 5 (some .int)) B.pre
  have ht : ∀ w ∈ zT, w.before ([.ref (cO K 0), .int (x1), .int (x2), .int (x3), .int (x4)] : List Value).toArray s = true := fun w h => hts w (List.mem_cons_of_mem _ h)
  have hown : s.vm.findClass R_D = some m.cls := findClass_of_methodNamed B.named
  have hlocks := B.notSynchronized
  have hl := lv_entry ([.ref (cO K 0), .int (x1), .int (x2), .int (x3), .int (x4)]) (n := 5) (Nat.le_of_ble_eq_true rfl)
  rw [lg_entry_eq]
  generalize (lg_sl ([.ref (cO K 0), .int (x1), .int (x2), .int (x3), .int (x4)]) ++ List.replicate (5 - (lg_sl ([.ref (cO K 0), .int (x1), .int (x2), .int (x3), .int (x4)])).length) Slot.unset).toArray = ls at hl ⊢
  have hl : lv_has ls 5 [(0, .ref (cO K 0)), (1, .int (x1)), (2, .int (x2)), (3, .int (x3)), (4, .int (x4))] := hl
  have hno : ∀ (H : Heap) (locs : List Loc) (ls : Array Slot), cH K τ s H locs → lv_has ls 5 [(0, .ref (cO K 0)), (1, .int (x1)), (2, .int (x2)), (3, .int (x3)), (4, .int (x4))] → ¬ (okR x1 4 ∧ okR x2 8 ∧ okR x3 8 ∧ okR x4 8) → W p l e (headSpec (zW y_D_fits b_D_fits 5 (some .int)) (zr 7 159)).room s m ([.ref (cO K 0), .int (x1), .int (x2), .int (x3), .int (x4)] : List Value).toArray below meth c H locs 0 0 (MQ below (va_Qi (fun r u => (¬ (okR x1 4 ∧ okR x2 8 ∧ okR x3 8 ∧ okR x4 8) → r = -1 ∧ u = τ) ∧ ∀ q a b d, q < 4 → a < 8 → b < 8 → d < 8 → x1 = nI q → x2 = nI a → x3 = nI b → x4 = nI d → (badC τ q (cV τ a) (cV τ b) → r = nI 0 ∧ u = τ) ∧ (¬ (badC τ q (cV τ a) (cV τ b)) → r = nI (boolN (fitsC τ q (cV τ a) (cV τ b) (cV τ d))) ∧ ∃ V n5, n5 < 2 ∧ cU (csN τ 5 n5) V u ∧ V 18 < rMod 0 ∧ V 19 < rMod 0 ∧ V 22 < rMod 0 ∧ V 23 < rMod 0 ∧ ∀ r, r < 18 → V r = cV τ r)) (fun u => cC K u) (cAA K)) ([.ref (cO K 0), .int (x1), .int (x2), .int (x3), .int (x4)] : List Value).toArray s 0 0 (cAA K)) (F0 m 29 ls []) := by
    intro H locs ls hw hl hn
    refine lv_iconst (v := -1) hx hb d_D_fits_29 (by decide) ?_
    refine z_iret (cZ K) hx hb hr hlocks τ hw ⟨fun _ => ⟨rfl, rfl⟩, fun q a b d w1 w2 w3 w4 e1 e2 e3 e4 => absurd ⟨?_, ?_, ?_, ?_⟩ hn⟩ d_D_fits_30
    · rw [e1]; exact okR_of w1 (by decide)
    · rw [e2]; exact okR_of w2 (by decide)
    · rw [e3]; exact okR_of w3 (by decide)
    · rw [e4]; exact okR_of w4 (by decide)
  refine lv_iload_n hx hb d_D_fits_0 rfl (lv_at hl 1 rfl) ?_
  refine c_si (np := 1) (As := [.int (x1)]) (rest := []) ⟨hx, hb, hml, hown, ht⟩ hw (c_D_isSpot l K τ x1) ⟨km_D_142, ks_D_isSpot, kc_D_isSpot⟩ ki_D (by decide +kernel) ⟨by decide, by decide⟩ rfl rfl rfl hl.1 rfl (Nat.le_of_ble_eq_true rfl) d_D_fits_1 ⟨Nat.le_refl _, Nat.le_refl _⟩ (fun r ux H locs hp hw => ?_)
  obtain ⟨hpu, rfl⟩ := hp
  rw [hpu] at hw
  clear hpu
  refine n_eq0 (tgt := 29) hx hb d_D_fits_4 (by decide) (boolN_s _) (fun c0 => hno _ _ ls hw hl (fun q => boolN_0 c0 q.1)) (fun c0 => ?_)
  refine lv_iload_n hx hb d_D_fits_7 rfl (lv_at hl 2 rfl) ?_
  refine c_si (np := 1) (As := [.int (x2)]) (rest := []) ⟨hx, hb, hml, hown, ht⟩ hw (c_D_isRegister l K τ x2) ⟨km_D_91, ks_D_isRegister, kc_D_isRegister⟩ ki_D (by decide +kernel) ⟨by decide, by decide⟩ rfl rfl rfl hl.1 rfl (Nat.le_of_ble_eq_true rfl) d_D_fits_8 ⟨Nat.le_refl _, Nat.le_refl _⟩ (fun r ux H locs hp hw => ?_)
  obtain ⟨hpu, rfl⟩ := hp
  rw [hpu] at hw
  clear hpu
  refine n_eq0 (tgt := 29) hx hb d_D_fits_11 (by decide) (boolN_s _) (fun c1 => hno _ _ ls hw hl (fun q => boolN_0 c1 q.2.1)) (fun c1 => ?_)
  refine lv_iload_n hx hb d_D_fits_14 rfl (lv_at hl 3 rfl) ?_
  refine c_si (np := 1) (As := [.int (x3)]) (rest := []) ⟨hx, hb, hml, hown, ht⟩ hw (c_D_isRegister l K τ x3) ⟨km_D_91, ks_D_isRegister, kc_D_isRegister⟩ ki_D (by decide +kernel) ⟨by decide, by decide⟩ rfl rfl rfl hl.1 rfl (Nat.le_of_ble_eq_true rfl) d_D_fits_15 ⟨Nat.le_refl _, Nat.le_refl _⟩ (fun r ux H locs hp hw => ?_)
  obtain ⟨hpu, rfl⟩ := hp
  rw [hpu] at hw
  clear hpu
  refine n_eq0 (tgt := 29) hx hb d_D_fits_18 (by decide) (boolN_s _) (fun c2 => hno _ _ ls hw hl (fun q => boolN_0 c2 q.2.2.1)) (fun c2 => ?_)
  refine lv_iload hx hb d_D_fits_21 (lv_at hl 4 rfl) ?_
  refine c_si (np := 1) (As := [.int (x4)]) (rest := []) ⟨hx, hb, hml, hown, ht⟩ hw (c_D_isRegister l K τ x4) ⟨km_D_91, ks_D_isRegister, kc_D_isRegister⟩ ki_D (by decide +kernel) ⟨by decide, by decide⟩ rfl rfl rfl hl.1 rfl (Nat.le_of_ble_eq_true rfl) d_D_fits_23 ⟨Nat.le_refl _, Nat.le_refl _⟩ (fun r ux H locs hp hw => ?_)
  obtain ⟨hpu, rfl⟩ := hp
  rw [hpu] at hw
  clear hpu
  refine n_ne0 (tgt := 31) hx hb d_D_fits_26 (by decide) (boolN_s _) (fun c3 => ?_) (fun c3 => hno _ _ ls hw hl (fun q => boolN_0 c3 q.2.2.2))
  have k0 := boolN_1 c0
  have k1 := boolN_1 c1
  have k2 := boolN_1 c2
  have k3 := boolN_1 c3
  clear hno c0 c1 c2 c3
  obtain ⟨q, lt_q, ex1⟩ := k0.ex (by decide)
  obtain ⟨a, lt_a, ex2⟩ := k1.ex (by decide)
  obtain ⟨b, lt_b, ex3⟩ := k2.ex (by decide)
  obtain ⟨d, lt_d, ex4⟩ := k3.ex (by decide)
  have hl2 := hl
  rw [ex1, ex2, ex3, ex4] at hl2
  have hl : lv_has ls 5 [(0, .ref (cO K 0)), (1, .int (nI (q))), (2, .int (nI (a))), (3, .int (nI (b))), (4, .int (nI (d)))] := hl2
  clear hl2
  have bad : ∀ (H : Heap) (locs : List Loc) (ls : Array Slot), badC τ q (cV τ a) (cV τ b) → cH K τ s H locs → lv_has ls 5 [(0, .ref (cO K 0)), (1, .int (nI (q))), (2, .int (nI (a))), (3, .int (nI (b))), (4, .int (nI (d)))] → W p l e (headSpec (zW y_D_fits b_D_fits 5 (some .int)) (zr 7 159)).room s m ([.ref (cO K 0), .int (x1), .int (x2), .int (x3), .int (x4)] : List Value).toArray below meth c H locs 0 0 (MQ below (va_Qi (fun r u => (¬ (okR x1 4 ∧ okR x2 8 ∧ okR x3 8 ∧ okR x4 8) → r = -1 ∧ u = τ) ∧ ∀ q a b d, q < 4 → a < 8 → b < 8 → d < 8 → x1 = nI q → x2 = nI a → x3 = nI b → x4 = nI d → (badC τ q (cV τ a) (cV τ b) → r = nI 0 ∧ u = τ) ∧ (¬ (badC τ q (cV τ a) (cV τ b)) → r = nI (boolN (fitsC τ q (cV τ a) (cV τ b) (cV τ d))) ∧ ∃ V n5, n5 < 2 ∧ cU (csN τ 5 n5) V u ∧ V 18 < rMod 0 ∧ V 19 < rMod 0 ∧ V 22 < rMod 0 ∧ V 23 < rMod 0 ∧ ∀ r, r < 18 → V r = cV τ r)) (fun u => cC K u) (cAA K)) ([.ref (cO K 0), .int (x1), .int (x2), .int (x3), .int (x4)] : List Value).toArray s 0 0 (cAA K)) (F0 m 69 ls []) := by
    intro H locs ls hn hw hl
    refine lv_iconst (v := nI 0) hx hb d_D_fits_69 (by decide) ?_
    refine z_iret (cZ K) hx hb hr hlocks τ hw ⟨fun h => absurd ⟨k0, k1, k2, k3⟩ h, fun q_ a_ b_ d_ w1 w2 w3 w4 e1 e2 e3 e4 => ?_⟩ d_D_fits_70
    have q_q_ : q_ = q := (nI_eq (by omega) (by omega)).mp (e1.symm.trans ex1)
    subst q_q_
    have q_a_ : a_ = a := (nI_eq (by omega) (by omega)).mp (e2.symm.trans ex2)
    subst q_a_
    have q_b_ : b_ = b := (nI_eq (by omega) (by omega)).mp (e3.symm.trans ex3)
    subst q_b_
    have q_d_ : d_ = d := (nI_eq (by omega) (by omega)).mp (e4.symm.trans ex4)
    subst q_d_
    exact ⟨fun _ => ⟨rfl, rfl⟩, fun q9 => absurd hn q9⟩
  have qn := hn2 q (by omega)
  refine lv_aload_n hx hb d_D_fits_31 rfl (lv_at hl 0 rfl) ?_
  refine va_get (ci := 4) (C := R_D) (T := F_D) (N := 10) (v := .ref (cO K 4)) hx hb ht ku_D hown hw.2.1 hw.1 0 rfl rfl 1 (by decide) (ht _ kf_D_16) (fun _ h9 => h9) rfl d_D_fits_32 ?_
  refine lv_iload_n hx hb d_D_fits_35 rfl (lv_at hl 1 rfl) ?_
  refine c_spt hx hb hw (i := q) (by omega) d_D_fits_36 ?_
  refine va_get (ci := 3) (C := R_P) (T := F_P) (N := 3) (v := .int (nI (cN τ q))) hx hb ht ku_P hown hw.2.1 hw.1 (8 + q) (cWs_pnt K _ (by omega)) rfl 0 (by decide) (ht _ kf_D_167) (fun _ h9 => h9) rfl d_D_fits_37 ?_
  refine n_ne0 (tgt := 69) hx hb d_D_fits_40 (by decide) (by omega) (fun c1 => bad _ _ ls (Or.inl c1) hw hl) (fun c1 => ?_)
  refine lv_aload_n hx hb d_D_fits_43 rfl (lv_at hl 0 rfl) ?_
  refine lv_aload_n hx hb d_D_fits_44 rfl (lv_at hl 0 rfl) ?_
  refine va_get (ci := 4) (C := R_D) (T := F_D) (N := 10) (v := .ref (cO K 3)) hx hb ht ku_D hown hw.2.1 hw.1 0 rfl rfl 0 (by decide) (ht _ kf_D_11) (fun _ h9 => h9) rfl d_D_fits_45 ?_
  refine lv_iload_n hx hb d_D_fits_48 rfl (lv_at hl 2 rfl) ?_
  refine c_reg hx hb hw (i := a) (by omega) d_D_fits_49 ?_
  refine c_ci (np := 1) (As := [.ref (cR K a)]) (rest := []) ⟨hx, hb, hml, hown, ht⟩ hw (c_D_isUnit l K τ hok (a := a) lt_a) 0 rfl rfl ⟨km_D_195, kv_D_isUnit, kx_D_isUnit, kc_D_isUnit⟩ ki_D (by decide +kernel) ⟨by decide, by decide⟩ rfl rfl rfl hl.1 rfl (Nat.le_of_ble_eq_true rfl) d_D_fits_50 ⟨Nat.le_refl _, Nat.le_refl _⟩ (fun r ux H locs hp hw => ?_)
  obtain ⟨hpu, rfl⟩ := hp
  rw [hpu] at hw
  clear hpu
  refine n_eq0 (tgt := 69) hx hb d_D_fits_53 (by decide) (boolN_s _) (fun c2 => bad _ _ ls ?_ hw hl) (fun c2 => ?_)
  · have c3 := boolN_0 c2
    by_cases q9 : cV τ a = 0
    · exact Or.inr (Or.inl q9)
    · exact Or.inr (Or.inr (Or.inr (Or.inl (fun q8 => c3 ⟨q9, q8⟩))))
  · have u2a := boolN_1 c2
    refine lv_aload_n hx hb d_D_fits_56 rfl (lv_at hl 0 rfl) ?_
    refine lv_aload_n hx hb d_D_fits_57 rfl (lv_at hl 0 rfl) ?_
    refine va_get (ci := 4) (C := R_D) (T := F_D) (N := 10) (v := .ref (cO K 3)) hx hb ht ku_D hown hw.2.1 hw.1 0 rfl rfl 0 (by decide) (ht _ kf_D_11) (fun _ h9 => h9) rfl d_D_fits_58 ?_
    refine lv_iload_n hx hb d_D_fits_61 rfl (lv_at hl 3 rfl) ?_
    refine c_reg hx hb hw (i := b) (by omega) d_D_fits_62 ?_
    refine c_ci (np := 1) (As := [.ref (cR K b)]) (rest := []) ⟨hx, hb, hml, hown, ht⟩ hw (c_D_isUnit l K τ hok (a := b) lt_b) 0 rfl rfl ⟨km_D_195, kv_D_isUnit, kx_D_isUnit, kc_D_isUnit⟩ ki_D (by decide +kernel) ⟨by decide, by decide⟩ rfl rfl rfl hl.1 rfl (Nat.le_of_ble_eq_true rfl) d_D_fits_63 ⟨Nat.le_refl _, Nat.le_refl _⟩ (fun r ux H locs hp hw => ?_)
    obtain ⟨hpu, rfl⟩ := hp
    rw [hpu] at hw
    clear hpu
    refine n_ne0 (tgt := 71) hx hb d_D_fits_66 (by decide) (boolN_s _) (fun c3 => ?_) (fun c3 => bad _ _ ls ?_ hw hl)
    · have u2b := boolN_1 c3
      have nb : ¬ (badC τ q (cV τ a) (cV τ b)) := by
        rintro (q9 | q9 | q9 | q9 | q9)
        · exact q9 c1
        · exact u2a.1 q9
        · exact u2b.1 q9
        · exact q9 u2a.2
        · exact q9 u2b.2
      clear bad
      refine lv_aload_n hx hb d_D_fits_71 rfl (lv_at hl 0 rfl) ?_
      refine va_get (ci := 4) (C := R_D) (T := F_D) (N := 10) (v := .ref (cO K 6)) hx hb ht ku_D hown hw.2.1 hw.1 0 rfl rfl 4 (by decide) (ht _ kf_D_55) (fun _ h9 => h9) rfl d_D_fits_72 ?_
      refine lv_aload_n hx hb d_D_fits_75 rfl (lv_at hl 0 rfl) ?_
      refine va_get (ci := 4) (C := R_D) (T := F_D) (N := 10) (v := .ref (cR K 21)) hx hb ht ku_D hown hw.2.1 hw.1 0 rfl rfl 9 (by decide) (ht _ kf_D_78) (fun _ h9 => h9) rfl d_D_fits_76 ?_
      refine lv_aload_n hx hb d_D_fits_79 rfl (lv_at hl 0 rfl) ?_
      refine va_get (ci := 4) (C := R_D) (T := F_D) (N := 10) (v := .ref (cO K 3)) hx hb ht ku_D hown hw.2.1 hw.1 0 rfl rfl 0 (by decide) (ht _ kf_D_11) (fun _ h9 => h9) rfl d_D_fits_80 ?_
      refine lv_iload_n hx hb d_D_fits_83 rfl (lv_at hl 3 rfl) ?_
      refine c_reg hx hb hw (i := b) (by omega) d_D_fits_84 ?_
      refine c_cv (np := 2) (As := [.ref (cR K 21), .ref (cR K b)]) (rest := []) ⟨hx, hb, hml, hown, ht⟩ hw (c_M_invert l K τ hok (μ := 1) (o := 21) (a := b) (by decide) (by decide) (by omega) (by omega) (by omega)) 6 rfl rfl ⟨km_D_132, kv_M_invert, kx_M_invert, kc_M_invert⟩ ki_M (by decide +kernel) ⟨by decide, by decide⟩ rfl rfl rfl hl.1 rfl (Nat.le_of_ble_eq_true rfl) d_D_fits_85 ⟨Nat.le_refl _, Nat.le_refl _⟩ (fun u1 H locs hp hw => ?_)
      obtain ⟨V1, hu1, f1, g1⟩ := qc_inv hp
      clear hp
      obtain ⟨S9, hS9⟩ : ∃ S9, S9 = cV τ b ^ (rMod 1 - 2) % rMod 1 := ⟨_, rfl⟩
      rw [← hS9] at f1
      refine lv_aload_n hx hb d_D_fits_88 rfl (lv_at hl 0 rfl) ?_
      refine va_get (ci := 4) (C := R_D) (T := F_D) (N := 10) (v := .ref (cR K 20)) hx hb ht ku_D hown hw.2.1 hw.1 0 rfl rfl 8 (by decide) (ht _ kf_D_75) (fun _ h9 => h9) rfl d_D_fits_89 ?_
      refine lv_aload_n hx hb d_D_fits_92 rfl (lv_at hl 0 rfl) ?_
      refine va_get (ci := 4) (C := R_D) (T := F_D) (N := 10) (v := .ref (cO K 3)) hx hb ht ku_D hown hw.2.1 hw.1 0 rfl rfl 0 (by decide) (ht _ kf_D_11) (fun _ h9 => h9) rfl d_D_fits_93 ?_
      refine lv_iload hx hb d_D_fits_96 (lv_at hl 4 rfl) ?_
      refine c_reg hx hb hw (i := d) (by omega) d_D_fits_98 ?_
      refine c_sv (np := 2) (As := [.ref (cR K 20), .ref (cR K d)]) (rest := []) ⟨hx, hb, hml, hown, ht⟩ hw (c_L_copy l K u1 hu1.2.1 (o := 20) (a := d) (by omega) (by omega)) ⟨km_D_139, ks_L_copy, kc_L_copy⟩ ki_L (by decide +kernel) ⟨by decide, by decide⟩ rfl rfl rfl hl.1 rfl (Nat.le_of_ble_eq_true rfl) d_D_fits_99 ⟨Nat.le_refl _, Nat.le_refl _⟩ (fun u2 H locs hp hw => ?_)
      obtain ⟨V2, hu2, f2, g2⟩ := qc_copy hu1 (by omega) (by omega) (by omega) hp
      rw [g1 d (by omega) (by omega)] at f2
      clear hp hu1
      refine lv_aload_n hx hb d_D_fits_102 rfl (lv_at hl 0 rfl) ?_
      refine va_get (ci := 4) (C := R_D) (T := F_D) (N := 10) (v := .ref (cO K 6)) hx hb ht ku_D hown hw.2.1 hw.1 0 rfl rfl 4 (by decide) (ht _ kf_D_55) (fun _ h9 => h9) rfl d_D_fits_103 ?_
      refine lv_aload_n hx hb d_D_fits_106 rfl (lv_at hl 0 rfl) ?_
      refine va_get (ci := 4) (C := R_D) (T := F_D) (N := 10) (v := .ref (cR K 20)) hx hb ht ku_D hown hw.2.1 hw.1 0 rfl rfl 8 (by decide) (ht _ kf_D_75) (fun _ h9 => h9) rfl d_D_fits_107 ?_
      refine c_cv (np := 1) (As := [.ref (cR K 20)]) (rest := []) ⟨hx, hb, hml, hown, ht⟩ hw (c_M_bringBelow l K u2 hu2.2.1 (μ := 1) (o := 20) (by decide) (by decide)) 6 rfl rfl ⟨km_D_112, kv_M_bringBelow, kx_M_bringBelow, kc_M_bringBelow⟩ ki_M (by decide +kernel) ⟨by decide, by decide⟩ rfl rfl rfl hl.1 rfl (Nat.le_of_ble_eq_true rfl) d_D_fits_110 ⟨Nat.le_refl _, Nat.le_refl _⟩ (fun u3 H locs hp hw => ?_)
      rw [hu2.v (show 20 < 30 ∨ 33 < 20 by decide), f2] at hp
      obtain ⟨V3, hu3, f3, g3⟩ := qc_set hu2 (by decide) (Nat.lt_trans (Nat.mod_lt _ (rMod_pos (by decide))) (rMod8 (by decide)).1) hp
      clear hp hu2
      refine lv_aload_n hx hb d_D_fits_113 rfl (lv_at hl 0 rfl) ?_
      refine va_get (ci := 4) (C := R_D) (T := F_D) (N := 10) (v := .ref (cO K 6)) hx hb ht ku_D hown hw.2.1 hw.1 0 rfl rfl 4 (by decide) (ht _ kf_D_55) (fun _ h9 => h9) rfl d_D_fits_114 ?_
      refine lv_aload_n hx hb d_D_fits_117 rfl (lv_at hl 0 rfl) ?_
      refine va_get (ci := 4) (C := R_D) (T := F_D) (N := 10) (v := .ref (cR K 20)) hx hb ht ku_D hown hw.2.1 hw.1 0 rfl rfl 8 (by decide) (ht _ kf_D_75) (fun _ h9 => h9) rfl d_D_fits_118 ?_
      refine lv_aload_n hx hb d_D_fits_121 rfl (lv_at hl 0 rfl) ?_
      refine va_get (ci := 4) (C := R_D) (T := F_D) (N := 10) (v := .ref (cR K 20)) hx hb ht ku_D hown hw.2.1 hw.1 0 rfl rfl 8 (by decide) (ht _ kf_D_75) (fun _ h9 => h9) rfl d_D_fits_122 ?_
      refine lv_aload_n hx hb d_D_fits_125 rfl (lv_at hl 0 rfl) ?_
      refine va_get (ci := 4) (C := R_D) (T := F_D) (N := 10) (v := .ref (cR K 21)) hx hb ht ku_D hown hw.2.1 hw.1 0 rfl rfl 9 (by decide) (ht _ kf_D_78) (fun _ h9 => h9) rfl d_D_fits_126 ?_
      refine c_cv (np := 3) (As := [.ref (cR K 20), .ref (cR K 20), .ref (cR K 21)]) (rest := []) ⟨hx, hb, hml, hown, ht⟩ hw (c_M_multiply l K u3 hu3.2.1 (μ := 1) (o := 20) (a := 20) (b := 21) (by decide) (by decide) (by decide) (by decide) (by decide) (by decide)) 6 rfl rfl ⟨km_D_129, kv_M_multiply, kx_M_multiply, kc_M_multiply⟩ ki_M (by decide +kernel) ⟨by decide, by decide⟩ rfl rfl rfl hl.1 rfl (Nat.le_of_ble_eq_true rfl) d_D_fits_129 ⟨Nat.le_refl _, Nat.le_refl _⟩ (fun u4 H locs hp hw => ?_)
      obtain ⟨V4, hu4, f4, g4⟩ := qc_mul hu3 (by decide) (by decide) hp
      rw [f3, g3 21 (by decide), g2 21 (by decide), f1] at f4
      clear hp hu3
      refine lv_aload_n hx hb d_D_fits_132 rfl (lv_at hl 0 rfl) ?_
      refine va_get (ci := 4) (C := R_D) (T := F_D) (N := 10) (v := .ref (cO K 6)) hx hb ht ku_D hown hw.2.1 hw.1 0 rfl rfl 4 (by decide) (ht _ kf_D_55) (fun _ h9 => h9) rfl d_D_fits_133 ?_
      refine lv_aload_n hx hb d_D_fits_136 rfl (lv_at hl 0 rfl) ?_
      refine va_get (ci := 4) (C := R_D) (T := F_D) (N := 10) (v := .ref (cR K 21)) hx hb ht ku_D hown hw.2.1 hw.1 0 rfl rfl 9 (by decide) (ht _ kf_D_78) (fun _ h9 => h9) rfl d_D_fits_137 ?_
      refine lv_aload_n hx hb d_D_fits_140 rfl (lv_at hl 0 rfl) ?_
      refine va_get (ci := 4) (C := R_D) (T := F_D) (N := 10) (v := .ref (cR K 21)) hx hb ht ku_D hown hw.2.1 hw.1 0 rfl rfl 9 (by decide) (ht _ kf_D_78) (fun _ h9 => h9) rfl d_D_fits_141 ?_
      refine lv_aload_n hx hb d_D_fits_144 rfl (lv_at hl 0 rfl) ?_
      refine va_get (ci := 4) (C := R_D) (T := F_D) (N := 10) (v := .ref (cO K 3)) hx hb ht ku_D hown hw.2.1 hw.1 0 rfl rfl 0 (by decide) (ht _ kf_D_11) (fun _ h9 => h9) rfl d_D_fits_145 ?_
      refine lv_iload_n hx hb d_D_fits_148 rfl (lv_at hl 2 rfl) ?_
      refine c_reg hx hb hw (i := a) (by omega) d_D_fits_149 ?_
      refine c_cv (np := 3) (As := [.ref (cR K 21), .ref (cR K 21), .ref (cR K a)]) (rest := []) ⟨hx, hb, hml, hown, ht⟩ hw (c_M_multiply l K u4 hu4.2.1 (μ := 1) (o := 21) (a := 21) (b := a) (by decide) (by decide) (by decide) (by decide) (by omega) (by omega)) 6 rfl rfl ⟨km_D_129, kv_M_multiply, kx_M_multiply, kc_M_multiply⟩ ki_M (by decide +kernel) ⟨by decide, by decide⟩ rfl rfl rfl hl.1 rfl (Nat.le_of_ble_eq_true rfl) d_D_fits_150 ⟨Nat.le_refl _, Nat.le_refl _⟩ (fun u5 H locs hp hw => ?_)
      obtain ⟨V5, hu5, f5, g5⟩ := qc_mul hu4 (by decide) (by omega) hp
      rw [g4 21 (by decide), g3 21 (by decide), g2 21 (by decide), f1, g4 a (by omega), g3 a (by omega), g2 a (by omega), g1 a (by omega) (by omega)] at f5
      have K5 : ∀ r, r ≠ 20 → r ≠ 21 → r ≠ 29 → V5 r = cV τ r := fun r a b c => (g5 r b).trans ((g4 r a).trans ((g3 r a).trans ((g2 r a).trans (g1 r b c))))
      have v20 : cV u5 20 = fU1 (cV τ d) (cV τ b) := by rw [hu5.v (by decide), g5 20 (by decide), f4, hS9, fU1_eq]
      have v21 : cV u5 21 = fU2 (cV τ a) (cV τ b) := by rw [hu5.v (by decide), f5, hS9, fU2_eq]
      clear hp hu4 f1 f2 f3 f4 f5 g1 g2 g3 g4 g5
      have vK : ∀ r, r < 20 ∨ r = 22 ∨ r = 23 → cV u5 r = cV τ r := fun r hr => (hu5.v (by omega)).trans (K5 r (by omega) (by omega) (by omega))
      have eN : cN u5 = cN τ := hu5.2.2.1
      have ePt : ∀ j, j < 6 → cPt u5 j = cPt τ j := fun j hj => by unfold cPt; rw [eN, vK _ (by omega), vK _ (by omega)]
      refine lv_aload_n hx hb d_D_fits_153 rfl (lv_at hl 0 rfl) ?_
      refine va_get (ci := 4) (C := R_D) (T := F_D) (N := 10) (v := .ref (cO K 7)) hx hb ht ku_D hown hw.2.1 hw.1 0 rfl rfl 5 (by decide) (ht _ kf_D_63) (fun _ h9 => h9) rfl d_D_fits_154 ?_
      refine lv_aload_n hx hb d_D_fits_157 rfl (lv_at hl 0 rfl) ?_
      refine va_get (ci := 4) (C := R_D) (T := F_D) (N := 10) (v := .ref (cO K 13)) hx hb ht ku_D hown hw.2.1 hw.1 0 rfl rfl 7 (by decide) (ht _ kf_D_72) (fun _ h9 => h9) rfl d_D_fits_158 ?_
      refine lv_aload_n hx hb d_D_fits_161 rfl (lv_at hl 0 rfl) ?_
      refine va_get (ci := 4) (C := R_D) (T := F_D) (N := 10) (v := .ref (cR K 20)) hx hb ht ku_D hown hw.2.1 hw.1 0 rfl rfl 8 (by decide) (ht _ kf_D_75) (fun _ h9 => h9) rfl d_D_fits_162 ?_
      refine lv_aload_n hx hb d_D_fits_165 rfl (lv_at hl 0 rfl) ?_
      refine va_get (ci := 4) (C := R_D) (T := F_D) (N := 10) (v := .ref (cO K 12)) hx hb ht ku_D hown hw.2.1 hw.1 0 rfl rfl 6 (by decide) (ht _ kf_D_68) (fun _ h9 => h9) rfl d_D_fits_166 ?_
      refine lv_aload_n hx hb d_D_fits_169 rfl (lv_at hl 0 rfl) ?_
      refine va_get (ci := 4) (C := R_D) (T := F_D) (N := 10) (v := .ref (cR K 21)) hx hb ht ku_D hown hw.2.1 hw.1 0 rfl rfl 9 (by decide) (ht _ kf_D_78) (fun _ h9 => h9) rfl d_D_fits_170 ?_
      refine lv_aload_n hx hb d_D_fits_173 rfl (lv_at hl 0 rfl) ?_
      refine va_get (ci := 4) (C := R_D) (T := F_D) (N := 10) (v := .ref (cO K 4)) hx hb ht ku_D hown hw.2.1 hw.1 0 rfl rfl 1 (by decide) (ht _ kf_D_16) (fun _ h9 => h9) rfl d_D_fits_174 ?_
      refine lv_iload_n hx hb d_D_fits_177 rfl (lv_at hl 1 rfl) ?_
      refine c_spt hx hb hw (i := q) (by omega) d_D_fits_178 ?_
      refine c_cv (np := 5) (As := [.ref (cO K 13), .ref (cR K 20), .ref (cO K 12), .ref (cR K 21), .ref (cO K (8 + q))]) (rest := []) ⟨hx, hb, hml, hown, ht⟩ hw (c_C_addMultiples l K u5 hu5.2.1 (j := 5) (a0 := 4) (b0 := q) (k0 := 20) (l0 := 21) (by decide) (by decide) (by omega) (by decide) (by decide) (by decide) (by decide) (by rw [eN]; exact hn2) (fun r a b => by rw [vK r (by omega)]; exact hpt r a b) (by rw [vK 22 (by decide)]; exact h22) (by rw [vK 23 (by decide)]; exact h23)) 7 rfl rfl ⟨km_D_159, kv_C_addMultiples, kx_C_addMultiples, kc_C_addMultiples⟩ ki_C (by decide +kernel) ⟨by decide, by decide⟩ rfl rfl rfl hl.1 rfl (Nat.le_of_ble_eq_true rfl) d_D_fits_179 ⟨Nat.le_refl _, Nat.le_refl _⟩ (fun u6 H locs hp hw => ?_)
      rw [v20, v21, ePt 4 (by decide), ePt q (by omega), vK 22 (by decide), vK 23 (by decide)] at hp
      obtain ⟨T, hT⟩ : ∃ T, T = cFt τ q (cV τ a) (cV τ b) (cV τ d) := ⟨_, rfl⟩
      have hp : cPut u5 5 (cFt τ q (cV τ a) (cV τ b) (cV τ d)) u6 := hp
      rw [← hT] at hp
      obtain ⟨V6, hU, p1, p2, p3, p4⟩ := hp
      have hu6 : cU (csN τ 5 (boolN (T.2.2 = 0))) V6 u6 := ⟨hU.1, hU.2.1, by rw [hU.2.2.1]; show va_up (cN u5) 5 _ = va_up (cN τ) 5 _; rw [eN], hU.2.2.2.1.trans hu5.2.2.2.1, hU.2.2.2.2.trans hu5.2.2.2.2⟩
      have hM0 : 0 < rMod 0 := rMod_pos (by decide)
      have b1819 : V6 18 < rMod 0 ∧ V6 19 < rMod 0 := by
        by_cases q9 : T.2.2 = 0
        · have := p2 q9
          exact ⟨by rw [show V6 18 = cV u5 18 from this.1, vK 18 (by decide)]; exact hpt 18 (by decide) (by decide), by rw [show V6 19 = cV u5 19 from this.2, vK 19 (by decide)]; exact hpt 19 (by decide) (by decide)⟩
        · have := p1 q9
          exact ⟨by rw [show V6 18 = _ from this.1]; exact mm_lt hM0, by rw [show V6 19 = _ from this.2]; exact mm_lt hM0⟩
      have K6 : ∀ r, r < 18 → V6 r = cV τ r := fun r hr => (p4 r (by omega) (by omega) (by omega)).trans (vK r (by omega))
      have n6 : cN u6 5 = boolN (T.2.2 = 0) := by rw [hu6.2.2.1]; show va_up (cN τ) 5 (boolN (T.2.2 = 0)) 5 = _; exact up_self _ _ _
      refine lv_aload_n hx hb d_D_fits_182 rfl (lv_at hl 0 rfl) ?_
      refine va_get (ci := 4) (C := R_D) (T := F_D) (N := 10) (v := .ref (cO K 13)) hx hb ht ku_D hown hw.2.1 hw.1 0 rfl rfl 7 (by decide) (ht _ kf_D_72) (fun _ h9 => h9) rfl d_D_fits_183 ?_
      refine va_get (ci := 3) (C := R_P) (T := F_P) (N := 3) (v := .int (nI (cN u6 5))) hx hb ht ku_P hown hw.2.1 hw.1 13 rfl rfl 0 (by decide) (ht _ kf_D_167) (fun _ h9 => h9) rfl d_D_fits_186 ?_
      refine tp_i (y := nI (boolN (T.2.2 = 0))) (by rw [n6]) ?_
      refine n_eq0 (tgt := 194) hx hb d_D_fits_189 (by decide) (boolN_s _) (fun c4 => ?_) (fun c4 => ?_)
      · have c5 := boolN_0 c4
        refine lv_aload_n hx hb d_D_fits_194 rfl (lv_at hl 0 rfl) ?_
        refine va_get (ci := 4) (C := R_D) (T := F_D) (N := 10) (v := .ref (cR K 20)) hx hb ht ku_D hown hw.2.1 hw.1 0 rfl rfl 8 (by decide) (ht _ kf_D_75) (fun _ h9 => h9) rfl d_D_fits_195 ?_
        refine lv_aload_n hx hb d_D_fits_198 rfl (lv_at hl 0 rfl) ?_
        refine va_get (ci := 4) (C := R_D) (T := F_D) (N := 10) (v := .ref (cO K 13)) hx hb ht ku_D hown hw.2.1 hw.1 0 rfl rfl 7 (by decide) (ht _ kf_D_72) (fun _ h9 => h9) rfl d_D_fits_199 ?_
        refine va_get (ci := 3) (C := R_P) (T := F_P) (N := 3) (v := .ref (cR K 18)) hx hb ht ku_P hown hw.2.1 hw.1 13 rfl rfl 1 (by decide) (ht _ kf_D_171) (fun _ h9 => h9) rfl d_D_fits_202 ?_
        refine c_sv (np := 2) (As := [.ref (cR K 20), .ref (cR K 18)]) (rest := []) ⟨hx, hb, hml, hown, ht⟩ hw (c_L_copy l K u6 hu6.2.1 (o := 20) (a := 18) (by omega) (by omega)) ⟨km_D_139, ks_L_copy, kc_L_copy⟩ ki_L (by decide +kernel) ⟨by decide, by decide⟩ rfl rfl rfl hl.1 rfl (Nat.le_of_ble_eq_true rfl) d_D_fits_205 ⟨Nat.le_refl _, Nat.le_refl _⟩ (fun u7 H locs hp hw => ?_)
        obtain ⟨V7, hu7, f7, g7⟩ := qc_copy hu6 (by omega) (by omega) (by omega) hp
        clear hp
        refine lv_aload_n hx hb d_D_fits_208 rfl (lv_at hl 0 rfl) ?_
        refine va_get (ci := 4) (C := R_D) (T := F_D) (N := 10) (v := .ref (cO K 6)) hx hb ht ku_D hown hw.2.1 hw.1 0 rfl rfl 4 (by decide) (ht _ kf_D_55) (fun _ h9 => h9) rfl d_D_fits_209 ?_
        refine lv_aload_n hx hb d_D_fits_212 rfl (lv_at hl 0 rfl) ?_
        refine va_get (ci := 4) (C := R_D) (T := F_D) (N := 10) (v := .ref (cR K 20)) hx hb ht ku_D hown hw.2.1 hw.1 0 rfl rfl 8 (by decide) (ht _ kf_D_75) (fun _ h9 => h9) rfl d_D_fits_213 ?_
        refine c_cv (np := 1) (As := [.ref (cR K 20)]) (rest := []) ⟨hx, hb, hml, hown, ht⟩ hw (c_M_bringBelow l K u7 hu7.2.1 (μ := 1) (o := 20) (by decide) (by decide)) 6 rfl rfl ⟨km_D_112, kv_M_bringBelow, kx_M_bringBelow, kc_M_bringBelow⟩ ki_M (by decide +kernel) ⟨by decide, by decide⟩ rfl rfl rfl hl.1 rfl (Nat.le_of_ble_eq_true rfl) d_D_fits_216 ⟨Nat.le_refl _, Nat.le_refl _⟩ (fun u8 H locs hp hw => ?_)
        rw [hu7.v (show 20 < 30 ∨ 33 < 20 by decide), f7, show V6 18 = _ from (p1 c5).1] at hp
        obtain ⟨V8, hu8, f8, g8⟩ := qc_set hu7 (by decide) (Nat.lt_trans (Nat.mod_lt _ (rMod_pos (by decide))) (rMod8 (by decide)).1) hp
        clear hp
        have K8 : ∀ r, r ≠ 20 → V8 r = V6 r := fun r h => (g8 r h).trans (g7 r h)
        have fit : (cV u8 20 = cV u8 a) ↔ fitsC τ q (cV τ a) (cV τ b) (cV τ d) := by
          unfold fitsC
          rw [← hT, hu8.v (by decide), f8, hu8.v (by omega), K8 a (by omega), K6 a (by omega)]
          exact ⟨fun q9 => ⟨c5, q9⟩, fun q9 => q9.2⟩
        refine lv_aload_n hx hb d_D_fits_219 rfl (lv_at hl 0 rfl) ?_
        refine va_get (ci := 4) (C := R_D) (T := F_D) (N := 10) (v := .ref (cR K 20)) hx hb ht ku_D hown hw.2.1 hw.1 0 rfl rfl 8 (by decide) (ht _ kf_D_75) (fun _ h9 => h9) rfl d_D_fits_220 ?_
        refine lv_aload_n hx hb d_D_fits_223 rfl (lv_at hl 0 rfl) ?_
        refine va_get (ci := 4) (C := R_D) (T := F_D) (N := 10) (v := .ref (cO K 3)) hx hb ht ku_D hown hw.2.1 hw.1 0 rfl rfl 0 (by decide) (ht _ kf_D_11) (fun _ h9 => h9) rfl d_D_fits_224 ?_
        refine lv_iload_n hx hb d_D_fits_227 rfl (lv_at hl 2 rfl) ?_
        refine c_reg hx hb hw (i := a) (by omega) d_D_fits_228 ?_
        refine c_si (np := 2) (As := [.ref (cR K 20), .ref (cR K a)]) (rest := []) ⟨hx, hb, hml, hown, ht⟩ hw (c_L_areSame l K u8 hu8.2.1 (a := 20) (b := a) (by decide) (by decide) (by omega) (by omega)) ⟨km_D_198, ks_L_areSame, kc_L_areSame⟩ ki_L (by decide +kernel) ⟨by decide, by decide⟩ rfl rfl rfl hl.1 rfl (Nat.le_of_ble_eq_true rfl) d_D_fits_229 ⟨Nat.le_refl _, Nat.le_refl _⟩ (fun r ux H locs hp hw => ?_)
        obtain ⟨hpu, rfl⟩ := hp
        rw [hpu] at hw
        clear hpu
        have hV : ∀ w : cT, w = u8 → ∃ V n5, n5 < 2 ∧ cU (csN τ 5 n5) V w ∧ V 18 < rMod 0 ∧ V 19 < rMod 0 ∧ V 22 < rMod 0 ∧ V 23 < rMod 0 ∧ ∀ r, r < 18 → V r = cV τ r := fun w hw9 => by
          rw [hw9]
          exact ⟨V8, _, boolN_lt _, hu8, by rw [K8 18 (by decide)]; exact b1819.1, by rw [K8 19 (by decide)]; exact b1819.2, by rw [K8 22 (by decide)]; exact p3.1, by rw [K8 23 (by decide)]; exact p3.2.1, fun r hr => (K8 r (by omega)).trans (K6 r hr)⟩
        refine n_eq0 (tgt := 239) hx hb d_D_fits_232 (by decide) (boolN_s _) (fun c6 => ?_) (fun c6 => ?_)
        · refine lv_iconst (v := nI 0) hx hb d_D_fits_239 (by decide) ?_
          have c7 := fun q9 => boolN_0 c6 (fit.mpr q9)
          have hV9 := hV u8 rfl
          refine z_iret (cZ K) hx hb hr hlocks u8 hw ⟨fun h => absurd ⟨k0, k1, k2, k3⟩ h, fun q_ a_ b_ d_ w1 w2 w3 w4 e1 e2 e3 e4 => ?_⟩ d_D_fits_240
          have q_q_ : q_ = q := (nI_eq (by omega) (by omega)).mp (e1.symm.trans ex1)
          subst q_q_
          have q_a_ : a_ = a := (nI_eq (by omega) (by omega)).mp (e2.symm.trans ex2)
          subst q_a_
          have q_b_ : b_ = b := (nI_eq (by omega) (by omega)).mp (e3.symm.trans ex3)
          subst q_b_
          have q_d_ : d_ = d := (nI_eq (by omega) (by omega)).mp (e4.symm.trans ex4)
          subst q_d_
          exact ⟨fun q9 => absurd q9 nb, fun _ => ⟨by rw [boolN_f c7], hV9⟩⟩
        · refine lv_iconst (v := nI 1) hx hb d_D_fits_235 (by decide) ?_
          refine lv_goto (tgt := 240) hx hb d_D_fits_236 (by decide) ?_
          have c7 := fit.mp (boolN_1 c6)
          have hV9 := hV u8 rfl
          refine z_iret (cZ K) hx hb hr hlocks u8 hw ⟨fun h => absurd ⟨k0, k1, k2, k3⟩ h, fun q_ a_ b_ d_ w1 w2 w3 w4 e1 e2 e3 e4 => ?_⟩ d_D_fits_240
          have q_q_ : q_ = q := (nI_eq (by omega) (by omega)).mp (e1.symm.trans ex1)
          subst q_q_
          have q_a_ : a_ = a := (nI_eq (by omega) (by omega)).mp (e2.symm.trans ex2)
          subst q_a_
          have q_b_ : b_ = b := (nI_eq (by omega) (by omega)).mp (e3.symm.trans ex3)
          subst q_b_
          have q_d_ : d_ = d := (nI_eq (by omega) (by omega)).mp (e4.symm.trans ex4)
          subst q_d_
          exact ⟨fun q9 => absurd q9 nb, fun _ => ⟨by rw [boolN_t c7], hV9⟩⟩
      · have c5 := boolN_1 c4
        refine lv_iconst (v := nI 0) hx hb d_D_fits_192 (by decide) ?_
        have c7 : ¬ fitsC τ q (cV τ a) (cV τ b) (cV τ d) := by unfold fitsC; rw [← hT]; exact fun q9 => q9.1 c5
        have hV9 : ∃ V n5, n5 < 2 ∧ cU (csN τ 5 n5) V u6 ∧ V 18 < rMod 0 ∧ V 19 < rMod 0 ∧ V 22 < rMod 0 ∧ V 23 < rMod 0 ∧ ∀ r, r < 18 → V r = cV τ r := ⟨V6, _, boolN_lt _, hu6, b1819.1, b1819.2, p3.1, p3.2.1, K6⟩
        refine z_iret (cZ K) hx hb hr hlocks u6 hw ⟨fun h => absurd ⟨k0, k1, k2, k3⟩ h, fun q_ a_ b_ d_ w1 w2 w3 w4 e1 e2 e3 e4 => ?_⟩ d_D_fits_193
        have q_q_ : q_ = q := (nI_eq (by omega) (by omega)).mp (e1.symm.trans ex1)
        subst q_q_
        have q_a_ : a_ = a := (nI_eq (by omega) (by omega)).mp (e2.symm.trans ex2)
        subst q_a_
        have q_b_ : b_ = b := (nI_eq (by omega) (by omega)).mp (e3.symm.trans ex3)
        subst q_b_
        have q_d_ : d_ = d := (nI_eq (by omega) (by omega)).mp (e4.symm.trans ex4)
        subst q_d_
        exact ⟨fun q9 => absurd q9 nb, fun _ => ⟨by rw [boolN_f c7], hV9⟩⟩
    · have c4 := boolN_0 c3
      by_cases q9 : cV τ b = 0
      · exact Or.inr (Or.inr (Or.inl q9))
      · exact Or.inr (Or.inr (Or.inr (Or.inr (fun q8 => c4 ⟨q9, q8⟩))))
