/-! the modulus: multiply, raise, invert -/
/-- u is τ with the rows V; the rows that the moduli work in may hold anything -/
def cU (τ : cT) (V : Nat → Nat) (u : cT) : Prop := (∀ i, i < 30 ∨ 33 < i → cV u i = V i) ∧ cOk u ∧ cN u = cN τ ∧ cB u = cB τ ∧ cM u = cM τ
theorem cU.refl {τ : cT} (h : cOk τ) : cU τ (cV τ) τ := ⟨fun _ _ => rfl, h, rfl, rfl, rfl⟩
theorem cU.trans {τ u w : cT} {V V2 : Nat → Nat} (h : cU τ V u) (h2 : cU u V2 w) : cU τ V2 w := ⟨h2.1, h2.2.1, h2.2.2.1.trans h.2.2.1, h2.2.2.2.1.trans h.2.2.2.1, h2.2.2.2.2.trans h.2.2.2.2⟩
theorem cU.v {τ u : cT} {V : Nat → Nat} (h : cU τ V u) {i : Nat} (hi : i < 30 ∨ 33 < i) : cV u i = V i := h.1 i hi
theorem cU.re {τ u : cT} {V V2 : Nat → Nat} (h : cU τ V u) (hV : ∀ i, i < 30 ∨ 33 < i → V i = V2 i) : cU τ V2 u := ⟨fun i hi => (h.1 i hi).trans (hV i hi), h.2⟩
theorem cU.set {τ u w : cT} {V : Nat → Nat} (h : cU τ V u) {o x : Nat} (ho : o < 30) (hx : x < W8) (hw : w = csV u o x) : cU τ (va_up V o x) w := by
  subst hw
  refine ⟨fun i hi => ?_, h.2.1.u8 (by omega) hx, h.2.2.1, h.2.2.2.1, h.2.2.2.2⟩
  rw [cV_up x (by omega)]
  unfold va_up
  split
  · rfl
  · exact h.1 i hi
theorem cU.up {τ u w : cT} {V : Nat → Nat} (h : cU τ V u) {o x : Nat} (h2 : cU u (va_up (cV u) o x) w) : cU τ (va_up V o x) w := by
  refine (h.trans h2).re (fun i hi => ?_)
  unfold va_up
  split
  · rfl
  · exact h.1 i hi
theorem mod8 {x : Nat} (h : x < W8) : x % b32 ^ 8 = x := Nat.mod_eq_of_lt h
theorem W8W : W8 * W8 = b32 ^ 16 := by decide
theorem W8_9 : 3 * W8 ≤ b32 ^ 9 := by decide
set_option maxHeartbeats 4000000 in
set_option maxRecDepth 100000 in
theorem c_M_multiply (l : Launch) (K : cG) (τ : cT) (hok : cOk τ) {μ o a b : Nat} (hμ : μ < 2) (ho : o < 30) (ha : a < 30 ∨ 34 ≤ a) (ha2 : a < 44) (hb0 : b < 30 ∨ 34 ≤ b) (hb2 : b < 44) : Met l y_M_multiply (zW y_M_multiply b_M_multiply 5 none) (zr 3 64) (va_Pc [.ref (cO K (5 + μ)), .ref (cR K o), .ref (cR K a), .ref (cR K b)] (cC K τ)) (va_Qv (fun u => cU τ (va_up (cV τ) o (mm (rMod μ) (cV τ a) (cV τ b))) u) (fun u => cC K u) (cAA K)) 0 0 (cAA K) := by
  refine Met.ofW (cc := b_M_multiply) (maxL := 5) (ret := none) (by decide) rfl ?_
  intro p e s m args below meth c s₁ B hml hv
  obtain ⟨rfl, hw⟩ := hv
  have hx := B.exec
  have hb := B.bytes
  have hr := B.returns
  have hts := atoms_spec (ws := zW y_M_multiply b_M_multiply 5 none) B.pre
  have ht : ∀ w ∈ zT, w.before ([.ref (cO K (5 + μ)), .ref (cR K o), .ref (cR K a), .ref (cR K b)] : List Value).toArray s = true := fun w h => hts w (List.mem_cons_of_mem _ h)
  have hown : s.vm.findClass R_M = some m.cls := findClass_of_methodNamed B.named
  have hlocks := B.notSynchronized
  have hl := lv_entry ([.ref (cO K (5 + μ)), .ref (cR K o), .ref (cR K a), .ref (cR K b)]) (n := 5) (Nat.le_of_ble_eq_true rfl)
  rw [lg_entry_eq]
  generalize (lg_sl ([.ref (cO K (5 + μ)), .ref (cR K o), .ref (cR K a), .ref (cR K b)]) ++ List.replicate (5 - (lg_sl ([.ref (cO K (5 + μ)), .ref (cR K o), .ref (cR K a), .ref (cR K b)])).length) Slot.unset).toArray = ls at hl ⊢
  have hl : lv_has ls 5 [(0, .ref (cO K (5 + μ))), (1, .ref (cR K o)), (2, .ref (cR K a)), (3, .ref (cR K b))] := hl
  have rw16 := rl_w hμ
  have rg := rl_g hμ
  have ra : rl a = 8 := rl_8 (by omega) ha2
  have rb : rl b = 8 := rl_8 (by omega) hb2
  have hA : cV τ a < b32 ^ 8 := cV_lt hok (by omega) ha2
  have hB : cV τ b < b32 ^ 8 := cV_lt hok (by omega) hb2
  have hM := rMod8 hμ
  have hG := cGap_sq hμ
  have hGe := cGap_eq hμ
  have fin : ∀ (H : Heap) (locs : List Loc) (ls : Array Slot), cH K (csV τ (32 + μ) (cV τ a * cV τ b)) s H locs → lv_has ls 5 [(0, .ref (cO K (5 + μ))), (1, .ref (cR K o)), (2, .ref (cR K a)), (3, .ref (cR K b))] → W p l e (headSpec (zW y_M_multiply b_M_multiply 5 none) (zr 3 64)).room s m ([.ref (cO K (5 + μ)), .ref (cR K o), .ref (cR K a), .ref (cR K b)] : List Value).toArray below meth c H locs 0 0 (MQ below (va_Qv (fun u => cU τ (va_up (cV τ) o (mm (rMod μ) (cV τ a) (cV τ b))) u) (fun u => cC K u) (cAA K)) ([.ref (cO K (5 + μ)), .ref (cR K o), .ref (cR K a), .ref (cR K b)] : List Value).toArray s 0 0 (cAA K)) (F0 m 56 ls []) := by
    intro H locs ls hw hl
    have p0 : cV τ a * cV τ b < W8 * W8 := Nat.mul_lt_mul'' hA hB
    have p1 := fo_1 (G := cGap μ) W8_pos p0
    have p2 := fo_2 W8_pos hG.1 p1
    have p3 := fo_3 (G := cGap μ) W8_pos p2
    have p4 := fo_4 hG.2 p3
    have m4 : (fo W8 (cGap μ) (fo W8 (cGap μ) (fo W8 (cGap μ) (fo W8 (cGap μ) (cV τ a * cV τ b))))) % rMod μ = cV τ a * cV τ b % rMod μ := by rw [fo_mod hGe, fo_mod hGe, fo_mod hGe, fo_mod hGe]
    generalize q4 : (fo W8 (cGap μ) (fo W8 (cGap μ) (fo W8 (cGap μ) (fo W8 (cGap μ) (cV τ a * cV τ b))))) = T4 at p4 m4
    generalize q3 : (fo W8 (cGap μ) (fo W8 (cGap μ) (fo W8 (cGap μ) (cV τ a * cV τ b)))) = T3 at p3 q4
    generalize q2 : (fo W8 (cGap μ) (fo W8 (cGap μ) (cV τ a * cV τ b))) = T2 at p2 q3
    generalize q1 : (fo W8 (cGap μ) (cV τ a * cV τ b)) = T1 at p1 q2
    generalize q0 : cV τ a * cV τ b = T at p0 q1 m4 hw
    have o0 : cOk (csV τ (32 + μ) T) := hok.up (by omega) (by rw [rw16, ← W8W]; exact p0)
    obtain ⟨σ, hσ⟩ : ∃ σ, σ = csV τ (32 + μ) T := ⟨_, rfl⟩
    rw [← hσ] at hw o0
    have s0 : cV σ (32 + μ) = T := by rw [hσ]; exact cV_self _ (by omega)
    have k0 : ∀ i, i < 30 ∨ 33 < i → cV σ i = cV τ i := fun i hi => by rw [hσ, cV_ne _ (by omega) (by omega)]
    have n0 : cN σ = cN τ ∧ cB σ = cB τ ∧ cM σ = cM τ := by rw [hσ]; exact ⟨rfl, rfl, rfl⟩
    clear hσ
    refine lv_aload_n hx hb d_M_multiply_56 rfl (lv_at hl 0 rfl) ?_
    refine lv_bipush (v := nI 8) hx hb d_M_multiply_57 (by decide) ?_
    refine c_cv (np := 1) (As := [.int (nI (8))]) (rest := []) ⟨hx, hb, hml, hown, ht⟩ hw (c_M_fold l K σ o0 hμ (by omega) (by rw [s0, ← W8W]; exact p0)) (5 + μ) (cWs_mod K _ hμ) rfl ⟨km_M_51, kv_M_fold, kx_M_fold, kc_M_fold⟩ ki_M (by decide +kernel) ⟨by decide, by decide⟩ rfl rfl rfl hl.1 rfl (Nat.le_of_ble_eq_true rfl) d_M_multiply_59 ⟨Nat.le_refl _, Nat.le_refl _⟩ (fun u1 H locs hp hw => ?_)
    obtain ⟨x1, hx1, hp⟩ := hp
    rw [s0, q1] at hp
    have o1 : cOk u1 := by rw [hp]; exact (o0.up (by omega) (by rw [rl_32 (by omega)]; exact hx1)).up (by omega) (by rw [rw16]; exact (by rw [← W8W]; exact Nat.lt_of_lt_of_le p1 (Nat.mul_le_mul_left _ (by omega))))
    have s1 : cV u1 (32 + μ) = T1 := by rw [hp]; exact cV_self _ (by omega)
    have k1 : ∀ i, i < 30 ∨ 33 < i → cV u1 i = cV τ i := fun i hi => by rw [hp, cV_ne _ (by omega) (by omega), cV_ne _ (by omega) (by omega)]; exact k0 i hi
    have n1 : cN u1 = cN τ ∧ cB u1 = cB τ ∧ cM u1 = cM τ := by rw [hp]; exact n0
    clear hp s0 k0 n0 o0
    refine lv_aload_n hx hb d_M_multiply_62 rfl (lv_at hl 0 rfl) ?_
    refine lv_aload_n hx hb d_M_multiply_63 rfl (lv_at hl 0 rfl) ?_
    refine va_get (ci := 2) (C := R_M) (T := F_M) (N := 6) (v := .ref (cR K (44 + μ))) hx hb ht ku_M hown hw.2.1 hw.1 (5 + μ) (cWs_mod K _ hμ) rfl 1 (by decide) (ht _ kf_M_24) (fun _ h9 => h9) rfl d_M_multiply_64 ?_
    refine c_len hx hb hw (i := 44 + μ) (by omega) d_M_multiply_67 ?_
    refine c_cv (np := 1) (As := [.int (nI (rl (44 + μ)))]) (rest := []) ⟨hx, hb, hml, hown, ht⟩ hw (c_M_fold l K u1 o1 hμ (by omega) (by rw [s1, Nat.pow_add]; exact Nat.lt_of_lt_of_le p1 (Nat.mul_le_mul_left _ (cGap_len hμ)))) (5 + μ) (cWs_mod K _ hμ) rfl ⟨km_M_51, kv_M_fold, kx_M_fold, kc_M_fold⟩ ki_M (by decide +kernel) ⟨by decide, by decide⟩ rfl rfl rfl hl.1 rfl (Nat.le_of_ble_eq_true rfl) d_M_multiply_68 ⟨Nat.le_refl _, Nat.le_refl _⟩ (fun u2 H locs hp hw => ?_)
    obtain ⟨x2, hx2, hp⟩ := hp
    rw [s1, q2] at hp
    have o2 : cOk u2 := by rw [hp]; exact (o1.up (by omega) (by rw [rl_32 (by omega)]; exact hx2)).up (by omega) (by rw [rw16]; exact (Nat.lt_of_lt_of_le p2 (Nat.le_trans W8_9 (Nat.pow_le_pow_right b32_pos (by decide)))))
    have s2 : cV u2 (32 + μ) = T2 := by rw [hp]; exact cV_self _ (by omega)
    have k2 : ∀ i, i < 30 ∨ 33 < i → cV u2 i = cV τ i := fun i hi => by rw [hp, cV_ne _ (by omega) (by omega), cV_ne _ (by omega) (by omega)]; exact k1 i hi
    have n2 : cN u2 = cN τ ∧ cB u2 = cB τ ∧ cM u2 = cM τ := by rw [hp]; exact n1
    clear hp s1 k1 n1 o1
    refine lv_aload_n hx hb d_M_multiply_71 rfl (lv_at hl 0 rfl) ?_
    refine lv_iconst (v := nI 1) hx hb d_M_multiply_72 (by decide) ?_
    refine c_cv (np := 1) (As := [.int (nI (1))]) (rest := []) ⟨hx, hb, hml, hown, ht⟩ hw (c_M_fold l K u2 o2 hμ (by omega) (by rw [s2]; exact Nat.lt_of_lt_of_le p2 W8_9)) (5 + μ) (cWs_mod K _ hμ) rfl ⟨km_M_51, kv_M_fold, kx_M_fold, kc_M_fold⟩ ki_M (by decide +kernel) ⟨by decide, by decide⟩ rfl rfl rfl hl.1 rfl (Nat.le_of_ble_eq_true rfl) d_M_multiply_73 ⟨Nat.le_refl _, Nat.le_refl _⟩ (fun u3 H locs hp hw => ?_)
    obtain ⟨x3, hx3, hp⟩ := hp
    rw [s2, q3] at hp
    have o3 : cOk u3 := by rw [hp]; exact (o2.up (by omega) (by rw [rl_32 (by omega)]; exact hx3)).up (by omega) (by rw [rw16]; exact (Nat.lt_of_lt_of_le (show T3 < 3 * W8 by omega) (Nat.le_trans W8_9 (Nat.pow_le_pow_right b32_pos (by decide)))))
    have s3 : cV u3 (32 + μ) = T3 := by rw [hp]; exact cV_self _ (by omega)
    have k3 : ∀ i, i < 30 ∨ 33 < i → cV u3 i = cV τ i := fun i hi => by rw [hp, cV_ne _ (by omega) (by omega), cV_ne _ (by omega) (by omega)]; exact k2 i hi
    have n3 : cN u3 = cN τ ∧ cB u3 = cB τ ∧ cM u3 = cM τ := by rw [hp]; exact n2
    clear hp s2 k2 n2 o2
    refine lv_aload_n hx hb d_M_multiply_76 rfl (lv_at hl 0 rfl) ?_
    refine lv_iconst (v := nI 1) hx hb d_M_multiply_77 (by decide) ?_
    refine c_cv (np := 1) (As := [.int (nI (1))]) (rest := []) ⟨hx, hb, hml, hown, ht⟩ hw (c_M_fold l K u3 o3 hμ (by omega) (by rw [s3]; exact Nat.lt_of_lt_of_le (show T3 < 3 * W8 by omega) W8_9)) (5 + μ) (cWs_mod K _ hμ) rfl ⟨km_M_51, kv_M_fold, kx_M_fold, kc_M_fold⟩ ki_M (by decide +kernel) ⟨by decide, by decide⟩ rfl rfl rfl hl.1 rfl (Nat.le_of_ble_eq_true rfl) d_M_multiply_78 ⟨Nat.le_refl _, Nat.le_refl _⟩ (fun u4 H locs hp hw => ?_)
    obtain ⟨x4, hx4, hp⟩ := hp
    rw [s3, q4] at hp
    have o4 : cOk u4 := by rw [hp]; exact (o3.up (by omega) (by rw [rl_32 (by omega)]; exact hx4)).up (by omega) (by rw [rw16]; exact (Nat.lt_of_lt_of_le (show T4 < 3 * W8 by omega) (Nat.le_trans W8_9 (Nat.pow_le_pow_right b32_pos (by decide)))))
    have s4 : cV u4 (32 + μ) = T4 := by rw [hp]; exact cV_self _ (by omega)
    have k4 : ∀ i, i < 30 ∨ 33 < i → cV u4 i = cV τ i := fun i hi => by rw [hp, cV_ne _ (by omega) (by omega), cV_ne _ (by omega) (by omega)]; exact k3 i hi
    have n4 : cN u4 = cN τ ∧ cB u4 = cB τ ∧ cM u4 = cM τ := by rw [hp]; exact n3
    clear hp s3 k3 n3 o3
    refine lv_aload_n hx hb d_M_multiply_81 rfl (lv_at hl 1 rfl) ?_
    refine lv_aload_n hx hb d_M_multiply_82 rfl (lv_at hl 0 rfl) ?_
    refine va_get (ci := 2) (C := R_M) (T := F_M) (N := 6) (v := .ref (cR K (32 + μ))) hx hb ht ku_M hown hw.2.1 hw.1 (5 + μ) (cWs_mod K _ hμ) rfl 3 (by decide) (ht _ kf_M_9) (fun _ h9 => h9) rfl d_M_multiply_83 ?_
    refine c_sv (np := 2) (As := [.ref (cR K o), .ref (cR K (32 + μ))]) (rest := []) ⟨hx, hb, hml, hown, ht⟩ hw (c_L_copy l K u4 o4 (show o < 32 by omega) (by omega)) ⟨km_M_55, ks_L_copy, kc_L_copy⟩ ki_L (by decide +kernel) ⟨by decide, by decide⟩ rfl rfl rfl hl.1 rfl (Nat.le_of_ble_eq_true rfl) d_M_multiply_86 ⟨Nat.le_refl _, Nat.le_refl _⟩ (fun u5 H locs hp hw => ?_)
    rw [s4, mod8 p4] at hp
    subst hp
    have o5 : cOk (csV u4 o T4) := o4.u8 (by omega) p4
    refine lv_aload_n hx hb d_M_multiply_89 rfl (lv_at hl 0 rfl) ?_
    refine lv_aload_n hx hb d_M_multiply_90 rfl (lv_at hl 1 rfl) ?_
    refine c_cv (np := 1) (As := [.ref (cR K o)]) (rest := []) ⟨hx, hb, hml, hown, ht⟩ hw (c_M_bringBelow l K (csV u4 o T4) o5 hμ (by omega)) (5 + μ) (cWs_mod K _ hμ) rfl ⟨km_M_59, kv_M_bringBelow, kx_M_bringBelow, kc_M_bringBelow⟩ ki_M (by decide +kernel) ⟨by decide, by decide⟩ rfl rfl rfl hl.1 rfl (Nat.le_of_ble_eq_true rfl) d_M_multiply_91 ⟨Nat.le_refl _, Nat.le_refl _⟩ (fun u6 H locs hp hw => ?_)
    rw [cV_self _ (by omega), csV_up, m4] at hp
    have hlt : T % rMod μ < W8 := Nat.lt_trans (Nat.mod_lt _ (rMod_pos hμ)) hM.1
    have hT9 : T % rMod μ = mm (rMod μ) (cV τ a) (cV τ b) := by rw [← q0]; rfl
    refine z_vret (cZ K) hx hb hr hlocks u6 hw ?_ d_M_multiply_94
    rw [← hT9]
    have hU : cU τ (cV τ) u4 := ⟨k4, o4, n4.1, n4.2.1, n4.2.2⟩
    exact hU.set ho hlt hp
  have loop2 : ∀ (n i : Nat), i + n = 8 → ∀ (w : Nat) (H : Heap) (locs : List Loc) (ls : Array Slot), w = cV τ a % b32 ^ i * cV τ b → cH K (csV τ (32 + μ) w) s H locs → lv_has ls 5 [(0, .ref (cO K (5 + μ))), (1, .ref (cR K o)), (2, .ref (cR K a)), (3, .ref (cR K b)), (4, .int (nI (i)))] → W p l e (headSpec (zW y_M_multiply b_M_multiply 5 none) (zr 3 64)).room s m ([.ref (cO K (5 + μ)), .ref (cR K o), .ref (cR K a), .ref (cR K b)] : List Value).toArray below meth c H locs 0 0 (MQ below (va_Qv (fun u => cU τ (va_up (cV τ) o (mm (rMod μ) (cV τ a) (cV τ b))) u) (fun u => cC K u) (cAA K)) ([.ref (cO K (5 + μ)), .ref (cR K o), .ref (cR K a), .ref (cR K b)] : List Value).toArray s 0 0 (cAA K)) (F0 m 30 ls []) := by
    intro n
    induction n with
    | zero =>
      intro i hi w H locs ls hwe hw hl
      refine lv_iload hx hb d_M_multiply_30 (lv_at hl 4 rfl) ?_
      refine lv_bipush (v := nI 8) hx hb d_M_multiply_32 (by decide) ?_
      refine n_ge (tgt := 56) hx hb d_M_multiply_34 (by decide) (by omega) (by decide) (fun _ => ?_) (fun h => absurd h (by omega))
      rw [show i = 8 by omega, Nat.mod_eq_of_lt hA] at hwe
      subst hwe
      exact fin H locs ls hw (lv_sub hl [0, 1, 2, 3] rfl)
    | succ n ih =>
      intro i hi w H locs ls hwe hw hl
      refine lv_iload hx hb d_M_multiply_30 (lv_at hl 4 rfl) ?_
      refine lv_bipush (v := nI 8) hx hb d_M_multiply_32 (by decide) ?_
      refine n_ge (tgt := 56) hx hb d_M_multiply_34 (by decide) (by omega) (by decide) (fun h => absurd h (by omega)) (fun _ => ?_)
      refine lv_aload_n hx hb d_M_multiply_37 rfl (lv_at hl 0 rfl) ?_
      refine lv_aload_n hx hb d_M_multiply_38 rfl (lv_at hl 2 rfl) ?_
      refine lv_iload hx hb d_M_multiply_39 (lv_at hl 4 rfl) ?_
      refine c_ld hx hb hw (by omega) (by omega) d_M_multiply_41 ?_
      refine tp_l (y := lN (dg b32 (cV τ a) i)) (congrArg lN (by rw [cV_ne _ (show 32 + μ < 34 by omega) (show a ≠ 32 + μ by omega)])) ?_
      refine lv_aload_n hx hb d_M_multiply_42 rfl (lv_at hl 3 rfl) ?_
      refine lv_bipush (v := nI 8) hx hb d_M_multiply_43 (by decide) ?_
      refine lv_iload hx hb d_M_multiply_45 (lv_at hl 4 rfl) ?_
      have em : cV τ a % b32 ^ (i + 1) * cV τ b = w + dg b32 (cV τ a) i * (cV τ b) * b32 ^ i := by rw [dg_mod, Nat.add_mul, ← hwe, Nat.mul_assoc, Nat.mul_comm (b32 ^ i), Nat.mul_assoc]
      have hov : w + dg b32 (cV τ a) i * (cV τ b) * b32 ^ i < b32 ^ 16 := by
        rw [← em, ← W8W]
        exact Nat.mul_lt_mul'' (Nat.lt_of_lt_of_le (Nat.mod_lt _ (Nat.pow_pos b32_pos)) (Nat.pow_le_pow_right b32_pos (by omega))) hB
      have hw16 : w < b32 ^ 16 := Nat.lt_of_le_of_lt (Nat.le_add_right _ _) hov
      have hok2 : cOk (csV τ (32 + μ) w) := hok.up (by omega) (by rw [rw16]; exact hw16)
      have ew : cV (csV τ (32 + μ) w) (32 + μ) = w := cV_self _ (by omega)
      have eb : cV (csV τ (32 + μ) w) b % b32 ^ 8 = cV τ b := by rw [cV_ne _ (by omega) (by omega), Nat.mod_eq_of_lt hB]
      refine c_cv (np := 4) (As := [.long (lN (dg b32 (cV τ a) i)), .ref (cR K b), .int (nI (8)), .int (nI (i))]) (rest := []) ⟨hx, hb, hml, hown, ht⟩ hw (c_M_addProduct l K (csV τ (32 + μ) w) hok2 hμ (dg_lt b32_pos _ _) (show b < 32 ∨ 34 ≤ b by omega) (by omega) (by omega) (by omega) (by rw [ew, eb]; exact hov)) (5 + μ) (cWs_mod K _ hμ) rfl ⟨km_M_47, kv_M_addProduct, kx_M_addProduct, kc_M_addProduct⟩ ki_M (by decide +kernel) ⟨by decide, by decide⟩ rfl rfl rfl hl.1 rfl (Nat.le_of_ble_eq_true rfl) d_M_multiply_47 ⟨Nat.le_refl _, Nat.le_refl _⟩ (fun u H locs hp hw => ?_)
      rw [ew, eb, csV_up, ← em] at hp
      subst hp
      refine lv_iinc (v := nI (i + 1)) (lv' := [(4, .int (nI (i + 1))), (0, .ref (cO K (5 + μ))), (1, .ref (cR K o)), (2, .ref (cR K a)), (3, .ref (cR K b))]) hx hb d_M_multiply_50 hl (k := 4) rfl (nI_add i 1) (by decide) rfl (fun ls hl => ?_)
      refine lv_goto (tgt := 30) hx hb d_M_multiply_53 (by decide) ?_
      exact ih (i + 1) (by omega) _ H locs ls rfl hw (lv_sub hl [1, 2, 3, 4, 0] rfl)
  have loop1 : ∀ (n i : Nat), i + n = 16 → ∀ (w : Nat) (H : Heap) (locs : List Loc) (ls : Array Slot), w < b32 ^ 16 → w % b32 ^ i = 0 → cH K (csV τ (32 + μ) w) s H locs → lv_has ls 5 [(0, .ref (cO K (5 + μ))), (1, .ref (cR K o)), (2, .ref (cR K a)), (3, .ref (cR K b)), (4, .int (nI (i)))] → W p l e (headSpec (zW y_M_multiply b_M_multiply 5 none) (zr 3 64)).room s m ([.ref (cO K (5 + μ)), .ref (cR K o), .ref (cR K a), .ref (cR K b)] : List Value).toArray below meth c H locs 0 0 (MQ below (va_Qv (fun u => cU τ (va_up (cV τ) o (mm (rMod μ) (cV τ a) (cV τ b))) u) (fun u => cC K u) (cAA K)) ([.ref (cO K (5 + μ)), .ref (cR K o), .ref (cR K a), .ref (cR K b)] : List Value).toArray s 0 0 (cAA K)) (F0 m 3 ls []) := by
    intro n
    induction n with
    | zero =>
      intro i hi w H locs ls hw16 hwm hw hl
      refine lv_iload hx hb d_M_multiply_3 (lv_at hl 4 rfl) ?_
      refine lv_aload_n hx hb d_M_multiply_5 rfl (lv_at hl 0 rfl) ?_
      refine va_get (ci := 2) (C := R_M) (T := F_M) (N := 6) (v := .ref (cR K (32 + μ))) hx hb ht ku_M hown hw.2.1 hw.1 (5 + μ) (cWs_mod K _ hμ) rfl 3 (by decide) (ht _ kf_M_9) (fun _ h9 => h9) rfl d_M_multiply_6 ?_
      refine c_len hx hb hw (i := 32 + μ) (by omega) d_M_multiply_9 ?_
      refine tp_i (y := nI (16)) (congrArg nI rw16) ?_
      refine n_ge (tgt := 27) hx hb d_M_multiply_10 (by decide) (by omega) (by decide) (fun _ => ?_) (fun h => absurd h (by omega))
      refine lv_iconst (v := nI 0) hx hb d_M_multiply_27 (by decide) ?_
      refine lv_istore (lv' := [(4, .int (nI (0))), (0, .ref (cO K (5 + μ))), (1, .ref (cR K o)), (2, .ref (cR K a)), (3, .ref (cR K b))]) hx hb d_M_multiply_28 hl (by decide) rfl (fun ls hl => ?_)
      rw [show i = 16 by omega, Nat.mod_eq_of_lt hw16] at hwm
      exact loop2 8 0 rfl w H locs ls (by rw [hwm, Nat.pow_zero, Nat.mod_one, Nat.zero_mul]) hw (lv_sub hl [1, 2, 3, 4, 0] rfl)
    | succ n ih =>
      intro i hi w H locs ls hw16 hwm hw hl
      refine lv_iload hx hb d_M_multiply_3 (lv_at hl 4 rfl) ?_
      refine lv_aload_n hx hb d_M_multiply_5 rfl (lv_at hl 0 rfl) ?_
      refine va_get (ci := 2) (C := R_M) (T := F_M) (N := 6) (v := .ref (cR K (32 + μ))) hx hb ht ku_M hown hw.2.1 hw.1 (5 + μ) (cWs_mod K _ hμ) rfl 3 (by decide) (ht _ kf_M_9) (fun _ h9 => h9) rfl d_M_multiply_6 ?_
      refine c_len hx hb hw (i := 32 + μ) (by omega) d_M_multiply_9 ?_
      refine tp_i (y := nI (16)) (congrArg nI rw16) ?_
      refine n_ge (tgt := 27) hx hb d_M_multiply_10 (by decide) (by omega) (by decide) (fun h => absurd h (by omega)) (fun _ => ?_)
      refine lv_aload_n hx hb d_M_multiply_13 rfl (lv_at hl 0 rfl) ?_
      refine va_get (ci := 2) (C := R_M) (T := F_M) (N := 6) (v := .ref (cR K (32 + μ))) hx hb ht ku_M hown hw.2.1 hw.1 (5 + μ) (cWs_mod K _ hμ) rfl 3 (by decide) (ht _ kf_M_9) (fun _ h9 => h9) rfl d_M_multiply_14 ?_
      refine lv_iload hx hb d_M_multiply_17 (lv_at hl 4 rfl) ?_
      refine lv_lconst (v := lN 0) hx hb d_M_multiply_19 (by decide) ?_
      refine c_st hx hb hw (show 32 + μ < 34 by omega) (by omega) b32_pos d_M_multiply_20 (fun H locs hw => ?_)
      rw [cV_self _ (show 32 + μ < 34 by omega), csV_up] at hw
      refine lv_iinc (v := nI (i + 1)) (lv' := [(4, .int (nI (i + 1))), (0, .ref (cO K (5 + μ))), (1, .ref (cR K o)), (2, .ref (cR K a)), (3, .ref (cR K b))]) hx hb d_M_multiply_21 hl (k := 4) rfl (nI_add i 1) (by decide) rfl (fun ls hl => ?_)
      refine lv_goto (tgt := 3) hx hb d_M_multiply_24 (by decide) ?_
      refine ih (i + 1) (by omega) (ds b32 w i 0) H locs ls (ds_lt b32_pos b32_pos (by omega) hw16) ?_ hw (lv_sub hl [1, 2, 3, 4, 0] rfl)
      rw [ds_mod b32_pos _ b32_pos, hwm, Nat.zero_mul]
  refine lv_iconst (v := nI 0) hx hb d_M_multiply_0 (by decide) ?_
  refine lv_istore (lv' := [(4, .int (nI (0))), (0, .ref (cO K (5 + μ))), (1, .ref (cR K o)), (2, .ref (cR K a)), (3, .ref (cR K b))]) hx hb d_M_multiply_1 hl (by decide) rfl (fun ls hl => ?_)
  refine loop1 16 0 rfl (cV τ (32 + μ)) _ _ ls (by have h9 := hok (32 + μ) (by omega); rw [rw16] at h9; exact h9) (by rw [Nat.pow_zero, Nat.mod_one]) ?_ (lv_sub hl [1, 2, 3, 4, 0] rfl)
  rw [csV_id (show 32 + μ < 34 by omega)]
  exact hw
set_option maxHeartbeats 4000000 in
set_option maxRecDepth 100000 in
theorem c_M_raise (l : Launch) (K : cG) (τ : cT) (hok : cOk τ) {μ o a e0 : Nat} (hμ : μ < 2) (ho : o < 30) (ha : a < 30 ∨ 34 ≤ a) (ha2 : a < 44) (har : a ≠ 28 + μ) (he : e0 < 30 ∨ 34 ≤ e0) (he2 : e0 < 44) (her : e0 ≠ 28 + μ) : Met l y_M_raise (zW y_M_raise b_M_raise 5 none) (zr 4 88) (va_Pc [.ref (cO K (5 + μ)), .ref (cR K o), .ref (cR K a), .ref (cR K e0)] (cC K τ)) (va_Qv (fun u => cU τ (va_up (va_up (cV τ) (28 + μ) (cV τ a ^ cV τ e0 % rMod μ)) o (cV τ a ^ cV τ e0 % rMod μ)) u) (fun u => cC K u) (cAA K)) 0 0 (cAA K) := by
  refine Met.ofW (cc := b_M_raise) (maxL := 5) (ret := none) (by decide) rfl ?_
  intro p e s m args below meth c s₁ B hml hv
  obtain ⟨rfl, hw⟩ := hv
  have hx := B.exec
  have hb := B.bytes
  have hr := B.returns
  have hts := atoms_spec (ws := zW y_M_raise b_M_raise 5 none) B.pre
  have ht : ∀ w ∈ zT, w.before ([.ref (cO K (5 + μ)), .ref (cR K o), .ref (cR K a), .ref (cR K e0)] : List Value).toArray s = true := fun w h => hts w (List.mem_cons_of_mem _ h)
  have hown : s.vm.findClass R_M = some m.cls := findClass_of_methodNamed B.named
  have hlocks := B.notSynchronized
  have hl := lv_entry ([.ref (cO K (5 + μ)), .ref (cR K o), .ref (cR K a), .ref (cR K e0)]) (n := 5) (Nat.le_of_ble_eq_true rfl)
  rw [lg_entry_eq]
  generalize (lg_sl ([.ref (cO K (5 + μ)), .ref (cR K o), .ref (cR K a), .ref (cR K e0)]) ++ List.replicate (5 - (lg_sl ([.ref (cO K (5 + μ)), .ref (cR K o), .ref (cR K a), .ref (cR K e0)])).length) Slot.unset).toArray = ls at hl ⊢
  have hl : lv_has ls 5 [(0, .ref (cO K (5 + μ))), (1, .ref (cR K o)), (2, .ref (cR K a)), (3, .ref (cR K e0))] := hl
  have hE : cV τ e0 < 2 ^ 256 := by have h9 := cV_lt hok (show e0 < 32 ∨ 34 ≤ e0 by omega) he2; exact h9
  have hM := rMod8 hμ
  have hM1 := rMod_one hμ
  have hM0 := rMod_pos hμ
  refine lv_aload_n hx hb d_M_raise_0 rfl (lv_at hl 0 rfl) ?_
  refine va_get (ci := 2) (C := R_M) (T := F_M) (N := 6) (v := .ref (cR K (28 + μ))) hx hb ht ku_M hown hw.2.1 hw.1 (5 + μ) (cWs_mod K _ hμ) rfl 5 (by decide) (ht _ kf_M_18) (fun _ h9 => h9) rfl d_M_raise_1 ?_
  refine c_getsN hx hb hown hw 35 (by decide) (by decide) (index := 67) (by decide) d_M_raise_4 ?_
  refine c_sv (np := 2) (As := [.ref (cR K (28 + μ)), .ref (cR K 35)]) (rest := []) ⟨hx, hb, hml, hown, ht⟩ hw (c_L_copy l K τ hok (show 28 + μ < 32 by omega) (by decide)) ⟨km_M_55, ks_L_copy, kc_L_copy⟩ ki_L (by decide +kernel) ⟨by decide, by decide⟩ rfl rfl rfl hl.1 rfl (Nat.le_of_ble_eq_true rfl) d_M_raise_7 ⟨Nat.le_refl _, Nat.le_refl _⟩ (fun u0 H locs hp hw => ?_)
  have hu0 : cU τ (va_up (cV τ) (28 + μ) 1) u0 := (cU.refl hok).set (by omega) (Nat.lt_trans hM1 hM.1) hp
  clear hp
  have loop : ∀ (n : Nat), n ≤ 256 → ∀ (x : Nat) (u : cT) (H : Heap) (locs : List Loc) (ls : Array Slot), x = cV τ a ^ (cV τ e0 / 2 ^ n) % rMod μ → cU τ (va_up (cV τ) (28 + μ) x) u → cH K u s H locs → lv_has ls 5 [(0, .ref (cO K (5 + μ))), (1, .ref (cR K o)), (2, .ref (cR K a)), (3, .ref (cR K e0)), (4, .int (iv n))] → W p l e (headSpec (zW y_M_raise b_M_raise 5 none) (zr 4 88)).room s m ([.ref (cO K (5 + μ)), .ref (cR K o), .ref (cR K a), .ref (cR K e0)] : List Value).toArray below meth c H locs 0 0 (MQ below (va_Qv (fun u => cU τ (va_up (va_up (cV τ) (28 + μ) (cV τ a ^ cV τ e0 % rMod μ)) o (cV τ a ^ cV τ e0 % rMod μ)) u) (fun u => cC K u) (cAA K)) ([.ref (cO K (5 + μ)), .ref (cR K o), .ref (cR K a), .ref (cR K e0)] : List Value).toArray s 0 0 (cAA K)) (F0 m 15 ls []) := by
    intro n
    induction n with
    | zero =>
      intro hn x u H locs ls hx9 hu hw hl
      refine lv_iload hx hb d_M_raise_15 (lv_at hl 4 rfl) ?_
      refine lv_if_lt (tgt := 64) hx hb d_M_raise_17 (by decide) (fun _ => ?_) (fun h => absurd (show iv 0 < 0 by decide) h)
      refine lv_aload_n hx hb d_M_raise_64 rfl (lv_at hl 1 rfl) ?_
      refine lv_aload_n hx hb d_M_raise_65 rfl (lv_at hl 0 rfl) ?_
      refine va_get (ci := 2) (C := R_M) (T := F_M) (N := 6) (v := .ref (cR K (28 + μ))) hx hb ht ku_M hown hw.2.1 hw.1 (5 + μ) (cWs_mod K _ hμ) rfl 5 (by decide) (ht _ kf_M_18) (fun _ h9 => h9) rfl d_M_raise_66 ?_
      have hxl : x < W8 := by rw [hx9]; exact Nat.lt_trans (Nat.mod_lt _ hM0) hM.1
      have er : cV u (28 + μ) = x := (hu.v (by omega)).trans (up_self _ _ _)
      refine c_sv (np := 2) (As := [.ref (cR K o), .ref (cR K (28 + μ))]) (rest := []) ⟨hx, hb, hml, hown, ht⟩ hw (c_L_copy l K u hu.2.1 (show o < 32 by omega) (show 28 + μ < 44 by omega)) ⟨km_M_55, ks_L_copy, kc_L_copy⟩ ki_L (by decide +kernel) ⟨by decide, by decide⟩ rfl rfl rfl hl.1 rfl (Nat.le_of_ble_eq_true rfl) d_M_raise_69 ⟨Nat.le_refl _, Nat.le_refl _⟩ (fun u2 H locs hp hw => ?_)
      rw [er, mod8 hxl] at hp
      have hu2 := hu.set ho hxl hp
      rw [Nat.pow_zero, Nat.div_one] at hx9
      rw [hx9] at hu2
      exact z_vret (cZ K) hx hb hr hlocks u2 hw hu2 d_M_raise_72
    | succ n ih =>
      intro hn x u H locs ls hx9 hu hw hl
      have hl : lv_has ls 5 [(0, .ref (cO K (5 + μ))), (1, .ref (cR K o)), (2, .ref (cR K a)), (3, .ref (cR K e0)), (4, .int (nI (n)))] := hl
      refine lv_iload hx hb d_M_raise_15 (lv_at hl 4 rfl) ?_
      refine lv_if_lt (tgt := 64) hx hb d_M_raise_17 (by decide) (fun h => absurd h (nI_pos (by omega))) (fun _ => ?_)
      have er : cV u (28 + μ) = x := (hu.v (by omega)).trans (up_self _ _ _)
      refine lv_aload_n hx hb d_M_raise_20 rfl (lv_at hl 0 rfl) ?_
      refine lv_aload_n hx hb d_M_raise_21 rfl (lv_at hl 0 rfl) ?_
      refine va_get (ci := 2) (C := R_M) (T := F_M) (N := 6) (v := .ref (cR K (28 + μ))) hx hb ht ku_M hown hw.2.1 hw.1 (5 + μ) (cWs_mod K _ hμ) rfl 5 (by decide) (ht _ kf_M_18) (fun _ h9 => h9) rfl d_M_raise_22 ?_
      refine lv_aload_n hx hb d_M_raise_25 rfl (lv_at hl 0 rfl) ?_
      refine va_get (ci := 2) (C := R_M) (T := F_M) (N := 6) (v := .ref (cR K (28 + μ))) hx hb ht ku_M hown hw.2.1 hw.1 (5 + μ) (cWs_mod K _ hμ) rfl 5 (by decide) (ht _ kf_M_18) (fun _ h9 => h9) rfl d_M_raise_26 ?_
      refine lv_aload_n hx hb d_M_raise_29 rfl (lv_at hl 0 rfl) ?_
      refine va_get (ci := 2) (C := R_M) (T := F_M) (N := 6) (v := .ref (cR K (28 + μ))) hx hb ht ku_M hown hw.2.1 hw.1 (5 + μ) (cWs_mod K _ hμ) rfl 5 (by decide) (ht _ kf_M_18) (fun _ h9 => h9) rfl d_M_raise_30 ?_
      refine c_cv (np := 3) (As := [.ref (cR K (28 + μ)), .ref (cR K (28 + μ)), .ref (cR K (28 + μ))]) (rest := []) ⟨hx, hb, hml, hown, ht⟩ hw (c_M_multiply l K u hu.2.1 hμ (show 28 + μ < 30 by omega) (Or.inl (by omega)) (by omega) (Or.inl (by omega)) (by omega)) (5 + μ) (cWs_mod K _ hμ) rfl ⟨km_M_70, kv_M_multiply, kx_M_multiply, kc_M_multiply⟩ ki_M (by decide +kernel) ⟨by decide, by decide⟩ rfl rfl rfl hl.1 rfl (Nat.le_of_ble_eq_true rfl) d_M_raise_33 ⟨Nat.le_refl _, Nat.le_refl _⟩ (fun u2 H locs hp hw => ?_)
      have hu2 := hu.up hp
      rw [er, up_up] at hu2
      clear hp
      refine lv_aload_n hx hb d_M_raise_36 rfl (lv_at hl 3 rfl) ?_
      refine lv_iload hx hb d_M_raise_37 (lv_at hl 4 rfl) ?_
      have ee : cV u2 e0 = cV τ e0 := (hu2.v (by omega)).trans (up_ne _ _ her)
      refine c_si (np := 2) (As := [.ref (cR K e0), .int (nI (n))]) (rest := []) ⟨hx, hb, hml, hown, ht⟩ hw (c_L_hasBit l K u2 (show e0 < 32 ∨ 34 ≤ e0 by omega) he2 (show n < 256 by omega)) ⟨km_M_73, ks_L_hasBit, kc_L_hasBit⟩ ki_L (by decide +kernel) ⟨by decide, by decide⟩ rfl rfl rfl hl.1 rfl (Nat.le_of_ble_eq_true rfl) d_M_raise_39 ⟨Nat.le_refl _, Nat.le_refl _⟩ (fun r u3 H locs hp hw => ?_)
      obtain ⟨hpu, rfl⟩ := hp
      rw [hpu] at hw
      refine tp_i (y := nI (boolN (cV τ e0 / 2 ^ n % 2 = 1))) (by simp only [ee]) ?_
      refine n_eq0 (tgt := 58) hx hb d_M_raise_42 (by decide) (boolN_s _) (fun c1 => ?_) (fun c1 => ?_)
      · have c2 := boolN_0 c1
        refine lv_iinc (v := iv n) (lv' := [(4, .int (iv n)), (0, .ref (cO K (5 + μ))), (1, .ref (cR K o)), (2, .ref (cR K a)), (3, .ref (cR K e0))]) hx hb d_M_raise_58 hl (k := 4) rfl (iv_dec n) (by decide) rfl (fun ls hl => ?_)
        refine lv_goto (tgt := 15) hx hb d_M_raise_61 (by decide) ?_
        exact ih (by omega) (mm (rMod μ) x x) u2 H locs ls (pow_step0 hx9 c2) hu2 hw (lv_sub hl [1, 2, 3, 4, 0] rfl)
      · have c2 := boolN_1 c1
        refine lv_aload_n hx hb d_M_raise_45 rfl (lv_at hl 0 rfl) ?_
        refine lv_aload_n hx hb d_M_raise_46 rfl (lv_at hl 0 rfl) ?_
        refine va_get (ci := 2) (C := R_M) (T := F_M) (N := 6) (v := .ref (cR K (28 + μ))) hx hb ht ku_M hown hw.2.1 hw.1 (5 + μ) (cWs_mod K _ hμ) rfl 5 (by decide) (ht _ kf_M_18) (fun _ h9 => h9) rfl d_M_raise_47 ?_
        refine lv_aload_n hx hb d_M_raise_50 rfl (lv_at hl 0 rfl) ?_
        refine va_get (ci := 2) (C := R_M) (T := F_M) (N := 6) (v := .ref (cR K (28 + μ))) hx hb ht ku_M hown hw.2.1 hw.1 (5 + μ) (cWs_mod K _ hμ) rfl 5 (by decide) (ht _ kf_M_18) (fun _ h9 => h9) rfl d_M_raise_51 ?_
        refine lv_aload_n hx hb d_M_raise_54 rfl (lv_at hl 2 rfl) ?_
        have er2 : cV u2 (28 + μ) = mm (rMod μ) x x := (hu2.v (by omega)).trans (up_self _ _ _)
        have ea : cV u2 a = cV τ a := (hu2.v (by omega)).trans (up_ne _ _ har)
        refine c_cv (np := 3) (As := [.ref (cR K (28 + μ)), .ref (cR K (28 + μ)), .ref (cR K a)]) (rest := []) ⟨hx, hb, hml, hown, ht⟩ hw (c_M_multiply l K u2 hu2.2.1 hμ (show 28 + μ < 30 by omega) (Or.inl (by omega)) (by omega) ha ha2) (5 + μ) (cWs_mod K _ hμ) rfl ⟨km_M_70, kv_M_multiply, kx_M_multiply, kc_M_multiply⟩ ki_M (by decide +kernel) ⟨by decide, by decide⟩ rfl rfl rfl hl.1 rfl (Nat.le_of_ble_eq_true rfl) d_M_raise_55 ⟨Nat.le_refl _, Nat.le_refl _⟩ (fun u4 H locs hp hw => ?_)
        have hu4 := hu2.up hp
        rw [er2, ea, up_up] at hu4
        clear hp
        refine lv_iinc (v := iv n) (lv' := [(4, .int (iv n)), (0, .ref (cO K (5 + μ))), (1, .ref (cR K o)), (2, .ref (cR K a)), (3, .ref (cR K e0))]) hx hb d_M_raise_58 hl (k := 4) rfl (iv_dec n) (by decide) rfl (fun ls hl => ?_)
        refine lv_goto (tgt := 15) hx hb d_M_raise_61 (by decide) ?_
        exact ih (by omega) (mm (rMod μ) (mm (rMod μ) x x) (cV τ a)) u4 H locs ls (pow_step1 hx9 c2) hu4 hw (lv_sub hl [1, 2, 3, 4, 0] rfl)
  refine lv_sipush (v := nI 255) hx hb d_M_raise_10 (by decide) ?_
  refine tp_i (y := (iv 256)) (rfl) ?_
  refine lv_istore (lv' := [(4, .int (iv 256)), (0, .ref (cO K (5 + μ))), (1, .ref (cR K o)), (2, .ref (cR K a)), (3, .ref (cR K e0))]) hx hb d_M_raise_13 hl (by decide) rfl (fun ls hl => ?_)
  exact loop 256 (Nat.le_refl _) 1 u0 _ _ ls (by rw [Nat.div_eq_of_lt hE, Nat.pow_zero, Nat.mod_eq_of_lt hM1]) hu0 hw (lv_sub hl [1, 2, 3, 4, 0] rfl)
set_option maxHeartbeats 4000000 in
set_option maxRecDepth 100000 in
theorem c_M_invert (l : Launch) (K : cG) (τ : cT) (hok : cOk τ) {μ o a : Nat} (hμ : μ < 2) (ho : o < 30) (ha : a < 30 ∨ 34 ≤ a) (ha2 : a < 44) (har : a ≠ 28 + μ) : Met l y_M_invert (zW y_M_invert b_M_invert 3 none) (zr 5 112) (va_Pc [.ref (cO K (5 + μ)), .ref (cR K o), .ref (cR K a)] (cC K τ)) (va_Qv (fun u => cU τ (va_up (va_up (cV τ) (28 + μ) (cV τ a ^ (rMod μ - 2) % rMod μ)) o (cV τ a ^ (rMod μ - 2) % rMod μ)) u) (fun u => cC K u) (cAA K)) 0 0 (cAA K) := by
  refine Met.ofW (cc := b_M_invert) (maxL := 3) (ret := none) (by decide) rfl ?_
  intro p e s m args below meth c s₁ B hml hv
  obtain ⟨rfl, hw⟩ := hv
  have hx := B.exec
  have hb := B.bytes
  have hr := B.returns
  have hts := atoms_spec (ws := zW y_M_invert b_M_invert 3 none) B.pre
  have ht : ∀ w ∈ zT, w.before ([.ref (cO K (5 + μ)), .ref (cR K o), .ref (cR K a)] : List Value).toArray s = true := fun w h => hts w (List.mem_cons_of_mem _ h)
  have hown : s.vm.findClass R_M = some m.cls := findClass_of_methodNamed B.named
  have hlocks := B.notSynchronized
  have hl := lv_entry ([.ref (cO K (5 + μ)), .ref (cR K o), .ref (cR K a)]) (n := 3) (Nat.le_of_ble_eq_true rfl)
  rw [lg_entry_eq]
  generalize (lg_sl ([.ref (cO K (5 + μ)), .ref (cR K o), .ref (cR K a)]) ++ List.replicate (3 - (lg_sl ([.ref (cO K (5 + μ)), .ref (cR K o), .ref (cR K a)])).length) Slot.unset).toArray = ls at hl ⊢
  have hl : lv_has ls 3 [(0, .ref (cO K (5 + μ))), (1, .ref (cR K o)), (2, .ref (cR K a))] := hl
  have ep : cV τ (38 + 3 * μ) = rMod μ - 2 := by rcases (show μ = 0 ∨ μ = 1 by omega) with rfl | rfl <;> rfl
  refine lv_aload_n hx hb d_M_invert_0 rfl (lv_at hl 0 rfl) ?_
  refine lv_aload_n hx hb d_M_invert_1 rfl (lv_at hl 1 rfl) ?_
  refine lv_aload_n hx hb d_M_invert_2 rfl (lv_at hl 2 rfl) ?_
  refine lv_aload_n hx hb d_M_invert_3 rfl (lv_at hl 0 rfl) ?_
  refine va_get (ci := 2) (C := R_M) (T := F_M) (N := 6) (v := .ref (cR K (38 + 3 * μ))) hx hb ht ku_M hown hw.2.1 hw.1 (5 + μ) (cWs_mod K _ hμ) rfl 2 (by decide) (ht _ kf_M_27) (fun _ h9 => h9) rfl d_M_invert_4 ?_
  refine c_cv (np := 3) (As := [.ref (cR K o), .ref (cR K a), .ref (cR K (38 + 3 * μ))]) (rest := []) ⟨hx, hb, hml, hown, ht⟩ hw (c_M_raise l K τ hok hμ ho ha ha2 har (Or.inr (by omega)) (show 38 + 3 * μ < 44 by omega) (by omega)) (5 + μ) (cWs_mod K _ hμ) rfl ⟨km_M_63, kv_M_raise, kx_M_raise, kc_M_raise⟩ ki_M (by decide +kernel) ⟨by decide, by decide⟩ rfl rfl rfl hl.1 rfl (Nat.le_of_ble_eq_true rfl) d_M_invert_7 ⟨Nat.le_refl _, Nat.le_refl _⟩ (fun u H locs hp hw => ?_)
  rw [ep] at hp
  exact z_vret (cZ K) hx hb hr hlocks u hw hp d_M_invert_10
