/-! the fold of the reference -/
theorem bnd_mono {x a p q c : Nat} (h : x < a + p * c) (hpq : p ≤ q) : x < a + q * c := Nat.lt_of_lt_of_le h (Nat.add_le_add_left (Nat.mul_le_mul_right c hpq) a)
set_option maxHeartbeats 4000000 in
set_option maxRecDepth 100000 in
theorem c_R_fold (l : Launch) (G : rG) (σ : rS) {μ : Nat} (hμ : μ < 2) (hP : ∀ j, j < 22 → rP σ j < b26) (hT : pw (rP σ) < W256 * B12) : Met l y_R_fold (zW y_R_fold b_R_fold 6 none) (zr 1 25) (va_Pc [.ref (rA G 0), .int (nI (10 * μ))] (rC G σ)) (va_Qv (fun u => ∃ P F, u = rsP (rsF σ F) P ∧ (∀ j, j < 22 → P j < b26) ∧ pw P = pw (rP σ) % W256 + pw (rP σ) / W256 * rGap μ) (fun u => rC G u) (rAA G)) 0 0 (rAA G) := by
  refine Met.ofW (cc := b_R_fold) (maxL := 6) (ret := none) (by decide) rfl ?_
  intro p e s m args below meth c s₁ B hml hv
  obtain ⟨rfl, hw⟩ := hv
  have hx := B.exec
  have hb := B.bytes
  have hr := B.returns
  have hts := atoms_spec (ws := zW y_R_fold b_R_fold 6 none) B.pre
  have ht : ∀ w ∈ zT, w.before ([.ref (rA G 0), .int (nI (10 * μ))] : List Value).toArray s = true := fun w h => hts w (List.mem_cons_of_mem _ h)
  have hown : s.vm.findClass R_R = some m.cls := findClass_of_methodNamed B.named
  have hlocks := B.notSynchronized
  have hl := lv_entry ([.ref (rA G 0), .int (nI (10 * μ))]) (n := 6) (Nat.le_of_ble_eq_true rfl)
  rw [lg_entry_eq]
  generalize (lg_sl ([.ref (rA G 0), .int (nI (10 * μ))]) ++ List.replicate (6 - (lg_sl ([.ref (rA G 0), .int (nI (10 * μ))])).length) Slot.unset).toArray = ls at hl ⊢
  have hl : lv_has ls 6 [(0, .ref (rA G 0)), (1, .int (nI (10 * μ)))] := hl
  have hP60 : ∀ j, j < 22 → rP σ j < 67108864 := hP
  have third : ∀ (F : Nat → Nat), (∀ j, j < 22 → F j < 2 ^ 60) → pw F = pw (rP σ) % W256 + pw (rP σ) / W256 * rGap μ → ∀ (n k : Nat), k + n = 22 → ∀ (P : Nat → Nat) (H : Heap) (locs : List Loc) (ls : Array Slot), (∀ j, j < k → P j = F j) → rH G (rsP (rsF σ F) P) s H locs → lv_has ls 6 [(0, .ref (rA G 0)), (1, .int (nI (10 * μ))), (2, .int (nI (k)))] → W p l e (headSpec (zW y_R_fold b_R_fold 6 none) (zr 1 25)).room s m ([.ref (rA G 0), .int (nI (10 * μ))] : List Value).toArray below meth c H locs 0 0 (MQ below (va_Qv (fun u => ∃ P F, u = rsP (rsF σ F) P ∧ (∀ j, j < 22 → P j < b26) ∧ pw P = pw (rP σ) % W256 + pw (rP σ) / W256 * rGap μ) (fun u => rC G u) (rAA G)) ([.ref (rA G 0), .int (nI (10 * μ))] : List Value).toArray s 0 0 (rAA G)) (F0 m 146 ls []) := by
    intro F hF hFv n
    induction n with
    | zero =>
      intro k hk P H locs ls hPF hw hl
      have hk : k = 22 := by omega
      subst hk
      refine lv_iload_n hx hb d_R_fold_146 rfl (lv_at hl 2 rfl) ?_
      refine lv_bipush (v := nI 22) hx hb d_R_fold_147 (by decide) ?_
      refine n_ge (tgt := 170) hx hb d_R_fold_149 (by decide) (by decide) (by decide) (fun _ => ?_) (fun h => absurd h (by omega))
      refine lv_aload_n hx hb d_R_fold_170 rfl (lv_at hl 0 rfl) ?_
      have eP : pw P = pw F := pv_congr 22 hPF
      refine r_callv (np := 0) (As := []) (rest := []) ⟨hx, hb, hml, hown, ht⟩ hw (c_R_carry l G (rsP (rsF σ F) P) (fun j hj => by show P j < _; rw [hPF j hj]; exact hF j hj) (by show pw P < B22; rw [eP, hFv]; exact fold_small (Nat.mod_lt _ (by decide)) (Nat.div_lt_of_lt_mul hT) (rGap_lt hμ))) ⟨km_R_86, kv_R_carry, kx_R_carry, kc_R_carry⟩ (by decide +kernel) ⟨by decide, by decide⟩ rfl rfl rfl hl.1 rfl (by decide) d_R_fold_171 ⟨Nat.le_refl _, Nat.le_refl _⟩ (fun u H locs hp hw => ?_)
      obtain ⟨P2, rfl, h1, h2⟩ := hp
      refine z_vret (rZ _) hx hb hr hlocks _ hw ⟨P2, F, rfl, h1, ?_⟩ d_R_fold_174
      rw [h2, ← hFv]
      exact eP
    | succ n ih =>
      intro k hk P H locs ls hPF hw hl
      refine lv_iload_n hx hb d_R_fold_146 rfl (lv_at hl 2 rfl) ?_
      refine lv_bipush (v := nI 22) hx hb d_R_fold_147 (by decide) ?_
      refine n_ge (tgt := 170) hx hb d_R_fold_149 (by decide) (by omega) (by decide) (fun h => absurd h (by omega)) (fun _ => ?_)
      refine lv_aload_n hx hb d_R_fold_152 rfl (lv_at hl 0 rfl) ?_
      refine r_get hx hb ht hown hw 1 (by decide) (ht _ kf_R_13) rfl d_R_fold_153 (fun _ h9 => h9) ?_
      refine lv_iload_n hx hb d_R_fold_156 rfl (lv_at hl 2 rfl) ?_
      refine lv_aload_n hx hb d_R_fold_157 rfl (lv_at hl 0 rfl) ?_
      refine r_get hx hb ht hown hw 2 (by decide) (ht _ kf_R_17) rfl d_R_fold_158 (fun _ h9 => h9) ?_
      refine lv_iload_n hx hb d_R_fold_161 rfl (lv_at hl 2 rfl) ?_
      refine r_lldF hx hb hw (by omega) d_R_fold_162 ?_
      refine tp_l (y := lN (F k)) (rfl) ?_
      refine r_lstP hx hb hw (by omega) d_R_fold_163 (fun H locs hw => ?_)
      refine lv_iinc (v := nI (k + 1)) (lv' := [(2, .int (nI (k + 1))), (0, .ref (rA G 0)), (1, .int (nI (10 * μ)))]) hx hb d_R_fold_164 hl (k := 2) rfl (nI_add k 1) (by decide) rfl (fun ls hl => ?_)
      refine lv_goto (tgt := 146) hx hb d_R_fold_167 (by decide) ?_
      refine ih (k + 1) (by omega) (va_up P k (F k)) H locs ls (fun j hj => ?_) hw (lv_sub hl [1, 2, 0] rfl)
      by_cases e : j = k
      · rw [e, up_self]
      · rw [up_ne _ _ e]; exact hPF j (by omega)
  have second : ∀ (n k : Nat), k + n = 12 → ∀ (F : Nat → Nat) (H : Heap) (locs : List Loc) (ls : Array Slot), (∀ j, j < 22 → F j < 67108864 + (5 * k) * 4503599627370496) → pw F = pw (rP σ) % W256 + pv (hiD (rP σ)) k * rGap μ → rH G (rsF σ F) s H locs → lv_has ls 6 [(0, .ref (rA G 0)), (1, .int (nI (10 * μ))), (2, .int (nI (k)))] → W p l e (headSpec (zW y_R_fold b_R_fold 6 none) (zr 1 25)).room s m ([.ref (rA G 0), .int (nI (10 * μ))] : List Value).toArray below meth c H locs 0 0 (MQ below (va_Qv (fun u => ∃ P F, u = rsP (rsF σ F) P ∧ (∀ j, j < 22 → P j < b26) ∧ pw P = pw (rP σ) % W256 + pw (rP σ) / W256 * rGap μ) (fun u => rC G u) (rAA G)) ([.ref (rA G 0), .int (nI (10 * μ))] : List Value).toArray s 0 0 (rAA G)) (F0 m 58 ls []) := by
    intro n
    induction n with
    | zero =>
      intro k hk F H locs ls hF hFv hw hl
      have hk : k = 12 := by omega
      subst hk
      refine lv_iload_n hx hb d_R_fold_58 rfl (lv_at hl 2 rfl) ?_
      refine lv_bipush (v := nI 12) hx hb d_R_fold_59 (by decide) ?_
      refine n_ge (tgt := 144) hx hb d_R_fold_61 (by decide) (by decide) (by decide) (fun _ => ?_) (fun h => absurd h (by omega))
      refine lv_iconst (v := nI 0) hx hb d_R_fold_144 (by decide) ?_
      refine lv_istore_n (lv' := [(2, .int (nI (0))), (0, .ref (rA G 0)), (1, .int (nI (10 * μ)))]) hx hb d_R_fold_145 rfl hl (by decide) rfl (fun ls hl => ?_)
      refine third F (fun j hj => by have := hF j hj; omega) (by rw [hFv, hi_val hP hT]) 22 0 rfl (rP σ) H locs ls (fun j hj => absurd hj (by omega)) hw (lv_sub hl [1, 2, 0] rfl)
    | succ n ih =>
      intro k hk F H locs ls hF hFv hw hl
      refine lv_iload_n hx hb d_R_fold_58 rfl (lv_at hl 2 rfl) ?_
      refine lv_bipush (v := nI 12) hx hb d_R_fold_59 (by decide) ?_
      refine n_ge (tgt := 144) hx hb d_R_fold_61 (by decide) (by omega) (by decide) (fun h => absurd h (by omega)) (fun _ => ?_)
      have q0 := hP60 (9 + k) (by omega)
      have q1 := hP60 (10 + k) (by omega)
      refine lv_aload_n hx hb d_R_fold_64 rfl (lv_at hl 0 rfl) ?_
      refine r_get hx hb ht hown hw 1 (by decide) (ht _ kf_R_13) rfl d_R_fold_65 (fun _ h9 => h9) ?_
      refine lv_bipush (v := nI 9) hx hb d_R_fold_68 (by decide) ?_
      refine lv_iload_n hx hb d_R_fold_70 rfl (lv_at hl 2 rfl) ?_
      refine lv_iadd hx hb d_R_fold_71 ?_
      refine tp_i (y := nI (9 + k)) (nI_add _ _) ?_
      refine r_lldP hx hb hw (by omega) d_R_fold_72 ?_
      refine tp_l (y := lN (rP σ (9 + k))) (rfl) ?_
      refine lv_bipush (v := nI 22) hx hb d_R_fold_73 (by decide) ?_
      refine lv_lshr (v := lN (rP σ (9 + k) / 4194304)) hx hb d_R_fold_75 (lshr22 (by omega)) ?_
      refine lv_aload_n hx hb d_R_fold_76 rfl (lv_at hl 0 rfl) ?_
      refine r_get hx hb ht hown hw 1 (by decide) (ht _ kf_R_13) rfl d_R_fold_77 (fun _ h9 => h9) ?_
      refine lv_bipush (v := nI 10) hx hb d_R_fold_80 (by decide) ?_
      refine lv_iload_n hx hb d_R_fold_82 rfl (lv_at hl 2 rfl) ?_
      refine lv_iadd hx hb d_R_fold_83 ?_
      refine tp_i (y := nI (10 + k)) (nI_add _ _) ?_
      refine r_lldP hx hb hw (by omega) d_R_fold_84 ?_
      refine tp_l (y := lN (rP σ (10 + k))) (rfl) ?_
      refine lv_ldc2 hx hb hown (ht _ kl_R_84) d_R_fold_85 ?_
      refine lv_land hx hb d_R_fold_88 ?_
      refine tp_l (y := lN (rP σ (10 + k) % 4194304)) (land22 (by omega)) ?_
      refine lv_iconst (v := nI 4) hx hb d_R_fold_89 (by decide) ?_
      refine lv_lshl (v := lN (rP σ (10 + k) % 4194304 * 16)) hx hb d_R_fold_90 (lshl4 _) ?_
      refine lv_lor hx hb d_R_fold_91 ?_
      refine tp_l (y := lN (rP σ (9 + k) / 4194304 + rP σ (10 + k) % 4194304 * 16)) (lor16 (by omega) (by omega)) ?_
      refine tp_l (y := lN (hiD (rP σ) k)) (rfl) ?_
      have hhi : hiD (rP σ) k < 67108864 := by unfold hiD; omega
      refine lv_lstore_n (lv' := [(3, .long (lN (hiD (rP σ) k))), (0, .ref (rA G 0)), (1, .int (nI (10 * μ))), (2, .int (nI (k)))]) hx hb d_R_fold_92 rfl hl (by decide) rfl (fun ls hl => ?_)
      refine lv_iconst (v := nI 0) hx hb d_R_fold_93 (by decide) ?_
      refine lv_istore (lv' := [(5, .int (nI (0))), (3, .long (lN (hiD (rP σ) k))), (0, .ref (rA G 0)), (1, .int (nI (10 * μ))), (2, .int (nI (k)))]) hx hb d_R_fold_94 hl (by decide) rfl (fun ls hl => ?_)
      have inner : ∀ (n j : Nat), j + n = 5 → ∀ (F2 : Nat → Nat) (H : Heap) (locs : List Loc) (ls : Array Slot), (∀ i, i < 22 → F2 i < 67108864 + (5 * k + j) * 4503599627370496) → pw F2 = pw F + hiD (rP σ) k * b26 ^ k * pv (fun i => rRest (10 * μ + i)) j → rH G (rsF σ F2) s H locs → lv_has ls 6 [(0, .ref (rA G 0)), (1, .int (nI (10 * μ))), (2, .int (nI (k))), (3, .long (lN (hiD (rP σ) k))), (5, .int (nI (j)))] → W p l e (headSpec (zW y_R_fold b_R_fold 6 none) (zr 1 25)).room s m ([.ref (rA G 0), .int (nI (10 * μ))] : List Value).toArray below meth c H locs 0 0 (MQ below (va_Qv (fun u => ∃ P F, u = rsP (rsF σ F) P ∧ (∀ j, j < 22 → P j < b26) ∧ pw P = pw (rP σ) % W256 + pw (rP σ) / W256 * rGap μ) (fun u => rC G u) (rAA G)) ([.ref (rA G 0), .int (nI (10 * μ))] : List Value).toArray s 0 0 (rAA G)) (F0 m 96 ls []) := by
        have leave : ∀ (j : Nat), j ≤ 5 → ∀ (F2 : Nat → Nat) (H : Heap) (locs : List Loc) (ls : Array Slot), (∀ i, i < 22 → F2 i < 67108864 + (5 * k + 5) * 4503599627370496) → pw F2 = pw F + hiD (rP σ) k * b26 ^ k * rGap μ → rH G (rsF σ F2) s H locs → lv_has ls 6 [(0, .ref (rA G 0)), (1, .int (nI (10 * μ))), (2, .int (nI (k))), (3, .long (lN (hiD (rP σ) k))), (5, .int (nI (j)))] → W p l e (headSpec (zW y_R_fold b_R_fold 6 none) (zr 1 25)).room s m ([.ref (rA G 0), .int (nI (10 * μ))] : List Value).toArray below meth c H locs 0 0 (MQ below (va_Qv (fun u => ∃ P F, u = rsP (rsF σ F) P ∧ (∀ j, j < 22 → P j < b26) ∧ pw P = pw (rP σ) % W256 + pw (rP σ) / W256 * rGap μ) (fun u => rC G u) (rAA G)) ([.ref (rA G 0), .int (nI (10 * μ))] : List Value).toArray s 0 0 (rAA G)) (F0 m 138 ls []) := by
          intro j hj F2 H locs ls hF2 hv2 hw hl
          refine lv_iinc (v := nI (k + 1)) (lv' := [(2, .int (nI (k + 1))), (0, .ref (rA G 0)), (1, .int (nI (10 * μ))), (3, .long (lN (hiD (rP σ) k))), (5, .int (nI (j)))]) hx hb d_R_fold_138 hl (k := 2) rfl (nI_add k 1) (by decide) rfl (fun ls hl => ?_)
          refine lv_goto (tgt := 58) hx hb d_R_fold_141 (by decide) ?_
          refine ih (k + 1) (by omega) F2 H locs ls hF2 ?_ hw (lv_sub hl [1, 2, 0] rfl)
          rw [hv2, hFv]
          show _ = pw (rP σ) % W256 + (pv (hiD (rP σ)) k + hiD (rP σ) k * b26 ^ k) * rGap μ
          rw [Nat.add_mul, Nat.add_assoc]
        intro n
        induction n with
        | zero =>
          intro j hj F2 H locs ls hF2 hv2 hw hl
          have hj : j = 5 := by omega
          subst hj
          refine lv_iload hx hb d_R_fold_96 (lv_at hl 4 rfl) ?_
          refine lv_iconst (v := nI 5) hx hb d_R_fold_98 (by decide) ?_
          refine n_ge (tgt := 138) hx hb d_R_fold_99 (by decide) (by decide) (by decide) (fun _ => ?_) (fun h => absurd h (by omega))
          exact leave 5 (Nat.le_refl 5) F2 H locs ls hF2 hv2 hw hl
        | succ n ih2 =>
          intro j hj F2 H locs ls hF2 hv2 hw hl
          refine lv_iload hx hb d_R_fold_96 (lv_at hl 4 rfl) ?_
          refine lv_iconst (v := nI 5) hx hb d_R_fold_98 (by decide) ?_
          refine n_ge (tgt := 138) hx hb d_R_fold_99 (by decide) (by omega) (by decide) (fun h => absurd h (by omega)) (fun _ => ?_)
          refine lv_lload_n hx hb d_R_fold_102 rfl (lv_at hl 3 rfl) ?_
          refine lv_lconst (v := lN 0) hx hb d_R_fold_103 (by decide) ?_
          refine W.lcmp hx hb d_R_fold_104 ?_
          refine lv_if_le (tgt := 138) hx hb d_R_fold_105 (by decide) (fun c2 => ?_) (fun c2 => ?_)
          · rw [lcmp_le (by omega) (by decide)] at c2
            have h0 : hiD (rP σ) k = 0 := by omega
            refine leave j (by omega) F2 H locs ls (fun i hi => bnd_mono (hF2 i hi) (by omega)) ?_ hw hl
            rw [hv2, h0, Nat.zero_mul, Nat.zero_mul, Nat.zero_mul]
          · have hr0 : rRest (10 * μ + j) < 67108864 := rRest_lt _
            have hF2k := hF2 (k + j) (by omega)
            refine lv_aload_n hx hb d_R_fold_108 rfl (lv_at hl 0 rfl) ?_
            refine r_get hx hb ht hown hw 2 (by decide) (ht _ kf_R_17) rfl d_R_fold_109 (fun _ h9 => h9) ?_
            refine lv_iload_n hx hb d_R_fold_112 rfl (lv_at hl 2 rfl) ?_
            refine lv_iload hx hb d_R_fold_113 (lv_at hl 4 rfl) ?_
            refine lv_iadd hx hb d_R_fold_115 ?_
            refine tp_i (y := nI (k + j)) (nI_add _ _) ?_
            refine lv_dup2_11 hx hb d_R_fold_116 rfl rfl ?_
            refine r_lldF hx hb hw (by omega) d_R_fold_117 ?_
            refine tp_l (y := lN (F2 (k + j))) (rfl) ?_
            refine lv_lload_n hx hb d_R_fold_118 rfl (lv_at hl 3 rfl) ?_
            refine lv_aload_n hx hb d_R_fold_119 rfl (lv_at hl 0 rfl) ?_
            refine r_get hx hb ht hown hw 3 (by decide) (ht _ kf_R_20) rfl d_R_fold_120 (fun _ h9 => h9) ?_
            refine lv_iload_n hx hb d_R_fold_123 rfl (lv_at hl 1 rfl) ?_
            refine lv_iload hx hb d_R_fold_124 (lv_at hl 4 rfl) ?_
            refine lv_iadd hx hb d_R_fold_126 ?_
            refine tp_i (y := nI ((10 * μ) + j)) (nI_add _ _) ?_
            refine r_ildR hx hb hw (by omega) d_R_fold_127 ?_
            refine lv_i2l (v := lN (rRest (10 * μ + j))) hx hb d_R_fold_128 (nI_l (by omega)) ?_
            refine lv_lmul hx hb d_R_fold_129 ?_
            refine tp_l (y := lN ((hiD (rP σ) k) * (rRest (10 * μ + j)))) (lN_mul _ _) ?_
            refine lv_ladd hx hb d_R_fold_130 ?_
            refine tp_l (y := lN ((F2 (k + j)) + ((hiD (rP σ) k) * (rRest (10 * μ + j))))) (lN_add _ _) ?_
            refine r_lstF hx hb hw (by omega) d_R_fold_131 (fun H locs hw => ?_)
            refine lv_iinc (v := nI (j + 1)) (lv' := [(5, .int (nI (j + 1))), (0, .ref (rA G 0)), (1, .int (nI (10 * μ))), (2, .int (nI (k))), (3, .long (lN (hiD (rP σ) k)))]) hx hb d_R_fold_132 hl (k := 4) rfl (nI_add j 1) (by decide) rfl (fun ls hl => ?_)
            refine lv_goto (tgt := 96) hx hb d_R_fold_135 (by decide) ?_
            have hmul : hiD (rP σ) k * rRest (10 * μ + j) ≤ 67108864 * 67108864 := Nat.mul_le_mul (Nat.le_of_lt hhi) (Nat.le_of_lt hr0)
            refine ih2 (j + 1) (by omega) (va_up F2 (k + j) (F2 (k + j) + hiD (rP σ) k * rRest (10 * μ + j))) H locs ls (fun i hi => ?_) ?_ hw (lv_sub hl [1, 2, 3, 4, 0] rfl)
            · by_cases e : i = k + j
              · rw [e, up_self]; omega
              · rw [up_ne _ _ e]; exact bnd_mono (hF2 i hi) (by omega)
            · have e1 : pw (va_up F2 (k + j) (F2 (k + j) + hiD (rP σ) k * rRest (10 * μ + j))) = pw F2 + hiD (rP σ) k * rRest (10 * μ + j) * b26 ^ (k + j) := pv_inc F2 _ 22 (by omega)
              rw [e1, hv2]
              show _ = pw F + hiD (rP σ) k * b26 ^ k * (pv (fun i => rRest (10 * μ + i)) j + rRest (10 * μ + j) * b26 ^ j)
              rw [Nat.mul_add, Nat.pow_add, Nat.add_assoc]
              congr 2
              grind
      refine inner 5 0 rfl F H locs ls (fun i hi => by have := hF i hi; omega) (by show pw F = pw F + _ * 0; omega) hw (lv_sub hl [2, 3, 4, 1, 0] rfl)
  refine lv_iconst (v := nI 0) hx hb d_R_fold_0 (by decide) ?_
  refine lv_istore_n (lv' := [(2, .int (nI (0))), (0, .ref (rA G 0)), (1, .int (nI (10 * μ)))]) hx hb d_R_fold_1 rfl hl (by decide) rfl (fun ls hl => ?_)
  have first : ∀ (n k : Nat), k + n = 22 → ∀ (F : Nat → Nat) (H : Heap) (locs : List Loc) (ls : Array Slot), (∀ j, j < k → F j = loD (rP σ) j) → rH G (rsF σ F) s H locs → lv_has ls 6 [(0, .ref (rA G 0)), (1, .int (nI (10 * μ))), (2, .int (nI (k)))] → W p l e (headSpec (zW y_R_fold b_R_fold 6 none) (zr 1 25)).room s m ([.ref (rA G 0), .int (nI (10 * μ))] : List Value).toArray below meth c H locs 0 0 (MQ below (va_Qv (fun u => ∃ P F, u = rsP (rsF σ F) P ∧ (∀ j, j < 22 → P j < b26) ∧ pw P = pw (rP σ) % W256 + pw (rP σ) / W256 * rGap μ) (fun u => rC G u) (rAA G)) ([.ref (rA G 0), .int (nI (10 * μ))] : List Value).toArray s 0 0 (rAA G)) (F0 m 2 ls []) := by
    intro n
    induction n with
    | zero =>
      intro k hk F H locs ls hF hw hl
      have hk : k = 22 := by omega
      subst hk
      refine lv_iload_n hx hb d_R_fold_2 rfl (lv_at hl 2 rfl) ?_
      refine lv_bipush (v := nI 22) hx hb d_R_fold_3 (by decide) ?_
      refine n_ge (tgt := 56) hx hb d_R_fold_5 (by decide) (by decide) (by decide) (fun _ => ?_) (fun h => absurd h (by omega))
      refine lv_iconst (v := nI 0) hx hb d_R_fold_56 (by decide) ?_
      refine lv_istore_n (lv' := [(2, .int (nI (0))), (0, .ref (rA G 0)), (1, .int (nI (10 * μ)))]) hx hb d_R_fold_57 rfl hl (by decide) rfl (fun ls hl => ?_)
      refine second 12 0 rfl F H locs ls (fun j hj => ?_) ?_ hw (lv_sub hl [1, 2, 0] rfl)
      · rw [hF j hj]; unfold loD; have := hP60 j hj; have := hP60 9 (by decide); split; omega; split; omega; omega
      · have e1 : pw F = pw (loD (rP σ)) := pv_congr 22 hF
        rw [e1, lo_val hP]
        show _ = _ + 0 * _
        rw [Nat.zero_mul, Nat.add_zero]
    | succ n ih =>
      intro k hk F H locs ls hF hw hl
      refine lv_iload_n hx hb d_R_fold_2 rfl (lv_at hl 2 rfl) ?_
      refine lv_bipush (v := nI 22) hx hb d_R_fold_3 (by decide) ?_
      refine n_ge (tgt := 56) hx hb d_R_fold_5 (by decide) (by omega) (by decide) (fun h => absurd h (by omega)) (fun _ => ?_)
      have put : ∀ (v : Nat), v = loD (rP σ) k → ∀ (H : Heap) (locs : List Loc) (ls : Array Slot), rH G (rsF σ F) s H locs → lv_has ls 6 [(0, .ref (rA G 0)), (1, .int (nI (10 * μ))), (2, .int (nI (k)))] → W p l e (headSpec (zW y_R_fold b_R_fold 6 none) (zr 1 25)).room s m ([.ref (rA G 0), .int (nI (10 * μ))] : List Value).toArray below meth c H locs 0 0 (MQ below (va_Qv (fun u => ∃ P F, u = rsP (rsF σ F) P ∧ (∀ j, j < 22 → P j < b26) ∧ pw P = pw (rP σ) % W256 + pw (rP σ) / W256 * rGap μ) (fun u => rC G u) (rAA G)) ([.ref (rA G 0), .int (nI (10 * μ))] : List Value).toArray s 0 0 (rAA G)) (F0 m 49 ls [.long (lN (v)), .int (nI (k)), .ref (rA G 3)]) := by
        intro v hv H locs ls hw hl
        refine r_lstF hx hb hw (by omega) d_R_fold_49 (fun H locs hw => ?_)
        refine lv_iinc (v := nI (k + 1)) (lv' := [(2, .int (nI (k + 1))), (0, .ref (rA G 0)), (1, .int (nI (10 * μ)))]) hx hb d_R_fold_50 hl (k := 2) rfl (nI_add k 1) (by decide) rfl (fun ls hl => ?_)
        refine lv_goto (tgt := 2) hx hb d_R_fold_53 (by decide) ?_
        refine ih (k + 1) (by omega) (va_up F k v) H locs ls (fun j hj => ?_) hw (lv_sub hl [1, 2, 0] rfl)
        by_cases e : j = k
        · rw [e, up_self]; exact hv
        · rw [up_ne _ _ e]; exact hF j (by omega)
      refine lv_aload_n hx hb d_R_fold_8 rfl (lv_at hl 0 rfl) ?_
      refine r_get hx hb ht hown hw 2 (by decide) (ht _ kf_R_17) rfl d_R_fold_9 (fun _ h9 => h9) ?_
      refine lv_iload_n hx hb d_R_fold_12 rfl (lv_at hl 2 rfl) ?_
      refine lv_iload_n hx hb d_R_fold_13 rfl (lv_at hl 2 rfl) ?_
      refine lv_bipush (v := nI 9) hx hb d_R_fold_14 (by decide) ?_
      refine n_ge (tgt := 28) hx hb d_R_fold_16 (by decide) (by omega) (by decide) (fun c1 => ?_) (fun c1 => ?_)
      · refine lv_iload_n hx hb d_R_fold_28 rfl (lv_at hl 2 rfl) ?_
        refine lv_bipush (v := nI 9) hx hb d_R_fold_29 (by decide) ?_
        refine n_ne (tgt := 48) hx hb d_R_fold_31 (by decide) (by omega) (by decide) (fun c2 => ?_) (fun c2 => ?_)
        · refine lv_lconst (v := lN 0) hx hb d_R_fold_48 (by decide) ?_
          exact put 0 (by unfold loD; rw [if_neg (by omega), if_neg c2]) H locs ls hw hl
        · refine lv_aload_n hx hb d_R_fold_34 rfl (lv_at hl 0 rfl) ?_
          refine r_get hx hb ht hown hw 1 (by decide) (ht _ kf_R_13) rfl d_R_fold_35 (fun _ h9 => h9) ?_
          refine lv_bipush (v := nI 9) hx hb d_R_fold_38 (by decide) ?_
          have q9 := hP60 9 (by decide)
          refine r_lldP hx hb hw (by decide) d_R_fold_40 ?_
          refine tp_l (y := lN (rP σ 9)) (rfl) ?_
          refine lv_ldc2 hx hb hown (ht _ kl_R_84) d_R_fold_41 ?_
          refine lv_land hx hb d_R_fold_44 ?_
          refine tp_l (y := lN (rP σ 9 % 4194304)) (land22 (by omega)) ?_
          refine lv_goto (tgt := 49) hx hb d_R_fold_45 (by decide) ?_
          exact put (rP σ 9 % 4194304) (by unfold loD; rw [if_neg (by omega), if_pos c2]) H locs ls hw hl
      · refine lv_aload_n hx hb d_R_fold_19 rfl (lv_at hl 0 rfl) ?_
        refine r_get hx hb ht hown hw 1 (by decide) (ht _ kf_R_13) rfl d_R_fold_20 (fun _ h9 => h9) ?_
        refine lv_iload_n hx hb d_R_fold_23 rfl (lv_at hl 2 rfl) ?_
        refine r_lldP hx hb hw (by omega) d_R_fold_24 ?_
        refine tp_l (y := lN (rP σ k)) (rfl) ?_
        refine lv_goto (tgt := 49) hx hb d_R_fold_25 (by decide) ?_
        exact put (rP σ k) (by unfold loD; rw [if_pos c1]) H locs ls hw hl
  exact first 22 0 rfl (rF σ) _ _ ls (fun j hj => absurd hj (by omega)) hw (lv_sub hl [1, 2, 0] rfl)
