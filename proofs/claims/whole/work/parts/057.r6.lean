/-! the product of the reference -/
theorem prod_small {A B : Nat} (hA : A < b26 ^ 10) (hB : B < b26 ^ 10) : A * B < W256 * B12 ∧ A * B < B22 := by
  have h1 : A * B ≤ b26 ^ 10 * b26 ^ 10 := Nat.mul_le_mul (Nat.le_of_lt hA) (Nat.le_of_lt hB)
  exact ⟨Nat.lt_of_le_of_lt h1 (by decide), Nat.lt_of_le_of_lt h1 (by decide)⟩
theorem low10 {P : Nat → Nat} (hP : ∀ j, j < 22 → P j < b26) (h : ¬ W256 ≤ pw P) : pv P 10 = pw P := by
  have e : pw P % b26 ^ 10 = pv P 10 := pv_mod 22 (by decide) (fun j hj => hP j (by omega))
  rw [← e, Nat.mod_eq_of_lt (Nat.lt_of_lt_of_le (Nat.lt_of_not_le h) W256_10)]
theorem rMod_pos {μ : Nat} (h : μ < 2) : 0 < rMod μ := by
  have := rMod_half h
  omega
theorem once_mod {T W Mo : Nat} (h1 : T < W) (h2 : W < 2 * Mo) (h3 : Mo ≤ T) : T - Mo = T % Mo := by
  rw [Nat.mod_eq_sub_mod h3, Nat.mod_eq_of_lt (by omega)]
set_option maxHeartbeats 4000000 in
set_option maxRecDepth 100000 in
theorem c_R_multiply (l : Launch) (G : rG) (σ : rS) (hok : rOk σ) {μ to a b : Nat} (hμ : μ < 2) (h1 : to < 48) (h2 : a < 48) (h3 : b < 48) (hto : to ≠ 8 + μ) (hq : rV σ (8 + μ) = rMod μ) : Met l y_R_multiply (zW y_R_multiply b_R_multiply 9 none) (zr 2 50) (va_Pc [.ref (rA G 0), .int (nI (to)), .int (nI (a)), .int (nI (b)), .int (nI (8 + μ))] (rC G σ)) (va_Qv (fun u => ∃ P F, u = rsP (rsF (rsV σ (va_up (rV σ) to ((rV σ a * rV σ b) % rMod μ))) F) P) (fun u => rC G u) (rAA G)) 0 0 (rAA G) := by
  refine Met.ofW (cc := b_R_multiply) (maxL := 9) (ret := none) (by decide) rfl ?_
  intro p e s m args below meth c s₁ B hml hv
  obtain ⟨rfl, hw⟩ := hv
  have hx := B.exec
  have hb := B.bytes
  have hr := B.returns
  have hts := atoms_spec (ws := zW y_R_multiply b_R_multiply 9 none) B.pre
  have ht : ∀ w ∈ zT, w.before ([.ref (rA G 0), .int (nI (to)), .int (nI (a)), .int (nI (b)), .int (nI (8 + μ))] : List Value).toArray s = true := fun w h => hts w (List.mem_cons_of_mem _ h)
  have hown : s.vm.findClass R_R = some m.cls := findClass_of_methodNamed B.named
  have hlocks := B.notSynchronized
  have hl := lv_entry ([.ref (rA G 0), .int (nI (to)), .int (nI (a)), .int (nI (b)), .int (nI (8 + μ))]) (n := 9) (Nat.le_of_ble_eq_true rfl)
  rw [lg_entry_eq]
  generalize (lg_sl ([.ref (rA G 0), .int (nI (to)), .int (nI (a)), .int (nI (b)), .int (nI (8 + μ))]) ++ List.replicate (9 - (lg_sl ([.ref (rA G 0), .int (nI (to)), .int (nI (a)), .int (nI (b)), .int (nI (8 + μ))])).length) Slot.unset).toArray = ls at hl ⊢
  have hl : lv_has ls 9 [(0, .ref (rA G 0)), (1, .int (nI (to))), (2, .int (nI (a))), (3, .int (nI (b))), (4, .int (nI (8 + μ)))] := hl
  have last : ∀ (P F : Nat → Nat) (T : Nat) (k : Nat), T < W256 → T % rMod μ = (rV σ a * rV σ b) % rMod μ → ∀ (H : Heap) (locs : List Loc) (ls : Array Slot), rH G (rsP (rsF (rsV σ (va_up (rV σ) to T)) F) P) s H locs → lv_has ls 9 [(0, .ref (rA G 0)), (1, .int (nI (to))), (2, .int (nI (a))), (3, .int (nI (b))), (4, .int (nI (8 + μ)))] → W p l e (headSpec (zW y_R_multiply b_R_multiply 9 none) (zr 2 50)).room s m ([.ref (rA G 0), .int (nI (to)), .int (nI (a)), .int (nI (b)), .int (nI (8 + μ))] : List Value).toArray below meth c H locs 0 0 (MQ below (va_Qv (fun u => ∃ P F, u = rsP (rsF (rsV σ (va_up (rV σ) to ((rV σ a * rV σ b) % rMod μ))) F) P) (fun u => rC G u) (rAA G)) ([.ref (rA G 0), .int (nI (to)), .int (nI (a)), .int (nI (b)), .int (nI (8 + μ))] : List Value).toArray s 0 0 (rAA G)) (F0 m 169 ls []) := by
    intro P F T k hT hTm H locs ls hw hl
    have hT10 : T < b26 ^ 10 := Nat.lt_of_lt_of_le hT W256_10
    have hok2 : rOk (rsP (rsF (rsV σ (va_up (rV σ) to T)) F) P) := fun r => hok.up hT10 r
    have e1 : va_up (rV σ) to T to = T := up_self _ _ _
    have e2 : va_up (rV σ) to T (8 + μ) = rMod μ := by rw [up_ne _ _ (Ne.symm hto)]; exact hq
    refine lv_aload_n hx hb d_R_multiply_169 rfl (lv_at hl 0 rfl) ?_
    refine lv_iload_n hx hb d_R_multiply_170 rfl (lv_at hl 1 rfl) ?_
    refine lv_iload hx hb d_R_multiply_171 (lv_at hl 4 rfl) ?_
    refine r_calli (np := 2) (As := [.int (nI (to)), .int (nI (8 + μ))]) (rest := []) ⟨hx, hb, hml, hown, ht⟩ hw (c_R_compare l G _ hok2 h1 (by omega)) ⟨km_R_78, kv_R_compare, kx_R_compare, kc_R_compare⟩ (by decide +kernel) ⟨by decide, by decide⟩ rfl rfl rfl hl.1 rfl (by decide) d_R_multiply_173 ⟨Nat.le_refl _, Nat.le_refl _⟩ (fun r u H locs hp hw => ?_)
    obtain ⟨rfl, hp⟩ := hp
    have ec : r = cmpN T (rMod μ) := by rw [hp]; show cmpN (va_up (rV σ) to T to) (va_up (rV σ) to T (8 + μ)) = _; rw [e1, e2]
    refine lv_if_lt (tgt := 187) hx hb d_R_multiply_176 (by decide) (fun c1 => ?_) (fun c1 => ?_)
    · rw [ec, cmpN_lt] at c1
      refine z_vret (rZ _) hx hb hr hlocks _ hw ⟨P, F, ?_⟩ d_R_multiply_187
      rw [← hTm, Nat.mod_eq_of_lt c1]
    · rw [ec, cmpN_lt] at c1
      refine lv_aload_n hx hb d_R_multiply_179 rfl (lv_at hl 0 rfl) ?_
      refine lv_iload_n hx hb d_R_multiply_180 rfl (lv_at hl 1 rfl) ?_
      refine lv_iload hx hb d_R_multiply_181 (lv_at hl 4 rfl) ?_
      refine lv_iconst (v := -1) hx hb d_R_multiply_183 (by decide) ?_
      refine r_callv (np := 3) (As := [.int (nI (to)), .int (nI (8 + μ)), .int ((-1 : Int32))]) (rest := []) ⟨hx, hb, hml, hown, ht⟩ hw (c_R_addm l G _ hok2 h1 (by omega) (Ne.symm hto) (by show va_up (rV σ) to T (8 + μ) ≤ va_up (rV σ) to T to; rw [e1, e2]; exact Nat.not_lt.mp c1)) ⟨km_R_74, kv_R_add, kx_R_add, kc_R_add⟩ (by decide +kernel) ⟨by decide, by decide⟩ rfl rfl rfl hl.1 rfl (by decide) d_R_multiply_184 ⟨Nat.le_refl _, Nat.le_refl _⟩ (fun u H locs hp hw => ?_)
      refine z_vret (rZ _) hx hb hr hlocks _ hw ⟨P, F, ?_⟩ d_R_multiply_187
      rw [hp]
      show rsP (rsF (rsV σ (va_up (va_up (rV σ) to T) to (va_up (rV σ) to T to - va_up (rV σ) to T (8 + μ)))) F) P = _
      rw [up_up, e1, e2, once_mod hT (rMod_half hμ) (Nat.not_lt.mp c1), hTm]
  have copy : ∀ (P F : Nat → Nat), (∀ j, j < 22 → P j < b26) → ¬ W256 ≤ pw P → pw P % rMod μ = (rV σ a * rV σ b) % rMod μ → ∀ (n k : Nat), k + n = 10 → ∀ (w : Nat) (H : Heap) (locs : List Loc) (ls : Array Slot), w < b26 ^ 10 → w % b26 ^ k = pv P k → rH G (rsP (rsF (rsV σ (va_up (rV σ) to w)) F) P) s H locs → lv_has ls 9 [(0, .ref (rA G 0)), (1, .int (nI (to))), (2, .int (nI (a))), (3, .int (nI (b))), (4, .int (nI (8 + μ))), (5, .int (nI (k)))] → W p l e (headSpec (zW y_R_multiply b_R_multiply 9 none) (zr 2 50)).room s m ([.ref (rA G 0), .int (nI (to)), .int (nI (a)), .int (nI (b)), .int (nI (8 + μ))] : List Value).toArray below meth c H locs 0 0 (MQ below (va_Qv (fun u => ∃ P F, u = rsP (rsF (rsV σ (va_up (rV σ) to ((rV σ a * rV σ b) % rMod μ))) F) P) (fun u => rC G u) (rAA G)) ([.ref (rA G 0), .int (nI (to)), .int (nI (a)), .int (nI (b)), .int (nI (8 + μ))] : List Value).toArray s 0 0 (rAA G)) (F0 m 136 ls []) := by
    intro P F hP hnw hPm n
    induction n with
    | zero =>
      intro k hk w H locs ls hwb hwm hw hl
      have hk : k = 10 := by omega
      subst hk
      refine lv_iload hx hb d_R_multiply_136 (lv_at hl 5 rfl) ?_
      refine lv_bipush (v := nI 10) hx hb d_R_multiply_138 (by decide) ?_
      refine n_ge (tgt := 169) hx hb d_R_multiply_140 (by decide) (by decide) (by decide) (fun _ => ?_) (fun h => absurd h (by omega))
      rw [Nat.mod_eq_of_lt hwb, low10 hP hnw] at hwm
      exact last P F w 10 (by rw [hwm]; exact Nat.lt_of_not_le hnw) (by rw [hwm]; exact hPm) H locs ls hw (lv_sub hl [0, 1, 2, 3, 4] rfl)
    | succ n ih =>
      intro k hk w H locs ls hwb hwm hw hl
      refine lv_iload hx hb d_R_multiply_136 (lv_at hl 5 rfl) ?_
      refine lv_bipush (v := nI 10) hx hb d_R_multiply_138 (by decide) ?_
      refine n_ge (tgt := 169) hx hb d_R_multiply_140 (by decide) (by omega) (by decide) (fun h => absurd h (by omega)) (fun _ => ?_)
      refine lv_aload_n hx hb d_R_multiply_143 rfl (lv_at hl 0 rfl) ?_
      refine r_get hx hb ht hown hw 0 (by decide) (ht _ kf_R_7) rfl d_R_multiply_144 (fun _ h9 => h9) ?_
      refine lv_bipush (v := nI 10) hx hb d_R_multiply_147 (by decide) ?_
      refine lv_iload_n hx hb d_R_multiply_149 rfl (lv_at hl 1 rfl) ?_
      refine lv_imul hx hb d_R_multiply_150 ?_
      refine tp_i (y := nI (10 * to)) (pk_mul _ _) ?_
      refine lv_iload hx hb d_R_multiply_151 (lv_at hl 5 rfl) ?_
      refine lv_iadd hx hb d_R_multiply_153 ?_
      refine tp_i (y := nI ((10 * to) + k)) (nI_add _ _) ?_
      refine lv_aload_n hx hb d_R_multiply_154 rfl (lv_at hl 0 rfl) ?_
      refine r_get hx hb ht hown hw 1 (by decide) (ht _ kf_R_13) rfl d_R_multiply_155 (fun _ h9 => h9) ?_
      refine lv_iload hx hb d_R_multiply_158 (lv_at hl 5 rfl) ?_
      refine r_lldP hx hb hw (by omega) d_R_multiply_160 ?_
      refine tp_l (y := lN (P k)) (rfl) ?_
      refine lv_l2i (v := nI (P k)) hx hb d_R_multiply_161 (lN_i _) ?_
      refine r_ist hx hb hw h1 (by omega) (hP k (by omega)) d_R_multiply_162 (fun H locs hw => ?_)
      refine lv_iinc (v := nI (k + 1)) (lv' := [(5, .int (nI (k + 1))), (0, .ref (rA G 0)), (1, .int (nI (to))), (2, .int (nI (a))), (3, .int (nI (b))), (4, .int (nI (8 + μ)))]) hx hb d_R_multiply_163 hl (k := 5) rfl (nI_add k 1) (by decide) rfl (fun ls hl => ?_)
      refine lv_goto (tgt := 136) hx hb d_R_multiply_166 (by decide) ?_
      refine ih (k + 1) (by omega) (ds b26 w k (P k)) H locs ls (ds_lt b26_pos (hP k (by omega)) (by omega) hwb) ?_ ?_ (lv_sub hl [1, 2, 3, 4, 5, 0] rfl)
      · rw [ds_mod b26_pos _ (hP k (by omega)), hwm]; rfl
      · have e2 : va_up (va_up (rV σ) to w) to (ds b26 (va_up (rV σ) to w to) k (P k)) = va_up (rV σ) to (ds b26 w k (P k)) := by rw [up_up, up_self]
        rw [← e2]
        exact hw
  have wide : ∀ (T : Nat) (P F : Nat → Nat) (k : Nat), pw P = T → (∀ j, j < 22 → P j < b26) → T < W256 * B12 → T % rMod μ = (rV σ a * rV σ b) % rMod μ → ∀ (H : Heap) (locs : List Loc) (ls : Array Slot), rH G (rsP (rsF σ F) P) s H locs → lv_has ls 9 [(0, .ref (rA G 0)), (1, .int (nI (to))), (2, .int (nI (a))), (3, .int (nI (b))), (4, .int (nI (8 + μ)))] → W p l e (headSpec (zW y_R_multiply b_R_multiply 9 none) (zr 2 50)).room s m ([.ref (rA G 0), .int (nI (to)), .int (nI (a)), .int (nI (b)), .int (nI (8 + μ))] : List Value).toArray below meth c H locs 0 0 (MQ below (va_Qv (fun u => ∃ P F, u = rsP (rsF (rsV σ (va_up (rV σ) to ((rV σ a * rV σ b) % rMod μ))) F) P) (fun u => rC G u) (rAA G)) ([.ref (rA G 0), .int (nI (to)), .int (nI (a)), .int (nI (b)), .int (nI (8 + μ))] : List Value).toArray s 0 0 (rAA G)) (F0 m 111 ls []) := by
    intro T
    induction T using Nat.strongRecOn with
    | ind T ih =>
      intro P F k hPT hP hT hTm H locs ls hw hl
      refine lv_aload_n hx hb d_R_multiply_111 rfl (lv_at hl 0 rfl) ?_
      refine r_calli (np := 0) (As := []) (rest := []) ⟨hx, hb, hml, hown, ht⟩ hw (c_R_isWide l G (rsP (rsF σ F) P) hP) ⟨km_R_89, kv_R_isWide, kx_R_isWide, kc_R_isWide⟩ (by decide +kernel) ⟨by decide, by decide⟩ rfl rfl rfl hl.1 rfl (by decide) d_R_multiply_112 ⟨Nat.le_refl _, Nat.le_refl _⟩ (fun r u H locs hp hw => ?_)
      obtain ⟨rfl, hp⟩ := hp
      subst hp
      refine n_eq0 (tgt := 133) hx hb d_R_multiply_115 (by decide) (Nat.lt_trans (boolN_lt _) (by decide)) (fun c1 => ?_) (fun c1 => ?_)
      · have c2 : ¬ W256 ≤ pw P := fun q => by rw [show boolN (W256 ≤ pw (rP (rsP (rsF σ F) P))) = 1 from boolN_t q] at c1; cases c1
        refine lv_iconst (v := nI 0) hx hb d_R_multiply_133 (by decide) ?_
        refine lv_istore (lv' := [(5, .int (nI (0))), (0, .ref (rA G 0)), (1, .int (nI (to))), (2, .int (nI (a))), (3, .int (nI (b))), (4, .int (nI (8 + μ)))]) hx hb d_R_multiply_134 hl (by decide) rfl (fun ls hl => ?_)
        refine copy P F hP c2 (by rw [hPT]; exact hTm) 10 0 rfl (rV σ to) H locs ls (hok to) (by rw [Nat.pow_zero, Nat.mod_one]; rfl) ?_ (lv_sub hl [1, 2, 3, 4, 5, 0] rfl)
        rw [up_id]
        exact hw
      · have c2 : W256 ≤ pw P := by
          by_cases q : W256 ≤ pw P
          · exact q
          · exact absurd (boolN_f q) c1
        refine lv_aload_n hx hb d_R_multiply_118 rfl (lv_at hl 0 rfl) ?_
        refine lv_bipush (v := nI 10) hx hb d_R_multiply_119 (by decide) ?_
        refine lv_iload hx hb d_R_multiply_121 (lv_at hl 4 rfl) ?_
        refine lv_bipush (v := nI 8) hx hb d_R_multiply_123 (by decide) ?_
        refine lv_isub hx hb d_R_multiply_125 ?_
        refine tp_i (y := nI (μ)) (by rw [pk_sub (by omega)]; congr 1; omega) ?_
        refine lv_imul hx hb d_R_multiply_126 ?_
        refine tp_i (y := nI (10 * μ)) (pk_mul _ _) ?_
        refine r_callv (np := 1) (As := [.int (nI (10 * μ))]) (rest := []) ⟨hx, hb, hml, hown, ht⟩ hw (c_R_fold l G (rsP (rsF σ F) P) hμ hP (by show pw P < _; rw [hPT]; exact hT)) ⟨km_R_93, kv_R_fold, kx_R_fold, kc_R_fold⟩ (by decide +kernel) ⟨by decide, by decide⟩ rfl rfl rfl hl.1 rfl (by decide) d_R_multiply_127 ⟨Nat.le_refl _, Nat.le_refl _⟩ (fun u H locs hp hw => ?_)
        obtain ⟨P2, F2, rfl, hP2, hv2⟩ := hp
        have hv3 : pw P2 = T % W256 + T / W256 * rGap μ := by rw [hv2, ← hPT]
        rw [hPT] at c2
        have hlt : pw P2 < T := by rw [hv3]; exact fold_lt (rGap_eq hμ) (rMod_pos hμ) c2
        refine lv_goto (tgt := 111) hx hb d_R_multiply_130 (by decide) ?_
        exact ih (pw P2) hlt P2 F2 k rfl hP2 (Nat.lt_trans hlt hT) (by rw [hv3, fold_mod (rGap_eq hμ)]; exact hTm) H locs ls hw hl
  have rowsB : ∀ (n i : Nat), i + n = 10 → ∀ (P : Nat → Nat) (H : Heap) (locs : List Loc) (ls : Array Slot), (∀ j, j < 22 → P j < 1 + (10 * i) * 4503599627370496) → pw P = rV σ a % b26 ^ i * rV σ b → rH G (rsP σ P) s H locs → lv_has ls 9 [(0, .ref (rA G 0)), (1, .int (nI (to))), (2, .int (nI (a))), (3, .int (nI (b))), (4, .int (nI (8 + μ))), (5, .int (nI (i)))] → W p l e (headSpec (zW y_R_multiply b_R_multiply 9 none) (zr 2 50)).room s m ([.ref (rA G 0), .int (nI (to)), .int (nI (a)), .int (nI (b)), .int (nI (8 + μ))] : List Value).toArray below meth c H locs 0 0 (MQ below (va_Qv (fun u => ∃ P F, u = rsP (rsF (rsV σ (va_up (rV σ) to ((rV σ a * rV σ b) % rMod μ))) F) P) (fun u => rC G u) (rAA G)) ([.ref (rA G 0), .int (nI (to)), .int (nI (a)), .int (nI (b)), .int (nI (8 + μ))] : List Value).toArray s 0 0 (rAA G)) (F0 m 27 ls []) := by
    intro n
    induction n with
    | zero =>
      intro i hi P H locs ls hPb hPv hw hl
      have hi : i = 10 := by omega
      subst hi
      refine lv_iload hx hb d_R_multiply_27 (lv_at hl 5 rfl) ?_
      refine lv_bipush (v := nI 10) hx hb d_R_multiply_29 (by decide) ?_
      refine n_ge (tgt := 107) hx hb d_R_multiply_31 (by decide) (by decide) (by decide) (fun _ => ?_) (fun h => absurd h (by omega))
      rw [Nat.mod_eq_of_lt (hok a)] at hPv
      have hsm := prod_small (hok a) (hok b)
      refine lv_aload_n hx hb d_R_multiply_107 rfl (lv_at hl 0 rfl) ?_
      refine r_callv (np := 0) (As := []) (rest := []) ⟨hx, hb, hml, hown, ht⟩ hw (c_R_carry l G (rsP σ P) (fun j hj => Nat.lt_of_lt_of_le (hPb j hj) (by decide)) (by show pw P < _; rw [hPv]; exact hsm.2)) ⟨km_R_86, kv_R_carry, kx_R_carry, kc_R_carry⟩ (by decide +kernel) ⟨by decide, by decide⟩ rfl rfl rfl hl.1 rfl (by decide) d_R_multiply_108 ⟨Nat.le_refl _, Nat.le_refl _⟩ (fun u H locs hp hw => ?_)
      obtain ⟨P2, rfl, hP2, hv2⟩ := hp
      have hv3 : pw P2 = rV σ a * rV σ b := by rw [hv2]; exact hPv
      exact wide _ P2 (rF σ) 0 hv3 hP2 hsm.1 rfl H locs ls hw (lv_sub hl [0, 1, 2, 3, 4] rfl)
    | succ n ih =>
      intro i hi P H locs ls hPb hPv hw hl
      refine lv_iload hx hb d_R_multiply_27 (lv_at hl 5 rfl) ?_
      refine lv_bipush (v := nI 10) hx hb d_R_multiply_29 (by decide) ?_
      refine n_ge (tgt := 107) hx hb d_R_multiply_31 (by decide) (by omega) (by decide) (fun h => absurd h (by omega)) (fun _ => ?_)
      have hxa : dg b26 (rV σ a) i < 67108864 := dg_lt b26_pos _ _
      refine lv_aload_n hx hb d_R_multiply_34 rfl (lv_at hl 0 rfl) ?_
      refine r_get hx hb ht hown hw 0 (by decide) (ht _ kf_R_7) rfl d_R_multiply_35 (fun _ h9 => h9) ?_
      refine lv_bipush (v := nI 10) hx hb d_R_multiply_38 (by decide) ?_
      refine lv_iload_n hx hb d_R_multiply_40 rfl (lv_at hl 2 rfl) ?_
      refine lv_imul hx hb d_R_multiply_41 ?_
      refine tp_i (y := nI (10 * a)) (pk_mul _ _) ?_
      refine lv_iload hx hb d_R_multiply_42 (lv_at hl 5 rfl) ?_
      refine lv_iadd hx hb d_R_multiply_44 ?_
      refine tp_i (y := nI ((10 * a) + i)) (nI_add _ _) ?_
      refine r_ild' hx hb hw h2 (by omega) d_R_multiply_45 ?_
      refine tp_i (y := nI (dg b26 (rV σ a) i)) (rfl) ?_
      refine lv_i2l (v := lN (dg b26 (rV σ a) i)) hx hb d_R_multiply_46 (nI_l (by omega)) ?_
      refine lv_lstore (lv' := [(6, .long (lN (dg b26 (rV σ a) i))), (0, .ref (rA G 0)), (1, .int (nI (to))), (2, .int (nI (a))), (3, .int (nI (b))), (4, .int (nI (8 + μ))), (5, .int (nI (i)))]) hx hb d_R_multiply_47 hl (by decide) rfl (fun ls hl => ?_)
      refine lv_iconst (v := nI 0) hx hb d_R_multiply_49 (by decide) ?_
      refine lv_istore (lv' := [(8, .int (nI (0))), (6, .long (lN (dg b26 (rV σ a) i))), (0, .ref (rA G 0)), (1, .int (nI (to))), (2, .int (nI (a))), (3, .int (nI (b))), (4, .int (nI (8 + μ))), (5, .int (nI (i)))]) hx hb d_R_multiply_50 hl (by decide) rfl (fun ls hl => ?_)
      have leave : ∀ (j : Nat), j ≤ 10 → ∀ (P2 : Nat → Nat) (H : Heap) (locs : List Loc) (ls : Array Slot), (∀ q, q < 22 → P2 q < 1 + (10 * i + 10) * 4503599627370496) → pw P2 = pw P + dg b26 (rV σ a) i * b26 ^ i * rV σ b → rH G (rsP σ P2) s H locs → lv_has ls 9 [(0, .ref (rA G 0)), (1, .int (nI (to))), (2, .int (nI (a))), (3, .int (nI (b))), (4, .int (nI (8 + μ))), (5, .int (nI (i))), (6, .long (lN (dg b26 (rV σ a) i))), (8, .int (nI (j)))] → W p l e (headSpec (zW y_R_multiply b_R_multiply 9 none) (zr 2 50)).room s m ([.ref (rA G 0), .int (nI (to)), .int (nI (a)), .int (nI (b)), .int (nI (8 + μ))] : List Value).toArray below meth c H locs 0 0 (MQ below (va_Qv (fun u => ∃ P F, u = rsP (rsF (rsV σ (va_up (rV σ) to ((rV σ a * rV σ b) % rMod μ))) F) P) (fun u => rC G u) (rAA G)) ([.ref (rA G 0), .int (nI (to)), .int (nI (a)), .int (nI (b)), .int (nI (8 + μ))] : List Value).toArray s 0 0 (rAA G)) (F0 m 101 ls []) := by
        intro j hj P2 H locs ls hPb2 hv2 hw hl
        refine lv_iinc (v := nI (i + 1)) (lv' := [(5, .int (nI (i + 1))), (0, .ref (rA G 0)), (1, .int (nI (to))), (2, .int (nI (a))), (3, .int (nI (b))), (4, .int (nI (8 + μ))), (6, .long (lN (dg b26 (rV σ a) i))), (8, .int (nI (j)))]) hx hb d_R_multiply_101 hl (k := 5) rfl (nI_add i 1) (by decide) rfl (fun ls hl => ?_)
        refine lv_goto (tgt := 27) hx hb d_R_multiply_104 (by decide) ?_
        refine ih (i + 1) (by omega) P2 H locs ls hPb2 ?_ hw (lv_sub hl [1, 2, 3, 4, 5, 0] rfl)
        rw [hv2, hPv, dg_mod, Nat.add_mul]
      have inner : ∀ (n j : Nat), j + n = 10 → ∀ (P2 : Nat → Nat) (H : Heap) (locs : List Loc) (ls : Array Slot), (∀ q, q < 22 → P2 q < 1 + (10 * i + j) * 4503599627370496) → pw P2 = pw P + dg b26 (rV σ a) i * b26 ^ i * (rV σ b % b26 ^ j) → rH G (rsP σ P2) s H locs → lv_has ls 9 [(0, .ref (rA G 0)), (1, .int (nI (to))), (2, .int (nI (a))), (3, .int (nI (b))), (4, .int (nI (8 + μ))), (5, .int (nI (i))), (6, .long (lN (dg b26 (rV σ a) i))), (8, .int (nI (j)))] → W p l e (headSpec (zW y_R_multiply b_R_multiply 9 none) (zr 2 50)).room s m ([.ref (rA G 0), .int (nI (to)), .int (nI (a)), .int (nI (b)), .int (nI (8 + μ))] : List Value).toArray below meth c H locs 0 0 (MQ below (va_Qv (fun u => ∃ P F, u = rsP (rsF (rsV σ (va_up (rV σ) to ((rV σ a * rV σ b) % rMod μ))) F) P) (fun u => rC G u) (rAA G)) ([.ref (rA G 0), .int (nI (to)), .int (nI (a)), .int (nI (b)), .int (nI (8 + μ))] : List Value).toArray s 0 0 (rAA G)) (F0 m 52 ls []) := by
        intro n
        induction n with
        | zero =>
          intro j hj P2 H locs ls hPb2 hv2 hw hl
          have hj : j = 10 := by omega
          subst hj
          refine lv_iload hx hb d_R_multiply_52 (lv_at hl 7 rfl) ?_
          refine lv_bipush (v := nI 10) hx hb d_R_multiply_54 (by decide) ?_
          refine n_ge (tgt := 101) hx hb d_R_multiply_56 (by decide) (by decide) (by decide) (fun _ => ?_) (fun h => absurd h (by omega))
          rw [Nat.mod_eq_of_lt (hok b)] at hv2
          exact leave 10 (Nat.le_refl _) P2 H locs ls hPb2 hv2 hw hl
        | succ n ih2 =>
          intro j hj P2 H locs ls hPb2 hv2 hw hl
          refine lv_iload hx hb d_R_multiply_52 (lv_at hl 7 rfl) ?_
          refine lv_bipush (v := nI 10) hx hb d_R_multiply_54 (by decide) ?_
          refine n_ge (tgt := 101) hx hb d_R_multiply_56 (by decide) (by omega) (by decide) (fun h => absurd h (by omega)) (fun _ => ?_)
          refine lv_lload hx hb d_R_multiply_59 (lv_at hl 6 rfl) ?_
          refine lv_lconst (v := lN 0) hx hb d_R_multiply_61 (by decide) ?_
          refine W.lcmp hx hb d_R_multiply_62 ?_
          refine lv_if_le (tgt := 101) hx hb d_R_multiply_63 (by decide) (fun c2 => ?_) (fun c2 => ?_)
          · rw [lcmp_le (Nat.lt_trans hxa (by decide)) (by decide)] at c2
            have h0 : dg b26 (rV σ a) i = 0 := Nat.le_zero.mp c2
            refine leave j (by omega) P2 H locs ls (fun q hq => bnd_mono (hPb2 q hq) (by omega)) ?_ hw hl
            rw [hv2, h0, Nat.zero_mul, Nat.zero_mul, Nat.zero_mul]
          · have hxb : dg b26 (rV σ b) j < 67108864 := dg_lt b26_pos _ _
            have hPk := hPb2 (i + j) (by omega)
            refine lv_aload_n hx hb d_R_multiply_66 rfl (lv_at hl 0 rfl) ?_
            refine r_get hx hb ht hown hw 1 (by decide) (ht _ kf_R_13) rfl d_R_multiply_67 (fun _ h9 => h9) ?_
            refine lv_iload hx hb d_R_multiply_70 (lv_at hl 5 rfl) ?_
            refine lv_iload hx hb d_R_multiply_72 (lv_at hl 7 rfl) ?_
            refine lv_iadd hx hb d_R_multiply_74 ?_
            refine tp_i (y := nI (i + j)) (nI_add _ _) ?_
            refine lv_dup2_11 hx hb d_R_multiply_75 rfl rfl ?_
            refine r_lldP hx hb hw (by omega) d_R_multiply_76 ?_
            refine tp_l (y := lN (P2 (i + j))) (rfl) ?_
            refine lv_lload hx hb d_R_multiply_77 (lv_at hl 6 rfl) ?_
            refine lv_aload_n hx hb d_R_multiply_79 rfl (lv_at hl 0 rfl) ?_
            refine r_get hx hb ht hown hw 0 (by decide) (ht _ kf_R_7) rfl d_R_multiply_80 (fun _ h9 => h9) ?_
            refine lv_bipush (v := nI 10) hx hb d_R_multiply_83 (by decide) ?_
            refine lv_iload_n hx hb d_R_multiply_85 rfl (lv_at hl 3 rfl) ?_
            refine lv_imul hx hb d_R_multiply_86 ?_
            refine tp_i (y := nI (10 * b)) (pk_mul _ _) ?_
            refine lv_iload hx hb d_R_multiply_87 (lv_at hl 7 rfl) ?_
            refine lv_iadd hx hb d_R_multiply_89 ?_
            refine tp_i (y := nI ((10 * b) + j)) (nI_add _ _) ?_
            refine r_ild' hx hb hw h3 (by omega) d_R_multiply_90 ?_
            refine tp_i (y := nI (dg b26 (rV σ b) j)) (rfl) ?_
            refine lv_i2l (v := lN (dg b26 (rV σ b) j)) hx hb d_R_multiply_91 (nI_l (by omega)) ?_
            refine lv_lmul hx hb d_R_multiply_92 ?_
            refine tp_l (y := lN ((dg b26 (rV σ a) i) * (dg b26 (rV σ b) j))) (lN_mul _ _) ?_
            refine lv_ladd hx hb d_R_multiply_93 ?_
            refine tp_l (y := lN ((P2 (i + j)) + ((dg b26 (rV σ a) i) * (dg b26 (rV σ b) j)))) (lN_add _ _) ?_
            refine r_lstP hx hb hw (by omega) d_R_multiply_94 (fun H locs hw => ?_)
            refine lv_iinc (v := nI (j + 1)) (lv' := [(8, .int (nI (j + 1))), (0, .ref (rA G 0)), (1, .int (nI (to))), (2, .int (nI (a))), (3, .int (nI (b))), (4, .int (nI (8 + μ))), (5, .int (nI (i))), (6, .long (lN (dg b26 (rV σ a) i)))]) hx hb d_R_multiply_95 hl (k := 7) rfl (nI_add j 1) (by decide) rfl (fun ls hl => ?_)
            refine lv_goto (tgt := 52) hx hb d_R_multiply_98 (by decide) ?_
            have hmul : dg b26 (rV σ a) i * dg b26 (rV σ b) j ≤ 67108864 * 67108864 := Nat.mul_le_mul (Nat.le_of_lt hxa) (Nat.le_of_lt hxb)
            refine ih2 (j + 1) (by omega) (va_up P2 (i + j) (P2 (i + j) + dg b26 (rV σ a) i * dg b26 (rV σ b) j)) H locs ls (fun q hq => ?_) ?_ hw (lv_sub hl [1, 2, 3, 4, 5, 6, 7, 0] rfl)
            · by_cases e : q = i + j
              · rw [e, up_self]; clear hPv hv2 hPb2; omega
              · rw [up_ne _ _ e]; exact bnd_mono (hPb2 q hq) (by omega)
            · have e1 : pw (va_up P2 (i + j) (P2 (i + j) + dg b26 (rV σ a) i * dg b26 (rV σ b) j)) = pw P2 + dg b26 (rV σ a) i * dg b26 (rV σ b) j * b26 ^ (i + j) := pv_inc P2 _ 22 (by omega)
              rw [e1, hv2, dg_mod b26 (rV σ b) j, Nat.mul_add, Nat.pow_add, Nat.add_assoc]
              congr 2
              grind
      refine inner 10 0 rfl P H locs ls hPb (by rw [Nat.pow_zero, Nat.mod_one, Nat.mul_zero, Nat.add_zero]) hw (lv_sub hl [2, 3, 4, 5, 6, 7, 1, 0] rfl)
  refine lv_iconst (v := nI 0) hx hb d_R_multiply_0 (by decide) ?_
  refine lv_istore (lv' := [(5, .int (nI (0))), (0, .ref (rA G 0)), (1, .int (nI (to))), (2, .int (nI (a))), (3, .int (nI (b))), (4, .int (nI (8 + μ)))]) hx hb d_R_multiply_1 hl (by decide) rfl (fun ls hl => ?_)
  have zero : ∀ (n k : Nat), k + n = 22 → ∀ (P : Nat → Nat) (H : Heap) (locs : List Loc) (ls : Array Slot), (∀ j, j < k → P j = 0) → rH G (rsP σ P) s H locs → lv_has ls 9 [(0, .ref (rA G 0)), (1, .int (nI (to))), (2, .int (nI (a))), (3, .int (nI (b))), (4, .int (nI (8 + μ))), (5, .int (nI (k)))] → W p l e (headSpec (zW y_R_multiply b_R_multiply 9 none) (zr 2 50)).room s m ([.ref (rA G 0), .int (nI (to)), .int (nI (a)), .int (nI (b)), .int (nI (8 + μ))] : List Value).toArray below meth c H locs 0 0 (MQ below (va_Qv (fun u => ∃ P F, u = rsP (rsF (rsV σ (va_up (rV σ) to ((rV σ a * rV σ b) % rMod μ))) F) P) (fun u => rC G u) (rAA G)) ([.ref (rA G 0), .int (nI (to)), .int (nI (a)), .int (nI (b)), .int (nI (8 + μ))] : List Value).toArray s 0 0 (rAA G)) (F0 m 3 ls []) := by
    intro n
    induction n with
    | zero =>
      intro k hk P H locs ls hP hw hl
      have hk : k = 22 := by omega
      subst hk
      refine lv_iload hx hb d_R_multiply_3 (lv_at hl 5 rfl) ?_
      refine lv_bipush (v := nI 22) hx hb d_R_multiply_5 (by decide) ?_
      refine n_ge (tgt := 24) hx hb d_R_multiply_7 (by decide) (by decide) (by decide) (fun _ => ?_) (fun h => absurd h (by omega))
      refine lv_iconst (v := nI 0) hx hb d_R_multiply_24 (by decide) ?_
      refine lv_istore (lv' := [(5, .int (nI (0))), (0, .ref (rA G 0)), (1, .int (nI (to))), (2, .int (nI (a))), (3, .int (nI (b))), (4, .int (nI (8 + μ)))]) hx hb d_R_multiply_25 hl (by decide) rfl (fun ls hl => ?_)
      refine rowsB 10 0 rfl P H locs ls (fun j hj => by rw [hP j hj]; decide) ?_ hw (lv_sub hl [1, 2, 3, 4, 5, 0] rfl)
      have e1 : pw P = pw (fun _ => 0) := pv_congr 22 hP
      rw [e1, Nat.pow_zero, Nat.mod_one, Nat.zero_mul]
      decide
    | succ n ih =>
      intro k hk P H locs ls hP hw hl
      refine lv_iload hx hb d_R_multiply_3 (lv_at hl 5 rfl) ?_
      refine lv_bipush (v := nI 22) hx hb d_R_multiply_5 (by decide) ?_
      refine n_ge (tgt := 24) hx hb d_R_multiply_7 (by decide) (by omega) (by decide) (fun h => absurd h (by omega)) (fun _ => ?_)
      refine lv_aload_n hx hb d_R_multiply_10 rfl (lv_at hl 0 rfl) ?_
      refine r_get hx hb ht hown hw 1 (by decide) (ht _ kf_R_13) rfl d_R_multiply_11 (fun _ h9 => h9) ?_
      refine lv_iload hx hb d_R_multiply_14 (lv_at hl 5 rfl) ?_
      refine lv_lconst (v := lN 0) hx hb d_R_multiply_16 (by decide) ?_
      refine r_lstP hx hb hw (by omega) d_R_multiply_17 (fun H locs hw => ?_)
      refine lv_iinc (v := nI (k + 1)) (lv' := [(5, .int (nI (k + 1))), (0, .ref (rA G 0)), (1, .int (nI (to))), (2, .int (nI (a))), (3, .int (nI (b))), (4, .int (nI (8 + μ)))]) hx hb d_R_multiply_18 hl (k := 5) rfl (nI_add k 1) (by decide) rfl (fun ls hl => ?_)
      refine lv_goto (tgt := 3) hx hb d_R_multiply_21 (by decide) ?_
      refine ih (k + 1) (by omega) (va_up P k 0) H locs ls (fun j hj => ?_) hw (lv_sub hl [1, 2, 3, 4, 5, 0] rfl)
      by_cases e : j = k
      · rw [e, up_self]
      · rw [up_ne _ _ e]; exact hP j (by omega)
  exact zero 22 0 rfl (rP σ) _ _ ls (fun j hj => absurd hj (by omega)) hw (lv_sub hl [1, 2, 3, 4, 5, 0] rfl)
