/-! what the reference answers: signature -/
abbrev okN (B : Nat → Nat) (t c : Nat) : Prop := t + 2 ≤ c ∧ B t = 2 ∧ 1 ≤ B (t + 1) ∧ B (t + 1) ≤ 33 ∧ t + 2 + B (t + 1) ≤ c ∧ B (t + 2) < 128 ∧ (0 < B (t + 2) ∨ B (t + 1) = 1 ∨ 128 ≤ B (t + 3)) ∧ (B (t + 1) < 33 ∨ B (t + 2) = 0)
def endN (B : Nat → Nat) (t c : Nat) : Int32 := if okN B t c then nI (t + 2 + B (t + 1)) else -1
abbrev okSig (B : Nat → Nat) (c : Nat) : Prop := 2 ≤ c ∧ B 0 = 48 ∧ B 1 = c - 2 ∧ okN B 2 c ∧ okN B (4 + B 3) c ∧ 4 + B 3 + 2 + B (4 + B 3 + 1) = c
set_option maxHeartbeats 4000000 in
set_option maxRecDepth 100000 in
theorem c_R_numberEnd (l : Launch) (G : rG) (σ : rS) {t c0 : Nat} (hc : c0 ≤ 100) (ht0 : t ≤ 100) (hB : ∀ j, j < 100 → rB σ j < 256) : Met l y_R_numberEnd (zW y_R_numberEnd b_R_numberEnd 6 (some .int)) (zr 0 0) (va_Pc [.ref (rA G 0), .int (nI (t)), .int (nI (c0))] (rC G σ)) (va_Qi (fun r u => u = σ ∧ r = endN (rB σ) t c0) (fun u => rC G u) (rAA G)) 0 0 (rAA G) := by
  refine Met.ofW (cc := b_R_numberEnd) (maxL := 6) (ret := (some .int)) (by decide) rfl ?_
  intro p e s m args below meth c s₁ B hml hv
  obtain ⟨rfl, hw⟩ := hv
  have hx := B.exec
  have hb := B.bytes
  have hr := B.returns
  have hts := atoms_spec (ws := zW y_R_numberEnd b_R_numberEnd 6 (some .int)) B.pre
  have ht : ∀ w ∈ zT, w.before ([.ref (rA G 0), .int (nI (t)), .int (nI (c0))] : List Value).toArray s = true := fun w h => hts w (List.mem_cons_of_mem _ h)
  have hown : s.vm.findClass R_R = some m.cls := findClass_of_methodNamed B.named
  have hlocks := B.notSynchronized
  have hl := lv_entry ([.ref (rA G 0), .int (nI (t)), .int (nI (c0))]) (n := 6) (Nat.le_of_ble_eq_true rfl)
  rw [lg_entry_eq]
  generalize (lg_sl ([.ref (rA G 0), .int (nI (t)), .int (nI (c0))]) ++ List.replicate (6 - (lg_sl ([.ref (rA G 0), .int (nI (t)), .int (nI (c0))])).length) Slot.unset).toArray = ls at hl ⊢
  have hl : lv_has ls 6 [(0, .ref (rA G 0)), (1, .int (nI (t))), (2, .int (nI (c0)))] := hl
  have n17 : ∀ (H : Heap) (locs : List Loc) (ls : Array Slot), rH G σ s H locs → lv_has ls 6 [(0, .ref (rA G 0)), (1, .int (nI (t))), (2, .int (nI (c0)))] → ¬ okN (rB σ) t c0 → W p l e (headSpec (zW y_R_numberEnd b_R_numberEnd 6 (some .int)) (zr 0 0)).room s m ([.ref (rA G 0), .int (nI (t)), .int (nI (c0))] : List Value).toArray below meth c H locs 0 0 (MQ below (va_Qi (fun r u => u = σ ∧ r = endN (rB σ) t c0) (fun u => rC G u) (rAA G)) ([.ref (rA G 0), .int (nI (t)), .int (nI (c0))] : List Value).toArray s 0 0 (rAA G)) (F0 m 17 ls []) := by
    intro H locs ls hw hl hn
    refine lv_iconst (v := -1) hx hb d_R_numberEnd_17 (by decide) ?_
    exact z_iret (rZ _) hx hb hr hlocks σ hw ⟨rfl, by rw [endN, if_neg hn]⟩ d_R_numberEnd_18
  refine lv_iload_n hx hb d_R_numberEnd_0 rfl (lv_at hl 1 rfl) ?_
  refine lv_iconst (v := nI 2) hx hb d_R_numberEnd_1 (by decide) ?_
  refine lv_iadd hx hb d_R_numberEnd_2 ?_
  refine tp_i (y := nI (t + 2)) (nI_add _ _) ?_
  refine lv_iload_n hx hb d_R_numberEnd_3 rfl (lv_at hl 2 rfl) ?_
  refine n_gt (tgt := 17) hx hb d_R_numberEnd_4 (by decide) (by omega) (by omega) (fun c1 => n17 _ _ ls hw hl (fun q => absurd q.1 (by omega))) (fun c1 => ?_)
  have b0 := hB t (by omega)
  have b1 := hB (t + 1) (by omega)
  refine lv_aload_n hx hb d_R_numberEnd_7 rfl (lv_at hl 0 rfl) ?_
  refine r_get hx hb ht hown hw 5 (by decide) (ht _ kf_R_27) rfl d_R_numberEnd_8 (fun _ h9 => h9) ?_
  refine lv_iload_n hx hb d_R_numberEnd_11 rfl (lv_at hl 1 rfl) ?_
  refine r_bld hx hb hw (show t < 100 by omega) d_R_numberEnd_12 ?_
  refine tp_i (y := nI (rB σ t)) rfl ?_
  refine lv_iconst (v := nI 2) hx hb d_R_numberEnd_13 (by decide) ?_
  refine n_eq (tgt := 19) hx hb d_R_numberEnd_14 (by decide) (by omega) (by decide) (fun c2 => ?_) (fun c2 => n17 _ _ ls hw hl (fun q => c2 q.2.1))
  refine lv_aload_n hx hb d_R_numberEnd_19 rfl (lv_at hl 0 rfl) ?_
  refine r_get hx hb ht hown hw 5 (by decide) (ht _ kf_R_27) rfl d_R_numberEnd_20 (fun _ h9 => h9) ?_
  refine lv_iload_n hx hb d_R_numberEnd_23 rfl (lv_at hl 1 rfl) ?_
  refine lv_iconst (v := nI 1) hx hb d_R_numberEnd_24 (by decide) ?_
  refine lv_iadd hx hb d_R_numberEnd_25 ?_
  refine tp_i (y := nI (t + 1)) (nI_add _ _) ?_
  refine r_bld hx hb hw (show t + 1 < 100 by omega) d_R_numberEnd_26 ?_
  refine tp_i (y := nI (rB σ (t + 1))) rfl ?_
  refine lv_istore_n (lv' := [(3, .int (nI (rB σ (t + 1)))), (0, .ref (rA G 0)), (1, .int (nI (t))), (2, .int (nI (c0)))]) hx hb d_R_numberEnd_27 rfl hl (by decide) rfl (fun ls hl => ?_)
  have n48 : ∀ (H : Heap) (locs : List Loc) (ls : Array Slot), rH G σ s H locs → lv_has ls 6 [(3, .int (nI (rB σ (t + 1)))), (0, .ref (rA G 0)), (1, .int (nI (t))), (2, .int (nI (c0)))] → ¬ okN (rB σ) t c0 → W p l e (headSpec (zW y_R_numberEnd b_R_numberEnd 6 (some .int)) (zr 0 0)).room s m ([.ref (rA G 0), .int (nI (t)), .int (nI (c0))] : List Value).toArray below meth c H locs 0 0 (MQ below (va_Qi (fun r u => u = σ ∧ r = endN (rB σ) t c0) (fun u => rC G u) (rAA G)) ([.ref (rA G 0), .int (nI (t)), .int (nI (c0))] : List Value).toArray s 0 0 (rAA G)) (F0 m 48 ls []) := by
    intro H locs ls hw hl hn
    refine lv_iconst (v := -1) hx hb d_R_numberEnd_48 (by decide) ?_
    exact z_iret (rZ _) hx hb hr hlocks σ hw ⟨rfl, by rw [endN, if_neg hn]⟩ d_R_numberEnd_49
  refine lv_iload_n hx hb d_R_numberEnd_28 rfl (lv_at hl 0 rfl) ?_
  refine lv_iconst (v := nI 1) hx hb d_R_numberEnd_29 (by decide) ?_
  refine n_lt (tgt := 48) hx hb d_R_numberEnd_30 (by decide) (by omega) (by decide) (fun c3 => n48 _ _ ls hw hl (fun q => absurd q.2.2.1 (by omega))) (fun c3 => ?_)
  refine lv_iload_n hx hb d_R_numberEnd_33 rfl (lv_at hl 0 rfl) ?_
  refine lv_bipush (v := nI 33) hx hb d_R_numberEnd_34 (by decide) ?_
  refine n_gt (tgt := 48) hx hb d_R_numberEnd_36 (by decide) (by omega) (by decide) (fun c4 => n48 _ _ ls hw hl (fun q => absurd q.2.2.2.1 (by omega))) (fun c4 => ?_)
  refine lv_iload_n hx hb d_R_numberEnd_39 rfl (lv_at hl 2 rfl) ?_
  refine lv_iconst (v := nI 2) hx hb d_R_numberEnd_40 (by decide) ?_
  refine lv_iadd hx hb d_R_numberEnd_41 ?_
  refine tp_i (y := nI (t + 2)) (nI_add _ _) ?_
  refine lv_iload_n hx hb d_R_numberEnd_42 rfl (lv_at hl 0 rfl) ?_
  refine lv_iadd hx hb d_R_numberEnd_43 ?_
  refine tp_i (y := nI ((t + 2) + (rB σ (t + 1)))) (nI_add _ _) ?_
  refine lv_iload_n hx hb d_R_numberEnd_44 rfl (lv_at hl 3 rfl) ?_
  refine n_le (tgt := 50) hx hb d_R_numberEnd_45 (by decide) (by omega) (by omega) (fun c5 => ?_) (fun c5 => n48 _ _ ls hw hl (fun q => absurd q.2.2.2.2.1 (by omega)))
  have b2 := hB (t + 2) (by omega)
  refine lv_aload_n hx hb d_R_numberEnd_50 rfl (lv_at hl 1 rfl) ?_
  refine r_get hx hb ht hown hw 5 (by decide) (ht _ kf_R_27) rfl d_R_numberEnd_51 (fun _ h9 => h9) ?_
  refine lv_iload_n hx hb d_R_numberEnd_54 rfl (lv_at hl 2 rfl) ?_
  refine lv_iconst (v := nI 2) hx hb d_R_numberEnd_55 (by decide) ?_
  refine lv_iadd hx hb d_R_numberEnd_56 ?_
  refine tp_i (y := nI (t + 2)) (nI_add _ _) ?_
  refine r_bld hx hb hw (show t + 2 < 100 by omega) d_R_numberEnd_57 ?_
  refine tp_i (y := nI (rB σ (t + 2))) rfl ?_
  refine lv_istore (lv' := [(4, .int (nI (rB σ (t + 2)))), (3, .int (nI (rB σ (t + 1)))), (0, .ref (rA G 0)), (1, .int (nI (t))), (2, .int (nI (c0)))]) hx hb d_R_numberEnd_58 hl (by decide) rfl (fun ls hl => ?_)
  have tail : ∀ (z : Nat), z < 2 → (z = 1 ↔ rB σ (t + 2) < 128 ∧ (0 < rB σ (t + 2) ∨ rB σ (t + 1) = 1 ∨ 128 ≤ rB σ (t + 3))) → ∀ (H : Heap) (locs : List Loc) (ls : Array Slot), rH G σ s H locs → lv_has ls 6 [(4, .int (nI (rB σ (t + 2)))), (3, .int (nI (rB σ (t + 1)))), (0, .ref (rA G 0)), (1, .int (nI (t))), (2, .int (nI (c0)))] → W p l e (headSpec (zW y_R_numberEnd b_R_numberEnd 6 (some .int)) (zr 0 0)).room s m ([.ref (rA G 0), .int (nI (t)), .int (nI (c0))] : List Value).toArray below meth c H locs 0 0 (MQ below (va_Qi (fun r u => u = σ ∧ r = endN (rB σ) t c0) (fun u => rC G u) (rAA G)) ([.ref (rA G 0), .int (nI (t)), .int (nI (c0))] : List Value).toArray s 0 0 (rAA G)) (F0 m 97 ls [.int (nI z)]) := by
    intro z hz hiff H locs ls hw hl
    refine lv_istore (lv' := [(5, .int (nI (z))), (4, .int (nI (rB σ (t + 2)))), (3, .int (nI (rB σ (t + 1)))), (0, .ref (rA G 0)), (1, .int (nI (t))), (2, .int (nI (c0)))]) hx hb d_R_numberEnd_97 hl (by decide) rfl (fun ls hl => ?_)
    refine lv_iload hx hb d_R_numberEnd_99 (lv_at hl 0 rfl) ?_
    have n123 : ∀ (H : Heap) (locs : List Loc) (ls : Array Slot), rH G σ s H locs → lv_has ls 6 [(5, .int (nI (z))), (4, .int (nI (rB σ (t + 2)))), (3, .int (nI (rB σ (t + 1)))), (0, .ref (rA G 0)), (1, .int (nI (t))), (2, .int (nI (c0)))] → ¬ okN (rB σ) t c0 → W p l e (headSpec (zW y_R_numberEnd b_R_numberEnd 6 (some .int)) (zr 0 0)).room s m ([.ref (rA G 0), .int (nI (t)), .int (nI (c0))] : List Value).toArray below meth c H locs 0 0 (MQ below (va_Qi (fun r u => u = σ ∧ r = endN (rB σ) t c0) (fun u => rC G u) (rAA G)) ([.ref (rA G 0), .int (nI (t)), .int (nI (c0))] : List Value).toArray s 0 0 (rAA G)) (F0 m 123 ls []) := by
      intro H locs ls hw hl hn
      refine lv_iconst (v := -1) hx hb d_R_numberEnd_123 (by decide) ?_
      exact z_iret (rZ _) hx hb hr hlocks σ hw ⟨rfl, by rw [endN, if_neg hn]⟩ d_R_numberEnd_124
    refine n_eq0 (tgt := 123) hx hb d_R_numberEnd_101 (by decide) (by omega) (fun c6 => n123 _ _ ls hw hl (fun q => absurd (hiff.mpr ⟨q.2.2.2.2.2.1, q.2.2.2.2.2.2.1⟩) (by omega))) (fun c6 => ?_)
    have hg := hiff.mp (by omega)
    have yes : ∀ (ls : Array Slot), lv_has ls 6 [(5, .int (nI (z))), (4, .int (nI (rB σ (t + 2)))), (3, .int (nI (rB σ (t + 1)))), (0, .ref (rA G 0)), (1, .int (nI (t))), (2, .int (nI (c0)))] → (rB σ (t + 1) < 33 ∨ rB σ (t + 2) = 0) → W p l e (headSpec (zW y_R_numberEnd b_R_numberEnd 6 (some .int)) (zr 0 0)).room s m ([.ref (rA G 0), .int (nI (t)), .int (nI (c0))] : List Value).toArray below meth c H locs 0 0 (MQ below (va_Qi (fun r u => u = σ ∧ r = endN (rB σ) t c0) (fun u => rC G u) (rAA G)) ([.ref (rA G 0), .int (nI (t)), .int (nI (c0))] : List Value).toArray s 0 0 (rAA G)) (F0 m 115 ls []) := by
      intro ls hl hy
      refine lv_iload_n hx hb d_R_numberEnd_115 rfl (lv_at hl 4 rfl) ?_
      refine lv_iconst (v := nI 2) hx hb d_R_numberEnd_116 (by decide) ?_
      refine lv_iadd hx hb d_R_numberEnd_117 ?_
      refine tp_i (y := nI (t + 2)) (nI_add _ _) ?_
      refine lv_iload_n hx hb d_R_numberEnd_118 rfl (lv_at hl 2 rfl) ?_
      refine lv_iadd hx hb d_R_numberEnd_119 ?_
      refine tp_i (y := nI ((t + 2) + (rB σ (t + 1)))) (nI_add _ _) ?_
      refine lv_goto (tgt := 124) hx hb d_R_numberEnd_120 (by decide) ?_
      exact z_iret (rZ _) hx hb hr hlocks σ hw ⟨rfl, by rw [endN, if_pos ⟨c1, c2, c3, c4, c5, hg.1, hg.2, hy⟩]⟩ d_R_numberEnd_124
    refine lv_iload_n hx hb d_R_numberEnd_104 rfl (lv_at hl 2 rfl) ?_
    refine lv_bipush (v := nI 33) hx hb d_R_numberEnd_105 (by decide) ?_
    refine n_lt (tgt := 115) hx hb d_R_numberEnd_107 (by decide) (by omega) (by decide) (fun c7 => yes ls hl (Or.inl c7)) (fun c7 => ?_)
    refine lv_iload hx hb d_R_numberEnd_110 (lv_at hl 1 rfl) ?_
    refine n_ne0 (tgt := 123) hx hb d_R_numberEnd_112 (by decide) (by omega) (fun c8 => n123 _ _ ls hw hl (fun q => by rcases q.2.2.2.2.2.2.2 with h | h; omega; exact c8 h)) (fun c8 => yes ls hl (Or.inr c8))
  refine lv_iload hx hb d_R_numberEnd_60 (lv_at hl 0 rfl) ?_
  refine lv_sipush (v := nI 128) hx hb d_R_numberEnd_62 (by decide) ?_
  refine n_ge (tgt := 96) hx hb d_R_numberEnd_65 (by decide) (by omega) (by decide) (fun c6 => ?_) (fun c6 => ?_)
  · refine lv_iconst (v := nI 0) hx hb d_R_numberEnd_96 (by decide) ?_
    exact tail 0 (by decide) (⟨fun q => absurd q (by decide), fun q => absurd q.1 (by omega)⟩) _ _ ls hw hl
  · refine lv_iload hx hb d_R_numberEnd_68 (lv_at hl 0 rfl) ?_
    refine lv_if_gt (tgt := 92) hx hb d_R_numberEnd_70 (by decide) (fun c7 => ?_) (fun c7 => ?_)
    · have d7 : 0 < rB σ (t + 2) := Nat.pos_of_ne_zero (fun q => by rw [q] at c7; exact absurd c7 (by decide))
      refine lv_iconst (v := nI 1) hx hb d_R_numberEnd_92 (by decide) ?_
      refine lv_goto (tgt := 97) hx hb d_R_numberEnd_93 (by decide) ?_
      exact tail 1 (by decide) (⟨fun _ => ⟨c6, Or.inl d7⟩, fun _ => rfl⟩) _ _ ls hw hl
    · have d7 : rB σ (t + 2) = 0 := by
        rcases Nat.eq_zero_or_pos (rB σ (t + 2)) with q | q
        · exact q
        · exact absurd (show nI 0 < nI (rB σ (t + 2)) from nI_lt q (by omega)) c7
      refine lv_iload_n hx hb d_R_numberEnd_73 rfl (lv_at hl 1 rfl) ?_
      refine lv_iconst (v := nI 1) hx hb d_R_numberEnd_74 (by decide) ?_
      refine n_eq (tgt := 92) hx hb d_R_numberEnd_75 (by decide) (by omega) (by decide) (fun c8 => ?_) (fun c8 => ?_)
      · refine lv_iconst (v := nI 1) hx hb d_R_numberEnd_92 (by decide) ?_
        refine lv_goto (tgt := 97) hx hb d_R_numberEnd_93 (by decide) ?_
        exact tail 1 (by decide) (⟨fun _ => ⟨c6, Or.inr (Or.inl c8)⟩, fun _ => rfl⟩) _ _ ls hw hl
      · have b3 := hB (t + 3) (by omega)
        refine lv_aload_n hx hb d_R_numberEnd_78 rfl (lv_at hl 2 rfl) ?_
        refine r_get hx hb ht hown hw 5 (by decide) (ht _ kf_R_27) rfl d_R_numberEnd_79 (fun _ h9 => h9) ?_
        refine lv_iload_n hx hb d_R_numberEnd_82 rfl (lv_at hl 3 rfl) ?_
        refine lv_iconst (v := nI 3) hx hb d_R_numberEnd_83 (by decide) ?_
        refine lv_iadd hx hb d_R_numberEnd_84 ?_
        refine tp_i (y := nI (t + 3)) (nI_add _ _) ?_
        refine r_bld hx hb hw (show t + 3 < 100 by omega) d_R_numberEnd_85 ?_
        refine tp_i (y := nI (rB σ (t + 3))) rfl ?_
        refine lv_sipush (v := nI 128) hx hb d_R_numberEnd_86 (by decide) ?_
        refine n_lt (tgt := 96) hx hb d_R_numberEnd_89 (by decide) (by omega) (by decide) (fun c9 => ?_) (fun c9 => ?_)
        · refine lv_iconst (v := nI 0) hx hb d_R_numberEnd_96 (by decide) ?_
          exact tail 0 (by decide) (⟨fun q => absurd q (by decide), fun q => by rcases q.2 with q | q | q <;> omega⟩) _ _ ls hw hl
        · refine lv_iconst (v := nI 1) hx hb d_R_numberEnd_92 (by decide) ?_
          refine lv_goto (tgt := 97) hx hb d_R_numberEnd_93 (by decide) ?_
          exact tail 1 (by decide) (⟨fun _ => ⟨c6, Or.inr (Or.inr c9)⟩, fun _ => rfl⟩) _ _ ls hw hl
set_option maxHeartbeats 4000000 in
set_option maxRecDepth 100000 in
theorem c_R_signature (l : Launch) (G : rG) (σ : rS) (hc0 : rCon σ) (hm : rM σ ≤ 100) (hB : ∀ j, j < 100 → rB σ j < 256) (x y : Int32) : Met l y_R_signature (zW y_R_signature b_R_signature 5 (some .int)) (zr 2 48) (va_Pc [.ref (rA G 0), .int (x), .int (y)] (rC G σ)) (va_Qi (fun r u => (¬ (okR x 8 ∧ okR y 8 ∧ x ≠ y) → r = -1 ∧ u = σ) ∧ ∀ a b, a < 8 → b < 8 → a ≠ b → x = nI a → y = nI b → (¬ okSig (rB σ) (rM σ) → r = nI 0 ∧ u = rsM σ 0) ∧ (okSig (rB σ) (rM σ) → r = nI 1 ∧ u = rsV (rsM σ 0) (va_up (va_up (rV σ) a (bA (rB σ) 4 (rB σ 3) (rB σ 3))) b (bA (rB σ) (4 + rB σ 3 + 2) (rB σ (4 + rB σ 3 + 1)) (rB σ (4 + rB σ 3 + 1)))))) (fun u => rC G u) (rAA G)) 0 0 (rAA G) := by
  refine Met.ofW (cc := b_R_signature) (maxL := 5) (ret := (some .int)) (by decide) rfl ?_
  intro p e s m args below meth c s₁ B hml hv
  obtain ⟨rfl, hw⟩ := hv
  have hx := B.exec
  have hb := B.bytes
  have hr := B.returns
  have hts := atoms_spec (ws := zW y_R_signature b_R_signature 5 (some .int)) B.pre
  have ht : ∀ w ∈ zT, w.before ([.ref (rA G 0), .int (x), .int (y)] : List Value).toArray s = true := fun w h => hts w (List.mem_cons_of_mem _ h)
  have hown : s.vm.findClass R_R = some m.cls := findClass_of_methodNamed B.named
  have hlocks := B.notSynchronized
  have hl := lv_entry ([.ref (rA G 0), .int (x), .int (y)]) (n := 5) (Nat.le_of_ble_eq_true rfl)
  rw [lg_entry_eq]
  generalize (lg_sl ([.ref (rA G 0), .int (x), .int (y)]) ++ List.replicate (5 - (lg_sl ([.ref (rA G 0), .int (x), .int (y)])).length) Slot.unset).toArray = ls at hl ⊢
  have hl : lv_has ls 5 [(0, .ref (rA G 0)), (1, .int (x)), (2, .int (y))] := hl
  have hno : ∀ (H : Heap) (locs : List Loc) (ls : Array Slot), rH G σ s H locs → lv_has ls 5 [(0, .ref (rA G 0)), (1, .int (x)), (2, .int (y))] → ¬ (okR x 8 ∧ okR y 8 ∧ x ≠ y) → W p l e (headSpec (zW y_R_signature b_R_signature 5 (some .int)) (zr 2 48)).room s m ([.ref (rA G 0), .int (x), .int (y)] : List Value).toArray below meth c H locs 0 0 (MQ below (va_Qi (fun r u => (¬ (okR x 8 ∧ okR y 8 ∧ x ≠ y) → r = -1 ∧ u = σ) ∧ ∀ a b, a < 8 → b < 8 → a ≠ b → x = nI a → y = nI b → (¬ okSig (rB σ) (rM σ) → r = nI 0 ∧ u = rsM σ 0) ∧ (okSig (rB σ) (rM σ) → r = nI 1 ∧ u = rsV (rsM σ 0) (va_up (va_up (rV σ) a (bA (rB σ) 4 (rB σ 3) (rB σ 3))) b (bA (rB σ) (4 + rB σ 3 + 2) (rB σ (4 + rB σ 3 + 1)) (rB σ (4 + rB σ 3 + 1)))))) (fun u => rC G u) (rAA G)) ([.ref (rA G 0), .int (x), .int (y)] : List Value).toArray s 0 0 (rAA G)) (F0 m 19 ls []) := by
    intro H locs ls hw hl hn
    refine lv_iconst (v := -1) hx hb d_R_signature_19 (by decide) ?_
    refine z_iret (rZ _) hx hb hr hlocks σ hw ⟨fun _ => ⟨rfl, rfl⟩, fun a b w1 w2 w3 e1 e2 => absurd ⟨?_, ?_, ?_⟩ hn⟩ d_R_signature_20
    · rw [e1]; exact okR_of w1 (by decide)
    · rw [e2]; exact okR_of w2 (by decide)
    · rw [e1, e2]; exact fun q9 => w3 ((nI_eq (by omega) (by omega)).mp q9)
  refine lv_iload_n hx hb d_R_signature_0 rfl (lv_at hl 1 rfl) ?_
  refine r_callsi (np := 1) (As := [.int (x)]) (rest := []) ⟨hx, hb, hml, hown, ht⟩ hw (c_R_isRegister l G σ x) ⟨km_R_139, ks_R_isRegister, kc_R_isRegister⟩ (by decide +kernel) ⟨by decide, by decide⟩ rfl rfl rfl rfl hl.1 rfl (Nat.le_of_ble_eq_true rfl) d_R_signature_1 ⟨Nat.le_refl _, Nat.le_refl _⟩ (fun r u H locs hp hw => ?_)
  obtain ⟨hpu, rfl⟩ := hp
  rw [hpu] at hw
  clear hpu
  refine n_eq0 (tgt := 19) hx hb d_R_signature_4 (by decide) (boolN_s _) (fun c0 => hno H locs ls hw hl (fun q => boolN_0 c0 q.1)) (fun c0 => ?_)
  refine lv_iload_n hx hb d_R_signature_7 rfl (lv_at hl 2 rfl) ?_
  refine r_callsi (np := 1) (As := [.int (y)]) (rest := []) ⟨hx, hb, hml, hown, ht⟩ hw (c_R_isRegister l G σ y) ⟨km_R_139, ks_R_isRegister, kc_R_isRegister⟩ (by decide +kernel) ⟨by decide, by decide⟩ rfl rfl rfl rfl hl.1 rfl (Nat.le_of_ble_eq_true rfl) d_R_signature_8 ⟨Nat.le_refl _, Nat.le_refl _⟩ (fun r u H locs hp hw => ?_)
  obtain ⟨hpu, rfl⟩ := hp
  rw [hpu] at hw
  clear hpu
  refine n_eq0 (tgt := 19) hx hb d_R_signature_11 (by decide) (boolN_s _) (fun c1 => hno H locs ls hw hl (fun q => boolN_0 c1 q.2.1)) (fun c1 => ?_)
  refine lv_iload_n hx hb d_R_signature_14 rfl (lv_at hl 1 rfl) ?_
  refine lv_iload_n hx hb d_R_signature_15 rfl (lv_at hl 2 rfl) ?_
  refine lv_icmp_ne (tgt := 21) hx hb d_R_signature_16 (by decide) (fun c2 => ?_) (fun c2 => hno H locs ls hw hl (fun q => q.2.2 c2))
  have k0 := boolN_1 c0
  have k1 := boolN_1 c1
  clear hno
  obtain ⟨a, lt_a, ex⟩ := k0.ex (by decide)
  obtain ⟨b, lt_b, ey⟩ := k1.ex (by decide)
  have hl2 := hl
  rw [ex, ey] at hl2
  have hl : lv_has ls 5 [(0, .ref (rA G 0)), (1, .int (nI (a))), (2, .int (nI (b)))] := hl2
  clear hl2
  have hab : a ≠ b := fun q9 => c2 (by rw [ex, ey, q9])
  refine lv_aload_n hx hb d_R_signature_21 rfl (lv_at hl 0 rfl) ?_
  refine r_get hx hb ht hown hw 6 (by decide) (ht _ kf_R_163) rfl d_R_signature_22 (fun _ h9 => h9) ?_
  refine lv_istore_n (lv' := [(3, .int (nI (rM σ))), (0, .ref (rA G 0)), (1, .int (nI (a))), (2, .int (nI (b)))]) hx hb d_R_signature_25 rfl hl (by decide) rfl (fun ls hl => ?_)
  refine lv_aload_n hx hb d_R_signature_26 rfl (lv_at hl 1 rfl) ?_
  refine lv_iconst (v := nI 0) hx hb d_R_signature_27 (by decide) ?_
  refine r_put (x := 0) hx hb ht hown hw (ht _ kf_R_163) d_R_signature_28 (fun H locs hw => ?_)
  obtain ⟨cc, hcM⟩ : ∃ c, c = rM σ := ⟨_, rfl⟩
  rw [← hcM] at hm
  have hl2 := hl
  rw [← hcM] at hl2
  have hl : lv_has ls 5 [(3, .int (nI (cc))), (0, .ref (rA G 0)), (1, .int (nI (a))), (2, .int (nI (b)))] := hl2
  clear hl2
  have b59 : ∀ (H : Heap) (locs : List Loc) (ls : Array Slot), rH G (rsM σ 0) s H locs → lv_has ls 5 [(3, .int (nI (cc))), (0, .ref (rA G 0)), (1, .int (nI (a))), (2, .int (nI (b)))] → ¬ okSig (rB σ) cc → W p l e (headSpec (zW y_R_signature b_R_signature 5 (some .int)) (zr 2 48)).room s m ([.ref (rA G 0), .int (x), .int (y)] : List Value).toArray below meth c H locs 0 0 (MQ below (va_Qi (fun r u => (¬ (okR x 8 ∧ okR y 8 ∧ x ≠ y) → r = -1 ∧ u = σ) ∧ ∀ a b, a < 8 → b < 8 → a ≠ b → x = nI a → y = nI b → (¬ okSig (rB σ) (rM σ) → r = nI 0 ∧ u = rsM σ 0) ∧ (okSig (rB σ) (rM σ) → r = nI 1 ∧ u = rsV (rsM σ 0) (va_up (va_up (rV σ) a (bA (rB σ) 4 (rB σ 3) (rB σ 3))) b (bA (rB σ) (4 + rB σ 3 + 2) (rB σ (4 + rB σ 3 + 1)) (rB σ (4 + rB σ 3 + 1)))))) (fun u => rC G u) (rAA G)) ([.ref (rA G 0), .int (x), .int (y)] : List Value).toArray s 0 0 (rAA G)) (F0 m 59 ls []) := by
    intro H locs ls hw hl hn
    refine lv_iconst (v := nI 0) hx hb d_R_signature_59 (by decide) ?_
    refine z_iret (rZ _) hx hb hr hlocks _ hw ⟨fun h => absurd ⟨k0, k1, c2⟩ h, fun a_ b_ w1 w2 w3 e1 e2 => ?_⟩ d_R_signature_60
    have q_a_ : a_ = a := (nI_eq (by omega) (by omega)).mp (e1.symm.trans ex)
    subst q_a_
    have q_b_ : b_ = b := (nI_eq (by omega) (by omega)).mp (e2.symm.trans ey)
    subst q_b_
    rw [← hcM]
    exact ⟨fun _ => ⟨rfl, rfl⟩, fun h => absurd h hn⟩
  refine lv_iload_n hx hb d_R_signature_31 rfl (lv_at hl 0 rfl) ?_
  refine lv_iconst (v := nI 2) hx hb d_R_signature_32 (by decide) ?_
  refine n_lt (tgt := 59) hx hb d_R_signature_33 (by decide) (by omega) (by decide) (fun c3 => b59 _ _ ls hw hl (fun q => absurd q.1 (by omega))) (fun c3 => ?_)
  have v0 := hB 0 (by decide)
  have v1 := hB 1 (by decide)
  have v3 := hB 3 (by decide)
  refine lv_aload_n hx hb d_R_signature_36 rfl (lv_at hl 1 rfl) ?_
  refine r_get hx hb ht hown hw 5 (by decide) (ht _ kf_R_27) rfl d_R_signature_37 (fun _ h9 => h9) ?_
  refine lv_iconst (v := nI 0) hx hb d_R_signature_40 (by decide) ?_
  refine r_bld hx hb hw (by decide) d_R_signature_41 ?_
  refine tp_i (y := nI (rB σ 0)) rfl ?_
  refine lv_bipush (v := nI 48) hx hb d_R_signature_42 (by decide) ?_
  refine n_ne (tgt := 59) hx hb d_R_signature_44 (by decide) (by omega) (by decide) (fun c4 => b59 _ _ ls hw hl (fun q => c4 q.2.1)) (fun c4 => ?_)
  refine lv_aload_n hx hb d_R_signature_47 rfl (lv_at hl 1 rfl) ?_
  refine r_get hx hb ht hown hw 5 (by decide) (ht _ kf_R_27) rfl d_R_signature_48 (fun _ h9 => h9) ?_
  refine lv_iconst (v := nI 1) hx hb d_R_signature_51 (by decide) ?_
  refine r_bld hx hb hw (by decide) d_R_signature_52 ?_
  refine tp_i (y := nI (rB σ 1)) rfl ?_
  refine lv_iload_n hx hb d_R_signature_53 rfl (lv_at hl 0 rfl) ?_
  refine lv_iconst (v := nI 2) hx hb d_R_signature_54 (by decide) ?_
  refine lv_isub hx hb d_R_signature_55 ?_
  refine tp_i (y := nI (cc - 2)) (pk_sub (by omega)) ?_
  refine n_eq (tgt := 61) hx hb d_R_signature_56 (by decide) (by omega) (by omega) (fun c5 => ?_) (fun c5 => b59 _ _ ls hw hl (fun q => c5 q.2.2.1))
  refine lv_aload_n hx hb d_R_signature_61 rfl (lv_at hl 1 rfl) ?_
  refine lv_iconst (v := nI 2) hx hb d_R_signature_62 (by decide) ?_
  refine lv_iload_n hx hb d_R_signature_63 rfl (lv_at hl 0 rfl) ?_
  refine r_calli (np := 2) (As := [.int (nI (2)), .int (nI (cc))]) (rest := []) ⟨hx, hb, hml, hown, ht⟩ hw (c_R_numberEnd l G (rsM σ 0) hm (by decide) hB) ⟨km_R_172, kv_R_numberEnd, kx_R_numberEnd, kc_R_numberEnd⟩ (by decide +kernel) ⟨by decide, by decide⟩ rfl rfl rfl hl.1 rfl (Nat.le_of_ble_eq_true rfl) d_R_signature_64 ⟨Nat.le_refl _, Nat.le_refl _⟩ (fun r1 u H locs hp hw => ?_)
  obtain ⟨hpu, hr1⟩ := hp
  rw [hpu] at hw
  have hr1 : r1 = endN (rB σ) 2 cc := hr1
  refine lv_istore (lv' := [(4, .int (r1)), (3, .int (nI (cc))), (0, .ref (rA G 0)), (1, .int (nI (a))), (2, .int (nI (b)))]) hx hb d_R_signature_67 hl (by decide) rfl (fun ls hl => ?_)
  have b85 : ∀ (H : Heap) (locs : List Loc) (ls : Array Slot), rH G (rsM σ 0) s H locs → lv_has ls 5 [(4, .int (r1)), (3, .int (nI (cc))), (0, .ref (rA G 0)), (1, .int (nI (a))), (2, .int (nI (b)))] → ¬ okSig (rB σ) cc → W p l e (headSpec (zW y_R_signature b_R_signature 5 (some .int)) (zr 2 48)).room s m ([.ref (rA G 0), .int (x), .int (y)] : List Value).toArray below meth c H locs 0 0 (MQ below (va_Qi (fun r u => (¬ (okR x 8 ∧ okR y 8 ∧ x ≠ y) → r = -1 ∧ u = σ) ∧ ∀ a b, a < 8 → b < 8 → a ≠ b → x = nI a → y = nI b → (¬ okSig (rB σ) (rM σ) → r = nI 0 ∧ u = rsM σ 0) ∧ (okSig (rB σ) (rM σ) → r = nI 1 ∧ u = rsV (rsM σ 0) (va_up (va_up (rV σ) a (bA (rB σ) 4 (rB σ 3) (rB σ 3))) b (bA (rB σ) (4 + rB σ 3 + 2) (rB σ (4 + rB σ 3 + 1)) (rB σ (4 + rB σ 3 + 1)))))) (fun u => rC G u) (rAA G)) ([.ref (rA G 0), .int (x), .int (y)] : List Value).toArray s 0 0 (rAA G)) (F0 m 85 ls []) := by
    intro H locs ls hw hl hn
    refine lv_iconst (v := nI 0) hx hb d_R_signature_85 (by decide) ?_
    refine z_iret (rZ _) hx hb hr hlocks _ hw ⟨fun h => absurd ⟨k0, k1, c2⟩ h, fun a_ b_ w1 w2 w3 e1 e2 => ?_⟩ d_R_signature_86
    have q_a_ : a_ = a := (nI_eq (by omega) (by omega)).mp (e1.symm.trans ex)
    subst q_a_
    have q_b_ : b_ = b := (nI_eq (by omega) (by omega)).mp (e2.symm.trans ey)
    subst q_b_
    rw [← hcM]
    exact ⟨fun _ => ⟨rfl, rfl⟩, fun h => absurd h hn⟩
  refine lv_iload hx hb d_R_signature_69 (lv_at hl 0 rfl) ?_
  refine lv_if_lt (tgt := 85) hx hb d_R_signature_71 (by decide) (fun c6 => ?_) (fun c6 => ?_)
  · refine b85 _ _ ls hw hl (fun q => ?_)
    rw [hr1, endN, if_pos q.2.2.2.1] at c6
    exact absurd c6 (nI_pos (by omega))
  · have okA : okN (rB σ) 2 cc := by
      by_cases q : okN (rB σ) 2 cc
      · exact q
      · rw [hr1, endN, if_neg q] at c6; exact absurd (by decide) c6
    have hmid : r1 = nI (4 + rB σ 3) := by rw [hr1, endN, if_pos okA]
    have w3 : 1 ≤ rB σ 3 ∧ rB σ 3 ≤ 33 ∧ 4 + rB σ 3 ≤ cc := ⟨okA.2.2.1, okA.2.2.2.1, okA.2.2.2.2.1⟩
    have hl2 := hl
    rw [hmid] at hl2
    have hlo := hl
    have hl : lv_has ls 5 [(4, .int (nI (4 + rB σ 3))), (3, .int (nI (cc))), (0, .ref (rA G 0)), (1, .int (nI (a))), (2, .int (nI (b)))] := hl2
    clear hl2
    refine lv_aload_n hx hb d_R_signature_74 rfl (lv_at hl 2 rfl) ?_
    refine lv_iload hx hb d_R_signature_75 (lv_at hl 0 rfl) ?_
    refine lv_iload_n hx hb d_R_signature_77 rfl (lv_at hl 1 rfl) ?_
    refine r_calli (np := 2) (As := [.int (nI (4 + rB σ 3)), .int (nI (cc))]) (rest := []) ⟨hx, hb, hml, hown, ht⟩ hw (c_R_numberEnd l G (rsM σ 0) hm (by omega) hB) ⟨km_R_172, kv_R_numberEnd, kx_R_numberEnd, kc_R_numberEnd⟩ (by decide +kernel) ⟨by decide, by decide⟩ rfl rfl rfl hl.1 rfl (Nat.le_of_ble_eq_true rfl) d_R_signature_78 ⟨Nat.le_refl _, Nat.le_refl _⟩ (fun r2 u H locs hp hw => ?_)
    obtain ⟨hpu, hr2⟩ := hp
    rw [hpu] at hw
    have hr2 : r2 = endN (rB σ) (4 + rB σ 3) cc := hr2
    refine lv_iload_n hx hb d_R_signature_81 rfl (lv_at hl 1 rfl) ?_
    refine lv_icmp_eq (tgt := 87) hx hb d_R_signature_82 (by decide) (fun c7 => ?_) (fun c7 => ?_)
    · have okB : okN (rB σ) (4 + rB σ 3) cc := by
        by_cases q : okN (rB σ) (4 + rB σ 3) cc
        · exact q
        · rw [hr2, endN, if_neg q] at c7; exact absurd c7.symm (fun q9 => absurd (show nI cc < 0 by rw [q9]; decide) (nI_pos (by omega)))
      have w4 : 1 ≤ rB σ (4 + rB σ 3 + 1) ∧ rB σ (4 + rB σ 3 + 1) ≤ 33 := ⟨okB.2.2.1, okB.2.2.2.1⟩
      have hend : 4 + rB σ 3 + 2 + rB σ (4 + rB σ 3 + 1) = cc := by
        rw [hr2, endN, if_pos okB] at c7
        exact (nI_eq (by omega) (by omega)).mp c7
      have hsig : okSig (rB σ) cc := ⟨c3, c4, c5, okA, okB, hend⟩
      refine lv_aload_n hx hb d_R_signature_87 rfl (lv_at hl 2 rfl) ?_
      refine lv_iload_n hx hb d_R_signature_88 rfl (lv_at hl 3 rfl) ?_
      refine lv_iconst (v := nI 4) hx hb d_R_signature_89 (by decide) ?_
      refine lv_iload hx hb d_R_signature_90 (lv_at hl 0 rfl) ?_
      refine lv_iconst (v := nI 4) hx hb d_R_signature_92 (by decide) ?_
      refine lv_isub hx hb d_R_signature_93 ?_
      refine tp_i (y := nI (rB σ 3)) (by rw [pk_sub (by omega)]; congr 1; omega) ?_
      refine r_callv (np := 3) (As := [.int (nI (a)), .int (nI (4)), .int (nI (rB σ 3))]) (rest := []) ⟨hx, hb, hml, hown, ht⟩ hw (c_R_read l G (rsM σ 0) hc0.1 (by omega) (by omega) (by omega) hB) ⟨km_R_169, kv_R_read, kx_R_read, kc_R_read⟩ (by decide +kernel) ⟨by decide, by decide⟩ rfl rfl rfl hl.1 rfl (Nat.le_of_ble_eq_true rfl) d_R_signature_94 ⟨Nat.le_refl _, Nat.le_refl _⟩ (fun u1 H locs hp hw => ?_)
      subst hp
      refine lv_aload_n hx hb d_R_signature_97 rfl (lv_at hl 2 rfl) ?_
      refine lv_iload_n hx hb d_R_signature_98 rfl (lv_at hl 4 rfl) ?_
      refine lv_iload hx hb d_R_signature_99 (lv_at hl 0 rfl) ?_
      refine lv_iconst (v := nI 2) hx hb d_R_signature_101 (by decide) ?_
      refine lv_iadd hx hb d_R_signature_102 ?_
      refine tp_i (y := nI ((4 + rB σ 3) + 2)) (nI_add _ _) ?_
      refine lv_iload_n hx hb d_R_signature_103 rfl (lv_at hl 1 rfl) ?_
      refine lv_iload hx hb d_R_signature_104 (lv_at hl 0 rfl) ?_
      refine lv_isub hx hb d_R_signature_106 ?_
      refine tp_i (y := nI (cc - (4 + rB σ 3))) (pk_sub (by omega)) ?_
      refine lv_iconst (v := nI 2) hx hb d_R_signature_107 (by decide) ?_
      refine lv_isub hx hb d_R_signature_108 ?_
      refine tp_i (y := nI (rB σ (4 + rB σ 3 + 1))) (by rw [pk_sub (by omega)]; congr 1; omega) ?_
      refine r_callv (np := 3) (As := [.int (nI (b)), .int (nI ((4 + rB σ 3) + 2)), .int (nI (rB σ (4 + rB σ 3 + 1)))]) (rest := []) ⟨hx, hb, hml, hown, ht⟩ hw (c_R_read l G (rsV (rsM σ 0) (va_up (rV σ) a (bA (rB σ) 4 (rB σ 3) (rB σ 3)))) (hc0.1.up (Nat.lt_of_lt_of_le (Nat.mod_lt _ (Nat.two_pow_pos 256)) W256_10)) (by omega) (by omega) (by omega) hB) ⟨km_R_169, kv_R_read, kx_R_read, kc_R_read⟩ (by decide +kernel) ⟨by decide, by decide⟩ rfl rfl rfl hl.1 rfl (Nat.le_of_ble_eq_true rfl) d_R_signature_109 ⟨Nat.le_refl _, Nat.le_refl _⟩ (fun u2 H locs hp hw => ?_)
      refine lv_iconst (v := nI 1) hx hb d_R_signature_112 (by decide) ?_
      refine z_iret (rZ _) hx hb hr hlocks u2 hw ⟨fun h => absurd ⟨k0, k1, c2⟩ h, fun a_ b_ w1 w2 w3 e1 e2 => ?_⟩ d_R_signature_113
      have q_a_ : a_ = a := (nI_eq (by omega) (by omega)).mp (e1.symm.trans ex)
      subst q_a_
      have q_b_ : b_ = b := (nI_eq (by omega) (by omega)).mp (e2.symm.trans ey)
      subst q_b_
      rw [← hcM]
      exact ⟨fun h => absurd hsig h, fun _ => ⟨rfl, hp⟩⟩
    · refine b85 _ _ ls hw hlo (fun q => c7 ?_)
      rw [hr2, endN, if_pos q.2.2.2.2.1, q.2.2.2.2.2]
