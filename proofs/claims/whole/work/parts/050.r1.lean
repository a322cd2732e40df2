/-! the reference's small methods -/
theorem up_id {α : Type} (f : Nat → α) (k : Nat) : va_up f k (f k) = f := by
  funext j
  unfold va_up
  by_cases h : j = k
  · rw [if_pos h, h]
  · rw [if_neg h]
theorem up_up {α : Type} (f : Nat → α) (k : Nat) (v w : α) : va_up (va_up f k v) k w = va_up f k w := bx_uu f k v w
def rOk (σ : rS) : Prop := ∀ r, rV σ r < b26 ^ 10
theorem b26_pos : 0 < b26 := by decide
theorem dg_small (v j : Nat) : dg b26 v j < 2 ^ 31 := Nat.lt_trans (dg_lt b26_pos v j) (by decide)
theorem rOk.up {σ : rS} (h : rOk σ) {r x : Nat} (hx : x < b26 ^ 10) : rOk (rsV σ (va_up (rV σ) r x)) := by
  intro q
  show va_up (rV σ) r x q < _
  unfold va_up
  split
  · exact hx
  · exact h q
set_option maxHeartbeats 4000000 in
set_option maxRecDepth 100000 in
theorem c_R_copy (l : Launch) (G : rG) (σ : rS) (hok : rOk σ) {to fr : Nat} (h1 : to < 48) (h2 : fr < 48) (hne : fr ≠ to) : Met l y_R_copy (zW y_R_copy b_R_copy 4 none) (zr 0 0) (va_Pc [.ref (rA G 0), .int (nI (to)), .int (nI (fr))] (rC G σ)) (va_Qv (fun u => u = rsV σ (va_up (rV σ) to (rV σ fr))) (fun u => rC G u) (rAA G)) 0 0 (rAA G) := by
  refine Met.ofW (cc := b_R_copy) (maxL := 4) (ret := none) (by decide) rfl ?_
  intro p e s m args below meth c s₁ B hml hv
  obtain ⟨rfl, hw⟩ := hv
  have hx := B.exec
  have hb := B.bytes
  have hr := B.returns
  have hts := atoms_spec (ws := zW y_R_copy b_R_copy 4 none) B.pre
  have ht : ∀ w ∈ zT, w.before ([.ref (rA G 0), .int (nI (to)), .int (nI (fr))] : List Value).toArray s = true := fun w h => hts w (List.mem_cons_of_mem _ h)
  have hown : s.vm.findClass R_R = some m.cls := findClass_of_methodNamed B.named
  have hlocks := B.notSynchronized
  have hl := lv_entry ([.ref (rA G 0), .int (nI (to)), .int (nI (fr))]) (n := 4) (Nat.le_of_ble_eq_true rfl)
  rw [lg_entry_eq]
  generalize (lg_sl ([.ref (rA G 0), .int (nI (to)), .int (nI (fr))]) ++ List.replicate (4 - (lg_sl ([.ref (rA G 0), .int (nI (to)), .int (nI (fr))])).length) Slot.unset).toArray = ls at hl ⊢
  have hl : lv_has ls 4 [(0, .ref (rA G 0)), (1, .int (nI (to))), (2, .int (nI (fr)))] := hl
  refine lv_iconst (v := nI 0) hx hb d_R_copy_0 (by decide) ?_
  refine lv_istore_n (lv' := [(3, .int (nI (0))), (0, .ref (rA G 0)), (1, .int (nI (to))), (2, .int (nI (fr)))]) hx hb d_R_copy_1 rfl hl (by decide) rfl (fun ls hl => ?_)
  have loop : ∀ (n k : Nat), k + n = 10 → ∀ (w : Nat) (H : Heap) (locs : List Loc) (ls : Array Slot), w < b26 ^ 10 → w % b26 ^ k = rV σ fr % b26 ^ k → rH G (rsV σ (va_up (rV σ) to w)) s H locs → lv_has ls 4 [(0, .ref (rA G 0)), (1, .int (nI (to))), (2, .int (nI (fr))), (3, .int (nI (k)))] → W p l e (headSpec (zW y_R_copy b_R_copy 4 none) (zr 0 0)).room s m ([.ref (rA G 0), .int (nI (to)), .int (nI (fr))] : List Value).toArray below meth c H locs 0 0 (MQ below (va_Qv (fun u => u = rsV σ (va_up (rV σ) to (rV σ fr))) (fun u => rC G u) (rAA G)) ([.ref (rA G 0), .int (nI (to)), .int (nI (fr))] : List Value).toArray s 0 0 (rAA G)) (F0 m 2 ls []) := by
    intro n
    induction n with
    | zero =>
      intro k hk w H locs ls hwb hwm hw hl
      have hk : k = 10 := by omega
      subst hk
      refine lv_iload_n hx hb d_R_copy_2 rfl (lv_at hl 3 rfl) ?_
      refine lv_bipush (v := nI 10) hx hb d_R_copy_3 (by decide) ?_
      refine n_ge (tgt := 36) hx hb d_R_copy_5 (by decide) (by decide) (by decide) (fun _ => ?_) (fun h => absurd h (by omega))
      rw [Nat.mod_eq_of_lt hwb, Nat.mod_eq_of_lt (hok fr)] at hwm
      subst hwm
      exact z_vret (rZ _) hx hb hr hlocks _ hw rfl d_R_copy_36
    | succ n ih =>
      intro k hk w H locs ls hwb hwm hw hl
      refine lv_iload_n hx hb d_R_copy_2 rfl (lv_at hl 3 rfl) ?_
      refine lv_bipush (v := nI 10) hx hb d_R_copy_3 (by decide) ?_
      refine n_ge (tgt := 36) hx hb d_R_copy_5 (by decide) (by omega) (by decide) (fun h => absurd h (by omega)) (fun _ => ?_)
      refine lv_aload_n hx hb d_R_copy_8 rfl (lv_at hl 0 rfl) ?_
      refine r_get hx hb ht hown hw 0 (by decide) (ht _ kf_R_7) rfl d_R_copy_9 (fun _ h9 => h9) ?_
      refine lv_bipush (v := nI 10) hx hb d_R_copy_12 (by decide) ?_
      refine lv_iload_n hx hb d_R_copy_14 rfl (lv_at hl 1 rfl) ?_
      refine lv_imul hx hb d_R_copy_15 ?_
      refine tp_i (pk_mul _ _) ?_
      refine lv_iload_n hx hb d_R_copy_16 rfl (lv_at hl 3 rfl) ?_
      refine lv_iadd hx hb d_R_copy_17 ?_
      refine tp_i (nI_add _ _) ?_
      refine lv_aload_n hx hb d_R_copy_18 rfl (lv_at hl 0 rfl) ?_
      refine r_get hx hb ht hown hw 0 (by decide) (ht _ kf_R_7) rfl d_R_copy_19 (fun _ h9 => h9) ?_
      refine lv_bipush (v := nI 10) hx hb d_R_copy_22 (by decide) ?_
      refine lv_iload_n hx hb d_R_copy_24 rfl (lv_at hl 2 rfl) ?_
      refine lv_imul hx hb d_R_copy_25 ?_
      refine tp_i (pk_mul _ _) ?_
      refine lv_iload_n hx hb d_R_copy_26 rfl (lv_at hl 3 rfl) ?_
      refine lv_iadd hx hb d_R_copy_27 ?_
      refine tp_i (nI_add _ _) ?_
      refine r_ild' hx hb hw h2 (by omega) d_R_copy_28 ?_
      refine r_ist hx hb hw h1 (by omega) (dg_lt b26_pos _ _) d_R_copy_29 (fun H locs hw => ?_)
      refine lv_iinc (v := nI (k + 1)) (lv' := [(3, .int (nI (k + 1))), (0, .ref (rA G 0)), (1, .int (nI (to))), (2, .int (nI (fr)))]) hx hb d_R_copy_30 hl (k := 3) rfl (nI_add k 1) (by decide) rfl (fun ls hl => ?_)
      refine lv_goto (tgt := 2) hx hb d_R_copy_33 (by decide) ?_
      have e1 : dg b26 (va_up (rV σ) to w fr) k = dg b26 (rV σ fr) k := by rw [up_ne _ _ hne]
      rw [show rV (rsV σ (va_up (rV σ) to w)) fr = va_up (rV σ) to w fr from rfl, e1] at hw
      refine ih (k + 1) (by omega) (ds b26 w k (dg b26 (rV σ fr) k)) H locs ls (ds_lt b26_pos (dg_lt b26_pos _ _) (by omega) hwb) ?_ ?_ (lv_sub hl [1, 2, 3, 0] rfl)
      · rw [ds_mod b26_pos _ (dg_lt b26_pos _ _), dg_mod b26 (rV σ fr) k, hwm]
      · have e2 : va_up (va_up (rV σ) to w) to (ds b26 (va_up (rV σ) to w to) k (dg b26 (rV σ fr) k)) = va_up (rV σ) to (ds b26 w k (dg b26 (rV σ fr) k)) := by rw [up_up, up_self]
        rw [← e2]
        exact hw
  refine loop 10 0 rfl (rV σ to) _ _ ls (hok to) (by rw [Nat.pow_zero, Nat.mod_one, Nat.mod_one]) ?_ (lv_sub hl [1, 2, 3, 0] rfl)
  rw [up_id]
  exact hw
