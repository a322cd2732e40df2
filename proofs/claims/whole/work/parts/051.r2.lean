/-! the reference's small methods (2) -/
def cmpN (x y : Nat) : Int32 := if x < y then -1 else if y < x then nI 1 else nI 0
theorem cmpN_lt (x y : Nat) : cmpN x y < 0 ↔ x < y := by
  unfold cmpN
  by_cases h : x < y
  · rw [if_pos h]
    exact ⟨fun _ => h, fun _ => by decide⟩
  · rw [if_neg h]
    by_cases h2 : y < x
    · rw [if_pos h2]
      exact ⟨fun q => absurd q (by decide), fun q => absurd q h⟩
    · rw [if_neg h2]
      exact ⟨fun q => absurd q (by decide), fun q => absurd q h⟩
theorem cmpN_eq (x y : Nat) : cmpN x y = 0 ↔ x = y := by
  unfold cmpN
  by_cases h : x < y
  · rw [if_pos h]
    exact ⟨fun q => absurd q (by decide), fun q => absurd h (by omega)⟩
  · rw [if_neg h]
    by_cases h2 : y < x
    · rw [if_pos h2]
      exact ⟨fun q => absurd q (by decide), fun q => absurd h2 (by omega)⟩
    · rw [if_neg h2]
      exact ⟨fun _ => by omega, fun _ => by decide⟩
def boolN (P : Prop) [Decidable P] : Nat := if P then 1 else 0
theorem boolN_lt (P : Prop) [Decidable P] : boolN P < 2 := by
  unfold boolN
  split <;> decide
theorem boolN_t {P : Prop} [Decidable P] (h : P) : boolN P = 1 := if_pos h
theorem boolN_f {P : Prop} [Decidable P] (h : ¬ P) : boolN P = 0 := if_neg h
theorem nar_b {x : Nat} (hx : x < 2) : narrow .boolean (.int (nI x)) = .int (nI x) := by
  rcases (show x = 0 ∨ x = 1 by omega) with rfl | rfl <;> decide
theorem and26 {n : Nat} (h : n < 2 ^ 32) : nI n &&& (67108863 : Int32) = nI (n % b26) := pk_andN h 26 (by decide)
theorem shr26 {n : Nat} (h : n < 2 ^ 31) : nI n >>> (nI 26 &&& 31) = nI (n / b26) := pk_shrN h _ 26 (by decide)
theorem nI_wrap (n : Nat) : nI (n + 4294967296) = nI n := by
  rw [← nI_add, show nI 4294967296 = 0 by decide, Int32.add_zero]
theorem nI_negy {y : Nat} (h : y ≤ 4294967296) : (-1 : Int32) * nI y = nI (4294967296 - y) := by
  have e : nI (4294967296 - y) + nI y = 0 := by
    rw [nI_add, Nat.sub_add_cancel h]
    decide
  grind
theorem nI_nego {y : Nat} (h : y ≤ 4294967296) : - nI y = nI (4294967296 - y) := by
  have e : nI (4294967296 - y) + nI y = 0 := by
    rw [nI_add, Nat.sub_add_cancel h]
    decide
  grind
theorem sub26 {x y o : Nat} (hx : x < b26) (hy : y < b26) (ho : o < 2) : nI x + (-1 : Int32) * nI y + - nI o = nI (x + (4294967296 - (y + o))) := by
  have hy' : y < 67108864 := hy
  rw [nI_negy (by omega), nI_nego (by omega), nI_add, nI_add, ← nI_wrap (x + (4294967296 - (y + o)))]
  congr 1
  omega
theorem sub26a {x y o : Nat} (hx : x < b26) (hy : y < b26) (ho : o < 2) : (nI x + (-1 : Int32) * nI y + - nI o) &&& (67108863 : Int32) = nI ((x + b26 - (y + o)) % b26) := by
  have hx' : x < 67108864 := hx
  have hy' : y < 67108864 := hy
  rw [sub26 hx hy ho]
  by_cases h : y + o ≤ x
  · rw [show x + (4294967296 - (y + o)) = (x - (y + o)) + 4294967296 by omega, nI_wrap, and26 (by omega)]
    congr 1
    show (x - (y + o)) % 67108864 = (x + 67108864 - (y + o)) % 67108864
    omega
  · rw [and26 (by omega)]
    congr 1
    show (x + (4294967296 - (y + o))) % 67108864 = (x + 67108864 - (y + o)) % 67108864
    omega
theorem sub26s {x y o : Nat} (hx : x < b26) (hy : y < b26) (ho : o < 2) : (nI x + (-1 : Int32) * nI y + - nI o) >>> (nI 26 &&& 31) = - nI (boolN (x < y + o)) := by
  have hx' : x < 67108864 := hx
  have hy' : y < 67108864 := hy
  by_cases h : y + o ≤ x
  · rw [sub26 hx hy ho, show x + (4294967296 - (y + o)) = (x - (y + o)) + 4294967296 by omega, nI_wrap, shr26 (by omega), boolN_f (by omega), Nat.div_eq_of_lt (show x - (y + o) < 67108864 by omega)]
    decide
  · rw [boolN_t (show x < y + o by omega)]
    apply Int32.toInt_inj.mp
    rw [pk_shr _ _ 26 (by decide)]
    have e : nI x + (-1 : Int32) * nI y + - nI o = - nI (y + o - x) := by
      rw [sub26 hx hy ho, nI_nego (by omega)]
      congr 1
      omega
    rw [e, sb_negT (by omega)]
    have e2 : (- nI 1 : Int32).toInt = -1 := by decide
    rw [e2]
    show Int.shiftRight (-((y + o - x : Nat) : Int)) 26 = -1
    obtain ⟨d, hd⟩ : ∃ d, y + o - x = d + 1 := ⟨y + o - x - 1, by omega⟩
    rw [hd]
    show Int.negSucc (d >>> 26) = -1
    rw [Nat.shiftRight_eq_div_pow, Nat.div_eq_of_lt (show d < 2 ^ 26 by omega)]
    rfl
set_option maxHeartbeats 4000000 in
set_option maxRecDepth 100000 in
theorem c_R_nothing (l : Launch) (G : rG) (σ : rS) (hok : rOk σ) {to : Nat} (h1 : to < 48) : Met l y_R_nothing (zW y_R_nothing b_R_nothing 3 none) (zr 0 0) (va_Pc [.ref (rA G 0), .int (nI (to))] (rC G σ)) (va_Qv (fun u => u = rsV σ (va_up (rV σ) to 0)) (fun u => rC G u) (rAA G)) 0 0 (rAA G) := by
  refine Met.ofW (cc := b_R_nothing) (maxL := 3) (ret := none) (by decide) rfl ?_
  intro p e s m args below meth c s₁ B hml hv
  obtain ⟨rfl, hw⟩ := hv
  have hx := B.exec
  have hb := B.bytes
  have hr := B.returns
  have hts := atoms_spec (ws := zW y_R_nothing b_R_nothing 3 none) B.pre
  have ht : ∀ w ∈ zT, w.before ([.ref (rA G 0), .int (nI (to))] : List Value).toArray s = true := fun w h => hts w (List.mem_cons_of_mem _ h)
  have hown : s.vm.findClass R_R = some m.cls := findClass_of_methodNamed B.named
  have hlocks := B.notSynchronized
  have hl := lv_entry ([.ref (rA G 0), .int (nI (to))]) (n := 3) (Nat.le_of_ble_eq_true rfl)
  rw [lg_entry_eq]
  generalize (lg_sl ([.ref (rA G 0), .int (nI (to))]) ++ List.replicate (3 - (lg_sl ([.ref (rA G 0), .int (nI (to))])).length) Slot.unset).toArray = ls at hl ⊢
  have hl : lv_has ls 3 [(0, .ref (rA G 0)), (1, .int (nI (to)))] := hl
  refine lv_iconst (v := nI 0) hx hb d_R_nothing_0 (by decide) ?_
  refine lv_istore_n (lv' := [(2, .int (nI (0))), (0, .ref (rA G 0)), (1, .int (nI (to)))]) hx hb d_R_nothing_1 rfl hl (by decide) rfl (fun ls hl => ?_)
  have loop : ∀ (n k : Nat), k + n = 10 → ∀ (w : Nat) (H : Heap) (locs : List Loc) (ls : Array Slot), w < b26 ^ 10 → w % b26 ^ k = 0 → rH G (rsV σ (va_up (rV σ) to w)) s H locs → lv_has ls 3 [(0, .ref (rA G 0)), (1, .int (nI (to))), (2, .int (nI (k)))] → W p l e (headSpec (zW y_R_nothing b_R_nothing 3 none) (zr 0 0)).room s m ([.ref (rA G 0), .int (nI (to))] : List Value).toArray below meth c H locs 0 0 (MQ below (va_Qv (fun u => u = rsV σ (va_up (rV σ) to 0)) (fun u => rC G u) (rAA G)) ([.ref (rA G 0), .int (nI (to))] : List Value).toArray s 0 0 (rAA G)) (F0 m 2 ls []) := by
    intro n
    induction n with
    | zero =>
      intro k hk w H locs ls hwb hwm hw hl
      have hk : k = 10 := by omega
      subst hk
      refine lv_iload_n hx hb d_R_nothing_2 rfl (lv_at hl 2 rfl) ?_
      refine lv_bipush (v := nI 10) hx hb d_R_nothing_3 (by decide) ?_
      refine n_ge (tgt := 26) hx hb d_R_nothing_5 (by decide) (by decide) (by decide) (fun _ => ?_) (fun h => absurd h (by omega))
      rw [Nat.mod_eq_of_lt hwb] at hwm
      subst hwm
      exact z_vret (rZ _) hx hb hr hlocks _ hw rfl d_R_nothing_26
    | succ n ih =>
      intro k hk w H locs ls hwb hwm hw hl
      refine lv_iload_n hx hb d_R_nothing_2 rfl (lv_at hl 2 rfl) ?_
      refine lv_bipush (v := nI 10) hx hb d_R_nothing_3 (by decide) ?_
      refine n_ge (tgt := 26) hx hb d_R_nothing_5 (by decide) (by omega) (by decide) (fun h => absurd h (by omega)) (fun _ => ?_)
      refine lv_aload_n hx hb d_R_nothing_8 rfl (lv_at hl 0 rfl) ?_
      refine r_get hx hb ht hown hw 0 (by decide) (ht _ kf_R_7) rfl d_R_nothing_9 (fun _ h9 => h9) ?_
      refine lv_bipush (v := nI 10) hx hb d_R_nothing_12 (by decide) ?_
      refine lv_iload_n hx hb d_R_nothing_14 rfl (lv_at hl 1 rfl) ?_
      refine lv_imul hx hb d_R_nothing_15 ?_
      refine tp_i (pk_mul _ _) ?_
      refine lv_iload_n hx hb d_R_nothing_16 rfl (lv_at hl 2 rfl) ?_
      refine lv_iadd hx hb d_R_nothing_17 ?_
      refine tp_i (nI_add _ _) ?_
      refine lv_iconst (v := nI 0) hx hb d_R_nothing_18 (by decide) ?_
      refine r_ist hx hb hw h1 (by omega) (show 0 < b26 by decide) d_R_nothing_19 (fun H locs hw => ?_)
      refine lv_iinc (v := nI (k + 1)) (lv' := [(2, .int (nI (k + 1))), (0, .ref (rA G 0)), (1, .int (nI (to)))]) hx hb d_R_nothing_20 hl (k := 2) rfl (nI_add k 1) (by decide) rfl (fun ls hl => ?_)
      refine lv_goto (tgt := 2) hx hb d_R_nothing_23 (by decide) ?_
      refine ih (k + 1) (by omega) (ds b26 w k 0) H locs ls (ds_lt b26_pos b26_pos (by omega) hwb) ?_ ?_ (lv_sub hl [1, 2, 0] rfl)
      · rw [ds_mod b26_pos _ b26_pos, hwm]
        omega
      · have e2 : va_up (va_up (rV σ) to w) to (ds b26 (va_up (rV σ) to w to) k 0) = va_up (rV σ) to (ds b26 w k 0) := by rw [up_up, up_self]
        rw [← e2]
        exact hw
  refine loop 10 0 rfl (rV σ to) _ _ ls (hok to) (by rw [Nat.pow_zero, Nat.mod_one]) ?_ (lv_sub hl [1, 2, 0] rfl)
  rw [up_id]
  exact hw
set_option maxHeartbeats 4000000 in
set_option maxRecDepth 100000 in
theorem c_R_compare (l : Launch) (G : rG) (σ : rS) (hok : rOk σ) {a b : Nat} (h1 : a < 48) (h2 : b < 48) : Met l y_R_compare (zW y_R_compare b_R_compare 6 (some .int)) (zr 0 0) (va_Pc [.ref (rA G 0), .int (nI (a)), .int (nI (b))] (rC G σ)) (va_Qi (fun r u => u = σ ∧ r = cmpN (rV σ a) (rV σ b)) (fun u => rC G u) (rAA G)) 0 0 (rAA G) := by
  refine Met.ofW (cc := b_R_compare) (maxL := 6) (ret := (some .int)) (by decide) rfl ?_
  intro p e s m args below meth c s₁ B hml hv
  obtain ⟨rfl, hw⟩ := hv
  have hx := B.exec
  have hb := B.bytes
  have hr := B.returns
  have hts := atoms_spec (ws := zW y_R_compare b_R_compare 6 (some .int)) B.pre
  have ht : ∀ w ∈ zT, w.before ([.ref (rA G 0), .int (nI (a)), .int (nI (b))] : List Value).toArray s = true := fun w h => hts w (List.mem_cons_of_mem _ h)
  have hown : s.vm.findClass R_R = some m.cls := findClass_of_methodNamed B.named
  have hlocks := B.notSynchronized
  have hl := lv_entry ([.ref (rA G 0), .int (nI (a)), .int (nI (b))]) (n := 6) (Nat.le_of_ble_eq_true rfl)
  rw [lg_entry_eq]
  generalize (lg_sl ([.ref (rA G 0), .int (nI (a)), .int (nI (b))]) ++ List.replicate (6 - (lg_sl ([.ref (rA G 0), .int (nI (a)), .int (nI (b))])).length) Slot.unset).toArray = ls at hl ⊢
  have hl : lv_has ls 6 [(0, .ref (rA G 0)), (1, .int (nI (a))), (2, .int (nI (b)))] := hl
  refine lv_bipush (v := nI 9) hx hb d_R_compare_0 (by decide) ?_
  refine lv_istore_n (lv' := [(3, .int (nI (9))), (0, .ref (rA G 0)), (1, .int (nI (a))), (2, .int (nI (b)))]) hx hb d_R_compare_2 rfl hl (by decide) rfl (fun ls hl => ?_)
  have tail : ∀ (k : Nat), k < 10 → (∀ j, k < j → j < 10 → dg b26 (rV σ a) j = dg b26 (rV σ b) j) → (k = 0 ∨ dg b26 (rV σ a) k ≠ dg b26 (rV σ b) k) → ∀ (H : Heap) (locs : List Loc) (ls : Array Slot), rH G σ s H locs → lv_has ls 6 [(0, .ref (rA G 0)), (1, .int (nI (a))), (2, .int (nI (b))), (3, .int (nI (k)))] → W p l e (headSpec (zW y_R_compare b_R_compare 6 (some .int)) (zr 0 0)).room s m ([.ref (rA G 0), .int (nI (a)), .int (nI (b))] : List Value).toArray below meth c H locs 0 0 (MQ below (va_Qi (fun r u => u = σ ∧ r = cmpN (rV σ a) (rV σ b)) (fun u => rC G u) (rAA G)) ([.ref (rA G 0), .int (nI (a)), .int (nI (b))] : List Value).toArray s 0 0 (rAA G)) (F0 m 38 ls []) := by
    intro k hk hj hor H locs ls hw hl
    refine lv_aload_n hx hb d_R_compare_38 rfl (lv_at hl 0 rfl) ?_
    refine r_get hx hb ht hown hw 0 (by decide) (ht _ kf_R_7) rfl d_R_compare_39 (fun _ h9 => h9) ?_
    refine lv_bipush (v := nI 10) hx hb d_R_compare_42 (by decide) ?_
    refine lv_iload_n hx hb d_R_compare_44 rfl (lv_at hl 1 rfl) ?_
    refine lv_imul hx hb d_R_compare_45 ?_
    refine tp_i (pk_mul _ _) ?_
    refine lv_iload_n hx hb d_R_compare_46 rfl (lv_at hl 3 rfl) ?_
    refine lv_iadd hx hb d_R_compare_47 ?_
    refine tp_i (nI_add _ _) ?_
    refine r_ild' hx hb hw h1 (by omega) d_R_compare_48 ?_
    refine lv_istore (lv' := [(4, .int (nI (dg b26 (rV σ a) k))), (0, .ref (rA G 0)), (1, .int (nI (a))), (2, .int (nI (b))), (3, .int (nI (k)))]) hx hb d_R_compare_49 hl (by decide) rfl (fun ls hl => ?_)
    refine lv_aload_n hx hb d_R_compare_51 rfl (lv_at hl 1 rfl) ?_
    refine r_get hx hb ht hown hw 0 (by decide) (ht _ kf_R_7) rfl d_R_compare_52 (fun _ h9 => h9) ?_
    refine lv_bipush (v := nI 10) hx hb d_R_compare_55 (by decide) ?_
    refine lv_iload_n hx hb d_R_compare_57 rfl (lv_at hl 3 rfl) ?_
    refine lv_imul hx hb d_R_compare_58 ?_
    refine tp_i (pk_mul _ _) ?_
    refine lv_iload_n hx hb d_R_compare_59 rfl (lv_at hl 4 rfl) ?_
    refine lv_iadd hx hb d_R_compare_60 ?_
    refine tp_i (nI_add _ _) ?_
    refine r_ild' hx hb hw h2 (by omega) d_R_compare_61 ?_
    refine lv_istore (lv' := [(5, .int (nI (dg b26 (rV σ b) k))), (4, .int (nI (dg b26 (rV σ a) k))), (0, .ref (rA G 0)), (1, .int (nI (a))), (2, .int (nI (b))), (3, .int (nI (k)))]) hx hb d_R_compare_62 hl (by decide) rfl (fun ls hl => ?_)
    refine lv_iload hx hb d_R_compare_64 (lv_at hl 1 rfl) ?_
    refine lv_iload hx hb d_R_compare_66 (lv_at hl 0 rfl) ?_
    refine n_ge (tgt := 75) hx hb d_R_compare_68 (by decide) (dg_small _ _) (dg_small _ _) (fun c1 => ?_) (fun c1 => ?_)
    · refine lv_iload hx hb d_R_compare_75 (lv_at hl 1 rfl) ?_
      refine lv_iload hx hb d_R_compare_77 (lv_at hl 0 rfl) ?_
      refine n_le (tgt := 86) hx hb d_R_compare_79 (by decide) (dg_small _ _) (dg_small _ _) (fun c2 => ?_) (fun c2 => ?_)
      · refine lv_iconst (v := nI 0) hx hb d_R_compare_86 (by decide) ?_
        have e0 : dg b26 (rV σ a) k = dg b26 (rV σ b) k := Nat.le_antisymm c2 c1
        have hk0 : k = 0 := hor.elim id (fun h => absurd e0 h)
        subst hk0
        have e1 : rV σ a = rV σ b := dg_ext' 10 (hok a) (hok b) (fun j hj2 => (Nat.eq_zero_or_pos j).elim (fun h => by rw [h]; exact e0) (fun h => hj j h hj2))
        refine z_iret (rZ _) hx hb hr hlocks σ hw ⟨rfl, ?_⟩ d_R_compare_87
        unfold cmpN
        rw [e1, if_neg (Nat.lt_irrefl _), if_neg (Nat.lt_irrefl _)]
      · refine lv_iconst (v := nI 1) hx hb d_R_compare_82 (by decide) ?_
        refine lv_goto (tgt := 87) hx hb d_R_compare_83 (by decide) ?_
        have hlt := dg_cmp b26_pos hk (hok b) (hok a) (fun j h h' => (hj j h h').symm) c2
        refine z_iret (rZ _) hx hb hr hlocks σ hw ⟨rfl, ?_⟩ d_R_compare_87
        unfold cmpN
        rw [if_neg (by omega), if_pos hlt]
    · refine lv_iconst (v := -1) hx hb d_R_compare_71 (by decide) ?_
      refine lv_goto (tgt := 87) hx hb d_R_compare_72 (by decide) ?_
      have hlt := dg_cmp b26_pos hk (hok a) (hok b) hj c1
      refine z_iret (rZ _) hx hb hr hlocks σ hw ⟨rfl, ?_⟩ d_R_compare_87
      unfold cmpN
      rw [if_pos hlt]
  have loop : ∀ (k : Nat), k < 10 → (∀ j, k < j → j < 10 → dg b26 (rV σ a) j = dg b26 (rV σ b) j) → ∀ (H : Heap) (locs : List Loc) (ls : Array Slot), rH G σ s H locs → lv_has ls 6 [(0, .ref (rA G 0)), (1, .int (nI (a))), (2, .int (nI (b))), (3, .int (nI (k)))] → W p l e (headSpec (zW y_R_compare b_R_compare 6 (some .int)) (zr 0 0)).room s m ([.ref (rA G 0), .int (nI (a)), .int (nI (b))] : List Value).toArray below meth c H locs 0 0 (MQ below (va_Qi (fun r u => u = σ ∧ r = cmpN (rV σ a) (rV σ b)) (fun u => rC G u) (rAA G)) ([.ref (rA G 0), .int (nI (a)), .int (nI (b))] : List Value).toArray s 0 0 (rAA G)) (F0 m 3 ls []) := by
    intro k
    induction k with
    | zero =>
      intro hk hj H locs ls hw hl
      refine lv_iload_n hx hb d_R_compare_3 rfl (lv_at hl 3 rfl) ?_
      refine lv_if_le (tgt := 38) hx hb d_R_compare_4 (by decide) (fun _ => ?_) (fun h => absurd (show nI 0 ≤ 0 by decide) h)
      exact tail 0 hk hj (Or.inl rfl) H locs ls hw hl
    | succ k ih =>
      intro hk hj H locs ls hw hl
      refine lv_iload_n hx hb d_R_compare_3 rfl (lv_at hl 3 rfl) ?_
      refine lv_if_le (tgt := 38) hx hb d_R_compare_4 (by decide) (fun h => absurd h (nI_nle (by omega) (by omega))) (fun _ => ?_)
      refine lv_aload_n hx hb d_R_compare_7 rfl (lv_at hl 0 rfl) ?_
      refine r_get hx hb ht hown hw 0 (by decide) (ht _ kf_R_7) rfl d_R_compare_8 (fun _ h9 => h9) ?_
      refine lv_bipush (v := nI 10) hx hb d_R_compare_11 (by decide) ?_
      refine lv_iload_n hx hb d_R_compare_13 rfl (lv_at hl 1 rfl) ?_
      refine lv_imul hx hb d_R_compare_14 ?_
      refine tp_i (pk_mul _ _) ?_
      refine lv_iload_n hx hb d_R_compare_15 rfl (lv_at hl 3 rfl) ?_
      refine lv_iadd hx hb d_R_compare_16 ?_
      refine tp_i (nI_add _ _) ?_
      refine r_ild' hx hb hw h1 (by omega) d_R_compare_17 ?_
      refine lv_aload_n hx hb d_R_compare_18 rfl (lv_at hl 0 rfl) ?_
      refine r_get hx hb ht hown hw 0 (by decide) (ht _ kf_R_7) rfl d_R_compare_19 (fun _ h9 => h9) ?_
      refine lv_bipush (v := nI 10) hx hb d_R_compare_22 (by decide) ?_
      refine lv_iload_n hx hb d_R_compare_24 rfl (lv_at hl 2 rfl) ?_
      refine lv_imul hx hb d_R_compare_25 ?_
      refine tp_i (pk_mul _ _) ?_
      refine lv_iload_n hx hb d_R_compare_26 rfl (lv_at hl 3 rfl) ?_
      refine lv_iadd hx hb d_R_compare_27 ?_
      refine tp_i (nI_add _ _) ?_
      refine r_ild' hx hb hw h2 (by omega) d_R_compare_28 ?_
      refine n_ne (tgt := 38) hx hb d_R_compare_29 (by decide) (dg_small _ _) (dg_small _ _) (fun c1 => ?_) (fun c1 => ?_)
      · exact tail (k + 1) hk hj (Or.inr c1) H locs ls hw hl
      · refine lv_iinc (v := nI (k)) (lv' := [(3, .int (nI (k))), (0, .ref (rA G 0)), (1, .int (nI (a))), (2, .int (nI (b)))]) hx hb d_R_compare_32 hl (k := 3) rfl (pk_m1 _) (by decide) rfl (fun ls hl => ?_)
        refine lv_goto (tgt := 3) hx hb d_R_compare_35 (by decide) ?_
        refine ih (by omega) (fun j h h2 => ?_) H locs ls hw (lv_sub hl [1, 2, 3, 0] rfl)
        by_cases hjk : j = k + 1
        · rw [hjk]; exact c1
        · exact hj j (by omega) h2
  exact loop 9 (by decide) (fun j h h2 => absurd h2 (by omega)) _ _ ls hw (lv_sub hl [1, 2, 3, 0] rfl)
set_option maxHeartbeats 4000000 in
set_option maxRecDepth 100000 in
theorem c_R_isNothing (l : Launch) (G : rG) (σ : rS) (hok : rOk σ) {a : Nat} (h1 : a < 48) : Met l y_R_isNothing (zW y_R_isNothing b_R_isNothing 4 (some .boolean)) (zr 0 0) (va_Pc [.ref (rA G 0), .int (nI (a))] (rC G σ)) (va_Qi (fun r u => u = σ ∧ r = nI (boolN (rV σ a = 0))) (fun u => rC G u) (rAA G)) 0 0 (rAA G) := by
  refine Met.ofW (cc := b_R_isNothing) (maxL := 4) (ret := (some .boolean)) (by decide) rfl ?_
  intro p e s m args below meth c s₁ B hml hv
  obtain ⟨rfl, hw⟩ := hv
  have hx := B.exec
  have hb := B.bytes
  have hr := B.returns
  have hts := atoms_spec (ws := zW y_R_isNothing b_R_isNothing 4 (some .boolean)) B.pre
  have ht : ∀ w ∈ zT, w.before ([.ref (rA G 0), .int (nI (a))] : List Value).toArray s = true := fun w h => hts w (List.mem_cons_of_mem _ h)
  have hown : s.vm.findClass R_R = some m.cls := findClass_of_methodNamed B.named
  have hlocks := B.notSynchronized
  have hl := lv_entry ([.ref (rA G 0), .int (nI (a))]) (n := 4) (Nat.le_of_ble_eq_true rfl)
  rw [lg_entry_eq]
  generalize (lg_sl ([.ref (rA G 0), .int (nI (a))]) ++ List.replicate (4 - (lg_sl ([.ref (rA G 0), .int (nI (a))])).length) Slot.unset).toArray = ls at hl ⊢
  have hl : lv_has ls 4 [(0, .ref (rA G 0)), (1, .int (nI (a)))] := hl
  refine lv_iconst (v := nI 1) hx hb d_R_isNothing_0 (by decide) ?_
  refine lv_istore_n (lv' := [(2, .int (nI (1))), (0, .ref (rA G 0)), (1, .int (nI (a)))]) hx hb d_R_isNothing_1 rfl hl (by decide) rfl (fun ls hl => ?_)
  refine lv_iconst (v := nI 0) hx hb d_R_isNothing_2 (by decide) ?_
  refine lv_istore_n (lv' := [(3, .int (nI (0))), (2, .int (nI (1))), (0, .ref (rA G 0)), (1, .int (nI (a)))]) hx hb d_R_isNothing_3 rfl hl (by decide) rfl (fun ls hl => ?_)
  have done : ∀ (z : Nat), z = boolN (rV σ a = 0) → ∀ (k : Nat) (H : Heap) (locs : List Loc) (ls : Array Slot), rH G σ s H locs → lv_has ls 4 [(0, .ref (rA G 0)), (1, .int (nI (a))), (2, .int (nI (z))), (3, .int (nI (k)))] → W p l e (headSpec (zW y_R_isNothing b_R_isNothing 4 (some .boolean)) (zr 0 0)).room s m ([.ref (rA G 0), .int (nI (a))] : List Value).toArray below meth c H locs 0 0 (MQ below (va_Qi (fun r u => u = σ ∧ r = nI (boolN (rV σ a = 0))) (fun u => rC G u) (rAA G)) ([.ref (rA G 0), .int (nI (a))] : List Value).toArray s 0 0 (rAA G)) (F0 m 40 ls []) := by
    intro z hz k H locs ls hw hl
    refine lv_iload_n hx hb d_R_isNothing_40 rfl (lv_at hl 2 rfl) ?_
    exact z_zret (rZ _) hx hb hr hlocks (nar_b (by rw [hz]; exact boolN_lt _)) σ hw ⟨rfl, by rw [hz]⟩ d_R_isNothing_41
  have loop : ∀ (n k : Nat), k + n = 10 → ∀ (z : Nat), z < 2 → (z = 1 → ∀ j, j < k → dg b26 (rV σ a) j = 0) → (z = 0 → rV σ a ≠ 0) → ∀ (H : Heap) (locs : List Loc) (ls : Array Slot), rH G σ s H locs → lv_has ls 4 [(0, .ref (rA G 0)), (1, .int (nI (a))), (2, .int (nI (z))), (3, .int (nI (k)))] → W p l e (headSpec (zW y_R_isNothing b_R_isNothing 4 (some .boolean)) (zr 0 0)).room s m ([.ref (rA G 0), .int (nI (a))] : List Value).toArray below meth c H locs 0 0 (MQ below (va_Qi (fun r u => u = σ ∧ r = nI (boolN (rV σ a = 0))) (fun u => rC G u) (rAA G)) ([.ref (rA G 0), .int (nI (a))] : List Value).toArray s 0 0 (rAA G)) (F0 m 4 ls []) := by
    intro n
    induction n with
    | zero =>
      intro k hk z hz2 hz1 hz0 H locs ls hw hl
      have hk : k = 10 := by omega
      subst hk
      refine lv_iload_n hx hb d_R_isNothing_4 rfl (lv_at hl 3 rfl) ?_
      refine lv_bipush (v := nI 10) hx hb d_R_isNothing_5 (by decide) ?_
      refine n_ge (tgt := 40) hx hb d_R_isNothing_7 (by decide) (by decide) (by decide) (fun _ => ?_) (fun h => absurd h (by omega))
      refine done z ?_ 10 H locs ls hw hl
      rcases (show z = 0 ∨ z = 1 by omega) with h | h
      · rw [h, boolN_f (hz0 h)]
      · rw [h, boolN_t (dg_ext' 10 (hok a) (by decide) (fun j hj => by rw [hz1 h j hj]; simp [dg]))]
    | succ n ih =>
      intro k hk z hz2 hz1 hz0 H locs ls hw hl
      refine lv_iload_n hx hb d_R_isNothing_4 rfl (lv_at hl 3 rfl) ?_
      refine lv_bipush (v := nI 10) hx hb d_R_isNothing_5 (by decide) ?_
      refine n_ge (tgt := 40) hx hb d_R_isNothing_7 (by decide) (by omega) (by decide) (fun h => absurd h (by omega)) (fun _ => ?_)
      refine lv_iload_n hx hb d_R_isNothing_10 rfl (lv_at hl 2 rfl) ?_
      refine n_eq0 (tgt := 40) hx hb d_R_isNothing_11 (by decide) (by omega) (fun c1 => done z (by rw [c1, boolN_f (hz0 c1)]) k H locs ls hw hl) (fun c1 => ?_)
      refine lv_aload_n hx hb d_R_isNothing_14 rfl (lv_at hl 0 rfl) ?_
      refine r_get hx hb ht hown hw 0 (by decide) (ht _ kf_R_7) rfl d_R_isNothing_15 (fun _ h9 => h9) ?_
      refine lv_bipush (v := nI 10) hx hb d_R_isNothing_18 (by decide) ?_
      refine lv_iload_n hx hb d_R_isNothing_20 rfl (lv_at hl 1 rfl) ?_
      refine lv_imul hx hb d_R_isNothing_21 ?_
      refine tp_i (pk_mul _ _) ?_
      refine lv_iload_n hx hb d_R_isNothing_22 rfl (lv_at hl 3 rfl) ?_
      refine lv_iadd hx hb d_R_isNothing_23 ?_
      refine tp_i (nI_add _ _) ?_
      refine r_ild' hx hb hw h1 (by omega) d_R_isNothing_24 ?_
      refine n_ne0 (tgt := 32) hx hb d_R_isNothing_25 (by decide) (dg_small _ _) (fun c2 => ?_) (fun c2 => ?_)
      · refine lv_iconst (v := nI 0) hx hb d_R_isNothing_32 (by decide) ?_
        refine lv_istore_n (lv' := [(2, .int (nI (0))), (0, .ref (rA G 0)), (1, .int (nI (a))), (3, .int (nI (k)))]) hx hb d_R_isNothing_33 rfl hl (by decide) rfl (fun ls hl => ?_)
        refine lv_iinc (v := nI (k + 1)) (lv' := [(3, .int (nI (k + 1))), (2, .int (nI (0))), (0, .ref (rA G 0)), (1, .int (nI (a)))]) hx hb d_R_isNothing_34 hl (k := 3) rfl (nI_add k 1) (by decide) rfl (fun ls hl => ?_)
        refine lv_goto (tgt := 4) hx hb d_R_isNothing_37 (by decide) ?_
        exact ih (k + 1) (by omega) 0 (by decide) (fun h => absurd h (by decide)) (fun _ hv => c2 (by rw [hv]; simp [dg])) H locs ls hw (lv_sub hl [2, 3, 1, 0] rfl)
      · refine lv_iconst (v := nI 1) hx hb d_R_isNothing_28 (by decide) ?_
        refine lv_goto (tgt := 33) hx hb d_R_isNothing_29 (by decide) ?_
        refine lv_istore_n (lv' := [(2, .int (nI (1))), (0, .ref (rA G 0)), (1, .int (nI (a))), (3, .int (nI (k)))]) hx hb d_R_isNothing_33 rfl hl (by decide) rfl (fun ls hl => ?_)
        refine lv_iinc (v := nI (k + 1)) (lv' := [(3, .int (nI (k + 1))), (2, .int (nI (1))), (0, .ref (rA G 0)), (1, .int (nI (a)))]) hx hb d_R_isNothing_34 hl (k := 3) rfl (nI_add k 1) (by decide) rfl (fun ls hl => ?_)
        refine lv_goto (tgt := 4) hx hb d_R_isNothing_37 (by decide) ?_
        exact ih (k + 1) (by omega) 1 (by decide) (fun _ j hj => if h : j = k then by rw [h]; exact c2 else hz1 (by omega) j (by omega)) (fun h => absurd h (by decide)) H locs ls hw (lv_sub hl [2, 3, 1, 0] rfl)
  exact loop 10 0 rfl 1 (by decide) (fun _ j hj => absurd hj (by omega)) (fun h => absurd h (by decide)) _ _ ls hw (lv_sub hl [2, 3, 1, 0] rfl)
