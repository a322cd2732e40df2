/-! THE CLAIM OUT OF ONE WALK OF THE LAW'S BODY. Your part is whole_start (and what it stands on); all else here is the same for every law, but numbers. -/
def R_law : String := "CurveDeskLaw"
def lw_P (b : Addr) (xs : List Int32) (args : Array Value) (s : State) : Prop := args = #[.ref b] ∧ s.IntsAt b xs ∧ xs.length ≤ 5120 ∧ (Jvm.Cond.and given_1 narrow_1).before args s = true
def lw_Q (_ : Array Value) (s : State) (o : Outcome) (t : State) : Prop := o = .returned (some (.int 1)) ∧ Framed s o t [] 600000 7302250
def lw_Z (below : List Frame) (a : Array Value) (s : State) : State → Prop := fun t => ∃ o, t.status = .running ∧ Ended t below o ∧ lw_Q a s o t
/-- the law's own end, with 1 on the stack, nothing written that was there before, its room as the claim has it -/
theorem lw_ret {p : Program} {l : Launch} {e : Env} {s : State} {m : MethodId} {below : List Frame} {meth : Method} {c : Code} {b : Nat} (hx : p.tables.exec = Jvm.exec) (hb : c.code = code) (hr : meth.sig.returnType = ret) (hlocks : meth.locks = false) {pc : Nat} {H : Heap} {ls : Array Slot} (hdg : decode code pc = .ok (.ireturn, 1)) : W p l e room_1 s m #[Value.ref b] below meth c H [] 600000 7302250 (lw_Z below #[Value.ref b] s) (F0 m pc ls [.int 1]) := by
  intro T hT X
  obtain ⟨fs, hret, hrun, hended, hW, hframe⟩ := X.leave (v := some (.int 1)) (hlocks := hlocks) (fun h => by rw [hr] at h; cases h)
  have hmeth' : T.vm.method? m = some meth := X.method'
  refine ⟨T.setFrames fs, ?_, .returned (some (.int 1)), hrun, hended, rfl, ⟨_, rfl⟩, hW, hframe⟩
  jvm_step X.here [X.here.top, hx, hb, hdg, hmeth', hr, ret, narrow_b1]
  (try refine ⟨rfl, ?_⟩); (try refine ⟨rfl, ?_⟩)
  first | (intro acts; rw [hret _ acts rfl rfl rfl]) | rw [hret _ _ rfl rfl rfl]
  exact Steps.refl _
/-- what holds at the law's entry: the machine, the code, the tables' words (any of lw_tbl by 'hts w (by decide +kernel)'), the script of L ints xs at the cell b, what the Statement gives of the start (any of its parts by flat_of_before) -/
def lw_At (p : Program) (s : State) (m : MethodId) (meth : Method) (c : Code) (b L : Nat) (xs : Nat → Int32) : Prop :=
  p.tables.exec = Jvm.exec ∧ c.code = code ∧ meth.sig.returnType = ret ∧ c.maxLocals = 4 ∧ s.vm.findClass R_law = some m.cls ∧ (∀ w ∈ lw_tbl, w.before #[Value.ref b] s = true) ∧ va_X b L xs s s.heap ∧ b < s.heap.size ∧ meth.locks = false ∧ (Jvm.Cond.and given_1 narrow_1).before #[Value.ref b] s = true

theorem and15 (x : Int32) : ∃ j : Nat, j < 16 ∧ x &&& nI 15 = nI j := by
  obtain ⟨n, hn, rfl⟩ := wb_of32 x
  exact ⟨n % 2 ^ 4, Nat.mod_lt _ (by decide), pk_andN hn 4 (by decide)⟩
theorem i_room {L i : Nat} (hL : L ≤ 5120) (hi : i ≤ L) (h : ¬ nI L - nI 10 < nI i) : i + 10 ≤ L := by
  rw [Int32.lt_iff_toInt_lt, pk_sub_toInt (by omega) (by omega), nI_toInt (by omega)] at h
  omega
set_option maxHeartbeats 4000000 in
set_option maxRecDepth 100000 in
theorem law_step {p : Program} {l : Launch} {e : Env} {s : State} {m : MethodId} {below : List Frame} {meth : Method} {c : Code} {b L : Nat} {xs : Nat → Int32} {K : cG} {G : rG} (hL : L ≤ 5120) (C0 : lw_At p s m meth c b L xs)
    {τ : cT} {σ : rS} {H : Heap} {locs : List Loc} {ls : Array Slot} {i : Nat} (hiL : i ≤ L) (h : Rl τ σ) (hw : lH K G τ σ s H locs) (hl : lv_has ls 4 [(0, .ref (b)), (1, .ref (cO K 0)), (2, .ref (rA G 0)), (3, .int (nI (i)))])
    (kk : ∀ (τ : cT) (σ : rS) (H : Heap) (locs : List Loc) (ls : Array Slot), i + 10 ≤ L → Rl τ σ → lH K G τ σ s H locs → lv_has ls 4 [(0, .ref (b)), (1, .ref (cO K 0)), (2, .ref (rA G 0)), (3, .int (nI (i + 10)))] → W p l e room_1 s m #[Value.ref b] below meth c H locs 55 1104 (lw_Z below #[Value.ref b] s) (F0 m 18 ls [])) : W p l e room_1 s m #[Value.ref b] below meth c H locs 55 1104 (lw_Z below #[Value.ref b] s) (F0 m 18 ls []) := by
  obtain ⟨hx, hb, hr, hml, hown, hts, hX, hbl, hlocks, hgv⟩ := C0
  have ht : ∀ w ∈ zT, w.before #[Value.ref b] s = true := fun w hw => hts w (List.mem_filter.mp hw).1
  have hown : s.vm.findClass R_W = some m.cls := hown
  refine lv_iload_n hx hb d_W_law_18 rfl (lv_at hl 3 rfl) ?_
  refine lv_aload_n hx hb d_W_law_19 rfl (lv_at hl 0 rfl) ?_
  refine va_slen hx hb hX hbl (A := lA s) (Nat.not_le.mpr hbl) hw.2.2.2.2.2 d_W_law_20 ?_
  refine lv_bipush (v := nI 10) hx hb d_W_law_21 (by decide) ?_
  refine lv_isub hx hb d_W_law_23 ?_
  refine lv_icmp_gt (tgt := 814) hx hb d_W_law_24 (by decide) (fun _ => ?_) (fun c1 => ?_)
  · refine lv_iconst (v := 1) hx hb d_W_law_814 (by decide) ?_
    refine va_forget (fun q hq => hw.2.2.2.2.2.2.2 q hq) ?_
    refine W.widen (k := 600000) (n := 7302250) (by decide) (by decide) ?_
    exact lw_ret hx hb hr hlocks d_W_law_815
  · have hi : i + 10 ≤ L := i_room hL hiL c1
    have k8 : ∀ (τ : cT) (σ : rS) (H : Heap) (locs : List Loc), Rl τ σ → lH K G τ σ s H locs → W p l e room_1 s m #[Value.ref b] below meth c H locs 55 1104 (lw_Z below #[Value.ref b] s) (F0 m 808 ls []) := by
      intro τ σ H locs hR hw
      refine lv_iinc (v := nI (i + 10)) (lv' := [(3, .int (nI (i + 10))), (0, .ref (b)), (1, .ref (cO K 0)), (2, .ref (rA G 0))]) hx hb d_W_law_808 hl (k := 3) rfl (nI_add i 10) (by decide) rfl (fun ls hl => ?_)
      refine lv_goto (tgt := 18) hx hb d_W_law_811 (by decide) ?_
      exact kk τ σ H locs ls hi hR hw (lv_sub hl [1, 2, 3, 0] rfl)
    refine lv_aload_n hx hb d_W_law_27 rfl (lv_at hl 0 rfl) ?_
    refine lv_iload_n hx hb d_W_law_28 rfl (lv_at hl 3 rfl) ?_
    refine l_sld hx hb hX hbl hw (n := i) (by omega) hL d_W_law_29 ?_
    refine lv_bipush (v := nI 15) hx hb d_W_law_30 (by decide) ?_
    refine lv_iand hx hb d_W_law_32 ?_
    obtain ⟨j, hj, ej⟩ := and15 (xs (i))
    refine tp_i (y := nI (j)) (ej) ?_
    rcases (show j = 0 ∨ j = 1 ∨ j = 2 ∨ j = 3 ∨ j = 4 ∨ j = 5 ∨ j = 6 ∨ j = 7 ∨ j = 8 ∨ j = 9 ∨ j = 10 ∨ j = 11 ∨ j = 12 ∨ j = 13 ∨ j = 14 ∨ j = 15 by omega) with rfl | rfl | rfl | rfl | rfl | rfl | rfl | rfl | rfl | rfl | rfl | rfl | rfl | rfl | rfl | rfl
    · refine lv_tableIn (tgt := 100) (off := 67) hx hb d_W_law_33 (by decide) (by decide) (by decide) (by decide) ?_
      exact lc_set hx hb hml hown ht hX hbl hL h hw hi hl k8
    · refine lv_tableIn (tgt := 291) (off := 258) hx hb d_W_law_33 (by decide) (by decide) (by decide) (by decide) ?_
      exact lc_get hx hb hml hown ht hX hbl hL h hw hi hl k8
    · refine lv_tableIn (tgt := 325) (off := 292) hx hb d_W_law_33 (by decide) (by decide) (by decide) (by decide) ?_
      exact lc_reduce hx hb hml hown ht hX hbl hL h hw hi hl k8
    · refine lv_tableIn (tgt := 358) (off := 325) hx hb d_W_law_33 (by decide) (by decide) (by decide) (by decide) ?_
      exact lc_work hx hb hml hown ht hX hbl hL h hw hi hl k8
    · refine lv_tableIn (tgt := 421) (off := 388) hx hb d_W_law_33 (by decide) (by decide) (by decide) (by decide) ?_
      exact lc_root hx hb hml hown ht hX hbl hL h hw hi hl k8
    · refine lv_tableIn (tgt := 454) (off := 421) hx hb d_W_law_33 (by decide) (by decide) (by decide) (by decide) ?_
      exact lc_spot hx hb hml hown ht hX hbl hL h hw hi hl k8
    · refine lv_tableIn (tgt := 507) (off := 474) hx hb d_W_law_33 (by decide) (by decide) (by decide) (by decide) ?_
      exact lc_sum hx hb hml hown ht hX hbl hL h hw hi hl k8
    · refine lv_tableIn (tgt := 550) (off := 517) hx hb d_W_law_33 (by decide) (by decide) (by decide) (by decide) ?_
      exact lc_times hx hb hml hown ht hX hbl hL h hw hi hl k8
    · refine lv_tableIn (tgt := 593) (off := 560) hx hb d_W_law_33 (by decide) (by decide) (by decide) (by decide) ?_
      exact lc_place hx hb hml hown ht hX hbl hL h hw hi hl k8
    · refine lv_tableIn (tgt := 636) (off := 603) hx hb d_W_law_33 (by decide) (by decide) (by decide) (by decide) ?_
      exact lc_put hx hb hml hown ht hX hbl hL h hw hi hl k8
    · refine lv_tableIn (tgt := 699) (off := 666) hx hb d_W_law_33 (by decide) (by decide) (by decide) (by decide) ?_
      exact lc_key hx hb hml hown ht hX hbl hL h hw hi hl k8
    · refine lv_tableIn (tgt := 722) (off := 689) hx hb d_W_law_33 (by decide) (by decide) (by decide) (by decide) ?_
      exact lc_signature hx hb hml hown ht hX hbl hL h hw hi hl k8
    · refine lv_tableIn (tgt := 755) (off := 722) hx hb d_W_law_33 (by decide) (by decide) (by decide) (by decide) ?_
      exact lc_fits hx hb hml hown ht hX hbl hL h hw hi hl k8
    · refine lv_tableOut (tgt := 808) hx hb d_W_law_33 (Or.inr (by decide)) (by decide) ?_
      exact k8 τ σ H locs h hw
    · refine lv_tableOut (tgt := 808) hx hb d_W_law_33 (Or.inr (by decide)) (by decide) ?_
      exact k8 τ σ H locs h hw
    · refine lv_tableOut (tgt := 808) hx hb d_W_law_33 (Or.inr (by decide)) (by decide) ?_
      exact k8 τ σ H locs h hw
theorem law_loop {p : Program} {l : Launch} {e : Env} {s : State} {m : MethodId} {below : List Frame} {meth : Method} {c : Code} {b L : Nat} {xs : Nat → Int32} {K : cG} {G : rG} (hL : L ≤ 5120) (C0 : lw_At p s m meth c b L xs) :
    ∀ (n i : Nat), i ≤ L → L ≤ i + n → ∀ (τ : cT) (σ : rS) (H : Heap) (locs : List Loc) (ls : Array Slot), Rl τ σ → lH K G τ σ s H locs → lv_has ls 4 [(0, .ref (b)), (1, .ref (cO K 0)), (2, .ref (rA G 0)), (3, .int (nI (i)))] → W p l e room_1 s m #[Value.ref b] below meth c H locs 55 1104 (lw_Z below #[Value.ref b] s) (F0 m 18 ls [])
  | 0, i, h1, h2, τ, σ, H, locs, ls, hR, hw, hl => law_step hL C0 h1 hR hw hl (fun _ _ _ _ _ h _ _ _ => absurd h (by omega))
  | n + 1, i, h1, h2, τ, σ, H, locs, ls, hR, hw, hl => law_step hL C0 h1 hR hw hl (fun τ σ H locs ls h hR hw hl => law_loop hL C0 n (i + 10) h (by omega) τ σ H locs ls hR hw hl)
