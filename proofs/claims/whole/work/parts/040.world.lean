/-! a world that is the same list of cells at every moment: zH within a method, zC at its start and end -/
def zH (D : va_G) (cl : List vw_C) (tys : List (ClassId × FieldType)) (A : Nat → Prop) (S : State → Heap → Prop) (ws : va_W) (s : State) (H : Heap) (locs : List Loc) : Prop :=
  va_P D cl ws H ∧ va_K D cl tys s ∧ va_D A ws ∧ va_S A s.heap H locs ∧ S s s.heap
def zC (D : va_G) (cl : List vw_C) (tys : List (ClassId × FieldType)) (A : Nat → Prop) (S : State → Heap → Prop) (ws : va_W) (U : State) : Prop := zH D cl tys A S ws U U.heap []
/-- S goes along with the state -/
def zS (A : Nat → Prop) (S : State → Heap → Prop) : Prop :=
  (∀ (s U : State), s.WarmedH U.vm → (∀ a : Nat, a < s.heap.size → ¬ A a → U.heap[a]? = s.heap[a]?) → S s s.heap → S U U.heap) ∧ ∀ (U : State) (g : JFrame) (mk : MethodId) (a : Array Value), S U U.heap → S (U.calling g mk a) (U.calling g mk a).heap
section ZK
variable {p : Program} {l : Launch} {e : Env} {R : Room} {s : State} {m : MethodId} {args : Array Value} {below : List Frame} {meth : Method} {c : Code} {H : Heap} {locs : List Loc} {cells slots : Nat} {Q : State → Prop}
variable {cc : ByteArray} {pc : Nat} {ls : Array Slot} {rest st0 : List Value} {D : va_G} {cl : List vw_C} {A : Nat → Prop} {tys : List (ClassId × FieldType)} {ws : va_W} {S : State → Heap → Prop} {mc ms : Nat} {a : Array Value}
theorem zC.blind (hZ : zS A S) {As : List Value} : FrameBlind (va_Pc As (zC D cl tys A S ws)) := by
  intro a U g mk h
  obtain ⟨h0, hP, hK, hD, hS, hs⟩ := h
  exact ⟨h0, hP, va_K.moved (u := U) (U := U.calling g mk a) (Vm.Alike.refl U.vm) hK, hD, va_S.rf, hZ.2 U g mk a hs⟩
theorem zH.at (hZ : zS A S) (hw : zH D cl tys A S ws s H locs) (U : State) (hU : U.heap = H) (hW : s.WarmedH U.vm) : zC D cl tys A S ws U := by
  obtain ⟨hP, hK, hD, hS, hs⟩ := hw
  refine ⟨by rw [hU]; exact hP, va_K.moved hW.alike hK, hD, va_S.rf, hZ.1 s U hW (fun a h1 h2 => ?_) hs⟩
  rw [hU]
  exact hS.2.1 a h1 h2
theorem z_preS (hZ : zS A S) (hw : zH D cl tys A S ws s H locs) (As : List Value) : PreS s H (va_Pc As (zC D cl tys A S ws)) As :=
  ⟨zC.blind hZ, fun U hU hW => ⟨rfl, hw.at hZ U hU hW⟩⟩
theorem z_preV (hZ : zS A S) (hw : zH D cl tys A S ws s H locs) {C : String} {T : u_T} {N ci b : Nat} (q0 : Nat) {fs : List Value} (he : ws[q0]? = some (b, .inr (ci, fs))) (hc : cl[ci]? = some (C, T, N)) (As : List Value) : PreV s H C b (va_Pc (.ref b :: As) (zC D cl tys A S ws)) As :=
  ⟨zC.blind hZ, va_recv hw.2.1 hw.1 hc he, fun U hU hW => ⟨rfl, hw.at hZ U hU hW⟩⟩
theorem z_calli {Y : Type} {wf : Y → va_W} {post : Int32 → Y → Prop} (hr : va_Run p l e R s m args below meth c H locs cells slots mc ms (F0 m pc ls st0) rest (va_Qi post (fun u => zC D cl tys A S (wf u)) A a) A) (hw : zH D cl tys A S ws s H locs)
    (kk : ∀ (r : Int32) (u : Y) (H1 : Heap) (locs1 : List Loc), post r u → zH D cl tys A S (wf u) s H1 locs1 → W p l e R s m args below meth c H1 locs1 (cells + mc) (slots + ms) Q (F0 m (pc + 3) ls (.int r :: rest))) : W p l e R s m args below meth c H locs cells slots Q (F0 m pc ls st0) :=
  va_calli hr hw.2.2.2.1 (fun _ _ h => h) (fun _ h => h) (fun r u t H1 locs1 ht hvm hp hB _ _ hS => kk r u H1 locs1 hp ⟨by rw [← ht]; exact hB.1, va_K.moved hvm.symm hB.2.1, hB.2.2.1, hS, hw.2.2.2.2⟩)
theorem z_calll {Y : Type} {wf : Y → va_W} {post : Int64 → Y → Prop} (hr : va_Run p l e R s m args below meth c H locs cells slots mc ms (F0 m pc ls st0) rest (va_Ql post (fun u => zC D cl tys A S (wf u)) A a) A) (hw : zH D cl tys A S ws s H locs)
    (kk : ∀ (r : Int64) (u : Y) (H1 : Heap) (locs1 : List Loc), post r u → zH D cl tys A S (wf u) s H1 locs1 → W p l e R s m args below meth c H1 locs1 (cells + mc) (slots + ms) Q (F0 m (pc + 3) ls (.long r :: rest))) : W p l e R s m args below meth c H locs cells slots Q (F0 m pc ls st0) :=
  va_calll hr hw.2.2.2.1 (fun _ _ h => h) (fun _ h => h) (fun r u t H1 locs1 ht hvm hp hB _ _ hS => kk r u H1 locs1 hp ⟨by rw [← ht]; exact hB.1, va_K.moved hvm.symm hB.2.1, hB.2.2.1, hS, hw.2.2.2.2⟩)
theorem z_callv {Y : Type} {wf : Y → va_W} {post : Y → Prop} (hr : va_Run p l e R s m args below meth c H locs cells slots mc ms (F0 m pc ls st0) rest (va_Qv post (fun u => zC D cl tys A S (wf u)) A a) A) (hw : zH D cl tys A S ws s H locs)
    (kk : ∀ (u : Y) (H1 : Heap) (locs1 : List Loc), post u → zH D cl tys A S (wf u) s H1 locs1 → W p l e R s m args below meth c H1 locs1 (cells + mc) (slots + ms) Q (F0 m (pc + 3) ls rest)) : W p l e R s m args below meth c H locs cells slots Q (F0 m pc ls st0) :=
  va_callv hr hw.2.2.2.1 (fun _ _ h => h) (fun _ h => h) (fun u t H1 locs1 ht hvm hp hB _ _ hS => kk u H1 locs1 hp ⟨by rw [← ht]; exact hB.1, va_K.moved hvm.symm hB.2.1, hB.2.2.1, hS, hw.2.2.2.2⟩)
theorem z_iret {Y : Type} {wf : Y → va_W} {post : Int32 → Y → Prop} (hZ : zS A S) (hexec : p.tables.exec = Jvm.exec) (hb : c.code = cc) (hr : meth.sig.returnType = some .int) (hlocks : meth.locks = false) {v : Int32} (u : Y) (hw : zH D cl tys A S (wf u) s H locs) (hp : post v u) (hdg : decode cc pc = .ok (.ireturn, 1)) :
    W p l e R s m args below meth c H locs cells slots (MQ below (va_Qi post (fun u => zC D cl tys A S (wf u)) A) args s cells slots A) (F0 m pc ls [.int v]) :=
  W.iret hexec hb hr (fun t ht hW => ⟨⟨v, u, rfl, hp, hw.at hZ t ht hW⟩, hw.2.2.2.1.F ht⟩) hw.2.2.2.1.2.2 hdg hlocks
theorem z_zret {Y : Type} {wf : Y → va_W} {post : Int32 → Y → Prop} (hZ : zS A S) (hexec : p.tables.exec = Jvm.exec) (hb : c.code = cc) {ty : FieldType} (hr : meth.sig.returnType = some ty) (hlocks : meth.locks = false) {v : Int32} (hn : narrow ty (.int v) = .int v) (u : Y) (hw : zH D cl tys A S (wf u) s H locs) (hp : post v u) (hdg : decode cc pc = .ok (.ireturn, 1)) :
    W p l e R s m args below meth c H locs cells slots (MQ below (va_Qi post (fun u => zC D cl tys A S (wf u)) A) args s cells slots A) (F0 m pc ls [.int v]) :=
  W.zret hexec hb hr hn (fun t ht hW => ⟨⟨v, u, rfl, hp, hw.at hZ t ht hW⟩, hw.2.2.2.1.F ht⟩) hw.2.2.2.1.2.2 hdg hlocks
theorem z_lret {Y : Type} {wf : Y → va_W} {post : Int64 → Y → Prop} (hZ : zS A S) (hexec : p.tables.exec = Jvm.exec) (hb : c.code = cc) (hr : meth.sig.returnType = some .long) (hlocks : meth.locks = false) {v : Int64} (u : Y) (hw : zH D cl tys A S (wf u) s H locs) (hp : post v u) (hdg : decode cc pc = .ok (.lreturn, 1)) :
    W p l e R s m args below meth c H locs cells slots (MQ below (va_Ql post (fun u => zC D cl tys A S (wf u)) A) args s cells slots A) (F0 m pc ls [.long v]) :=
  W.lret hexec hb hr (fun t ht hW => ⟨⟨v, u, rfl, hp, hw.at hZ t ht hW⟩, hw.2.2.2.1.F ht⟩) hw.2.2.2.1.2.2 hdg hlocks
theorem z_vret {Y : Type} {wf : Y → va_W} {post : Y → Prop} (hZ : zS A S) (hexec : p.tables.exec = Jvm.exec) (hb : c.code = cc) (hr : meth.sig.returnType = none) (hlocks : meth.locks = false) (u : Y) (hw : zH D cl tys A S (wf u) s H locs) (hp : post u) (hdg : decode cc pc = .ok (.return_, 1)) :
    W p l e R s m args below meth c H locs cells slots (MQ below (va_Qv post (fun u => zC D cl tys A S (wf u)) A) args s cells slots A) (F0 m pc ls []) :=
  W.vret hexec hb hr (fun t ht hW => ⟨⟨u, rfl, hp, hw.at hZ t ht hW⟩, hw.2.2.2.1.F ht⟩) hw.2.2.2.1.2.2 hdg hlocks
theorem tp_i {x y : Int32} (h : x = y) (k : W p l e R s m args below meth c H locs cells slots Q (F0 m pc ls (.int y :: rest))) : W p l e R s m args below meth c H locs cells slots Q (F0 m pc ls (.int x :: rest)) := h ▸ k
theorem tp_l {x y : Int64} (h : x = y) (k : W p l e R s m args below meth c H locs cells slots Q (F0 m pc ls (.long y :: rest))) : W p l e R s m args below meth c H locs cells slots Q (F0 m pc ls (.long x :: rest)) := h ▸ k
end ZK
/-! comparisons of small numbers -/
section ZN
variable {p : Program} {l : Launch} {e : Env} {R : Room} {s : State} {m : MethodId} {args : Array Value} {below : List Frame} {meth : Method} {c : Code} {H : Heap} {locs : List Loc} {cells slots : Nat} {Q : State → Prop}
variable {cc : ByteArray} {pc tgt : Nat} {off : Int} {ls : Array Slot} {rest : List Value} {a b : Nat}
theorem n_eq (hexec : p.tables.exec = Jvm.exec) (hb : c.code = cc) (hdg : decode cc pc = .ok (.if_icmp .eq off, 3)) (ht : (pc : Int) + off = (tgt : Int)) (ha : a < 2 ^ 31) (hb2 : b < 2 ^ 31)
    (kt : a = b → W p l e R s m args below meth c H locs cells slots Q (F0 m tgt ls rest)) (kf : a ≠ b → W p l e R s m args below meth c H locs cells slots Q (F0 m (pc + 3) ls rest)) : W p l e R s m args below meth c H locs cells slots Q (F0 m pc ls (.int (nI b) :: .int (nI a) :: rest)) :=
  lv_icmp_eq hexec hb hdg ht (fun h => kt ((nI_eq ha hb2).mp h)) (fun h => kf (fun q => h ((nI_eq ha hb2).mpr q)))
theorem n_ne (hexec : p.tables.exec = Jvm.exec) (hb : c.code = cc) (hdg : decode cc pc = .ok (.if_icmp .ne off, 3)) (ht : (pc : Int) + off = (tgt : Int)) (ha : a < 2 ^ 31) (hb2 : b < 2 ^ 31)
    (kt : a ≠ b → W p l e R s m args below meth c H locs cells slots Q (F0 m tgt ls rest)) (kf : a = b → W p l e R s m args below meth c H locs cells slots Q (F0 m (pc + 3) ls rest)) : W p l e R s m args below meth c H locs cells slots Q (F0 m pc ls (.int (nI b) :: .int (nI a) :: rest)) :=
  lv_icmp_ne hexec hb hdg ht (fun h => kt (fun q => h ((nI_eq ha hb2).mpr q))) (fun h => kf ((nI_eq ha hb2).mp h))
theorem n_lt (hexec : p.tables.exec = Jvm.exec) (hb : c.code = cc) (hdg : decode cc pc = .ok (.if_icmp .lt off, 3)) (ht : (pc : Int) + off = (tgt : Int)) (ha : a < 2 ^ 31) (hb2 : b < 2 ^ 31)
    (kt : a < b → W p l e R s m args below meth c H locs cells slots Q (F0 m tgt ls rest)) (kf : b ≤ a → W p l e R s m args below meth c H locs cells slots Q (F0 m (pc + 3) ls rest)) : W p l e R s m args below meth c H locs cells slots Q (F0 m pc ls (.int (nI b) :: .int (nI a) :: rest)) :=
  lv_icmp_lt hexec hb hdg ht (fun h => kt ((nI_ltI ha hb2).mp h)) (fun h => kf (Nat.not_lt.mp (fun q => h ((nI_ltI ha hb2).mpr q))))
theorem n_ge (hexec : p.tables.exec = Jvm.exec) (hb : c.code = cc) (hdg : decode cc pc = .ok (.if_icmp .ge off, 3)) (ht : (pc : Int) + off = (tgt : Int)) (ha : a < 2 ^ 31) (hb2 : b < 2 ^ 31)
    (kt : b ≤ a → W p l e R s m args below meth c H locs cells slots Q (F0 m tgt ls rest)) (kf : a < b → W p l e R s m args below meth c H locs cells slots Q (F0 m (pc + 3) ls rest)) : W p l e R s m args below meth c H locs cells slots Q (F0 m pc ls (.int (nI b) :: .int (nI a) :: rest)) :=
  lv_icmp_ge hexec hb hdg ht (fun h => kt ((nI_leI hb2 ha).mp h)) (fun h => kf (Nat.not_le.mp (fun q => h ((nI_leI hb2 ha).mpr q))))
theorem n_gt (hexec : p.tables.exec = Jvm.exec) (hb : c.code = cc) (hdg : decode cc pc = .ok (.if_icmp .gt off, 3)) (ht : (pc : Int) + off = (tgt : Int)) (ha : a < 2 ^ 31) (hb2 : b < 2 ^ 31)
    (kt : b < a → W p l e R s m args below meth c H locs cells slots Q (F0 m tgt ls rest)) (kf : a ≤ b → W p l e R s m args below meth c H locs cells slots Q (F0 m (pc + 3) ls rest)) : W p l e R s m args below meth c H locs cells slots Q (F0 m pc ls (.int (nI b) :: .int (nI a) :: rest)) :=
  lv_icmp_gt hexec hb hdg ht (fun h => kt ((nI_ltI hb2 ha).mp h)) (fun h => kf (Nat.not_lt.mp (fun q => h ((nI_ltI hb2 ha).mpr q))))
theorem n_le (hexec : p.tables.exec = Jvm.exec) (hb : c.code = cc) (hdg : decode cc pc = .ok (.if_icmp .le off, 3)) (ht : (pc : Int) + off = (tgt : Int)) (ha : a < 2 ^ 31) (hb2 : b < 2 ^ 31)
    (kt : a ≤ b → W p l e R s m args below meth c H locs cells slots Q (F0 m tgt ls rest)) (kf : b < a → W p l e R s m args below meth c H locs cells slots Q (F0 m (pc + 3) ls rest)) : W p l e R s m args below meth c H locs cells slots Q (F0 m pc ls (.int (nI b) :: .int (nI a) :: rest)) :=
  lv_icmp_le hexec hb hdg ht (fun h => kt ((nI_leI ha hb2).mp h)) (fun h => kf (Nat.not_le.mp (fun q => h ((nI_leI ha hb2).mpr q))))
theorem n_eq0 (hexec : p.tables.exec = Jvm.exec) (hb : c.code = cc) (hdg : decode cc pc = .ok (.ifCond .eq off, 3)) (ht : (pc : Int) + off = (tgt : Int)) (ha : a < 2 ^ 31)
    (kt : a = 0 → W p l e R s m args below meth c H locs cells slots Q (F0 m tgt ls rest)) (kf : a ≠ 0 → W p l e R s m args below meth c H locs cells slots Q (F0 m (pc + 3) ls rest)) : W p l e R s m args below meth c H locs cells slots Q (F0 m pc ls (.int (nI a) :: rest)) :=
  lv_if_eq hexec hb hdg ht (fun h => kt ((nI_eq (b := 0) ha (by decide)).mp h)) (fun h => kf (fun q => h ((nI_eq (b := 0) ha (by decide)).mpr q)))
theorem n_ne0 (hexec : p.tables.exec = Jvm.exec) (hb : c.code = cc) (hdg : decode cc pc = .ok (.ifCond .ne off, 3)) (ht : (pc : Int) + off = (tgt : Int)) (ha : a < 2 ^ 31)
    (kt : a ≠ 0 → W p l e R s m args below meth c H locs cells slots Q (F0 m tgt ls rest)) (kf : a = 0 → W p l e R s m args below meth c H locs cells slots Q (F0 m (pc + 3) ls rest)) : W p l e R s m args below meth c H locs cells slots Q (F0 m pc ls (.int (nI a) :: rest)) :=
  lv_if_ne hexec hb hdg ht (fun h => kt (fun q => h ((nI_eq (b := 0) ha (by decide)).mpr q))) (fun h => kf ((nI_eq (b := 0) ha (by decide)).mp h))
end ZN
/-! the words of a call, all out of zT -/
theorem gd_V {own C : String} {idx n : Nat} {y : MethodName} {b : ByteArray} {r : Option FieldType} (k1 : Cond.methodLink own idx y ∈ zT) (k2 : Cond.instanceMethod y ∈ zT) (k3 : Cond.selects C y y ∈ zT) (k4 : Cond.initialized C ∈ zT) (k5 : Cond.code y b n r ∈ zT) : GoodIn zT (wsV own idx C y (zW y b n r)) := by
  intro w hw
  refine zT_good w ?_
  simp only [wsV, zW, List.cons_append, List.nil_append, List.mem_cons] at hw
  rcases hw with rfl | rfl | rfl | rfl | rfl | hw
  · exact k1
  · exact k2
  · exact k3
  · exact k4
  · exact k5
  · exact hw
theorem gd_S {own : String} {idx n : Nat} {y : MethodName} {b : ByteArray} {r : Option FieldType} (k1 : Cond.methodLink own idx y ∈ zT) (k2 : Cond.static y ∈ zT) (k4 : Cond.initialized y.cls ∈ zT) (k5 : Cond.code y b n r ∈ zT) : GoodIn zT (va_wsS own idx y (zW y b n r)) := by
  intro w hw
  refine zT_good w ?_
  simp only [va_wsS, zW, List.cons_append, List.nil_append, List.mem_cons] at hw
  rcases hw with rfl | rfl | rfl | rfl | hw
  · exact k1
  · exact k2
  · exact k4
  · exact k5
  · exact hw
theorem gd_I {n : Nat} {y : MethodName} {b : ByteArray} {r : Option FieldType} (k5 : Cond.code y b n r ∈ zT) : GoodIn zT (zW y b n r) := by
  intro w hw
  refine zT_good w ?_
  simp only [zW, List.mem_cons] at hw
  rcases hw with rfl | hw
  · exact k5
  · exact hw
abbrev zr (f n : Nat) : Room := { frames := f, cells := 0, slots := 0, locals := n }
