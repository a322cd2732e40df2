/-! new T[n][m] on the machine, by itself: the outer array, then its rows, each written into it as it is made -/
/-- the outer array while i of its rows stand, the first of them just behind h -/
def zm_o (A : ClassId) (N h i : Nat) : Cell := arrV A N (fun j => va_rf (if j < i then some (h + 1 + j) else none))
/-- a row -/
def zm_r (B : ClassId) (K : Nat) (v : Value) : Cell := arrV B K (fun _ => v)
def zm_s (S : State) (A B : ClassId) (N K : Nat) (v : Value) : Nat → State
  | 0 => S.pushCell (zm_o A N S.heap.size 0)
  | i + 1 => ((zm_s S A B N K v i).pushCell (zm_r B K v)).setCell S.heap.size (zm_o A N S.heap.size (i + 1))
theorem zm_o_new (A : ClassId) (N h : Nat) : arrV A N (fun _ => Value.null) = zm_o A N h 0 := by
  refine congrArg (arrV A N) (funext fun j => ?_)
  show Value.null = va_rf (if j < 0 then some (h + 1 + j) else none)
  rw [if_neg (Nat.not_lt_zero j)]
  rfl
theorem zm_o_set (A : ClassId) (N h i : Nat) : (zm_o A N h i).setSlot i (.ref (h + 1 + i)) = zm_o A N h (i + 1) := by
  unfold zm_o
  rw [arrV_store]
  refine congrArg (arrV A N) (funext fun j => ?_)
  unfold updV
  by_cases e : j = i
  · rw [if_pos e, if_pos (by omega), e]
    rfl
  · rw [if_neg e]
    show va_rf (if j < i then some (h + 1 + j) else none) = _
    by_cases q : j < i
    · rw [if_pos q, if_pos (by omega)]
    · rw [if_neg q, if_neg (by omega)]
theorem zm_all (S : State) (A B : ClassId) (N K : Nat) (v : Value) (i : Nat) :
    (zm_s S A B N K v i).heap.size = S.heap.size + 1 + i ∧ (zm_s S A B N K v i).heap[S.heap.size]? = some (zm_o A N S.heap.size i) ∧
    (∀ a : Nat, a < S.heap.size → (zm_s S A B N K v i).heap[a]? = S.heap[a]?) ∧ (∀ j : Nat, j < i → (zm_s S A B N K v i).heap[S.heap.size + 1 + j]? = some (zm_r B K v)) ∧
    (zm_s S A B N K v i).vm = S.vm ∧ (zm_s S A B N K v i).slotsUsed = S.slotsUsed + N + i * K := by
  induction i with
  | zero =>
    refine ⟨?_, State.heap_pushCell_size _ _, fun a h => State.heap_pushCell_of_lt _ _ h, fun j h => absurd h (Nat.not_lt_zero j), rfl, ?_⟩
    · show (S.heap.push _).size = _
      rw [Array.size_push]
    · show S.slotsUsed + (zm_o A N S.heap.size 0).slots.size = _
      unfold zm_o
      rw [arrV_size, Nat.zero_mul, Nat.add_zero]
  | succ i ih =>
    obtain ⟨h1, h2, h3, h4, h5, h6⟩ := ih
    have low : ∀ a : Nat, a < S.heap.size + 1 + i → ((zm_s S A B N K v i).pushCell (zm_r B K v)).heap[a]? = (zm_s S A B N K v i).heap[a]? := fun a h => State.heap_pushCell_of_lt _ _ (by rw [h1]; exact h)
    have new : ((zm_s S A B N K v i).pushCell (zm_r B K v)).heap[S.heap.size + 1 + i]? = some (zm_r B K v) := by
      rw [← h1]
      exact State.heap_pushCell_size _ _
    refine ⟨?_, State.heap_setCell_self ((low _ (by omega)).trans h2), fun a h => ?_, fun j h => ?_, h5, ?_⟩
    · show (((zm_s S A B N K v i).heap.push _).setIfInBounds _ _).size = _
      rw [Array.size_setIfInBounds, Array.size_push, h1]
      omega
    · exact (State.heap_setCell_other (Nat.ne_of_gt h)).trans ((low a (by omega)).trans (h3 a h))
    · refine (State.heap_setCell_other (show S.heap.size ≠ S.heap.size + 1 + j by omega)).trans ?_
      by_cases q : j < i
      · exact (low _ (by omega)).trans (h4 j q)
      · rw [show j = i by omega]
        exact new
    · show (zm_s S A B N K v i).slotsUsed + (zm_r B K v).slots.size = _
      unfold zm_r
      rw [arrV_size, h6, Nat.succ_mul]
      omega
theorem zm_top (S : State) (f : JFrame) (A B : ClassId) (N K : Nat) (v : Value) (i : Nat) : zm_s (S.setTop f) A B N K v i = (zm_s S A B N K v i).setTop f := by
  induction i with
  | zero => rfl
  | succ i ih =>
    show ((zm_s (S.setTop f) A B N K v i).pushCell (zm_r B K v)).setCell S.heap.size (zm_o A N S.heap.size (i + 1)) = _
    rw [ih]
    rfl
section ZMW
variable {E : CtlPost} {e : Env} {d : Bool} {acts : List Action} {S : State}
/-- one array of default values, its class being there -/
theorem zm_na {A B : ClassId} {k : Class} {ty : FieldType} {n : Nat} {v : Value} (hk : S.vm.classes[A]? = some k) (hkk : k.kind = .array B ty) (h1 : ¬ n > e.platform.arrayLengthLimit) (h2 : ¬ n * componentBytes ty > e.platform.maxHeapBytes)
    (hf : fits ty v = true) (hd : v.isDefault = true) (h3 : S.heap.size < e.platform.maxCells) (h4 : S.slotsUsed + n ≤ e.platform.maxSlots) {Q : Addr → Pre} (hq : Q S.heap.size d acts (S.pushCell (arrV A n (fun _ => v)))) : wp (Jvm.newArray A n v) Q E e d acts S := by
  have hall : (Array.replicate n v).all (fun x => x.isDefault) = true := by
    rw [Array.all_replicate]
    split
    · rfl
    · exact hd
  have hact : allocActs (Array.replicate n v) S.heap.size acts = acts := if_pos hall
  rw [← arrV_new] at hq
  simp only [Jvm.newArray, Jvm.arrayFits, wp_bind', Jvm.W.ask, Jvm.W.ite, h1, if_false, wp_pure', Jvm.W.theClass, hk, hkk, h2, Option.some.injEq, exists_eq_left', Jvm.W.stop, Jvm.W.alloc, Array.size_replicate]
  rw [if_neg (by omega), hact]
  refine ⟨h3, h4, fun i x hx => ?_, hq⟩
  obtain ⟨hi, ex⟩ := Array.getElem?_eq_some_iff.mp hx
  rw [Array.getElem_replicate] at ex
  rw [← ex]
  simp [State.fitsSlot, State.slotType?, hk, hkk, hf]
/-- the two dimensions, one behind the other -/
theorem zm_make {A B C : ClassId} {kA kB : Class} {ty : FieldType} {n m : Int32} {N K : Nat} (hA : S.vm.classes[A]? = some kA) (hAk : kA.kind = .array B (.array ty)) (hB : S.vm.classes[B]? = some kB) (hBk : kB.kind = .array C ty)
    (hn : ¬ n < 0) (hm : ¬ m < 0) (hN : n.toNatClampNeg = N) (hK : m.toNatClampNeg = K) (l1 : ¬ N > e.platform.arrayLengthLimit) (l2 : ¬ N * componentBytes (.array ty) > e.platform.maxHeapBytes) (l3 : ¬ K > e.platform.arrayLengthLimit) (l4 : ¬ K * componentBytes ty > e.platform.maxHeapBytes)
    (hf : fits ty (defaultValue ty) = true) (hd : (defaultValue ty).isDefault = true) (r1 : S.heap.size + 1 + N ≤ e.platform.maxCells) (r2 : S.slotsUsed + N + N * K ≤ e.platform.maxSlots)
    {Q : Addr → Pre} (hq : ∀ d' acts', Q S.heap.size d' acts' (zm_s S A B N K (defaultValue ty) N)) : wp (Jvm.Op.multianewarray.make A [n, m]) Q E e d acts S := by
  have hno : [m].find? (fun x => decide (x < 0)) = none := by simp [hm]
  have row : ∀ (i : Nat) (d' : Bool) (acts' : List Action) (Q' : Addr → Pre), i < N → Q' (S.heap.size + 1 + i) d' acts' ((zm_s S A B N K (defaultValue ty) i).pushCell (zm_r B K (defaultValue ty))) → wp (Jvm.Op.multianewarray.make B [m]) Q' E e d' acts' (zm_s S A B N K (defaultValue ty) i) := by
    intro i d' acts' Q' hi hQ'
    obtain ⟨h1, -, -, -, h5, h6⟩ := zm_all S A B N K (defaultValue ty) i
    have hle : (i + 1) * K ≤ N * K := Nat.mul_le_mul_right K hi
    rw [Nat.succ_mul] at hle
    rw [Jvm.Op.multianewarray.make]
    simp only [wp_bind', Jvm.W.ite, hm, if_false, wp_pure', Jvm.W.theClass, h5, hB, hBk, Option.some.injEq, exists_eq_left', hK]
    refine zm_na (by rw [h5]; exact hB) hBk l3 l4 hf hd (by rw [h1]; omega) (by rw [h6]; omega) ?_
    rw [h1]
    exact hQ'
  rw [Jvm.Op.multianewarray.make]
  simp only [wp_bind', Jvm.W.ite, hn, if_false, wp_pure', Jvm.W.theClass, hA, hAk, Option.some.injEq, exists_eq_left', hN]
  refine zm_na hA hAk l1 l2 rfl rfl (by omega) (by omega) ?_
  rw [zm_o_new A N S.heap.size]
  simp only [hno]
  rw [ite_self, wp_bind', Std.Legacy.Range.forIn_eq_forIn_range']
  rw [show ([:N] : Std.Legacy.Range).size = N by simp [Std.Legacy.Range.size]]
  refine wp_forIn_inv (fun todo U => ∃ i, i + todo.length = N ∧ todo = List.range' i todo.length ∧ U = zm_s S A B N K (defaultValue ty) i) _ _ ⟨0, by simp, by simp, rfl⟩ ?_ ?_
  · rintro x todo U d' acts' Q' ⟨i, hi, ht, rfl⟩ next
    rw [List.length_cons] at hi ht
    rw [List.range'_succ] at ht
    obtain ⟨rfl, ht2⟩ := List.cons.inj ht
    obtain ⟨h1, h2, -, -, h5, -⟩ := zm_all S A B N K (defaultValue ty) x
    have hl : S.heap.size < (zm_s S A B N K (defaultValue ty) x).heap.size := by rw [h1]; omega
    simp only [wp_bind']
    refine row x _ _ _ (by omega) ?_
    simp only [wp_bind', Jvm.W.writeLoc, wp_pure']
    refine ⟨zm_o A N S.heap.size x, (State.heap_pushCell_of_lt _ _ hl).trans h2, (fun q => by cases q), by unfold zm_o; rw [arrV_size]; omega, ?_, next _ _ _ ⟨x + 1, by omega, ht2, ?_⟩⟩
    · simp [State.fitsSlot, State.slotType?, zm_o, arrV, h5, hA, hAk]
      rfl
    · rw [zm_o_set]
      rfl
  · rintro U d' acts' ⟨i, hi, -, rfl⟩
    rw [List.length_nil] at hi
    rw [show i = N by omega]
    simp only [wp_pure']
    exact hq _ _
end ZMW
section ZMS
variable {p : Program} {l : Launch} {e : Env} {R : Room} {s T : State} {m : MethodId} {args : Array Value} {below : List Frame} {meth : Method} {c : Code} {locs : List Loc} {cells slots : Nat}
theorem zm_stand (X : Stand p l e R s m args below meth c T locs cells slots) (A B : ClassId) (N K : Nat) (v : Value) (i : Nat) : Stand p l e R s m args below meth c (zm_s T A B N K v i) locs (cells + 1 + i) (slots + N + i * K) := by
  induction i with
  | zero =>
    have h := X.pushed (zm_o A N T.heap.size 0)
    rw [show (zm_o A N T.heap.size 0).slots.size = N from arrV_size _ _ _] at h
    rw [Nat.zero_mul]
    exact h
  | succ i ih =>
    obtain ⟨h1, h2, -, -, -, -⟩ := zm_all T A B N K v i
    have hl : T.heap.size < (zm_s T A B N K v i).heap.size := by rw [h1]; omega
    have h := ((ih.pushed (zm_r B K v)).stored ((State.heap_pushCell_of_lt _ _ hl).trans h2) i (.ref (T.heap.size + 1 + i))).dropFresh (fun x hx => by
      rw [List.mem_singleton.mp hx]
      exact X.heapGrown)
    rw [zm_o_set, show (zm_r B K v).slots.size = K from arrV_size _ _ _, Nat.add_assoc (slots + N), ← Nat.succ_mul] at h
    exact h
/-- what 'arrayOver' says of arrays of arrays -/
theorem zm_over {ty : FieldType} (h : (Cond.arrayOver (.array ty)).before args s = true) : ∃ (A B : ClassId) (k : Class), s.vm.findClass ("[" ++ (FieldType.array ty).toString) = some A ∧ s.vm.findClass (FieldType.array ty).toString = some B ∧ s.vm.classes[A]? = some k ∧ k.kind = .array B (.array ty) := by
  simp only [Cond.before, Cond.holds, Cond.value, beq_iff_eq, Option.bind_eq_some_iff, Option.map_eq_some_iff] at h
  obtain ⟨B, hB, A, hA, k, hk, hb⟩ := h
  obtain ⟨hlt, hp, -⟩ := Array.findIdx?_eq_some_iff_getElem.mp hA
  rw [(Array.getElem?_eq_some_iff.mp hk).2] at hp
  cases ek : k.kind with
  | array B' t =>
    rw [ek] at hb hp
    simp only [Bool.and_eq_true, beq_iff_eq, decide_eq_true_eq] at hb hp
    exact ⟨A, B, k, hb.2, hB, hk, by rw [ek, hp, hb.1]⟩
  | _ =>
    rw [ek] at hp
    exact absurd hp (by simp)
/-- it says it of the tables alone -/
theorem zm_over_at {ty : FieldType} {args' : Array Value} {U : State} (hal : s.vm.Alike U.vm) (h : (Cond.arrayOver ty).before args s = true) : (Cond.arrayOver ty).before args' U = true := (Cond.arrayOver_setVmC (args := args) hal ty).trans h
theorem zm_step (X : Stand p l e R s m args below meth c T locs cells slots) (hexec : p.tables.exec = Jvm.exec) {own : String} {index : Nat} {ty : FieldType} (hown : s.vm.findClass own = some m.cls) (hclink : (Cond.classLink own index ("[" ++ (FieldType.array ty).toString)).before args s = true)
    (hover : (Cond.arrayOver (.array ty)).before args s = true) (harr : (Cond.arrayClass ty).before args s = true) {g : JFrame} (hg : g.method = m) (hdg : decode c.code g.pc = .ok (.multianewarray index 2, 4)) {n k : Int32} {N K : Nat} {rest : List Value} (hst : g.stack = .int k :: .int n :: rest)
    (hn : ¬ n < 0) (hk : ¬ k < 0) (hN : n.toNatClampNeg = N) (hK : k.toNatClampNeg = K) (b1 : N * 4 ≤ 536870912) (b2 : K * componentBytes ty ≤ 536870912) (b3 : K ≤ 536870912) (hf : fits ty (defaultValue ty) = true) (hd : (defaultValue ty).isDefault = true) (hcells : cells + (1 + N) ≤ R.cells) (hslots : slots + (N + N * K) ≤ R.slots) :
    ∃ (v : Vm) (A B : ClassId), s.vm.findClass ("[" ++ (FieldType.array ty).toString) = some A ∧ s.vm.findClass (FieldType.array ty).toString = some B ∧ ArrOfT s A (.array ty) ∧
      Stand p l e R s m args below meth c (zm_s (T.setVm v) A B N K (defaultValue ty) N) locs (cells + 1 + N) (slots + N + N * K) ∧
      ∀ t, Steps p.tables e below ((zm_s (T.setVm v) A B N K (defaultValue ty) N).setTop { g with pc := g.pc + 4, stack := .ref T.heap.size :: rest }) t → Steps p.tables e below (T.setTop g) t := by
  subst hg
  obtain ⟨A, B, kA, fA, fB, hA, hAk⟩ := zm_over hover
  obtain ⟨B', kB, C, fB', hB, hBk⟩ := Cond.arrayClass_spec harr
  cases Option.some.inj (fB.symm.trans fB')
  obtain ⟨A', fA', hlink⟩ := Cond.classLink_spec hown hclink e.platform (by rw [X.admits.platform])
  cases Option.some.inj (fA.symm.trans fA')
  obtain ⟨hgives, hwarm, -⟩ := State.classEntry (e := e) X.warmed hlink
  generalize T.vm.noted g.method.cls index (.cls A) = v at hgives hwarm
  obtain ⟨kA1, hA1, eA⟩ := hwarm.alike.2.2 _ _ hA
  obtain ⟨kB1, hB1, eB⟩ := hwarm.alike.2.2 _ _ hB
  have XN := zm_stand (X.noted hwarm) A B N K (defaultValue ty) N
  obtain ⟨r1, r2⟩ := X.roomAbove hcells hslots
  refine ⟨v, A, B, fA, fB, fun n9 z9 => ⟨(fun q hq => by cases hq), kA, hA, B, hAk⟩, XN, fun t ht => ?_⟩
  jvm_step X.here [hexec, hdg]
  simp only [Jvm.Op.multianewarray.sem, wp_bind', Jvm.W.resolveClassAt_links (State.method?_setTop g X.here.top) hgives]
  rw [Jvm.W.popN, if_neg (by decide)]
  refine ⟨g, State.topJava?_setTop' (s := T.setVm v) g X.here.top, [.int n, .int k], rest, rfl, hst, ?_⟩
  simp only [List.mapM_cons, List.mapM_nil, wp_bind', wp_pure']
  have eS : ((T.setTop g).setVm v).setTop { g with stack := rest } = (T.setVm v).setTop { g with stack := rest } := by
    show ((T.setVm v).setTop g).setTop _ = _
    rw [State.setTop_setTop]
  rw [eS]
  refine zm_make (kA := kA1) (kB := kB1) (B := B) (C := C) (ty := ty) (N := N) (K := K) hA1 (by rw [eA]; exact hAk) hB1 (by rw [eB]; exact hBk) hn hk hN hK ?_ ?_ ?_ ?_ hf hd ?_ ?_ (fun d' acts' => ?_)
  · rw [Launch.admits_arrayLengthLimit X.admits]; omega
  · rw [Launch.admits_maxHeapBytes X.admits]; show ¬ N * 4 > 536870912; omega
  · rw [Launch.admits_arrayLengthLimit X.admits]; omega
  · rw [Launch.admits_maxHeapBytes X.admits]; omega
  · show T.heap.size + 1 + N ≤ _; omega
  · show T.slotsUsed + N + N * K ≤ _; omega
  · rw [zm_top]
    simp only [wp_bind', Jvm.W.mark, Jvm.W.pushRef, State.topJava?_setTop' _ XN.here.top, Option.some.injEq, exists_eq_left', State.setTop_setTop, State.heap_setTop]
    intro acts9
    simp [jvm, XN.here.top]
    exact ht
end ZMS
