/-! the rows that the class keeps as statics, as the start gives them -/
def nrw : List Cond := flatC (Jvm.Cond.and given_1 narrow_1)
theorem sT_34 {args : Array Value} {s : State} {A : Nat → Prop} (hs : ∀ w ∈ nrw, w.before args s = true) (hl : (Cond.laysStatic "CurveDesk" "ZERO" "[J").before args s = true) (hini : (Cond.initialized "CurveDesk").before args s = true) (hA : ∀ a : Nat, a < s.heap.size → ¬ A a) : ∃ t, va_T .long t (rl 34) (fun k => .long (lN (dg b32 (cst 34) k))) A s s.heap ∧ va_Z "CurveDesk" (cnm 34) "[J" (.ref t) A s s.heap := by
  have hel : ∀ j : Nat, j < 8 → (Term.elem (Term.static "CurveDesk" "ZERO" "[J") (.int (Int32.ofNat j))).eval args s none [] s = some (.long (lN (dg b32 (cst 34) j))) := by
    intro j hj
    rcases (show j = 0 ∨ j = 1 ∨ j = 2 ∨ j = 3 ∨ j = 4 ∨ j = 5 ∨ j = 6 ∨ j = 7 by omega) with rfl | rfl | rfl | rfl | rfl | rfl | rfl | rfl
    · have h := va_eqtl (hs (Cond.eq (.elem (Term.static "CurveDesk" "ZERO" "[J") (.int 0)) (.long 0)) (by decide +kernel))
      rw [show lN (dg b32 (cst 34) 0) = (0 : Int64) by decide +kernel]
      exact h
    · have h := va_eqtl (hs (Cond.eq (.elem (Term.static "CurveDesk" "ZERO" "[J") (.int 1)) (.long 0)) (by decide +kernel))
      rw [show lN (dg b32 (cst 34) 1) = (0 : Int64) by decide +kernel]
      exact h
    · have h := va_eqtl (hs (Cond.eq (.elem (Term.static "CurveDesk" "ZERO" "[J") (.int 2)) (.long 0)) (by decide +kernel))
      rw [show lN (dg b32 (cst 34) 2) = (0 : Int64) by decide +kernel]
      exact h
    · have h := va_eqtl (hs (Cond.eq (.elem (Term.static "CurveDesk" "ZERO" "[J") (.int 3)) (.long 0)) (by decide +kernel))
      rw [show lN (dg b32 (cst 34) 3) = (0 : Int64) by decide +kernel]
      exact h
    · have h := va_eqtl (hs (Cond.eq (.elem (Term.static "CurveDesk" "ZERO" "[J") (.int 4)) (.long 0)) (by decide +kernel))
      rw [show lN (dg b32 (cst 34) 4) = (0 : Int64) by decide +kernel]
      exact h
    · have h := va_eqtl (hs (Cond.eq (.elem (Term.static "CurveDesk" "ZERO" "[J") (.int 5)) (.long 0)) (by decide +kernel))
      rw [show lN (dg b32 (cst 34) 5) = (0 : Int64) by decide +kernel]
      exact h
    · have h := va_eqtl (hs (Cond.eq (.elem (Term.static "CurveDesk" "ZERO" "[J") (.int 6)) (.long 0)) (by decide +kernel))
      rw [show lN (dg b32 (cst 34) 6) = (0 : Int64) by decide +kernel]
      exact h
    · have h := va_eqtl (hs (Cond.eq (.elem (Term.static "CurveDesk" "ZERO" "[J") (.int 7)) (.long 0)) (by decide +kernel))
      rw [show lN (dg b32 (cst 34) 7) = (0 : Int64) by decide +kernel]
      exact h
  obtain ⟨t, h1, h2⟩ := va_Tof (tm := (Term.static "CurveDesk" "ZERO" "[J")) (ty := .long) (N := 8) (f := fun k => .long (lN (dg b32 (cst 34) k))) (by decide) (hs (Cond.arrayOf (Term.static "CurveDesk" "ZERO" "[J") .long) (by decide +kernel)) (va_eqt (hs (Cond.eq (.length (Term.static "CurveDesk" "ZERO" "[J")) (.int 8)) (by decide +kernel))) hel hA
  exact ⟨t, h2, va_Zref hl hini h1 hA⟩
theorem sT_35 {args : Array Value} {s : State} {A : Nat → Prop} (hs : ∀ w ∈ nrw, w.before args s = true) (hl : (Cond.laysStatic "CurveDesk" "ONE" "[J").before args s = true) (hini : (Cond.initialized "CurveDesk").before args s = true) (hA : ∀ a : Nat, a < s.heap.size → ¬ A a) : ∃ t, va_T .long t (rl 35) (fun k => .long (lN (dg b32 (cst 35) k))) A s s.heap ∧ va_Z "CurveDesk" (cnm 35) "[J" (.ref t) A s s.heap := by
  have hel : ∀ j : Nat, j < 8 → (Term.elem (Term.static "CurveDesk" "ONE" "[J") (.int (Int32.ofNat j))).eval args s none [] s = some (.long (lN (dg b32 (cst 35) j))) := by
    intro j hj
    rcases (show j = 0 ∨ j = 1 ∨ j = 2 ∨ j = 3 ∨ j = 4 ∨ j = 5 ∨ j = 6 ∨ j = 7 by omega) with rfl | rfl | rfl | rfl | rfl | rfl | rfl | rfl
    · have h := va_eqtl (hs (Cond.eq (.elem (Term.static "CurveDesk" "ONE" "[J") (.int 0)) (.long 1)) (by decide +kernel))
      rw [show lN (dg b32 (cst 35) 0) = (1 : Int64) by decide +kernel]
      exact h
    · have h := va_eqtl (hs (Cond.eq (.elem (Term.static "CurveDesk" "ONE" "[J") (.int 1)) (.long 0)) (by decide +kernel))
      rw [show lN (dg b32 (cst 35) 1) = (0 : Int64) by decide +kernel]
      exact h
    · have h := va_eqtl (hs (Cond.eq (.elem (Term.static "CurveDesk" "ONE" "[J") (.int 2)) (.long 0)) (by decide +kernel))
      rw [show lN (dg b32 (cst 35) 2) = (0 : Int64) by decide +kernel]
      exact h
    · have h := va_eqtl (hs (Cond.eq (.elem (Term.static "CurveDesk" "ONE" "[J") (.int 3)) (.long 0)) (by decide +kernel))
      rw [show lN (dg b32 (cst 35) 3) = (0 : Int64) by decide +kernel]
      exact h
    · have h := va_eqtl (hs (Cond.eq (.elem (Term.static "CurveDesk" "ONE" "[J") (.int 4)) (.long 0)) (by decide +kernel))
      rw [show lN (dg b32 (cst 35) 4) = (0 : Int64) by decide +kernel]
      exact h
    · have h := va_eqtl (hs (Cond.eq (.elem (Term.static "CurveDesk" "ONE" "[J") (.int 5)) (.long 0)) (by decide +kernel))
      rw [show lN (dg b32 (cst 35) 5) = (0 : Int64) by decide +kernel]
      exact h
    · have h := va_eqtl (hs (Cond.eq (.elem (Term.static "CurveDesk" "ONE" "[J") (.int 6)) (.long 0)) (by decide +kernel))
      rw [show lN (dg b32 (cst 35) 6) = (0 : Int64) by decide +kernel]
      exact h
    · have h := va_eqtl (hs (Cond.eq (.elem (Term.static "CurveDesk" "ONE" "[J") (.int 7)) (.long 0)) (by decide +kernel))
      rw [show lN (dg b32 (cst 35) 7) = (0 : Int64) by decide +kernel]
      exact h
  obtain ⟨t, h1, h2⟩ := va_Tof (tm := (Term.static "CurveDesk" "ONE" "[J")) (ty := .long) (N := 8) (f := fun k => .long (lN (dg b32 (cst 35) k))) (by decide) (hs (Cond.arrayOf (Term.static "CurveDesk" "ONE" "[J") .long) (by decide +kernel)) (va_eqt (hs (Cond.eq (.length (Term.static "CurveDesk" "ONE" "[J")) (.int 8)) (by decide +kernel))) hel hA
  exact ⟨t, h2, va_Zref hl hini h1 hA⟩
theorem sT_36 {args : Array Value} {s : State} {A : Nat → Prop} (hs : ∀ w ∈ nrw, w.before args s = true) (hl : (Cond.laysStatic "CurveDesk" "SEVEN" "[J").before args s = true) (hini : (Cond.initialized "CurveDesk").before args s = true) (hA : ∀ a : Nat, a < s.heap.size → ¬ A a) : ∃ t, va_T .long t (rl 36) (fun k => .long (lN (dg b32 (cst 36) k))) A s s.heap ∧ va_Z "CurveDesk" (cnm 36) "[J" (.ref t) A s s.heap := by
  have hel : ∀ j : Nat, j < 8 → (Term.elem (Term.static "CurveDesk" "SEVEN" "[J") (.int (Int32.ofNat j))).eval args s none [] s = some (.long (lN (dg b32 (cst 36) j))) := by
    intro j hj
    rcases (show j = 0 ∨ j = 1 ∨ j = 2 ∨ j = 3 ∨ j = 4 ∨ j = 5 ∨ j = 6 ∨ j = 7 by omega) with rfl | rfl | rfl | rfl | rfl | rfl | rfl | rfl
    · have h := va_eqtl (hs (Cond.eq (.elem (Term.static "CurveDesk" "SEVEN" "[J") (.int 0)) (.long 7)) (by decide +kernel))
      rw [show lN (dg b32 (cst 36) 0) = (7 : Int64) by decide +kernel]
      exact h
    · have h := va_eqtl (hs (Cond.eq (.elem (Term.static "CurveDesk" "SEVEN" "[J") (.int 1)) (.long 0)) (by decide +kernel))
      rw [show lN (dg b32 (cst 36) 1) = (0 : Int64) by decide +kernel]
      exact h
    · have h := va_eqtl (hs (Cond.eq (.elem (Term.static "CurveDesk" "SEVEN" "[J") (.int 2)) (.long 0)) (by decide +kernel))
      rw [show lN (dg b32 (cst 36) 2) = (0 : Int64) by decide +kernel]
      exact h
    · have h := va_eqtl (hs (Cond.eq (.elem (Term.static "CurveDesk" "SEVEN" "[J") (.int 3)) (.long 0)) (by decide +kernel))
      rw [show lN (dg b32 (cst 36) 3) = (0 : Int64) by decide +kernel]
      exact h
    · have h := va_eqtl (hs (Cond.eq (.elem (Term.static "CurveDesk" "SEVEN" "[J") (.int 4)) (.long 0)) (by decide +kernel))
      rw [show lN (dg b32 (cst 36) 4) = (0 : Int64) by decide +kernel]
      exact h
    · have h := va_eqtl (hs (Cond.eq (.elem (Term.static "CurveDesk" "SEVEN" "[J") (.int 5)) (.long 0)) (by decide +kernel))
      rw [show lN (dg b32 (cst 36) 5) = (0 : Int64) by decide +kernel]
      exact h
    · have h := va_eqtl (hs (Cond.eq (.elem (Term.static "CurveDesk" "SEVEN" "[J") (.int 6)) (.long 0)) (by decide +kernel))
      rw [show lN (dg b32 (cst 36) 6) = (0 : Int64) by decide +kernel]
      exact h
    · have h := va_eqtl (hs (Cond.eq (.elem (Term.static "CurveDesk" "SEVEN" "[J") (.int 7)) (.long 0)) (by decide +kernel))
      rw [show lN (dg b32 (cst 36) 7) = (0 : Int64) by decide +kernel]
      exact h
  obtain ⟨t, h1, h2⟩ := va_Tof (tm := (Term.static "CurveDesk" "SEVEN" "[J")) (ty := .long) (N := 8) (f := fun k => .long (lN (dg b32 (cst 36) k))) (by decide) (hs (Cond.arrayOf (Term.static "CurveDesk" "SEVEN" "[J") .long) (by decide +kernel)) (va_eqt (hs (Cond.eq (.length (Term.static "CurveDesk" "SEVEN" "[J")) (.int 8)) (by decide +kernel))) hel hA
  exact ⟨t, h2, va_Zref hl hini h1 hA⟩
theorem sT_37 {args : Array Value} {s : State} {A : Nat → Prop} (hs : ∀ w ∈ nrw, w.before args s = true) (hl : (Cond.laysStatic "CurveDesk" "P" "[J").before args s = true) (hini : (Cond.initialized "CurveDesk").before args s = true) (hA : ∀ a : Nat, a < s.heap.size → ¬ A a) : ∃ t, va_T .long t (rl 37) (fun k => .long (lN (dg b32 (cst 37) k))) A s s.heap ∧ va_Z "CurveDesk" (cnm 37) "[J" (.ref t) A s s.heap := by
  have hel : ∀ j : Nat, j < 8 → (Term.elem (Term.static "CurveDesk" "P" "[J") (.int (Int32.ofNat j))).eval args s none [] s = some (.long (lN (dg b32 (cst 37) j))) := by
    intro j hj
    rcases (show j = 0 ∨ j = 1 ∨ j = 2 ∨ j = 3 ∨ j = 4 ∨ j = 5 ∨ j = 6 ∨ j = 7 by omega) with rfl | rfl | rfl | rfl | rfl | rfl | rfl | rfl
    · have h := va_eqtl (hs (Cond.eq (.elem (Term.static "CurveDesk" "P" "[J") (.int 0)) (.long 4294966319)) (by decide +kernel))
      rw [show lN (dg b32 (cst 37) 0) = (4294966319 : Int64) by decide +kernel]
      exact h
    · have h := va_eqtl (hs (Cond.eq (.elem (Term.static "CurveDesk" "P" "[J") (.int 1)) (.long 4294967294)) (by decide +kernel))
      rw [show lN (dg b32 (cst 37) 1) = (4294967294 : Int64) by decide +kernel]
      exact h
    · have h := va_eqtl (hs (Cond.eq (.elem (Term.static "CurveDesk" "P" "[J") (.int 2)) (.long 4294967295)) (by decide +kernel))
      rw [show lN (dg b32 (cst 37) 2) = (4294967295 : Int64) by decide +kernel]
      exact h
    · have h := va_eqtl (hs (Cond.eq (.elem (Term.static "CurveDesk" "P" "[J") (.int 3)) (.long 4294967295)) (by decide +kernel))
      rw [show lN (dg b32 (cst 37) 3) = (4294967295 : Int64) by decide +kernel]
      exact h
    · have h := va_eqtl (hs (Cond.eq (.elem (Term.static "CurveDesk" "P" "[J") (.int 4)) (.long 4294967295)) (by decide +kernel))
      rw [show lN (dg b32 (cst 37) 4) = (4294967295 : Int64) by decide +kernel]
      exact h
    · have h := va_eqtl (hs (Cond.eq (.elem (Term.static "CurveDesk" "P" "[J") (.int 5)) (.long 4294967295)) (by decide +kernel))
      rw [show lN (dg b32 (cst 37) 5) = (4294967295 : Int64) by decide +kernel]
      exact h
    · have h := va_eqtl (hs (Cond.eq (.elem (Term.static "CurveDesk" "P" "[J") (.int 6)) (.long 4294967295)) (by decide +kernel))
      rw [show lN (dg b32 (cst 37) 6) = (4294967295 : Int64) by decide +kernel]
      exact h
    · have h := va_eqtl (hs (Cond.eq (.elem (Term.static "CurveDesk" "P" "[J") (.int 7)) (.long 4294967295)) (by decide +kernel))
      rw [show lN (dg b32 (cst 37) 7) = (4294967295 : Int64) by decide +kernel]
      exact h
  obtain ⟨t, h1, h2⟩ := va_Tof (tm := (Term.static "CurveDesk" "P" "[J")) (ty := .long) (N := 8) (f := fun k => .long (lN (dg b32 (cst 37) k))) (by decide) (hs (Cond.arrayOf (Term.static "CurveDesk" "P" "[J") .long) (by decide +kernel)) (va_eqt (hs (Cond.eq (.length (Term.static "CurveDesk" "P" "[J")) (.int 8)) (by decide +kernel))) hel hA
  exact ⟨t, h2, va_Zref hl hini h1 hA⟩
theorem sT_38 {args : Array Value} {s : State} {A : Nat → Prop} (hs : ∀ w ∈ nrw, w.before args s = true) (hl : (Cond.laysStatic "CurveDesk" "P_LESS_TWO" "[J").before args s = true) (hini : (Cond.initialized "CurveDesk").before args s = true) (hA : ∀ a : Nat, a < s.heap.size → ¬ A a) : ∃ t, va_T .long t (rl 38) (fun k => .long (lN (dg b32 (cst 38) k))) A s s.heap ∧ va_Z "CurveDesk" (cnm 38) "[J" (.ref t) A s s.heap := by
  have hel : ∀ j : Nat, j < 8 → (Term.elem (Term.static "CurveDesk" "P_LESS_TWO" "[J") (.int (Int32.ofNat j))).eval args s none [] s = some (.long (lN (dg b32 (cst 38) j))) := by
    intro j hj
    rcases (show j = 0 ∨ j = 1 ∨ j = 2 ∨ j = 3 ∨ j = 4 ∨ j = 5 ∨ j = 6 ∨ j = 7 by omega) with rfl | rfl | rfl | rfl | rfl | rfl | rfl | rfl
    · have h := va_eqtl (hs (Cond.eq (.elem (Term.static "CurveDesk" "P_LESS_TWO" "[J") (.int 0)) (.long 4294966317)) (by decide +kernel))
      rw [show lN (dg b32 (cst 38) 0) = (4294966317 : Int64) by decide +kernel]
      exact h
    · have h := va_eqtl (hs (Cond.eq (.elem (Term.static "CurveDesk" "P_LESS_TWO" "[J") (.int 1)) (.long 4294967294)) (by decide +kernel))
      rw [show lN (dg b32 (cst 38) 1) = (4294967294 : Int64) by decide +kernel]
      exact h
    · have h := va_eqtl (hs (Cond.eq (.elem (Term.static "CurveDesk" "P_LESS_TWO" "[J") (.int 2)) (.long 4294967295)) (by decide +kernel))
      rw [show lN (dg b32 (cst 38) 2) = (4294967295 : Int64) by decide +kernel]
      exact h
    · have h := va_eqtl (hs (Cond.eq (.elem (Term.static "CurveDesk" "P_LESS_TWO" "[J") (.int 3)) (.long 4294967295)) (by decide +kernel))
      rw [show lN (dg b32 (cst 38) 3) = (4294967295 : Int64) by decide +kernel]
      exact h
    · have h := va_eqtl (hs (Cond.eq (.elem (Term.static "CurveDesk" "P_LESS_TWO" "[J") (.int 4)) (.long 4294967295)) (by decide +kernel))
      rw [show lN (dg b32 (cst 38) 4) = (4294967295 : Int64) by decide +kernel]
      exact h
    · have h := va_eqtl (hs (Cond.eq (.elem (Term.static "CurveDesk" "P_LESS_TWO" "[J") (.int 5)) (.long 4294967295)) (by decide +kernel))
      rw [show lN (dg b32 (cst 38) 5) = (4294967295 : Int64) by decide +kernel]
      exact h
    · have h := va_eqtl (hs (Cond.eq (.elem (Term.static "CurveDesk" "P_LESS_TWO" "[J") (.int 6)) (.long 4294967295)) (by decide +kernel))
      rw [show lN (dg b32 (cst 38) 6) = (4294967295 : Int64) by decide +kernel]
      exact h
    · have h := va_eqtl (hs (Cond.eq (.elem (Term.static "CurveDesk" "P_LESS_TWO" "[J") (.int 7)) (.long 4294967295)) (by decide +kernel))
      rw [show lN (dg b32 (cst 38) 7) = (4294967295 : Int64) by decide +kernel]
      exact h
  obtain ⟨t, h1, h2⟩ := va_Tof (tm := (Term.static "CurveDesk" "P_LESS_TWO" "[J")) (ty := .long) (N := 8) (f := fun k => .long (lN (dg b32 (cst 38) k))) (by decide) (hs (Cond.arrayOf (Term.static "CurveDesk" "P_LESS_TWO" "[J") .long) (by decide +kernel)) (va_eqt (hs (Cond.eq (.length (Term.static "CurveDesk" "P_LESS_TWO" "[J")) (.int 8)) (by decide +kernel))) hel hA
  exact ⟨t, h2, va_Zref hl hini h1 hA⟩
theorem sT_39 {args : Array Value} {s : State} {A : Nat → Prop} (hs : ∀ w ∈ nrw, w.before args s = true) (hl : (Cond.laysStatic "CurveDesk" "P_MORE_ONE_BY_FOUR" "[J").before args s = true) (hini : (Cond.initialized "CurveDesk").before args s = true) (hA : ∀ a : Nat, a < s.heap.size → ¬ A a) : ∃ t, va_T .long t (rl 39) (fun k => .long (lN (dg b32 (cst 39) k))) A s s.heap ∧ va_Z "CurveDesk" (cnm 39) "[J" (.ref t) A s s.heap := by
  have hel : ∀ j : Nat, j < 8 → (Term.elem (Term.static "CurveDesk" "P_MORE_ONE_BY_FOUR" "[J") (.int (Int32.ofNat j))).eval args s none [] s = some (.long (lN (dg b32 (cst 39) j))) := by
    intro j hj
    rcases (show j = 0 ∨ j = 1 ∨ j = 2 ∨ j = 3 ∨ j = 4 ∨ j = 5 ∨ j = 6 ∨ j = 7 by omega) with rfl | rfl | rfl | rfl | rfl | rfl | rfl | rfl
    · have h := va_eqtl (hs (Cond.eq (.elem (Term.static "CurveDesk" "P_MORE_ONE_BY_FOUR" "[J") (.int 0)) (.long 3221225228)) (by decide +kernel))
      rw [show lN (dg b32 (cst 39) 0) = (3221225228 : Int64) by decide +kernel]
      exact h
    · have h := va_eqtl (hs (Cond.eq (.elem (Term.static "CurveDesk" "P_MORE_ONE_BY_FOUR" "[J") (.int 1)) (.long 4294967295)) (by decide +kernel))
      rw [show lN (dg b32 (cst 39) 1) = (4294967295 : Int64) by decide +kernel]
      exact h
    · have h := va_eqtl (hs (Cond.eq (.elem (Term.static "CurveDesk" "P_MORE_ONE_BY_FOUR" "[J") (.int 2)) (.long 4294967295)) (by decide +kernel))
      rw [show lN (dg b32 (cst 39) 2) = (4294967295 : Int64) by decide +kernel]
      exact h
    · have h := va_eqtl (hs (Cond.eq (.elem (Term.static "CurveDesk" "P_MORE_ONE_BY_FOUR" "[J") (.int 3)) (.long 4294967295)) (by decide +kernel))
      rw [show lN (dg b32 (cst 39) 3) = (4294967295 : Int64) by decide +kernel]
      exact h
    · have h := va_eqtl (hs (Cond.eq (.elem (Term.static "CurveDesk" "P_MORE_ONE_BY_FOUR" "[J") (.int 4)) (.long 4294967295)) (by decide +kernel))
      rw [show lN (dg b32 (cst 39) 4) = (4294967295 : Int64) by decide +kernel]
      exact h
    · have h := va_eqtl (hs (Cond.eq (.elem (Term.static "CurveDesk" "P_MORE_ONE_BY_FOUR" "[J") (.int 5)) (.long 4294967295)) (by decide +kernel))
      rw [show lN (dg b32 (cst 39) 5) = (4294967295 : Int64) by decide +kernel]
      exact h
    · have h := va_eqtl (hs (Cond.eq (.elem (Term.static "CurveDesk" "P_MORE_ONE_BY_FOUR" "[J") (.int 6)) (.long 4294967295)) (by decide +kernel))
      rw [show lN (dg b32 (cst 39) 6) = (4294967295 : Int64) by decide +kernel]
      exact h
    · have h := va_eqtl (hs (Cond.eq (.elem (Term.static "CurveDesk" "P_MORE_ONE_BY_FOUR" "[J") (.int 7)) (.long 1073741823)) (by decide +kernel))
      rw [show lN (dg b32 (cst 39) 7) = (1073741823 : Int64) by decide +kernel]
      exact h
  obtain ⟨t, h1, h2⟩ := va_Tof (tm := (Term.static "CurveDesk" "P_MORE_ONE_BY_FOUR" "[J")) (ty := .long) (N := 8) (f := fun k => .long (lN (dg b32 (cst 39) k))) (by decide) (hs (Cond.arrayOf (Term.static "CurveDesk" "P_MORE_ONE_BY_FOUR" "[J") .long) (by decide +kernel)) (va_eqt (hs (Cond.eq (.length (Term.static "CurveDesk" "P_MORE_ONE_BY_FOUR" "[J")) (.int 8)) (by decide +kernel))) hel hA
  exact ⟨t, h2, va_Zref hl hini h1 hA⟩
theorem sT_40 {args : Array Value} {s : State} {A : Nat → Prop} (hs : ∀ w ∈ nrw, w.before args s = true) (hl : (Cond.laysStatic "CurveDesk" "N" "[J").before args s = true) (hini : (Cond.initialized "CurveDesk").before args s = true) (hA : ∀ a : Nat, a < s.heap.size → ¬ A a) : ∃ t, va_T .long t (rl 40) (fun k => .long (lN (dg b32 (cst 40) k))) A s s.heap ∧ va_Z "CurveDesk" (cnm 40) "[J" (.ref t) A s s.heap := by
  have hel : ∀ j : Nat, j < 8 → (Term.elem (Term.static "CurveDesk" "N" "[J") (.int (Int32.ofNat j))).eval args s none [] s = some (.long (lN (dg b32 (cst 40) j))) := by
    intro j hj
    rcases (show j = 0 ∨ j = 1 ∨ j = 2 ∨ j = 3 ∨ j = 4 ∨ j = 5 ∨ j = 6 ∨ j = 7 by omega) with rfl | rfl | rfl | rfl | rfl | rfl | rfl | rfl
    · have h := va_eqtl (hs (Cond.eq (.elem (Term.static "CurveDesk" "N" "[J") (.int 0)) (.long 3493216577)) (by decide +kernel))
      rw [show lN (dg b32 (cst 40) 0) = (3493216577 : Int64) by decide +kernel]
      exact h
    · have h := va_eqtl (hs (Cond.eq (.elem (Term.static "CurveDesk" "N" "[J") (.int 1)) (.long 3218235020)) (by decide +kernel))
      rw [show lN (dg b32 (cst 40) 1) = (3218235020 : Int64) by decide +kernel]
      exact h
    · have h := va_eqtl (hs (Cond.eq (.elem (Term.static "CurveDesk" "N" "[J") (.int 2)) (.long 2940772411)) (by decide +kernel))
      rw [show lN (dg b32 (cst 40) 2) = (2940772411 : Int64) by decide +kernel]
      exact h
    · have h := va_eqtl (hs (Cond.eq (.elem (Term.static "CurveDesk" "N" "[J") (.int 3)) (.long 3132021990)) (by decide +kernel))
      rw [show lN (dg b32 (cst 40) 3) = (3132021990 : Int64) by decide +kernel]
      exact h
    · have h := va_eqtl (hs (Cond.eq (.elem (Term.static "CurveDesk" "N" "[J") (.int 4)) (.long 4294967294)) (by decide +kernel))
      rw [show lN (dg b32 (cst 40) 4) = (4294967294 : Int64) by decide +kernel]
      exact h
    · have h := va_eqtl (hs (Cond.eq (.elem (Term.static "CurveDesk" "N" "[J") (.int 5)) (.long 4294967295)) (by decide +kernel))
      rw [show lN (dg b32 (cst 40) 5) = (4294967295 : Int64) by decide +kernel]
      exact h
    · have h := va_eqtl (hs (Cond.eq (.elem (Term.static "CurveDesk" "N" "[J") (.int 6)) (.long 4294967295)) (by decide +kernel))
      rw [show lN (dg b32 (cst 40) 6) = (4294967295 : Int64) by decide +kernel]
      exact h
    · have h := va_eqtl (hs (Cond.eq (.elem (Term.static "CurveDesk" "N" "[J") (.int 7)) (.long 4294967295)) (by decide +kernel))
      rw [show lN (dg b32 (cst 40) 7) = (4294967295 : Int64) by decide +kernel]
      exact h
  obtain ⟨t, h1, h2⟩ := va_Tof (tm := (Term.static "CurveDesk" "N" "[J")) (ty := .long) (N := 8) (f := fun k => .long (lN (dg b32 (cst 40) k))) (by decide) (hs (Cond.arrayOf (Term.static "CurveDesk" "N" "[J") .long) (by decide +kernel)) (va_eqt (hs (Cond.eq (.length (Term.static "CurveDesk" "N" "[J")) (.int 8)) (by decide +kernel))) hel hA
  exact ⟨t, h2, va_Zref hl hini h1 hA⟩
theorem sT_41 {args : Array Value} {s : State} {A : Nat → Prop} (hs : ∀ w ∈ nrw, w.before args s = true) (hl : (Cond.laysStatic "CurveDesk" "N_LESS_TWO" "[J").before args s = true) (hini : (Cond.initialized "CurveDesk").before args s = true) (hA : ∀ a : Nat, a < s.heap.size → ¬ A a) : ∃ t, va_T .long t (rl 41) (fun k => .long (lN (dg b32 (cst 41) k))) A s s.heap ∧ va_Z "CurveDesk" (cnm 41) "[J" (.ref t) A s s.heap := by
  have hel : ∀ j : Nat, j < 8 → (Term.elem (Term.static "CurveDesk" "N_LESS_TWO" "[J") (.int (Int32.ofNat j))).eval args s none [] s = some (.long (lN (dg b32 (cst 41) j))) := by
    intro j hj
    rcases (show j = 0 ∨ j = 1 ∨ j = 2 ∨ j = 3 ∨ j = 4 ∨ j = 5 ∨ j = 6 ∨ j = 7 by omega) with rfl | rfl | rfl | rfl | rfl | rfl | rfl | rfl
    · have h := va_eqtl (hs (Cond.eq (.elem (Term.static "CurveDesk" "N_LESS_TWO" "[J") (.int 0)) (.long 3493216575)) (by decide +kernel))
      rw [show lN (dg b32 (cst 41) 0) = (3493216575 : Int64) by decide +kernel]
      exact h
    · have h := va_eqtl (hs (Cond.eq (.elem (Term.static "CurveDesk" "N_LESS_TWO" "[J") (.int 1)) (.long 3218235020)) (by decide +kernel))
      rw [show lN (dg b32 (cst 41) 1) = (3218235020 : Int64) by decide +kernel]
      exact h
    · have h := va_eqtl (hs (Cond.eq (.elem (Term.static "CurveDesk" "N_LESS_TWO" "[J") (.int 2)) (.long 2940772411)) (by decide +kernel))
      rw [show lN (dg b32 (cst 41) 2) = (2940772411 : Int64) by decide +kernel]
      exact h
    · have h := va_eqtl (hs (Cond.eq (.elem (Term.static "CurveDesk" "N_LESS_TWO" "[J") (.int 3)) (.long 3132021990)) (by decide +kernel))
      rw [show lN (dg b32 (cst 41) 3) = (3132021990 : Int64) by decide +kernel]
      exact h
    · have h := va_eqtl (hs (Cond.eq (.elem (Term.static "CurveDesk" "N_LESS_TWO" "[J") (.int 4)) (.long 4294967294)) (by decide +kernel))
      rw [show lN (dg b32 (cst 41) 4) = (4294967294 : Int64) by decide +kernel]
      exact h
    · have h := va_eqtl (hs (Cond.eq (.elem (Term.static "CurveDesk" "N_LESS_TWO" "[J") (.int 5)) (.long 4294967295)) (by decide +kernel))
      rw [show lN (dg b32 (cst 41) 5) = (4294967295 : Int64) by decide +kernel]
      exact h
    · have h := va_eqtl (hs (Cond.eq (.elem (Term.static "CurveDesk" "N_LESS_TWO" "[J") (.int 6)) (.long 4294967295)) (by decide +kernel))
      rw [show lN (dg b32 (cst 41) 6) = (4294967295 : Int64) by decide +kernel]
      exact h
    · have h := va_eqtl (hs (Cond.eq (.elem (Term.static "CurveDesk" "N_LESS_TWO" "[J") (.int 7)) (.long 4294967295)) (by decide +kernel))
      rw [show lN (dg b32 (cst 41) 7) = (4294967295 : Int64) by decide +kernel]
      exact h
  obtain ⟨t, h1, h2⟩ := va_Tof (tm := (Term.static "CurveDesk" "N_LESS_TWO" "[J")) (ty := .long) (N := 8) (f := fun k => .long (lN (dg b32 (cst 41) k))) (by decide) (hs (Cond.arrayOf (Term.static "CurveDesk" "N_LESS_TWO" "[J") .long) (by decide +kernel)) (va_eqt (hs (Cond.eq (.length (Term.static "CurveDesk" "N_LESS_TWO" "[J")) (.int 8)) (by decide +kernel))) hel hA
  exact ⟨t, h2, va_Zref hl hini h1 hA⟩
theorem sT_42 {args : Array Value} {s : State} {A : Nat → Prop} (hs : ∀ w ∈ nrw, w.before args s = true) (hl : (Cond.laysStatic "CurveDesk" "BASE_X" "[J").before args s = true) (hini : (Cond.initialized "CurveDesk").before args s = true) (hA : ∀ a : Nat, a < s.heap.size → ¬ A a) : ∃ t, va_T .long t (rl 42) (fun k => .long (lN (dg b32 (cst 42) k))) A s s.heap ∧ va_Z "CurveDesk" (cnm 42) "[J" (.ref t) A s s.heap := by
  have hel : ∀ j : Nat, j < 8 → (Term.elem (Term.static "CurveDesk" "BASE_X" "[J") (.int (Int32.ofNat j))).eval args s none [] s = some (.long (lN (dg b32 (cst 42) j))) := by
    intro j hj
    rcases (show j = 0 ∨ j = 1 ∨ j = 2 ∨ j = 3 ∨ j = 4 ∨ j = 5 ∨ j = 6 ∨ j = 7 by omega) with rfl | rfl | rfl | rfl | rfl | rfl | rfl | rfl
    · have h := va_eqtl (hs (Cond.eq (.elem (Term.static "CurveDesk" "BASE_X" "[J") (.int 0)) (.long 385357720)) (by decide +kernel))
      rw [show lN (dg b32 (cst 42) 0) = (385357720 : Int64) by decide +kernel]
      exact h
    · have h := va_eqtl (hs (Cond.eq (.elem (Term.static "CurveDesk" "BASE_X" "[J") (.int 1)) (.long 1509065051)) (by decide +kernel))
      rw [show lN (dg b32 (cst 42) 1) = (1509065051 : Int64) by decide +kernel]
      exact h
    · have h := va_eqtl (hs (Cond.eq (.elem (Term.static "CurveDesk" "BASE_X" "[J") (.int 2)) (.long 768485593)) (by decide +kernel))
      rw [show lN (dg b32 (cst 42) 2) = (768485593 : Int64) by decide +kernel]
      exact h
    · have h := va_eqtl (hs (Cond.eq (.elem (Term.static "CurveDesk" "BASE_X" "[J") (.int 3)) (.long 43777243)) (by decide +kernel))
      rw [show lN (dg b32 (cst 42) 3) = (43777243 : Int64) by decide +kernel]
      exact h
    · have h := va_eqtl (hs (Cond.eq (.elem (Term.static "CurveDesk" "BASE_X" "[J") (.int 4)) (.long 3464956679)) (by decide +kernel))
      rw [show lN (dg b32 (cst 42) 4) = (3464956679 : Int64) by decide +kernel]
      exact h
    · have h := va_eqtl (hs (Cond.eq (.elem (Term.static "CurveDesk" "BASE_X" "[J") (.int 5)) (.long 1436574357)) (by decide +kernel))
      rw [show lN (dg b32 (cst 42) 5) = (1436574357 : Int64) by decide +kernel]
      exact h
    · have h := va_eqtl (hs (Cond.eq (.elem (Term.static "CurveDesk" "BASE_X" "[J") (.int 6)) (.long 4191992748)) (by decide +kernel))
      rw [show lN (dg b32 (cst 42) 6) = (4191992748 : Int64) by decide +kernel]
      exact h
    · have h := va_eqtl (hs (Cond.eq (.elem (Term.static "CurveDesk" "BASE_X" "[J") (.int 7)) (.long 2042521214)) (by decide +kernel))
      rw [show lN (dg b32 (cst 42) 7) = (2042521214 : Int64) by decide +kernel]
      exact h
  obtain ⟨t, h1, h2⟩ := va_Tof (tm := (Term.static "CurveDesk" "BASE_X" "[J")) (ty := .long) (N := 8) (f := fun k => .long (lN (dg b32 (cst 42) k))) (by decide) (hs (Cond.arrayOf (Term.static "CurveDesk" "BASE_X" "[J") .long) (by decide +kernel)) (va_eqt (hs (Cond.eq (.length (Term.static "CurveDesk" "BASE_X" "[J")) (.int 8)) (by decide +kernel))) hel hA
  exact ⟨t, h2, va_Zref hl hini h1 hA⟩
theorem sT_43 {args : Array Value} {s : State} {A : Nat → Prop} (hs : ∀ w ∈ nrw, w.before args s = true) (hl : (Cond.laysStatic "CurveDesk" "BASE_Y" "[J").before args s = true) (hini : (Cond.initialized "CurveDesk").before args s = true) (hA : ∀ a : Nat, a < s.heap.size → ¬ A a) : ∃ t, va_T .long t (rl 43) (fun k => .long (lN (dg b32 (cst 43) k))) A s s.heap ∧ va_Z "CurveDesk" (cnm 43) "[J" (.ref t) A s s.heap := by
  have hel : ∀ j : Nat, j < 8 → (Term.elem (Term.static "CurveDesk" "BASE_Y" "[J") (.int (Int32.ofNat j))).eval args s none [] s = some (.long (lN (dg b32 (cst 43) j))) := by
    intro j hj
    rcases (show j = 0 ∨ j = 1 ∨ j = 2 ∨ j = 3 ∨ j = 4 ∨ j = 5 ∨ j = 6 ∨ j = 7 by omega) with rfl | rfl | rfl | rfl | rfl | rfl | rfl | rfl
    · have h := va_eqtl (hs (Cond.eq (.elem (Term.static "CurveDesk" "BASE_Y" "[J") (.int 0)) (.long 4212184248)) (by decide +kernel))
      rw [show lN (dg b32 (cst 43) 0) = (4212184248 : Int64) by decide +kernel]
      exact h
    · have h := va_eqtl (hs (Cond.eq (.elem (Term.static "CurveDesk" "BASE_Y" "[J") (.int 1)) (.long 2621952143)) (by decide +kernel))
      rw [show lN (dg b32 (cst 43) 1) = (2621952143 : Int64) by decide +kernel]
      exact h
    · have h := va_eqtl (hs (Cond.eq (.elem (Term.static "CurveDesk" "BASE_Y" "[J") (.int 2)) (.long 2793755673)) (by decide +kernel))
      rw [show lN (dg b32 (cst 43) 2) = (2793755673 : Int64) by decide +kernel]
      exact h
    · have h := va_eqtl (hs (Cond.eq (.elem (Term.static "CurveDesk" "BASE_Y" "[J") (.int 3)) (.long 4246189128)) (by decide +kernel))
      rw [show lN (dg b32 (cst 43) 3) = (4246189128 : Int64) by decide +kernel]
      exact h
    · have h := va_eqtl (hs (Cond.eq (.elem (Term.static "CurveDesk" "BASE_Y" "[J") (.int 4)) (.long 235997352)) (by decide +kernel))
      rw [show lN (dg b32 (cst 43) 4) = (235997352 : Int64) by decide +kernel]
      exact h
    · have h := va_eqtl (hs (Cond.eq (.elem (Term.static "CurveDesk" "BASE_Y" "[J") (.int 5)) (.long 1571093500)) (by decide +kernel))
      rw [show lN (dg b32 (cst 43) 5) = (1571093500 : Int64) by decide +kernel]
      exact h
    · have h := va_eqtl (hs (Cond.eq (.elem (Term.static "CurveDesk" "BASE_Y" "[J") (.int 6)) (.long 648266853)) (by decide +kernel))
      rw [show lN (dg b32 (cst 43) 6) = (648266853 : Int64) by decide +kernel]
      exact h
    · have h := va_eqtl (hs (Cond.eq (.elem (Term.static "CurveDesk" "BASE_Y" "[J") (.int 7)) (.long 1211816567)) (by decide +kernel))
      rw [show lN (dg b32 (cst 43) 7) = (1211816567 : Int64) by decide +kernel]
      exact h
  obtain ⟨t, h1, h2⟩ := va_Tof (tm := (Term.static "CurveDesk" "BASE_Y" "[J")) (ty := .long) (N := 8) (f := fun k => .long (lN (dg b32 (cst 43) k))) (by decide) (hs (Cond.arrayOf (Term.static "CurveDesk" "BASE_Y" "[J") .long) (by decide +kernel)) (va_eqt (hs (Cond.eq (.length (Term.static "CurveDesk" "BASE_Y" "[J")) (.int 8)) (by decide +kernel))) hel hA
  exact ⟨t, h2, va_Zref hl hini h1 hA⟩
theorem sT_44 {args : Array Value} {s : State} {A : Nat → Prop} (hs : ∀ w ∈ nrw, w.before args s = true) (hl : (Cond.laysStatic "CurveDesk" "P_GAP" "[J").before args s = true) (hini : (Cond.initialized "CurveDesk").before args s = true) (hA : ∀ a : Nat, a < s.heap.size → ¬ A a) : ∃ t, va_T .long t (rl 44) (fun k => .long (lN (dg b32 (cst 44) k))) A s s.heap ∧ va_Z "CurveDesk" (cnm 44) "[J" (.ref t) A s s.heap := by
  have hel : ∀ j : Nat, j < 2 → (Term.elem (Term.static "CurveDesk" "P_GAP" "[J") (.int (Int32.ofNat j))).eval args s none [] s = some (.long (lN (dg b32 (cst 44) j))) := by
    intro j hj
    rcases (show j = 0 ∨ j = 1 by omega) with rfl | rfl
    · have h := va_eqtl (hs (Cond.eq (.elem (Term.static "CurveDesk" "P_GAP" "[J") (.int 0)) (.long 977)) (by decide +kernel))
      rw [show lN (dg b32 (cst 44) 0) = (977 : Int64) by decide +kernel]
      exact h
    · have h := va_eqtl (hs (Cond.eq (.elem (Term.static "CurveDesk" "P_GAP" "[J") (.int 1)) (.long 1)) (by decide +kernel))
      rw [show lN (dg b32 (cst 44) 1) = (1 : Int64) by decide +kernel]
      exact h
  obtain ⟨t, h1, h2⟩ := va_Tof (tm := (Term.static "CurveDesk" "P_GAP" "[J")) (ty := .long) (N := 2) (f := fun k => .long (lN (dg b32 (cst 44) k))) (by decide) (hs (Cond.arrayOf (Term.static "CurveDesk" "P_GAP" "[J") .long) (by decide +kernel)) (va_eqt (hs (Cond.eq (.length (Term.static "CurveDesk" "P_GAP" "[J")) (.int 2)) (by decide +kernel))) hel hA
  exact ⟨t, h2, va_Zref hl hini h1 hA⟩
theorem sT_45 {args : Array Value} {s : State} {A : Nat → Prop} (hs : ∀ w ∈ nrw, w.before args s = true) (hl : (Cond.laysStatic "CurveDesk" "N_GAP" "[J").before args s = true) (hini : (Cond.initialized "CurveDesk").before args s = true) (hA : ∀ a : Nat, a < s.heap.size → ¬ A a) : ∃ t, va_T .long t (rl 45) (fun k => .long (lN (dg b32 (cst 45) k))) A s s.heap ∧ va_Z "CurveDesk" (cnm 45) "[J" (.ref t) A s s.heap := by
  have hel : ∀ j : Nat, j < 5 → (Term.elem (Term.static "CurveDesk" "N_GAP" "[J") (.int (Int32.ofNat j))).eval args s none [] s = some (.long (lN (dg b32 (cst 45) j))) := by
    intro j hj
    rcases (show j = 0 ∨ j = 1 ∨ j = 2 ∨ j = 3 ∨ j = 4 by omega) with rfl | rfl | rfl | rfl | rfl
    · have h := va_eqtl (hs (Cond.eq (.elem (Term.static "CurveDesk" "N_GAP" "[J") (.int 0)) (.long 801750719)) (by decide +kernel))
      rw [show lN (dg b32 (cst 45) 0) = (801750719 : Int64) by decide +kernel]
      exact h
    · have h := va_eqtl (hs (Cond.eq (.elem (Term.static "CurveDesk" "N_GAP" "[J") (.int 1)) (.long 1076732275)) (by decide +kernel))
      rw [show lN (dg b32 (cst 45) 1) = (1076732275 : Int64) by decide +kernel]
      exact h
    · have h := va_eqtl (hs (Cond.eq (.elem (Term.static "CurveDesk" "N_GAP" "[J") (.int 2)) (.long 1354194884)) (by decide +kernel))
      rw [show lN (dg b32 (cst 45) 2) = (1354194884 : Int64) by decide +kernel]
      exact h
    · have h := va_eqtl (hs (Cond.eq (.elem (Term.static "CurveDesk" "N_GAP" "[J") (.int 3)) (.long 1162945305)) (by decide +kernel))
      rw [show lN (dg b32 (cst 45) 3) = (1162945305 : Int64) by decide +kernel]
      exact h
    · have h := va_eqtl (hs (Cond.eq (.elem (Term.static "CurveDesk" "N_GAP" "[J") (.int 4)) (.long 1)) (by decide +kernel))
      rw [show lN (dg b32 (cst 45) 4) = (1 : Int64) by decide +kernel]
      exact h
  obtain ⟨t, h1, h2⟩ := va_Tof (tm := (Term.static "CurveDesk" "N_GAP" "[J")) (ty := .long) (N := 5) (f := fun k => .long (lN (dg b32 (cst 45) k))) (by decide) (hs (Cond.arrayOf (Term.static "CurveDesk" "N_GAP" "[J") .long) (by decide +kernel)) (va_eqt (hs (Cond.eq (.length (Term.static "CurveDesk" "N_GAP" "[J")) (.int 5)) (by decide +kernel))) hel hA
  exact ⟨t, h2, va_Zref hl hini h1 hA⟩
theorem sT_all {args : Array Value} {s : State} {A : Nat → Prop} (hgv : (Jvm.Cond.and given_1 narrow_1).before args s = true) (ht : ∀ w ∈ lw_tbl, w.before args s = true) (hA : ∀ a : Nat, a < s.heap.size → ¬ A a) : ∃ st : Nat → Nat, ∀ i, 34 ≤ i → i < 46 → va_T .long (st i) (rl i) (fun k => .long (lN (dg b32 (cst i) k))) A s s.heap ∧ va_Z "CurveDesk" (cnm i) "[J" (.ref (st i)) A s s.heap := by
  have hs : ∀ w ∈ nrw, w.before args s = true := flat_of_before _ hgv
  have hini : (Cond.initialized "CurveDesk").before args s = true := ht _ (List.mem_filter.mp ki_D).1
  obtain ⟨t34, h34⟩ := sT_34 hs (ht _ kg_ZERO_t) hini hA
  obtain ⟨t35, h35⟩ := sT_35 hs (ht _ kg_ONE_t) hini hA
  obtain ⟨t36, h36⟩ := sT_36 hs (ht _ kg_SEVEN_t) hini hA
  obtain ⟨t37, h37⟩ := sT_37 hs (ht _ kg_P_t) hini hA
  obtain ⟨t38, h38⟩ := sT_38 hs (ht _ kg_P_LESS_TWO_t) hini hA
  obtain ⟨t39, h39⟩ := sT_39 hs (ht _ kg_P_MORE_ONE_BY_FOUR_t) hini hA
  obtain ⟨t40, h40⟩ := sT_40 hs (ht _ kg_N_t) hini hA
  obtain ⟨t41, h41⟩ := sT_41 hs (ht _ kg_N_LESS_TWO_t) hini hA
  obtain ⟨t42, h42⟩ := sT_42 hs (ht _ kg_BASE_X_t) hini hA
  obtain ⟨t43, h43⟩ := sT_43 hs (ht _ kg_BASE_Y_t) hini hA
  obtain ⟨t44, h44⟩ := sT_44 hs (ht _ kg_P_GAP_t) hini hA
  obtain ⟨t45, h45⟩ := sT_45 hs (ht _ kg_N_GAP_t) hini hA
  refine ⟨fun i => [t34, t35, t36, t37, t38, t39, t40, t41, t42, t43, t44, t45].getD (i - 34) 0, fun i a b => ?_⟩
  rcases (show i = 34 ∨ i = 35 ∨ i = 36 ∨ i = 37 ∨ i = 38 ∨ i = 39 ∨ i = 40 ∨ i = 41 ∨ i = 42 ∨ i = 43 ∨ i = 44 ∨ i = 45 by omega) with rfl | rfl | rfl | rfl | rfl | rfl | rfl | rfl | rfl | rfl | rfl | rfl
  · exact h34
  · exact h35
  · exact h36
  · exact h37
  · exact h38
  · exact h39
  · exact h40
  · exact h41
  · exact h42
  · exact h43
  · exact h44
  · exact h45
