/-! points of a curve y y = x x x + b over a field: the sum, and that it is commutative and associative -/
def ec_fld {F : Type} [Lean.Grind.CommRing F] (inv : F → F) : Prop := (∀ a : F, a ≠ 0 → a * inv a = 1) ∧ (2 : F) ≠ 0 ∧ (3 : F) ≠ 0
theorem ec_nzd {F : Type} [Lean.Grind.CommRing F] {inv : F → F} (hF : ec_fld inv) {a c : F} (h : a * c = 0) : a = 0 ∨ c = 0 := by
  by_cases ha : a = 0
  · exact Or.inl ha
  · have h1 := hF.1 a ha
    exact Or.inr (by grind)
def ec_out {F : Type} [Lean.Grind.CommRing F] (x1 y1 x2 l : F) : F × F := (l*l - x1 - x2, l*(x1 - (l*l - x1 - x2)) - y1)
def ec_add {F : Type} [Lean.Grind.CommRing F] [DecidableEq F] (inv : F → F) : Option (F × F) → Option (F × F) → Option (F × F)
  | none, B => B
  | some a, none => some a
  | some a, some c => if a.1 = c.1 ∧ a.2 + c.2 = 0 then none else some (ec_out a.1 a.2 c.1 (if a.1 = c.1 then 3*a.1*a.1*inv (2*a.2) else (c.2 - a.2)*inv (c.1 - a.1)))
def ec_neg {F : Type} [Lean.Grind.CommRing F] : Option (F × F) → Option (F × F)
  | none => none
  | some a => some (a.1, -a.2)
def ec_on {F : Type} [Lean.Grind.CommRing F] (b : F) : Option (F × F) → Prop
  | none => True
  | some a => a.2*a.2 = a.1*a.1*a.1 + b
/-- l is the slope of the chord, or of the tangent -/
def ec_sl {F : Type} [Lean.Grind.CommRing F] (x1 y1 x2 y2 l : F) : Prop := l*(x2 - x1) = y2 - y1 ∧ l*(y1 + y2) = x1*x1 + x1*x2 + x2*x2
theorem ec_sl_ex {F : Type} [Lean.Grind.CommRing F] [DecidableEq F] {inv : F → F} (hF : ec_fld inv) {b x1 y1 x2 y2 : F} (h1 : y1*y1 = x1*x1*x1 + b) (h2 : y2*y2 = x2*x2*x2 + b) (hd : ¬ (x1 = x2 ∧ y1 + y2 = 0)) : ∃ l, ec_sl x1 y1 x2 y2 l ∧ ec_add inv (some (x1, y1)) (some (x2, y2)) = some (ec_out x1 y1 x2 l) := by
  by_cases hx : x1 = x2
  · subst hx
    have hy : y1 + y2 ≠ 0 := fun h => hd ⟨rfl, h⟩
    have hy2 : y1 = y2 := by
      have h0 : (y1 - y2)*(y1 + y2) = 0 := by grind
      rcases ec_nzd hF h0 with h | h
      · grind
      · exact absurd h hy
    subst hy2
    have h2y : (2 : F)*y1 ≠ 0 := by
      intro h
      apply hy
      grind
    have hi := hF.1 _ h2y
    refine ⟨3*x1*x1*inv (2*y1), ⟨by grind, by grind⟩, ?_⟩
    simp [ec_add, hy]
  · have hxx : x2 - x1 ≠ 0 := by
      intro h
      apply hx
      grind
    have hi := hF.1 _ hxx
    refine ⟨(y2 - y1)*inv (x2 - x1), ⟨by grind, ?_⟩, ?_⟩
    · have h0 : (x2 - x1) * ((y2 - y1)*inv (x2 - x1)*(y1 + y2) - (x1*x1 + x1*x2 + x2*x2)) = 0 := by grind
      rcases ec_nzd hF h0 with h | h
      · exact absurd h hxx
      · grind
    · simp [ec_add, hx]
theorem ec_sl_un {F : Type} [Lean.Grind.CommRing F] {inv : F → F} (hF : ec_fld inv) {x1 y1 x2 y2 l k : F} (hl : ec_sl x1 y1 x2 y2 l) (hk : ec_sl x1 y1 x2 y2 k) (hd : ¬ (x1 = x2 ∧ y1 + y2 = 0)) : l = k := by
  obtain ⟨a1, a2⟩ := hl
  obtain ⟨b1, b2⟩ := hk
  have e1 : (l - k)*(x2 - x1) = 0 := by grind
  have e2 : (l - k)*(y1 + y2) = 0 := by grind
  rcases ec_nzd hF e1 with h | h
  · grind
  · rcases ec_nzd hF e2 with h' | h'
    · grind
    · exact absurd ⟨by grind, h'⟩ hd
/-- the sum by its slope -/
theorem ec_add_sl {F : Type} [Lean.Grind.CommRing F] [DecidableEq F] {inv : F → F} (hF : ec_fld inv) {b x1 y1 x2 y2 l : F} (h1 : y1*y1 = x1*x1*x1 + b) (h2 : y2*y2 = x2*x2*x2 + b) (hd : ¬ (x1 = x2 ∧ y1 + y2 = 0)) (hl : ec_sl x1 y1 x2 y2 l) : ec_add inv (some (x1, y1)) (some (x2, y2)) = some (ec_out x1 y1 x2 l) := by
  obtain ⟨k, hk, e⟩ := ec_sl_ex hF h1 h2 hd
  rw [e, ec_sl_un hF hl hk hd]
theorem ec_add_dg {F : Type} [Lean.Grind.CommRing F] [DecidableEq F] {inv : F → F} {x1 y1 x2 y2 : F} (hd : x1 = x2 ∧ y1 + y2 = 0) : ec_add inv (some (x1, y1)) (some (x2, y2)) = none := by
  simp only [ec_add]
  rw [if_pos hd]
theorem ec_add_none {F : Type} [Lean.Grind.CommRing F] [DecidableEq F] {inv : F → F} (A : Option (F × F)) : ec_add inv A none = A := by
  cases A <;> rfl
theorem ec_none_add {F : Type} [Lean.Grind.CommRing F] [DecidableEq F] {inv : F → F} (A : Option (F × F)) : ec_add inv none A = A := rfl
/-- the sum lies on the curve -/
theorem ec_out_on {F : Type} [Lean.Grind.CommRing F] {b x1 y1 x2 y2 l : F} (h1 : y1*y1 = x1*x1*x1 + b) (hl : ec_sl x1 y1 x2 y2 l) : ec_on b (some (ec_out x1 y1 x2 l)) := by
  obtain ⟨a1, a2⟩ := hl
  have hq : x2*x2 + x1*x2 + x1*x1 - l*(2*y1 + l*(x2 - x1)) = 0 := by grind
  show (l*(x1 - (l*l - x1 - x2)) - y1)*(l*(x1 - (l*l - x1 - x2)) - y1) = (l*l - x1 - x2)*(l*l - x1 - x2)*(l*l - x1 - x2) + b
  have e : (l*(x1 - (l*l - x1 - x2)) - y1)*(l*(x1 - (l*l - x1 - x2)) - y1) - (l*l - x1 - x2)*(l*l - x1 - x2)*(l*l - x1 - x2) - (y1*y1 - x1*x1*x1) = (x2 + 2*x1 - l*l)*(x2*x2 + x1*x2 + x1*x1 - l*(2*y1 + l*(x2 - x1))) := by grind
  rw [hq] at e
  grind
theorem ec_add_on {F : Type} [Lean.Grind.CommRing F] [DecidableEq F] {inv : F → F} (hF : ec_fld inv) {b : F} {A B : Option (F × F)} (hA : ec_on b A) (hB : ec_on b B) : ec_on b (ec_add inv A B) := by
  match A, B, hA, hB with
  | none, B, _, hB => exact hB
  | some a, none, hA, _ => exact hA
  | some (x1, y1), some (x2, y2), hA, hB =>
    by_cases hd : x1 = x2 ∧ y1 + y2 = 0
    · rw [ec_add_dg hd]
      trivial
    · obtain ⟨l, hl, e⟩ := ec_sl_ex hF hA hB hd
      rw [e]
      exact ec_out_on hA hl
theorem ec_neg_on {F : Type} [Lean.Grind.CommRing F] {b : F} {A : Option (F × F)} (hA : ec_on b A) : ec_on b (ec_neg A) := by
  match A, hA with
  | none, _ => trivial
  | some (x, y), hA =>
    have h : y*y = x*x*x + b := hA
    show -y*(-y) = x*x*x + b
    grind
theorem ec_neg_neg {F : Type} [Lean.Grind.CommRing F] (A : Option (F × F)) : ec_neg (ec_neg A) = A := by
  match A with
  | none => rfl
  | some (x, y) =>
    show some (x, - -y) = some (x, y)
    rw [show - -y = y by grind]
theorem ec_add_comm {F : Type} [Lean.Grind.CommRing F] [DecidableEq F] {inv : F → F} (hF : ec_fld inv) {b : F} {A B : Option (F × F)} (hA : ec_on b A) (hB : ec_on b B) : ec_add inv A B = ec_add inv B A := by
  match A, B, hA, hB with
  | none, B, _, _ => rw [ec_add_none]; rfl
  | some a, none, _, _ => rfl
  | some (x1, y1), some (x2, y2), hA, hB =>
    by_cases hd : x1 = x2 ∧ y1 + y2 = 0
    · rw [ec_add_dg hd, ec_add_dg ⟨hd.1.symm, by have := hd.2; grind⟩]
    · obtain ⟨l, hl, e⟩ := ec_sl_ex hF hA hB hd
      have hl2 : ec_sl x2 y2 x1 y1 l := ⟨by have := hl.1; grind, by have := hl.2; grind⟩
      rw [e, ec_add_sl hF hB hA (fun h => hd ⟨h.1.symm, by have := h.2; grind⟩) hl2]
      have h1 := hl.1
      simp only [ec_out, Option.some.injEq, Prod.mk.injEq]
      exact ⟨by grind, by grind⟩
theorem ec_neg_add {F : Type} [Lean.Grind.CommRing F] [DecidableEq F] {inv : F → F} (hF : ec_fld inv) {b : F} {A B : Option (F × F)} (hA : ec_on b A) (hB : ec_on b B) : ec_add inv (ec_neg A) (ec_neg B) = ec_neg (ec_add inv A B) := by
  match A, B, hA, hB with
  | none, B, _, _ => rfl
  | some a, none, _, _ => rfl
  | some (x1, y1), some (x2, y2), hA, hB =>
    have hA' := ec_neg_on hA
    have hB' := ec_neg_on hB
    by_cases hd : x1 = x2 ∧ y1 + y2 = 0
    · rw [ec_add_dg hd]
      exact ec_add_dg ⟨hd.1, by have := hd.2; grind⟩
    · obtain ⟨l, hl, e⟩ := ec_sl_ex hF hA hB hd
      have hl2 : ec_sl x1 (-y1) x2 (-y2) (-l) := ⟨by have := hl.1; grind, by have := hl.2; grind⟩
      rw [e]
      show ec_add inv (some (x1, -y1)) (some (x2, -y2)) = _
      rw [ec_add_sl hF (y1 := -y1) (y2 := -y2) hA' hB' (fun h => hd ⟨h.1, by have := h.2; grind⟩) hl2]
      simp only [ec_out, ec_neg, Option.some.injEq, Prod.mk.injEq]
      exact ⟨by grind, by grind⟩
theorem ec_add_neg {F : Type} [Lean.Grind.CommRing F] [DecidableEq F] {inv : F → F} (A : Option (F × F)) : ec_add inv A (ec_neg A) = none := by
  match A with
  | none => rfl
  | some (x, y) => exact ec_add_dg ⟨rfl, by grind⟩
theorem ec_neg_add_self {F : Type} [Lean.Grind.CommRing F] [DecidableEq F] {inv : F → F} (A : Option (F × F)) : ec_add inv (ec_neg A) A = none := by
  match A with
  | none => rfl
  | some (x, y) => exact ec_add_dg (x1 := x) (y1 := -y) ⟨rfl, by grind⟩
/-- -A + (A + C) = C -/
theorem ec_back {F : Type} [Lean.Grind.CommRing F] [DecidableEq F] {inv : F → F} (hF : ec_fld inv) {b : F} (hb : b ≠ 0) {A C : Option (F × F)} (hA : ec_on b A) (hC : ec_on b C) : ec_add inv (ec_neg A) (ec_add inv A C) = C := by
  match A, C, hA, hC with
  | none, C, _, _ => rfl
  | some a, none, _, _ => exact ec_neg_add_self (some a)
  | some (x1, y1), some (x2, y2), hA, hC =>
    have h1 : y1*y1 = x1*x1*x1 + b := hA
    by_cases hd : x1 = x2 ∧ y1 + y2 = 0
    · rw [ec_add_dg hd, ec_add_none]
      show some (x1, -y1) = some (x2, y2)
      rw [hd.1, show -y1 = y2 by have := hd.2; grind]
    · obtain ⟨l, hl, e⟩ := ec_sl_ex hF hA hC hd
      have hon := ec_out_on hA hl
      rw [e]
      obtain ⟨a1, a2⟩ := hl
      have hq : x2*x2 + x1*x2 + x1*x1 - l*(2*y1 + l*(x2 - x1)) = 0 := by grind
      show ec_add inv (some (x1, -y1)) (some (l*l - x1 - x2, l*(x1 - (l*l - x1 - x2)) - y1)) = _
      have a1' : l*(x2 - x1) = y2 - y1 := a1
      have a2' : l*(y1 + y2) = x1*x1 + x1*x2 + x2*x2 := a2
      clear a1 a2
      have hd' : ¬ (x1 = l*l - x1 - x2 ∧ -y1 + (l*(x1 - (l*l - x1 - x2)) - y1) = 0) := by
        rintro ⟨g1, g2⟩
        have hy : (2 : F)*y1 = 0 := by grind
        have hy0 : y1 = 0 := by
          rcases ec_nzd hF hy with h | h
          · exact absurd h hF.2.1
          · exact h
        have hll : l*l = 2*x1 + x2 := by grind
        have hx3 : (3 : F)*(x1*x1) = 0 := by grind
        have hx0 : x1 = 0 := by
          rcases ec_nzd hF hx3 with h | h
          · exact absurd h hF.2.2
          · rcases ec_nzd hF h with h | h <;> exact h
        apply hb
        grind
      have hsl : ec_sl x1 (-y1) (l*l - x1 - x2) (l*(x1 - (l*l - x1 - x2)) - y1) (-l) := ⟨by grind, by grind⟩
      rw [ec_add_sl (x1 := x1) (y1 := -y1) (x2 := l*l - x1 - x2) (y2 := l*(x1 - (l*l - x1 - x2)) - y1) (l := -l) (b := b) hF (ec_neg_on hA) hon hd' hsl]
      simp only [ec_out, Option.some.injEq, Prod.mk.injEq]
      exact ⟨by grind, by grind⟩
