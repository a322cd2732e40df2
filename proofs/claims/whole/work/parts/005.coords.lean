/-! a point kept as x / z z, y / z z z (ec_J), or as x / z, y / z (ec_H): sums and doubles -/
def ec_J {F : Type} [Lean.Grind.CommRing F] (x y z : F) : Option (F × F) → Prop
  | none => z = 0
  | some a => z ≠ 0 ∧ x = a.1*z*z ∧ y = a.2*z*z*z
def ec_H {F : Type} [Lean.Grind.CommRing F] (x y z : F) : Option (F × F) → Prop
  | none => z = 0
  | some a => z ≠ 0 ∧ x = a.1*z ∧ y = a.2*z
theorem ec_nz {F : Type} [Lean.Grind.CommRing F] {inv : F → F} (hF : ec_fld inv) {a c : F} (ha : a ≠ 0) (hc : c ≠ 0) : a*c ≠ 0 := fun h => by
  rcases ec_nzd hF h with h | h
  · exact ha h
  · exact hc h
theorem ec_Jdbl {F : Type} [Lean.Grind.CommRing F] [DecidableEq F] {inv : F → F} (hF : ec_fld inv) {b x y z u v : F} (hon : v*v = u*u*u + b) (hJ : ec_J x y z (some (u, v))) :
    ec_J ((3*(x*x))*(3*(x*x)) - 2*(2*(y*y)*x) - 2*(2*(y*y)*x)) ((2*(2*(y*y)*x) - ((3*(x*x))*(3*(x*x)) - 2*(2*(y*y)*x) - 2*(2*(y*y)*x)))*(3*(x*x)) - 2*((2*(y*y))*(2*(y*y)))) (2*(z*y)) (ec_add inv (some (u, v)) (some (u, v))) := by
  obtain ⟨hz, hx, hy⟩ := hJ
  simp only at hx hy
  by_cases hv : v + v = 0
  · rw [ec_add_dg ⟨rfl, hv⟩]
    show 2*(z*y) = 0
    rw [hy]
    have e : 2*(z*(v*z*z*z)) = (v + v)*(z*z*z*z) := by grind
    rw [e, hv]
    grind
  · obtain ⟨l, hl, e⟩ := ec_sl_ex hF hon hon (fun h => hv h.2)
    rw [e]
    have hl2 := hl.2
    have hv2 : v ≠ 0 := fun h => hv (by rw [h]; grind)
    have e1 : 2*(z*y) = (v + v)*(z*(z*(z*z))) := by rw [hy]; grind
    refine ⟨?_, ?_, ?_⟩
    · show 2*(z*y) ≠ 0
      rw [e1]
      exact ec_nz hF hv (ec_nz hF hz (ec_nz hF hz (ec_nz hF hz hz)))
    · simp only [ec_out]
      rw [hx, hy]
      have e2 : (u*u + u*u + u*u)*(u*u + u*u + u*u) = (l*(v + v))*(l*(v + v)) := by rw [hl2]
      grind
    · simp only [ec_out]
      rw [hx, hy]
      have e3 : u*u + u*u + u*u = l*(v + v) := hl2.symm
      have e4 : (3 : F)*(u*z*z*(u*z*z)) = l*(v + v)*(z*z*(z*z)) := by grind
      rw [e4]
      have e5 : (3 : F)*(u*u) = 2*(l*v) := by grind
      grind
theorem ec_Jadd {F : Type} [Lean.Grind.CommRing F] [DecidableEq F] {inv : F → F} (hF : ec_fld inv) {b x y z u v u2 v2 : F} (hon : v*v = u*u*u + b) (hon2 : v2*v2 = u2*u2*u2 + b) (hJ : ec_J x y z (some (u, v))) (hb : u2*(z*z) - x ≠ 0) :
    ec_J ((v2*(z*z*z) - y)*(v2*(z*z*z) - y) - (u2*(z*z) - x)*(u2*(z*z) - x)*(u2*(z*z) - x) - (u2*(z*z) - x)*(u2*(z*z) - x)*x - (u2*(z*z) - x)*(u2*(z*z) - x)*x)
      (((u2*(z*z) - x)*(u2*(z*z) - x)*x - ((v2*(z*z*z) - y)*(v2*(z*z*z) - y) - (u2*(z*z) - x)*(u2*(z*z) - x)*(u2*(z*z) - x) - (u2*(z*z) - x)*(u2*(z*z) - x)*x - (u2*(z*z) - x)*(u2*(z*z) - x)*x))*(v2*(z*z*z) - y) - (u2*(z*z) - x)*(u2*(z*z) - x)*(u2*(z*z) - x)*y)
      (z*(u2*(z*z) - x)) (ec_add inv (some (u, v)) (some (u2, v2))) := by
  obtain ⟨hz, hx, hy⟩ := hJ
  simp only at hx hy
  have hu : u ≠ u2 := by
    intro h
    apply hb
    rw [hx, h]
    grind
  obtain ⟨l, hl, e⟩ := ec_sl_ex hF hon hon2 (fun h => hu h.1)
  rw [e]
  have hl1 := hl.1
  refine ⟨ec_nz hF hz hb, ?_, ?_⟩
  · simp only [ec_out]
    rw [hx, hy]
    have ec : v2*(z*z*z) - v*z*z*z = l*(u2 - u)*(z*z*z) := by rw [hl1]; grind
    have eb : u2*(z*z) - u*z*z = (u2 - u)*(z*z) := by grind
    rw [ec, eb]
    clear hl1 hl e ec eb
    grind
  · simp only [ec_out]
    rw [hx, hy]
    have ec : v2*(z*z*z) - v*z*z*z = l*(u2 - u)*(z*z*z) := by rw [hl1]; grind
    have eb : u2*(z*z) - u*z*z = (u2 - u)*(z*z) := by grind
    rw [ec, eb]
    clear hl1 hl e ec eb
    grind
/-- where the x are alike: the same point, or its counterpart -/
theorem ec_Jsame {F : Type} [Lean.Grind.CommRing F] [DecidableEq F] {inv : F → F} (hF : ec_fld inv) {b x y z u v u2 v2 : F} (hon : v*v = u*u*u + b) (hon2 : v2*v2 = u2*u2*u2 + b) (hJ : ec_J x y z (some (u, v))) (hb : u2*(z*z) - x = 0) :
    (v2*(z*z*z) - y = 0 → (u2, v2) = (u, v)) ∧ (v2*(z*z*z) - y ≠ 0 → ec_add inv (some (u, v)) (some (u2, v2)) = none) := by
  obtain ⟨hz, hx, hy⟩ := hJ
  simp only at hx hy
  have h0 : (u2 - u)*(z*z) = 0 := by rw [← hb, hx]; grind
  have hu : u2 = u := by
    rcases ec_nzd hF h0 with h | h
    · grind
    · exact absurd h (ec_nz hF hz hz)
  subst hu
  refine ⟨fun h => ?_, fun h => ?_⟩
  · have h1 : (v2 - v)*(z*(z*z)) = 0 := by rw [← h, hy]; grind
    rcases ec_nzd hF h1 with h2 | h2
    · rw [show v2 = v by grind]
    · exact absurd h2 (ec_nz hF hz (ec_nz hF hz hz))
  · refine ec_add_dg ⟨rfl, ?_⟩
    have h1 : (v2 - v)*(v + v2) = 0 := by grind
    rcases ec_nzd hF h1 with h2 | h2
    · exact absurd (by rw [hy, show v2 = v by grind]; grind) h
    · exact h2
theorem ec_Hdbl {F : Type} [Lean.Grind.CommRing F] [DecidableEq F] {inv : F → F} (hF : ec_fld inv) {b x y z u v : F} (hon : v*v = u*u*u + b) (hJ : ec_H x y z (some (u, v))) :
    ec_H (2*(((3*(x*x))*(3*(x*x)) - 8*(x*y*(y*z)))*(y*z))) ((3*(x*x))*(4*(x*y*(y*z)) - ((3*(x*x))*(3*(x*x)) - 8*(x*y*(y*z)))) - 8*((y*(y*z))*(y*(y*z)))) (8*((y*z)*(y*z)*(y*z))) (ec_add inv (some (u, v)) (some (u, v))) := by
  obtain ⟨hz, hx, hy⟩ := hJ
  simp only at hx hy
  by_cases hv : v + v = 0
  · rw [ec_add_dg ⟨rfl, hv⟩]
    show 8*((y*z)*(y*z)*(y*z)) = 0
    rw [hy]
    have e : 8*((v*z*z)*(v*z*z)*(v*z*z)) = (v + v)*(4*(v*v)*(z*z*z*z*z*z)) := by grind
    rw [e, hv]
    grind
  · obtain ⟨l, hl, e⟩ := ec_sl_ex hF hon hon (fun h => hv h.2)
    rw [e]
    have hl2 := hl.2
    have e1 : 8*((y*z)*(y*z)*(y*z)) = ((v + v)*(z*z))*(((v + v)*(z*z))*((v + v)*(z*z))) := by rw [hy]; grind
    have e5 : (3 : F)*(u*u) = 2*(l*v) := by grind
    refine ⟨?_, ?_, ?_⟩
    · rw [e1]
      have hn := ec_nz hF hv (ec_nz hF hz hz)
      exact ec_nz hF hn (ec_nz hF hn hn)
    · simp only [ec_out]
      rw [hx, hy]
      have e4 : (3 : F)*(u*z*(u*z)) = 2*(l*v)*(z*z) := by grind
      rw [e4]
      clear hl hl2 e e1 e4
      grind
    · simp only [ec_out]
      rw [hx, hy]
      have e4 : (3 : F)*(u*z*(u*z)) = 2*(l*v)*(z*z) := by grind
      rw [e4]
      clear hl hl2 e e1 e4
      grind
theorem ec_Hadd {F : Type} [Lean.Grind.CommRing F] [DecidableEq F] {inv : F → F} (hF : ec_fld inv) {b x y z x2 y2 z2 u v u2 v2 : F} (hon : v*v = u*u*u + b) (hon2 : v2*v2 = u2*u2*u2 + b) (hJ : ec_H x y z (some (u, v))) (hJ2 : ec_H x2 y2 z2 (some (u2, v2))) (hb : x2*z - x*z2 ≠ 0) :
    ec_H ((x2*z - x*z2)*((y2*z - y*z2)*(y2*z - y*z2)*(z*z2) - (x2*z - x*z2)*(x2*z - x*z2)*(x2*z - x*z2) - (x2*z - x*z2)*(x2*z - x*z2)*(x*z2) - (x2*z - x*z2)*(x2*z - x*z2)*(x*z2)))
      ((y2*z - y*z2)*((x2*z - x*z2)*(x2*z - x*z2)*(x*z2) - ((y2*z - y*z2)*(y2*z - y*z2)*(z*z2) - (x2*z - x*z2)*(x2*z - x*z2)*(x2*z - x*z2) - (x2*z - x*z2)*(x2*z - x*z2)*(x*z2) - (x2*z - x*z2)*(x2*z - x*z2)*(x*z2))) - y*z2*((x2*z - x*z2)*(x2*z - x*z2)*(x2*z - x*z2)))
      ((x2*z - x*z2)*(x2*z - x*z2)*(x2*z - x*z2)*(z*z2)) (ec_add inv (some (u, v)) (some (u2, v2))) := by
  obtain ⟨hz, hx, hy⟩ := hJ
  obtain ⟨hz2, hx2, hy2⟩ := hJ2
  simp only at hx hy hx2 hy2
  have hu : u ≠ u2 := by
    intro h
    apply hb
    rw [hx, hx2, h]
    grind
  obtain ⟨l, hl, e⟩ := ec_sl_ex hF hon hon2 (fun h => hu h.1)
  rw [e]
  have hl1 := hl.1
  have eb : x2*z - x*z2 = (u2 - u)*(z*z2) := by rw [hx, hx2]; grind
  have ec : y2*z - y*z2 = l*(u2 - u)*(z*z2) := by rw [hl1, hy, hy2]; grind
  refine ⟨ec_nz hF (ec_nz hF (ec_nz hF hb hb) hb) (ec_nz hF hz hz2), ?_, ?_⟩
  · simp only [ec_out]
    rw [eb, ec, hx]
    clear hl1 hl e ec eb hb hx hy hx2 hy2
    grind
  · simp only [ec_out]
    rw [eb, ec, hx, hy]
    clear hl1 hl e ec eb hb hx hy hx2 hy2
    grind
theorem ec_Hsame {F : Type} [Lean.Grind.CommRing F] [DecidableEq F] {inv : F → F} (hF : ec_fld inv) {b x y z x2 y2 z2 u v u2 v2 : F} (hon : v*v = u*u*u + b) (hon2 : v2*v2 = u2*u2*u2 + b) (hJ : ec_H x y z (some (u, v))) (hJ2 : ec_H x2 y2 z2 (some (u2, v2))) (hb : x2*z - x*z2 = 0) :
    (y2*z - y*z2 = 0 → (u2, v2) = (u, v)) ∧ (y2*z - y*z2 ≠ 0 → ec_add inv (some (u, v)) (some (u2, v2)) = none) := by
  obtain ⟨hz, hx, hy⟩ := hJ
  obtain ⟨hz2, hx2, hy2⟩ := hJ2
  simp only at hx hy hx2 hy2
  have h0 : (u2 - u)*(z*z2) = 0 := by rw [← hb, hx, hx2]; grind
  have hu : u2 = u := by
    rcases ec_nzd hF h0 with h | h
    · grind
    · exact absurd h (ec_nz hF hz hz2)
  subst hu
  refine ⟨fun h => ?_, fun h => ?_⟩
  · have h1 : (v2 - v)*(z*z2) = 0 := by rw [← h, hy, hy2]; grind
    rcases ec_nzd hF h1 with h2 | h2
    · rw [show v2 = v by grind]
    · exact absurd h2 (ec_nz hF hz hz2)
  · refine ec_add_dg ⟨rfl, ?_⟩
    have h1 : (v2 - v)*(v + v2) = 0 := by grind
    rcases ec_nzd hF h1 with h2 | h2
    · exact absurd (by rw [hy, hy2, show v2 = v by grind]; grind) h
    · exact h2
/-- double and add, the highest bit first: after i of the 256 bits of k -/
def ec_da {F : Type} [Lean.Grind.CommRing F] [DecidableEq F] (inv : F → F) (A : Option (F × F)) (k : Nat) : Nat → Option (F × F)
  | 0 => none
  | i + 1 => if k / 2 ^ (255 - i) % 2 = 1 then ec_add inv (ec_add inv (ec_da inv A k i) (ec_da inv A k i)) A else ec_add inv (ec_da inv A k i) (ec_da inv A k i)
theorem ec_da_on {F : Type} [Lean.Grind.CommRing F] [DecidableEq F] {inv : F → F} (hF : ec_fld inv) {b : F} {A : Option (F × F)} (hA : ec_on b A) (k : Nat) : ∀ i, ec_on b (ec_da inv A k i)
  | 0 => trivial
  | i + 1 => by
    have ih := ec_da_on hF hA k i
    unfold ec_da
    split
    · exact ec_add_on hF (ec_add_on hF ih ih) hA
    · exact ec_add_on hF ih ih
/-- (A + B) + (C + D) = (A + C) + (B + D) -/
theorem ec_add4 {F : Type} [Lean.Grind.CommRing F] [DecidableEq F] {inv : F → F} (hF : ec_fld inv) {b : F} (hb : b ≠ 0) {A B C D : Option (F × F)} (hA : ec_on b A) (hB : ec_on b B) (hC : ec_on b C) (hD : ec_on b D) : ec_add inv (ec_add inv A B) (ec_add inv C D) = ec_add inv (ec_add inv A C) (ec_add inv B D) := by
  rw [ec_assoc hF hb hA hB (ec_add_on hF hC hD), ← ec_assoc hF hb hB hC hD, ec_add_comm hF hB hC, ec_assoc hF hb hC hB hD, ← ec_assoc hF hb hA hC (ec_add_on hF hB hD)]
/-- the interleaved sum of two multiples is their sum -/
def ec_da2 {F : Type} [Lean.Grind.CommRing F] [DecidableEq F] (inv : F → F) (A : Option (F × F)) (k : Nat) (B : Option (F × F)) (j : Nat) : Nat → Option (F × F)
  | 0 => none
  | i + 1 =>
    let S := ec_add inv (ec_da2 inv A k B j i) (ec_da2 inv A k B j i)
    let S1 := if k / 2 ^ (255 - i) % 2 = 1 then ec_add inv S A else S
    if j / 2 ^ (255 - i) % 2 = 1 then ec_add inv S1 B else S1
theorem ec_da2_eq {F : Type} [Lean.Grind.CommRing F] [DecidableEq F] {inv : F → F} (hF : ec_fld inv) {b : F} (hb : b ≠ 0) {A B : Option (F × F)} (hA : ec_on b A) (hB : ec_on b B) (k j : Nat) : ∀ i, ec_da2 inv A k B j i = ec_add inv (ec_da inv A k i) (ec_da inv B j i)
  | 0 => rfl
  | i + 1 => by
    have ih := ec_da2_eq hF hb hA hB k j i
    have h1 := ec_da_on hF hA k i
    have h2 := ec_da_on hF hB j i
    have hX := ec_add_on hF h1 h1
    have hY := ec_add_on hF h2 h2
    have e : ec_add inv (ec_add inv (ec_da inv A k i) (ec_da inv B j i)) (ec_add inv (ec_da inv A k i) (ec_da inv B j i)) = ec_add inv (ec_add inv (ec_da inv A k i) (ec_da inv A k i)) (ec_add inv (ec_da inv B j i) (ec_da inv B j i)) := ec_add4 hF hb h1 h2 h1 h2
    unfold ec_da2 ec_da
    simp only [ih, e]
    by_cases c1 : k / 2 ^ (255 - i) % 2 = 1 <;> by_cases c2 : j / 2 ^ (255 - i) % 2 = 1
    · simp only [if_pos c1, if_pos c2]
      rw [ec_assoc hF hb hX hY hA, ec_add_comm hF hY hA, ← ec_assoc hF hb hX hA hY, ec_assoc hF hb (ec_add_on hF hX hA) hY hB]
    · simp only [if_pos c1, if_neg c2]
      rw [ec_assoc hF hb hX hY hA, ec_add_comm hF hY hA, ← ec_assoc hF hb hX hA hY]
    · simp only [if_neg c1, if_pos c2]
      rw [ec_assoc hF hb hX hY hB]
    · simp only [if_neg c1, if_neg c2]
