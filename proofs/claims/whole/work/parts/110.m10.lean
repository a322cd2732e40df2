/-! the numbers of both sides as points: a map of numbers into a field -/
def hmv {F : Type} [Lean.Grind.CommRing F] (P : Nat) (f : Nat → F) : Prop := (∀ a b, f (mm P a b) = f a * f b) ∧ (∀ a b, f (pp P a b) = f a + f b) ∧ (∀ a b, b < P → f (ss P a b) = f a - f b) ∧ (∀ a, a < P → (f a = 0 ↔ a = 0)) ∧ f 1 = 1 ∧ f 0 = 0 ∧ 1 < P
def pOf {F : Type} (f : Nat → F) (n x y : Nat) : Option (F × F) := if n = 0 then some (f x, f y) else none
theorem hv_sm {F : Type} [Lean.Grind.CommRing F] {P : Nat} {f : Nat → F} (h : hmv P f) (a b c : Nat) : f (ss P a (mm P b c)) = f a - f b * f c := by
  rw [h.2.2.1 _ _ (mm_lt (by have := h.2.2.2.2.2.2; omega)), h.1]
theorem hv_sp {F : Type} [Lean.Grind.CommRing F] {P : Nat} {f : Nat → F} (h : hmv P f) (a b c : Nat) : f (ss P a (pp P b c)) = f a - (f b + f c) := by
  rw [h.2.2.1 _ _ (pp_lt (by have := h.2.2.2.2.2.2; omega)), h.2.1]
theorem hv_ss {F : Type} [Lean.Grind.CommRing F] {P : Nat} {f : Nat → F} (h : hmv P f) (a b c : Nat) : f (ss P a (ss P b c)) = f a - f (ss P b c) := by
  rw [h.2.2.1 _ _ (ss_lt (by have := h.2.2.2.2.2.2; omega))]
theorem ec_one {F : Type} [Lean.Grind.CommRing F] {inv : F → F} (hF : ec_fld inv) : (1 : F) ≠ 0 := by
  intro q
  apply hF.2.1
  have e : (2 : F) = 1 + 1 := by grind
  rw [e, q]
  grind
theorem J_dbl {F : Type} [Lean.Grind.CommRing F] [DecidableEq F] {inv : F → F} (hF : ec_fld inv) {P : Nat} {f : Nat → F} (h : hmv P f) {b : F} {t : Nat × Nat × Nat} (ht : t3lt P t) {A : Option (F × F)} (hA : ec_on b A) (hJ : ec_J (f t.1) (f t.2.1) (f t.2.2) A) : ec_J (f (cdb P t).1) (f (cdb P t).2.1) (f (cdb P t).2.2) (ec_add inv A A) := by
  have hz0 := h.2.2.2.1 _ ht.2.2
  obtain ⟨x, y, z⟩ := t
  cases A with
  | none =>
    have hz : z = 0 := hz0.mp hJ
    unfold cdb
    rw [if_pos hz]
    exact hJ
  | some a =>
    obtain ⟨u, v⟩ := a
    have hz : ¬ z = 0 := fun q => hJ.1 (hz0.mpr q)
    have k := ec_Jdbl hF (b := b) hA hJ
    unfold cdb
    rw [if_neg hz]
    show ec_J (f (cdX P x y)) (f (cdY P x y)) (f (cdZ P y z)) _
    have eA : f (cdA P y) = 2*(f y*f y) := by unfold cdA; rw [h.2.1, h.1]; grind
    have eB : f (cdB P x y) = 2*(2*(f y*f y)*f x) := by unfold cdB; rw [h.2.1, h.1, eA]; grind
    have eC : f (cdC P x) = 3*(f x*f x) := by unfold cdC; rw [h.2.1, h.2.1, h.1]; grind
    have hBl : cdB P x y < P := pp_lt (by have := h.2.2.2.2.2.2; omega)
    have eX : f (cdX P x y) = (3*(f x*f x))*(3*(f x*f x)) - 2*(2*(f y*f y)*f x) - 2*(2*(f y*f y)*f x) := by
      unfold cdX
      rw [h.2.2.1 _ _ hBl, h.2.2.1 _ _ hBl, h.1, eB, eC]
    have hXl : cdX P x y < P := ss_lt (by have := h.2.2.2.2.2.2; omega)
    have eY : f (cdY P x y) = (2*(2*(f y*f y)*f x) - ((3*(f x*f x))*(3*(f x*f x)) - 2*(2*(f y*f y)*f x) - 2*(2*(f y*f y)*f x)))*(3*(f x*f x)) - 2*((2*(f y*f y))*(2*(f y*f y))) := by
      unfold cdY
      rw [hv_sp h, h.1, h.2.2.1 _ _ hXl, h.1, eX, eB, eC, eA]
      grind
    have eZ : f (cdZ P y z) = 2*(f z*f y) := by unfold cdZ; rw [h.2.1, h.1]; grind
    rw [eX, eY, eZ]
    exact k
theorem J_in {F : Type} [Lean.Grind.CommRing F] [DecidableEq F] {inv : F → F} (hF : ec_fld inv) {P : Nat} {f : Nat → F} (h : hmv P f) {b : F} {t : Nat × Nat × Nat} (ht : t3lt P t) {A : Option (F × F)} (hA : ec_on b A) (hJ : ec_J (f t.1) (f t.2.1) (f t.2.2) A) {n px py : Nat} (hB : ec_on b (pOf f n px py)) :
    ec_J (f (cin P t n px py).1) (f (cin P t n px py).2.1) (f (cin P t n px py).2.2) (ec_add inv A (pOf f n px py)) := by
  have hz0 := h.2.2.2.1 _ ht.2.2
  have hdb := J_dbl hF h ht hA hJ
  have hP0 : 0 < P := by have := h.2.2.2.2.2.2; omega
  obtain ⟨x, y, z⟩ := t
  by_cases hn : n ≠ 0
  · unfold cin pOf
    rw [if_pos hn, if_neg hn, ec_add_none]
    exact hJ
  · have hn0 : n = 0 := by omega
    unfold pOf at hB ⊢
    rw [if_pos hn0] at hB ⊢
    unfold cin
    rw [if_neg hn]
    by_cases hz : z = 0
    · rw [if_pos hz]
      cases A with
      | none =>
        rw [ec_none_add]
        refine ⟨?_, ?_, ?_⟩
        · show f 1 ≠ 0
          rw [h.2.2.2.2.1]
          exact ec_one hF
        · show f px = f px*f 1*f 1
          rw [h.2.2.2.2.1]
          grind
        · show f py = f py*f 1*f 1*f 1
          rw [h.2.2.2.2.1]
          grind
      | some a => exact absurd (hz0.mpr hz) hJ.1
    · rw [if_neg hz]
      cases A with
      | none => exact absurd (hz0.mp hJ) hz
      | some a =>
        obtain ⟨u, v⟩ := a
        have eB : f (cfB P x z px) = f px*(f z*f z) - f x := by unfold cfB; rw [h.2.2.1 _ _ ht.1, h.1, h.1]
        have eC : f (cfC P y z py) = f py*(f z*f z*f z) - f y := by unfold cfC; rw [h.2.2.1 _ _ ht.2.1, h.1, h.1, h.1]
        have zB := h.2.2.2.1 (cfB P x z px) (ss_lt hP0)
        have zC := h.2.2.2.1 (cfC P y z py) (ss_lt hP0)
        by_cases c1 : cfB P x z px = 0
        · rw [if_neg (fun q => q c1)]
          have hb : f px*(f z*f z) - f x = 0 := by rw [← eB]; exact zB.mpr c1
          obtain ⟨k1, k2⟩ := ec_Jsame hF (b := b) hA hB hJ hb
          by_cases c2 : cfC P y z py = 0
          · rw [if_pos c2]
            have e := k1 (by rw [← eC]; exact zC.mpr c2)
            rw [e]
            exact hdb
          · rw [if_neg c2]
            have e := k2 (fun q => c2 (zC.mp (by rw [eC]; exact q)))
            show ec_J (f x) (f y) (f 0) _
            rw [e]
            exact h.2.2.2.2.2.1
        · rw [if_pos c1]
          have hb : f px*(f z*f z) - f x ≠ 0 := fun q => c1 (zB.mp (by rw [eB]; exact q))
          have k := ec_Jadd hF (b := b) hA hB hJ hb
          rw [← eB, ← eC] at k
          obtain ⟨B, hBe⟩ : ∃ B, B = cfB P x z px := ⟨_, rfl⟩
          obtain ⟨C, hCe⟩ : ∃ C, C = cfC P y z py := ⟨_, rfl⟩
          rw [← hBe, ← hCe] at k
          show ec_J (f (cmX P x (cfB P x z px) (cfC P y z py))) (f (cmY P x y (cfB P x z px) (cfC P y z py))) (f (mm P z (cfB P x z px))) _
          rw [← hBe, ← hCe]
          have eX : f (cmX P x B C) = f C*f C - f B*f B*f B - f B*f B*f x - f B*f B*f x := by
            unfold cmX
            rw [hv_sm h, hv_sm h, hv_sm h, h.1, h.1]
          have hXl : cmX P x B C < P := ss_lt hP0
          have eY : f (cmY P x y B C) = (f B*f B*f x - (f C*f C - f B*f B*f B - f B*f B*f x - f B*f B*f x))*f C - f B*f B*f B*f y := by
            unfold cmY
            rw [hv_sm h, h.1, h.2.2.1 _ _ hXl, eX]
            simp only [h.1]
          rw [eX, eY, h.1]
          exact k
theorem H_tw {F : Type} [Lean.Grind.CommRing F] [DecidableEq F] {inv : F → F} (hF : ec_fld inv) {P : Nat} {f : Nat → F} (h : hmv P f) {b : F} {x y z : Nat} {u v : F} (hA : ec_on b (some (u, v))) (hJ : ec_H (f x) (f y) (f z) (some (u, v))) : ec_H (f (twX P x y z)) (f (twY P x y z)) (f (twZ P y z)) (ec_add inv (some (u, v)) (some (u, v))) := by
  have hP0 : 0 < P := by have := h.2.2.2.2.2.2; omega
  have k := ec_Hdbl hF (b := b) hA hJ
  have e8 : ∀ a c, c < P → f (s8 P a c) = f a - 8*f c := fun a c hc => by
    unfold s8
    rw [h.2.2.1 _ _ hc, h.2.2.1 _ _ hc, h.2.2.1 _ _ hc, h.2.2.1 _ _ hc, h.2.2.1 _ _ hc, h.2.2.1 _ _ hc, h.2.2.1 _ _ hc, h.2.2.1 _ _ hc]
    grind
  have eU : f (tU P x) = 3*(f x*f x) := by unfold tU; rw [h.2.1, h.2.1, h.1]; grind
  have eW : f (tW P x y z) = f x*f y*(f y*f z) := by unfold tW; rw [h.1, h.1, h.1]
  have hWl : tW P x y z < P := mm_lt hP0
  have eZ : f (tZ P x y z) = (3*(f x*f x))*(3*(f x*f x)) - 8*(f x*f y*(f y*f z)) := by unfold tZ; rw [e8 _ _ hWl, h.1, eU, eW]
  have hZl : tZ P x y z < P := ss_lt hP0
  have eX : f (tX P x y z) = 4*(f x*f y*(f y*f z)) - ((3*(f x*f x))*(3*(f x*f x)) - 8*(f x*f y*(f y*f z))) := by
    unfold tX
    rw [h.2.2.1 _ _ hZl, h.2.1, h.2.1, eW, eZ]
    grind
  have eY : f (tY P y z) = (f y*(f y*f z))*(f y*(f y*f z)) := by unfold tY; rw [h.1, h.1, h.1]
  have hYl : tY P y z < P := mm_lt hP0
  have e1 : f (twX P x y z) = 2*(((3*(f x*f x))*(3*(f x*f x)) - 8*(f x*f y*(f y*f z)))*(f y*f z)) := by unfold twX; rw [h.2.1, h.1, h.1, eZ]; grind
  have e2 : f (twY P x y z) = (3*(f x*f x))*(4*(f x*f y*(f y*f z)) - ((3*(f x*f x))*(3*(f x*f x)) - 8*(f x*f y*(f y*f z)))) - 8*((f y*(f y*f z))*(f y*(f y*f z))) := by unfold twY; rw [e8 _ _ hYl, h.1, eU, eX, eY]
  have e3 : f (twZ P y z) = 8*((f y*f z)*(f y*f z)*(f y*f z)) := by unfold twZ d8; rw [h.2.1, h.2.1, h.2.1, h.1, h.1, h.1]; grind
  rw [e1, e2, e3]
  exact k
theorem H_mtw {F : Type} [Lean.Grind.CommRing F] [DecidableEq F] {inv : F → F} (hF : ec_fld inv) {P : Nat} {f : Nat → F} (h : hmv P f) {b : F} {t : Nat × Nat × Nat} (ht : t3lt P t) {A : Option (F × F)} (hA : ec_on b A) (hJ : ec_H (f t.1) (f t.2.1) (f t.2.2) A) : ec_H (f (mtw P t).1) (f (mtw P t).2.1) (f (mtw P t).2.2) (ec_add inv A A) := by
  have hz0 := h.2.2.2.1 _ ht.2.2
  obtain ⟨x, y, z⟩ := t
  cases A with
  | none =>
    have hz : z = 0 := hz0.mp hJ
    unfold mtw
    rw [if_pos hz]
    exact hJ
  | some a =>
    obtain ⟨u, v⟩ := a
    have hz : ¬ z = 0 := fun q => hJ.1 (hz0.mpr q)
    unfold mtw
    rw [if_neg hz]
    exact H_tw hF h hA hJ
theorem H_jn {F : Type} [Lean.Grind.CommRing F] [DecidableEq F] {inv : F → F} (hF : ec_fld inv) {P : Nat} {f : Nat → F} (h : hmv P f) {b : F} {x1 y1 z1 x2 y2 z2 : Nat} (hz1 : z1 < P) (hz2 : z2 < P) {A B : Option (F × F)} (hA : ec_on b A) (hB : ec_on b B) (hJ : ec_H (f x1) (f y1) (f z1) A) (hJ2 : ec_H (f x2) (f y2) (f z2) B) :
    ec_H (f (jn P x1 y1 z1 x2 y2 z2).1) (f (jn P x1 y1 z1 x2 y2 z2).2.1) (f (jn P x1 y1 z1 x2 y2 z2).2.2) (ec_add inv A B) := by
  have hP0 : 0 < P := by have := h.2.2.2.2.2.2; omega
  have w1 := h.2.2.2.1 _ hz1
  have w2 := h.2.2.2.1 _ hz2
  unfold jn
  cases B with
  | none =>
    have c : z2 = 0 := w2.mp hJ2
    rw [if_pos c, ec_add_none]
    exact hJ
  | some b2 =>
    obtain ⟨u2, v2⟩ := b2
    have c : ¬ z2 = 0 := fun q => hJ2.1 (w2.mpr q)
    rw [if_neg c]
    cases A with
    | none =>
      have c1 : z1 = 0 := w1.mp hJ
      rw [if_pos c1, ec_none_add]
      exact hJ2
    | some a =>
      obtain ⟨u, v⟩ := a
      have c1 : ¬ z1 = 0 := fun q => hJ.1 (w1.mpr q)
      rw [if_neg c1]
      have eU : f (jU P y1 z1 y2 z2) = f y2*f z1 - f y1*f z2 := by unfold jU; rw [hv_sm h, h.1]
      have eV : f (jV P x1 z1 x2 z2) = f x2*f z1 - f x1*f z2 := by unfold jV; rw [hv_sm h, h.1]
      have zU := h.2.2.2.1 (jU P y1 z1 y2 z2) (ss_lt hP0)
      have zV := h.2.2.2.1 (jV P x1 z1 x2 z2) (ss_lt hP0)
      by_cases c2 : jV P x1 z1 x2 z2 = 0
      · rw [if_pos c2]
        have hb : f x2*f z1 - f x1*f z2 = 0 := by rw [← eV]; exact zV.mpr c2
        obtain ⟨k1, k2⟩ := ec_Hsame hF (b := b) hA hB hJ hJ2 hb
        by_cases c3 : jU P y1 z1 y2 z2 = 0
        · rw [if_pos c3]
          have e := k1 (by rw [← eU]; exact zU.mpr c3)
          rw [e]
          exact H_tw hF h hA hJ
        · rw [if_neg c3]
          have e := k2 (fun q => c3 (zU.mp (by rw [eU]; exact q)))
          show ec_H (f x1) (f y1) (f 0) _
          rw [e]
          exact h.2.2.2.2.2.1
      · rw [if_neg c2]
        have hb : f x2*f z1 - f x1*f z2 ≠ 0 := fun q => c2 (zV.mp (by rw [eV]; exact q))
        have k := ec_Hadd hF (b := b) hA hB hJ hJ2 hb
        rw [← eU, ← eV] at k
        obtain ⟨V, hVe⟩ : ∃ V, V = jV P x1 z1 x2 z2 := ⟨_, rfl⟩
        obtain ⟨U, hUe⟩ : ∃ U, U = jU P y1 z1 y2 z2 := ⟨_, rfl⟩
        rw [← hVe, ← hUe] at k ⊢
        show ec_H (f (mm P V (jXX P U V (mm P x1 z2) (mm P z1 z2)))) (f (jYY P U V (mm P x1 z2) (mm P z1 z2) (mm P y1 z2))) (f (mm P (mm P (mm P V V) V) (mm P z1 z2))) _
        have eX : f (jXX P U V (mm P x1 z2) (mm P z1 z2)) = f U*f U*(f z1*f z2) - f V*f V*f V - f V*f V*(f x1*f z2) - f V*f V*(f x1*f z2) := by
          unfold jXX
          rw [hv_sm h, hv_sm h, hv_sm h, h.1, h.1, h.1, h.1, h.1]
        have hXl : jXX P U V (mm P x1 z2) (mm P z1 z2) < P := ss_lt hP0
        have eY : f (jYY P U V (mm P x1 z2) (mm P z1 z2) (mm P y1 z2)) = f U*(f V*f V*(f x1*f z2) - (f U*f U*(f z1*f z2) - f V*f V*f V - f V*f V*(f x1*f z2) - f V*f V*(f x1*f z2))) - f y1*f z2*(f V*f V*f V) := by
          unfold jYY
          rw [hv_sm h, h.1, h.2.2.1 _ _ hXl, eX]
          simp only [h.1]
        rw [h.1, eX, eY, h.1, h.1, h.1, h.1]
        exact k
theorem H_run {F : Type} [Lean.Grind.CommRing F] [DecidableEq F] {inv : F → F} (hF : ec_fld inv) {P : Nat} {f : Nat → F} (h : hmv P f) {b : F} {q t0 : Nat × Nat × Nat} (hq : t3lt P q) (ht : t3lt P t0) (h0 : t0.2.2 = 0) {A : Option (F × F)} (hA : ec_on b A) (hJ : ec_H (f q.1) (f q.2.1) (f q.2.2) A) (k : Nat) : ∀ i, ec_H (f (mrun P q t0 k i).1) (f (mrun P q t0 k i).2.1) (f (mrun P q t0 k i).2.2) (ec_da inv A k i)
  | 0 => by
    show f t0.2.2 = 0
    rw [h0]
    exact h.2.2.2.2.2.1
  | i + 1 => by
    have hP0 : 0 < P := by have := h.2.2.2.2.2.2; omega
    have ih := H_run hF h hq ht h0 hA hJ k i
    have hl := mrun_lt (k := k) hP0 hq ht i
    have hon := ec_da_on hF hA k i
    have h1 := H_mtw hF h hl hon ih
    have hl1 := mtw_lt hP0 hl
    show ec_H (f (mst P q (mrun P q t0 k i) (k / 2 ^ (255 - i) % 2)).1) (f (mst P q (mrun P q t0 k i) (k / 2 ^ (255 - i) % 2)).2.1) (f (mst P q (mrun P q t0 k i) (k / 2 ^ (255 - i) % 2)).2.2) (ec_da inv A k (i + 1))
    unfold mst ec_da
    by_cases c : k / 2 ^ (255 - i) % 2 = 1
    · rw [if_pos c, if_pos c]
      exact H_jn hF h hl1.2.2 hq.2.2 (ec_add_on hF hon hon) hA h1 hJ
    · rw [if_neg c, if_neg c]
      exact h1
theorem ec_da2_on {F : Type} [Lean.Grind.CommRing F] [DecidableEq F] {inv : F → F} (hF : ec_fld inv) {b : F} (hb : b ≠ 0) {A B : Option (F × F)} (hA : ec_on b A) (hB : ec_on b B) (k j i : Nat) : ec_on b (ec_da2 inv A k B j i) := by
  rw [ec_da2_eq hF hb hA hB]
  exact ec_add_on hF (ec_da_on hF hA k i) (ec_da_on hF hB j i)
theorem J_st {F : Type} [Lean.Grind.CommRing F] [DecidableEq F] {inv : F → F} (hF : ec_fld inv) {P : Nat} {f : Nat → F} (h : hmv P f) {b : F} {p t : Nat × Nat × Nat} (ht : t3lt P t) {A S : Option (F × F)} (hA : ec_on b A) (hS : ec_on b S) (hp : A = pOf f p.1 p.2.1 p.2.2) (hJ : ec_J (f t.1) (f t.2.1) (f t.2.2) S) (c : Nat) : ec_J (f (cst1 P p t c).1) (f (cst1 P p t c).2.1) (f (cst1 P p t c).2.2) (if c = 1 then ec_add inv S A else S) := by
  unfold cst1
  by_cases hc : c = 1
  · rw [if_pos hc, if_pos hc, hp]
    exact J_in hF h ht hS hJ (by rw [← hp]; exact hA)
  · rw [if_neg hc, if_neg hc]
    exact hJ
theorem J_run {F : Type} [Lean.Grind.CommRing F] [DecidableEq F] {inv : F → F} (hF : ec_fld inv) {P : Nat} {f : Nat → F} (h : hmv P f) {b : F} (hb : b ≠ 0) {p q t0 : Nat × Nat × Nat} (hp1 : p.2.1 < P) (hp2 : p.2.2 < P) (hq1 : q.2.1 < P) (hq2 : q.2.2 < P) (ht : t3lt P t0) (h0 : t0.2.2 = 0) {A B : Option (F × F)} (hA : ec_on b A) (hB : ec_on b B) (hpA : A = pOf f p.1 p.2.1 p.2.2) (hqB : B = pOf f q.1 q.2.1 q.2.2) (k j : Nat) : ∀ i, ec_J (f (crun P p q t0 k j i).1) (f (crun P p q t0 k j i).2.1) (f (crun P p q t0 k j i).2.2) (ec_da2 inv A k B j i)
  | 0 => by
    show f t0.2.2 = 0
    rw [h0]
    exact h.2.2.2.2.2.1
  | i + 1 => by
    have hP0 : 0 < P := by have := h.2.2.2.2.2.2; omega
    have ih := J_run hF h hb hp1 hp2 hq1 hq2 ht h0 hA hB hpA hqB k j i
    have hl := crun_lt (k := k) (m := j) h.2.2.2.2.2.2 ht hp1 hp2 hq1 hq2 i
    have hon := ec_da2_on hF hb hA hB k j i
    have h1 := J_dbl hF h hl hon ih
    have hl1 := cdb_lt hP0 hl
    have hon1 := ec_add_on hF hon hon
    have h2 := J_st hF h hl1 hA hon1 hpA h1 (k / 2 ^ (255 - i) % 2)
    have hl2 := cst1_lt (P := p) (b := k / 2 ^ (255 - i) % 2) h.2.2.2.2.2.2 hl1 hp1 hp2
    have hon2 : ec_on b (if k / 2 ^ (255 - i) % 2 = 1 then ec_add inv (ec_add inv (ec_da2 inv A k B j i) (ec_da2 inv A k B j i)) A else ec_add inv (ec_da2 inv A k B j i) (ec_da2 inv A k B j i)) := by
      split
      · exact ec_add_on hF hon1 hA
      · exact hon1
    exact J_st hF h hl2 hB hon2 hqB h2 (j / 2 ^ (255 - i) % 2)
theorem ec_da_0 {F : Type} [Lean.Grind.CommRing F] [DecidableEq F] {inv : F → F} (A : Option (F × F)) : ∀ i, ec_da inv A 0 i = none
  | 0 => rfl
  | i + 1 => by
    unfold ec_da
    rw [ec_da_0 A i, Nat.zero_div, if_neg (by decide)]
    rfl
/-- what is stored: the class's way, the reference's way -/
theorem J_out {F : Type} [Lean.Grind.CommRing F] [DecidableEq F] {inv : F → F} (hF : ec_fld inv) {P : Nat} {f : Nat → F} (h : hmv P f) {t : Nat × Nat × Nat} (ht : t3lt P t) {A : Option (F × F)} (hJ : ec_J (f t.1) (f t.2.1) (f t.2.2) A) {zi : Nat} (hzi : f zi = inv (f t.2.2)) : (t.2.2 = 0 → A = none) ∧ (t.2.2 ≠ 0 → A = some (f (mm P t.1 (mm P zi zi)), f (mm P t.2.1 (mm P zi (mm P zi zi))))) := by
  have hz0 := h.2.2.2.1 _ ht.2.2
  cases A with
  | none => exact ⟨fun _ => rfl, fun q => absurd (hz0.mp hJ) q⟩
  | some a =>
    obtain ⟨u, v⟩ := a
    refine ⟨fun q => absurd (hz0.mpr q) hJ.1, fun _ => ?_⟩
    have hi := hF.1 _ hJ.1
    have h1 : f t.1 = u*f t.2.2*f t.2.2 := hJ.2.1
    have h2 : f t.2.1 = v*f t.2.2*f t.2.2*f t.2.2 := hJ.2.2
    rw [h.1, h.1, h.1, h.1, h.1, hzi, h1, h2]
    generalize f t.2.2 = z at *
    generalize inv z = w at *
    clear hz0 hJ h1 h2 hzi
    have e1 : u*z*z*(w*w) = u := by
      have : u*z*z*(w*w) = u*(z*w)*(z*w) := by grind
      rw [this, hi]
      grind
    have e2 : v*z*z*z*(w*(w*w)) = v := by
      have : v*z*z*z*(w*(w*w)) = v*(z*w)*(z*w)*(z*w) := by grind
      rw [this, hi]
      grind
    rw [e1, e2]
theorem H_out {F : Type} [Lean.Grind.CommRing F] [DecidableEq F] {inv : F → F} (hF : ec_fld inv) {P : Nat} {f : Nat → F} (h : hmv P f) {t : Nat × Nat × Nat} (ht : t3lt P t) {A : Option (F × F)} (hJ : ec_H (f t.1) (f t.2.1) (f t.2.2) A) {zi : Nat} (hzi : f zi = inv (f t.2.2)) : (t.2.2 = 0 → A = none) ∧ (t.2.2 ≠ 0 → A = some (f (mm P t.1 zi), f (mm P t.2.1 zi))) := by
  have hz0 := h.2.2.2.1 _ ht.2.2
  cases A with
  | none => exact ⟨fun _ => rfl, fun q => absurd (hz0.mp hJ) q⟩
  | some a =>
    obtain ⟨u, v⟩ := a
    refine ⟨fun q => absurd (hz0.mpr q) hJ.1, fun _ => ?_⟩
    have hi := hF.1 _ hJ.1
    have h1 : f t.1 = u*f t.2.2 := hJ.2.1
    have h2 : f t.2.1 = v*f t.2.2 := hJ.2.2
    rw [h.1, h.1, hzi, h1, h2]
    generalize f t.2.2 = z at *
    generalize inv z = w at *
    clear hz0 hJ h1 h2 hzi
    have e1 : u*z*w = u := by
      have : u*z*w = u*(z*w) := by grind
      rw [this, hi]
      grind
    have e2 : v*z*w = v := by
      have : v*z*w = v*(z*w) := by grind
      rw [this, hi]
      grind
    rw [e1, e2]
