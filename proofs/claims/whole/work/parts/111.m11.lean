/-! what both sides hold in common -/
theorem fp_hom : @hmv (Fin ec_P) ec_cr (rMod 0) ec_f := by
  refine ⟨fun a b => ?_, fun a b => ?_, fun a b hb => ?_, fun a ha => ?_, ?_, ?_, ?_⟩
  · rw [rMod0]
    unfold mm
    rw [ec_f_mod]
    exact ec_f_mul a b
  · rw [rMod0]
    unfold pp
    rw [ec_f_mod]
    exact ec_f_add a b
  · rw [rMod0] at hb ⊢
    unfold ss
    rw [ec_f_mod, ec_f_sub (by omega), ec_f_P]
  · exact ec_f_zero (by rw [rMod0] at ha; exact ha)
  · exact ec_f_1
  · exact ec_f_0
  · rw [rMod0]
    decide +kernel
theorem fp_inv {z : Nat} (hz : z < rMod 0) : ec_f (z ^ (rMod 0 - 2) % rMod 0) = ec_inv (ec_f z) := by
  rw [rMod0] at hz ⊢
  unfold ec_inv
  rw [ec_f_mod, ec_f_val hz]
def fpOn (A : Option (Fin ec_P × Fin ec_P)) : Prop := @ec_on (Fin ec_P) ec_cr (ec_f 7) A
theorem fp_on {n x y : Nat} (h : n = 0 → onN (rMod 0) x y) : fpOn (pOf ec_f n x y) := by
  letI := ec_cr
  unfold pOf
  by_cases hn : n = 0
  · rw [if_pos hn]
    obtain ⟨_, _, h3⟩ := h hn
    have e := congrArg ec_f h3
    rw [fp_hom.1, fp_hom.2.1, fp_hom.1, fp_hom.1] at e
    exact e
  · rw [if_neg hn]
    trivial
theorem fp_of_on {x y : Nat} (hx : x < rMod 0) (hy : y < rMod 0) (h : fpOn (some (ec_f x, ec_f y))) : onN (rMod 0) x y := by
  refine ⟨hx, hy, ?_⟩
  have e : ec_f (mm (rMod 0) y y) = ec_f (pp (rMod 0) (mm (rMod 0) (mm (rMod 0) x x) x) 7) := by
    rw [fp_hom.1, fp_hom.2.1, fp_hom.1, fp_hom.1]
    exact h
  have l1 : mm (rMod 0) y y < rMod 0 := mm_lt (rMod_pos (by decide))
  have l2 : pp (rMod 0) (mm (rMod 0) (mm (rMod 0) x x) x) 7 < rMod 0 := pp_lt (rMod_pos (by decide))
  rw [rMod0] at l1 l2 e ⊢
  exact ec_f_inj l1 l2 e
theorem base_on : onN (rMod 0) bX bY := by decide +kernel
def Rv (V N B : Nat → Nat) (M : Nat) (X N' B' : Nat → Nat) (M' : Nat) : Prop :=
  (∀ i, i < 8 → V i = X i) ∧ (∀ q, q < 4 → N q = N' q) ∧ (∀ q, q < 4 → N q = 0 → V (8 + 2 * q) = X (10 + 2 * q) ∧ V (9 + 2 * q) = X (11 + 2 * q) ∧ onN (rMod 0) (V (8 + 2 * q)) (V (9 + 2 * q))) ∧ (∀ q, q < 6 → N q < 2) ∧
  (∀ r, 8 ≤ r → r < 20 → V r < rMod 0) ∧ (V 22 < rMod 0 ∧ V 23 < rMod 0) ∧ (N 4 = 0 ∧ V 16 = bX ∧ V 17 = bY) ∧ (X 8 = rMod 0 ∧ X 9 = rMod 1 ∧ X 18 = bX ∧ X 19 = bY ∧ X 20 = 1 ∧ X 21 = 7) ∧ (∀ r, X r < b26 ^ 10) ∧
  (∀ r, 22 ≤ r → r < 31 → X r < rMod 0) ∧ (∀ r, 10 ≤ r → r < 18 → X r < rMod 0) ∧ (B = B' ∧ (∀ j, j < 100 → B j < 256) ∧ M = M' ∧ M ≤ 100)
def Rl (τ : cT) (σ : rS) : Prop := cOk τ ∧ Rv (cV τ) (cN τ) (cB τ) (cM τ) (rV σ) (rN σ) (rB σ) (rM σ)
theorem Rv.congr {V V2 N B X N' B' : Nat → Nat} {M M' : Nat} (h : Rv V N B M X N' B' M') (e : ∀ i, i < 30 → V2 i = V i) : Rv V2 N B M X N' B' M' := by
  obtain ⟨h1, h2, h3, h4, h5, h6, h7, h8⟩ := h
  refine ⟨fun i hi => by rw [e i (by omega)]; exact h1 i hi, h2, fun q hq hn => ?_, h4, fun r a b => by rw [e r (by omega)]; exact h5 r a b, by rw [e 22 (by omega), e 23 (by omega)]; exact h6, by rw [e 16 (by omega), e 17 (by omega)]; exact h7, h8⟩
  rw [e _ (by omega), e _ (by omega)]
  exact h3 q hq hn
theorem Rl.of {τ1 u : cT} {σ1 w : rS} {V X : Nat → Nat} (hu : cU τ1 V u) (hw : rU σ1 X w) (h : Rv V (cN τ1) (cB τ1) (cM τ1) X (rN σ1) (rB σ1) (rM σ1)) : Rl u w := by
  obtain ⟨P, F, rfl⟩ := hw
  refine ⟨hu.2.1, ?_⟩
  have e1 : cN u = cN τ1 := hu.2.2.1
  have e2 : cB u = cB τ1 := hu.2.2.2.1
  have e3 : cM u = cM τ1 := hu.2.2.2.2
  rw [e1, e2, e3]
  exact h.congr (fun i hi => hu.1 i (by omega))
theorem Rl.con {τ : cT} {σ : rS} (h : Rl τ σ) : rCon σ := by
  obtain ⟨_, _, _, _, _, _, _, _, g8, g9, _, _, _⟩ := h
  exact ⟨g9, g8.1, g8.2.1, g8.2.2.2.2.1, g8.2.2.2.2.2⟩
theorem Rl.fine {τ : cT} {σ : rS} (h : Rl τ σ) : rFine σ := by
  have hc := h.con
  obtain ⟨_, _, g2, _, g4, _, _, _, _, _, g10, g11, _⟩ := h
  exact ⟨hc, g10, fun q hq => by rw [← g2 q hq]; exact g4 q (by omega), g11⟩
theorem Rl.reg {τ : cT} {σ : rS} (h : Rl τ σ) {i : Nat} (hi : i < 8) : cV τ i = rV σ i := h.2.1 i hi
theorem Rl.n2 {τ : cT} {σ : rS} (h : Rl τ σ) : ∀ q, q < 6 → cN τ q < 2 := h.2.2.2.2.1
theorem Rl.pt {τ : cT} {σ : rS} (h : Rl τ σ) : ∀ r, 8 ≤ r → r < 20 → cV τ r < rMod 0 := h.2.2.2.2.2.1
theorem Rl.xy {τ : cT} {σ : rS} (h : Rl τ σ) : cV τ 22 < rMod 0 ∧ cV τ 23 < rMod 0 := h.2.2.2.2.2.2.1
theorem Rl.none {τ : cT} {σ : rS} (h : Rl τ σ) {q : Nat} (hq : q < 4) : cN τ q = rN σ q := h.2.2.1 q hq
theorem Rl.spot {τ : cT} {σ : rS} (h : Rl τ σ) {q : Nat} (hq : q < 4) (hn : cN τ q = 0) : cV τ (8 + 2 * q) = rV σ (10 + 2 * q) ∧ cV τ (9 + 2 * q) = rV σ (11 + 2 * q) ∧ onN (rMod 0) (cV τ (8 + 2 * q)) (cV τ (9 + 2 * q)) := h.2.2.2.1 q hq hn
theorem Rl.base {τ : cT} {σ : rS} (h : Rl τ σ) : cN τ 4 = 0 ∧ cV τ 16 = bX ∧ cV τ 17 = bY := h.2.2.2.2.2.2.2.1
theorem Rl.rbase {τ : cT} {σ : rS} (h : Rl τ σ) : rV σ 18 = bX ∧ rV σ 19 = bY := ⟨h.2.2.2.2.2.2.2.2.1.2.2.1, h.2.2.2.2.2.2.2.2.1.2.2.2.1⟩
theorem Rl.b {τ : cT} {σ : rS} (h : Rl τ σ) : cB τ = rB σ ∧ (∀ j, j < 100 → cB τ j < 256) ∧ cM τ = rM σ ∧ cM τ ≤ 100 := by
  obtain ⟨_, _, _, _, _, _, _, _, _, _, _, _, g12⟩ := h
  exact g12
/-- registers alone change -/
theorem Rv.regs {V0 V N B X0 X N' B' : Nat → Nat} {M M' : Nat} (h : Rv V0 N B M X0 N' B' M') (h1 : ∀ r, r < 8 → V r = X r) (hk : ∀ r, 8 ≤ r → (r < 20 ∨ r = 22 ∨ r = 23) → V r = V0 r) (hX : ∀ r, 8 ≤ r → r < 31 → X r = X0 r) (hl : ∀ r, X r < b26 ^ 10) : Rv V N B M X N' B' M' := by
  obtain ⟨_, g2, g3, g4, g5, g6, g7, g8, _, g10, g11, g12⟩ := h
  refine ⟨h1, g2, fun q hq hn => ?_, g4, fun r a b => by rw [hk r a (by omega)]; exact g5 r a b, by rw [hk 22 (by omega) (by omega), hk 23 (by omega) (by omega)]; exact g6, by rw [hk 16 (by omega) (by omega), hk 17 (by omega) (by omega)]; exact g7, ?_, hl, fun r a b => by rw [hX r (by omega) b]; exact g10 r a b, fun r a b => by rw [hX r (by omega) (by omega)]; exact g11 r a b, g12⟩
  · rw [hk _ (by omega) (by omega), hk _ (by omega) (by omega), hX _ (by omega) (by omega), hX _ (by omega) (by omega)]
    exact g3 q hq hn
  · rw [hX 8 (by omega) (by omega), hX 9 (by omega) (by omega), hX 18 (by omega) (by omega), hX 19 (by omega) (by omega), hX 20 (by omega) (by omega), hX 21 (by omega) (by omega)]
    exact g8
/-- a spot changes -/
theorem Rv.put {V0 V N B X0 X N' B' : Nat → Nat} {M M' q0 nn : Nat} (h : Rv V0 N B M X0 N' B' M') (hq0 : q0 < 4) (hnn : nn < 2) (h1 : ∀ r, r < 8 → V r = V0 r) (hk : ∀ r, 8 ≤ r → r < 18 → r ≠ 8 + 2 * q0 → r ≠ 9 + 2 * q0 → V r = V0 r) (hv : V (8 + 2 * q0) < rMod 0 ∧ V (9 + 2 * q0) < rMod 0) (h18 : V 18 < rMod 0 ∧ V 19 < rMod 0) (h22 : V 22 < rMod 0 ∧ V 23 < rMod 0) (hn : nn = 0 → V (8 + 2 * q0) = X (10 + 2 * q0) ∧ V (9 + 2 * q0) = X (11 + 2 * q0) ∧ onN (rMod 0) (V (8 + 2 * q0)) (V (9 + 2 * q0)))
    (hX1 : ∀ r, r < 22 → r ≠ 10 + 2 * q0 → r ≠ 11 + 2 * q0 → X r = X0 r) (hX2 : X (10 + 2 * q0) < rMod 0 ∧ X (11 + 2 * q0) < rMod 0) (hX3 : ∀ r, 22 ≤ r → r < 31 → X r < rMod 0) (hl : ∀ r, X r < b26 ^ 10) : Rv V (va_up N q0 nn) B M X (va_up N' q0 nn) B' M' := by
  obtain ⟨g1, g2, g3, g4, g5, g6, g7, g8, _, g10, g11, g12⟩ := h
  refine ⟨fun r hr => by rw [h1 r hr, hX1 r (by omega) (by omega) (by omega)]; exact g1 r hr, fun q hq => ?_, fun q hq hz => ?_, fun q hq => ?_, fun r a b => ?_, h22, ?_, ?_, hl, hX3, fun r a b => ?_, g12⟩
  · by_cases e : q = q0
    · rw [e, up_self, up_self]
    · rw [up_ne _ _ e, up_ne _ _ e]; exact g2 q hq
  · by_cases e : q = q0
    · subst e
      rw [up_self] at hz
      exact hn hz
    · rw [up_ne _ _ e] at hz
      rw [hk _ (by omega) (by omega) (by omega) (by omega), hk _ (by omega) (by omega) (by omega) (by omega), hX1 _ (by omega) (by omega) (by omega), hX1 _ (by omega) (by omega) (by omega)]
      exact g3 q hq hz
  · by_cases e : q = q0
    · rw [e, up_self]; exact hnn
    · rw [up_ne _ _ e]; exact g4 q hq
  · by_cases e1 : r = 8 + 2 * q0
    · rw [e1]; exact hv.1
    · by_cases e2 : r = 9 + 2 * q0
      · rw [e2]; exact hv.2
      · by_cases e3 : r < 18
        · rw [hk r a e3 e1 e2]; exact g5 r a b
        · rcases (show r = 18 ∨ r = 19 by omega) with e | e
          · rw [e]; exact h18.1
          · rw [e]; exact h18.2
  · rw [up_ne _ _ (by omega), hk 16 (by omega) (by omega) (by omega) (by omega), hk 17 (by omega) (by omega) (by omega) (by omega)]
    exact g7
  · rw [hX1 8 (by omega) (by omega) (by omega), hX1 9 (by omega) (by omega) (by omega), hX1 18 (by omega) (by omega) (by omega), hX1 19 (by omega) (by omega) (by omega), hX1 20 (by omega) (by omega) (by omega), hX1 21 (by omega) (by omega) (by omega)]
    exact g8
  · by_cases e1 : r = 10 + 2 * q0
    · rw [e1]; exact hX2.1
    · by_cases e2 : r = 11 + 2 * q0
      · rw [e2]; exact hX2.2
      · rw [hX1 r (by omega) e1 e2]; exact g11 r a b
/-- the sum of two points, stored on both sides -/
theorem Rl.putA {τ u : cT} {σ w : rS} (h : Rl τ σ) {q : Nat} (hq : q < 4) {t t' : Nat × Nat × Nat} (ht : t3lt (rMod 0) t) (ht' : t3lt (rMod 0) t') {A : Option (Fin ec_P × Fin ec_P)} (hA : fpOn A) (hJ : @ec_J (Fin ec_P) ec_cr (ec_f t.1) (ec_f t.2.1) (ec_f t.2.2) A) (hH : @ec_H (Fin ec_P) ec_cr (ec_f t'.1) (ec_f t'.2.1) (ec_f t'.2.2) A) (hc : cPut τ q t u) (hr : rPut σ q t' w) : Rl u w := by
  letI := ec_cr
  obtain ⟨j1, j2⟩ := J_out ec_isfld fp_hom ht hJ (fp_inv ht.2.2)
  obtain ⟨k1, k2⟩ := H_out ec_isfld fp_hom ht' hH (fp_inv ht'.2.2)
  obtain ⟨V, hV, v1, v2, v3, v4⟩ := hc
  obtain ⟨X, hX, x1, x2, x3, x4, x5⟩ := hr
  have hM0 : 0 < rMod 0 := rMod_pos (by decide)
  have eN : boolN (t.2.2 = 0) = boolN (t'.2.2 = 0) := by
    by_cases c : t.2.2 = 0
    · have c' : t'.2.2 = 0 := by
        by_cases c' : t'.2.2 = 0
        · exact c'
        · have e := k2 c'
          rw [j1 c] at e
          cases e
      rw [boolN_t c, boolN_t c']
    · have c' : ¬ t'.2.2 = 0 := fun c' => by
        have e := j2 c
        rw [k1 c'] at e
        cases e
      rw [boolN_f c, boolN_f c']
  refine Rl.of hV hX ?_
  show Rv V (va_up (cN τ) q (boolN (t.2.2 = 0))) (cB τ) (cM τ) X (va_up (rN σ) q (boolN (t'.2.2 = 0))) (rB σ) (rM σ)
  rw [← eN]
  have hvl : V (8 + 2 * q) < rMod 0 ∧ V (9 + 2 * q) < rMod 0 := by
    by_cases c : t.2.2 = 0
    · rw [(v2 c).1, (v2 c).2]
      exact ⟨h.pt _ (by omega) (by omega), h.pt _ (by omega) (by omega)⟩
    · rw [(v1 c).1, (v1 c).2]
      exact ⟨mm_lt hM0, mm_lt hM0⟩
  have hxl : X (10 + 2 * q) < rMod 0 ∧ X (11 + 2 * q) < rMod 0 := by
    by_cases c : t'.2.2 = 0
    · rw [(x2 c).1, (x2 c).2]
      exact ⟨h.fine.2.2.2 _ (by omega) (by omega), h.fine.2.2.2 _ (by omega) (by omega)⟩
    · rw [(x1 c).1, (x1 c).2]
      exact ⟨mm_lt hM0, mm_lt hM0⟩
  refine Rv.put h.2 hq (boolN_lt _) (fun r hr => v4 r (by omega) (by omega) (by omega)) (fun r a b c d => v4 r (by omega) c d) hvl ?_ ⟨v3.1, v3.2.1⟩ (fun hz => ?_) (fun r a b c => x3 r b c (by omega)) hxl x4 x5
  · rw [v4 18 (by omega) (by omega) (by omega), v4 19 (by omega) (by omega) (by omega)]
    exact ⟨h.pt _ (by decide) (by decide), h.pt _ (by decide) (by decide)⟩
  · have c : t.2.2 ≠ 0 := boolN_0 hz
    have c' : t'.2.2 ≠ 0 := boolN_0 (eN ▸ hz)
    have e1 := j2 c
    have e2 := k2 c'
    rw [← (v1 c).1, ← (v1 c).2] at e1
    rw [← (x1 c').1, ← (x1 c').2] at e2
    have e3 := Option.some.inj (e1.symm.trans e2)
    rw [Prod.mk.injEq] at e3
    refine ⟨?_, ?_, ?_⟩
    · have l1 := hvl.1
      have l2 := hxl.1
      rw [rMod0] at l1 l2
      exact ec_f_inj l1 l2 e3.1
    · have l1 := hvl.2
      have l2 := hxl.2
      rw [rMod0] at l1 l2
      exact ec_f_inj l1 l2 e3.2
    · exact fp_of_on hvl.1 hvl.2 (by rw [← e1]; exact hA)
