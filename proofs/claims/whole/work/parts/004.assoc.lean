/-! the sum of points is associative -/
theorem ec_assoc_sl {F : Type} [Lean.Grind.CommRing F] {inv : F → F} (hF : ec_fld inv) {x1 y1 x2 y2 x3 y3 x4 y4 x6 y6 l n m k : F}
    (hl : ec_sl x1 y1 x2 y2 l) (hn : ec_sl x2 y2 x3 y3 n) (e4 : x4 = l*l - x1 - x2) (f4 : y4 = l*(x1 - (l*l - x1 - x2)) - y1) (e6 : x6 = n*n - x2 - x3) (f6 : y6 = n*(x2 - (n*n - x2 - x3)) - y2)
    (hm : ec_sl x4 y4 x3 y3 m) (hk : ec_sl x1 y1 x6 y6 k) (d1 : ¬ (x4 = x3 ∧ y4 + y3 = 0)) (d2 : ¬ (x1 = x6 ∧ y1 + y6 = 0)) : ec_out x4 y4 x3 m = ec_out x1 y1 x6 k := by
  obtain ⟨l1, l2⟩ := hl
  obtain ⟨n1, n2⟩ := hn
  obtain ⟨m1, m2⟩ := hm
  obtain ⟨k1, k2⟩ := hk
  have ey1 : y1 = y2 + l*(x1 - x2) := by clear l2 n1 n2 m1 m2 k1 k2 d1 d2 e4 f4 e6 f6; grind
  have ey3 : y3 = y2 + n*(x3 - x2) := by clear l1 l2 n2 m1 m2 k1 k2 d1 d2 e4 f4 e6 f6 ey1; grind
  subst ey1
  subst ey3
  subst e4
  subst e6
  have q1 : x1*x1 + x1*x2 + x2*x2 - l*(2*y2 + l*(x1 - x2)) = 0 := by clear m1 m2 k1 k2 n1 n2 d1 d2 f4 f6; grind
  have q3 : x3*x3 + x3*x2 + x2*x2 - n*(2*y2 + n*(x3 - x2)) = 0 := by clear m1 m2 k1 k2 l1 l2 d1 d2 f4 f6 q1; grind
  clear l1 l2 n1 n2
  subst f4
  subst f6
  -- the four ways to know the two slopes
  have key : ∀ D1 N1 D2 N2 : F, D1 ≠ 0 → D2 ≠ 0 → m*D1 = N1 → k*D2 = N2 →
      N1*N1*(D2*D2) - N2*N2*(D1*D1) - (x3 + (l*l - x1 - x2) - x1 - (n*n - x2 - x3))*(D1*D1)*(D2*D2) = 0 →
      N1*D2*(2*x3 + (l*l - x1 - x2))*(D1*D1) - N1*N1*N1*D2 - (y2 + n*(x3 - x2))*(D1*D1*D1)*D2 - N2*D1*((x1 + x3 + (l*l - x1 - x2))*(D1*D1) - N1*N1) + (y2 + l*(x1 - x2))*(D1*D1*D1)*D2 = 0 →
      ec_out (l*l - x1 - x2) (l*(x1 - (l*l - x1 - x2)) - (y2 + l*(x1 - x2))) x3 m = ec_out x1 (y2 + l*(x1 - x2)) (n*n - x2 - x3) k := by
    intro D1 N1 D2 N2 hD1 hD2 hN1 hN2 ix iy
    clear q1 q3 m2 k1 k2 d1 d2
    subst hN1
    subst hN2
    have gx : (m*m - (l*l - x1 - x2) - x3) - (k*k - x1 - (n*n - x2 - x3)) = 0 := by
      have h0 : (D1*D1*(D2*D2))*((m*m - (l*l - x1 - x2) - x3) - (k*k - x1 - (n*n - x2 - x3))) = 0 := by
        clear iy m1
        rw [← ix]
        grind
      clear ix iy m1
      rcases ec_nzd hF h0 with h | h
      · rcases ec_nzd hF h with h | h
        · rcases ec_nzd hF h with h | h <;> exact absurd h hD1
        · rcases ec_nzd hF h with h | h <;> exact absurd h hD2
      · exact h
    have gy : (m*((l*l - x1 - x2) - (m*m - (l*l - x1 - x2) - x3)) - (l*(x1 - (l*l - x1 - x2)) - (y2 + l*(x1 - x2)))) - (k*(x1 - (m*m - (l*l - x1 - x2) - x3)) - (y2 + l*(x1 - x2))) = 0 := by
      have g1 : m*((l*l - x1 - x2) - (m*m - (l*l - x1 - x2) - x3)) - (l*(x1 - (l*l - x1 - x2)) - (y2 + l*(x1 - x2))) = m*(x3 - (m*m - (l*l - x1 - x2) - x3)) - (y2 + n*(x3 - x2)) := by
        clear ix iy gx
        grind
      rw [g1]
      have h0 : (D1*D1*D1*D2)*((m*(x3 - (m*m - (l*l - x1 - x2) - x3)) - (y2 + n*(x3 - x2))) - (k*(x1 - (m*m - (l*l - x1 - x2) - x3)) - (y2 + l*(x1 - x2)))) = 0 := by
        clear ix gx g1 m1
        rw [← iy]
        grind
      clear ix iy m1
      rcases ec_nzd hF h0 with h | h
      · rcases ec_nzd hF h with h | h
        · rcases ec_nzd hF h with h | h
          · rcases ec_nzd hF h with h | h <;> exact absurd h hD1
          · exact absurd h hD1
        · exact absurd h hD2
      · exact h
    clear ix iy m1
    simp only [ec_out, Prod.mk.injEq]
    refine ⟨by grind, ?_⟩
    have g2 : k*k - x1 - (n*n - x2 - x3) = m*m - (l*l - x1 - x2) - x3 := by grind
    rw [g2]
    grind
  by_cases c1 : x3 - (l*l - x1 - x2) = 0
  · -- the third point is the sum of the first two
    have c1' : (l*(x1 - (l*l - x1 - x2)) - (y2 + l*(x1 - x2))) + (y2 + n*(x3 - x2)) ≠ 0 := by
      intro h
      refine d1 ⟨?_, h⟩
      clear key m1 m2 k1 k2 q1 q3 d1 d2 h
      grind
    have hx1 : x1 = l*l - x2 - x3 := by
      clear key m1 m2 k1 k2 q1 q3 d1 d2 c1'
      grind
    subst hx1
    have hs : l*l - (l*l - x2 - x3) - x2 = x3 := by
      clear key m1 m2 k1 k2 q1 q3 d1 d2 c1 c1'
      grind
    rw [hs] at c1' m1 m2 d1 key ⊢
    have hd : (l*((l*l - x2 - x3) - x3) - (y2 + l*((l*l - x2 - x3) - x2)) - (y2 + n*(x3 - x2)))*(l*((l*l - x2 - x3) - x3) - (y2 + l*((l*l - x2 - x3) - x2)) + (y2 + n*(x3 - x2))) = 0 := by
      have e : (l*((l*l - x2 - x3) - x3) - (y2 + l*((l*l - x2 - x3) - x2)) - (y2 + n*(x3 - x2)))*(l*((l*l - x2 - x3) - x3) - (y2 + l*((l*l - x2 - x3) - x2)) + (y2 + n*(x3 - x2))) = ((l*l - x2 - x3)*(l*l - x2 - x3) + (l*l - x2 - x3)*x2 + x2*x2 - l*(2*y2 + l*((l*l - x2 - x3) - x2)))*(x2 - x3) + (x3*x3 + x3*x2 + x2*x2 - n*(2*y2 + n*(x3 - x2)))*(x3 - x2) := by
        clear key m1 m2 k1 k2 q1 q3 d1 d2 c1 c1' hs
        grind
      rw [e, q1, q3]
      clear key m1 m2 k1 k2 q1 q3 d1 d2 c1 c1' hs e
      grind
    have h2y : 2*y2 = (n + l)*(x2 - x3) := by
      rcases ec_nzd hF hd with h | h
      · clear key m1 m2 k1 k2 q1 q3 d1 d2 c1 c1' hs hd
        grind
      · exact absurd h c1'
    have q : x2*x2 + x2*x3 + x3*x3 - n*l*(x2 - x3) = 0 := by
      rw [h2y] at q3
      clear key m1 m2 k1 k2 q1 d1 d2 c1 c1' hs hd h2y
      grind
    have eD1 : l*((l*l - x2 - x3) - x3) - (y2 + l*((l*l - x2 - x3) - x2)) + (y2 + n*(x3 - x2)) = (l - n)*(x2 - x3) := by
      clear key m1 m2 k1 k2 q1 q3 d1 d2 c1 c1' hs hd h2y q
      grind
    have eN1 : x3*x3 + x3*x3 + x3*x3 = 3*(x3*x3) := by
      clear key m1 m2 k1 k2 q1 q3 d1 d2 c1 c1' hs hd h2y q eD1
      grind
    rw [eD1] at c1' m2
    rw [eN1] at m2
    have eY : ∀ Z : F, -((y2 + n*(x3 - x2))*Z) + (y2 + l*((l*l - x2 - x3) - x2))*Z = (l*((l*l - x2 - x3) - x2) - n*(x3 - x2))*Z := by
      clear key m1 m2 k1 k2 q1 q3 d1 d2 c1 c1' hs hd h2y q eD1 eN1
      intro Z
      grind
    by_cases c2 : (n*n - x2 - x3) - (l*l - x2 - x3) = 0
    · have c2' : (y2 + l*((l*l - x2 - x3) - x2)) + (n*(x2 - (n*n - x2 - x3)) - y2) ≠ 0 := by
        intro h
        refine d2 ⟨?_, h⟩
        clear key m1 m2 k1 k2 q1 q3 d1 d2 h c1 c1' hs hd h2y q eD1 eN1 eY
        grind
      have eD2 : (y2 + l*((l*l - x2 - x3) - x2)) + (n*(x2 - (n*n - x2 - x3)) - y2) = l*((l*l - x2 - x3) - x2) + n*(x2 - (n*n - x2 - x3)) := by
        clear key m1 m2 k1 k2 q1 q3 d1 d2 c1 c1' hs hd h2y q eD1 eN1 eY c2 c2'
        grind
      rw [eD2] at c2' k2
      refine key _ _ _ _ c1' c2' m2 k2 (ec_idx11 x2 x3 l n q) ?_
      have i := ec_idy11 x2 x3 l n q
      clear key m1 m2 k1 k2 q1 q3 d1 d2 c1 c1' hs hd h2y q eD1 eN1 c2 c2' eD2
      rw [← i]
      have := eY (((l - n)*(x2 - x3))*((l - n)*(x2 - x3))*((l - n)*(x2 - x3))*(l*((l*l - x2 - x3) - x2) + n*(x2 - (n*n - x2 - x3))))
      clear i
      grind
    · have eN2 : n*(x2 - (n*n - x2 - x3)) - y2 - (y2 + l*((l*l - x2 - x3) - x2)) = n*(x2 - (n*n - x2 - x3)) - (n + l)*(x2 - x3) - l*((l*l - x2 - x3) - x2) := by
        rw [← h2y]
        clear key m1 m2 k1 k2 q1 q3 d1 d2 c1 c1' hs hd h2y q eD1 eN1 eY c2
        grind
      rw [eN2] at k1
      refine key _ _ _ _ c1' c2 m2 k1 (ec_idx10 x2 x3 l n q) ?_
      have i := ec_idy10 x2 x3 l n q
      clear key m1 m2 k1 k2 q1 q3 d1 d2 c1 c1' hs hd h2y q eD1 eN1 c2 eN2
      rw [← i]
      have := eY (((l - n)*(x2 - x3))*((l - n)*(x2 - x3))*((l - n)*(x2 - x3))*((n*n - x2 - x3) - (l*l - x2 - x3)))
      clear i
      grind
  · by_cases c2 : (n*n - x2 - x3) - x1 = 0
    · have c2' : (y2 + l*(x1 - x2)) + (n*(x2 - (n*n - x2 - x3)) - y2) ≠ 0 := by
        intro h
        refine d2 ⟨?_, h⟩
        clear key m1 m2 k1 k2 q1 q3 d1 d2 h c1
        grind
      exact key _ _ _ _ c1 c2' m1 k2 (ec_idx01 x1 x2 x3 y2 l n q1 q3) (ec_idy01 x1 x2 x3 y2 l n q1 q3)
    · exact key _ _ _ _ c1 c2 m1 k1 (ec_idx00 x1 x2 x3 y2 l n q1 q3) (ec_idy00 x1 x2 x3 y2 l n q1 q3)
theorem ec_assoc {F : Type} [Lean.Grind.CommRing F] [DecidableEq F] {inv : F → F} (hF : ec_fld inv) {b : F} (hb : b ≠ 0) {A B C : Option (F × F)} (hA : ec_on b A) (hB : ec_on b B) (hC : ec_on b C) : ec_add inv (ec_add inv A B) C = ec_add inv A (ec_add inv B C) := by
  match A, B, C, hA, hB, hC with
  | none, B, C, _, _, _ => rfl
  | some a, none, C, _, _, _ => rfl
  | some a, some c, none, _, _, _ => rw [ec_add_none, ec_add_none]
  | some (x1, y1), some (x2, y2), some (x3, y3), hA, hB, hC =>
    by_cases hd : x1 = x2 ∧ y1 + y2 = 0
    · -- B is -A
      have hBn : some (x2, y2) = ec_neg (some (x1, y1)) := by
        show some (x2, y2) = some (x1, -y1)
        rw [hd.1, show -y1 = y2 by have := hd.2; grind]
      rw [ec_add_dg hd, hBn]
      have h := ec_back hF hb (ec_neg_on hA) hC
      rw [ec_neg_neg] at h
      exact h.symm
    by_cases hd3 : x2 = x3 ∧ y2 + y3 = 0
    · have hCn : some (x3, y3) = ec_neg (some (x2, y2)) := by
        show some (x3, y3) = some (x2, -y2)
        rw [← hd3.1, show -y2 = y3 by have := hd3.2; grind]
      rw [ec_add_dg hd3, hCn, ec_add_none]
      have h := ec_back hF hb hB hA
      rw [ec_add_comm hF (ec_add_on hF hA hB) (ec_neg_on hB), ec_add_comm hF hA hB]
      exact h
    obtain ⟨l, hl, eAB⟩ := ec_sl_ex hF hA hB hd
    obtain ⟨n, hn, eBC⟩ := ec_sl_ex hF hB hC hd3
    have onAB := ec_out_on hA hl
    have onBC := ec_out_on hB hn
    by_cases d1 : (ec_out x1 y1 x2 l).1 = x3 ∧ (ec_out x1 y1 x2 l).2 + y3 = 0
    · -- C is -(A + B)
      have hCn : some (x3, y3) = ec_neg (ec_add inv (some (x1, y1)) (some (x2, y2))) := by
        rw [eAB]
        show some (x3, y3) = some ((ec_out x1 y1 x2 l).1, -(ec_out x1 y1 x2 l).2)
        rw [d1.1, show -(ec_out x1 y1 x2 l).2 = y3 by have := d1.2; grind]
      have hlast : ec_add inv (ec_add inv (some (x1, y1)) (some (x2, y2))) (some (x3, y3)) = none := by rw [hCn]; exact ec_add_neg _
      rw [hlast]
      have h := ec_back hF hb hB hA
      have h2 := ec_neg_add hF (ec_neg_on hB) (ec_add_on hF hB hA)
      rw [h, ec_neg_neg, ec_add_comm hF hB hA, ← hCn] at h2
      rw [h2, ec_add_neg]
    by_cases d2 : x1 = (ec_out x2 y2 x3 n).1 ∧ y1 + (ec_out x2 y2 x3 n).2 = 0
    · -- B + C is -A
      have hBn : ec_add inv (some (x2, y2)) (some (x3, y3)) = ec_neg (some (x1, y1)) := by
        rw [eBC]
        show some ((ec_out x2 y2 x3 n).1, (ec_out x2 y2 x3 n).2) = some (x1, -y1)
        rw [← d2.1, show -y1 = (ec_out x2 y2 x3 n).2 by have := d2.2; grind]
      rw [hBn, ec_add_neg]
      have h := ec_back hF hb hB hC
      rw [hBn, ec_neg_add hF hB hA, ec_add_comm hF hB hA] at h
      rw [← h, ec_add_neg]
    rw [eAB, eBC]
    obtain ⟨m, hm, eL⟩ := ec_sl_ex (x1 := (ec_out x1 y1 x2 l).1) (y1 := (ec_out x1 y1 x2 l).2) hF onAB hC d1
    obtain ⟨k, hk, eR⟩ := ec_sl_ex (x2 := (ec_out x2 y2 x3 n).1) (y2 := (ec_out x2 y2 x3 n).2) hF hA onBC d2
    have eL' : ec_add inv (some (ec_out x1 y1 x2 l)) (some (x3, y3)) = some (ec_out (ec_out x1 y1 x2 l).1 (ec_out x1 y1 x2 l).2 x3 m) := eL
    have eR' : ec_add inv (some (x1, y1)) (some (ec_out x2 y2 x3 n)) = some (ec_out x1 y1 (ec_out x2 y2 x3 n).1 k) := eR
    rw [eL', eR']
    exact congrArg some (ec_assoc_sl hF hl hn rfl rfl rfl rfl hm hk d1 d2)
