/-! each call, second half: points, bytes, keys, signatures -/
theorem Rl.pof {τ : cT} {σ : rS} (h : Rl τ σ) {a : Nat} (ha : a < 4) : pOf ec_f (cN τ a) (cV τ (8 + 2 * a)) (cV τ (9 + 2 * a)) = pOf ec_f (rN σ a) (rV σ (10 + 2 * a)) (rV σ (11 + 2 * a)) := by
  unfold pOf
  rw [← h.none ha]
  by_cases hn : cN τ a = 0
  · rw [if_pos hn, if_pos hn, (h.spot ha hn).1, (h.spot ha hn).2.1]
  · rw [if_neg hn, if_neg hn]
theorem Rl.pon {τ : cT} {σ : rS} (h : Rl τ σ) {a : Nat} (ha : a < 4) : fpOn (pOf ec_f (cN τ a) (cV τ (8 + 2 * a)) (cV τ (9 + 2 * a))) := fp_on (fun hn => (h.spot ha hn).2.2)
theorem H_pt {n x y : Nat} (hn : n < 2) : @ec_H (Fin ec_P) ec_cr (ec_f x) (ec_f y) (ec_f (1 - n)) (pOf ec_f n x y) := by
  letI := ec_cr
  unfold pOf
  by_cases h : n = 0
  · rw [if_pos h, h]
    show ec_H (ec_f x) (ec_f y) (ec_f 1) (some (ec_f x, ec_f y))
    have e : ec_f 1 = 1 := ec_f_1
    refine ⟨?_, ?_, ?_⟩
    · rw [e]
      exact ec_one ec_isfld
    · show ec_f x = ec_f x * ec_f 1
      rw [e]
      grind
    · show ec_f y = ec_f y * ec_f 1
      rw [e]
      grind
  · rw [if_neg h, show 1 - n = 0 by omega]
    exact ec_f_0
theorem Rl.rpt {τ : cT} {σ : rS} (h : Rl τ σ) {a : Nat} (ha : a < 4) : @ec_H (Fin ec_P) ec_cr (ec_f (rPt σ a).1) (ec_f (rPt σ a).2.1) (ec_f (rPt σ a).2.2) (pOf ec_f (cN τ a) (cV τ (8 + 2 * a)) (cV τ (9 + 2 * a))) := by
  rw [h.pof ha]
  exact H_pt (h.fine.2.2.1 a ha)
theorem Rl.rpt_lt {τ : cT} {σ : rS} (h : Rl τ σ) {a : Nat} (ha : a < 4) : t3lt (rMod 0) (rPt σ a) := by
  have h1 := rMod_one (μ := 0) (by decide)
  refine ⟨h.fine.2.2.2 _ (by omega) (by omega), h.fine.2.2.2 _ (by omega) (by omega), ?_⟩
  show 1 - rN σ a < rMod 0
  omega
theorem J_start {x y : Nat} : @ec_J (Fin ec_P) ec_cr (ec_f x) (ec_f y) (ec_f 0) none := ec_f_0
theorem Rl.t0 {τ : cT} {σ : rS} (h : Rl τ σ) : t3lt (rMod 0) (cV τ 22, cV τ 23, 0) := ⟨h.xy.1, h.xy.2, rMod_pos (by decide)⟩
theorem st_sum {τ u : cT} {σ w : rS} {r r' : Int32} (h : Rl τ σ) {x y z : Int32}
    (hp : (¬ (okR x 4 ∧ okR y 4 ∧ okR z 4) → r = nI 0 ∧ u = τ) ∧ ∀ q a b, q < 4 → a < 4 → b < 4 → x = nI q → y = nI a → z = nI b → r = nI 1 ∧ cPut τ q (cin (rMod 0) (cin (rMod 0) (cV τ 22, cV τ 23, 0) (cN τ a) (cV τ (8 + 2 * a)) (cV τ (9 + 2 * a))) (cN τ b) (cV τ (8 + 2 * b)) (cV τ (9 + 2 * b))) u)
    (hq : (¬ (okR x 4 ∧ okR y 4 ∧ okR z 4) → r' = nI 0 ∧ w = σ) ∧ ∀ q a b, q < 4 → a < 4 → b < 4 → x = nI q → y = nI a → z = nI b → r' = nI 1 ∧ rPut σ q (jn (rMod 0) (rPt σ a).1 (rPt σ a).2.1 (rPt σ a).2.2 (rPt σ b).1 (rPt σ b).2.1 (rPt σ b).2.2) w) : r = r' ∧ Rl u w := by
  by_cases k : okR x 4 ∧ okR y 4 ∧ okR z 4
  · obtain ⟨q, hq4, e1⟩ := k.1.ex (by decide)
    obtain ⟨a, ha, e2⟩ := k.2.1.ex (by decide)
    obtain ⟨b, hb, e3⟩ := k.2.2.ex (by decide)
    obtain ⟨r1, c1⟩ := hp.2 q a b hq4 ha hb e1 e2 e3
    obtain ⟨r2, c2⟩ := hq.2 q a b hq4 ha hb e1 e2 e3
    refine ⟨r1.trans r2.symm, ?_⟩
    letI := ec_cr
    have hM1 : 1 < rMod 0 := rMod_one (by decide)
    have hA := h.pon ha
    have hB := h.pon hb
    have l1 := cin_lt (nn := cN τ a) (px := cV τ (8 + 2 * a)) (py := cV τ (9 + 2 * a)) hM1 h.t0 (h.pt _ (by omega) (by omega)) (h.pt _ (by omega) (by omega))
    have j1 := J_in ec_isfld fp_hom h.t0 (A := none) (b := ec_f 7) trivial J_start hA
    rw [ec_none_add] at j1
    have j2 := J_in ec_isfld fp_hom l1 hA j1 hB
    have l2 := cin_lt (nn := cN τ b) (px := cV τ (8 + 2 * b)) (py := cV τ (9 + 2 * b)) hM1 l1 (h.pt _ (by omega) (by omega)) (h.pt _ (by omega) (by omega))
    have k1 := H_jn ec_isfld fp_hom (h.rpt_lt ha).2.2 (h.rpt_lt hb).2.2 hA hB (h.rpt ha) (h.rpt hb)
    have l3 := jn_lt (M := rMod 0) (by omega) (h.rpt_lt ha).1 (h.rpt_lt ha).2.1 (h.rpt_lt ha).2.2 (h.rpt_lt hb).1 (h.rpt_lt hb).2.1 (h.rpt_lt hb).2.2
    exact h.putA hq4 l2 l3 (ec_add_on ec_isfld hA hB) j2 k1 c1 c2
  · obtain ⟨r1, e1⟩ := hp.1 k
    obtain ⟨r2, e2⟩ := hq.1 k
    rw [e1, e2]
    exact ⟨r1.trans r2.symm, h⟩
theorem st_times {τ u : cT} {σ w : rS} {r r' : Int32} (h : Rl τ σ) {x y z : Int32}
    (hp : (¬ (okR x 4 ∧ okR y 4 ∧ okR z 8) → r = nI 0 ∧ u = τ) ∧ ∀ q a b, q < 4 → a < 4 → b < 8 → x = nI q → y = nI a → z = nI b → r = nI 1 ∧ cPut τ q (crun (rMod 0) (cPt τ a) (cPt τ a) (cV τ 22, cV τ 23, 0) (cV τ b) (cV τ 34) 256) u)
    (hq : (¬ (okR x 4 ∧ okR y 4 ∧ okR z 8) → r' = nI 0 ∧ w = σ) ∧ ∀ q a b, q < 4 → a < 4 → b < 8 → x = nI q → y = nI a → z = nI b → r' = nI 1 ∧ rPut σ q (mrun (rMod 0) (rPt σ a) (rV σ 25, rV σ 26, 0) (rV σ b) 256) w) : r = r' ∧ Rl u w := by
  by_cases k : okR x 4 ∧ okR y 4 ∧ okR z 8
  · obtain ⟨q, hq4, e1⟩ := k.1.ex (by decide)
    obtain ⟨a, ha, e2⟩ := k.2.1.ex (by decide)
    obtain ⟨b, hb, e3⟩ := k.2.2.ex (by decide)
    obtain ⟨r1, c1⟩ := hp.2 q a b hq4 ha hb e1 e2 e3
    obtain ⟨r2, c2⟩ := hq.2 q a b hq4 ha hb e1 e2 e3
    refine ⟨r1.trans r2.symm, ?_⟩
    letI := ec_cr
    have hM1 : 1 < rMod 0 := rMod_one (by decide)
    have hA := h.pon ha
    have p1 := h.pt (8 + 2 * a) (by omega) (by omega)
    have p2 := h.pt (9 + 2 * a) (by omega) (by omega)
    have j1 := J_run ec_isfld fp_hom ec_seven (p := cPt τ a) (q := cPt τ a) p1 p2 p1 p2 h.t0 rfl hA hA rfl rfl (cV τ b) (cV τ 34) 256
    rw [ec_da2_eq ec_isfld ec_seven hA hA, show cV τ 34 = 0 from rfl, ec_da_0, ec_add_none] at j1
    rw [show cV τ 34 = 0 from rfl] at c1
    have l1 := crun_lt (k := cV τ b) (m := 0) hM1 (P := cPt τ a) (Q := cPt τ a) h.t0 p1 p2 p1 p2 256
    have t1 : t3lt (rMod 0) (rV σ 25, rV σ 26, 0) := ⟨h.fine.2.1 _ (by decide) (by decide), h.fine.2.1 _ (by decide) (by decide), by show 0 < rMod 0; omega⟩
    have k1 := H_run ec_isfld fp_hom (h.rpt_lt ha) t1 rfl hA (h.rpt ha) (rV σ b) 256
    rw [← h.reg hb] at k1 c2
    have l3 := mrun_lt (k := cV τ b) (show 0 < rMod 0 by omega) (h.rpt_lt ha) t1 256
    exact h.putA hq4 l1 l3 (ec_da_on ec_isfld hA _ _) j1 k1 c1 c2
  · obtain ⟨r1, e1⟩ := hp.1 k
    obtain ⟨r2, e2⟩ := hq.1 k
    rw [e1, e2]
    exact ⟨r1.trans r2.symm, h⟩
theorem cOk.reg8 {τ : cT} (h : cOk τ) {i : Nat} (hi : i < 30) : cV τ i < W8 := cV_lt h (by omega) (by omega)
theorem st_place {τ u : cT} {σ w : rS} {r r' : Int32} (h : Rl τ σ) {x y z : Int32}
    (hp : (¬ (okR x 4 ∧ okR y 8 ∧ okR z 8 ∧ y ≠ z) → r = -1 ∧ u = τ) ∧ ∀ q a b, q < 4 → a < 8 → b < 8 → a ≠ b → x = nI q → y = nI a → z = nI b → (cN τ q ≠ 0 → r = nI 0 ∧ u = τ) ∧ (cN τ q = 0 → r = nI 1 ∧ u = csV (csV τ a (cV τ (8 + 2 * q))) b (cV τ (9 + 2 * q))))
    (hq : (¬ (okR x 4 ∧ okR y 8 ∧ okR z 8 ∧ y ≠ z) → r' = -1 ∧ w = σ) ∧ ∀ q a b, q < 4 → a < 8 → b < 8 → a ≠ b → x = nI q → y = nI a → z = nI b → (rN σ q ≠ 0 → r' = nI 0 ∧ w = σ) ∧ (rN σ q = 0 → r' = nI 1 ∧ rU σ (va_up (va_up (rV σ) a (rV σ (10 + 2 * q))) b (rV σ (11 + 2 * q))) w)) : r = r' ∧ Rl u w := by
  by_cases k : okR x 4 ∧ okR y 8 ∧ okR z 8 ∧ y ≠ z
  · obtain ⟨q, hq4, e1⟩ := k.1.ex (by decide)
    obtain ⟨a, ha, e2⟩ := k.2.1.ex (by decide)
    obtain ⟨b, hb, e3⟩ := k.2.2.1.ex (by decide)
    have hab : a ≠ b := fun e => k.2.2.2 (by rw [e2, e3, e])
    have p := hp.2 q a b hq4 ha hb hab e1 e2 e3
    have q9 := hq.2 q a b hq4 ha hb hab e1 e2 e3
    rw [← h.none hq4] at q9
    by_cases hn : cN τ q = 0
    · obtain ⟨r1, c1⟩ := p.2 hn
      obtain ⟨r2, c2⟩ := q9.2 hn
      obtain ⟨s1, s2, s3⟩ := h.spot hq4 hn
      rw [← s1, ← s2] at c2
      refine ⟨r1.trans r2.symm, ?_⟩
      have hu1 := (cU.refl h.1).set (o := a) (x := cV τ (8 + 2 * q)) (w := csV τ a (cV τ (8 + 2 * q))) (by omega) (h.1.reg8 (by omega)) rfl
      have hu2 := hu1.set (o := b) (x := cV τ (9 + 2 * q)) (by omega) (h.1.reg8 (by omega)) c1
      exact Rl.of hu2 c2 (Rv.regs h.2 (up_eq (up_eq h.2.1 _ _) _ _) (fun r a b => by rw [up_ne _ _ (by omega), up_ne _ _ (by omega)]) (fun r a b => by rw [up_ne _ _ (by omega), up_ne _ _ (by omega)]) (up_l10 (up_l10 h.con.1 (W8_10 (h.1.reg8 (by omega)))) (W8_10 (h.1.reg8 (by omega)))))
    · obtain ⟨r1, c1⟩ := p.1 hn
      obtain ⟨r2, c2⟩ := q9.1 hn
      rw [c1, c2]
      exact ⟨r1.trans r2.symm, h⟩
  · obtain ⟨r1, e1⟩ := hp.1 k
    obtain ⟨r2, e2⟩ := hq.1 k
    rw [e1, e2]
    exact ⟨r1.trans r2.symm, h⟩
theorem Rv.bytes {V N B B2 X N' B' B2' : Nat → Nat} {M M' M2 M2' : Nat} (h : Rv V N B M X N' B' M') (e : B2 = B2' ∧ (∀ j, j < 100 → B2 j < 256) ∧ M2 = M2' ∧ M2 ≤ 100) : Rv V N B2 M2 X N' B2' M2' := by
  obtain ⟨g1, g2, g3, g4, g5, g6, g7, g8, g9, g10, g11, _⟩ := h
  exact ⟨g1, g2, g3, g4, g5, g6, g7, g8, g9, g10, g11, e⟩
theorem pb_lt (v : Nat) : ∀ (k m : Nat) (B : Nat → Nat), (∀ j, j < 100 → B j < 256) → ∀ j, j < 100 → pb v k m B j < 256
  | 0, _, _, h => h
  | k + 1, m, B, h => pb_lt v k (m + 1) _ (fun j hj => by
    by_cases e : j = m
    · rw [e, up_self]; exact Nat.mod_lt _ (by decide)
    · rw [up_ne _ _ e]; exact h j hj)
theorem st_put {τ u : cT} {σ w : rS} {r r' : Int32} (h : Rl τ σ) {v : Nat} {x : Int32}
    (hp : (¬ (¬ x < nI 1 ∧ ¬ nI 8 < x) → r = nI 0 ∧ u = τ) ∧ ∀ j, j < 9 → 0 < j → x = nI j → (¬ cM τ + j ≤ 100 → r = nI 0 ∧ u = τ) ∧ (cM τ + j ≤ 100 → r = nI 1 ∧ u = cs2 τ (pb v j (cM τ) (cB τ)) (cM τ + j)))
    (hq : (¬ (¬ x < nI 1 ∧ ¬ nI 8 < x) → r' = nI 0 ∧ w = σ) ∧ ∀ j, j < 9 → 0 < j → x = nI j → (¬ rM σ + j ≤ 100 → r' = nI 0 ∧ w = σ) ∧ (rM σ + j ≤ 100 → r' = nI 1 ∧ w = rsM (rsB σ (pb v j (rM σ) (rB σ))) (rM σ + j))) : r = r' ∧ Rl u w := by
  by_cases k : ¬ x < nI 1 ∧ ¬ nI 8 < x
  · obtain ⟨j, lt_j, ex⟩ : ∃ j : Nat, j < 9 ∧ x = nI j := by
      rcases pk_ix x (n := 9) (by decide) with h1 | h1 | h1
      · exact absurd (Int32.lt_trans h1 (by decide)) k.1
      · exact absurd ((gt_le (k := 8) (by decide)).mpr h1) k.2
      · exact h1
    have j0 : 0 < j := by
      rcases Nat.eq_zero_or_pos j with h1 | h1
      · rw [ex, h1] at k
        exact absurd (by decide) k.1
      · exact h1
    have p := hp.2 j lt_j j0 ex
    have q := hq.2 j lt_j j0 ex
    obtain ⟨b1, b2, b3, b4⟩ := h.b
    rw [← b1, ← b3] at q
    by_cases co : cM τ + j ≤ 100
    · obtain ⟨r1, c1⟩ := p.2 co
      obtain ⟨r2, c2⟩ := q.2 co
      refine ⟨r1.trans r2.symm, ?_⟩
      rw [c1, c2]
      exact ⟨h.1, Rv.bytes h.2 ⟨rfl, pb_lt v j _ _ b2, rfl, co⟩⟩
    · obtain ⟨r1, c1⟩ := p.1 co
      obtain ⟨r2, c2⟩ := q.1 co
      rw [c1, c2]
      exact ⟨r1.trans r2.symm, h⟩
  · obtain ⟨r1, e1⟩ := hp.1 k
    obtain ⟨r2, e2⟩ := hq.1 k
    rw [e1, e2]
    exact ⟨r1.trans r2.symm, h⟩
theorem Rl.taken {τ : cT} {σ : rS} (h : Rl τ σ) : Rl (csM τ 0) (rsM σ 0) := ⟨h.1, Rv.bytes h.2 ⟨h.b.1, h.b.2.1, rfl, (show 0 ≤ 100 by decide)⟩⟩
theorem fe_neg {F : Type} [Lean.Grind.CommRing F] (a : F) : (0 - a)*(0 - a) = a*a := by grind
theorem neg_sq {a : Nat} (ha : a < rMod 0) : mm (rMod 0) (ss (rMod 0) 0 a) (ss (rMod 0) 0 a) = mm (rMod 0) a a := by
  have e : ec_f (mm (rMod 0) (ss (rMod 0) 0 a) (ss (rMod 0) 0 a)) = ec_f (mm (rMod 0) a a) := by
    letI := ec_cr
    rw [fp_hom.1, fp_hom.1, fp_hom.2.2.1 _ _ ha, fp_hom.2.2.2.2.2.1]
    exact fe_neg (ec_f a)
  have l1 : mm (rMod 0) (ss (rMod 0) 0 a) (ss (rMod 0) 0 a) < rMod 0 := mm_lt (rMod_pos (by decide))
  have l2 : mm (rMod 0) a a < rMod 0 := mm_lt (rMod_pos (by decide))
  rw [rMod0] at l1 l2 e ⊢
  exact ec_f_inj l1 l2 e
theorem even_sq {a : Nat} (ha : a < rMod 0) : mm (rMod 0) (evenN (rMod 0) a) (evenN (rMod 0) a) = mm (rMod 0) a a := by
  unfold evenN
  split
  · exact neg_sq ha
  · rfl
theorem keyR_on {B : Nat → Nat} {m X Y : Nat} (h : keyR B m = some (X, Y)) : onN (rMod 0) X Y := by
  unfold keyR at h
  split at h
  · split at h
    · next _ hk =>
      have e := Option.some.inj h
      rw [Prod.mk.injEq] at e
      rw [← e.1, ← e.2]
      have l1 : keyE B < rMod 0 := evenN_lt (rootN_lt _)
      have s1 : mm (rMod 0) (keyE B) (keyE B) = keyS B := (even_sq (rootN_lt _)).trans hk.2
      split
      · exact ⟨hk.1, ss_lt (rMod_pos (by decide)), (neg_sq l1).trans s1⟩
      · exact ⟨hk.1, l1, s1⟩
    · cases h
  · split at h
    · split at h
      · next _ _ hk =>
        have e := Option.some.inj h
        rw [Prod.mk.injEq] at e
        rw [← e.1, ← e.2]
        exact hk
      · cases h
    · cases h
theorem st_key {τ u : cT} {σ w : rS} {r r' : Int32} (h : Rl τ σ) {x : Int32}
    (hp : (¬ okR x 4 → r = -1 ∧ u = τ) ∧ ∀ q, q < 4 → x = nI q → (keyR (cB τ) (cM τ) = none → r = nI 0 ∧ ∃ V, cU (csM τ 0) V u ∧ ∀ r, (r < 20 ∨ r = 22 ∨ r = 23) → V r = cV τ r) ∧ ∀ X Y, keyR (cB τ) (cM τ) = some (X, Y) → r = nI 1 ∧ cSet (csM τ 0) q X Y u)
    (hq : (¬ okR x 4 → r' = -1 ∧ w = σ) ∧ ∀ q, q < 4 → x = nI q → (keyR (rB σ) (rM σ) = none → r' = nI 0 ∧ ∃ V, rU (rsM σ 0) V w ∧ (∀ r, r < 31 → V r = rV σ r) ∧ ∀ r, V r < b26 ^ 10) ∧ ∀ X Y, keyR (rB σ) (rM σ) = some (X, Y) → r' = nI 1 ∧ rSet (rsM σ 0) q X Y w) : r = r' ∧ Rl u w := by
  by_cases k : okR x 4
  · obtain ⟨q, hq4, e⟩ := k.ex (by decide)
    have P := hp.2 q hq4 e
    have Q := hq.2 q hq4 e
    obtain ⟨b1, b2, b3, b4⟩ := h.b
    rw [← b1, ← b3] at Q
    cases hk : keyR (cB τ) (cM τ) with
    | none =>
      obtain ⟨r1, V, v1, v2⟩ := P.1 hk
      obtain ⟨r2, X, x1, x2, x3⟩ := Q.1 hk
      exact ⟨r1.trans r2.symm, h.taken.of1 (a := 0) (by decide) v1 x1 (by rw [v2 0 (by omega), x2 0 (by omega)]; exact h.reg (by decide)) (fun r _ b => v2 r b) (fun r _ b => x2 r b) x3⟩
    | some z =>
      obtain ⟨X, Y⟩ := z
      obtain ⟨r1, c1⟩ := P.2 X Y hk
      obtain ⟨r2, c2⟩ := Q.2 X Y hk
      exact ⟨r1.trans r2.symm, h.taken.set hq4 (keyR_on hk) c1 c2⟩
  · obtain ⟨r1, e1⟩ := hp.1 k
    obtain ⟨r2, e2⟩ := hq.1 k
    rw [e1, e2]
    exact ⟨r1.trans r2.symm, h⟩
theorem st_sig {τ u : cT} {σ w : rS} {r r' : Int32} (h : Rl τ σ) {x y : Int32}
    (hp : (¬ (okR x 8 ∧ okR y 8 ∧ x ≠ y) → r = -1 ∧ u = τ) ∧ ∀ a b, a < 8 → b < 8 → a ≠ b → x = nI a → y = nI b → (¬ okSig (cB τ) (cM τ) → r = nI 0 ∧ ∃ V, cU (csM τ 0) V u ∧ ∀ r, (r < 20 ∨ r = 22 ∨ r = 23) → V r = cV τ r) ∧ (okSig (cB τ) (cM τ) → r = nI 1 ∧ ∃ V, cU (csM τ 0) V u ∧ V a = bA (cB τ) 4 (cB τ 3) (cB τ 3) ∧ V b = bA (cB τ) (4 + cB τ 3 + 2) (cB τ (4 + cB τ 3 + 1)) (cB τ (4 + cB τ 3 + 1)) ∧ ∀ r, r ≠ a → r ≠ b → (r < 20 ∨ r = 22 ∨ r = 23) → V r = cV τ r))
    (hq : (¬ (okR x 8 ∧ okR y 8 ∧ x ≠ y) → r' = -1 ∧ w = σ) ∧ ∀ a b, a < 8 → b < 8 → a ≠ b → x = nI a → y = nI b → (¬ okSig (rB σ) (rM σ) → r' = nI 0 ∧ w = rsM σ 0) ∧ (okSig (rB σ) (rM σ) → r' = nI 1 ∧ w = rsV (rsM σ 0) (va_up (va_up (rV σ) a (bA (rB σ) 4 (rB σ 3) (rB σ 3))) b (bA (rB σ) (4 + rB σ 3 + 2) (rB σ (4 + rB σ 3 + 1)) (rB σ (4 + rB σ 3 + 1)))))) : r = r' ∧ Rl u w := by
  by_cases k : okR x 8 ∧ okR y 8 ∧ x ≠ y
  · obtain ⟨a, ha, e1⟩ := k.1.ex (by decide)
    obtain ⟨b, hb, e2⟩ := k.2.1.ex (by decide)
    have hab : a ≠ b := fun e => k.2.2 (by rw [e1, e2, e])
    have P := hp.2 a b ha hb hab e1 e2
    have Q := hq.2 a b ha hb hab e1 e2
    obtain ⟨b1, b2, b3, b4⟩ := h.b
    rw [← b1, ← b3] at Q
    by_cases co : okSig (cB τ) (cM τ)
    · obtain ⟨r1, V, v1, v2, v3, v4⟩ := P.2 co
      obtain ⟨r2, c2⟩ := Q.2 co
      refine ⟨r1.trans r2.symm, ?_⟩
      refine Rl.of v1 (rU.of c2) (Rv.regs h.taken.2 (fun r hr => ?_) (fun r a b => v4 r (by omega) (by omega) b) (fun r a b => by rw [up_ne _ _ (by omega), up_ne _ _ (by omega)]) (up_l10 (up_l10 h.con.1 (bA_lt _ _ _ _)) (bA_lt _ _ _ _)))
      by_cases c1 : r = b
      · rw [c1, v3, up_self]
      · rw [up_ne _ _ c1]
        by_cases c3 : r = a
        · rw [c3, v2, up_self]
        · rw [up_ne _ _ c3, v4 r c3 c1 (by omega)]
          exact h.reg hr
    · obtain ⟨r1, V, v1, v2⟩ := P.1 co
      obtain ⟨r2, c2⟩ := Q.1 co
      rw [c2]
      exact ⟨r1.trans r2.symm, h.taken.of1 (a := 0) (by decide) v1 (rU.rfl' _) ((v2 0 (by omega)).trans (h.reg (by decide))) (fun r _ b => v2 r b) (fun _ _ _ => rfl) h.con.1⟩
  · obtain ⟨r1, e1⟩ := hp.1 k
    obtain ⟨r2, e2⟩ := hq.1 k
    rw [e1, e2]
    exact ⟨r1.trans r2.symm, h⟩
theorem Rl.fits {τ : cT} {σ : rS} (h : Rl τ σ) {q : Nat} (hq : q < 4) (hn : cN τ q = 0) (r s z : Nat) : fitsC τ q r s z ↔ fitsR σ q r s z := by
  letI := ec_cr
  have hM1 : 1 < rMod 0 := rMod_one (by decide)
  obtain ⟨U1, hU1⟩ : ∃ U, U = fU1 z s := ⟨_, rfl⟩
  obtain ⟨U2, hU2⟩ : ∃ U, U = fU2 r s := ⟨_, rfl⟩
  have hB : fpOn (pOf ec_f 0 bX bY) := fp_on (fun _ => base_on)
  have hQ := h.pon hq
  have eB : cPt τ 4 = (0, bX, bY) := by unfold cPt; rw [h.base.1, show 8 + 2 * 4 = 16 from rfl, show 9 + 2 * 4 = 17 from rfl, h.base.2.1, h.base.2.2]
  have j1 := J_run ec_isfld fp_hom ec_seven (p := cPt τ 4) (q := cPt τ q) (A := pOf ec_f 0 bX bY) (B := pOf ec_f (cN τ q) (cV τ (8 + 2 * q)) (cV τ (9 + 2 * q))) (by rw [eB]; exact base_on.1) (by rw [eB]; exact base_on.2.1) (h.pt _ (by omega) (by omega)) (h.pt _ (by omega) (by omega)) h.t0 rfl hB hQ (by rw [eB]) rfl U1 U2 256
  rw [ec_da2_eq ec_isfld ec_seven hB hQ] at j1
  have l1 := crun_lt (k := U1) (m := U2) hM1 (P := cPt τ 4) (Q := cPt τ q) h.t0 (by rw [eB]; exact base_on.1) (by rw [eB]; exact base_on.2.1) (h.pt _ (by omega) (by omega)) (h.pt _ (by omega) (by omega)) 256
  have t1 : t3lt (rMod 0) (rV σ 25, rV σ 26, 0) := ⟨h.fine.2.1 _ (by decide) (by decide), h.fine.2.1 _ (by decide) (by decide), by show 0 < rMod 0; omega⟩
  have q1 : t3lt (rMod 0) (rV σ 18, rV σ 19, 1) := ⟨by show rV σ 18 < _; rw [h.rbase.1]; exact base_on.1, by show rV σ 19 < _; rw [h.rbase.2]; exact base_on.2.1, hM1⟩
  have hb1 : ec_H (ec_f (rV σ 18)) (ec_f (rV σ 19)) (ec_f 1) (pOf ec_f 0 bX bY) := by
    rw [h.rbase.1, h.rbase.2]
    exact H_pt (n := 0) (by decide)
  have k1 := H_run ec_isfld fp_hom (q := (rV σ 18, rV σ 19, 1)) q1 t1 rfl hB hb1 U1 256
  have m1 := mrun_lt (k := U1) (show 0 < rMod 0 by omega) q1 t1 256
  have t2 : t3lt (rMod 0) ((fA σ U1).1, (fA σ U1).2.1, 0) := ⟨m1.1, m1.2.1, by show 0 < rMod 0; omega⟩
  have k2 := H_run ec_isfld fp_hom (h.rpt_lt hq) t2 rfl hQ (h.rpt hq) U2 256
  have m2 := mrun_lt (k := U2) (show 0 < rMod 0 by omega) (h.rpt_lt hq) t2 256
  have oB := ec_da_on ec_isfld hB U1 256
  have oQ := ec_da_on ec_isfld hQ U2 256
  have k3 := H_jn ec_isfld fp_hom m2.2.2 m1.2.2 oQ oB k2 k1
  rw [ec_add_comm ec_isfld oQ oB] at k3
  have m3 := jn_lt (M := rMod 0) (by omega) m2.1 m2.2.1 m2.2.2 m1.1 m1.2.1 m1.2.2
  unfold fitsC fitsR
  rw [← hU1, ← hU2]
  have eT : cFt τ q r s z = crun (rMod 0) (cPt τ 4) (cPt τ q) (cV τ 22, cV τ 23, 0) U1 U2 256 := by rw [hU1, hU2]; rfl
  rw [eT]
  obtain ⟨T, hT⟩ : ∃ T, T = crun (rMod 0) (cPt τ 4) (cPt τ q) (cV τ 22, cV τ 23, 0) U1 U2 256 := ⟨_, rfl⟩
  obtain ⟨S, hS⟩ : ∃ S, S = fJ σ q U1 U2 := ⟨_, rfl⟩
  have k3 : ec_H (ec_f (fJ σ q U1 U2).1) (ec_f (fJ σ q U1 U2).2.1) (ec_f (fJ σ q U1 U2).2.2) _ := k3
  have m3 : t3lt (rMod 0) (fJ σ q U1 U2) := m3
  rw [← hT] at j1 l1 ⊢
  rw [← hS] at k3 m3 ⊢
  obtain ⟨a1, a2⟩ := J_out ec_isfld fp_hom l1 j1 (fp_inv l1.2.2)
  obtain ⟨c1, c2⟩ := H_out ec_isfld fp_hom m3 k3 (fp_inv m3.2.2)
  have mm1 : ∀ x, mm (rMod 1) x 1 = x % rMod 1 := fun x => by unfold mm; rw [Nat.mul_one]
  have main : T.2.2 ≠ 0 → S.2.2 ≠ 0 → mm (rMod 0) T.1 (mm (rMod 0) (cZi T) (cZi T)) = mm (rMod 0) S.1 (S.2.2 ^ (rMod 0 - 2) % rMod 0) := by
    intro n1 n2
    have e := Option.some.inj ((a2 n1).symm.trans (c2 n2))
    rw [Prod.mk.injEq] at e
    have w1 : mm (rMod 0) T.1 (mm (rMod 0) (T.2.2 ^ (rMod 0 - 2) % rMod 0) (T.2.2 ^ (rMod 0 - 2) % rMod 0)) < rMod 0 := mm_lt (by omega)
    have w2 : mm (rMod 0) S.1 (S.2.2 ^ (rMod 0 - 2) % rMod 0) < rMod 0 := mm_lt (by omega)
    have e1 := e.1
    unfold cZi
    generalize mm (rMod 0) T.1 (mm (rMod 0) (T.2.2 ^ (rMod 0 - 2) % rMod 0) (T.2.2 ^ (rMod 0 - 2) % rMod 0)) = A1 at w1 e1 ⊢
    generalize mm (rMod 0) S.1 (S.2.2 ^ (rMod 0 - 2) % rMod 0) = A2 at w2 e1 ⊢
    rw [rMod0] at w1 w2
    exact ec_f_inj w1 w2 e1
  constructor
  · rintro ⟨n1, n2⟩
    have n3 : S.2.2 ≠ 0 := fun e => by
      have e9 := a2 n1
      rw [c1 e] at e9
      cases e9
    rw [main n1 n3] at n2
    exact ⟨n3, by rw [mm1]; exact n2⟩
  · rintro ⟨n1, n2⟩
    have n3 : T.2.2 ≠ 0 := fun e => by
      have e9 := c2 n1
      rw [a1 e] at e9
      cases e9
    rw [mm1, ← main n3 n1] at n2
    exact ⟨n3, n2⟩
theorem Rv.met {V0 V N B X0 X N' B' : Nat → Nat} {M M' n5 : Nat} (h : Rv V0 N B M X0 N' B' M') (hn5 : n5 < 2) (hk : ∀ r, r < 18 → V r = V0 r) (h18 : V 18 < rMod 0 ∧ V 19 < rMod 0) (h22 : V 22 < rMod 0 ∧ V 23 < rMod 0) (hX : ∀ r, r < 22 → X r = X0 r) (hX3 : ∀ r, 22 ≤ r → r < 31 → X r < rMod 0) (hl : ∀ r, X r < b26 ^ 10) : Rv V (va_up N 5 n5) B M X N' B' M' := by
  obtain ⟨g1, g2, g3, g4, g5, g6, g7, g8, _, g10, g11, g12⟩ := h
  refine ⟨fun r hr => by rw [hk r (by omega), hX r (by omega)]; exact g1 r hr, fun q hq => by rw [up_ne _ _ (by omega)]; exact g2 q hq, fun q hq hz => ?_, fun q hq => ?_, fun r a b => ?_, h22, ?_, ?_, hl, hX3, fun r a b => by rw [hX r (by omega)]; exact g11 r a b, g12⟩
  · rw [up_ne _ _ (by omega)] at hz
    rw [hk _ (by omega), hk _ (by omega), hX _ (by omega), hX _ (by omega)]
    exact g3 q hq hz
  · by_cases e : q = 5
    · rw [e, up_self]; exact hn5
    · rw [up_ne _ _ e]; exact g4 q hq
  · by_cases e : r < 18
    · rw [hk r e]; exact g5 r a b
    · rcases (show r = 18 ∨ r = 19 by omega) with e | e
      · rw [e]; exact h18.1
      · rw [e]; exact h18.2
  · rw [up_ne _ _ (by decide), hk 16 (by decide), hk 17 (by decide)]
    exact g7
  · rw [hX 8 (by decide), hX 9 (by decide), hX 18 (by decide), hX 19 (by decide), hX 20 (by decide), hX 21 (by decide)]
    exact g8
theorem st_fits {τ u : cT} {σ w : rS} {r r' : Int32} (h : Rl τ σ) {x1 x2 x3 x4 : Int32}
    (hp : (¬ (okR x1 4 ∧ okR x2 8 ∧ okR x3 8 ∧ okR x4 8) → r = -1 ∧ u = τ) ∧ ∀ q a b d, q < 4 → a < 8 → b < 8 → d < 8 → x1 = nI q → x2 = nI a → x3 = nI b → x4 = nI d → (badC τ q (cV τ a) (cV τ b) → r = nI 0 ∧ u = τ) ∧ (¬ (badC τ q (cV τ a) (cV τ b)) → r = nI (boolN (fitsC τ q (cV τ a) (cV τ b) (cV τ d))) ∧ ∃ V n5, n5 < 2 ∧ cU (csN τ 5 n5) V u ∧ V 18 < rMod 0 ∧ V 19 < rMod 0 ∧ V 22 < rMod 0 ∧ V 23 < rMod 0 ∧ ∀ r, r < 18 → V r = cV τ r))
    (hq : (¬ (okR x1 4 ∧ okR x2 8 ∧ okR x3 8 ∧ okR x4 8) → r' = -1 ∧ w = σ) ∧ ∀ q a b d, q < 4 → a < 8 → b < 8 → d < 8 → x1 = nI q → x2 = nI a → x3 = nI b → x4 = nI d → (badR σ q (rV σ a) (rV σ b) → r' = nI 0 ∧ w = σ) ∧ (¬ badR σ q (rV σ a) (rV σ b) → r' = nI (boolN (fitsR σ q (rV σ a) (rV σ b) (rV σ d))) ∧ ∃ V, rU σ V w ∧ (∀ r, r < 22 → V r = rV σ r) ∧ (∀ r, 22 ≤ r → r < 31 → V r < rMod 0) ∧ ∀ r, V r < b26 ^ 10)) : r = r' ∧ Rl u w := by
  by_cases k : okR x1 4 ∧ okR x2 8 ∧ okR x3 8 ∧ okR x4 8
  · obtain ⟨q, hq4, e1⟩ := k.1.ex (by decide)
    obtain ⟨a, ha, e2⟩ := k.2.1.ex (by decide)
    obtain ⟨b, hb, e3⟩ := k.2.2.1.ex (by decide)
    obtain ⟨d, hd, e4⟩ := k.2.2.2.ex (by decide)
    have P := hp.2 q a b d hq4 ha hb hd e1 e2 e3 e4
    have Q := hq.2 q a b d hq4 ha hb hd e1 e2 e3 e4
    rw [← h.reg ha, ← h.reg hb, ← h.reg hd] at Q
    have eb : badR σ q (cV τ a) (cV τ b) ↔ badC τ q (cV τ a) (cV τ b) := by unfold badR badC; rw [h.none hq4]
    by_cases co : badC τ q (cV τ a) (cV τ b)
    · obtain ⟨r1, c1⟩ := P.1 co
      obtain ⟨r2, c2⟩ := Q.1 (eb.mpr co)
      rw [c1, c2]
      exact ⟨r1.trans r2.symm, h⟩
    · have hn : cN τ q = 0 := by
        by_cases hn : cN τ q = 0
        · exact hn
        · exact absurd (Or.inl hn) co
      obtain ⟨r1, V, n5, v0, v1, v2, v3, v4, v5, v6⟩ := P.2 co
      obtain ⟨r2, X, y1, y2, y3, y4⟩ := Q.2 (fun q9 => co (eb.mp q9))
      have ef := h.fits hq4 hn (cV τ a) (cV τ b) (cV τ d)
      refine ⟨?_, Rl.of v1 y1 (Rv.met h.2 v0 v6 ⟨v2, v3⟩ ⟨v4, v5⟩ y2 y3 y4)⟩
      rw [r1, r2]
      by_cases c : fitsC τ q (cV τ a) (cV τ b) (cV τ d)
      · rw [boolN_t c, boolN_t (ef.mp c)]
      · rw [boolN_f c, boolN_f (fun z => c (ef.mpr z))]
  · obtain ⟨r1, e1⟩ := hp.1 k
    obtain ⟨r2, e2⟩ := hq.1 k
    rw [e1, e2]
    exact ⟨r1.trans r2.symm, h⟩
