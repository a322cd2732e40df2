/-! each call: the same answer, and the same again in common -/
theorem up_eq {V X : Nat → Nat} (h : ∀ r, r < 8 → V r = X r) (j x : Nat) : ∀ r, r < 8 → va_up V j x r = va_up X j x r := fun r hr => by
  by_cases e : r = j
  · rw [e, up_self, up_self]
  · rw [up_ne _ _ e, up_ne _ _ e]; exact h r hr
theorem up_l10 {X : Nat → Nat} (h : ∀ r, X r < b26 ^ 10) {j x : Nat} (hx : x < b26 ^ 10) : ∀ r, va_up X j x r < b26 ^ 10 := rV_lt X h hx
theorem W8_10 {x : Nat} (h : x < W8) : x < b26 ^ 10 := Nat.lt_of_lt_of_le (by rw [W8_eq] at h; exact h) W256_10
theorem Rl.set1 {τ u : cT} {σ w : rS} (h : Rl τ σ) {j x : Nat} (hj : j < 8) (hx : x < W8) (e1 : u = csV τ j x) (e2 : rU σ (va_up (rV σ) j x) w) : Rl u w :=
  Rl.of ((cU.refl h.1).set (by omega) hx e1) e2 (Rv.regs h.2 (up_eq h.2.1 j x) (fun r a b => up_ne _ _ (by omega)) (fun r a b => up_ne _ _ (by omega)) (up_l10 h.con.1 (W8_10 hx)))
theorem st_set {τ u : cT} {σ w : rS} {r r' : Int32} (h : Rl τ σ) {x : Int32} {a b c d : Nat} (ha : a < 2 ^ 64) (hb : b < 2 ^ 64) (hc : c < 2 ^ 64) (hd : d < 2 ^ 64)
    (hp : r = nI (boolN (okR x 8)) ∧ (¬ okR x 8 → u = τ) ∧ ∀ j, j < 8 → x = nI j → u = csV τ j (W4 a b c d)) (hq : r' = nI (boolN (okR x 8)) ∧ (¬ okR x 8 → w = σ) ∧ ∀ j, j < 8 → x = nI j → w = rsV σ (va_up (rV σ) j (W4 a b c d))) : r = r' ∧ Rl u w := by
  refine ⟨hp.1.trans hq.1.symm, ?_⟩
  by_cases k : okR x 8
  · obtain ⟨j, hj, e⟩ := k.ex (by decide)
    exact h.set1 hj (by rw [W8_eq]; exact W4_lt ha hb hc hd) (hp.2.2 j hj e) (rU.of (hq.2.2 j hj e))
  · rw [hp.2.1 k, hq.2.1 k]
    exact h
theorem st_get {τ u : cT} {σ w : rS} {r r' : Int64} (h : Rl τ σ) {x y : Int32}
    (hp : u = τ ∧ (¬ (okR x 8 ∧ okR y 4) → r = lN 0) ∧ ∀ j k, j < 8 → k < 4 → x = nI j → y = nI k → r = lN (cV τ j / 2 ^ (64 * (3 - k)) % 2 ^ 64)) (hq : w = σ ∧ (¬ (okR x 8 ∧ okR y 4) → r' = lN 0) ∧ ∀ j k, j < 8 → k < 4 → x = nI j → y = nI k → r' = lN (rV σ j / 2 ^ (64 * (3 - k)) % 2 ^ 64)) : r = r' ∧ Rl u w := by
  rw [hp.1, hq.1]
  refine ⟨?_, h⟩
  by_cases k : okR x 8 ∧ okR y 4
  · obtain ⟨j, hj, e⟩ := k.1.ex (by decide)
    obtain ⟨i, hi, e2⟩ := k.2.ex (by decide)
    rw [hp.2.2 j i hj hi e e2, hq.2.2 j i hj hi e e2, h.reg hj]
  · rw [hp.2.1 k, hq.2.1 k]
theorem st_reduce {τ u : cT} {σ w : rS} {r r' : Int32} (h : Rl τ σ) {x y : Int32}
    (hp : r = nI (boolN (okR x 8 ∧ okR y 2)) ∧ (¬ (okR x 8 ∧ okR y 2) → u = τ) ∧ ∀ a μ, a < 8 → μ < 2 → x = nI a → y = nI μ → u = csV τ a (cV τ a % rMod μ)) (hq : r' = nI (boolN (okR x 8 ∧ okR y 2)) ∧ (¬ (okR x 8 ∧ okR y 2) → w = σ) ∧ ∀ a μ, a < 8 → μ < 2 → x = nI a → y = nI μ → rU σ (va_up (rV σ) a (rV σ a % rMod μ)) w) : r = r' ∧ Rl u w := by
  refine ⟨hp.1.trans hq.1.symm, ?_⟩
  by_cases k : okR x 8 ∧ okR y 2
  · obtain ⟨a, ha, e⟩ := k.1.ex (by decide)
    obtain ⟨μ, hμ, e2⟩ := k.2.ex (by decide)
    have e3 := hq.2.2 a μ ha hμ e e2
    rw [← h.reg ha] at e3
    exact h.set1 ha (Nat.lt_trans (Nat.mod_lt _ (rMod_pos hμ)) (rMod8 hμ).1) (hp.2.2 a μ ha hμ e e2) e3
  · rw [hp.2.1 k, hq.2.1 k]
    exact h
theorem Rl.of1 {τ u : cT} {σ w : rS} (h : Rl τ σ) {V X : Nat → Nat} {a : Nat} (ha : a < 8) (hu : cU τ V u) (hw : rU σ X w) (e : V a = X a) (hk : ∀ r, r ≠ a → r < 20 ∨ r = 22 ∨ r = 23 → V r = cV τ r) (hX : ∀ r, r ≠ a → r < 31 → X r = rV σ r) (hl : ∀ r, X r < b26 ^ 10) : Rl u w :=
  Rl.of hu hw (Rv.regs h.2 (fun r hr => by
    by_cases q : r = a
    · rw [q]; exact e
    · rw [hk r q (by omega), hX r q (by omega)]; exact h.reg hr) (fun r a b => hk r (by omega) b) (fun r a b => hX r (by omega) (by omega)) hl)
theorem st_work {τ u : cT} {σ w : rS} {r r' : Int32} (h : Rl τ σ) {x1 x2 x3 x4 x5 : Int32}
    (hp : (¬ (okR x2 8 ∧ okR x3 8 ∧ okR x4 8 ∧ okR x5 2 ∧ okR x1 4) → r = nI 0 ∧ u = τ) ∧ ∀ k a c d μ, k < 4 → a < 8 → c < 8 → d < 8 → μ < 2 → x1 = nI k → x2 = nI a → x3 = nI c → x4 = nI d → x5 = nI μ → (¬ (cV τ c < rMod μ ∧ cV τ d < rMod μ ∧ (k = 3 → cV τ d ≠ 0)) → r = nI 0 ∧ u = τ) ∧ ((cV τ c < rMod μ ∧ cV τ d < rMod μ ∧ (k = 3 → cV τ d ≠ 0)) → r = nI 1 ∧ ∃ V, cU τ V u ∧ V a = wres k (rMod μ) (cV τ c) (cV τ d) ∧ ∀ r, r ≠ a → r < 20 ∨ r = 22 ∨ r = 23 → V r = cV τ r))
    (hq : (¬ (okR x2 8 ∧ okR x3 8 ∧ okR x4 8 ∧ okR x5 2 ∧ okR x1 4) → r' = nI 0 ∧ w = σ) ∧ ∀ k a c d μ, k < 4 → a < 8 → c < 8 → d < 8 → μ < 2 → x1 = nI k → x2 = nI a → x3 = nI c → x4 = nI d → x5 = nI μ → (¬ (rV σ c < rMod μ ∧ rV σ d < rMod μ ∧ (k = 3 → rV σ d ≠ 0)) → r' = nI 0 ∧ w = σ) ∧ ((rV σ c < rMod μ ∧ rV σ d < rMod μ ∧ (k = 3 → rV σ d ≠ 0)) → r' = nI 1 ∧ ∃ V, rU σ V w ∧ V a = wres k (rMod μ) (rV σ c) (rV σ d) ∧ (∀ r, r ≠ a → r < 37 → V r = rV σ r) ∧ ∀ r, V r < b26 ^ 10)) : r = r' ∧ Rl u w := by
  by_cases k : okR x2 8 ∧ okR x3 8 ∧ okR x4 8 ∧ okR x5 2 ∧ okR x1 4
  · obtain ⟨a, ha, ea⟩ := k.1.ex (by decide)
    obtain ⟨c, hc, ec⟩ := k.2.1.ex (by decide)
    obtain ⟨d, hd, ed⟩ := k.2.2.1.ex (by decide)
    obtain ⟨μ, hμ, eμ⟩ := k.2.2.2.1.ex (by decide)
    obtain ⟨k9, hk9, ek⟩ := k.2.2.2.2.ex (by decide)
    have p := hp.2 k9 a c d μ hk9 ha hc hd hμ ek ea ec ed eμ
    have q := hq.2 k9 a c d μ hk9 ha hc hd hμ ek ea ec ed eμ
    rw [← h.reg hc, ← h.reg hd] at q
    by_cases co : cV τ c < rMod μ ∧ cV τ d < rMod μ ∧ (k9 = 3 → cV τ d ≠ 0)
    · obtain ⟨r1, V, v1, v2, v3⟩ := p.2 co
      obtain ⟨r2, X, x1, x2, x3, x4⟩ := q.2 co
      exact ⟨r1.trans r2.symm, h.of1 ha v1 x1 (v2.trans x2.symm) v3 (fun r a b => x3 r a (by omega)) x4⟩
    · obtain ⟨r1, e1⟩ := p.1 co
      obtain ⟨r2, e2⟩ := q.1 co
      rw [e1, e2]
      exact ⟨r1.trans r2.symm, h⟩
  · obtain ⟨r1, e1⟩ := hp.1 k
    obtain ⟨r2, e2⟩ := hq.1 k
    rw [e1, e2]
    exact ⟨r1.trans r2.symm, h⟩
theorem st_root {τ u : cT} {σ w : rS} {r r' : Int32} (h : Rl τ σ) {x y : Int32}
    (hp : (¬ (okR x 8 ∧ okR y 8) → r = nI 0 ∧ u = τ) ∧ ∀ t a, t < 8 → a < 8 → x = nI t → y = nI a → r = nI (boolN (cV τ a < rMod 0 ∧ mm (rMod 0) (rootN (cV τ a)) (rootN (cV τ a)) = cV τ a)) ∧ ∃ V, cU τ V u ∧ ((cV τ a < rMod 0 ∧ mm (rMod 0) (rootN (cV τ a)) (rootN (cV τ a)) = cV τ a) → V t = evenN (rMod 0) (rootN (cV τ a))) ∧ (¬ (cV τ a < rMod 0 ∧ mm (rMod 0) (rootN (cV τ a)) (rootN (cV τ a)) = cV τ a) → V t = cV τ t) ∧ ∀ r, r ≠ t → r < 20 ∨ r = 22 ∨ r = 23 → V r = cV τ r)
    (hq : (¬ (okR x 8 ∧ okR y 8) → r' = nI 0 ∧ w = σ) ∧ ∀ t a, t < 8 → a < 8 → x = nI t → y = nI a → r' = nI (boolN (rV σ a < rMod 0 ∧ mm (rMod 0) (rootN (rV σ a)) (rootN (rV σ a)) = rV σ a)) ∧ ∃ V, rU σ V w ∧ ((rV σ a < rMod 0 ∧ mm (rMod 0) (rootN (rV σ a)) (rootN (rV σ a)) = rV σ a) → V t = evenN (rMod 0) (rootN (rV σ a))) ∧ (¬ (rV σ a < rMod 0 ∧ mm (rMod 0) (rootN (rV σ a)) (rootN (rV σ a)) = rV σ a) → V t = rV σ t) ∧ (∀ r, r ≠ t → r < 37 → V r = rV σ r) ∧ ∀ r, V r < b26 ^ 10) : r = r' ∧ Rl u w := by
  by_cases k : okR x 8 ∧ okR y 8
  · obtain ⟨t, ht, et⟩ := k.1.ex (by decide)
    obtain ⟨a, ha, ea⟩ := k.2.ex (by decide)
    have p := hp.2 t a ht ha et ea
    have q := hq.2 t a ht ha et ea
    rw [← h.reg ha] at q
    obtain ⟨r1, V, v1, v2, v3, v4⟩ := p
    obtain ⟨r2, X, x1, x2, x3, x4, x5⟩ := q
    refine ⟨r1.trans r2.symm, h.of1 ht v1 x1 ?_ v4 (fun r a b => x4 r a (by omega)) x5⟩
    by_cases co : cV τ a < rMod 0 ∧ mm (rMod 0) (rootN (cV τ a)) (rootN (cV τ a)) = cV τ a
    · rw [v2 co, x2 co]
    · rw [v3 co, x3 co, h.reg ht]
  · obtain ⟨r1, e1⟩ := hp.1 k
    obtain ⟨r2, e2⟩ := hq.1 k
    rw [e1, e2]
    exact ⟨r1.trans r2.symm, h⟩
theorem Rl.set {τ u : cT} {σ w : rS} (h : Rl τ σ) {q x y : Nat} (hq : q < 4) (hon : onN (rMod 0) x y) (hc : cSet τ q x y u) (hr : rSet σ q x y w) : Rl u w := by
  obtain ⟨V, hV, v1, v2, v3⟩ := hc
  obtain ⟨X, hX, x1, x2, x3, x4⟩ := hr
  refine Rl.of hV hX (Rv.put h.2 hq (by decide) (fun r hr => v3 r (by omega) (by omega) (by omega)) (fun r a b c d => v3 r c d (by omega)) (by rw [v1, v2]; exact ⟨hon.1, hon.2.1⟩) ?_ ?_ (fun _ => by rw [v1, v2, x1, x2]; exact ⟨rfl, rfl, hon⟩) (fun r a b c => x3 r b c (by omega)) (by rw [x1, x2]; exact ⟨hon.1, hon.2.1⟩) (fun r a b => by rw [x3 r (by omega) (by omega) b]; exact h.fine.2.1 r a b) x4)
  · rw [v3 18 (by omega) (by omega) (by omega), v3 19 (by omega) (by omega) (by omega)]
    exact ⟨h.pt _ (by decide) (by decide), h.pt _ (by decide) (by decide)⟩
  · rw [v3 22 (by omega) (by omega) (by omega), v3 23 (by omega) (by omega) (by omega)]
    exact h.xy
theorem st_spot {τ u : cT} {σ w : rS} {r r' : Int32} (h : Rl τ σ) {x1 x2 x3 x4 : Int32}
    (hp : (¬ (okR x2 4 ∧ okR x1 3) → r = nI 0 ∧ u = τ) ∧ ∀ k q, k < 3 → q < 4 → x1 = nI k → x2 = nI q → (k = 0 → r = nI 1 ∧ u = csN τ q 1) ∧ (k = 1 → r = nI 1 ∧ cSet τ q bX bY u) ∧ (k = 2 → (¬ (okR x3 8 ∧ okR x4 8) → r = nI 0 ∧ u = τ) ∧ ∀ a b, a < 8 → b < 8 → x3 = nI a → x4 = nI b → (onN (rMod 0) (cV τ a) (cV τ b) → r = nI 1 ∧ cSet τ q (cV τ a) (cV τ b) u) ∧ (¬ onN (rMod 0) (cV τ a) (cV τ b) → r = nI 0 ∧ ∃ V, cU τ V u ∧ ∀ r, r < 25 ∨ 27 < r → V r = cV τ r)))
    (hq : (¬ (okR x2 4 ∧ okR x1 3) → r' = nI 0 ∧ w = σ) ∧ ∀ k q, k < 3 → q < 4 → x1 = nI k → x2 = nI q → (k = 0 → r' = nI 1 ∧ w = rsN σ (va_up (rN σ) q 1)) ∧ (k = 1 → r' = nI 1 ∧ rSet σ q (rV σ 18) (rV σ 19) w) ∧ (k = 2 → (¬ (okR x3 8 ∧ okR x4 8) → r' = nI 0 ∧ w = σ) ∧ ∀ a b, a < 8 → b < 8 → x3 = nI a → x4 = nI b → (onN (rMod 0) (rV σ a) (rV σ b) → r' = nI 1 ∧ rSet σ q (rV σ a) (rV σ b) w) ∧ (¬ onN (rMod 0) (rV σ a) (rV σ b) → r' = nI 0 ∧ ∃ V, rU σ V w ∧ (∀ r, r < 31 ∨ 37 < r → V r = rV σ r) ∧ ∀ r, V r < b26 ^ 10))) : r = r' ∧ Rl u w := by
  by_cases k : okR x2 4 ∧ okR x1 3
  · obtain ⟨q, hq4, eq⟩ := k.1.ex (by decide)
    obtain ⟨k9, hk9, ek⟩ := k.2.ex (by decide)
    have P := hp.2 k9 q hk9 hq4 ek eq
    have Q := hq.2 k9 q hk9 hq4 ek eq
    rcases (show k9 = 0 ∨ k9 = 1 ∨ k9 = 2 by omega) with c | c | c
    · obtain ⟨r1, e1⟩ := P.1 c
      obtain ⟨r2, e2⟩ := Q.1 c
      refine ⟨r1.trans r2.symm, ?_⟩
      rw [e1, e2]
      refine ⟨h.1, ?_⟩
      show Rv (cV τ) (va_up (cN τ) q 1) (cB τ) (cM τ) (rV σ) (va_up (rN σ) q 1) (rB σ) (rM σ)
      exact Rv.put h.2 hq4 (by decide) (fun _ _ => rfl) (fun _ _ _ _ _ => rfl) ⟨h.pt _ (by omega) (by omega), h.pt _ (by omega) (by omega)⟩ ⟨h.pt _ (by decide) (by decide), h.pt _ (by decide) (by decide)⟩ h.xy (fun z => absurd z (by decide)) (fun _ _ _ _ => rfl) ⟨h.fine.2.2.2 _ (by omega) (by omega), h.fine.2.2.2 _ (by omega) (by omega)⟩ h.fine.2.1 h.con.1
    · obtain ⟨r1, e1⟩ := P.2.1 c
      obtain ⟨r2, e2⟩ := Q.2.1 c
      rw [h.rbase.1, h.rbase.2] at e2
      exact ⟨r1.trans r2.symm, h.set hq4 base_on e1 e2⟩
    · have P2 := P.2.2 c
      have Q2 := Q.2.2 c
      by_cases k2 : okR x3 8 ∧ okR x4 8
      · obtain ⟨a, ha, ea⟩ := k2.1.ex (by decide)
        obtain ⟨b, hb, eb⟩ := k2.2.ex (by decide)
        have p := P2.2 a b ha hb ea eb
        have q9 := Q2.2 a b ha hb ea eb
        rw [← h.reg ha, ← h.reg hb] at q9
        by_cases co : onN (rMod 0) (cV τ a) (cV τ b)
        · obtain ⟨r1, e1⟩ := p.1 co
          obtain ⟨r2, e2⟩ := q9.1 co
          exact ⟨r1.trans r2.symm, h.set hq4 co e1 e2⟩
        · obtain ⟨r1, V, v1, v2⟩ := p.2 co
          obtain ⟨r2, X, x1, x2, x3⟩ := q9.2 co
          exact ⟨r1.trans r2.symm, h.of1 (a := 0) (by decide) v1 x1 (by rw [v2 0 (by omega), x2 0 (by omega)]; exact h.reg (by decide)) (fun r _ b => v2 r (by omega)) (fun r _ b => x2 r (Or.inl b)) x3⟩
      · obtain ⟨r1, e1⟩ := P2.1 k2
        obtain ⟨r2, e2⟩ := Q2.1 k2
        rw [e1, e2]
        exact ⟨r1.trans r2.symm, h⟩
  · obtain ⟨r1, e1⟩ := hp.1 k
    obtain ⟨r2, e2⟩ := hq.1 k
    rw [e1, e2]
    exact ⟨r1.trans r2.symm, h⟩
