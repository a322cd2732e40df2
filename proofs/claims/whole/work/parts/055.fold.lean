/-! what is above 2 ^ 256 is taken away, and as many gaps are added: the numbers of it -/
def B12 : Nat := b26 ^ 12
def B5 : Nat := b26 ^ 5
theorem pv_digits (v : Nat) : ∀ n, pv (fun i => dg b26 v i) n = v % b26 ^ n
  | 0 => by rw [Nat.pow_zero, Nat.mod_one]; rfl
  | n + 1 => by
    show pv (fun i => dg b26 v i) n + dg b26 v n * b26 ^ n = _
    rw [pv_digits v n, dg_mod]
/-- the digits of what stands above -/
def hiD (P : Nat → Nat) (i : Nat) : Nat := P (9 + i) / 4194304 + P (10 + i) % 4194304 * 16
theorem hi_arith {z q0 q1 X : Nat} (hq0 : q0 < 67108864) (hz : z = q0 + 67108864 * (q1 + 67108864 * X)) : z / 4194304 % 67108864 = q0 / 4194304 + q1 % 4194304 * 16 := by
  omega
theorem hi_dg {P : Nat → Nat} (hP : ∀ j, j < 22 → P j < b26) {i : Nat} (hi : i < 12) : dg b26 (pw P / W256) i = hiD P i := by
  have h0 : dg b26 (pw P) (9 + i) = P (9 + i) := pv_dg (by omega) hP
  have h1 : dg b26 (pw P) (10 + i) = P (10 + i) := pv_dg (by omega) hP
  generalize pw P = T at h0 h1 ⊢
  have hp0 := hP (9 + i) (by omega)
  unfold hiD
  rw [← h0, ← h1]
  rw [← h0] at hp0
  unfold dg at *
  have e1 : T / W256 / b26 ^ i = T / b26 ^ (9 + i) / 4194304 := by
    rw [W256_9, Nat.div_div_eq_div_mul, Nat.div_div_eq_div_mul]
    congr 1
    rw [Nat.pow_add, Nat.mul_assoc, Nat.mul_comm 4194304]
  have e2 : T / b26 ^ (10 + i) = T / b26 ^ (9 + i) / 67108864 := by
    rw [Nat.div_div_eq_div_mul]
    congr 1
    rw [show 10 + i = (9 + i) + 1 by omega, Nat.pow_succ]
  rw [e1, e2]
  generalize T / b26 ^ (9 + i) = z
  show z / 4194304 % 67108864 = z % 67108864 / 4194304 + z / 67108864 % 67108864 % 4194304 * 16
  omega
theorem hi_val {P : Nat → Nat} (hP : ∀ j, j < 22 → P j < b26) (hT : pw P < W256 * B12) : pv (hiD P) 12 = pw P / W256 := by
  rw [pv_congr 12 (g := fun i => dg b26 (pw P / W256) i) (fun j hj => (hi_dg hP hj).symm), pv_digits]
  refine Nat.mod_eq_of_lt ?_
  exact Nat.div_lt_of_lt_mul hT
/-- the low part -/
def loD (P : Nat → Nat) (k : Nat) : Nat := if k < 9 then P k else if k = 9 then P 9 % 4194304 else 0
theorem lo_val {P : Nat → Nat} (hP : ∀ j, j < 22 → P j < b26) : pw (loD P) = pw P % W256 := by
  have e1 : pw (loD P) = pv (loD P) 10 := by
    have key : ∀ k, pv (loD P) (10 + k) = pv (loD P) 10 := by
      intro k
      induction k with
      | zero => rfl
      | succ k ih =>
        show pv (loD P) (10 + k) + loD P (10 + k) * b26 ^ (10 + k) = _
        rw [ih, show loD P (10 + k) = 0 by unfold loD; rw [if_neg (by omega), if_neg (by omega)], Nat.zero_mul, Nat.add_zero]
    exact key 12
  have e2 : pv (loD P) 10 = pv P 9 + P 9 % 4194304 * b26 ^ 9 := by
    show pv (loD P) 9 + loD P 9 * b26 ^ 9 = _
    rw [pv_congr 9 (g := P) (fun j hj => by unfold loD; rw [if_pos hj])]
    rfl
  have h9 : dg b26 (pw P) 9 = P 9 := pv_dg (by decide) hP
  have hm : pw P % b26 ^ 9 = pv P 9 := pv_mod 22 (by decide) (fun j hj => hP j (by omega))
  rw [e1, e2, ← h9, ← hm]
  generalize pw P = T
  unfold dg
  rw [W256_9, Nat.mul_comm 4194304, Nat.mod_mul]
  generalize T / b26 ^ 9 = z
  generalize T % b26 ^ 9 = w
  generalize b26 ^ 9 = B
  show w + z % 67108864 % 4194304 * B = w + B * (z % 4194304)
  rw [show z % 67108864 % 4194304 = z % 4194304 by omega, Nat.mul_comm B]
theorem fold_small {x y r : Nat} (hx : x < W256) (hy : y < B12) (hr : r < B5) : x + y * r < B22 := by
  have h1 : y * r ≤ B12 * B5 := Nat.mul_le_mul (Nat.le_of_lt hy) (Nat.le_of_lt hr)
  have h2 : W256 + B12 * B5 < B22 := by decide
  exact Nat.lt_of_lt_of_le (Nat.add_lt_add_of_lt_of_le hx h1) (Nat.le_of_lt h2)
/-- the gap of a modulus: 0 P, 1 N -/
def rMod (μ : Nat) : Nat := if μ = 0 then ec_P else ec_N
def rGap (μ : Nat) : Nat := pv (fun j => rRest (10 * μ + j)) 5
theorem rGap_eq {μ : Nat} (h : μ < 2) : rGap μ + rMod μ = W256 := by
  rcases (show μ = 0 ∨ μ = 1 by omega) with rfl | rfl <;> decide +kernel
theorem rGap_lt {μ : Nat} (h : μ < 2) : rGap μ < B5 := by
  rcases (show μ = 0 ∨ μ = 1 by omega) with rfl | rfl <;> decide +kernel
theorem rMod_half {μ : Nat} (h : μ < 2) : W256 < 2 * rMod μ := by
  rcases (show μ = 0 ∨ μ = 1 by omega) with rfl | rfl <;> decide +kernel
theorem rRest_lt (k : Nat) : rRest k < b26 := by
  unfold rRest
  split
  · exact dg_lt b26_pos _ _
  · exact dg_lt b26_pos _ _
theorem fold_mod {T W R Mo : Nat} (h : R + Mo = W) : (T % W + T / W * R) % Mo = T % Mo := by
  have e := Nat.div_add_mod T W
  have e2 : T = (T % W + T / W * R) + Mo * (T / W) := by
    have : W * (T / W) = R * (T / W) + Mo * (T / W) := by rw [← h, Nat.add_mul]
    rw [Nat.mul_comm (T / W) R]
    omega
  conv => rhs; rw [e2]
  rw [Nat.add_mul_mod_self_left]
theorem fold_lt {T W R Mo : Nat} (h : R + Mo = W) (hM : 0 < Mo) (hT : W ≤ T) : T % W + T / W * R < T := by
  have e := Nat.div_add_mod T W
  have hq : 0 < T / W := Nat.div_pos hT (by omega)
  have e1 : W * (T / W) = R * (T / W) + Mo * (T / W) := by rw [← h, Nat.add_mul]
  have e2 : 0 < Mo * (T / W) := Nat.mul_pos hM hq
  rw [Nat.mul_comm (T / W) R]
  omega
