/-! digits of a number to a base, one digit written anew -/
def dg (b v j : Nat) : Nat := v / b ^ j % b
def ds (b w i x : Nat) : Nat := w % b ^ i + x * b ^ i + w / b ^ (i + 1) * b ^ (i + 1)
theorem dg_lt {b : Nat} (hb : 0 < b) (v j : Nat) : dg b v j < b := Nat.mod_lt _ hb
theorem dg_mod (b v j : Nat) : v % b ^ (j + 1) = v % b ^ j + dg b v j * b ^ j := by
  unfold dg
  rw [Nat.pow_succ, Nat.mod_mul, Nat.mul_comm (b ^ j)]
theorem dg_alt (b v j : Nat) : dg b v j = v % b ^ (j + 1) / b ^ j := by
  unfold dg
  rw [Nat.pow_succ, Nat.mod_mul_right_div_self]
theorem ds_low {b : Nat} (w x : Nat) {i j : Nat} (h : j ≤ i) : ds b w i x % b ^ j = w % b ^ j := by
  unfold ds
  have e1 : b ^ i = b ^ j * b ^ (i - j) := by rw [← Nat.pow_add]; congr 1; omega
  have e2 : b ^ (i + 1) = b ^ j * b ^ (i + 1 - j) := by rw [← Nat.pow_add]; congr 1; omega
  have e3 : x * b ^ i = b ^ j * (x * b ^ (i - j)) := by rw [e1, Nat.mul_left_comm]
  have e4 : w / b ^ (i + 1) * b ^ (i + 1) = b ^ j * (w / b ^ (i + 1) * b ^ (i + 1 - j)) := by
    conv => lhs; rhs; rw [e2]
    rw [Nat.mul_left_comm]
  rw [e3, e4, Nat.add_mul_mod_self_left, Nat.add_mul_mod_self_left]
  exact Nat.mod_mod_of_dvd _ ⟨_, e1⟩
theorem ds_high {b : Nat} (hb : 0 < b) (w : Nat) {x i j : Nat} (hx : x < b) (h : i < j) : ds b w i x / b ^ j = w / b ^ j := by
  have hp : 0 < b ^ i := Nat.pow_pos hb
  have hp1 : 0 < b ^ (i + 1) := Nat.pow_pos hb
  have h1 : w % b ^ i + x * b ^ i < b ^ (i + 1) := by
    have h2 := Nat.mod_lt w hp
    have h3 : (x + 1) * b ^ i ≤ b * b ^ i := Nat.mul_le_mul_right _ hx
    rw [Nat.pow_succ, Nat.mul_comm (b ^ i)]
    rw [Nat.add_mul, Nat.one_mul] at h3
    omega
  have h4 : ds b w i x / b ^ (i + 1) = w / b ^ (i + 1) := by
    unfold ds
    rw [Nat.add_mul_div_right _ _ hp1, Nat.div_eq_of_lt h1, Nat.zero_add]
  have e : b ^ j = b ^ (i + 1) * b ^ (j - (i + 1)) := by rw [← Nat.pow_add]; congr 1; omega
  rw [e, ← Nat.div_div_eq_div_mul, ← Nat.div_div_eq_div_mul, h4]
theorem ds_mid {b : Nat} (hb : 0 < b) (w : Nat) {x i : Nat} (hx : x < b) : dg b (ds b w i x) i = x := by
  have hp : 0 < b ^ i := Nat.pow_pos hb
  have e : ds b w i x = w % b ^ i + (x + w / b ^ (i + 1) * b) * b ^ i := by
    unfold ds
    rw [Nat.add_mul, Nat.add_assoc]
    congr 2
    rw [Nat.pow_succ, Nat.mul_assoc, Nat.mul_comm b]
  unfold dg
  rw [e, Nat.add_mul_div_right _ _ hp, Nat.div_eq_of_lt (Nat.mod_lt _ hp), Nat.zero_add, Nat.add_mul_mod_self_right, Nat.mod_eq_of_lt hx]
theorem ds_dg {b : Nat} (hb : 0 < b) (w : Nat) {x i : Nat} (hx : x < b) (j : Nat) : dg b (ds b w i x) j = if j = i then x else dg b w j := by
  by_cases h : j = i
  · subst h
    rw [if_pos rfl, ds_mid hb w hx]
  · rw [if_neg h]
    rcases Nat.lt_or_ge j i with h1 | h1
    · rw [dg_alt, dg_alt, ds_low w x (show j + 1 ≤ i from h1)]
    · unfold dg
      rw [ds_high hb w hx (by omega)]
/-- the part below the digit that was written, and it -/
theorem ds_mod {b : Nat} (hb : 0 < b) (w : Nat) {x i : Nat} (hx : x < b) : ds b w i x % b ^ (i + 1) = w % b ^ i + x * b ^ i := by
  rw [dg_mod, ds_mid hb w hx, ds_low w x (Nat.le_refl i)]
theorem ds_lt {b : Nat} (hb : 0 < b) {w x i n : Nat} (hx : x < b) (hi : i < n) (hw : w < b ^ n) : ds b w i x < b ^ n := by
  have h := ds_high hb w hx hi
  rw [Nat.div_eq_of_lt hw] at h
  exact Nat.lt_of_div_eq_zero (Nat.pow_pos hb) h
/-- two numbers with the same digits below n -/
theorem dg_ext {b : Nat} {v w : Nat} (n : Nat) (h : ∀ j, j < n → dg b v j = dg b w j) : v % b ^ n = w % b ^ n := by
  induction n with
  | zero => simp [Nat.mod_one]
  | succ n ih => rw [dg_mod, dg_mod, ih (fun j hj => h j (by omega)), h n (by omega)]
theorem dg_ext' {b : Nat} {v w : Nat} (n : Nat) (hv : v < b ^ n) (hw : w < b ^ n) (h : ∀ j, j < n → dg b v j = dg b w j) : v = w := by
  have := dg_ext n h
  rwa [Nat.mod_eq_of_lt hv, Nat.mod_eq_of_lt hw] at this
theorem dg_cmp {b : Nat} (hb : 0 < b) {v w i n : Nat} (hi : i < n) (hv : v < b ^ n) (hw : w < b ^ n) (h : ∀ j, i < j → j < n → dg b v j = dg b w j) (hlt : dg b v i < dg b w i) : v < w := by
  have key : ∀ k, i + 1 + k ≤ n → v / b ^ (n - k) = w / b ^ (n - k) := by
    intro k
    induction k with
    | zero => intro _; rw [Nat.sub_zero, Nat.div_eq_of_lt hv, Nat.div_eq_of_lt hw]
    | succ k ih =>
      intro hk
      have h1 := ih (by omega)
      have h2 := h (n - (k + 1)) (by omega) (by omega)
      have e : b ^ (n - k) = b ^ (n - (k + 1)) * b := by rw [← Nat.pow_succ]; congr 1; omega
      rw [e, ← Nat.div_div_eq_div_mul, ← Nat.div_div_eq_div_mul] at h1
      unfold dg at h2
      rw [← Nat.div_add_mod (v / b ^ (n - (k + 1))) b, ← Nat.div_add_mod (w / b ^ (n - (k + 1))) b, h1, h2]
  have h1 := key (n - (i + 1)) (by omega)
  rw [show n - (n - (i + 1)) = i + 1 by omega] at h1
  have h2 : v / b ^ i < w / b ^ i := by
    have ev := Nat.div_add_mod (v / b ^ i) b
    have ew := Nat.div_add_mod (w / b ^ i) b
    have e9 : b ^ i * b = b ^ (i + 1) := (Nat.pow_succ b i).symm
    rw [Nat.div_div_eq_div_mul, e9] at ev ew
    unfold dg at hlt
    rw [h1] at ev
    omega
  rcases Nat.lt_or_ge v w with h3 | h3
  · exact h3
  · have := Nat.div_le_div_right (c := b ^ i) h3
    omega
