/-! the value of a row of long digits; long rows -/
def pv (f : Nat → Nat) : Nat → Nat
  | 0 => 0
  | n + 1 => pv f n + f n * b26 ^ n
theorem pv_congr {f g : Nat → Nat} : ∀ (n : Nat), (∀ j, j < n → f j = g j) → pv f n = pv g n
  | 0, _ => rfl
  | n + 1, h => by
    show pv f n + f n * b26 ^ n = pv g n + g n * b26 ^ n
    rw [pv_congr n (fun j hj => h j (by omega)), h n (by omega)]
theorem pv_up_ge (f : Nat → Nat) {k n : Nat} (x : Nat) (h : n ≤ k) : pv (va_up f k x) n = pv f n := pv_congr n (fun j hj => up_ne _ _ (by omega))
theorem pv_inc (f : Nat → Nat) {k : Nat} (d : Nat) : ∀ (n : Nat), k < n → pv (va_up f k (f k + d)) n = pv f n + d * b26 ^ k
  | 0, h => absurd h (by omega)
  | n + 1, h => by
    show pv (va_up f k (f k + d)) n + va_up f k (f k + d) n * b26 ^ n = pv f n + f n * b26 ^ n + d * b26 ^ k
    by_cases e : k = n
    · subst e
      rw [pv_up_ge f _ (Nat.le_refl k), up_self, Nat.add_mul]
      omega
    · rw [pv_inc f d n (by omega), up_ne _ _ (by omega)]
      omega
theorem pv_lt {f : Nat → Nat} : ∀ (n : Nat), (∀ j, j < n → f j < b26) → pv f n < b26 ^ n
  | 0, _ => (by decide : (0 : Nat) < 1)
  | n + 1, h => by
    have h1 := pv_lt n (fun j hj => h j (by omega))
    have h2 : (f n + 1) * b26 ^ n ≤ b26 * b26 ^ n := Nat.mul_le_mul_right _ (h n (by omega))
    show pv f n + f n * b26 ^ n < b26 ^ (n + 1)
    rw [Nat.pow_succ, Nat.mul_comm (b26 ^ n)]
    rw [Nat.add_mul, Nat.one_mul] at h2
    omega
/-- the low digits are the remainder -/
theorem pv_mod {f : Nat → Nat} {k : Nat} : ∀ (n : Nat), k ≤ n → (∀ j, j < k → f j < b26) → pv f n % b26 ^ k = pv f k
  | 0, h, hd => by
    have e : k = 0 := by omega
    subst e
    rfl
  | n + 1, h, hd => by
    by_cases e : k = n + 1
    · rw [e]
      exact Nat.mod_eq_of_lt (pv_lt (n + 1) (by rw [← e]; exact hd))
    · have ih := pv_mod n (by omega) hd
      show (pv f n + f n * b26 ^ n) % b26 ^ k = pv f k
      have e2 : f n * b26 ^ n = b26 ^ k * (f n * b26 ^ (n - k)) := by
        rw [show b26 ^ n = b26 ^ k * b26 ^ (n - k) by rw [← Nat.pow_add]; congr 1; omega, Nat.mul_left_comm]
      rw [e2, Nat.add_mul_mod_self_left, ih]
theorem pv_dg {f : Nat → Nat} {j n : Nat} (hj : j < n) (hd : ∀ i, i < n → f i < b26) : dg b26 (pv f n) j = f j := by
  rw [dg_alt, pv_mod n (by omega) (fun i hi => hd i (by omega))]
  show (pv f j + f j * b26 ^ j) / b26 ^ j = f j
  rw [Nat.add_mul_div_right _ _ (Nat.pow_pos b26_pos), Nat.div_eq_of_lt (pv_lt j (fun i hi => hd i (by omega))), Nat.zero_add]
theorem land26 {n : Nat} (h : n < 2 ^ 64) : lN n &&& (67108863 : Int64) = lN (n % b26) := wb_mask (k := 26) h (by decide)
theorem land22 {n : Nat} (h : n < 2 ^ 64) : lN n &&& (4194303 : Int64) = lN (n % 4194304) := wb_mask (k := 22) h (by decide)
theorem lshr26 {n : Nat} (h : n < 2 ^ 62) : lN n >>> ((nI 26).toInt64 &&& 63) = lN (n / b26) := pf_shr (d := 26) (by decide) h
theorem lshr22 {n : Nat} (h : n < 2 ^ 62) : lN n >>> ((nI 22).toInt64 &&& 63) = lN (n / 4194304) := pf_shr (d := 22) (by decide) h
theorem lshl4 (n : Nat) : lN n <<< ((nI 4).toInt64 &&& 63) = lN (n * 16) := wb_shl n (by decide)
theorem lor16 {a b : Nat} (ha : a < 16) (h : b * 16 + a < 2 ^ 64) : lN a ||| lN (b * 16) = lN (a + b * 16) := g_or' (k := 4) (by decide) ha (by omega)
theorem lcmp_le {a b : Nat} (ha : a < 2 ^ 63) (hb : b < 2 ^ 63) : lg_cmp (lN a) (lN b) ≤ 0 ↔ a ≤ b := by
  unfold lg_cmp
  by_cases h : b < a
  · rw [if_pos ((pk_lLT hb ha).mpr h)]
    exact ⟨fun q => absurd q (by decide), fun q => absurd h (by omega)⟩
  · rw [if_neg (fun q => h ((pk_lLT hb ha).mp q))]
    by_cases h2 : a = b
    · subst h2
      rw [if_pos rfl]
      exact ⟨fun _ => Nat.le_refl _, fun _ => by decide⟩
    · rw [if_neg (fun q => h2 ((pk_lEQ ha hb).mp q))]
      exact ⟨fun _ => by omega, fun _ => by decide⟩
theorem carry_end {a b c B : Nat} (h : a + c * B = b) (hb : b < B) : a = b := by
  rcases Nat.eq_zero_or_pos c with h0 | h0
  · rw [h0] at h
    omega
  · have := Nat.mul_le_mul_right B h0
    omega
/-- the whole row, and whether it has a bit from 256 on: kept shut -/
def pw (f : Nat → Nat) : Nat := pv f 22
def B22 : Nat := b26 ^ 22
def W256 : Nat := 2 ^ 256
theorem W256_9 : W256 = 4194304 * b26 ^ 9 := by decide
theorem W256_10 : W256 ≤ b26 ^ 10 := by decide
theorem pv_wide0 {f : Nat → Nat} {B W : Nat} (hW : W = 4194304 * B) (h9 : pv f 9 < B) : W ≤ pv f 9 + f 9 * B ↔ 4194303 < f 9 := by
  rw [hW]
  constructor
  · intro h
    rcases Nat.lt_or_ge 4194303 (f 9) with h2 | h2
    · exact h2
    · have := Nat.mul_le_mul_right B (show f 9 + 1 ≤ 4194304 by omega)
      rw [Nat.add_mul] at this
      omega
  · intro h
    have := Nat.mul_le_mul_right B (show 4194304 ≤ f 9 from h)
    omega
theorem pv_wide {f : Nat → Nat} (hf : ∀ j, j < 22 → f j < b26) : ∀ k, k ≤ 12 → (W256 ≤ pv f (10 + k) ↔ (4194303 < f 9 ∨ ∃ j, j < 10 + k ∧ 10 ≤ j ∧ 0 < f j)) := by
  intro k
  induction k with
  | zero =>
    intro _
    have h := pv_wide0 (f := f) W256_9 (pv_lt 9 (fun j hj => hf j (by omega)))
    refine ⟨fun q => Or.inl (h.mp q), fun q => ?_⟩
    rcases q with q | ⟨j, h1, h2, h3⟩
    · exact h.mpr q
    · exact absurd h1 (by omega)
  | succ k ih =>
    intro hk
    have ih := ih (by omega)
    have hbig : W256 ≤ b26 ^ (10 + k) := Nat.le_trans W256_10 (Nat.pow_le_pow_right (by decide) (by omega))
    have e : pv f (10 + (k + 1)) = pv f (10 + k) + f (10 + k) * b26 ^ (10 + k) := rfl
    rw [e]
    generalize b26 ^ (10 + k) = B at hbig ⊢
    generalize pv f (10 + k) = v at ih ⊢
    generalize W256 = W at ih hbig ⊢
    clear e hf
    constructor
    · intro h
      rcases Nat.eq_zero_or_pos (f (10 + k)) with h0 | h0
      · rw [h0, Nat.zero_mul, Nat.add_zero, ih] at h
        rcases h with h | ⟨j, h1, h2, h3⟩
        · exact Or.inl h
        · exact Or.inr ⟨j, by omega, h2, h3⟩
      · exact Or.inr ⟨10 + k, by omega, by omega, h0⟩
    · intro h
      rcases h with h | ⟨j, h1, h2, h3⟩
      · have := ih.mpr (Or.inl h)
        omega
      · by_cases ej : j = 10 + k
        · subst ej
          have := Nat.mul_le_mul_right B h3
          omega
        · have := ih.mpr (Or.inr ⟨j, by omega, h2, h3⟩)
          omega
theorem pw_wide {f : Nat → Nat} (hf : ∀ j, j < 22 → f j < b26) : W256 ≤ pw f ↔ (4194303 < f 9 ∨ ∃ j, j < 22 ∧ 10 ≤ j ∧ 0 < f j) := pv_wide hf 12 (by decide)
