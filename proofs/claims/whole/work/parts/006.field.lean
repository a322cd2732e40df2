/-! the field of P elements -/
theorem ec_Ppos : 0 < ec_P := by decide +kernel
def ec_nzP : NeZero ec_P := ⟨Nat.ne_of_gt ec_Ppos⟩
abbrev ec_cr : Lean.Grind.CommRing (Fin ec_P) := letI := ec_nzP; inferInstance
def ec_f (n : Nat) : Fin ec_P := ⟨n % ec_P, Nat.mod_lt _ ec_Ppos⟩
def ec_inv (a : Fin ec_P) : Fin ec_P := ec_f (a.val ^ (ec_P - 2))
theorem ec_f_val {n : Nat} (h : n < ec_P) : (ec_f n).val = n := Nat.mod_eq_of_lt h
theorem ec_f_of (a : Fin ec_P) : ec_f a.val = a := Fin.ext (Nat.mod_eq_of_lt a.isLt)
theorem ec_f_inj {a b : Nat} (ha : a < ec_P) (hb : b < ec_P) (h : ec_f a = ec_f b) : a = b := by
  have := congrArg Fin.val h
  rwa [ec_f_val ha, ec_f_val hb] at this
theorem ec_f_mod (a : Nat) : ec_f (a % ec_P) = ec_f a := Fin.ext (Nat.mod_mod _ _)
theorem ec_f_mul (a b : Nat) : ec_f (a * b) = @HMul.hMul _ _ _ (@instHMul _ ec_cr.toMul) (ec_f a) (ec_f b) := Fin.ext (Nat.mul_mod a b ec_P)
theorem ec_f_add (a b : Nat) : ec_f (a + b) = @HAdd.hAdd _ _ _ (@instHAdd _ ec_cr.toAdd) (ec_f a) (ec_f b) := Fin.ext (Nat.add_mod a b ec_P)
theorem ec_f_sub {a b : Nat} (h : b ≤ a) : ec_f (a - b) = @HSub.hSub _ _ _ (@instHSub _ ec_cr.toSub) (ec_f a) (ec_f b) := by
  letI := ec_cr
  have h1 : ec_f a = ec_f (a - b) + ec_f b := by
    have := ec_f_add (a - b) b
    rwa [Nat.sub_add_cancel h] at this
  grind
theorem ec_f_0 : ec_f 0 = @OfNat.ofNat (Fin ec_P) 0 (ec_cr.ofNat 0) := rfl
theorem ec_f_1 : ec_f 1 = @OfNat.ofNat (Fin ec_P) 1 (ec_cr.ofNat 1) := rfl
theorem ec_f_P (a : Nat) : ec_f (a + ec_P) = ec_f a := Fin.ext (Nat.add_mod_right a ec_P)
theorem ec_f_zero {a : Nat} (h : a < ec_P) : ec_f a = @OfNat.ofNat (Fin ec_P) 0 (ec_cr.ofNat 0) ↔ a = 0 := by
  rw [← ec_f_0]
  exact ⟨fun q => ec_f_inj h ec_Ppos q, fun q => by rw [q]⟩
theorem ec_isfld : @ec_fld (Fin ec_P) ec_cr ec_inv := by
  refine ⟨fun a ha => ?_, ?_, ?_⟩
  · have h0 : a.val % ec_P ≠ 0 := by
      intro h
      apply ha
      rw [← ec_f_of a, ← ec_f_mod, h]
      rfl
    have h1 := ec_fermatP h0
    have h2 : a.val ^ (ec_P - 1) = a.val * a.val ^ (ec_P - 2) := by
      rw [← Nat.pow_succ']
      congr 1
    rw [h2] at h1
    have h3 : ec_f (a.val * a.val ^ (ec_P - 2)) = ec_f 1 := Fin.ext (by show a.val * a.val ^ (ec_P - 2) % ec_P = 1 % ec_P; rw [h1]; decide +kernel)
    rw [ec_f_mul, ec_f_of] at h3
    exact h3
  · intro h
    have := congrArg Fin.val h
    revert this
    decide +kernel
  · intro h
    have := congrArg Fin.val h
    revert this
    decide +kernel
theorem ec_seven : ec_f 7 ≠ @OfNat.ofNat (Fin ec_P) 0 (ec_cr.ofNat 0) := by
  intro h
  have := congrArg Fin.val h
  revert this
  decide +kernel
