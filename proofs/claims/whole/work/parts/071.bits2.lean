/-! bits of longs, and 'or' of parts that don't meet -/
theorem sh_l (t : Nat) (ht : t < 64) : (((nI t).toInt64 &&& 63).toBitVec.smod 64).toNat = t := by
  rw [wb_c t ht, wb_tb]
  show ((BitVec.ofNat 64 t).smod 64).toNat = t
  rw [wb_sm t ht, BitVec.toNat_ofNat, Nat.mod_eq_of_lt (by omega)]
theorem sbits {n t j : Nat} (hn : n < 2 ^ 64) (ht : t + j ≤ 64) (hj : 0 < j) : (lN n >>> ((nI t).toInt64 &&& 63)) &&& lN (2 ^ j - 1) = lN (n / 2 ^ t % 2 ^ j) := by
  apply Int64.toBitVec_inj.mp
  show ((lN n).toBitVec.sshiftRight (((nI t).toInt64 &&& 63).toBitVec.smod 64).toNat &&& (lN (2 ^ j - 1)).toBitVec) = (lN (n / 2 ^ t % 2 ^ j)).toBitVec
  rw [sh_l t (by omega), wb_tb, wb_tb, wb_tb]
  apply BitVec.eq_of_getLsbD_eq
  intro i hi
  rw [BitVec.getLsbD_and, BitVec.getLsbD_sshiftRight, BitVec.getLsbD_ofNat, BitVec.getLsbD_ofNat, BitVec.getLsbD_ofNat, Nat.testBit_two_pow_sub_one, Nat.testBit_mod_two_pow, Nat.testBit_div_two_pow]
  by_cases h : i < j
  · rw [if_pos (by omega)]
    simp [h, hi, show t + i < 64 by omega, Nat.add_comm]
  · simp [h]
theorem sbit {n t : Nat} (hn : n < 2 ^ 64) (ht : t < 64) : (lN n >>> ((nI t).toInt64 &&& 63)) &&& lN 1 = lN (n / 2 ^ t % 2) := sbits (j := 1) hn (by omega) (by decide)
theorem nI_or (a b : Nat) : nI a ||| nI b = nI (a ||| b) := by
  apply Int32.toBitVec_inj.mp
  show BitVec.ofNat 32 a ||| BitVec.ofNat 32 b = BitVec.ofNat 32 (a ||| b)
  apply BitVec.eq_of_getLsbD_eq
  intro i hi
  simp [BitVec.getLsbD_or, BitVec.getLsbD_ofNat, Nat.testBit_or, hi]
theorem nI_orp {d b t : Nat} (h : d < 2 ^ t) : nI d ||| nI (b * 2 ^ t) = nI (d + b * 2 ^ t) := by
  rw [nI_or]
  congr 1
  have := Nat.two_pow_add_eq_or_of_lt h b
  rw [Nat.mul_comm b, Nat.add_comm, this, Nat.or_comm]
theorem shlt {b t : Nat} (ht : t < 32) (h : b * 2 ^ t < 2 ^ 32) : nI b <<< (nI t &&& 31) = nI (b * 2 ^ t) := pk_shlN _ t (sh_c t ht) h
