section
/-! numbers: primes, Fermat, Pocklington, the modulus P is prime -/
def ec_prime (p : Nat) : Prop := 2 ≤ p ∧ ∀ d, d ∣ p → d = 1 ∨ d = p
theorem ec_cop {p a : Nat} (hp : ec_prime p) (h : ¬ p ∣ a) : Nat.Coprime p a := by
  have h1 : Nat.gcd p a ∣ p := Nat.gcd_dvd_left p a
  rcases hp.2 _ h1 with h2 | h2
  · exact h2
  · have h3 := Nat.gcd_dvd_right p a
    rw [h2] at h3
    exact absurd h3 h
theorem ec_euclid {p a b : Nat} (hp : ec_prime p) (h : p ∣ a * b) : p ∣ a ∨ p ∣ b := by
  by_cases ha : p ∣ a
  · exact Or.inl ha
  · exact Or.inr ((ec_cop hp ha).dvd_of_dvd_mul_left h)
theorem ec_powgcd (n x : Nat) (a b : Nat) : x ^ a % n = 1 % n → x ^ b % n = 1 % n → x ^ (Nat.gcd a b) % n = 1 % n := by
  induction a, b using Nat.gcd.induction with
  | H0 b => intro _ h; rw [Nat.gcd_zero_left]; exact h
  | H1 a b ha ih =>
    intro h1 h2
    rw [Nat.gcd_rec]
    refine ih ?_ h1
    have e : x ^ b = (x ^ a) ^ (b / a) * x ^ (b % a) := by
      rw [← Nat.pow_mul, ← Nat.pow_add, Nat.div_add_mod]
    have e2 : (x ^ a) ^ (b / a) % n = 1 % n := by
      rw [Nat.pow_mod, h1, ← Nat.pow_mod, Nat.one_pow]
    rw [e, Nat.mul_mod, e2, ← Nat.mul_mod, Nat.one_mul] at h2
    exact h2
def ec_pr : List Nat → Nat
  | [] => 1
  | a :: l => a * ec_pr l
theorem ec_pr_perm {l l' : List Nat} (h : l.Perm l') : ec_pr l = ec_pr l' := by
  induction h with
  | nil => rfl
  | cons x _ ih => simp only [ec_pr, ih]
  | swap x y l => simp only [ec_pr]; exact Nat.mul_left_comm _ _ _
  | trans _ _ h1 h2 => exact h1.trans h2
theorem ec_perm_of : ∀ (l l' : List Nat), l.Nodup → (∀ x ∈ l, x ∈ l') → l'.length ≤ l.length → l.Perm l'
  | [], l', _, _, hl => by
    have h0 : l' = [] := List.eq_nil_of_length_eq_zero (Nat.le_zero.mp hl)
    subst h0
    exact List.Perm.nil
  | a :: t, l', hn, hs, hl => by
    have ha : a ∈ l' := hs a List.mem_cons_self
    have hp := List.perm_cons_erase ha
    have hn' := List.nodup_cons.mp hn
    refine (List.Perm.cons a (ec_perm_of t (l'.erase a) hn'.2 ?_ ?_)).trans hp.symm
    · intro x hx
      have hxa : x ≠ a := fun e => hn'.1 (e ▸ hx)
      exact (List.mem_erase_of_ne hxa).mpr (hs x (List.mem_cons_of_mem _ hx))
    · rw [List.length_erase_of_mem ha]
      simp only [List.length_cons] at hl
      omega
theorem ec_modsub {p x y : Nat} (hxy : x ≤ y) (h : x % p = y % p) : p ∣ y - x := by
  refine Nat.dvd_of_mod_eq_zero ?_
  exact Nat.sub_mod_eq_zero_of_mod_eq h.symm
theorem ec_inj1 {p a x y : Nat} (hp : ec_prime p) (ha : ¬ p ∣ a) (hxy : x ≤ y) (hy : y < p) (h : a * x % p = a * y % p) : x = y := by
  have h1 := ec_modsub (Nat.mul_le_mul_left a hxy) h
  rw [← Nat.mul_sub] at h1
  rcases ec_euclid hp h1 with h2 | h2
  · exact absurd h2 ha
  · have h3 := Nat.eq_zero_of_dvd_of_lt h2 (by omega)
    omega
theorem ec_inj {p a x y : Nat} (hp : ec_prime p) (ha : ¬ p ∣ a) (hx : x < p) (hy : y < p) (h : a * x % p = a * y % p) : x = y := by
  rcases Nat.le_total x y with h1 | h1
  · exact ec_inj1 hp ha h1 hy h
  · exact (ec_inj1 hp ha h1 hx h.symm).symm
theorem ec_prmap (p a : Nat) : ∀ l : List Nat, ec_pr (l.map (fun i => a * i % p)) % p = a ^ l.length * ec_pr l % p
  | [] => by simp [ec_pr]
  | b :: l => by
    have ih := ec_prmap p a l
    simp only [List.map_cons, ec_pr, List.length_cons]
    rw [Nat.mul_mod, Nat.mod_mod, ih, ← Nat.mul_mod, Nat.pow_succ]
    congr 1
    rw [Nat.mul_mul_mul_comm, Nat.mul_comm a (a ^ l.length), Nat.mul_comm b]
theorem ec_prcop {p : Nat} (hp : ec_prime p) : ∀ l : List Nat, (∀ x ∈ l, ¬ p ∣ x) → ¬ p ∣ ec_pr l
  | [], _ => by
    intro h
    have h1 : p ∣ 1 := h
    have h2 := Nat.le_of_dvd (by decide) h1
    have h3 := hp.1
    omega
  | b :: l, hl => by
    intro h
    rcases ec_euclid hp h with h1 | h1
    · exact hl b List.mem_cons_self h1
    · exact ec_prcop hp l (fun x hx => hl x (List.mem_cons_of_mem _ hx)) h1
theorem ec_cancel {p u q : Nat} (hp : ec_prime p) (hq : ¬ p ∣ q) (h : u * q % p = q % p) : u % p = 1 % p := by
  have hu : 1 ≤ u := by
    rcases Nat.eq_zero_or_pos u with h0 | h0
    · subst h0
      rw [Nat.zero_mul, Nat.zero_mod] at h
      exact absurd (Nat.dvd_of_mod_eq_zero h.symm) hq
    · exact h0
  have h1 : p ∣ u * q - 1 * q := ec_modsub (Nat.mul_le_mul_right q hu) (by rw [Nat.one_mul]; exact h.symm)
  rw [← Nat.sub_mul] at h1
  rcases ec_euclid hp h1 with h2 | h2
  · obtain ⟨k, hk⟩ := h2
    have h3 : u = 1 + p * k := by omega
    rw [h3, Nat.add_mul_mod_self_left]
  · exact absurd h2 hq
theorem ec_fermat {p a : Nat} (hp : ec_prime p) (ha : ¬ p ∣ a) : a ^ (p - 1) % p = 1 := by
  have h2 := hp.1
  have hL : ∀ x, x ∈ List.range' 1 (p - 1) ↔ 1 ≤ x ∧ x < p := by
    intro x
    rw [List.mem_range'_1]
    omega
  have hnd : ((List.range' 1 (p - 1)).map (fun i => a * i % p)).Nodup := by
    unfold List.Nodup
    rw [List.pairwise_map]
    have hd : (List.range' 1 (p - 1)).Nodup := List.nodup_range'
    refine List.Pairwise.imp_of_mem ?_ hd
    intro x y hx hy hne he
    exact hne (ec_inj hp ha ((hL x).mp hx).2 ((hL y).mp hy).2 he)
  have hperm := ec_perm_of _ (List.range' 1 (p - 1)) hnd (by
    intro x hx
    obtain ⟨i, hi, rfl⟩ := List.mem_map.mp hx
    have hi' := (hL i).mp hi
    refine (hL _).mpr ⟨?_, Nat.mod_lt _ (by omega)⟩
    rcases Nat.eq_zero_or_pos (a * i % p) with h0 | h0
    · rcases ec_euclid hp (Nat.dvd_of_mod_eq_zero h0) with h1 | h1
      · exact absurd h1 ha
      · have := Nat.le_of_dvd (by omega) h1
        omega
    · exact h0) (by simp)
  have h3 := ec_prmap p a (List.range' 1 (p - 1))
  rw [ec_pr_perm hperm, List.length_range'] at h3
  have h4 := ec_cancel hp (ec_prcop hp _ (fun x hx => fun hd => by
    have hx' := (hL x).mp hx
    have := Nat.le_of_dvd (by omega) hd
    omega)) h3.symm
  rw [h4, Nat.mod_eq_of_lt (by omega)]
theorem ec_pock {n q a p : Nat} (hn : 2 ≤ n) (hq : ec_prime q) (hqn : q ∣ n - 1) (h1 : a ^ (n - 1) % n = 1) (hg : Nat.gcd (a ^ ((n - 1) / q) % n + (n - 1)) n = 1) (hp : ec_prime p) (hpn : p ∣ n) : q ∣ p - 1 := by
  by_cases hd : q ∣ p - 1
  · exact hd
  have hp2 := hp.1
  have hq2 := hq.1
  have hgc : Nat.gcd q (p - 1) = 1 := ec_cop hq hd
  have hxq : (a ^ ((n - 1) / q)) ^ q % p = 1 % p := by
    rw [← Nat.pow_mul, Nat.div_mul_cancel hqn, ← Nat.mod_mod_of_dvd _ hpn, h1]
  have hpx : ¬ p ∣ a ^ ((n - 1) / q) := by
    intro h
    have h3 : p ∣ (a ^ ((n - 1) / q)) ^ q := Nat.dvd_trans h ⟨(a ^ ((n - 1) / q)) ^ (q - 1), by rw [← Nat.pow_succ']; congr 1; omega⟩
    rw [Nat.mod_eq_zero_of_dvd h3, Nat.mod_eq_of_lt (by omega)] at hxq
    exact absurd hxq (by decide)
  have hf := ec_fermat hp hpx
  have h4 := ec_powgcd p (a ^ ((n - 1) / q)) q (p - 1) hxq (by rw [hf, Nat.mod_eq_of_lt (by omega)])
  rw [hgc, Nat.pow_one, Nat.mod_eq_of_lt (a := 1) (by omega)] at h4
  have h5 : a ^ ((n - 1) / q) % n % p = 1 := by rw [Nat.mod_mod_of_dvd _ hpn]; exact h4
  obtain ⟨m, hm⟩ := hpn
  have h6 := Nat.div_add_mod (a ^ ((n - 1) / q) % n) p
  rw [h5] at h6
  have h7 : p ∣ a ^ ((n - 1) / q) % n + (n - 1) := by
    refine ⟨(a ^ ((n - 1) / q) % n) / p + m, ?_⟩
    rw [Nat.mul_add, ← hm]
    omega
  have h8 := Nat.dvd_gcd h7 ⟨m, hm⟩
  rw [hg] at h8
  have := Nat.le_of_dvd (by decide) h8
  omega
theorem ec_hasprime (n : Nat) (h : 2 ≤ n) : ∃ p, ec_prime p ∧ p ∣ n := by
  induction n using Nat.strongRecOn with
  | ind n ih =>
    by_cases hn : ∀ d, d ∣ n → d = 1 ∨ d = n
    · exact ⟨n, ⟨h, hn⟩, Nat.dvd_refl n⟩
    · obtain ⟨d, hd⟩ := Classical.not_forall.mp hn
      obtain ⟨hd1, hd2⟩ := Classical.not_imp.mp hd
      have hle := Nat.le_of_dvd (by omega) hd1
      have hd0 : d ≠ 0 := by
        intro h0
        subst h0
        have := Nat.eq_zero_of_zero_dvd hd1
        omega
      obtain ⟨p, hp, hpd⟩ := ih d (by omega) (by omega)
      exact ⟨p, hp, Nat.dvd_trans hpd hd1⟩
theorem ec_prime_of {n : Nat} (h2 : 2 ≤ n) (h : ∀ p, ec_prime p → p ∣ n → n < p * p) : ec_prime n := by
  have key : ∀ d e, n = d * e → d ≤ e → d = 1 ∨ d = n := by
    intro d e hde hle
    rcases Nat.lt_or_ge d 2 with hd | hd
    · rcases Nat.eq_zero_or_pos d with h0 | h0
      · subst h0
        rw [Nat.zero_mul] at hde
        omega
      · exact Or.inl (by omega)
    · obtain ⟨p, hp, hpd⟩ := ec_hasprime d hd
      have h3 := h p hp (Nat.dvd_trans hpd ⟨e, hde⟩)
      have h4 := Nat.le_of_dvd (by omega) hpd
      have h5 := Nat.mul_le_mul h4 (Nat.le_trans h4 hle)
      omega
  refine ⟨h2, fun d hd => ?_⟩
  obtain ⟨e, he⟩ := hd
  rcases Nat.le_total d e with hle | hle
  · exact key d e he hle
  · rcases key e d (by rw [he, Nat.mul_comm]) hle with h1 | h1
    · subst h1
      exact Or.inr (by omega)
    · have h3 : n = d * n := by rw [h1] at he; exact he
      have h4 : d * n = 1 * n := by omega
      exact Or.inl (Nat.eq_of_mul_eq_mul_right (by omega) h4)
/-- trial division up to k -/
def ec_tr (n : Nat) : Nat → Bool
  | 0 => true
  | k + 1 => (Nat.ble (k + 1) 1 || !(Nat.beq (n % (k + 1)) 0)) && ec_tr n k
theorem ec_tr_spec (n : Nat) : ∀ k, ec_tr n k = true → ∀ d, 2 ≤ d → d ≤ k → ¬ d ∣ n
  | 0, _, d, h2, hk => by omega
  | k + 1, h, d, h2, hk => by
    simp only [ec_tr, Bool.and_eq_true, Bool.or_eq_true, Bool.not_eq_true'] at h
    by_cases hd : d = k + 1
    · subst hd
      intro hdv
      rcases h.1 with h1 | h1
      · have := Nat.le_of_ble_eq_true h1
        omega
      · rw [Nat.mod_eq_zero_of_dvd hdv] at h1
        cases h1
    · exact ec_tr_spec n k h.2 d h2 (by omega)
theorem ec_small {n : Nat} (k : Nat) (h2 : 2 ≤ n) (hk : n < (k + 1) * (k + 1)) (h : ec_tr n k = true) : ec_prime n := by
  refine ec_prime_of h2 fun p hp hd => ?_
  rcases Nat.lt_or_ge k p with h1 | h1
  · have := Nat.mul_le_mul (show k + 1 ≤ p from h1) (show k + 1 ≤ p from h1)
    omega
  · exact absurd hd (ec_tr_spec n k h p hp.1 h1)
/-- power by squaring, for the kernel -/
def ec_mp (n : Nat) : Nat → Nat → Nat → Nat
  | 0, _, _ => 1 % n
  | f + 1, a, e => if e % 2 = 1 then (a * ec_mp n f (a * a % n) (e / 2)) % n else ec_mp n f (a * a % n) (e / 2)
theorem ec_mp_spec (n : Nat) : ∀ (f a e : Nat), e < 2 ^ f → ec_mp n f a e = a ^ e % n
  | 0, a, e, h => by
    have h0 : e = 0 := by omega
    subst h0
    rfl
  | f + 1, a, e, h => by
    have hlt : e / 2 < 2 ^ f := by
      rw [Nat.pow_succ] at h
      omega
    have ih := ec_mp_spec n f (a * a % n) (e / 2) hlt
    have e1 : (a * a % n) ^ (e / 2) % n = (a ^ (2 * (e / 2))) % n := by
      rw [← Nat.pow_mod, Nat.pow_mul, Nat.pow_two]
    simp only [ec_mp]
    rw [ih, e1]
    by_cases hp : e % 2 = 1
    · rw [if_pos hp]
      have he : a ^ e = a * a ^ (2 * (e / 2)) := by
        rw [← Nat.pow_succ']
        congr 1
        omega
      rw [he, Nat.mul_mod, Nat.mod_mod, ← Nat.mul_mod]
    · rw [if_neg hp]
      congr 2
      omega
theorem ec_pockC {n q a p : Nat} (f : Nat) (hn : 2 ≤ n) (hq : ec_prime q) (h : (n - 1) % q = 0 ∧ n - 1 < 2 ^ f ∧ (n - 1) / q < 2 ^ f ∧ ec_mp n f a (n - 1) = 1 ∧ Nat.gcd (ec_mp n f a ((n - 1) / q) + (n - 1)) n = 1) (hp : ec_prime p) (hpn : p ∣ n) : q ∣ p - 1 := by
  obtain ⟨h1, h2, h3, h4, h5⟩ := h
  rw [ec_mp_spec n f a _ h2] at h4
  rw [ec_mp_spec n f a _ h3] at h5
  exact ec_pock hn hq (Nat.dvd_of_mod_eq_zero h1) h4 h5 hp hpn
theorem ec_bigdiv {n q : Nat} (hn : 2 ≤ n) (hq : n < q * q) (h : ∀ p, ec_prime p → p ∣ n → q ∣ p - 1) : ec_prime n := by
  refine ec_prime_of hn fun p hp hd => ?_
  have h1 := Nat.le_of_dvd (by have := hp.1; omega) (h p hp hd)
  have h2 := Nat.mul_le_mul (show q ≤ p by omega) (show q ≤ p by omega)
  omega
theorem ec_pr5 : ec_prime 20113 := ec_small 142 (by decide) (by decide) (by decide +kernel)
theorem ec_pr4 : ec_prime 1206781 := ec_bigdiv (q := 20113) (by decide) (by decide) (fun p hp hd => ec_pockC (a := 2) 21 (by decide) ec_pr5 (by decide +kernel) hp hd)
theorem ec_pr3 : ec_prime 7240687 := ec_bigdiv (q := 1206781) (by decide) (by decide) (fun p hp hd => ec_pockC (a := 2) 23 (by decide) ec_pr4 (by decide +kernel) hp hd)
theorem ec_pr2 : ec_prime 96557 := ec_small 311 (by decide) (by decide) (by decide +kernel)
theorem ec_pr53 : ec_prime 53 := ec_small 8 (by decide) (by decide) (by decide +kernel)
theorem ec_pr29 : ec_prime 29 := ec_small 6 (by decide) (by decide) (by decide +kernel)
theorem ec_pr7 : ec_prime 7 := ec_small 3 (by decide) (by decide) (by decide +kernel)
theorem ec_pr1 : ec_prime 107590001 := ec_bigdiv (q := 53 * 29 * 7) (by decide) (by decide) (fun p hp hd =>
  Nat.Coprime.mul_dvd_of_dvd_of_dvd (by decide) (Nat.Coprime.mul_dvd_of_dvd_of_dvd (by decide) (ec_pockC (a := 2) 27 (by decide) ec_pr53 (by decide +kernel) hp hd) (ec_pockC (a := 2) 27 (by decide) ec_pr29 (by decide +kernel) hp hd)) (ec_pockC (a := 2) 27 (by decide) ec_pr7 (by decide +kernel) hp hd))
def ec_b : Nat := 255515944373312847190720520512484175977
def ec_q : Nat := 205115282021455665897114700593932402728804164701536103180137503955397371
def ec_P : Nat := 115792089237316195423570985008687907853269984665640564039457584007908834671663
theorem ec_prb : ec_prime ec_b := ec_bigdiv (q := 107590001 * 7240687 * 96557) (by decide +kernel) (by decide +kernel) (fun p hp hd =>
  Nat.Coprime.mul_dvd_of_dvd_of_dvd (by decide +kernel) (Nat.Coprime.mul_dvd_of_dvd_of_dvd (by decide +kernel) (ec_pockC (a := 2) 128 (by decide +kernel) ec_pr1 (by decide +kernel) hp hd) (ec_pockC (a := 2) 128 (by decide +kernel) ec_pr3 (by decide +kernel) hp hd)) (ec_pockC (a := 2) 128 (by decide +kernel) ec_pr2 (by decide +kernel) hp hd))
theorem ec_prq : ec_prime ec_q := ec_bigdiv (q := ec_b) (by decide +kernel) (by decide +kernel) (fun p hp hd => ec_pockC (a := 2) 237 (by decide +kernel) ec_prb (by decide +kernel) hp hd)
/-- the first modulus is prime -/
theorem ec_prP : ec_prime ec_P := ec_bigdiv (q := ec_q) (by decide +kernel) (by decide +kernel) (fun p hp hd => ec_pockC (a := 2) 256 (by decide +kernel) ec_prq (by decide +kernel) hp hd)
theorem ec_fermatP {a : Nat} (h : a % ec_P ≠ 0) : a ^ (ec_P - 1) % ec_P = 1 := ec_fermat ec_prP (fun hd => h (Nat.mod_eq_zero_of_dvd hd))
end
section
/-! the sum of points: an identity of those that make it associative -/
set_option maxRecDepth 20000 in
set_option maxHeartbeats 4000000 in
theorem ec_idx00 {F : Type} [Lean.Grind.CommRing F] (x1 x2 x3 y2 l n : F) (h1 : x1*x1 + x1*x2 + x2*x2 - l*(2*y2 + l*(x1 - x2)) = 0) (h3 : x3*x3 + x3*x2 + x2*x2 - n*(2*y2 + n*(x3 - x2)) = 0) : ((y2 + n*(x3 - x2)) - (l*(x1 - (l*l - x1 - x2)) - (y2 + l*(x1 - x2))))*((y2 + n*(x3 - x2)) - (l*(x1 - (l*l - x1 - x2)) - (y2 + l*(x1 - x2))))*(((n*n - x2 - x3) - x1)*((n*n - x2 - x3) - x1)) - ((n*(x2 - (n*n - x2 - x3)) - y2) - (y2 + l*(x1 - x2)))*((n*(x2 - (n*n - x2 - x3)) - y2) - (y2 + l*(x1 - x2)))*((x3 - (l*l - x1 - x2))*(x3 - (l*l - x1 - x2))) - (x3 + (l*l - x1 - x2) - x1 - (n*n - x2 - x3))*((x3 - (l*l - x1 - x2))*(x3 - (l*l - x1 - x2)))*(((n*n - x2 - x3) - x1)*((n*n - x2 - x3) - x1)) = 0 := by
  have e : ((y2 + n*(x3 - x2)) - (l*(x1 - (l*l - x1 - x2)) - (y2 + l*(x1 - x2))))*((y2 + n*(x3 - x2)) - (l*(x1 - (l*l - x1 - x2)) - (y2 + l*(x1 - x2))))*(((n*n - x2 - x3) - x1)*((n*n - x2 - x3) - x1)) - ((n*(x2 - (n*n - x2 - x3)) - y2) - (y2 + l*(x1 - x2)))*((n*(x2 - (n*n - x2 - x3)) - y2) - (y2 + l*(x1 - x2)))*((x3 - (l*l - x1 - x2))*(x3 - (l*l - x1 - x2))) - (x3 + (l*l - x1 - x2) - x1 - (n*n - x2 - x3))*((x3 - (l*l - x1 - x2))*(x3 - (l*l - x1 - x2)))*(((n*n - x2 - x3) - x1)*((n*n - x2 - x3) - x1)) = ((((((2*x1*x1*x1 + 6*x1*x1*x3) + (6*x1*x1*x2 + (-(3*x1*x1*l*l) + -(3*x1*x1*n*n)))) + ((4*x1*x3*x3 + (10*x1*x3*x2 + -(6*x1*x3*l*l))) + (-(4*x1*x3*n*n) + (4*x1*x2*x2 + -(3*x1*x2*l*l))))) + (((6*x1*x2*l*n + -(5*x1*x2*n*n)) + (-(4*x1*y2*l) + (x1*l*l*l*l + 3*x1*l*l*n*n))) + ((-(2*x1*l*n*n*n) + (-(4*x3*x3*x3) + -(4*x3*x3*x2))) + (-(2*x3*x3*l*l) + (6*x3*x3*n*n + -(4*x3*x2*x2)))))) + ((((-(2*x3*x2*l*l) + 6*x3*x2*l*n) + (-(2*x3*x2*n*n) + (-(4*x3*y2*l) + 8*x3*y2*n))) + ((-(2*x3*l*l*l*n) + (2*x3*l*l*n*n + -(2*x3*n*n*n*n))) + (-(2*x2*x2*x2) + (x2*x2*l*l + 6*x2*x2*l*n)))) + (((-(x2*x2*n*n) + (-(4*x2*y2*l) + 4*x2*y2*n)) + (-(x2*l*l*l*l) + (-(4*x2*l*l*l*n) + x2*l*l*n*n))) + ((-(4*x2*l*n*n*n) + (2*x2*n*n*n*n + 2*y2*l*l*l)) + (2*y2*l*n*n + (-(4*y2*n*n*n) + 2*l*l*l*n*n*n)))))))*(x1*x1 + x1*x2 + x2*x2 - l*(2*y2 + l*(x1 - x2))) + ((((((-(6*x1*x3*x3) + -(6*x1*x3*x2)) + (6*x1*x3*n*n + -(6*x1*x2*l*n))) + ((4*x1*y2*n + 2*x1*l*n*n*n) + (-(2*x3*x3*x3) + -(6*x3*x3*x2)))) + (((3*x3*x3*l*l + 3*x3*x3*n*n) + (9*x3*x2*l*l + -(6*x3*x2*l*n))) + ((3*x3*x2*n*n + -(8*x3*y2*l)) + (4*x3*y2*n + 2*x3*l*l*l*n)))) + ((((-(3*x3*l*l*n*n) + -(x3*n*n*n*n)) + (2*x2*x2*x2 + 3*x2*x2*l*l)) + ((-(6*x2*x2*l*n) + -(3*x2*x2*n*n)) + (-(4*x2*y2*l) + 4*x2*y2*n))) + (((4*x2*l*l*l*n + -(3*x2*l*l*n*n)) + (4*x2*l*n*n*n + x2*n*n*n*n)) + ((-(2*y2*l*l*n) + 4*y2*l*n*n) + (-(2*y2*n*n*n) + -(2*l*l*l*n*n*n)))))))*(x3*x3 + x3*x2 + x2*x2 - n*(2*y2 + n*(x3 - x2))) := by grind
  rw [e, h1, h3]
  grind
end
section
/-! the sum of points: an identity of those that make it associative -/
set_option maxRecDepth 20000 in
set_option maxHeartbeats 4000000 in
theorem ec_idy00 {F : Type} [Lean.Grind.CommRing F] (x1 x2 x3 y2 l n : F) (h1 : x1*x1 + x1*x2 + x2*x2 - l*(2*y2 + l*(x1 - x2)) = 0) (h3 : x3*x3 + x3*x2 + x2*x2 - n*(2*y2 + n*(x3 - x2)) = 0) : ((y2 + n*(x3 - x2)) - (l*(x1 - (l*l - x1 - x2)) - (y2 + l*(x1 - x2))))*((n*n - x2 - x3) - x1)*(2*x3 + (l*l - x1 - x2))*((x3 - (l*l - x1 - x2))*(x3 - (l*l - x1 - x2))) - ((y2 + n*(x3 - x2)) - (l*(x1 - (l*l - x1 - x2)) - (y2 + l*(x1 - x2))))*((y2 + n*(x3 - x2)) - (l*(x1 - (l*l - x1 - x2)) - (y2 + l*(x1 - x2))))*((y2 + n*(x3 - x2)) - (l*(x1 - (l*l - x1 - x2)) - (y2 + l*(x1 - x2))))*((n*n - x2 - x3) - x1) - (y2 + n*(x3 - x2))*((x3 - (l*l - x1 - x2))*(x3 - (l*l - x1 - x2))*(x3 - (l*l - x1 - x2)))*((n*n - x2 - x3) - x1) - ((n*(x2 - (n*n - x2 - x3)) - y2) - (y2 + l*(x1 - x2)))*(x3 - (l*l - x1 - x2))*((x1 + x3 + (l*l - x1 - x2))*((x3 - (l*l - x1 - x2))*(x3 - (l*l - x1 - x2))) - ((y2 + n*(x3 - x2)) - (l*(x1 - (l*l - x1 - x2)) - (y2 + l*(x1 - x2))))*((y2 + n*(x3 - x2)) - (l*(x1 - (l*l - x1 - x2)) - (y2 + l*(x1 - x2))))) + (y2 + l*(x1 - x2))*((x3 - (l*l - x1 - x2))*(x3 - (l*l - x1 - x2))*(x3 - (l*l - x1 - x2)))*((n*n - x2 - x3) - x1) = 0 := by
  have e : ((y2 + n*(x3 - x2)) - (l*(x1 - (l*l - x1 - x2)) - (y2 + l*(x1 - x2))))*((n*n - x2 - x3) - x1)*(2*x3 + (l*l - x1 - x2))*((x3 - (l*l - x1 - x2))*(x3 - (l*l - x1 - x2))) - ((y2 + n*(x3 - x2)) - (l*(x1 - (l*l - x1 - x2)) - (y2 + l*(x1 - x2))))*((y2 + n*(x3 - x2)) - (l*(x1 - (l*l - x1 - x2)) - (y2 + l*(x1 - x2))))*((y2 + n*(x3 - x2)) - (l*(x1 - (l*l - x1 - x2)) - (y2 + l*(x1 - x2))))*((n*n - x2 - x3) - x1) - (y2 + n*(x3 - x2))*((x3 - (l*l - x1 - x2))*(x3 - (l*l - x1 - x2))*(x3 - (l*l - x1 - x2)))*((n*n - x2 - x3) - x1) - ((n*(x2 - (n*n - x2 - x3)) - y2) - (y2 + l*(x1 - x2)))*(x3 - (l*l - x1 - x2))*((x1 + x3 + (l*l - x1 - x2))*((x3 - (l*l - x1 - x2))*(x3 - (l*l - x1 - x2))) - ((y2 + n*(x3 - x2)) - (l*(x1 - (l*l - x1 - x2)) - (y2 + l*(x1 - x2))))*((y2 + n*(x3 - x2)) - (l*(x1 - (l*l - x1 - x2)) - (y2 + l*(x1 - x2))))) + (y2 + l*(x1 - x2))*((x3 - (l*l - x1 - x2))*(x3 - (l*l - x1 - x2))*(x3 - (l*l - x1 - x2)))*((n*n - x2 - x3) - x1) = ((((((-(2*x1*x1*x1*l) + (-(4*x1*x1*x3*l) + 2*x1*x1*x3*n)) + ((-(8*x1*x1*x2*l) + -(2*x1*x1*x2*n)) + (2*x1*x1*y2 + 4*x1*x1*l*l*l))) + (((2*x1*x1*l*n*n + 4*x1*x3*x3*n) + (-(10*x1*x3*x2*l) + 4*x1*x3*y2)) + ((7*x1*x3*l*l*l + x1*x3*l*l*n) + (3*x1*x3*l*n*n + -(x1*x3*n*n*n))))) + ((((-(8*x1*x2*x2*l) + -(4*x1*x2*x2*n)) + (4*x1*x2*y2 + 9*x1*x2*l*l*l)) + ((-(x1*x2*l*l*n) + 5*x1*x2*l*n*n) + (x1*x2*n*n*n + 2*x1*y2*l*l))) + (((-(2*x1*y2*n*n) + -(2*x1*l*l*l*l*l)) + (-(4*x1*l*l*l*n*n) + 4*x3*x3*x3*l)) + ((6*x3*x3*x2*l + 2*x3*x3*x2*n) + (-(2*x3*x3*l*l*n) + -(6*x3*x3*l*n*n)))))) + ((((2*x3*x2*x2*l + (-(2*x3*x2*x2*n) + 2*x3*x2*y2)) + ((8*x3*x2*l*l*l + 6*x3*x2*l*l*n) + (6*x3*x2*l*n*n + -(2*x3*x2*n*n*n)))) + (((-(2*x3*y2*l*l) + -(12*x3*y2*l*n)) + (-(3*x3*l*l*l*l*l) + -(3*x3*l*l*l*l*n))) + ((-(3*x3*l*l*l*n*n) + x3*l*l*n*n*n) + (2*x3*l*n*n*n*n + 2*x2*x2*x2*l)))) + ((((2*x2*x2*l*l*l + -(4*x2*x2*l*l*n)) + (2*x2*x2*l*n*n + 2*x2*x2*n*n*n)) + ((6*x2*y2*l*l + -(4*x2*y2*n*n)) + (-(x2*l*l*l*l*l) + 3*x2*l*l*l*l*n))) + (((-(5*x2*l*l*l*n*n) + -(x2*l*l*n*n*n)) + (-(2*x2*l*n*n*n*n) + -(4*y2*y2*l))) + ((-(4*y2*l*l*l*l) + 2*y2*l*l*n*n) + (4*y2*l*n*n*n + 2*l*l*l*l*l*n*n)))))))*(x1*x1 + x1*x2 + x2*x2 - l*(2*y2 + l*(x1 - x2))) + ((((((2*x1*x3*x3*l + (-(4*x1*x3*x3*n) + 8*x1*x3*x2*l)) + (2*x1*x3*x2*n + (-(4*x1*x3*y2) + -(3*x1*x3*l*l*l)))) + ((-(3*x1*x3*l*l*n) + (-(5*x1*x3*l*n*n) + x1*x3*n*n*n)) + ((2*x1*x2*x2*l + 2*x1*x2*x2*n) + (-(2*x1*x2*y2) + -(3*x1*x2*l*l*l))))) + (((3*x1*x2*l*l*n + (-(x1*x2*l*n*n) + -(x1*x2*n*n*n))) + ((-(4*x1*y2*l*n) + 2*x1*y2*n*n) + (2*x1*l*l*l*n*n + -(2*x3*x3*x3*n)))) + ((4*x3*x3*x2*l + (-(2*x3*x3*x2*n) + -(2*x3*x3*y2))) + ((-(2*x3*x3*l*l*l) + 2*x3*x3*l*l*n) + (2*x3*x3*n*n*n + 4*x3*x2*x2*l))))) + ((((4*x3*x2*x2*n + (-(4*x3*x2*y2) + -(14*x3*x2*l*l*l))) + (-(4*x3*x2*l*l*n) + (-(10*x3*x2*l*n*n) + -(2*x3*x2*n*n*n)))) + ((10*x3*y2*l*l + (6*x3*y2*n*n + 3*x3*l*l*l*l*l)) + ((3*x3*l*l*l*l*n + 5*x3*l*l*l*n*n) + (-(x3*l*l*n*n*n) + -(2*x2*x2*x2*l))))) + (((-(8*x2*x2*l*l*l) + (2*x2*x2*l*l*n + 4*x2*x2*l*n*n)) + ((8*x2*y2*l*l + -(8*x2*y2*l*n)) + (-(2*x2*y2*n*n) + 3*x2*l*l*l*l*l))) + ((-(3*x2*l*l*l*l*n) + (5*x2*l*l*l*n*n + x2*l*l*n*n*n)) + ((4*y2*y2*n + 4*y2*l*l*l*n) + (-(6*y2*l*l*n*n) + -(2*l*l*l*l*l*n*n))))))))*(x3*x3 + x3*x2 + x2*x2 - n*(2*y2 + n*(x3 - x2))) := by grind
  rw [e, h1, h3]
  grind
end
section
/-! the sum of points: an identity of those that make it associative -/
set_option maxRecDepth 20000 in
set_option maxHeartbeats 4000000 in
theorem ec_idx01 {F : Type} [Lean.Grind.CommRing F] (x1 x2 x3 y2 l n : F) (h1 : x1*x1 + x1*x2 + x2*x2 - l*(2*y2 + l*(x1 - x2)) = 0) (h3 : x3*x3 + x3*x2 + x2*x2 - n*(2*y2 + n*(x3 - x2)) = 0) : ((y2 + n*(x3 - x2)) - (l*(x1 - (l*l - x1 - x2)) - (y2 + l*(x1 - x2))))*((y2 + n*(x3 - x2)) - (l*(x1 - (l*l - x1 - x2)) - (y2 + l*(x1 - x2))))*(((y2 + l*(x1 - x2)) + (n*(x2 - (n*n - x2 - x3)) - y2))*((y2 + l*(x1 - x2)) + (n*(x2 - (n*n - x2 - x3)) - y2))) - (x1*x1 + x1*(n*n - x2 - x3) + (n*n - x2 - x3)*(n*n - x2 - x3))*(x1*x1 + x1*(n*n - x2 - x3) + (n*n - x2 - x3)*(n*n - x2 - x3))*((x3 - (l*l - x1 - x2))*(x3 - (l*l - x1 - x2))) - (x3 + (l*l - x1 - x2) - x1 - (n*n - x2 - x3))*((x3 - (l*l - x1 - x2))*(x3 - (l*l - x1 - x2)))*(((y2 + l*(x1 - x2)) + (n*(x2 - (n*n - x2 - x3)) - y2))*((y2 + l*(x1 - x2)) + (n*(x2 - (n*n - x2 - x3)) - y2))) = 0 := by
  have e : ((y2 + n*(x3 - x2)) - (l*(x1 - (l*l - x1 - x2)) - (y2 + l*(x1 - x2))))*((y2 + n*(x3 - x2)) - (l*(x1 - (l*l - x1 - x2)) - (y2 + l*(x1 - x2))))*(((y2 + l*(x1 - x2)) + (n*(x2 - (n*n - x2 - x3)) - y2))*((y2 + l*(x1 - x2)) + (n*(x2 - (n*n - x2 - x3)) - y2))) - (x1*x1 + x1*(n*n - x2 - x3) + (n*n - x2 - x3)*(n*n - x2 - x3))*(x1*x1 + x1*(n*n - x2 - x3) + (n*n - x2 - x3)*(n*n - x2 - x3))*((x3 - (l*l - x1 - x2))*(x3 - (l*l - x1 - x2))) - (x3 + (l*l - x1 - x2) - x1 - (n*n - x2 - x3))*((x3 - (l*l - x1 - x2))*(x3 - (l*l - x1 - x2)))*(((y2 + l*(x1 - x2)) + (n*(x2 - (n*n - x2 - x3)) - y2))*((y2 + l*(x1 - x2)) + (n*(x2 - (n*n - x2 - x3)) - y2))) = (((((((-(x1*x1*x1*x1) + x1*x1*x1*x2) + (3*x1*x1*x1*l*l + -(2*x1*x1*x1*n*n))) + ((4*x1*x1*x3*l*n + 2*x1*x1*x3*n*n) + (-(3*x1*x1*x2*l*l) + (8*x1*x1*x2*l*n + 4*x1*x1*x2*n*n)))) + (((-(2*x1*x1*y2*l) + -(2*x1*x1*l*l*l*l)) + (3*x1*x1*l*l*n*n + -(4*x1*x1*l*n*n*n))) + ((-(3*x1*x1*n*n*n*n) + -(2*x1*x3*x3*x3)) + (-(6*x1*x3*x3*x2) + (4*x1*x3*x3*l*n + 6*x1*x3*x3*n*n))))) + ((((-(6*x1*x3*x2*x2) + 8*x1*x3*x2*l*n) + (14*x1*x3*x2*n*n + -(6*x1*x3*l*l*l*n))) + ((-(4*x1*x3*l*l*n*n) + -(2*x1*x3*l*n*n*n)) + (-(4*x1*x3*n*n*n*n) + (-(3*x1*x2*x2*x2) + -(3*x1*x2*x2*l*l))))) + (((10*x1*x2*x2*n*n + 4*x1*x2*y2*l) + (4*x1*x2*l*l*l*l + (-(6*x1*x2*l*l*l*n) + -(5*x1*x2*l*l*n*n)))) + ((4*x1*x2*l*n*n*n + -(5*x1*x2*n*n*n*n)) + (-(4*x1*y2*l*n*n) + (-(x1*l*l*l*l*n*n) + 4*x1*l*l*l*n*n*n)))))) + (((((3*x1*l*l*n*n*n*n + -(2*x1*l*n*n*n*n*n)) + (2*x3*x3*x3*x2 + -(2*x3*x3*x3*l*l))) + ((-(4*x3*x3*x3*l*n) + 6*x3*x3*x2*x2) + (-(16*x3*x3*x2*l*n) + (8*x3*x3*l*n*n*n + 6*x3*x2*x2*x2)))) + (((-(24*x3*x2*x2*l*n) + 2*x3*x2*x2*n*n) + (6*x3*x2*l*l*l*n + -(8*x3*x2*l*l*n*n))) + ((16*x3*x2*l*n*n*n + -(2*x3*x2*n*n*n*n)) + (4*x3*y2*l*l*n + (4*x3*y2*l*n*n + -(2*x3*l*l*l*n*n*n)))))) + ((((2*x3*l*l*n*n*n*n + -(4*x3*l*n*n*n*n*n)) + (3*x2*x2*x2*x2 + 5*x2*x2*x2*l*l)) + ((-(16*x2*x2*x2*l*n) + -(2*x2*x2*y2*l)) + (-(2*x2*x2*l*l*l*l) + (6*x2*x2*l*l*l*n + -(x2*x2*l*l*n*n))))) + (((8*x2*x2*l*n*n*n + -(x2*x2*n*n*n*n)) + (-(4*x2*y2*l*l*n) + (12*x2*y2*l*n*n + x2*l*l*l*l*n*n))) + ((-(8*x2*l*l*l*n*n*n) + x2*l*l*n*n*n*n) + (2*y2*l*l*l*n*n + (-(6*y2*l*n*n*n*n) + 2*l*l*l*n*n*n*n*n))))))))*(x1*x1 + x1*x2 + x2*x2 - l*(2*y2 + l*(x1 - x2))) + (((((((-(2*x1*x3*x3*l*l) + -(4*x1*x3*x3*l*n)) + (4*x1*x3*x2*l*l + -(4*x1*x3*x2*l*n))) + ((-(4*x1*x3*y2*l) + 2*x1*x3*l*l*l*n) + (2*x1*x3*l*n*n*n + (4*x1*x2*x2*l*l + 8*x1*x2*x2*l*n)))) + (((-(8*x1*x2*y2*l) + -(2*x1*x2*l*l*l*n)) + (-(6*x1*x2*l*l*n*n) + -(8*x1*x2*l*n*n*n))) + ((4*x1*y2*l*l*n + 4*x1*y2*l*n*n) + (2*x1*l*l*n*n*n*n + (2*x1*l*n*n*n*n*n + -(x3*x3*x3*x3)))))) + ((((-(5*x3*x3*x3*x2) + 2*x3*x3*x3*l*l) + (x3*x3*x3*n*n + -(9*x3*x3*x2*x2))) + ((8*x3*x3*x2*l*l + 4*x3*x3*x2*l*n) + (3*x3*x3*x2*n*n + (-(2*x3*x3*y2*n) + -(x3*x3*l*l*l*l))))) + (((-(3*x3*x3*l*l*n*n) + x3*x3*n*n*n*n) + (-(8*x3*x2*x2*x2) + 8*x3*x2*x2*l*l)) + ((16*x3*x2*x2*l*n + 6*x3*x2*x2*n*n) + (4*x3*x2*y2*l + (-(8*x3*x2*y2*n) + -(x3*x2*l*l*l*l))))))) + (((((-(2*x3*x2*l*l*l*n) + -(9*x3*x2*l*l*n*n)) + (-(8*x3*x2*l*n*n*n) + x3*x2*n*n*n*n)) + ((-(4*x3*y2*l*l*l) + -(4*x3*y2*l*l*n)) + (4*x3*y2*n*n*n + (3*x3*l*l*l*l*n*n + 2*x3*l*l*l*n*n*n)))) + (((x3*l*l*n*n*n*n + -(x3*n*n*n*n*n*n)) + (-(4*x2*x2*x2*x2) + -(6*x2*x2*x2*l*l))) + ((16*x2*x2*x2*l*n + 8*x2*x2*x2*n*n) + (8*x2*x2*y2*l + (-(8*x2*x2*y2*n) + -(x2*x2*l*l*l*l)))))) + ((((2*x2*x2*l*l*l*n + -(3*x2*x2*l*l*n*n)) + (-(16*x2*x2*l*n*n*n) + -(5*x2*x2*n*n*n*n))) + ((4*x2*y2*l*l*l + -(12*x2*y2*l*l*n)) + (-(4*x2*y2*l*n*n) + (8*x2*y2*n*n*n + 3*x2*l*l*l*l*n*n)))) + (((4*x2*l*l*l*n*n*n + 3*x2*l*l*n*n*n*n) + (4*x2*l*n*n*n*n*n + x2*n*n*n*n*n*n)) + ((-(2*y2*l*l*l*l*n) + 6*y2*l*l*n*n*n) + (-(2*y2*n*n*n*n*n) + (-(2*l*l*l*l*n*n*n*n) + -(2*l*l*l*n*n*n*n*n)))))))))*(x3*x3 + x3*x2 + x2*x2 - n*(2*y2 + n*(x3 - x2))) := by grind
  rw [e, h1, h3]
  grind
end
section
/-! the sum of points: an identity of those that make it associative -/
set_option maxRecDepth 20000 in
set_option maxHeartbeats 4000000 in
theorem ec_idy01 {F : Type} [Lean.Grind.CommRing F] (x1 x2 x3 y2 l n : F) (h1 : x1*x1 + x1*x2 + x2*x2 - l*(2*y2 + l*(x1 - x2)) = 0) (h3 : x3*x3 + x3*x2 + x2*x2 - n*(2*y2 + n*(x3 - x2)) = 0) : ((y2 + n*(x3 - x2)) - (l*(x1 - (l*l - x1 - x2)) - (y2 + l*(x1 - x2))))*((y2 + l*(x1 - x2)) + (n*(x2 - (n*n - x2 - x3)) - y2))*(2*x3 + (l*l - x1 - x2))*((x3 - (l*l - x1 - x2))*(x3 - (l*l - x1 - x2))) - ((y2 + n*(x3 - x2)) - (l*(x1 - (l*l - x1 - x2)) - (y2 + l*(x1 - x2))))*((y2 + n*(x3 - x2)) - (l*(x1 - (l*l - x1 - x2)) - (y2 + l*(x1 - x2))))*((y2 + n*(x3 - x2)) - (l*(x1 - (l*l - x1 - x2)) - (y2 + l*(x1 - x2))))*((y2 + l*(x1 - x2)) + (n*(x2 - (n*n - x2 - x3)) - y2)) - (y2 + n*(x3 - x2))*((x3 - (l*l - x1 - x2))*(x3 - (l*l - x1 - x2))*(x3 - (l*l - x1 - x2)))*((y2 + l*(x1 - x2)) + (n*(x2 - (n*n - x2 - x3)) - y2)) - (x1*x1 + x1*(n*n - x2 - x3) + (n*n - x2 - x3)*(n*n - x2 - x3))*(x3 - (l*l - x1 - x2))*((x1 + x3 + (l*l - x1 - x2))*((x3 - (l*l - x1 - x2))*(x3 - (l*l - x1 - x2))) - ((y2 + n*(x3 - x2)) - (l*(x1 - (l*l - x1 - x2)) - (y2 + l*(x1 - x2))))*((y2 + n*(x3 - x2)) - (l*(x1 - (l*l - x1 - x2)) - (y2 + l*(x1 - x2))))) + (y2 + l*(x1 - x2))*((x3 - (l*l - x1 - x2))*(x3 - (l*l - x1 - x2))*(x3 - (l*l - x1 - x2)))*((y2 + l*(x1 - x2)) + (n*(x2 - (n*n - x2 - x3)) - y2)) = 0 := by
  have e : ((y2 + n*(x3 - x2)) - (l*(x1 - (l*l - x1 - x2)) - (y2 + l*(x1 - x2))))*((y2 + l*(x1 - x2)) + (n*(x2 - (n*n - x2 - x3)) - y2))*(2*x3 + (l*l - x1 - x2))*((x3 - (l*l - x1 - x2))*(x3 - (l*l - x1 - x2))) - ((y2 + n*(x3 - x2)) - (l*(x1 - (l*l - x1 - x2)) - (y2 + l*(x1 - x2))))*((y2 + n*(x3 - x2)) - (l*(x1 - (l*l - x1 - x2)) - (y2 + l*(x1 - x2))))*((y2 + n*(x3 - x2)) - (l*(x1 - (l*l - x1 - x2)) - (y2 + l*(x1 - x2))))*((y2 + l*(x1 - x2)) + (n*(x2 - (n*n - x2 - x3)) - y2)) - (y2 + n*(x3 - x2))*((x3 - (l*l - x1 - x2))*(x3 - (l*l - x1 - x2))*(x3 - (l*l - x1 - x2)))*((y2 + l*(x1 - x2)) + (n*(x2 - (n*n - x2 - x3)) - y2)) - (x1*x1 + x1*(n*n - x2 - x3) + (n*n - x2 - x3)*(n*n - x2 - x3))*(x3 - (l*l - x1 - x2))*((x1 + x3 + (l*l - x1 - x2))*((x3 - (l*l - x1 - x2))*(x3 - (l*l - x1 - x2))) - ((y2 + n*(x3 - x2)) - (l*(x1 - (l*l - x1 - x2)) - (y2 + l*(x1 - x2))))*((y2 + n*(x3 - x2)) - (l*(x1 - (l*l - x1 - x2)) - (y2 + l*(x1 - x2))))) + (y2 + l*(x1 - x2))*((x3 - (l*l - x1 - x2))*(x3 - (l*l - x1 - x2))*(x3 - (l*l - x1 - x2)))*((y2 + l*(x1 - x2)) + (n*(x2 - (n*n - x2 - x3)) - y2)) = (((((((-(x1*x1*x1*x3) + (x1*x1*x1*x2 + 2*x1*x1*x1*l*l)) + (-(2*x1*x1*x3*x3) + (x1*x1*x3*x2 + 3*x1*x1*x3*l*l))) + ((-(2*x1*x1*x3*l*n) + (-(x1*x1*x3*n*n) + x1*x1*x2*x2)) + (3*x1*x1*x2*l*l + (8*x1*x1*x2*l*n + x1*x1*x2*n*n)))) + (((-(6*x1*x1*y2*l) + (-(4*x1*x1*l*l*l*l) + -(2*x1*x1*l*n*n*n))) + (-(x1*x3*x3*x3) + (x1*x3*x3*x2 + -(2*x1*x3*x3*n*n)))) + ((x1*x3*x2*x2 + (-(3*x1*x3*x2*l*l) + 10*x1*x3*x2*l*n)) + (-(3*x1*x3*x2*n*n) + (-(2*x1*x3*y2*l) + 2*x1*x3*y2*n))))) + ((((-(2*x1*x3*l*l*l*l) + (-(x1*x3*l*l*l*n) + -(5*x1*x3*l*n*n*n))) + (x1*x3*n*n*n*n + (-(x1*x2*x2*x2) + -(3*x1*x2*x2*l*l)))) + ((14*x1*x2*x2*l*n + (5*x1*x2*x2*n*n + -(4*x1*x2*y2*l))) + (-(8*x1*x2*y2*n) + (-(2*x1*x2*l*l*l*l) + -(11*x1*x2*l*l*l*n))))) + (((-(3*x1*x2*l*n*n*n) + (-(x1*x2*n*n*n*n) + 4*x1*y2*y2)) + (6*x1*y2*l*l*l + (-(4*x1*y2*l*n*n) + 2*x1*y2*n*n*n))) + ((2*x1*l*l*l*l*l*l + (4*x1*l*l*l*n*n*n + -(x3*x3*x3*x3))) + ((-(x3*x3*x3*x2) + -(2*x3*x3*x3*l*l)) + (x3*x3*x2*x2 + -(6*x3*x3*x2*l*l))))))) + (((((-(4*x3*x3*x2*n*n) + (2*x3*x3*y2*l + 2*x3*x3*l*l*l*l)) + (-(2*x3*x3*l*l*l*n) + (4*x3*x3*l*l*n*n + 2*x3*x3*l*n*n*n))) + ((x3*x3*n*n*n*n + (-(6*x3*x2*x2*l*l) + 10*x3*x2*x2*l*n)) + (x3*x2*x2*n*n + (4*x3*x2*y2*l + -(8*x3*x2*y2*n))))) + (((4*x3*x2*l*l*l*l + (-(16*x3*x2*l*l*l*n) + -(5*x3*x2*l*l*n*n))) + (-(2*x3*x2*l*n*n*n) + (6*x3*y2*l*l*n + 2*x3*y2*l*n*n))) + ((4*x3*y2*n*n*n + (3*x3*l*l*l*l*l*n + x3*l*l*l*l*n*n)) + (5*x3*l*l*l*n*n*n + (-(x3*l*l*n*n*n*n) + -(2*x3*l*n*n*n*n*n)))))) + ((((x2*x2*x2*x2 + (-(6*x2*x2*x2*l*l) + -(4*x2*x2*x2*l*n))) + (3*x2*x2*x2*n*n + (12*x2*x2*y2*l + -(4*x2*x2*y2*n)))) + ((8*x2*x2*l*l*l*l + (-(6*x2*x2*l*l*l*n) + x2*x2*l*l*n*n)) + (-(2*x2*x2*l*n*n*n) + (-(x2*x2*n*n*n*n) + -(4*x2*y2*y2))))) + (((-(6*x2*y2*l*l*l) + (2*x2*y2*l*n*n + -(2*x2*l*l*l*l*l*l))) + (3*x2*l*l*l*l*l*n + (-(x2*l*l*l*l*n*n) + 3*x2*l*l*l*n*n*n))) + ((x2*l*l*n*n*n*n + (2*x2*l*n*n*n*n*n + 4*y2*y2*n*n)) + ((4*y2*l*l*l*n*n + -(2*y2*l*l*n*n*n)) + (-(4*y2*l*n*n*n*n) + -(2*l*l*l*l*l*n*n*n)))))))))*(x1*x1 + x1*x2 + x2*x2 - l*(2*y2 + l*(x1 - x2))) + (((((((-(2*x1*x3*x3*x3) + -(3*x1*x3*x3*x2)) + (-(2*x1*x3*x3*l*n) + (3*x1*x3*x3*n*n + 3*x1*x3*x2*x2))) + ((-(14*x1*x3*x2*l*n) + -(2*x1*x3*y2*l)) + (2*x1*x3*y2*n + (x1*x3*l*l*l*l + 5*x1*x3*l*l*l*n)))) + (((3*x1*x3*l*l*n*n + 5*x1*x3*l*n*n*n) + (-(x1*x3*n*n*n*n) + (2*x1*x2*x2*x2 + 6*x1*x2*x2*l*l))) + ((-(2*x1*x2*x2*l*n) + (-(3*x1*x2*x2*n*n) + -(10*x1*x2*y2*l))) + (4*x1*x2*y2*n + (-(x1*x2*l*l*l*l) + x1*x2*l*l*l*n))))) + ((((-(3*x1*x2*l*l*n*n) + x1*x2*l*n*n*n) + (x1*x2*n*n*n*n + (4*x1*y2*l*l*n + 4*x1*y2*l*n*n))) + ((-(2*x1*y2*n*n*n) + -(2*x1*l*l*l*n*n*n)) + (-(x3*x3*x3*x3) + (-(3*x3*x3*x3*x2) + 2*x3*x3*x3*l*l)))) + (((3*x3*x3*x3*n*n + 3*x3*x3*x2*l*l) + (-(10*x3*x3*x2*l*n) + (3*x3*x3*x2*n*n + -(2*x3*x3*y2*l)))) + ((6*x3*x3*y2*n + (4*x3*x3*l*l*l*n + -(3*x3*x3*l*l*n*n))) + (-(2*x3*x3*n*n*n*n) + (4*x3*x2*x2*x2 + 3*x3*x2*x2*l*l)))))) + (((((-(16*x3*x2*x2*l*n) + -(6*x3*x2*x2*n*n)) + (-(12*x3*x2*y2*l) + (10*x3*x2*y2*n + 2*x3*x2*l*l*l*l))) + ((20*x3*x2*l*l*l*n + 6*x3*x2*l*l*n*n) + (10*x3*x2*l*n*n*n + (2*x3*x2*n*n*n*n + 4*x3*y2*y2)))) + (((-(6*x3*y2*l*l*n) + -(2*x3*y2*l*n*n)) + (-(6*x3*y2*n*n*n) + (-(x3*l*l*l*l*l*l) + -(5*x3*l*l*l*l*l*n)))) + ((-(3*x3*l*l*l*l*n*n) + (-(5*x3*l*l*l*n*n*n) + x3*l*l*n*n*n*n)) + (4*x2*x2*x2*l*l + (8*x2*x2*x2*l*n + -(16*x2*x2*y2*l)))))) + ((((-(4*x2*x2*y2*n) + -(8*x2*x2*l*l*l*l)) + (6*x2*x2*l*l*l*n + (-(3*x2*x2*l*l*n*n) + -(4*x2*x2*l*n*n*n)))) + ((8*x2*y2*y2 + 12*x2*y2*l*l*l) + (-(4*x2*y2*l*l*n) + (10*x2*y2*l*n*n + 2*x2*y2*n*n*n)))) + (((x2*l*l*l*l*l*l + -(x2*l*l*l*l*l*n)) + (3*x2*l*l*l*l*n*n + (-(5*x2*l*l*l*n*n*n) + -(x2*l*l*n*n*n*n)))) + ((-(4*y2*y2*l*n) + (-(4*y2*y2*n*n) + -(4*y2*l*l*l*l*n))) + (-(4*y2*l*l*l*n*n) + (6*y2*l*l*n*n*n + 2*l*l*l*l*l*n*n*n))))))))*(x3*x3 + x3*x2 + x2*x2 - n*(2*y2 + n*(x3 - x2))) := by grind
  rw [e, h1, h3]
  grind
end
section
/-! the sum of points: the identities where the third point is the sum of the first two -/
set_option maxRecDepth 20000 in
set_option maxHeartbeats 4000000 in
theorem ec_idx10 {F : Type} [Lean.Grind.CommRing F] (x2 x3 l n : F) (h : x2*x2 + x2*x3 + x3*x3 - n*l*(x2 - x3) = 0) : (3*(x3*x3))*(3*(x3*x3))*(((n*n - x2 - x3) - (l*l - x2 - x3))*((n*n - x2 - x3) - (l*l - x2 - x3))) - (n*(x2 - (n*n - x2 - x3)) - (n + l)*(x2 - x3) - l*((l*l - x2 - x3) - x2))*(n*(x2 - (n*n - x2 - x3)) - (n + l)*(x2 - x3) - l*((l*l - x2 - x3) - x2))*(((l - n)*(x2 - x3))*((l - n)*(x2 - x3))) - (x3 + x3 - (l*l - x2 - x3) - (n*n - x2 - x3))*(((l - n)*(x2 - x3))*((l - n)*(x2 - x3)))*(((n*n - x2 - x3) - (l*l - x2 - x3))*((n*n - x2 - x3) - (l*l - x2 - x3))) = 0 := by
  have e : (3*(x3*x3))*(3*(x3*x3))*(((n*n - x2 - x3) - (l*l - x2 - x3))*((n*n - x2 - x3) - (l*l - x2 - x3))) - (n*(x2 - (n*n - x2 - x3)) - (n + l)*(x2 - x3) - l*((l*l - x2 - x3) - x2))*(n*(x2 - (n*n - x2 - x3)) - (n + l)*(x2 - x3) - l*((l*l - x2 - x3) - x2))*(((l - n)*(x2 - x3))*((l - n)*(x2 - x3))) - (x3 + x3 - (l*l - x2 - x3) - (n*n - x2 - x3))*(((l - n)*(x2 - x3))*((l - n)*(x2 - x3)))*(((n*n - x2 - x3) - (l*l - x2 - x3))*((n*n - x2 - x3) - (l*l - x2 - x3))) = ((((-(x2*x2*l*l*l*l) + (2*x2*x2*l*l*n*n + -(x2*x2*n*n*n*n))) + ((-(x2*x3*l*l*l*l) + 2*x2*x3*l*l*n*n) + (-(x2*x3*n*n*n*n) + x2*l*l*l*l*l*n))) + (((-(2*x2*l*l*l*n*n*n) + x2*l*n*n*n*n*n) + (5*x3*x3*l*l*l*l + -(10*x3*x3*l*l*n*n))) + ((5*x3*x3*n*n*n*n + -(x3*l*l*l*l*l*n)) + (2*x3*l*l*l*n*n*n + -(x3*l*n*n*n*n*n))))))*(x2*x2 + x2*x3 + x3*x3 - n*l*(x2 - x3)) := by grind
  rw [e, h]
  grind
set_option maxRecDepth 20000 in
set_option maxHeartbeats 4000000 in
theorem ec_idy10 {F : Type} [Lean.Grind.CommRing F] (x2 x3 l n : F) (h : x2*x2 + x2*x3 + x3*x3 - n*l*(x2 - x3) = 0) : (3*(x3*x3))*((n*n - x2 - x3) - (l*l - x2 - x3))*(2*x3 + x3)*(((l - n)*(x2 - x3))*((l - n)*(x2 - x3))) - (3*(x3*x3))*(3*(x3*x3))*(3*(x3*x3))*((n*n - x2 - x3) - (l*l - x2 - x3)) - (n*(x2 - (n*n - x2 - x3)) - (n + l)*(x2 - x3) - l*((l*l - x2 - x3) - x2))*((l - n)*(x2 - x3))*(((l*l - x2 - x3) + x3 + x3)*(((l - n)*(x2 - x3))*((l - n)*(x2 - x3))) - (3*(x3*x3))*(3*(x3*x3))) + (l*((l*l - x2 - x3) - x2) - n*(x3 - x2))*(((l - n)*(x2 - x3))*((l - n)*(x2 - x3))*((l - n)*(x2 - x3)))*((n*n - x2 - x3) - (l*l - x2 - x3)) = 0 := by
  have e : (3*(x3*x3))*((n*n - x2 - x3) - (l*l - x2 - x3))*(2*x3 + x3)*(((l - n)*(x2 - x3))*((l - n)*(x2 - x3))) - (3*(x3*x3))*(3*(x3*x3))*(3*(x3*x3))*((n*n - x2 - x3) - (l*l - x2 - x3)) - (n*(x2 - (n*n - x2 - x3)) - (n + l)*(x2 - x3) - l*((l*l - x2 - x3) - x2))*((l - n)*(x2 - x3))*(((l*l - x2 - x3) + x3 + x3)*(((l - n)*(x2 - x3))*((l - n)*(x2 - x3))) - (3*(x3*x3))*(3*(x3*x3))) + (l*((l*l - x2 - x3) - x2) - n*(x3 - x2))*(((l - n)*(x2 - x3))*((l - n)*(x2 - x3))*((l - n)*(x2 - x3)))*((n*n - x2 - x3) - (l*l - x2 - x3)) = (((((x2*x2*x2*l*l*l*l + (-(2*x2*x2*x2*l*l*l*n) + 2*x2*x2*x2*l*n*n*n)) + (-(x2*x2*x2*n*n*n*n) + (-(3*x2*x2*x3*l*l*l*l) + 6*x2*x2*x3*l*l*l*n))) + ((-(6*x2*x2*x3*l*n*n*n) + (3*x2*x2*x3*n*n*n*n + -(x2*x2*l*l*l*l*l*n))) + ((2*x2*x2*l*l*l*l*n*n + -(2*x2*x2*l*l*n*n*n*n)) + (x2*x2*l*n*n*n*n*n + 2*x2*x3*l*l*l*l*l*n)))) + (((-(4*x2*x3*l*l*l*l*n*n) + (4*x2*x3*l*l*n*n*n*n + -(2*x2*x3*l*n*n*n*n*n))) + (9*x3*x3*x3*x3*l*l + (-(9*x3*x3*x3*x3*n*n) + 2*x3*x3*x3*l*l*l*l))) + ((-(4*x3*x3*x3*l*l*l*n) + (4*x3*x3*x3*l*n*n*n + -(2*x3*x3*x3*n*n*n*n))) + ((-(x3*x3*l*l*l*l*l*n) + 2*x3*x3*l*l*l*l*n*n) + (-(2*x3*x3*l*l*n*n*n*n) + x3*x3*l*n*n*n*n*n))))))*(x2*x2 + x2*x3 + x3*x3 - n*l*(x2 - x3)) := by grind
  rw [e, h]
  grind
set_option maxRecDepth 20000 in
set_option maxHeartbeats 4000000 in
theorem ec_idx11 {F : Type} [Lean.Grind.CommRing F] (x2 x3 l n : F) (h : x2*x2 + x2*x3 + x3*x3 - n*l*(x2 - x3) = 0) : (3*(x3*x3))*(3*(x3*x3))*((l*((l*l - x2 - x3) - x2) + n*(x2 - (n*n - x2 - x3)))*(l*((l*l - x2 - x3) - x2) + n*(x2 - (n*n - x2 - x3)))) - ((l*l - x2 - x3)*(l*l - x2 - x3) + (l*l - x2 - x3)*(n*n - x2 - x3) + (n*n - x2 - x3)*(n*n - x2 - x3))*((l*l - x2 - x3)*(l*l - x2 - x3) + (l*l - x2 - x3)*(n*n - x2 - x3) + (n*n - x2 - x3)*(n*n - x2 - x3))*(((l - n)*(x2 - x3))*((l - n)*(x2 - x3))) - (x3 + x3 - (l*l - x2 - x3) - (n*n - x2 - x3))*(((l - n)*(x2 - x3))*((l - n)*(x2 - x3)))*((l*((l*l - x2 - x3) - x2) + n*(x2 - (n*n - x2 - x3)))*(l*((l*l - x2 - x3) - x2) + n*(x2 - (n*n - x2 - x3)))) = 0 := by
  have e : (3*(x3*x3))*(3*(x3*x3))*((l*((l*l - x2 - x3) - x2) + n*(x2 - (n*n - x2 - x3)))*(l*((l*l - x2 - x3) - x2) + n*(x2 - (n*n - x2 - x3)))) - ((l*l - x2 - x3)*(l*l - x2 - x3) + (l*l - x2 - x3)*(n*n - x2 - x3) + (n*n - x2 - x3)*(n*n - x2 - x3))*((l*l - x2 - x3)*(l*l - x2 - x3) + (l*l - x2 - x3)*(n*n - x2 - x3) + (n*n - x2 - x3)*(n*n - x2 - x3))*(((l - n)*(x2 - x3))*((l - n)*(x2 - x3))) - (x3 + x3 - (l*l - x2 - x3) - (n*n - x2 - x3))*(((l - n)*(x2 - x3))*((l - n)*(x2 - x3)))*((l*((l*l - x2 - x3) - x2) + n*(x2 - (n*n - x2 - x3)))*(l*((l*l - x2 - x3) - x2) + n*(x2 - (n*n - x2 - x3)))) = ((((((-(9*x2*x2*x2*x2*l*l) + (18*x2*x2*x2*x2*l*n + -(9*x2*x2*x2*x2*n*n))) + (-(9*x2*x2*x2*x3*l*l) + (18*x2*x2*x2*x3*l*n + -(9*x2*x2*x2*x3*n*n)))) + ((10*x2*x2*x2*l*l*l*l + (-(13*x2*x2*x2*l*l*l*n) + 6*x2*x2*x2*l*l*n*n)) + ((-(13*x2*x2*x2*l*n*n*n) + 10*x2*x2*x2*n*n*n*n) + (27*x2*x2*x3*x3*l*l + -(54*x2*x2*x3*x3*l*n))))) + (((27*x2*x2*x3*x3*n*n + (9*x2*x2*x3*l*l*l*n + -(18*x2*x2*x3*l*l*n*n))) + (9*x2*x2*x3*l*n*n*n + (-(3*x2*x2*l*l*l*l*l*l) + 6*x2*x2*l*l*l*n*n*n))) + ((-(3*x2*x2*n*n*n*n*n*n) + (18*x2*x3*x3*x3*l*l + -(36*x2*x3*x3*x3*l*n))) + ((18*x2*x3*x3*x3*n*n + -(24*x2*x3*x3*l*l*l*l)) + (24*x2*x3*x3*l*l*l*n + 24*x2*x3*x3*l*n*n*n))))) + ((((-(24*x2*x3*x3*n*n*n*n) + (3*x2*x3*l*l*l*l*l*l + -(6*x2*x3*l*l*l*l*l*n))) + (6*x2*x3*l*l*l*l*n*n + (-(6*x2*x3*l*l*l*n*n*n) + 6*x2*x3*l*l*n*n*n*n))) + ((-(6*x2*x3*l*n*n*n*n*n) + (3*x2*x3*n*n*n*n*n*n + x2*l*l*l*l*l*l*l*n)) + ((-(2*x2*l*l*l*l*n*n*n*n) + x2*l*n*n*n*n*n*n*n) + (-(4*x3*x3*x3*l*l*l*l) + -(2*x3*x3*x3*l*l*l*n))))) + (((12*x3*x3*x3*l*l*n*n + (-(2*x3*x3*x3*l*n*n*n) + -(4*x3*x3*x3*n*n*n*n))) + (3*x3*x3*l*l*l*l*l*l + (6*x3*x3*l*l*l*l*l*n + -(6*x3*x3*l*l*l*l*n*n)))) + ((-(6*x3*x3*l*l*l*n*n*n) + (-(6*x3*x3*l*l*n*n*n*n) + 6*x3*x3*l*n*n*n*n*n)) + ((3*x3*x3*n*n*n*n*n*n + -(x3*l*l*l*l*l*l*l*n)) + (2*x3*l*l*l*l*n*n*n*n + -(x3*l*n*n*n*n*n*n*n))))))))*(x2*x2 + x2*x3 + x3*x3 - n*l*(x2 - x3)) := by grind
  rw [e, h]
  grind
set_option maxRecDepth 20000 in
set_option maxHeartbeats 4000000 in
theorem ec_idy11 {F : Type} [Lean.Grind.CommRing F] (x2 x3 l n : F) (h : x2*x2 + x2*x3 + x3*x3 - n*l*(x2 - x3) = 0) : (3*(x3*x3))*(l*((l*l - x2 - x3) - x2) + n*(x2 - (n*n - x2 - x3)))*(2*x3 + x3)*(((l - n)*(x2 - x3))*((l - n)*(x2 - x3))) - (3*(x3*x3))*(3*(x3*x3))*(3*(x3*x3))*(l*((l*l - x2 - x3) - x2) + n*(x2 - (n*n - x2 - x3))) - ((l*l - x2 - x3)*(l*l - x2 - x3) + (l*l - x2 - x3)*(n*n - x2 - x3) + (n*n - x2 - x3)*(n*n - x2 - x3))*((l - n)*(x2 - x3))*(((l*l - x2 - x3) + x3 + x3)*(((l - n)*(x2 - x3))*((l - n)*(x2 - x3))) - (3*(x3*x3))*(3*(x3*x3))) + (l*((l*l - x2 - x3) - x2) - n*(x3 - x2))*(((l - n)*(x2 - x3))*((l - n)*(x2 - x3))*((l - n)*(x2 - x3)))*(l*((l*l - x2 - x3) - x2) + n*(x2 - (n*n - x2 - x3))) = 0 := by
  have e : (3*(x3*x3))*(l*((l*l - x2 - x3) - x2) + n*(x2 - (n*n - x2 - x3)))*(2*x3 + x3)*(((l - n)*(x2 - x3))*((l - n)*(x2 - x3))) - (3*(x3*x3))*(3*(x3*x3))*(3*(x3*x3))*(l*((l*l - x2 - x3) - x2) + n*(x2 - (n*n - x2 - x3))) - ((l*l - x2 - x3)*(l*l - x2 - x3) + (l*l - x2 - x3)*(n*n - x2 - x3) + (n*n - x2 - x3)*(n*n - x2 - x3))*((l - n)*(x2 - x3))*(((l*l - x2 - x3) + x3 + x3)*(((l - n)*(x2 - x3))*((l - n)*(x2 - x3))) - (3*(x3*x3))*(3*(x3*x3))) + (l*((l*l - x2 - x3) - x2) - n*(x3 - x2))*(((l - n)*(x2 - x3))*((l - n)*(x2 - x3))*((l - n)*(x2 - x3)))*(l*((l*l - x2 - x3) - x2) + n*(x2 - (n*n - x2 - x3))) = ((((((3*x2*x2*x2*x2*l*l*l + (-(9*x2*x2*x2*x2*l*l*n) + 9*x2*x2*x2*x2*l*n*n)) + ((-(3*x2*x2*x2*x2*n*n*n) + -(9*x2*x2*x2*x3*l*l*l)) + (27*x2*x2*x2*x3*l*l*n + -(27*x2*x2*x2*x3*l*n*n)))) + ((9*x2*x2*x2*x3*n*n*n + (-(2*x2*x2*x2*l*l*l*l*l) + 3*x2*x2*x2*l*l*l*l*n)) + ((2*x2*x2*x2*l*l*l*n*n + -(4*x2*x2*x2*l*l*n*n*n)) + (x2*x2*x2*n*n*n*n*n + 3*x2*x2*x3*x3*l*l*l)))) + (((-(9*x2*x2*x3*x3*l*l*n) + (9*x2*x2*x3*x3*l*n*n + -(3*x2*x2*x3*x3*n*n*n))) + ((6*x2*x2*x3*l*l*l*l*l + -(12*x2*x2*x3*l*l*l*l*n)) + (3*x2*x2*x3*l*l*l*n*n + 3*x2*x2*x3*l*l*n*n*n))) + ((3*x2*x2*x3*l*n*n*n*n + (-(3*x2*x2*x3*n*n*n*n*n) + x2*x2*l*l*l*l*l*l*n)) + ((-(2*x2*x2*l*l*l*l*l*n*n) + x2*x2*l*l*l*l*n*n*n) + (-(x2*x2*l*l*l*n*n*n*n) + 2*x2*x2*l*l*n*n*n*n*n))))) + ((((-(x2*x2*l*n*n*n*n*n*n) + (27*x2*x3*x3*x3*x3*l + -(27*x2*x3*x3*x3*x3*n))) + ((-(3*x2*x3*x3*l*l*l*l*l) + 9*x2*x3*x3*l*l*l*l*n) + (-(9*x2*x3*x3*l*l*l*n*n) + 3*x2*x3*x3*l*l*n*n*n))) + ((-(2*x2*x3*l*l*l*l*l*l*n) + (4*x2*x3*l*l*l*l*l*n*n + -(2*x2*x3*l*l*l*l*n*n*n))) + ((2*x2*x3*l*l*l*n*n*n*n + -(4*x2*x3*l*l*n*n*n*n*n)) + (2*x2*x3*l*n*n*n*n*n*n + -(6*x3*x3*x3*x3*l*l*l))))) + (((-(9*x3*x3*x3*x3*l*l*n) + (9*x3*x3*x3*x3*l*n*n + 6*x3*x3*x3*x3*n*n*n)) + ((-(x3*x3*x3*l*l*l*l*l) + 4*x3*x3*x3*l*l*l*n*n) + (-(2*x3*x3*x3*l*l*n*n*n) + -(3*x3*x3*x3*l*n*n*n*n)))) + ((2*x3*x3*x3*n*n*n*n*n + (x3*x3*l*l*l*l*l*l*n + -(2*x3*x3*l*l*l*l*l*n*n))) + ((x3*x3*l*l*l*l*n*n*n + -(x3*x3*l*l*l*n*n*n*n)) + (2*x3*x3*l*l*n*n*n*n*n + -(x3*x3*l*n*n*n*n*n*n))))))))*(x2*x2 + x2*x3 + x3*x3 - n*l*(x2 - x3)) := by grind
  rw [e, h]
  grind
end
section
/-! points of a curve y y = x x x + b over a field: the sum, and that it is commutative and associative -/
def ec_fld {F : Type} [Lean.Grind.CommRing F] (inv : F → F) : Prop := (∀ a : F, a ≠ 0 → a * inv a = 1) ∧ (2 : F) ≠ 0 ∧ (3 : F) ≠ 0
theorem ec_nzd {F : Type} [Lean.Grind.CommRing F] {inv : F → F} (hF : ec_fld inv) {a c : F} (h : a * c = 0) : a = 0 ∨ c = 0 := by
  by_cases ha : a = 0
  · exact Or.inl ha
  · have h1 := hF.1 a ha
    exact Or.inr (by grind)
def ec_out {F : Type} [Lean.Grind.CommRing F] (x1 y1 x2 l : F) : F × F := (l*l - x1 - x2, l*(x1 - (l*l - x1 - x2)) - y1)
def ec_add {F : Type} [Lean.Grind.CommRing F] [DecidableEq F] (inv : F → F) : Option (F × F) → Option (F × F) → Option (F × F)
  | none, B => B
  | some a, none => some a
  | some a, some c => if a.1 = c.1 ∧ a.2 + c.2 = 0 then none else some (ec_out a.1 a.2 c.1 (if a.1 = c.1 then 3*a.1*a.1*inv (2*a.2) else (c.2 - a.2)*inv (c.1 - a.1)))
def ec_neg {F : Type} [Lean.Grind.CommRing F] : Option (F × F) → Option (F × F)
  | none => none
  | some a => some (a.1, -a.2)
def ec_on {F : Type} [Lean.Grind.CommRing F] (b : F) : Option (F × F) → Prop
  | none => True
  | some a => a.2*a.2 = a.1*a.1*a.1 + b
/-- l is the slope of the chord, or of the tangent -/
def ec_sl {F : Type} [Lean.Grind.CommRing F] (x1 y1 x2 y2 l : F) : Prop := l*(x2 - x1) = y2 - y1 ∧ l*(y1 + y2) = x1*x1 + x1*x2 + x2*x2
theorem ec_sl_ex {F : Type} [Lean.Grind.CommRing F] [DecidableEq F] {inv : F → F} (hF : ec_fld inv) {b x1 y1 x2 y2 : F} (h1 : y1*y1 = x1*x1*x1 + b) (h2 : y2*y2 = x2*x2*x2 + b) (hd : ¬ (x1 = x2 ∧ y1 + y2 = 0)) : ∃ l, ec_sl x1 y1 x2 y2 l ∧ ec_add inv (some (x1, y1)) (some (x2, y2)) = some (ec_out x1 y1 x2 l) := by
  by_cases hx : x1 = x2
  · subst hx
    have hy : y1 + y2 ≠ 0 := fun h => hd ⟨rfl, h⟩
    have hy2 : y1 = y2 := by
      have h0 : (y1 - y2)*(y1 + y2) = 0 := by grind
      rcases ec_nzd hF h0 with h | h
      · grind
      · exact absurd h hy
    subst hy2
    have h2y : (2 : F)*y1 ≠ 0 := by
      intro h
      apply hy
      grind
    have hi := hF.1 _ h2y
    refine ⟨3*x1*x1*inv (2*y1), ⟨by grind, by grind⟩, ?_⟩
    simp [ec_add, hy]
  · have hxx : x2 - x1 ≠ 0 := by
      intro h
      apply hx
      grind
    have hi := hF.1 _ hxx
    refine ⟨(y2 - y1)*inv (x2 - x1), ⟨by grind, ?_⟩, ?_⟩
    · have h0 : (x2 - x1) * ((y2 - y1)*inv (x2 - x1)*(y1 + y2) - (x1*x1 + x1*x2 + x2*x2)) = 0 := by grind
      rcases ec_nzd hF h0 with h | h
      · exact absurd h hxx
      · grind
    · simp [ec_add, hx]
theorem ec_sl_un {F : Type} [Lean.Grind.CommRing F] {inv : F → F} (hF : ec_fld inv) {x1 y1 x2 y2 l k : F} (hl : ec_sl x1 y1 x2 y2 l) (hk : ec_sl x1 y1 x2 y2 k) (hd : ¬ (x1 = x2 ∧ y1 + y2 = 0)) : l = k := by
  obtain ⟨a1, a2⟩ := hl
  obtain ⟨b1, b2⟩ := hk
  have e1 : (l - k)*(x2 - x1) = 0 := by grind
  have e2 : (l - k)*(y1 + y2) = 0 := by grind
  rcases ec_nzd hF e1 with h | h
  · grind
  · rcases ec_nzd hF e2 with h' | h'
    · grind
    · exact absurd ⟨by grind, h'⟩ hd
/-- the sum by its slope -/
theorem ec_add_sl {F : Type} [Lean.Grind.CommRing F] [DecidableEq F] {inv : F → F} (hF : ec_fld inv) {b x1 y1 x2 y2 l : F} (h1 : y1*y1 = x1*x1*x1 + b) (h2 : y2*y2 = x2*x2*x2 + b) (hd : ¬ (x1 = x2 ∧ y1 + y2 = 0)) (hl : ec_sl x1 y1 x2 y2 l) : ec_add inv (some (x1, y1)) (some (x2, y2)) = some (ec_out x1 y1 x2 l) := by
  obtain ⟨k, hk, e⟩ := ec_sl_ex hF h1 h2 hd
  rw [e, ec_sl_un hF hl hk hd]
theorem ec_add_dg {F : Type} [Lean.Grind.CommRing F] [DecidableEq F] {inv : F → F} {x1 y1 x2 y2 : F} (hd : x1 = x2 ∧ y1 + y2 = 0) : ec_add inv (some (x1, y1)) (some (x2, y2)) = none := by
  simp only [ec_add]
  rw [if_pos hd]
theorem ec_add_none {F : Type} [Lean.Grind.CommRing F] [DecidableEq F] {inv : F → F} (A : Option (F × F)) : ec_add inv A none = A := by
  cases A <;> rfl
theorem ec_none_add {F : Type} [Lean.Grind.CommRing F] [DecidableEq F] {inv : F → F} (A : Option (F × F)) : ec_add inv none A = A := rfl
/-- the sum lies on the curve -/
theorem ec_out_on {F : Type} [Lean.Grind.CommRing F] {b x1 y1 x2 y2 l : F} (h1 : y1*y1 = x1*x1*x1 + b) (hl : ec_sl x1 y1 x2 y2 l) : ec_on b (some (ec_out x1 y1 x2 l)) := by
  obtain ⟨a1, a2⟩ := hl
  have hq : x2*x2 + x1*x2 + x1*x1 - l*(2*y1 + l*(x2 - x1)) = 0 := by grind
  show (l*(x1 - (l*l - x1 - x2)) - y1)*(l*(x1 - (l*l - x1 - x2)) - y1) = (l*l - x1 - x2)*(l*l - x1 - x2)*(l*l - x1 - x2) + b
  have e : (l*(x1 - (l*l - x1 - x2)) - y1)*(l*(x1 - (l*l - x1 - x2)) - y1) - (l*l - x1 - x2)*(l*l - x1 - x2)*(l*l - x1 - x2) - (y1*y1 - x1*x1*x1) = (x2 + 2*x1 - l*l)*(x2*x2 + x1*x2 + x1*x1 - l*(2*y1 + l*(x2 - x1))) := by grind
  rw [hq] at e
  grind
theorem ec_add_on {F : Type} [Lean.Grind.CommRing F] [DecidableEq F] {inv : F → F} (hF : ec_fld inv) {b : F} {A B : Option (F × F)} (hA : ec_on b A) (hB : ec_on b B) : ec_on b (ec_add inv A B) := by
  match A, B, hA, hB with
  | none, B, _, hB => exact hB
  | some a, none, hA, _ => exact hA
  | some (x1, y1), some (x2, y2), hA, hB =>
    by_cases hd : x1 = x2 ∧ y1 + y2 = 0
    · rw [ec_add_dg hd]
      trivial
    · obtain ⟨l, hl, e⟩ := ec_sl_ex hF hA hB hd
      rw [e]
      exact ec_out_on hA hl
theorem ec_neg_on {F : Type} [Lean.Grind.CommRing F] {b : F} {A : Option (F × F)} (hA : ec_on b A) : ec_on b (ec_neg A) := by
  match A, hA with
  | none, _ => trivial
  | some (x, y), hA =>
    have h : y*y = x*x*x + b := hA
    show -y*(-y) = x*x*x + b
    grind
theorem ec_neg_neg {F : Type} [Lean.Grind.CommRing F] (A : Option (F × F)) : ec_neg (ec_neg A) = A := by
  match A with
  | none => rfl
  | some (x, y) =>
    show some (x, - -y) = some (x, y)
    rw [show - -y = y by grind]
theorem ec_add_comm {F : Type} [Lean.Grind.CommRing F] [DecidableEq F] {inv : F → F} (hF : ec_fld inv) {b : F} {A B : Option (F × F)} (hA : ec_on b A) (hB : ec_on b B) : ec_add inv A B = ec_add inv B A := by
  match A, B, hA, hB with
  | none, B, _, _ => rw [ec_add_none]; rfl
  | some a, none, _, _ => rfl
  | some (x1, y1), some (x2, y2), hA, hB =>
    by_cases hd : x1 = x2 ∧ y1 + y2 = 0
    · rw [ec_add_dg hd, ec_add_dg ⟨hd.1.symm, by have := hd.2; grind⟩]
    · obtain ⟨l, hl, e⟩ := ec_sl_ex hF hA hB hd
      have hl2 : ec_sl x2 y2 x1 y1 l := ⟨by have := hl.1; grind, by have := hl.2; grind⟩
      rw [e, ec_add_sl hF hB hA (fun h => hd ⟨h.1.symm, by have := h.2; grind⟩) hl2]
      have h1 := hl.1
      simp only [ec_out, Option.some.injEq, Prod.mk.injEq]
      exact ⟨by grind, by grind⟩
theorem ec_neg_add {F : Type} [Lean.Grind.CommRing F] [DecidableEq F] {inv : F → F} (hF : ec_fld inv) {b : F} {A B : Option (F × F)} (hA : ec_on b A) (hB : ec_on b B) : ec_add inv (ec_neg A) (ec_neg B) = ec_neg (ec_add inv A B) := by
  match A, B, hA, hB with
  | none, B, _, _ => rfl
  | some a, none, _, _ => rfl
  | some (x1, y1), some (x2, y2), hA, hB =>
    have hA' := ec_neg_on hA
    have hB' := ec_neg_on hB
    by_cases hd : x1 = x2 ∧ y1 + y2 = 0
    · rw [ec_add_dg hd]
      exact ec_add_dg ⟨hd.1, by have := hd.2; grind⟩
    · obtain ⟨l, hl, e⟩ := ec_sl_ex hF hA hB hd
      have hl2 : ec_sl x1 (-y1) x2 (-y2) (-l) := ⟨by have := hl.1; grind, by have := hl.2; grind⟩
      rw [e]
      show ec_add inv (some (x1, -y1)) (some (x2, -y2)) = _
      rw [ec_add_sl hF (y1 := -y1) (y2 := -y2) hA' hB' (fun h => hd ⟨h.1, by have := h.2; grind⟩) hl2]
      simp only [ec_out, ec_neg, Option.some.injEq, Prod.mk.injEq]
      exact ⟨by grind, by grind⟩
theorem ec_add_neg {F : Type} [Lean.Grind.CommRing F] [DecidableEq F] {inv : F → F} (A : Option (F × F)) : ec_add inv A (ec_neg A) = none := by
  match A with
  | none => rfl
  | some (x, y) => exact ec_add_dg ⟨rfl, by grind⟩
theorem ec_neg_add_self {F : Type} [Lean.Grind.CommRing F] [DecidableEq F] {inv : F → F} (A : Option (F × F)) : ec_add inv (ec_neg A) A = none := by
  match A with
  | none => rfl
  | some (x, y) => exact ec_add_dg (x1 := x) (y1 := -y) ⟨rfl, by grind⟩
/-- -A + (A + C) = C -/
theorem ec_back {F : Type} [Lean.Grind.CommRing F] [DecidableEq F] {inv : F → F} (hF : ec_fld inv) {b : F} (hb : b ≠ 0) {A C : Option (F × F)} (hA : ec_on b A) (hC : ec_on b C) : ec_add inv (ec_neg A) (ec_add inv A C) = C := by
  match A, C, hA, hC with
  | none, C, _, _ => rfl
  | some a, none, _, _ => exact ec_neg_add_self (some a)
  | some (x1, y1), some (x2, y2), hA, hC =>
    have h1 : y1*y1 = x1*x1*x1 + b := hA
    by_cases hd : x1 = x2 ∧ y1 + y2 = 0
    · rw [ec_add_dg hd, ec_add_none]
      show some (x1, -y1) = some (x2, y2)
      rw [hd.1, show -y1 = y2 by have := hd.2; grind]
    · obtain ⟨l, hl, e⟩ := ec_sl_ex hF hA hC hd
      have hon := ec_out_on hA hl
      rw [e]
      obtain ⟨a1, a2⟩ := hl
      have hq : x2*x2 + x1*x2 + x1*x1 - l*(2*y1 + l*(x2 - x1)) = 0 := by grind
      show ec_add inv (some (x1, -y1)) (some (l*l - x1 - x2, l*(x1 - (l*l - x1 - x2)) - y1)) = _
      have a1' : l*(x2 - x1) = y2 - y1 := a1
      have a2' : l*(y1 + y2) = x1*x1 + x1*x2 + x2*x2 := a2
      clear a1 a2
      have hd' : ¬ (x1 = l*l - x1 - x2 ∧ -y1 + (l*(x1 - (l*l - x1 - x2)) - y1) = 0) := by
        rintro ⟨g1, g2⟩
        have hy : (2 : F)*y1 = 0 := by grind
        have hy0 : y1 = 0 := by
          rcases ec_nzd hF hy with h | h
          · exact absurd h hF.2.1
          · exact h
        have hll : l*l = 2*x1 + x2 := by grind
        have hx3 : (3 : F)*(x1*x1) = 0 := by grind
        have hx0 : x1 = 0 := by
          rcases ec_nzd hF hx3 with h | h
          · exact absurd h hF.2.2
          · rcases ec_nzd hF h with h | h <;> exact h
        apply hb
        grind
      have hsl : ec_sl x1 (-y1) (l*l - x1 - x2) (l*(x1 - (l*l - x1 - x2)) - y1) (-l) := ⟨by grind, by grind⟩
      rw [ec_add_sl (x1 := x1) (y1 := -y1) (x2 := l*l - x1 - x2) (y2 := l*(x1 - (l*l - x1 - x2)) - y1) (l := -l) (b := b) hF (ec_neg_on hA) hon hd' hsl]
      simp only [ec_out, Option.some.injEq, Prod.mk.injEq]
      exact ⟨by grind, by grind⟩
end
section
/-! the sum of points is associative -/
theorem ec_assoc_sl {F : Type} [Lean.Grind.CommRing F] {inv : F → F} (hF : ec_fld inv) {x1 y1 x2 y2 x3 y3 x4 y4 x6 y6 l n m k : F}
    (hl : ec_sl x1 y1 x2 y2 l) (hn : ec_sl x2 y2 x3 y3 n) (e4 : x4 = l*l - x1 - x2) (f4 : y4 = l*(x1 - (l*l - x1 - x2)) - y1) (e6 : x6 = n*n - x2 - x3) (f6 : y6 = n*(x2 - (n*n - x2 - x3)) - y2)
    (hm : ec_sl x4 y4 x3 y3 m) (hk : ec_sl x1 y1 x6 y6 k) (d1 : ¬ (x4 = x3 ∧ y4 + y3 = 0)) (d2 : ¬ (x1 = x6 ∧ y1 + y6 = 0)) : ec_out x4 y4 x3 m = ec_out x1 y1 x6 k := by
  obtain ⟨l1, l2⟩ := hl
  obtain ⟨n1, n2⟩ := hn
  obtain ⟨m1, m2⟩ := hm
  obtain ⟨k1, k2⟩ := hk
  have ey1 : y1 = y2 + l*(x1 - x2) := by clear l2 n1 n2 m1 m2 k1 k2 d1 d2 e4 f4 e6 f6; grind
  have ey3 : y3 = y2 + n*(x3 - x2) := by clear l1 l2 n2 m1 m2 k1 k2 d1 d2 e4 f4 e6 f6 ey1; grind
  subst ey1
  subst ey3
  subst e4
  subst e6
  have q1 : x1*x1 + x1*x2 + x2*x2 - l*(2*y2 + l*(x1 - x2)) = 0 := by clear m1 m2 k1 k2 n1 n2 d1 d2 f4 f6; grind
  have q3 : x3*x3 + x3*x2 + x2*x2 - n*(2*y2 + n*(x3 - x2)) = 0 := by clear m1 m2 k1 k2 l1 l2 d1 d2 f4 f6 q1; grind
  clear l1 l2 n1 n2
  subst f4
  subst f6
  -- the four ways to know the two slopes
  have key : ∀ D1 N1 D2 N2 : F, D1 ≠ 0 → D2 ≠ 0 → m*D1 = N1 → k*D2 = N2 →
      N1*N1*(D2*D2) - N2*N2*(D1*D1) - (x3 + (l*l - x1 - x2) - x1 - (n*n - x2 - x3))*(D1*D1)*(D2*D2) = 0 →
      N1*D2*(2*x3 + (l*l - x1 - x2))*(D1*D1) - N1*N1*N1*D2 - (y2 + n*(x3 - x2))*(D1*D1*D1)*D2 - N2*D1*((x1 + x3 + (l*l - x1 - x2))*(D1*D1) - N1*N1) + (y2 + l*(x1 - x2))*(D1*D1*D1)*D2 = 0 →
      ec_out (l*l - x1 - x2) (l*(x1 - (l*l - x1 - x2)) - (y2 + l*(x1 - x2))) x3 m = ec_out x1 (y2 + l*(x1 - x2)) (n*n - x2 - x3) k := by
    intro D1 N1 D2 N2 hD1 hD2 hN1 hN2 ix iy
    clear q1 q3 m2 k1 k2 d1 d2
    subst hN1
    subst hN2
    have gx : (m*m - (l*l - x1 - x2) - x3) - (k*k - x1 - (n*n - x2 - x3)) = 0 := by
      have h0 : (D1*D1*(D2*D2))*((m*m - (l*l - x1 - x2) - x3) - (k*k - x1 - (n*n - x2 - x3))) = 0 := by
        clear iy m1
        rw [← ix]
        grind
      clear ix iy m1
      rcases ec_nzd hF h0 with h | h
      · rcases ec_nzd hF h with h | h
        · rcases ec_nzd hF h with h | h <;> exact absurd h hD1
        · rcases ec_nzd hF h with h | h <;> exact absurd h hD2
      · exact h
    have gy : (m*((l*l - x1 - x2) - (m*m - (l*l - x1 - x2) - x3)) - (l*(x1 - (l*l - x1 - x2)) - (y2 + l*(x1 - x2)))) - (k*(x1 - (m*m - (l*l - x1 - x2) - x3)) - (y2 + l*(x1 - x2))) = 0 := by
      have g1 : m*((l*l - x1 - x2) - (m*m - (l*l - x1 - x2) - x3)) - (l*(x1 - (l*l - x1 - x2)) - (y2 + l*(x1 - x2))) = m*(x3 - (m*m - (l*l - x1 - x2) - x3)) - (y2 + n*(x3 - x2)) := by
        clear ix iy gx
        grind
      rw [g1]
      have h0 : (D1*D1*D1*D2)*((m*(x3 - (m*m - (l*l - x1 - x2) - x3)) - (y2 + n*(x3 - x2))) - (k*(x1 - (m*m - (l*l - x1 - x2) - x3)) - (y2 + l*(x1 - x2)))) = 0 := by
        clear ix gx g1 m1
        rw [← iy]
        grind
      clear ix iy m1
      rcases ec_nzd hF h0 with h | h
      · rcases ec_nzd hF h with h | h
        · rcases ec_nzd hF h with h | h
          · rcases ec_nzd hF h with h | h <;> exact absurd h hD1
          · exact absurd h hD1
        · exact absurd h hD2
      · exact h
    clear ix iy m1
    simp only [ec_out, Prod.mk.injEq]
    refine ⟨by grind, ?_⟩
    have g2 : k*k - x1 - (n*n - x2 - x3) = m*m - (l*l - x1 - x2) - x3 := by grind
    rw [g2]
    grind
  by_cases c1 : x3 - (l*l - x1 - x2) = 0
  · -- the third point is the sum of the first two
    have c1' : (l*(x1 - (l*l - x1 - x2)) - (y2 + l*(x1 - x2))) + (y2 + n*(x3 - x2)) ≠ 0 := by
      intro h
      refine d1 ⟨?_, h⟩
      clear key m1 m2 k1 k2 q1 q3 d1 d2 h
      grind
    have hx1 : x1 = l*l - x2 - x3 := by
      clear key m1 m2 k1 k2 q1 q3 d1 d2 c1'
      grind
    subst hx1
    have hs : l*l - (l*l - x2 - x3) - x2 = x3 := by
      clear key m1 m2 k1 k2 q1 q3 d1 d2 c1 c1'
      grind
    rw [hs] at c1' m1 m2 d1 key ⊢
    have hd : (l*((l*l - x2 - x3) - x3) - (y2 + l*((l*l - x2 - x3) - x2)) - (y2 + n*(x3 - x2)))*(l*((l*l - x2 - x3) - x3) - (y2 + l*((l*l - x2 - x3) - x2)) + (y2 + n*(x3 - x2))) = 0 := by
      have e : (l*((l*l - x2 - x3) - x3) - (y2 + l*((l*l - x2 - x3) - x2)) - (y2 + n*(x3 - x2)))*(l*((l*l - x2 - x3) - x3) - (y2 + l*((l*l - x2 - x3) - x2)) + (y2 + n*(x3 - x2))) = ((l*l - x2 - x3)*(l*l - x2 - x3) + (l*l - x2 - x3)*x2 + x2*x2 - l*(2*y2 + l*((l*l - x2 - x3) - x2)))*(x2 - x3) + (x3*x3 + x3*x2 + x2*x2 - n*(2*y2 + n*(x3 - x2)))*(x3 - x2) := by
        clear key m1 m2 k1 k2 q1 q3 d1 d2 c1 c1' hs
        grind
      rw [e, q1, q3]
      clear key m1 m2 k1 k2 q1 q3 d1 d2 c1 c1' hs e
      grind
    have h2y : 2*y2 = (n + l)*(x2 - x3) := by
      rcases ec_nzd hF hd with h | h
      · clear key m1 m2 k1 k2 q1 q3 d1 d2 c1 c1' hs hd
        grind
      · exact absurd h c1'
    have q : x2*x2 + x2*x3 + x3*x3 - n*l*(x2 - x3) = 0 := by
      rw [h2y] at q3
      clear key m1 m2 k1 k2 q1 d1 d2 c1 c1' hs hd h2y
      grind
    have eD1 : l*((l*l - x2 - x3) - x3) - (y2 + l*((l*l - x2 - x3) - x2)) + (y2 + n*(x3 - x2)) = (l - n)*(x2 - x3) := by
      clear key m1 m2 k1 k2 q1 q3 d1 d2 c1 c1' hs hd h2y q
      grind
    have eN1 : x3*x3 + x3*x3 + x3*x3 = 3*(x3*x3) := by
      clear key m1 m2 k1 k2 q1 q3 d1 d2 c1 c1' hs hd h2y q eD1
      grind
    rw [eD1] at c1' m2
    rw [eN1] at m2
    have eY : ∀ Z : F, -((y2 + n*(x3 - x2))*Z) + (y2 + l*((l*l - x2 - x3) - x2))*Z = (l*((l*l - x2 - x3) - x2) - n*(x3 - x2))*Z := by
      clear key m1 m2 k1 k2 q1 q3 d1 d2 c1 c1' hs hd h2y q eD1 eN1
      intro Z
      grind
    by_cases c2 : (n*n - x2 - x3) - (l*l - x2 - x3) = 0
    · have c2' : (y2 + l*((l*l - x2 - x3) - x2)) + (n*(x2 - (n*n - x2 - x3)) - y2) ≠ 0 := by
        intro h
        refine d2 ⟨?_, h⟩
        clear key m1 m2 k1 k2 q1 q3 d1 d2 h c1 c1' hs hd h2y q eD1 eN1 eY
        grind
      have eD2 : (y2 + l*((l*l - x2 - x3) - x2)) + (n*(x2 - (n*n - x2 - x3)) - y2) = l*((l*l - x2 - x3) - x2) + n*(x2 - (n*n - x2 - x3)) := by
        clear key m1 m2 k1 k2 q1 q3 d1 d2 c1 c1' hs hd h2y q eD1 eN1 eY c2 c2'
        grind
      rw [eD2] at c2' k2
      refine key _ _ _ _ c1' c2' m2 k2 (ec_idx11 x2 x3 l n q) ?_
      have i := ec_idy11 x2 x3 l n q
      clear key m1 m2 k1 k2 q1 q3 d1 d2 c1 c1' hs hd h2y q eD1 eN1 c2 c2' eD2
      rw [← i]
      have := eY (((l - n)*(x2 - x3))*((l - n)*(x2 - x3))*((l - n)*(x2 - x3))*(l*((l*l - x2 - x3) - x2) + n*(x2 - (n*n - x2 - x3))))
      clear i
      grind
    · have eN2 : n*(x2 - (n*n - x2 - x3)) - y2 - (y2 + l*((l*l - x2 - x3) - x2)) = n*(x2 - (n*n - x2 - x3)) - (n + l)*(x2 - x3) - l*((l*l - x2 - x3) - x2) := by
        rw [← h2y]
        clear key m1 m2 k1 k2 q1 q3 d1 d2 c1 c1' hs hd h2y q eD1 eN1 eY c2
        grind
      rw [eN2] at k1
      refine key _ _ _ _ c1' c2 m2 k1 (ec_idx10 x2 x3 l n q) ?_
      have i := ec_idy10 x2 x3 l n q
      clear key m1 m2 k1 k2 q1 q3 d1 d2 c1 c1' hs hd h2y q eD1 eN1 c2 eN2
      rw [← i]
      have := eY (((l - n)*(x2 - x3))*((l - n)*(x2 - x3))*((l - n)*(x2 - x3))*((n*n - x2 - x3) - (l*l - x2 - x3)))
      clear i
      grind
  · by_cases c2 : (n*n - x2 - x3) - x1 = 0
    · have c2' : (y2 + l*(x1 - x2)) + (n*(x2 - (n*n - x2 - x3)) - y2) ≠ 0 := by
        intro h
        refine d2 ⟨?_, h⟩
        clear key m1 m2 k1 k2 q1 q3 d1 d2 h c1
        grind
      exact key _ _ _ _ c1 c2' m1 k2 (ec_idx01 x1 x2 x3 y2 l n q1 q3) (ec_idy01 x1 x2 x3 y2 l n q1 q3)
    · exact key _ _ _ _ c1 c2 m1 k1 (ec_idx00 x1 x2 x3 y2 l n q1 q3) (ec_idy00 x1 x2 x3 y2 l n q1 q3)
theorem ec_assoc {F : Type} [Lean.Grind.CommRing F] [DecidableEq F] {inv : F → F} (hF : ec_fld inv) {b : F} (hb : b ≠ 0) {A B C : Option (F × F)} (hA : ec_on b A) (hB : ec_on b B) (hC : ec_on b C) : ec_add inv (ec_add inv A B) C = ec_add inv A (ec_add inv B C) := by
  match A, B, C, hA, hB, hC with
  | none, B, C, _, _, _ => rfl
  | some a, none, C, _, _, _ => rfl
  | some a, some c, none, _, _, _ => rw [ec_add_none, ec_add_none]
  | some (x1, y1), some (x2, y2), some (x3, y3), hA, hB, hC =>
    by_cases hd : x1 = x2 ∧ y1 + y2 = 0
    · -- B is -A
      have hBn : some (x2, y2) = ec_neg (some (x1, y1)) := by
        show some (x2, y2) = some (x1, -y1)
        rw [hd.1, show -y1 = y2 by have := hd.2; grind]
      rw [ec_add_dg hd, hBn]
      have h := ec_back hF hb (ec_neg_on hA) hC
      rw [ec_neg_neg] at h
      exact h.symm
    by_cases hd3 : x2 = x3 ∧ y2 + y3 = 0
    · have hCn : some (x3, y3) = ec_neg (some (x2, y2)) := by
        show some (x3, y3) = some (x2, -y2)
        rw [← hd3.1, show -y2 = y3 by have := hd3.2; grind]
      rw [ec_add_dg hd3, hCn, ec_add_none]
      have h := ec_back hF hb hB hA
      rw [ec_add_comm hF (ec_add_on hF hA hB) (ec_neg_on hB), ec_add_comm hF hA hB]
      exact h
    obtain ⟨l, hl, eAB⟩ := ec_sl_ex hF hA hB hd
    obtain ⟨n, hn, eBC⟩ := ec_sl_ex hF hB hC hd3
    have onAB := ec_out_on hA hl
    have onBC := ec_out_on hB hn
    by_cases d1 : (ec_out x1 y1 x2 l).1 = x3 ∧ (ec_out x1 y1 x2 l).2 + y3 = 0
    · -- C is -(A + B)
      have hCn : some (x3, y3) = ec_neg (ec_add inv (some (x1, y1)) (some (x2, y2))) := by
        rw [eAB]
        show some (x3, y3) = some ((ec_out x1 y1 x2 l).1, -(ec_out x1 y1 x2 l).2)
        rw [d1.1, show -(ec_out x1 y1 x2 l).2 = y3 by have := d1.2; grind]
      have hlast : ec_add inv (ec_add inv (some (x1, y1)) (some (x2, y2))) (some (x3, y3)) = none := by rw [hCn]; exact ec_add_neg _
      rw [hlast]
      have h := ec_back hF hb hB hA
      have h2 := ec_neg_add hF (ec_neg_on hB) (ec_add_on hF hB hA)
      rw [h, ec_neg_neg, ec_add_comm hF hB hA, ← hCn] at h2
      rw [h2, ec_add_neg]
    by_cases d2 : x1 = (ec_out x2 y2 x3 n).1 ∧ y1 + (ec_out x2 y2 x3 n).2 = 0
    · -- B + C is -A
      have hBn : ec_add inv (some (x2, y2)) (some (x3, y3)) = ec_neg (some (x1, y1)) := by
        rw [eBC]
        show some ((ec_out x2 y2 x3 n).1, (ec_out x2 y2 x3 n).2) = some (x1, -y1)
        rw [← d2.1, show -y1 = (ec_out x2 y2 x3 n).2 by have := d2.2; grind]
      rw [hBn, ec_add_neg]
      have h := ec_back hF hb hB hC
      rw [hBn, ec_neg_add hF hB hA, ec_add_comm hF hB hA] at h
      rw [← h, ec_add_neg]
    rw [eAB, eBC]
    obtain ⟨m, hm, eL⟩ := ec_sl_ex (x1 := (ec_out x1 y1 x2 l).1) (y1 := (ec_out x1 y1 x2 l).2) hF onAB hC d1
    obtain ⟨k, hk, eR⟩ := ec_sl_ex (x2 := (ec_out x2 y2 x3 n).1) (y2 := (ec_out x2 y2 x3 n).2) hF hA onBC d2
    have eL' : ec_add inv (some (ec_out x1 y1 x2 l)) (some (x3, y3)) = some (ec_out (ec_out x1 y1 x2 l).1 (ec_out x1 y1 x2 l).2 x3 m) := eL
    have eR' : ec_add inv (some (x1, y1)) (some (ec_out x2 y2 x3 n)) = some (ec_out x1 y1 (ec_out x2 y2 x3 n).1 k) := eR
    rw [eL', eR']
    exact congrArg some (ec_assoc_sl hF hl hn rfl rfl rfl rfl hm hk d1 d2)
end
section
/-! a point kept as x / z z, y / z z z (ec_J), or as x / z, y / z (ec_H): sums and doubles -/
def ec_J {F : Type} [Lean.Grind.CommRing F] (x y z : F) : Option (F × F) → Prop
  | none => z = 0
  | some a => z ≠ 0 ∧ x = a.1*z*z ∧ y = a.2*z*z*z
def ec_H {F : Type} [Lean.Grind.CommRing F] (x y z : F) : Option (F × F) → Prop
  | none => z = 0
  | some a => z ≠ 0 ∧ x = a.1*z ∧ y = a.2*z
theorem ec_nz {F : Type} [Lean.Grind.CommRing F] {inv : F → F} (hF : ec_fld inv) {a c : F} (ha : a ≠ 0) (hc : c ≠ 0) : a*c ≠ 0 := fun h => by
  rcases ec_nzd hF h with h | h
  · exact ha h
  · exact hc h
theorem ec_Jdbl {F : Type} [Lean.Grind.CommRing F] [DecidableEq F] {inv : F → F} (hF : ec_fld inv) {b x y z u v : F} (hon : v*v = u*u*u + b) (hJ : ec_J x y z (some (u, v))) :
    ec_J ((3*(x*x))*(3*(x*x)) - 2*(2*(y*y)*x) - 2*(2*(y*y)*x)) ((2*(2*(y*y)*x) - ((3*(x*x))*(3*(x*x)) - 2*(2*(y*y)*x) - 2*(2*(y*y)*x)))*(3*(x*x)) - 2*((2*(y*y))*(2*(y*y)))) (2*(z*y)) (ec_add inv (some (u, v)) (some (u, v))) := by
  obtain ⟨hz, hx, hy⟩ := hJ
  simp only at hx hy
  by_cases hv : v + v = 0
  · rw [ec_add_dg ⟨rfl, hv⟩]
    show 2*(z*y) = 0
    rw [hy]
    have e : 2*(z*(v*z*z*z)) = (v + v)*(z*z*z*z) := by grind
    rw [e, hv]
    grind
  · obtain ⟨l, hl, e⟩ := ec_sl_ex hF hon hon (fun h => hv h.2)
    rw [e]
    have hl2 := hl.2
    have hv2 : v ≠ 0 := fun h => hv (by rw [h]; grind)
    have e1 : 2*(z*y) = (v + v)*(z*(z*(z*z))) := by rw [hy]; grind
    refine ⟨?_, ?_, ?_⟩
    · show 2*(z*y) ≠ 0
      rw [e1]
      exact ec_nz hF hv (ec_nz hF hz (ec_nz hF hz (ec_nz hF hz hz)))
    · simp only [ec_out]
      rw [hx, hy]
      have e2 : (u*u + u*u + u*u)*(u*u + u*u + u*u) = (l*(v + v))*(l*(v + v)) := by rw [hl2]
      grind
    · simp only [ec_out]
      rw [hx, hy]
      have e3 : u*u + u*u + u*u = l*(v + v) := hl2.symm
      have e4 : (3 : F)*(u*z*z*(u*z*z)) = l*(v + v)*(z*z*(z*z)) := by grind
      rw [e4]
      have e5 : (3 : F)*(u*u) = 2*(l*v) := by grind
      grind
theorem ec_Jadd {F : Type} [Lean.Grind.CommRing F] [DecidableEq F] {inv : F → F} (hF : ec_fld inv) {b x y z u v u2 v2 : F} (hon : v*v = u*u*u + b) (hon2 : v2*v2 = u2*u2*u2 + b) (hJ : ec_J x y z (some (u, v))) (hb : u2*(z*z) - x ≠ 0) :
    ec_J ((v2*(z*z*z) - y)*(v2*(z*z*z) - y) - (u2*(z*z) - x)*(u2*(z*z) - x)*(u2*(z*z) - x) - (u2*(z*z) - x)*(u2*(z*z) - x)*x - (u2*(z*z) - x)*(u2*(z*z) - x)*x)
      (((u2*(z*z) - x)*(u2*(z*z) - x)*x - ((v2*(z*z*z) - y)*(v2*(z*z*z) - y) - (u2*(z*z) - x)*(u2*(z*z) - x)*(u2*(z*z) - x) - (u2*(z*z) - x)*(u2*(z*z) - x)*x - (u2*(z*z) - x)*(u2*(z*z) - x)*x))*(v2*(z*z*z) - y) - (u2*(z*z) - x)*(u2*(z*z) - x)*(u2*(z*z) - x)*y)
      (z*(u2*(z*z) - x)) (ec_add inv (some (u, v)) (some (u2, v2))) := by
  obtain ⟨hz, hx, hy⟩ := hJ
  simp only at hx hy
  have hu : u ≠ u2 := by
    intro h
    apply hb
    rw [hx, h]
    grind
  obtain ⟨l, hl, e⟩ := ec_sl_ex hF hon hon2 (fun h => hu h.1)
  rw [e]
  have hl1 := hl.1
  refine ⟨ec_nz hF hz hb, ?_, ?_⟩
  · simp only [ec_out]
    rw [hx, hy]
    have ec : v2*(z*z*z) - v*z*z*z = l*(u2 - u)*(z*z*z) := by rw [hl1]; grind
    have eb : u2*(z*z) - u*z*z = (u2 - u)*(z*z) := by grind
    rw [ec, eb]
    clear hl1 hl e ec eb
    grind
  · simp only [ec_out]
    rw [hx, hy]
    have ec : v2*(z*z*z) - v*z*z*z = l*(u2 - u)*(z*z*z) := by rw [hl1]; grind
    have eb : u2*(z*z) - u*z*z = (u2 - u)*(z*z) := by grind
    rw [ec, eb]
    clear hl1 hl e ec eb
    grind
/-- where the x are alike: the same point, or its counterpart -/
theorem ec_Jsame {F : Type} [Lean.Grind.CommRing F] [DecidableEq F] {inv : F → F} (hF : ec_fld inv) {b x y z u v u2 v2 : F} (hon : v*v = u*u*u + b) (hon2 : v2*v2 = u2*u2*u2 + b) (hJ : ec_J x y z (some (u, v))) (hb : u2*(z*z) - x = 0) :
    (v2*(z*z*z) - y = 0 → (u2, v2) = (u, v)) ∧ (v2*(z*z*z) - y ≠ 0 → ec_add inv (some (u, v)) (some (u2, v2)) = none) := by
  obtain ⟨hz, hx, hy⟩ := hJ
  simp only at hx hy
  have h0 : (u2 - u)*(z*z) = 0 := by rw [← hb, hx]; grind
  have hu : u2 = u := by
    rcases ec_nzd hF h0 with h | h
    · grind
    · exact absurd h (ec_nz hF hz hz)
  subst hu
  refine ⟨fun h => ?_, fun h => ?_⟩
  · have h1 : (v2 - v)*(z*(z*z)) = 0 := by rw [← h, hy]; grind
    rcases ec_nzd hF h1 with h2 | h2
    · rw [show v2 = v by grind]
    · exact absurd h2 (ec_nz hF hz (ec_nz hF hz hz))
  · refine ec_add_dg ⟨rfl, ?_⟩
    have h1 : (v2 - v)*(v + v2) = 0 := by grind
    rcases ec_nzd hF h1 with h2 | h2
    · exact absurd (by rw [hy, show v2 = v by grind]; grind) h
    · exact h2
theorem ec_Hdbl {F : Type} [Lean.Grind.CommRing F] [DecidableEq F] {inv : F → F} (hF : ec_fld inv) {b x y z u v : F} (hon : v*v = u*u*u + b) (hJ : ec_H x y z (some (u, v))) :
    ec_H (2*(((3*(x*x))*(3*(x*x)) - 8*(x*y*(y*z)))*(y*z))) ((3*(x*x))*(4*(x*y*(y*z)) - ((3*(x*x))*(3*(x*x)) - 8*(x*y*(y*z)))) - 8*((y*(y*z))*(y*(y*z)))) (8*((y*z)*(y*z)*(y*z))) (ec_add inv (some (u, v)) (some (u, v))) := by
  obtain ⟨hz, hx, hy⟩ := hJ
  simp only at hx hy
  by_cases hv : v + v = 0
  · rw [ec_add_dg ⟨rfl, hv⟩]
    show 8*((y*z)*(y*z)*(y*z)) = 0
    rw [hy]
    have e : 8*((v*z*z)*(v*z*z)*(v*z*z)) = (v + v)*(4*(v*v)*(z*z*z*z*z*z)) := by grind
    rw [e, hv]
    grind
  · obtain ⟨l, hl, e⟩ := ec_sl_ex hF hon hon (fun h => hv h.2)
    rw [e]
    have hl2 := hl.2
    have e1 : 8*((y*z)*(y*z)*(y*z)) = ((v + v)*(z*z))*(((v + v)*(z*z))*((v + v)*(z*z))) := by rw [hy]; grind
    have e5 : (3 : F)*(u*u) = 2*(l*v) := by grind
    refine ⟨?_, ?_, ?_⟩
    · rw [e1]
      have hn := ec_nz hF hv (ec_nz hF hz hz)
      exact ec_nz hF hn (ec_nz hF hn hn)
    · simp only [ec_out]
      rw [hx, hy]
      have e4 : (3 : F)*(u*z*(u*z)) = 2*(l*v)*(z*z) := by grind
      rw [e4]
      clear hl hl2 e e1 e4
      grind
    · simp only [ec_out]
      rw [hx, hy]
      have e4 : (3 : F)*(u*z*(u*z)) = 2*(l*v)*(z*z) := by grind
      rw [e4]
      clear hl hl2 e e1 e4
      grind
theorem ec_Hadd {F : Type} [Lean.Grind.CommRing F] [DecidableEq F] {inv : F → F} (hF : ec_fld inv) {b x y z x2 y2 z2 u v u2 v2 : F} (hon : v*v = u*u*u + b) (hon2 : v2*v2 = u2*u2*u2 + b) (hJ : ec_H x y z (some (u, v))) (hJ2 : ec_H x2 y2 z2 (some (u2, v2))) (hb : x2*z - x*z2 ≠ 0) :
    ec_H ((x2*z - x*z2)*((y2*z - y*z2)*(y2*z - y*z2)*(z*z2) - (x2*z - x*z2)*(x2*z - x*z2)*(x2*z - x*z2) - (x2*z - x*z2)*(x2*z - x*z2)*(x*z2) - (x2*z - x*z2)*(x2*z - x*z2)*(x*z2)))
      ((y2*z - y*z2)*((x2*z - x*z2)*(x2*z - x*z2)*(x*z2) - ((y2*z - y*z2)*(y2*z - y*z2)*(z*z2) - (x2*z - x*z2)*(x2*z - x*z2)*(x2*z - x*z2) - (x2*z - x*z2)*(x2*z - x*z2)*(x*z2) - (x2*z - x*z2)*(x2*z - x*z2)*(x*z2))) - y*z2*((x2*z - x*z2)*(x2*z - x*z2)*(x2*z - x*z2)))
      ((x2*z - x*z2)*(x2*z - x*z2)*(x2*z - x*z2)*(z*z2)) (ec_add inv (some (u, v)) (some (u2, v2))) := by
  obtain ⟨hz, hx, hy⟩ := hJ
  obtain ⟨hz2, hx2, hy2⟩ := hJ2
  simp only at hx hy hx2 hy2
  have hu : u ≠ u2 := by
    intro h
    apply hb
    rw [hx, hx2, h]
    grind
  obtain ⟨l, hl, e⟩ := ec_sl_ex hF hon hon2 (fun h => hu h.1)
  rw [e]
  have hl1 := hl.1
  have eb : x2*z - x*z2 = (u2 - u)*(z*z2) := by rw [hx, hx2]; grind
  have ec : y2*z - y*z2 = l*(u2 - u)*(z*z2) := by rw [hl1, hy, hy2]; grind
  refine ⟨ec_nz hF (ec_nz hF (ec_nz hF hb hb) hb) (ec_nz hF hz hz2), ?_, ?_⟩
  · simp only [ec_out]
    rw [eb, ec, hx]
    clear hl1 hl e ec eb hb hx hy hx2 hy2
    grind
  · simp only [ec_out]
    rw [eb, ec, hx, hy]
    clear hl1 hl e ec eb hb hx hy hx2 hy2
    grind
theorem ec_Hsame {F : Type} [Lean.Grind.CommRing F] [DecidableEq F] {inv : F → F} (hF : ec_fld inv) {b x y z x2 y2 z2 u v u2 v2 : F} (hon : v*v = u*u*u + b) (hon2 : v2*v2 = u2*u2*u2 + b) (hJ : ec_H x y z (some (u, v))) (hJ2 : ec_H x2 y2 z2 (some (u2, v2))) (hb : x2*z - x*z2 = 0) :
    (y2*z - y*z2 = 0 → (u2, v2) = (u, v)) ∧ (y2*z - y*z2 ≠ 0 → ec_add inv (some (u, v)) (some (u2, v2)) = none) := by
  obtain ⟨hz, hx, hy⟩ := hJ
  obtain ⟨hz2, hx2, hy2⟩ := hJ2
  simp only at hx hy hx2 hy2
  have h0 : (u2 - u)*(z*z2) = 0 := by rw [← hb, hx, hx2]; grind
  have hu : u2 = u := by
    rcases ec_nzd hF h0 with h | h
    · grind
    · exact absurd h (ec_nz hF hz hz2)
  subst hu
  refine ⟨fun h => ?_, fun h => ?_⟩
  · have h1 : (v2 - v)*(z*z2) = 0 := by rw [← h, hy, hy2]; grind
    rcases ec_nzd hF h1 with h2 | h2
    · rw [show v2 = v by grind]
    · exact absurd h2 (ec_nz hF hz hz2)
  · refine ec_add_dg ⟨rfl, ?_⟩
    have h1 : (v2 - v)*(v + v2) = 0 := by grind
    rcases ec_nzd hF h1 with h2 | h2
    · exact absurd (by rw [hy, hy2, show v2 = v by grind]; grind) h
    · exact h2
/-- double and add, the highest bit first: after i of the 256 bits of k -/
def ec_da {F : Type} [Lean.Grind.CommRing F] [DecidableEq F] (inv : F → F) (A : Option (F × F)) (k : Nat) : Nat → Option (F × F)
  | 0 => none
  | i + 1 => if k / 2 ^ (255 - i) % 2 = 1 then ec_add inv (ec_add inv (ec_da inv A k i) (ec_da inv A k i)) A else ec_add inv (ec_da inv A k i) (ec_da inv A k i)
theorem ec_da_on {F : Type} [Lean.Grind.CommRing F] [DecidableEq F] {inv : F → F} (hF : ec_fld inv) {b : F} {A : Option (F × F)} (hA : ec_on b A) (k : Nat) : ∀ i, ec_on b (ec_da inv A k i)
  | 0 => trivial
  | i + 1 => by
    have ih := ec_da_on hF hA k i
    unfold ec_da
    split
    · exact ec_add_on hF (ec_add_on hF ih ih) hA
    · exact ec_add_on hF ih ih
/-- (A + B) + (C + D) = (A + C) + (B + D) -/
theorem ec_add4 {F : Type} [Lean.Grind.CommRing F] [DecidableEq F] {inv : F → F} (hF : ec_fld inv) {b : F} (hb : b ≠ 0) {A B C D : Option (F × F)} (hA : ec_on b A) (hB : ec_on b B) (hC : ec_on b C) (hD : ec_on b D) : ec_add inv (ec_add inv A B) (ec_add inv C D) = ec_add inv (ec_add inv A C) (ec_add inv B D) := by
  rw [ec_assoc hF hb hA hB (ec_add_on hF hC hD), ← ec_assoc hF hb hB hC hD, ec_add_comm hF hB hC, ec_assoc hF hb hC hB hD, ← ec_assoc hF hb hA hC (ec_add_on hF hB hD)]
/-- the interleaved sum of two multiples is their sum -/
def ec_da2 {F : Type} [Lean.Grind.CommRing F] [DecidableEq F] (inv : F → F) (A : Option (F × F)) (k : Nat) (B : Option (F × F)) (j : Nat) : Nat → Option (F × F)
  | 0 => none
  | i + 1 =>
    let S := ec_add inv (ec_da2 inv A k B j i) (ec_da2 inv A k B j i)
    let S1 := if k / 2 ^ (255 - i) % 2 = 1 then ec_add inv S A else S
    if j / 2 ^ (255 - i) % 2 = 1 then ec_add inv S1 B else S1
theorem ec_da2_eq {F : Type} [Lean.Grind.CommRing F] [DecidableEq F] {inv : F → F} (hF : ec_fld inv) {b : F} (hb : b ≠ 0) {A B : Option (F × F)} (hA : ec_on b A) (hB : ec_on b B) (k j : Nat) : ∀ i, ec_da2 inv A k B j i = ec_add inv (ec_da inv A k i) (ec_da inv B j i)
  | 0 => rfl
  | i + 1 => by
    have ih := ec_da2_eq hF hb hA hB k j i
    have h1 := ec_da_on hF hA k i
    have h2 := ec_da_on hF hB j i
    have hX := ec_add_on hF h1 h1
    have hY := ec_add_on hF h2 h2
    have e : ec_add inv (ec_add inv (ec_da inv A k i) (ec_da inv B j i)) (ec_add inv (ec_da inv A k i) (ec_da inv B j i)) = ec_add inv (ec_add inv (ec_da inv A k i) (ec_da inv A k i)) (ec_add inv (ec_da inv B j i) (ec_da inv B j i)) := ec_add4 hF hb h1 h2 h1 h2
    unfold ec_da2 ec_da
    simp only [ih, e]
    by_cases c1 : k / 2 ^ (255 - i) % 2 = 1 <;> by_cases c2 : j / 2 ^ (255 - i) % 2 = 1
    · simp only [if_pos c1, if_pos c2]
      rw [ec_assoc hF hb hX hY hA, ec_add_comm hF hY hA, ← ec_assoc hF hb hX hA hY, ec_assoc hF hb (ec_add_on hF hX hA) hY hB]
    · simp only [if_pos c1, if_neg c2]
      rw [ec_assoc hF hb hX hY hA, ec_add_comm hF hY hA, ← ec_assoc hF hb hX hA hY]
    · simp only [if_neg c1, if_pos c2]
      rw [ec_assoc hF hb hX hY hB]
    · simp only [if_neg c1, if_neg c2]
end
section
/-! the field of P elements -/
theorem ec_Ppos : 0 < ec_P := by decide +kernel
def ec_nzP : NeZero ec_P := ⟨Nat.ne_of_gt ec_Ppos⟩
abbrev ec_cr : Lean.Grind.CommRing (Fin ec_P) := letI := ec_nzP; inferInstance
def ec_f (n : Nat) : Fin ec_P := ⟨n % ec_P, Nat.mod_lt _ ec_Ppos⟩
def ec_inv (a : Fin ec_P) : Fin ec_P := ec_f (a.val ^ (ec_P - 2))
theorem ec_f_val {n : Nat} (h : n < ec_P) : (ec_f n).val = n := Nat.mod_eq_of_lt h
theorem ec_f_of (a : Fin ec_P) : ec_f a.val = a := Fin.ext (Nat.mod_eq_of_lt a.isLt)
theorem ec_f_inj {a b : Nat} (ha : a < ec_P) (hb : b < ec_P) (h : ec_f a = ec_f b) : a = b := by
  have := congrArg Fin.val h
  rwa [ec_f_val ha, ec_f_val hb] at this
theorem ec_f_mod (a : Nat) : ec_f (a % ec_P) = ec_f a := Fin.ext (Nat.mod_mod _ _)
theorem ec_f_mul (a b : Nat) : ec_f (a * b) = @HMul.hMul _ _ _ (@instHMul _ ec_cr.toMul) (ec_f a) (ec_f b) := Fin.ext (Nat.mul_mod a b ec_P)
theorem ec_f_add (a b : Nat) : ec_f (a + b) = @HAdd.hAdd _ _ _ (@instHAdd _ ec_cr.toAdd) (ec_f a) (ec_f b) := Fin.ext (Nat.add_mod a b ec_P)
theorem ec_f_sub {a b : Nat} (h : b ≤ a) : ec_f (a - b) = @HSub.hSub _ _ _ (@instHSub _ ec_cr.toSub) (ec_f a) (ec_f b) := by
  letI := ec_cr
  have h1 : ec_f a = ec_f (a - b) + ec_f b := by
    have := ec_f_add (a - b) b
    rwa [Nat.sub_add_cancel h] at this
  grind
theorem ec_f_0 : ec_f 0 = @OfNat.ofNat (Fin ec_P) 0 (ec_cr.ofNat 0) := rfl
theorem ec_f_1 : ec_f 1 = @OfNat.ofNat (Fin ec_P) 1 (ec_cr.ofNat 1) := rfl
theorem ec_f_P (a : Nat) : ec_f (a + ec_P) = ec_f a := Fin.ext (Nat.add_mod_right a ec_P)
theorem ec_f_zero {a : Nat} (h : a < ec_P) : ec_f a = @OfNat.ofNat (Fin ec_P) 0 (ec_cr.ofNat 0) ↔ a = 0 := by
  rw [← ec_f_0]
  exact ⟨fun q => ec_f_inj h ec_Ppos q, fun q => by rw [q]⟩
theorem ec_isfld : @ec_fld (Fin ec_P) ec_cr ec_inv := by
  refine ⟨fun a ha => ?_, ?_, ?_⟩
  · have h0 : a.val % ec_P ≠ 0 := by
      intro h
      apply ha
      rw [← ec_f_of a, ← ec_f_mod, h]
      rfl
    have h1 := ec_fermatP h0
    have h2 : a.val ^ (ec_P - 1) = a.val * a.val ^ (ec_P - 2) := by
      rw [← Nat.pow_succ']
      congr 1
    rw [h2] at h1
    have h3 : ec_f (a.val * a.val ^ (ec_P - 2)) = ec_f 1 := Fin.ext (by show a.val * a.val ^ (ec_P - 2) % ec_P = 1 % ec_P; rw [h1]; decide +kernel)
    rw [ec_f_mul, ec_f_of] at h3
    exact h3
  · intro h
    have := congrArg Fin.val h
    revert this
    decide +kernel
  · intro h
    have := congrArg Fin.val h
    revert this
    decide +kernel
theorem ec_seven : ec_f 7 ≠ @OfNat.ofNat (Fin ec_P) 0 (ec_cr.ofNat 0) := by
  intro h
  have := congrArg Fin.val h
  revert this
  decide +kernel
end
section
/-! digits of a number to a base, one digit written anew -/
def dg (b v j : Nat) : Nat := v / b ^ j % b
def ds (b w i x : Nat) : Nat := w % b ^ i + x * b ^ i + w / b ^ (i + 1) * b ^ (i + 1)
theorem dg_lt {b : Nat} (hb : 0 < b) (v j : Nat) : dg b v j < b := Nat.mod_lt _ hb
theorem dg_mod (b v j : Nat) : v % b ^ (j + 1) = v % b ^ j + dg b v j * b ^ j := by
  unfold dg
  rw [Nat.pow_succ, Nat.mod_mul, Nat.mul_comm (b ^ j)]
theorem dg_alt (b v j : Nat) : dg b v j = v % b ^ (j + 1) / b ^ j := by
  unfold dg
  rw [Nat.pow_succ, Nat.mod_mul_right_div_self]
theorem ds_low {b : Nat} (w x : Nat) {i j : Nat} (h : j ≤ i) : ds b w i x % b ^ j = w % b ^ j := by
  unfold ds
  have e1 : b ^ i = b ^ j * b ^ (i - j) := by rw [← Nat.pow_add]; congr 1; omega
  have e2 : b ^ (i + 1) = b ^ j * b ^ (i + 1 - j) := by rw [← Nat.pow_add]; congr 1; omega
  have e3 : x * b ^ i = b ^ j * (x * b ^ (i - j)) := by rw [e1, Nat.mul_left_comm]
  have e4 : w / b ^ (i + 1) * b ^ (i + 1) = b ^ j * (w / b ^ (i + 1) * b ^ (i + 1 - j)) := by
    conv => lhs; rhs; rw [e2]
    rw [Nat.mul_left_comm]
  rw [e3, e4, Nat.add_mul_mod_self_left, Nat.add_mul_mod_self_left]
  exact Nat.mod_mod_of_dvd _ ⟨_, e1⟩
theorem ds_high {b : Nat} (hb : 0 < b) (w : Nat) {x i j : Nat} (hx : x < b) (h : i < j) : ds b w i x / b ^ j = w / b ^ j := by
  have hp : 0 < b ^ i := Nat.pow_pos hb
  have hp1 : 0 < b ^ (i + 1) := Nat.pow_pos hb
  have h1 : w % b ^ i + x * b ^ i < b ^ (i + 1) := by
    have h2 := Nat.mod_lt w hp
    have h3 : (x + 1) * b ^ i ≤ b * b ^ i := Nat.mul_le_mul_right _ hx
    rw [Nat.pow_succ, Nat.mul_comm (b ^ i)]
    rw [Nat.add_mul, Nat.one_mul] at h3
    omega
  have h4 : ds b w i x / b ^ (i + 1) = w / b ^ (i + 1) := by
    unfold ds
    rw [Nat.add_mul_div_right _ _ hp1, Nat.div_eq_of_lt h1, Nat.zero_add]
  have e : b ^ j = b ^ (i + 1) * b ^ (j - (i + 1)) := by rw [← Nat.pow_add]; congr 1; omega
  rw [e, ← Nat.div_div_eq_div_mul, ← Nat.div_div_eq_div_mul, h4]
theorem ds_mid {b : Nat} (hb : 0 < b) (w : Nat) {x i : Nat} (hx : x < b) : dg b (ds b w i x) i = x := by
  have hp : 0 < b ^ i := Nat.pow_pos hb
  have e : ds b w i x = w % b ^ i + (x + w / b ^ (i + 1) * b) * b ^ i := by
    unfold ds
    rw [Nat.add_mul, Nat.add_assoc]
    congr 2
    rw [Nat.pow_succ, Nat.mul_assoc, Nat.mul_comm b]
  unfold dg
  rw [e, Nat.add_mul_div_right _ _ hp, Nat.div_eq_of_lt (Nat.mod_lt _ hp), Nat.zero_add, Nat.add_mul_mod_self_right, Nat.mod_eq_of_lt hx]
theorem ds_dg {b : Nat} (hb : 0 < b) (w : Nat) {x i : Nat} (hx : x < b) (j : Nat) : dg b (ds b w i x) j = if j = i then x else dg b w j := by
  by_cases h : j = i
  · subst h
    rw [if_pos rfl, ds_mid hb w hx]
  · rw [if_neg h]
    rcases Nat.lt_or_ge j i with h1 | h1
    · rw [dg_alt, dg_alt, ds_low w x (show j + 1 ≤ i from h1)]
    · unfold dg
      rw [ds_high hb w hx (by omega)]
/-- the part below the digit that was written, and it -/
theorem ds_mod {b : Nat} (hb : 0 < b) (w : Nat) {x i : Nat} (hx : x < b) : ds b w i x % b ^ (i + 1) = w % b ^ i + x * b ^ i := by
  rw [dg_mod, ds_mid hb w hx, ds_low w x (Nat.le_refl i)]
theorem ds_lt {b : Nat} (hb : 0 < b) {w x i n : Nat} (hx : x < b) (hi : i < n) (hw : w < b ^ n) : ds b w i x < b ^ n := by
  have h := ds_high hb w hx hi
  rw [Nat.div_eq_of_lt hw] at h
  exact Nat.lt_of_div_eq_zero (Nat.pow_pos hb) h
/-- two numbers with the same digits below n -/
theorem dg_ext {b : Nat} {v w : Nat} (n : Nat) (h : ∀ j, j < n → dg b v j = dg b w j) : v % b ^ n = w % b ^ n := by
  induction n with
  | zero => simp [Nat.mod_one]
  | succ n ih => rw [dg_mod, dg_mod, ih (fun j hj => h j (by omega)), h n (by omega)]
theorem dg_ext' {b : Nat} {v w : Nat} (n : Nat) (hv : v < b ^ n) (hw : w < b ^ n) (h : ∀ j, j < n → dg b v j = dg b w j) : v = w := by
  have := dg_ext n h
  rwa [Nat.mod_eq_of_lt hv, Nat.mod_eq_of_lt hw] at this
theorem dg_cmp {b : Nat} (hb : 0 < b) {v w i n : Nat} (hi : i < n) (hv : v < b ^ n) (hw : w < b ^ n) (h : ∀ j, i < j → j < n → dg b v j = dg b w j) (hlt : dg b v i < dg b w i) : v < w := by
  have key : ∀ k, i + 1 + k ≤ n → v / b ^ (n - k) = w / b ^ (n - k) := by
    intro k
    induction k with
    | zero => intro _; rw [Nat.sub_zero, Nat.div_eq_of_lt hv, Nat.div_eq_of_lt hw]
    | succ k ih =>
      intro hk
      have h1 := ih (by omega)
      have h2 := h (n - (k + 1)) (by omega) (by omega)
      have e : b ^ (n - k) = b ^ (n - (k + 1)) * b := by rw [← Nat.pow_succ]; congr 1; omega
      rw [e, ← Nat.div_div_eq_div_mul, ← Nat.div_div_eq_div_mul] at h1
      unfold dg at h2
      rw [← Nat.div_add_mod (v / b ^ (n - (k + 1))) b, ← Nat.div_add_mod (w / b ^ (n - (k + 1))) b, h1, h2]
  have h1 := key (n - (i + 1)) (by omega)
  rw [show n - (n - (i + 1)) = i + 1 by omega] at h1
  have h2 : v / b ^ i < w / b ^ i := by
    have ev := Nat.div_add_mod (v / b ^ i) b
    have ew := Nat.div_add_mod (w / b ^ i) b
    have e9 : b ^ i * b = b ^ (i + 1) := (Nat.pow_succ b i).symm
    rw [Nat.div_div_eq_div_mul, e9] at ev ew
    unfold dg at hlt
    rw [h1] at ev
    omega
  rcases Nat.lt_or_ge v w with h3 | h3
  · exact h3
  · have := Nat.div_le_div_right (c := b ^ i) h3
    omega
end
section
-- ===== PART A: goes FIRST, ahead of the names: the tables' words, and 'selects' of the private methods out of them =====
/-- a private method of a class that the tables say can be made, by its rows of tables_1 -/
def lw_okq (q : MethodName × Nat) : Prop := (q.1.cls ≠ "java/lang/invoke/MethodHandle" ∧ q.1.cls ≠ "java/lang/invoke/VarHandle") ∧ Cond.instantiable q.1.cls q.2 ∈ tables_1 ∧ Cond.privateMethod q.1 ∈ tables_1 ∧ Cond.instanceMethod q.1 ∈ tables_1
theorem lw_p0 : lw_okq (⟨"CurveDesk", "modulusOf", "(I)LCurveDesk$Modulus;"⟩, 10) := ⟨⟨by decide +kernel, by decide +kernel⟩, List.mem_of_getElem? (i := 10) (by decide +kernel), List.mem_of_getElem? (i := 193) (by decide +kernel), List.mem_of_getElem? (i := 194) (by decide +kernel)⟩
theorem lw_p1 : lw_okq (⟨"CurveDesk$Modulus", "addProduct", "(J[JII)V"⟩, 6) := ⟨⟨by decide +kernel, by decide +kernel⟩, List.mem_of_getElem? (i := 37) (by decide +kernel), List.mem_of_getElem? (i := 239) (by decide +kernel), List.mem_of_getElem? (i := 240) (by decide +kernel)⟩
theorem lw_p2 : lw_okq (⟨"CurveDesk$Modulus", "fold", "(I)V"⟩, 6) := ⟨⟨by decide +kernel, by decide +kernel⟩, List.mem_of_getElem? (i := 37) (by decide +kernel), List.mem_of_getElem? (i := 244) (by decide +kernel), List.mem_of_getElem? (i := 245) (by decide +kernel)⟩
theorem lw_p3 : lw_okq (⟨"CurveDesk", "fillSpot", "(I[J[J)Z"⟩, 10) := ⟨⟨by decide +kernel, by decide +kernel⟩, List.mem_of_getElem? (i := 10) (by decide +kernel), List.mem_of_getElem? (i := 295) (by decide +kernel), List.mem_of_getElem? (i := 296) (by decide +kernel)⟩
theorem lw_p4 : lw_okq (⟨"CurveDesk$Curve", "startSum", "()V"⟩, 7) := ⟨⟨by decide +kernel, by decide +kernel⟩, List.mem_of_getElem? (i := 74) (by decide +kernel), List.mem_of_getElem? (i := 319) (by decide +kernel), List.mem_of_getElem? (i := 320) (by decide +kernel)⟩
theorem lw_p5 : lw_okq (⟨"CurveDesk$Curve", "include", "(LCurveDesk$Point;)V"⟩, 7) := ⟨⟨by decide +kernel, by decide +kernel⟩, List.mem_of_getElem? (i := 74) (by decide +kernel), List.mem_of_getElem? (i := 323) (by decide +kernel), List.mem_of_getElem? (i := 324) (by decide +kernel)⟩
theorem lw_p6 : lw_okq (⟨"CurveDesk$Curve", "findDifferences", "(LCurveDesk$Point;)V"⟩, 7) := ⟨⟨by decide +kernel, by decide +kernel⟩, List.mem_of_getElem? (i := 74) (by decide +kernel), List.mem_of_getElem? (i := 329) (by decide +kernel), List.mem_of_getElem? (i := 330) (by decide +kernel)⟩
theorem lw_p7 : lw_okq (⟨"CurveDesk$Curve", "moveAlongLine", "()V"⟩, 7) := ⟨⟨by decide +kernel, by decide +kernel⟩, List.mem_of_getElem? (i := 74) (by decide +kernel), List.mem_of_getElem? (i := 333) (by decide +kernel), List.mem_of_getElem? (i := 334) (by decide +kernel)⟩
theorem lw_p8 : lw_okq (⟨"CurveDesk$Curve", "doubleSum", "()V"⟩, 7) := ⟨⟨by decide +kernel, by decide +kernel⟩, List.mem_of_getElem? (i := 74) (by decide +kernel), List.mem_of_getElem? (i := 337) (by decide +kernel), List.mem_of_getElem? (i := 338) (by decide +kernel)⟩
theorem lw_p9 : lw_okq (⟨"CurveDesk$Curve", "storeSum", "(LCurveDesk$Point;)V"⟩, 7) := ⟨⟨by decide +kernel, by decide +kernel⟩, List.mem_of_getElem? (i := 74) (by decide +kernel), List.mem_of_getElem? (i := 341) (by decide +kernel), List.mem_of_getElem? (i := 342) (by decide +kernel)⟩
theorem lw_p10 : lw_okq (⟨"CurveDesk", "fillFromShortKey", "(I)Z"⟩, 10) := ⟨⟨by decide +kernel, by decide +kernel⟩, List.mem_of_getElem? (i := 10) (by decide +kernel), List.mem_of_getElem? (i := 381) (by decide +kernel), List.mem_of_getElem? (i := 382) (by decide +kernel)⟩
theorem lw_p11 : lw_okq (⟨"CurveDesk", "fillFromWholeKey", "(I)Z"⟩, 10) := ⟨⟨by decide +kernel, by decide +kernel⟩, List.mem_of_getElem? (i := 10) (by decide +kernel), List.mem_of_getElem? (i := 396) (by decide +kernel), List.mem_of_getElem? (i := 397) (by decide +kernel)⟩
theorem lw_p12 : lw_okq (⟨"CurveDesk$Hand", "readPart", "([JII)I"⟩, 2) := ⟨⟨by decide +kernel, by decide +kernel⟩, List.mem_of_getElem? (i := 22) (by decide +kernel), List.mem_of_getElem? (i := 408) (by decide +kernel), List.mem_of_getElem? (i := 409) (by decide +kernel)⟩
theorem lw_p13 : lw_okq (⟨"CurveDesk$Hand", "isWellWritten", "(II)Z"⟩, 2) := ⟨⟨by decide +kernel, by decide +kernel⟩, List.mem_of_getElem? (i := 22) (by decide +kernel), List.mem_of_getElem? (i := 412) (by decide +kernel), List.mem_of_getElem? (i := 413) (by decide +kernel)⟩
theorem lw_p14 : lw_okq (⟨"CurveDesk", "isUnit", "([J)Z"⟩, 10) := ⟨⟨by decide +kernel, by decide +kernel⟩, List.mem_of_getElem? (i := 10) (by decide +kernel), List.mem_of_getElem? (i := 421) (by decide +kernel), List.mem_of_getElem? (i := 422) (by decide +kernel)⟩
theorem lw_p15 : lw_okq (⟨"CurveDeskModel", "write", "(IJJJJ)V"⟩, 7) := ⟨⟨by decide +kernel, by decide +kernel⟩, List.mem_of_getElem? (i := 426) (by decide +kernel), List.mem_of_getElem? (i := 434) (by decide +kernel), List.mem_of_getElem? (i := 435) (by decide +kernel)⟩
def lw_privs_1 : List (MethodName × Nat) := [(⟨"CurveDesk", "modulusOf", "(I)LCurveDesk$Modulus;"⟩, 10), (⟨"CurveDesk$Modulus", "addProduct", "(J[JII)V"⟩, 6), (⟨"CurveDesk$Modulus", "fold", "(I)V"⟩, 6), (⟨"CurveDesk", "fillSpot", "(I[J[J)Z"⟩, 10), (⟨"CurveDesk$Curve", "startSum", "()V"⟩, 7), (⟨"CurveDesk$Curve", "include", "(LCurveDesk$Point;)V"⟩, 7), (⟨"CurveDesk$Curve", "findDifferences", "(LCurveDesk$Point;)V"⟩, 7), (⟨"CurveDesk$Curve", "moveAlongLine", "()V"⟩, 7), (⟨"CurveDesk$Curve", "doubleSum", "()V"⟩, 7), (⟨"CurveDesk$Curve", "storeSum", "(LCurveDesk$Point;)V"⟩, 7), (⟨"CurveDesk", "fillFromShortKey", "(I)Z"⟩, 10), (⟨"CurveDesk", "fillFromWholeKey", "(I)Z"⟩, 10), (⟨"CurveDesk$Hand", "readPart", "([JII)I"⟩, 2), (⟨"CurveDesk$Hand", "isWellWritten", "(II)Z"⟩, 2), (⟨"CurveDesk", "isUnit", "([J)Z"⟩, 10), (⟨"CurveDeskModel", "write", "(IJJJJ)V"⟩, 7)]
theorem lw_r1 : ∀ q ∈ lw_privs_1, lw_okq q := List.forall_mem_cons.mpr ⟨lw_p0, List.forall_mem_cons.mpr ⟨lw_p1, List.forall_mem_cons.mpr ⟨lw_p2, List.forall_mem_cons.mpr ⟨lw_p3, List.forall_mem_cons.mpr ⟨lw_p4, List.forall_mem_cons.mpr ⟨lw_p5, List.forall_mem_cons.mpr ⟨lw_p6, List.forall_mem_cons.mpr ⟨lw_p7, List.forall_mem_cons.mpr ⟨lw_p8, List.forall_mem_cons.mpr ⟨lw_p9, List.forall_mem_cons.mpr ⟨lw_p10, List.forall_mem_cons.mpr ⟨lw_p11, List.forall_mem_cons.mpr ⟨lw_p12, List.forall_mem_cons.mpr ⟨lw_p13, List.forall_mem_cons.mpr ⟨lw_p14, List.forall_mem_cons.mpr ⟨lw_p15, fun _ h => absurd h List.not_mem_nil⟩⟩⟩⟩⟩⟩⟩⟩⟩⟩⟩⟩⟩⟩⟩⟩
theorem lw_p16 : lw_okq (⟨"CurveDeskModel", "nothing", "(I)V"⟩, 7) := ⟨⟨by decide +kernel, by decide +kernel⟩, List.mem_of_getElem? (i := 426) (by decide +kernel), List.mem_of_getElem? (i := 438) (by decide +kernel), List.mem_of_getElem? (i := 439) (by decide +kernel)⟩
theorem lw_p17 : lw_okq (⟨"CurveDeskModel", "bit", "(II)Z"⟩, 7) := ⟨⟨by decide +kernel, by decide +kernel⟩, List.mem_of_getElem? (i := 426) (by decide +kernel), List.mem_of_getElem? (i := 492) (by decide +kernel), List.mem_of_getElem? (i := 493) (by decide +kernel)⟩
theorem lw_p18 : lw_okq (⟨"CurveDeskModel", "multiply", "(IIII)V"⟩, 7) := ⟨⟨by decide +kernel, by decide +kernel⟩, List.mem_of_getElem? (i := 426) (by decide +kernel), List.mem_of_getElem? (i := 503) (by decide +kernel), List.mem_of_getElem? (i := 504) (by decide +kernel)⟩
theorem lw_p19 : lw_okq (⟨"CurveDeskModel", "carry", "()V"⟩, 7) := ⟨⟨by decide +kernel, by decide +kernel⟩, List.mem_of_getElem? (i := 426) (by decide +kernel), List.mem_of_getElem? (i := 507) (by decide +kernel), List.mem_of_getElem? (i := 508) (by decide +kernel)⟩
theorem lw_p20 : lw_okq (⟨"CurveDeskModel", "isWide", "()Z"⟩, 7) := ⟨⟨by decide +kernel, by decide +kernel⟩, List.mem_of_getElem? (i := 426) (by decide +kernel), List.mem_of_getElem? (i := 512) (by decide +kernel), List.mem_of_getElem? (i := 513) (by decide +kernel)⟩
theorem lw_p21 : lw_okq (⟨"CurveDeskModel", "fold", "(I)V"⟩, 7) := ⟨⟨by decide +kernel, by decide +kernel⟩, List.mem_of_getElem? (i := 426) (by decide +kernel), List.mem_of_getElem? (i := 517) (by decide +kernel), List.mem_of_getElem? (i := 518) (by decide +kernel)⟩
theorem lw_p22 : lw_okq (⟨"CurveDeskModel", "compare", "(II)I"⟩, 7) := ⟨⟨by decide +kernel, by decide +kernel⟩, List.mem_of_getElem? (i := 426) (by decide +kernel), List.mem_of_getElem? (i := 521) (by decide +kernel), List.mem_of_getElem? (i := 522) (by decide +kernel)⟩
theorem lw_p23 : lw_okq (⟨"CurveDeskModel", "add", "(III)V"⟩, 7) := ⟨⟨by decide +kernel, by decide +kernel⟩, List.mem_of_getElem? (i := 426) (by decide +kernel), List.mem_of_getElem? (i := 525) (by decide +kernel), List.mem_of_getElem? (i := 526) (by decide +kernel)⟩
theorem lw_p24 : lw_okq (⟨"CurveDeskModel", "isNothing", "(I)Z"⟩, 7) := ⟨⟨by decide +kernel, by decide +kernel⟩, List.mem_of_getElem? (i := 426) (by decide +kernel), List.mem_of_getElem? (i := 533) (by decide +kernel), List.mem_of_getElem? (i := 534) (by decide +kernel)⟩
theorem lw_p25 : lw_okq (⟨"CurveDeskModel", "plus", "(IIII)V"⟩, 7) := ⟨⟨by decide +kernel, by decide +kernel⟩, List.mem_of_getElem? (i := 426) (by decide +kernel), List.mem_of_getElem? (i := 537) (by decide +kernel), List.mem_of_getElem? (i := 538) (by decide +kernel)⟩
theorem lw_p26 : lw_okq (⟨"CurveDeskModel", "copy", "(II)V"⟩, 7) := ⟨⟨by decide +kernel, by decide +kernel⟩, List.mem_of_getElem? (i := 426) (by decide +kernel), List.mem_of_getElem? (i := 541) (by decide +kernel), List.mem_of_getElem? (i := 542) (by decide +kernel)⟩
theorem lw_p27 : lw_okq (⟨"CurveDeskModel", "minus", "(IIII)V"⟩, 7) := ⟨⟨by decide +kernel, by decide +kernel⟩, List.mem_of_getElem? (i := 426) (by decide +kernel), List.mem_of_getElem? (i := 545) (by decide +kernel), List.mem_of_getElem? (i := 546) (by decide +kernel)⟩
theorem lw_p28 : lw_okq (⟨"CurveDeskModel", "divide", "(IIII)V"⟩, 7) := ⟨⟨by decide +kernel, by decide +kernel⟩, List.mem_of_getElem? (i := 426) (by decide +kernel), List.mem_of_getElem? (i := 549) (by decide +kernel), List.mem_of_getElem? (i := 550) (by decide +kernel)⟩
theorem lw_p29 : lw_okq (⟨"CurveDeskModel", "power", "(III)V"⟩, 7) := ⟨⟨by decide +kernel, by decide +kernel⟩, List.mem_of_getElem? (i := 426) (by decide +kernel), List.mem_of_getElem? (i := 553) (by decide +kernel), List.mem_of_getElem? (i := 554) (by decide +kernel)⟩
theorem lw_p30 : lw_okq (⟨"CurveDeskModel", "roots", "(II)Z"⟩, 7) := ⟨⟨by decide +kernel, by decide +kernel⟩, List.mem_of_getElem? (i := 426) (by decide +kernel), List.mem_of_getElem? (i := 561) (by decide +kernel), List.mem_of_getElem? (i := 562) (by decide +kernel)⟩
theorem lw_p31 : lw_okq (⟨"CurveDeskModel", "isOdd", "(I)Z"⟩, 7) := ⟨⟨by decide +kernel, by decide +kernel⟩, List.mem_of_getElem? (i := 426) (by decide +kernel), List.mem_of_getElem? (i := 566) (by decide +kernel), List.mem_of_getElem? (i := 567) (by decide +kernel)⟩
def lw_privs_2 : List (MethodName × Nat) := [(⟨"CurveDeskModel", "nothing", "(I)V"⟩, 7), (⟨"CurveDeskModel", "bit", "(II)Z"⟩, 7), (⟨"CurveDeskModel", "multiply", "(IIII)V"⟩, 7), (⟨"CurveDeskModel", "carry", "()V"⟩, 7), (⟨"CurveDeskModel", "isWide", "()Z"⟩, 7), (⟨"CurveDeskModel", "fold", "(I)V"⟩, 7), (⟨"CurveDeskModel", "compare", "(II)I"⟩, 7), (⟨"CurveDeskModel", "add", "(III)V"⟩, 7), (⟨"CurveDeskModel", "isNothing", "(I)Z"⟩, 7), (⟨"CurveDeskModel", "plus", "(IIII)V"⟩, 7), (⟨"CurveDeskModel", "copy", "(II)V"⟩, 7), (⟨"CurveDeskModel", "minus", "(IIII)V"⟩, 7), (⟨"CurveDeskModel", "divide", "(IIII)V"⟩, 7), (⟨"CurveDeskModel", "power", "(III)V"⟩, 7), (⟨"CurveDeskModel", "roots", "(II)Z"⟩, 7), (⟨"CurveDeskModel", "isOdd", "(I)Z"⟩, 7)]
theorem lw_r2 : ∀ q ∈ lw_privs_2, lw_okq q := List.forall_mem_cons.mpr ⟨lw_p16, List.forall_mem_cons.mpr ⟨lw_p17, List.forall_mem_cons.mpr ⟨lw_p18, List.forall_mem_cons.mpr ⟨lw_p19, List.forall_mem_cons.mpr ⟨lw_p20, List.forall_mem_cons.mpr ⟨lw_p21, List.forall_mem_cons.mpr ⟨lw_p22, List.forall_mem_cons.mpr ⟨lw_p23, List.forall_mem_cons.mpr ⟨lw_p24, List.forall_mem_cons.mpr ⟨lw_p25, List.forall_mem_cons.mpr ⟨lw_p26, List.forall_mem_cons.mpr ⟨lw_p27, List.forall_mem_cons.mpr ⟨lw_p28, List.forall_mem_cons.mpr ⟨lw_p29, List.forall_mem_cons.mpr ⟨lw_p30, List.forall_mem_cons.mpr ⟨lw_p31, fun _ h => absurd h List.not_mem_nil⟩⟩⟩⟩⟩⟩⟩⟩⟩⟩⟩⟩⟩⟩⟩⟩
theorem lw_p32 : lw_okq (⟨"CurveDeskModel", "isPoint", "(II)Z"⟩, 7) := ⟨⟨by decide +kernel, by decide +kernel⟩, List.mem_of_getElem? (i := 426) (by decide +kernel), List.mem_of_getElem? (i := 577) (by decide +kernel), List.mem_of_getElem? (i := 578) (by decide +kernel)⟩
theorem lw_p33 : lw_okq (⟨"CurveDeskModel", "curve", "(II)V"⟩, 7) := ⟨⟨by decide +kernel, by decide +kernel⟩, List.mem_of_getElem? (i := 426) (by decide +kernel), List.mem_of_getElem? (i := 581) (by decide +kernel), List.mem_of_getElem? (i := 582) (by decide +kernel)⟩
theorem lw_p34 : lw_okq (⟨"CurveDeskModel", "load", "(II)V"⟩, 7) := ⟨⟨by decide +kernel, by decide +kernel⟩, List.mem_of_getElem? (i := 426) (by decide +kernel), List.mem_of_getElem? (i := 589) (by decide +kernel), List.mem_of_getElem? (i := 590) (by decide +kernel)⟩
theorem lw_p35 : lw_okq (⟨"CurveDeskModel", "join", "(II)V"⟩, 7) := ⟨⟨by decide +kernel, by decide +kernel⟩, List.mem_of_getElem? (i := 426) (by decide +kernel), List.mem_of_getElem? (i := 593) (by decide +kernel), List.mem_of_getElem? (i := 594) (by decide +kernel)⟩
theorem lw_p36 : lw_okq (⟨"CurveDeskModel", "isNone", "(I)Z"⟩, 7) := ⟨⟨by decide +kernel, by decide +kernel⟩, List.mem_of_getElem? (i := 426) (by decide +kernel), List.mem_of_getElem? (i := 597) (by decide +kernel), List.mem_of_getElem? (i := 598) (by decide +kernel)⟩
theorem lw_p37 : lw_okq (⟨"CurveDeskModel", "copyPoint", "(II)V"⟩, 7) := ⟨⟨by decide +kernel, by decide +kernel⟩, List.mem_of_getElem? (i := 426) (by decide +kernel), List.mem_of_getElem? (i := 601) (by decide +kernel), List.mem_of_getElem? (i := 602) (by decide +kernel)⟩
theorem lw_p38 : lw_okq (⟨"CurveDeskModel", "twice", "(I)V"⟩, 7) := ⟨⟨by decide +kernel, by decide +kernel⟩, List.mem_of_getElem? (i := 426) (by decide +kernel), List.mem_of_getElem? (i := 605) (by decide +kernel), List.mem_of_getElem? (i := 606) (by decide +kernel)⟩
theorem lw_p39 : lw_okq (⟨"CurveDeskModel", "store", "(II)V"⟩, 7) := ⟨⟨by decide +kernel, by decide +kernel⟩, List.mem_of_getElem? (i := 426) (by decide +kernel), List.mem_of_getElem? (i := 609) (by decide +kernel), List.mem_of_getElem? (i := 610) (by decide +kernel)⟩
theorem lw_p40 : lw_okq (⟨"CurveDeskModel", "multiple", "(I)V"⟩, 7) := ⟨⟨by decide +kernel, by decide +kernel⟩, List.mem_of_getElem? (i := 426) (by decide +kernel), List.mem_of_getElem? (i := 617) (by decide +kernel), List.mem_of_getElem? (i := 618) (by decide +kernel)⟩
theorem lw_p41 : lw_okq (⟨"CurveDeskModel", "read", "(III)V"⟩, 7) := ⟨⟨by decide +kernel, by decide +kernel⟩, List.mem_of_getElem? (i := 426) (by decide +kernel), List.mem_of_getElem? (i := 634) (by decide +kernel), List.mem_of_getElem? (i := 635) (by decide +kernel)⟩
theorem lw_p42 : lw_okq (⟨"CurveDeskModel", "numberEnd", "(II)I"⟩, 7) := ⟨⟨by decide +kernel, by decide +kernel⟩, List.mem_of_getElem? (i := 426) (by decide +kernel), List.mem_of_getElem? (i := 642) (by decide +kernel), List.mem_of_getElem? (i := 643) (by decide +kernel)⟩
def lw_privs_3 : List (MethodName × Nat) := [(⟨"CurveDeskModel", "isPoint", "(II)Z"⟩, 7), (⟨"CurveDeskModel", "curve", "(II)V"⟩, 7), (⟨"CurveDeskModel", "load", "(II)V"⟩, 7), (⟨"CurveDeskModel", "join", "(II)V"⟩, 7), (⟨"CurveDeskModel", "isNone", "(I)Z"⟩, 7), (⟨"CurveDeskModel", "copyPoint", "(II)V"⟩, 7), (⟨"CurveDeskModel", "twice", "(I)V"⟩, 7), (⟨"CurveDeskModel", "store", "(II)V"⟩, 7), (⟨"CurveDeskModel", "multiple", "(I)V"⟩, 7), (⟨"CurveDeskModel", "read", "(III)V"⟩, 7), (⟨"CurveDeskModel", "numberEnd", "(II)I"⟩, 7)]
theorem lw_r3 : ∀ q ∈ lw_privs_3, lw_okq q := List.forall_mem_cons.mpr ⟨lw_p32, List.forall_mem_cons.mpr ⟨lw_p33, List.forall_mem_cons.mpr ⟨lw_p34, List.forall_mem_cons.mpr ⟨lw_p35, List.forall_mem_cons.mpr ⟨lw_p36, List.forall_mem_cons.mpr ⟨lw_p37, List.forall_mem_cons.mpr ⟨lw_p38, List.forall_mem_cons.mpr ⟨lw_p39, List.forall_mem_cons.mpr ⟨lw_p40, List.forall_mem_cons.mpr ⟨lw_p41, List.forall_mem_cons.mpr ⟨lw_p42, fun _ h => absurd h List.not_mem_nil⟩⟩⟩⟩⟩⟩⟩⟩⟩⟩⟩
def lw_privs : List (MethodName × Nat) := lw_privs_1 ++ (lw_privs_2 ++ (lw_privs_3))
def lw_tbl : List Cond := k2_sels lw_privs ++ tables_1
theorem lw_privs_ok : ∀ q ∈ lw_privs, lw_okq q := by
  show ∀ q ∈ lw_privs_1 ++ (lw_privs_2 ++ (lw_privs_3)), lw_okq q
  exact List.forall_mem_append.mpr ⟨lw_r1, List.forall_mem_append.mpr ⟨lw_r2, lw_r3⟩⟩
end
section
/-! names: texts, their fields in the order of the slots, the methods, the words of the tables -/
def R_D : String := "CurveDesk"
def R_C : String := "CurveDesk$Curve"
def R_H : String := "CurveDesk$Hand"
def R_L : String := "CurveDesk$Limbs"
def R_M : String := "CurveDesk$Modulus"
def R_P : String := "CurveDesk$Point"
def R_R : String := "CurveDeskModel"
def R_W : String := "CurveDeskLaw"
def F_C : u_T := fun k => match k with
  | 0 => ("CurveDesk$Curve", "field", "LCurveDesk$Modulus;", true)
  | 1 => ("CurveDesk$Curve", "x", "[J", true)
  | 2 => ("CurveDesk$Curve", "y", "[J", true)
  | 3 => ("CurveDesk$Curve", "z", "[J", true)
  | 4 => ("CurveDesk$Curve", "a", "[J", true)
  | 5 => ("CurveDesk$Curve", "b", "[J", true)
  | _ => ("CurveDesk$Curve", "c", "[J", true)
def t_C : Nat → FieldType := fun k => match k with
  | 0 => .object "CurveDesk$Modulus"
  | 1 => .array .long
  | 2 => .array .long
  | 3 => .array .long
  | 4 => .array .long
  | 5 => .array .long
  | _ => .array .long
theorem n_C : ∀ a, a < 7 → ∀ b, b < 7 → a ≠ b → (F_C a).2.1 ≠ (F_C b).2.1 := by decide +kernel
theorem t_C_ok : ∀ k, k < 7 → parseFieldDescriptor (F_C k).2.2.1 = some (t_C k) := by decide +kernel
def F_H : u_T := fun k => match k with
  | 0 => ("CurveDesk$Hand", "bytes", "[I", true)
  | _ => ("CurveDesk$Hand", "count", "I", false)
def t_H : Nat → FieldType := fun k => match k with
  | 0 => .array .int
  | _ => .int
theorem n_H : ∀ a, a < 2 → ∀ b, b < 2 → a ≠ b → (F_H a).2.1 ≠ (F_H b).2.1 := by decide +kernel
theorem t_H_ok : ∀ k, k < 2 → parseFieldDescriptor (F_H k).2.2.1 = some (t_H k) := by decide +kernel
def F_M : u_T := fun k => match k with
  | 0 => ("CurveDesk$Modulus", "prime", "[J", true)
  | 1 => ("CurveDesk$Modulus", "gap", "[J", true)
  | 2 => ("CurveDesk$Modulus", "primeLessTwo", "[J", true)
  | 3 => ("CurveDesk$Modulus", "wide", "[J", true)
  | 4 => ("CurveDesk$Modulus", "high", "[J", true)
  | _ => ("CurveDesk$Modulus", "raised", "[J", true)
def t_M : Nat → FieldType := fun k => match k with
  | 0 => .array .long
  | 1 => .array .long
  | 2 => .array .long
  | 3 => .array .long
  | 4 => .array .long
  | _ => .array .long
theorem n_M : ∀ a, a < 6 → ∀ b, b < 6 → a ≠ b → (F_M a).2.1 ≠ (F_M b).2.1 := by decide +kernel
theorem t_M_ok : ∀ k, k < 6 → parseFieldDescriptor (F_M k).2.2.1 = some (t_M k) := by decide +kernel
def F_P : u_T := fun k => match k with
  | 0 => ("CurveDesk$Point", "none", "Z", false)
  | 1 => ("CurveDesk$Point", "x", "[J", true)
  | _ => ("CurveDesk$Point", "y", "[J", true)
def t_P : Nat → FieldType := fun k => match k with
  | 0 => .boolean
  | 1 => .array .long
  | _ => .array .long
theorem n_P : ∀ a, a < 3 → ∀ b, b < 3 → a ≠ b → (F_P a).2.1 ≠ (F_P b).2.1 := by decide +kernel
theorem t_P_ok : ∀ k, k < 3 → parseFieldDescriptor (F_P k).2.2.1 = some (t_P k) := by decide +kernel
def F_D : u_T := fun k => match k with
  | 0 => ("CurveDesk", "registers", "[[J", true)
  | 1 => ("CurveDesk", "spots", "[LCurveDesk$Point;", true)
  | 2 => ("CurveDesk", "hand", "LCurveDesk$Hand;", true)
  | 3 => ("CurveDesk", "field", "LCurveDesk$Modulus;", true)
  | 4 => ("CurveDesk", "order", "LCurveDesk$Modulus;", true)
  | 5 => ("CurveDesk", "curve", "LCurveDesk$Curve;", true)
  | 6 => ("CurveDesk", "base", "LCurveDesk$Point;", true)
  | 7 => ("CurveDesk", "met", "LCurveDesk$Point;", true)
  | 8 => ("CurveDesk", "first", "[J", true)
  | _ => ("CurveDesk", "second", "[J", true)
def t_D : Nat → FieldType := fun k => match k with
  | 0 => .array (.array .long)
  | 1 => .array (.object "CurveDesk$Point")
  | 2 => .object "CurveDesk$Hand"
  | 3 => .object "CurveDesk$Modulus"
  | 4 => .object "CurveDesk$Modulus"
  | 5 => .object "CurveDesk$Curve"
  | 6 => .object "CurveDesk$Point"
  | 7 => .object "CurveDesk$Point"
  | 8 => .array .long
  | _ => .array .long
theorem n_D : ∀ a, a < 10 → ∀ b, b < 10 → a ≠ b → (F_D a).2.1 ≠ (F_D b).2.1 := by decide +kernel
theorem t_D_ok : ∀ k, k < 10 → parseFieldDescriptor (F_D k).2.2.1 = some (t_D k) := by decide +kernel
def F_R : u_T := fun k => match k with
  | 0 => ("CurveDeskModel", "rows", "[I", true)
  | 1 => ("CurveDeskModel", "product", "[J", true)
  | 2 => ("CurveDeskModel", "folded", "[J", true)
  | 3 => ("CurveDeskModel", "rest", "[I", true)
  | 4 => ("CurveDeskModel", "none", "[Z", true)
  | 5 => ("CurveDeskModel", "bytes", "[I", true)
  | _ => ("CurveDeskModel", "many", "I", false)
def t_R : Nat → FieldType := fun k => match k with
  | 0 => .array .int
  | 1 => .array .long
  | 2 => .array .long
  | 3 => .array .int
  | 4 => .array .boolean
  | 5 => .array .int
  | _ => .int
theorem n_R : ∀ a, a < 7 → ∀ b, b < 7 → a ≠ b → (F_R a).2.1 ≠ (F_R b).2.1 := by decide +kernel
theorem t_R_ok : ∀ k, k < 7 → parseFieldDescriptor (F_R k).2.2.1 = some (t_R k) := by decide +kernel
abbrev zcl : List vw_C := [(R_C, F_C, 7), (R_H, F_H, 2), (R_M, F_M, 6), (R_P, F_P, 3), (R_D, F_D, 10), (R_R, F_R, 7)]
abbrev b_D_init : ByteArray := prog_1_method_1_code
def y_D_init : MethodName := ⟨R_D, "<init>", "()V"⟩
abbrev b_H_init : ByteArray := prog_3_method_1_code
def y_H_init : MethodName := ⟨R_H, "<init>", "()V"⟩
abbrev b_M_init : ByteArray := prog_5_method_1_code
def y_M_init : MethodName := ⟨R_M, "<init>", "([J[J[J)V"⟩
abbrev b_C_init : ByteArray := prog_2_method_1_code
def y_C_init : MethodName := ⟨R_C, "<init>", "(LCurveDesk$Modulus;)V"⟩
abbrev b_P_init : ByteArray := prog_6_method_1_code
def y_P_init : MethodName := ⟨R_P, "<init>", "()V"⟩
abbrev b_P_become : ByteArray := prog_6_method_3_code
def y_P_become : MethodName := ⟨R_P, "become", "([J[J)V"⟩
abbrev b_L_copy : ByteArray := prog_4_method_2_code
def y_L_copy : MethodName := ⟨R_L, "copy", "([J[J)V"⟩
abbrev b_D_set : ByteArray := prog_1_method_2_code
def y_D_set : MethodName := ⟨R_D, "set", "(IJJJJ)Z"⟩
abbrev b_D_isRegister : ByteArray := prog_1_method_15_code
def y_D_isRegister : MethodName := ⟨R_D, "isRegister", "(I)Z"⟩
abbrev b_L_setLong : ByteArray := prog_4_method_3_code
def y_L_setLong : MethodName := ⟨R_L, "setLong", "([JIJ)V"⟩
abbrev b_D_get : ByteArray := prog_1_method_3_code
def y_D_get : MethodName := ⟨R_D, "get", "(II)J"⟩
abbrev b_L_longOf : ByteArray := prog_4_method_4_code
def y_L_longOf : MethodName := ⟨R_L, "longOf", "([JI)J"⟩
abbrev b_D_reduce : ByteArray := prog_1_method_4_code
def y_D_reduce : MethodName := ⟨R_D, "reduce", "(II)Z"⟩
abbrev b_D_isModulus : ByteArray := prog_1_method_18_code
def y_D_isModulus : MethodName := ⟨R_D, "isModulus", "(I)Z"⟩
abbrev b_D_modulusOf : ByteArray := prog_1_method_19_code
def y_D_modulusOf : MethodName := ⟨R_D, "modulusOf", "(I)LCurveDesk$Modulus;"⟩
abbrev b_M_bringBelow : ByteArray := prog_5_method_3_code
def y_M_bringBelow : MethodName := ⟨R_M, "bringBelow", "([J)V"⟩
abbrev b_M_isAbove : ByteArray := prog_5_method_2_code
def y_M_isAbove : MethodName := ⟨R_M, "isAbove", "([J)Z"⟩
abbrev b_L_isBelow : ByteArray := prog_4_method_9_code
def y_L_isBelow : MethodName := ⟨R_L, "isBelow", "([J[J)Z"⟩
abbrev b_L_subtract : ByteArray := prog_4_method_11_code
def y_L_subtract : MethodName := ⟨R_L, "subtract", "([J[J[J)J"⟩
abbrev b_D_work : ByteArray := prog_1_method_5_code
def y_D_work : MethodName := ⟨R_D, "work", "(IIIII)I"⟩
abbrev b_L_isZero : ByteArray := prog_4_method_5_code
def y_L_isZero : MethodName := ⟨R_L, "isZero", "([J)Z"⟩
abbrev b_L_areSame : ByteArray := prog_4_method_8_code
def y_L_areSame : MethodName := ⟨R_L, "areSame", "([J[J)Z"⟩
abbrev b_M_add : ByteArray := prog_5_method_4_code
def y_M_add : MethodName := ⟨R_M, "add", "([J[J[J)V"⟩
abbrev b_L_add : ByteArray := prog_4_method_10_code
def y_L_add : MethodName := ⟨R_L, "add", "([J[J[J)J"⟩
abbrev b_M_subtract : ByteArray := prog_5_method_5_code
def y_M_subtract : MethodName := ⟨R_M, "subtract", "([J[J[J)V"⟩
abbrev b_M_multiply : ByteArray := prog_5_method_6_code
def y_M_multiply : MethodName := ⟨R_M, "multiply", "([J[J[J)V"⟩
abbrev b_M_addProduct : ByteArray := prog_5_method_10_code
def y_M_addProduct : MethodName := ⟨R_M, "addProduct", "(J[JII)V"⟩
abbrev b_M_fold : ByteArray := prog_5_method_9_code
def y_M_fold : MethodName := ⟨R_M, "fold", "(I)V"⟩
abbrev b_M_invert : ByteArray := prog_5_method_7_code
def y_M_invert : MethodName := ⟨R_M, "invert", "([J[J)V"⟩
abbrev b_M_raise : ByteArray := prog_5_method_8_code
def y_M_raise : MethodName := ⟨R_M, "raise", "([J[J[J)V"⟩
abbrev b_L_hasBit : ByteArray := prog_4_method_7_code
def y_L_hasBit : MethodName := ⟨R_L, "hasBit", "([JI)Z"⟩
abbrev b_D_root : ByteArray := prog_1_method_6_code
def y_D_root : MethodName := ⟨R_D, "root", "(II)I"⟩
abbrev b_C_findEvenRoot : ByteArray := prog_2_method_4_code
def y_C_findEvenRoot : MethodName := ⟨R_C, "findEvenRoot", "([J[J)Z"⟩
abbrev b_L_isOdd : ByteArray := prog_4_method_6_code
def y_L_isOdd : MethodName := ⟨R_L, "isOdd", "([J)Z"⟩
abbrev b_D_spot : ByteArray := prog_1_method_7_code
def y_D_spot : MethodName := ⟨R_D, "spot", "(IIII)I"⟩
abbrev b_D_isSpot : ByteArray := prog_1_method_17_code
def y_D_isSpot : MethodName := ⟨R_D, "isSpot", "(I)Z"⟩
abbrev b_P_becomeNone : ByteArray := prog_6_method_2_code
def y_P_becomeNone : MethodName := ⟨R_P, "becomeNone", "()V"⟩
abbrev b_D_fillSpot : ByteArray := prog_1_method_21_code
def y_D_fillSpot : MethodName := ⟨R_D, "fillSpot", "(I[J[J)Z"⟩
abbrev b_C_isPoint : ByteArray := prog_2_method_2_code
def y_C_isPoint : MethodName := ⟨R_C, "isPoint", "([J[J)Z"⟩
abbrev b_C_findSquareOfY : ByteArray := prog_2_method_3_code
def y_C_findSquareOfY : MethodName := ⟨R_C, "findSquareOfY", "([J[J)V"⟩
abbrev b_D_sum : ByteArray := prog_1_method_8_code
def y_D_sum : MethodName := ⟨R_D, "sum", "(III)Z"⟩
abbrev b_C_addTwo : ByteArray := prog_2_method_5_code
def y_C_addTwo : MethodName := ⟨R_C, "addTwo", "(LCurveDesk$Point;LCurveDesk$Point;LCurveDesk$Point;)V"⟩
abbrev b_C_startSum : ByteArray := prog_2_method_7_code
def y_C_startSum : MethodName := ⟨R_C, "startSum", "()V"⟩
abbrev b_C_include : ByteArray := prog_2_method_8_code
def y_C_include : MethodName := ⟨R_C, "include", "(LCurveDesk$Point;)V"⟩
abbrev b_C_findDifferences : ByteArray := prog_2_method_9_code
def y_C_findDifferences : MethodName := ⟨R_C, "findDifferences", "(LCurveDesk$Point;)V"⟩
abbrev b_C_moveAlongLine : ByteArray := prog_2_method_10_code
def y_C_moveAlongLine : MethodName := ⟨R_C, "moveAlongLine", "()V"⟩
abbrev b_C_doubleSum : ByteArray := prog_2_method_11_code
def y_C_doubleSum : MethodName := ⟨R_C, "doubleSum", "()V"⟩
abbrev b_C_storeSum : ByteArray := prog_2_method_12_code
def y_C_storeSum : MethodName := ⟨R_C, "storeSum", "(LCurveDesk$Point;)V"⟩
abbrev b_D_times : ByteArray := prog_1_method_9_code
def y_D_times : MethodName := ⟨R_D, "times", "(III)Z"⟩
abbrev b_C_addMultiples : ByteArray := prog_2_method_6_code
def y_C_addMultiples : MethodName := ⟨R_C, "addMultiples", "(LCurveDesk$Point;[JLCurveDesk$Point;[JLCurveDesk$Point;)V"⟩
abbrev b_D_place : ByteArray := prog_1_method_10_code
def y_D_place : MethodName := ⟨R_D, "place", "(III)I"⟩
abbrev b_D_areTwoRegisters : ByteArray := prog_1_method_16_code
def y_D_areTwoRegisters : MethodName := ⟨R_D, "areTwoRegisters", "(II)Z"⟩
abbrev b_D_put : ByteArray := prog_1_method_11_code
def y_D_put : MethodName := ⟨R_D, "put", "(JI)Z"⟩
abbrev b_H_append : ByteArray := prog_3_method_2_code
def y_H_append : MethodName := ⟨R_H, "append", "(JI)Z"⟩
abbrev b_D_key : ByteArray := prog_1_method_12_code
def y_D_key : MethodName := ⟨R_D, "key", "(I)I"⟩
abbrev b_H_takeAll : ByteArray := prog_3_method_3_code
def y_H_takeAll : MethodName := ⟨R_H, "takeAll", "()I"⟩
abbrev b_D_fillFromShortKey : ByteArray := prog_1_method_22_code
def y_D_fillFromShortKey : MethodName := ⟨R_D, "fillFromShortKey", "(I)Z"⟩
abbrev b_H_firstByte : ByteArray := prog_3_method_4_code
def y_H_firstByte : MethodName := ⟨R_H, "firstByte", "()I"⟩
abbrev b_H_readNumber : ByteArray := prog_3_method_5_code
def y_H_readNumber : MethodName := ⟨R_H, "readNumber", "([JII)V"⟩
abbrev b_D_fillFromWholeKey : ByteArray := prog_1_method_23_code
def y_D_fillFromWholeKey : MethodName := ⟨R_D, "fillFromWholeKey", "(I)Z"⟩
abbrev b_D_signature : ByteArray := prog_1_method_13_code
def y_D_signature : MethodName := ⟨R_D, "signature", "(II)I"⟩
abbrev b_H_readSignature : ByteArray := prog_3_method_6_code
def y_H_readSignature : MethodName := ⟨R_H, "readSignature", "([J[JI)Z"⟩
abbrev b_H_readPart : ByteArray := prog_3_method_7_code
def y_H_readPart : MethodName := ⟨R_H, "readPart", "([JII)I"⟩
abbrev b_H_isWellWritten : ByteArray := prog_3_method_8_code
def y_H_isWellWritten : MethodName := ⟨R_H, "isWellWritten", "(II)Z"⟩
abbrev b_D_fits : ByteArray := prog_1_method_14_code
def y_D_fits : MethodName := ⟨R_D, "fits", "(IIII)I"⟩
abbrev b_D_isUnit : ByteArray := prog_1_method_20_code
def y_D_isUnit : MethodName := ⟨R_D, "isUnit", "([J)Z"⟩
abbrev b_R_init : ByteArray := prog_8_method_1_code
def y_R_init : MethodName := ⟨R_R, "<init>", "()V"⟩
abbrev b_R_write : ByteArray := prog_8_method_3_code
def y_R_write : MethodName := ⟨R_R, "write", "(IJJJJ)V"⟩
abbrev b_R_nothing : ByteArray := prog_8_method_5_code
def y_R_nothing : MethodName := ⟨R_R, "nothing", "(I)V"⟩
abbrev b_R_wordOf : ByteArray := prog_8_method_2_code
def y_R_wordOf : MethodName := ⟨R_R, "wordOf", "(IJJJJ)J"⟩
abbrev b_R_set : ByteArray := prog_8_method_32_code
def y_R_set : MethodName := ⟨R_R, "set", "(IJJJJ)Z"⟩
abbrev b_R_isRegister : ByteArray := prog_8_method_29_code
def y_R_isRegister : MethodName := ⟨R_R, "isRegister", "(I)Z"⟩
abbrev b_R_get : ByteArray := prog_8_method_33_code
def y_R_get : MethodName := ⟨R_R, "get", "(II)J"⟩
abbrev b_R_bit : ByteArray := prog_8_method_10_code
def y_R_bit : MethodName := ⟨R_R, "bit", "(II)Z"⟩
abbrev b_R_reduce : ByteArray := prog_8_method_34_code
def y_R_reduce : MethodName := ⟨R_R, "reduce", "(II)Z"⟩
abbrev b_R_isModulus : ByteArray := prog_8_method_31_code
def y_R_isModulus : MethodName := ⟨R_R, "isModulus", "(I)Z"⟩
abbrev b_R_multiply : ByteArray := prog_8_method_16_code
def y_R_multiply : MethodName := ⟨R_R, "multiply", "(IIII)V"⟩
abbrev b_R_carry : ByteArray := prog_8_method_13_code
def y_R_carry : MethodName := ⟨R_R, "carry", "()V"⟩
abbrev b_R_isWide : ByteArray := prog_8_method_14_code
def y_R_isWide : MethodName := ⟨R_R, "isWide", "()Z"⟩
abbrev b_R_fold : ByteArray := prog_8_method_15_code
def y_R_fold : MethodName := ⟨R_R, "fold", "(I)V"⟩
abbrev b_R_compare : ByteArray := prog_8_method_6_code
def y_R_compare : MethodName := ⟨R_R, "compare", "(II)I"⟩
abbrev b_R_add : ByteArray := prog_8_method_8_code
def y_R_add : MethodName := ⟨R_R, "add", "(III)V"⟩
abbrev b_R_work : ByteArray := prog_8_method_35_code
def y_R_work : MethodName := ⟨R_R, "work", "(IIIII)I"⟩
abbrev b_R_isNothing : ByteArray := prog_8_method_7_code
def y_R_isNothing : MethodName := ⟨R_R, "isNothing", "(I)Z"⟩
abbrev b_R_plus : ByteArray := prog_8_method_11_code
def y_R_plus : MethodName := ⟨R_R, "plus", "(IIII)V"⟩
abbrev b_R_copy : ByteArray := prog_8_method_4_code
def y_R_copy : MethodName := ⟨R_R, "copy", "(II)V"⟩
abbrev b_R_minus : ByteArray := prog_8_method_12_code
def y_R_minus : MethodName := ⟨R_R, "minus", "(IIII)V"⟩
abbrev b_R_divide : ByteArray := prog_8_method_18_code
def y_R_divide : MethodName := ⟨R_R, "divide", "(IIII)V"⟩
abbrev b_R_power : ByteArray := prog_8_method_17_code
def y_R_power : MethodName := ⟨R_R, "power", "(III)V"⟩
abbrev b_R_root : ByteArray := prog_8_method_36_code
def y_R_root : MethodName := ⟨R_R, "root", "(II)I"⟩
abbrev b_R_roots : ByteArray := prog_8_method_19_code
def y_R_roots : MethodName := ⟨R_R, "roots", "(II)Z"⟩
abbrev b_R_isOdd : ByteArray := prog_8_method_9_code
def y_R_isOdd : MethodName := ⟨R_R, "isOdd", "(I)Z"⟩
abbrev b_R_spot : ByteArray := prog_8_method_37_code
def y_R_spot : MethodName := ⟨R_R, "spot", "(IIII)I"⟩
abbrev b_R_isSpot : ByteArray := prog_8_method_30_code
def y_R_isSpot : MethodName := ⟨R_R, "isSpot", "(I)Z"⟩
abbrev b_R_isPoint : ByteArray := prog_8_method_27_code
def y_R_isPoint : MethodName := ⟨R_R, "isPoint", "(II)Z"⟩
abbrev b_R_curve : ByteArray := prog_8_method_28_code
def y_R_curve : MethodName := ⟨R_R, "curve", "(II)V"⟩
abbrev b_R_sum : ByteArray := prog_8_method_38_code
def y_R_sum : MethodName := ⟨R_R, "sum", "(III)Z"⟩
abbrev b_R_load : ByteArray := prog_8_method_22_code
def y_R_load : MethodName := ⟨R_R, "load", "(II)V"⟩
abbrev b_R_join : ByteArray := prog_8_method_25_code
def y_R_join : MethodName := ⟨R_R, "join", "(II)V"⟩
abbrev b_R_isNone : ByteArray := prog_8_method_20_code
def y_R_isNone : MethodName := ⟨R_R, "isNone", "(I)Z"⟩
abbrev b_R_copyPoint : ByteArray := prog_8_method_21_code
def y_R_copyPoint : MethodName := ⟨R_R, "copyPoint", "(II)V"⟩
abbrev b_R_twice : ByteArray := prog_8_method_24_code
def y_R_twice : MethodName := ⟨R_R, "twice", "(I)V"⟩
abbrev b_R_store : ByteArray := prog_8_method_23_code
def y_R_store : MethodName := ⟨R_R, "store", "(II)V"⟩
abbrev b_R_times : ByteArray := prog_8_method_39_code
def y_R_times : MethodName := ⟨R_R, "times", "(III)Z"⟩
abbrev b_R_multiple : ByteArray := prog_8_method_26_code
def y_R_multiple : MethodName := ⟨R_R, "multiple", "(I)V"⟩
abbrev b_R_place : ByteArray := prog_8_method_40_code
def y_R_place : MethodName := ⟨R_R, "place", "(III)I"⟩
abbrev b_R_put : ByteArray := prog_8_method_41_code
def y_R_put : MethodName := ⟨R_R, "put", "(JI)Z"⟩
abbrev b_R_key : ByteArray := prog_8_method_43_code
def y_R_key : MethodName := ⟨R_R, "key", "(I)I"⟩
abbrev b_R_read : ByteArray := prog_8_method_42_code
def y_R_read : MethodName := ⟨R_R, "read", "(III)V"⟩
abbrev b_R_signature : ByteArray := prog_8_method_45_code
def y_R_signature : MethodName := ⟨R_R, "signature", "(II)I"⟩
abbrev b_R_numberEnd : ByteArray := prog_8_method_44_code
def y_R_numberEnd : MethodName := ⟨R_R, "numberEnd", "(II)I"⟩
abbrev b_R_fits : ByteArray := prog_8_method_46_code
def y_R_fits : MethodName := ⟨R_R, "fits", "(IIII)I"⟩
def zT : List Cond := lw_tbl.filter goodWord
theorem zT_in {w : Cond} (i : Nat) (h : tables_1[i]? = some w) (g : goodWord w = true) : w ∈ zT := List.mem_filter.mpr ⟨List.mem_append_right _ (List.mem_of_getElem? h), g⟩
theorem zT_sel {w : Cond} (i : Nat) (h : (k2_sels lw_privs)[i]? = some w) (g : goodWord w = true) : w ∈ zT := List.mem_filter.mpr ⟨List.mem_append_left _ (List.mem_of_getElem? h), g⟩
theorem zT_good : ∀ w ∈ zT, w ∈ zT ∧ ((w.onTables && w.keeps) = true ∨ ∃ ty, w = .arrayClass ty) := fun w h => ⟨h, good_of_word (List.mem_filter.mp h).2⟩
/-- the words of a method: its own code, and all the good ones of the tables -/
def zW (y : MethodName) (b : ByteArray) (n : Nat) (r : Option FieldType) : List Cond := .code y b n r :: zT
end
section
/-! the words, by name -/
theorem ki_W : Cond.initialized R_W ∈ zT := zT_in 0 (by decide +kernel) rfl
theorem ki_D : Cond.initialized R_D ∈ zT := zT_in 1 (by decide +kernel) rfl
theorem ki_H : Cond.initialized R_H ∈ zT := zT_in 2 (by decide +kernel) rfl
theorem ki_M : Cond.initialized R_M ∈ zT := zT_in 3 (by decide +kernel) rfl
theorem ki_C : Cond.initialized R_C ∈ zT := zT_in 4 (by decide +kernel) rfl
theorem ki_P : Cond.initialized R_P ∈ zT := zT_in 5 (by decide +kernel) rfl
theorem ki_L : Cond.initialized R_L ∈ zT := zT_in 6 (by decide +kernel) rfl
theorem ki_Y : Cond.initialized "java/lang/System" ∈ zT := zT_in 7 (by decide +kernel) rfl
theorem ki_R : Cond.initialized R_R ∈ zT := zT_in 8 (by decide +kernel) rfl
theorem ka_W_7 : Cond.classLink R_W 7 "CurveDesk" ∈ zT := zT_in 9 (by decide +kernel) rfl
theorem kz_D : Cond.instantiable R_D 10 ∈ zT := zT_in 10 (by decide +kernel) rfl
theorem km_W_9 : Cond.methodLink R_W 9 y_D_init ∈ zT := zT_in 11 (by decide +kernel) rfl
theorem kv_D_init : Cond.instanceMethod y_D_init ∈ zT := zT_in 12 (by decide +kernel) rfl
theorem kc_D_init : Cond.code y_D_init b_D_init 2 (Option.none : Option FieldType) ∈ zT := zT_in 13 (by decide +kernel) rfl
theorem km_D_1 : Cond.methodLink R_D 1 (⟨"java/lang/Object", "<init>", "()V"⟩ : MethodName) ∈ zT := zT_in 14 (by decide +kernel) rfl
theorem kv_O_init : Cond.instanceMethod (⟨"java/lang/Object", "<init>", "()V"⟩ : MethodName) ∈ zT := zT_in 15 (by decide +kernel) rfl
theorem kc_O_init : Cond.code (⟨"java/lang/Object", "<init>", "()V"⟩ : MethodName) object_method_1_code 1 (Option.none : Option FieldType) ∈ zT := zT_in 16 (by decide +kernel) rfl
theorem ka_D_9 : Cond.classLink R_D 9 "[[J" ∈ zT := zT_in 17 (by decide +kernel) rfl
theorem ka_D_14 : Cond.classLink R_D 14 "CurveDesk$Point" ∈ zT := zT_in 19 (by decide +kernel) rfl
theorem ka_D_20 : Cond.classLink R_D 20 "CurveDesk$Hand" ∈ zT := zT_in 21 (by decide +kernel) rfl
theorem kz_H : Cond.instantiable R_H 2 ∈ zT := zT_in 22 (by decide +kernel) rfl
theorem kv_H_init : Cond.instanceMethod y_H_init ∈ zT := zT_in 24 (by decide +kernel) rfl
theorem kc_H_init : Cond.code y_H_init b_H_init 1 (Option.none : Option FieldType) ∈ zT := zT_in 25 (by decide +kernel) rfl
theorem km_H_3 : Cond.methodLink R_H 3 (⟨"java/lang/Object", "<init>", "()V"⟩ : MethodName) ∈ zT := zT_in 26 (by decide +kernel) rfl
theorem kf_H_9 : Cond.fieldLink R_H 9 "CurveDesk$Hand" "bytes" "[I" ∈ zT := zT_in 27 (by decide +kernel) rfl
theorem kf_H_15 : Cond.fieldLink R_H 15 "CurveDesk$Hand" "count" "I" ∈ zT := zT_in 28 (by decide +kernel) rfl
theorem kA_long : Cond.arrayClass FieldType.long ∈ zT := zT_in 34 (by decide +kernel) rfl
theorem kA_int : Cond.arrayClass FieldType.int ∈ zT := zT_in 35 (by decide +kernel) rfl
theorem ka_D_27 : Cond.classLink R_D 27 "CurveDesk$Modulus" ∈ zT := zT_in 36 (by decide +kernel) rfl
theorem kz_M : Cond.instantiable R_M 6 ∈ zT := zT_in 37 (by decide +kernel) rfl
theorem kf_D_29 : Cond.fieldLink R_D 29 "CurveDesk" "P" "[J" ∈ zT := zT_in 38 (by decide +kernel) rfl
theorem kf_D_33 : Cond.fieldLink R_D 33 "CurveDesk" "P_GAP" "[J" ∈ zT := zT_in 40 (by decide +kernel) rfl
theorem kf_D_36 : Cond.fieldLink R_D 36 "CurveDesk" "P_LESS_TWO" "[J" ∈ zT := zT_in 42 (by decide +kernel) rfl
theorem km_D_39 : Cond.methodLink R_D 39 y_M_init ∈ zT := zT_in 44 (by decide +kernel) rfl
theorem kv_M_init : Cond.instanceMethod y_M_init ∈ zT := zT_in 45 (by decide +kernel) rfl
theorem kc_M_init : Cond.code y_M_init b_M_init 4 (Option.none : Option FieldType) ∈ zT := zT_in 46 (by decide +kernel) rfl
theorem km_M_3 : Cond.methodLink R_M 3 (⟨"java/lang/Object", "<init>", "()V"⟩ : MethodName) ∈ zT := zT_in 47 (by decide +kernel) rfl
theorem kf_M_21 : Cond.fieldLink R_M 21 "CurveDesk$Modulus" "prime" "[J" ∈ zT := zT_in 48 (by decide +kernel) rfl
theorem kf_M_24 : Cond.fieldLink R_M 24 "CurveDesk$Modulus" "gap" "[J" ∈ zT := zT_in 49 (by decide +kernel) rfl
theorem kf_M_27 : Cond.fieldLink R_M 27 "CurveDesk$Modulus" "primeLessTwo" "[J" ∈ zT := zT_in 50 (by decide +kernel) rfl
theorem kf_M_9 : Cond.fieldLink R_M 9 "CurveDesk$Modulus" "wide" "[J" ∈ zT := zT_in 51 (by decide +kernel) rfl
theorem kf_M_15 : Cond.fieldLink R_M 15 "CurveDesk$Modulus" "high" "[J" ∈ zT := zT_in 52 (by decide +kernel) rfl
theorem kf_M_18 : Cond.fieldLink R_M 18 "CurveDesk$Modulus" "raised" "[J" ∈ zT := zT_in 53 (by decide +kernel) rfl
theorem kf_D_46 : Cond.fieldLink R_D 46 "CurveDesk" "N" "[J" ∈ zT := zT_in 67 (by decide +kernel) rfl
theorem kf_D_49 : Cond.fieldLink R_D 49 "CurveDesk" "N_GAP" "[J" ∈ zT := zT_in 69 (by decide +kernel) rfl
theorem kf_D_52 : Cond.fieldLink R_D 52 "CurveDesk" "N_LESS_TWO" "[J" ∈ zT := zT_in 71 (by decide +kernel) rfl
theorem ka_D_58 : Cond.classLink R_D 58 "CurveDesk$Curve" ∈ zT := zT_in 73 (by decide +kernel) rfl
theorem kz_C : Cond.instantiable R_C 7 ∈ zT := zT_in 74 (by decide +kernel) rfl
theorem km_D_60 : Cond.methodLink R_D 60 y_C_init ∈ zT := zT_in 75 (by decide +kernel) rfl
theorem kv_C_init : Cond.instanceMethod y_C_init ∈ zT := zT_in 76 (by decide +kernel) rfl
theorem kc_C_init : Cond.code y_C_init b_C_init 2 (Option.none : Option FieldType) ∈ zT := zT_in 77 (by decide +kernel) rfl
theorem km_C_3 : Cond.methodLink R_C 3 (⟨"java/lang/Object", "<init>", "()V"⟩ : MethodName) ∈ zT := zT_in 78 (by decide +kernel) rfl
theorem kf_C_30 : Cond.fieldLink R_C 30 "CurveDesk$Curve" "field" "LCurveDesk$Modulus;" ∈ zT := zT_in 79 (by decide +kernel) rfl
theorem kf_C_9 : Cond.fieldLink R_C 9 "CurveDesk$Curve" "x" "[J" ∈ zT := zT_in 80 (by decide +kernel) rfl
theorem kf_C_15 : Cond.fieldLink R_C 15 "CurveDesk$Curve" "y" "[J" ∈ zT := zT_in 81 (by decide +kernel) rfl
theorem kf_C_18 : Cond.fieldLink R_C 18 "CurveDesk$Curve" "z" "[J" ∈ zT := zT_in 82 (by decide +kernel) rfl
theorem kf_C_21 : Cond.fieldLink R_C 21 "CurveDesk$Curve" "a" "[J" ∈ zT := zT_in 83 (by decide +kernel) rfl
theorem kf_C_24 : Cond.fieldLink R_C 24 "CurveDesk$Curve" "b" "[J" ∈ zT := zT_in 84 (by decide +kernel) rfl
theorem kf_C_27 : Cond.fieldLink R_C 27 "CurveDesk$Curve" "c" "[J" ∈ zT := zT_in 85 (by decide +kernel) rfl
theorem kz_P : Cond.instantiable R_P 3 ∈ zT := zT_in 101 (by decide +kernel) rfl
theorem kv_P_init : Cond.instanceMethod y_P_init ∈ zT := zT_in 103 (by decide +kernel) rfl
theorem kc_P_init : Cond.code y_P_init b_P_init 1 (Option.none : Option FieldType) ∈ zT := zT_in 104 (by decide +kernel) rfl
theorem km_P_3 : Cond.methodLink R_P 3 (⟨"java/lang/Object", "<init>", "()V"⟩ : MethodName) ∈ zT := zT_in 105 (by decide +kernel) rfl
theorem kf_P_9 : Cond.fieldLink R_P 9 "CurveDesk$Point" "none" "Z" ∈ zT := zT_in 106 (by decide +kernel) rfl
theorem kf_C_95 : Cond.fieldLink R_C 95 "CurveDesk$Point" "none" "Z" ∈ zT := zT_in 107 (by decide +kernel) rfl
theorem kf_D_167 : Cond.fieldLink R_D 167 "CurveDesk$Point" "none" "Z" ∈ zT := zT_in 108 (by decide +kernel) rfl
theorem kf_P_15 : Cond.fieldLink R_P 15 "CurveDesk$Point" "x" "[J" ∈ zT := zT_in 109 (by decide +kernel) rfl
theorem kf_C_104 : Cond.fieldLink R_C 104 "CurveDesk$Point" "x" "[J" ∈ zT := zT_in 110 (by decide +kernel) rfl
theorem kf_D_171 : Cond.fieldLink R_D 171 "CurveDesk$Point" "x" "[J" ∈ zT := zT_in 111 (by decide +kernel) rfl
theorem kf_P_19 : Cond.fieldLink R_P 19 "CurveDesk$Point" "y" "[J" ∈ zT := zT_in 112 (by decide +kernel) rfl
theorem kf_C_105 : Cond.fieldLink R_C 105 "CurveDesk$Point" "y" "[J" ∈ zT := zT_in 113 (by decide +kernel) rfl
theorem kf_D_174 : Cond.fieldLink R_D 174 "CurveDesk$Point" "y" "[J" ∈ zT := zT_in 114 (by decide +kernel) rfl
theorem kf_D_81 : Cond.fieldLink R_D 81 "CurveDesk" "BASE_X" "[J" ∈ zT := zT_in 122 (by decide +kernel) rfl
theorem kf_D_84 : Cond.fieldLink R_D 84 "CurveDesk" "BASE_Y" "[J" ∈ zT := zT_in 124 (by decide +kernel) rfl
theorem km_D_87 : Cond.methodLink R_D 87 y_P_become ∈ zT := zT_in 126 (by decide +kernel) rfl
theorem kv_P_become : Cond.instanceMethod y_P_become ∈ zT := zT_in 127 (by decide +kernel) rfl
theorem kx_P_become : Cond.selects R_P y_P_become y_P_become ∈ zT := zT_in 128 (by decide +kernel) rfl
theorem kc_P_become : Cond.code y_P_become b_P_become 3 (Option.none : Option FieldType) ∈ zT := zT_in 129 (by decide +kernel) rfl
theorem km_P_22 : Cond.methodLink R_P 22 y_L_copy ∈ zT := zT_in 130 (by decide +kernel) rfl
theorem ks_L_copy : Cond.static y_L_copy ∈ zT := zT_in 131 (by decide +kernel) rfl
theorem kc_L_copy : Cond.code y_L_copy b_L_copy 2 (Option.none : Option FieldType) ∈ zT := zT_in 132 (by decide +kernel) rfl
theorem km_L_9 : Cond.methodLink R_L 9 (⟨"java/lang/System", "arraycopy", "(Ljava/lang/Object;ILjava/lang/Object;II)V"⟩ : MethodName) ∈ zT := zT_in 133 (by decide +kernel) rfl
theorem ks_Y_arraycopy : Cond.static (⟨"java/lang/System", "arraycopy", "(Ljava/lang/Object;ILjava/lang/Object;II)V"⟩ : MethodName) ∈ zT := zT_in 134 (by decide +kernel) rfl
theorem kY_native : Cond.native (⟨"java/lang/System", "arraycopy", "(Ljava/lang/Object;ILjava/lang/Object;II)V"⟩ : MethodName) ∈ zT := zT_in 135 (by decide +kernel) rfl
theorem kf_D_11 : Cond.fieldLink R_D 11 "CurveDesk" "registers" "[[J" ∈ zT := zT_in 136 (by decide +kernel) rfl
theorem kf_D_16 : Cond.fieldLink R_D 16 "CurveDesk" "spots" "[LCurveDesk$Point;" ∈ zT := zT_in 137 (by decide +kernel) rfl
theorem kf_D_23 : Cond.fieldLink R_D 23 "CurveDesk" "hand" "LCurveDesk$Hand;" ∈ zT := zT_in 138 (by decide +kernel) rfl
theorem kf_D_42 : Cond.fieldLink R_D 42 "CurveDesk" "field" "LCurveDesk$Modulus;" ∈ zT := zT_in 139 (by decide +kernel) rfl
theorem kf_D_55 : Cond.fieldLink R_D 55 "CurveDesk" "order" "LCurveDesk$Modulus;" ∈ zT := zT_in 140 (by decide +kernel) rfl
theorem kf_D_63 : Cond.fieldLink R_D 63 "CurveDesk" "curve" "LCurveDesk$Curve;" ∈ zT := zT_in 141 (by decide +kernel) rfl
theorem kf_D_68 : Cond.fieldLink R_D 68 "CurveDesk" "base" "LCurveDesk$Point;" ∈ zT := zT_in 142 (by decide +kernel) rfl
theorem kf_D_72 : Cond.fieldLink R_D 72 "CurveDesk" "met" "LCurveDesk$Point;" ∈ zT := zT_in 143 (by decide +kernel) rfl
theorem kf_D_75 : Cond.fieldLink R_D 75 "CurveDesk" "first" "[J" ∈ zT := zT_in 144 (by decide +kernel) rfl
theorem kf_D_78 : Cond.fieldLink R_D 78 "CurveDesk" "second" "[J" ∈ zT := zT_in 145 (by decide +kernel) rfl
theorem km_W_15 : Cond.methodLink R_W 15 y_D_set ∈ zT := zT_in 167 (by decide +kernel) rfl
theorem kv_D_set : Cond.instanceMethod y_D_set ∈ zT := zT_in 168 (by decide +kernel) rfl
theorem kx_D_set : Cond.selects R_D y_D_set y_D_set ∈ zT := zT_in 169 (by decide +kernel) rfl
theorem kc_D_set : Cond.code y_D_set b_D_set 11 (Option.some FieldType.boolean) ∈ zT := zT_in 170 (by decide +kernel) rfl
theorem km_D_91 : Cond.methodLink R_D 91 y_D_isRegister ∈ zT := zT_in 171 (by decide +kernel) rfl
theorem ks_D_isRegister : Cond.static y_D_isRegister ∈ zT := zT_in 172 (by decide +kernel) rfl
theorem kc_D_isRegister : Cond.code y_D_isRegister b_D_isRegister 1 (Option.some FieldType.boolean) ∈ zT := zT_in 173 (by decide +kernel) rfl
theorem km_D_95 : Cond.methodLink R_D 95 y_L_setLong ∈ zT := zT_in 174 (by decide +kernel) rfl
theorem ks_L_setLong : Cond.static y_L_setLong ∈ zT := zT_in 175 (by decide +kernel) rfl
theorem kc_L_setLong : Cond.code y_L_setLong b_L_setLong 5 (Option.none : Option FieldType) ∈ zT := zT_in 176 (by decide +kernel) rfl
theorem kl_L_15 : Cond.constantLong R_L 15 (4294967295 : Int64) ∈ zT := zT_in 177 (by decide +kernel) rfl
theorem km_W_20 : Cond.methodLink R_W 20 y_D_get ∈ zT := zT_in 178 (by decide +kernel) rfl
theorem kv_D_get : Cond.instanceMethod y_D_get ∈ zT := zT_in 179 (by decide +kernel) rfl
theorem kx_D_get : Cond.selects R_D y_D_get y_D_get ∈ zT := zT_in 180 (by decide +kernel) rfl
theorem kc_D_get : Cond.code y_D_get b_D_get 3 (Option.some FieldType.long) ∈ zT := zT_in 181 (by decide +kernel) rfl
theorem km_D_101 : Cond.methodLink R_D 101 y_L_longOf ∈ zT := zT_in 182 (by decide +kernel) rfl
theorem ks_L_longOf : Cond.static y_L_longOf ∈ zT := zT_in 183 (by decide +kernel) rfl
theorem kc_L_longOf : Cond.code y_L_longOf b_L_longOf 3 (Option.some FieldType.long) ∈ zT := zT_in 184 (by decide +kernel) rfl
theorem km_W_25 : Cond.methodLink R_W 25 y_D_reduce ∈ zT := zT_in 185 (by decide +kernel) rfl
theorem kv_D_reduce : Cond.instanceMethod y_D_reduce ∈ zT := zT_in 186 (by decide +kernel) rfl
theorem kx_D_reduce : Cond.selects R_D y_D_reduce y_D_reduce ∈ zT := zT_in 187 (by decide +kernel) rfl
theorem kc_D_reduce : Cond.code y_D_reduce b_D_reduce 3 (Option.some FieldType.boolean) ∈ zT := zT_in 188 (by decide +kernel) rfl
theorem km_D_105 : Cond.methodLink R_D 105 y_D_isModulus ∈ zT := zT_in 189 (by decide +kernel) rfl
theorem ks_D_isModulus : Cond.static y_D_isModulus ∈ zT := zT_in 190 (by decide +kernel) rfl
theorem kc_D_isModulus : Cond.code y_D_isModulus b_D_isModulus 1 (Option.some FieldType.boolean) ∈ zT := zT_in 191 (by decide +kernel) rfl
theorem km_D_108 : Cond.methodLink R_D 108 y_D_modulusOf ∈ zT := zT_in 192 (by decide +kernel) rfl
theorem kv_D_modulusOf : Cond.instanceMethod y_D_modulusOf ∈ zT := zT_in 194 (by decide +kernel) rfl
theorem kc_D_modulusOf : Cond.code y_D_modulusOf b_D_modulusOf 2 (Option.some (FieldType.object "CurveDesk$Modulus")) ∈ zT := zT_in 195 (by decide +kernel) rfl
theorem km_D_112 : Cond.methodLink R_D 112 y_M_bringBelow ∈ zT := zT_in 196 (by decide +kernel) rfl
theorem kv_M_bringBelow : Cond.instanceMethod y_M_bringBelow ∈ zT := zT_in 197 (by decide +kernel) rfl
theorem kx_M_bringBelow : Cond.selects R_M y_M_bringBelow y_M_bringBelow ∈ zT := zT_in 198 (by decide +kernel) rfl
theorem kc_M_bringBelow : Cond.code y_M_bringBelow b_M_bringBelow 2 (Option.none : Option FieldType) ∈ zT := zT_in 199 (by decide +kernel) rfl
theorem km_M_36 : Cond.methodLink R_M 36 y_M_isAbove ∈ zT := zT_in 200 (by decide +kernel) rfl
theorem kv_M_isAbove : Cond.instanceMethod y_M_isAbove ∈ zT := zT_in 201 (by decide +kernel) rfl
theorem kx_M_isAbove : Cond.selects R_M y_M_isAbove y_M_isAbove ∈ zT := zT_in 202 (by decide +kernel) rfl
theorem kc_M_isAbove : Cond.code y_M_isAbove b_M_isAbove 2 (Option.some FieldType.boolean) ∈ zT := zT_in 203 (by decide +kernel) rfl
theorem km_M_30 : Cond.methodLink R_M 30 y_L_isBelow ∈ zT := zT_in 204 (by decide +kernel) rfl
theorem ks_L_isBelow : Cond.static y_L_isBelow ∈ zT := zT_in 205 (by decide +kernel) rfl
theorem kc_L_isBelow : Cond.code y_L_isBelow b_L_isBelow 3 (Option.some FieldType.boolean) ∈ zT := zT_in 206 (by decide +kernel) rfl
theorem km_M_40 : Cond.methodLink R_M 40 y_L_subtract ∈ zT := zT_in 207 (by decide +kernel) rfl
theorem ks_L_subtract : Cond.static y_L_subtract ∈ zT := zT_in 208 (by decide +kernel) rfl
theorem kc_L_subtract : Cond.code y_L_subtract b_L_subtract 8 (Option.some FieldType.long) ∈ zT := zT_in 209 (by decide +kernel) rfl
theorem km_W_30 : Cond.methodLink R_W 30 y_D_work ∈ zT := zT_in 210 (by decide +kernel) rfl
theorem kv_D_work : Cond.instanceMethod y_D_work ∈ zT := zT_in 211 (by decide +kernel) rfl
theorem kx_D_work : Cond.selects R_D y_D_work y_D_work ∈ zT := zT_in 212 (by decide +kernel) rfl
theorem kc_D_work : Cond.code y_D_work b_D_work 9 (Option.some FieldType.int) ∈ zT := zT_in 213 (by decide +kernel) rfl
theorem km_D_116 : Cond.methodLink R_D 116 y_M_isAbove ∈ zT := zT_in 214 (by decide +kernel) rfl
theorem km_D_120 : Cond.methodLink R_D 120 y_L_isZero ∈ zT := zT_in 215 (by decide +kernel) rfl
theorem ks_L_isZero : Cond.static y_L_isZero ∈ zT := zT_in 216 (by decide +kernel) rfl
theorem kc_L_isZero : Cond.code y_L_isZero b_L_isZero 1 (Option.some FieldType.boolean) ∈ zT := zT_in 217 (by decide +kernel) rfl
theorem km_L_21 : Cond.methodLink R_L 21 y_L_areSame ∈ zT := zT_in 220 (by decide +kernel) rfl
theorem ks_L_areSame : Cond.static y_L_areSame ∈ zT := zT_in 221 (by decide +kernel) rfl
theorem kc_L_areSame : Cond.code y_L_areSame b_L_areSame 3 (Option.some FieldType.boolean) ∈ zT := zT_in 222 (by decide +kernel) rfl
theorem km_D_123 : Cond.methodLink R_D 123 y_M_add ∈ zT := zT_in 223 (by decide +kernel) rfl
theorem kv_M_add : Cond.instanceMethod y_M_add ∈ zT := zT_in 224 (by decide +kernel) rfl
theorem kx_M_add : Cond.selects R_M y_M_add y_M_add ∈ zT := zT_in 225 (by decide +kernel) rfl
theorem kc_M_add : Cond.code y_M_add b_M_add 6 (Option.none : Option FieldType) ∈ zT := zT_in 226 (by decide +kernel) rfl
theorem km_M_44 : Cond.methodLink R_M 44 y_L_add ∈ zT := zT_in 227 (by decide +kernel) rfl
theorem ks_L_add : Cond.static y_L_add ∈ zT := zT_in 228 (by decide +kernel) rfl
theorem kc_L_add : Cond.code y_L_add b_L_add 8 (Option.some FieldType.long) ∈ zT := zT_in 229 (by decide +kernel) rfl
theorem km_D_126 : Cond.methodLink R_D 126 y_M_subtract ∈ zT := zT_in 230 (by decide +kernel) rfl
theorem kv_M_subtract : Cond.instanceMethod y_M_subtract ∈ zT := zT_in 231 (by decide +kernel) rfl
theorem kx_M_subtract : Cond.selects R_M y_M_subtract y_M_subtract ∈ zT := zT_in 232 (by decide +kernel) rfl
theorem kc_M_subtract : Cond.code y_M_subtract b_M_subtract 6 (Option.none : Option FieldType) ∈ zT := zT_in 233 (by decide +kernel) rfl
theorem km_D_129 : Cond.methodLink R_D 129 y_M_multiply ∈ zT := zT_in 234 (by decide +kernel) rfl
theorem kv_M_multiply : Cond.instanceMethod y_M_multiply ∈ zT := zT_in 235 (by decide +kernel) rfl
theorem kx_M_multiply : Cond.selects R_M y_M_multiply y_M_multiply ∈ zT := zT_in 236 (by decide +kernel) rfl
theorem kc_M_multiply : Cond.code y_M_multiply b_M_multiply 5 (Option.none : Option FieldType) ∈ zT := zT_in 237 (by decide +kernel) rfl
theorem km_M_47 : Cond.methodLink R_M 47 y_M_addProduct ∈ zT := zT_in 238 (by decide +kernel) rfl
theorem kv_M_addProduct : Cond.instanceMethod y_M_addProduct ∈ zT := zT_in 240 (by decide +kernel) rfl
theorem kc_M_addProduct : Cond.code y_M_addProduct b_M_addProduct 12 (Option.none : Option FieldType) ∈ zT := zT_in 241 (by decide +kernel) rfl
theorem kl_M_77 : Cond.constantLong R_M 77 (4294967295 : Int64) ∈ zT := zT_in 242 (by decide +kernel) rfl
theorem km_M_51 : Cond.methodLink R_M 51 y_M_fold ∈ zT := zT_in 243 (by decide +kernel) rfl
theorem kv_M_fold : Cond.instanceMethod y_M_fold ∈ zT := zT_in 245 (by decide +kernel) rfl
theorem kc_M_fold : Cond.code y_M_fold b_M_fold 3 (Option.none : Option FieldType) ∈ zT := zT_in 246 (by decide +kernel) rfl
theorem km_M_55 : Cond.methodLink R_M 55 y_L_copy ∈ zT := zT_in 247 (by decide +kernel) rfl
theorem km_M_59 : Cond.methodLink R_M 59 y_M_bringBelow ∈ zT := zT_in 248 (by decide +kernel) rfl
theorem km_D_132 : Cond.methodLink R_D 132 y_M_invert ∈ zT := zT_in 249 (by decide +kernel) rfl
theorem kv_M_invert : Cond.instanceMethod y_M_invert ∈ zT := zT_in 250 (by decide +kernel) rfl
theorem kx_M_invert : Cond.selects R_M y_M_invert y_M_invert ∈ zT := zT_in 251 (by decide +kernel) rfl
theorem kc_M_invert : Cond.code y_M_invert b_M_invert 3 (Option.none : Option FieldType) ∈ zT := zT_in 252 (by decide +kernel) rfl
theorem km_M_63 : Cond.methodLink R_M 63 y_M_raise ∈ zT := zT_in 253 (by decide +kernel) rfl
theorem kv_M_raise : Cond.instanceMethod y_M_raise ∈ zT := zT_in 254 (by decide +kernel) rfl
theorem kx_M_raise : Cond.selects R_M y_M_raise y_M_raise ∈ zT := zT_in 255 (by decide +kernel) rfl
theorem kc_M_raise : Cond.code y_M_raise b_M_raise 5 (Option.none : Option FieldType) ∈ zT := zT_in 256 (by decide +kernel) rfl
theorem km_M_70 : Cond.methodLink R_M 70 y_M_multiply ∈ zT := zT_in 259 (by decide +kernel) rfl
theorem km_M_73 : Cond.methodLink R_M 73 y_L_hasBit ∈ zT := zT_in 260 (by decide +kernel) rfl
theorem ks_L_hasBit : Cond.static y_L_hasBit ∈ zT := zT_in 261 (by decide +kernel) rfl
theorem kc_L_hasBit : Cond.code y_L_hasBit b_L_hasBit 2 (Option.some FieldType.boolean) ∈ zT := zT_in 262 (by decide +kernel) rfl
theorem km_W_35 : Cond.methodLink R_W 35 y_D_root ∈ zT := zT_in 263 (by decide +kernel) rfl
theorem kv_D_root : Cond.instanceMethod y_D_root ∈ zT := zT_in 264 (by decide +kernel) rfl
theorem kx_D_root : Cond.selects R_D y_D_root y_D_root ∈ zT := zT_in 265 (by decide +kernel) rfl
theorem kc_D_root : Cond.code y_D_root b_D_root 3 (Option.some FieldType.int) ∈ zT := zT_in 266 (by decide +kernel) rfl
theorem km_D_135 : Cond.methodLink R_D 135 y_C_findEvenRoot ∈ zT := zT_in 267 (by decide +kernel) rfl
theorem kv_C_findEvenRoot : Cond.instanceMethod y_C_findEvenRoot ∈ zT := zT_in 268 (by decide +kernel) rfl
theorem kx_C_findEvenRoot : Cond.selects R_C y_C_findEvenRoot y_C_findEvenRoot ∈ zT := zT_in 269 (by decide +kernel) rfl
theorem kc_C_findEvenRoot : Cond.code y_C_findEvenRoot b_C_findEvenRoot 3 (Option.some FieldType.boolean) ∈ zT := zT_in 270 (by decide +kernel) rfl
theorem km_C_63 : Cond.methodLink R_C 63 y_M_raise ∈ zT := zT_in 273 (by decide +kernel) rfl
theorem km_C_44 : Cond.methodLink R_C 44 y_M_multiply ∈ zT := zT_in 274 (by decide +kernel) rfl
theorem km_C_48 : Cond.methodLink R_C 48 y_L_areSame ∈ zT := zT_in 275 (by decide +kernel) rfl
theorem km_C_66 : Cond.methodLink R_C 66 y_L_isOdd ∈ zT := zT_in 276 (by decide +kernel) rfl
theorem ks_L_isOdd : Cond.static y_L_isOdd ∈ zT := zT_in 277 (by decide +kernel) rfl
theorem kc_L_isOdd : Cond.code y_L_isOdd b_L_isOdd 1 (Option.some FieldType.boolean) ∈ zT := zT_in 278 (by decide +kernel) rfl
theorem km_C_72 : Cond.methodLink R_C 72 y_M_subtract ∈ zT := zT_in 280 (by decide +kernel) rfl
theorem km_C_75 : Cond.methodLink R_C 75 y_L_copy ∈ zT := zT_in 281 (by decide +kernel) rfl
theorem km_D_139 : Cond.methodLink R_D 139 y_L_copy ∈ zT := zT_in 282 (by decide +kernel) rfl
theorem km_W_40 : Cond.methodLink R_W 40 y_D_spot ∈ zT := zT_in 283 (by decide +kernel) rfl
theorem kv_D_spot : Cond.instanceMethod y_D_spot ∈ zT := zT_in 284 (by decide +kernel) rfl
theorem kx_D_spot : Cond.selects R_D y_D_spot y_D_spot ∈ zT := zT_in 285 (by decide +kernel) rfl
theorem kc_D_spot : Cond.code y_D_spot b_D_spot 5 (Option.some FieldType.int) ∈ zT := zT_in 286 (by decide +kernel) rfl
theorem km_D_142 : Cond.methodLink R_D 142 y_D_isSpot ∈ zT := zT_in 287 (by decide +kernel) rfl
theorem ks_D_isSpot : Cond.static y_D_isSpot ∈ zT := zT_in 288 (by decide +kernel) rfl
theorem kc_D_isSpot : Cond.code y_D_isSpot b_D_isSpot 1 (Option.some FieldType.boolean) ∈ zT := zT_in 289 (by decide +kernel) rfl
theorem km_D_145 : Cond.methodLink R_D 145 y_P_becomeNone ∈ zT := zT_in 290 (by decide +kernel) rfl
theorem kv_P_becomeNone : Cond.instanceMethod y_P_becomeNone ∈ zT := zT_in 291 (by decide +kernel) rfl
theorem kx_P_becomeNone : Cond.selects R_P y_P_becomeNone y_P_becomeNone ∈ zT := zT_in 292 (by decide +kernel) rfl
theorem kc_P_becomeNone : Cond.code y_P_becomeNone b_P_becomeNone 1 (Option.none : Option FieldType) ∈ zT := zT_in 293 (by decide +kernel) rfl
theorem km_D_148 : Cond.methodLink R_D 148 y_D_fillSpot ∈ zT := zT_in 294 (by decide +kernel) rfl
theorem kv_D_fillSpot : Cond.instanceMethod y_D_fillSpot ∈ zT := zT_in 296 (by decide +kernel) rfl
theorem kc_D_fillSpot : Cond.code y_D_fillSpot b_D_fillSpot 4 (Option.some FieldType.boolean) ∈ zT := zT_in 297 (by decide +kernel) rfl
theorem km_D_201 : Cond.methodLink R_D 201 y_C_isPoint ∈ zT := zT_in 298 (by decide +kernel) rfl
theorem kv_C_isPoint : Cond.instanceMethod y_C_isPoint ∈ zT := zT_in 299 (by decide +kernel) rfl
theorem kx_C_isPoint : Cond.selects R_C y_C_isPoint y_C_isPoint ∈ zT := zT_in 300 (by decide +kernel) rfl
theorem kc_C_isPoint : Cond.code y_C_isPoint b_C_isPoint 3 (Option.some FieldType.boolean) ∈ zT := zT_in 301 (by decide +kernel) rfl
theorem km_C_34 : Cond.methodLink R_C 34 y_M_isAbove ∈ zT := zT_in 302 (by decide +kernel) rfl
theorem km_C_40 : Cond.methodLink R_C 40 y_C_findSquareOfY ∈ zT := zT_in 303 (by decide +kernel) rfl
theorem kv_C_findSquareOfY : Cond.instanceMethod y_C_findSquareOfY ∈ zT := zT_in 304 (by decide +kernel) rfl
theorem kx_C_findSquareOfY : Cond.selects R_C y_C_findSquareOfY y_C_findSquareOfY ∈ zT := zT_in 305 (by decide +kernel) rfl
theorem kc_C_findSquareOfY : Cond.code y_C_findSquareOfY b_C_findSquareOfY 3 (Option.none : Option FieldType) ∈ zT := zT_in 306 (by decide +kernel) rfl
theorem km_C_57 : Cond.methodLink R_C 57 y_M_add ∈ zT := zT_in 309 (by decide +kernel) rfl
theorem km_W_45 : Cond.methodLink R_W 45 y_D_sum ∈ zT := zT_in 310 (by decide +kernel) rfl
theorem kv_D_sum : Cond.instanceMethod y_D_sum ∈ zT := zT_in 311 (by decide +kernel) rfl
theorem kx_D_sum : Cond.selects R_D y_D_sum y_D_sum ∈ zT := zT_in 312 (by decide +kernel) rfl
theorem kc_D_sum : Cond.code y_D_sum b_D_sum 4 (Option.some FieldType.boolean) ∈ zT := zT_in 313 (by decide +kernel) rfl
theorem km_D_152 : Cond.methodLink R_D 152 y_C_addTwo ∈ zT := zT_in 314 (by decide +kernel) rfl
theorem kv_C_addTwo : Cond.instanceMethod y_C_addTwo ∈ zT := zT_in 315 (by decide +kernel) rfl
theorem kx_C_addTwo : Cond.selects R_C y_C_addTwo y_C_addTwo ∈ zT := zT_in 316 (by decide +kernel) rfl
theorem kc_C_addTwo : Cond.code y_C_addTwo b_C_addTwo 4 (Option.none : Option FieldType) ∈ zT := zT_in 317 (by decide +kernel) rfl
theorem km_C_78 : Cond.methodLink R_C 78 y_C_startSum ∈ zT := zT_in 318 (by decide +kernel) rfl
theorem kv_C_startSum : Cond.instanceMethod y_C_startSum ∈ zT := zT_in 320 (by decide +kernel) rfl
theorem kc_C_startSum : Cond.code y_C_startSum b_C_startSum 1 (Option.none : Option FieldType) ∈ zT := zT_in 321 (by decide +kernel) rfl
theorem km_C_81 : Cond.methodLink R_C 81 y_C_include ∈ zT := zT_in 322 (by decide +kernel) rfl
theorem kv_C_include : Cond.instanceMethod y_C_include ∈ zT := zT_in 324 (by decide +kernel) rfl
theorem kc_C_include : Cond.code y_C_include b_C_include 2 (Option.none : Option FieldType) ∈ zT := zT_in 325 (by decide +kernel) rfl
theorem km_C_101 : Cond.methodLink R_C 101 y_L_isZero ∈ zT := zT_in 326 (by decide +kernel) rfl
theorem km_C_109 : Cond.methodLink R_C 109 y_C_findDifferences ∈ zT := zT_in 328 (by decide +kernel) rfl
theorem kv_C_findDifferences : Cond.instanceMethod y_C_findDifferences ∈ zT := zT_in 330 (by decide +kernel) rfl
theorem kc_C_findDifferences : Cond.code y_C_findDifferences b_C_findDifferences 2 (Option.none : Option FieldType) ∈ zT := zT_in 331 (by decide +kernel) rfl
theorem km_C_112 : Cond.methodLink R_C 112 y_C_moveAlongLine ∈ zT := zT_in 332 (by decide +kernel) rfl
theorem kv_C_moveAlongLine : Cond.instanceMethod y_C_moveAlongLine ∈ zT := zT_in 334 (by decide +kernel) rfl
theorem kc_C_moveAlongLine : Cond.code y_C_moveAlongLine b_C_moveAlongLine 1 (Option.none : Option FieldType) ∈ zT := zT_in 335 (by decide +kernel) rfl
theorem km_C_88 : Cond.methodLink R_C 88 y_C_doubleSum ∈ zT := zT_in 336 (by decide +kernel) rfl
theorem kv_C_doubleSum : Cond.instanceMethod y_C_doubleSum ∈ zT := zT_in 338 (by decide +kernel) rfl
theorem kc_C_doubleSum : Cond.code y_C_doubleSum b_C_doubleSum 1 (Option.none : Option FieldType) ∈ zT := zT_in 339 (by decide +kernel) rfl
theorem km_C_85 : Cond.methodLink R_C 85 y_C_storeSum ∈ zT := zT_in 340 (by decide +kernel) rfl
theorem kv_C_storeSum : Cond.instanceMethod y_C_storeSum ∈ zT := zT_in 342 (by decide +kernel) rfl
theorem kc_C_storeSum : Cond.code y_C_storeSum b_C_storeSum 2 (Option.none : Option FieldType) ∈ zT := zT_in 343 (by decide +kernel) rfl
theorem km_C_115 : Cond.methodLink R_C 115 y_P_becomeNone ∈ zT := zT_in 344 (by decide +kernel) rfl
theorem km_C_121 : Cond.methodLink R_C 121 y_P_become ∈ zT := zT_in 346 (by decide +kernel) rfl
theorem km_W_50 : Cond.methodLink R_W 50 y_D_times ∈ zT := zT_in 347 (by decide +kernel) rfl
theorem kv_D_times : Cond.instanceMethod y_D_times ∈ zT := zT_in 348 (by decide +kernel) rfl
theorem kx_D_times : Cond.selects R_D y_D_times y_D_times ∈ zT := zT_in 349 (by decide +kernel) rfl
theorem kc_D_times : Cond.code y_D_times b_D_times 4 (Option.some FieldType.boolean) ∈ zT := zT_in 350 (by decide +kernel) rfl
theorem kf_D_156 : Cond.fieldLink R_D 156 "CurveDesk" "ZERO" "[J" ∈ zT := zT_in 351 (by decide +kernel) rfl
theorem km_D_159 : Cond.methodLink R_D 159 y_C_addMultiples ∈ zT := zT_in 352 (by decide +kernel) rfl
theorem kv_C_addMultiples : Cond.instanceMethod y_C_addMultiples ∈ zT := zT_in 353 (by decide +kernel) rfl
theorem kx_C_addMultiples : Cond.selects R_C y_C_addMultiples y_C_addMultiples ∈ zT := zT_in 354 (by decide +kernel) rfl
theorem kc_C_addMultiples : Cond.code y_C_addMultiples b_C_addMultiples 7 (Option.none : Option FieldType) ∈ zT := zT_in 355 (by decide +kernel) rfl
theorem km_C_91 : Cond.methodLink R_C 91 y_L_hasBit ∈ zT := zT_in 356 (by decide +kernel) rfl
theorem km_W_54 : Cond.methodLink R_W 54 y_D_place ∈ zT := zT_in 357 (by decide +kernel) rfl
theorem kv_D_place : Cond.instanceMethod y_D_place ∈ zT := zT_in 358 (by decide +kernel) rfl
theorem kx_D_place : Cond.selects R_D y_D_place y_D_place ∈ zT := zT_in 359 (by decide +kernel) rfl
theorem kc_D_place : Cond.code y_D_place b_D_place 4 (Option.some FieldType.int) ∈ zT := zT_in 360 (by decide +kernel) rfl
theorem km_D_163 : Cond.methodLink R_D 163 y_D_areTwoRegisters ∈ zT := zT_in 361 (by decide +kernel) rfl
theorem ks_D_areTwoRegisters : Cond.static y_D_areTwoRegisters ∈ zT := zT_in 362 (by decide +kernel) rfl
theorem kc_D_areTwoRegisters : Cond.code y_D_areTwoRegisters b_D_areTwoRegisters 2 (Option.some FieldType.boolean) ∈ zT := zT_in 363 (by decide +kernel) rfl
theorem km_W_59 : Cond.methodLink R_W 59 y_D_put ∈ zT := zT_in 364 (by decide +kernel) rfl
theorem kv_D_put : Cond.instanceMethod y_D_put ∈ zT := zT_in 365 (by decide +kernel) rfl
theorem kx_D_put : Cond.selects R_D y_D_put y_D_put ∈ zT := zT_in 366 (by decide +kernel) rfl
theorem kc_D_put : Cond.code y_D_put b_D_put 4 (Option.some FieldType.boolean) ∈ zT := zT_in 367 (by decide +kernel) rfl
theorem km_D_177 : Cond.methodLink R_D 177 y_H_append ∈ zT := zT_in 368 (by decide +kernel) rfl
theorem kv_H_append : Cond.instanceMethod y_H_append ∈ zT := zT_in 369 (by decide +kernel) rfl
theorem kx_H_append : Cond.selects R_H y_H_append y_H_append ∈ zT := zT_in 370 (by decide +kernel) rfl
theorem kc_H_append : Cond.code y_H_append b_H_append 5 (Option.some FieldType.boolean) ∈ zT := zT_in 371 (by decide +kernel) rfl
theorem km_W_64 : Cond.methodLink R_W 64 y_D_key ∈ zT := zT_in 372 (by decide +kernel) rfl
theorem kv_D_key : Cond.instanceMethod y_D_key ∈ zT := zT_in 373 (by decide +kernel) rfl
theorem kx_D_key : Cond.selects R_D y_D_key y_D_key ∈ zT := zT_in 374 (by decide +kernel) rfl
theorem kc_D_key : Cond.code y_D_key b_D_key 3 (Option.some FieldType.int) ∈ zT := zT_in 375 (by decide +kernel) rfl
theorem km_D_181 : Cond.methodLink R_D 181 y_H_takeAll ∈ zT := zT_in 376 (by decide +kernel) rfl
theorem kv_H_takeAll : Cond.instanceMethod y_H_takeAll ∈ zT := zT_in 377 (by decide +kernel) rfl
theorem kx_H_takeAll : Cond.selects R_H y_H_takeAll y_H_takeAll ∈ zT := zT_in 378 (by decide +kernel) rfl
theorem kc_H_takeAll : Cond.code y_H_takeAll b_H_takeAll 2 (Option.some FieldType.int) ∈ zT := zT_in 379 (by decide +kernel) rfl
theorem km_D_185 : Cond.methodLink R_D 185 y_D_fillFromShortKey ∈ zT := zT_in 380 (by decide +kernel) rfl
theorem kv_D_fillFromShortKey : Cond.instanceMethod y_D_fillFromShortKey ∈ zT := zT_in 382 (by decide +kernel) rfl
theorem kc_D_fillFromShortKey : Cond.code y_D_fillFromShortKey b_D_fillFromShortKey 3 (Option.some FieldType.boolean) ∈ zT := zT_in 383 (by decide +kernel) rfl
theorem km_D_204 : Cond.methodLink R_D 204 y_H_firstByte ∈ zT := zT_in 384 (by decide +kernel) rfl
end
section
theorem kv_H_firstByte : Cond.instanceMethod y_H_firstByte ∈ zT := zT_in 385 (by decide +kernel) rfl
theorem kx_H_firstByte : Cond.selects R_H y_H_firstByte y_H_firstByte ∈ zT := zT_in 386 (by decide +kernel) rfl
theorem kc_H_firstByte : Cond.code y_H_firstByte b_H_firstByte 1 (Option.some FieldType.int) ∈ zT := zT_in 387 (by decide +kernel) rfl
theorem km_D_207 : Cond.methodLink R_D 207 y_H_readNumber ∈ zT := zT_in 388 (by decide +kernel) rfl
theorem kv_H_readNumber : Cond.instanceMethod y_H_readNumber ∈ zT := zT_in 389 (by decide +kernel) rfl
theorem kx_H_readNumber : Cond.selects R_H y_H_readNumber y_H_readNumber ∈ zT := zT_in 390 (by decide +kernel) rfl
theorem kc_H_readNumber : Cond.code y_H_readNumber b_H_readNumber 6 (Option.none : Option FieldType) ∈ zT := zT_in 391 (by decide +kernel) rfl
theorem km_H_23 : Cond.methodLink R_H 23 y_L_copy ∈ zT := zT_in 393 (by decide +kernel) rfl
theorem km_D_211 : Cond.methodLink R_D 211 y_C_findSquareOfY ∈ zT := zT_in 394 (by decide +kernel) rfl
theorem km_D_188 : Cond.methodLink R_D 188 y_D_fillFromWholeKey ∈ zT := zT_in 395 (by decide +kernel) rfl
theorem kv_D_fillFromWholeKey : Cond.instanceMethod y_D_fillFromWholeKey ∈ zT := zT_in 397 (by decide +kernel) rfl
theorem kc_D_fillFromWholeKey : Cond.code y_D_fillFromWholeKey b_D_fillFromWholeKey 2 (Option.some FieldType.boolean) ∈ zT := zT_in 398 (by decide +kernel) rfl
theorem km_W_69 : Cond.methodLink R_W 69 y_D_signature ∈ zT := zT_in 399 (by decide +kernel) rfl
theorem kv_D_signature : Cond.instanceMethod y_D_signature ∈ zT := zT_in 400 (by decide +kernel) rfl
theorem kx_D_signature : Cond.selects R_D y_D_signature y_D_signature ∈ zT := zT_in 401 (by decide +kernel) rfl
theorem kc_D_signature : Cond.code y_D_signature b_D_signature 4 (Option.some FieldType.int) ∈ zT := zT_in 402 (by decide +kernel) rfl
theorem km_D_191 : Cond.methodLink R_D 191 y_H_readSignature ∈ zT := zT_in 403 (by decide +kernel) rfl
theorem kv_H_readSignature : Cond.instanceMethod y_H_readSignature ∈ zT := zT_in 404 (by decide +kernel) rfl
theorem kx_H_readSignature : Cond.selects R_H y_H_readSignature y_H_readSignature ∈ zT := zT_in 405 (by decide +kernel) rfl
theorem kc_H_readSignature : Cond.code y_H_readSignature b_H_readSignature 5 (Option.some FieldType.boolean) ∈ zT := zT_in 406 (by decide +kernel) rfl
theorem km_H_29 : Cond.methodLink R_H 29 y_H_readPart ∈ zT := zT_in 407 (by decide +kernel) rfl
theorem kv_H_readPart : Cond.instanceMethod y_H_readPart ∈ zT := zT_in 409 (by decide +kernel) rfl
theorem kc_H_readPart : Cond.code y_H_readPart b_H_readPart 6 (Option.some FieldType.int) ∈ zT := zT_in 410 (by decide +kernel) rfl
theorem km_H_33 : Cond.methodLink R_H 33 y_H_isWellWritten ∈ zT := zT_in 411 (by decide +kernel) rfl
theorem kv_H_isWellWritten : Cond.instanceMethod y_H_isWellWritten ∈ zT := zT_in 413 (by decide +kernel) rfl
theorem kc_H_isWellWritten : Cond.code y_H_isWellWritten b_H_isWellWritten 4 (Option.some FieldType.boolean) ∈ zT := zT_in 414 (by decide +kernel) rfl
theorem km_H_37 : Cond.methodLink R_H 37 y_H_readNumber ∈ zT := zT_in 415 (by decide +kernel) rfl
theorem km_W_73 : Cond.methodLink R_W 73 y_D_fits ∈ zT := zT_in 416 (by decide +kernel) rfl
theorem kv_D_fits : Cond.instanceMethod y_D_fits ∈ zT := zT_in 417 (by decide +kernel) rfl
theorem kx_D_fits : Cond.selects R_D y_D_fits y_D_fits ∈ zT := zT_in 418 (by decide +kernel) rfl
theorem kc_D_fits : Cond.code y_D_fits b_D_fits 5 (Option.some FieldType.int) ∈ zT := zT_in 419 (by decide +kernel) rfl
theorem km_D_195 : Cond.methodLink R_D 195 y_D_isUnit ∈ zT := zT_in 420 (by decide +kernel) rfl
theorem kv_D_isUnit : Cond.instanceMethod y_D_isUnit ∈ zT := zT_in 422 (by decide +kernel) rfl
theorem kc_D_isUnit : Cond.code y_D_isUnit b_D_isUnit 2 (Option.some FieldType.boolean) ∈ zT := zT_in 423 (by decide +kernel) rfl
theorem km_D_198 : Cond.methodLink R_D 198 y_L_areSame ∈ zT := zT_in 424 (by decide +kernel) rfl
theorem ka_W_10 : Cond.classLink R_W 10 "CurveDeskModel" ∈ zT := zT_in 425 (by decide +kernel) rfl
theorem kz_R : Cond.instantiable R_R 7 ∈ zT := zT_in 426 (by decide +kernel) rfl
theorem km_W_12 : Cond.methodLink R_W 12 y_R_init ∈ zT := zT_in 427 (by decide +kernel) rfl
theorem kv_R_init : Cond.instanceMethod y_R_init ∈ zT := zT_in 428 (by decide +kernel) rfl
theorem kc_R_init : Cond.code y_R_init b_R_init 5 (Option.none : Option FieldType) ∈ zT := zT_in 429 (by decide +kernel) rfl
theorem km_R_1 : Cond.methodLink R_R 1 (⟨"java/lang/Object", "<init>", "()V"⟩ : MethodName) ∈ zT := zT_in 430 (by decide +kernel) rfl
theorem kl_R_30 : Cond.constantLong R_R 30 (-1 : Int64) ∈ zT := zT_in 431 (by decide +kernel) rfl
theorem kl_R_32 : Cond.constantLong R_R 32 (-4294968273 : Int64) ∈ zT := zT_in 432 (by decide +kernel) rfl
theorem km_R_34 : Cond.methodLink R_R 34 y_R_write ∈ zT := zT_in 433 (by decide +kernel) rfl
theorem kv_R_write : Cond.instanceMethod y_R_write ∈ zT := zT_in 435 (by decide +kernel) rfl
theorem kc_R_write : Cond.code y_R_write b_R_write 13 (Option.none : Option FieldType) ∈ zT := zT_in 436 (by decide +kernel) rfl
theorem km_R_62 : Cond.methodLink R_R 62 y_R_nothing ∈ zT := zT_in 437 (by decide +kernel) rfl
theorem kv_R_nothing : Cond.instanceMethod y_R_nothing ∈ zT := zT_in 439 (by decide +kernel) rfl
theorem kc_R_nothing : Cond.code y_R_nothing b_R_nothing 3 (Option.none : Option FieldType) ∈ zT := zT_in 440 (by decide +kernel) rfl
theorem km_R_66 : Cond.methodLink R_R 66 y_R_wordOf ∈ zT := zT_in 441 (by decide +kernel) rfl
theorem ks_R_wordOf : Cond.static y_R_wordOf ∈ zT := zT_in 442 (by decide +kernel) rfl
theorem kc_R_wordOf : Cond.code y_R_wordOf b_R_wordOf 9 (Option.some FieldType.long) ∈ zT := zT_in 443 (by decide +kernel) rfl
theorem kl_R_38 : Cond.constantLong R_R 38 (-2 : Int64) ∈ zT := zT_in 444 (by decide +kernel) rfl
theorem kl_R_40 : Cond.constantLong R_R 40 (-4994812053365940165 : Int64) ∈ zT := zT_in 445 (by decide +kernel) rfl
theorem kl_R_42 : Cond.constantLong R_R 42 (-4624529908474429119 : Int64) ∈ zT := zT_in 446 (by decide +kernel) rfl
theorem kl_R_44 : Cond.constantLong R_R 44 (8772561819708210092 : Int64) ∈ zT := zT_in 447 (by decide +kernel) rfl
theorem kl_R_46 : Cond.constantLong R_R 46 (6170039885052185351 : Int64) ∈ zT := zT_in 448 (by decide +kernel) rfl
theorem kl_R_48 : Cond.constantLong R_R 48 (188021827762530521 : Int64) ∈ zT := zT_in 449 (by decide +kernel) rfl
theorem kl_R_50 : Cond.constantLong R_R 50 (6481385041966929816 : Int64) ∈ zT := zT_in 450 (by decide +kernel) rfl
theorem kl_R_52 : Cond.constantLong R_R 52 (5204712524664259685 : Int64) ∈ zT := zT_in 451 (by decide +kernel) rfl
theorem kl_R_54 : Cond.constantLong R_R 54 (6747795201694173352 : Int64) ∈ zT := zT_in 452 (by decide +kernel) rfl
theorem kl_R_56 : Cond.constantLong R_R 56 (-209500633525038055 : Int64) ∈ zT := zT_in 453 (by decide +kernel) rfl
theorem kl_R_58 : Cond.constantLong R_R 58 (-7185545363635252040 : Int64) ∈ zT := zT_in 454 (by decide +kernel) rfl
theorem kl_R_60 : Cond.constant R_R 60 (67108863 : Int32) ∈ zT := zT_in 455 (by decide +kernel) rfl
theorem kl_R_61 : Cond.constant R_R 61 (4194303 : Int32) ∈ zT := zT_in 456 (by decide +kernel) rfl
theorem kf_R_7 : Cond.fieldLink R_R 7 "CurveDeskModel" "rows" "[I" ∈ zT := zT_in 457 (by decide +kernel) rfl
theorem kf_R_13 : Cond.fieldLink R_R 13 "CurveDeskModel" "product" "[J" ∈ zT := zT_in 458 (by decide +kernel) rfl
theorem kf_R_17 : Cond.fieldLink R_R 17 "CurveDeskModel" "folded" "[J" ∈ zT := zT_in 459 (by decide +kernel) rfl
theorem kf_R_20 : Cond.fieldLink R_R 20 "CurveDeskModel" "rest" "[I" ∈ zT := zT_in 460 (by decide +kernel) rfl
theorem kf_R_23 : Cond.fieldLink R_R 23 "CurveDeskModel" "none" "[Z" ∈ zT := zT_in 461 (by decide +kernel) rfl
theorem kf_R_27 : Cond.fieldLink R_R 27 "CurveDeskModel" "bytes" "[I" ∈ zT := zT_in 462 (by decide +kernel) rfl
theorem kf_R_163 : Cond.fieldLink R_R 163 "CurveDeskModel" "many" "I" ∈ zT := zT_in 463 (by decide +kernel) rfl
theorem kA_boolean : Cond.arrayClass FieldType.boolean ∈ zT := zT_in 479 (by decide +kernel) rfl
theorem km_W_19 : Cond.methodLink R_W 19 y_R_set ∈ zT := zT_in 480 (by decide +kernel) rfl
theorem kv_R_set : Cond.instanceMethod y_R_set ∈ zT := zT_in 481 (by decide +kernel) rfl
theorem kx_R_set : Cond.selects R_R y_R_set y_R_set ∈ zT := zT_in 482 (by decide +kernel) rfl
theorem kc_R_set : Cond.code y_R_set b_R_set 10 (Option.some FieldType.boolean) ∈ zT := zT_in 483 (by decide +kernel) rfl
theorem km_R_139 : Cond.methodLink R_R 139 y_R_isRegister ∈ zT := zT_in 484 (by decide +kernel) rfl
theorem ks_R_isRegister : Cond.static y_R_isRegister ∈ zT := zT_in 485 (by decide +kernel) rfl
theorem kc_R_isRegister : Cond.code y_R_isRegister b_R_isRegister 1 (Option.some FieldType.boolean) ∈ zT := zT_in 486 (by decide +kernel) rfl
theorem km_W_24 : Cond.methodLink R_W 24 y_R_get ∈ zT := zT_in 487 (by decide +kernel) rfl
theorem kv_R_get : Cond.instanceMethod y_R_get ∈ zT := zT_in 488 (by decide +kernel) rfl
theorem kx_R_get : Cond.selects R_R y_R_get y_R_get ∈ zT := zT_in 489 (by decide +kernel) rfl
theorem kc_R_get : Cond.code y_R_get b_R_get 6 (Option.some FieldType.long) ∈ zT := zT_in 490 (by decide +kernel) rfl
theorem km_R_100 : Cond.methodLink R_R 100 y_R_bit ∈ zT := zT_in 491 (by decide +kernel) rfl
theorem kv_R_bit : Cond.instanceMethod y_R_bit ∈ zT := zT_in 493 (by decide +kernel) rfl
theorem kc_R_bit : Cond.code y_R_bit b_R_bit 3 (Option.some FieldType.boolean) ∈ zT := zT_in 494 (by decide +kernel) rfl
theorem km_W_29 : Cond.methodLink R_W 29 y_R_reduce ∈ zT := zT_in 495 (by decide +kernel) rfl
theorem kv_R_reduce : Cond.instanceMethod y_R_reduce ∈ zT := zT_in 496 (by decide +kernel) rfl
theorem kx_R_reduce : Cond.selects R_R y_R_reduce y_R_reduce ∈ zT := zT_in 497 (by decide +kernel) rfl
theorem kc_R_reduce : Cond.code y_R_reduce b_R_reduce 3 (Option.some FieldType.boolean) ∈ zT := zT_in 498 (by decide +kernel) rfl
theorem km_R_142 : Cond.methodLink R_R 142 y_R_isModulus ∈ zT := zT_in 499 (by decide +kernel) rfl
theorem ks_R_isModulus : Cond.static y_R_isModulus ∈ zT := zT_in 500 (by decide +kernel) rfl
theorem kc_R_isModulus : Cond.code y_R_isModulus b_R_isModulus 1 (Option.some FieldType.boolean) ∈ zT := zT_in 501 (by decide +kernel) rfl
theorem km_R_96 : Cond.methodLink R_R 96 y_R_multiply ∈ zT := zT_in 502 (by decide +kernel) rfl
theorem kv_R_multiply : Cond.instanceMethod y_R_multiply ∈ zT := zT_in 504 (by decide +kernel) rfl
theorem kc_R_multiply : Cond.code y_R_multiply b_R_multiply 9 (Option.none : Option FieldType) ∈ zT := zT_in 505 (by decide +kernel) rfl
theorem km_R_86 : Cond.methodLink R_R 86 y_R_carry ∈ zT := zT_in 506 (by decide +kernel) rfl
theorem kv_R_carry : Cond.instanceMethod y_R_carry ∈ zT := zT_in 508 (by decide +kernel) rfl
theorem kc_R_carry : Cond.code y_R_carry b_R_carry 6 (Option.none : Option FieldType) ∈ zT := zT_in 509 (by decide +kernel) rfl
theorem kl_R_82 : Cond.constantLong R_R 82 (67108863 : Int64) ∈ zT := zT_in 510 (by decide +kernel) rfl
theorem km_R_89 : Cond.methodLink R_R 89 y_R_isWide ∈ zT := zT_in 511 (by decide +kernel) rfl
theorem kv_R_isWide : Cond.instanceMethod y_R_isWide ∈ zT := zT_in 513 (by decide +kernel) rfl
theorem kc_R_isWide : Cond.code y_R_isWide b_R_isWide 3 (Option.some FieldType.boolean) ∈ zT := zT_in 514 (by decide +kernel) rfl
theorem kl_R_84 : Cond.constantLong R_R 84 (4194303 : Int64) ∈ zT := zT_in 515 (by decide +kernel) rfl
theorem km_R_93 : Cond.methodLink R_R 93 y_R_fold ∈ zT := zT_in 516 (by decide +kernel) rfl
theorem kv_R_fold : Cond.instanceMethod y_R_fold ∈ zT := zT_in 518 (by decide +kernel) rfl
theorem kc_R_fold : Cond.code y_R_fold b_R_fold 6 (Option.none : Option FieldType) ∈ zT := zT_in 519 (by decide +kernel) rfl
theorem km_R_78 : Cond.methodLink R_R 78 y_R_compare ∈ zT := zT_in 520 (by decide +kernel) rfl
theorem kv_R_compare : Cond.instanceMethod y_R_compare ∈ zT := zT_in 522 (by decide +kernel) rfl
theorem kc_R_compare : Cond.code y_R_compare b_R_compare 6 (Option.some FieldType.int) ∈ zT := zT_in 523 (by decide +kernel) rfl
theorem km_R_74 : Cond.methodLink R_R 74 y_R_add ∈ zT := zT_in 524 (by decide +kernel) rfl
theorem kv_R_add : Cond.instanceMethod y_R_add ∈ zT := zT_in 526 (by decide +kernel) rfl
theorem kc_R_add : Cond.code y_R_add b_R_add 7 (Option.none : Option FieldType) ∈ zT := zT_in 527 (by decide +kernel) rfl
theorem km_W_34 : Cond.methodLink R_W 34 y_R_work ∈ zT := zT_in 528 (by decide +kernel) rfl
theorem kv_R_work : Cond.instanceMethod y_R_work ∈ zT := zT_in 529 (by decide +kernel) rfl
theorem kx_R_work : Cond.selects R_R y_R_work y_R_work ∈ zT := zT_in 530 (by decide +kernel) rfl
theorem kc_R_work : Cond.code y_R_work b_R_work 6 (Option.some FieldType.int) ∈ zT := zT_in 531 (by decide +kernel) rfl
theorem km_R_115 : Cond.methodLink R_R 115 y_R_isNothing ∈ zT := zT_in 532 (by decide +kernel) rfl
theorem kv_R_isNothing : Cond.instanceMethod y_R_isNothing ∈ zT := zT_in 534 (by decide +kernel) rfl
theorem kc_R_isNothing : Cond.code y_R_isNothing b_R_isNothing 4 (Option.some FieldType.boolean) ∈ zT := zT_in 535 (by decide +kernel) rfl
theorem km_R_124 : Cond.methodLink R_R 124 y_R_plus ∈ zT := zT_in 536 (by decide +kernel) rfl
theorem kv_R_plus : Cond.instanceMethod y_R_plus ∈ zT := zT_in 538 (by decide +kernel) rfl
theorem kc_R_plus : Cond.code y_R_plus b_R_plus 5 (Option.none : Option FieldType) ∈ zT := zT_in 539 (by decide +kernel) rfl
theorem km_R_70 : Cond.methodLink R_R 70 y_R_copy ∈ zT := zT_in 540 (by decide +kernel) rfl
theorem kv_R_copy : Cond.instanceMethod y_R_copy ∈ zT := zT_in 542 (by decide +kernel) rfl
theorem kc_R_copy : Cond.code y_R_copy b_R_copy 4 (Option.none : Option FieldType) ∈ zT := zT_in 543 (by decide +kernel) rfl
theorem km_R_112 : Cond.methodLink R_R 112 y_R_minus ∈ zT := zT_in 544 (by decide +kernel) rfl
theorem kv_R_minus : Cond.instanceMethod y_R_minus ∈ zT := zT_in 546 (by decide +kernel) rfl
theorem kc_R_minus : Cond.code y_R_minus b_R_minus 5 (Option.none : Option FieldType) ∈ zT := zT_in 547 (by decide +kernel) rfl
theorem km_R_121 : Cond.methodLink R_R 121 y_R_divide ∈ zT := zT_in 548 (by decide +kernel) rfl
theorem kv_R_divide : Cond.instanceMethod y_R_divide ∈ zT := zT_in 550 (by decide +kernel) rfl
theorem kc_R_divide : Cond.code y_R_divide b_R_divide 5 (Option.none : Option FieldType) ∈ zT := zT_in 551 (by decide +kernel) rfl
theorem km_R_104 : Cond.methodLink R_R 104 y_R_power ∈ zT := zT_in 552 (by decide +kernel) rfl
theorem kv_R_power : Cond.instanceMethod y_R_power ∈ zT := zT_in 554 (by decide +kernel) rfl
theorem kc_R_power : Cond.code y_R_power b_R_power 5 (Option.none : Option FieldType) ∈ zT := zT_in 555 (by decide +kernel) rfl
theorem km_W_39 : Cond.methodLink R_W 39 y_R_root ∈ zT := zT_in 556 (by decide +kernel) rfl
theorem kv_R_root : Cond.instanceMethod y_R_root ∈ zT := zT_in 557 (by decide +kernel) rfl
theorem kx_R_root : Cond.selects R_R y_R_root y_R_root ∈ zT := zT_in 558 (by decide +kernel) rfl
theorem kc_R_root : Cond.code y_R_root b_R_root 3 (Option.some FieldType.int) ∈ zT := zT_in 559 (by decide +kernel) rfl
theorem km_R_145 : Cond.methodLink R_R 145 y_R_roots ∈ zT := zT_in 560 (by decide +kernel) rfl
theorem kv_R_roots : Cond.instanceMethod y_R_roots ∈ zT := zT_in 562 (by decide +kernel) rfl
theorem kc_R_roots : Cond.code y_R_roots b_R_roots 6 (Option.some FieldType.boolean) ∈ zT := zT_in 563 (by decide +kernel) rfl
theorem kl_R_107 : Cond.constant R_R 107 (33554432 : Int32) ∈ zT := zT_in 564 (by decide +kernel) rfl
theorem km_R_108 : Cond.methodLink R_R 108 y_R_isOdd ∈ zT := zT_in 565 (by decide +kernel) rfl
theorem kv_R_isOdd : Cond.instanceMethod y_R_isOdd ∈ zT := zT_in 567 (by decide +kernel) rfl
theorem kc_R_isOdd : Cond.code y_R_isOdd b_R_isOdd 2 (Option.some FieldType.boolean) ∈ zT := zT_in 568 (by decide +kernel) rfl
theorem km_W_44 : Cond.methodLink R_W 44 y_R_spot ∈ zT := zT_in 569 (by decide +kernel) rfl
theorem kv_R_spot : Cond.instanceMethod y_R_spot ∈ zT := zT_in 570 (by decide +kernel) rfl
theorem kx_R_spot : Cond.selects R_R y_R_spot y_R_spot ∈ zT := zT_in 571 (by decide +kernel) rfl
theorem kc_R_spot : Cond.code y_R_spot b_R_spot 5 (Option.some FieldType.int) ∈ zT := zT_in 572 (by decide +kernel) rfl
theorem km_R_148 : Cond.methodLink R_R 148 y_R_isSpot ∈ zT := zT_in 573 (by decide +kernel) rfl
theorem ks_R_isSpot : Cond.static y_R_isSpot ∈ zT := zT_in 574 (by decide +kernel) rfl
theorem kc_R_isSpot : Cond.code y_R_isSpot b_R_isSpot 1 (Option.some FieldType.boolean) ∈ zT := zT_in 575 (by decide +kernel) rfl
theorem km_R_151 : Cond.methodLink R_R 151 y_R_isPoint ∈ zT := zT_in 576 (by decide +kernel) rfl
theorem kv_R_isPoint : Cond.instanceMethod y_R_isPoint ∈ zT := zT_in 578 (by decide +kernel) rfl
theorem kc_R_isPoint : Cond.code y_R_isPoint b_R_isPoint 3 (Option.some FieldType.boolean) ∈ zT := zT_in 579 (by decide +kernel) rfl
theorem km_R_136 : Cond.methodLink R_R 136 y_R_curve ∈ zT := zT_in 580 (by decide +kernel) rfl
theorem kv_R_curve : Cond.instanceMethod y_R_curve ∈ zT := zT_in 582 (by decide +kernel) rfl
theorem kc_R_curve : Cond.code y_R_curve b_R_curve 3 (Option.none : Option FieldType) ∈ zT := zT_in 583 (by decide +kernel) rfl
theorem km_W_49 : Cond.methodLink R_W 49 y_R_sum ∈ zT := zT_in 584 (by decide +kernel) rfl
theorem kv_R_sum : Cond.instanceMethod y_R_sum ∈ zT := zT_in 585 (by decide +kernel) rfl
theorem kx_R_sum : Cond.selects R_R y_R_sum y_R_sum ∈ zT := zT_in 586 (by decide +kernel) rfl
theorem kc_R_sum : Cond.code y_R_sum b_R_sum 4 (Option.some FieldType.boolean) ∈ zT := zT_in 587 (by decide +kernel) rfl
theorem km_R_154 : Cond.methodLink R_R 154 y_R_load ∈ zT := zT_in 588 (by decide +kernel) rfl
theorem kv_R_load : Cond.instanceMethod y_R_load ∈ zT := zT_in 590 (by decide +kernel) rfl
theorem kc_R_load : Cond.code y_R_load b_R_load 3 (Option.none : Option FieldType) ∈ zT := zT_in 591 (by decide +kernel) rfl
theorem km_R_133 : Cond.methodLink R_R 133 y_R_join ∈ zT := zT_in 592 (by decide +kernel) rfl
theorem kv_R_join : Cond.instanceMethod y_R_join ∈ zT := zT_in 594 (by decide +kernel) rfl
theorem kc_R_join : Cond.code y_R_join b_R_join 3 (Option.none : Option FieldType) ∈ zT := zT_in 595 (by decide +kernel) rfl
theorem km_R_118 : Cond.methodLink R_R 118 y_R_isNone ∈ zT := zT_in 596 (by decide +kernel) rfl
theorem kv_R_isNone : Cond.instanceMethod y_R_isNone ∈ zT := zT_in 598 (by decide +kernel) rfl
theorem kc_R_isNone : Cond.code y_R_isNone b_R_isNone 2 (Option.some FieldType.boolean) ∈ zT := zT_in 599 (by decide +kernel) rfl
theorem km_R_127 : Cond.methodLink R_R 127 y_R_copyPoint ∈ zT := zT_in 600 (by decide +kernel) rfl
theorem kv_R_copyPoint : Cond.instanceMethod y_R_copyPoint ∈ zT := zT_in 602 (by decide +kernel) rfl
theorem kc_R_copyPoint : Cond.code y_R_copyPoint b_R_copyPoint 3 (Option.none : Option FieldType) ∈ zT := zT_in 603 (by decide +kernel) rfl
theorem km_R_130 : Cond.methodLink R_R 130 y_R_twice ∈ zT := zT_in 604 (by decide +kernel) rfl
theorem kv_R_twice : Cond.instanceMethod y_R_twice ∈ zT := zT_in 606 (by decide +kernel) rfl
theorem kc_R_twice : Cond.code y_R_twice b_R_twice 3 (Option.none : Option FieldType) ∈ zT := zT_in 607 (by decide +kernel) rfl
theorem km_R_157 : Cond.methodLink R_R 157 y_R_store ∈ zT := zT_in 608 (by decide +kernel) rfl
theorem kv_R_store : Cond.instanceMethod y_R_store ∈ zT := zT_in 610 (by decide +kernel) rfl
theorem kc_R_store : Cond.code y_R_store b_R_store 3 (Option.none : Option FieldType) ∈ zT := zT_in 611 (by decide +kernel) rfl
theorem km_W_53 : Cond.methodLink R_W 53 y_R_times ∈ zT := zT_in 612 (by decide +kernel) rfl
theorem kv_R_times : Cond.instanceMethod y_R_times ∈ zT := zT_in 613 (by decide +kernel) rfl
theorem kx_R_times : Cond.selects R_R y_R_times y_R_times ∈ zT := zT_in 614 (by decide +kernel) rfl
theorem kc_R_times : Cond.code y_R_times b_R_times 4 (Option.some FieldType.boolean) ∈ zT := zT_in 615 (by decide +kernel) rfl
theorem km_R_160 : Cond.methodLink R_R 160 y_R_multiple ∈ zT := zT_in 616 (by decide +kernel) rfl
theorem kv_R_multiple : Cond.instanceMethod y_R_multiple ∈ zT := zT_in 618 (by decide +kernel) rfl
theorem kc_R_multiple : Cond.code y_R_multiple b_R_multiple 3 (Option.none : Option FieldType) ∈ zT := zT_in 619 (by decide +kernel) rfl
theorem km_W_58 : Cond.methodLink R_W 58 y_R_place ∈ zT := zT_in 620 (by decide +kernel) rfl
theorem kv_R_place : Cond.instanceMethod y_R_place ∈ zT := zT_in 621 (by decide +kernel) rfl
theorem kx_R_place : Cond.selects R_R y_R_place y_R_place ∈ zT := zT_in 622 (by decide +kernel) rfl
theorem kc_R_place : Cond.code y_R_place b_R_place 4 (Option.some FieldType.int) ∈ zT := zT_in 623 (by decide +kernel) rfl
theorem km_W_63 : Cond.methodLink R_W 63 y_R_put ∈ zT := zT_in 624 (by decide +kernel) rfl
theorem kv_R_put : Cond.instanceMethod y_R_put ∈ zT := zT_in 625 (by decide +kernel) rfl
theorem kx_R_put : Cond.selects R_R y_R_put y_R_put ∈ zT := zT_in 626 (by decide +kernel) rfl
theorem kc_R_put : Cond.code y_R_put b_R_put 5 (Option.some FieldType.boolean) ∈ zT := zT_in 627 (by decide +kernel) rfl
theorem kl_R_167 : Cond.constantLong R_R 167 (255 : Int64) ∈ zT := zT_in 628 (by decide +kernel) rfl
theorem km_W_68 : Cond.methodLink R_W 68 y_R_key ∈ zT := zT_in 629 (by decide +kernel) rfl
theorem kv_R_key : Cond.instanceMethod y_R_key ∈ zT := zT_in 630 (by decide +kernel) rfl
theorem kx_R_key : Cond.selects R_R y_R_key y_R_key ∈ zT := zT_in 631 (by decide +kernel) rfl
theorem kc_R_key : Cond.code y_R_key b_R_key 3 (Option.some FieldType.int) ∈ zT := zT_in 632 (by decide +kernel) rfl
theorem km_R_169 : Cond.methodLink R_R 169 y_R_read ∈ zT := zT_in 633 (by decide +kernel) rfl
theorem kv_R_read : Cond.instanceMethod y_R_read ∈ zT := zT_in 635 (by decide +kernel) rfl
theorem kc_R_read : Cond.code y_R_read b_R_read 7 (Option.none : Option FieldType) ∈ zT := zT_in 636 (by decide +kernel) rfl
theorem km_W_72 : Cond.methodLink R_W 72 y_R_signature ∈ zT := zT_in 637 (by decide +kernel) rfl
theorem kv_R_signature : Cond.instanceMethod y_R_signature ∈ zT := zT_in 638 (by decide +kernel) rfl
theorem kx_R_signature : Cond.selects R_R y_R_signature y_R_signature ∈ zT := zT_in 639 (by decide +kernel) rfl
theorem kc_R_signature : Cond.code y_R_signature b_R_signature 5 (Option.some FieldType.int) ∈ zT := zT_in 640 (by decide +kernel) rfl
theorem km_R_172 : Cond.methodLink R_R 172 y_R_numberEnd ∈ zT := zT_in 641 (by decide +kernel) rfl
theorem kv_R_numberEnd : Cond.instanceMethod y_R_numberEnd ∈ zT := zT_in 643 (by decide +kernel) rfl
theorem kc_R_numberEnd : Cond.code y_R_numberEnd b_R_numberEnd 6 (Option.some FieldType.int) ∈ zT := zT_in 644 (by decide +kernel) rfl
theorem km_W_76 : Cond.methodLink R_W 76 y_R_fits ∈ zT := zT_in 645 (by decide +kernel) rfl
theorem kv_R_fits : Cond.instanceMethod y_R_fits ∈ zT := zT_in 646 (by decide +kernel) rfl
theorem kx_R_fits : Cond.selects R_R y_R_fits y_R_fits ∈ zT := zT_in 647 (by decide +kernel) rfl
theorem kc_R_fits : Cond.code y_R_fits b_R_fits 5 (Option.some FieldType.int) ∈ zT := zT_in 648 (by decide +kernel) rfl
theorem kl_W_13 : Cond.constantLong R_W 13 (4294967295 : Int64) ∈ zT := zT_in 649 (by decide +kernel) rfl
theorem kx_D_modulusOf : Cond.selects R_D y_D_modulusOf y_D_modulusOf ∈ zT := zT_sel 0 (by decide +kernel) rfl
theorem kx_M_addProduct : Cond.selects R_M y_M_addProduct y_M_addProduct ∈ zT := zT_sel 1 (by decide +kernel) rfl
theorem kx_M_fold : Cond.selects R_M y_M_fold y_M_fold ∈ zT := zT_sel 2 (by decide +kernel) rfl
theorem kx_D_fillSpot : Cond.selects R_D y_D_fillSpot y_D_fillSpot ∈ zT := zT_sel 3 (by decide +kernel) rfl
theorem kx_C_startSum : Cond.selects R_C y_C_startSum y_C_startSum ∈ zT := zT_sel 4 (by decide +kernel) rfl
theorem kx_C_include : Cond.selects R_C y_C_include y_C_include ∈ zT := zT_sel 5 (by decide +kernel) rfl
theorem kx_C_findDifferences : Cond.selects R_C y_C_findDifferences y_C_findDifferences ∈ zT := zT_sel 6 (by decide +kernel) rfl
theorem kx_C_moveAlongLine : Cond.selects R_C y_C_moveAlongLine y_C_moveAlongLine ∈ zT := zT_sel 7 (by decide +kernel) rfl
theorem kx_C_doubleSum : Cond.selects R_C y_C_doubleSum y_C_doubleSum ∈ zT := zT_sel 8 (by decide +kernel) rfl
theorem kx_C_storeSum : Cond.selects R_C y_C_storeSum y_C_storeSum ∈ zT := zT_sel 9 (by decide +kernel) rfl
theorem kx_D_fillFromShortKey : Cond.selects R_D y_D_fillFromShortKey y_D_fillFromShortKey ∈ zT := zT_sel 10 (by decide +kernel) rfl
theorem kx_D_fillFromWholeKey : Cond.selects R_D y_D_fillFromWholeKey y_D_fillFromWholeKey ∈ zT := zT_sel 11 (by decide +kernel) rfl
theorem kx_H_readPart : Cond.selects R_H y_H_readPart y_H_readPart ∈ zT := zT_sel 12 (by decide +kernel) rfl
theorem kx_H_isWellWritten : Cond.selects R_H y_H_isWellWritten y_H_isWellWritten ∈ zT := zT_sel 13 (by decide +kernel) rfl
theorem kx_D_isUnit : Cond.selects R_D y_D_isUnit y_D_isUnit ∈ zT := zT_sel 14 (by decide +kernel) rfl
theorem kx_R_write : Cond.selects R_R y_R_write y_R_write ∈ zT := zT_sel 15 (by decide +kernel) rfl
theorem kx_R_nothing : Cond.selects R_R y_R_nothing y_R_nothing ∈ zT := zT_sel 16 (by decide +kernel) rfl
theorem kx_R_bit : Cond.selects R_R y_R_bit y_R_bit ∈ zT := zT_sel 17 (by decide +kernel) rfl
theorem kx_R_multiply : Cond.selects R_R y_R_multiply y_R_multiply ∈ zT := zT_sel 18 (by decide +kernel) rfl
theorem kx_R_carry : Cond.selects R_R y_R_carry y_R_carry ∈ zT := zT_sel 19 (by decide +kernel) rfl
theorem kx_R_isWide : Cond.selects R_R y_R_isWide y_R_isWide ∈ zT := zT_sel 20 (by decide +kernel) rfl
theorem kx_R_fold : Cond.selects R_R y_R_fold y_R_fold ∈ zT := zT_sel 21 (by decide +kernel) rfl
theorem kx_R_compare : Cond.selects R_R y_R_compare y_R_compare ∈ zT := zT_sel 22 (by decide +kernel) rfl
theorem kx_R_add : Cond.selects R_R y_R_add y_R_add ∈ zT := zT_sel 23 (by decide +kernel) rfl
theorem kx_R_isNothing : Cond.selects R_R y_R_isNothing y_R_isNothing ∈ zT := zT_sel 24 (by decide +kernel) rfl
theorem kx_R_plus : Cond.selects R_R y_R_plus y_R_plus ∈ zT := zT_sel 25 (by decide +kernel) rfl
theorem kx_R_copy : Cond.selects R_R y_R_copy y_R_copy ∈ zT := zT_sel 26 (by decide +kernel) rfl
theorem kx_R_minus : Cond.selects R_R y_R_minus y_R_minus ∈ zT := zT_sel 27 (by decide +kernel) rfl
theorem kx_R_divide : Cond.selects R_R y_R_divide y_R_divide ∈ zT := zT_sel 28 (by decide +kernel) rfl
theorem kx_R_power : Cond.selects R_R y_R_power y_R_power ∈ zT := zT_sel 29 (by decide +kernel) rfl
theorem kx_R_roots : Cond.selects R_R y_R_roots y_R_roots ∈ zT := zT_sel 30 (by decide +kernel) rfl
theorem kx_R_isOdd : Cond.selects R_R y_R_isOdd y_R_isOdd ∈ zT := zT_sel 31 (by decide +kernel) rfl
theorem kx_R_isPoint : Cond.selects R_R y_R_isPoint y_R_isPoint ∈ zT := zT_sel 32 (by decide +kernel) rfl
theorem kx_R_curve : Cond.selects R_R y_R_curve y_R_curve ∈ zT := zT_sel 33 (by decide +kernel) rfl
theorem kx_R_load : Cond.selects R_R y_R_load y_R_load ∈ zT := zT_sel 34 (by decide +kernel) rfl
theorem kx_R_join : Cond.selects R_R y_R_join y_R_join ∈ zT := zT_sel 35 (by decide +kernel) rfl
theorem kx_R_isNone : Cond.selects R_R y_R_isNone y_R_isNone ∈ zT := zT_sel 36 (by decide +kernel) rfl
theorem kx_R_copyPoint : Cond.selects R_R y_R_copyPoint y_R_copyPoint ∈ zT := zT_sel 37 (by decide +kernel) rfl
theorem kx_R_twice : Cond.selects R_R y_R_twice y_R_twice ∈ zT := zT_sel 38 (by decide +kernel) rfl
theorem kx_R_store : Cond.selects R_R y_R_store y_R_store ∈ zT := zT_sel 39 (by decide +kernel) rfl
theorem kx_R_multiple : Cond.selects R_R y_R_multiple y_R_multiple ∈ zT := zT_sel 40 (by decide +kernel) rfl
theorem kx_R_read : Cond.selects R_R y_R_read y_R_read ∈ zT := zT_sel 41 (by decide +kernel) rfl
theorem kx_R_numberEnd : Cond.selects R_R y_R_numberEnd y_R_numberEnd ∈ zT := zT_sel 42 (by decide +kernel) rfl
/-- the words that go along by themselves -/
def zN : List Cond := [Cond.methodLinkNest R_D 22 y_H_init "CurveDesk", Cond.methodLinkNest R_D 67 y_P_init "CurveDesk", Cond.fieldLinkNest R_L 17 "CurveDesk" "ZERO" "[J" "CurveDesk", Cond.fieldLinkNest R_M 67 "CurveDesk" "ONE" "[J" "CurveDesk", Cond.fieldLinkNest R_C 60 "CurveDesk" "P_MORE_ONE_BY_FOUR" "[J" "CurveDesk", Cond.fieldLinkNest R_C 69 "CurveDesk" "ZERO" "[J" "CurveDesk", Cond.fieldLinkNest R_C 54 "CurveDesk" "SEVEN" "[J" "CurveDesk", Cond.fieldLinkNest R_C 106 "CurveDesk" "ONE" "[J" "CurveDesk", Cond.fieldLinkNest R_C 118 "CurveDesk" "P_LESS_TWO" "[J" "CurveDesk", Cond.fieldLinkNest R_H 19 "CurveDesk" "ZERO" "[J" "CurveDesk"]
theorem kO_rows_t : Cond.arrayOver (FieldType.array FieldType.long) ∈ lw_tbl := List.mem_append_right _ (List.mem_of_getElem? (i := 18) (by decide +kernel))
theorem kO_Point_t : Cond.arrayOver (FieldType.object "CurveDesk$Point") ∈ lw_tbl := List.mem_append_right _ (List.mem_of_getElem? (i := 20) (by decide +kernel))
theorem kn_D_22_t : Cond.methodLinkNest R_D 22 y_H_init "CurveDesk" ∈ lw_tbl := List.mem_append_right _ (List.mem_of_getElem? (i := 23) (by decide +kernel))
theorem kg_P_t : Cond.laysStatic "CurveDesk" "P" "[J" ∈ lw_tbl := List.mem_append_right _ (List.mem_of_getElem? (i := 39) (by decide +kernel))
theorem kg_P_GAP_t : Cond.laysStatic "CurveDesk" "P_GAP" "[J" ∈ lw_tbl := List.mem_append_right _ (List.mem_of_getElem? (i := 41) (by decide +kernel))
theorem kg_P_LESS_TWO_t : Cond.laysStatic "CurveDesk" "P_LESS_TWO" "[J" ∈ lw_tbl := List.mem_append_right _ (List.mem_of_getElem? (i := 43) (by decide +kernel))
theorem kg_N_t : Cond.laysStatic "CurveDesk" "N" "[J" ∈ lw_tbl := List.mem_append_right _ (List.mem_of_getElem? (i := 68) (by decide +kernel))
theorem kg_N_GAP_t : Cond.laysStatic "CurveDesk" "N_GAP" "[J" ∈ lw_tbl := List.mem_append_right _ (List.mem_of_getElem? (i := 70) (by decide +kernel))
theorem kg_N_LESS_TWO_t : Cond.laysStatic "CurveDesk" "N_LESS_TWO" "[J" ∈ lw_tbl := List.mem_append_right _ (List.mem_of_getElem? (i := 72) (by decide +kernel))
theorem kn_D_67_t : Cond.methodLinkNest R_D 67 y_P_init "CurveDesk" ∈ lw_tbl := List.mem_append_right _ (List.mem_of_getElem? (i := 102) (by decide +kernel))
theorem kg_BASE_X_t : Cond.laysStatic "CurveDesk" "BASE_X" "[J" ∈ lw_tbl := List.mem_append_right _ (List.mem_of_getElem? (i := 123) (by decide +kernel))
theorem kg_BASE_Y_t : Cond.laysStatic "CurveDesk" "BASE_Y" "[J" ∈ lw_tbl := List.mem_append_right _ (List.mem_of_getElem? (i := 125) (by decide +kernel))
theorem kq_L_17_t : Cond.fieldLinkNest R_L 17 "CurveDesk" "ZERO" "[J" "CurveDesk" ∈ lw_tbl := List.mem_append_right _ (List.mem_of_getElem? (i := 218) (by decide +kernel))
theorem kg_ZERO_t : Cond.laysStatic "CurveDesk" "ZERO" "[J" ∈ lw_tbl := List.mem_append_right _ (List.mem_of_getElem? (i := 219) (by decide +kernel))
theorem kq_M_67_t : Cond.fieldLinkNest R_M 67 "CurveDesk" "ONE" "[J" "CurveDesk" ∈ lw_tbl := List.mem_append_right _ (List.mem_of_getElem? (i := 257) (by decide +kernel))
theorem kg_ONE_t : Cond.laysStatic "CurveDesk" "ONE" "[J" ∈ lw_tbl := List.mem_append_right _ (List.mem_of_getElem? (i := 258) (by decide +kernel))
theorem kq_C_60_t : Cond.fieldLinkNest R_C 60 "CurveDesk" "P_MORE_ONE_BY_FOUR" "[J" "CurveDesk" ∈ lw_tbl := List.mem_append_right _ (List.mem_of_getElem? (i := 271) (by decide +kernel))
theorem kg_P_MORE_ONE_BY_FOUR_t : Cond.laysStatic "CurveDesk" "P_MORE_ONE_BY_FOUR" "[J" ∈ lw_tbl := List.mem_append_right _ (List.mem_of_getElem? (i := 272) (by decide +kernel))
theorem kq_C_69_t : Cond.fieldLinkNest R_C 69 "CurveDesk" "ZERO" "[J" "CurveDesk" ∈ lw_tbl := List.mem_append_right _ (List.mem_of_getElem? (i := 279) (by decide +kernel))
theorem kq_C_54_t : Cond.fieldLinkNest R_C 54 "CurveDesk" "SEVEN" "[J" "CurveDesk" ∈ lw_tbl := List.mem_append_right _ (List.mem_of_getElem? (i := 307) (by decide +kernel))
theorem kg_SEVEN_t : Cond.laysStatic "CurveDesk" "SEVEN" "[J" ∈ lw_tbl := List.mem_append_right _ (List.mem_of_getElem? (i := 308) (by decide +kernel))
theorem kq_C_106_t : Cond.fieldLinkNest R_C 106 "CurveDesk" "ONE" "[J" "CurveDesk" ∈ lw_tbl := List.mem_append_right _ (List.mem_of_getElem? (i := 327) (by decide +kernel))
theorem kq_C_118_t : Cond.fieldLinkNest R_C 118 "CurveDesk" "P_LESS_TWO" "[J" "CurveDesk" ∈ lw_tbl := List.mem_append_right _ (List.mem_of_getElem? (i := 345) (by decide +kernel))
theorem kq_H_19_t : Cond.fieldLinkNest R_H 19 "CurveDesk" "ZERO" "[J" "CurveDesk" ∈ lw_tbl := List.mem_append_right _ (List.mem_of_getElem? (i := 392) (by decide +kernel))
theorem ku_C : ∀ w ∈ u_ws R_C F_C 7, w ∈ zT := by decide +kernel
theorem ku_H : ∀ w ∈ u_ws R_H F_H 2, w ∈ zT := by decide +kernel
theorem ku_M : ∀ w ∈ u_ws R_M F_M 6, w ∈ zT := by decide +kernel
theorem ku_P : ∀ w ∈ u_ws R_P F_P 3, w ∈ zT := by decide +kernel
theorem ku_D : ∀ w ∈ u_ws R_D F_D 10, w ∈ zT := by decide +kernel
theorem ku_R : ∀ w ∈ u_ws R_R F_R 7, w ∈ zT := by decide +kernel
end
