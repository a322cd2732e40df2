section
/-! numbers: primes, Fermat, Pocklington, the modulus P is prime -/
def ec_prime (p : Nat) : Prop := 2 ≤ p ∧ ∀ d, d ∣ p → d = 1 ∨ d = p
theorem ec_cop {p a : Nat} (hp : ec_prime p) (h : ¬ p ∣ a) : Nat.Coprime p a := by
  have h1 : Nat.gcd p a ∣ p := Nat.gcd_dvd_left p a
  rcases hp.2 _ h1 with h2 | h2
  · exact h2
  · have h3 := Nat.gcd_dvd_right p a
    rw [h2] at h3
    exact absurd h3 h
theorem ec_euclid {p a b : Nat} (hp : ec_prime p) (h : p ∣ a * b) : p ∣ a ∨ p ∣ b := by
  by_cases ha : p ∣ a
  · exact Or.inl ha
  · exact Or.inr ((ec_cop hp ha).dvd_of_dvd_mul_left h)
theorem ec_powgcd (n x : Nat) (a b : Nat) : x ^ a % n = 1 % n → x ^ b % n = 1 % n → x ^ (Nat.gcd a b) % n = 1 % n := by
  induction a, b using Nat.gcd.induction with
  | H0 b => intro _ h; rw [Nat.gcd_zero_left]; exact h
  | H1 a b ha ih =>
    intro h1 h2
    rw [Nat.gcd_rec]
    refine ih ?_ h1
    have e : x ^ b = (x ^ a) ^ (b / a) * x ^ (b % a) := by
      rw [← Nat.pow_mul, ← Nat.pow_add, Nat.div_add_mod]
    have e2 : (x ^ a) ^ (b / a) % n = 1 % n := by
      rw [Nat.pow_mod, h1, ← Nat.pow_mod, Nat.one_pow]
    rw [e, Nat.mul_mod, e2, ← Nat.mul_mod, Nat.one_mul] at h2
    exact h2
def ec_pr : List Nat → Nat
  | [] => 1
  | a :: l => a * ec_pr l
theorem ec_pr_perm {l l' : List Nat} (h : l.Perm l') : ec_pr l = ec_pr l' := by
  induction h with
  | nil => rfl
  | cons x _ ih => simp only [ec_pr, ih]
  | swap x y l => simp only [ec_pr]; exact Nat.mul_left_comm _ _ _
  | trans _ _ h1 h2 => exact h1.trans h2
theorem ec_perm_of : ∀ (l l' : List Nat), l.Nodup → (∀ x ∈ l, x ∈ l') → l'.length ≤ l.length → l.Perm l'
  | [], l', _, _, hl => by
    have h0 : l' = [] := List.eq_nil_of_length_eq_zero (Nat.le_zero.mp hl)
    subst h0
    exact List.Perm.nil
  | a :: t, l', hn, hs, hl => by
    have ha : a ∈ l' := hs a List.mem_cons_self
    have hp := List.perm_cons_erase ha
    have hn' := List.nodup_cons.mp hn
    refine (List.Perm.cons a (ec_perm_of t (l'.erase a) hn'.2 ?_ ?_)).trans hp.symm
    · intro x hx
      have hxa : x ≠ a := fun e => hn'.1 (e ▸ hx)
      exact (List.mem_erase_of_ne hxa).mpr (hs x (List.mem_cons_of_mem _ hx))
    · rw [List.length_erase_of_mem ha]
      simp only [List.length_cons] at hl
      omega
theorem ec_modsub {p x y : Nat} (hxy : x ≤ y) (h : x % p = y % p) : p ∣ y - x := by
  refine Nat.dvd_of_mod_eq_zero ?_
  exact Nat.sub_mod_eq_zero_of_mod_eq h.symm
theorem ec_inj1 {p a x y : Nat} (hp : ec_prime p) (ha : ¬ p ∣ a) (hxy : x ≤ y) (hy : y < p) (h : a * x % p = a * y % p) : x = y := by
  have h1 := ec_modsub (Nat.mul_le_mul_left a hxy) h
  rw [← Nat.mul_sub] at h1
  rcases ec_euclid hp h1 with h2 | h2
  · exact absurd h2 ha
  · have h3 := Nat.eq_zero_of_dvd_of_lt h2 (by omega)
    omega
theorem ec_inj {p a x y : Nat} (hp : ec_prime p) (ha : ¬ p ∣ a) (hx : x < p) (hy : y < p) (h : a * x % p = a * y % p) : x = y := by
  rcases Nat.le_total x y with h1 | h1
  · exact ec_inj1 hp ha h1 hy h
  · exact (ec_inj1 hp ha h1 hx h.symm).symm
theorem ec_prmap (p a : Nat) : ∀ l : List Nat, ec_pr (l.map (fun i => a * i % p)) % p = a ^ l.length * ec_pr l % p
  | [] => by simp [ec_pr]
  | b :: l => by
    have ih := ec_prmap p a l
    simp only [List.map_cons, ec_pr, List.length_cons]
    rw [Nat.mul_mod, Nat.mod_mod, ih, ← Nat.mul_mod, Nat.pow_succ]
    congr 1
    rw [Nat.mul_mul_mul_comm, Nat.mul_comm a (a ^ l.length), Nat.mul_comm b]
theorem ec_prcop {p : Nat} (hp : ec_prime p) : ∀ l : List Nat, (∀ x ∈ l, ¬ p ∣ x) → ¬ p ∣ ec_pr l
  | [], _ => by
    intro h
    have h1 : p ∣ 1 := h
    have h2 := Nat.le_of_dvd (by decide) h1
    have h3 := hp.1
    omega
  | b :: l, hl => by
    intro h
    rcases ec_euclid hp h with h1 | h1
    · exact hl b List.mem_cons_self h1
    · exact ec_prcop hp l (fun x hx => hl x (List.mem_cons_of_mem _ hx)) h1
theorem ec_cancel {p u q : Nat} (hp : ec_prime p) (hq : ¬ p ∣ q) (h : u * q % p = q % p) : u % p = 1 % p := by
  have hu : 1 ≤ u := by
    rcases Nat.eq_zero_or_pos u with h0 | h0
    · subst h0
      rw [Nat.zero_mul, Nat.zero_mod] at h
      exact absurd (Nat.dvd_of_mod_eq_zero h.symm) hq
    · exact h0
  have h1 : p ∣ u * q - 1 * q := ec_modsub (Nat.mul_le_mul_right q hu) (by rw [Nat.one_mul]; exact h.symm)
  rw [← Nat.sub_mul] at h1
  rcases ec_euclid hp h1 with h2 | h2
  · obtain ⟨k, hk⟩ := h2
    have h3 : u = 1 + p * k := by omega
    rw [h3, Nat.add_mul_mod_self_left]
  · exact absurd h2 hq
theorem ec_fermat {p a : Nat} (hp : ec_prime p) (ha : ¬ p ∣ a) : a ^ (p - 1) % p = 1 := by
  have h2 := hp.1
  have hL : ∀ x, x ∈ List.range' 1 (p - 1) ↔ 1 ≤ x ∧ x < p := by
    intro x
    rw [List.mem_range'_1]
    omega
  have hnd : ((List.range' 1 (p - 1)).map (fun i => a * i % p)).Nodup := by
    unfold List.Nodup
    rw [List.pairwise_map]
    have hd : (List.range' 1 (p - 1)).Nodup := List.nodup_range'
    refine List.Pairwise.imp_of_mem ?_ hd
    intro x y hx hy hne he
    exact hne (ec_inj hp ha ((hL x).mp hx).2 ((hL y).mp hy).2 he)
  have hperm := ec_perm_of _ (List.range' 1 (p - 1)) hnd (by
    intro x hx
    obtain ⟨i, hi, rfl⟩ := List.mem_map.mp hx
    have hi' := (hL i).mp hi
    refine (hL _).mpr ⟨?_, Nat.mod_lt _ (by omega)⟩
    rcases Nat.eq_zero_or_pos (a * i % p) with h0 | h0
    · rcases ec_euclid hp (Nat.dvd_of_mod_eq_zero h0) with h1 | h1
      · exact absurd h1 ha
      · have := Nat.le_of_dvd (by omega) h1
        omega
    · exact h0) (by simp)
  have h3 := ec_prmap p a (List.range' 1 (p - 1))
  rw [ec_pr_perm hperm, List.length_range'] at h3
  have h4 := ec_cancel hp (ec_prcop hp _ (fun x hx => fun hd => by
    have hx' := (hL x).mp hx
    have := Nat.le_of_dvd (by omega) hd
    omega)) h3.symm
  rw [h4, Nat.mod_eq_of_lt (by omega)]
theorem ec_pock {n q a p : Nat} (hn : 2 ≤ n) (hq : ec_prime q) (hqn : q ∣ n - 1) (h1 : a ^ (n - 1) % n = 1) (hg : Nat.gcd (a ^ ((n - 1) / q) % n + (n - 1)) n = 1) (hp : ec_prime p) (hpn : p ∣ n) : q ∣ p - 1 := by
  by_cases hd : q ∣ p - 1
  · exact hd
  have hp2 := hp.1
  have hq2 := hq.1
  have hgc : Nat.gcd q (p - 1) = 1 := ec_cop hq hd
  have hxq : (a ^ ((n - 1) / q)) ^ q % p = 1 % p := by
    rw [← Nat.pow_mul, Nat.div_mul_cancel hqn, ← Nat.mod_mod_of_dvd _ hpn, h1]
  have hpx : ¬ p ∣ a ^ ((n - 1) / q) := by
    intro h
    have h3 : p ∣ (a ^ ((n - 1) / q)) ^ q := Nat.dvd_trans h ⟨(a ^ ((n - 1) / q)) ^ (q - 1), by rw [← Nat.pow_succ']; congr 1; omega⟩
    rw [Nat.mod_eq_zero_of_dvd h3, Nat.mod_eq_of_lt (by omega)] at hxq
    exact absurd hxq (by decide)
  have hf := ec_fermat hp hpx
  have h4 := ec_powgcd p (a ^ ((n - 1) / q)) q (p - 1) hxq (by rw [hf, Nat.mod_eq_of_lt (by omega)])
  rw [hgc, Nat.pow_one, Nat.mod_eq_of_lt (a := 1) (by omega)] at h4
  have h5 : a ^ ((n - 1) / q) % n % p = 1 := by rw [Nat.mod_mod_of_dvd _ hpn]; exact h4
  obtain ⟨m, hm⟩ := hpn
  have h6 := Nat.div_add_mod (a ^ ((n - 1) / q) % n) p
  rw [h5] at h6
  have h7 : p ∣ a ^ ((n - 1) / q) % n + (n - 1) := by
    refine ⟨(a ^ ((n - 1) / q) % n) / p + m, ?_⟩
    rw [Nat.mul_add, ← hm]
    omega
  have h8 := Nat.dvd_gcd h7 ⟨m, hm⟩
  rw [hg] at h8
  have := Nat.le_of_dvd (by decide) h8
  omega
theorem ec_hasprime (n : Nat) (h : 2 ≤ n) : ∃ p, ec_prime p ∧ p ∣ n := by
  induction n using Nat.strongRecOn with
  | ind n ih =>
    by_cases hn : ∀ d, d ∣ n → d = 1 ∨ d = n
    · exact ⟨n, ⟨h, hn⟩, Nat.dvd_refl n⟩
    · obtain ⟨d, hd⟩ := Classical.not_forall.mp hn
      obtain ⟨hd1, hd2⟩ := Classical.not_imp.mp hd
      have hle := Nat.le_of_dvd (by omega) hd1
      have hd0 : d ≠ 0 := by
        intro h0
        subst h0
        have := Nat.eq_zero_of_zero_dvd hd1
        omega
      obtain ⟨p, hp, hpd⟩ := ih d (by omega) (by omega)
      exact ⟨p, hp, Nat.dvd_trans hpd hd1⟩
theorem ec_prime_of {n : Nat} (h2 : 2 ≤ n) (h : ∀ p, ec_prime p → p ∣ n → n < p * p) : ec_prime n := by
  have key : ∀ d e, n = d * e → d ≤ e → d = 1 ∨ d = n := by
    intro d e hde hle
    rcases Nat.lt_or_ge d 2 with hd | hd
    · rcases Nat.eq_zero_or_pos d with h0 | h0
      · subst h0
        rw [Nat.zero_mul] at hde
        omega
      · exact Or.inl (by omega)
    · obtain ⟨p, hp, hpd⟩ := ec_hasprime d hd
      have h3 := h p hp (Nat.dvd_trans hpd ⟨e, hde⟩)
      have h4 := Nat.le_of_dvd (by omega) hpd
      have h5 := Nat.mul_le_mul h4 (Nat.le_trans h4 hle)
      omega
  refine ⟨h2, fun d hd => ?_⟩
  obtain ⟨e, he⟩ := hd
  rcases Nat.le_total d e with hle | hle
  · exact key d e he hle
  · rcases key e d (by rw [he, Nat.mul_comm]) hle with h1 | h1
    · subst h1
      exact Or.inr (by omega)
    · have h3 : n = d * n := by rw [h1] at he; exact he
      have h4 : d * n = 1 * n := by omega
      exact Or.inl (Nat.eq_of_mul_eq_mul_right (by omega) h4)
/-- trial division up to k -/
def ec_tr (n : Nat) : Nat → Bool
  | 0 => true
  | k + 1 => (Nat.ble (k + 1) 1 || !(Nat.beq (n % (k + 1)) 0)) && ec_tr n k
theorem ec_tr_spec (n : Nat) : ∀ k, ec_tr n k = true → ∀ d, 2 ≤ d → d ≤ k → ¬ d ∣ n
  | 0, _, d, h2, hk => by omega
  | k + 1, h, d, h2, hk => by
    simp only [ec_tr, Bool.and_eq_true, Bool.or_eq_true, Bool.not_eq_true'] at h
    by_cases hd : d = k + 1
    · subst hd
      intro hdv
      rcases h.1 with h1 | h1
      · have := Nat.le_of_ble_eq_true h1
        omega
      · rw [Nat.mod_eq_zero_of_dvd hdv] at h1
        cases h1
    · exact ec_tr_spec n k h.2 d h2 (by omega)
theorem ec_small {n : Nat} (k : Nat) (h2 : 2 ≤ n) (hk : n < (k + 1) * (k + 1)) (h : ec_tr n k = true) : ec_prime n := by
  refine ec_prime_of h2 fun p hp hd => ?_
  rcases Nat.lt_or_ge k p with h1 | h1
  · have := Nat.mul_le_mul (show k + 1 ≤ p from h1) (show k + 1 ≤ p from h1)
    omega
  · exact absurd hd (ec_tr_spec n k h p hp.1 h1)
/-- power by squaring, for the kernel -/
def ec_mp (n : Nat) : Nat → Nat → Nat → Nat
  | 0, _, _ => 1 % n
  | f + 1, a, e => if e % 2 = 1 then (a * ec_mp n f (a * a % n) (e / 2)) % n else ec_mp n f (a * a % n) (e / 2)
theorem ec_mp_spec (n : Nat) : ∀ (f a e : Nat), e < 2 ^ f → ec_mp n f a e = a ^ e % n
  | 0, a, e, h => by
    have h0 : e = 0 := by omega
    subst h0
    rfl
  | f + 1, a, e, h => by
    have hlt : e / 2 < 2 ^ f := by
      rw [Nat.pow_succ] at h
      omega
    have ih := ec_mp_spec n f (a * a % n) (e / 2) hlt
    have e1 : (a * a % n) ^ (e / 2) % n = (a ^ (2 * (e / 2))) % n := by
      rw [← Nat.pow_mod, Nat.pow_mul, Nat.pow_two]
    simp only [ec_mp]
    rw [ih, e1]
    by_cases hp : e % 2 = 1
    · rw [if_pos hp]
      have he : a ^ e = a * a ^ (2 * (e / 2)) := by
        rw [← Nat.pow_succ']
        congr 1
        omega
      rw [he, Nat.mul_mod, Nat.mod_mod, ← Nat.mul_mod]
    · rw [if_neg hp]
      congr 2
      omega
theorem ec_pockC {n q a p : Nat} (f : Nat) (hn : 2 ≤ n) (hq : ec_prime q) (h : (n - 1) % q = 0 ∧ n - 1 < 2 ^ f ∧ (n - 1) / q < 2 ^ f ∧ ec_mp n f a (n - 1) = 1 ∧ Nat.gcd (ec_mp n f a ((n - 1) / q) + (n - 1)) n = 1) (hp : ec_prime p) (hpn : p ∣ n) : q ∣ p - 1 := by
  obtain ⟨h1, h2, h3, h4, h5⟩ := h
  rw [ec_mp_spec n f a _ h2] at h4
  rw [ec_mp_spec n f a _ h3] at h5
  exact ec_pock hn hq (Nat.dvd_of_mod_eq_zero h1) h4 h5 hp hpn
theorem ec_bigdiv {n q : Nat} (hn : 2 ≤ n) (hq : n < q * q) (h : ∀ p, ec_prime p → p ∣ n → q ∣ p - 1) : ec_prime n := by
  refine ec_prime_of hn fun p hp hd => ?_
  have h1 := Nat.le_of_dvd (by have := hp.1; omega) (h p hp hd)
  have h2 := Nat.mul_le_mul (show q ≤ p by omega) (show q ≤ p by omega)
  omega
theorem ec_pr5 : ec_prime 20113 := ec_small 142 (by decide) (by decide) (by decide +kernel)
theorem ec_pr4 : ec_prime 1206781 := ec_bigdiv (q := 20113) (by decide) (by decide) (fun p hp hd => ec_pockC (a := 2) 21 (by decide) ec_pr5 (by decide +kernel) hp hd)
theorem ec_pr3 : ec_prime 7240687 := ec_bigdiv (q := 1206781) (by decide) (by decide) (fun p hp hd => ec_pockC (a := 2) 23 (by decide) ec_pr4 (by decide +kernel) hp hd)
theorem ec_pr2 : ec_prime 96557 := ec_small 311 (by decide) (by decide) (by decide +kernel)
theorem ec_pr53 : ec_prime 53 := ec_small 8 (by decide) (by decide) (by decide +kernel)
theorem ec_pr29 : ec_prime 29 := ec_small 6 (by decide) (by decide) (by decide +kernel)
theorem ec_pr7 : ec_prime 7 := ec_small 3 (by decide) (by decide) (by decide +kernel)
theorem ec_pr1 : ec_prime 107590001 := ec_bigdiv (q := 53 * 29 * 7) (by decide) (by decide) (fun p hp hd =>
  Nat.Coprime.mul_dvd_of_dvd_of_dvd (by decide) (Nat.Coprime.mul_dvd_of_dvd_of_dvd (by decide) (ec_pockC (a := 2) 27 (by decide) ec_pr53 (by decide +kernel) hp hd) (ec_pockC (a := 2) 27 (by decide) ec_pr29 (by decide +kernel) hp hd)) (ec_pockC (a := 2) 27 (by decide) ec_pr7 (by decide +kernel) hp hd))
def ec_b : Nat := 255515944373312847190720520512484175977
def ec_q : Nat := 205115282021455665897114700593932402728804164701536103180137503955397371
def ec_P : Nat := 115792089237316195423570985008687907853269984665640564039457584007908834671663
theorem ec_prb : ec_prime ec_b := ec_bigdiv (q := 107590001 * 7240687 * 96557) (by decide +kernel) (by decide +kernel) (fun p hp hd =>
  Nat.Coprime.mul_dvd_of_dvd_of_dvd (by decide +kernel) (Nat.Coprime.mul_dvd_of_dvd_of_dvd (by decide +kernel) (ec_pockC (a := 2) 128 (by decide +kernel) ec_pr1 (by decide +kernel) hp hd) (ec_pockC (a := 2) 128 (by decide +kernel) ec_pr3 (by decide +kernel) hp hd)) (ec_pockC (a := 2) 128 (by decide +kernel) ec_pr2 (by decide +kernel) hp hd))
theorem ec_prq : ec_prime ec_q := ec_bigdiv (q := ec_b) (by decide +kernel) (by decide +kernel) (fun p hp hd => ec_pockC (a := 2) 237 (by decide +kernel) ec_prb (by decide +kernel) hp hd)
/-- the first modulus is prime -/
theorem ec_prP : ec_prime ec_P := ec_bigdiv (q := ec_q) (by decide +kernel) (by decide +kernel) (fun p hp hd => ec_pockC (a := 2) 256 (by decide +kernel) ec_prq (by decide +kernel) hp hd)
theorem ec_fermatP {a : Nat} (h : a % ec_P ≠ 0) : a ^ (ec_P - 1) % ec_P = 1 := ec_fermat ec_prP (fun hd => h (Nat.mod_eq_zero_of_dvd hd))
end
section
/-! the sum of points: an identity of those that make it associative -/
set_option maxRecDepth 20000 in
set_option maxHeartbeats 4000000 in
theorem ec_idx00 {F : Type} [Lean.Grind.CommRing F] (x1 x2 x3 y2 l n : F) (h1 : x1*x1 + x1*x2 + x2*x2 - l*(2*y2 + l*(x1 - x2)) = 0) (h3 : x3*x3 + x3*x2 + x2*x2 - n*(2*y2 + n*(x3 - x2)) = 0) : ((y2 + n*(x3 - x2)) - (l*(x1 - (l*l - x1 - x2)) - (y2 + l*(x1 - x2))))*((y2 + n*(x3 - x2)) - (l*(x1 - (l*l - x1 - x2)) - (y2 + l*(x1 - x2))))*(((n*n - x2 - x3) - x1)*((n*n - x2 - x3) - x1)) - ((n*(x2 - (n*n - x2 - x3)) - y2) - (y2 + l*(x1 - x2)))*((n*(x2 - (n*n - x2 - x3)) - y2) - (y2 + l*(x1 - x2)))*((x3 - (l*l - x1 - x2))*(x3 - (l*l - x1 - x2))) - (x3 + (l*l - x1 - x2) - x1 - (n*n - x2 - x3))*((x3 - (l*l - x1 - x2))*(x3 - (l*l - x1 - x2)))*(((n*n - x2 - x3) - x1)*((n*n - x2 - x3) - x1)) = 0 := by
  have e : ((y2 + n*(x3 - x2)) - (l*(x1 - (l*l - x1 - x2)) - (y2 + l*(x1 - x2))))*((y2 + n*(x3 - x2)) - (l*(x1 - (l*l - x1 - x2)) - (y2 + l*(x1 - x2))))*(((n*n - x2 - x3) - x1)*((n*n - x2 - x3) - x1)) - ((n*(x2 - (n*n - x2 - x3)) - y2) - (y2 + l*(x1 - x2)))*((n*(x2 - (n*n - x2 - x3)) - y2) - (y2 + l*(x1 - x2)))*((x3 - (l*l - x1 - x2))*(x3 - (l*l - x1 - x2))) - (x3 + (l*l - x1 - x2) - x1 - (n*n - x2 - x3))*((x3 - (l*l - x1 - x2))*(x3 - (l*l - x1 - x2)))*(((n*n - x2 - x3) - x1)*((n*n - x2 - x3) - x1)) = ((((((2*x1*x1*x1 + 6*x1*x1*x3) + (6*x1*x1*x2 + (-(3*x1*x1*l*l) + -(3*x1*x1*n*n)))) + ((4*x1*x3*x3 + (10*x1*x3*x2 + -(6*x1*x3*l*l))) + (-(4*x1*x3*n*n) + (4*x1*x2*x2 + -(3*x1*x2*l*l))))) + (((6*x1*x2*l*n + -(5*x1*x2*n*n)) + (-(4*x1*y2*l) + (x1*l*l*l*l + 3*x1*l*l*n*n))) + ((-(2*x1*l*n*n*n) + (-(4*x3*x3*x3) + -(4*x3*x3*x2))) + (-(2*x3*x3*l*l) + (6*x3*x3*n*n + -(4*x3*x2*x2)))))) + ((((-(2*x3*x2*l*l) + 6*x3*x2*l*n) + (-(2*x3*x2*n*n) + (-(4*x3*y2*l) + 8*x3*y2*n))) + ((-(2*x3*l*l*l*n) + (2*x3*l*l*n*n + -(2*x3*n*n*n*n))) + (-(2*x2*x2*x2) + (x2*x2*l*l + 6*x2*x2*l*n)))) + (((-(x2*x2*n*n) + (-(4*x2*y2*l) + 4*x2*y2*n)) + (-(x2*l*l*l*l) + (-(4*x2*l*l*l*n) + x2*l*l*n*n))) + ((-(4*x2*l*n*n*n) + (2*x2*n*n*n*n + 2*y2*l*l*l)) + (2*y2*l*n*n + (-(4*y2*n*n*n) + 2*l*l*l*n*n*n)))))))*(x1*x1 + x1*x2 + x2*x2 - l*(2*y2 + l*(x1 - x2))) + ((((((-(6*x1*x3*x3) + -(6*x1*x3*x2)) + (6*x1*x3*n*n + -(6*x1*x2*l*n))) + ((4*x1*y2*n + 2*x1*l*n*n*n) + (-(2*x3*x3*x3) + -(6*x3*x3*x2)))) + (((3*x3*x3*l*l + 3*x3*x3*n*n) + (9*x3*x2*l*l + -(6*x3*x2*l*n))) + ((3*x3*x2*n*n + -(8*x3*y2*l)) + (4*x3*y2*n + 2*x3*l*l*l*n)))) + ((((-(3*x3*l*l*n*n) + -(x3*n*n*n*n)) + (2*x2*x2*x2 + 3*x2*x2*l*l)) + ((-(6*x2*x2*l*n) + -(3*x2*x2*n*n)) + (-(4*x2*y2*l) + 4*x2*y2*n))) + (((4*x2*l*l*l*n + -(3*x2*l*l*n*n)) + (4*x2*l*n*n*n + x2*n*n*n*n)) + ((-(2*y2*l*l*n) + 4*y2*l*n*n) + (-(2*y2*n*n*n) + -(2*l*l*l*n*n*n)))))))*(x3*x3 + x3*x2 + x2*x2 - n*(2*y2 + n*(x3 - x2))) := by grind
  rw [e, h1, h3]
  grind
end
section
/-! the sum of points: an identity of those that make it associative -/
set_option maxRecDepth 20000 in
set_option maxHeartbeats 4000000 in
theorem ec_idy00 {F : Type} [Lean.Grind.CommRing F] (x1 x2 x3 y2 l n : F) (h1 : x1*x1 + x1*x2 + x2*x2 - l*(2*y2 + l*(x1 - x2)) = 0) (h3 : x3*x3 + x3*x2 + x2*x2 - n*(2*y2 + n*(x3 - x2)) = 0) : ((y2 + n*(x3 - x2)) - (l*(x1 - (l*l - x1 - x2)) - (y2 + l*(x1 - x2))))*((n*n - x2 - x3) - x1)*(2*x3 + (l*l - x1 - x2))*((x3 - (l*l - x1 - x2))*(x3 - (l*l - x1 - x2))) - ((y2 + n*(x3 - x2)) - (l*(x1 - (l*l - x1 - x2)) - (y2 + l*(x1 - x2))))*((y2 + n*(x3 - x2)) - (l*(x1 - (l*l - x1 - x2)) - (y2 + l*(x1 - x2))))*((y2 + n*(x3 - x2)) - (l*(x1 - (l*l - x1 - x2)) - (y2 + l*(x1 - x2))))*((n*n - x2 - x3) - x1) - (y2 + n*(x3 - x2))*((x3 - (l*l - x1 - x2))*(x3 - (l*l - x1 - x2))*(x3 - (l*l - x1 - x2)))*((n*n - x2 - x3) - x1) - ((n*(x2 - (n*n - x2 - x3)) - y2) - (y2 + l*(x1 - x2)))*(x3 - (l*l - x1 - x2))*((x1 + x3 + (l*l - x1 - x2))*((x3 - (l*l - x1 - x2))*(x3 - (l*l - x1 - x2))) - ((y2 + n*(x3 - x2)) - (l*(x1 - (l*l - x1 - x2)) - (y2 + l*(x1 - x2))))*((y2 + n*(x3 - x2)) - (l*(x1 - (l*l - x1 - x2)) - (y2 + l*(x1 - x2))))) + (y2 + l*(x1 - x2))*((x3 - (l*l - x1 - x2))*(x3 - (l*l - x1 - x2))*(x3 - (l*l - x1 - x2)))*((n*n - x2 - x3) - x1) = 0 := by
  have e : ((y2 + n*(x3 - x2)) - (l*(x1 - (l*l - x1 - x2)) - (y2 + l*(x1 - x2))))*((n*n - x2 - x3) - x1)*(2*x3 + (l*l - x1 - x2))*((x3 - (l*l - x1 - x2))*(x3 - (l*l - x1 - x2))) - ((y2 + n*(x3 - x2)) - (l*(x1 - (l*l - x1 - x2)) - (y2 + l*(x1 - x2))))*((y2 + n*(x3 - x2)) - (l*(x1 - (l*l - x1 - x2)) - (y2 + l*(x1 - x2))))*((y2 + n*(x3 - x2)) - (l*(x1 - (l*l - x1 - x2)) - (y2 + l*(x1 - x2))))*((n*n - x2 - x3) - x1) - (y2 + n*(x3 - x2))*((x3 - (l*l - x1 - x2))*(x3 - (l*l - x1 - x2))*(x3 - (l*l - x1 - x2)))*((n*n - x2 - x3) - x1) - ((n*(x2 - (n*n - x2 - x3)) - y2) - (y2 + l*(x1 - x2)))*(x3 - (l*l - x1 - x2))*((x1 + x3 + (l*l - x1 - x2))*((x3 - (l*l - x1 - x2))*(x3 - (l*l - x1 - x2))) - ((y2 + n*(x3 - x2)) - (l*(x1 - (l*l - x1 - x2)) - (y2 + l*(x1 - x2))))*((y2 + n*(x3 - x2)) - (l*(x1 - (l*l - x1 - x2)) - (y2 + l*(x1 - x2))))) + (y2 + l*(x1 - x2))*((x3 - (l*l - x1 - x2))*(x3 - (l*l - x1 - x2))*(x3 - (l*l - x1 - x2)))*((n*n - x2 - x3) - x1) = ((((((-(2*x1*x1*x1*l) + (-(4*x1*x1*x3*l) + 2*x1*x1*x3*n)) + ((-(8*x1*x1*x2*l) + -(2*x1*x1*x2*n)) + (2*x1*x1*y2 + 4*x1*x1*l*l*l))) + (((2*x1*x1*l*n*n + 4*x1*x3*x3*n) + (-(10*x1*x3*x2*l) + 4*x1*x3*y2)) + ((7*x1*x3*l*l*l + x1*x3*l*l*n) + (3*x1*x3*l*n*n + -(x1*x3*n*n*n))))) + ((((-(8*x1*x2*x2*l) + -(4*x1*x2*x2*n)) + (4*x1*x2*y2 + 9*x1*x2*l*l*l)) + ((-(x1*x2*l*l*n) + 5*x1*x2*l*n*n) + (x1*x2*n*n*n + 2*x1*y2*l*l))) + (((-(2*x1*y2*n*n) + -(2*x1*l*l*l*l*l)) + (-(4*x1*l*l*l*n*n) + 4*x3*x3*x3*l)) + ((6*x3*x3*x2*l + 2*x3*x3*x2*n) + (-(2*x3*x3*l*l*n) + -(6*x3*x3*l*n*n)))))) + ((((2*x3*x2*x2*l + (-(2*x3*x2*x2*n) + 2*x3*x2*y2)) + ((8*x3*x2*l*l*l + 6*x3*x2*l*l*n) + (6*x3*x2*l*n*n + -(2*x3*x2*n*n*n)))) + (((-(2*x3*y2*l*l) + -(12*x3*y2*l*n)) + (-(3*x3*l*l*l*l*l) + -(3*x3*l*l*l*l*n))) + ((-(3*x3*l*l*l*n*n) + x3*l*l*n*n*n) + (2*x3*l*n*n*n*n + 2*x2*x2*x2*l)))) + ((((2*x2*x2*l*l*l + -(4*x2*x2*l*l*n)) + (2*x2*x2*l*n*n + 2*x2*x2*n*n*n)) + ((6*x2*y2*l*l + -(4*x2*y2*n*n)) + (-(x2*l*l*l*l*l) + 3*x2*l*l*l*l*n))) + (((-(5*x2*l*l*l*n*n) + -(x2*l*l*n*n*n)) + (-(2*x2*l*n*n*n*n) + -(4*y2*y2*l))) + ((-(4*y2*l*l*l*l) + 2*y2*l*l*n*n) + (4*y2*l*n*n*n + 2*l*l*l*l*l*n*n)))))))*(x1*x1 + x1*x2 + x2*x2 - l*(2*y2 + l*(x1 - x2))) + ((((((2*x1*x3*x3*l + (-(4*x1*x3*x3*n) + 8*x1*x3*x2*l)) + (2*x1*x3*x2*n + (-(4*x1*x3*y2) + -(3*x1*x3*l*l*l)))) + ((-(3*x1*x3*l*l*n) + (-(5*x1*x3*l*n*n) + x1*x3*n*n*n)) + ((2*x1*x2*x2*l + 2*x1*x2*x2*n) + (-(2*x1*x2*y2) + -(3*x1*x2*l*l*l))))) + (((3*x1*x2*l*l*n + (-(x1*x2*l*n*n) + -(x1*x2*n*n*n))) + ((-(4*x1*y2*l*n) + 2*x1*y2*n*n) + (2*x1*l*l*l*n*n + -(2*x3*x3*x3*n)))) + ((4*x3*x3*x2*l + (-(2*x3*x3*x2*n) + -(2*x3*x3*y2))) + ((-(2*x3*x3*l*l*l) + 2*x3*x3*l*l*n) + (2*x3*x3*n*n*n + 4*x3*x2*x2*l))))) + ((((4*x3*x2*x2*n + (-(4*x3*x2*y2) + -(14*x3*x2*l*l*l))) + (-(4*x3*x2*l*l*n) + (-(10*x3*x2*l*n*n) + -(2*x3*x2*n*n*n)))) + ((10*x3*y2*l*l + (6*x3*y2*n*n + 3*x3*l*l*l*l*l)) + ((3*x3*l*l*l*l*n + 5*x3*l*l*l*n*n) + (-(x3*l*l*n*n*n) + -(2*x2*x2*x2*l))))) + (((-(8*x2*x2*l*l*l) + (2*x2*x2*l*l*n + 4*x2*x2*l*n*n)) + ((8*x2*y2*l*l + -(8*x2*y2*l*n)) + (-(2*x2*y2*n*n) + 3*x2*l*l*l*l*l))) + ((-(3*x2*l*l*l*l*n) + (5*x2*l*l*l*n*n + x2*l*l*n*n*n)) + ((4*y2*y2*n + 4*y2*l*l*l*n) + (-(6*y2*l*l*n*n) + -(2*l*l*l*l*l*n*n))))))))*(x3*x3 + x3*x2 + x2*x2 - n*(2*y2 + n*(x3 - x2))) := by grind
  rw [e, h1, h3]
  grind
end
section
/-! the sum of points: an identity of those that make it associative -/
set_option maxRecDepth 20000 in
set_option maxHeartbeats 4000000 in
theorem ec_idx01 {F : Type} [Lean.Grind.CommRing F] (x1 x2 x3 y2 l n : F) (h1 : x1*x1 + x1*x2 + x2*x2 - l*(2*y2 + l*(x1 - x2)) = 0) (h3 : x3*x3 + x3*x2 + x2*x2 - n*(2*y2 + n*(x3 - x2)) = 0) : ((y2 + n*(x3 - x2)) - (l*(x1 - (l*l - x1 - x2)) - (y2 + l*(x1 - x2))))*((y2 + n*(x3 - x2)) - (l*(x1 - (l*l - x1 - x2)) - (y2 + l*(x1 - x2))))*(((y2 + l*(x1 - x2)) + (n*(x2 - (n*n - x2 - x3)) - y2))*((y2 + l*(x1 - x2)) + (n*(x2 - (n*n - x2 - x3)) - y2))) - (x1*x1 + x1*(n*n - x2 - x3) + (n*n - x2 - x3)*(n*n - x2 - x3))*(x1*x1 + x1*(n*n - x2 - x3) + (n*n - x2 - x3)*(n*n - x2 - x3))*((x3 - (l*l - x1 - x2))*(x3 - (l*l - x1 - x2))) - (x3 + (l*l - x1 - x2) - x1 - (n*n - x2 - x3))*((x3 - (l*l - x1 - x2))*(x3 - (l*l - x1 - x2)))*(((y2 + l*(x1 - x2)) + (n*(x2 - (n*n - x2 - x3)) - y2))*((y2 + l*(x1 - x2)) + (n*(x2 - (n*n - x2 - x3)) - y2))) = 0 := by
  have e : ((y2 + n*(x3 - x2)) - (l*(x1 - (l*l - x1 - x2)) - (y2 + l*(x1 - x2))))*((y2 + n*(x3 - x2)) - (l*(x1 - (l*l - x1 - x2)) - (y2 + l*(x1 - x2))))*(((y2 + l*(x1 - x2)) + (n*(x2 - (n*n - x2 - x3)) - y2))*((y2 + l*(x1 - x2)) + (n*(x2 - (n*n - x2 - x3)) - y2))) - (x1*x1 + x1*(n*n - x2 - x3) + (n*n - x2 - x3)*(n*n - x2 - x3))*(x1*x1 + x1*(n*n - x2 - x3) + (n*n - x2 - x3)*(n*n - x2 - x3))*((x3 - (l*l - x1 - x2))*(x3 - (l*l - x1 - x2))) - (x3 + (l*l - x1 - x2) - x1 - (n*n - x2 - x3))*((x3 - (l*l - x1 - x2))*(x3 - (l*l - x1 - x2)))*(((y2 + l*(x1 - x2)) + (n*(x2 - (n*n - x2 - x3)) - y2))*((y2 + l*(x1 - x2)) + (n*(x2 - (n*n - x2 - x3)) - y2))) = (((((((-(x1*x1*x1*x1) + x1*x1*x1*x2) + (3*x1*x1*x1*l*l + -(2*x1*x1*x1*n*n))) + ((4*x1*x1*x3*l*n + 2*x1*x1*x3*n*n) + (-(3*x1*x1*x2*l*l) + (8*x1*x1*x2*l*n + 4*x1*x1*x2*n*n)))) + (((-(2*x1*x1*y2*l) + -(2*x1*x1*l*l*l*l)) + (3*x1*x1*l*l*n*n + -(4*x1*x1*l*n*n*n))) + ((-(3*x1*x1*n*n*n*n) + -(2*x1*x3*x3*x3)) + (-(6*x1*x3*x3*x2) + (4*x1*x3*x3*l*n + 6*x1*x3*x3*n*n))))) + ((((-(6*x1*x3*x2*x2) + 8*x1*x3*x2*l*n) + (14*x1*x3*x2*n*n + -(6*x1*x3*l*l*l*n))) + ((-(4*x1*x3*l*l*n*n) + -(2*x1*x3*l*n*n*n)) + (-(4*x1*x3*n*n*n*n) + (-(3*x1*x2*x2*x2) + -(3*x1*x2*x2*l*l))))) + (((10*x1*x2*x2*n*n + 4*x1*x2*y2*l) + (4*x1*x2*l*l*l*l + (-(6*x1*x2*l*l*l*n) + -(5*x1*x2*l*l*n*n)))) + ((4*x1*x2*l*n*n*n + -(5*x1*x2*n*n*n*n)) + (-(4*x1*y2*l*n*n) + (-(x1*l*l*l*l*n*n) + 4*x1*l*l*l*n*n*n)))))) + (((((3*x1*l*l*n*n*n*n + -(2*x1*l*n*n*n*n*n)) + (2*x3*x3*x3*x2 + -(2*x3*x3*x3*l*l))) + ((-(4*x3*x3*x3*l*n) + 6*x3*x3*x2*x2) + (-(16*x3*x3*x2*l*n) + (8*x3*x3*l*n*n*n + 6*x3*x2*x2*x2)))) + (((-(24*x3*x2*x2*l*n) + 2*x3*x2*x2*n*n) + (6*x3*x2*l*l*l*n + -(8*x3*x2*l*l*n*n))) + ((16*x3*x2*l*n*n*n + -(2*x3*x2*n*n*n*n)) + (4*x3*y2*l*l*n + (4*x3*y2*l*n*n + -(2*x3*l*l*l*n*n*n)))))) + ((((2*x3*l*l*n*n*n*n + -(4*x3*l*n*n*n*n*n)) + (3*x2*x2*x2*x2 + 5*x2*x2*x2*l*l)) + ((-(16*x2*x2*x2*l*n) + -(2*x2*x2*y2*l)) + (-(2*x2*x2*l*l*l*l) + (6*x2*x2*l*l*l*n + -(x2*x2*l*l*n*n))))) + (((8*x2*x2*l*n*n*n + -(x2*x2*n*n*n*n)) + (-(4*x2*y2*l*l*n) + (12*x2*y2*l*n*n + x2*l*l*l*l*n*n))) + ((-(8*x2*l*l*l*n*n*n) + x2*l*l*n*n*n*n) + (2*y2*l*l*l*n*n + (-(6*y2*l*n*n*n*n) + 2*l*l*l*n*n*n*n*n))))))))*(x1*x1 + x1*x2 + x2*x2 - l*(2*y2 + l*(x1 - x2))) + (((((((-(2*x1*x3*x3*l*l) + -(4*x1*x3*x3*l*n)) + (4*x1*x3*x2*l*l + -(4*x1*x3*x2*l*n))) + ((-(4*x1*x3*y2*l) + 2*x1*x3*l*l*l*n) + (2*x1*x3*l*n*n*n + (4*x1*x2*x2*l*l + 8*x1*x2*x2*l*n)))) + (((-(8*x1*x2*y2*l) + -(2*x1*x2*l*l*l*n)) + (-(6*x1*x2*l*l*n*n) + -(8*x1*x2*l*n*n*n))) + ((4*x1*y2*l*l*n + 4*x1*y2*l*n*n) + (2*x1*l*l*n*n*n*n + (2*x1*l*n*n*n*n*n + -(x3*x3*x3*x3)))))) + ((((-(5*x3*x3*x3*x2) + 2*x3*x3*x3*l*l) + (x3*x3*x3*n*n + -(9*x3*x3*x2*x2))) + ((8*x3*x3*x2*l*l + 4*x3*x3*x2*l*n) + (3*x3*x3*x2*n*n + (-(2*x3*x3*y2*n) + -(x3*x3*l*l*l*l))))) + (((-(3*x3*x3*l*l*n*n) + x3*x3*n*n*n*n) + (-(8*x3*x2*x2*x2) + 8*x3*x2*x2*l*l)) + ((16*x3*x2*x2*l*n + 6*x3*x2*x2*n*n) + (4*x3*x2*y2*l + (-(8*x3*x2*y2*n) + -(x3*x2*l*l*l*l))))))) + (((((-(2*x3*x2*l*l*l*n) + -(9*x3*x2*l*l*n*n)) + (-(8*x3*x2*l*n*n*n) + x3*x2*n*n*n*n)) + ((-(4*x3*y2*l*l*l) + -(4*x3*y2*l*l*n)) + (4*x3*y2*n*n*n + (3*x3*l*l*l*l*n*n + 2*x3*l*l*l*n*n*n)))) + (((x3*l*l*n*n*n*n + -(x3*n*n*n*n*n*n)) + (-(4*x2*x2*x2*x2) + -(6*x2*x2*x2*l*l))) + ((16*x2*x2*x2*l*n + 8*x2*x2*x2*n*n) + (8*x2*x2*y2*l + (-(8*x2*x2*y2*n) + -(x2*x2*l*l*l*l)))))) + ((((2*x2*x2*l*l*l*n + -(3*x2*x2*l*l*n*n)) + (-(16*x2*x2*l*n*n*n) + -(5*x2*x2*n*n*n*n))) + ((4*x2*y2*l*l*l + -(12*x2*y2*l*l*n)) + (-(4*x2*y2*l*n*n) + (8*x2*y2*n*n*n + 3*x2*l*l*l*l*n*n)))) + (((4*x2*l*l*l*n*n*n + 3*x2*l*l*n*n*n*n) + (4*x2*l*n*n*n*n*n + x2*n*n*n*n*n*n)) + ((-(2*y2*l*l*l*l*n) + 6*y2*l*l*n*n*n) + (-(2*y2*n*n*n*n*n) + (-(2*l*l*l*l*n*n*n*n) + -(2*l*l*l*n*n*n*n*n)))))))))*(x3*x3 + x3*x2 + x2*x2 - n*(2*y2 + n*(x3 - x2))) := by grind
  rw [e, h1, h3]
  grind
end
section
/-! the sum of points: an identity of those that make it associative -/
set_option maxRecDepth 20000 in
set_option maxHeartbeats 4000000 in
theorem ec_idy01 {F : Type} [Lean.Grind.CommRing F] (x1 x2 x3 y2 l n : F) (h1 : x1*x1 + x1*x2 + x2*x2 - l*(2*y2 + l*(x1 - x2)) = 0) (h3 : x3*x3 + x3*x2 + x2*x2 - n*(2*y2 + n*(x3 - x2)) = 0) : ((y2 + n*(x3 - x2)) - (l*(x1 - (l*l - x1 - x2)) - (y2 + l*(x1 - x2))))*((y2 + l*(x1 - x2)) + (n*(x2 - (n*n - x2 - x3)) - y2))*(2*x3 + (l*l - x1 - x2))*((x3 - (l*l - x1 - x2))*(x3 - (l*l - x1 - x2))) - ((y2 + n*(x3 - x2)) - (l*(x1 - (l*l - x1 - x2)) - (y2 + l*(x1 - x2))))*((y2 + n*(x3 - x2)) - (l*(x1 - (l*l - x1 - x2)) - (y2 + l*(x1 - x2))))*((y2 + n*(x3 - x2)) - (l*(x1 - (l*l - x1 - x2)) - (y2 + l*(x1 - x2))))*((y2 + l*(x1 - x2)) + (n*(x2 - (n*n - x2 - x3)) - y2)) - (y2 + n*(x3 - x2))*((x3 - (l*l - x1 - x2))*(x3 - (l*l - x1 - x2))*(x3 - (l*l - x1 - x2)))*((y2 + l*(x1 - x2)) + (n*(x2 - (n*n - x2 - x3)) - y2)) - (x1*x1 + x1*(n*n - x2 - x3) + (n*n - x2 - x3)*(n*n - x2 - x3))*(x3 - (l*l - x1 - x2))*((x1 + x3 + (l*l - x1 - x2))*((x3 - (l*l - x1 - x2))*(x3 - (l*l - x1 - x2))) - ((y2 + n*(x3 - x2)) - (l*(x1 - (l*l - x1 - x2)) - (y2 + l*(x1 - x2))))*((y2 + n*(x3 - x2)) - (l*(x1 - (l*l - x1 - x2)) - (y2 + l*(x1 - x2))))) + (y2 + l*(x1 - x2))*((x3 - (l*l - x1 - x2))*(x3 - (l*l - x1 - x2))*(x3 - (l*l - x1 - x2)))*((y2 + l*(x1 - x2)) + (n*(x2 - (n*n - x2 - x3)) - y2)) = 0 := by
  have e : ((y2 + n*(x3 - x2)) - (l*(x1 - (l*l - x1 - x2)) - (y2 + l*(x1 - x2))))*((y2 + l*(x1 - x2)) + (n*(x2 - (n*n - x2 - x3)) - y2))*(2*x3 + (l*l - x1 - x2))*((x3 - (l*l - x1 - x2))*(x3 - (l*l - x1 - x2))) - ((y2 + n*(x3 - x2)) - (l*(x1 - (l*l - x1 - x2)) - (y2 + l*(x1 - x2))))*((y2 + n*(x3 - x2)) - (l*(x1 - (l*l - x1 - x2)) - (y2 + l*(x1 - x2))))*((y2 + n*(x3 - x2)) - (l*(x1 - (l*l - x1 - x2)) - (y2 + l*(x1 - x2))))*((y2 + l*(x1 - x2)) + (n*(x2 - (n*n - x2 - x3)) - y2)) - (y2 + n*(x3 - x2))*((x3 - (l*l - x1 - x2))*(x3 - (l*l - x1 - x2))*(x3 - (l*l - x1 - x2)))*((y2 + l*(x1 - x2)) + (n*(x2 - (n*n - x2 - x3)) - y2)) - (x1*x1 + x1*(n*n - x2 - x3) + (n*n - x2 - x3)*(n*n - x2 - x3))*(x3 - (l*l - x1 - x2))*((x1 + x3 + (l*l - x1 - x2))*((x3 - (l*l - x1 - x2))*(x3 - (l*l - x1 - x2))) - ((y2 + n*(x3 - x2)) - (l*(x1 - (l*l - x1 - x2)) - (y2 + l*(x1 - x2))))*((y2 + n*(x3 - x2)) - (l*(x1 - (l*l - x1 - x2)) - (y2 + l*(x1 - x2))))) + (y2 + l*(x1 - x2))*((x3 - (l*l - x1 - x2))*(x3 - (l*l - x1 - x2))*(x3 - (l*l - x1 - x2)))*((y2 + l*(x1 - x2)) + (n*(x2 - (n*n - x2 - x3)) - y2)) = (((((((-(x1*x1*x1*x3) + (x1*x1*x1*x2 + 2*x1*x1*x1*l*l)) + (-(2*x1*x1*x3*x3) + (x1*x1*x3*x2 + 3*x1*x1*x3*l*l))) + ((-(2*x1*x1*x3*l*n) + (-(x1*x1*x3*n*n) + x1*x1*x2*x2)) + (3*x1*x1*x2*l*l + (8*x1*x1*x2*l*n + x1*x1*x2*n*n)))) + (((-(6*x1*x1*y2*l) + (-(4*x1*x1*l*l*l*l) + -(2*x1*x1*l*n*n*n))) + (-(x1*x3*x3*x3) + (x1*x3*x3*x2 + -(2*x1*x3*x3*n*n)))) + ((x1*x3*x2*x2 + (-(3*x1*x3*x2*l*l) + 10*x1*x3*x2*l*n)) + (-(3*x1*x3*x2*n*n) + (-(2*x1*x3*y2*l) + 2*x1*x3*y2*n))))) + ((((-(2*x1*x3*l*l*l*l) + (-(x1*x3*l*l*l*n) + -(5*x1*x3*l*n*n*n))) + (x1*x3*n*n*n*n + (-(x1*x2*x2*x2) + -(3*x1*x2*x2*l*l)))) + ((14*x1*x2*x2*l*n + (5*x1*x2*x2*n*n + -(4*x1*x2*y2*l))) + (-(8*x1*x2*y2*n) + (-(2*x1*x2*l*l*l*l) + -(11*x1*x2*l*l*l*n))))) + (((-(3*x1*x2*l*n*n*n) + (-(x1*x2*n*n*n*n) + 4*x1*y2*y2)) + (6*x1*y2*l*l*l + (-(4*x1*y2*l*n*n) + 2*x1*y2*n*n*n))) + ((2*x1*l*l*l*l*l*l + (4*x1*l*l*l*n*n*n + -(x3*x3*x3*x3))) + ((-(x3*x3*x3*x2) + -(2*x3*x3*x3*l*l)) + (x3*x3*x2*x2 + -(6*x3*x3*x2*l*l))))))) + (((((-(4*x3*x3*x2*n*n) + (2*x3*x3*y2*l + 2*x3*x3*l*l*l*l)) + (-(2*x3*x3*l*l*l*n) + (4*x3*x3*l*l*n*n + 2*x3*x3*l*n*n*n))) + ((x3*x3*n*n*n*n + (-(6*x3*x2*x2*l*l) + 10*x3*x2*x2*l*n)) + (x3*x2*x2*n*n + (4*x3*x2*y2*l + -(8*x3*x2*y2*n))))) + (((4*x3*x2*l*l*l*l + (-(16*x3*x2*l*l*l*n) + -(5*x3*x2*l*l*n*n))) + (-(2*x3*x2*l*n*n*n) + (6*x3*y2*l*l*n + 2*x3*y2*l*n*n))) + ((4*x3*y2*n*n*n + (3*x3*l*l*l*l*l*n + x3*l*l*l*l*n*n)) + (5*x3*l*l*l*n*n*n + (-(x3*l*l*n*n*n*n) + -(2*x3*l*n*n*n*n*n)))))) + ((((x2*x2*x2*x2 + (-(6*x2*x2*x2*l*l) + -(4*x2*x2*x2*l*n))) + (3*x2*x2*x2*n*n + (12*x2*x2*y2*l + -(4*x2*x2*y2*n)))) + ((8*x2*x2*l*l*l*l + (-(6*x2*x2*l*l*l*n) + x2*x2*l*l*n*n)) + (-(2*x2*x2*l*n*n*n) + (-(x2*x2*n*n*n*n) + -(4*x2*y2*y2))))) + (((-(6*x2*y2*l*l*l) + (2*x2*y2*l*n*n + -(2*x2*l*l*l*l*l*l))) + (3*x2*l*l*l*l*l*n + (-(x2*l*l*l*l*n*n) + 3*x2*l*l*l*n*n*n))) + ((x2*l*l*n*n*n*n + (2*x2*l*n*n*n*n*n + 4*y2*y2*n*n)) + ((4*y2*l*l*l*n*n + -(2*y2*l*l*n*n*n)) + (-(4*y2*l*n*n*n*n) + -(2*l*l*l*l*l*n*n*n)))))))))*(x1*x1 + x1*x2 + x2*x2 - l*(2*y2 + l*(x1 - x2))) + (((((((-(2*x1*x3*x3*x3) + -(3*x1*x3*x3*x2)) + (-(2*x1*x3*x3*l*n) + (3*x1*x3*x3*n*n + 3*x1*x3*x2*x2))) + ((-(14*x1*x3*x2*l*n) + -(2*x1*x3*y2*l)) + (2*x1*x3*y2*n + (x1*x3*l*l*l*l + 5*x1*x3*l*l*l*n)))) + (((3*x1*x3*l*l*n*n + 5*x1*x3*l*n*n*n) + (-(x1*x3*n*n*n*n) + (2*x1*x2*x2*x2 + 6*x1*x2*x2*l*l))) + ((-(2*x1*x2*x2*l*n) + (-(3*x1*x2*x2*n*n) + -(10*x1*x2*y2*l))) + (4*x1*x2*y2*n + (-(x1*x2*l*l*l*l) + x1*x2*l*l*l*n))))) + ((((-(3*x1*x2*l*l*n*n) + x1*x2*l*n*n*n) + (x1*x2*n*n*n*n + (4*x1*y2*l*l*n + 4*x1*y2*l*n*n))) + ((-(2*x1*y2*n*n*n) + -(2*x1*l*l*l*n*n*n)) + (-(x3*x3*x3*x3) + (-(3*x3*x3*x3*x2) + 2*x3*x3*x3*l*l)))) + (((3*x3*x3*x3*n*n + 3*x3*x3*x2*l*l) + (-(10*x3*x3*x2*l*n) + (3*x3*x3*x2*n*n + -(2*x3*x3*y2*l)))) + ((6*x3*x3*y2*n + (4*x3*x3*l*l*l*n + -(3*x3*x3*l*l*n*n))) + (-(2*x3*x3*n*n*n*n) + (4*x3*x2*x2*x2 + 3*x3*x2*x2*l*l)))))) + (((((-(16*x3*x2*x2*l*n) + -(6*x3*x2*x2*n*n)) + (-(12*x3*x2*y2*l) + (10*x3*x2*y2*n + 2*x3*x2*l*l*l*l))) + ((20*x3*x2*l*l*l*n + 6*x3*x2*l*l*n*n) + (10*x3*x2*l*n*n*n + (2*x3*x2*n*n*n*n + 4*x3*y2*y2)))) + (((-(6*x3*y2*l*l*n) + -(2*x3*y2*l*n*n)) + (-(6*x3*y2*n*n*n) + (-(x3*l*l*l*l*l*l) + -(5*x3*l*l*l*l*l*n)))) + ((-(3*x3*l*l*l*l*n*n) + (-(5*x3*l*l*l*n*n*n) + x3*l*l*n*n*n*n)) + (4*x2*x2*x2*l*l + (8*x2*x2*x2*l*n + -(16*x2*x2*y2*l)))))) + ((((-(4*x2*x2*y2*n) + -(8*x2*x2*l*l*l*l)) + (6*x2*x2*l*l*l*n + (-(3*x2*x2*l*l*n*n) + -(4*x2*x2*l*n*n*n)))) + ((8*x2*y2*y2 + 12*x2*y2*l*l*l) + (-(4*x2*y2*l*l*n) + (10*x2*y2*l*n*n + 2*x2*y2*n*n*n)))) + (((x2*l*l*l*l*l*l + -(x2*l*l*l*l*l*n)) + (3*x2*l*l*l*l*n*n + (-(5*x2*l*l*l*n*n*n) + -(x2*l*l*n*n*n*n)))) + ((-(4*y2*y2*l*n) + (-(4*y2*y2*n*n) + -(4*y2*l*l*l*l*n))) + (-(4*y2*l*l*l*n*n) + (6*y2*l*l*n*n*n + 2*l*l*l*l*l*n*n*n))))))))*(x3*x3 + x3*x2 + x2*x2 - n*(2*y2 + n*(x3 - x2))) := by grind
  rw [e, h1, h3]
  grind
end
section
/-! the sum of points: the identities where the third point is the sum of the first two -/
set_option maxRecDepth 20000 in
set_option maxHeartbeats 4000000 in
theorem ec_idx10 {F : Type} [Lean.Grind.CommRing F] (x2 x3 l n : F) (h : x2*x2 + x2*x3 + x3*x3 - n*l*(x2 - x3) = 0) : (3*(x3*x3))*(3*(x3*x3))*(((n*n - x2 - x3) - (l*l - x2 - x3))*((n*n - x2 - x3) - (l*l - x2 - x3))) - (n*(x2 - (n*n - x2 - x3)) - (n + l)*(x2 - x3) - l*((l*l - x2 - x3) - x2))*(n*(x2 - (n*n - x2 - x3)) - (n + l)*(x2 - x3) - l*((l*l - x2 - x3) - x2))*(((l - n)*(x2 - x3))*((l - n)*(x2 - x3))) - (x3 + x3 - (l*l - x2 - x3) - (n*n - x2 - x3))*(((l - n)*(x2 - x3))*((l - n)*(x2 - x3)))*(((n*n - x2 - x3) - (l*l - x2 - x3))*((n*n - x2 - x3) - (l*l - x2 - x3))) = 0 := by
  have e : (3*(x3*x3))*(3*(x3*x3))*(((n*n - x2 - x3) - (l*l - x2 - x3))*((n*n - x2 - x3) - (l*l - x2 - x3))) - (n*(x2 - (n*n - x2 - x3)) - (n + l)*(x2 - x3) - l*((l*l - x2 - x3) - x2))*(n*(x2 - (n*n - x2 - x3)) - (n + l)*(x2 - x3) - l*((l*l - x2 - x3) - x2))*(((l - n)*(x2 - x3))*((l - n)*(x2 - x3))) - (x3 + x3 - (l*l - x2 - x3) - (n*n - x2 - x3))*(((l - n)*(x2 - x3))*((l - n)*(x2 - x3)))*(((n*n - x2 - x3) - (l*l - x2 - x3))*((n*n - x2 - x3) - (l*l - x2 - x3))) = ((((-(x2*x2*l*l*l*l) + (2*x2*x2*l*l*n*n + -(x2*x2*n*n*n*n))) + ((-(x2*x3*l*l*l*l) + 2*x2*x3*l*l*n*n) + (-(x2*x3*n*n*n*n) + x2*l*l*l*l*l*n))) + (((-(2*x2*l*l*l*n*n*n) + x2*l*n*n*n*n*n) + (5*x3*x3*l*l*l*l + -(10*x3*x3*l*l*n*n))) + ((5*x3*x3*n*n*n*n + -(x3*l*l*l*l*l*n)) + (2*x3*l*l*l*n*n*n + -(x3*l*n*n*n*n*n))))))*(x2*x2 + x2*x3 + x3*x3 - n*l*(x2 - x3)) := by grind
  rw [e, h]
  grind
set_option maxRecDepth 20000 in
set_option maxHeartbeats 4000000 in
theorem ec_idy10 {F : Type} [Lean.Grind.CommRing F] (x2 x3 l n : F) (h : x2*x2 + x2*x3 + x3*x3 - n*l*(x2 - x3) = 0) : (3*(x3*x3))*((n*n - x2 - x3) - (l*l - x2 - x3))*(2*x3 + x3)*(((l - n)*(x2 - x3))*((l - n)*(x2 - x3))) - (3*(x3*x3))*(3*(x3*x3))*(3*(x3*x3))*((n*n - x2 - x3) - (l*l - x2 - x3)) - (n*(x2 - (n*n - x2 - x3)) - (n + l)*(x2 - x3) - l*((l*l - x2 - x3) - x2))*((l - n)*(x2 - x3))*(((l*l - x2 - x3) + x3 + x3)*(((l - n)*(x2 - x3))*((l - n)*(x2 - x3))) - (3*(x3*x3))*(3*(x3*x3))) + (l*((l*l - x2 - x3) - x2) - n*(x3 - x2))*(((l - n)*(x2 - x3))*((l - n)*(x2 - x3))*((l - n)*(x2 - x3)))*((n*n - x2 - x3) - (l*l - x2 - x3)) = 0 := by
  have e : (3*(x3*x3))*((n*n - x2 - x3) - (l*l - x2 - x3))*(2*x3 + x3)*(((l - n)*(x2 - x3))*((l - n)*(x2 - x3))) - (3*(x3*x3))*(3*(x3*x3))*(3*(x3*x3))*((n*n - x2 - x3) - (l*l - x2 - x3)) - (n*(x2 - (n*n - x2 - x3)) - (n + l)*(x2 - x3) - l*((l*l - x2 - x3) - x2))*((l - n)*(x2 - x3))*(((l*l - x2 - x3) + x3 + x3)*(((l - n)*(x2 - x3))*((l - n)*(x2 - x3))) - (3*(x3*x3))*(3*(x3*x3))) + (l*((l*l - x2 - x3) - x2) - n*(x3 - x2))*(((l - n)*(x2 - x3))*((l - n)*(x2 - x3))*((l - n)*(x2 - x3)))*((n*n - x2 - x3) - (l*l - x2 - x3)) = (((((x2*x2*x2*l*l*l*l + (-(2*x2*x2*x2*l*l*l*n) + 2*x2*x2*x2*l*n*n*n)) + (-(x2*x2*x2*n*n*n*n) + (-(3*x2*x2*x3*l*l*l*l) + 6*x2*x2*x3*l*l*l*n))) + ((-(6*x2*x2*x3*l*n*n*n) + (3*x2*x2*x3*n*n*n*n + -(x2*x2*l*l*l*l*l*n))) + ((2*x2*x2*l*l*l*l*n*n + -(2*x2*x2*l*l*n*n*n*n)) + (x2*x2*l*n*n*n*n*n + 2*x2*x3*l*l*l*l*l*n)))) + (((-(4*x2*x3*l*l*l*l*n*n) + (4*x2*x3*l*l*n*n*n*n + -(2*x2*x3*l*n*n*n*n*n))) + (9*x3*x3*x3*x3*l*l + (-(9*x3*x3*x3*x3*n*n) + 2*x3*x3*x3*l*l*l*l))) + ((-(4*x3*x3*x3*l*l*l*n) + (4*x3*x3*x3*l*n*n*n + -(2*x3*x3*x3*n*n*n*n))) + ((-(x3*x3*l*l*l*l*l*n) + 2*x3*x3*l*l*l*l*n*n) + (-(2*x3*x3*l*l*n*n*n*n) + x3*x3*l*n*n*n*n*n))))))*(x2*x2 + x2*x3 + x3*x3 - n*l*(x2 - x3)) := by grind
  rw [e, h]
  grind
set_option maxRecDepth 20000 in
set_option maxHeartbeats 4000000 in
theorem ec_idx11 {F : Type} [Lean.Grind.CommRing F] (x2 x3 l n : F) (h : x2*x2 + x2*x3 + x3*x3 - n*l*(x2 - x3) = 0) : (3*(x3*x3))*(3*(x3*x3))*((l*((l*l - x2 - x3) - x2) + n*(x2 - (n*n - x2 - x3)))*(l*((l*l - x2 - x3) - x2) + n*(x2 - (n*n - x2 - x3)))) - ((l*l - x2 - x3)*(l*l - x2 - x3) + (l*l - x2 - x3)*(n*n - x2 - x3) + (n*n - x2 - x3)*(n*n - x2 - x3))*((l*l - x2 - x3)*(l*l - x2 - x3) + (l*l - x2 - x3)*(n*n - x2 - x3) + (n*n - x2 - x3)*(n*n - x2 - x3))*(((l - n)*(x2 - x3))*((l - n)*(x2 - x3))) - (x3 + x3 - (l*l - x2 - x3) - (n*n - x2 - x3))*(((l - n)*(x2 - x3))*((l - n)*(x2 - x3)))*((l*((l*l - x2 - x3) - x2) + n*(x2 - (n*n - x2 - x3)))*(l*((l*l - x2 - x3) - x2) + n*(x2 - (n*n - x2 - x3)))) = 0 := by
  have e : (3*(x3*x3))*(3*(x3*x3))*((l*((l*l - x2 - x3) - x2) + n*(x2 - (n*n - x2 - x3)))*(l*((l*l - x2 - x3) - x2) + n*(x2 - (n*n - x2 - x3)))) - ((l*l - x2 - x3)*(l*l - x2 - x3) + (l*l - x2 - x3)*(n*n - x2 - x3) + (n*n - x2 - x3)*(n*n - x2 - x3))*((l*l - x2 - x3)*(l*l - x2 - x3) + (l*l - x2 - x3)*(n*n - x2 - x3) + (n*n - x2 - x3)*(n*n - x2 - x3))*(((l - n)*(x2 - x3))*((l - n)*(x2 - x3))) - (x3 + x3 - (l*l - x2 - x3) - (n*n - x2 - x3))*(((l - n)*(x2 - x3))*((l - n)*(x2 - x3)))*((l*((l*l - x2 - x3) - x2) + n*(x2 - (n*n - x2 - x3)))*(l*((l*l - x2 - x3) - x2) + n*(x2 - (n*n - x2 - x3)))) = ((((((-(9*x2*x2*x2*x2*l*l) + (18*x2*x2*x2*x2*l*n + -(9*x2*x2*x2*x2*n*n))) + (-(9*x2*x2*x2*x3*l*l) + (18*x2*x2*x2*x3*l*n + -(9*x2*x2*x2*x3*n*n)))) + ((10*x2*x2*x2*l*l*l*l + (-(13*x2*x2*x2*l*l*l*n) + 6*x2*x2*x2*l*l*n*n)) + ((-(13*x2*x2*x2*l*n*n*n) + 10*x2*x2*x2*n*n*n*n) + (27*x2*x2*x3*x3*l*l + -(54*x2*x2*x3*x3*l*n))))) + (((27*x2*x2*x3*x3*n*n + (9*x2*x2*x3*l*l*l*n + -(18*x2*x2*x3*l*l*n*n))) + (9*x2*x2*x3*l*n*n*n + (-(3*x2*x2*l*l*l*l*l*l) + 6*x2*x2*l*l*l*n*n*n))) + ((-(3*x2*x2*n*n*n*n*n*n) + (18*x2*x3*x3*x3*l*l + -(36*x2*x3*x3*x3*l*n))) + ((18*x2*x3*x3*x3*n*n + -(24*x2*x3*x3*l*l*l*l)) + (24*x2*x3*x3*l*l*l*n + 24*x2*x3*x3*l*n*n*n))))) + ((((-(24*x2*x3*x3*n*n*n*n) + (3*x2*x3*l*l*l*l*l*l + -(6*x2*x3*l*l*l*l*l*n))) + (6*x2*x3*l*l*l*l*n*n + (-(6*x2*x3*l*l*l*n*n*n) + 6*x2*x3*l*l*n*n*n*n))) + ((-(6*x2*x3*l*n*n*n*n*n) + (3*x2*x3*n*n*n*n*n*n + x2*l*l*l*l*l*l*l*n)) + ((-(2*x2*l*l*l*l*n*n*n*n) + x2*l*n*n*n*n*n*n*n) + (-(4*x3*x3*x3*l*l*l*l) + -(2*x3*x3*x3*l*l*l*n))))) + (((12*x3*x3*x3*l*l*n*n + (-(2*x3*x3*x3*l*n*n*n) + -(4*x3*x3*x3*n*n*n*n))) + (3*x3*x3*l*l*l*l*l*l + (6*x3*x3*l*l*l*l*l*n + -(6*x3*x3*l*l*l*l*n*n)))) + ((-(6*x3*x3*l*l*l*n*n*n) + (-(6*x3*x3*l*l*n*n*n*n) + 6*x3*x3*l*n*n*n*n*n)) + ((3*x3*x3*n*n*n*n*n*n + -(x3*l*l*l*l*l*l*l*n)) + (2*x3*l*l*l*l*n*n*n*n + -(x3*l*n*n*n*n*n*n*n))))))))*(x2*x2 + x2*x3 + x3*x3 - n*l*(x2 - x3)) := by grind
  rw [e, h]
  grind
set_option maxRecDepth 20000 in
set_option maxHeartbeats 4000000 in
theorem ec_idy11 {F : Type} [Lean.Grind.CommRing F] (x2 x3 l n : F) (h : x2*x2 + x2*x3 + x3*x3 - n*l*(x2 - x3) = 0) : (3*(x3*x3))*(l*((l*l - x2 - x3) - x2) + n*(x2 - (n*n - x2 - x3)))*(2*x3 + x3)*(((l - n)*(x2 - x3))*((l - n)*(x2 - x3))) - (3*(x3*x3))*(3*(x3*x3))*(3*(x3*x3))*(l*((l*l - x2 - x3) - x2) + n*(x2 - (n*n - x2 - x3))) - ((l*l - x2 - x3)*(l*l - x2 - x3) + (l*l - x2 - x3)*(n*n - x2 - x3) + (n*n - x2 - x3)*(n*n - x2 - x3))*((l - n)*(x2 - x3))*(((l*l - x2 - x3) + x3 + x3)*(((l - n)*(x2 - x3))*((l - n)*(x2 - x3))) - (3*(x3*x3))*(3*(x3*x3))) + (l*((l*l - x2 - x3) - x2) - n*(x3 - x2))*(((l - n)*(x2 - x3))*((l - n)*(x2 - x3))*((l - n)*(x2 - x3)))*(l*((l*l - x2 - x3) - x2) + n*(x2 - (n*n - x2 - x3))) = 0 := by
  have e : (3*(x3*x3))*(l*((l*l - x2 - x3) - x2) + n*(x2 - (n*n - x2 - x3)))*(2*x3 + x3)*(((l - n)*(x2 - x3))*((l - n)*(x2 - x3))) - (3*(x3*x3))*(3*(x3*x3))*(3*(x3*x3))*(l*((l*l - x2 - x3) - x2) + n*(x2 - (n*n - x2 - x3))) - ((l*l - x2 - x3)*(l*l - x2 - x3) + (l*l - x2 - x3)*(n*n - x2 - x3) + (n*n - x2 - x3)*(n*n - x2 - x3))*((l - n)*(x2 - x3))*(((l*l - x2 - x3) + x3 + x3)*(((l - n)*(x2 - x3))*((l - n)*(x2 - x3))) - (3*(x3*x3))*(3*(x3*x3))) + (l*((l*l - x2 - x3) - x2) - n*(x3 - x2))*(((l - n)*(x2 - x3))*((l - n)*(x2 - x3))*((l - n)*(x2 - x3)))*(l*((l*l - x2 - x3) - x2) + n*(x2 - (n*n - x2 - x3))) = ((((((3*x2*x2*x2*x2*l*l*l + (-(9*x2*x2*x2*x2*l*l*n) + 9*x2*x2*x2*x2*l*n*n)) + ((-(3*x2*x2*x2*x2*n*n*n) + -(9*x2*x2*x2*x3*l*l*l)) + (27*x2*x2*x2*x3*l*l*n + -(27*x2*x2*x2*x3*l*n*n)))) + ((9*x2*x2*x2*x3*n*n*n + (-(2*x2*x2*x2*l*l*l*l*l) + 3*x2*x2*x2*l*l*l*l*n)) + ((2*x2*x2*x2*l*l*l*n*n + -(4*x2*x2*x2*l*l*n*n*n)) + (x2*x2*x2*n*n*n*n*n + 3*x2*x2*x3*x3*l*l*l)))) + (((-(9*x2*x2*x3*x3*l*l*n) + (9*x2*x2*x3*x3*l*n*n + -(3*x2*x2*x3*x3*n*n*n))) + ((6*x2*x2*x3*l*l*l*l*l + -(12*x2*x2*x3*l*l*l*l*n)) + (3*x2*x2*x3*l*l*l*n*n + 3*x2*x2*x3*l*l*n*n*n))) + ((3*x2*x2*x3*l*n*n*n*n + (-(3*x2*x2*x3*n*n*n*n*n) + x2*x2*l*l*l*l*l*l*n)) + ((-(2*x2*x2*l*l*l*l*l*n*n) + x2*x2*l*l*l*l*n*n*n) + (-(x2*x2*l*l*l*n*n*n*n) + 2*x2*x2*l*l*n*n*n*n*n))))) + ((((-(x2*x2*l*n*n*n*n*n*n) + (27*x2*x3*x3*x3*x3*l + -(27*x2*x3*x3*x3*x3*n))) + ((-(3*x2*x3*x3*l*l*l*l*l) + 9*x2*x3*x3*l*l*l*l*n) + (-(9*x2*x3*x3*l*l*l*n*n) + 3*x2*x3*x3*l*l*n*n*n))) + ((-(2*x2*x3*l*l*l*l*l*l*n) + (4*x2*x3*l*l*l*l*l*n*n + -(2*x2*x3*l*l*l*l*n*n*n))) + ((2*x2*x3*l*l*l*n*n*n*n + -(4*x2*x3*l*l*n*n*n*n*n)) + (2*x2*x3*l*n*n*n*n*n*n + -(6*x3*x3*x3*x3*l*l*l))))) + (((-(9*x3*x3*x3*x3*l*l*n) + (9*x3*x3*x3*x3*l*n*n + 6*x3*x3*x3*x3*n*n*n)) + ((-(x3*x3*x3*l*l*l*l*l) + 4*x3*x3*x3*l*l*l*n*n) + (-(2*x3*x3*x3*l*l*n*n*n) + -(3*x3*x3*x3*l*n*n*n*n)))) + ((2*x3*x3*x3*n*n*n*n*n + (x3*x3*l*l*l*l*l*l*n + -(2*x3*x3*l*l*l*l*l*n*n))) + ((x3*x3*l*l*l*l*n*n*n + -(x3*x3*l*l*l*n*n*n*n)) + (2*x3*x3*l*l*n*n*n*n*n + -(x3*x3*l*n*n*n*n*n*n))))))))*(x2*x2 + x2*x3 + x3*x3 - n*l*(x2 - x3)) := by grind
  rw [e, h]
  grind
end
section
/-! points of a curve y y = x x x + b over a field: the sum, and that it is commutative and associative -/
def ec_fld {F : Type} [Lean.Grind.CommRing F] (inv : F → F) : Prop := (∀ a : F, a ≠ 0 → a * inv a = 1) ∧ (2 : F) ≠ 0 ∧ (3 : F) ≠ 0
theorem ec_nzd {F : Type} [Lean.Grind.CommRing F] {inv : F → F} (hF : ec_fld inv) {a c : F} (h : a * c = 0) : a = 0 ∨ c = 0 := by
  by_cases ha : a = 0
  · exact Or.inl ha
  · have h1 := hF.1 a ha
    exact Or.inr (by grind)
def ec_out {F : Type} [Lean.Grind.CommRing F] (x1 y1 x2 l : F) : F × F := (l*l - x1 - x2, l*(x1 - (l*l - x1 - x2)) - y1)
def ec_add {F : Type} [Lean.Grind.CommRing F] [DecidableEq F] (inv : F → F) : Option (F × F) → Option (F × F) → Option (F × F)
  | none, B => B
  | some a, none => some a
  | some a, some c => if a.1 = c.1 ∧ a.2 + c.2 = 0 then none else some (ec_out a.1 a.2 c.1 (if a.1 = c.1 then 3*a.1*a.1*inv (2*a.2) else (c.2 - a.2)*inv (c.1 - a.1)))
def ec_neg {F : Type} [Lean.Grind.CommRing F] : Option (F × F) → Option (F × F)
  | none => none
  | some a => some (a.1, -a.2)
def ec_on {F : Type} [Lean.Grind.CommRing F] (b : F) : Option (F × F) → Prop
  | none => True
  | some a => a.2*a.2 = a.1*a.1*a.1 + b
/-- l is the slope of the chord, or of the tangent -/
def ec_sl {F : Type} [Lean.Grind.CommRing F] (x1 y1 x2 y2 l : F) : Prop := l*(x2 - x1) = y2 - y1 ∧ l*(y1 + y2) = x1*x1 + x1*x2 + x2*x2
theorem ec_sl_ex {F : Type} [Lean.Grind.CommRing F] [DecidableEq F] {inv : F → F} (hF : ec_fld inv) {b x1 y1 x2 y2 : F} (h1 : y1*y1 = x1*x1*x1 + b) (h2 : y2*y2 = x2*x2*x2 + b) (hd : ¬ (x1 = x2 ∧ y1 + y2 = 0)) : ∃ l, ec_sl x1 y1 x2 y2 l ∧ ec_add inv (some (x1, y1)) (some (x2, y2)) = some (ec_out x1 y1 x2 l) := by
  by_cases hx : x1 = x2
  · subst hx
    have hy : y1 + y2 ≠ 0 := fun h => hd ⟨rfl, h⟩
    have hy2 : y1 = y2 := by
      have h0 : (y1 - y2)*(y1 + y2) = 0 := by grind
      rcases ec_nzd hF h0 with h | h
      · grind
      · exact absurd h hy
    subst hy2
    have h2y : (2 : F)*y1 ≠ 0 := by
      intro h
      apply hy
      grind
    have hi := hF.1 _ h2y
    refine ⟨3*x1*x1*inv (2*y1), ⟨by grind, by grind⟩, ?_⟩
    simp [ec_add, hy]
  · have hxx : x2 - x1 ≠ 0 := by
      intro h
      apply hx
      grind
    have hi := hF.1 _ hxx
    refine ⟨(y2 - y1)*inv (x2 - x1), ⟨by grind, ?_⟩, ?_⟩
    · have h0 : (x2 - x1) * ((y2 - y1)*inv (x2 - x1)*(y1 + y2) - (x1*x1 + x1*x2 + x2*x2)) = 0 := by grind
      rcases ec_nzd hF h0 with h | h
      · exact absurd h hxx
      · grind
    · simp [ec_add, hx]
theorem ec_sl_un {F : Type} [Lean.Grind.CommRing F] {inv : F → F} (hF : ec_fld inv) {x1 y1 x2 y2 l k : F} (hl : ec_sl x1 y1 x2 y2 l) (hk : ec_sl x1 y1 x2 y2 k) (hd : ¬ (x1 = x2 ∧ y1 + y2 = 0)) : l = k := by
  obtain ⟨a1, a2⟩ := hl
  obtain ⟨b1, b2⟩ := hk
  have e1 : (l - k)*(x2 - x1) = 0 := by grind
  have e2 : (l - k)*(y1 + y2) = 0 := by grind
  rcases ec_nzd hF e1 with h | h
  · grind
  · rcases ec_nzd hF e2 with h' | h'
    · grind
    · exact absurd ⟨by grind, h'⟩ hd
/-- the sum by its slope -/
theorem ec_add_sl {F : Type} [Lean.Grind.CommRing F] [DecidableEq F] {inv : F → F} (hF : ec_fld inv) {b x1 y1 x2 y2 l : F} (h1 : y1*y1 = x1*x1*x1 + b) (h2 : y2*y2 = x2*x2*x2 + b) (hd : ¬ (x1 = x2 ∧ y1 + y2 = 0)) (hl : ec_sl x1 y1 x2 y2 l) : ec_add inv (some (x1, y1)) (some (x2, y2)) = some (ec_out x1 y1 x2 l) := by
  obtain ⟨k, hk, e⟩ := ec_sl_ex hF h1 h2 hd
  rw [e, ec_sl_un hF hl hk hd]
theorem ec_add_dg {F : Type} [Lean.Grind.CommRing F] [DecidableEq F] {inv : F → F} {x1 y1 x2 y2 : F} (hd : x1 = x2 ∧ y1 + y2 = 0) : ec_add inv (some (x1, y1)) (some (x2, y2)) = none := by
  simp only [ec_add]
  rw [if_pos hd]
theorem ec_add_none {F : Type} [Lean.Grind.CommRing F] [DecidableEq F] {inv : F → F} (A : Option (F × F)) : ec_add inv A none = A := by
  cases A <;> rfl
theorem ec_none_add {F : Type} [Lean.Grind.CommRing F] [DecidableEq F] {inv : F → F} (A : Option (F × F)) : ec_add inv none A = A := rfl
/-- the sum lies on the curve -/
theorem ec_out_on {F : Type} [Lean.Grind.CommRing F] {b x1 y1 x2 y2 l : F} (h1 : y1*y1 = x1*x1*x1 + b) (hl : ec_sl x1 y1 x2 y2 l) : ec_on b (some (ec_out x1 y1 x2 l)) := by
  obtain ⟨a1, a2⟩ := hl
  have hq : x2*x2 + x1*x2 + x1*x1 - l*(2*y1 + l*(x2 - x1)) = 0 := by grind
  show (l*(x1 - (l*l - x1 - x2)) - y1)*(l*(x1 - (l*l - x1 - x2)) - y1) = (l*l - x1 - x2)*(l*l - x1 - x2)*(l*l - x1 - x2) + b
  have e : (l*(x1 - (l*l - x1 - x2)) - y1)*(l*(x1 - (l*l - x1 - x2)) - y1) - (l*l - x1 - x2)*(l*l - x1 - x2)*(l*l - x1 - x2) - (y1*y1 - x1*x1*x1) = (x2 + 2*x1 - l*l)*(x2*x2 + x1*x2 + x1*x1 - l*(2*y1 + l*(x2 - x1))) := by grind
  rw [hq] at e
  grind
theorem ec_add_on {F : Type} [Lean.Grind.CommRing F] [DecidableEq F] {inv : F → F} (hF : ec_fld inv) {b : F} {A B : Option (F × F)} (hA : ec_on b A) (hB : ec_on b B) : ec_on b (ec_add inv A B) := by
  match A, B, hA, hB with
  | none, B, _, hB => exact hB
  | some a, none, hA, _ => exact hA
  | some (x1, y1), some (x2, y2), hA, hB =>
    by_cases hd : x1 = x2 ∧ y1 + y2 = 0
    · rw [ec_add_dg hd]
      trivial
    · obtain ⟨l, hl, e⟩ := ec_sl_ex hF hA hB hd
      rw [e]
      exact ec_out_on hA hl
theorem ec_neg_on {F : Type} [Lean.Grind.CommRing F] {b : F} {A : Option (F × F)} (hA : ec_on b A) : ec_on b (ec_neg A) := by
  match A, hA with
  | none, _ => trivial
  | some (x, y), hA =>
    have h : y*y = x*x*x + b := hA
    show -y*(-y) = x*x*x + b
    grind
theorem ec_neg_neg {F : Type} [Lean.Grind.CommRing F] (A : Option (F × F)) : ec_neg (ec_neg A) = A := by
  match A with
  | none => rfl
  | some (x, y) =>
    show some (x, - -y) = some (x, y)
    rw [show - -y = y by grind]
theorem ec_add_comm {F : Type} [Lean.Grind.CommRing F] [DecidableEq F] {inv : F → F} (hF : ec_fld inv) {b : F} {A B : Option (F × F)} (hA : ec_on b A) (hB : ec_on b B) : ec_add inv A B = ec_add inv B A := by
  match A, B, hA, hB with
  | none, B, _, _ => rw [ec_add_none]; rfl
  | some a, none, _, _ => rfl
  | some (x1, y1), some (x2, y2), hA, hB =>
    by_cases hd : x1 = x2 ∧ y1 + y2 = 0
    · rw [ec_add_dg hd, ec_add_dg ⟨hd.1.symm, by have := hd.2; grind⟩]
    · obtain ⟨l, hl, e⟩ := ec_sl_ex hF hA hB hd
      have hl2 : ec_sl x2 y2 x1 y1 l := ⟨by have := hl.1; grind, by have := hl.2; grind⟩
      rw [e, ec_add_sl hF hB hA (fun h => hd ⟨h.1.symm, by have := h.2; grind⟩) hl2]
      have h1 := hl.1
      simp only [ec_out, Option.some.injEq, Prod.mk.injEq]
      exact ⟨by grind, by grind⟩
theorem ec_neg_add {F : Type} [Lean.Grind.CommRing F] [DecidableEq F] {inv : F → F} (hF : ec_fld inv) {b : F} {A B : Option (F × F)} (hA : ec_on b A) (hB : ec_on b B) : ec_add inv (ec_neg A) (ec_neg B) = ec_neg (ec_add inv A B) := by
  match A, B, hA, hB with
  | none, B, _, _ => rfl
  | some a, none, _, _ => rfl
  | some (x1, y1), some (x2, y2), hA, hB =>
    have hA' := ec_neg_on hA
    have hB' := ec_neg_on hB
    by_cases hd : x1 = x2 ∧ y1 + y2 = 0
    · rw [ec_add_dg hd]
      exact ec_add_dg ⟨hd.1, by have := hd.2; grind⟩
    · obtain ⟨l, hl, e⟩ := ec_sl_ex hF hA hB hd
      have hl2 : ec_sl x1 (-y1) x2 (-y2) (-l) := ⟨by have := hl.1; grind, by have := hl.2; grind⟩
      rw [e]
      show ec_add inv (some (x1, -y1)) (some (x2, -y2)) = _
      rw [ec_add_sl hF (y1 := -y1) (y2 := -y2) hA' hB' (fun h => hd ⟨h.1, by have := h.2; grind⟩) hl2]
      simp only [ec_out, ec_neg, Option.some.injEq, Prod.mk.injEq]
      exact ⟨by grind, by grind⟩
theorem ec_add_neg {F : Type} [Lean.Grind.CommRing F] [DecidableEq F] {inv : F → F} (A : Option (F × F)) : ec_add inv A (ec_neg A) = none := by
  match A with
  | none => rfl
  | some (x, y) => exact ec_add_dg ⟨rfl, by grind⟩
theorem ec_neg_add_self {F : Type} [Lean.Grind.CommRing F] [DecidableEq F] {inv : F → F} (A : Option (F × F)) : ec_add inv (ec_neg A) A = none := by
  match A with
  | none => rfl
  | some (x, y) => exact ec_add_dg (x1 := x) (y1 := -y) ⟨rfl, by grind⟩
/-- -A + (A + C) = C -/
theorem ec_back {F : Type} [Lean.Grind.CommRing F] [DecidableEq F] {inv : F → F} (hF : ec_fld inv) {b : F} (hb : b ≠ 0) {A C : Option (F × F)} (hA : ec_on b A) (hC : ec_on b C) : ec_add inv (ec_neg A) (ec_add inv A C) = C := by
  match A, C, hA, hC with
  | none, C, _, _ => rfl
  | some a, none, _, _ => exact ec_neg_add_self (some a)
  | some (x1, y1), some (x2, y2), hA, hC =>
    have h1 : y1*y1 = x1*x1*x1 + b := hA
    by_cases hd : x1 = x2 ∧ y1 + y2 = 0
    · rw [ec_add_dg hd, ec_add_none]
      show some (x1, -y1) = some (x2, y2)
      rw [hd.1, show -y1 = y2 by have := hd.2; grind]
    · obtain ⟨l, hl, e⟩ := ec_sl_ex hF hA hC hd
      have hon := ec_out_on hA hl
      rw [e]
      obtain ⟨a1, a2⟩ := hl
      have hq : x2*x2 + x1*x2 + x1*x1 - l*(2*y1 + l*(x2 - x1)) = 0 := by grind
      show ec_add inv (some (x1, -y1)) (some (l*l - x1 - x2, l*(x1 - (l*l - x1 - x2)) - y1)) = _
      have a1' : l*(x2 - x1) = y2 - y1 := a1
      have a2' : l*(y1 + y2) = x1*x1 + x1*x2 + x2*x2 := a2
      clear a1 a2
      have hd' : ¬ (x1 = l*l - x1 - x2 ∧ -y1 + (l*(x1 - (l*l - x1 - x2)) - y1) = 0) := by
        rintro ⟨g1, g2⟩
        have hy : (2 : F)*y1 = 0 := by grind
        have hy0 : y1 = 0 := by
          rcases ec_nzd hF hy with h | h
          · exact absurd h hF.2.1
          · exact h
        have hll : l*l = 2*x1 + x2 := by grind
        have hx3 : (3 : F)*(x1*x1) = 0 := by grind
        have hx0 : x1 = 0 := by
          rcases ec_nzd hF hx3 with h | h
          · exact absurd h hF.2.2
          · rcases ec_nzd hF h with h | h <;> exact h
        apply hb
        grind
      have hsl : ec_sl x1 (-y1) (l*l - x1 - x2) (l*(x1 - (l*l - x1 - x2)) - y1) (-l) := ⟨by grind, by grind⟩
      rw [ec_add_sl (x1 := x1) (y1 := -y1) (x2 := l*l - x1 - x2) (y2 := l*(x1 - (l*l - x1 - x2)) - y1) (l := -l) (b := b) hF (ec_neg_on hA) hon hd' hsl]
      simp only [ec_out, Option.some.injEq, Prod.mk.injEq]
      exact ⟨by grind, by grind⟩
end
section
/-! the sum of points is associative -/
theorem ec_assoc_sl {F : Type} [Lean.Grind.CommRing F] {inv : F → F} (hF : ec_fld inv) {x1 y1 x2 y2 x3 y3 x4 y4 x6 y6 l n m k : F}
    (hl : ec_sl x1 y1 x2 y2 l) (hn : ec_sl x2 y2 x3 y3 n) (e4 : x4 = l*l - x1 - x2) (f4 : y4 = l*(x1 - (l*l - x1 - x2)) - y1) (e6 : x6 = n*n - x2 - x3) (f6 : y6 = n*(x2 - (n*n - x2 - x3)) - y2)
    (hm : ec_sl x4 y4 x3 y3 m) (hk : ec_sl x1 y1 x6 y6 k) (d1 : ¬ (x4 = x3 ∧ y4 + y3 = 0)) (d2 : ¬ (x1 = x6 ∧ y1 + y6 = 0)) : ec_out x4 y4 x3 m = ec_out x1 y1 x6 k := by
  obtain ⟨l1, l2⟩ := hl
  obtain ⟨n1, n2⟩ := hn
  obtain ⟨m1, m2⟩ := hm
  obtain ⟨k1, k2⟩ := hk
  have ey1 : y1 = y2 + l*(x1 - x2) := by clear l2 n1 n2 m1 m2 k1 k2 d1 d2 e4 f4 e6 f6; grind
  have ey3 : y3 = y2 + n*(x3 - x2) := by clear l1 l2 n2 m1 m2 k1 k2 d1 d2 e4 f4 e6 f6 ey1; grind
  subst ey1
  subst ey3
  subst e4
  subst e6
  have q1 : x1*x1 + x1*x2 + x2*x2 - l*(2*y2 + l*(x1 - x2)) = 0 := by clear m1 m2 k1 k2 n1 n2 d1 d2 f4 f6; grind
  have q3 : x3*x3 + x3*x2 + x2*x2 - n*(2*y2 + n*(x3 - x2)) = 0 := by clear m1 m2 k1 k2 l1 l2 d1 d2 f4 f6 q1; grind
  clear l1 l2 n1 n2
  subst f4
  subst f6
  -- the four ways to know the two slopes
  have key : ∀ D1 N1 D2 N2 : F, D1 ≠ 0 → D2 ≠ 0 → m*D1 = N1 → k*D2 = N2 →
      N1*N1*(D2*D2) - N2*N2*(D1*D1) - (x3 + (l*l - x1 - x2) - x1 - (n*n - x2 - x3))*(D1*D1)*(D2*D2) = 0 →
      N1*D2*(2*x3 + (l*l - x1 - x2))*(D1*D1) - N1*N1*N1*D2 - (y2 + n*(x3 - x2))*(D1*D1*D1)*D2 - N2*D1*((x1 + x3 + (l*l - x1 - x2))*(D1*D1) - N1*N1) + (y2 + l*(x1 - x2))*(D1*D1*D1)*D2 = 0 →
      ec_out (l*l - x1 - x2) (l*(x1 - (l*l - x1 - x2)) - (y2 + l*(x1 - x2))) x3 m = ec_out x1 (y2 + l*(x1 - x2)) (n*n - x2 - x3) k := by
    intro D1 N1 D2 N2 hD1 hD2 hN1 hN2 ix iy
    clear q1 q3 m2 k1 k2 d1 d2
    subst hN1
    subst hN2
    have gx : (m*m - (l*l - x1 - x2) - x3) - (k*k - x1 - (n*n - x2 - x3)) = 0 := by
      have h0 : (D1*D1*(D2*D2))*((m*m - (l*l - x1 - x2) - x3) - (k*k - x1 - (n*n - x2 - x3))) = 0 := by
        clear iy m1
        rw [← ix]
        grind
      clear ix iy m1
      rcases ec_nzd hF h0 with h | h
      · rcases ec_nzd hF h with h | h
        · rcases ec_nzd hF h with h | h <;> exact absurd h hD1
        · rcases ec_nzd hF h with h | h <;> exact absurd h hD2
      · exact h
    have gy : (m*((l*l - x1 - x2) - (m*m - (l*l - x1 - x2) - x3)) - (l*(x1 - (l*l - x1 - x2)) - (y2 + l*(x1 - x2)))) - (k*(x1 - (m*m - (l*l - x1 - x2) - x3)) - (y2 + l*(x1 - x2))) = 0 := by
      have g1 : m*((l*l - x1 - x2) - (m*m - (l*l - x1 - x2) - x3)) - (l*(x1 - (l*l - x1 - x2)) - (y2 + l*(x1 - x2))) = m*(x3 - (m*m - (l*l - x1 - x2) - x3)) - (y2 + n*(x3 - x2)) := by
        clear ix iy gx
        grind
      rw [g1]
      have h0 : (D1*D1*D1*D2)*((m*(x3 - (m*m - (l*l - x1 - x2) - x3)) - (y2 + n*(x3 - x2))) - (k*(x1 - (m*m - (l*l - x1 - x2) - x3)) - (y2 + l*(x1 - x2)))) = 0 := by
        clear ix gx g1 m1
        rw [← iy]
        grind
      clear ix iy m1
      rcases ec_nzd hF h0 with h | h
      · rcases ec_nzd hF h with h | h
        · rcases ec_nzd hF h with h | h
          · rcases ec_nzd hF h with h | h <;> exact absurd h hD1
          · exact absurd h hD1
        · exact absurd h hD2
      · exact h
    clear ix iy m1
    simp only [ec_out, Prod.mk.injEq]
    refine ⟨by grind, ?_⟩
    have g2 : k*k - x1 - (n*n - x2 - x3) = m*m - (l*l - x1 - x2) - x3 := by grind
    rw [g2]
    grind
  by_cases c1 : x3 - (l*l - x1 - x2) = 0
  · -- the third point is the sum of the first two
    have c1' : (l*(x1 - (l*l - x1 - x2)) - (y2 + l*(x1 - x2))) + (y2 + n*(x3 - x2)) ≠ 0 := by
      intro h
      refine d1 ⟨?_, h⟩
      clear key m1 m2 k1 k2 q1 q3 d1 d2 h
      grind
    have hx1 : x1 = l*l - x2 - x3 := by
      clear key m1 m2 k1 k2 q1 q3 d1 d2 c1'
      grind
    subst hx1
    have hs : l*l - (l*l - x2 - x3) - x2 = x3 := by
      clear key m1 m2 k1 k2 q1 q3 d1 d2 c1 c1'
      grind
    rw [hs] at c1' m1 m2 d1 key ⊢
    have hd : (l*((l*l - x2 - x3) - x3) - (y2 + l*((l*l - x2 - x3) - x2)) - (y2 + n*(x3 - x2)))*(l*((l*l - x2 - x3) - x3) - (y2 + l*((l*l - x2 - x3) - x2)) + (y2 + n*(x3 - x2))) = 0 := by
      have e : (l*((l*l - x2 - x3) - x3) - (y2 + l*((l*l - x2 - x3) - x2)) - (y2 + n*(x3 - x2)))*(l*((l*l - x2 - x3) - x3) - (y2 + l*((l*l - x2 - x3) - x2)) + (y2 + n*(x3 - x2))) = ((l*l - x2 - x3)*(l*l - x2 - x3) + (l*l - x2 - x3)*x2 + x2*x2 - l*(2*y2 + l*((l*l - x2 - x3) - x2)))*(x2 - x3) + (x3*x3 + x3*x2 + x2*x2 - n*(2*y2 + n*(x3 - x2)))*(x3 - x2) := by
        clear key m1 m2 k1 k2 q1 q3 d1 d2 c1 c1' hs
        grind
      rw [e, q1, q3]
      clear key m1 m2 k1 k2 q1 q3 d1 d2 c1 c1' hs e
      grind
    have h2y : 2*y2 = (n + l)*(x2 - x3) := by
      rcases ec_nzd hF hd with h | h
      · clear key m1 m2 k1 k2 q1 q3 d1 d2 c1 c1' hs hd
        grind
      · exact absurd h c1'
    have q : x2*x2 + x2*x3 + x3*x3 - n*l*(x2 - x3) = 0 := by
      rw [h2y] at q3
      clear key m1 m2 k1 k2 q1 d1 d2 c1 c1' hs hd h2y
      grind
    have eD1 : l*((l*l - x2 - x3) - x3) - (y2 + l*((l*l - x2 - x3) - x2)) + (y2 + n*(x3 - x2)) = (l - n)*(x2 - x3) := by
      clear key m1 m2 k1 k2 q1 q3 d1 d2 c1 c1' hs hd h2y q
      grind
    have eN1 : x3*x3 + x3*x3 + x3*x3 = 3*(x3*x3) := by
      clear key m1 m2 k1 k2 q1 q3 d1 d2 c1 c1' hs hd h2y q eD1
      grind
    rw [eD1] at c1' m2
    rw [eN1] at m2
    have eY : ∀ Z : F, -((y2 + n*(x3 - x2))*Z) + (y2 + l*((l*l - x2 - x3) - x2))*Z = (l*((l*l - x2 - x3) - x2) - n*(x3 - x2))*Z := by
      clear key m1 m2 k1 k2 q1 q3 d1 d2 c1 c1' hs hd h2y q eD1 eN1
      intro Z
      grind
    by_cases c2 : (n*n - x2 - x3) - (l*l - x2 - x3) = 0
    · have c2' : (y2 + l*((l*l - x2 - x3) - x2)) + (n*(x2 - (n*n - x2 - x3)) - y2) ≠ 0 := by
        intro h
        refine d2 ⟨?_, h⟩
        clear key m1 m2 k1 k2 q1 q3 d1 d2 h c1 c1' hs hd h2y q eD1 eN1 eY
        grind
      have eD2 : (y2 + l*((l*l - x2 - x3) - x2)) + (n*(x2 - (n*n - x2 - x3)) - y2) = l*((l*l - x2 - x3) - x2) + n*(x2 - (n*n - x2 - x3)) := by
        clear key m1 m2 k1 k2 q1 q3 d1 d2 c1 c1' hs hd h2y q eD1 eN1 eY c2 c2'
        grind
      rw [eD2] at c2' k2
      refine key _ _ _ _ c1' c2' m2 k2 (ec_idx11 x2 x3 l n q) ?_
      have i := ec_idy11 x2 x3 l n q
      clear key m1 m2 k1 k2 q1 q3 d1 d2 c1 c1' hs hd h2y q eD1 eN1 c2 c2' eD2
      rw [← i]
      have := eY (((l - n)*(x2 - x3))*((l - n)*(x2 - x3))*((l - n)*(x2 - x3))*(l*((l*l - x2 - x3) - x2) + n*(x2 - (n*n - x2 - x3))))
      clear i
      grind
    · have eN2 : n*(x2 - (n*n - x2 - x3)) - y2 - (y2 + l*((l*l - x2 - x3) - x2)) = n*(x2 - (n*n - x2 - x3)) - (n + l)*(x2 - x3) - l*((l*l - x2 - x3) - x2) := by
        rw [← h2y]
        clear key m1 m2 k1 k2 q1 q3 d1 d2 c1 c1' hs hd h2y q eD1 eN1 eY c2
        grind
      rw [eN2] at k1
      refine key _ _ _ _ c1' c2 m2 k1 (ec_idx10 x2 x3 l n q) ?_
      have i := ec_idy10 x2 x3 l n q
      clear key m1 m2 k1 k2 q1 q3 d1 d2 c1 c1' hs hd h2y q eD1 eN1 c2 eN2
      rw [← i]
      have := eY (((l - n)*(x2 - x3))*((l - n)*(x2 - x3))*((l - n)*(x2 - x3))*((n*n - x2 - x3) - (l*l - x2 - x3)))
      clear i
      grind
  · by_cases c2 : (n*n - x2 - x3) - x1 = 0
    · have c2' : (y2 + l*(x1 - x2)) + (n*(x2 - (n*n - x2 - x3)) - y2) ≠ 0 := by
        intro h
        refine d2 ⟨?_, h⟩
        clear key m1 m2 k1 k2 q1 q3 d1 d2 h c1
        grind
      exact key _ _ _ _ c1 c2' m1 k2 (ec_idx01 x1 x2 x3 y2 l n q1 q3) (ec_idy01 x1 x2 x3 y2 l n q1 q3)
    · exact key _ _ _ _ c1 c2 m1 k1 (ec_idx00 x1 x2 x3 y2 l n q1 q3) (ec_idy00 x1 x2 x3 y2 l n q1 q3)
theorem ec_assoc {F : Type} [Lean.Grind.CommRing F] [DecidableEq F] {inv : F → F} (hF : ec_fld inv) {b : F} (hb : b ≠ 0) {A B C : Option (F × F)} (hA : ec_on b A) (hB : ec_on b B) (hC : ec_on b C) : ec_add inv (ec_add inv A B) C = ec_add inv A (ec_add inv B C) := by
  match A, B, C, hA, hB, hC with
  | none, B, C, _, _, _ => rfl
  | some a, none, C, _, _, _ => rfl
  | some a, some c, none, _, _, _ => rw [ec_add_none, ec_add_none]
  | some (x1, y1), some (x2, y2), some (x3, y3), hA, hB, hC =>
    by_cases hd : x1 = x2 ∧ y1 + y2 = 0
    · -- B is -A
      have hBn : some (x2, y2) = ec_neg (some (x1, y1)) := by
        show some (x2, y2) = some (x1, -y1)
        rw [hd.1, show -y1 = y2 by have := hd.2; grind]
      rw [ec_add_dg hd, hBn]
      have h := ec_back hF hb (ec_neg_on hA) hC
      rw [ec_neg_neg] at h
      exact h.symm
    by_cases hd3 : x2 = x3 ∧ y2 + y3 = 0
    · have hCn : some (x3, y3) = ec_neg (some (x2, y2)) := by
        show some (x3, y3) = some (x2, -y2)
        rw [← hd3.1, show -y2 = y3 by have := hd3.2; grind]
      rw [ec_add_dg hd3, hCn, ec_add_none]
      have h := ec_back hF hb hB hA
      rw [ec_add_comm hF (ec_add_on hF hA hB) (ec_neg_on hB), ec_add_comm hF hA hB]
      exact h
    obtain ⟨l, hl, eAB⟩ := ec_sl_ex hF hA hB hd
    obtain ⟨n, hn, eBC⟩ := ec_sl_ex hF hB hC hd3
    have onAB := ec_out_on hA hl
    have onBC := ec_out_on hB hn
    by_cases d1 : (ec_out x1 y1 x2 l).1 = x3 ∧ (ec_out x1 y1 x2 l).2 + y3 = 0
    · -- C is -(A + B)
      have hCn : some (x3, y3) = ec_neg (ec_add inv (some (x1, y1)) (some (x2, y2))) := by
        rw [eAB]
        show some (x3, y3) = some ((ec_out x1 y1 x2 l).1, -(ec_out x1 y1 x2 l).2)
        rw [d1.1, show -(ec_out x1 y1 x2 l).2 = y3 by have := d1.2; grind]
      have hlast : ec_add inv (ec_add inv (some (x1, y1)) (some (x2, y2))) (some (x3, y3)) = none := by rw [hCn]; exact ec_add_neg _
      rw [hlast]
      have h := ec_back hF hb hB hA
      have h2 := ec_neg_add hF (ec_neg_on hB) (ec_add_on hF hB hA)
      rw [h, ec_neg_neg, ec_add_comm hF hB hA, ← hCn] at h2
      rw [h2, ec_add_neg]
    by_cases d2 : x1 = (ec_out x2 y2 x3 n).1 ∧ y1 + (ec_out x2 y2 x3 n).2 = 0
    · -- B + C is -A
      have hBn : ec_add inv (some (x2, y2)) (some (x3, y3)) = ec_neg (some (x1, y1)) := by
        rw [eBC]
        show some ((ec_out x2 y2 x3 n).1, (ec_out x2 y2 x3 n).2) = some (x1, -y1)
        rw [← d2.1, show -y1 = (ec_out x2 y2 x3 n).2 by have := d2.2; grind]
      rw [hBn, ec_add_neg]
      have h := ec_back hF hb hB hC
      rw [hBn, ec_neg_add hF hB hA, ec_add_comm hF hB hA] at h
      rw [← h, ec_add_neg]
    rw [eAB, eBC]
    obtain ⟨m, hm, eL⟩ := ec_sl_ex (x1 := (ec_out x1 y1 x2 l).1) (y1 := (ec_out x1 y1 x2 l).2) hF onAB hC d1
    obtain ⟨k, hk, eR⟩ := ec_sl_ex (x2 := (ec_out x2 y2 x3 n).1) (y2 := (ec_out x2 y2 x3 n).2) hF hA onBC d2
    have eL' : ec_add inv (some (ec_out x1 y1 x2 l)) (some (x3, y3)) = some (ec_out (ec_out x1 y1 x2 l).1 (ec_out x1 y1 x2 l).2 x3 m) := eL
    have eR' : ec_add inv (some (x1, y1)) (some (ec_out x2 y2 x3 n)) = some (ec_out x1 y1 (ec_out x2 y2 x3 n).1 k) := eR
    rw [eL', eR']
    exact congrArg some (ec_assoc_sl hF hl hn rfl rfl rfl rfl hm hk d1 d2)
end
