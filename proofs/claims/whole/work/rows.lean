section
/-! numbers: primes, Fermat, Pocklington, the modulus P is prime -/
def ec_prime (p : Nat) : Prop := 2 ≤ p ∧ ∀ d, d ∣ p → d = 1 ∨ d = p
theorem ec_cop {p a : Nat} (hp : ec_prime p) (h : ¬ p ∣ a) : Nat.Coprime p a := by
  have h1 : Nat.gcd p a ∣ p := Nat.gcd_dvd_left p a
  rcases hp.2 _ h1 with h2 | h2
  · exact h2
  · have h3 := Nat.gcd_dvd_right p a
    rw [h2] at h3
    exact absurd h3 h
theorem ec_euclid {p a b : Nat} (hp : ec_prime p) (h : p ∣ a * b) : p ∣ a ∨ p ∣ b := by
  by_cases ha : p ∣ a
  · exact Or.inl ha
  · exact Or.inr ((ec_cop hp ha).dvd_of_dvd_mul_left h)
theorem ec_powgcd (n x : Nat) (a b : Nat) : x ^ a % n = 1 % n → x ^ b % n = 1 % n → x ^ (Nat.gcd a b) % n = 1 % n := by
  induction a, b using Nat.gcd.induction with
  | H0 b => intro _ h; rw [Nat.gcd_zero_left]; exact h
  | H1 a b ha ih =>
    intro h1 h2
    rw [Nat.gcd_rec]
    refine ih ?_ h1
    have e : x ^ b = (x ^ a) ^ (b / a) * x ^ (b % a) := by
      rw [← Nat.pow_mul, ← Nat.pow_add, Nat.div_add_mod]
    have e2 : (x ^ a) ^ (b / a) % n = 1 % n := by
      rw [Nat.pow_mod, h1, ← Nat.pow_mod, Nat.one_pow]
    rw [e, Nat.mul_mod, e2, ← Nat.mul_mod, Nat.one_mul] at h2
    exact h2
def ec_pr : List Nat → Nat
  | [] => 1
  | a :: l => a * ec_pr l
theorem ec_pr_perm {l l' : List Nat} (h : l.Perm l') : ec_pr l = ec_pr l' := by
  induction h with
  | nil => rfl
  | cons x _ ih => simp only [ec_pr, ih]
  | swap x y l => simp only [ec_pr]; exact Nat.mul_left_comm _ _ _
  | trans _ _ h1 h2 => exact h1.trans h2
theorem ec_perm_of : ∀ (l l' : List Nat), l.Nodup → (∀ x ∈ l, x ∈ l') → l'.length ≤ l.length → l.Perm l'
  | [], l', _, _, hl => by
    have h0 : l' = [] := List.eq_nil_of_length_eq_zero (Nat.le_zero.mp hl)
    subst h0
    exact List.Perm.nil
  | a :: t, l', hn, hs, hl => by
    have ha : a ∈ l' := hs a List.mem_cons_self
    have hp := List.perm_cons_erase ha
    have hn' := List.nodup_cons.mp hn
    refine (List.Perm.cons a (ec_perm_of t (l'.erase a) hn'.2 ?_ ?_)).trans hp.symm
    · intro x hx
      have hxa : x ≠ a := fun e => hn'.1 (e ▸ hx)
      exact (List.mem_erase_of_ne hxa).mpr (hs x (List.mem_cons_of_mem _ hx))
    · rw [List.length_erase_of_mem ha]
      simp only [List.length_cons] at hl
      omega
theorem ec_modsub {p x y : Nat} (hxy : x ≤ y) (h : x % p = y % p) : p ∣ y - x := by
  refine Nat.dvd_of_mod_eq_zero ?_
  exact Nat.sub_mod_eq_zero_of_mod_eq h.symm
theorem ec_inj1 {p a x y : Nat} (hp : ec_prime p) (ha : ¬ p ∣ a) (hxy : x ≤ y) (hy : y < p) (h : a * x % p = a * y % p) : x = y := by
  have h1 := ec_modsub (Nat.mul_le_mul_left a hxy) h
  rw [← Nat.mul_sub] at h1
  rcases ec_euclid hp h1 with h2 | h2
  · exact absurd h2 ha
  · have h3 := Nat.eq_zero_of_dvd_of_lt h2 (by omega)
    omega
theorem ec_inj {p a x y : Nat} (hp : ec_prime p) (ha : ¬ p ∣ a) (hx : x < p) (hy : y < p) (h : a * x % p = a * y % p) : x = y := by
  rcases Nat.le_total x y with h1 | h1
  · exact ec_inj1 hp ha h1 hy h
  · exact (ec_inj1 hp ha h1 hx h.symm).symm
theorem ec_prmap (p a : Nat) : ∀ l : List Nat, ec_pr (l.map (fun i => a * i % p)) % p = a ^ l.length * ec_pr l % p
  | [] => by simp [ec_pr]
  | b :: l => by
    have ih := ec_prmap p a l
    simp only [List.map_cons, ec_pr, List.length_cons]
    rw [Nat.mul_mod, Nat.mod_mod, ih, ← Nat.mul_mod, Nat.pow_succ]
    congr 1
    rw [Nat.mul_mul_mul_comm, Nat.mul_comm a (a ^ l.length), Nat.mul_comm b]
theorem ec_prcop {p : Nat} (hp : ec_prime p) : ∀ l : List Nat, (∀ x ∈ l, ¬ p ∣ x) → ¬ p ∣ ec_pr l
  | [], _ => by
    intro h
    have h1 : p ∣ 1 := h
    have h2 := Nat.le_of_dvd (by decide) h1
    have h3 := hp.1
    omega
  | b :: l, hl => by
    intro h
    rcases ec_euclid hp h with h1 | h1
    · exact hl b List.mem_cons_self h1
    · exact ec_prcop hp l (fun x hx => hl x (List.mem_cons_of_mem _ hx)) h1
theorem ec_cancel {p u q : Nat} (hp : ec_prime p) (hq : ¬ p ∣ q) (h : u * q % p = q % p) : u % p = 1 % p := by
  have hu : 1 ≤ u := by
    rcases Nat.eq_zero_or_pos u with h0 | h0
    · subst h0
      rw [Nat.zero_mul, Nat.zero_mod] at h
      exact absurd (Nat.dvd_of_mod_eq_zero h.symm) hq
    · exact h0
  have h1 : p ∣ u * q - 1 * q := ec_modsub (Nat.mul_le_mul_right q hu) (by rw [Nat.one_mul]; exact h.symm)
  rw [← Nat.sub_mul] at h1
  rcases ec_euclid hp h1 with h2 | h2
  · obtain ⟨k, hk⟩ := h2
    have h3 : u = 1 + p * k := by omega
    rw [h3, Nat.add_mul_mod_self_left]
  · exact absurd h2 hq
theorem ec_fermat {p a : Nat} (hp : ec_prime p) (ha : ¬ p ∣ a) : a ^ (p - 1) % p = 1 := by
  have h2 := hp.1
  have hL : ∀ x, x ∈ List.range' 1 (p - 1) ↔ 1 ≤ x ∧ x < p := by
    intro x
    rw [List.mem_range'_1]
    omega
  have hnd : ((List.range' 1 (p - 1)).map (fun i => a * i % p)).Nodup := by
    unfold List.Nodup
    rw [List.pairwise_map]
    have hd : (List.range' 1 (p - 1)).Nodup := List.nodup_range'
    refine List.Pairwise.imp_of_mem ?_ hd
    intro x y hx hy hne he
    exact hne (ec_inj hp ha ((hL x).mp hx).2 ((hL y).mp hy).2 he)
  have hperm := ec_perm_of _ (List.range' 1 (p - 1)) hnd (by
    intro x hx
    obtain ⟨i, hi, rfl⟩ := List.mem_map.mp hx
    have hi' := (hL i).mp hi
    refine (hL _).mpr ⟨?_, Nat.mod_lt _ (by omega)⟩
    rcases Nat.eq_zero_or_pos (a * i % p) with h0 | h0
    · rcases ec_euclid hp (Nat.dvd_of_mod_eq_zero h0) with h1 | h1
      · exact absurd h1 ha
      · have := Nat.le_of_dvd (by omega) h1
        omega
    · exact h0) (by simp)
  have h3 := ec_prmap p a (List.range' 1 (p - 1))
  rw [ec_pr_perm hperm, List.length_range'] at h3
  have h4 := ec_cancel hp (ec_prcop hp _ (fun x hx => fun hd => by
    have hx' := (hL x).mp hx
    have := Nat.le_of_dvd (by omega) hd
    omega)) h3.symm
  rw [h4, Nat.mod_eq_of_lt (by omega)]
theorem ec_pock {n q a p : Nat} (hn : 2 ≤ n) (hq : ec_prime q) (hqn : q ∣ n - 1) (h1 : a ^ (n - 1) % n = 1) (hg : Nat.gcd (a ^ ((n - 1) / q) % n + (n - 1)) n = 1) (hp : ec_prime p) (hpn : p ∣ n) : q ∣ p - 1 := by
  by_cases hd : q ∣ p - 1
  · exact hd
  have hp2 := hp.1
  have hq2 := hq.1
  have hgc : Nat.gcd q (p - 1) = 1 := ec_cop hq hd
  have hxq : (a ^ ((n - 1) / q)) ^ q % p = 1 % p := by
    rw [← Nat.pow_mul, Nat.div_mul_cancel hqn, ← Nat.mod_mod_of_dvd _ hpn, h1]
  have hpx : ¬ p ∣ a ^ ((n - 1) / q) := by
    intro h
    have h3 : p ∣ (a ^ ((n - 1) / q)) ^ q := Nat.dvd_trans h ⟨(a ^ ((n - 1) / q)) ^ (q - 1), by rw [← Nat.pow_succ']; congr 1; omega⟩
    rw [Nat.mod_eq_zero_of_dvd h3, Nat.mod_eq_of_lt (by omega)] at hxq
    exact absurd hxq (by decide)
  have hf := ec_fermat hp hpx
  have h4 := ec_powgcd p (a ^ ((n - 1) / q)) q (p - 1) hxq (by rw [hf, Nat.mod_eq_of_lt (by omega)])
  rw [hgc, Nat.pow_one, Nat.mod_eq_of_lt (a := 1) (by omega)] at h4
  have h5 : a ^ ((n - 1) / q) % n % p = 1 := by rw [Nat.mod_mod_of_dvd _ hpn]; exact h4
  obtain ⟨m, hm⟩ := hpn
  have h6 := Nat.div_add_mod (a ^ ((n - 1) / q) % n) p
  rw [h5] at h6
  have h7 : p ∣ a ^ ((n - 1) / q) % n + (n - 1) := by
    refine ⟨(a ^ ((n - 1) / q) % n) / p + m, ?_⟩
    rw [Nat.mul_add, ← hm]
    omega
  have h8 := Nat.dvd_gcd h7 ⟨m, hm⟩
  rw [hg] at h8
  have := Nat.le_of_dvd (by decide) h8
  omega
theorem ec_hasprime (n : Nat) (h : 2 ≤ n) : ∃ p, ec_prime p ∧ p ∣ n := by
  induction n using Nat.strongRecOn with
  | ind n ih =>
    by_cases hn : ∀ d, d ∣ n → d = 1 ∨ d = n
    · exact ⟨n, ⟨h, hn⟩, Nat.dvd_refl n⟩
    · obtain ⟨d, hd⟩ := Classical.not_forall.mp hn
      obtain ⟨hd1, hd2⟩ := Classical.not_imp.mp hd
      have hle := Nat.le_of_dvd (by omega) hd1
      have hd0 : d ≠ 0 := by
        intro h0
        subst h0
        have := Nat.eq_zero_of_zero_dvd hd1
        omega
      obtain ⟨p, hp, hpd⟩ := ih d (by omega) (by omega)
      exact ⟨p, hp, Nat.dvd_trans hpd hd1⟩
theorem ec_prime_of {n : Nat} (h2 : 2 ≤ n) (h : ∀ p, ec_prime p → p ∣ n → n < p * p) : ec_prime n := by
  have key : ∀ d e, n = d * e → d ≤ e → d = 1 ∨ d = n := by
    intro d e hde hle
    rcases Nat.lt_or_ge d 2 with hd | hd
    · rcases Nat.eq_zero_or_pos d with h0 | h0
      · subst h0
        rw [Nat.zero_mul] at hde
        omega
      · exact Or.inl (by omega)
    · obtain ⟨p, hp, hpd⟩ := ec_hasprime d hd
      have h3 := h p hp (Nat.dvd_trans hpd ⟨e, hde⟩)
      have h4 := Nat.le_of_dvd (by omega) hpd
      have h5 := Nat.mul_le_mul h4 (Nat.le_trans h4 hle)
      omega
  refine ⟨h2, fun d hd => ?_⟩
  obtain ⟨e, he⟩ := hd
  rcases Nat.le_total d e with hle | hle
  · exact key d e he hle
  · rcases key e d (by rw [he, Nat.mul_comm]) hle with h1 | h1
    · subst h1
      exact Or.inr (by omega)
    · have h3 : n = d * n := by rw [h1] at he; exact he
      have h4 : d * n = 1 * n := by omega
      exact Or.inl (Nat.eq_of_mul_eq_mul_right (by omega) h4)
/-- trial division up to k -/
def ec_tr (n : Nat) : Nat → Bool
  | 0 => true
  | k + 1 => (Nat.ble (k + 1) 1 || !(Nat.beq (n % (k + 1)) 0)) && ec_tr n k
theorem ec_tr_spec (n : Nat) : ∀ k, ec_tr n k = true → ∀ d, 2 ≤ d → d ≤ k → ¬ d ∣ n
  | 0, _, d, h2, hk => by omega
  | k + 1, h, d, h2, hk => by
    simp only [ec_tr, Bool.and_eq_true, Bool.or_eq_true, Bool.not_eq_true'] at h
    by_cases hd : d = k + 1
    · subst hd
      intro hdv
      rcases h.1 with h1 | h1
      · have := Nat.le_of_ble_eq_true h1
        omega
      · rw [Nat.mod_eq_zero_of_dvd hdv] at h1
        cases h1
    · exact ec_tr_spec n k h.2 d h2 (by omega)
theorem ec_small {n : Nat} (k : Nat) (h2 : 2 ≤ n) (hk : n < (k + 1) * (k + 1)) (h : ec_tr n k = true) : ec_prime n := by
  refine ec_prime_of h2 fun p hp hd => ?_
  rcases Nat.lt_or_ge k p with h1 | h1
  · have := Nat.mul_le_mul (show k + 1 ≤ p from h1) (show k + 1 ≤ p from h1)
    omega
  · exact absurd hd (ec_tr_spec n k h p hp.1 h1)
/-- power by squaring, for the kernel -/
def ec_mp (n : Nat) : Nat → Nat → Nat → Nat
  | 0, _, _ => 1 % n
  | f + 1, a, e => if e % 2 = 1 then (a * ec_mp n f (a * a % n) (e / 2)) % n else ec_mp n f (a * a % n) (e / 2)
theorem ec_mp_spec (n : Nat) : ∀ (f a e : Nat), e < 2 ^ f → ec_mp n f a e = a ^ e % n
  | 0, a, e, h => by
    have h0 : e = 0 := by omega
    subst h0
    rfl
  | f + 1, a, e, h => by
    have hlt : e / 2 < 2 ^ f := by
      rw [Nat.pow_succ] at h
      omega
    have ih := ec_mp_spec n f (a * a % n) (e / 2) hlt
    have e1 : (a * a % n) ^ (e / 2) % n = (a ^ (2 * (e / 2))) % n := by
      rw [← Nat.pow_mod, Nat.pow_mul, Nat.pow_two]
    simp only [ec_mp]
    rw [ih, e1]
    by_cases hp : e % 2 = 1
    · rw [if_pos hp]
      have he : a ^ e = a * a ^ (2 * (e / 2)) := by
        rw [← Nat.pow_succ']
        congr 1
        omega
      rw [he, Nat.mul_mod, Nat.mod_mod, ← Nat.mul_mod]
    · rw [if_neg hp]
      congr 2
      omega
theorem ec_pockC {n q a p : Nat} (f : Nat) (hn : 2 ≤ n) (hq : ec_prime q) (h : (n - 1) % q = 0 ∧ n - 1 < 2 ^ f ∧ (n - 1) / q < 2 ^ f ∧ ec_mp n f a (n - 1) = 1 ∧ Nat.gcd (ec_mp n f a ((n - 1) / q) + (n - 1)) n = 1) (hp : ec_prime p) (hpn : p ∣ n) : q ∣ p - 1 := by
  obtain ⟨h1, h2, h3, h4, h5⟩ := h
  rw [ec_mp_spec n f a _ h2] at h4
  rw [ec_mp_spec n f a _ h3] at h5
  exact ec_pock hn hq (Nat.dvd_of_mod_eq_zero h1) h4 h5 hp hpn
theorem ec_bigdiv {n q : Nat} (hn : 2 ≤ n) (hq : n < q * q) (h : ∀ p, ec_prime p → p ∣ n → q ∣ p - 1) : ec_prime n := by
  refine ec_prime_of hn fun p hp hd => ?_
  have h1 := Nat.le_of_dvd (by have := hp.1; omega) (h p hp hd)
  have h2 := Nat.mul_le_mul (show q ≤ p by omega) (show q ≤ p by omega)
  omega
theorem ec_pr5 : ec_prime 20113 := ec_small 142 (by decide) (by decide) (by decide +kernel)
theorem ec_pr4 : ec_prime 1206781 := ec_bigdiv (q := 20113) (by decide) (by decide) (fun p hp hd => ec_pockC (a := 2) 21 (by decide) ec_pr5 (by decide +kernel) hp hd)
theorem ec_pr3 : ec_prime 7240687 := ec_bigdiv (q := 1206781) (by decide) (by decide) (fun p hp hd => ec_pockC (a := 2) 23 (by decide) ec_pr4 (by decide +kernel) hp hd)
theorem ec_pr2 : ec_prime 96557 := ec_small 311 (by decide) (by decide) (by decide +kernel)
theorem ec_pr53 : ec_prime 53 := ec_small 8 (by decide) (by decide) (by decide +kernel)
theorem ec_pr29 : ec_prime 29 := ec_small 6 (by decide) (by decide) (by decide +kernel)
theorem ec_pr7 : ec_prime 7 := ec_small 3 (by decide) (by decide) (by decide +kernel)
theorem ec_pr1 : ec_prime 107590001 := ec_bigdiv (q := 53 * 29 * 7) (by decide) (by decide) (fun p hp hd =>
  Nat.Coprime.mul_dvd_of_dvd_of_dvd (by decide) (Nat.Coprime.mul_dvd_of_dvd_of_dvd (by decide) (ec_pockC (a := 2) 27 (by decide) ec_pr53 (by decide +kernel) hp hd) (ec_pockC (a := 2) 27 (by decide) ec_pr29 (by decide +kernel) hp hd)) (ec_pockC (a := 2) 27 (by decide) ec_pr7 (by decide +kernel) hp hd))
def ec_b : Nat := 255515944373312847190720520512484175977
def ec_q : Nat := 205115282021455665897114700593932402728804164701536103180137503955397371
def ec_P : Nat := 115792089237316195423570985008687907853269984665640564039457584007908834671663
theorem ec_prb : ec_prime ec_b := ec_bigdiv (q := 107590001 * 7240687 * 96557) (by decide +kernel) (by decide +kernel) (fun p hp hd =>
  Nat.Coprime.mul_dvd_of_dvd_of_dvd (by decide +kernel) (Nat.Coprime.mul_dvd_of_dvd_of_dvd (by decide +kernel) (ec_pockC (a := 2) 128 (by decide +kernel) ec_pr1 (by decide +kernel) hp hd) (ec_pockC (a := 2) 128 (by decide +kernel) ec_pr3 (by decide +kernel) hp hd)) (ec_pockC (a := 2) 128 (by decide +kernel) ec_pr2 (by decide +kernel) hp hd))
theorem ec_prq : ec_prime ec_q := ec_bigdiv (q := ec_b) (by decide +kernel) (by decide +kernel) (fun p hp hd => ec_pockC (a := 2) 237 (by decide +kernel) ec_prb (by decide +kernel) hp hd)
/-- the first modulus is prime -/
theorem ec_prP : ec_prime ec_P := ec_bigdiv (q := ec_q) (by decide +kernel) (by decide +kernel) (fun p hp hd => ec_pockC (a := 2) 256 (by decide +kernel) ec_prq (by decide +kernel) hp hd)
theorem ec_fermatP {a : Nat} (h : a % ec_P ≠ 0) : a ^ (ec_P - 1) % ec_P = 1 := ec_fermat ec_prP (fun hd => h (Nat.mod_eq_zero_of_dvd hd))
end
section
/-! the sum of points: an identity of those that make it associative -/
set_option maxRecDepth 20000 in
set_option maxHeartbeats 4000000 in
theorem ec_idx00 {F : Type} [Lean.Grind.CommRing F] (x1 x2 x3 y2 l n : F) (h1 : x1*x1 + x1*x2 + x2*x2 - l*(2*y2 + l*(x1 - x2)) = 0) (h3 : x3*x3 + x3*x2 + x2*x2 - n*(2*y2 + n*(x3 - x2)) = 0) : ((y2 + n*(x3 - x2)) - (l*(x1 - (l*l - x1 - x2)) - (y2 + l*(x1 - x2))))*((y2 + n*(x3 - x2)) - (l*(x1 - (l*l - x1 - x2)) - (y2 + l*(x1 - x2))))*(((n*n - x2 - x3) - x1)*((n*n - x2 - x3) - x1)) - ((n*(x2 - (n*n - x2 - x3)) - y2) - (y2 + l*(x1 - x2)))*((n*(x2 - (n*n - x2 - x3)) - y2) - (y2 + l*(x1 - x2)))*((x3 - (l*l - x1 - x2))*(x3 - (l*l - x1 - x2))) - (x3 + (l*l - x1 - x2) - x1 - (n*n - x2 - x3))*((x3 - (l*l - x1 - x2))*(x3 - (l*l - x1 - x2)))*(((n*n - x2 - x3) - x1)*((n*n - x2 - x3) - x1)) = 0 := by
  have e : ((y2 + n*(x3 - x2)) - (l*(x1 - (l*l - x1 - x2)) - (y2 + l*(x1 - x2))))*((y2 + n*(x3 - x2)) - (l*(x1 - (l*l - x1 - x2)) - (y2 + l*(x1 - x2))))*(((n*n - x2 - x3) - x1)*((n*n - x2 - x3) - x1)) - ((n*(x2 - (n*n - x2 - x3)) - y2) - (y2 + l*(x1 - x2)))*((n*(x2 - (n*n - x2 - x3)) - y2) - (y2 + l*(x1 - x2)))*((x3 - (l*l - x1 - x2))*(x3 - (l*l - x1 - x2))) - (x3 + (l*l - x1 - x2) - x1 - (n*n - x2 - x3))*((x3 - (l*l - x1 - x2))*(x3 - (l*l - x1 - x2)))*(((n*n - x2 - x3) - x1)*((n*n - x2 - x3) - x1)) = ((((((2*x1*x1*x1 + 6*x1*x1*x3) + (6*x1*x1*x2 + (-(3*x1*x1*l*l) + -(3*x1*x1*n*n)))) + ((4*x1*x3*x3 + (10*x1*x3*x2 + -(6*x1*x3*l*l))) + (-(4*x1*x3*n*n) + (4*x1*x2*x2 + -(3*x1*x2*l*l))))) + (((6*x1*x2*l*n + -(5*x1*x2*n*n)) + (-(4*x1*y2*l) + (x1*l*l*l*l + 3*x1*l*l*n*n))) + ((-(2*x1*l*n*n*n) + (-(4*x3*x3*x3) + -(4*x3*x3*x2))) + (-(2*x3*x3*l*l) + (6*x3*x3*n*n + -(4*x3*x2*x2)))))) + ((((-(2*x3*x2*l*l) + 6*x3*x2*l*n) + (-(2*x3*x2*n*n) + (-(4*x3*y2*l) + 8*x3*y2*n))) + ((-(2*x3*l*l*l*n) + (2*x3*l*l*n*n + -(2*x3*n*n*n*n))) + (-(2*x2*x2*x2) + (x2*x2*l*l + 6*x2*x2*l*n)))) + (((-(x2*x2*n*n) + (-(4*x2*y2*l) + 4*x2*y2*n)) + (-(x2*l*l*l*l) + (-(4*x2*l*l*l*n) + x2*l*l*n*n))) + ((-(4*x2*l*n*n*n) + (2*x2*n*n*n*n + 2*y2*l*l*l)) + (2*y2*l*n*n + (-(4*y2*n*n*n) + 2*l*l*l*n*n*n)))))))*(x1*x1 + x1*x2 + x2*x2 - l*(2*y2 + l*(x1 - x2))) + ((((((-(6*x1*x3*x3) + -(6*x1*x3*x2)) + (6*x1*x3*n*n + -(6*x1*x2*l*n))) + ((4*x1*y2*n + 2*x1*l*n*n*n) + (-(2*x3*x3*x3) + -(6*x3*x3*x2)))) + (((3*x3*x3*l*l + 3*x3*x3*n*n) + (9*x3*x2*l*l + -(6*x3*x2*l*n))) + ((3*x3*x2*n*n + -(8*x3*y2*l)) + (4*x3*y2*n + 2*x3*l*l*l*n)))) + ((((-(3*x3*l*l*n*n) + -(x3*n*n*n*n)) + (2*x2*x2*x2 + 3*x2*x2*l*l)) + ((-(6*x2*x2*l*n) + -(3*x2*x2*n*n)) + (-(4*x2*y2*l) + 4*x2*y2*n))) + (((4*x2*l*l*l*n + -(3*x2*l*l*n*n)) + (4*x2*l*n*n*n + x2*n*n*n*n)) + ((-(2*y2*l*l*n) + 4*y2*l*n*n) + (-(2*y2*n*n*n) + -(2*l*l*l*n*n*n)))))))*(x3*x3 + x3*x2 + x2*x2 - n*(2*y2 + n*(x3 - x2))) := by grind
  rw [e, h1, h3]
  grind
end
section
/-! the sum of points: an identity of those that make it associative -/
set_option maxRecDepth 20000 in
set_option maxHeartbeats 4000000 in
theorem ec_idy00 {F : Type} [Lean.Grind.CommRing F] (x1 x2 x3 y2 l n : F) (h1 : x1*x1 + x1*x2 + x2*x2 - l*(2*y2 + l*(x1 - x2)) = 0) (h3 : x3*x3 + x3*x2 + x2*x2 - n*(2*y2 + n*(x3 - x2)) = 0) : ((y2 + n*(x3 - x2)) - (l*(x1 - (l*l - x1 - x2)) - (y2 + l*(x1 - x2))))*((n*n - x2 - x3) - x1)*(2*x3 + (l*l - x1 - x2))*((x3 - (l*l - x1 - x2))*(x3 - (l*l - x1 - x2))) - ((y2 + n*(x3 - x2)) - (l*(x1 - (l*l - x1 - x2)) - (y2 + l*(x1 - x2))))*((y2 + n*(x3 - x2)) - (l*(x1 - (l*l - x1 - x2)) - (y2 + l*(x1 - x2))))*((y2 + n*(x3 - x2)) - (l*(x1 - (l*l - x1 - x2)) - (y2 + l*(x1 - x2))))*((n*n - x2 - x3) - x1) - (y2 + n*(x3 - x2))*((x3 - (l*l - x1 - x2))*(x3 - (l*l - x1 - x2))*(x3 - (l*l - x1 - x2)))*((n*n - x2 - x3) - x1) - ((n*(x2 - (n*n - x2 - x3)) - y2) - (y2 + l*(x1 - x2)))*(x3 - (l*l - x1 - x2))*((x1 + x3 + (l*l - x1 - x2))*((x3 - (l*l - x1 - x2))*(x3 - (l*l - x1 - x2))) - ((y2 + n*(x3 - x2)) - (l*(x1 - (l*l - x1 - x2)) - (y2 + l*(x1 - x2))))*((y2 + n*(x3 - x2)) - (l*(x1 - (l*l - x1 - x2)) - (y2 + l*(x1 - x2))))) + (y2 + l*(x1 - x2))*((x3 - (l*l - x1 - x2))*(x3 - (l*l - x1 - x2))*(x3 - (l*l - x1 - x2)))*((n*n - x2 - x3) - x1) = 0 := by
  have e : ((y2 + n*(x3 - x2)) - (l*(x1 - (l*l - x1 - x2)) - (y2 + l*(x1 - x2))))*((n*n - x2 - x3) - x1)*(2*x3 + (l*l - x1 - x2))*((x3 - (l*l - x1 - x2))*(x3 - (l*l - x1 - x2))) - ((y2 + n*(x3 - x2)) - (l*(x1 - (l*l - x1 - x2)) - (y2 + l*(x1 - x2))))*((y2 + n*(x3 - x2)) - (l*(x1 - (l*l - x1 - x2)) - (y2 + l*(x1 - x2))))*((y2 + n*(x3 - x2)) - (l*(x1 - (l*l - x1 - x2)) - (y2 + l*(x1 - x2))))*((n*n - x2 - x3) - x1) - (y2 + n*(x3 - x2))*((x3 - (l*l - x1 - x2))*(x3 - (l*l - x1 - x2))*(x3 - (l*l - x1 - x2)))*((n*n - x2 - x3) - x1) - ((n*(x2 - (n*n - x2 - x3)) - y2) - (y2 + l*(x1 - x2)))*(x3 - (l*l - x1 - x2))*((x1 + x3 + (l*l - x1 - x2))*((x3 - (l*l - x1 - x2))*(x3 - (l*l - x1 - x2))) - ((y2 + n*(x3 - x2)) - (l*(x1 - (l*l - x1 - x2)) - (y2 + l*(x1 - x2))))*((y2 + n*(x3 - x2)) - (l*(x1 - (l*l - x1 - x2)) - (y2 + l*(x1 - x2))))) + (y2 + l*(x1 - x2))*((x3 - (l*l - x1 - x2))*(x3 - (l*l - x1 - x2))*(x3 - (l*l - x1 - x2)))*((n*n - x2 - x3) - x1) = ((((((-(2*x1*x1*x1*l) + (-(4*x1*x1*x3*l) + 2*x1*x1*x3*n)) + ((-(8*x1*x1*x2*l) + -(2*x1*x1*x2*n)) + (2*x1*x1*y2 + 4*x1*x1*l*l*l))) + (((2*x1*x1*l*n*n + 4*x1*x3*x3*n) + (-(10*x1*x3*x2*l) + 4*x1*x3*y2)) + ((7*x1*x3*l*l*l + x1*x3*l*l*n) + (3*x1*x3*l*n*n + -(x1*x3*n*n*n))))) + ((((-(8*x1*x2*x2*l) + -(4*x1*x2*x2*n)) + (4*x1*x2*y2 + 9*x1*x2*l*l*l)) + ((-(x1*x2*l*l*n) + 5*x1*x2*l*n*n) + (x1*x2*n*n*n + 2*x1*y2*l*l))) + (((-(2*x1*y2*n*n) + -(2*x1*l*l*l*l*l)) + (-(4*x1*l*l*l*n*n) + 4*x3*x3*x3*l)) + ((6*x3*x3*x2*l + 2*x3*x3*x2*n) + (-(2*x3*x3*l*l*n) + -(6*x3*x3*l*n*n)))))) + ((((2*x3*x2*x2*l + (-(2*x3*x2*x2*n) + 2*x3*x2*y2)) + ((8*x3*x2*l*l*l + 6*x3*x2*l*l*n) + (6*x3*x2*l*n*n + -(2*x3*x2*n*n*n)))) + (((-(2*x3*y2*l*l) + -(12*x3*y2*l*n)) + (-(3*x3*l*l*l*l*l) + -(3*x3*l*l*l*l*n))) + ((-(3*x3*l*l*l*n*n) + x3*l*l*n*n*n) + (2*x3*l*n*n*n*n + 2*x2*x2*x2*l)))) + ((((2*x2*x2*l*l*l + -(4*x2*x2*l*l*n)) + (2*x2*x2*l*n*n + 2*x2*x2*n*n*n)) + ((6*x2*y2*l*l + -(4*x2*y2*n*n)) + (-(x2*l*l*l*l*l) + 3*x2*l*l*l*l*n))) + (((-(5*x2*l*l*l*n*n) + -(x2*l*l*n*n*n)) + (-(2*x2*l*n*n*n*n) + -(4*y2*y2*l))) + ((-(4*y2*l*l*l*l) + 2*y2*l*l*n*n) + (4*y2*l*n*n*n + 2*l*l*l*l*l*n*n)))))))*(x1*x1 + x1*x2 + x2*x2 - l*(2*y2 + l*(x1 - x2))) + ((((((2*x1*x3*x3*l + (-(4*x1*x3*x3*n) + 8*x1*x3*x2*l)) + (2*x1*x3*x2*n + (-(4*x1*x3*y2) + -(3*x1*x3*l*l*l)))) + ((-(3*x1*x3*l*l*n) + (-(5*x1*x3*l*n*n) + x1*x3*n*n*n)) + ((2*x1*x2*x2*l + 2*x1*x2*x2*n) + (-(2*x1*x2*y2) + -(3*x1*x2*l*l*l))))) + (((3*x1*x2*l*l*n + (-(x1*x2*l*n*n) + -(x1*x2*n*n*n))) + ((-(4*x1*y2*l*n) + 2*x1*y2*n*n) + (2*x1*l*l*l*n*n + -(2*x3*x3*x3*n)))) + ((4*x3*x3*x2*l + (-(2*x3*x3*x2*n) + -(2*x3*x3*y2))) + ((-(2*x3*x3*l*l*l) + 2*x3*x3*l*l*n) + (2*x3*x3*n*n*n + 4*x3*x2*x2*l))))) + ((((4*x3*x2*x2*n + (-(4*x3*x2*y2) + -(14*x3*x2*l*l*l))) + (-(4*x3*x2*l*l*n) + (-(10*x3*x2*l*n*n) + -(2*x3*x2*n*n*n)))) + ((10*x3*y2*l*l + (6*x3*y2*n*n + 3*x3*l*l*l*l*l)) + ((3*x3*l*l*l*l*n + 5*x3*l*l*l*n*n) + (-(x3*l*l*n*n*n) + -(2*x2*x2*x2*l))))) + (((-(8*x2*x2*l*l*l) + (2*x2*x2*l*l*n + 4*x2*x2*l*n*n)) + ((8*x2*y2*l*l + -(8*x2*y2*l*n)) + (-(2*x2*y2*n*n) + 3*x2*l*l*l*l*l))) + ((-(3*x2*l*l*l*l*n) + (5*x2*l*l*l*n*n + x2*l*l*n*n*n)) + ((4*y2*y2*n + 4*y2*l*l*l*n) + (-(6*y2*l*l*n*n) + -(2*l*l*l*l*l*n*n))))))))*(x3*x3 + x3*x2 + x2*x2 - n*(2*y2 + n*(x3 - x2))) := by grind
  rw [e, h1, h3]
  grind
end
section
/-! the sum of points: an identity of those that make it associative -/
set_option maxRecDepth 20000 in
set_option maxHeartbeats 4000000 in
theorem ec_idx01 {F : Type} [Lean.Grind.CommRing F] (x1 x2 x3 y2 l n : F) (h1 : x1*x1 + x1*x2 + x2*x2 - l*(2*y2 + l*(x1 - x2)) = 0) (h3 : x3*x3 + x3*x2 + x2*x2 - n*(2*y2 + n*(x3 - x2)) = 0) : ((y2 + n*(x3 - x2)) - (l*(x1 - (l*l - x1 - x2)) - (y2 + l*(x1 - x2))))*((y2 + n*(x3 - x2)) - (l*(x1 - (l*l - x1 - x2)) - (y2 + l*(x1 - x2))))*(((y2 + l*(x1 - x2)) + (n*(x2 - (n*n - x2 - x3)) - y2))*((y2 + l*(x1 - x2)) + (n*(x2 - (n*n - x2 - x3)) - y2))) - (x1*x1 + x1*(n*n - x2 - x3) + (n*n - x2 - x3)*(n*n - x2 - x3))*(x1*x1 + x1*(n*n - x2 - x3) + (n*n - x2 - x3)*(n*n - x2 - x3))*((x3 - (l*l - x1 - x2))*(x3 - (l*l - x1 - x2))) - (x3 + (l*l - x1 - x2) - x1 - (n*n - x2 - x3))*((x3 - (l*l - x1 - x2))*(x3 - (l*l - x1 - x2)))*(((y2 + l*(x1 - x2)) + (n*(x2 - (n*n - x2 - x3)) - y2))*((y2 + l*(x1 - x2)) + (n*(x2 - (n*n - x2 - x3)) - y2))) = 0 := by
  have e : ((y2 + n*(x3 - x2)) - (l*(x1 - (l*l - x1 - x2)) - (y2 + l*(x1 - x2))))*((y2 + n*(x3 - x2)) - (l*(x1 - (l*l - x1 - x2)) - (y2 + l*(x1 - x2))))*(((y2 + l*(x1 - x2)) + (n*(x2 - (n*n - x2 - x3)) - y2))*((y2 + l*(x1 - x2)) + (n*(x2 - (n*n - x2 - x3)) - y2))) - (x1*x1 + x1*(n*n - x2 - x3) + (n*n - x2 - x3)*(n*n - x2 - x3))*(x1*x1 + x1*(n*n - x2 - x3) + (n*n - x2 - x3)*(n*n - x2 - x3))*((x3 - (l*l - x1 - x2))*(x3 - (l*l - x1 - x2))) - (x3 + (l*l - x1 - x2) - x1 - (n*n - x2 - x3))*((x3 - (l*l - x1 - x2))*(x3 - (l*l - x1 - x2)))*(((y2 + l*(x1 - x2)) + (n*(x2 - (n*n - x2 - x3)) - y2))*((y2 + l*(x1 - x2)) + (n*(x2 - (n*n - x2 - x3)) - y2))) = (((((((-(x1*x1*x1*x1) + x1*x1*x1*x2) + (3*x1*x1*x1*l*l + -(2*x1*x1*x1*n*n))) + ((4*x1*x1*x3*l*n + 2*x1*x1*x3*n*n) + (-(3*x1*x1*x2*l*l) + (8*x1*x1*x2*l*n + 4*x1*x1*x2*n*n)))) + (((-(2*x1*x1*y2*l) + -(2*x1*x1*l*l*l*l)) + (3*x1*x1*l*l*n*n + -(4*x1*x1*l*n*n*n))) + ((-(3*x1*x1*n*n*n*n) + -(2*x1*x3*x3*x3)) + (-(6*x1*x3*x3*x2) + (4*x1*x3*x3*l*n + 6*x1*x3*x3*n*n))))) + ((((-(6*x1*x3*x2*x2) + 8*x1*x3*x2*l*n) + (14*x1*x3*x2*n*n + -(6*x1*x3*l*l*l*n))) + ((-(4*x1*x3*l*l*n*n) + -(2*x1*x3*l*n*n*n)) + (-(4*x1*x3*n*n*n*n) + (-(3*x1*x2*x2*x2) + -(3*x1*x2*x2*l*l))))) + (((10*x1*x2*x2*n*n + 4*x1*x2*y2*l) + (4*x1*x2*l*l*l*l + (-(6*x1*x2*l*l*l*n) + -(5*x1*x2*l*l*n*n)))) + ((4*x1*x2*l*n*n*n + -(5*x1*x2*n*n*n*n)) + (-(4*x1*y2*l*n*n) + (-(x1*l*l*l*l*n*n) + 4*x1*l*l*l*n*n*n)))))) + (((((3*x1*l*l*n*n*n*n + -(2*x1*l*n*n*n*n*n)) + (2*x3*x3*x3*x2 + -(2*x3*x3*x3*l*l))) + ((-(4*x3*x3*x3*l*n) + 6*x3*x3*x2*x2) + (-(16*x3*x3*x2*l*n) + (8*x3*x3*l*n*n*n + 6*x3*x2*x2*x2)))) + (((-(24*x3*x2*x2*l*n) + 2*x3*x2*x2*n*n) + (6*x3*x2*l*l*l*n + -(8*x3*x2*l*l*n*n))) + ((16*x3*x2*l*n*n*n + -(2*x3*x2*n*n*n*n)) + (4*x3*y2*l*l*n + (4*x3*y2*l*n*n + -(2*x3*l*l*l*n*n*n)))))) + ((((2*x3*l*l*n*n*n*n + -(4*x3*l*n*n*n*n*n)) + (3*x2*x2*x2*x2 + 5*x2*x2*x2*l*l)) + ((-(16*x2*x2*x2*l*n) + -(2*x2*x2*y2*l)) + (-(2*x2*x2*l*l*l*l) + (6*x2*x2*l*l*l*n + -(x2*x2*l*l*n*n))))) + (((8*x2*x2*l*n*n*n + -(x2*x2*n*n*n*n)) + (-(4*x2*y2*l*l*n) + (12*x2*y2*l*n*n + x2*l*l*l*l*n*n))) + ((-(8*x2*l*l*l*n*n*n) + x2*l*l*n*n*n*n) + (2*y2*l*l*l*n*n + (-(6*y2*l*n*n*n*n) + 2*l*l*l*n*n*n*n*n))))))))*(x1*x1 + x1*x2 + x2*x2 - l*(2*y2 + l*(x1 - x2))) + (((((((-(2*x1*x3*x3*l*l) + -(4*x1*x3*x3*l*n)) + (4*x1*x3*x2*l*l + -(4*x1*x3*x2*l*n))) + ((-(4*x1*x3*y2*l) + 2*x1*x3*l*l*l*n) + (2*x1*x3*l*n*n*n + (4*x1*x2*x2*l*l + 8*x1*x2*x2*l*n)))) + (((-(8*x1*x2*y2*l) + -(2*x1*x2*l*l*l*n)) + (-(6*x1*x2*l*l*n*n) + -(8*x1*x2*l*n*n*n))) + ((4*x1*y2*l*l*n + 4*x1*y2*l*n*n) + (2*x1*l*l*n*n*n*n + (2*x1*l*n*n*n*n*n + -(x3*x3*x3*x3)))))) + ((((-(5*x3*x3*x3*x2) + 2*x3*x3*x3*l*l) + (x3*x3*x3*n*n + -(9*x3*x3*x2*x2))) + ((8*x3*x3*x2*l*l + 4*x3*x3*x2*l*n) + (3*x3*x3*x2*n*n + (-(2*x3*x3*y2*n) + -(x3*x3*l*l*l*l))))) + (((-(3*x3*x3*l*l*n*n) + x3*x3*n*n*n*n) + (-(8*x3*x2*x2*x2) + 8*x3*x2*x2*l*l)) + ((16*x3*x2*x2*l*n + 6*x3*x2*x2*n*n) + (4*x3*x2*y2*l + (-(8*x3*x2*y2*n) + -(x3*x2*l*l*l*l))))))) + (((((-(2*x3*x2*l*l*l*n) + -(9*x3*x2*l*l*n*n)) + (-(8*x3*x2*l*n*n*n) + x3*x2*n*n*n*n)) + ((-(4*x3*y2*l*l*l) + -(4*x3*y2*l*l*n)) + (4*x3*y2*n*n*n + (3*x3*l*l*l*l*n*n + 2*x3*l*l*l*n*n*n)))) + (((x3*l*l*n*n*n*n + -(x3*n*n*n*n*n*n)) + (-(4*x2*x2*x2*x2) + -(6*x2*x2*x2*l*l))) + ((16*x2*x2*x2*l*n + 8*x2*x2*x2*n*n) + (8*x2*x2*y2*l + (-(8*x2*x2*y2*n) + -(x2*x2*l*l*l*l)))))) + ((((2*x2*x2*l*l*l*n + -(3*x2*x2*l*l*n*n)) + (-(16*x2*x2*l*n*n*n) + -(5*x2*x2*n*n*n*n))) + ((4*x2*y2*l*l*l + -(12*x2*y2*l*l*n)) + (-(4*x2*y2*l*n*n) + (8*x2*y2*n*n*n + 3*x2*l*l*l*l*n*n)))) + (((4*x2*l*l*l*n*n*n + 3*x2*l*l*n*n*n*n) + (4*x2*l*n*n*n*n*n + x2*n*n*n*n*n*n)) + ((-(2*y2*l*l*l*l*n) + 6*y2*l*l*n*n*n) + (-(2*y2*n*n*n*n*n) + (-(2*l*l*l*l*n*n*n*n) + -(2*l*l*l*n*n*n*n*n)))))))))*(x3*x3 + x3*x2 + x2*x2 - n*(2*y2 + n*(x3 - x2))) := by grind
  rw [e, h1, h3]
  grind
end
section
/-! the sum of points: an identity of those that make it associative -/
set_option maxRecDepth 20000 in
set_option maxHeartbeats 4000000 in
theorem ec_idy01 {F : Type} [Lean.Grind.CommRing F] (x1 x2 x3 y2 l n : F) (h1 : x1*x1 + x1*x2 + x2*x2 - l*(2*y2 + l*(x1 - x2)) = 0) (h3 : x3*x3 + x3*x2 + x2*x2 - n*(2*y2 + n*(x3 - x2)) = 0) : ((y2 + n*(x3 - x2)) - (l*(x1 - (l*l - x1 - x2)) - (y2 + l*(x1 - x2))))*((y2 + l*(x1 - x2)) + (n*(x2 - (n*n - x2 - x3)) - y2))*(2*x3 + (l*l - x1 - x2))*((x3 - (l*l - x1 - x2))*(x3 - (l*l - x1 - x2))) - ((y2 + n*(x3 - x2)) - (l*(x1 - (l*l - x1 - x2)) - (y2 + l*(x1 - x2))))*((y2 + n*(x3 - x2)) - (l*(x1 - (l*l - x1 - x2)) - (y2 + l*(x1 - x2))))*((y2 + n*(x3 - x2)) - (l*(x1 - (l*l - x1 - x2)) - (y2 + l*(x1 - x2))))*((y2 + l*(x1 - x2)) + (n*(x2 - (n*n - x2 - x3)) - y2)) - (y2 + n*(x3 - x2))*((x3 - (l*l - x1 - x2))*(x3 - (l*l - x1 - x2))*(x3 - (l*l - x1 - x2)))*((y2 + l*(x1 - x2)) + (n*(x2 - (n*n - x2 - x3)) - y2)) - (x1*x1 + x1*(n*n - x2 - x3) + (n*n - x2 - x3)*(n*n - x2 - x3))*(x3 - (l*l - x1 - x2))*((x1 + x3 + (l*l - x1 - x2))*((x3 - (l*l - x1 - x2))*(x3 - (l*l - x1 - x2))) - ((y2 + n*(x3 - x2)) - (l*(x1 - (l*l - x1 - x2)) - (y2 + l*(x1 - x2))))*((y2 + n*(x3 - x2)) - (l*(x1 - (l*l - x1 - x2)) - (y2 + l*(x1 - x2))))) + (y2 + l*(x1 - x2))*((x3 - (l*l - x1 - x2))*(x3 - (l*l - x1 - x2))*(x3 - (l*l - x1 - x2)))*((y2 + l*(x1 - x2)) + (n*(x2 - (n*n - x2 - x3)) - y2)) = 0 := by
  have e : ((y2 + n*(x3 - x2)) - (l*(x1 - (l*l - x1 - x2)) - (y2 + l*(x1 - x2))))*((y2 + l*(x1 - x2)) + (n*(x2 - (n*n - x2 - x3)) - y2))*(2*x3 + (l*l - x1 - x2))*((x3 - (l*l - x1 - x2))*(x3 - (l*l - x1 - x2))) - ((y2 + n*(x3 - x2)) - (l*(x1 - (l*l - x1 - x2)) - (y2 + l*(x1 - x2))))*((y2 + n*(x3 - x2)) - (l*(x1 - (l*l - x1 - x2)) - (y2 + l*(x1 - x2))))*((y2 + n*(x3 - x2)) - (l*(x1 - (l*l - x1 - x2)) - (y2 + l*(x1 - x2))))*((y2 + l*(x1 - x2)) + (n*(x2 - (n*n - x2 - x3)) - y2)) - (y2 + n*(x3 - x2))*((x3 - (l*l - x1 - x2))*(x3 - (l*l - x1 - x2))*(x3 - (l*l - x1 - x2)))*((y2 + l*(x1 - x2)) + (n*(x2 - (n*n - x2 - x3)) - y2)) - (x1*x1 + x1*(n*n - x2 - x3) + (n*n - x2 - x3)*(n*n - x2 - x3))*(x3 - (l*l - x1 - x2))*((x1 + x3 + (l*l - x1 - x2))*((x3 - (l*l - x1 - x2))*(x3 - (l*l - x1 - x2))) - ((y2 + n*(x3 - x2)) - (l*(x1 - (l*l - x1 - x2)) - (y2 + l*(x1 - x2))))*((y2 + n*(x3 - x2)) - (l*(x1 - (l*l - x1 - x2)) - (y2 + l*(x1 - x2))))) + (y2 + l*(x1 - x2))*((x3 - (l*l - x1 - x2))*(x3 - (l*l - x1 - x2))*(x3 - (l*l - x1 - x2)))*((y2 + l*(x1 - x2)) + (n*(x2 - (n*n - x2 - x3)) - y2)) = (((((((-(x1*x1*x1*x3) + (x1*x1*x1*x2 + 2*x1*x1*x1*l*l)) + (-(2*x1*x1*x3*x3) + (x1*x1*x3*x2 + 3*x1*x1*x3*l*l))) + ((-(2*x1*x1*x3*l*n) + (-(x1*x1*x3*n*n) + x1*x1*x2*x2)) + (3*x1*x1*x2*l*l + (8*x1*x1*x2*l*n + x1*x1*x2*n*n)))) + (((-(6*x1*x1*y2*l) + (-(4*x1*x1*l*l*l*l) + -(2*x1*x1*l*n*n*n))) + (-(x1*x3*x3*x3) + (x1*x3*x3*x2 + -(2*x1*x3*x3*n*n)))) + ((x1*x3*x2*x2 + (-(3*x1*x3*x2*l*l) + 10*x1*x3*x2*l*n)) + (-(3*x1*x3*x2*n*n) + (-(2*x1*x3*y2*l) + 2*x1*x3*y2*n))))) + ((((-(2*x1*x3*l*l*l*l) + (-(x1*x3*l*l*l*n) + -(5*x1*x3*l*n*n*n))) + (x1*x3*n*n*n*n + (-(x1*x2*x2*x2) + -(3*x1*x2*x2*l*l)))) + ((14*x1*x2*x2*l*n + (5*x1*x2*x2*n*n + -(4*x1*x2*y2*l))) + (-(8*x1*x2*y2*n) + (-(2*x1*x2*l*l*l*l) + -(11*x1*x2*l*l*l*n))))) + (((-(3*x1*x2*l*n*n*n) + (-(x1*x2*n*n*n*n) + 4*x1*y2*y2)) + (6*x1*y2*l*l*l + (-(4*x1*y2*l*n*n) + 2*x1*y2*n*n*n))) + ((2*x1*l*l*l*l*l*l + (4*x1*l*l*l*n*n*n + -(x3*x3*x3*x3))) + ((-(x3*x3*x3*x2) + -(2*x3*x3*x3*l*l)) + (x3*x3*x2*x2 + -(6*x3*x3*x2*l*l))))))) + (((((-(4*x3*x3*x2*n*n) + (2*x3*x3*y2*l + 2*x3*x3*l*l*l*l)) + (-(2*x3*x3*l*l*l*n) + (4*x3*x3*l*l*n*n + 2*x3*x3*l*n*n*n))) + ((x3*x3*n*n*n*n + (-(6*x3*x2*x2*l*l) + 10*x3*x2*x2*l*n)) + (x3*x2*x2*n*n + (4*x3*x2*y2*l + -(8*x3*x2*y2*n))))) + (((4*x3*x2*l*l*l*l + (-(16*x3*x2*l*l*l*n) + -(5*x3*x2*l*l*n*n))) + (-(2*x3*x2*l*n*n*n) + (6*x3*y2*l*l*n + 2*x3*y2*l*n*n))) + ((4*x3*y2*n*n*n + (3*x3*l*l*l*l*l*n + x3*l*l*l*l*n*n)) + (5*x3*l*l*l*n*n*n + (-(x3*l*l*n*n*n*n) + -(2*x3*l*n*n*n*n*n)))))) + ((((x2*x2*x2*x2 + (-(6*x2*x2*x2*l*l) + -(4*x2*x2*x2*l*n))) + (3*x2*x2*x2*n*n + (12*x2*x2*y2*l + -(4*x2*x2*y2*n)))) + ((8*x2*x2*l*l*l*l + (-(6*x2*x2*l*l*l*n) + x2*x2*l*l*n*n)) + (-(2*x2*x2*l*n*n*n) + (-(x2*x2*n*n*n*n) + -(4*x2*y2*y2))))) + (((-(6*x2*y2*l*l*l) + (2*x2*y2*l*n*n + -(2*x2*l*l*l*l*l*l))) + (3*x2*l*l*l*l*l*n + (-(x2*l*l*l*l*n*n) + 3*x2*l*l*l*n*n*n))) + ((x2*l*l*n*n*n*n + (2*x2*l*n*n*n*n*n + 4*y2*y2*n*n)) + ((4*y2*l*l*l*n*n + -(2*y2*l*l*n*n*n)) + (-(4*y2*l*n*n*n*n) + -(2*l*l*l*l*l*n*n*n)))))))))*(x1*x1 + x1*x2 + x2*x2 - l*(2*y2 + l*(x1 - x2))) + (((((((-(2*x1*x3*x3*x3) + -(3*x1*x3*x3*x2)) + (-(2*x1*x3*x3*l*n) + (3*x1*x3*x3*n*n + 3*x1*x3*x2*x2))) + ((-(14*x1*x3*x2*l*n) + -(2*x1*x3*y2*l)) + (2*x1*x3*y2*n + (x1*x3*l*l*l*l + 5*x1*x3*l*l*l*n)))) + (((3*x1*x3*l*l*n*n + 5*x1*x3*l*n*n*n) + (-(x1*x3*n*n*n*n) + (2*x1*x2*x2*x2 + 6*x1*x2*x2*l*l))) + ((-(2*x1*x2*x2*l*n) + (-(3*x1*x2*x2*n*n) + -(10*x1*x2*y2*l))) + (4*x1*x2*y2*n + (-(x1*x2*l*l*l*l) + x1*x2*l*l*l*n))))) + ((((-(3*x1*x2*l*l*n*n) + x1*x2*l*n*n*n) + (x1*x2*n*n*n*n + (4*x1*y2*l*l*n + 4*x1*y2*l*n*n))) + ((-(2*x1*y2*n*n*n) + -(2*x1*l*l*l*n*n*n)) + (-(x3*x3*x3*x3) + (-(3*x3*x3*x3*x2) + 2*x3*x3*x3*l*l)))) + (((3*x3*x3*x3*n*n + 3*x3*x3*x2*l*l) + (-(10*x3*x3*x2*l*n) + (3*x3*x3*x2*n*n + -(2*x3*x3*y2*l)))) + ((6*x3*x3*y2*n + (4*x3*x3*l*l*l*n + -(3*x3*x3*l*l*n*n))) + (-(2*x3*x3*n*n*n*n) + (4*x3*x2*x2*x2 + 3*x3*x2*x2*l*l)))))) + (((((-(16*x3*x2*x2*l*n) + -(6*x3*x2*x2*n*n)) + (-(12*x3*x2*y2*l) + (10*x3*x2*y2*n + 2*x3*x2*l*l*l*l))) + ((20*x3*x2*l*l*l*n + 6*x3*x2*l*l*n*n) + (10*x3*x2*l*n*n*n + (2*x3*x2*n*n*n*n + 4*x3*y2*y2)))) + (((-(6*x3*y2*l*l*n) + -(2*x3*y2*l*n*n)) + (-(6*x3*y2*n*n*n) + (-(x3*l*l*l*l*l*l) + -(5*x3*l*l*l*l*l*n)))) + ((-(3*x3*l*l*l*l*n*n) + (-(5*x3*l*l*l*n*n*n) + x3*l*l*n*n*n*n)) + (4*x2*x2*x2*l*l + (8*x2*x2*x2*l*n + -(16*x2*x2*y2*l)))))) + ((((-(4*x2*x2*y2*n) + -(8*x2*x2*l*l*l*l)) + (6*x2*x2*l*l*l*n + (-(3*x2*x2*l*l*n*n) + -(4*x2*x2*l*n*n*n)))) + ((8*x2*y2*y2 + 12*x2*y2*l*l*l) + (-(4*x2*y2*l*l*n) + (10*x2*y2*l*n*n + 2*x2*y2*n*n*n)))) + (((x2*l*l*l*l*l*l + -(x2*l*l*l*l*l*n)) + (3*x2*l*l*l*l*n*n + (-(5*x2*l*l*l*n*n*n) + -(x2*l*l*n*n*n*n)))) + ((-(4*y2*y2*l*n) + (-(4*y2*y2*n*n) + -(4*y2*l*l*l*l*n))) + (-(4*y2*l*l*l*n*n) + (6*y2*l*l*n*n*n + 2*l*l*l*l*l*n*n*n))))))))*(x3*x3 + x3*x2 + x2*x2 - n*(2*y2 + n*(x3 - x2))) := by grind
  rw [e, h1, h3]
  grind
end
section
/-! the sum of points: the identities where the third point is the sum of the first two -/
set_option maxRecDepth 20000 in
set_option maxHeartbeats 4000000 in
theorem ec_idx10 {F : Type} [Lean.Grind.CommRing F] (x2 x3 l n : F) (h : x2*x2 + x2*x3 + x3*x3 - n*l*(x2 - x3) = 0) : (3*(x3*x3))*(3*(x3*x3))*(((n*n - x2 - x3) - (l*l - x2 - x3))*((n*n - x2 - x3) - (l*l - x2 - x3))) - (n*(x2 - (n*n - x2 - x3)) - (n + l)*(x2 - x3) - l*((l*l - x2 - x3) - x2))*(n*(x2 - (n*n - x2 - x3)) - (n + l)*(x2 - x3) - l*((l*l - x2 - x3) - x2))*(((l - n)*(x2 - x3))*((l - n)*(x2 - x3))) - (x3 + x3 - (l*l - x2 - x3) - (n*n - x2 - x3))*(((l - n)*(x2 - x3))*((l - n)*(x2 - x3)))*(((n*n - x2 - x3) - (l*l - x2 - x3))*((n*n - x2 - x3) - (l*l - x2 - x3))) = 0 := by
  have e : (3*(x3*x3))*(3*(x3*x3))*(((n*n - x2 - x3) - (l*l - x2 - x3))*((n*n - x2 - x3) - (l*l - x2 - x3))) - (n*(x2 - (n*n - x2 - x3)) - (n + l)*(x2 - x3) - l*((l*l - x2 - x3) - x2))*(n*(x2 - (n*n - x2 - x3)) - (n + l)*(x2 - x3) - l*((l*l - x2 - x3) - x2))*(((l - n)*(x2 - x3))*((l - n)*(x2 - x3))) - (x3 + x3 - (l*l - x2 - x3) - (n*n - x2 - x3))*(((l - n)*(x2 - x3))*((l - n)*(x2 - x3)))*(((n*n - x2 - x3) - (l*l - x2 - x3))*((n*n - x2 - x3) - (l*l - x2 - x3))) = ((((-(x2*x2*l*l*l*l) + (2*x2*x2*l*l*n*n + -(x2*x2*n*n*n*n))) + ((-(x2*x3*l*l*l*l) + 2*x2*x3*l*l*n*n) + (-(x2*x3*n*n*n*n) + x2*l*l*l*l*l*n))) + (((-(2*x2*l*l*l*n*n*n) + x2*l*n*n*n*n*n) + (5*x3*x3*l*l*l*l + -(10*x3*x3*l*l*n*n))) + ((5*x3*x3*n*n*n*n + -(x3*l*l*l*l*l*n)) + (2*x3*l*l*l*n*n*n + -(x3*l*n*n*n*n*n))))))*(x2*x2 + x2*x3 + x3*x3 - n*l*(x2 - x3)) := by grind
  rw [e, h]
  grind
set_option maxRecDepth 20000 in
set_option maxHeartbeats 4000000 in
theorem ec_idy10 {F : Type} [Lean.Grind.CommRing F] (x2 x3 l n : F) (h : x2*x2 + x2*x3 + x3*x3 - n*l*(x2 - x3) = 0) : (3*(x3*x3))*((n*n - x2 - x3) - (l*l - x2 - x3))*(2*x3 + x3)*(((l - n)*(x2 - x3))*((l - n)*(x2 - x3))) - (3*(x3*x3))*(3*(x3*x3))*(3*(x3*x3))*((n*n - x2 - x3) - (l*l - x2 - x3)) - (n*(x2 - (n*n - x2 - x3)) - (n + l)*(x2 - x3) - l*((l*l - x2 - x3) - x2))*((l - n)*(x2 - x3))*(((l*l - x2 - x3) + x3 + x3)*(((l - n)*(x2 - x3))*((l - n)*(x2 - x3))) - (3*(x3*x3))*(3*(x3*x3))) + (l*((l*l - x2 - x3) - x2) - n*(x3 - x2))*(((l - n)*(x2 - x3))*((l - n)*(x2 - x3))*((l - n)*(x2 - x3)))*((n*n - x2 - x3) - (l*l - x2 - x3)) = 0 := by
  have e : (3*(x3*x3))*((n*n - x2 - x3) - (l*l - x2 - x3))*(2*x3 + x3)*(((l - n)*(x2 - x3))*((l - n)*(x2 - x3))) - (3*(x3*x3))*(3*(x3*x3))*(3*(x3*x3))*((n*n - x2 - x3) - (l*l - x2 - x3)) - (n*(x2 - (n*n - x2 - x3)) - (n + l)*(x2 - x3) - l*((l*l - x2 - x3) - x2))*((l - n)*(x2 - x3))*(((l*l - x2 - x3) + x3 + x3)*(((l - n)*(x2 - x3))*((l - n)*(x2 - x3))) - (3*(x3*x3))*(3*(x3*x3))) + (l*((l*l - x2 - x3) - x2) - n*(x3 - x2))*(((l - n)*(x2 - x3))*((l - n)*(x2 - x3))*((l - n)*(x2 - x3)))*((n*n - x2 - x3) - (l*l - x2 - x3)) = (((((x2*x2*x2*l*l*l*l + (-(2*x2*x2*x2*l*l*l*n) + 2*x2*x2*x2*l*n*n*n)) + (-(x2*x2*x2*n*n*n*n) + (-(3*x2*x2*x3*l*l*l*l) + 6*x2*x2*x3*l*l*l*n))) + ((-(6*x2*x2*x3*l*n*n*n) + (3*x2*x2*x3*n*n*n*n + -(x2*x2*l*l*l*l*l*n))) + ((2*x2*x2*l*l*l*l*n*n + -(2*x2*x2*l*l*n*n*n*n)) + (x2*x2*l*n*n*n*n*n + 2*x2*x3*l*l*l*l*l*n)))) + (((-(4*x2*x3*l*l*l*l*n*n) + (4*x2*x3*l*l*n*n*n*n + -(2*x2*x3*l*n*n*n*n*n))) + (9*x3*x3*x3*x3*l*l + (-(9*x3*x3*x3*x3*n*n) + 2*x3*x3*x3*l*l*l*l))) + ((-(4*x3*x3*x3*l*l*l*n) + (4*x3*x3*x3*l*n*n*n + -(2*x3*x3*x3*n*n*n*n))) + ((-(x3*x3*l*l*l*l*l*n) + 2*x3*x3*l*l*l*l*n*n) + (-(2*x3*x3*l*l*n*n*n*n) + x3*x3*l*n*n*n*n*n))))))*(x2*x2 + x2*x3 + x3*x3 - n*l*(x2 - x3)) := by grind
  rw [e, h]
  grind
set_option maxRecDepth 20000 in
set_option maxHeartbeats 4000000 in
theorem ec_idx11 {F : Type} [Lean.Grind.CommRing F] (x2 x3 l n : F) (h : x2*x2 + x2*x3 + x3*x3 - n*l*(x2 - x3) = 0) : (3*(x3*x3))*(3*(x3*x3))*((l*((l*l - x2 - x3) - x2) + n*(x2 - (n*n - x2 - x3)))*(l*((l*l - x2 - x3) - x2) + n*(x2 - (n*n - x2 - x3)))) - ((l*l - x2 - x3)*(l*l - x2 - x3) + (l*l - x2 - x3)*(n*n - x2 - x3) + (n*n - x2 - x3)*(n*n - x2 - x3))*((l*l - x2 - x3)*(l*l - x2 - x3) + (l*l - x2 - x3)*(n*n - x2 - x3) + (n*n - x2 - x3)*(n*n - x2 - x3))*(((l - n)*(x2 - x3))*((l - n)*(x2 - x3))) - (x3 + x3 - (l*l - x2 - x3) - (n*n - x2 - x3))*(((l - n)*(x2 - x3))*((l - n)*(x2 - x3)))*((l*((l*l - x2 - x3) - x2) + n*(x2 - (n*n - x2 - x3)))*(l*((l*l - x2 - x3) - x2) + n*(x2 - (n*n - x2 - x3)))) = 0 := by
  have e : (3*(x3*x3))*(3*(x3*x3))*((l*((l*l - x2 - x3) - x2) + n*(x2 - (n*n - x2 - x3)))*(l*((l*l - x2 - x3) - x2) + n*(x2 - (n*n - x2 - x3)))) - ((l*l - x2 - x3)*(l*l - x2 - x3) + (l*l - x2 - x3)*(n*n - x2 - x3) + (n*n - x2 - x3)*(n*n - x2 - x3))*((l*l - x2 - x3)*(l*l - x2 - x3) + (l*l - x2 - x3)*(n*n - x2 - x3) + (n*n - x2 - x3)*(n*n - x2 - x3))*(((l - n)*(x2 - x3))*((l - n)*(x2 - x3))) - (x3 + x3 - (l*l - x2 - x3) - (n*n - x2 - x3))*(((l - n)*(x2 - x3))*((l - n)*(x2 - x3)))*((l*((l*l - x2 - x3) - x2) + n*(x2 - (n*n - x2 - x3)))*(l*((l*l - x2 - x3) - x2) + n*(x2 - (n*n - x2 - x3)))) = ((((((-(9*x2*x2*x2*x2*l*l) + (18*x2*x2*x2*x2*l*n + -(9*x2*x2*x2*x2*n*n))) + (-(9*x2*x2*x2*x3*l*l) + (18*x2*x2*x2*x3*l*n + -(9*x2*x2*x2*x3*n*n)))) + ((10*x2*x2*x2*l*l*l*l + (-(13*x2*x2*x2*l*l*l*n) + 6*x2*x2*x2*l*l*n*n)) + ((-(13*x2*x2*x2*l*n*n*n) + 10*x2*x2*x2*n*n*n*n) + (27*x2*x2*x3*x3*l*l + -(54*x2*x2*x3*x3*l*n))))) + (((27*x2*x2*x3*x3*n*n + (9*x2*x2*x3*l*l*l*n + -(18*x2*x2*x3*l*l*n*n))) + (9*x2*x2*x3*l*n*n*n + (-(3*x2*x2*l*l*l*l*l*l) + 6*x2*x2*l*l*l*n*n*n))) + ((-(3*x2*x2*n*n*n*n*n*n) + (18*x2*x3*x3*x3*l*l + -(36*x2*x3*x3*x3*l*n))) + ((18*x2*x3*x3*x3*n*n + -(24*x2*x3*x3*l*l*l*l)) + (24*x2*x3*x3*l*l*l*n + 24*x2*x3*x3*l*n*n*n))))) + ((((-(24*x2*x3*x3*n*n*n*n) + (3*x2*x3*l*l*l*l*l*l + -(6*x2*x3*l*l*l*l*l*n))) + (6*x2*x3*l*l*l*l*n*n + (-(6*x2*x3*l*l*l*n*n*n) + 6*x2*x3*l*l*n*n*n*n))) + ((-(6*x2*x3*l*n*n*n*n*n) + (3*x2*x3*n*n*n*n*n*n + x2*l*l*l*l*l*l*l*n)) + ((-(2*x2*l*l*l*l*n*n*n*n) + x2*l*n*n*n*n*n*n*n) + (-(4*x3*x3*x3*l*l*l*l) + -(2*x3*x3*x3*l*l*l*n))))) + (((12*x3*x3*x3*l*l*n*n + (-(2*x3*x3*x3*l*n*n*n) + -(4*x3*x3*x3*n*n*n*n))) + (3*x3*x3*l*l*l*l*l*l + (6*x3*x3*l*l*l*l*l*n + -(6*x3*x3*l*l*l*l*n*n)))) + ((-(6*x3*x3*l*l*l*n*n*n) + (-(6*x3*x3*l*l*n*n*n*n) + 6*x3*x3*l*n*n*n*n*n)) + ((3*x3*x3*n*n*n*n*n*n + -(x3*l*l*l*l*l*l*l*n)) + (2*x3*l*l*l*l*n*n*n*n + -(x3*l*n*n*n*n*n*n*n))))))))*(x2*x2 + x2*x3 + x3*x3 - n*l*(x2 - x3)) := by grind
  rw [e, h]
  grind
set_option maxRecDepth 20000 in
set_option maxHeartbeats 4000000 in
theorem ec_idy11 {F : Type} [Lean.Grind.CommRing F] (x2 x3 l n : F) (h : x2*x2 + x2*x3 + x3*x3 - n*l*(x2 - x3) = 0) : (3*(x3*x3))*(l*((l*l - x2 - x3) - x2) + n*(x2 - (n*n - x2 - x3)))*(2*x3 + x3)*(((l - n)*(x2 - x3))*((l - n)*(x2 - x3))) - (3*(x3*x3))*(3*(x3*x3))*(3*(x3*x3))*(l*((l*l - x2 - x3) - x2) + n*(x2 - (n*n - x2 - x3))) - ((l*l - x2 - x3)*(l*l - x2 - x3) + (l*l - x2 - x3)*(n*n - x2 - x3) + (n*n - x2 - x3)*(n*n - x2 - x3))*((l - n)*(x2 - x3))*(((l*l - x2 - x3) + x3 + x3)*(((l - n)*(x2 - x3))*((l - n)*(x2 - x3))) - (3*(x3*x3))*(3*(x3*x3))) + (l*((l*l - x2 - x3) - x2) - n*(x3 - x2))*(((l - n)*(x2 - x3))*((l - n)*(x2 - x3))*((l - n)*(x2 - x3)))*(l*((l*l - x2 - x3) - x2) + n*(x2 - (n*n - x2 - x3))) = 0 := by
  have e : (3*(x3*x3))*(l*((l*l - x2 - x3) - x2) + n*(x2 - (n*n - x2 - x3)))*(2*x3 + x3)*(((l - n)*(x2 - x3))*((l - n)*(x2 - x3))) - (3*(x3*x3))*(3*(x3*x3))*(3*(x3*x3))*(l*((l*l - x2 - x3) - x2) + n*(x2 - (n*n - x2 - x3))) - ((l*l - x2 - x3)*(l*l - x2 - x3) + (l*l - x2 - x3)*(n*n - x2 - x3) + (n*n - x2 - x3)*(n*n - x2 - x3))*((l - n)*(x2 - x3))*(((l*l - x2 - x3) + x3 + x3)*(((l - n)*(x2 - x3))*((l - n)*(x2 - x3))) - (3*(x3*x3))*(3*(x3*x3))) + (l*((l*l - x2 - x3) - x2) - n*(x3 - x2))*(((l - n)*(x2 - x3))*((l - n)*(x2 - x3))*((l - n)*(x2 - x3)))*(l*((l*l - x2 - x3) - x2) + n*(x2 - (n*n - x2 - x3))) = ((((((3*x2*x2*x2*x2*l*l*l + (-(9*x2*x2*x2*x2*l*l*n) + 9*x2*x2*x2*x2*l*n*n)) + ((-(3*x2*x2*x2*x2*n*n*n) + -(9*x2*x2*x2*x3*l*l*l)) + (27*x2*x2*x2*x3*l*l*n + -(27*x2*x2*x2*x3*l*n*n)))) + ((9*x2*x2*x2*x3*n*n*n + (-(2*x2*x2*x2*l*l*l*l*l) + 3*x2*x2*x2*l*l*l*l*n)) + ((2*x2*x2*x2*l*l*l*n*n + -(4*x2*x2*x2*l*l*n*n*n)) + (x2*x2*x2*n*n*n*n*n + 3*x2*x2*x3*x3*l*l*l)))) + (((-(9*x2*x2*x3*x3*l*l*n) + (9*x2*x2*x3*x3*l*n*n + -(3*x2*x2*x3*x3*n*n*n))) + ((6*x2*x2*x3*l*l*l*l*l + -(12*x2*x2*x3*l*l*l*l*n)) + (3*x2*x2*x3*l*l*l*n*n + 3*x2*x2*x3*l*l*n*n*n))) + ((3*x2*x2*x3*l*n*n*n*n + (-(3*x2*x2*x3*n*n*n*n*n) + x2*x2*l*l*l*l*l*l*n)) + ((-(2*x2*x2*l*l*l*l*l*n*n) + x2*x2*l*l*l*l*n*n*n) + (-(x2*x2*l*l*l*n*n*n*n) + 2*x2*x2*l*l*n*n*n*n*n))))) + ((((-(x2*x2*l*n*n*n*n*n*n) + (27*x2*x3*x3*x3*x3*l + -(27*x2*x3*x3*x3*x3*n))) + ((-(3*x2*x3*x3*l*l*l*l*l) + 9*x2*x3*x3*l*l*l*l*n) + (-(9*x2*x3*x3*l*l*l*n*n) + 3*x2*x3*x3*l*l*n*n*n))) + ((-(2*x2*x3*l*l*l*l*l*l*n) + (4*x2*x3*l*l*l*l*l*n*n + -(2*x2*x3*l*l*l*l*n*n*n))) + ((2*x2*x3*l*l*l*n*n*n*n + -(4*x2*x3*l*l*n*n*n*n*n)) + (2*x2*x3*l*n*n*n*n*n*n + -(6*x3*x3*x3*x3*l*l*l))))) + (((-(9*x3*x3*x3*x3*l*l*n) + (9*x3*x3*x3*x3*l*n*n + 6*x3*x3*x3*x3*n*n*n)) + ((-(x3*x3*x3*l*l*l*l*l) + 4*x3*x3*x3*l*l*l*n*n) + (-(2*x3*x3*x3*l*l*n*n*n) + -(3*x3*x3*x3*l*n*n*n*n)))) + ((2*x3*x3*x3*n*n*n*n*n + (x3*x3*l*l*l*l*l*l*n + -(2*x3*x3*l*l*l*l*l*n*n))) + ((x3*x3*l*l*l*l*n*n*n + -(x3*x3*l*l*l*n*n*n*n)) + (2*x3*x3*l*l*n*n*n*n*n + -(x3*x3*l*n*n*n*n*n*n))))))))*(x2*x2 + x2*x3 + x3*x3 - n*l*(x2 - x3)) := by grind
  rw [e, h]
  grind
end
section
/-! points of a curve y y = x x x + b over a field: the sum, and that it is commutative and associative -/
def ec_fld {F : Type} [Lean.Grind.CommRing F] (inv : F → F) : Prop := (∀ a : F, a ≠ 0 → a * inv a = 1) ∧ (2 : F) ≠ 0 ∧ (3 : F) ≠ 0
theorem ec_nzd {F : Type} [Lean.Grind.CommRing F] {inv : F → F} (hF : ec_fld inv) {a c : F} (h : a * c = 0) : a = 0 ∨ c = 0 := by
  by_cases ha : a = 0
  · exact Or.inl ha
  · have h1 := hF.1 a ha
    exact Or.inr (by grind)
def ec_out {F : Type} [Lean.Grind.CommRing F] (x1 y1 x2 l : F) : F × F := (l*l - x1 - x2, l*(x1 - (l*l - x1 - x2)) - y1)
def ec_add {F : Type} [Lean.Grind.CommRing F] [DecidableEq F] (inv : F → F) : Option (F × F) → Option (F × F) → Option (F × F)
  | none, B => B
  | some a, none => some a
  | some a, some c => if a.1 = c.1 ∧ a.2 + c.2 = 0 then none else some (ec_out a.1 a.2 c.1 (if a.1 = c.1 then 3*a.1*a.1*inv (2*a.2) else (c.2 - a.2)*inv (c.1 - a.1)))
def ec_neg {F : Type} [Lean.Grind.CommRing F] : Option (F × F) → Option (F × F)
  | none => none
  | some a => some (a.1, -a.2)
def ec_on {F : Type} [Lean.Grind.CommRing F] (b : F) : Option (F × F) → Prop
  | none => True
  | some a => a.2*a.2 = a.1*a.1*a.1 + b
/-- l is the slope of the chord, or of the tangent -/
def ec_sl {F : Type} [Lean.Grind.CommRing F] (x1 y1 x2 y2 l : F) : Prop := l*(x2 - x1) = y2 - y1 ∧ l*(y1 + y2) = x1*x1 + x1*x2 + x2*x2
theorem ec_sl_ex {F : Type} [Lean.Grind.CommRing F] [DecidableEq F] {inv : F → F} (hF : ec_fld inv) {b x1 y1 x2 y2 : F} (h1 : y1*y1 = x1*x1*x1 + b) (h2 : y2*y2 = x2*x2*x2 + b) (hd : ¬ (x1 = x2 ∧ y1 + y2 = 0)) : ∃ l, ec_sl x1 y1 x2 y2 l ∧ ec_add inv (some (x1, y1)) (some (x2, y2)) = some (ec_out x1 y1 x2 l) := by
  by_cases hx : x1 = x2
  · subst hx
    have hy : y1 + y2 ≠ 0 := fun h => hd ⟨rfl, h⟩
    have hy2 : y1 = y2 := by
      have h0 : (y1 - y2)*(y1 + y2) = 0 := by grind
      rcases ec_nzd hF h0 with h | h
      · grind
      · exact absurd h hy
    subst hy2
    have h2y : (2 : F)*y1 ≠ 0 := by
      intro h
      apply hy
      grind
    have hi := hF.1 _ h2y
    refine ⟨3*x1*x1*inv (2*y1), ⟨by grind, by grind⟩, ?_⟩
    simp [ec_add, hy]
  · have hxx : x2 - x1 ≠ 0 := by
      intro h
      apply hx
      grind
    have hi := hF.1 _ hxx
    refine ⟨(y2 - y1)*inv (x2 - x1), ⟨by grind, ?_⟩, ?_⟩
    · have h0 : (x2 - x1) * ((y2 - y1)*inv (x2 - x1)*(y1 + y2) - (x1*x1 + x1*x2 + x2*x2)) = 0 := by grind
      rcases ec_nzd hF h0 with h | h
      · exact absurd h hxx
      · grind
    · simp [ec_add, hx]
theorem ec_sl_un {F : Type} [Lean.Grind.CommRing F] {inv : F → F} (hF : ec_fld inv) {x1 y1 x2 y2 l k : F} (hl : ec_sl x1 y1 x2 y2 l) (hk : ec_sl x1 y1 x2 y2 k) (hd : ¬ (x1 = x2 ∧ y1 + y2 = 0)) : l = k := by
  obtain ⟨a1, a2⟩ := hl
  obtain ⟨b1, b2⟩ := hk
  have e1 : (l - k)*(x2 - x1) = 0 := by grind
  have e2 : (l - k)*(y1 + y2) = 0 := by grind
  rcases ec_nzd hF e1 with h | h
  · grind
  · rcases ec_nzd hF e2 with h' | h'
    · grind
    · exact absurd ⟨by grind, h'⟩ hd
/-- the sum by its slope -/
theorem ec_add_sl {F : Type} [Lean.Grind.CommRing F] [DecidableEq F] {inv : F → F} (hF : ec_fld inv) {b x1 y1 x2 y2 l : F} (h1 : y1*y1 = x1*x1*x1 + b) (h2 : y2*y2 = x2*x2*x2 + b) (hd : ¬ (x1 = x2 ∧ y1 + y2 = 0)) (hl : ec_sl x1 y1 x2 y2 l) : ec_add inv (some (x1, y1)) (some (x2, y2)) = some (ec_out x1 y1 x2 l) := by
  obtain ⟨k, hk, e⟩ := ec_sl_ex hF h1 h2 hd
  rw [e, ec_sl_un hF hl hk hd]
theorem ec_add_dg {F : Type} [Lean.Grind.CommRing F] [DecidableEq F] {inv : F → F} {x1 y1 x2 y2 : F} (hd : x1 = x2 ∧ y1 + y2 = 0) : ec_add inv (some (x1, y1)) (some (x2, y2)) = none := by
  simp only [ec_add]
  rw [if_pos hd]
theorem ec_add_none {F : Type} [Lean.Grind.CommRing F] [DecidableEq F] {inv : F → F} (A : Option (F × F)) : ec_add inv A none = A := by
  cases A <;> rfl
theorem ec_none_add {F : Type} [Lean.Grind.CommRing F] [DecidableEq F] {inv : F → F} (A : Option (F × F)) : ec_add inv none A = A := rfl
/-- the sum lies on the curve -/
theorem ec_out_on {F : Type} [Lean.Grind.CommRing F] {b x1 y1 x2 y2 l : F} (h1 : y1*y1 = x1*x1*x1 + b) (hl : ec_sl x1 y1 x2 y2 l) : ec_on b (some (ec_out x1 y1 x2 l)) := by
  obtain ⟨a1, a2⟩ := hl
  have hq : x2*x2 + x1*x2 + x1*x1 - l*(2*y1 + l*(x2 - x1)) = 0 := by grind
  show (l*(x1 - (l*l - x1 - x2)) - y1)*(l*(x1 - (l*l - x1 - x2)) - y1) = (l*l - x1 - x2)*(l*l - x1 - x2)*(l*l - x1 - x2) + b
  have e : (l*(x1 - (l*l - x1 - x2)) - y1)*(l*(x1 - (l*l - x1 - x2)) - y1) - (l*l - x1 - x2)*(l*l - x1 - x2)*(l*l - x1 - x2) - (y1*y1 - x1*x1*x1) = (x2 + 2*x1 - l*l)*(x2*x2 + x1*x2 + x1*x1 - l*(2*y1 + l*(x2 - x1))) := by grind
  rw [hq] at e
  grind
theorem ec_add_on {F : Type} [Lean.Grind.CommRing F] [DecidableEq F] {inv : F → F} (hF : ec_fld inv) {b : F} {A B : Option (F × F)} (hA : ec_on b A) (hB : ec_on b B) : ec_on b (ec_add inv A B) := by
  match A, B, hA, hB with
  | none, B, _, hB => exact hB
  | some a, none, hA, _ => exact hA
  | some (x1, y1), some (x2, y2), hA, hB =>
    by_cases hd : x1 = x2 ∧ y1 + y2 = 0
    · rw [ec_add_dg hd]
      trivial
    · obtain ⟨l, hl, e⟩ := ec_sl_ex hF hA hB hd
      rw [e]
      exact ec_out_on hA hl
theorem ec_neg_on {F : Type} [Lean.Grind.CommRing F] {b : F} {A : Option (F × F)} (hA : ec_on b A) : ec_on b (ec_neg A) := by
  match A, hA with
  | none, _ => trivial
  | some (x, y), hA =>
    have h : y*y = x*x*x + b := hA
    show -y*(-y) = x*x*x + b
    grind
theorem ec_neg_neg {F : Type} [Lean.Grind.CommRing F] (A : Option (F × F)) : ec_neg (ec_neg A) = A := by
  match A with
  | none => rfl
  | some (x, y) =>
    show some (x, - -y) = some (x, y)
    rw [show - -y = y by grind]
theorem ec_add_comm {F : Type} [Lean.Grind.CommRing F] [DecidableEq F] {inv : F → F} (hF : ec_fld inv) {b : F} {A B : Option (F × F)} (hA : ec_on b A) (hB : ec_on b B) : ec_add inv A B = ec_add inv B A := by
  match A, B, hA, hB with
  | none, B, _, _ => rw [ec_add_none]; rfl
  | some a, none, _, _ => rfl
  | some (x1, y1), some (x2, y2), hA, hB =>
    by_cases hd : x1 = x2 ∧ y1 + y2 = 0
    · rw [ec_add_dg hd, ec_add_dg ⟨hd.1.symm, by have := hd.2; grind⟩]
    · obtain ⟨l, hl, e⟩ := ec_sl_ex hF hA hB hd
      have hl2 : ec_sl x2 y2 x1 y1 l := ⟨by have := hl.1; grind, by have := hl.2; grind⟩
      rw [e, ec_add_sl hF hB hA (fun h => hd ⟨h.1.symm, by have := h.2; grind⟩) hl2]
      have h1 := hl.1
      simp only [ec_out, Option.some.injEq, Prod.mk.injEq]
      exact ⟨by grind, by grind⟩
theorem ec_neg_add {F : Type} [Lean.Grind.CommRing F] [DecidableEq F] {inv : F → F} (hF : ec_fld inv) {b : F} {A B : Option (F × F)} (hA : ec_on b A) (hB : ec_on b B) : ec_add inv (ec_neg A) (ec_neg B) = ec_neg (ec_add inv A B) := by
  match A, B, hA, hB with
  | none, B, _, _ => rfl
  | some a, none, _, _ => rfl
  | some (x1, y1), some (x2, y2), hA, hB =>
    have hA' := ec_neg_on hA
    have hB' := ec_neg_on hB
    by_cases hd : x1 = x2 ∧ y1 + y2 = 0
    · rw [ec_add_dg hd]
      exact ec_add_dg ⟨hd.1, by have := hd.2; grind⟩
    · obtain ⟨l, hl, e⟩ := ec_sl_ex hF hA hB hd
      have hl2 : ec_sl x1 (-y1) x2 (-y2) (-l) := ⟨by have := hl.1; grind, by have := hl.2; grind⟩
      rw [e]
      show ec_add inv (some (x1, -y1)) (some (x2, -y2)) = _
      rw [ec_add_sl hF (y1 := -y1) (y2 := -y2) hA' hB' (fun h => hd ⟨h.1, by have := h.2; grind⟩) hl2]
      simp only [ec_out, ec_neg, Option.some.injEq, Prod.mk.injEq]
      exact ⟨by grind, by grind⟩
theorem ec_add_neg {F : Type} [Lean.Grind.CommRing F] [DecidableEq F] {inv : F → F} (A : Option (F × F)) : ec_add inv A (ec_neg A) = none := by
  match A with
  | none => rfl
  | some (x, y) => exact ec_add_dg ⟨rfl, by grind⟩
theorem ec_neg_add_self {F : Type} [Lean.Grind.CommRing F] [DecidableEq F] {inv : F → F} (A : Option (F × F)) : ec_add inv (ec_neg A) A = none := by
  match A with
  | none => rfl
  | some (x, y) => exact ec_add_dg (x1 := x) (y1 := -y) ⟨rfl, by grind⟩
/-- -A + (A + C) = C -/
theorem ec_back {F : Type} [Lean.Grind.CommRing F] [DecidableEq F] {inv : F → F} (hF : ec_fld inv) {b : F} (hb : b ≠ 0) {A C : Option (F × F)} (hA : ec_on b A) (hC : ec_on b C) : ec_add inv (ec_neg A) (ec_add inv A C) = C := by
  match A, C, hA, hC with
  | none, C, _, _ => rfl
  | some a, none, _, _ => exact ec_neg_add_self (some a)
  | some (x1, y1), some (x2, y2), hA, hC =>
    have h1 : y1*y1 = x1*x1*x1 + b := hA
    by_cases hd : x1 = x2 ∧ y1 + y2 = 0
    · rw [ec_add_dg hd, ec_add_none]
      show some (x1, -y1) = some (x2, y2)
      rw [hd.1, show -y1 = y2 by have := hd.2; grind]
    · obtain ⟨l, hl, e⟩ := ec_sl_ex hF hA hC hd
      have hon := ec_out_on hA hl
      rw [e]
      obtain ⟨a1, a2⟩ := hl
      have hq : x2*x2 + x1*x2 + x1*x1 - l*(2*y1 + l*(x2 - x1)) = 0 := by grind
      show ec_add inv (some (x1, -y1)) (some (l*l - x1 - x2, l*(x1 - (l*l - x1 - x2)) - y1)) = _
      have a1' : l*(x2 - x1) = y2 - y1 := a1
      have a2' : l*(y1 + y2) = x1*x1 + x1*x2 + x2*x2 := a2
      clear a1 a2
      have hd' : ¬ (x1 = l*l - x1 - x2 ∧ -y1 + (l*(x1 - (l*l - x1 - x2)) - y1) = 0) := by
        rintro ⟨g1, g2⟩
        have hy : (2 : F)*y1 = 0 := by grind
        have hy0 : y1 = 0 := by
          rcases ec_nzd hF hy with h | h
          · exact absurd h hF.2.1
          · exact h
        have hll : l*l = 2*x1 + x2 := by grind
        have hx3 : (3 : F)*(x1*x1) = 0 := by grind
        have hx0 : x1 = 0 := by
          rcases ec_nzd hF hx3 with h | h
          · exact absurd h hF.2.2
          · rcases ec_nzd hF h with h | h <;> exact h
        apply hb
        grind
      have hsl : ec_sl x1 (-y1) (l*l - x1 - x2) (l*(x1 - (l*l - x1 - x2)) - y1) (-l) := ⟨by grind, by grind⟩
      rw [ec_add_sl (x1 := x1) (y1 := -y1) (x2 := l*l - x1 - x2) (y2 := l*(x1 - (l*l - x1 - x2)) - y1) (l := -l) (b := b) hF (ec_neg_on hA) hon hd' hsl]
      simp only [ec_out, Option.some.injEq, Prod.mk.injEq]
      exact ⟨by grind, by grind⟩
end
section
/-! the sum of points is associative -/
theorem ec_assoc_sl {F : Type} [Lean.Grind.CommRing F] {inv : F → F} (hF : ec_fld inv) {x1 y1 x2 y2 x3 y3 x4 y4 x6 y6 l n m k : F}
    (hl : ec_sl x1 y1 x2 y2 l) (hn : ec_sl x2 y2 x3 y3 n) (e4 : x4 = l*l - x1 - x2) (f4 : y4 = l*(x1 - (l*l - x1 - x2)) - y1) (e6 : x6 = n*n - x2 - x3) (f6 : y6 = n*(x2 - (n*n - x2 - x3)) - y2)
    (hm : ec_sl x4 y4 x3 y3 m) (hk : ec_sl x1 y1 x6 y6 k) (d1 : ¬ (x4 = x3 ∧ y4 + y3 = 0)) (d2 : ¬ (x1 = x6 ∧ y1 + y6 = 0)) : ec_out x4 y4 x3 m = ec_out x1 y1 x6 k := by
  obtain ⟨l1, l2⟩ := hl
  obtain ⟨n1, n2⟩ := hn
  obtain ⟨m1, m2⟩ := hm
  obtain ⟨k1, k2⟩ := hk
  have ey1 : y1 = y2 + l*(x1 - x2) := by clear l2 n1 n2 m1 m2 k1 k2 d1 d2 e4 f4 e6 f6; grind
  have ey3 : y3 = y2 + n*(x3 - x2) := by clear l1 l2 n2 m1 m2 k1 k2 d1 d2 e4 f4 e6 f6 ey1; grind
  subst ey1
  subst ey3
  subst e4
  subst e6
  have q1 : x1*x1 + x1*x2 + x2*x2 - l*(2*y2 + l*(x1 - x2)) = 0 := by clear m1 m2 k1 k2 n1 n2 d1 d2 f4 f6; grind
  have q3 : x3*x3 + x3*x2 + x2*x2 - n*(2*y2 + n*(x3 - x2)) = 0 := by clear m1 m2 k1 k2 l1 l2 d1 d2 f4 f6 q1; grind
  clear l1 l2 n1 n2
  subst f4
  subst f6
  -- the four ways to know the two slopes
  have key : ∀ D1 N1 D2 N2 : F, D1 ≠ 0 → D2 ≠ 0 → m*D1 = N1 → k*D2 = N2 →
      N1*N1*(D2*D2) - N2*N2*(D1*D1) - (x3 + (l*l - x1 - x2) - x1 - (n*n - x2 - x3))*(D1*D1)*(D2*D2) = 0 →
      N1*D2*(2*x3 + (l*l - x1 - x2))*(D1*D1) - N1*N1*N1*D2 - (y2 + n*(x3 - x2))*(D1*D1*D1)*D2 - N2*D1*((x1 + x3 + (l*l - x1 - x2))*(D1*D1) - N1*N1) + (y2 + l*(x1 - x2))*(D1*D1*D1)*D2 = 0 →
      ec_out (l*l - x1 - x2) (l*(x1 - (l*l - x1 - x2)) - (y2 + l*(x1 - x2))) x3 m = ec_out x1 (y2 + l*(x1 - x2)) (n*n - x2 - x3) k := by
    intro D1 N1 D2 N2 hD1 hD2 hN1 hN2 ix iy
    clear q1 q3 m2 k1 k2 d1 d2
    subst hN1
    subst hN2
    have gx : (m*m - (l*l - x1 - x2) - x3) - (k*k - x1 - (n*n - x2 - x3)) = 0 := by
      have h0 : (D1*D1*(D2*D2))*((m*m - (l*l - x1 - x2) - x3) - (k*k - x1 - (n*n - x2 - x3))) = 0 := by
        clear iy m1
        rw [← ix]
        grind
      clear ix iy m1
      rcases ec_nzd hF h0 with h | h
      · rcases ec_nzd hF h with h | h
        · rcases ec_nzd hF h with h | h <;> exact absurd h hD1
        · rcases ec_nzd hF h with h | h <;> exact absurd h hD2
      · exact h
    have gy : (m*((l*l - x1 - x2) - (m*m - (l*l - x1 - x2) - x3)) - (l*(x1 - (l*l - x1 - x2)) - (y2 + l*(x1 - x2)))) - (k*(x1 - (m*m - (l*l - x1 - x2) - x3)) - (y2 + l*(x1 - x2))) = 0 := by
      have g1 : m*((l*l - x1 - x2) - (m*m - (l*l - x1 - x2) - x3)) - (l*(x1 - (l*l - x1 - x2)) - (y2 + l*(x1 - x2))) = m*(x3 - (m*m - (l*l - x1 - x2) - x3)) - (y2 + n*(x3 - x2)) := by
        clear ix iy gx
        grind
      rw [g1]
      have h0 : (D1*D1*D1*D2)*((m*(x3 - (m*m - (l*l - x1 - x2) - x3)) - (y2 + n*(x3 - x2))) - (k*(x1 - (m*m - (l*l - x1 - x2) - x3)) - (y2 + l*(x1 - x2)))) = 0 := by
        clear ix gx g1 m1
        rw [← iy]
        grind
      clear ix iy m1
      rcases ec_nzd hF h0 with h | h
      · rcases ec_nzd hF h with h | h
        · rcases ec_nzd hF h with h | h
          · rcases ec_nzd hF h with h | h <;> exact absurd h hD1
          · exact absurd h hD1
        · exact absurd h hD2
      · exact h
    clear ix iy m1
    simp only [ec_out, Prod.mk.injEq]
    refine ⟨by grind, ?_⟩
    have g2 : k*k - x1 - (n*n - x2 - x3) = m*m - (l*l - x1 - x2) - x3 := by grind
    rw [g2]
    grind
  by_cases c1 : x3 - (l*l - x1 - x2) = 0
  · -- the third point is the sum of the first two
    have c1' : (l*(x1 - (l*l - x1 - x2)) - (y2 + l*(x1 - x2))) + (y2 + n*(x3 - x2)) ≠ 0 := by
      intro h
      refine d1 ⟨?_, h⟩
      clear key m1 m2 k1 k2 q1 q3 d1 d2 h
      grind
    have hx1 : x1 = l*l - x2 - x3 := by
      clear key m1 m2 k1 k2 q1 q3 d1 d2 c1'
      grind
    subst hx1
    have hs : l*l - (l*l - x2 - x3) - x2 = x3 := by
      clear key m1 m2 k1 k2 q1 q3 d1 d2 c1 c1'
      grind
    rw [hs] at c1' m1 m2 d1 key ⊢
    have hd : (l*((l*l - x2 - x3) - x3) - (y2 + l*((l*l - x2 - x3) - x2)) - (y2 + n*(x3 - x2)))*(l*((l*l - x2 - x3) - x3) - (y2 + l*((l*l - x2 - x3) - x2)) + (y2 + n*(x3 - x2))) = 0 := by
      have e : (l*((l*l - x2 - x3) - x3) - (y2 + l*((l*l - x2 - x3) - x2)) - (y2 + n*(x3 - x2)))*(l*((l*l - x2 - x3) - x3) - (y2 + l*((l*l - x2 - x3) - x2)) + (y2 + n*(x3 - x2))) = ((l*l - x2 - x3)*(l*l - x2 - x3) + (l*l - x2 - x3)*x2 + x2*x2 - l*(2*y2 + l*((l*l - x2 - x3) - x2)))*(x2 - x3) + (x3*x3 + x3*x2 + x2*x2 - n*(2*y2 + n*(x3 - x2)))*(x3 - x2) := by
        clear key m1 m2 k1 k2 q1 q3 d1 d2 c1 c1' hs
        grind
      rw [e, q1, q3]
      clear key m1 m2 k1 k2 q1 q3 d1 d2 c1 c1' hs e
      grind
    have h2y : 2*y2 = (n + l)*(x2 - x3) := by
      rcases ec_nzd hF hd with h | h
      · clear key m1 m2 k1 k2 q1 q3 d1 d2 c1 c1' hs hd
        grind
      · exact absurd h c1'
    have q : x2*x2 + x2*x3 + x3*x3 - n*l*(x2 - x3) = 0 := by
      rw [h2y] at q3
      clear key m1 m2 k1 k2 q1 d1 d2 c1 c1' hs hd h2y
      grind
    have eD1 : l*((l*l - x2 - x3) - x3) - (y2 + l*((l*l - x2 - x3) - x2)) + (y2 + n*(x3 - x2)) = (l - n)*(x2 - x3) := by
      clear key m1 m2 k1 k2 q1 q3 d1 d2 c1 c1' hs hd h2y q
      grind
    have eN1 : x3*x3 + x3*x3 + x3*x3 = 3*(x3*x3) := by
      clear key m1 m2 k1 k2 q1 q3 d1 d2 c1 c1' hs hd h2y q eD1
      grind
    rw [eD1] at c1' m2
    rw [eN1] at m2
    have eY : ∀ Z : F, -((y2 + n*(x3 - x2))*Z) + (y2 + l*((l*l - x2 - x3) - x2))*Z = (l*((l*l - x2 - x3) - x2) - n*(x3 - x2))*Z := by
      clear key m1 m2 k1 k2 q1 q3 d1 d2 c1 c1' hs hd h2y q eD1 eN1
      intro Z
      grind
    by_cases c2 : (n*n - x2 - x3) - (l*l - x2 - x3) = 0
    · have c2' : (y2 + l*((l*l - x2 - x3) - x2)) + (n*(x2 - (n*n - x2 - x3)) - y2) ≠ 0 := by
        intro h
        refine d2 ⟨?_, h⟩
        clear key m1 m2 k1 k2 q1 q3 d1 d2 h c1 c1' hs hd h2y q eD1 eN1 eY
        grind
      have eD2 : (y2 + l*((l*l - x2 - x3) - x2)) + (n*(x2 - (n*n - x2 - x3)) - y2) = l*((l*l - x2 - x3) - x2) + n*(x2 - (n*n - x2 - x3)) := by
        clear key m1 m2 k1 k2 q1 q3 d1 d2 c1 c1' hs hd h2y q eD1 eN1 eY c2 c2'
        grind
      rw [eD2] at c2' k2
      refine key _ _ _ _ c1' c2' m2 k2 (ec_idx11 x2 x3 l n q) ?_
      have i := ec_idy11 x2 x3 l n q
      clear key m1 m2 k1 k2 q1 q3 d1 d2 c1 c1' hs hd h2y q eD1 eN1 c2 c2' eD2
      rw [← i]
      have := eY (((l - n)*(x2 - x3))*((l - n)*(x2 - x3))*((l - n)*(x2 - x3))*(l*((l*l - x2 - x3) - x2) + n*(x2 - (n*n - x2 - x3))))
      clear i
      grind
    · have eN2 : n*(x2 - (n*n - x2 - x3)) - y2 - (y2 + l*((l*l - x2 - x3) - x2)) = n*(x2 - (n*n - x2 - x3)) - (n + l)*(x2 - x3) - l*((l*l - x2 - x3) - x2) := by
        rw [← h2y]
        clear key m1 m2 k1 k2 q1 q3 d1 d2 c1 c1' hs hd h2y q eD1 eN1 eY c2
        grind
      rw [eN2] at k1
      refine key _ _ _ _ c1' c2 m2 k1 (ec_idx10 x2 x3 l n q) ?_
      have i := ec_idy10 x2 x3 l n q
      clear key m1 m2 k1 k2 q1 q3 d1 d2 c1 c1' hs hd h2y q eD1 eN1 c2 eN2
      rw [← i]
      have := eY (((l - n)*(x2 - x3))*((l - n)*(x2 - x3))*((l - n)*(x2 - x3))*((n*n - x2 - x3) - (l*l - x2 - x3)))
      clear i
      grind
  · by_cases c2 : (n*n - x2 - x3) - x1 = 0
    · have c2' : (y2 + l*(x1 - x2)) + (n*(x2 - (n*n - x2 - x3)) - y2) ≠ 0 := by
        intro h
        refine d2 ⟨?_, h⟩
        clear key m1 m2 k1 k2 q1 q3 d1 d2 h c1
        grind
      exact key _ _ _ _ c1 c2' m1 k2 (ec_idx01 x1 x2 x3 y2 l n q1 q3) (ec_idy01 x1 x2 x3 y2 l n q1 q3)
    · exact key _ _ _ _ c1 c2 m1 k1 (ec_idx00 x1 x2 x3 y2 l n q1 q3) (ec_idy00 x1 x2 x3 y2 l n q1 q3)
theorem ec_assoc {F : Type} [Lean.Grind.CommRing F] [DecidableEq F] {inv : F → F} (hF : ec_fld inv) {b : F} (hb : b ≠ 0) {A B C : Option (F × F)} (hA : ec_on b A) (hB : ec_on b B) (hC : ec_on b C) : ec_add inv (ec_add inv A B) C = ec_add inv A (ec_add inv B C) := by
  match A, B, C, hA, hB, hC with
  | none, B, C, _, _, _ => rfl
  | some a, none, C, _, _, _ => rfl
  | some a, some c, none, _, _, _ => rw [ec_add_none, ec_add_none]
  | some (x1, y1), some (x2, y2), some (x3, y3), hA, hB, hC =>
    by_cases hd : x1 = x2 ∧ y1 + y2 = 0
    · -- B is -A
      have hBn : some (x2, y2) = ec_neg (some (x1, y1)) := by
        show some (x2, y2) = some (x1, -y1)
        rw [hd.1, show -y1 = y2 by have := hd.2; grind]
      rw [ec_add_dg hd, hBn]
      have h := ec_back hF hb (ec_neg_on hA) hC
      rw [ec_neg_neg] at h
      exact h.symm
    by_cases hd3 : x2 = x3 ∧ y2 + y3 = 0
    · have hCn : some (x3, y3) = ec_neg (some (x2, y2)) := by
        show some (x3, y3) = some (x2, -y2)
        rw [← hd3.1, show -y2 = y3 by have := hd3.2; grind]
      rw [ec_add_dg hd3, hCn, ec_add_none]
      have h := ec_back hF hb hB hA
      rw [ec_add_comm hF (ec_add_on hF hA hB) (ec_neg_on hB), ec_add_comm hF hA hB]
      exact h
    obtain ⟨l, hl, eAB⟩ := ec_sl_ex hF hA hB hd
    obtain ⟨n, hn, eBC⟩ := ec_sl_ex hF hB hC hd3
    have onAB := ec_out_on hA hl
    have onBC := ec_out_on hB hn
    by_cases d1 : (ec_out x1 y1 x2 l).1 = x3 ∧ (ec_out x1 y1 x2 l).2 + y3 = 0
    · -- C is -(A + B)
      have hCn : some (x3, y3) = ec_neg (ec_add inv (some (x1, y1)) (some (x2, y2))) := by
        rw [eAB]
        show some (x3, y3) = some ((ec_out x1 y1 x2 l).1, -(ec_out x1 y1 x2 l).2)
        rw [d1.1, show -(ec_out x1 y1 x2 l).2 = y3 by have := d1.2; grind]
      have hlast : ec_add inv (ec_add inv (some (x1, y1)) (some (x2, y2))) (some (x3, y3)) = none := by rw [hCn]; exact ec_add_neg _
      rw [hlast]
      have h := ec_back hF hb hB hA
      have h2 := ec_neg_add hF (ec_neg_on hB) (ec_add_on hF hB hA)
      rw [h, ec_neg_neg, ec_add_comm hF hB hA, ← hCn] at h2
      rw [h2, ec_add_neg]
    by_cases d2 : x1 = (ec_out x2 y2 x3 n).1 ∧ y1 + (ec_out x2 y2 x3 n).2 = 0
    · -- B + C is -A
      have hBn : ec_add inv (some (x2, y2)) (some (x3, y3)) = ec_neg (some (x1, y1)) := by
        rw [eBC]
        show some ((ec_out x2 y2 x3 n).1, (ec_out x2 y2 x3 n).2) = some (x1, -y1)
        rw [← d2.1, show -y1 = (ec_out x2 y2 x3 n).2 by have := d2.2; grind]
      rw [hBn, ec_add_neg]
      have h := ec_back hF hb hB hC
      rw [hBn, ec_neg_add hF hB hA, ec_add_comm hF hB hA] at h
      rw [← h, ec_add_neg]
    rw [eAB, eBC]
    obtain ⟨m, hm, eL⟩ := ec_sl_ex (x1 := (ec_out x1 y1 x2 l).1) (y1 := (ec_out x1 y1 x2 l).2) hF onAB hC d1
    obtain ⟨k, hk, eR⟩ := ec_sl_ex (x2 := (ec_out x2 y2 x3 n).1) (y2 := (ec_out x2 y2 x3 n).2) hF hA onBC d2
    have eL' : ec_add inv (some (ec_out x1 y1 x2 l)) (some (x3, y3)) = some (ec_out (ec_out x1 y1 x2 l).1 (ec_out x1 y1 x2 l).2 x3 m) := eL
    have eR' : ec_add inv (some (x1, y1)) (some (ec_out x2 y2 x3 n)) = some (ec_out x1 y1 (ec_out x2 y2 x3 n).1 k) := eR
    rw [eL', eR']
    exact congrArg some (ec_assoc_sl hF hl hn rfl rfl rfl rfl hm hk d1 d2)
end
section
/-! a point kept as x / z z, y / z z z (ec_J), or as x / z, y / z (ec_H): sums and doubles -/
def ec_J {F : Type} [Lean.Grind.CommRing F] (x y z : F) : Option (F × F) → Prop
  | none => z = 0
  | some a => z ≠ 0 ∧ x = a.1*z*z ∧ y = a.2*z*z*z
def ec_H {F : Type} [Lean.Grind.CommRing F] (x y z : F) : Option (F × F) → Prop
  | none => z = 0
  | some a => z ≠ 0 ∧ x = a.1*z ∧ y = a.2*z
theorem ec_nz {F : Type} [Lean.Grind.CommRing F] {inv : F → F} (hF : ec_fld inv) {a c : F} (ha : a ≠ 0) (hc : c ≠ 0) : a*c ≠ 0 := fun h => by
  rcases ec_nzd hF h with h | h
  · exact ha h
  · exact hc h
theorem ec_Jdbl {F : Type} [Lean.Grind.CommRing F] [DecidableEq F] {inv : F → F} (hF : ec_fld inv) {b x y z u v : F} (hon : v*v = u*u*u + b) (hJ : ec_J x y z (some (u, v))) :
    ec_J ((3*(x*x))*(3*(x*x)) - 2*(2*(y*y)*x) - 2*(2*(y*y)*x)) ((2*(2*(y*y)*x) - ((3*(x*x))*(3*(x*x)) - 2*(2*(y*y)*x) - 2*(2*(y*y)*x)))*(3*(x*x)) - 2*((2*(y*y))*(2*(y*y)))) (2*(z*y)) (ec_add inv (some (u, v)) (some (u, v))) := by
  obtain ⟨hz, hx, hy⟩ := hJ
  simp only at hx hy
  by_cases hv : v + v = 0
  · rw [ec_add_dg ⟨rfl, hv⟩]
    show 2*(z*y) = 0
    rw [hy]
    have e : 2*(z*(v*z*z*z)) = (v + v)*(z*z*z*z) := by grind
    rw [e, hv]
    grind
  · obtain ⟨l, hl, e⟩ := ec_sl_ex hF hon hon (fun h => hv h.2)
    rw [e]
    have hl2 := hl.2
    have hv2 : v ≠ 0 := fun h => hv (by rw [h]; grind)
    have e1 : 2*(z*y) = (v + v)*(z*(z*(z*z))) := by rw [hy]; grind
    refine ⟨?_, ?_, ?_⟩
    · show 2*(z*y) ≠ 0
      rw [e1]
      exact ec_nz hF hv (ec_nz hF hz (ec_nz hF hz (ec_nz hF hz hz)))
    · simp only [ec_out]
      rw [hx, hy]
      have e2 : (u*u + u*u + u*u)*(u*u + u*u + u*u) = (l*(v + v))*(l*(v + v)) := by rw [hl2]
      grind
    · simp only [ec_out]
      rw [hx, hy]
      have e3 : u*u + u*u + u*u = l*(v + v) := hl2.symm
      have e4 : (3 : F)*(u*z*z*(u*z*z)) = l*(v + v)*(z*z*(z*z)) := by grind
      rw [e4]
      have e5 : (3 : F)*(u*u) = 2*(l*v) := by grind
      grind
theorem ec_Jadd {F : Type} [Lean.Grind.CommRing F] [DecidableEq F] {inv : F → F} (hF : ec_fld inv) {b x y z u v u2 v2 : F} (hon : v*v = u*u*u + b) (hon2 : v2*v2 = u2*u2*u2 + b) (hJ : ec_J x y z (some (u, v))) (hb : u2*(z*z) - x ≠ 0) :
    ec_J ((v2*(z*z*z) - y)*(v2*(z*z*z) - y) - (u2*(z*z) - x)*(u2*(z*z) - x)*(u2*(z*z) - x) - (u2*(z*z) - x)*(u2*(z*z) - x)*x - (u2*(z*z) - x)*(u2*(z*z) - x)*x)
      (((u2*(z*z) - x)*(u2*(z*z) - x)*x - ((v2*(z*z*z) - y)*(v2*(z*z*z) - y) - (u2*(z*z) - x)*(u2*(z*z) - x)*(u2*(z*z) - x) - (u2*(z*z) - x)*(u2*(z*z) - x)*x - (u2*(z*z) - x)*(u2*(z*z) - x)*x))*(v2*(z*z*z) - y) - (u2*(z*z) - x)*(u2*(z*z) - x)*(u2*(z*z) - x)*y)
      (z*(u2*(z*z) - x)) (ec_add inv (some (u, v)) (some (u2, v2))) := by
  obtain ⟨hz, hx, hy⟩ := hJ
  simp only at hx hy
  have hu : u ≠ u2 := by
    intro h
    apply hb
    rw [hx, h]
    grind
  obtain ⟨l, hl, e⟩ := ec_sl_ex hF hon hon2 (fun h => hu h.1)
  rw [e]
  have hl1 := hl.1
  refine ⟨ec_nz hF hz hb, ?_, ?_⟩
  · simp only [ec_out]
    rw [hx, hy]
    have ec : v2*(z*z*z) - v*z*z*z = l*(u2 - u)*(z*z*z) := by rw [hl1]; grind
    have eb : u2*(z*z) - u*z*z = (u2 - u)*(z*z) := by grind
    rw [ec, eb]
    clear hl1 hl e ec eb
    grind
  · simp only [ec_out]
    rw [hx, hy]
    have ec : v2*(z*z*z) - v*z*z*z = l*(u2 - u)*(z*z*z) := by rw [hl1]; grind
    have eb : u2*(z*z) - u*z*z = (u2 - u)*(z*z) := by grind
    rw [ec, eb]
    clear hl1 hl e ec eb
    grind
/-- where the x are alike: the same point, or its counterpart -/
theorem ec_Jsame {F : Type} [Lean.Grind.CommRing F] [DecidableEq F] {inv : F → F} (hF : ec_fld inv) {b x y z u v u2 v2 : F} (hon : v*v = u*u*u + b) (hon2 : v2*v2 = u2*u2*u2 + b) (hJ : ec_J x y z (some (u, v))) (hb : u2*(z*z) - x = 0) :
    (v2*(z*z*z) - y = 0 → (u2, v2) = (u, v)) ∧ (v2*(z*z*z) - y ≠ 0 → ec_add inv (some (u, v)) (some (u2, v2)) = none) := by
  obtain ⟨hz, hx, hy⟩ := hJ
  simp only at hx hy
  have h0 : (u2 - u)*(z*z) = 0 := by rw [← hb, hx]; grind
  have hu : u2 = u := by
    rcases ec_nzd hF h0 with h | h
    · grind
    · exact absurd h (ec_nz hF hz hz)
  subst hu
  refine ⟨fun h => ?_, fun h => ?_⟩
  · have h1 : (v2 - v)*(z*(z*z)) = 0 := by rw [← h, hy]; grind
    rcases ec_nzd hF h1 with h2 | h2
    · rw [show v2 = v by grind]
    · exact absurd h2 (ec_nz hF hz (ec_nz hF hz hz))
  · refine ec_add_dg ⟨rfl, ?_⟩
    have h1 : (v2 - v)*(v + v2) = 0 := by grind
    rcases ec_nzd hF h1 with h2 | h2
    · exact absurd (by rw [hy, show v2 = v by grind]; grind) h
    · exact h2
theorem ec_Hdbl {F : Type} [Lean.Grind.CommRing F] [DecidableEq F] {inv : F → F} (hF : ec_fld inv) {b x y z u v : F} (hon : v*v = u*u*u + b) (hJ : ec_H x y z (some (u, v))) :
    ec_H (2*(((3*(x*x))*(3*(x*x)) - 8*(x*y*(y*z)))*(y*z))) ((3*(x*x))*(4*(x*y*(y*z)) - ((3*(x*x))*(3*(x*x)) - 8*(x*y*(y*z)))) - 8*((y*(y*z))*(y*(y*z)))) (8*((y*z)*(y*z)*(y*z))) (ec_add inv (some (u, v)) (some (u, v))) := by
  obtain ⟨hz, hx, hy⟩ := hJ
  simp only at hx hy
  by_cases hv : v + v = 0
  · rw [ec_add_dg ⟨rfl, hv⟩]
    show 8*((y*z)*(y*z)*(y*z)) = 0
    rw [hy]
    have e : 8*((v*z*z)*(v*z*z)*(v*z*z)) = (v + v)*(4*(v*v)*(z*z*z*z*z*z)) := by grind
    rw [e, hv]
    grind
  · obtain ⟨l, hl, e⟩ := ec_sl_ex hF hon hon (fun h => hv h.2)
    rw [e]
    have hl2 := hl.2
    have e1 : 8*((y*z)*(y*z)*(y*z)) = ((v + v)*(z*z))*(((v + v)*(z*z))*((v + v)*(z*z))) := by rw [hy]; grind
    have e5 : (3 : F)*(u*u) = 2*(l*v) := by grind
    refine ⟨?_, ?_, ?_⟩
    · rw [e1]
      have hn := ec_nz hF hv (ec_nz hF hz hz)
      exact ec_nz hF hn (ec_nz hF hn hn)
    · simp only [ec_out]
      rw [hx, hy]
      have e4 : (3 : F)*(u*z*(u*z)) = 2*(l*v)*(z*z) := by grind
      rw [e4]
      clear hl hl2 e e1 e4
      grind
    · simp only [ec_out]
      rw [hx, hy]
      have e4 : (3 : F)*(u*z*(u*z)) = 2*(l*v)*(z*z) := by grind
      rw [e4]
      clear hl hl2 e e1 e4
      grind
theorem ec_Hadd {F : Type} [Lean.Grind.CommRing F] [DecidableEq F] {inv : F → F} (hF : ec_fld inv) {b x y z x2 y2 z2 u v u2 v2 : F} (hon : v*v = u*u*u + b) (hon2 : v2*v2 = u2*u2*u2 + b) (hJ : ec_H x y z (some (u, v))) (hJ2 : ec_H x2 y2 z2 (some (u2, v2))) (hb : x2*z - x*z2 ≠ 0) :
    ec_H ((x2*z - x*z2)*((y2*z - y*z2)*(y2*z - y*z2)*(z*z2) - (x2*z - x*z2)*(x2*z - x*z2)*(x2*z - x*z2) - (x2*z - x*z2)*(x2*z - x*z2)*(x*z2) - (x2*z - x*z2)*(x2*z - x*z2)*(x*z2)))
      ((y2*z - y*z2)*((x2*z - x*z2)*(x2*z - x*z2)*(x*z2) - ((y2*z - y*z2)*(y2*z - y*z2)*(z*z2) - (x2*z - x*z2)*(x2*z - x*z2)*(x2*z - x*z2) - (x2*z - x*z2)*(x2*z - x*z2)*(x*z2) - (x2*z - x*z2)*(x2*z - x*z2)*(x*z2))) - y*z2*((x2*z - x*z2)*(x2*z - x*z2)*(x2*z - x*z2)))
      ((x2*z - x*z2)*(x2*z - x*z2)*(x2*z - x*z2)*(z*z2)) (ec_add inv (some (u, v)) (some (u2, v2))) := by
  obtain ⟨hz, hx, hy⟩ := hJ
  obtain ⟨hz2, hx2, hy2⟩ := hJ2
  simp only at hx hy hx2 hy2
  have hu : u ≠ u2 := by
    intro h
    apply hb
    rw [hx, hx2, h]
    grind
  obtain ⟨l, hl, e⟩ := ec_sl_ex hF hon hon2 (fun h => hu h.1)
  rw [e]
  have hl1 := hl.1
  have eb : x2*z - x*z2 = (u2 - u)*(z*z2) := by rw [hx, hx2]; grind
  have ec : y2*z - y*z2 = l*(u2 - u)*(z*z2) := by rw [hl1, hy, hy2]; grind
  refine ⟨ec_nz hF (ec_nz hF (ec_nz hF hb hb) hb) (ec_nz hF hz hz2), ?_, ?_⟩
  · simp only [ec_out]
    rw [eb, ec, hx]
    clear hl1 hl e ec eb hb hx hy hx2 hy2
    grind
  · simp only [ec_out]
    rw [eb, ec, hx, hy]
    clear hl1 hl e ec eb hb hx hy hx2 hy2
    grind
theorem ec_Hsame {F : Type} [Lean.Grind.CommRing F] [DecidableEq F] {inv : F → F} (hF : ec_fld inv) {b x y z x2 y2 z2 u v u2 v2 : F} (hon : v*v = u*u*u + b) (hon2 : v2*v2 = u2*u2*u2 + b) (hJ : ec_H x y z (some (u, v))) (hJ2 : ec_H x2 y2 z2 (some (u2, v2))) (hb : x2*z - x*z2 = 0) :
    (y2*z - y*z2 = 0 → (u2, v2) = (u, v)) ∧ (y2*z - y*z2 ≠ 0 → ec_add inv (some (u, v)) (some (u2, v2)) = none) := by
  obtain ⟨hz, hx, hy⟩ := hJ
  obtain ⟨hz2, hx2, hy2⟩ := hJ2
  simp only at hx hy hx2 hy2
  have h0 : (u2 - u)*(z*z2) = 0 := by rw [← hb, hx, hx2]; grind
  have hu : u2 = u := by
    rcases ec_nzd hF h0 with h | h
    · grind
    · exact absurd h (ec_nz hF hz hz2)
  subst hu
  refine ⟨fun h => ?_, fun h => ?_⟩
  · have h1 : (v2 - v)*(z*z2) = 0 := by rw [← h, hy, hy2]; grind
    rcases ec_nzd hF h1 with h2 | h2
    · rw [show v2 = v by grind]
    · exact absurd h2 (ec_nz hF hz hz2)
  · refine ec_add_dg ⟨rfl, ?_⟩
    have h1 : (v2 - v)*(v + v2) = 0 := by grind
    rcases ec_nzd hF h1 with h2 | h2
    · exact absurd (by rw [hy, hy2, show v2 = v by grind]; grind) h
    · exact h2
/-- double and add, the highest bit first: after i of the 256 bits of k -/
def ec_da {F : Type} [Lean.Grind.CommRing F] [DecidableEq F] (inv : F → F) (A : Option (F × F)) (k : Nat) : Nat → Option (F × F)
  | 0 => none
  | i + 1 => if k / 2 ^ (255 - i) % 2 = 1 then ec_add inv (ec_add inv (ec_da inv A k i) (ec_da inv A k i)) A else ec_add inv (ec_da inv A k i) (ec_da inv A k i)
theorem ec_da_on {F : Type} [Lean.Grind.CommRing F] [DecidableEq F] {inv : F → F} (hF : ec_fld inv) {b : F} {A : Option (F × F)} (hA : ec_on b A) (k : Nat) : ∀ i, ec_on b (ec_da inv A k i)
  | 0 => trivial
  | i + 1 => by
    have ih := ec_da_on hF hA k i
    unfold ec_da
    split
    · exact ec_add_on hF (ec_add_on hF ih ih) hA
    · exact ec_add_on hF ih ih
/-- (A + B) + (C + D) = (A + C) + (B + D) -/
theorem ec_add4 {F : Type} [Lean.Grind.CommRing F] [DecidableEq F] {inv : F → F} (hF : ec_fld inv) {b : F} (hb : b ≠ 0) {A B C D : Option (F × F)} (hA : ec_on b A) (hB : ec_on b B) (hC : ec_on b C) (hD : ec_on b D) : ec_add inv (ec_add inv A B) (ec_add inv C D) = ec_add inv (ec_add inv A C) (ec_add inv B D) := by
  rw [ec_assoc hF hb hA hB (ec_add_on hF hC hD), ← ec_assoc hF hb hB hC hD, ec_add_comm hF hB hC, ec_assoc hF hb hC hB hD, ← ec_assoc hF hb hA hC (ec_add_on hF hB hD)]
/-- the interleaved sum of two multiples is their sum -/
def ec_da2 {F : Type} [Lean.Grind.CommRing F] [DecidableEq F] (inv : F → F) (A : Option (F × F)) (k : Nat) (B : Option (F × F)) (j : Nat) : Nat → Option (F × F)
  | 0 => none
  | i + 1 =>
    let S := ec_add inv (ec_da2 inv A k B j i) (ec_da2 inv A k B j i)
    let S1 := if k / 2 ^ (255 - i) % 2 = 1 then ec_add inv S A else S
    if j / 2 ^ (255 - i) % 2 = 1 then ec_add inv S1 B else S1
theorem ec_da2_eq {F : Type} [Lean.Grind.CommRing F] [DecidableEq F] {inv : F → F} (hF : ec_fld inv) {b : F} (hb : b ≠ 0) {A B : Option (F × F)} (hA : ec_on b A) (hB : ec_on b B) (k j : Nat) : ∀ i, ec_da2 inv A k B j i = ec_add inv (ec_da inv A k i) (ec_da inv B j i)
  | 0 => rfl
  | i + 1 => by
    have ih := ec_da2_eq hF hb hA hB k j i
    have h1 := ec_da_on hF hA k i
    have h2 := ec_da_on hF hB j i
    have hX := ec_add_on hF h1 h1
    have hY := ec_add_on hF h2 h2
    have e : ec_add inv (ec_add inv (ec_da inv A k i) (ec_da inv B j i)) (ec_add inv (ec_da inv A k i) (ec_da inv B j i)) = ec_add inv (ec_add inv (ec_da inv A k i) (ec_da inv A k i)) (ec_add inv (ec_da inv B j i) (ec_da inv B j i)) := ec_add4 hF hb h1 h2 h1 h2
    unfold ec_da2 ec_da
    simp only [ih, e]
    by_cases c1 : k / 2 ^ (255 - i) % 2 = 1 <;> by_cases c2 : j / 2 ^ (255 - i) % 2 = 1
    · simp only [if_pos c1, if_pos c2]
      rw [ec_assoc hF hb hX hY hA, ec_add_comm hF hY hA, ← ec_assoc hF hb hX hA hY, ec_assoc hF hb (ec_add_on hF hX hA) hY hB]
    · simp only [if_pos c1, if_neg c2]
      rw [ec_assoc hF hb hX hY hA, ec_add_comm hF hY hA, ← ec_assoc hF hb hX hA hY]
    · simp only [if_neg c1, if_pos c2]
      rw [ec_assoc hF hb hX hY hB]
    · simp only [if_neg c1, if_neg c2]
end
section
/-! the field of P elements -/
theorem ec_Ppos : 0 < ec_P := by decide +kernel
def ec_nzP : NeZero ec_P := ⟨Nat.ne_of_gt ec_Ppos⟩
abbrev ec_cr : Lean.Grind.CommRing (Fin ec_P) := letI := ec_nzP; inferInstance
def ec_f (n : Nat) : Fin ec_P := ⟨n % ec_P, Nat.mod_lt _ ec_Ppos⟩
def ec_inv (a : Fin ec_P) : Fin ec_P := ec_f (a.val ^ (ec_P - 2))
theorem ec_f_val {n : Nat} (h : n < ec_P) : (ec_f n).val = n := Nat.mod_eq_of_lt h
theorem ec_f_of (a : Fin ec_P) : ec_f a.val = a := Fin.ext (Nat.mod_eq_of_lt a.isLt)
theorem ec_f_inj {a b : Nat} (ha : a < ec_P) (hb : b < ec_P) (h : ec_f a = ec_f b) : a = b := by
  have := congrArg Fin.val h
  rwa [ec_f_val ha, ec_f_val hb] at this
theorem ec_f_mod (a : Nat) : ec_f (a % ec_P) = ec_f a := Fin.ext (Nat.mod_mod _ _)
theorem ec_f_mul (a b : Nat) : ec_f (a * b) = @HMul.hMul _ _ _ (@instHMul _ ec_cr.toMul) (ec_f a) (ec_f b) := Fin.ext (Nat.mul_mod a b ec_P)
theorem ec_f_add (a b : Nat) : ec_f (a + b) = @HAdd.hAdd _ _ _ (@instHAdd _ ec_cr.toAdd) (ec_f a) (ec_f b) := Fin.ext (Nat.add_mod a b ec_P)
theorem ec_f_sub {a b : Nat} (h : b ≤ a) : ec_f (a - b) = @HSub.hSub _ _ _ (@instHSub _ ec_cr.toSub) (ec_f a) (ec_f b) := by
  letI := ec_cr
  have h1 : ec_f a = ec_f (a - b) + ec_f b := by
    have := ec_f_add (a - b) b
    rwa [Nat.sub_add_cancel h] at this
  grind
theorem ec_f_0 : ec_f 0 = @OfNat.ofNat (Fin ec_P) 0 (ec_cr.ofNat 0) := rfl
theorem ec_f_1 : ec_f 1 = @OfNat.ofNat (Fin ec_P) 1 (ec_cr.ofNat 1) := rfl
theorem ec_f_P (a : Nat) : ec_f (a + ec_P) = ec_f a := Fin.ext (Nat.add_mod_right a ec_P)
theorem ec_f_zero {a : Nat} (h : a < ec_P) : ec_f a = @OfNat.ofNat (Fin ec_P) 0 (ec_cr.ofNat 0) ↔ a = 0 := by
  rw [← ec_f_0]
  exact ⟨fun q => ec_f_inj h ec_Ppos q, fun q => by rw [q]⟩
theorem ec_isfld : @ec_fld (Fin ec_P) ec_cr ec_inv := by
  refine ⟨fun a ha => ?_, ?_, ?_⟩
  · have h0 : a.val % ec_P ≠ 0 := by
      intro h
      apply ha
      rw [← ec_f_of a, ← ec_f_mod, h]
      rfl
    have h1 := ec_fermatP h0
    have h2 : a.val ^ (ec_P - 1) = a.val * a.val ^ (ec_P - 2) := by
      rw [← Nat.pow_succ']
      congr 1
    rw [h2] at h1
    have h3 : ec_f (a.val * a.val ^ (ec_P - 2)) = ec_f 1 := Fin.ext (by show a.val * a.val ^ (ec_P - 2) % ec_P = 1 % ec_P; rw [h1]; decide +kernel)
    rw [ec_f_mul, ec_f_of] at h3
    exact h3
  · intro h
    have := congrArg Fin.val h
    revert this
    decide +kernel
  · intro h
    have := congrArg Fin.val h
    revert this
    decide +kernel
theorem ec_seven : ec_f 7 ≠ @OfNat.ofNat (Fin ec_P) 0 (ec_cr.ofNat 0) := by
  intro h
  have := congrArg Fin.val h
  revert this
  decide +kernel
end
section
/-! digits of a number to a base, one digit written anew -/
def dg (b v j : Nat) : Nat := v / b ^ j % b
def ds (b w i x : Nat) : Nat := w % b ^ i + x * b ^ i + w / b ^ (i + 1) * b ^ (i + 1)
theorem dg_lt {b : Nat} (hb : 0 < b) (v j : Nat) : dg b v j < b := Nat.mod_lt _ hb
theorem dg_mod (b v j : Nat) : v % b ^ (j + 1) = v % b ^ j + dg b v j * b ^ j := by
  unfold dg
  rw [Nat.pow_succ, Nat.mod_mul, Nat.mul_comm (b ^ j)]
theorem dg_alt (b v j : Nat) : dg b v j = v % b ^ (j + 1) / b ^ j := by
  unfold dg
  rw [Nat.pow_succ, Nat.mod_mul_right_div_self]
theorem ds_low {b : Nat} (w x : Nat) {i j : Nat} (h : j ≤ i) : ds b w i x % b ^ j = w % b ^ j := by
  unfold ds
  have e1 : b ^ i = b ^ j * b ^ (i - j) := by rw [← Nat.pow_add]; congr 1; omega
  have e2 : b ^ (i + 1) = b ^ j * b ^ (i + 1 - j) := by rw [← Nat.pow_add]; congr 1; omega
  have e3 : x * b ^ i = b ^ j * (x * b ^ (i - j)) := by rw [e1, Nat.mul_left_comm]
  have e4 : w / b ^ (i + 1) * b ^ (i + 1) = b ^ j * (w / b ^ (i + 1) * b ^ (i + 1 - j)) := by
    conv => lhs; rhs; rw [e2]
    rw [Nat.mul_left_comm]
  rw [e3, e4, Nat.add_mul_mod_self_left, Nat.add_mul_mod_self_left]
  exact Nat.mod_mod_of_dvd _ ⟨_, e1⟩
theorem ds_high {b : Nat} (hb : 0 < b) (w : Nat) {x i j : Nat} (hx : x < b) (h : i < j) : ds b w i x / b ^ j = w / b ^ j := by
  have hp : 0 < b ^ i := Nat.pow_pos hb
  have hp1 : 0 < b ^ (i + 1) := Nat.pow_pos hb
  have h1 : w % b ^ i + x * b ^ i < b ^ (i + 1) := by
    have h2 := Nat.mod_lt w hp
    have h3 : (x + 1) * b ^ i ≤ b * b ^ i := Nat.mul_le_mul_right _ hx
    rw [Nat.pow_succ, Nat.mul_comm (b ^ i)]
    rw [Nat.add_mul, Nat.one_mul] at h3
    omega
  have h4 : ds b w i x / b ^ (i + 1) = w / b ^ (i + 1) := by
    unfold ds
    rw [Nat.add_mul_div_right _ _ hp1, Nat.div_eq_of_lt h1, Nat.zero_add]
  have e : b ^ j = b ^ (i + 1) * b ^ (j - (i + 1)) := by rw [← Nat.pow_add]; congr 1; omega
  rw [e, ← Nat.div_div_eq_div_mul, ← Nat.div_div_eq_div_mul, h4]
theorem ds_mid {b : Nat} (hb : 0 < b) (w : Nat) {x i : Nat} (hx : x < b) : dg b (ds b w i x) i = x := by
  have hp : 0 < b ^ i := Nat.pow_pos hb
  have e : ds b w i x = w % b ^ i + (x + w / b ^ (i + 1) * b) * b ^ i := by
    unfold ds
    rw [Nat.add_mul, Nat.add_assoc]
    congr 2
    rw [Nat.pow_succ, Nat.mul_assoc, Nat.mul_comm b]
  unfold dg
  rw [e, Nat.add_mul_div_right _ _ hp, Nat.div_eq_of_lt (Nat.mod_lt _ hp), Nat.zero_add, Nat.add_mul_mod_self_right, Nat.mod_eq_of_lt hx]
theorem ds_dg {b : Nat} (hb : 0 < b) (w : Nat) {x i : Nat} (hx : x < b) (j : Nat) : dg b (ds b w i x) j = if j = i then x else dg b w j := by
  by_cases h : j = i
  · subst h
    rw [if_pos rfl, ds_mid hb w hx]
  · rw [if_neg h]
    rcases Nat.lt_or_ge j i with h1 | h1
    · rw [dg_alt, dg_alt, ds_low w x (show j + 1 ≤ i from h1)]
    · unfold dg
      rw [ds_high hb w hx (by omega)]
/-- the part below the digit that was written, and it -/
theorem ds_mod {b : Nat} (hb : 0 < b) (w : Nat) {x i : Nat} (hx : x < b) : ds b w i x % b ^ (i + 1) = w % b ^ i + x * b ^ i := by
  rw [dg_mod, ds_mid hb w hx, ds_low w x (Nat.le_refl i)]
theorem ds_lt {b : Nat} (hb : 0 < b) {w x i n : Nat} (hx : x < b) (hi : i < n) (hw : w < b ^ n) : ds b w i x < b ^ n := by
  have h := ds_high hb w hx hi
  rw [Nat.div_eq_of_lt hw] at h
  exact Nat.lt_of_div_eq_zero (Nat.pow_pos hb) h
/-- two numbers with the same digits below n -/
theorem dg_ext {b : Nat} {v w : Nat} (n : Nat) (h : ∀ j, j < n → dg b v j = dg b w j) : v % b ^ n = w % b ^ n := by
  induction n with
  | zero => simp [Nat.mod_one]
  | succ n ih => rw [dg_mod, dg_mod, ih (fun j hj => h j (by omega)), h n (by omega)]
theorem dg_ext' {b : Nat} {v w : Nat} (n : Nat) (hv : v < b ^ n) (hw : w < b ^ n) (h : ∀ j, j < n → dg b v j = dg b w j) : v = w := by
  have := dg_ext n h
  rwa [Nat.mod_eq_of_lt hv, Nat.mod_eq_of_lt hw] at this
theorem dg_cmp {b : Nat} (hb : 0 < b) {v w i n : Nat} (hi : i < n) (hv : v < b ^ n) (hw : w < b ^ n) (h : ∀ j, i < j → j < n → dg b v j = dg b w j) (hlt : dg b v i < dg b w i) : v < w := by
  have key : ∀ k, i + 1 + k ≤ n → v / b ^ (n - k) = w / b ^ (n - k) := by
    intro k
    induction k with
    | zero => intro _; rw [Nat.sub_zero, Nat.div_eq_of_lt hv, Nat.div_eq_of_lt hw]
    | succ k ih =>
      intro hk
      have h1 := ih (by omega)
      have h2 := h (n - (k + 1)) (by omega) (by omega)
      have e : b ^ (n - k) = b ^ (n - (k + 1)) * b := by rw [← Nat.pow_succ]; congr 1; omega
      rw [e, ← Nat.div_div_eq_div_mul, ← Nat.div_div_eq_div_mul] at h1
      unfold dg at h2
      rw [← Nat.div_add_mod (v / b ^ (n - (k + 1))) b, ← Nat.div_add_mod (w / b ^ (n - (k + 1))) b, h1, h2]
  have h1 := key (n - (i + 1)) (by omega)
  rw [show n - (n - (i + 1)) = i + 1 by omega] at h1
  have h2 : v / b ^ i < w / b ^ i := by
    have ev := Nat.div_add_mod (v / b ^ i) b
    have ew := Nat.div_add_mod (w / b ^ i) b
    have e9 : b ^ i * b = b ^ (i + 1) := (Nat.pow_succ b i).symm
    rw [Nat.div_div_eq_div_mul, e9] at ev ew
    unfold dg at hlt
    rw [h1] at ev
    omega
  rcases Nat.lt_or_ge v w with h3 | h3
  · exact h3
  · have := Nat.div_le_div_right (c := b ^ i) h3
    omega
end
section
-- ===== PART A: goes FIRST, ahead of the names: the tables' words, and 'selects' of the private methods out of them =====
/-- a private method of a class that the tables say can be made, by its rows of tables_1 -/
def lw_okq (q : MethodName × Nat) : Prop := (q.1.cls ≠ "java/lang/invoke/MethodHandle" ∧ q.1.cls ≠ "java/lang/invoke/VarHandle") ∧ Cond.instantiable q.1.cls q.2 ∈ tables_1 ∧ Cond.privateMethod q.1 ∈ tables_1 ∧ Cond.instanceMethod q.1 ∈ tables_1
theorem lw_p0 : lw_okq (⟨"CurveDesk", "modulusOf", "(I)LCurveDesk$Modulus;"⟩, 10) := ⟨⟨by decide +kernel, by decide +kernel⟩, List.mem_of_getElem? (i := 10) (by decide +kernel), List.mem_of_getElem? (i := 193) (by decide +kernel), List.mem_of_getElem? (i := 194) (by decide +kernel)⟩
theorem lw_p1 : lw_okq (⟨"CurveDesk$Modulus", "addProduct", "(J[JII)V"⟩, 6) := ⟨⟨by decide +kernel, by decide +kernel⟩, List.mem_of_getElem? (i := 37) (by decide +kernel), List.mem_of_getElem? (i := 239) (by decide +kernel), List.mem_of_getElem? (i := 240) (by decide +kernel)⟩
theorem lw_p2 : lw_okq (⟨"CurveDesk$Modulus", "fold", "(I)V"⟩, 6) := ⟨⟨by decide +kernel, by decide +kernel⟩, List.mem_of_getElem? (i := 37) (by decide +kernel), List.mem_of_getElem? (i := 244) (by decide +kernel), List.mem_of_getElem? (i := 245) (by decide +kernel)⟩
theorem lw_p3 : lw_okq (⟨"CurveDesk", "fillSpot", "(I[J[J)Z"⟩, 10) := ⟨⟨by decide +kernel, by decide +kernel⟩, List.mem_of_getElem? (i := 10) (by decide +kernel), List.mem_of_getElem? (i := 295) (by decide +kernel), List.mem_of_getElem? (i := 296) (by decide +kernel)⟩
theorem lw_p4 : lw_okq (⟨"CurveDesk$Curve", "startSum", "()V"⟩, 7) := ⟨⟨by decide +kernel, by decide +kernel⟩, List.mem_of_getElem? (i := 74) (by decide +kernel), List.mem_of_getElem? (i := 319) (by decide +kernel), List.mem_of_getElem? (i := 320) (by decide +kernel)⟩
theorem lw_p5 : lw_okq (⟨"CurveDesk$Curve", "include", "(LCurveDesk$Point;)V"⟩, 7) := ⟨⟨by decide +kernel, by decide +kernel⟩, List.mem_of_getElem? (i := 74) (by decide +kernel), List.mem_of_getElem? (i := 323) (by decide +kernel), List.mem_of_getElem? (i := 324) (by decide +kernel)⟩
theorem lw_p6 : lw_okq (⟨"CurveDesk$Curve", "findDifferences", "(LCurveDesk$Point;)V"⟩, 7) := ⟨⟨by decide +kernel, by decide +kernel⟩, List.mem_of_getElem? (i := 74) (by decide +kernel), List.mem_of_getElem? (i := 329) (by decide +kernel), List.mem_of_getElem? (i := 330) (by decide +kernel)⟩
theorem lw_p7 : lw_okq (⟨"CurveDesk$Curve", "moveAlongLine", "()V"⟩, 7) := ⟨⟨by decide +kernel, by decide +kernel⟩, List.mem_of_getElem? (i := 74) (by decide +kernel), List.mem_of_getElem? (i := 333) (by decide +kernel), List.mem_of_getElem? (i := 334) (by decide +kernel)⟩
theorem lw_p8 : lw_okq (⟨"CurveDesk$Curve", "doubleSum", "()V"⟩, 7) := ⟨⟨by decide +kernel, by decide +kernel⟩, List.mem_of_getElem? (i := 74) (by decide +kernel), List.mem_of_getElem? (i := 337) (by decide +kernel), List.mem_of_getElem? (i := 338) (by decide +kernel)⟩
theorem lw_p9 : lw_okq (⟨"CurveDesk$Curve", "storeSum", "(LCurveDesk$Point;)V"⟩, 7) := ⟨⟨by decide +kernel, by decide +kernel⟩, List.mem_of_getElem? (i := 74) (by decide +kernel), List.mem_of_getElem? (i := 341) (by decide +kernel), List.mem_of_getElem? (i := 342) (by decide +kernel)⟩
theorem lw_p10 : lw_okq (⟨"CurveDesk", "fillFromShortKey", "(I)Z"⟩, 10) := ⟨⟨by decide +kernel, by decide +kernel⟩, List.mem_of_getElem? (i := 10) (by decide +kernel), List.mem_of_getElem? (i := 381) (by decide +kernel), List.mem_of_getElem? (i := 382) (by decide +kernel)⟩
theorem lw_p11 : lw_okq (⟨"CurveDesk", "fillFromWholeKey", "(I)Z"⟩, 10) := ⟨⟨by decide +kernel, by decide +kernel⟩, List.mem_of_getElem? (i := 10) (by decide +kernel), List.mem_of_getElem? (i := 396) (by decide +kernel), List.mem_of_getElem? (i := 397) (by decide +kernel)⟩
theorem lw_p12 : lw_okq (⟨"CurveDesk$Hand", "readPart", "([JII)I"⟩, 2) := ⟨⟨by decide +kernel, by decide +kernel⟩, List.mem_of_getElem? (i := 22) (by decide +kernel), List.mem_of_getElem? (i := 408) (by decide +kernel), List.mem_of_getElem? (i := 409) (by decide +kernel)⟩
theorem lw_p13 : lw_okq (⟨"CurveDesk$Hand", "isWellWritten", "(II)Z"⟩, 2) := ⟨⟨by decide +kernel, by decide +kernel⟩, List.mem_of_getElem? (i := 22) (by decide +kernel), List.mem_of_getElem? (i := 412) (by decide +kernel), List.mem_of_getElem? (i := 413) (by decide +kernel)⟩
theorem lw_p14 : lw_okq (⟨"CurveDesk", "isUnit", "([J)Z"⟩, 10) := ⟨⟨by decide +kernel, by decide +kernel⟩, List.mem_of_getElem? (i := 10) (by decide +kernel), List.mem_of_getElem? (i := 421) (by decide +kernel), List.mem_of_getElem? (i := 422) (by decide +kernel)⟩
theorem lw_p15 : lw_okq (⟨"CurveDeskModel", "write", "(IJJJJ)V"⟩, 7) := ⟨⟨by decide +kernel, by decide +kernel⟩, List.mem_of_getElem? (i := 426) (by decide +kernel), List.mem_of_getElem? (i := 434) (by decide +kernel), List.mem_of_getElem? (i := 435) (by decide +kernel)⟩
def lw_privs_1 : List (MethodName × Nat) := [(⟨"CurveDesk", "modulusOf", "(I)LCurveDesk$Modulus;"⟩, 10), (⟨"CurveDesk$Modulus", "addProduct", "(J[JII)V"⟩, 6), (⟨"CurveDesk$Modulus", "fold", "(I)V"⟩, 6), (⟨"CurveDesk", "fillSpot", "(I[J[J)Z"⟩, 10), (⟨"CurveDesk$Curve", "startSum", "()V"⟩, 7), (⟨"CurveDesk$Curve", "include", "(LCurveDesk$Point;)V"⟩, 7), (⟨"CurveDesk$Curve", "findDifferences", "(LCurveDesk$Point;)V"⟩, 7), (⟨"CurveDesk$Curve", "moveAlongLine", "()V"⟩, 7), (⟨"CurveDesk$Curve", "doubleSum", "()V"⟩, 7), (⟨"CurveDesk$Curve", "storeSum", "(LCurveDesk$Point;)V"⟩, 7), (⟨"CurveDesk", "fillFromShortKey", "(I)Z"⟩, 10), (⟨"CurveDesk", "fillFromWholeKey", "(I)Z"⟩, 10), (⟨"CurveDesk$Hand", "readPart", "([JII)I"⟩, 2), (⟨"CurveDesk$Hand", "isWellWritten", "(II)Z"⟩, 2), (⟨"CurveDesk", "isUnit", "([J)Z"⟩, 10), (⟨"CurveDeskModel", "write", "(IJJJJ)V"⟩, 7)]
theorem lw_r1 : ∀ q ∈ lw_privs_1, lw_okq q := List.forall_mem_cons.mpr ⟨lw_p0, List.forall_mem_cons.mpr ⟨lw_p1, List.forall_mem_cons.mpr ⟨lw_p2, List.forall_mem_cons.mpr ⟨lw_p3, List.forall_mem_cons.mpr ⟨lw_p4, List.forall_mem_cons.mpr ⟨lw_p5, List.forall_mem_cons.mpr ⟨lw_p6, List.forall_mem_cons.mpr ⟨lw_p7, List.forall_mem_cons.mpr ⟨lw_p8, List.forall_mem_cons.mpr ⟨lw_p9, List.forall_mem_cons.mpr ⟨lw_p10, List.forall_mem_cons.mpr ⟨lw_p11, List.forall_mem_cons.mpr ⟨lw_p12, List.forall_mem_cons.mpr ⟨lw_p13, List.forall_mem_cons.mpr ⟨lw_p14, List.forall_mem_cons.mpr ⟨lw_p15, fun _ h => absurd h List.not_mem_nil⟩⟩⟩⟩⟩⟩⟩⟩⟩⟩⟩⟩⟩⟩⟩⟩
theorem lw_p16 : lw_okq (⟨"CurveDeskModel", "nothing", "(I)V"⟩, 7) := ⟨⟨by decide +kernel, by decide +kernel⟩, List.mem_of_getElem? (i := 426) (by decide +kernel), List.mem_of_getElem? (i := 438) (by decide +kernel), List.mem_of_getElem? (i := 439) (by decide +kernel)⟩
theorem lw_p17 : lw_okq (⟨"CurveDeskModel", "bit", "(II)Z"⟩, 7) := ⟨⟨by decide +kernel, by decide +kernel⟩, List.mem_of_getElem? (i := 426) (by decide +kernel), List.mem_of_getElem? (i := 492) (by decide +kernel), List.mem_of_getElem? (i := 493) (by decide +kernel)⟩
theorem lw_p18 : lw_okq (⟨"CurveDeskModel", "multiply", "(IIII)V"⟩, 7) := ⟨⟨by decide +kernel, by decide +kernel⟩, List.mem_of_getElem? (i := 426) (by decide +kernel), List.mem_of_getElem? (i := 503) (by decide +kernel), List.mem_of_getElem? (i := 504) (by decide +kernel)⟩
theorem lw_p19 : lw_okq (⟨"CurveDeskModel", "carry", "()V"⟩, 7) := ⟨⟨by decide +kernel, by decide +kernel⟩, List.mem_of_getElem? (i := 426) (by decide +kernel), List.mem_of_getElem? (i := 507) (by decide +kernel), List.mem_of_getElem? (i := 508) (by decide +kernel)⟩
theorem lw_p20 : lw_okq (⟨"CurveDeskModel", "isWide", "()Z"⟩, 7) := ⟨⟨by decide +kernel, by decide +kernel⟩, List.mem_of_getElem? (i := 426) (by decide +kernel), List.mem_of_getElem? (i := 512) (by decide +kernel), List.mem_of_getElem? (i := 513) (by decide +kernel)⟩
theorem lw_p21 : lw_okq (⟨"CurveDeskModel", "fold", "(I)V"⟩, 7) := ⟨⟨by decide +kernel, by decide +kernel⟩, List.mem_of_getElem? (i := 426) (by decide +kernel), List.mem_of_getElem? (i := 517) (by decide +kernel), List.mem_of_getElem? (i := 518) (by decide +kernel)⟩
theorem lw_p22 : lw_okq (⟨"CurveDeskModel", "compare", "(II)I"⟩, 7) := ⟨⟨by decide +kernel, by decide +kernel⟩, List.mem_of_getElem? (i := 426) (by decide +kernel), List.mem_of_getElem? (i := 521) (by decide +kernel), List.mem_of_getElem? (i := 522) (by decide +kernel)⟩
theorem lw_p23 : lw_okq (⟨"CurveDeskModel", "add", "(III)V"⟩, 7) := ⟨⟨by decide +kernel, by decide +kernel⟩, List.mem_of_getElem? (i := 426) (by decide +kernel), List.mem_of_getElem? (i := 525) (by decide +kernel), List.mem_of_getElem? (i := 526) (by decide +kernel)⟩
theorem lw_p24 : lw_okq (⟨"CurveDeskModel", "isNothing", "(I)Z"⟩, 7) := ⟨⟨by decide +kernel, by decide +kernel⟩, List.mem_of_getElem? (i := 426) (by decide +kernel), List.mem_of_getElem? (i := 533) (by decide +kernel), List.mem_of_getElem? (i := 534) (by decide +kernel)⟩
theorem lw_p25 : lw_okq (⟨"CurveDeskModel", "plus", "(IIII)V"⟩, 7) := ⟨⟨by decide +kernel, by decide +kernel⟩, List.mem_of_getElem? (i := 426) (by decide +kernel), List.mem_of_getElem? (i := 537) (by decide +kernel), List.mem_of_getElem? (i := 538) (by decide +kernel)⟩
theorem lw_p26 : lw_okq (⟨"CurveDeskModel", "copy", "(II)V"⟩, 7) := ⟨⟨by decide +kernel, by decide +kernel⟩, List.mem_of_getElem? (i := 426) (by decide +kernel), List.mem_of_getElem? (i := 541) (by decide +kernel), List.mem_of_getElem? (i := 542) (by decide +kernel)⟩
theorem lw_p27 : lw_okq (⟨"CurveDeskModel", "minus", "(IIII)V"⟩, 7) := ⟨⟨by decide +kernel, by decide +kernel⟩, List.mem_of_getElem? (i := 426) (by decide +kernel), List.mem_of_getElem? (i := 545) (by decide +kernel), List.mem_of_getElem? (i := 546) (by decide +kernel)⟩
theorem lw_p28 : lw_okq (⟨"CurveDeskModel", "divide", "(IIII)V"⟩, 7) := ⟨⟨by decide +kernel, by decide +kernel⟩, List.mem_of_getElem? (i := 426) (by decide +kernel), List.mem_of_getElem? (i := 549) (by decide +kernel), List.mem_of_getElem? (i := 550) (by decide +kernel)⟩
theorem lw_p29 : lw_okq (⟨"CurveDeskModel", "power", "(III)V"⟩, 7) := ⟨⟨by decide +kernel, by decide +kernel⟩, List.mem_of_getElem? (i := 426) (by decide +kernel), List.mem_of_getElem? (i := 553) (by decide +kernel), List.mem_of_getElem? (i := 554) (by decide +kernel)⟩
theorem lw_p30 : lw_okq (⟨"CurveDeskModel", "roots", "(II)Z"⟩, 7) := ⟨⟨by decide +kernel, by decide +kernel⟩, List.mem_of_getElem? (i := 426) (by decide +kernel), List.mem_of_getElem? (i := 561) (by decide +kernel), List.mem_of_getElem? (i := 562) (by decide +kernel)⟩
theorem lw_p31 : lw_okq (⟨"CurveDeskModel", "isOdd", "(I)Z"⟩, 7) := ⟨⟨by decide +kernel, by decide +kernel⟩, List.mem_of_getElem? (i := 426) (by decide +kernel), List.mem_of_getElem? (i := 566) (by decide +kernel), List.mem_of_getElem? (i := 567) (by decide +kernel)⟩
def lw_privs_2 : List (MethodName × Nat) := [(⟨"CurveDeskModel", "nothing", "(I)V"⟩, 7), (⟨"CurveDeskModel", "bit", "(II)Z"⟩, 7), (⟨"CurveDeskModel", "multiply", "(IIII)V"⟩, 7), (⟨"CurveDeskModel", "carry", "()V"⟩, 7), (⟨"CurveDeskModel", "isWide", "()Z"⟩, 7), (⟨"CurveDeskModel", "fold", "(I)V"⟩, 7), (⟨"CurveDeskModel", "compare", "(II)I"⟩, 7), (⟨"CurveDeskModel", "add", "(III)V"⟩, 7), (⟨"CurveDeskModel", "isNothing", "(I)Z"⟩, 7), (⟨"CurveDeskModel", "plus", "(IIII)V"⟩, 7), (⟨"CurveDeskModel", "copy", "(II)V"⟩, 7), (⟨"CurveDeskModel", "minus", "(IIII)V"⟩, 7), (⟨"CurveDeskModel", "divide", "(IIII)V"⟩, 7), (⟨"CurveDeskModel", "power", "(III)V"⟩, 7), (⟨"CurveDeskModel", "roots", "(II)Z"⟩, 7), (⟨"CurveDeskModel", "isOdd", "(I)Z"⟩, 7)]
theorem lw_r2 : ∀ q ∈ lw_privs_2, lw_okq q := List.forall_mem_cons.mpr ⟨lw_p16, List.forall_mem_cons.mpr ⟨lw_p17, List.forall_mem_cons.mpr ⟨lw_p18, List.forall_mem_cons.mpr ⟨lw_p19, List.forall_mem_cons.mpr ⟨lw_p20, List.forall_mem_cons.mpr ⟨lw_p21, List.forall_mem_cons.mpr ⟨lw_p22, List.forall_mem_cons.mpr ⟨lw_p23, List.forall_mem_cons.mpr ⟨lw_p24, List.forall_mem_cons.mpr ⟨lw_p25, List.forall_mem_cons.mpr ⟨lw_p26, List.forall_mem_cons.mpr ⟨lw_p27, List.forall_mem_cons.mpr ⟨lw_p28, List.forall_mem_cons.mpr ⟨lw_p29, List.forall_mem_cons.mpr ⟨lw_p30, List.forall_mem_cons.mpr ⟨lw_p31, fun _ h => absurd h List.not_mem_nil⟩⟩⟩⟩⟩⟩⟩⟩⟩⟩⟩⟩⟩⟩⟩⟩
theorem lw_p32 : lw_okq (⟨"CurveDeskModel", "isPoint", "(II)Z"⟩, 7) := ⟨⟨by decide +kernel, by decide +kernel⟩, List.mem_of_getElem? (i := 426) (by decide +kernel), List.mem_of_getElem? (i := 577) (by decide +kernel), List.mem_of_getElem? (i := 578) (by decide +kernel)⟩
theorem lw_p33 : lw_okq (⟨"CurveDeskModel", "curve", "(II)V"⟩, 7) := ⟨⟨by decide +kernel, by decide +kernel⟩, List.mem_of_getElem? (i := 426) (by decide +kernel), List.mem_of_getElem? (i := 581) (by decide +kernel), List.mem_of_getElem? (i := 582) (by decide +kernel)⟩
theorem lw_p34 : lw_okq (⟨"CurveDeskModel", "load", "(II)V"⟩, 7) := ⟨⟨by decide +kernel, by decide +kernel⟩, List.mem_of_getElem? (i := 426) (by decide +kernel), List.mem_of_getElem? (i := 589) (by decide +kernel), List.mem_of_getElem? (i := 590) (by decide +kernel)⟩
theorem lw_p35 : lw_okq (⟨"CurveDeskModel", "join", "(II)V"⟩, 7) := ⟨⟨by decide +kernel, by decide +kernel⟩, List.mem_of_getElem? (i := 426) (by decide +kernel), List.mem_of_getElem? (i := 593) (by decide +kernel), List.mem_of_getElem? (i := 594) (by decide +kernel)⟩
theorem lw_p36 : lw_okq (⟨"CurveDeskModel", "isNone", "(I)Z"⟩, 7) := ⟨⟨by decide +kernel, by decide +kernel⟩, List.mem_of_getElem? (i := 426) (by decide +kernel), List.mem_of_getElem? (i := 597) (by decide +kernel), List.mem_of_getElem? (i := 598) (by decide +kernel)⟩
theorem lw_p37 : lw_okq (⟨"CurveDeskModel", "copyPoint", "(II)V"⟩, 7) := ⟨⟨by decide +kernel, by decide +kernel⟩, List.mem_of_getElem? (i := 426) (by decide +kernel), List.mem_of_getElem? (i := 601) (by decide +kernel), List.mem_of_getElem? (i := 602) (by decide +kernel)⟩
theorem lw_p38 : lw_okq (⟨"CurveDeskModel", "twice", "(I)V"⟩, 7) := ⟨⟨by decide +kernel, by decide +kernel⟩, List.mem_of_getElem? (i := 426) (by decide +kernel), List.mem_of_getElem? (i := 605) (by decide +kernel), List.mem_of_getElem? (i := 606) (by decide +kernel)⟩
theorem lw_p39 : lw_okq (⟨"CurveDeskModel", "store", "(II)V"⟩, 7) := ⟨⟨by decide +kernel, by decide +kernel⟩, List.mem_of_getElem? (i := 426) (by decide +kernel), List.mem_of_getElem? (i := 609) (by decide +kernel), List.mem_of_getElem? (i := 610) (by decide +kernel)⟩
theorem lw_p40 : lw_okq (⟨"CurveDeskModel", "multiple", "(I)V"⟩, 7) := ⟨⟨by decide +kernel, by decide +kernel⟩, List.mem_of_getElem? (i := 426) (by decide +kernel), List.mem_of_getElem? (i := 617) (by decide +kernel), List.mem_of_getElem? (i := 618) (by decide +kernel)⟩
theorem lw_p41 : lw_okq (⟨"CurveDeskModel", "read", "(III)V"⟩, 7) := ⟨⟨by decide +kernel, by decide +kernel⟩, List.mem_of_getElem? (i := 426) (by decide +kernel), List.mem_of_getElem? (i := 634) (by decide +kernel), List.mem_of_getElem? (i := 635) (by decide +kernel)⟩
theorem lw_p42 : lw_okq (⟨"CurveDeskModel", "numberEnd", "(II)I"⟩, 7) := ⟨⟨by decide +kernel, by decide +kernel⟩, List.mem_of_getElem? (i := 426) (by decide +kernel), List.mem_of_getElem? (i := 642) (by decide +kernel), List.mem_of_getElem? (i := 643) (by decide +kernel)⟩
def lw_privs_3 : List (MethodName × Nat) := [(⟨"CurveDeskModel", "isPoint", "(II)Z"⟩, 7), (⟨"CurveDeskModel", "curve", "(II)V"⟩, 7), (⟨"CurveDeskModel", "load", "(II)V"⟩, 7), (⟨"CurveDeskModel", "join", "(II)V"⟩, 7), (⟨"CurveDeskModel", "isNone", "(I)Z"⟩, 7), (⟨"CurveDeskModel", "copyPoint", "(II)V"⟩, 7), (⟨"CurveDeskModel", "twice", "(I)V"⟩, 7), (⟨"CurveDeskModel", "store", "(II)V"⟩, 7), (⟨"CurveDeskModel", "multiple", "(I)V"⟩, 7), (⟨"CurveDeskModel", "read", "(III)V"⟩, 7), (⟨"CurveDeskModel", "numberEnd", "(II)I"⟩, 7)]
theorem lw_r3 : ∀ q ∈ lw_privs_3, lw_okq q := List.forall_mem_cons.mpr ⟨lw_p32, List.forall_mem_cons.mpr ⟨lw_p33, List.forall_mem_cons.mpr ⟨lw_p34, List.forall_mem_cons.mpr ⟨lw_p35, List.forall_mem_cons.mpr ⟨lw_p36, List.forall_mem_cons.mpr ⟨lw_p37, List.forall_mem_cons.mpr ⟨lw_p38, List.forall_mem_cons.mpr ⟨lw_p39, List.forall_mem_cons.mpr ⟨lw_p40, List.forall_mem_cons.mpr ⟨lw_p41, List.forall_mem_cons.mpr ⟨lw_p42, fun _ h => absurd h List.not_mem_nil⟩⟩⟩⟩⟩⟩⟩⟩⟩⟩⟩
def lw_privs : List (MethodName × Nat) := lw_privs_1 ++ (lw_privs_2 ++ (lw_privs_3))
def lw_tbl : List Cond := k2_sels lw_privs ++ tables_1
theorem lw_privs_ok : ∀ q ∈ lw_privs, lw_okq q := by
  show ∀ q ∈ lw_privs_1 ++ (lw_privs_2 ++ (lw_privs_3)), lw_okq q
  exact List.forall_mem_append.mpr ⟨lw_r1, List.forall_mem_append.mpr ⟨lw_r2, lw_r3⟩⟩
end
section
/-! names: texts, their fields in the order of the slots, the methods, the words of the tables -/
def R_D : String := "CurveDesk"
def R_C : String := "CurveDesk$Curve"
def R_H : String := "CurveDesk$Hand"
def R_L : String := "CurveDesk$Limbs"
def R_M : String := "CurveDesk$Modulus"
def R_P : String := "CurveDesk$Point"
def R_R : String := "CurveDeskModel"
def R_W : String := "CurveDeskLaw"
def F_C : u_T := fun k => match k with
  | 0 => ("CurveDesk$Curve", "field", "LCurveDesk$Modulus;", true)
  | 1 => ("CurveDesk$Curve", "x", "[J", true)
  | 2 => ("CurveDesk$Curve", "y", "[J", true)
  | 3 => ("CurveDesk$Curve", "z", "[J", true)
  | 4 => ("CurveDesk$Curve", "a", "[J", true)
  | 5 => ("CurveDesk$Curve", "b", "[J", true)
  | _ => ("CurveDesk$Curve", "c", "[J", true)
def t_C : Nat → FieldType := fun k => match k with
  | 0 => .object "CurveDesk$Modulus"
  | 1 => .array .long
  | 2 => .array .long
  | 3 => .array .long
  | 4 => .array .long
  | 5 => .array .long
  | _ => .array .long
theorem n_C : ∀ a, a < 7 → ∀ b, b < 7 → a ≠ b → (F_C a).2.1 ≠ (F_C b).2.1 := by decide +kernel
theorem t_C_ok : ∀ k, k < 7 → parseFieldDescriptor (F_C k).2.2.1 = some (t_C k) := by decide +kernel
def F_H : u_T := fun k => match k with
  | 0 => ("CurveDesk$Hand", "bytes", "[I", true)
  | _ => ("CurveDesk$Hand", "count", "I", false)
def t_H : Nat → FieldType := fun k => match k with
  | 0 => .array .int
  | _ => .int
theorem n_H : ∀ a, a < 2 → ∀ b, b < 2 → a ≠ b → (F_H a).2.1 ≠ (F_H b).2.1 := by decide +kernel
theorem t_H_ok : ∀ k, k < 2 → parseFieldDescriptor (F_H k).2.2.1 = some (t_H k) := by decide +kernel
def F_M : u_T := fun k => match k with
  | 0 => ("CurveDesk$Modulus", "prime", "[J", true)
  | 1 => ("CurveDesk$Modulus", "gap", "[J", true)
  | 2 => ("CurveDesk$Modulus", "primeLessTwo", "[J", true)
  | 3 => ("CurveDesk$Modulus", "wide", "[J", true)
  | 4 => ("CurveDesk$Modulus", "high", "[J", true)
  | _ => ("CurveDesk$Modulus", "raised", "[J", true)
def t_M : Nat → FieldType := fun k => match k with
  | 0 => .array .long
  | 1 => .array .long
  | 2 => .array .long
  | 3 => .array .long
  | 4 => .array .long
  | _ => .array .long
theorem n_M : ∀ a, a < 6 → ∀ b, b < 6 → a ≠ b → (F_M a).2.1 ≠ (F_M b).2.1 := by decide +kernel
theorem t_M_ok : ∀ k, k < 6 → parseFieldDescriptor (F_M k).2.2.1 = some (t_M k) := by decide +kernel
def F_P : u_T := fun k => match k with
  | 0 => ("CurveDesk$Point", "none", "Z", false)
  | 1 => ("CurveDesk$Point", "x", "[J", true)
  | _ => ("CurveDesk$Point", "y", "[J", true)
def t_P : Nat → FieldType := fun k => match k with
  | 0 => .boolean
  | 1 => .array .long
  | _ => .array .long
theorem n_P : ∀ a, a < 3 → ∀ b, b < 3 → a ≠ b → (F_P a).2.1 ≠ (F_P b).2.1 := by decide +kernel
theorem t_P_ok : ∀ k, k < 3 → parseFieldDescriptor (F_P k).2.2.1 = some (t_P k) := by decide +kernel
def F_D : u_T := fun k => match k with
  | 0 => ("CurveDesk", "registers", "[[J", true)
  | 1 => ("CurveDesk", "spots", "[LCurveDesk$Point;", true)
  | 2 => ("CurveDesk", "hand", "LCurveDesk$Hand;", true)
  | 3 => ("CurveDesk", "field", "LCurveDesk$Modulus;", true)
  | 4 => ("CurveDesk", "order", "LCurveDesk$Modulus;", true)
  | 5 => ("CurveDesk", "curve", "LCurveDesk$Curve;", true)
  | 6 => ("CurveDesk", "base", "LCurveDesk$Point;", true)
  | 7 => ("CurveDesk", "met", "LCurveDesk$Point;", true)
  | 8 => ("CurveDesk", "first", "[J", true)
  | _ => ("CurveDesk", "second", "[J", true)
def t_D : Nat → FieldType := fun k => match k with
  | 0 => .array (.array .long)
  | 1 => .array (.object "CurveDesk$Point")
  | 2 => .object "CurveDesk$Hand"
  | 3 => .object "CurveDesk$Modulus"
  | 4 => .object "CurveDesk$Modulus"
  | 5 => .object "CurveDesk$Curve"
  | 6 => .object "CurveDesk$Point"
  | 7 => .object "CurveDesk$Point"
  | 8 => .array .long
  | _ => .array .long
theorem n_D : ∀ a, a < 10 → ∀ b, b < 10 → a ≠ b → (F_D a).2.1 ≠ (F_D b).2.1 := by decide +kernel
theorem t_D_ok : ∀ k, k < 10 → parseFieldDescriptor (F_D k).2.2.1 = some (t_D k) := by decide +kernel
def F_R : u_T := fun k => match k with
  | 0 => ("CurveDeskModel", "rows", "[I", true)
  | 1 => ("CurveDeskModel", "product", "[J", true)
  | 2 => ("CurveDeskModel", "folded", "[J", true)
  | 3 => ("CurveDeskModel", "rest", "[I", true)
  | 4 => ("CurveDeskModel", "none", "[Z", true)
  | 5 => ("CurveDeskModel", "bytes", "[I", true)
  | _ => ("CurveDeskModel", "many", "I", false)
def t_R : Nat → FieldType := fun k => match k with
  | 0 => .array .int
  | 1 => .array .long
  | 2 => .array .long
  | 3 => .array .int
  | 4 => .array .boolean
  | 5 => .array .int
  | _ => .int
theorem n_R : ∀ a, a < 7 → ∀ b, b < 7 → a ≠ b → (F_R a).2.1 ≠ (F_R b).2.1 := by decide +kernel
theorem t_R_ok : ∀ k, k < 7 → parseFieldDescriptor (F_R k).2.2.1 = some (t_R k) := by decide +kernel
abbrev zcl : List vw_C := [(R_C, F_C, 7), (R_H, F_H, 2), (R_M, F_M, 6), (R_P, F_P, 3), (R_D, F_D, 10), (R_R, F_R, 7)]
abbrev b_D_init : ByteArray := prog_1_method_1_code
def y_D_init : MethodName := ⟨R_D, "<init>", "()V"⟩
abbrev b_H_init : ByteArray := prog_3_method_1_code
def y_H_init : MethodName := ⟨R_H, "<init>", "()V"⟩
abbrev b_M_init : ByteArray := prog_5_method_1_code
def y_M_init : MethodName := ⟨R_M, "<init>", "([J[J[J)V"⟩
abbrev b_C_init : ByteArray := prog_2_method_1_code
def y_C_init : MethodName := ⟨R_C, "<init>", "(LCurveDesk$Modulus;)V"⟩
abbrev b_P_init : ByteArray := prog_6_method_1_code
def y_P_init : MethodName := ⟨R_P, "<init>", "()V"⟩
abbrev b_P_become : ByteArray := prog_6_method_3_code
def y_P_become : MethodName := ⟨R_P, "become", "([J[J)V"⟩
abbrev b_L_copy : ByteArray := prog_4_method_2_code
def y_L_copy : MethodName := ⟨R_L, "copy", "([J[J)V"⟩
abbrev b_D_set : ByteArray := prog_1_method_2_code
def y_D_set : MethodName := ⟨R_D, "set", "(IJJJJ)Z"⟩
abbrev b_D_isRegister : ByteArray := prog_1_method_15_code
def y_D_isRegister : MethodName := ⟨R_D, "isRegister", "(I)Z"⟩
abbrev b_L_setLong : ByteArray := prog_4_method_3_code
def y_L_setLong : MethodName := ⟨R_L, "setLong", "([JIJ)V"⟩
abbrev b_D_get : ByteArray := prog_1_method_3_code
def y_D_get : MethodName := ⟨R_D, "get", "(II)J"⟩
abbrev b_L_longOf : ByteArray := prog_4_method_4_code
def y_L_longOf : MethodName := ⟨R_L, "longOf", "([JI)J"⟩
abbrev b_D_reduce : ByteArray := prog_1_method_4_code
def y_D_reduce : MethodName := ⟨R_D, "reduce", "(II)Z"⟩
abbrev b_D_isModulus : ByteArray := prog_1_method_18_code
def y_D_isModulus : MethodName := ⟨R_D, "isModulus", "(I)Z"⟩
abbrev b_D_modulusOf : ByteArray := prog_1_method_19_code
def y_D_modulusOf : MethodName := ⟨R_D, "modulusOf", "(I)LCurveDesk$Modulus;"⟩
abbrev b_M_bringBelow : ByteArray := prog_5_method_3_code
def y_M_bringBelow : MethodName := ⟨R_M, "bringBelow", "([J)V"⟩
abbrev b_M_isAbove : ByteArray := prog_5_method_2_code
def y_M_isAbove : MethodName := ⟨R_M, "isAbove", "([J)Z"⟩
abbrev b_L_isBelow : ByteArray := prog_4_method_9_code
def y_L_isBelow : MethodName := ⟨R_L, "isBelow", "([J[J)Z"⟩
abbrev b_L_subtract : ByteArray := prog_4_method_11_code
def y_L_subtract : MethodName := ⟨R_L, "subtract", "([J[J[J)J"⟩
abbrev b_D_work : ByteArray := prog_1_method_5_code
def y_D_work : MethodName := ⟨R_D, "work", "(IIIII)I"⟩
abbrev b_L_isZero : ByteArray := prog_4_method_5_code
def y_L_isZero : MethodName := ⟨R_L, "isZero", "([J)Z"⟩
abbrev b_L_areSame : ByteArray := prog_4_method_8_code
def y_L_areSame : MethodName := ⟨R_L, "areSame", "([J[J)Z"⟩
abbrev b_M_add : ByteArray := prog_5_method_4_code
def y_M_add : MethodName := ⟨R_M, "add", "([J[J[J)V"⟩
abbrev b_L_add : ByteArray := prog_4_method_10_code
def y_L_add : MethodName := ⟨R_L, "add", "([J[J[J)J"⟩
abbrev b_M_subtract : ByteArray := prog_5_method_5_code
def y_M_subtract : MethodName := ⟨R_M, "subtract", "([J[J[J)V"⟩
abbrev b_M_multiply : ByteArray := prog_5_method_6_code
def y_M_multiply : MethodName := ⟨R_M, "multiply", "([J[J[J)V"⟩
abbrev b_M_addProduct : ByteArray := prog_5_method_10_code
def y_M_addProduct : MethodName := ⟨R_M, "addProduct", "(J[JII)V"⟩
abbrev b_M_fold : ByteArray := prog_5_method_9_code
def y_M_fold : MethodName := ⟨R_M, "fold", "(I)V"⟩
abbrev b_M_invert : ByteArray := prog_5_method_7_code
def y_M_invert : MethodName := ⟨R_M, "invert", "([J[J)V"⟩
abbrev b_M_raise : ByteArray := prog_5_method_8_code
def y_M_raise : MethodName := ⟨R_M, "raise", "([J[J[J)V"⟩
abbrev b_L_hasBit : ByteArray := prog_4_method_7_code
def y_L_hasBit : MethodName := ⟨R_L, "hasBit", "([JI)Z"⟩
abbrev b_D_root : ByteArray := prog_1_method_6_code
def y_D_root : MethodName := ⟨R_D, "root", "(II)I"⟩
abbrev b_C_findEvenRoot : ByteArray := prog_2_method_4_code
def y_C_findEvenRoot : MethodName := ⟨R_C, "findEvenRoot", "([J[J)Z"⟩
abbrev b_L_isOdd : ByteArray := prog_4_method_6_code
def y_L_isOdd : MethodName := ⟨R_L, "isOdd", "([J)Z"⟩
abbrev b_D_spot : ByteArray := prog_1_method_7_code
def y_D_spot : MethodName := ⟨R_D, "spot", "(IIII)I"⟩
abbrev b_D_isSpot : ByteArray := prog_1_method_17_code
def y_D_isSpot : MethodName := ⟨R_D, "isSpot", "(I)Z"⟩
abbrev b_P_becomeNone : ByteArray := prog_6_method_2_code
def y_P_becomeNone : MethodName := ⟨R_P, "becomeNone", "()V"⟩
abbrev b_D_fillSpot : ByteArray := prog_1_method_21_code
def y_D_fillSpot : MethodName := ⟨R_D, "fillSpot", "(I[J[J)Z"⟩
abbrev b_C_isPoint : ByteArray := prog_2_method_2_code
def y_C_isPoint : MethodName := ⟨R_C, "isPoint", "([J[J)Z"⟩
abbrev b_C_findSquareOfY : ByteArray := prog_2_method_3_code
def y_C_findSquareOfY : MethodName := ⟨R_C, "findSquareOfY", "([J[J)V"⟩
abbrev b_D_sum : ByteArray := prog_1_method_8_code
def y_D_sum : MethodName := ⟨R_D, "sum", "(III)Z"⟩
abbrev b_C_addTwo : ByteArray := prog_2_method_5_code
def y_C_addTwo : MethodName := ⟨R_C, "addTwo", "(LCurveDesk$Point;LCurveDesk$Point;LCurveDesk$Point;)V"⟩
abbrev b_C_startSum : ByteArray := prog_2_method_7_code
def y_C_startSum : MethodName := ⟨R_C, "startSum", "()V"⟩
abbrev b_C_include : ByteArray := prog_2_method_8_code
def y_C_include : MethodName := ⟨R_C, "include", "(LCurveDesk$Point;)V"⟩
abbrev b_C_findDifferences : ByteArray := prog_2_method_9_code
def y_C_findDifferences : MethodName := ⟨R_C, "findDifferences", "(LCurveDesk$Point;)V"⟩
abbrev b_C_moveAlongLine : ByteArray := prog_2_method_10_code
def y_C_moveAlongLine : MethodName := ⟨R_C, "moveAlongLine", "()V"⟩
abbrev b_C_doubleSum : ByteArray := prog_2_method_11_code
def y_C_doubleSum : MethodName := ⟨R_C, "doubleSum", "()V"⟩
abbrev b_C_storeSum : ByteArray := prog_2_method_12_code
def y_C_storeSum : MethodName := ⟨R_C, "storeSum", "(LCurveDesk$Point;)V"⟩
abbrev b_D_times : ByteArray := prog_1_method_9_code
def y_D_times : MethodName := ⟨R_D, "times", "(III)Z"⟩
abbrev b_C_addMultiples : ByteArray := prog_2_method_6_code
def y_C_addMultiples : MethodName := ⟨R_C, "addMultiples", "(LCurveDesk$Point;[JLCurveDesk$Point;[JLCurveDesk$Point;)V"⟩
abbrev b_D_place : ByteArray := prog_1_method_10_code
def y_D_place : MethodName := ⟨R_D, "place", "(III)I"⟩
abbrev b_D_areTwoRegisters : ByteArray := prog_1_method_16_code
def y_D_areTwoRegisters : MethodName := ⟨R_D, "areTwoRegisters", "(II)Z"⟩
abbrev b_D_put : ByteArray := prog_1_method_11_code
def y_D_put : MethodName := ⟨R_D, "put", "(JI)Z"⟩
abbrev b_H_append : ByteArray := prog_3_method_2_code
def y_H_append : MethodName := ⟨R_H, "append", "(JI)Z"⟩
abbrev b_D_key : ByteArray := prog_1_method_12_code
def y_D_key : MethodName := ⟨R_D, "key", "(I)I"⟩
abbrev b_H_takeAll : ByteArray := prog_3_method_3_code
def y_H_takeAll : MethodName := ⟨R_H, "takeAll", "()I"⟩
abbrev b_D_fillFromShortKey : ByteArray := prog_1_method_22_code
def y_D_fillFromShortKey : MethodName := ⟨R_D, "fillFromShortKey", "(I)Z"⟩
abbrev b_H_firstByte : ByteArray := prog_3_method_4_code
def y_H_firstByte : MethodName := ⟨R_H, "firstByte", "()I"⟩
abbrev b_H_readNumber : ByteArray := prog_3_method_5_code
def y_H_readNumber : MethodName := ⟨R_H, "readNumber", "([JII)V"⟩
abbrev b_D_fillFromWholeKey : ByteArray := prog_1_method_23_code
def y_D_fillFromWholeKey : MethodName := ⟨R_D, "fillFromWholeKey", "(I)Z"⟩
abbrev b_D_signature : ByteArray := prog_1_method_13_code
def y_D_signature : MethodName := ⟨R_D, "signature", "(II)I"⟩
abbrev b_H_readSignature : ByteArray := prog_3_method_6_code
def y_H_readSignature : MethodName := ⟨R_H, "readSignature", "([J[JI)Z"⟩
abbrev b_H_readPart : ByteArray := prog_3_method_7_code
def y_H_readPart : MethodName := ⟨R_H, "readPart", "([JII)I"⟩
abbrev b_H_isWellWritten : ByteArray := prog_3_method_8_code
def y_H_isWellWritten : MethodName := ⟨R_H, "isWellWritten", "(II)Z"⟩
abbrev b_D_fits : ByteArray := prog_1_method_14_code
def y_D_fits : MethodName := ⟨R_D, "fits", "(IIII)I"⟩
abbrev b_D_isUnit : ByteArray := prog_1_method_20_code
def y_D_isUnit : MethodName := ⟨R_D, "isUnit", "([J)Z"⟩
abbrev b_R_init : ByteArray := prog_8_method_1_code
def y_R_init : MethodName := ⟨R_R, "<init>", "()V"⟩
abbrev b_R_write : ByteArray := prog_8_method_3_code
def y_R_write : MethodName := ⟨R_R, "write", "(IJJJJ)V"⟩
abbrev b_R_nothing : ByteArray := prog_8_method_5_code
def y_R_nothing : MethodName := ⟨R_R, "nothing", "(I)V"⟩
abbrev b_R_wordOf : ByteArray := prog_8_method_2_code
def y_R_wordOf : MethodName := ⟨R_R, "wordOf", "(IJJJJ)J"⟩
abbrev b_R_set : ByteArray := prog_8_method_32_code
def y_R_set : MethodName := ⟨R_R, "set", "(IJJJJ)Z"⟩
abbrev b_R_isRegister : ByteArray := prog_8_method_29_code
def y_R_isRegister : MethodName := ⟨R_R, "isRegister", "(I)Z"⟩
abbrev b_R_get : ByteArray := prog_8_method_33_code
def y_R_get : MethodName := ⟨R_R, "get", "(II)J"⟩
abbrev b_R_bit : ByteArray := prog_8_method_10_code
def y_R_bit : MethodName := ⟨R_R, "bit", "(II)Z"⟩
abbrev b_R_reduce : ByteArray := prog_8_method_34_code
def y_R_reduce : MethodName := ⟨R_R, "reduce", "(II)Z"⟩
abbrev b_R_isModulus : ByteArray := prog_8_method_31_code
def y_R_isModulus : MethodName := ⟨R_R, "isModulus", "(I)Z"⟩
abbrev b_R_multiply : ByteArray := prog_8_method_16_code
def y_R_multiply : MethodName := ⟨R_R, "multiply", "(IIII)V"⟩
abbrev b_R_carry : ByteArray := prog_8_method_13_code
def y_R_carry : MethodName := ⟨R_R, "carry", "()V"⟩
abbrev b_R_isWide : ByteArray := prog_8_method_14_code
def y_R_isWide : MethodName := ⟨R_R, "isWide", "()Z"⟩
abbrev b_R_fold : ByteArray := prog_8_method_15_code
def y_R_fold : MethodName := ⟨R_R, "fold", "(I)V"⟩
abbrev b_R_compare : ByteArray := prog_8_method_6_code
def y_R_compare : MethodName := ⟨R_R, "compare", "(II)I"⟩
abbrev b_R_add : ByteArray := prog_8_method_8_code
def y_R_add : MethodName := ⟨R_R, "add", "(III)V"⟩
abbrev b_R_work : ByteArray := prog_8_method_35_code
def y_R_work : MethodName := ⟨R_R, "work", "(IIIII)I"⟩
abbrev b_R_isNothing : ByteArray := prog_8_method_7_code
def y_R_isNothing : MethodName := ⟨R_R, "isNothing", "(I)Z"⟩
abbrev b_R_plus : ByteArray := prog_8_method_11_code
def y_R_plus : MethodName := ⟨R_R, "plus", "(IIII)V"⟩
abbrev b_R_copy : ByteArray := prog_8_method_4_code
def y_R_copy : MethodName := ⟨R_R, "copy", "(II)V"⟩
abbrev b_R_minus : ByteArray := prog_8_method_12_code
def y_R_minus : MethodName := ⟨R_R, "minus", "(IIII)V"⟩
abbrev b_R_divide : ByteArray := prog_8_method_18_code
def y_R_divide : MethodName := ⟨R_R, "divide", "(IIII)V"⟩
abbrev b_R_power : ByteArray := prog_8_method_17_code
def y_R_power : MethodName := ⟨R_R, "power", "(III)V"⟩
abbrev b_R_root : ByteArray := prog_8_method_36_code
def y_R_root : MethodName := ⟨R_R, "root", "(II)I"⟩
abbrev b_R_roots : ByteArray := prog_8_method_19_code
def y_R_roots : MethodName := ⟨R_R, "roots", "(II)Z"⟩
abbrev b_R_isOdd : ByteArray := prog_8_method_9_code
def y_R_isOdd : MethodName := ⟨R_R, "isOdd", "(I)Z"⟩
abbrev b_R_spot : ByteArray := prog_8_method_37_code
def y_R_spot : MethodName := ⟨R_R, "spot", "(IIII)I"⟩
abbrev b_R_isSpot : ByteArray := prog_8_method_30_code
def y_R_isSpot : MethodName := ⟨R_R, "isSpot", "(I)Z"⟩
abbrev b_R_isPoint : ByteArray := prog_8_method_27_code
def y_R_isPoint : MethodName := ⟨R_R, "isPoint", "(II)Z"⟩
abbrev b_R_curve : ByteArray := prog_8_method_28_code
def y_R_curve : MethodName := ⟨R_R, "curve", "(II)V"⟩
abbrev b_R_sum : ByteArray := prog_8_method_38_code
def y_R_sum : MethodName := ⟨R_R, "sum", "(III)Z"⟩
abbrev b_R_load : ByteArray := prog_8_method_22_code
def y_R_load : MethodName := ⟨R_R, "load", "(II)V"⟩
abbrev b_R_join : ByteArray := prog_8_method_25_code
def y_R_join : MethodName := ⟨R_R, "join", "(II)V"⟩
abbrev b_R_isNone : ByteArray := prog_8_method_20_code
def y_R_isNone : MethodName := ⟨R_R, "isNone", "(I)Z"⟩
abbrev b_R_copyPoint : ByteArray := prog_8_method_21_code
def y_R_copyPoint : MethodName := ⟨R_R, "copyPoint", "(II)V"⟩
abbrev b_R_twice : ByteArray := prog_8_method_24_code
def y_R_twice : MethodName := ⟨R_R, "twice", "(I)V"⟩
abbrev b_R_store : ByteArray := prog_8_method_23_code
def y_R_store : MethodName := ⟨R_R, "store", "(II)V"⟩
abbrev b_R_times : ByteArray := prog_8_method_39_code
def y_R_times : MethodName := ⟨R_R, "times", "(III)Z"⟩
abbrev b_R_multiple : ByteArray := prog_8_method_26_code
def y_R_multiple : MethodName := ⟨R_R, "multiple", "(I)V"⟩
abbrev b_R_place : ByteArray := prog_8_method_40_code
def y_R_place : MethodName := ⟨R_R, "place", "(III)I"⟩
abbrev b_R_put : ByteArray := prog_8_method_41_code
def y_R_put : MethodName := ⟨R_R, "put", "(JI)Z"⟩
abbrev b_R_key : ByteArray := prog_8_method_43_code
def y_R_key : MethodName := ⟨R_R, "key", "(I)I"⟩
abbrev b_R_read : ByteArray := prog_8_method_42_code
def y_R_read : MethodName := ⟨R_R, "read", "(III)V"⟩
abbrev b_R_signature : ByteArray := prog_8_method_45_code
def y_R_signature : MethodName := ⟨R_R, "signature", "(II)I"⟩
abbrev b_R_numberEnd : ByteArray := prog_8_method_44_code
def y_R_numberEnd : MethodName := ⟨R_R, "numberEnd", "(II)I"⟩
abbrev b_R_fits : ByteArray := prog_8_method_46_code
def y_R_fits : MethodName := ⟨R_R, "fits", "(IIII)I"⟩
def zT : List Cond := lw_tbl.filter goodWord
theorem zT_in {w : Cond} (i : Nat) (h : tables_1[i]? = some w) (g : goodWord w = true) : w ∈ zT := List.mem_filter.mpr ⟨List.mem_append_right _ (List.mem_of_getElem? h), g⟩
theorem zT_sel {w : Cond} (i : Nat) (h : (k2_sels lw_privs)[i]? = some w) (g : goodWord w = true) : w ∈ zT := List.mem_filter.mpr ⟨List.mem_append_left _ (List.mem_of_getElem? h), g⟩
theorem zT_good : ∀ w ∈ zT, w ∈ zT ∧ ((w.onTables && w.keeps) = true ∨ ∃ ty, w = .arrayClass ty) := fun w h => ⟨h, good_of_word (List.mem_filter.mp h).2⟩
/-- the words of a method: its own code, and all the good ones of the tables -/
def zW (y : MethodName) (b : ByteArray) (n : Nat) (r : Option FieldType) : List Cond := .code y b n r :: zT
end
section
/-! the words, by name -/
theorem ki_W : Cond.initialized R_W ∈ zT := zT_in 0 (by decide +kernel) rfl
theorem ki_D : Cond.initialized R_D ∈ zT := zT_in 1 (by decide +kernel) rfl
theorem ki_H : Cond.initialized R_H ∈ zT := zT_in 2 (by decide +kernel) rfl
theorem ki_M : Cond.initialized R_M ∈ zT := zT_in 3 (by decide +kernel) rfl
theorem ki_C : Cond.initialized R_C ∈ zT := zT_in 4 (by decide +kernel) rfl
theorem ki_P : Cond.initialized R_P ∈ zT := zT_in 5 (by decide +kernel) rfl
theorem ki_L : Cond.initialized R_L ∈ zT := zT_in 6 (by decide +kernel) rfl
theorem ki_Y : Cond.initialized "java/lang/System" ∈ zT := zT_in 7 (by decide +kernel) rfl
theorem ki_R : Cond.initialized R_R ∈ zT := zT_in 8 (by decide +kernel) rfl
theorem ka_W_7 : Cond.classLink R_W 7 "CurveDesk" ∈ zT := zT_in 9 (by decide +kernel) rfl
theorem kz_D : Cond.instantiable R_D 10 ∈ zT := zT_in 10 (by decide +kernel) rfl
theorem km_W_9 : Cond.methodLink R_W 9 y_D_init ∈ zT := zT_in 11 (by decide +kernel) rfl
theorem kv_D_init : Cond.instanceMethod y_D_init ∈ zT := zT_in 12 (by decide +kernel) rfl
theorem kc_D_init : Cond.code y_D_init b_D_init 2 (Option.none : Option FieldType) ∈ zT := zT_in 13 (by decide +kernel) rfl
theorem km_D_1 : Cond.methodLink R_D 1 (⟨"java/lang/Object", "<init>", "()V"⟩ : MethodName) ∈ zT := zT_in 14 (by decide +kernel) rfl
theorem kv_O_init : Cond.instanceMethod (⟨"java/lang/Object", "<init>", "()V"⟩ : MethodName) ∈ zT := zT_in 15 (by decide +kernel) rfl
theorem kc_O_init : Cond.code (⟨"java/lang/Object", "<init>", "()V"⟩ : MethodName) object_method_1_code 1 (Option.none : Option FieldType) ∈ zT := zT_in 16 (by decide +kernel) rfl
theorem ka_D_9 : Cond.classLink R_D 9 "[[J" ∈ zT := zT_in 17 (by decide +kernel) rfl
theorem ka_D_14 : Cond.classLink R_D 14 "CurveDesk$Point" ∈ zT := zT_in 19 (by decide +kernel) rfl
theorem ka_D_20 : Cond.classLink R_D 20 "CurveDesk$Hand" ∈ zT := zT_in 21 (by decide +kernel) rfl
theorem kz_H : Cond.instantiable R_H 2 ∈ zT := zT_in 22 (by decide +kernel) rfl
theorem kv_H_init : Cond.instanceMethod y_H_init ∈ zT := zT_in 24 (by decide +kernel) rfl
theorem kc_H_init : Cond.code y_H_init b_H_init 1 (Option.none : Option FieldType) ∈ zT := zT_in 25 (by decide +kernel) rfl
theorem km_H_3 : Cond.methodLink R_H 3 (⟨"java/lang/Object", "<init>", "()V"⟩ : MethodName) ∈ zT := zT_in 26 (by decide +kernel) rfl
theorem kf_H_9 : Cond.fieldLink R_H 9 "CurveDesk$Hand" "bytes" "[I" ∈ zT := zT_in 27 (by decide +kernel) rfl
theorem kf_H_15 : Cond.fieldLink R_H 15 "CurveDesk$Hand" "count" "I" ∈ zT := zT_in 28 (by decide +kernel) rfl
theorem kA_long : Cond.arrayClass FieldType.long ∈ zT := zT_in 34 (by decide +kernel) rfl
theorem kA_int : Cond.arrayClass FieldType.int ∈ zT := zT_in 35 (by decide +kernel) rfl
theorem ka_D_27 : Cond.classLink R_D 27 "CurveDesk$Modulus" ∈ zT := zT_in 36 (by decide +kernel) rfl
theorem kz_M : Cond.instantiable R_M 6 ∈ zT := zT_in 37 (by decide +kernel) rfl
theorem kf_D_29 : Cond.fieldLink R_D 29 "CurveDesk" "P" "[J" ∈ zT := zT_in 38 (by decide +kernel) rfl
theorem kf_D_33 : Cond.fieldLink R_D 33 "CurveDesk" "P_GAP" "[J" ∈ zT := zT_in 40 (by decide +kernel) rfl
theorem kf_D_36 : Cond.fieldLink R_D 36 "CurveDesk" "P_LESS_TWO" "[J" ∈ zT := zT_in 42 (by decide +kernel) rfl
theorem km_D_39 : Cond.methodLink R_D 39 y_M_init ∈ zT := zT_in 44 (by decide +kernel) rfl
theorem kv_M_init : Cond.instanceMethod y_M_init ∈ zT := zT_in 45 (by decide +kernel) rfl
theorem kc_M_init : Cond.code y_M_init b_M_init 4 (Option.none : Option FieldType) ∈ zT := zT_in 46 (by decide +kernel) rfl
theorem km_M_3 : Cond.methodLink R_M 3 (⟨"java/lang/Object", "<init>", "()V"⟩ : MethodName) ∈ zT := zT_in 47 (by decide +kernel) rfl
theorem kf_M_21 : Cond.fieldLink R_M 21 "CurveDesk$Modulus" "prime" "[J" ∈ zT := zT_in 48 (by decide +kernel) rfl
theorem kf_M_24 : Cond.fieldLink R_M 24 "CurveDesk$Modulus" "gap" "[J" ∈ zT := zT_in 49 (by decide +kernel) rfl
theorem kf_M_27 : Cond.fieldLink R_M 27 "CurveDesk$Modulus" "primeLessTwo" "[J" ∈ zT := zT_in 50 (by decide +kernel) rfl
theorem kf_M_9 : Cond.fieldLink R_M 9 "CurveDesk$Modulus" "wide" "[J" ∈ zT := zT_in 51 (by decide +kernel) rfl
theorem kf_M_15 : Cond.fieldLink R_M 15 "CurveDesk$Modulus" "high" "[J" ∈ zT := zT_in 52 (by decide +kernel) rfl
theorem kf_M_18 : Cond.fieldLink R_M 18 "CurveDesk$Modulus" "raised" "[J" ∈ zT := zT_in 53 (by decide +kernel) rfl
theorem kf_D_46 : Cond.fieldLink R_D 46 "CurveDesk" "N" "[J" ∈ zT := zT_in 67 (by decide +kernel) rfl
theorem kf_D_49 : Cond.fieldLink R_D 49 "CurveDesk" "N_GAP" "[J" ∈ zT := zT_in 69 (by decide +kernel) rfl
theorem kf_D_52 : Cond.fieldLink R_D 52 "CurveDesk" "N_LESS_TWO" "[J" ∈ zT := zT_in 71 (by decide +kernel) rfl
theorem ka_D_58 : Cond.classLink R_D 58 "CurveDesk$Curve" ∈ zT := zT_in 73 (by decide +kernel) rfl
theorem kz_C : Cond.instantiable R_C 7 ∈ zT := zT_in 74 (by decide +kernel) rfl
theorem km_D_60 : Cond.methodLink R_D 60 y_C_init ∈ zT := zT_in 75 (by decide +kernel) rfl
theorem kv_C_init : Cond.instanceMethod y_C_init ∈ zT := zT_in 76 (by decide +kernel) rfl
theorem kc_C_init : Cond.code y_C_init b_C_init 2 (Option.none : Option FieldType) ∈ zT := zT_in 77 (by decide +kernel) rfl
theorem km_C_3 : Cond.methodLink R_C 3 (⟨"java/lang/Object", "<init>", "()V"⟩ : MethodName) ∈ zT := zT_in 78 (by decide +kernel) rfl
theorem kf_C_30 : Cond.fieldLink R_C 30 "CurveDesk$Curve" "field" "LCurveDesk$Modulus;" ∈ zT := zT_in 79 (by decide +kernel) rfl
theorem kf_C_9 : Cond.fieldLink R_C 9 "CurveDesk$Curve" "x" "[J" ∈ zT := zT_in 80 (by decide +kernel) rfl
theorem kf_C_15 : Cond.fieldLink R_C 15 "CurveDesk$Curve" "y" "[J" ∈ zT := zT_in 81 (by decide +kernel) rfl
theorem kf_C_18 : Cond.fieldLink R_C 18 "CurveDesk$Curve" "z" "[J" ∈ zT := zT_in 82 (by decide +kernel) rfl
theorem kf_C_21 : Cond.fieldLink R_C 21 "CurveDesk$Curve" "a" "[J" ∈ zT := zT_in 83 (by decide +kernel) rfl
theorem kf_C_24 : Cond.fieldLink R_C 24 "CurveDesk$Curve" "b" "[J" ∈ zT := zT_in 84 (by decide +kernel) rfl
theorem kf_C_27 : Cond.fieldLink R_C 27 "CurveDesk$Curve" "c" "[J" ∈ zT := zT_in 85 (by decide +kernel) rfl
theorem kz_P : Cond.instantiable R_P 3 ∈ zT := zT_in 101 (by decide +kernel) rfl
theorem kv_P_init : Cond.instanceMethod y_P_init ∈ zT := zT_in 103 (by decide +kernel) rfl
theorem kc_P_init : Cond.code y_P_init b_P_init 1 (Option.none : Option FieldType) ∈ zT := zT_in 104 (by decide +kernel) rfl
theorem km_P_3 : Cond.methodLink R_P 3 (⟨"java/lang/Object", "<init>", "()V"⟩ : MethodName) ∈ zT := zT_in 105 (by decide +kernel) rfl
theorem kf_P_9 : Cond.fieldLink R_P 9 "CurveDesk$Point" "none" "Z" ∈ zT := zT_in 106 (by decide +kernel) rfl
theorem kf_C_95 : Cond.fieldLink R_C 95 "CurveDesk$Point" "none" "Z" ∈ zT := zT_in 107 (by decide +kernel) rfl
theorem kf_D_167 : Cond.fieldLink R_D 167 "CurveDesk$Point" "none" "Z" ∈ zT := zT_in 108 (by decide +kernel) rfl
theorem kf_P_15 : Cond.fieldLink R_P 15 "CurveDesk$Point" "x" "[J" ∈ zT := zT_in 109 (by decide +kernel) rfl
theorem kf_C_104 : Cond.fieldLink R_C 104 "CurveDesk$Point" "x" "[J" ∈ zT := zT_in 110 (by decide +kernel) rfl
theorem kf_D_171 : Cond.fieldLink R_D 171 "CurveDesk$Point" "x" "[J" ∈ zT := zT_in 111 (by decide +kernel) rfl
theorem kf_P_19 : Cond.fieldLink R_P 19 "CurveDesk$Point" "y" "[J" ∈ zT := zT_in 112 (by decide +kernel) rfl
theorem kf_C_105 : Cond.fieldLink R_C 105 "CurveDesk$Point" "y" "[J" ∈ zT := zT_in 113 (by decide +kernel) rfl
theorem kf_D_174 : Cond.fieldLink R_D 174 "CurveDesk$Point" "y" "[J" ∈ zT := zT_in 114 (by decide +kernel) rfl
theorem kf_D_81 : Cond.fieldLink R_D 81 "CurveDesk" "BASE_X" "[J" ∈ zT := zT_in 122 (by decide +kernel) rfl
theorem kf_D_84 : Cond.fieldLink R_D 84 "CurveDesk" "BASE_Y" "[J" ∈ zT := zT_in 124 (by decide +kernel) rfl
theorem km_D_87 : Cond.methodLink R_D 87 y_P_become ∈ zT := zT_in 126 (by decide +kernel) rfl
theorem kv_P_become : Cond.instanceMethod y_P_become ∈ zT := zT_in 127 (by decide +kernel) rfl
theorem kx_P_become : Cond.selects R_P y_P_become y_P_become ∈ zT := zT_in 128 (by decide +kernel) rfl
theorem kc_P_become : Cond.code y_P_become b_P_become 3 (Option.none : Option FieldType) ∈ zT := zT_in 129 (by decide +kernel) rfl
theorem km_P_22 : Cond.methodLink R_P 22 y_L_copy ∈ zT := zT_in 130 (by decide +kernel) rfl
theorem ks_L_copy : Cond.static y_L_copy ∈ zT := zT_in 131 (by decide +kernel) rfl
theorem kc_L_copy : Cond.code y_L_copy b_L_copy 2 (Option.none : Option FieldType) ∈ zT := zT_in 132 (by decide +kernel) rfl
theorem km_L_9 : Cond.methodLink R_L 9 (⟨"java/lang/System", "arraycopy", "(Ljava/lang/Object;ILjava/lang/Object;II)V"⟩ : MethodName) ∈ zT := zT_in 133 (by decide +kernel) rfl
theorem ks_Y_arraycopy : Cond.static (⟨"java/lang/System", "arraycopy", "(Ljava/lang/Object;ILjava/lang/Object;II)V"⟩ : MethodName) ∈ zT := zT_in 134 (by decide +kernel) rfl
theorem kY_native : Cond.native (⟨"java/lang/System", "arraycopy", "(Ljava/lang/Object;ILjava/lang/Object;II)V"⟩ : MethodName) ∈ zT := zT_in 135 (by decide +kernel) rfl
theorem kf_D_11 : Cond.fieldLink R_D 11 "CurveDesk" "registers" "[[J" ∈ zT := zT_in 136 (by decide +kernel) rfl
theorem kf_D_16 : Cond.fieldLink R_D 16 "CurveDesk" "spots" "[LCurveDesk$Point;" ∈ zT := zT_in 137 (by decide +kernel) rfl
theorem kf_D_23 : Cond.fieldLink R_D 23 "CurveDesk" "hand" "LCurveDesk$Hand;" ∈ zT := zT_in 138 (by decide +kernel) rfl
theorem kf_D_42 : Cond.fieldLink R_D 42 "CurveDesk" "field" "LCurveDesk$Modulus;" ∈ zT := zT_in 139 (by decide +kernel) rfl
theorem kf_D_55 : Cond.fieldLink R_D 55 "CurveDesk" "order" "LCurveDesk$Modulus;" ∈ zT := zT_in 140 (by decide +kernel) rfl
theorem kf_D_63 : Cond.fieldLink R_D 63 "CurveDesk" "curve" "LCurveDesk$Curve;" ∈ zT := zT_in 141 (by decide +kernel) rfl
theorem kf_D_68 : Cond.fieldLink R_D 68 "CurveDesk" "base" "LCurveDesk$Point;" ∈ zT := zT_in 142 (by decide +kernel) rfl
theorem kf_D_72 : Cond.fieldLink R_D 72 "CurveDesk" "met" "LCurveDesk$Point;" ∈ zT := zT_in 143 (by decide +kernel) rfl
theorem kf_D_75 : Cond.fieldLink R_D 75 "CurveDesk" "first" "[J" ∈ zT := zT_in 144 (by decide +kernel) rfl
theorem kf_D_78 : Cond.fieldLink R_D 78 "CurveDesk" "second" "[J" ∈ zT := zT_in 145 (by decide +kernel) rfl
theorem km_W_15 : Cond.methodLink R_W 15 y_D_set ∈ zT := zT_in 167 (by decide +kernel) rfl
theorem kv_D_set : Cond.instanceMethod y_D_set ∈ zT := zT_in 168 (by decide +kernel) rfl
theorem kx_D_set : Cond.selects R_D y_D_set y_D_set ∈ zT := zT_in 169 (by decide +kernel) rfl
theorem kc_D_set : Cond.code y_D_set b_D_set 11 (Option.some FieldType.boolean) ∈ zT := zT_in 170 (by decide +kernel) rfl
theorem km_D_91 : Cond.methodLink R_D 91 y_D_isRegister ∈ zT := zT_in 171 (by decide +kernel) rfl
theorem ks_D_isRegister : Cond.static y_D_isRegister ∈ zT := zT_in 172 (by decide +kernel) rfl
theorem kc_D_isRegister : Cond.code y_D_isRegister b_D_isRegister 1 (Option.some FieldType.boolean) ∈ zT := zT_in 173 (by decide +kernel) rfl
theorem km_D_95 : Cond.methodLink R_D 95 y_L_setLong ∈ zT := zT_in 174 (by decide +kernel) rfl
theorem ks_L_setLong : Cond.static y_L_setLong ∈ zT := zT_in 175 (by decide +kernel) rfl
theorem kc_L_setLong : Cond.code y_L_setLong b_L_setLong 5 (Option.none : Option FieldType) ∈ zT := zT_in 176 (by decide +kernel) rfl
theorem kl_L_15 : Cond.constantLong R_L 15 (4294967295 : Int64) ∈ zT := zT_in 177 (by decide +kernel) rfl
theorem km_W_20 : Cond.methodLink R_W 20 y_D_get ∈ zT := zT_in 178 (by decide +kernel) rfl
theorem kv_D_get : Cond.instanceMethod y_D_get ∈ zT := zT_in 179 (by decide +kernel) rfl
theorem kx_D_get : Cond.selects R_D y_D_get y_D_get ∈ zT := zT_in 180 (by decide +kernel) rfl
theorem kc_D_get : Cond.code y_D_get b_D_get 3 (Option.some FieldType.long) ∈ zT := zT_in 181 (by decide +kernel) rfl
theorem km_D_101 : Cond.methodLink R_D 101 y_L_longOf ∈ zT := zT_in 182 (by decide +kernel) rfl
theorem ks_L_longOf : Cond.static y_L_longOf ∈ zT := zT_in 183 (by decide +kernel) rfl
theorem kc_L_longOf : Cond.code y_L_longOf b_L_longOf 3 (Option.some FieldType.long) ∈ zT := zT_in 184 (by decide +kernel) rfl
theorem km_W_25 : Cond.methodLink R_W 25 y_D_reduce ∈ zT := zT_in 185 (by decide +kernel) rfl
theorem kv_D_reduce : Cond.instanceMethod y_D_reduce ∈ zT := zT_in 186 (by decide +kernel) rfl
theorem kx_D_reduce : Cond.selects R_D y_D_reduce y_D_reduce ∈ zT := zT_in 187 (by decide +kernel) rfl
theorem kc_D_reduce : Cond.code y_D_reduce b_D_reduce 3 (Option.some FieldType.boolean) ∈ zT := zT_in 188 (by decide +kernel) rfl
theorem km_D_105 : Cond.methodLink R_D 105 y_D_isModulus ∈ zT := zT_in 189 (by decide +kernel) rfl
theorem ks_D_isModulus : Cond.static y_D_isModulus ∈ zT := zT_in 190 (by decide +kernel) rfl
theorem kc_D_isModulus : Cond.code y_D_isModulus b_D_isModulus 1 (Option.some FieldType.boolean) ∈ zT := zT_in 191 (by decide +kernel) rfl
theorem km_D_108 : Cond.methodLink R_D 108 y_D_modulusOf ∈ zT := zT_in 192 (by decide +kernel) rfl
theorem kv_D_modulusOf : Cond.instanceMethod y_D_modulusOf ∈ zT := zT_in 194 (by decide +kernel) rfl
theorem kc_D_modulusOf : Cond.code y_D_modulusOf b_D_modulusOf 2 (Option.some (FieldType.object "CurveDesk$Modulus")) ∈ zT := zT_in 195 (by decide +kernel) rfl
theorem km_D_112 : Cond.methodLink R_D 112 y_M_bringBelow ∈ zT := zT_in 196 (by decide +kernel) rfl
theorem kv_M_bringBelow : Cond.instanceMethod y_M_bringBelow ∈ zT := zT_in 197 (by decide +kernel) rfl
theorem kx_M_bringBelow : Cond.selects R_M y_M_bringBelow y_M_bringBelow ∈ zT := zT_in 198 (by decide +kernel) rfl
theorem kc_M_bringBelow : Cond.code y_M_bringBelow b_M_bringBelow 2 (Option.none : Option FieldType) ∈ zT := zT_in 199 (by decide +kernel) rfl
theorem km_M_36 : Cond.methodLink R_M 36 y_M_isAbove ∈ zT := zT_in 200 (by decide +kernel) rfl
theorem kv_M_isAbove : Cond.instanceMethod y_M_isAbove ∈ zT := zT_in 201 (by decide +kernel) rfl
theorem kx_M_isAbove : Cond.selects R_M y_M_isAbove y_M_isAbove ∈ zT := zT_in 202 (by decide +kernel) rfl
theorem kc_M_isAbove : Cond.code y_M_isAbove b_M_isAbove 2 (Option.some FieldType.boolean) ∈ zT := zT_in 203 (by decide +kernel) rfl
theorem km_M_30 : Cond.methodLink R_M 30 y_L_isBelow ∈ zT := zT_in 204 (by decide +kernel) rfl
theorem ks_L_isBelow : Cond.static y_L_isBelow ∈ zT := zT_in 205 (by decide +kernel) rfl
theorem kc_L_isBelow : Cond.code y_L_isBelow b_L_isBelow 3 (Option.some FieldType.boolean) ∈ zT := zT_in 206 (by decide +kernel) rfl
theorem km_M_40 : Cond.methodLink R_M 40 y_L_subtract ∈ zT := zT_in 207 (by decide +kernel) rfl
theorem ks_L_subtract : Cond.static y_L_subtract ∈ zT := zT_in 208 (by decide +kernel) rfl
theorem kc_L_subtract : Cond.code y_L_subtract b_L_subtract 8 (Option.some FieldType.long) ∈ zT := zT_in 209 (by decide +kernel) rfl
theorem km_W_30 : Cond.methodLink R_W 30 y_D_work ∈ zT := zT_in 210 (by decide +kernel) rfl
theorem kv_D_work : Cond.instanceMethod y_D_work ∈ zT := zT_in 211 (by decide +kernel) rfl
theorem kx_D_work : Cond.selects R_D y_D_work y_D_work ∈ zT := zT_in 212 (by decide +kernel) rfl
theorem kc_D_work : Cond.code y_D_work b_D_work 9 (Option.some FieldType.int) ∈ zT := zT_in 213 (by decide +kernel) rfl
theorem km_D_116 : Cond.methodLink R_D 116 y_M_isAbove ∈ zT := zT_in 214 (by decide +kernel) rfl
theorem km_D_120 : Cond.methodLink R_D 120 y_L_isZero ∈ zT := zT_in 215 (by decide +kernel) rfl
theorem ks_L_isZero : Cond.static y_L_isZero ∈ zT := zT_in 216 (by decide +kernel) rfl
theorem kc_L_isZero : Cond.code y_L_isZero b_L_isZero 1 (Option.some FieldType.boolean) ∈ zT := zT_in 217 (by decide +kernel) rfl
theorem km_L_21 : Cond.methodLink R_L 21 y_L_areSame ∈ zT := zT_in 220 (by decide +kernel) rfl
theorem ks_L_areSame : Cond.static y_L_areSame ∈ zT := zT_in 221 (by decide +kernel) rfl
theorem kc_L_areSame : Cond.code y_L_areSame b_L_areSame 3 (Option.some FieldType.boolean) ∈ zT := zT_in 222 (by decide +kernel) rfl
theorem km_D_123 : Cond.methodLink R_D 123 y_M_add ∈ zT := zT_in 223 (by decide +kernel) rfl
theorem kv_M_add : Cond.instanceMethod y_M_add ∈ zT := zT_in 224 (by decide +kernel) rfl
theorem kx_M_add : Cond.selects R_M y_M_add y_M_add ∈ zT := zT_in 225 (by decide +kernel) rfl
theorem kc_M_add : Cond.code y_M_add b_M_add 6 (Option.none : Option FieldType) ∈ zT := zT_in 226 (by decide +kernel) rfl
theorem km_M_44 : Cond.methodLink R_M 44 y_L_add ∈ zT := zT_in 227 (by decide +kernel) rfl
theorem ks_L_add : Cond.static y_L_add ∈ zT := zT_in 228 (by decide +kernel) rfl
theorem kc_L_add : Cond.code y_L_add b_L_add 8 (Option.some FieldType.long) ∈ zT := zT_in 229 (by decide +kernel) rfl
theorem km_D_126 : Cond.methodLink R_D 126 y_M_subtract ∈ zT := zT_in 230 (by decide +kernel) rfl
theorem kv_M_subtract : Cond.instanceMethod y_M_subtract ∈ zT := zT_in 231 (by decide +kernel) rfl
theorem kx_M_subtract : Cond.selects R_M y_M_subtract y_M_subtract ∈ zT := zT_in 232 (by decide +kernel) rfl
theorem kc_M_subtract : Cond.code y_M_subtract b_M_subtract 6 (Option.none : Option FieldType) ∈ zT := zT_in 233 (by decide +kernel) rfl
theorem km_D_129 : Cond.methodLink R_D 129 y_M_multiply ∈ zT := zT_in 234 (by decide +kernel) rfl
theorem kv_M_multiply : Cond.instanceMethod y_M_multiply ∈ zT := zT_in 235 (by decide +kernel) rfl
theorem kx_M_multiply : Cond.selects R_M y_M_multiply y_M_multiply ∈ zT := zT_in 236 (by decide +kernel) rfl
theorem kc_M_multiply : Cond.code y_M_multiply b_M_multiply 5 (Option.none : Option FieldType) ∈ zT := zT_in 237 (by decide +kernel) rfl
theorem km_M_47 : Cond.methodLink R_M 47 y_M_addProduct ∈ zT := zT_in 238 (by decide +kernel) rfl
theorem kv_M_addProduct : Cond.instanceMethod y_M_addProduct ∈ zT := zT_in 240 (by decide +kernel) rfl
theorem kc_M_addProduct : Cond.code y_M_addProduct b_M_addProduct 12 (Option.none : Option FieldType) ∈ zT := zT_in 241 (by decide +kernel) rfl
theorem kl_M_77 : Cond.constantLong R_M 77 (4294967295 : Int64) ∈ zT := zT_in 242 (by decide +kernel) rfl
theorem km_M_51 : Cond.methodLink R_M 51 y_M_fold ∈ zT := zT_in 243 (by decide +kernel) rfl
theorem kv_M_fold : Cond.instanceMethod y_M_fold ∈ zT := zT_in 245 (by decide +kernel) rfl
theorem kc_M_fold : Cond.code y_M_fold b_M_fold 3 (Option.none : Option FieldType) ∈ zT := zT_in 246 (by decide +kernel) rfl
theorem km_M_55 : Cond.methodLink R_M 55 y_L_copy ∈ zT := zT_in 247 (by decide +kernel) rfl
theorem km_M_59 : Cond.methodLink R_M 59 y_M_bringBelow ∈ zT := zT_in 248 (by decide +kernel) rfl
theorem km_D_132 : Cond.methodLink R_D 132 y_M_invert ∈ zT := zT_in 249 (by decide +kernel) rfl
theorem kv_M_invert : Cond.instanceMethod y_M_invert ∈ zT := zT_in 250 (by decide +kernel) rfl
theorem kx_M_invert : Cond.selects R_M y_M_invert y_M_invert ∈ zT := zT_in 251 (by decide +kernel) rfl
theorem kc_M_invert : Cond.code y_M_invert b_M_invert 3 (Option.none : Option FieldType) ∈ zT := zT_in 252 (by decide +kernel) rfl
theorem km_M_63 : Cond.methodLink R_M 63 y_M_raise ∈ zT := zT_in 253 (by decide +kernel) rfl
theorem kv_M_raise : Cond.instanceMethod y_M_raise ∈ zT := zT_in 254 (by decide +kernel) rfl
theorem kx_M_raise : Cond.selects R_M y_M_raise y_M_raise ∈ zT := zT_in 255 (by decide +kernel) rfl
theorem kc_M_raise : Cond.code y_M_raise b_M_raise 5 (Option.none : Option FieldType) ∈ zT := zT_in 256 (by decide +kernel) rfl
theorem km_M_70 : Cond.methodLink R_M 70 y_M_multiply ∈ zT := zT_in 259 (by decide +kernel) rfl
theorem km_M_73 : Cond.methodLink R_M 73 y_L_hasBit ∈ zT := zT_in 260 (by decide +kernel) rfl
theorem ks_L_hasBit : Cond.static y_L_hasBit ∈ zT := zT_in 261 (by decide +kernel) rfl
theorem kc_L_hasBit : Cond.code y_L_hasBit b_L_hasBit 2 (Option.some FieldType.boolean) ∈ zT := zT_in 262 (by decide +kernel) rfl
theorem km_W_35 : Cond.methodLink R_W 35 y_D_root ∈ zT := zT_in 263 (by decide +kernel) rfl
theorem kv_D_root : Cond.instanceMethod y_D_root ∈ zT := zT_in 264 (by decide +kernel) rfl
theorem kx_D_root : Cond.selects R_D y_D_root y_D_root ∈ zT := zT_in 265 (by decide +kernel) rfl
theorem kc_D_root : Cond.code y_D_root b_D_root 3 (Option.some FieldType.int) ∈ zT := zT_in 266 (by decide +kernel) rfl
theorem km_D_135 : Cond.methodLink R_D 135 y_C_findEvenRoot ∈ zT := zT_in 267 (by decide +kernel) rfl
theorem kv_C_findEvenRoot : Cond.instanceMethod y_C_findEvenRoot ∈ zT := zT_in 268 (by decide +kernel) rfl
theorem kx_C_findEvenRoot : Cond.selects R_C y_C_findEvenRoot y_C_findEvenRoot ∈ zT := zT_in 269 (by decide +kernel) rfl
theorem kc_C_findEvenRoot : Cond.code y_C_findEvenRoot b_C_findEvenRoot 3 (Option.some FieldType.boolean) ∈ zT := zT_in 270 (by decide +kernel) rfl
theorem km_C_63 : Cond.methodLink R_C 63 y_M_raise ∈ zT := zT_in 273 (by decide +kernel) rfl
theorem km_C_44 : Cond.methodLink R_C 44 y_M_multiply ∈ zT := zT_in 274 (by decide +kernel) rfl
theorem km_C_48 : Cond.methodLink R_C 48 y_L_areSame ∈ zT := zT_in 275 (by decide +kernel) rfl
theorem km_C_66 : Cond.methodLink R_C 66 y_L_isOdd ∈ zT := zT_in 276 (by decide +kernel) rfl
theorem ks_L_isOdd : Cond.static y_L_isOdd ∈ zT := zT_in 277 (by decide +kernel) rfl
theorem kc_L_isOdd : Cond.code y_L_isOdd b_L_isOdd 1 (Option.some FieldType.boolean) ∈ zT := zT_in 278 (by decide +kernel) rfl
theorem km_C_72 : Cond.methodLink R_C 72 y_M_subtract ∈ zT := zT_in 280 (by decide +kernel) rfl
theorem km_C_75 : Cond.methodLink R_C 75 y_L_copy ∈ zT := zT_in 281 (by decide +kernel) rfl
theorem km_D_139 : Cond.methodLink R_D 139 y_L_copy ∈ zT := zT_in 282 (by decide +kernel) rfl
theorem km_W_40 : Cond.methodLink R_W 40 y_D_spot ∈ zT := zT_in 283 (by decide +kernel) rfl
theorem kv_D_spot : Cond.instanceMethod y_D_spot ∈ zT := zT_in 284 (by decide +kernel) rfl
theorem kx_D_spot : Cond.selects R_D y_D_spot y_D_spot ∈ zT := zT_in 285 (by decide +kernel) rfl
theorem kc_D_spot : Cond.code y_D_spot b_D_spot 5 (Option.some FieldType.int) ∈ zT := zT_in 286 (by decide +kernel) rfl
theorem km_D_142 : Cond.methodLink R_D 142 y_D_isSpot ∈ zT := zT_in 287 (by decide +kernel) rfl
theorem ks_D_isSpot : Cond.static y_D_isSpot ∈ zT := zT_in 288 (by decide +kernel) rfl
theorem kc_D_isSpot : Cond.code y_D_isSpot b_D_isSpot 1 (Option.some FieldType.boolean) ∈ zT := zT_in 289 (by decide +kernel) rfl
theorem km_D_145 : Cond.methodLink R_D 145 y_P_becomeNone ∈ zT := zT_in 290 (by decide +kernel) rfl
theorem kv_P_becomeNone : Cond.instanceMethod y_P_becomeNone ∈ zT := zT_in 291 (by decide +kernel) rfl
theorem kx_P_becomeNone : Cond.selects R_P y_P_becomeNone y_P_becomeNone ∈ zT := zT_in 292 (by decide +kernel) rfl
theorem kc_P_becomeNone : Cond.code y_P_becomeNone b_P_becomeNone 1 (Option.none : Option FieldType) ∈ zT := zT_in 293 (by decide +kernel) rfl
theorem km_D_148 : Cond.methodLink R_D 148 y_D_fillSpot ∈ zT := zT_in 294 (by decide +kernel) rfl
theorem kv_D_fillSpot : Cond.instanceMethod y_D_fillSpot ∈ zT := zT_in 296 (by decide +kernel) rfl
theorem kc_D_fillSpot : Cond.code y_D_fillSpot b_D_fillSpot 4 (Option.some FieldType.boolean) ∈ zT := zT_in 297 (by decide +kernel) rfl
theorem km_D_201 : Cond.methodLink R_D 201 y_C_isPoint ∈ zT := zT_in 298 (by decide +kernel) rfl
theorem kv_C_isPoint : Cond.instanceMethod y_C_isPoint ∈ zT := zT_in 299 (by decide +kernel) rfl
theorem kx_C_isPoint : Cond.selects R_C y_C_isPoint y_C_isPoint ∈ zT := zT_in 300 (by decide +kernel) rfl
theorem kc_C_isPoint : Cond.code y_C_isPoint b_C_isPoint 3 (Option.some FieldType.boolean) ∈ zT := zT_in 301 (by decide +kernel) rfl
theorem km_C_34 : Cond.methodLink R_C 34 y_M_isAbove ∈ zT := zT_in 302 (by decide +kernel) rfl
theorem km_C_40 : Cond.methodLink R_C 40 y_C_findSquareOfY ∈ zT := zT_in 303 (by decide +kernel) rfl
theorem kv_C_findSquareOfY : Cond.instanceMethod y_C_findSquareOfY ∈ zT := zT_in 304 (by decide +kernel) rfl
theorem kx_C_findSquareOfY : Cond.selects R_C y_C_findSquareOfY y_C_findSquareOfY ∈ zT := zT_in 305 (by decide +kernel) rfl
theorem kc_C_findSquareOfY : Cond.code y_C_findSquareOfY b_C_findSquareOfY 3 (Option.none : Option FieldType) ∈ zT := zT_in 306 (by decide +kernel) rfl
theorem km_C_57 : Cond.methodLink R_C 57 y_M_add ∈ zT := zT_in 309 (by decide +kernel) rfl
theorem km_W_45 : Cond.methodLink R_W 45 y_D_sum ∈ zT := zT_in 310 (by decide +kernel) rfl
theorem kv_D_sum : Cond.instanceMethod y_D_sum ∈ zT := zT_in 311 (by decide +kernel) rfl
theorem kx_D_sum : Cond.selects R_D y_D_sum y_D_sum ∈ zT := zT_in 312 (by decide +kernel) rfl
theorem kc_D_sum : Cond.code y_D_sum b_D_sum 4 (Option.some FieldType.boolean) ∈ zT := zT_in 313 (by decide +kernel) rfl
theorem km_D_152 : Cond.methodLink R_D 152 y_C_addTwo ∈ zT := zT_in 314 (by decide +kernel) rfl
theorem kv_C_addTwo : Cond.instanceMethod y_C_addTwo ∈ zT := zT_in 315 (by decide +kernel) rfl
theorem kx_C_addTwo : Cond.selects R_C y_C_addTwo y_C_addTwo ∈ zT := zT_in 316 (by decide +kernel) rfl
theorem kc_C_addTwo : Cond.code y_C_addTwo b_C_addTwo 4 (Option.none : Option FieldType) ∈ zT := zT_in 317 (by decide +kernel) rfl
theorem km_C_78 : Cond.methodLink R_C 78 y_C_startSum ∈ zT := zT_in 318 (by decide +kernel) rfl
theorem kv_C_startSum : Cond.instanceMethod y_C_startSum ∈ zT := zT_in 320 (by decide +kernel) rfl
theorem kc_C_startSum : Cond.code y_C_startSum b_C_startSum 1 (Option.none : Option FieldType) ∈ zT := zT_in 321 (by decide +kernel) rfl
theorem km_C_81 : Cond.methodLink R_C 81 y_C_include ∈ zT := zT_in 322 (by decide +kernel) rfl
theorem kv_C_include : Cond.instanceMethod y_C_include ∈ zT := zT_in 324 (by decide +kernel) rfl
theorem kc_C_include : Cond.code y_C_include b_C_include 2 (Option.none : Option FieldType) ∈ zT := zT_in 325 (by decide +kernel) rfl
theorem km_C_101 : Cond.methodLink R_C 101 y_L_isZero ∈ zT := zT_in 326 (by decide +kernel) rfl
theorem km_C_109 : Cond.methodLink R_C 109 y_C_findDifferences ∈ zT := zT_in 328 (by decide +kernel) rfl
theorem kv_C_findDifferences : Cond.instanceMethod y_C_findDifferences ∈ zT := zT_in 330 (by decide +kernel) rfl
theorem kc_C_findDifferences : Cond.code y_C_findDifferences b_C_findDifferences 2 (Option.none : Option FieldType) ∈ zT := zT_in 331 (by decide +kernel) rfl
theorem km_C_112 : Cond.methodLink R_C 112 y_C_moveAlongLine ∈ zT := zT_in 332 (by decide +kernel) rfl
theorem kv_C_moveAlongLine : Cond.instanceMethod y_C_moveAlongLine ∈ zT := zT_in 334 (by decide +kernel) rfl
theorem kc_C_moveAlongLine : Cond.code y_C_moveAlongLine b_C_moveAlongLine 1 (Option.none : Option FieldType) ∈ zT := zT_in 335 (by decide +kernel) rfl
theorem km_C_88 : Cond.methodLink R_C 88 y_C_doubleSum ∈ zT := zT_in 336 (by decide +kernel) rfl
theorem kv_C_doubleSum : Cond.instanceMethod y_C_doubleSum ∈ zT := zT_in 338 (by decide +kernel) rfl
theorem kc_C_doubleSum : Cond.code y_C_doubleSum b_C_doubleSum 1 (Option.none : Option FieldType) ∈ zT := zT_in 339 (by decide +kernel) rfl
theorem km_C_85 : Cond.methodLink R_C 85 y_C_storeSum ∈ zT := zT_in 340 (by decide +kernel) rfl
theorem kv_C_storeSum : Cond.instanceMethod y_C_storeSum ∈ zT := zT_in 342 (by decide +kernel) rfl
theorem kc_C_storeSum : Cond.code y_C_storeSum b_C_storeSum 2 (Option.none : Option FieldType) ∈ zT := zT_in 343 (by decide +kernel) rfl
theorem km_C_115 : Cond.methodLink R_C 115 y_P_becomeNone ∈ zT := zT_in 344 (by decide +kernel) rfl
theorem km_C_121 : Cond.methodLink R_C 121 y_P_become ∈ zT := zT_in 346 (by decide +kernel) rfl
theorem km_W_50 : Cond.methodLink R_W 50 y_D_times ∈ zT := zT_in 347 (by decide +kernel) rfl
theorem kv_D_times : Cond.instanceMethod y_D_times ∈ zT := zT_in 348 (by decide +kernel) rfl
theorem kx_D_times : Cond.selects R_D y_D_times y_D_times ∈ zT := zT_in 349 (by decide +kernel) rfl
theorem kc_D_times : Cond.code y_D_times b_D_times 4 (Option.some FieldType.boolean) ∈ zT := zT_in 350 (by decide +kernel) rfl
theorem kf_D_156 : Cond.fieldLink R_D 156 "CurveDesk" "ZERO" "[J" ∈ zT := zT_in 351 (by decide +kernel) rfl
theorem km_D_159 : Cond.methodLink R_D 159 y_C_addMultiples ∈ zT := zT_in 352 (by decide +kernel) rfl
theorem kv_C_addMultiples : Cond.instanceMethod y_C_addMultiples ∈ zT := zT_in 353 (by decide +kernel) rfl
theorem kx_C_addMultiples : Cond.selects R_C y_C_addMultiples y_C_addMultiples ∈ zT := zT_in 354 (by decide +kernel) rfl
theorem kc_C_addMultiples : Cond.code y_C_addMultiples b_C_addMultiples 7 (Option.none : Option FieldType) ∈ zT := zT_in 355 (by decide +kernel) rfl
theorem km_C_91 : Cond.methodLink R_C 91 y_L_hasBit ∈ zT := zT_in 356 (by decide +kernel) rfl
theorem km_W_54 : Cond.methodLink R_W 54 y_D_place ∈ zT := zT_in 357 (by decide +kernel) rfl
theorem kv_D_place : Cond.instanceMethod y_D_place ∈ zT := zT_in 358 (by decide +kernel) rfl
theorem kx_D_place : Cond.selects R_D y_D_place y_D_place ∈ zT := zT_in 359 (by decide +kernel) rfl
theorem kc_D_place : Cond.code y_D_place b_D_place 4 (Option.some FieldType.int) ∈ zT := zT_in 360 (by decide +kernel) rfl
theorem km_D_163 : Cond.methodLink R_D 163 y_D_areTwoRegisters ∈ zT := zT_in 361 (by decide +kernel) rfl
theorem ks_D_areTwoRegisters : Cond.static y_D_areTwoRegisters ∈ zT := zT_in 362 (by decide +kernel) rfl
theorem kc_D_areTwoRegisters : Cond.code y_D_areTwoRegisters b_D_areTwoRegisters 2 (Option.some FieldType.boolean) ∈ zT := zT_in 363 (by decide +kernel) rfl
theorem km_W_59 : Cond.methodLink R_W 59 y_D_put ∈ zT := zT_in 364 (by decide +kernel) rfl
theorem kv_D_put : Cond.instanceMethod y_D_put ∈ zT := zT_in 365 (by decide +kernel) rfl
theorem kx_D_put : Cond.selects R_D y_D_put y_D_put ∈ zT := zT_in 366 (by decide +kernel) rfl
theorem kc_D_put : Cond.code y_D_put b_D_put 4 (Option.some FieldType.boolean) ∈ zT := zT_in 367 (by decide +kernel) rfl
theorem km_D_177 : Cond.methodLink R_D 177 y_H_append ∈ zT := zT_in 368 (by decide +kernel) rfl
theorem kv_H_append : Cond.instanceMethod y_H_append ∈ zT := zT_in 369 (by decide +kernel) rfl
theorem kx_H_append : Cond.selects R_H y_H_append y_H_append ∈ zT := zT_in 370 (by decide +kernel) rfl
theorem kc_H_append : Cond.code y_H_append b_H_append 5 (Option.some FieldType.boolean) ∈ zT := zT_in 371 (by decide +kernel) rfl
theorem km_W_64 : Cond.methodLink R_W 64 y_D_key ∈ zT := zT_in 372 (by decide +kernel) rfl
theorem kv_D_key : Cond.instanceMethod y_D_key ∈ zT := zT_in 373 (by decide +kernel) rfl
theorem kx_D_key : Cond.selects R_D y_D_key y_D_key ∈ zT := zT_in 374 (by decide +kernel) rfl
theorem kc_D_key : Cond.code y_D_key b_D_key 3 (Option.some FieldType.int) ∈ zT := zT_in 375 (by decide +kernel) rfl
theorem km_D_181 : Cond.methodLink R_D 181 y_H_takeAll ∈ zT := zT_in 376 (by decide +kernel) rfl
theorem kv_H_takeAll : Cond.instanceMethod y_H_takeAll ∈ zT := zT_in 377 (by decide +kernel) rfl
theorem kx_H_takeAll : Cond.selects R_H y_H_takeAll y_H_takeAll ∈ zT := zT_in 378 (by decide +kernel) rfl
theorem kc_H_takeAll : Cond.code y_H_takeAll b_H_takeAll 2 (Option.some FieldType.int) ∈ zT := zT_in 379 (by decide +kernel) rfl
theorem km_D_185 : Cond.methodLink R_D 185 y_D_fillFromShortKey ∈ zT := zT_in 380 (by decide +kernel) rfl
theorem kv_D_fillFromShortKey : Cond.instanceMethod y_D_fillFromShortKey ∈ zT := zT_in 382 (by decide +kernel) rfl
theorem kc_D_fillFromShortKey : Cond.code y_D_fillFromShortKey b_D_fillFromShortKey 3 (Option.some FieldType.boolean) ∈ zT := zT_in 383 (by decide +kernel) rfl
theorem km_D_204 : Cond.methodLink R_D 204 y_H_firstByte ∈ zT := zT_in 384 (by decide +kernel) rfl
end
section
theorem kv_H_firstByte : Cond.instanceMethod y_H_firstByte ∈ zT := zT_in 385 (by decide +kernel) rfl
theorem kx_H_firstByte : Cond.selects R_H y_H_firstByte y_H_firstByte ∈ zT := zT_in 386 (by decide +kernel) rfl
theorem kc_H_firstByte : Cond.code y_H_firstByte b_H_firstByte 1 (Option.some FieldType.int) ∈ zT := zT_in 387 (by decide +kernel) rfl
theorem km_D_207 : Cond.methodLink R_D 207 y_H_readNumber ∈ zT := zT_in 388 (by decide +kernel) rfl
theorem kv_H_readNumber : Cond.instanceMethod y_H_readNumber ∈ zT := zT_in 389 (by decide +kernel) rfl
theorem kx_H_readNumber : Cond.selects R_H y_H_readNumber y_H_readNumber ∈ zT := zT_in 390 (by decide +kernel) rfl
theorem kc_H_readNumber : Cond.code y_H_readNumber b_H_readNumber 6 (Option.none : Option FieldType) ∈ zT := zT_in 391 (by decide +kernel) rfl
theorem km_H_23 : Cond.methodLink R_H 23 y_L_copy ∈ zT := zT_in 393 (by decide +kernel) rfl
theorem km_D_211 : Cond.methodLink R_D 211 y_C_findSquareOfY ∈ zT := zT_in 394 (by decide +kernel) rfl
theorem km_D_188 : Cond.methodLink R_D 188 y_D_fillFromWholeKey ∈ zT := zT_in 395 (by decide +kernel) rfl
theorem kv_D_fillFromWholeKey : Cond.instanceMethod y_D_fillFromWholeKey ∈ zT := zT_in 397 (by decide +kernel) rfl
theorem kc_D_fillFromWholeKey : Cond.code y_D_fillFromWholeKey b_D_fillFromWholeKey 2 (Option.some FieldType.boolean) ∈ zT := zT_in 398 (by decide +kernel) rfl
theorem km_W_69 : Cond.methodLink R_W 69 y_D_signature ∈ zT := zT_in 399 (by decide +kernel) rfl
theorem kv_D_signature : Cond.instanceMethod y_D_signature ∈ zT := zT_in 400 (by decide +kernel) rfl
theorem kx_D_signature : Cond.selects R_D y_D_signature y_D_signature ∈ zT := zT_in 401 (by decide +kernel) rfl
theorem kc_D_signature : Cond.code y_D_signature b_D_signature 4 (Option.some FieldType.int) ∈ zT := zT_in 402 (by decide +kernel) rfl
theorem km_D_191 : Cond.methodLink R_D 191 y_H_readSignature ∈ zT := zT_in 403 (by decide +kernel) rfl
theorem kv_H_readSignature : Cond.instanceMethod y_H_readSignature ∈ zT := zT_in 404 (by decide +kernel) rfl
theorem kx_H_readSignature : Cond.selects R_H y_H_readSignature y_H_readSignature ∈ zT := zT_in 405 (by decide +kernel) rfl
theorem kc_H_readSignature : Cond.code y_H_readSignature b_H_readSignature 5 (Option.some FieldType.boolean) ∈ zT := zT_in 406 (by decide +kernel) rfl
theorem km_H_29 : Cond.methodLink R_H 29 y_H_readPart ∈ zT := zT_in 407 (by decide +kernel) rfl
theorem kv_H_readPart : Cond.instanceMethod y_H_readPart ∈ zT := zT_in 409 (by decide +kernel) rfl
theorem kc_H_readPart : Cond.code y_H_readPart b_H_readPart 6 (Option.some FieldType.int) ∈ zT := zT_in 410 (by decide +kernel) rfl
theorem km_H_33 : Cond.methodLink R_H 33 y_H_isWellWritten ∈ zT := zT_in 411 (by decide +kernel) rfl
theorem kv_H_isWellWritten : Cond.instanceMethod y_H_isWellWritten ∈ zT := zT_in 413 (by decide +kernel) rfl
theorem kc_H_isWellWritten : Cond.code y_H_isWellWritten b_H_isWellWritten 4 (Option.some FieldType.boolean) ∈ zT := zT_in 414 (by decide +kernel) rfl
theorem km_H_37 : Cond.methodLink R_H 37 y_H_readNumber ∈ zT := zT_in 415 (by decide +kernel) rfl
theorem km_W_73 : Cond.methodLink R_W 73 y_D_fits ∈ zT := zT_in 416 (by decide +kernel) rfl
theorem kv_D_fits : Cond.instanceMethod y_D_fits ∈ zT := zT_in 417 (by decide +kernel) rfl
theorem kx_D_fits : Cond.selects R_D y_D_fits y_D_fits ∈ zT := zT_in 418 (by decide +kernel) rfl
theorem kc_D_fits : Cond.code y_D_fits b_D_fits 5 (Option.some FieldType.int) ∈ zT := zT_in 419 (by decide +kernel) rfl
theorem km_D_195 : Cond.methodLink R_D 195 y_D_isUnit ∈ zT := zT_in 420 (by decide +kernel) rfl
theorem kv_D_isUnit : Cond.instanceMethod y_D_isUnit ∈ zT := zT_in 422 (by decide +kernel) rfl
theorem kc_D_isUnit : Cond.code y_D_isUnit b_D_isUnit 2 (Option.some FieldType.boolean) ∈ zT := zT_in 423 (by decide +kernel) rfl
theorem km_D_198 : Cond.methodLink R_D 198 y_L_areSame ∈ zT := zT_in 424 (by decide +kernel) rfl
theorem ka_W_10 : Cond.classLink R_W 10 "CurveDeskModel" ∈ zT := zT_in 425 (by decide +kernel) rfl
theorem kz_R : Cond.instantiable R_R 7 ∈ zT := zT_in 426 (by decide +kernel) rfl
theorem km_W_12 : Cond.methodLink R_W 12 y_R_init ∈ zT := zT_in 427 (by decide +kernel) rfl
theorem kv_R_init : Cond.instanceMethod y_R_init ∈ zT := zT_in 428 (by decide +kernel) rfl
theorem kc_R_init : Cond.code y_R_init b_R_init 5 (Option.none : Option FieldType) ∈ zT := zT_in 429 (by decide +kernel) rfl
theorem km_R_1 : Cond.methodLink R_R 1 (⟨"java/lang/Object", "<init>", "()V"⟩ : MethodName) ∈ zT := zT_in 430 (by decide +kernel) rfl
theorem kl_R_30 : Cond.constantLong R_R 30 (-1 : Int64) ∈ zT := zT_in 431 (by decide +kernel) rfl
theorem kl_R_32 : Cond.constantLong R_R 32 (-4294968273 : Int64) ∈ zT := zT_in 432 (by decide +kernel) rfl
theorem km_R_34 : Cond.methodLink R_R 34 y_R_write ∈ zT := zT_in 433 (by decide +kernel) rfl
theorem kv_R_write : Cond.instanceMethod y_R_write ∈ zT := zT_in 435 (by decide +kernel) rfl
theorem kc_R_write : Cond.code y_R_write b_R_write 13 (Option.none : Option FieldType) ∈ zT := zT_in 436 (by decide +kernel) rfl
theorem km_R_62 : Cond.methodLink R_R 62 y_R_nothing ∈ zT := zT_in 437 (by decide +kernel) rfl
theorem kv_R_nothing : Cond.instanceMethod y_R_nothing ∈ zT := zT_in 439 (by decide +kernel) rfl
theorem kc_R_nothing : Cond.code y_R_nothing b_R_nothing 3 (Option.none : Option FieldType) ∈ zT := zT_in 440 (by decide +kernel) rfl
theorem km_R_66 : Cond.methodLink R_R 66 y_R_wordOf ∈ zT := zT_in 441 (by decide +kernel) rfl
theorem ks_R_wordOf : Cond.static y_R_wordOf ∈ zT := zT_in 442 (by decide +kernel) rfl
theorem kc_R_wordOf : Cond.code y_R_wordOf b_R_wordOf 9 (Option.some FieldType.long) ∈ zT := zT_in 443 (by decide +kernel) rfl
theorem kl_R_38 : Cond.constantLong R_R 38 (-2 : Int64) ∈ zT := zT_in 444 (by decide +kernel) rfl
theorem kl_R_40 : Cond.constantLong R_R 40 (-4994812053365940165 : Int64) ∈ zT := zT_in 445 (by decide +kernel) rfl
theorem kl_R_42 : Cond.constantLong R_R 42 (-4624529908474429119 : Int64) ∈ zT := zT_in 446 (by decide +kernel) rfl
theorem kl_R_44 : Cond.constantLong R_R 44 (8772561819708210092 : Int64) ∈ zT := zT_in 447 (by decide +kernel) rfl
theorem kl_R_46 : Cond.constantLong R_R 46 (6170039885052185351 : Int64) ∈ zT := zT_in 448 (by decide +kernel) rfl
theorem kl_R_48 : Cond.constantLong R_R 48 (188021827762530521 : Int64) ∈ zT := zT_in 449 (by decide +kernel) rfl
theorem kl_R_50 : Cond.constantLong R_R 50 (6481385041966929816 : Int64) ∈ zT := zT_in 450 (by decide +kernel) rfl
theorem kl_R_52 : Cond.constantLong R_R 52 (5204712524664259685 : Int64) ∈ zT := zT_in 451 (by decide +kernel) rfl
theorem kl_R_54 : Cond.constantLong R_R 54 (6747795201694173352 : Int64) ∈ zT := zT_in 452 (by decide +kernel) rfl
theorem kl_R_56 : Cond.constantLong R_R 56 (-209500633525038055 : Int64) ∈ zT := zT_in 453 (by decide +kernel) rfl
theorem kl_R_58 : Cond.constantLong R_R 58 (-7185545363635252040 : Int64) ∈ zT := zT_in 454 (by decide +kernel) rfl
theorem kl_R_60 : Cond.constant R_R 60 (67108863 : Int32) ∈ zT := zT_in 455 (by decide +kernel) rfl
theorem kl_R_61 : Cond.constant R_R 61 (4194303 : Int32) ∈ zT := zT_in 456 (by decide +kernel) rfl
theorem kf_R_7 : Cond.fieldLink R_R 7 "CurveDeskModel" "rows" "[I" ∈ zT := zT_in 457 (by decide +kernel) rfl
theorem kf_R_13 : Cond.fieldLink R_R 13 "CurveDeskModel" "product" "[J" ∈ zT := zT_in 458 (by decide +kernel) rfl
theorem kf_R_17 : Cond.fieldLink R_R 17 "CurveDeskModel" "folded" "[J" ∈ zT := zT_in 459 (by decide +kernel) rfl
theorem kf_R_20 : Cond.fieldLink R_R 20 "CurveDeskModel" "rest" "[I" ∈ zT := zT_in 460 (by decide +kernel) rfl
theorem kf_R_23 : Cond.fieldLink R_R 23 "CurveDeskModel" "none" "[Z" ∈ zT := zT_in 461 (by decide +kernel) rfl
theorem kf_R_27 : Cond.fieldLink R_R 27 "CurveDeskModel" "bytes" "[I" ∈ zT := zT_in 462 (by decide +kernel) rfl
theorem kf_R_163 : Cond.fieldLink R_R 163 "CurveDeskModel" "many" "I" ∈ zT := zT_in 463 (by decide +kernel) rfl
theorem kA_boolean : Cond.arrayClass FieldType.boolean ∈ zT := zT_in 479 (by decide +kernel) rfl
theorem km_W_19 : Cond.methodLink R_W 19 y_R_set ∈ zT := zT_in 480 (by decide +kernel) rfl
theorem kv_R_set : Cond.instanceMethod y_R_set ∈ zT := zT_in 481 (by decide +kernel) rfl
theorem kx_R_set : Cond.selects R_R y_R_set y_R_set ∈ zT := zT_in 482 (by decide +kernel) rfl
theorem kc_R_set : Cond.code y_R_set b_R_set 10 (Option.some FieldType.boolean) ∈ zT := zT_in 483 (by decide +kernel) rfl
theorem km_R_139 : Cond.methodLink R_R 139 y_R_isRegister ∈ zT := zT_in 484 (by decide +kernel) rfl
theorem ks_R_isRegister : Cond.static y_R_isRegister ∈ zT := zT_in 485 (by decide +kernel) rfl
theorem kc_R_isRegister : Cond.code y_R_isRegister b_R_isRegister 1 (Option.some FieldType.boolean) ∈ zT := zT_in 486 (by decide +kernel) rfl
theorem km_W_24 : Cond.methodLink R_W 24 y_R_get ∈ zT := zT_in 487 (by decide +kernel) rfl
theorem kv_R_get : Cond.instanceMethod y_R_get ∈ zT := zT_in 488 (by decide +kernel) rfl
theorem kx_R_get : Cond.selects R_R y_R_get y_R_get ∈ zT := zT_in 489 (by decide +kernel) rfl
theorem kc_R_get : Cond.code y_R_get b_R_get 6 (Option.some FieldType.long) ∈ zT := zT_in 490 (by decide +kernel) rfl
theorem km_R_100 : Cond.methodLink R_R 100 y_R_bit ∈ zT := zT_in 491 (by decide +kernel) rfl
theorem kv_R_bit : Cond.instanceMethod y_R_bit ∈ zT := zT_in 493 (by decide +kernel) rfl
theorem kc_R_bit : Cond.code y_R_bit b_R_bit 3 (Option.some FieldType.boolean) ∈ zT := zT_in 494 (by decide +kernel) rfl
theorem km_W_29 : Cond.methodLink R_W 29 y_R_reduce ∈ zT := zT_in 495 (by decide +kernel) rfl
theorem kv_R_reduce : Cond.instanceMethod y_R_reduce ∈ zT := zT_in 496 (by decide +kernel) rfl
theorem kx_R_reduce : Cond.selects R_R y_R_reduce y_R_reduce ∈ zT := zT_in 497 (by decide +kernel) rfl
theorem kc_R_reduce : Cond.code y_R_reduce b_R_reduce 3 (Option.some FieldType.boolean) ∈ zT := zT_in 498 (by decide +kernel) rfl
theorem km_R_142 : Cond.methodLink R_R 142 y_R_isModulus ∈ zT := zT_in 499 (by decide +kernel) rfl
theorem ks_R_isModulus : Cond.static y_R_isModulus ∈ zT := zT_in 500 (by decide +kernel) rfl
theorem kc_R_isModulus : Cond.code y_R_isModulus b_R_isModulus 1 (Option.some FieldType.boolean) ∈ zT := zT_in 501 (by decide +kernel) rfl
theorem km_R_96 : Cond.methodLink R_R 96 y_R_multiply ∈ zT := zT_in 502 (by decide +kernel) rfl
theorem kv_R_multiply : Cond.instanceMethod y_R_multiply ∈ zT := zT_in 504 (by decide +kernel) rfl
theorem kc_R_multiply : Cond.code y_R_multiply b_R_multiply 9 (Option.none : Option FieldType) ∈ zT := zT_in 505 (by decide +kernel) rfl
theorem km_R_86 : Cond.methodLink R_R 86 y_R_carry ∈ zT := zT_in 506 (by decide +kernel) rfl
theorem kv_R_carry : Cond.instanceMethod y_R_carry ∈ zT := zT_in 508 (by decide +kernel) rfl
theorem kc_R_carry : Cond.code y_R_carry b_R_carry 6 (Option.none : Option FieldType) ∈ zT := zT_in 509 (by decide +kernel) rfl
theorem kl_R_82 : Cond.constantLong R_R 82 (67108863 : Int64) ∈ zT := zT_in 510 (by decide +kernel) rfl
theorem km_R_89 : Cond.methodLink R_R 89 y_R_isWide ∈ zT := zT_in 511 (by decide +kernel) rfl
theorem kv_R_isWide : Cond.instanceMethod y_R_isWide ∈ zT := zT_in 513 (by decide +kernel) rfl
theorem kc_R_isWide : Cond.code y_R_isWide b_R_isWide 3 (Option.some FieldType.boolean) ∈ zT := zT_in 514 (by decide +kernel) rfl
theorem kl_R_84 : Cond.constantLong R_R 84 (4194303 : Int64) ∈ zT := zT_in 515 (by decide +kernel) rfl
theorem km_R_93 : Cond.methodLink R_R 93 y_R_fold ∈ zT := zT_in 516 (by decide +kernel) rfl
theorem kv_R_fold : Cond.instanceMethod y_R_fold ∈ zT := zT_in 518 (by decide +kernel) rfl
theorem kc_R_fold : Cond.code y_R_fold b_R_fold 6 (Option.none : Option FieldType) ∈ zT := zT_in 519 (by decide +kernel) rfl
theorem km_R_78 : Cond.methodLink R_R 78 y_R_compare ∈ zT := zT_in 520 (by decide +kernel) rfl
theorem kv_R_compare : Cond.instanceMethod y_R_compare ∈ zT := zT_in 522 (by decide +kernel) rfl
theorem kc_R_compare : Cond.code y_R_compare b_R_compare 6 (Option.some FieldType.int) ∈ zT := zT_in 523 (by decide +kernel) rfl
theorem km_R_74 : Cond.methodLink R_R 74 y_R_add ∈ zT := zT_in 524 (by decide +kernel) rfl
theorem kv_R_add : Cond.instanceMethod y_R_add ∈ zT := zT_in 526 (by decide +kernel) rfl
theorem kc_R_add : Cond.code y_R_add b_R_add 7 (Option.none : Option FieldType) ∈ zT := zT_in 527 (by decide +kernel) rfl
theorem km_W_34 : Cond.methodLink R_W 34 y_R_work ∈ zT := zT_in 528 (by decide +kernel) rfl
theorem kv_R_work : Cond.instanceMethod y_R_work ∈ zT := zT_in 529 (by decide +kernel) rfl
theorem kx_R_work : Cond.selects R_R y_R_work y_R_work ∈ zT := zT_in 530 (by decide +kernel) rfl
theorem kc_R_work : Cond.code y_R_work b_R_work 6 (Option.some FieldType.int) ∈ zT := zT_in 531 (by decide +kernel) rfl
theorem km_R_115 : Cond.methodLink R_R 115 y_R_isNothing ∈ zT := zT_in 532 (by decide +kernel) rfl
theorem kv_R_isNothing : Cond.instanceMethod y_R_isNothing ∈ zT := zT_in 534 (by decide +kernel) rfl
theorem kc_R_isNothing : Cond.code y_R_isNothing b_R_isNothing 4 (Option.some FieldType.boolean) ∈ zT := zT_in 535 (by decide +kernel) rfl
theorem km_R_124 : Cond.methodLink R_R 124 y_R_plus ∈ zT := zT_in 536 (by decide +kernel) rfl
theorem kv_R_plus : Cond.instanceMethod y_R_plus ∈ zT := zT_in 538 (by decide +kernel) rfl
theorem kc_R_plus : Cond.code y_R_plus b_R_plus 5 (Option.none : Option FieldType) ∈ zT := zT_in 539 (by decide +kernel) rfl
theorem km_R_70 : Cond.methodLink R_R 70 y_R_copy ∈ zT := zT_in 540 (by decide +kernel) rfl
theorem kv_R_copy : Cond.instanceMethod y_R_copy ∈ zT := zT_in 542 (by decide +kernel) rfl
theorem kc_R_copy : Cond.code y_R_copy b_R_copy 4 (Option.none : Option FieldType) ∈ zT := zT_in 543 (by decide +kernel) rfl
theorem km_R_112 : Cond.methodLink R_R 112 y_R_minus ∈ zT := zT_in 544 (by decide +kernel) rfl
theorem kv_R_minus : Cond.instanceMethod y_R_minus ∈ zT := zT_in 546 (by decide +kernel) rfl
theorem kc_R_minus : Cond.code y_R_minus b_R_minus 5 (Option.none : Option FieldType) ∈ zT := zT_in 547 (by decide +kernel) rfl
theorem km_R_121 : Cond.methodLink R_R 121 y_R_divide ∈ zT := zT_in 548 (by decide +kernel) rfl
theorem kv_R_divide : Cond.instanceMethod y_R_divide ∈ zT := zT_in 550 (by decide +kernel) rfl
theorem kc_R_divide : Cond.code y_R_divide b_R_divide 5 (Option.none : Option FieldType) ∈ zT := zT_in 551 (by decide +kernel) rfl
theorem km_R_104 : Cond.methodLink R_R 104 y_R_power ∈ zT := zT_in 552 (by decide +kernel) rfl
theorem kv_R_power : Cond.instanceMethod y_R_power ∈ zT := zT_in 554 (by decide +kernel) rfl
theorem kc_R_power : Cond.code y_R_power b_R_power 5 (Option.none : Option FieldType) ∈ zT := zT_in 555 (by decide +kernel) rfl
theorem km_W_39 : Cond.methodLink R_W 39 y_R_root ∈ zT := zT_in 556 (by decide +kernel) rfl
theorem kv_R_root : Cond.instanceMethod y_R_root ∈ zT := zT_in 557 (by decide +kernel) rfl
theorem kx_R_root : Cond.selects R_R y_R_root y_R_root ∈ zT := zT_in 558 (by decide +kernel) rfl
theorem kc_R_root : Cond.code y_R_root b_R_root 3 (Option.some FieldType.int) ∈ zT := zT_in 559 (by decide +kernel) rfl
theorem km_R_145 : Cond.methodLink R_R 145 y_R_roots ∈ zT := zT_in 560 (by decide +kernel) rfl
theorem kv_R_roots : Cond.instanceMethod y_R_roots ∈ zT := zT_in 562 (by decide +kernel) rfl
theorem kc_R_roots : Cond.code y_R_roots b_R_roots 6 (Option.some FieldType.boolean) ∈ zT := zT_in 563 (by decide +kernel) rfl
theorem kl_R_107 : Cond.constant R_R 107 (33554432 : Int32) ∈ zT := zT_in 564 (by decide +kernel) rfl
theorem km_R_108 : Cond.methodLink R_R 108 y_R_isOdd ∈ zT := zT_in 565 (by decide +kernel) rfl
theorem kv_R_isOdd : Cond.instanceMethod y_R_isOdd ∈ zT := zT_in 567 (by decide +kernel) rfl
theorem kc_R_isOdd : Cond.code y_R_isOdd b_R_isOdd 2 (Option.some FieldType.boolean) ∈ zT := zT_in 568 (by decide +kernel) rfl
theorem km_W_44 : Cond.methodLink R_W 44 y_R_spot ∈ zT := zT_in 569 (by decide +kernel) rfl
theorem kv_R_spot : Cond.instanceMethod y_R_spot ∈ zT := zT_in 570 (by decide +kernel) rfl
theorem kx_R_spot : Cond.selects R_R y_R_spot y_R_spot ∈ zT := zT_in 571 (by decide +kernel) rfl
theorem kc_R_spot : Cond.code y_R_spot b_R_spot 5 (Option.some FieldType.int) ∈ zT := zT_in 572 (by decide +kernel) rfl
theorem km_R_148 : Cond.methodLink R_R 148 y_R_isSpot ∈ zT := zT_in 573 (by decide +kernel) rfl
theorem ks_R_isSpot : Cond.static y_R_isSpot ∈ zT := zT_in 574 (by decide +kernel) rfl
theorem kc_R_isSpot : Cond.code y_R_isSpot b_R_isSpot 1 (Option.some FieldType.boolean) ∈ zT := zT_in 575 (by decide +kernel) rfl
theorem km_R_151 : Cond.methodLink R_R 151 y_R_isPoint ∈ zT := zT_in 576 (by decide +kernel) rfl
theorem kv_R_isPoint : Cond.instanceMethod y_R_isPoint ∈ zT := zT_in 578 (by decide +kernel) rfl
theorem kc_R_isPoint : Cond.code y_R_isPoint b_R_isPoint 3 (Option.some FieldType.boolean) ∈ zT := zT_in 579 (by decide +kernel) rfl
theorem km_R_136 : Cond.methodLink R_R 136 y_R_curve ∈ zT := zT_in 580 (by decide +kernel) rfl
theorem kv_R_curve : Cond.instanceMethod y_R_curve ∈ zT := zT_in 582 (by decide +kernel) rfl
theorem kc_R_curve : Cond.code y_R_curve b_R_curve 3 (Option.none : Option FieldType) ∈ zT := zT_in 583 (by decide +kernel) rfl
theorem km_W_49 : Cond.methodLink R_W 49 y_R_sum ∈ zT := zT_in 584 (by decide +kernel) rfl
theorem kv_R_sum : Cond.instanceMethod y_R_sum ∈ zT := zT_in 585 (by decide +kernel) rfl
theorem kx_R_sum : Cond.selects R_R y_R_sum y_R_sum ∈ zT := zT_in 586 (by decide +kernel) rfl
theorem kc_R_sum : Cond.code y_R_sum b_R_sum 4 (Option.some FieldType.boolean) ∈ zT := zT_in 587 (by decide +kernel) rfl
theorem km_R_154 : Cond.methodLink R_R 154 y_R_load ∈ zT := zT_in 588 (by decide +kernel) rfl
theorem kv_R_load : Cond.instanceMethod y_R_load ∈ zT := zT_in 590 (by decide +kernel) rfl
theorem kc_R_load : Cond.code y_R_load b_R_load 3 (Option.none : Option FieldType) ∈ zT := zT_in 591 (by decide +kernel) rfl
theorem km_R_133 : Cond.methodLink R_R 133 y_R_join ∈ zT := zT_in 592 (by decide +kernel) rfl
theorem kv_R_join : Cond.instanceMethod y_R_join ∈ zT := zT_in 594 (by decide +kernel) rfl
theorem kc_R_join : Cond.code y_R_join b_R_join 3 (Option.none : Option FieldType) ∈ zT := zT_in 595 (by decide +kernel) rfl
theorem km_R_118 : Cond.methodLink R_R 118 y_R_isNone ∈ zT := zT_in 596 (by decide +kernel) rfl
theorem kv_R_isNone : Cond.instanceMethod y_R_isNone ∈ zT := zT_in 598 (by decide +kernel) rfl
theorem kc_R_isNone : Cond.code y_R_isNone b_R_isNone 2 (Option.some FieldType.boolean) ∈ zT := zT_in 599 (by decide +kernel) rfl
theorem km_R_127 : Cond.methodLink R_R 127 y_R_copyPoint ∈ zT := zT_in 600 (by decide +kernel) rfl
theorem kv_R_copyPoint : Cond.instanceMethod y_R_copyPoint ∈ zT := zT_in 602 (by decide +kernel) rfl
theorem kc_R_copyPoint : Cond.code y_R_copyPoint b_R_copyPoint 3 (Option.none : Option FieldType) ∈ zT := zT_in 603 (by decide +kernel) rfl
theorem km_R_130 : Cond.methodLink R_R 130 y_R_twice ∈ zT := zT_in 604 (by decide +kernel) rfl
theorem kv_R_twice : Cond.instanceMethod y_R_twice ∈ zT := zT_in 606 (by decide +kernel) rfl
theorem kc_R_twice : Cond.code y_R_twice b_R_twice 3 (Option.none : Option FieldType) ∈ zT := zT_in 607 (by decide +kernel) rfl
theorem km_R_157 : Cond.methodLink R_R 157 y_R_store ∈ zT := zT_in 608 (by decide +kernel) rfl
theorem kv_R_store : Cond.instanceMethod y_R_store ∈ zT := zT_in 610 (by decide +kernel) rfl
theorem kc_R_store : Cond.code y_R_store b_R_store 3 (Option.none : Option FieldType) ∈ zT := zT_in 611 (by decide +kernel) rfl
theorem km_W_53 : Cond.methodLink R_W 53 y_R_times ∈ zT := zT_in 612 (by decide +kernel) rfl
theorem kv_R_times : Cond.instanceMethod y_R_times ∈ zT := zT_in 613 (by decide +kernel) rfl
theorem kx_R_times : Cond.selects R_R y_R_times y_R_times ∈ zT := zT_in 614 (by decide +kernel) rfl
theorem kc_R_times : Cond.code y_R_times b_R_times 4 (Option.some FieldType.boolean) ∈ zT := zT_in 615 (by decide +kernel) rfl
theorem km_R_160 : Cond.methodLink R_R 160 y_R_multiple ∈ zT := zT_in 616 (by decide +kernel) rfl
theorem kv_R_multiple : Cond.instanceMethod y_R_multiple ∈ zT := zT_in 618 (by decide +kernel) rfl
theorem kc_R_multiple : Cond.code y_R_multiple b_R_multiple 3 (Option.none : Option FieldType) ∈ zT := zT_in 619 (by decide +kernel) rfl
theorem km_W_58 : Cond.methodLink R_W 58 y_R_place ∈ zT := zT_in 620 (by decide +kernel) rfl
theorem kv_R_place : Cond.instanceMethod y_R_place ∈ zT := zT_in 621 (by decide +kernel) rfl
theorem kx_R_place : Cond.selects R_R y_R_place y_R_place ∈ zT := zT_in 622 (by decide +kernel) rfl
theorem kc_R_place : Cond.code y_R_place b_R_place 4 (Option.some FieldType.int) ∈ zT := zT_in 623 (by decide +kernel) rfl
theorem km_W_63 : Cond.methodLink R_W 63 y_R_put ∈ zT := zT_in 624 (by decide +kernel) rfl
theorem kv_R_put : Cond.instanceMethod y_R_put ∈ zT := zT_in 625 (by decide +kernel) rfl
theorem kx_R_put : Cond.selects R_R y_R_put y_R_put ∈ zT := zT_in 626 (by decide +kernel) rfl
theorem kc_R_put : Cond.code y_R_put b_R_put 5 (Option.some FieldType.boolean) ∈ zT := zT_in 627 (by decide +kernel) rfl
theorem kl_R_167 : Cond.constantLong R_R 167 (255 : Int64) ∈ zT := zT_in 628 (by decide +kernel) rfl
theorem km_W_68 : Cond.methodLink R_W 68 y_R_key ∈ zT := zT_in 629 (by decide +kernel) rfl
theorem kv_R_key : Cond.instanceMethod y_R_key ∈ zT := zT_in 630 (by decide +kernel) rfl
theorem kx_R_key : Cond.selects R_R y_R_key y_R_key ∈ zT := zT_in 631 (by decide +kernel) rfl
theorem kc_R_key : Cond.code y_R_key b_R_key 3 (Option.some FieldType.int) ∈ zT := zT_in 632 (by decide +kernel) rfl
theorem km_R_169 : Cond.methodLink R_R 169 y_R_read ∈ zT := zT_in 633 (by decide +kernel) rfl
theorem kv_R_read : Cond.instanceMethod y_R_read ∈ zT := zT_in 635 (by decide +kernel) rfl
theorem kc_R_read : Cond.code y_R_read b_R_read 7 (Option.none : Option FieldType) ∈ zT := zT_in 636 (by decide +kernel) rfl
theorem km_W_72 : Cond.methodLink R_W 72 y_R_signature ∈ zT := zT_in 637 (by decide +kernel) rfl
theorem kv_R_signature : Cond.instanceMethod y_R_signature ∈ zT := zT_in 638 (by decide +kernel) rfl
theorem kx_R_signature : Cond.selects R_R y_R_signature y_R_signature ∈ zT := zT_in 639 (by decide +kernel) rfl
theorem kc_R_signature : Cond.code y_R_signature b_R_signature 5 (Option.some FieldType.int) ∈ zT := zT_in 640 (by decide +kernel) rfl
theorem km_R_172 : Cond.methodLink R_R 172 y_R_numberEnd ∈ zT := zT_in 641 (by decide +kernel) rfl
theorem kv_R_numberEnd : Cond.instanceMethod y_R_numberEnd ∈ zT := zT_in 643 (by decide +kernel) rfl
theorem kc_R_numberEnd : Cond.code y_R_numberEnd b_R_numberEnd 6 (Option.some FieldType.int) ∈ zT := zT_in 644 (by decide +kernel) rfl
theorem km_W_76 : Cond.methodLink R_W 76 y_R_fits ∈ zT := zT_in 645 (by decide +kernel) rfl
theorem kv_R_fits : Cond.instanceMethod y_R_fits ∈ zT := zT_in 646 (by decide +kernel) rfl
theorem kx_R_fits : Cond.selects R_R y_R_fits y_R_fits ∈ zT := zT_in 647 (by decide +kernel) rfl
theorem kc_R_fits : Cond.code y_R_fits b_R_fits 5 (Option.some FieldType.int) ∈ zT := zT_in 648 (by decide +kernel) rfl
theorem kl_W_13 : Cond.constantLong R_W 13 (4294967295 : Int64) ∈ zT := zT_in 649 (by decide +kernel) rfl
theorem kx_D_modulusOf : Cond.selects R_D y_D_modulusOf y_D_modulusOf ∈ zT := zT_sel 0 (by decide +kernel) rfl
theorem kx_M_addProduct : Cond.selects R_M y_M_addProduct y_M_addProduct ∈ zT := zT_sel 1 (by decide +kernel) rfl
theorem kx_M_fold : Cond.selects R_M y_M_fold y_M_fold ∈ zT := zT_sel 2 (by decide +kernel) rfl
theorem kx_D_fillSpot : Cond.selects R_D y_D_fillSpot y_D_fillSpot ∈ zT := zT_sel 3 (by decide +kernel) rfl
theorem kx_C_startSum : Cond.selects R_C y_C_startSum y_C_startSum ∈ zT := zT_sel 4 (by decide +kernel) rfl
theorem kx_C_include : Cond.selects R_C y_C_include y_C_include ∈ zT := zT_sel 5 (by decide +kernel) rfl
theorem kx_C_findDifferences : Cond.selects R_C y_C_findDifferences y_C_findDifferences ∈ zT := zT_sel 6 (by decide +kernel) rfl
theorem kx_C_moveAlongLine : Cond.selects R_C y_C_moveAlongLine y_C_moveAlongLine ∈ zT := zT_sel 7 (by decide +kernel) rfl
theorem kx_C_doubleSum : Cond.selects R_C y_C_doubleSum y_C_doubleSum ∈ zT := zT_sel 8 (by decide +kernel) rfl
theorem kx_C_storeSum : Cond.selects R_C y_C_storeSum y_C_storeSum ∈ zT := zT_sel 9 (by decide +kernel) rfl
theorem kx_D_fillFromShortKey : Cond.selects R_D y_D_fillFromShortKey y_D_fillFromShortKey ∈ zT := zT_sel 10 (by decide +kernel) rfl
theorem kx_D_fillFromWholeKey : Cond.selects R_D y_D_fillFromWholeKey y_D_fillFromWholeKey ∈ zT := zT_sel 11 (by decide +kernel) rfl
theorem kx_H_readPart : Cond.selects R_H y_H_readPart y_H_readPart ∈ zT := zT_sel 12 (by decide +kernel) rfl
theorem kx_H_isWellWritten : Cond.selects R_H y_H_isWellWritten y_H_isWellWritten ∈ zT := zT_sel 13 (by decide +kernel) rfl
theorem kx_D_isUnit : Cond.selects R_D y_D_isUnit y_D_isUnit ∈ zT := zT_sel 14 (by decide +kernel) rfl
theorem kx_R_write : Cond.selects R_R y_R_write y_R_write ∈ zT := zT_sel 15 (by decide +kernel) rfl
theorem kx_R_nothing : Cond.selects R_R y_R_nothing y_R_nothing ∈ zT := zT_sel 16 (by decide +kernel) rfl
theorem kx_R_bit : Cond.selects R_R y_R_bit y_R_bit ∈ zT := zT_sel 17 (by decide +kernel) rfl
theorem kx_R_multiply : Cond.selects R_R y_R_multiply y_R_multiply ∈ zT := zT_sel 18 (by decide +kernel) rfl
theorem kx_R_carry : Cond.selects R_R y_R_carry y_R_carry ∈ zT := zT_sel 19 (by decide +kernel) rfl
theorem kx_R_isWide : Cond.selects R_R y_R_isWide y_R_isWide ∈ zT := zT_sel 20 (by decide +kernel) rfl
theorem kx_R_fold : Cond.selects R_R y_R_fold y_R_fold ∈ zT := zT_sel 21 (by decide +kernel) rfl
theorem kx_R_compare : Cond.selects R_R y_R_compare y_R_compare ∈ zT := zT_sel 22 (by decide +kernel) rfl
theorem kx_R_add : Cond.selects R_R y_R_add y_R_add ∈ zT := zT_sel 23 (by decide +kernel) rfl
theorem kx_R_isNothing : Cond.selects R_R y_R_isNothing y_R_isNothing ∈ zT := zT_sel 24 (by decide +kernel) rfl
theorem kx_R_plus : Cond.selects R_R y_R_plus y_R_plus ∈ zT := zT_sel 25 (by decide +kernel) rfl
theorem kx_R_copy : Cond.selects R_R y_R_copy y_R_copy ∈ zT := zT_sel 26 (by decide +kernel) rfl
theorem kx_R_minus : Cond.selects R_R y_R_minus y_R_minus ∈ zT := zT_sel 27 (by decide +kernel) rfl
theorem kx_R_divide : Cond.selects R_R y_R_divide y_R_divide ∈ zT := zT_sel 28 (by decide +kernel) rfl
theorem kx_R_power : Cond.selects R_R y_R_power y_R_power ∈ zT := zT_sel 29 (by decide +kernel) rfl
theorem kx_R_roots : Cond.selects R_R y_R_roots y_R_roots ∈ zT := zT_sel 30 (by decide +kernel) rfl
theorem kx_R_isOdd : Cond.selects R_R y_R_isOdd y_R_isOdd ∈ zT := zT_sel 31 (by decide +kernel) rfl
theorem kx_R_isPoint : Cond.selects R_R y_R_isPoint y_R_isPoint ∈ zT := zT_sel 32 (by decide +kernel) rfl
theorem kx_R_curve : Cond.selects R_R y_R_curve y_R_curve ∈ zT := zT_sel 33 (by decide +kernel) rfl
theorem kx_R_load : Cond.selects R_R y_R_load y_R_load ∈ zT := zT_sel 34 (by decide +kernel) rfl
theorem kx_R_join : Cond.selects R_R y_R_join y_R_join ∈ zT := zT_sel 35 (by decide +kernel) rfl
theorem kx_R_isNone : Cond.selects R_R y_R_isNone y_R_isNone ∈ zT := zT_sel 36 (by decide +kernel) rfl
theorem kx_R_copyPoint : Cond.selects R_R y_R_copyPoint y_R_copyPoint ∈ zT := zT_sel 37 (by decide +kernel) rfl
theorem kx_R_twice : Cond.selects R_R y_R_twice y_R_twice ∈ zT := zT_sel 38 (by decide +kernel) rfl
theorem kx_R_store : Cond.selects R_R y_R_store y_R_store ∈ zT := zT_sel 39 (by decide +kernel) rfl
theorem kx_R_multiple : Cond.selects R_R y_R_multiple y_R_multiple ∈ zT := zT_sel 40 (by decide +kernel) rfl
theorem kx_R_read : Cond.selects R_R y_R_read y_R_read ∈ zT := zT_sel 41 (by decide +kernel) rfl
theorem kx_R_numberEnd : Cond.selects R_R y_R_numberEnd y_R_numberEnd ∈ zT := zT_sel 42 (by decide +kernel) rfl
/-- the words that go along by themselves -/
def zN : List Cond := [Cond.methodLinkNest R_D 22 y_H_init "CurveDesk", Cond.methodLinkNest R_D 67 y_P_init "CurveDesk", Cond.fieldLinkNest R_L 17 "CurveDesk" "ZERO" "[J" "CurveDesk", Cond.fieldLinkNest R_M 67 "CurveDesk" "ONE" "[J" "CurveDesk", Cond.fieldLinkNest R_C 60 "CurveDesk" "P_MORE_ONE_BY_FOUR" "[J" "CurveDesk", Cond.fieldLinkNest R_C 69 "CurveDesk" "ZERO" "[J" "CurveDesk", Cond.fieldLinkNest R_C 54 "CurveDesk" "SEVEN" "[J" "CurveDesk", Cond.fieldLinkNest R_C 106 "CurveDesk" "ONE" "[J" "CurveDesk", Cond.fieldLinkNest R_C 118 "CurveDesk" "P_LESS_TWO" "[J" "CurveDesk", Cond.fieldLinkNest R_H 19 "CurveDesk" "ZERO" "[J" "CurveDesk"]
theorem kO_rows_t : Cond.arrayOver (FieldType.array FieldType.long) ∈ lw_tbl := List.mem_append_right _ (List.mem_of_getElem? (i := 18) (by decide +kernel))
theorem kO_Point_t : Cond.arrayOver (FieldType.object "CurveDesk$Point") ∈ lw_tbl := List.mem_append_right _ (List.mem_of_getElem? (i := 20) (by decide +kernel))
theorem kn_D_22_t : Cond.methodLinkNest R_D 22 y_H_init "CurveDesk" ∈ lw_tbl := List.mem_append_right _ (List.mem_of_getElem? (i := 23) (by decide +kernel))
theorem kg_P_t : Cond.laysStatic "CurveDesk" "P" "[J" ∈ lw_tbl := List.mem_append_right _ (List.mem_of_getElem? (i := 39) (by decide +kernel))
theorem kg_P_GAP_t : Cond.laysStatic "CurveDesk" "P_GAP" "[J" ∈ lw_tbl := List.mem_append_right _ (List.mem_of_getElem? (i := 41) (by decide +kernel))
theorem kg_P_LESS_TWO_t : Cond.laysStatic "CurveDesk" "P_LESS_TWO" "[J" ∈ lw_tbl := List.mem_append_right _ (List.mem_of_getElem? (i := 43) (by decide +kernel))
theorem kg_N_t : Cond.laysStatic "CurveDesk" "N" "[J" ∈ lw_tbl := List.mem_append_right _ (List.mem_of_getElem? (i := 68) (by decide +kernel))
theorem kg_N_GAP_t : Cond.laysStatic "CurveDesk" "N_GAP" "[J" ∈ lw_tbl := List.mem_append_right _ (List.mem_of_getElem? (i := 70) (by decide +kernel))
theorem kg_N_LESS_TWO_t : Cond.laysStatic "CurveDesk" "N_LESS_TWO" "[J" ∈ lw_tbl := List.mem_append_right _ (List.mem_of_getElem? (i := 72) (by decide +kernel))
theorem kn_D_67_t : Cond.methodLinkNest R_D 67 y_P_init "CurveDesk" ∈ lw_tbl := List.mem_append_right _ (List.mem_of_getElem? (i := 102) (by decide +kernel))
theorem kg_BASE_X_t : Cond.laysStatic "CurveDesk" "BASE_X" "[J" ∈ lw_tbl := List.mem_append_right _ (List.mem_of_getElem? (i := 123) (by decide +kernel))
theorem kg_BASE_Y_t : Cond.laysStatic "CurveDesk" "BASE_Y" "[J" ∈ lw_tbl := List.mem_append_right _ (List.mem_of_getElem? (i := 125) (by decide +kernel))
theorem kq_L_17_t : Cond.fieldLinkNest R_L 17 "CurveDesk" "ZERO" "[J" "CurveDesk" ∈ lw_tbl := List.mem_append_right _ (List.mem_of_getElem? (i := 218) (by decide +kernel))
theorem kg_ZERO_t : Cond.laysStatic "CurveDesk" "ZERO" "[J" ∈ lw_tbl := List.mem_append_right _ (List.mem_of_getElem? (i := 219) (by decide +kernel))
theorem kq_M_67_t : Cond.fieldLinkNest R_M 67 "CurveDesk" "ONE" "[J" "CurveDesk" ∈ lw_tbl := List.mem_append_right _ (List.mem_of_getElem? (i := 257) (by decide +kernel))
theorem kg_ONE_t : Cond.laysStatic "CurveDesk" "ONE" "[J" ∈ lw_tbl := List.mem_append_right _ (List.mem_of_getElem? (i := 258) (by decide +kernel))
theorem kq_C_60_t : Cond.fieldLinkNest R_C 60 "CurveDesk" "P_MORE_ONE_BY_FOUR" "[J" "CurveDesk" ∈ lw_tbl := List.mem_append_right _ (List.mem_of_getElem? (i := 271) (by decide +kernel))
theorem kg_P_MORE_ONE_BY_FOUR_t : Cond.laysStatic "CurveDesk" "P_MORE_ONE_BY_FOUR" "[J" ∈ lw_tbl := List.mem_append_right _ (List.mem_of_getElem? (i := 272) (by decide +kernel))
theorem kq_C_69_t : Cond.fieldLinkNest R_C 69 "CurveDesk" "ZERO" "[J" "CurveDesk" ∈ lw_tbl := List.mem_append_right _ (List.mem_of_getElem? (i := 279) (by decide +kernel))
theorem kq_C_54_t : Cond.fieldLinkNest R_C 54 "CurveDesk" "SEVEN" "[J" "CurveDesk" ∈ lw_tbl := List.mem_append_right _ (List.mem_of_getElem? (i := 307) (by decide +kernel))
theorem kg_SEVEN_t : Cond.laysStatic "CurveDesk" "SEVEN" "[J" ∈ lw_tbl := List.mem_append_right _ (List.mem_of_getElem? (i := 308) (by decide +kernel))
theorem kq_C_106_t : Cond.fieldLinkNest R_C 106 "CurveDesk" "ONE" "[J" "CurveDesk" ∈ lw_tbl := List.mem_append_right _ (List.mem_of_getElem? (i := 327) (by decide +kernel))
theorem kq_C_118_t : Cond.fieldLinkNest R_C 118 "CurveDesk" "P_LESS_TWO" "[J" "CurveDesk" ∈ lw_tbl := List.mem_append_right _ (List.mem_of_getElem? (i := 345) (by decide +kernel))
theorem kq_H_19_t : Cond.fieldLinkNest R_H 19 "CurveDesk" "ZERO" "[J" "CurveDesk" ∈ lw_tbl := List.mem_append_right _ (List.mem_of_getElem? (i := 392) (by decide +kernel))
theorem ku_C : ∀ w ∈ u_ws R_C F_C 7, w ∈ zT := by decide +kernel
theorem ku_H : ∀ w ∈ u_ws R_H F_H 2, w ∈ zT := by decide +kernel
theorem ku_M : ∀ w ∈ u_ws R_M F_M 6, w ∈ zT := by decide +kernel
theorem ku_P : ∀ w ∈ u_ws R_P F_P 3, w ∈ zT := by decide +kernel
theorem ku_D : ∀ w ∈ u_ws R_D F_D 10, w ∈ zT := by decide +kernel
theorem ku_R : ∀ w ∈ u_ws R_R F_R 7, w ∈ zT := by decide +kernel
end
section
/-! the instructions -/
theorem d_D_init_0 : decode b_D_init 0 = .ok (.aload_n 0, 1) := by decide +kernel
theorem d_D_init_1 : decode b_D_init 1 = .ok (.invokespecial 1, 3) := by decide +kernel
theorem d_D_init_4 : decode b_D_init 4 = .ok (.aload_n 0, 1) := by decide +kernel
theorem d_D_init_5 : decode b_D_init 5 = .ok (.bipush 8, 2) := by decide +kernel
theorem d_D_init_7 : decode b_D_init 7 = .ok (.bipush 8, 2) := by decide +kernel
theorem d_D_init_9 : decode b_D_init 9 = .ok (.multianewarray 9 2, 4) := by decide +kernel
theorem d_D_init_13 : decode b_D_init 13 = .ok (.putfield 11, 3) := by decide +kernel
theorem d_D_init_16 : decode b_D_init 16 = .ok (.aload_n 0, 1) := by decide +kernel
theorem d_D_init_17 : decode b_D_init 17 = .ok (.iconst 4, 1) := by decide +kernel
theorem d_D_init_18 : decode b_D_init 18 = .ok (.anewarray 14, 3) := by decide +kernel
theorem d_D_init_21 : decode b_D_init 21 = .ok (.putfield 16, 3) := by decide +kernel
theorem d_D_init_24 : decode b_D_init 24 = .ok (.aload_n 0, 1) := by decide +kernel
theorem d_D_init_25 : decode b_D_init 25 = .ok (.new 20, 3) := by decide +kernel
theorem d_D_init_28 : decode b_D_init 28 = .ok (.dup, 1) := by decide +kernel
theorem d_D_init_29 : decode b_D_init 29 = .ok (.invokespecial 22, 3) := by decide +kernel
theorem d_D_init_32 : decode b_D_init 32 = .ok (.putfield 23, 3) := by decide +kernel
theorem d_D_init_35 : decode b_D_init 35 = .ok (.aload_n 0, 1) := by decide +kernel
theorem d_D_init_36 : decode b_D_init 36 = .ok (.new 27, 3) := by decide +kernel
theorem d_D_init_39 : decode b_D_init 39 = .ok (.dup, 1) := by decide +kernel
theorem d_D_init_40 : decode b_D_init 40 = .ok (.getstatic 29, 3) := by decide +kernel
theorem d_D_init_43 : decode b_D_init 43 = .ok (.getstatic 33, 3) := by decide +kernel
theorem d_D_init_46 : decode b_D_init 46 = .ok (.getstatic 36, 3) := by decide +kernel
theorem d_D_init_49 : decode b_D_init 49 = .ok (.invokespecial 39, 3) := by decide +kernel
theorem d_D_init_52 : decode b_D_init 52 = .ok (.putfield 42, 3) := by decide +kernel
theorem d_D_init_55 : decode b_D_init 55 = .ok (.aload_n 0, 1) := by decide +kernel
theorem d_D_init_56 : decode b_D_init 56 = .ok (.new 27, 3) := by decide +kernel
theorem d_D_init_59 : decode b_D_init 59 = .ok (.dup, 1) := by decide +kernel
theorem d_D_init_60 : decode b_D_init 60 = .ok (.getstatic 46, 3) := by decide +kernel
theorem d_D_init_63 : decode b_D_init 63 = .ok (.getstatic 49, 3) := by decide +kernel
theorem d_D_init_66 : decode b_D_init 66 = .ok (.getstatic 52, 3) := by decide +kernel
theorem d_D_init_69 : decode b_D_init 69 = .ok (.invokespecial 39, 3) := by decide +kernel
theorem d_D_init_72 : decode b_D_init 72 = .ok (.putfield 55, 3) := by decide +kernel
theorem d_D_init_75 : decode b_D_init 75 = .ok (.aload_n 0, 1) := by decide +kernel
theorem d_D_init_76 : decode b_D_init 76 = .ok (.new 58, 3) := by decide +kernel
theorem d_D_init_79 : decode b_D_init 79 = .ok (.dup, 1) := by decide +kernel
theorem d_D_init_80 : decode b_D_init 80 = .ok (.aload_n 0, 1) := by decide +kernel
theorem d_D_init_81 : decode b_D_init 81 = .ok (.getfield 42, 3) := by decide +kernel
theorem d_D_init_84 : decode b_D_init 84 = .ok (.invokespecial 60, 3) := by decide +kernel
theorem d_D_init_87 : decode b_D_init 87 = .ok (.putfield 63, 3) := by decide +kernel
theorem d_D_init_90 : decode b_D_init 90 = .ok (.aload_n 0, 1) := by decide +kernel
theorem d_D_init_91 : decode b_D_init 91 = .ok (.new 14, 3) := by decide +kernel
theorem d_D_init_94 : decode b_D_init 94 = .ok (.dup, 1) := by decide +kernel
theorem d_D_init_95 : decode b_D_init 95 = .ok (.invokespecial 67, 3) := by decide +kernel
theorem d_D_init_98 : decode b_D_init 98 = .ok (.putfield 68, 3) := by decide +kernel
theorem d_D_init_101 : decode b_D_init 101 = .ok (.aload_n 0, 1) := by decide +kernel
theorem d_D_init_102 : decode b_D_init 102 = .ok (.new 14, 3) := by decide +kernel
theorem d_D_init_105 : decode b_D_init 105 = .ok (.dup, 1) := by decide +kernel
theorem d_D_init_106 : decode b_D_init 106 = .ok (.invokespecial 67, 3) := by decide +kernel
theorem d_D_init_109 : decode b_D_init 109 = .ok (.putfield 72, 3) := by decide +kernel
theorem d_D_init_112 : decode b_D_init 112 = .ok (.aload_n 0, 1) := by decide +kernel
theorem d_D_init_113 : decode b_D_init 113 = .ok (.bipush 8, 2) := by decide +kernel
theorem d_D_init_115 : decode b_D_init 115 = .ok (.newarray .long, 2) := by decide +kernel
theorem d_D_init_117 : decode b_D_init 117 = .ok (.putfield 75, 3) := by decide +kernel
theorem d_D_init_120 : decode b_D_init 120 = .ok (.aload_n 0, 1) := by decide +kernel
theorem d_D_init_121 : decode b_D_init 121 = .ok (.bipush 8, 2) := by decide +kernel
theorem d_D_init_123 : decode b_D_init 123 = .ok (.newarray .long, 2) := by decide +kernel
theorem d_D_init_125 : decode b_D_init 125 = .ok (.putfield 78, 3) := by decide +kernel
theorem d_D_init_128 : decode b_D_init 128 = .ok (.iconst 0, 1) := by decide +kernel
theorem d_D_init_129 : decode b_D_init 129 = .ok (.istore_n 1, 1) := by decide +kernel
theorem d_D_init_130 : decode b_D_init 130 = .ok (.iload_n 1, 1) := by decide +kernel
theorem d_D_init_131 : decode b_D_init 131 = .ok (.iconst 4, 1) := by decide +kernel
theorem d_D_init_132 : decode b_D_init 132 = .ok (.if_icmp .ge 22, 3) := by decide +kernel
theorem d_D_init_135 : decode b_D_init 135 = .ok (.aload_n 0, 1) := by decide +kernel
theorem d_D_init_136 : decode b_D_init 136 = .ok (.getfield 16, 3) := by decide +kernel
theorem d_D_init_139 : decode b_D_init 139 = .ok (.iload_n 1, 1) := by decide +kernel
theorem d_D_init_140 : decode b_D_init 140 = .ok (.new 14, 3) := by decide +kernel
theorem d_D_init_143 : decode b_D_init 143 = .ok (.dup, 1) := by decide +kernel
theorem d_D_init_144 : decode b_D_init 144 = .ok (.invokespecial 67, 3) := by decide +kernel
theorem d_D_init_147 : decode b_D_init 147 = .ok (.aastore, 1) := by decide +kernel
theorem d_D_init_148 : decode b_D_init 148 = .ok (.iinc 1 1, 3) := by decide +kernel
theorem d_D_init_151 : decode b_D_init 151 = .ok (.goto (-21), 3) := by decide +kernel
theorem d_D_init_154 : decode b_D_init 154 = .ok (.aload_n 0, 1) := by decide +kernel
theorem d_D_init_155 : decode b_D_init 155 = .ok (.getfield 68, 3) := by decide +kernel
theorem d_D_init_158 : decode b_D_init 158 = .ok (.getstatic 81, 3) := by decide +kernel
theorem d_D_init_161 : decode b_D_init 161 = .ok (.getstatic 84, 3) := by decide +kernel
theorem d_D_init_164 : decode b_D_init 164 = .ok (.invokevirtual 87, 3) := by decide +kernel
theorem d_D_init_167 : decode b_D_init 167 = .ok (.return_, 1) := by decide +kernel
theorem d_D_set_0 : decode b_D_set 0 = .ok (.iload_n 1, 1) := by decide +kernel
theorem d_D_set_1 : decode b_D_set 1 = .ok (.invokestatic 91, 3) := by decide +kernel
theorem d_D_set_4 : decode b_D_set 4 = .ok (.ifCond .ne 5, 3) := by decide +kernel
theorem d_D_set_7 : decode b_D_set 7 = .ok (.iconst 0, 1) := by decide +kernel
theorem d_D_set_8 : decode b_D_set 8 = .ok (.ireturn, 1) := by decide +kernel
theorem d_D_set_9 : decode b_D_set 9 = .ok (.aload_n 0, 1) := by decide +kernel
theorem d_D_set_10 : decode b_D_set 10 = .ok (.getfield 11, 3) := by decide +kernel
theorem d_D_set_13 : decode b_D_set 13 = .ok (.iload_n 1, 1) := by decide +kernel
theorem d_D_set_14 : decode b_D_set 14 = .ok (.aaload, 1) := by decide +kernel
theorem d_D_set_15 : decode b_D_set 15 = .ok (.astore 10, 2) := by decide +kernel
theorem d_D_set_17 : decode b_D_set 17 = .ok (.aload 10, 2) := by decide +kernel
theorem d_D_set_19 : decode b_D_set 19 = .ok (.iconst 0, 1) := by decide +kernel
theorem d_D_set_20 : decode b_D_set 20 = .ok (.lload_n 2, 1) := by decide +kernel
theorem d_D_set_21 : decode b_D_set 21 = .ok (.invokestatic 95, 3) := by decide +kernel
theorem d_D_set_24 : decode b_D_set 24 = .ok (.aload 10, 2) := by decide +kernel
theorem d_D_set_26 : decode b_D_set 26 = .ok (.iconst 1, 1) := by decide +kernel
theorem d_D_set_27 : decode b_D_set 27 = .ok (.lload 4, 2) := by decide +kernel
theorem d_D_set_29 : decode b_D_set 29 = .ok (.invokestatic 95, 3) := by decide +kernel
theorem d_D_set_32 : decode b_D_set 32 = .ok (.aload 10, 2) := by decide +kernel
theorem d_D_set_34 : decode b_D_set 34 = .ok (.iconst 2, 1) := by decide +kernel
theorem d_D_set_35 : decode b_D_set 35 = .ok (.lload 6, 2) := by decide +kernel
theorem d_D_set_37 : decode b_D_set 37 = .ok (.invokestatic 95, 3) := by decide +kernel
theorem d_D_set_40 : decode b_D_set 40 = .ok (.aload 10, 2) := by decide +kernel
theorem d_D_set_42 : decode b_D_set 42 = .ok (.iconst 3, 1) := by decide +kernel
theorem d_D_set_43 : decode b_D_set 43 = .ok (.lload 8, 2) := by decide +kernel
theorem d_D_set_45 : decode b_D_set 45 = .ok (.invokestatic 95, 3) := by decide +kernel
theorem d_D_set_48 : decode b_D_set 48 = .ok (.iconst 1, 1) := by decide +kernel
theorem d_D_set_49 : decode b_D_set 49 = .ok (.ireturn, 1) := by decide +kernel
theorem d_D_get_0 : decode b_D_get 0 = .ok (.iload_n 1, 1) := by decide +kernel
theorem d_D_get_1 : decode b_D_get 1 = .ok (.invokestatic 91, 3) := by decide +kernel
theorem d_D_get_4 : decode b_D_get 4 = .ok (.ifCond .eq 12, 3) := by decide +kernel
theorem d_D_get_7 : decode b_D_get 7 = .ok (.iload_n 2, 1) := by decide +kernel
theorem d_D_get_8 : decode b_D_get 8 = .ok (.ifCond .lt 8, 3) := by decide +kernel
theorem d_D_get_11 : decode b_D_get 11 = .ok (.iload_n 2, 1) := by decide +kernel
theorem d_D_get_12 : decode b_D_get 12 = .ok (.iconst 3, 1) := by decide +kernel
theorem d_D_get_13 : decode b_D_get 13 = .ok (.if_icmp .le 5, 3) := by decide +kernel
theorem d_D_get_16 : decode b_D_get 16 = .ok (.lconst 0, 1) := by decide +kernel
theorem d_D_get_17 : decode b_D_get 17 = .ok (.lreturn, 1) := by decide +kernel
theorem d_D_get_18 : decode b_D_get 18 = .ok (.aload_n 0, 1) := by decide +kernel
theorem d_D_get_19 : decode b_D_get 19 = .ok (.getfield 11, 3) := by decide +kernel
theorem d_D_get_22 : decode b_D_get 22 = .ok (.iload_n 1, 1) := by decide +kernel
theorem d_D_get_23 : decode b_D_get 23 = .ok (.aaload, 1) := by decide +kernel
theorem d_D_get_24 : decode b_D_get 24 = .ok (.iload_n 2, 1) := by decide +kernel
theorem d_D_get_25 : decode b_D_get 25 = .ok (.invokestatic 101, 3) := by decide +kernel
theorem d_D_get_28 : decode b_D_get 28 = .ok (.lreturn, 1) := by decide +kernel
theorem d_D_reduce_0 : decode b_D_reduce 0 = .ok (.iload_n 1, 1) := by decide +kernel
theorem d_D_reduce_1 : decode b_D_reduce 1 = .ok (.invokestatic 91, 3) := by decide +kernel
theorem d_D_reduce_4 : decode b_D_reduce 4 = .ok (.ifCond .eq 10, 3) := by decide +kernel
theorem d_D_reduce_7 : decode b_D_reduce 7 = .ok (.iload_n 2, 1) := by decide +kernel
theorem d_D_reduce_8 : decode b_D_reduce 8 = .ok (.invokestatic 105, 3) := by decide +kernel
theorem d_D_reduce_11 : decode b_D_reduce 11 = .ok (.ifCond .ne 5, 3) := by decide +kernel
theorem d_D_reduce_14 : decode b_D_reduce 14 = .ok (.iconst 0, 1) := by decide +kernel
theorem d_D_reduce_15 : decode b_D_reduce 15 = .ok (.ireturn, 1) := by decide +kernel
theorem d_D_reduce_16 : decode b_D_reduce 16 = .ok (.aload_n 0, 1) := by decide +kernel
theorem d_D_reduce_17 : decode b_D_reduce 17 = .ok (.iload_n 2, 1) := by decide +kernel
theorem d_D_reduce_18 : decode b_D_reduce 18 = .ok (.invokevirtual 108, 3) := by decide +kernel
theorem d_D_reduce_21 : decode b_D_reduce 21 = .ok (.aload_n 0, 1) := by decide +kernel
theorem d_D_reduce_22 : decode b_D_reduce 22 = .ok (.getfield 11, 3) := by decide +kernel
theorem d_D_reduce_25 : decode b_D_reduce 25 = .ok (.iload_n 1, 1) := by decide +kernel
theorem d_D_reduce_26 : decode b_D_reduce 26 = .ok (.aaload, 1) := by decide +kernel
theorem d_D_reduce_27 : decode b_D_reduce 27 = .ok (.invokevirtual 112, 3) := by decide +kernel
theorem d_D_reduce_30 : decode b_D_reduce 30 = .ok (.iconst 1, 1) := by decide +kernel
theorem d_D_reduce_31 : decode b_D_reduce 31 = .ok (.ireturn, 1) := by decide +kernel
theorem d_D_work_0 : decode b_D_work 0 = .ok (.iload_n 1, 1) := by decide +kernel
theorem d_D_work_1 : decode b_D_work 1 = .ok (.ifCond .lt 16, 3) := by decide +kernel
theorem d_D_work_4 : decode b_D_work 4 = .ok (.iload_n 1, 1) := by decide +kernel
theorem d_D_work_5 : decode b_D_work 5 = .ok (.iconst 3, 1) := by decide +kernel
theorem d_D_work_6 : decode b_D_work 6 = .ok (.if_icmp .gt 11, 3) := by decide +kernel
theorem d_D_work_9 : decode b_D_work 9 = .ok (.iload 5, 2) := by decide +kernel
theorem d_D_work_11 : decode b_D_work 11 = .ok (.invokestatic 105, 3) := by decide +kernel
theorem d_D_work_14 : decode b_D_work 14 = .ok (.ifCond .ne 5, 3) := by decide +kernel
theorem d_D_work_17 : decode b_D_work 17 = .ok (.iconst 0, 1) := by decide +kernel
theorem d_D_work_18 : decode b_D_work 18 = .ok (.ireturn, 1) := by decide +kernel
theorem d_D_work_19 : decode b_D_work 19 = .ok (.iload_n 2, 1) := by decide +kernel
theorem d_D_work_20 : decode b_D_work 20 = .ok (.invokestatic 91, 3) := by decide +kernel
theorem d_D_work_23 : decode b_D_work 23 = .ok (.ifCond .eq 18, 3) := by decide +kernel
theorem d_D_work_26 : decode b_D_work 26 = .ok (.iload_n 3, 1) := by decide +kernel
theorem d_D_work_27 : decode b_D_work 27 = .ok (.invokestatic 91, 3) := by decide +kernel
theorem d_D_work_30 : decode b_D_work 30 = .ok (.ifCond .eq 11, 3) := by decide +kernel
theorem d_D_work_33 : decode b_D_work 33 = .ok (.iload 4, 2) := by decide +kernel
theorem d_D_work_35 : decode b_D_work 35 = .ok (.invokestatic 91, 3) := by decide +kernel
theorem d_D_work_38 : decode b_D_work 38 = .ok (.ifCond .ne 5, 3) := by decide +kernel
theorem d_D_work_41 : decode b_D_work 41 = .ok (.iconst 0, 1) := by decide +kernel
theorem d_D_work_42 : decode b_D_work 42 = .ok (.ireturn, 1) := by decide +kernel
theorem d_D_work_43 : decode b_D_work 43 = .ok (.aload_n 0, 1) := by decide +kernel
theorem d_D_work_44 : decode b_D_work 44 = .ok (.iload 5, 2) := by decide +kernel
theorem d_D_work_46 : decode b_D_work 46 = .ok (.invokevirtual 108, 3) := by decide +kernel
theorem d_D_work_49 : decode b_D_work 49 = .ok (.astore 6, 2) := by decide +kernel
theorem d_D_work_51 : decode b_D_work 51 = .ok (.aload_n 0, 1) := by decide +kernel
theorem d_D_work_52 : decode b_D_work 52 = .ok (.getfield 11, 3) := by decide +kernel
theorem d_D_work_55 : decode b_D_work 55 = .ok (.iload_n 3, 1) := by decide +kernel
theorem d_D_work_56 : decode b_D_work 56 = .ok (.aaload, 1) := by decide +kernel
theorem d_D_work_57 : decode b_D_work 57 = .ok (.astore 7, 2) := by decide +kernel
theorem d_D_work_59 : decode b_D_work 59 = .ok (.aload_n 0, 1) := by decide +kernel
theorem d_D_work_60 : decode b_D_work 60 = .ok (.getfield 11, 3) := by decide +kernel
theorem d_D_work_63 : decode b_D_work 63 = .ok (.iload 4, 2) := by decide +kernel
theorem d_D_work_65 : decode b_D_work 65 = .ok (.aaload, 1) := by decide +kernel
theorem d_D_work_66 : decode b_D_work 66 = .ok (.astore 8, 2) := by decide +kernel
theorem d_D_work_68 : decode b_D_work 68 = .ok (.aload 6, 2) := by decide +kernel
theorem d_D_work_70 : decode b_D_work 70 = .ok (.aload 7, 2) := by decide +kernel
theorem d_D_work_72 : decode b_D_work 72 = .ok (.invokevirtual 116, 3) := by decide +kernel
theorem d_D_work_75 : decode b_D_work 75 = .ok (.ifCond .eq 13, 3) := by decide +kernel
theorem d_D_work_78 : decode b_D_work 78 = .ok (.aload 6, 2) := by decide +kernel
theorem d_D_work_80 : decode b_D_work 80 = .ok (.aload 8, 2) := by decide +kernel
theorem d_D_work_82 : decode b_D_work 82 = .ok (.invokevirtual 116, 3) := by decide +kernel
theorem d_D_work_85 : decode b_D_work 85 = .ok (.ifCond .ne 5, 3) := by decide +kernel
theorem d_D_work_88 : decode b_D_work 88 = .ok (.iconst 0, 1) := by decide +kernel
theorem d_D_work_89 : decode b_D_work 89 = .ok (.ireturn, 1) := by decide +kernel
theorem d_D_work_90 : decode b_D_work 90 = .ok (.iload_n 1, 1) := by decide +kernel
theorem d_D_work_91 : decode b_D_work 91 = .ok (.iconst 3, 1) := by decide +kernel
theorem d_D_work_92 : decode b_D_work 92 = .ok (.if_icmp .ne 13, 3) := by decide +kernel
theorem d_D_work_95 : decode b_D_work 95 = .ok (.aload 8, 2) := by decide +kernel
theorem d_D_work_97 : decode b_D_work 97 = .ok (.invokestatic 120, 3) := by decide +kernel
theorem d_D_work_100 : decode b_D_work 100 = .ok (.ifCond .eq 5, 3) := by decide +kernel
theorem d_D_work_103 : decode b_D_work 103 = .ok (.iconst 0, 1) := by decide +kernel
theorem d_D_work_104 : decode b_D_work 104 = .ok (.ireturn, 1) := by decide +kernel
theorem d_D_work_105 : decode b_D_work 105 = .ok (.iload_n 1, 1) := by decide +kernel
theorem d_D_work_106 : decode b_D_work 106 = .ok (.tableswitch 80 0 2 #[26, 44, 62], 26) := by decide +kernel
theorem d_D_work_132 : decode b_D_work 132 = .ok (.aload 6, 2) := by decide +kernel
theorem d_D_work_134 : decode b_D_work 134 = .ok (.aload_n 0, 1) := by decide +kernel
theorem d_D_work_135 : decode b_D_work 135 = .ok (.getfield 11, 3) := by decide +kernel
theorem d_D_work_138 : decode b_D_work 138 = .ok (.iload_n 2, 1) := by decide +kernel
theorem d_D_work_139 : decode b_D_work 139 = .ok (.aaload, 1) := by decide +kernel
theorem d_D_work_140 : decode b_D_work 140 = .ok (.aload 7, 2) := by decide +kernel
theorem d_D_work_142 : decode b_D_work 142 = .ok (.aload 8, 2) := by decide +kernel
theorem d_D_work_144 : decode b_D_work 144 = .ok (.invokevirtual 123, 3) := by decide +kernel
theorem d_D_work_147 : decode b_D_work 147 = .ok (.goto 67, 3) := by decide +kernel
theorem d_D_work_150 : decode b_D_work 150 = .ok (.aload 6, 2) := by decide +kernel
theorem d_D_work_152 : decode b_D_work 152 = .ok (.aload_n 0, 1) := by decide +kernel
theorem d_D_work_153 : decode b_D_work 153 = .ok (.getfield 11, 3) := by decide +kernel
theorem d_D_work_156 : decode b_D_work 156 = .ok (.iload_n 2, 1) := by decide +kernel
theorem d_D_work_157 : decode b_D_work 157 = .ok (.aaload, 1) := by decide +kernel
theorem d_D_work_158 : decode b_D_work 158 = .ok (.aload 7, 2) := by decide +kernel
theorem d_D_work_160 : decode b_D_work 160 = .ok (.aload 8, 2) := by decide +kernel
theorem d_D_work_162 : decode b_D_work 162 = .ok (.invokevirtual 126, 3) := by decide +kernel
theorem d_D_work_165 : decode b_D_work 165 = .ok (.goto 49, 3) := by decide +kernel
theorem d_D_work_168 : decode b_D_work 168 = .ok (.aload 6, 2) := by decide +kernel
theorem d_D_work_170 : decode b_D_work 170 = .ok (.aload_n 0, 1) := by decide +kernel
theorem d_D_work_171 : decode b_D_work 171 = .ok (.getfield 11, 3) := by decide +kernel
theorem d_D_work_174 : decode b_D_work 174 = .ok (.iload_n 2, 1) := by decide +kernel
theorem d_D_work_175 : decode b_D_work 175 = .ok (.aaload, 1) := by decide +kernel
theorem d_D_work_176 : decode b_D_work 176 = .ok (.aload 7, 2) := by decide +kernel
theorem d_D_work_178 : decode b_D_work 178 = .ok (.aload 8, 2) := by decide +kernel
theorem d_D_work_180 : decode b_D_work 180 = .ok (.invokevirtual 129, 3) := by decide +kernel
theorem d_D_work_183 : decode b_D_work 183 = .ok (.goto 31, 3) := by decide +kernel
theorem d_D_work_186 : decode b_D_work 186 = .ok (.aload 6, 2) := by decide +kernel
theorem d_D_work_188 : decode b_D_work 188 = .ok (.aload_n 0, 1) := by decide +kernel
theorem d_D_work_189 : decode b_D_work 189 = .ok (.getfield 75, 3) := by decide +kernel
theorem d_D_work_192 : decode b_D_work 192 = .ok (.aload 8, 2) := by decide +kernel
theorem d_D_work_194 : decode b_D_work 194 = .ok (.invokevirtual 132, 3) := by decide +kernel
theorem d_D_work_197 : decode b_D_work 197 = .ok (.aload 6, 2) := by decide +kernel
theorem d_D_work_199 : decode b_D_work 199 = .ok (.aload_n 0, 1) := by decide +kernel
theorem d_D_work_200 : decode b_D_work 200 = .ok (.getfield 11, 3) := by decide +kernel
theorem d_D_work_203 : decode b_D_work 203 = .ok (.iload_n 2, 1) := by decide +kernel
theorem d_D_work_204 : decode b_D_work 204 = .ok (.aaload, 1) := by decide +kernel
theorem d_D_work_205 : decode b_D_work 205 = .ok (.aload 7, 2) := by decide +kernel
theorem d_D_work_207 : decode b_D_work 207 = .ok (.aload_n 0, 1) := by decide +kernel
theorem d_D_work_208 : decode b_D_work 208 = .ok (.getfield 75, 3) := by decide +kernel
theorem d_D_work_211 : decode b_D_work 211 = .ok (.invokevirtual 129, 3) := by decide +kernel
theorem d_D_work_214 : decode b_D_work 214 = .ok (.iconst 1, 1) := by decide +kernel
theorem d_D_work_215 : decode b_D_work 215 = .ok (.ireturn, 1) := by decide +kernel
theorem d_D_root_0 : decode b_D_root 0 = .ok (.iload_n 1, 1) := by decide +kernel
theorem d_D_root_1 : decode b_D_root 1 = .ok (.invokestatic 91, 3) := by decide +kernel
theorem d_D_root_4 : decode b_D_root 4 = .ok (.ifCond .eq 26, 3) := by decide +kernel
theorem d_D_root_7 : decode b_D_root 7 = .ok (.iload_n 2, 1) := by decide +kernel
theorem d_D_root_8 : decode b_D_root 8 = .ok (.invokestatic 91, 3) := by decide +kernel
theorem d_D_root_11 : decode b_D_root 11 = .ok (.ifCond .eq 19, 3) := by decide +kernel
theorem d_D_root_14 : decode b_D_root 14 = .ok (.aload_n 0, 1) := by decide +kernel
theorem d_D_root_15 : decode b_D_root 15 = .ok (.getfield 42, 3) := by decide +kernel
theorem d_D_root_18 : decode b_D_root 18 = .ok (.aload_n 0, 1) := by decide +kernel
theorem d_D_root_19 : decode b_D_root 19 = .ok (.getfield 11, 3) := by decide +kernel
theorem d_D_root_22 : decode b_D_root 22 = .ok (.iload_n 2, 1) := by decide +kernel
theorem d_D_root_23 : decode b_D_root 23 = .ok (.aaload, 1) := by decide +kernel
theorem d_D_root_24 : decode b_D_root 24 = .ok (.invokevirtual 116, 3) := by decide +kernel
theorem d_D_root_27 : decode b_D_root 27 = .ok (.ifCond .ne 5, 3) := by decide +kernel
theorem d_D_root_30 : decode b_D_root 30 = .ok (.iconst 0, 1) := by decide +kernel
theorem d_D_root_31 : decode b_D_root 31 = .ok (.ireturn, 1) := by decide +kernel
theorem d_D_root_32 : decode b_D_root 32 = .ok (.aload_n 0, 1) := by decide +kernel
theorem d_D_root_33 : decode b_D_root 33 = .ok (.getfield 63, 3) := by decide +kernel
theorem d_D_root_36 : decode b_D_root 36 = .ok (.aload_n 0, 1) := by decide +kernel
theorem d_D_root_37 : decode b_D_root 37 = .ok (.getfield 75, 3) := by decide +kernel
theorem d_D_root_40 : decode b_D_root 40 = .ok (.aload_n 0, 1) := by decide +kernel
theorem d_D_root_41 : decode b_D_root 41 = .ok (.getfield 11, 3) := by decide +kernel
theorem d_D_root_44 : decode b_D_root 44 = .ok (.iload_n 2, 1) := by decide +kernel
theorem d_D_root_45 : decode b_D_root 45 = .ok (.aaload, 1) := by decide +kernel
theorem d_D_root_46 : decode b_D_root 46 = .ok (.invokevirtual 135, 3) := by decide +kernel
theorem d_D_root_49 : decode b_D_root 49 = .ok (.ifCond .ne 5, 3) := by decide +kernel
theorem d_D_root_52 : decode b_D_root 52 = .ok (.iconst 0, 1) := by decide +kernel
theorem d_D_root_53 : decode b_D_root 53 = .ok (.ireturn, 1) := by decide +kernel
theorem d_D_root_54 : decode b_D_root 54 = .ok (.aload_n 0, 1) := by decide +kernel
theorem d_D_root_55 : decode b_D_root 55 = .ok (.getfield 11, 3) := by decide +kernel
theorem d_D_root_58 : decode b_D_root 58 = .ok (.iload_n 1, 1) := by decide +kernel
theorem d_D_root_59 : decode b_D_root 59 = .ok (.aaload, 1) := by decide +kernel
theorem d_D_root_60 : decode b_D_root 60 = .ok (.aload_n 0, 1) := by decide +kernel
theorem d_D_root_61 : decode b_D_root 61 = .ok (.getfield 75, 3) := by decide +kernel
theorem d_D_root_64 : decode b_D_root 64 = .ok (.invokestatic 139, 3) := by decide +kernel
theorem d_D_root_67 : decode b_D_root 67 = .ok (.iconst 1, 1) := by decide +kernel
theorem d_D_root_68 : decode b_D_root 68 = .ok (.ireturn, 1) := by decide +kernel
theorem d_D_spot_0 : decode b_D_spot 0 = .ok (.iload_n 2, 1) := by decide +kernel
theorem d_D_spot_1 : decode b_D_spot 1 = .ok (.invokestatic 142, 3) := by decide +kernel
theorem d_D_spot_4 : decode b_D_spot 4 = .ok (.ifCond .ne 5, 3) := by decide +kernel
theorem d_D_spot_7 : decode b_D_spot 7 = .ok (.iconst 0, 1) := by decide +kernel
theorem d_D_spot_8 : decode b_D_spot 8 = .ok (.ireturn, 1) := by decide +kernel
theorem d_D_spot_9 : decode b_D_spot 9 = .ok (.iload_n 1, 1) := by decide +kernel
theorem d_D_spot_10 : decode b_D_spot 10 = .ok (.tableswitch 96 0 2 #[26, 37, 54], 26) := by decide +kernel
theorem d_D_spot_36 : decode b_D_spot 36 = .ok (.aload_n 0, 1) := by decide +kernel
theorem d_D_spot_37 : decode b_D_spot 37 = .ok (.getfield 16, 3) := by decide +kernel
theorem d_D_spot_40 : decode b_D_spot 40 = .ok (.iload_n 2, 1) := by decide +kernel
theorem d_D_spot_41 : decode b_D_spot 41 = .ok (.aaload, 1) := by decide +kernel
theorem d_D_spot_42 : decode b_D_spot 42 = .ok (.invokevirtual 145, 3) := by decide +kernel
theorem d_D_spot_45 : decode b_D_spot 45 = .ok (.iconst 1, 1) := by decide +kernel
theorem d_D_spot_46 : decode b_D_spot 46 = .ok (.ireturn, 1) := by decide +kernel
theorem d_D_spot_47 : decode b_D_spot 47 = .ok (.aload_n 0, 1) := by decide +kernel
theorem d_D_spot_48 : decode b_D_spot 48 = .ok (.getfield 16, 3) := by decide +kernel
theorem d_D_spot_51 : decode b_D_spot 51 = .ok (.iload_n 2, 1) := by decide +kernel
theorem d_D_spot_52 : decode b_D_spot 52 = .ok (.aaload, 1) := by decide +kernel
theorem d_D_spot_53 : decode b_D_spot 53 = .ok (.getstatic 81, 3) := by decide +kernel
theorem d_D_spot_56 : decode b_D_spot 56 = .ok (.getstatic 84, 3) := by decide +kernel
theorem d_D_spot_59 : decode b_D_spot 59 = .ok (.invokevirtual 87, 3) := by decide +kernel
theorem d_D_spot_62 : decode b_D_spot 62 = .ok (.iconst 1, 1) := by decide +kernel
theorem d_D_spot_63 : decode b_D_spot 63 = .ok (.ireturn, 1) := by decide +kernel
theorem d_D_spot_64 : decode b_D_spot 64 = .ok (.iload_n 3, 1) := by decide +kernel
theorem d_D_spot_65 : decode b_D_spot 65 = .ok (.invokestatic 91, 3) := by decide +kernel
theorem d_D_spot_68 : decode b_D_spot 68 = .ok (.ifCond .eq 36, 3) := by decide +kernel
theorem d_D_spot_71 : decode b_D_spot 71 = .ok (.iload 4, 2) := by decide +kernel
theorem d_D_spot_73 : decode b_D_spot 73 = .ok (.invokestatic 91, 3) := by decide +kernel
theorem d_D_spot_76 : decode b_D_spot 76 = .ok (.ifCond .eq 28, 3) := by decide +kernel
theorem d_D_spot_79 : decode b_D_spot 79 = .ok (.aload_n 0, 1) := by decide +kernel
theorem d_D_spot_80 : decode b_D_spot 80 = .ok (.iload_n 2, 1) := by decide +kernel
theorem d_D_spot_81 : decode b_D_spot 81 = .ok (.aload_n 0, 1) := by decide +kernel
theorem d_D_spot_82 : decode b_D_spot 82 = .ok (.getfield 11, 3) := by decide +kernel
theorem d_D_spot_85 : decode b_D_spot 85 = .ok (.iload_n 3, 1) := by decide +kernel
theorem d_D_spot_86 : decode b_D_spot 86 = .ok (.aaload, 1) := by decide +kernel
theorem d_D_spot_87 : decode b_D_spot 87 = .ok (.aload_n 0, 1) := by decide +kernel
theorem d_D_spot_88 : decode b_D_spot 88 = .ok (.getfield 11, 3) := by decide +kernel
theorem d_D_spot_91 : decode b_D_spot 91 = .ok (.iload 4, 2) := by decide +kernel
theorem d_D_spot_93 : decode b_D_spot 93 = .ok (.aaload, 1) := by decide +kernel
theorem d_D_spot_94 : decode b_D_spot 94 = .ok (.invokevirtual 148, 3) := by decide +kernel
theorem d_D_spot_97 : decode b_D_spot 97 = .ok (.ifCond .eq 7, 3) := by decide +kernel
theorem d_D_spot_100 : decode b_D_spot 100 = .ok (.iconst 1, 1) := by decide +kernel
theorem d_D_spot_101 : decode b_D_spot 101 = .ok (.goto 4, 3) := by decide +kernel
theorem d_D_spot_104 : decode b_D_spot 104 = .ok (.iconst 0, 1) := by decide +kernel
theorem d_D_spot_105 : decode b_D_spot 105 = .ok (.ireturn, 1) := by decide +kernel
theorem d_D_spot_106 : decode b_D_spot 106 = .ok (.iconst 0, 1) := by decide +kernel
theorem d_D_spot_107 : decode b_D_spot 107 = .ok (.ireturn, 1) := by decide +kernel
theorem d_D_sum_0 : decode b_D_sum 0 = .ok (.iload_n 1, 1) := by decide +kernel
theorem d_D_sum_1 : decode b_D_sum 1 = .ok (.invokestatic 142, 3) := by decide +kernel
theorem d_D_sum_4 : decode b_D_sum 4 = .ok (.ifCond .eq 17, 3) := by decide +kernel
theorem d_D_sum_7 : decode b_D_sum 7 = .ok (.iload_n 2, 1) := by decide +kernel
theorem d_D_sum_8 : decode b_D_sum 8 = .ok (.invokestatic 142, 3) := by decide +kernel
theorem d_D_sum_11 : decode b_D_sum 11 = .ok (.ifCond .eq 10, 3) := by decide +kernel
theorem d_D_sum_14 : decode b_D_sum 14 = .ok (.iload_n 3, 1) := by decide +kernel
theorem d_D_sum_15 : decode b_D_sum 15 = .ok (.invokestatic 142, 3) := by decide +kernel
theorem d_D_sum_18 : decode b_D_sum 18 = .ok (.ifCond .ne 5, 3) := by decide +kernel
theorem d_D_sum_21 : decode b_D_sum 21 = .ok (.iconst 0, 1) := by decide +kernel
theorem d_D_sum_22 : decode b_D_sum 22 = .ok (.ireturn, 1) := by decide +kernel
theorem d_D_sum_23 : decode b_D_sum 23 = .ok (.aload_n 0, 1) := by decide +kernel
theorem d_D_sum_24 : decode b_D_sum 24 = .ok (.getfield 63, 3) := by decide +kernel
theorem d_D_sum_27 : decode b_D_sum 27 = .ok (.aload_n 0, 1) := by decide +kernel
theorem d_D_sum_28 : decode b_D_sum 28 = .ok (.getfield 16, 3) := by decide +kernel
theorem d_D_sum_31 : decode b_D_sum 31 = .ok (.iload_n 1, 1) := by decide +kernel
theorem d_D_sum_32 : decode b_D_sum 32 = .ok (.aaload, 1) := by decide +kernel
theorem d_D_sum_33 : decode b_D_sum 33 = .ok (.aload_n 0, 1) := by decide +kernel
theorem d_D_sum_34 : decode b_D_sum 34 = .ok (.getfield 16, 3) := by decide +kernel
theorem d_D_sum_37 : decode b_D_sum 37 = .ok (.iload_n 2, 1) := by decide +kernel
theorem d_D_sum_38 : decode b_D_sum 38 = .ok (.aaload, 1) := by decide +kernel
theorem d_D_sum_39 : decode b_D_sum 39 = .ok (.aload_n 0, 1) := by decide +kernel
theorem d_D_sum_40 : decode b_D_sum 40 = .ok (.getfield 16, 3) := by decide +kernel
theorem d_D_sum_43 : decode b_D_sum 43 = .ok (.iload_n 3, 1) := by decide +kernel
theorem d_D_sum_44 : decode b_D_sum 44 = .ok (.aaload, 1) := by decide +kernel
theorem d_D_sum_45 : decode b_D_sum 45 = .ok (.invokevirtual 152, 3) := by decide +kernel
theorem d_D_sum_48 : decode b_D_sum 48 = .ok (.iconst 1, 1) := by decide +kernel
theorem d_D_sum_49 : decode b_D_sum 49 = .ok (.ireturn, 1) := by decide +kernel
theorem d_D_times_0 : decode b_D_times 0 = .ok (.iload_n 1, 1) := by decide +kernel
theorem d_D_times_1 : decode b_D_times 1 = .ok (.invokestatic 142, 3) := by decide +kernel
theorem d_D_times_4 : decode b_D_times 4 = .ok (.ifCond .eq 17, 3) := by decide +kernel
theorem d_D_times_7 : decode b_D_times 7 = .ok (.iload_n 2, 1) := by decide +kernel
theorem d_D_times_8 : decode b_D_times 8 = .ok (.invokestatic 142, 3) := by decide +kernel
theorem d_D_times_11 : decode b_D_times 11 = .ok (.ifCond .eq 10, 3) := by decide +kernel
theorem d_D_times_14 : decode b_D_times 14 = .ok (.iload_n 3, 1) := by decide +kernel
theorem d_D_times_15 : decode b_D_times 15 = .ok (.invokestatic 91, 3) := by decide +kernel
theorem d_D_times_18 : decode b_D_times 18 = .ok (.ifCond .ne 5, 3) := by decide +kernel
theorem d_D_times_21 : decode b_D_times 21 = .ok (.iconst 0, 1) := by decide +kernel
theorem d_D_times_22 : decode b_D_times 22 = .ok (.ireturn, 1) := by decide +kernel
theorem d_D_times_23 : decode b_D_times 23 = .ok (.aload_n 0, 1) := by decide +kernel
theorem d_D_times_24 : decode b_D_times 24 = .ok (.getfield 63, 3) := by decide +kernel
theorem d_D_times_27 : decode b_D_times 27 = .ok (.aload_n 0, 1) := by decide +kernel
theorem d_D_times_28 : decode b_D_times 28 = .ok (.getfield 16, 3) := by decide +kernel
theorem d_D_times_31 : decode b_D_times 31 = .ok (.iload_n 1, 1) := by decide +kernel
theorem d_D_times_32 : decode b_D_times 32 = .ok (.aaload, 1) := by decide +kernel
theorem d_D_times_33 : decode b_D_times 33 = .ok (.aload_n 0, 1) := by decide +kernel
theorem d_D_times_34 : decode b_D_times 34 = .ok (.getfield 11, 3) := by decide +kernel
theorem d_D_times_37 : decode b_D_times 37 = .ok (.iload_n 3, 1) := by decide +kernel
theorem d_D_times_38 : decode b_D_times 38 = .ok (.aaload, 1) := by decide +kernel
theorem d_D_times_39 : decode b_D_times 39 = .ok (.aload_n 0, 1) := by decide +kernel
theorem d_D_times_40 : decode b_D_times 40 = .ok (.getfield 16, 3) := by decide +kernel
theorem d_D_times_43 : decode b_D_times 43 = .ok (.iload_n 2, 1) := by decide +kernel
theorem d_D_times_44 : decode b_D_times 44 = .ok (.aaload, 1) := by decide +kernel
theorem d_D_times_45 : decode b_D_times 45 = .ok (.getstatic 156, 3) := by decide +kernel
theorem d_D_times_48 : decode b_D_times 48 = .ok (.aload_n 0, 1) := by decide +kernel
theorem d_D_times_49 : decode b_D_times 49 = .ok (.getfield 16, 3) := by decide +kernel
theorem d_D_times_52 : decode b_D_times 52 = .ok (.iload_n 2, 1) := by decide +kernel
theorem d_D_times_53 : decode b_D_times 53 = .ok (.aaload, 1) := by decide +kernel
theorem d_D_times_54 : decode b_D_times 54 = .ok (.invokevirtual 159, 3) := by decide +kernel
theorem d_D_times_57 : decode b_D_times 57 = .ok (.iconst 1, 1) := by decide +kernel
theorem d_D_times_58 : decode b_D_times 58 = .ok (.ireturn, 1) := by decide +kernel
theorem d_D_place_0 : decode b_D_place 0 = .ok (.iload_n 1, 1) := by decide +kernel
theorem d_D_place_1 : decode b_D_place 1 = .ok (.invokestatic 142, 3) := by decide +kernel
theorem d_D_place_4 : decode b_D_place 4 = .ok (.ifCond .eq 11, 3) := by decide +kernel
theorem d_D_place_7 : decode b_D_place 7 = .ok (.iload_n 2, 1) := by decide +kernel
theorem d_D_place_8 : decode b_D_place 8 = .ok (.iload_n 3, 1) := by decide +kernel
theorem d_D_place_9 : decode b_D_place 9 = .ok (.invokestatic 163, 3) := by decide +kernel
theorem d_D_place_12 : decode b_D_place 12 = .ok (.ifCond .ne 5, 3) := by decide +kernel
theorem d_D_place_15 : decode b_D_place 15 = .ok (.iconst (-1), 1) := by decide +kernel
theorem d_D_place_16 : decode b_D_place 16 = .ok (.ireturn, 1) := by decide +kernel
theorem d_D_place_17 : decode b_D_place 17 = .ok (.aload_n 0, 1) := by decide +kernel
theorem d_D_place_18 : decode b_D_place 18 = .ok (.getfield 16, 3) := by decide +kernel
theorem d_D_place_21 : decode b_D_place 21 = .ok (.iload_n 1, 1) := by decide +kernel
theorem d_D_place_22 : decode b_D_place 22 = .ok (.aaload, 1) := by decide +kernel
theorem d_D_place_23 : decode b_D_place 23 = .ok (.getfield 167, 3) := by decide +kernel
theorem d_D_place_26 : decode b_D_place 26 = .ok (.ifCond .eq 5, 3) := by decide +kernel
theorem d_D_place_29 : decode b_D_place 29 = .ok (.iconst 0, 1) := by decide +kernel
theorem d_D_place_30 : decode b_D_place 30 = .ok (.ireturn, 1) := by decide +kernel
theorem d_D_place_31 : decode b_D_place 31 = .ok (.aload_n 0, 1) := by decide +kernel
theorem d_D_place_32 : decode b_D_place 32 = .ok (.getfield 11, 3) := by decide +kernel
theorem d_D_place_35 : decode b_D_place 35 = .ok (.iload_n 2, 1) := by decide +kernel
theorem d_D_place_36 : decode b_D_place 36 = .ok (.aaload, 1) := by decide +kernel
theorem d_D_place_37 : decode b_D_place 37 = .ok (.aload_n 0, 1) := by decide +kernel
theorem d_D_place_38 : decode b_D_place 38 = .ok (.getfield 16, 3) := by decide +kernel
theorem d_D_place_41 : decode b_D_place 41 = .ok (.iload_n 1, 1) := by decide +kernel
theorem d_D_place_42 : decode b_D_place 42 = .ok (.aaload, 1) := by decide +kernel
theorem d_D_place_43 : decode b_D_place 43 = .ok (.getfield 171, 3) := by decide +kernel
theorem d_D_place_46 : decode b_D_place 46 = .ok (.invokestatic 139, 3) := by decide +kernel
theorem d_D_place_49 : decode b_D_place 49 = .ok (.aload_n 0, 1) := by decide +kernel
theorem d_D_place_50 : decode b_D_place 50 = .ok (.getfield 11, 3) := by decide +kernel
theorem d_D_place_53 : decode b_D_place 53 = .ok (.iload_n 3, 1) := by decide +kernel
theorem d_D_place_54 : decode b_D_place 54 = .ok (.aaload, 1) := by decide +kernel
theorem d_D_place_55 : decode b_D_place 55 = .ok (.aload_n 0, 1) := by decide +kernel
theorem d_D_place_56 : decode b_D_place 56 = .ok (.getfield 16, 3) := by decide +kernel
theorem d_D_place_59 : decode b_D_place 59 = .ok (.iload_n 1, 1) := by decide +kernel
theorem d_D_place_60 : decode b_D_place 60 = .ok (.aaload, 1) := by decide +kernel
theorem d_D_place_61 : decode b_D_place 61 = .ok (.getfield 174, 3) := by decide +kernel
theorem d_D_place_64 : decode b_D_place 64 = .ok (.invokestatic 139, 3) := by decide +kernel
end
section
/-! the instructions -/
theorem d_D_place_67 : decode b_D_place 67 = .ok (.iconst 1, 1) := by decide +kernel
theorem d_D_place_68 : decode b_D_place 68 = .ok (.ireturn, 1) := by decide +kernel
theorem d_D_put_0 : decode b_D_put 0 = .ok (.aload_n 0, 1) := by decide +kernel
theorem d_D_put_1 : decode b_D_put 1 = .ok (.getfield 23, 3) := by decide +kernel
theorem d_D_put_4 : decode b_D_put 4 = .ok (.lload_n 1, 1) := by decide +kernel
theorem d_D_put_5 : decode b_D_put 5 = .ok (.iload_n 3, 1) := by decide +kernel
theorem d_D_put_6 : decode b_D_put 6 = .ok (.invokevirtual 177, 3) := by decide +kernel
theorem d_D_put_9 : decode b_D_put 9 = .ok (.ireturn, 1) := by decide +kernel
theorem d_D_key_0 : decode b_D_key 0 = .ok (.iload_n 1, 1) := by decide +kernel
theorem d_D_key_1 : decode b_D_key 1 = .ok (.invokestatic 142, 3) := by decide +kernel
theorem d_D_key_4 : decode b_D_key 4 = .ok (.ifCond .ne 5, 3) := by decide +kernel
theorem d_D_key_7 : decode b_D_key 7 = .ok (.iconst (-1), 1) := by decide +kernel
theorem d_D_key_8 : decode b_D_key 8 = .ok (.ireturn, 1) := by decide +kernel
theorem d_D_key_9 : decode b_D_key 9 = .ok (.aload_n 0, 1) := by decide +kernel
theorem d_D_key_10 : decode b_D_key 10 = .ok (.getfield 23, 3) := by decide +kernel
theorem d_D_key_13 : decode b_D_key 13 = .ok (.invokevirtual 181, 3) := by decide +kernel
theorem d_D_key_16 : decode b_D_key 16 = .ok (.istore_n 2, 1) := by decide +kernel
theorem d_D_key_17 : decode b_D_key 17 = .ok (.iload_n 2, 1) := by decide +kernel
theorem d_D_key_18 : decode b_D_key 18 = .ok (.bipush 33, 2) := by decide +kernel
theorem d_D_key_20 : decode b_D_key 20 = .ok (.if_icmp .ne 17, 3) := by decide +kernel
theorem d_D_key_23 : decode b_D_key 23 = .ok (.aload_n 0, 1) := by decide +kernel
theorem d_D_key_24 : decode b_D_key 24 = .ok (.iload_n 1, 1) := by decide +kernel
theorem d_D_key_25 : decode b_D_key 25 = .ok (.invokevirtual 185, 3) := by decide +kernel
theorem d_D_key_28 : decode b_D_key 28 = .ok (.ifCond .eq 7, 3) := by decide +kernel
theorem d_D_key_31 : decode b_D_key 31 = .ok (.iconst 1, 1) := by decide +kernel
theorem d_D_key_32 : decode b_D_key 32 = .ok (.goto 4, 3) := by decide +kernel
theorem d_D_key_35 : decode b_D_key 35 = .ok (.iconst 0, 1) := by decide +kernel
theorem d_D_key_36 : decode b_D_key 36 = .ok (.ireturn, 1) := by decide +kernel
theorem d_D_key_37 : decode b_D_key 37 = .ok (.iload_n 2, 1) := by decide +kernel
theorem d_D_key_38 : decode b_D_key 38 = .ok (.bipush 65, 2) := by decide +kernel
theorem d_D_key_40 : decode b_D_key 40 = .ok (.if_icmp .ne 17, 3) := by decide +kernel
theorem d_D_key_43 : decode b_D_key 43 = .ok (.aload_n 0, 1) := by decide +kernel
theorem d_D_key_44 : decode b_D_key 44 = .ok (.iload_n 1, 1) := by decide +kernel
theorem d_D_key_45 : decode b_D_key 45 = .ok (.invokevirtual 188, 3) := by decide +kernel
theorem d_D_key_48 : decode b_D_key 48 = .ok (.ifCond .eq 7, 3) := by decide +kernel
theorem d_D_key_51 : decode b_D_key 51 = .ok (.iconst 1, 1) := by decide +kernel
theorem d_D_key_52 : decode b_D_key 52 = .ok (.goto 4, 3) := by decide +kernel
theorem d_D_key_55 : decode b_D_key 55 = .ok (.iconst 0, 1) := by decide +kernel
theorem d_D_key_56 : decode b_D_key 56 = .ok (.ireturn, 1) := by decide +kernel
theorem d_D_key_57 : decode b_D_key 57 = .ok (.iconst 0, 1) := by decide +kernel
theorem d_D_key_58 : decode b_D_key 58 = .ok (.ireturn, 1) := by decide +kernel
theorem d_D_signature_0 : decode b_D_signature 0 = .ok (.iload_n 1, 1) := by decide +kernel
theorem d_D_signature_1 : decode b_D_signature 1 = .ok (.iload_n 2, 1) := by decide +kernel
theorem d_D_signature_2 : decode b_D_signature 2 = .ok (.invokestatic 163, 3) := by decide +kernel
theorem d_D_signature_5 : decode b_D_signature 5 = .ok (.ifCond .ne 5, 3) := by decide +kernel
theorem d_D_signature_8 : decode b_D_signature 8 = .ok (.iconst (-1), 1) := by decide +kernel
theorem d_D_signature_9 : decode b_D_signature 9 = .ok (.ireturn, 1) := by decide +kernel
theorem d_D_signature_10 : decode b_D_signature 10 = .ok (.aload_n 0, 1) := by decide +kernel
theorem d_D_signature_11 : decode b_D_signature 11 = .ok (.getfield 23, 3) := by decide +kernel
theorem d_D_signature_14 : decode b_D_signature 14 = .ok (.invokevirtual 181, 3) := by decide +kernel
theorem d_D_signature_17 : decode b_D_signature 17 = .ok (.istore_n 3, 1) := by decide +kernel
theorem d_D_signature_18 : decode b_D_signature 18 = .ok (.aload_n 0, 1) := by decide +kernel
theorem d_D_signature_19 : decode b_D_signature 19 = .ok (.getfield 23, 3) := by decide +kernel
theorem d_D_signature_22 : decode b_D_signature 22 = .ok (.aload_n 0, 1) := by decide +kernel
theorem d_D_signature_23 : decode b_D_signature 23 = .ok (.getfield 75, 3) := by decide +kernel
theorem d_D_signature_26 : decode b_D_signature 26 = .ok (.aload_n 0, 1) := by decide +kernel
theorem d_D_signature_27 : decode b_D_signature 27 = .ok (.getfield 78, 3) := by decide +kernel
theorem d_D_signature_30 : decode b_D_signature 30 = .ok (.iload_n 3, 1) := by decide +kernel
theorem d_D_signature_31 : decode b_D_signature 31 = .ok (.invokevirtual 191, 3) := by decide +kernel
theorem d_D_signature_34 : decode b_D_signature 34 = .ok (.ifCond .ne 5, 3) := by decide +kernel
theorem d_D_signature_37 : decode b_D_signature 37 = .ok (.iconst 0, 1) := by decide +kernel
theorem d_D_signature_38 : decode b_D_signature 38 = .ok (.ireturn, 1) := by decide +kernel
theorem d_D_signature_39 : decode b_D_signature 39 = .ok (.aload_n 0, 1) := by decide +kernel
theorem d_D_signature_40 : decode b_D_signature 40 = .ok (.getfield 11, 3) := by decide +kernel
theorem d_D_signature_43 : decode b_D_signature 43 = .ok (.iload_n 1, 1) := by decide +kernel
theorem d_D_signature_44 : decode b_D_signature 44 = .ok (.aaload, 1) := by decide +kernel
theorem d_D_signature_45 : decode b_D_signature 45 = .ok (.aload_n 0, 1) := by decide +kernel
theorem d_D_signature_46 : decode b_D_signature 46 = .ok (.getfield 75, 3) := by decide +kernel
theorem d_D_signature_49 : decode b_D_signature 49 = .ok (.invokestatic 139, 3) := by decide +kernel
theorem d_D_signature_52 : decode b_D_signature 52 = .ok (.aload_n 0, 1) := by decide +kernel
theorem d_D_signature_53 : decode b_D_signature 53 = .ok (.getfield 11, 3) := by decide +kernel
theorem d_D_signature_56 : decode b_D_signature 56 = .ok (.iload_n 2, 1) := by decide +kernel
theorem d_D_signature_57 : decode b_D_signature 57 = .ok (.aaload, 1) := by decide +kernel
theorem d_D_signature_58 : decode b_D_signature 58 = .ok (.aload_n 0, 1) := by decide +kernel
theorem d_D_signature_59 : decode b_D_signature 59 = .ok (.getfield 78, 3) := by decide +kernel
theorem d_D_signature_62 : decode b_D_signature 62 = .ok (.invokestatic 139, 3) := by decide +kernel
theorem d_D_signature_65 : decode b_D_signature 65 = .ok (.iconst 1, 1) := by decide +kernel
theorem d_D_signature_66 : decode b_D_signature 66 = .ok (.ireturn, 1) := by decide +kernel
theorem d_D_fits_0 : decode b_D_fits 0 = .ok (.iload_n 1, 1) := by decide +kernel
theorem d_D_fits_1 : decode b_D_fits 1 = .ok (.invokestatic 142, 3) := by decide +kernel
theorem d_D_fits_4 : decode b_D_fits 4 = .ok (.ifCond .eq 25, 3) := by decide +kernel
theorem d_D_fits_7 : decode b_D_fits 7 = .ok (.iload_n 2, 1) := by decide +kernel
theorem d_D_fits_8 : decode b_D_fits 8 = .ok (.invokestatic 91, 3) := by decide +kernel
theorem d_D_fits_11 : decode b_D_fits 11 = .ok (.ifCond .eq 18, 3) := by decide +kernel
theorem d_D_fits_14 : decode b_D_fits 14 = .ok (.iload_n 3, 1) := by decide +kernel
theorem d_D_fits_15 : decode b_D_fits 15 = .ok (.invokestatic 91, 3) := by decide +kernel
theorem d_D_fits_18 : decode b_D_fits 18 = .ok (.ifCond .eq 11, 3) := by decide +kernel
theorem d_D_fits_21 : decode b_D_fits 21 = .ok (.iload 4, 2) := by decide +kernel
theorem d_D_fits_23 : decode b_D_fits 23 = .ok (.invokestatic 91, 3) := by decide +kernel
theorem d_D_fits_26 : decode b_D_fits 26 = .ok (.ifCond .ne 5, 3) := by decide +kernel
theorem d_D_fits_29 : decode b_D_fits 29 = .ok (.iconst (-1), 1) := by decide +kernel
theorem d_D_fits_30 : decode b_D_fits 30 = .ok (.ireturn, 1) := by decide +kernel
theorem d_D_fits_31 : decode b_D_fits 31 = .ok (.aload_n 0, 1) := by decide +kernel
theorem d_D_fits_32 : decode b_D_fits 32 = .ok (.getfield 16, 3) := by decide +kernel
theorem d_D_fits_35 : decode b_D_fits 35 = .ok (.iload_n 1, 1) := by decide +kernel
theorem d_D_fits_36 : decode b_D_fits 36 = .ok (.aaload, 1) := by decide +kernel
theorem d_D_fits_37 : decode b_D_fits 37 = .ok (.getfield 167, 3) := by decide +kernel
theorem d_D_fits_40 : decode b_D_fits 40 = .ok (.ifCond .ne 29, 3) := by decide +kernel
theorem d_D_fits_43 : decode b_D_fits 43 = .ok (.aload_n 0, 1) := by decide +kernel
theorem d_D_fits_44 : decode b_D_fits 44 = .ok (.aload_n 0, 1) := by decide +kernel
theorem d_D_fits_45 : decode b_D_fits 45 = .ok (.getfield 11, 3) := by decide +kernel
theorem d_D_fits_48 : decode b_D_fits 48 = .ok (.iload_n 2, 1) := by decide +kernel
theorem d_D_fits_49 : decode b_D_fits 49 = .ok (.aaload, 1) := by decide +kernel
theorem d_D_fits_50 : decode b_D_fits 50 = .ok (.invokevirtual 195, 3) := by decide +kernel
theorem d_D_fits_53 : decode b_D_fits 53 = .ok (.ifCond .eq 16, 3) := by decide +kernel
theorem d_D_fits_56 : decode b_D_fits 56 = .ok (.aload_n 0, 1) := by decide +kernel
theorem d_D_fits_57 : decode b_D_fits 57 = .ok (.aload_n 0, 1) := by decide +kernel
theorem d_D_fits_58 : decode b_D_fits 58 = .ok (.getfield 11, 3) := by decide +kernel
theorem d_D_fits_61 : decode b_D_fits 61 = .ok (.iload_n 3, 1) := by decide +kernel
theorem d_D_fits_62 : decode b_D_fits 62 = .ok (.aaload, 1) := by decide +kernel
theorem d_D_fits_63 : decode b_D_fits 63 = .ok (.invokevirtual 195, 3) := by decide +kernel
theorem d_D_fits_66 : decode b_D_fits 66 = .ok (.ifCond .ne 5, 3) := by decide +kernel
theorem d_D_fits_69 : decode b_D_fits 69 = .ok (.iconst 0, 1) := by decide +kernel
theorem d_D_fits_70 : decode b_D_fits 70 = .ok (.ireturn, 1) := by decide +kernel
theorem d_D_fits_71 : decode b_D_fits 71 = .ok (.aload_n 0, 1) := by decide +kernel
theorem d_D_fits_72 : decode b_D_fits 72 = .ok (.getfield 55, 3) := by decide +kernel
theorem d_D_fits_75 : decode b_D_fits 75 = .ok (.aload_n 0, 1) := by decide +kernel
theorem d_D_fits_76 : decode b_D_fits 76 = .ok (.getfield 78, 3) := by decide +kernel
theorem d_D_fits_79 : decode b_D_fits 79 = .ok (.aload_n 0, 1) := by decide +kernel
theorem d_D_fits_80 : decode b_D_fits 80 = .ok (.getfield 11, 3) := by decide +kernel
theorem d_D_fits_83 : decode b_D_fits 83 = .ok (.iload_n 3, 1) := by decide +kernel
theorem d_D_fits_84 : decode b_D_fits 84 = .ok (.aaload, 1) := by decide +kernel
theorem d_D_fits_85 : decode b_D_fits 85 = .ok (.invokevirtual 132, 3) := by decide +kernel
theorem d_D_fits_88 : decode b_D_fits 88 = .ok (.aload_n 0, 1) := by decide +kernel
theorem d_D_fits_89 : decode b_D_fits 89 = .ok (.getfield 75, 3) := by decide +kernel
theorem d_D_fits_92 : decode b_D_fits 92 = .ok (.aload_n 0, 1) := by decide +kernel
theorem d_D_fits_93 : decode b_D_fits 93 = .ok (.getfield 11, 3) := by decide +kernel
theorem d_D_fits_96 : decode b_D_fits 96 = .ok (.iload 4, 2) := by decide +kernel
theorem d_D_fits_98 : decode b_D_fits 98 = .ok (.aaload, 1) := by decide +kernel
theorem d_D_fits_99 : decode b_D_fits 99 = .ok (.invokestatic 139, 3) := by decide +kernel
theorem d_D_fits_102 : decode b_D_fits 102 = .ok (.aload_n 0, 1) := by decide +kernel
theorem d_D_fits_103 : decode b_D_fits 103 = .ok (.getfield 55, 3) := by decide +kernel
theorem d_D_fits_106 : decode b_D_fits 106 = .ok (.aload_n 0, 1) := by decide +kernel
theorem d_D_fits_107 : decode b_D_fits 107 = .ok (.getfield 75, 3) := by decide +kernel
theorem d_D_fits_110 : decode b_D_fits 110 = .ok (.invokevirtual 112, 3) := by decide +kernel
theorem d_D_fits_113 : decode b_D_fits 113 = .ok (.aload_n 0, 1) := by decide +kernel
theorem d_D_fits_114 : decode b_D_fits 114 = .ok (.getfield 55, 3) := by decide +kernel
theorem d_D_fits_117 : decode b_D_fits 117 = .ok (.aload_n 0, 1) := by decide +kernel
theorem d_D_fits_118 : decode b_D_fits 118 = .ok (.getfield 75, 3) := by decide +kernel
theorem d_D_fits_121 : decode b_D_fits 121 = .ok (.aload_n 0, 1) := by decide +kernel
theorem d_D_fits_122 : decode b_D_fits 122 = .ok (.getfield 75, 3) := by decide +kernel
theorem d_D_fits_125 : decode b_D_fits 125 = .ok (.aload_n 0, 1) := by decide +kernel
theorem d_D_fits_126 : decode b_D_fits 126 = .ok (.getfield 78, 3) := by decide +kernel
theorem d_D_fits_129 : decode b_D_fits 129 = .ok (.invokevirtual 129, 3) := by decide +kernel
theorem d_D_fits_132 : decode b_D_fits 132 = .ok (.aload_n 0, 1) := by decide +kernel
theorem d_D_fits_133 : decode b_D_fits 133 = .ok (.getfield 55, 3) := by decide +kernel
theorem d_D_fits_136 : decode b_D_fits 136 = .ok (.aload_n 0, 1) := by decide +kernel
theorem d_D_fits_137 : decode b_D_fits 137 = .ok (.getfield 78, 3) := by decide +kernel
theorem d_D_fits_140 : decode b_D_fits 140 = .ok (.aload_n 0, 1) := by decide +kernel
theorem d_D_fits_141 : decode b_D_fits 141 = .ok (.getfield 78, 3) := by decide +kernel
theorem d_D_fits_144 : decode b_D_fits 144 = .ok (.aload_n 0, 1) := by decide +kernel
theorem d_D_fits_145 : decode b_D_fits 145 = .ok (.getfield 11, 3) := by decide +kernel
theorem d_D_fits_148 : decode b_D_fits 148 = .ok (.iload_n 2, 1) := by decide +kernel
theorem d_D_fits_149 : decode b_D_fits 149 = .ok (.aaload, 1) := by decide +kernel
theorem d_D_fits_150 : decode b_D_fits 150 = .ok (.invokevirtual 129, 3) := by decide +kernel
theorem d_D_fits_153 : decode b_D_fits 153 = .ok (.aload_n 0, 1) := by decide +kernel
theorem d_D_fits_154 : decode b_D_fits 154 = .ok (.getfield 63, 3) := by decide +kernel
theorem d_D_fits_157 : decode b_D_fits 157 = .ok (.aload_n 0, 1) := by decide +kernel
theorem d_D_fits_158 : decode b_D_fits 158 = .ok (.getfield 72, 3) := by decide +kernel
theorem d_D_fits_161 : decode b_D_fits 161 = .ok (.aload_n 0, 1) := by decide +kernel
theorem d_D_fits_162 : decode b_D_fits 162 = .ok (.getfield 75, 3) := by decide +kernel
theorem d_D_fits_165 : decode b_D_fits 165 = .ok (.aload_n 0, 1) := by decide +kernel
theorem d_D_fits_166 : decode b_D_fits 166 = .ok (.getfield 68, 3) := by decide +kernel
theorem d_D_fits_169 : decode b_D_fits 169 = .ok (.aload_n 0, 1) := by decide +kernel
theorem d_D_fits_170 : decode b_D_fits 170 = .ok (.getfield 78, 3) := by decide +kernel
theorem d_D_fits_173 : decode b_D_fits 173 = .ok (.aload_n 0, 1) := by decide +kernel
theorem d_D_fits_174 : decode b_D_fits 174 = .ok (.getfield 16, 3) := by decide +kernel
theorem d_D_fits_177 : decode b_D_fits 177 = .ok (.iload_n 1, 1) := by decide +kernel
theorem d_D_fits_178 : decode b_D_fits 178 = .ok (.aaload, 1) := by decide +kernel
theorem d_D_fits_179 : decode b_D_fits 179 = .ok (.invokevirtual 159, 3) := by decide +kernel
theorem d_D_fits_182 : decode b_D_fits 182 = .ok (.aload_n 0, 1) := by decide +kernel
theorem d_D_fits_183 : decode b_D_fits 183 = .ok (.getfield 72, 3) := by decide +kernel
theorem d_D_fits_186 : decode b_D_fits 186 = .ok (.getfield 167, 3) := by decide +kernel
theorem d_D_fits_189 : decode b_D_fits 189 = .ok (.ifCond .eq 5, 3) := by decide +kernel
theorem d_D_fits_192 : decode b_D_fits 192 = .ok (.iconst 0, 1) := by decide +kernel
theorem d_D_fits_193 : decode b_D_fits 193 = .ok (.ireturn, 1) := by decide +kernel
theorem d_D_fits_194 : decode b_D_fits 194 = .ok (.aload_n 0, 1) := by decide +kernel
theorem d_D_fits_195 : decode b_D_fits 195 = .ok (.getfield 75, 3) := by decide +kernel
theorem d_D_fits_198 : decode b_D_fits 198 = .ok (.aload_n 0, 1) := by decide +kernel
theorem d_D_fits_199 : decode b_D_fits 199 = .ok (.getfield 72, 3) := by decide +kernel
theorem d_D_fits_202 : decode b_D_fits 202 = .ok (.getfield 171, 3) := by decide +kernel
theorem d_D_fits_205 : decode b_D_fits 205 = .ok (.invokestatic 139, 3) := by decide +kernel
theorem d_D_fits_208 : decode b_D_fits 208 = .ok (.aload_n 0, 1) := by decide +kernel
theorem d_D_fits_209 : decode b_D_fits 209 = .ok (.getfield 55, 3) := by decide +kernel
theorem d_D_fits_212 : decode b_D_fits 212 = .ok (.aload_n 0, 1) := by decide +kernel
theorem d_D_fits_213 : decode b_D_fits 213 = .ok (.getfield 75, 3) := by decide +kernel
theorem d_D_fits_216 : decode b_D_fits 216 = .ok (.invokevirtual 112, 3) := by decide +kernel
theorem d_D_fits_219 : decode b_D_fits 219 = .ok (.aload_n 0, 1) := by decide +kernel
theorem d_D_fits_220 : decode b_D_fits 220 = .ok (.getfield 75, 3) := by decide +kernel
theorem d_D_fits_223 : decode b_D_fits 223 = .ok (.aload_n 0, 1) := by decide +kernel
theorem d_D_fits_224 : decode b_D_fits 224 = .ok (.getfield 11, 3) := by decide +kernel
theorem d_D_fits_227 : decode b_D_fits 227 = .ok (.iload_n 2, 1) := by decide +kernel
theorem d_D_fits_228 : decode b_D_fits 228 = .ok (.aaload, 1) := by decide +kernel
theorem d_D_fits_229 : decode b_D_fits 229 = .ok (.invokestatic 198, 3) := by decide +kernel
theorem d_D_fits_232 : decode b_D_fits 232 = .ok (.ifCond .eq 7, 3) := by decide +kernel
theorem d_D_fits_235 : decode b_D_fits 235 = .ok (.iconst 1, 1) := by decide +kernel
theorem d_D_fits_236 : decode b_D_fits 236 = .ok (.goto 4, 3) := by decide +kernel
theorem d_D_fits_239 : decode b_D_fits 239 = .ok (.iconst 0, 1) := by decide +kernel
theorem d_D_fits_240 : decode b_D_fits 240 = .ok (.ireturn, 1) := by decide +kernel
theorem d_D_isRegister_0 : decode b_D_isRegister 0 = .ok (.iload_n 0, 1) := by decide +kernel
theorem d_D_isRegister_1 : decode b_D_isRegister 1 = .ok (.ifCond .lt 13, 3) := by decide +kernel
theorem d_D_isRegister_4 : decode b_D_isRegister 4 = .ok (.iload_n 0, 1) := by decide +kernel
theorem d_D_isRegister_5 : decode b_D_isRegister 5 = .ok (.bipush 8, 2) := by decide +kernel
theorem d_D_isRegister_7 : decode b_D_isRegister 7 = .ok (.if_icmp .ge 7, 3) := by decide +kernel
theorem d_D_isRegister_10 : decode b_D_isRegister 10 = .ok (.iconst 1, 1) := by decide +kernel
theorem d_D_isRegister_11 : decode b_D_isRegister 11 = .ok (.goto 4, 3) := by decide +kernel
theorem d_D_isRegister_14 : decode b_D_isRegister 14 = .ok (.iconst 0, 1) := by decide +kernel
theorem d_D_isRegister_15 : decode b_D_isRegister 15 = .ok (.ireturn, 1) := by decide +kernel
theorem d_D_areTwoRegisters_0 : decode b_D_areTwoRegisters 0 = .ok (.iload_n 0, 1) := by decide +kernel
theorem d_D_areTwoRegisters_1 : decode b_D_areTwoRegisters 1 = .ok (.invokestatic 91, 3) := by decide +kernel
theorem d_D_areTwoRegisters_4 : decode b_D_areTwoRegisters 4 = .ok (.ifCond .eq 19, 3) := by decide +kernel
theorem d_D_areTwoRegisters_7 : decode b_D_areTwoRegisters 7 = .ok (.iload_n 1, 1) := by decide +kernel
theorem d_D_areTwoRegisters_8 : decode b_D_areTwoRegisters 8 = .ok (.invokestatic 91, 3) := by decide +kernel
theorem d_D_areTwoRegisters_11 : decode b_D_areTwoRegisters 11 = .ok (.ifCond .eq 12, 3) := by decide +kernel
theorem d_D_areTwoRegisters_14 : decode b_D_areTwoRegisters 14 = .ok (.iload_n 0, 1) := by decide +kernel
theorem d_D_areTwoRegisters_15 : decode b_D_areTwoRegisters 15 = .ok (.iload_n 1, 1) := by decide +kernel
theorem d_D_areTwoRegisters_16 : decode b_D_areTwoRegisters 16 = .ok (.if_icmp .eq 7, 3) := by decide +kernel
theorem d_D_areTwoRegisters_19 : decode b_D_areTwoRegisters 19 = .ok (.iconst 1, 1) := by decide +kernel
theorem d_D_areTwoRegisters_20 : decode b_D_areTwoRegisters 20 = .ok (.goto 4, 3) := by decide +kernel
theorem d_D_areTwoRegisters_23 : decode b_D_areTwoRegisters 23 = .ok (.iconst 0, 1) := by decide +kernel
theorem d_D_areTwoRegisters_24 : decode b_D_areTwoRegisters 24 = .ok (.ireturn, 1) := by decide +kernel
theorem d_D_isSpot_0 : decode b_D_isSpot 0 = .ok (.iload_n 0, 1) := by decide +kernel
theorem d_D_isSpot_1 : decode b_D_isSpot 1 = .ok (.ifCond .lt 12, 3) := by decide +kernel
theorem d_D_isSpot_4 : decode b_D_isSpot 4 = .ok (.iload_n 0, 1) := by decide +kernel
theorem d_D_isSpot_5 : decode b_D_isSpot 5 = .ok (.iconst 4, 1) := by decide +kernel
theorem d_D_isSpot_6 : decode b_D_isSpot 6 = .ok (.if_icmp .ge 7, 3) := by decide +kernel
theorem d_D_isSpot_9 : decode b_D_isSpot 9 = .ok (.iconst 1, 1) := by decide +kernel
theorem d_D_isSpot_10 : decode b_D_isSpot 10 = .ok (.goto 4, 3) := by decide +kernel
theorem d_D_isSpot_13 : decode b_D_isSpot 13 = .ok (.iconst 0, 1) := by decide +kernel
theorem d_D_isSpot_14 : decode b_D_isSpot 14 = .ok (.ireturn, 1) := by decide +kernel
theorem d_D_isModulus_0 : decode b_D_isModulus 0 = .ok (.iload_n 0, 1) := by decide +kernel
theorem d_D_isModulus_1 : decode b_D_isModulus 1 = .ok (.ifCond .lt 12, 3) := by decide +kernel
theorem d_D_isModulus_4 : decode b_D_isModulus 4 = .ok (.iload_n 0, 1) := by decide +kernel
theorem d_D_isModulus_5 : decode b_D_isModulus 5 = .ok (.iconst 2, 1) := by decide +kernel
theorem d_D_isModulus_6 : decode b_D_isModulus 6 = .ok (.if_icmp .ge 7, 3) := by decide +kernel
theorem d_D_isModulus_9 : decode b_D_isModulus 9 = .ok (.iconst 1, 1) := by decide +kernel
theorem d_D_isModulus_10 : decode b_D_isModulus 10 = .ok (.goto 4, 3) := by decide +kernel
theorem d_D_isModulus_13 : decode b_D_isModulus 13 = .ok (.iconst 0, 1) := by decide +kernel
theorem d_D_isModulus_14 : decode b_D_isModulus 14 = .ok (.ireturn, 1) := by decide +kernel
theorem d_D_modulusOf_0 : decode b_D_modulusOf 0 = .ok (.iload_n 1, 1) := by decide +kernel
theorem d_D_modulusOf_1 : decode b_D_modulusOf 1 = .ok (.ifCond .ne 10, 3) := by decide +kernel
theorem d_D_modulusOf_4 : decode b_D_modulusOf 4 = .ok (.aload_n 0, 1) := by decide +kernel
theorem d_D_modulusOf_5 : decode b_D_modulusOf 5 = .ok (.getfield 42, 3) := by decide +kernel
theorem d_D_modulusOf_8 : decode b_D_modulusOf 8 = .ok (.goto 7, 3) := by decide +kernel
theorem d_D_modulusOf_11 : decode b_D_modulusOf 11 = .ok (.aload_n 0, 1) := by decide +kernel
theorem d_D_modulusOf_12 : decode b_D_modulusOf 12 = .ok (.getfield 55, 3) := by decide +kernel
theorem d_D_modulusOf_15 : decode b_D_modulusOf 15 = .ok (.areturn, 1) := by decide +kernel
theorem d_D_isUnit_0 : decode b_D_isUnit 0 = .ok (.aload_n 1, 1) := by decide +kernel
theorem d_D_isUnit_1 : decode b_D_isUnit 1 = .ok (.invokestatic 120, 3) := by decide +kernel
theorem d_D_isUnit_4 : decode b_D_isUnit 4 = .ok (.ifCond .ne 18, 3) := by decide +kernel
theorem d_D_isUnit_7 : decode b_D_isUnit 7 = .ok (.aload_n 0, 1) := by decide +kernel
theorem d_D_isUnit_8 : decode b_D_isUnit 8 = .ok (.getfield 55, 3) := by decide +kernel
theorem d_D_isUnit_11 : decode b_D_isUnit 11 = .ok (.aload_n 1, 1) := by decide +kernel
theorem d_D_isUnit_12 : decode b_D_isUnit 12 = .ok (.invokevirtual 116, 3) := by decide +kernel
theorem d_D_isUnit_15 : decode b_D_isUnit 15 = .ok (.ifCond .eq 7, 3) := by decide +kernel
theorem d_D_isUnit_18 : decode b_D_isUnit 18 = .ok (.iconst 1, 1) := by decide +kernel
theorem d_D_isUnit_19 : decode b_D_isUnit 19 = .ok (.goto 4, 3) := by decide +kernel
theorem d_D_isUnit_22 : decode b_D_isUnit 22 = .ok (.iconst 0, 1) := by decide +kernel
theorem d_D_isUnit_23 : decode b_D_isUnit 23 = .ok (.ireturn, 1) := by decide +kernel
theorem d_D_fillSpot_0 : decode b_D_fillSpot 0 = .ok (.aload_n 0, 1) := by decide +kernel
theorem d_D_fillSpot_1 : decode b_D_fillSpot 1 = .ok (.getfield 63, 3) := by decide +kernel
theorem d_D_fillSpot_4 : decode b_D_fillSpot 4 = .ok (.aload_n 2, 1) := by decide +kernel
theorem d_D_fillSpot_5 : decode b_D_fillSpot 5 = .ok (.aload_n 3, 1) := by decide +kernel
theorem d_D_fillSpot_6 : decode b_D_fillSpot 6 = .ok (.invokevirtual 201, 3) := by decide +kernel
theorem d_D_fillSpot_9 : decode b_D_fillSpot 9 = .ok (.ifCond .ne 5, 3) := by decide +kernel
theorem d_D_fillSpot_12 : decode b_D_fillSpot 12 = .ok (.iconst 0, 1) := by decide +kernel
theorem d_D_fillSpot_13 : decode b_D_fillSpot 13 = .ok (.ireturn, 1) := by decide +kernel
theorem d_D_fillSpot_14 : decode b_D_fillSpot 14 = .ok (.aload_n 0, 1) := by decide +kernel
theorem d_D_fillSpot_15 : decode b_D_fillSpot 15 = .ok (.getfield 16, 3) := by decide +kernel
theorem d_D_fillSpot_18 : decode b_D_fillSpot 18 = .ok (.iload_n 1, 1) := by decide +kernel
theorem d_D_fillSpot_19 : decode b_D_fillSpot 19 = .ok (.aaload, 1) := by decide +kernel
theorem d_D_fillSpot_20 : decode b_D_fillSpot 20 = .ok (.aload_n 2, 1) := by decide +kernel
theorem d_D_fillSpot_21 : decode b_D_fillSpot 21 = .ok (.aload_n 3, 1) := by decide +kernel
theorem d_D_fillSpot_22 : decode b_D_fillSpot 22 = .ok (.invokevirtual 87, 3) := by decide +kernel
theorem d_D_fillSpot_25 : decode b_D_fillSpot 25 = .ok (.iconst 1, 1) := by decide +kernel
theorem d_D_fillSpot_26 : decode b_D_fillSpot 26 = .ok (.ireturn, 1) := by decide +kernel
theorem d_D_fillFromShortKey_0 : decode b_D_fillFromShortKey 0 = .ok (.aload_n 0, 1) := by decide +kernel
theorem d_D_fillFromShortKey_1 : decode b_D_fillFromShortKey 1 = .ok (.getfield 23, 3) := by decide +kernel
theorem d_D_fillFromShortKey_4 : decode b_D_fillFromShortKey 4 = .ok (.invokevirtual 204, 3) := by decide +kernel
theorem d_D_fillFromShortKey_7 : decode b_D_fillFromShortKey 7 = .ok (.istore_n 2, 1) := by decide +kernel
theorem d_D_fillFromShortKey_8 : decode b_D_fillFromShortKey 8 = .ok (.iload_n 2, 1) := by decide +kernel
theorem d_D_fillFromShortKey_9 : decode b_D_fillFromShortKey 9 = .ok (.iconst 2, 1) := by decide +kernel
theorem d_D_fillFromShortKey_10 : decode b_D_fillFromShortKey 10 = .ok (.if_icmp .eq 10, 3) := by decide +kernel
theorem d_D_fillFromShortKey_13 : decode b_D_fillFromShortKey 13 = .ok (.iload_n 2, 1) := by decide +kernel
theorem d_D_fillFromShortKey_14 : decode b_D_fillFromShortKey 14 = .ok (.iconst 3, 1) := by decide +kernel
theorem d_D_fillFromShortKey_15 : decode b_D_fillFromShortKey 15 = .ok (.if_icmp .eq 5, 3) := by decide +kernel
theorem d_D_fillFromShortKey_18 : decode b_D_fillFromShortKey 18 = .ok (.iconst 0, 1) := by decide +kernel
theorem d_D_fillFromShortKey_19 : decode b_D_fillFromShortKey 19 = .ok (.ireturn, 1) := by decide +kernel
theorem d_D_fillFromShortKey_20 : decode b_D_fillFromShortKey 20 = .ok (.aload_n 0, 1) := by decide +kernel
theorem d_D_fillFromShortKey_21 : decode b_D_fillFromShortKey 21 = .ok (.getfield 23, 3) := by decide +kernel
theorem d_D_fillFromShortKey_24 : decode b_D_fillFromShortKey 24 = .ok (.aload_n 0, 1) := by decide +kernel
theorem d_D_fillFromShortKey_25 : decode b_D_fillFromShortKey 25 = .ok (.getfield 75, 3) := by decide +kernel
theorem d_D_fillFromShortKey_28 : decode b_D_fillFromShortKey 28 = .ok (.iconst 1, 1) := by decide +kernel
theorem d_D_fillFromShortKey_29 : decode b_D_fillFromShortKey 29 = .ok (.bipush 32, 2) := by decide +kernel
theorem d_D_fillFromShortKey_31 : decode b_D_fillFromShortKey 31 = .ok (.invokevirtual 207, 3) := by decide +kernel
theorem d_D_fillFromShortKey_34 : decode b_D_fillFromShortKey 34 = .ok (.aload_n 0, 1) := by decide +kernel
theorem d_D_fillFromShortKey_35 : decode b_D_fillFromShortKey 35 = .ok (.getfield 42, 3) := by decide +kernel
theorem d_D_fillFromShortKey_38 : decode b_D_fillFromShortKey 38 = .ok (.aload_n 0, 1) := by decide +kernel
theorem d_D_fillFromShortKey_39 : decode b_D_fillFromShortKey 39 = .ok (.getfield 75, 3) := by decide +kernel
theorem d_D_fillFromShortKey_42 : decode b_D_fillFromShortKey 42 = .ok (.invokevirtual 116, 3) := by decide +kernel
theorem d_D_fillFromShortKey_45 : decode b_D_fillFromShortKey 45 = .ok (.ifCond .ne 5, 3) := by decide +kernel
theorem d_D_fillFromShortKey_48 : decode b_D_fillFromShortKey 48 = .ok (.iconst 0, 1) := by decide +kernel
theorem d_D_fillFromShortKey_49 : decode b_D_fillFromShortKey 49 = .ok (.ireturn, 1) := by decide +kernel
theorem d_D_fillFromShortKey_50 : decode b_D_fillFromShortKey 50 = .ok (.aload_n 0, 1) := by decide +kernel
theorem d_D_fillFromShortKey_51 : decode b_D_fillFromShortKey 51 = .ok (.getfield 63, 3) := by decide +kernel
theorem d_D_fillFromShortKey_54 : decode b_D_fillFromShortKey 54 = .ok (.aload_n 0, 1) := by decide +kernel
theorem d_D_fillFromShortKey_55 : decode b_D_fillFromShortKey 55 = .ok (.getfield 78, 3) := by decide +kernel
theorem d_D_fillFromShortKey_58 : decode b_D_fillFromShortKey 58 = .ok (.aload_n 0, 1) := by decide +kernel
theorem d_D_fillFromShortKey_59 : decode b_D_fillFromShortKey 59 = .ok (.getfield 75, 3) := by decide +kernel
theorem d_D_fillFromShortKey_62 : decode b_D_fillFromShortKey 62 = .ok (.invokevirtual 211, 3) := by decide +kernel
theorem d_D_fillFromShortKey_65 : decode b_D_fillFromShortKey 65 = .ok (.aload_n 0, 1) := by decide +kernel
theorem d_D_fillFromShortKey_66 : decode b_D_fillFromShortKey 66 = .ok (.getfield 63, 3) := by decide +kernel
theorem d_D_fillFromShortKey_69 : decode b_D_fillFromShortKey 69 = .ok (.aload_n 0, 1) := by decide +kernel
theorem d_D_fillFromShortKey_70 : decode b_D_fillFromShortKey 70 = .ok (.getfield 78, 3) := by decide +kernel
theorem d_D_fillFromShortKey_73 : decode b_D_fillFromShortKey 73 = .ok (.aload_n 0, 1) := by decide +kernel
theorem d_D_fillFromShortKey_74 : decode b_D_fillFromShortKey 74 = .ok (.getfield 78, 3) := by decide +kernel
theorem d_D_fillFromShortKey_77 : decode b_D_fillFromShortKey 77 = .ok (.invokevirtual 135, 3) := by decide +kernel
theorem d_D_fillFromShortKey_80 : decode b_D_fillFromShortKey 80 = .ok (.ifCond .ne 5, 3) := by decide +kernel
theorem d_D_fillFromShortKey_83 : decode b_D_fillFromShortKey 83 = .ok (.iconst 0, 1) := by decide +kernel
theorem d_D_fillFromShortKey_84 : decode b_D_fillFromShortKey 84 = .ok (.ireturn, 1) := by decide +kernel
theorem d_D_fillFromShortKey_85 : decode b_D_fillFromShortKey 85 = .ok (.iload_n 2, 1) := by decide +kernel
theorem d_D_fillFromShortKey_86 : decode b_D_fillFromShortKey 86 = .ok (.iconst 3, 1) := by decide +kernel
theorem d_D_fillFromShortKey_87 : decode b_D_fillFromShortKey 87 = .ok (.if_icmp .ne 21, 3) := by decide +kernel
theorem d_D_fillFromShortKey_90 : decode b_D_fillFromShortKey 90 = .ok (.aload_n 0, 1) := by decide +kernel
theorem d_D_fillFromShortKey_91 : decode b_D_fillFromShortKey 91 = .ok (.getfield 42, 3) := by decide +kernel
theorem d_D_fillFromShortKey_94 : decode b_D_fillFromShortKey 94 = .ok (.aload_n 0, 1) := by decide +kernel
theorem d_D_fillFromShortKey_95 : decode b_D_fillFromShortKey 95 = .ok (.getfield 78, 3) := by decide +kernel
theorem d_D_fillFromShortKey_98 : decode b_D_fillFromShortKey 98 = .ok (.getstatic 156, 3) := by decide +kernel
theorem d_D_fillFromShortKey_101 : decode b_D_fillFromShortKey 101 = .ok (.aload_n 0, 1) := by decide +kernel
theorem d_D_fillFromShortKey_102 : decode b_D_fillFromShortKey 102 = .ok (.getfield 78, 3) := by decide +kernel
theorem d_D_fillFromShortKey_105 : decode b_D_fillFromShortKey 105 = .ok (.invokevirtual 126, 3) := by decide +kernel
theorem d_D_fillFromShortKey_108 : decode b_D_fillFromShortKey 108 = .ok (.aload_n 0, 1) := by decide +kernel
theorem d_D_fillFromShortKey_109 : decode b_D_fillFromShortKey 109 = .ok (.getfield 16, 3) := by decide +kernel
theorem d_D_fillFromShortKey_112 : decode b_D_fillFromShortKey 112 = .ok (.iload_n 1, 1) := by decide +kernel
theorem d_D_fillFromShortKey_113 : decode b_D_fillFromShortKey 113 = .ok (.aaload, 1) := by decide +kernel
theorem d_D_fillFromShortKey_114 : decode b_D_fillFromShortKey 114 = .ok (.aload_n 0, 1) := by decide +kernel
theorem d_D_fillFromShortKey_115 : decode b_D_fillFromShortKey 115 = .ok (.getfield 75, 3) := by decide +kernel
theorem d_D_fillFromShortKey_118 : decode b_D_fillFromShortKey 118 = .ok (.aload_n 0, 1) := by decide +kernel
theorem d_D_fillFromShortKey_119 : decode b_D_fillFromShortKey 119 = .ok (.getfield 78, 3) := by decide +kernel
theorem d_D_fillFromShortKey_122 : decode b_D_fillFromShortKey 122 = .ok (.invokevirtual 87, 3) := by decide +kernel
theorem d_D_fillFromShortKey_125 : decode b_D_fillFromShortKey 125 = .ok (.iconst 1, 1) := by decide +kernel
theorem d_D_fillFromShortKey_126 : decode b_D_fillFromShortKey 126 = .ok (.ireturn, 1) := by decide +kernel
theorem d_D_fillFromWholeKey_0 : decode b_D_fillFromWholeKey 0 = .ok (.aload_n 0, 1) := by decide +kernel
theorem d_D_fillFromWholeKey_1 : decode b_D_fillFromWholeKey 1 = .ok (.getfield 23, 3) := by decide +kernel
theorem d_D_fillFromWholeKey_4 : decode b_D_fillFromWholeKey 4 = .ok (.invokevirtual 204, 3) := by decide +kernel
theorem d_D_fillFromWholeKey_7 : decode b_D_fillFromWholeKey 7 = .ok (.iconst 4, 1) := by decide +kernel
theorem d_D_fillFromWholeKey_8 : decode b_D_fillFromWholeKey 8 = .ok (.if_icmp .eq 5, 3) := by decide +kernel
theorem d_D_fillFromWholeKey_11 : decode b_D_fillFromWholeKey 11 = .ok (.iconst 0, 1) := by decide +kernel
theorem d_D_fillFromWholeKey_12 : decode b_D_fillFromWholeKey 12 = .ok (.ireturn, 1) := by decide +kernel
theorem d_D_fillFromWholeKey_13 : decode b_D_fillFromWholeKey 13 = .ok (.aload_n 0, 1) := by decide +kernel
theorem d_D_fillFromWholeKey_14 : decode b_D_fillFromWholeKey 14 = .ok (.getfield 23, 3) := by decide +kernel
theorem d_D_fillFromWholeKey_17 : decode b_D_fillFromWholeKey 17 = .ok (.aload_n 0, 1) := by decide +kernel
theorem d_D_fillFromWholeKey_18 : decode b_D_fillFromWholeKey 18 = .ok (.getfield 75, 3) := by decide +kernel
theorem d_D_fillFromWholeKey_21 : decode b_D_fillFromWholeKey 21 = .ok (.iconst 1, 1) := by decide +kernel
theorem d_D_fillFromWholeKey_22 : decode b_D_fillFromWholeKey 22 = .ok (.bipush 32, 2) := by decide +kernel
theorem d_D_fillFromWholeKey_24 : decode b_D_fillFromWholeKey 24 = .ok (.invokevirtual 207, 3) := by decide +kernel
theorem d_D_fillFromWholeKey_27 : decode b_D_fillFromWholeKey 27 = .ok (.aload_n 0, 1) := by decide +kernel
theorem d_D_fillFromWholeKey_28 : decode b_D_fillFromWholeKey 28 = .ok (.getfield 23, 3) := by decide +kernel
theorem d_D_fillFromWholeKey_31 : decode b_D_fillFromWholeKey 31 = .ok (.aload_n 0, 1) := by decide +kernel
theorem d_D_fillFromWholeKey_32 : decode b_D_fillFromWholeKey 32 = .ok (.getfield 78, 3) := by decide +kernel
theorem d_D_fillFromWholeKey_35 : decode b_D_fillFromWholeKey 35 = .ok (.bipush 33, 2) := by decide +kernel
theorem d_D_fillFromWholeKey_37 : decode b_D_fillFromWholeKey 37 = .ok (.bipush 32, 2) := by decide +kernel
theorem d_D_fillFromWholeKey_39 : decode b_D_fillFromWholeKey 39 = .ok (.invokevirtual 207, 3) := by decide +kernel
theorem d_D_fillFromWholeKey_42 : decode b_D_fillFromWholeKey 42 = .ok (.aload_n 0, 1) := by decide +kernel
theorem d_D_fillFromWholeKey_43 : decode b_D_fillFromWholeKey 43 = .ok (.iload_n 1, 1) := by decide +kernel
theorem d_D_fillFromWholeKey_44 : decode b_D_fillFromWholeKey 44 = .ok (.aload_n 0, 1) := by decide +kernel
theorem d_D_fillFromWholeKey_45 : decode b_D_fillFromWholeKey 45 = .ok (.getfield 75, 3) := by decide +kernel
theorem d_D_fillFromWholeKey_48 : decode b_D_fillFromWholeKey 48 = .ok (.aload_n 0, 1) := by decide +kernel
theorem d_D_fillFromWholeKey_49 : decode b_D_fillFromWholeKey 49 = .ok (.getfield 78, 3) := by decide +kernel
theorem d_D_fillFromWholeKey_52 : decode b_D_fillFromWholeKey 52 = .ok (.invokevirtual 148, 3) := by decide +kernel
theorem d_D_fillFromWholeKey_55 : decode b_D_fillFromWholeKey 55 = .ok (.ireturn, 1) := by decide +kernel
theorem d_R_init_0 : decode b_R_init 0 = .ok (.aload_n 0, 1) := by decide +kernel
theorem d_R_init_1 : decode b_R_init 1 = .ok (.invokespecial 1, 3) := by decide +kernel
theorem d_R_init_4 : decode b_R_init 4 = .ok (.aload_n 0, 1) := by decide +kernel
theorem d_R_init_5 : decode b_R_init 5 = .ok (.sipush 480, 3) := by decide +kernel
theorem d_R_init_8 : decode b_R_init 8 = .ok (.newarray .int, 2) := by decide +kernel
theorem d_R_init_10 : decode b_R_init 10 = .ok (.putfield 7, 3) := by decide +kernel
theorem d_R_init_13 : decode b_R_init 13 = .ok (.aload_n 0, 1) := by decide +kernel
theorem d_R_init_14 : decode b_R_init 14 = .ok (.bipush 22, 2) := by decide +kernel
theorem d_R_init_16 : decode b_R_init 16 = .ok (.newarray .long, 2) := by decide +kernel
theorem d_R_init_18 : decode b_R_init 18 = .ok (.putfield 13, 3) := by decide +kernel
theorem d_R_init_21 : decode b_R_init 21 = .ok (.aload_n 0, 1) := by decide +kernel
theorem d_R_init_22 : decode b_R_init 22 = .ok (.bipush 22, 2) := by decide +kernel
theorem d_R_init_24 : decode b_R_init 24 = .ok (.newarray .long, 2) := by decide +kernel
theorem d_R_init_26 : decode b_R_init 26 = .ok (.putfield 17, 3) := by decide +kernel
theorem d_R_init_29 : decode b_R_init 29 = .ok (.aload_n 0, 1) := by decide +kernel
theorem d_R_init_30 : decode b_R_init 30 = .ok (.bipush 20, 2) := by decide +kernel
theorem d_R_init_32 : decode b_R_init 32 = .ok (.newarray .int, 2) := by decide +kernel
theorem d_R_init_34 : decode b_R_init 34 = .ok (.putfield 20, 3) := by decide +kernel
theorem d_R_init_37 : decode b_R_init 37 = .ok (.aload_n 0, 1) := by decide +kernel
theorem d_R_init_38 : decode b_R_init 38 = .ok (.iconst 4, 1) := by decide +kernel
theorem d_R_init_39 : decode b_R_init 39 = .ok (.newarray .boolean, 2) := by decide +kernel
theorem d_R_init_41 : decode b_R_init 41 = .ok (.dup, 1) := by decide +kernel
theorem d_R_init_42 : decode b_R_init 42 = .ok (.iconst 0, 1) := by decide +kernel
theorem d_R_init_43 : decode b_R_init 43 = .ok (.iconst 1, 1) := by decide +kernel
theorem d_R_init_44 : decode b_R_init 44 = .ok (.bastore, 1) := by decide +kernel
theorem d_R_init_45 : decode b_R_init 45 = .ok (.dup, 1) := by decide +kernel
theorem d_R_init_46 : decode b_R_init 46 = .ok (.iconst 1, 1) := by decide +kernel
theorem d_R_init_47 : decode b_R_init 47 = .ok (.iconst 1, 1) := by decide +kernel
theorem d_R_init_48 : decode b_R_init 48 = .ok (.bastore, 1) := by decide +kernel
theorem d_R_init_49 : decode b_R_init 49 = .ok (.dup, 1) := by decide +kernel
theorem d_R_init_50 : decode b_R_init 50 = .ok (.iconst 2, 1) := by decide +kernel
theorem d_R_init_51 : decode b_R_init 51 = .ok (.iconst 1, 1) := by decide +kernel
theorem d_R_init_52 : decode b_R_init 52 = .ok (.bastore, 1) := by decide +kernel
theorem d_R_init_53 : decode b_R_init 53 = .ok (.dup, 1) := by decide +kernel
theorem d_R_init_54 : decode b_R_init 54 = .ok (.iconst 3, 1) := by decide +kernel
theorem d_R_init_55 : decode b_R_init 55 = .ok (.iconst 1, 1) := by decide +kernel
theorem d_R_init_56 : decode b_R_init 56 = .ok (.bastore, 1) := by decide +kernel
theorem d_R_init_57 : decode b_R_init 57 = .ok (.putfield 23, 3) := by decide +kernel
theorem d_R_init_60 : decode b_R_init 60 = .ok (.aload_n 0, 1) := by decide +kernel
theorem d_R_init_61 : decode b_R_init 61 = .ok (.bipush 100, 2) := by decide +kernel
theorem d_R_init_63 : decode b_R_init 63 = .ok (.newarray .int, 2) := by decide +kernel
theorem d_R_init_65 : decode b_R_init 65 = .ok (.putfield 27, 3) := by decide +kernel
theorem d_R_init_68 : decode b_R_init 68 = .ok (.aload_n 0, 1) := by decide +kernel
theorem d_R_init_69 : decode b_R_init 69 = .ok (.bipush 8, 2) := by decide +kernel
theorem d_R_init_71 : decode b_R_init 71 = .ok (.ldc2_w 30, 3) := by decide +kernel
theorem d_R_init_74 : decode b_R_init 74 = .ok (.ldc2_w 30, 3) := by decide +kernel
theorem d_R_init_77 : decode b_R_init 77 = .ok (.ldc2_w 30, 3) := by decide +kernel
theorem d_R_init_80 : decode b_R_init 80 = .ok (.ldc2_w 32, 3) := by decide +kernel
theorem d_R_init_83 : decode b_R_init 83 = .ok (.invokevirtual 34, 3) := by decide +kernel
end
section
/-! the instructions -/
theorem d_R_init_86 : decode b_R_init 86 = .ok (.aload_n 0, 1) := by decide +kernel
theorem d_R_init_87 : decode b_R_init 87 = .ok (.bipush 9, 2) := by decide +kernel
theorem d_R_init_89 : decode b_R_init 89 = .ok (.ldc2_w 30, 3) := by decide +kernel
theorem d_R_init_92 : decode b_R_init 92 = .ok (.ldc2_w 38, 3) := by decide +kernel
theorem d_R_init_95 : decode b_R_init 95 = .ok (.ldc2_w 40, 3) := by decide +kernel
theorem d_R_init_98 : decode b_R_init 98 = .ok (.ldc2_w 42, 3) := by decide +kernel
theorem d_R_init_101 : decode b_R_init 101 = .ok (.invokevirtual 34, 3) := by decide +kernel
theorem d_R_init_104 : decode b_R_init 104 = .ok (.aload_n 0, 1) := by decide +kernel
theorem d_R_init_105 : decode b_R_init 105 = .ok (.bipush 18, 2) := by decide +kernel
theorem d_R_init_107 : decode b_R_init 107 = .ok (.ldc2_w 44, 3) := by decide +kernel
theorem d_R_init_110 : decode b_R_init 110 = .ok (.ldc2_w 46, 3) := by decide +kernel
theorem d_R_init_113 : decode b_R_init 113 = .ok (.ldc2_w 48, 3) := by decide +kernel
theorem d_R_init_116 : decode b_R_init 116 = .ok (.ldc2_w 50, 3) := by decide +kernel
theorem d_R_init_119 : decode b_R_init 119 = .ok (.invokevirtual 34, 3) := by decide +kernel
theorem d_R_init_122 : decode b_R_init 122 = .ok (.aload_n 0, 1) := by decide +kernel
theorem d_R_init_123 : decode b_R_init 123 = .ok (.bipush 19, 2) := by decide +kernel
theorem d_R_init_125 : decode b_R_init 125 = .ok (.ldc2_w 52, 3) := by decide +kernel
theorem d_R_init_128 : decode b_R_init 128 = .ok (.ldc2_w 54, 3) := by decide +kernel
theorem d_R_init_131 : decode b_R_init 131 = .ok (.ldc2_w 56, 3) := by decide +kernel
theorem d_R_init_134 : decode b_R_init 134 = .ok (.ldc2_w 58, 3) := by decide +kernel
theorem d_R_init_137 : decode b_R_init 137 = .ok (.invokevirtual 34, 3) := by decide +kernel
theorem d_R_init_140 : decode b_R_init 140 = .ok (.aload_n 0, 1) := by decide +kernel
theorem d_R_init_141 : decode b_R_init 141 = .ok (.getfield 7, 3) := by decide +kernel
theorem d_R_init_144 : decode b_R_init 144 = .ok (.sipush 200, 3) := by decide +kernel
theorem d_R_init_147 : decode b_R_init 147 = .ok (.iconst 1, 1) := by decide +kernel
theorem d_R_init_148 : decode b_R_init 148 = .ok (.iastore, 1) := by decide +kernel
theorem d_R_init_149 : decode b_R_init 149 = .ok (.aload_n 0, 1) := by decide +kernel
theorem d_R_init_150 : decode b_R_init 150 = .ok (.getfield 7, 3) := by decide +kernel
theorem d_R_init_153 : decode b_R_init 153 = .ok (.sipush 210, 3) := by decide +kernel
theorem d_R_init_156 : decode b_R_init 156 = .ok (.bipush 7, 2) := by decide +kernel
theorem d_R_init_158 : decode b_R_init 158 = .ok (.iastore, 1) := by decide +kernel
theorem d_R_init_159 : decode b_R_init 159 = .ok (.iconst 0, 1) := by decide +kernel
theorem d_R_init_160 : decode b_R_init 160 = .ok (.istore_n 1, 1) := by decide +kernel
theorem d_R_init_161 : decode b_R_init 161 = .ok (.iload_n 1, 1) := by decide +kernel
theorem d_R_init_162 : decode b_R_init 162 = .ok (.iconst 2, 1) := by decide +kernel
theorem d_R_init_163 : decode b_R_init 163 = .ok (.if_icmp .ge 76, 3) := by decide +kernel
theorem d_R_init_166 : decode b_R_init 166 = .ok (.iconst 0, 1) := by decide +kernel
theorem d_R_init_167 : decode b_R_init 167 = .ok (.istore_n 2, 1) := by decide +kernel
theorem d_R_init_168 : decode b_R_init 168 = .ok (.iconst 0, 1) := by decide +kernel
theorem d_R_init_169 : decode b_R_init 169 = .ok (.istore_n 3, 1) := by decide +kernel
theorem d_R_init_170 : decode b_R_init 170 = .ok (.iload_n 3, 1) := by decide +kernel
theorem d_R_init_171 : decode b_R_init 171 = .ok (.bipush 10, 2) := by decide +kernel
theorem d_R_init_173 : decode b_R_init 173 = .ok (.if_icmp .ge 60, 3) := by decide +kernel
theorem d_R_init_176 : decode b_R_init 176 = .ok (.iload_n 2, 1) := by decide +kernel
theorem d_R_init_177 : decode b_R_init 177 = .ok (.aload_n 0, 1) := by decide +kernel
theorem d_R_init_178 : decode b_R_init 178 = .ok (.getfield 7, 3) := by decide +kernel
theorem d_R_init_181 : decode b_R_init 181 = .ok (.bipush 10, 2) := by decide +kernel
theorem d_R_init_183 : decode b_R_init 183 = .ok (.bipush 8, 2) := by decide +kernel
theorem d_R_init_185 : decode b_R_init 185 = .ok (.iload_n 1, 1) := by decide +kernel
theorem d_R_init_186 : decode b_R_init 186 = .ok (.iadd, 1) := by decide +kernel
theorem d_R_init_187 : decode b_R_init 187 = .ok (.imul, 1) := by decide +kernel
theorem d_R_init_188 : decode b_R_init 188 = .ok (.iload_n 3, 1) := by decide +kernel
theorem d_R_init_189 : decode b_R_init 189 = .ok (.iadd, 1) := by decide +kernel
theorem d_R_init_190 : decode b_R_init 190 = .ok (.iaload, 1) := by decide +kernel
theorem d_R_init_191 : decode b_R_init 191 = .ok (.isub, 1) := by decide +kernel
theorem d_R_init_192 : decode b_R_init 192 = .ok (.istore 4, 2) := by decide +kernel
theorem d_R_init_194 : decode b_R_init 194 = .ok (.aload_n 0, 1) := by decide +kernel
theorem d_R_init_195 : decode b_R_init 195 = .ok (.getfield 20, 3) := by decide +kernel
theorem d_R_init_198 : decode b_R_init 198 = .ok (.bipush 10, 2) := by decide +kernel
theorem d_R_init_200 : decode b_R_init 200 = .ok (.iload_n 1, 1) := by decide +kernel
theorem d_R_init_201 : decode b_R_init 201 = .ok (.imul, 1) := by decide +kernel
theorem d_R_init_202 : decode b_R_init 202 = .ok (.iload_n 3, 1) := by decide +kernel
theorem d_R_init_203 : decode b_R_init 203 = .ok (.iadd, 1) := by decide +kernel
theorem d_R_init_204 : decode b_R_init 204 = .ok (.iload 4, 2) := by decide +kernel
theorem d_R_init_206 : decode b_R_init 206 = .ok (.iload_n 3, 1) := by decide +kernel
theorem d_R_init_207 : decode b_R_init 207 = .ok (.bipush 9, 2) := by decide +kernel
theorem d_R_init_209 : decode b_R_init 209 = .ok (.if_icmp .ge 8, 3) := by decide +kernel
theorem d_R_init_212 : decode b_R_init 212 = .ok (.ldc 60, 2) := by decide +kernel
theorem d_R_init_214 : decode b_R_init 214 = .ok (.goto 5, 3) := by decide +kernel
theorem d_R_init_217 : decode b_R_init 217 = .ok (.ldc 61, 2) := by decide +kernel
theorem d_R_init_219 : decode b_R_init 219 = .ok (.iand, 1) := by decide +kernel
theorem d_R_init_220 : decode b_R_init 220 = .ok (.iastore, 1) := by decide +kernel
theorem d_R_init_221 : decode b_R_init 221 = .ok (.iload 4, 2) := by decide +kernel
theorem d_R_init_223 : decode b_R_init 223 = .ok (.bipush 26, 2) := by decide +kernel
theorem d_R_init_225 : decode b_R_init 225 = .ok (.ishr, 1) := by decide +kernel
theorem d_R_init_226 : decode b_R_init 226 = .ok (.istore_n 2, 1) := by decide +kernel
theorem d_R_init_227 : decode b_R_init 227 = .ok (.iinc 3 1, 3) := by decide +kernel
theorem d_R_init_230 : decode b_R_init 230 = .ok (.goto (-60), 3) := by decide +kernel
theorem d_R_init_233 : decode b_R_init 233 = .ok (.iinc 1 1, 3) := by decide +kernel
theorem d_R_init_236 : decode b_R_init 236 = .ok (.goto (-75), 3) := by decide +kernel
theorem d_R_init_239 : decode b_R_init 239 = .ok (.return_, 1) := by decide +kernel
theorem d_R_wordOf_0 : decode b_R_wordOf 0 = .ok (.iload_n 0, 1) := by decide +kernel
theorem d_R_wordOf_1 : decode b_R_wordOf 1 = .ok (.ifCond .ne 8, 3) := by decide +kernel
theorem d_R_wordOf_4 : decode b_R_wordOf 4 = .ok (.lload 7, 2) := by decide +kernel
theorem d_R_wordOf_6 : decode b_R_wordOf 6 = .ok (.goto 23, 3) := by decide +kernel
theorem d_R_wordOf_9 : decode b_R_wordOf 9 = .ok (.iload_n 0, 1) := by decide +kernel
theorem d_R_wordOf_10 : decode b_R_wordOf 10 = .ok (.iconst 1, 1) := by decide +kernel
theorem d_R_wordOf_11 : decode b_R_wordOf 11 = .ok (.if_icmp .ne 8, 3) := by decide +kernel
theorem d_R_wordOf_14 : decode b_R_wordOf 14 = .ok (.lload 5, 2) := by decide +kernel
theorem d_R_wordOf_16 : decode b_R_wordOf 16 = .ok (.goto 13, 3) := by decide +kernel
theorem d_R_wordOf_19 : decode b_R_wordOf 19 = .ok (.iload_n 0, 1) := by decide +kernel
theorem d_R_wordOf_20 : decode b_R_wordOf 20 = .ok (.iconst 2, 1) := by decide +kernel
theorem d_R_wordOf_21 : decode b_R_wordOf 21 = .ok (.if_icmp .ne 7, 3) := by decide +kernel
theorem d_R_wordOf_24 : decode b_R_wordOf 24 = .ok (.lload_n 3, 1) := by decide +kernel
theorem d_R_wordOf_25 : decode b_R_wordOf 25 = .ok (.goto 4, 3) := by decide +kernel
theorem d_R_wordOf_28 : decode b_R_wordOf 28 = .ok (.lload_n 1, 1) := by decide +kernel
theorem d_R_wordOf_29 : decode b_R_wordOf 29 = .ok (.lreturn, 1) := by decide +kernel
theorem d_R_write_0 : decode b_R_write 0 = .ok (.aload_n 0, 1) := by decide +kernel
theorem d_R_write_1 : decode b_R_write 1 = .ok (.iload_n 1, 1) := by decide +kernel
theorem d_R_write_2 : decode b_R_write 2 = .ok (.invokevirtual 62, 3) := by decide +kernel
theorem d_R_write_5 : decode b_R_write 5 = .ok (.iconst 0, 1) := by decide +kernel
theorem d_R_write_6 : decode b_R_write 6 = .ok (.istore 10, 2) := by decide +kernel
theorem d_R_write_8 : decode b_R_write 8 = .ok (.iload 10, 2) := by decide +kernel
theorem d_R_write_10 : decode b_R_write 10 = .ok (.sipush 256, 3) := by decide +kernel
theorem d_R_write_13 : decode b_R_write 13 = .ok (.if_icmp .ge 61, 3) := by decide +kernel
theorem d_R_write_16 : decode b_R_write 16 = .ok (.iload 10, 2) := by decide +kernel
theorem d_R_write_18 : decode b_R_write 18 = .ok (.bipush 64, 2) := by decide +kernel
theorem d_R_write_20 : decode b_R_write 20 = .ok (.idiv, 1) := by decide +kernel
theorem d_R_write_21 : decode b_R_write 21 = .ok (.lload_n 2, 1) := by decide +kernel
theorem d_R_write_22 : decode b_R_write 22 = .ok (.lload 4, 2) := by decide +kernel
theorem d_R_write_24 : decode b_R_write 24 = .ok (.lload 6, 2) := by decide +kernel
theorem d_R_write_26 : decode b_R_write 26 = .ok (.lload 8, 2) := by decide +kernel
theorem d_R_write_28 : decode b_R_write 28 = .ok (.invokestatic 66, 3) := by decide +kernel
theorem d_R_write_31 : decode b_R_write 31 = .ok (.iload 10, 2) := by decide +kernel
theorem d_R_write_33 : decode b_R_write 33 = .ok (.bipush 64, 2) := by decide +kernel
theorem d_R_write_35 : decode b_R_write 35 = .ok (.irem, 1) := by decide +kernel
theorem d_R_write_36 : decode b_R_write 36 = .ok (.lshr, 1) := by decide +kernel
theorem d_R_write_37 : decode b_R_write 37 = .ok (.lconst 1, 1) := by decide +kernel
theorem d_R_write_38 : decode b_R_write 38 = .ok (.land, 1) := by decide +kernel
theorem d_R_write_39 : decode b_R_write 39 = .ok (.lstore 11, 2) := by decide +kernel
theorem d_R_write_41 : decode b_R_write 41 = .ok (.aload_n 0, 1) := by decide +kernel
theorem d_R_write_42 : decode b_R_write 42 = .ok (.getfield 7, 3) := by decide +kernel
theorem d_R_write_45 : decode b_R_write 45 = .ok (.bipush 10, 2) := by decide +kernel
theorem d_R_write_47 : decode b_R_write 47 = .ok (.iload_n 1, 1) := by decide +kernel
theorem d_R_write_48 : decode b_R_write 48 = .ok (.imul, 1) := by decide +kernel
theorem d_R_write_49 : decode b_R_write 49 = .ok (.iload 10, 2) := by decide +kernel
theorem d_R_write_51 : decode b_R_write 51 = .ok (.bipush 26, 2) := by decide +kernel
theorem d_R_write_53 : decode b_R_write 53 = .ok (.idiv, 1) := by decide +kernel
theorem d_R_write_54 : decode b_R_write 54 = .ok (.iadd, 1) := by decide +kernel
theorem d_R_write_55 : decode b_R_write 55 = .ok (.dup2, 1) := by decide +kernel
theorem d_R_write_56 : decode b_R_write 56 = .ok (.iaload, 1) := by decide +kernel
theorem d_R_write_57 : decode b_R_write 57 = .ok (.lload 11, 2) := by decide +kernel
theorem d_R_write_59 : decode b_R_write 59 = .ok (.l2i, 1) := by decide +kernel
theorem d_R_write_60 : decode b_R_write 60 = .ok (.iload 10, 2) := by decide +kernel
theorem d_R_write_62 : decode b_R_write 62 = .ok (.bipush 26, 2) := by decide +kernel
theorem d_R_write_64 : decode b_R_write 64 = .ok (.irem, 1) := by decide +kernel
theorem d_R_write_65 : decode b_R_write 65 = .ok (.ishl, 1) := by decide +kernel
theorem d_R_write_66 : decode b_R_write 66 = .ok (.ior, 1) := by decide +kernel
theorem d_R_write_67 : decode b_R_write 67 = .ok (.iastore, 1) := by decide +kernel
theorem d_R_write_68 : decode b_R_write 68 = .ok (.iinc 10 1, 3) := by decide +kernel
theorem d_R_write_71 : decode b_R_write 71 = .ok (.goto (-63), 3) := by decide +kernel
theorem d_R_write_74 : decode b_R_write 74 = .ok (.return_, 1) := by decide +kernel
theorem d_R_copy_0 : decode b_R_copy 0 = .ok (.iconst 0, 1) := by decide +kernel
theorem d_R_copy_1 : decode b_R_copy 1 = .ok (.istore_n 3, 1) := by decide +kernel
theorem d_R_copy_2 : decode b_R_copy 2 = .ok (.iload_n 3, 1) := by decide +kernel
theorem d_R_copy_3 : decode b_R_copy 3 = .ok (.bipush 10, 2) := by decide +kernel
theorem d_R_copy_5 : decode b_R_copy 5 = .ok (.if_icmp .ge 31, 3) := by decide +kernel
theorem d_R_copy_8 : decode b_R_copy 8 = .ok (.aload_n 0, 1) := by decide +kernel
theorem d_R_copy_9 : decode b_R_copy 9 = .ok (.getfield 7, 3) := by decide +kernel
theorem d_R_copy_12 : decode b_R_copy 12 = .ok (.bipush 10, 2) := by decide +kernel
theorem d_R_copy_14 : decode b_R_copy 14 = .ok (.iload_n 1, 1) := by decide +kernel
theorem d_R_copy_15 : decode b_R_copy 15 = .ok (.imul, 1) := by decide +kernel
theorem d_R_copy_16 : decode b_R_copy 16 = .ok (.iload_n 3, 1) := by decide +kernel
theorem d_R_copy_17 : decode b_R_copy 17 = .ok (.iadd, 1) := by decide +kernel
theorem d_R_copy_18 : decode b_R_copy 18 = .ok (.aload_n 0, 1) := by decide +kernel
theorem d_R_copy_19 : decode b_R_copy 19 = .ok (.getfield 7, 3) := by decide +kernel
theorem d_R_copy_22 : decode b_R_copy 22 = .ok (.bipush 10, 2) := by decide +kernel
theorem d_R_copy_24 : decode b_R_copy 24 = .ok (.iload_n 2, 1) := by decide +kernel
theorem d_R_copy_25 : decode b_R_copy 25 = .ok (.imul, 1) := by decide +kernel
theorem d_R_copy_26 : decode b_R_copy 26 = .ok (.iload_n 3, 1) := by decide +kernel
theorem d_R_copy_27 : decode b_R_copy 27 = .ok (.iadd, 1) := by decide +kernel
theorem d_R_copy_28 : decode b_R_copy 28 = .ok (.iaload, 1) := by decide +kernel
theorem d_R_copy_29 : decode b_R_copy 29 = .ok (.iastore, 1) := by decide +kernel
theorem d_R_copy_30 : decode b_R_copy 30 = .ok (.iinc 3 1, 3) := by decide +kernel
theorem d_R_copy_33 : decode b_R_copy 33 = .ok (.goto (-31), 3) := by decide +kernel
theorem d_R_copy_36 : decode b_R_copy 36 = .ok (.return_, 1) := by decide +kernel
theorem d_R_nothing_0 : decode b_R_nothing 0 = .ok (.iconst 0, 1) := by decide +kernel
theorem d_R_nothing_1 : decode b_R_nothing 1 = .ok (.istore_n 2, 1) := by decide +kernel
theorem d_R_nothing_2 : decode b_R_nothing 2 = .ok (.iload_n 2, 1) := by decide +kernel
theorem d_R_nothing_3 : decode b_R_nothing 3 = .ok (.bipush 10, 2) := by decide +kernel
theorem d_R_nothing_5 : decode b_R_nothing 5 = .ok (.if_icmp .ge 21, 3) := by decide +kernel
theorem d_R_nothing_8 : decode b_R_nothing 8 = .ok (.aload_n 0, 1) := by decide +kernel
theorem d_R_nothing_9 : decode b_R_nothing 9 = .ok (.getfield 7, 3) := by decide +kernel
theorem d_R_nothing_12 : decode b_R_nothing 12 = .ok (.bipush 10, 2) := by decide +kernel
theorem d_R_nothing_14 : decode b_R_nothing 14 = .ok (.iload_n 1, 1) := by decide +kernel
theorem d_R_nothing_15 : decode b_R_nothing 15 = .ok (.imul, 1) := by decide +kernel
theorem d_R_nothing_16 : decode b_R_nothing 16 = .ok (.iload_n 2, 1) := by decide +kernel
theorem d_R_nothing_17 : decode b_R_nothing 17 = .ok (.iadd, 1) := by decide +kernel
theorem d_R_nothing_18 : decode b_R_nothing 18 = .ok (.iconst 0, 1) := by decide +kernel
theorem d_R_nothing_19 : decode b_R_nothing 19 = .ok (.iastore, 1) := by decide +kernel
theorem d_R_nothing_20 : decode b_R_nothing 20 = .ok (.iinc 2 1, 3) := by decide +kernel
theorem d_R_nothing_23 : decode b_R_nothing 23 = .ok (.goto (-21), 3) := by decide +kernel
theorem d_R_nothing_26 : decode b_R_nothing 26 = .ok (.return_, 1) := by decide +kernel
theorem d_R_compare_0 : decode b_R_compare 0 = .ok (.bipush 9, 2) := by decide +kernel
theorem d_R_compare_2 : decode b_R_compare 2 = .ok (.istore_n 3, 1) := by decide +kernel
theorem d_R_compare_3 : decode b_R_compare 3 = .ok (.iload_n 3, 1) := by decide +kernel
theorem d_R_compare_4 : decode b_R_compare 4 = .ok (.ifCond .le 34, 3) := by decide +kernel
theorem d_R_compare_7 : decode b_R_compare 7 = .ok (.aload_n 0, 1) := by decide +kernel
theorem d_R_compare_8 : decode b_R_compare 8 = .ok (.getfield 7, 3) := by decide +kernel
theorem d_R_compare_11 : decode b_R_compare 11 = .ok (.bipush 10, 2) := by decide +kernel
theorem d_R_compare_13 : decode b_R_compare 13 = .ok (.iload_n 1, 1) := by decide +kernel
theorem d_R_compare_14 : decode b_R_compare 14 = .ok (.imul, 1) := by decide +kernel
theorem d_R_compare_15 : decode b_R_compare 15 = .ok (.iload_n 3, 1) := by decide +kernel
theorem d_R_compare_16 : decode b_R_compare 16 = .ok (.iadd, 1) := by decide +kernel
theorem d_R_compare_17 : decode b_R_compare 17 = .ok (.iaload, 1) := by decide +kernel
theorem d_R_compare_18 : decode b_R_compare 18 = .ok (.aload_n 0, 1) := by decide +kernel
theorem d_R_compare_19 : decode b_R_compare 19 = .ok (.getfield 7, 3) := by decide +kernel
theorem d_R_compare_22 : decode b_R_compare 22 = .ok (.bipush 10, 2) := by decide +kernel
theorem d_R_compare_24 : decode b_R_compare 24 = .ok (.iload_n 2, 1) := by decide +kernel
theorem d_R_compare_25 : decode b_R_compare 25 = .ok (.imul, 1) := by decide +kernel
theorem d_R_compare_26 : decode b_R_compare 26 = .ok (.iload_n 3, 1) := by decide +kernel
theorem d_R_compare_27 : decode b_R_compare 27 = .ok (.iadd, 1) := by decide +kernel
theorem d_R_compare_28 : decode b_R_compare 28 = .ok (.iaload, 1) := by decide +kernel
theorem d_R_compare_29 : decode b_R_compare 29 = .ok (.if_icmp .ne 9, 3) := by decide +kernel
theorem d_R_compare_32 : decode b_R_compare 32 = .ok (.iinc 3 (-1), 3) := by decide +kernel
theorem d_R_compare_35 : decode b_R_compare 35 = .ok (.goto (-32), 3) := by decide +kernel
theorem d_R_compare_38 : decode b_R_compare 38 = .ok (.aload_n 0, 1) := by decide +kernel
theorem d_R_compare_39 : decode b_R_compare 39 = .ok (.getfield 7, 3) := by decide +kernel
theorem d_R_compare_42 : decode b_R_compare 42 = .ok (.bipush 10, 2) := by decide +kernel
theorem d_R_compare_44 : decode b_R_compare 44 = .ok (.iload_n 1, 1) := by decide +kernel
theorem d_R_compare_45 : decode b_R_compare 45 = .ok (.imul, 1) := by decide +kernel
theorem d_R_compare_46 : decode b_R_compare 46 = .ok (.iload_n 3, 1) := by decide +kernel
theorem d_R_compare_47 : decode b_R_compare 47 = .ok (.iadd, 1) := by decide +kernel
theorem d_R_compare_48 : decode b_R_compare 48 = .ok (.iaload, 1) := by decide +kernel
theorem d_R_compare_49 : decode b_R_compare 49 = .ok (.istore 4, 2) := by decide +kernel
theorem d_R_compare_51 : decode b_R_compare 51 = .ok (.aload_n 0, 1) := by decide +kernel
theorem d_R_compare_52 : decode b_R_compare 52 = .ok (.getfield 7, 3) := by decide +kernel
theorem d_R_compare_55 : decode b_R_compare 55 = .ok (.bipush 10, 2) := by decide +kernel
theorem d_R_compare_57 : decode b_R_compare 57 = .ok (.iload_n 2, 1) := by decide +kernel
theorem d_R_compare_58 : decode b_R_compare 58 = .ok (.imul, 1) := by decide +kernel
theorem d_R_compare_59 : decode b_R_compare 59 = .ok (.iload_n 3, 1) := by decide +kernel
theorem d_R_compare_60 : decode b_R_compare 60 = .ok (.iadd, 1) := by decide +kernel
theorem d_R_compare_61 : decode b_R_compare 61 = .ok (.iaload, 1) := by decide +kernel
theorem d_R_compare_62 : decode b_R_compare 62 = .ok (.istore 5, 2) := by decide +kernel
theorem d_R_compare_64 : decode b_R_compare 64 = .ok (.iload 4, 2) := by decide +kernel
theorem d_R_compare_66 : decode b_R_compare 66 = .ok (.iload 5, 2) := by decide +kernel
theorem d_R_compare_68 : decode b_R_compare 68 = .ok (.if_icmp .ge 7, 3) := by decide +kernel
theorem d_R_compare_71 : decode b_R_compare 71 = .ok (.iconst (-1), 1) := by decide +kernel
theorem d_R_compare_72 : decode b_R_compare 72 = .ok (.goto 15, 3) := by decide +kernel
theorem d_R_compare_75 : decode b_R_compare 75 = .ok (.iload 4, 2) := by decide +kernel
theorem d_R_compare_77 : decode b_R_compare 77 = .ok (.iload 5, 2) := by decide +kernel
theorem d_R_compare_79 : decode b_R_compare 79 = .ok (.if_icmp .le 7, 3) := by decide +kernel
theorem d_R_compare_82 : decode b_R_compare 82 = .ok (.iconst 1, 1) := by decide +kernel
theorem d_R_compare_83 : decode b_R_compare 83 = .ok (.goto 4, 3) := by decide +kernel
theorem d_R_compare_86 : decode b_R_compare 86 = .ok (.iconst 0, 1) := by decide +kernel
theorem d_R_compare_87 : decode b_R_compare 87 = .ok (.ireturn, 1) := by decide +kernel
theorem d_R_isNothing_0 : decode b_R_isNothing 0 = .ok (.iconst 1, 1) := by decide +kernel
theorem d_R_isNothing_1 : decode b_R_isNothing 1 = .ok (.istore_n 2, 1) := by decide +kernel
theorem d_R_isNothing_2 : decode b_R_isNothing 2 = .ok (.iconst 0, 1) := by decide +kernel
theorem d_R_isNothing_3 : decode b_R_isNothing 3 = .ok (.istore_n 3, 1) := by decide +kernel
theorem d_R_isNothing_4 : decode b_R_isNothing 4 = .ok (.iload_n 3, 1) := by decide +kernel
theorem d_R_isNothing_5 : decode b_R_isNothing 5 = .ok (.bipush 10, 2) := by decide +kernel
theorem d_R_isNothing_7 : decode b_R_isNothing 7 = .ok (.if_icmp .ge 33, 3) := by decide +kernel
theorem d_R_isNothing_10 : decode b_R_isNothing 10 = .ok (.iload_n 2, 1) := by decide +kernel
theorem d_R_isNothing_11 : decode b_R_isNothing 11 = .ok (.ifCond .eq 29, 3) := by decide +kernel
theorem d_R_isNothing_14 : decode b_R_isNothing 14 = .ok (.aload_n 0, 1) := by decide +kernel
theorem d_R_isNothing_15 : decode b_R_isNothing 15 = .ok (.getfield 7, 3) := by decide +kernel
theorem d_R_isNothing_18 : decode b_R_isNothing 18 = .ok (.bipush 10, 2) := by decide +kernel
theorem d_R_isNothing_20 : decode b_R_isNothing 20 = .ok (.iload_n 1, 1) := by decide +kernel
theorem d_R_isNothing_21 : decode b_R_isNothing 21 = .ok (.imul, 1) := by decide +kernel
theorem d_R_isNothing_22 : decode b_R_isNothing 22 = .ok (.iload_n 3, 1) := by decide +kernel
theorem d_R_isNothing_23 : decode b_R_isNothing 23 = .ok (.iadd, 1) := by decide +kernel
theorem d_R_isNothing_24 : decode b_R_isNothing 24 = .ok (.iaload, 1) := by decide +kernel
theorem d_R_isNothing_25 : decode b_R_isNothing 25 = .ok (.ifCond .ne 7, 3) := by decide +kernel
theorem d_R_isNothing_28 : decode b_R_isNothing 28 = .ok (.iconst 1, 1) := by decide +kernel
theorem d_R_isNothing_29 : decode b_R_isNothing 29 = .ok (.goto 4, 3) := by decide +kernel
theorem d_R_isNothing_32 : decode b_R_isNothing 32 = .ok (.iconst 0, 1) := by decide +kernel
theorem d_R_isNothing_33 : decode b_R_isNothing 33 = .ok (.istore_n 2, 1) := by decide +kernel
theorem d_R_isNothing_34 : decode b_R_isNothing 34 = .ok (.iinc 3 1, 3) := by decide +kernel
theorem d_R_isNothing_37 : decode b_R_isNothing 37 = .ok (.goto (-33), 3) := by decide +kernel
theorem d_R_isNothing_40 : decode b_R_isNothing 40 = .ok (.iload_n 2, 1) := by decide +kernel
theorem d_R_isNothing_41 : decode b_R_isNothing 41 = .ok (.ireturn, 1) := by decide +kernel
theorem d_R_add_0 : decode b_R_add 0 = .ok (.iconst 0, 1) := by decide +kernel
theorem d_R_add_1 : decode b_R_add 1 = .ok (.istore 4, 2) := by decide +kernel
theorem d_R_add_3 : decode b_R_add 3 = .ok (.iconst 0, 1) := by decide +kernel
theorem d_R_add_4 : decode b_R_add 4 = .ok (.istore 5, 2) := by decide +kernel
theorem d_R_add_6 : decode b_R_add 6 = .ok (.iload 5, 2) := by decide +kernel
theorem d_R_add_8 : decode b_R_add 8 = .ok (.bipush 10, 2) := by decide +kernel
theorem d_R_add_10 : decode b_R_add 10 = .ok (.if_icmp .ge 65, 3) := by decide +kernel
theorem d_R_add_13 : decode b_R_add 13 = .ok (.aload_n 0, 1) := by decide +kernel
theorem d_R_add_14 : decode b_R_add 14 = .ok (.getfield 7, 3) := by decide +kernel
theorem d_R_add_17 : decode b_R_add 17 = .ok (.bipush 10, 2) := by decide +kernel
theorem d_R_add_19 : decode b_R_add 19 = .ok (.iload_n 1, 1) := by decide +kernel
theorem d_R_add_20 : decode b_R_add 20 = .ok (.imul, 1) := by decide +kernel
theorem d_R_add_21 : decode b_R_add 21 = .ok (.iload 5, 2) := by decide +kernel
theorem d_R_add_23 : decode b_R_add 23 = .ok (.iadd, 1) := by decide +kernel
theorem d_R_add_24 : decode b_R_add 24 = .ok (.iaload, 1) := by decide +kernel
theorem d_R_add_25 : decode b_R_add 25 = .ok (.iload_n 3, 1) := by decide +kernel
theorem d_R_add_26 : decode b_R_add 26 = .ok (.aload_n 0, 1) := by decide +kernel
theorem d_R_add_27 : decode b_R_add 27 = .ok (.getfield 7, 3) := by decide +kernel
theorem d_R_add_30 : decode b_R_add 30 = .ok (.bipush 10, 2) := by decide +kernel
theorem d_R_add_32 : decode b_R_add 32 = .ok (.iload_n 2, 1) := by decide +kernel
theorem d_R_add_33 : decode b_R_add 33 = .ok (.imul, 1) := by decide +kernel
theorem d_R_add_34 : decode b_R_add 34 = .ok (.iload 5, 2) := by decide +kernel
theorem d_R_add_36 : decode b_R_add 36 = .ok (.iadd, 1) := by decide +kernel
theorem d_R_add_37 : decode b_R_add 37 = .ok (.iaload, 1) := by decide +kernel
theorem d_R_add_38 : decode b_R_add 38 = .ok (.imul, 1) := by decide +kernel
theorem d_R_add_39 : decode b_R_add 39 = .ok (.iadd, 1) := by decide +kernel
theorem d_R_add_40 : decode b_R_add 40 = .ok (.iload 4, 2) := by decide +kernel
theorem d_R_add_42 : decode b_R_add 42 = .ok (.iadd, 1) := by decide +kernel
theorem d_R_add_43 : decode b_R_add 43 = .ok (.istore 6, 2) := by decide +kernel
theorem d_R_add_45 : decode b_R_add 45 = .ok (.aload_n 0, 1) := by decide +kernel
theorem d_R_add_46 : decode b_R_add 46 = .ok (.getfield 7, 3) := by decide +kernel
theorem d_R_add_49 : decode b_R_add 49 = .ok (.bipush 10, 2) := by decide +kernel
theorem d_R_add_51 : decode b_R_add 51 = .ok (.iload_n 1, 1) := by decide +kernel
theorem d_R_add_52 : decode b_R_add 52 = .ok (.imul, 1) := by decide +kernel
theorem d_R_add_53 : decode b_R_add 53 = .ok (.iload 5, 2) := by decide +kernel
theorem d_R_add_55 : decode b_R_add 55 = .ok (.iadd, 1) := by decide +kernel
theorem d_R_add_56 : decode b_R_add 56 = .ok (.iload 6, 2) := by decide +kernel
theorem d_R_add_58 : decode b_R_add 58 = .ok (.ldc 60, 2) := by decide +kernel
theorem d_R_add_60 : decode b_R_add 60 = .ok (.iand, 1) := by decide +kernel
theorem d_R_add_61 : decode b_R_add 61 = .ok (.iastore, 1) := by decide +kernel
theorem d_R_add_62 : decode b_R_add 62 = .ok (.iload 6, 2) := by decide +kernel
theorem d_R_add_64 : decode b_R_add 64 = .ok (.bipush 26, 2) := by decide +kernel
theorem d_R_add_66 : decode b_R_add 66 = .ok (.ishr, 1) := by decide +kernel
theorem d_R_add_67 : decode b_R_add 67 = .ok (.istore 4, 2) := by decide +kernel
theorem d_R_add_69 : decode b_R_add 69 = .ok (.iinc 5 1, 3) := by decide +kernel
theorem d_R_add_72 : decode b_R_add 72 = .ok (.goto (-66), 3) := by decide +kernel
theorem d_R_add_75 : decode b_R_add 75 = .ok (.return_, 1) := by decide +kernel
theorem d_R_isOdd_0 : decode b_R_isOdd 0 = .ok (.aload_n 0, 1) := by decide +kernel
theorem d_R_isOdd_1 : decode b_R_isOdd 1 = .ok (.getfield 7, 3) := by decide +kernel
theorem d_R_isOdd_4 : decode b_R_isOdd 4 = .ok (.bipush 10, 2) := by decide +kernel
theorem d_R_isOdd_6 : decode b_R_isOdd 6 = .ok (.iload_n 1, 1) := by decide +kernel
theorem d_R_isOdd_7 : decode b_R_isOdd 7 = .ok (.imul, 1) := by decide +kernel
theorem d_R_isOdd_8 : decode b_R_isOdd 8 = .ok (.iaload, 1) := by decide +kernel
theorem d_R_isOdd_9 : decode b_R_isOdd 9 = .ok (.iconst 2, 1) := by decide +kernel
theorem d_R_isOdd_10 : decode b_R_isOdd 10 = .ok (.irem, 1) := by decide +kernel
theorem d_R_isOdd_11 : decode b_R_isOdd 11 = .ok (.iconst 1, 1) := by decide +kernel
theorem d_R_isOdd_12 : decode b_R_isOdd 12 = .ok (.if_icmp .ne 7, 3) := by decide +kernel
theorem d_R_isOdd_15 : decode b_R_isOdd 15 = .ok (.iconst 1, 1) := by decide +kernel
theorem d_R_isOdd_16 : decode b_R_isOdd 16 = .ok (.goto 4, 3) := by decide +kernel
theorem d_R_isOdd_19 : decode b_R_isOdd 19 = .ok (.iconst 0, 1) := by decide +kernel
theorem d_R_isOdd_20 : decode b_R_isOdd 20 = .ok (.ireturn, 1) := by decide +kernel
theorem d_R_bit_0 : decode b_R_bit 0 = .ok (.aload_n 0, 1) := by decide +kernel
theorem d_R_bit_1 : decode b_R_bit 1 = .ok (.getfield 7, 3) := by decide +kernel
theorem d_R_bit_4 : decode b_R_bit 4 = .ok (.bipush 10, 2) := by decide +kernel
theorem d_R_bit_6 : decode b_R_bit 6 = .ok (.iload_n 1, 1) := by decide +kernel
theorem d_R_bit_7 : decode b_R_bit 7 = .ok (.imul, 1) := by decide +kernel
theorem d_R_bit_8 : decode b_R_bit 8 = .ok (.iload_n 2, 1) := by decide +kernel
theorem d_R_bit_9 : decode b_R_bit 9 = .ok (.bipush 26, 2) := by decide +kernel
theorem d_R_bit_11 : decode b_R_bit 11 = .ok (.idiv, 1) := by decide +kernel
theorem d_R_bit_12 : decode b_R_bit 12 = .ok (.iadd, 1) := by decide +kernel
theorem d_R_bit_13 : decode b_R_bit 13 = .ok (.iaload, 1) := by decide +kernel
theorem d_R_bit_14 : decode b_R_bit 14 = .ok (.iload_n 2, 1) := by decide +kernel
theorem d_R_bit_15 : decode b_R_bit 15 = .ok (.bipush 26, 2) := by decide +kernel
theorem d_R_bit_17 : decode b_R_bit 17 = .ok (.irem, 1) := by decide +kernel
theorem d_R_bit_18 : decode b_R_bit 18 = .ok (.ishr, 1) := by decide +kernel
theorem d_R_bit_19 : decode b_R_bit 19 = .ok (.iconst 1, 1) := by decide +kernel
theorem d_R_bit_20 : decode b_R_bit 20 = .ok (.iand, 1) := by decide +kernel
theorem d_R_bit_21 : decode b_R_bit 21 = .ok (.iconst 1, 1) := by decide +kernel
theorem d_R_bit_22 : decode b_R_bit 22 = .ok (.if_icmp .ne 7, 3) := by decide +kernel
theorem d_R_bit_25 : decode b_R_bit 25 = .ok (.iconst 1, 1) := by decide +kernel
theorem d_R_bit_26 : decode b_R_bit 26 = .ok (.goto 4, 3) := by decide +kernel
theorem d_R_bit_29 : decode b_R_bit 29 = .ok (.iconst 0, 1) := by decide +kernel
theorem d_R_bit_30 : decode b_R_bit 30 = .ok (.ireturn, 1) := by decide +kernel
theorem d_R_plus_0 : decode b_R_plus 0 = .ok (.aload_n 0, 1) := by decide +kernel
theorem d_R_plus_1 : decode b_R_plus 1 = .ok (.bipush 37, 2) := by decide +kernel
theorem d_R_plus_3 : decode b_R_plus 3 = .ok (.iload_n 2, 1) := by decide +kernel
theorem d_R_plus_4 : decode b_R_plus 4 = .ok (.invokevirtual 70, 3) := by decide +kernel
theorem d_R_plus_7 : decode b_R_plus 7 = .ok (.aload_n 0, 1) := by decide +kernel
theorem d_R_plus_8 : decode b_R_plus 8 = .ok (.bipush 37, 2) := by decide +kernel
theorem d_R_plus_10 : decode b_R_plus 10 = .ok (.iload_n 3, 1) := by decide +kernel
theorem d_R_plus_11 : decode b_R_plus 11 = .ok (.iconst 1, 1) := by decide +kernel
theorem d_R_plus_12 : decode b_R_plus 12 = .ok (.invokevirtual 74, 3) := by decide +kernel
theorem d_R_plus_15 : decode b_R_plus 15 = .ok (.aload_n 0, 1) := by decide +kernel
theorem d_R_plus_16 : decode b_R_plus 16 = .ok (.bipush 37, 2) := by decide +kernel
theorem d_R_plus_18 : decode b_R_plus 18 = .ok (.iload 4, 2) := by decide +kernel
theorem d_R_plus_20 : decode b_R_plus 20 = .ok (.invokevirtual 78, 3) := by decide +kernel
theorem d_R_plus_23 : decode b_R_plus 23 = .ok (.ifCond .lt 12, 3) := by decide +kernel
theorem d_R_plus_26 : decode b_R_plus 26 = .ok (.aload_n 0, 1) := by decide +kernel
theorem d_R_plus_27 : decode b_R_plus 27 = .ok (.bipush 37, 2) := by decide +kernel
theorem d_R_plus_29 : decode b_R_plus 29 = .ok (.iload 4, 2) := by decide +kernel
theorem d_R_plus_31 : decode b_R_plus 31 = .ok (.iconst (-1), 1) := by decide +kernel
theorem d_R_plus_32 : decode b_R_plus 32 = .ok (.invokevirtual 74, 3) := by decide +kernel
theorem d_R_plus_35 : decode b_R_plus 35 = .ok (.aload_n 0, 1) := by decide +kernel
theorem d_R_plus_36 : decode b_R_plus 36 = .ok (.iload_n 1, 1) := by decide +kernel
theorem d_R_plus_37 : decode b_R_plus 37 = .ok (.bipush 37, 2) := by decide +kernel
theorem d_R_plus_39 : decode b_R_plus 39 = .ok (.invokevirtual 70, 3) := by decide +kernel
theorem d_R_plus_42 : decode b_R_plus 42 = .ok (.return_, 1) := by decide +kernel
theorem d_R_minus_0 : decode b_R_minus 0 = .ok (.aload_n 0, 1) := by decide +kernel
theorem d_R_minus_1 : decode b_R_minus 1 = .ok (.bipush 37, 2) := by decide +kernel
theorem d_R_minus_3 : decode b_R_minus 3 = .ok (.iload_n 2, 1) := by decide +kernel
theorem d_R_minus_4 : decode b_R_minus 4 = .ok (.invokevirtual 70, 3) := by decide +kernel
theorem d_R_minus_7 : decode b_R_minus 7 = .ok (.aload_n 0, 1) := by decide +kernel
theorem d_R_minus_8 : decode b_R_minus 8 = .ok (.bipush 37, 2) := by decide +kernel
theorem d_R_minus_10 : decode b_R_minus 10 = .ok (.iload_n 3, 1) := by decide +kernel
theorem d_R_minus_11 : decode b_R_minus 11 = .ok (.invokevirtual 78, 3) := by decide +kernel
theorem d_R_minus_14 : decode b_R_minus 14 = .ok (.ifCond .ge 12, 3) := by decide +kernel
theorem d_R_minus_17 : decode b_R_minus 17 = .ok (.aload_n 0, 1) := by decide +kernel
theorem d_R_minus_18 : decode b_R_minus 18 = .ok (.bipush 37, 2) := by decide +kernel
theorem d_R_minus_20 : decode b_R_minus 20 = .ok (.iload 4, 2) := by decide +kernel
theorem d_R_minus_22 : decode b_R_minus 22 = .ok (.iconst 1, 1) := by decide +kernel
theorem d_R_minus_23 : decode b_R_minus 23 = .ok (.invokevirtual 74, 3) := by decide +kernel
theorem d_R_minus_26 : decode b_R_minus 26 = .ok (.aload_n 0, 1) := by decide +kernel
theorem d_R_minus_27 : decode b_R_minus 27 = .ok (.bipush 37, 2) := by decide +kernel
theorem d_R_minus_29 : decode b_R_minus 29 = .ok (.iload_n 3, 1) := by decide +kernel
theorem d_R_minus_30 : decode b_R_minus 30 = .ok (.iconst (-1), 1) := by decide +kernel
theorem d_R_minus_31 : decode b_R_minus 31 = .ok (.invokevirtual 74, 3) := by decide +kernel
theorem d_R_minus_34 : decode b_R_minus 34 = .ok (.aload_n 0, 1) := by decide +kernel
theorem d_R_minus_35 : decode b_R_minus 35 = .ok (.iload_n 1, 1) := by decide +kernel
theorem d_R_minus_36 : decode b_R_minus 36 = .ok (.bipush 37, 2) := by decide +kernel
theorem d_R_minus_38 : decode b_R_minus 38 = .ok (.invokevirtual 70, 3) := by decide +kernel
theorem d_R_minus_41 : decode b_R_minus 41 = .ok (.return_, 1) := by decide +kernel
theorem d_R_carry_0 : decode b_R_carry 0 = .ok (.lconst 0, 1) := by decide +kernel
theorem d_R_carry_1 : decode b_R_carry 1 = .ok (.lstore_n 1, 1) := by decide +kernel
theorem d_R_carry_2 : decode b_R_carry 2 = .ok (.iconst 0, 1) := by decide +kernel
theorem d_R_carry_3 : decode b_R_carry 3 = .ok (.istore_n 3, 1) := by decide +kernel
theorem d_R_carry_4 : decode b_R_carry 4 = .ok (.iload_n 3, 1) := by decide +kernel
theorem d_R_carry_5 : decode b_R_carry 5 = .ok (.bipush 22, 2) := by decide +kernel
theorem d_R_carry_7 : decode b_R_carry 7 = .ok (.if_icmp .ge 37, 3) := by decide +kernel
theorem d_R_carry_10 : decode b_R_carry 10 = .ok (.aload_n 0, 1) := by decide +kernel
theorem d_R_carry_11 : decode b_R_carry 11 = .ok (.getfield 13, 3) := by decide +kernel
theorem d_R_carry_14 : decode b_R_carry 14 = .ok (.iload_n 3, 1) := by decide +kernel
theorem d_R_carry_15 : decode b_R_carry 15 = .ok (.laload, 1) := by decide +kernel
theorem d_R_carry_16 : decode b_R_carry 16 = .ok (.lload_n 1, 1) := by decide +kernel
theorem d_R_carry_17 : decode b_R_carry 17 = .ok (.ladd, 1) := by decide +kernel
theorem d_R_carry_18 : decode b_R_carry 18 = .ok (.lstore 4, 2) := by decide +kernel
theorem d_R_carry_20 : decode b_R_carry 20 = .ok (.aload_n 0, 1) := by decide +kernel
theorem d_R_carry_21 : decode b_R_carry 21 = .ok (.getfield 13, 3) := by decide +kernel
theorem d_R_carry_24 : decode b_R_carry 24 = .ok (.iload_n 3, 1) := by decide +kernel
theorem d_R_carry_25 : decode b_R_carry 25 = .ok (.lload 4, 2) := by decide +kernel
theorem d_R_carry_27 : decode b_R_carry 27 = .ok (.ldc2_w 82, 3) := by decide +kernel
theorem d_R_carry_30 : decode b_R_carry 30 = .ok (.land, 1) := by decide +kernel
theorem d_R_carry_31 : decode b_R_carry 31 = .ok (.lastore, 1) := by decide +kernel
theorem d_R_carry_32 : decode b_R_carry 32 = .ok (.lload 4, 2) := by decide +kernel
theorem d_R_carry_34 : decode b_R_carry 34 = .ok (.bipush 26, 2) := by decide +kernel
theorem d_R_carry_36 : decode b_R_carry 36 = .ok (.lshr, 1) := by decide +kernel
theorem d_R_carry_37 : decode b_R_carry 37 = .ok (.lstore_n 1, 1) := by decide +kernel
theorem d_R_carry_38 : decode b_R_carry 38 = .ok (.iinc 3 1, 3) := by decide +kernel
theorem d_R_carry_41 : decode b_R_carry 41 = .ok (.goto (-37), 3) := by decide +kernel
end
section
/-! the instructions -/
theorem d_R_carry_44 : decode b_R_carry 44 = .ok (.return_, 1) := by decide +kernel
theorem d_R_isWide_0 : decode b_R_isWide 0 = .ok (.aload_n 0, 1) := by decide +kernel
theorem d_R_isWide_1 : decode b_R_isWide 1 = .ok (.getfield 13, 3) := by decide +kernel
theorem d_R_isWide_4 : decode b_R_isWide 4 = .ok (.bipush 9, 2) := by decide +kernel
theorem d_R_isWide_6 : decode b_R_isWide 6 = .ok (.laload, 1) := by decide +kernel
theorem d_R_isWide_7 : decode b_R_isWide 7 = .ok (.ldc2_w 84, 3) := by decide +kernel
theorem d_R_isWide_10 : decode b_R_isWide 10 = .ok (.lcmp, 1) := by decide +kernel
theorem d_R_isWide_11 : decode b_R_isWide 11 = .ok (.ifCond .le 7, 3) := by decide +kernel
theorem d_R_isWide_14 : decode b_R_isWide 14 = .ok (.iconst 1, 1) := by decide +kernel
theorem d_R_isWide_15 : decode b_R_isWide 15 = .ok (.goto 4, 3) := by decide +kernel
theorem d_R_isWide_18 : decode b_R_isWide 18 = .ok (.iconst 0, 1) := by decide +kernel
theorem d_R_isWide_19 : decode b_R_isWide 19 = .ok (.istore_n 1, 1) := by decide +kernel
theorem d_R_isWide_20 : decode b_R_isWide 20 = .ok (.bipush 10, 2) := by decide +kernel
theorem d_R_isWide_22 : decode b_R_isWide 22 = .ok (.istore_n 2, 1) := by decide +kernel
theorem d_R_isWide_23 : decode b_R_isWide 23 = .ok (.iload_n 2, 1) := by decide +kernel
theorem d_R_isWide_24 : decode b_R_isWide 24 = .ok (.bipush 22, 2) := by decide +kernel
theorem d_R_isWide_26 : decode b_R_isWide 26 = .ok (.if_icmp .ge 30, 3) := by decide +kernel
theorem d_R_isWide_29 : decode b_R_isWide 29 = .ok (.iload_n 1, 1) := by decide +kernel
theorem d_R_isWide_30 : decode b_R_isWide 30 = .ok (.ifCond .ne 26, 3) := by decide +kernel
theorem d_R_isWide_33 : decode b_R_isWide 33 = .ok (.aload_n 0, 1) := by decide +kernel
theorem d_R_isWide_34 : decode b_R_isWide 34 = .ok (.getfield 13, 3) := by decide +kernel
theorem d_R_isWide_37 : decode b_R_isWide 37 = .ok (.iload_n 2, 1) := by decide +kernel
theorem d_R_isWide_38 : decode b_R_isWide 38 = .ok (.laload, 1) := by decide +kernel
theorem d_R_isWide_39 : decode b_R_isWide 39 = .ok (.lconst 0, 1) := by decide +kernel
theorem d_R_isWide_40 : decode b_R_isWide 40 = .ok (.lcmp, 1) := by decide +kernel
theorem d_R_isWide_41 : decode b_R_isWide 41 = .ok (.ifCond .le 7, 3) := by decide +kernel
theorem d_R_isWide_44 : decode b_R_isWide 44 = .ok (.iconst 1, 1) := by decide +kernel
theorem d_R_isWide_45 : decode b_R_isWide 45 = .ok (.goto 4, 3) := by decide +kernel
theorem d_R_isWide_48 : decode b_R_isWide 48 = .ok (.iconst 0, 1) := by decide +kernel
theorem d_R_isWide_49 : decode b_R_isWide 49 = .ok (.istore_n 1, 1) := by decide +kernel
theorem d_R_isWide_50 : decode b_R_isWide 50 = .ok (.iinc 2 1, 3) := by decide +kernel
theorem d_R_isWide_53 : decode b_R_isWide 53 = .ok (.goto (-30), 3) := by decide +kernel
theorem d_R_isWide_56 : decode b_R_isWide 56 = .ok (.iload_n 1, 1) := by decide +kernel
theorem d_R_isWide_57 : decode b_R_isWide 57 = .ok (.ireturn, 1) := by decide +kernel
theorem d_R_fold_0 : decode b_R_fold 0 = .ok (.iconst 0, 1) := by decide +kernel
theorem d_R_fold_1 : decode b_R_fold 1 = .ok (.istore_n 2, 1) := by decide +kernel
theorem d_R_fold_2 : decode b_R_fold 2 = .ok (.iload_n 2, 1) := by decide +kernel
theorem d_R_fold_3 : decode b_R_fold 3 = .ok (.bipush 22, 2) := by decide +kernel
theorem d_R_fold_5 : decode b_R_fold 5 = .ok (.if_icmp .ge 51, 3) := by decide +kernel
theorem d_R_fold_8 : decode b_R_fold 8 = .ok (.aload_n 0, 1) := by decide +kernel
theorem d_R_fold_9 : decode b_R_fold 9 = .ok (.getfield 17, 3) := by decide +kernel
theorem d_R_fold_12 : decode b_R_fold 12 = .ok (.iload_n 2, 1) := by decide +kernel
theorem d_R_fold_13 : decode b_R_fold 13 = .ok (.iload_n 2, 1) := by decide +kernel
theorem d_R_fold_14 : decode b_R_fold 14 = .ok (.bipush 9, 2) := by decide +kernel
theorem d_R_fold_16 : decode b_R_fold 16 = .ok (.if_icmp .ge 12, 3) := by decide +kernel
theorem d_R_fold_19 : decode b_R_fold 19 = .ok (.aload_n 0, 1) := by decide +kernel
theorem d_R_fold_20 : decode b_R_fold 20 = .ok (.getfield 13, 3) := by decide +kernel
theorem d_R_fold_23 : decode b_R_fold 23 = .ok (.iload_n 2, 1) := by decide +kernel
theorem d_R_fold_24 : decode b_R_fold 24 = .ok (.laload, 1) := by decide +kernel
theorem d_R_fold_25 : decode b_R_fold 25 = .ok (.goto 24, 3) := by decide +kernel
theorem d_R_fold_28 : decode b_R_fold 28 = .ok (.iload_n 2, 1) := by decide +kernel
theorem d_R_fold_29 : decode b_R_fold 29 = .ok (.bipush 9, 2) := by decide +kernel
theorem d_R_fold_31 : decode b_R_fold 31 = .ok (.if_icmp .ne 17, 3) := by decide +kernel
theorem d_R_fold_34 : decode b_R_fold 34 = .ok (.aload_n 0, 1) := by decide +kernel
theorem d_R_fold_35 : decode b_R_fold 35 = .ok (.getfield 13, 3) := by decide +kernel
theorem d_R_fold_38 : decode b_R_fold 38 = .ok (.bipush 9, 2) := by decide +kernel
theorem d_R_fold_40 : decode b_R_fold 40 = .ok (.laload, 1) := by decide +kernel
theorem d_R_fold_41 : decode b_R_fold 41 = .ok (.ldc2_w 84, 3) := by decide +kernel
theorem d_R_fold_44 : decode b_R_fold 44 = .ok (.land, 1) := by decide +kernel
theorem d_R_fold_45 : decode b_R_fold 45 = .ok (.goto 4, 3) := by decide +kernel
theorem d_R_fold_48 : decode b_R_fold 48 = .ok (.lconst 0, 1) := by decide +kernel
theorem d_R_fold_49 : decode b_R_fold 49 = .ok (.lastore, 1) := by decide +kernel
theorem d_R_fold_50 : decode b_R_fold 50 = .ok (.iinc 2 1, 3) := by decide +kernel
theorem d_R_fold_53 : decode b_R_fold 53 = .ok (.goto (-51), 3) := by decide +kernel
theorem d_R_fold_56 : decode b_R_fold 56 = .ok (.iconst 0, 1) := by decide +kernel
theorem d_R_fold_57 : decode b_R_fold 57 = .ok (.istore_n 2, 1) := by decide +kernel
theorem d_R_fold_58 : decode b_R_fold 58 = .ok (.iload_n 2, 1) := by decide +kernel
theorem d_R_fold_59 : decode b_R_fold 59 = .ok (.bipush 12, 2) := by decide +kernel
theorem d_R_fold_61 : decode b_R_fold 61 = .ok (.if_icmp .ge 83, 3) := by decide +kernel
theorem d_R_fold_64 : decode b_R_fold 64 = .ok (.aload_n 0, 1) := by decide +kernel
theorem d_R_fold_65 : decode b_R_fold 65 = .ok (.getfield 13, 3) := by decide +kernel
theorem d_R_fold_68 : decode b_R_fold 68 = .ok (.bipush 9, 2) := by decide +kernel
theorem d_R_fold_70 : decode b_R_fold 70 = .ok (.iload_n 2, 1) := by decide +kernel
theorem d_R_fold_71 : decode b_R_fold 71 = .ok (.iadd, 1) := by decide +kernel
theorem d_R_fold_72 : decode b_R_fold 72 = .ok (.laload, 1) := by decide +kernel
theorem d_R_fold_73 : decode b_R_fold 73 = .ok (.bipush 22, 2) := by decide +kernel
theorem d_R_fold_75 : decode b_R_fold 75 = .ok (.lshr, 1) := by decide +kernel
theorem d_R_fold_76 : decode b_R_fold 76 = .ok (.aload_n 0, 1) := by decide +kernel
theorem d_R_fold_77 : decode b_R_fold 77 = .ok (.getfield 13, 3) := by decide +kernel
theorem d_R_fold_80 : decode b_R_fold 80 = .ok (.bipush 10, 2) := by decide +kernel
theorem d_R_fold_82 : decode b_R_fold 82 = .ok (.iload_n 2, 1) := by decide +kernel
theorem d_R_fold_83 : decode b_R_fold 83 = .ok (.iadd, 1) := by decide +kernel
theorem d_R_fold_84 : decode b_R_fold 84 = .ok (.laload, 1) := by decide +kernel
theorem d_R_fold_85 : decode b_R_fold 85 = .ok (.ldc2_w 84, 3) := by decide +kernel
theorem d_R_fold_88 : decode b_R_fold 88 = .ok (.land, 1) := by decide +kernel
theorem d_R_fold_89 : decode b_R_fold 89 = .ok (.iconst 4, 1) := by decide +kernel
theorem d_R_fold_90 : decode b_R_fold 90 = .ok (.lshl, 1) := by decide +kernel
theorem d_R_fold_91 : decode b_R_fold 91 = .ok (.lor, 1) := by decide +kernel
theorem d_R_fold_92 : decode b_R_fold 92 = .ok (.lstore_n 3, 1) := by decide +kernel
theorem d_R_fold_93 : decode b_R_fold 93 = .ok (.iconst 0, 1) := by decide +kernel
theorem d_R_fold_94 : decode b_R_fold 94 = .ok (.istore 5, 2) := by decide +kernel
theorem d_R_fold_96 : decode b_R_fold 96 = .ok (.iload 5, 2) := by decide +kernel
theorem d_R_fold_98 : decode b_R_fold 98 = .ok (.iconst 5, 1) := by decide +kernel
theorem d_R_fold_99 : decode b_R_fold 99 = .ok (.if_icmp .ge 39, 3) := by decide +kernel
theorem d_R_fold_102 : decode b_R_fold 102 = .ok (.lload_n 3, 1) := by decide +kernel
theorem d_R_fold_103 : decode b_R_fold 103 = .ok (.lconst 0, 1) := by decide +kernel
theorem d_R_fold_104 : decode b_R_fold 104 = .ok (.lcmp, 1) := by decide +kernel
theorem d_R_fold_105 : decode b_R_fold 105 = .ok (.ifCond .le 33, 3) := by decide +kernel
theorem d_R_fold_108 : decode b_R_fold 108 = .ok (.aload_n 0, 1) := by decide +kernel
theorem d_R_fold_109 : decode b_R_fold 109 = .ok (.getfield 17, 3) := by decide +kernel
theorem d_R_fold_112 : decode b_R_fold 112 = .ok (.iload_n 2, 1) := by decide +kernel
theorem d_R_fold_113 : decode b_R_fold 113 = .ok (.iload 5, 2) := by decide +kernel
theorem d_R_fold_115 : decode b_R_fold 115 = .ok (.iadd, 1) := by decide +kernel
theorem d_R_fold_116 : decode b_R_fold 116 = .ok (.dup2, 1) := by decide +kernel
theorem d_R_fold_117 : decode b_R_fold 117 = .ok (.laload, 1) := by decide +kernel
theorem d_R_fold_118 : decode b_R_fold 118 = .ok (.lload_n 3, 1) := by decide +kernel
theorem d_R_fold_119 : decode b_R_fold 119 = .ok (.aload_n 0, 1) := by decide +kernel
theorem d_R_fold_120 : decode b_R_fold 120 = .ok (.getfield 20, 3) := by decide +kernel
theorem d_R_fold_123 : decode b_R_fold 123 = .ok (.iload_n 1, 1) := by decide +kernel
theorem d_R_fold_124 : decode b_R_fold 124 = .ok (.iload 5, 2) := by decide +kernel
theorem d_R_fold_126 : decode b_R_fold 126 = .ok (.iadd, 1) := by decide +kernel
theorem d_R_fold_127 : decode b_R_fold 127 = .ok (.iaload, 1) := by decide +kernel
theorem d_R_fold_128 : decode b_R_fold 128 = .ok (.i2l, 1) := by decide +kernel
theorem d_R_fold_129 : decode b_R_fold 129 = .ok (.lmul, 1) := by decide +kernel
theorem d_R_fold_130 : decode b_R_fold 130 = .ok (.ladd, 1) := by decide +kernel
theorem d_R_fold_131 : decode b_R_fold 131 = .ok (.lastore, 1) := by decide +kernel
theorem d_R_fold_132 : decode b_R_fold 132 = .ok (.iinc 5 1, 3) := by decide +kernel
theorem d_R_fold_135 : decode b_R_fold 135 = .ok (.goto (-39), 3) := by decide +kernel
theorem d_R_fold_138 : decode b_R_fold 138 = .ok (.iinc 2 1, 3) := by decide +kernel
theorem d_R_fold_141 : decode b_R_fold 141 = .ok (.goto (-83), 3) := by decide +kernel
theorem d_R_fold_144 : decode b_R_fold 144 = .ok (.iconst 0, 1) := by decide +kernel
theorem d_R_fold_145 : decode b_R_fold 145 = .ok (.istore_n 2, 1) := by decide +kernel
theorem d_R_fold_146 : decode b_R_fold 146 = .ok (.iload_n 2, 1) := by decide +kernel
theorem d_R_fold_147 : decode b_R_fold 147 = .ok (.bipush 22, 2) := by decide +kernel
theorem d_R_fold_149 : decode b_R_fold 149 = .ok (.if_icmp .ge 21, 3) := by decide +kernel
theorem d_R_fold_152 : decode b_R_fold 152 = .ok (.aload_n 0, 1) := by decide +kernel
theorem d_R_fold_153 : decode b_R_fold 153 = .ok (.getfield 13, 3) := by decide +kernel
theorem d_R_fold_156 : decode b_R_fold 156 = .ok (.iload_n 2, 1) := by decide +kernel
theorem d_R_fold_157 : decode b_R_fold 157 = .ok (.aload_n 0, 1) := by decide +kernel
theorem d_R_fold_158 : decode b_R_fold 158 = .ok (.getfield 17, 3) := by decide +kernel
theorem d_R_fold_161 : decode b_R_fold 161 = .ok (.iload_n 2, 1) := by decide +kernel
theorem d_R_fold_162 : decode b_R_fold 162 = .ok (.laload, 1) := by decide +kernel
theorem d_R_fold_163 : decode b_R_fold 163 = .ok (.lastore, 1) := by decide +kernel
theorem d_R_fold_164 : decode b_R_fold 164 = .ok (.iinc 2 1, 3) := by decide +kernel
theorem d_R_fold_167 : decode b_R_fold 167 = .ok (.goto (-21), 3) := by decide +kernel
theorem d_R_fold_170 : decode b_R_fold 170 = .ok (.aload_n 0, 1) := by decide +kernel
theorem d_R_fold_171 : decode b_R_fold 171 = .ok (.invokevirtual 86, 3) := by decide +kernel
theorem d_R_fold_174 : decode b_R_fold 174 = .ok (.return_, 1) := by decide +kernel
theorem d_R_multiply_0 : decode b_R_multiply 0 = .ok (.iconst 0, 1) := by decide +kernel
theorem d_R_multiply_1 : decode b_R_multiply 1 = .ok (.istore 5, 2) := by decide +kernel
theorem d_R_multiply_3 : decode b_R_multiply 3 = .ok (.iload 5, 2) := by decide +kernel
theorem d_R_multiply_5 : decode b_R_multiply 5 = .ok (.bipush 22, 2) := by decide +kernel
theorem d_R_multiply_7 : decode b_R_multiply 7 = .ok (.if_icmp .ge 17, 3) := by decide +kernel
theorem d_R_multiply_10 : decode b_R_multiply 10 = .ok (.aload_n 0, 1) := by decide +kernel
theorem d_R_multiply_11 : decode b_R_multiply 11 = .ok (.getfield 13, 3) := by decide +kernel
theorem d_R_multiply_14 : decode b_R_multiply 14 = .ok (.iload 5, 2) := by decide +kernel
theorem d_R_multiply_16 : decode b_R_multiply 16 = .ok (.lconst 0, 1) := by decide +kernel
theorem d_R_multiply_17 : decode b_R_multiply 17 = .ok (.lastore, 1) := by decide +kernel
theorem d_R_multiply_18 : decode b_R_multiply 18 = .ok (.iinc 5 1, 3) := by decide +kernel
theorem d_R_multiply_21 : decode b_R_multiply 21 = .ok (.goto (-18), 3) := by decide +kernel
theorem d_R_multiply_24 : decode b_R_multiply 24 = .ok (.iconst 0, 1) := by decide +kernel
theorem d_R_multiply_25 : decode b_R_multiply 25 = .ok (.istore 5, 2) := by decide +kernel
theorem d_R_multiply_27 : decode b_R_multiply 27 = .ok (.iload 5, 2) := by decide +kernel
theorem d_R_multiply_29 : decode b_R_multiply 29 = .ok (.bipush 10, 2) := by decide +kernel
theorem d_R_multiply_31 : decode b_R_multiply 31 = .ok (.if_icmp .ge 76, 3) := by decide +kernel
theorem d_R_multiply_34 : decode b_R_multiply 34 = .ok (.aload_n 0, 1) := by decide +kernel
theorem d_R_multiply_35 : decode b_R_multiply 35 = .ok (.getfield 7, 3) := by decide +kernel
theorem d_R_multiply_38 : decode b_R_multiply 38 = .ok (.bipush 10, 2) := by decide +kernel
theorem d_R_multiply_40 : decode b_R_multiply 40 = .ok (.iload_n 2, 1) := by decide +kernel
theorem d_R_multiply_41 : decode b_R_multiply 41 = .ok (.imul, 1) := by decide +kernel
theorem d_R_multiply_42 : decode b_R_multiply 42 = .ok (.iload 5, 2) := by decide +kernel
theorem d_R_multiply_44 : decode b_R_multiply 44 = .ok (.iadd, 1) := by decide +kernel
theorem d_R_multiply_45 : decode b_R_multiply 45 = .ok (.iaload, 1) := by decide +kernel
theorem d_R_multiply_46 : decode b_R_multiply 46 = .ok (.i2l, 1) := by decide +kernel
theorem d_R_multiply_47 : decode b_R_multiply 47 = .ok (.lstore 6, 2) := by decide +kernel
theorem d_R_multiply_49 : decode b_R_multiply 49 = .ok (.iconst 0, 1) := by decide +kernel
theorem d_R_multiply_50 : decode b_R_multiply 50 = .ok (.istore 8, 2) := by decide +kernel
theorem d_R_multiply_52 : decode b_R_multiply 52 = .ok (.iload 8, 2) := by decide +kernel
theorem d_R_multiply_54 : decode b_R_multiply 54 = .ok (.bipush 10, 2) := by decide +kernel
theorem d_R_multiply_56 : decode b_R_multiply 56 = .ok (.if_icmp .ge 45, 3) := by decide +kernel
theorem d_R_multiply_59 : decode b_R_multiply 59 = .ok (.lload 6, 2) := by decide +kernel
theorem d_R_multiply_61 : decode b_R_multiply 61 = .ok (.lconst 0, 1) := by decide +kernel
theorem d_R_multiply_62 : decode b_R_multiply 62 = .ok (.lcmp, 1) := by decide +kernel
theorem d_R_multiply_63 : decode b_R_multiply 63 = .ok (.ifCond .le 38, 3) := by decide +kernel
theorem d_R_multiply_66 : decode b_R_multiply 66 = .ok (.aload_n 0, 1) := by decide +kernel
theorem d_R_multiply_67 : decode b_R_multiply 67 = .ok (.getfield 13, 3) := by decide +kernel
theorem d_R_multiply_70 : decode b_R_multiply 70 = .ok (.iload 5, 2) := by decide +kernel
theorem d_R_multiply_72 : decode b_R_multiply 72 = .ok (.iload 8, 2) := by decide +kernel
theorem d_R_multiply_74 : decode b_R_multiply 74 = .ok (.iadd, 1) := by decide +kernel
theorem d_R_multiply_75 : decode b_R_multiply 75 = .ok (.dup2, 1) := by decide +kernel
theorem d_R_multiply_76 : decode b_R_multiply 76 = .ok (.laload, 1) := by decide +kernel
theorem d_R_multiply_77 : decode b_R_multiply 77 = .ok (.lload 6, 2) := by decide +kernel
theorem d_R_multiply_79 : decode b_R_multiply 79 = .ok (.aload_n 0, 1) := by decide +kernel
theorem d_R_multiply_80 : decode b_R_multiply 80 = .ok (.getfield 7, 3) := by decide +kernel
theorem d_R_multiply_83 : decode b_R_multiply 83 = .ok (.bipush 10, 2) := by decide +kernel
theorem d_R_multiply_85 : decode b_R_multiply 85 = .ok (.iload_n 3, 1) := by decide +kernel
theorem d_R_multiply_86 : decode b_R_multiply 86 = .ok (.imul, 1) := by decide +kernel
theorem d_R_multiply_87 : decode b_R_multiply 87 = .ok (.iload 8, 2) := by decide +kernel
theorem d_R_multiply_89 : decode b_R_multiply 89 = .ok (.iadd, 1) := by decide +kernel
theorem d_R_multiply_90 : decode b_R_multiply 90 = .ok (.iaload, 1) := by decide +kernel
theorem d_R_multiply_91 : decode b_R_multiply 91 = .ok (.i2l, 1) := by decide +kernel
theorem d_R_multiply_92 : decode b_R_multiply 92 = .ok (.lmul, 1) := by decide +kernel
theorem d_R_multiply_93 : decode b_R_multiply 93 = .ok (.ladd, 1) := by decide +kernel
theorem d_R_multiply_94 : decode b_R_multiply 94 = .ok (.lastore, 1) := by decide +kernel
theorem d_R_multiply_95 : decode b_R_multiply 95 = .ok (.iinc 8 1, 3) := by decide +kernel
theorem d_R_multiply_98 : decode b_R_multiply 98 = .ok (.goto (-46), 3) := by decide +kernel
theorem d_R_multiply_101 : decode b_R_multiply 101 = .ok (.iinc 5 1, 3) := by decide +kernel
theorem d_R_multiply_104 : decode b_R_multiply 104 = .ok (.goto (-77), 3) := by decide +kernel
theorem d_R_multiply_107 : decode b_R_multiply 107 = .ok (.aload_n 0, 1) := by decide +kernel
theorem d_R_multiply_108 : decode b_R_multiply 108 = .ok (.invokevirtual 86, 3) := by decide +kernel
theorem d_R_multiply_111 : decode b_R_multiply 111 = .ok (.aload_n 0, 1) := by decide +kernel
theorem d_R_multiply_112 : decode b_R_multiply 112 = .ok (.invokevirtual 89, 3) := by decide +kernel
theorem d_R_multiply_115 : decode b_R_multiply 115 = .ok (.ifCond .eq 18, 3) := by decide +kernel
theorem d_R_multiply_118 : decode b_R_multiply 118 = .ok (.aload_n 0, 1) := by decide +kernel
theorem d_R_multiply_119 : decode b_R_multiply 119 = .ok (.bipush 10, 2) := by decide +kernel
theorem d_R_multiply_121 : decode b_R_multiply 121 = .ok (.iload 4, 2) := by decide +kernel
theorem d_R_multiply_123 : decode b_R_multiply 123 = .ok (.bipush 8, 2) := by decide +kernel
theorem d_R_multiply_125 : decode b_R_multiply 125 = .ok (.isub, 1) := by decide +kernel
theorem d_R_multiply_126 : decode b_R_multiply 126 = .ok (.imul, 1) := by decide +kernel
theorem d_R_multiply_127 : decode b_R_multiply 127 = .ok (.invokevirtual 93, 3) := by decide +kernel
theorem d_R_multiply_130 : decode b_R_multiply 130 = .ok (.goto (-19), 3) := by decide +kernel
theorem d_R_multiply_133 : decode b_R_multiply 133 = .ok (.iconst 0, 1) := by decide +kernel
theorem d_R_multiply_134 : decode b_R_multiply 134 = .ok (.istore 5, 2) := by decide +kernel
theorem d_R_multiply_136 : decode b_R_multiply 136 = .ok (.iload 5, 2) := by decide +kernel
theorem d_R_multiply_138 : decode b_R_multiply 138 = .ok (.bipush 10, 2) := by decide +kernel
theorem d_R_multiply_140 : decode b_R_multiply 140 = .ok (.if_icmp .ge 29, 3) := by decide +kernel
theorem d_R_multiply_143 : decode b_R_multiply 143 = .ok (.aload_n 0, 1) := by decide +kernel
theorem d_R_multiply_144 : decode b_R_multiply 144 = .ok (.getfield 7, 3) := by decide +kernel
theorem d_R_multiply_147 : decode b_R_multiply 147 = .ok (.bipush 10, 2) := by decide +kernel
theorem d_R_multiply_149 : decode b_R_multiply 149 = .ok (.iload_n 1, 1) := by decide +kernel
theorem d_R_multiply_150 : decode b_R_multiply 150 = .ok (.imul, 1) := by decide +kernel
theorem d_R_multiply_151 : decode b_R_multiply 151 = .ok (.iload 5, 2) := by decide +kernel
theorem d_R_multiply_153 : decode b_R_multiply 153 = .ok (.iadd, 1) := by decide +kernel
theorem d_R_multiply_154 : decode b_R_multiply 154 = .ok (.aload_n 0, 1) := by decide +kernel
theorem d_R_multiply_155 : decode b_R_multiply 155 = .ok (.getfield 13, 3) := by decide +kernel
theorem d_R_multiply_158 : decode b_R_multiply 158 = .ok (.iload 5, 2) := by decide +kernel
theorem d_R_multiply_160 : decode b_R_multiply 160 = .ok (.laload, 1) := by decide +kernel
theorem d_R_multiply_161 : decode b_R_multiply 161 = .ok (.l2i, 1) := by decide +kernel
theorem d_R_multiply_162 : decode b_R_multiply 162 = .ok (.iastore, 1) := by decide +kernel
theorem d_R_multiply_163 : decode b_R_multiply 163 = .ok (.iinc 5 1, 3) := by decide +kernel
theorem d_R_multiply_166 : decode b_R_multiply 166 = .ok (.goto (-30), 3) := by decide +kernel
theorem d_R_multiply_169 : decode b_R_multiply 169 = .ok (.aload_n 0, 1) := by decide +kernel
theorem d_R_multiply_170 : decode b_R_multiply 170 = .ok (.iload_n 1, 1) := by decide +kernel
theorem d_R_multiply_171 : decode b_R_multiply 171 = .ok (.iload 4, 2) := by decide +kernel
theorem d_R_multiply_173 : decode b_R_multiply 173 = .ok (.invokevirtual 78, 3) := by decide +kernel
theorem d_R_multiply_176 : decode b_R_multiply 176 = .ok (.ifCond .lt 11, 3) := by decide +kernel
theorem d_R_multiply_179 : decode b_R_multiply 179 = .ok (.aload_n 0, 1) := by decide +kernel
theorem d_R_multiply_180 : decode b_R_multiply 180 = .ok (.iload_n 1, 1) := by decide +kernel
theorem d_R_multiply_181 : decode b_R_multiply 181 = .ok (.iload 4, 2) := by decide +kernel
theorem d_R_multiply_183 : decode b_R_multiply 183 = .ok (.iconst (-1), 1) := by decide +kernel
theorem d_R_multiply_184 : decode b_R_multiply 184 = .ok (.invokevirtual 74, 3) := by decide +kernel
theorem d_R_multiply_187 : decode b_R_multiply 187 = .ok (.return_, 1) := by decide +kernel
theorem d_R_power_0 : decode b_R_power 0 = .ok (.aload_n 0, 1) := by decide +kernel
theorem d_R_power_1 : decode b_R_power 1 = .ok (.bipush 44, 2) := by decide +kernel
theorem d_R_power_3 : decode b_R_power 3 = .ok (.iload_n 2, 1) := by decide +kernel
theorem d_R_power_4 : decode b_R_power 4 = .ok (.invokevirtual 70, 3) := by decide +kernel
theorem d_R_power_7 : decode b_R_power 7 = .ok (.aload_n 0, 1) := by decide +kernel
theorem d_R_power_8 : decode b_R_power 8 = .ok (.bipush 38, 2) := by decide +kernel
theorem d_R_power_10 : decode b_R_power 10 = .ok (.bipush 20, 2) := by decide +kernel
theorem d_R_power_12 : decode b_R_power 12 = .ok (.invokevirtual 70, 3) := by decide +kernel
theorem d_R_power_15 : decode b_R_power 15 = .ok (.sipush 255, 3) := by decide +kernel
theorem d_R_power_18 : decode b_R_power 18 = .ok (.istore 4, 2) := by decide +kernel
theorem d_R_power_20 : decode b_R_power 20 = .ok (.iload 4, 2) := by decide +kernel
theorem d_R_power_22 : decode b_R_power 22 = .ok (.ifCond .lt 42, 3) := by decide +kernel
theorem d_R_power_25 : decode b_R_power 25 = .ok (.aload_n 0, 1) := by decide +kernel
theorem d_R_power_26 : decode b_R_power 26 = .ok (.bipush 38, 2) := by decide +kernel
theorem d_R_power_28 : decode b_R_power 28 = .ok (.bipush 38, 2) := by decide +kernel
theorem d_R_power_30 : decode b_R_power 30 = .ok (.bipush 38, 2) := by decide +kernel
theorem d_R_power_32 : decode b_R_power 32 = .ok (.iload_n 3, 1) := by decide +kernel
theorem d_R_power_33 : decode b_R_power 33 = .ok (.invokevirtual 96, 3) := by decide +kernel
theorem d_R_power_36 : decode b_R_power 36 = .ok (.aload_n 0, 1) := by decide +kernel
theorem d_R_power_37 : decode b_R_power 37 = .ok (.bipush 39, 2) := by decide +kernel
theorem d_R_power_39 : decode b_R_power 39 = .ok (.iload 4, 2) := by decide +kernel
theorem d_R_power_41 : decode b_R_power 41 = .ok (.invokevirtual 100, 3) := by decide +kernel
theorem d_R_power_44 : decode b_R_power 44 = .ok (.ifCond .eq 14, 3) := by decide +kernel
theorem d_R_power_47 : decode b_R_power 47 = .ok (.aload_n 0, 1) := by decide +kernel
theorem d_R_power_48 : decode b_R_power 48 = .ok (.bipush 38, 2) := by decide +kernel
theorem d_R_power_50 : decode b_R_power 50 = .ok (.bipush 38, 2) := by decide +kernel
theorem d_R_power_52 : decode b_R_power 52 = .ok (.bipush 44, 2) := by decide +kernel
theorem d_R_power_54 : decode b_R_power 54 = .ok (.iload_n 3, 1) := by decide +kernel
theorem d_R_power_55 : decode b_R_power 55 = .ok (.invokevirtual 96, 3) := by decide +kernel
theorem d_R_power_58 : decode b_R_power 58 = .ok (.iinc 4 (-1), 3) := by decide +kernel
theorem d_R_power_61 : decode b_R_power 61 = .ok (.goto (-41), 3) := by decide +kernel
theorem d_R_power_64 : decode b_R_power 64 = .ok (.aload_n 0, 1) := by decide +kernel
theorem d_R_power_65 : decode b_R_power 65 = .ok (.iload_n 1, 1) := by decide +kernel
theorem d_R_power_66 : decode b_R_power 66 = .ok (.bipush 38, 2) := by decide +kernel
theorem d_R_power_68 : decode b_R_power 68 = .ok (.invokevirtual 70, 3) := by decide +kernel
theorem d_R_power_71 : decode b_R_power 71 = .ok (.return_, 1) := by decide +kernel
theorem d_R_divide_0 : decode b_R_divide 0 = .ok (.aload_n 0, 1) := by decide +kernel
theorem d_R_divide_1 : decode b_R_divide 1 = .ok (.bipush 39, 2) := by decide +kernel
theorem d_R_divide_3 : decode b_R_divide 3 = .ok (.iload 4, 2) := by decide +kernel
theorem d_R_divide_5 : decode b_R_divide 5 = .ok (.invokevirtual 70, 3) := by decide +kernel
theorem d_R_divide_8 : decode b_R_divide 8 = .ok (.aload_n 0, 1) := by decide +kernel
theorem d_R_divide_9 : decode b_R_divide 9 = .ok (.getfield 7, 3) := by decide +kernel
theorem d_R_divide_12 : decode b_R_divide 12 = .ok (.sipush 390, 3) := by decide +kernel
theorem d_R_divide_15 : decode b_R_divide 15 = .ok (.dup2, 1) := by decide +kernel
theorem d_R_divide_16 : decode b_R_divide 16 = .ok (.iaload, 1) := by decide +kernel
theorem d_R_divide_17 : decode b_R_divide 17 = .ok (.iconst 2, 1) := by decide +kernel
theorem d_R_divide_18 : decode b_R_divide 18 = .ok (.isub, 1) := by decide +kernel
theorem d_R_divide_19 : decode b_R_divide 19 = .ok (.iastore, 1) := by decide +kernel
theorem d_R_divide_20 : decode b_R_divide 20 = .ok (.aload_n 0, 1) := by decide +kernel
theorem d_R_divide_21 : decode b_R_divide 21 = .ok (.bipush 45, 2) := by decide +kernel
theorem d_R_divide_23 : decode b_R_divide 23 = .ok (.iload_n 2, 1) := by decide +kernel
theorem d_R_divide_24 : decode b_R_divide 24 = .ok (.invokevirtual 70, 3) := by decide +kernel
theorem d_R_divide_27 : decode b_R_divide 27 = .ok (.aload_n 0, 1) := by decide +kernel
theorem d_R_divide_28 : decode b_R_divide 28 = .ok (.bipush 46, 2) := by decide +kernel
theorem d_R_divide_30 : decode b_R_divide 30 = .ok (.iload_n 3, 1) := by decide +kernel
theorem d_R_divide_31 : decode b_R_divide 31 = .ok (.iload 4, 2) := by decide +kernel
theorem d_R_divide_33 : decode b_R_divide 33 = .ok (.invokevirtual 104, 3) := by decide +kernel
theorem d_R_divide_36 : decode b_R_divide 36 = .ok (.aload_n 0, 1) := by decide +kernel
theorem d_R_divide_37 : decode b_R_divide 37 = .ok (.iload_n 1, 1) := by decide +kernel
theorem d_R_divide_38 : decode b_R_divide 38 = .ok (.bipush 45, 2) := by decide +kernel
theorem d_R_divide_40 : decode b_R_divide 40 = .ok (.bipush 46, 2) := by decide +kernel
theorem d_R_divide_42 : decode b_R_divide 42 = .ok (.iload 4, 2) := by decide +kernel
theorem d_R_divide_44 : decode b_R_divide 44 = .ok (.invokevirtual 96, 3) := by decide +kernel
theorem d_R_divide_47 : decode b_R_divide 47 = .ok (.return_, 1) := by decide +kernel
theorem d_R_roots_0 : decode b_R_roots 0 = .ok (.aload_n 0, 1) := by decide +kernel
theorem d_R_roots_1 : decode b_R_roots 1 = .ok (.bipush 47, 2) := by decide +kernel
theorem d_R_roots_3 : decode b_R_roots 3 = .ok (.iload_n 2, 1) := by decide +kernel
theorem d_R_roots_4 : decode b_R_roots 4 = .ok (.invokevirtual 70, 3) := by decide +kernel
theorem d_R_roots_7 : decode b_R_roots 7 = .ok (.aload_n 0, 1) := by decide +kernel
theorem d_R_roots_8 : decode b_R_roots 8 = .ok (.bipush 39, 2) := by decide +kernel
theorem d_R_roots_10 : decode b_R_roots 10 = .ok (.bipush 8, 2) := by decide +kernel
theorem d_R_roots_12 : decode b_R_roots 12 = .ok (.invokevirtual 70, 3) := by decide +kernel
theorem d_R_roots_15 : decode b_R_roots 15 = .ok (.aload_n 0, 1) := by decide +kernel
theorem d_R_roots_16 : decode b_R_roots 16 = .ok (.bipush 39, 2) := by decide +kernel
theorem d_R_roots_18 : decode b_R_roots 18 = .ok (.bipush 20, 2) := by decide +kernel
theorem d_R_roots_20 : decode b_R_roots 20 = .ok (.iconst 1, 1) := by decide +kernel
theorem d_R_roots_21 : decode b_R_roots 21 = .ok (.invokevirtual 74, 3) := by decide +kernel
theorem d_R_roots_24 : decode b_R_roots 24 = .ok (.iconst 0, 1) := by decide +kernel
theorem d_R_roots_25 : decode b_R_roots 25 = .ok (.istore_n 3, 1) := by decide +kernel
theorem d_R_roots_26 : decode b_R_roots 26 = .ok (.iload_n 3, 1) := by decide +kernel
theorem d_R_roots_27 : decode b_R_roots 27 = .ok (.iconst 2, 1) := by decide +kernel
theorem d_R_roots_28 : decode b_R_roots 28 = .ok (.if_icmp .ge 85, 3) := by decide +kernel
theorem d_R_roots_31 : decode b_R_roots 31 = .ok (.iconst 0, 1) := by decide +kernel
theorem d_R_roots_32 : decode b_R_roots 32 = .ok (.istore 4, 2) := by decide +kernel
theorem d_R_roots_34 : decode b_R_roots 34 = .ok (.iload 4, 2) := by decide +kernel
theorem d_R_roots_36 : decode b_R_roots 36 = .ok (.bipush 10, 2) := by decide +kernel
theorem d_R_roots_38 : decode b_R_roots 38 = .ok (.if_icmp .ge 69, 3) := by decide +kernel
theorem d_R_roots_41 : decode b_R_roots 41 = .ok (.iload 4, 2) := by decide +kernel
theorem d_R_roots_43 : decode b_R_roots 43 = .ok (.iconst 1, 1) := by decide +kernel
theorem d_R_roots_44 : decode b_R_roots 44 = .ok (.iadd, 1) := by decide +kernel
theorem d_R_roots_45 : decode b_R_roots 45 = .ok (.bipush 10, 2) := by decide +kernel
theorem d_R_roots_47 : decode b_R_roots 47 = .ok (.if_icmp .ge 19, 3) := by decide +kernel
theorem d_R_roots_50 : decode b_R_roots 50 = .ok (.aload_n 0, 1) := by decide +kernel
theorem d_R_roots_51 : decode b_R_roots 51 = .ok (.getfield 7, 3) := by decide +kernel
theorem d_R_roots_54 : decode b_R_roots 54 = .ok (.sipush 390, 3) := by decide +kernel
theorem d_R_roots_57 : decode b_R_roots 57 = .ok (.iload 4, 2) := by decide +kernel
theorem d_R_roots_59 : decode b_R_roots 59 = .ok (.iadd, 1) := by decide +kernel
theorem d_R_roots_60 : decode b_R_roots 60 = .ok (.iconst 1, 1) := by decide +kernel
theorem d_R_roots_61 : decode b_R_roots 61 = .ok (.iadd, 1) := by decide +kernel
theorem d_R_roots_62 : decode b_R_roots 62 = .ok (.iaload, 1) := by decide +kernel
theorem d_R_roots_63 : decode b_R_roots 63 = .ok (.goto 4, 3) := by decide +kernel
theorem d_R_roots_66 : decode b_R_roots 66 = .ok (.iconst 0, 1) := by decide +kernel
theorem d_R_roots_67 : decode b_R_roots 67 = .ok (.istore 5, 2) := by decide +kernel
theorem d_R_roots_69 : decode b_R_roots 69 = .ok (.aload_n 0, 1) := by decide +kernel
theorem d_R_roots_70 : decode b_R_roots 70 = .ok (.getfield 7, 3) := by decide +kernel
theorem d_R_roots_73 : decode b_R_roots 73 = .ok (.sipush 390, 3) := by decide +kernel
theorem d_R_roots_76 : decode b_R_roots 76 = .ok (.iload 4, 2) := by decide +kernel
theorem d_R_roots_78 : decode b_R_roots 78 = .ok (.iadd, 1) := by decide +kernel
theorem d_R_roots_79 : decode b_R_roots 79 = .ok (.aload_n 0, 1) := by decide +kernel
theorem d_R_roots_80 : decode b_R_roots 80 = .ok (.getfield 7, 3) := by decide +kernel
theorem d_R_roots_83 : decode b_R_roots 83 = .ok (.sipush 390, 3) := by decide +kernel
theorem d_R_roots_86 : decode b_R_roots 86 = .ok (.iload 4, 2) := by decide +kernel
theorem d_R_roots_88 : decode b_R_roots 88 = .ok (.iadd, 1) := by decide +kernel
theorem d_R_roots_89 : decode b_R_roots 89 = .ok (.iaload, 1) := by decide +kernel
theorem d_R_roots_90 : decode b_R_roots 90 = .ok (.iconst 2, 1) := by decide +kernel
theorem d_R_roots_91 : decode b_R_roots 91 = .ok (.idiv, 1) := by decide +kernel
theorem d_R_roots_92 : decode b_R_roots 92 = .ok (.iload 5, 2) := by decide +kernel
theorem d_R_roots_94 : decode b_R_roots 94 = .ok (.iconst 2, 1) := by decide +kernel
theorem d_R_roots_95 : decode b_R_roots 95 = .ok (.irem, 1) := by decide +kernel
theorem d_R_roots_96 : decode b_R_roots 96 = .ok (.ldc 107, 2) := by decide +kernel
theorem d_R_roots_98 : decode b_R_roots 98 = .ok (.imul, 1) := by decide +kernel
theorem d_R_roots_99 : decode b_R_roots 99 = .ok (.iadd, 1) := by decide +kernel
theorem d_R_roots_100 : decode b_R_roots 100 = .ok (.iastore, 1) := by decide +kernel
theorem d_R_roots_101 : decode b_R_roots 101 = .ok (.iinc 4 1, 3) := by decide +kernel
theorem d_R_roots_104 : decode b_R_roots 104 = .ok (.goto (-70), 3) := by decide +kernel
theorem d_R_roots_107 : decode b_R_roots 107 = .ok (.iinc 3 1, 3) := by decide +kernel
theorem d_R_roots_110 : decode b_R_roots 110 = .ok (.goto (-84), 3) := by decide +kernel
theorem d_R_roots_113 : decode b_R_roots 113 = .ok (.aload_n 0, 1) := by decide +kernel
theorem d_R_roots_114 : decode b_R_roots 114 = .ok (.bipush 45, 2) := by decide +kernel
theorem d_R_roots_116 : decode b_R_roots 116 = .ok (.bipush 47, 2) := by decide +kernel
theorem d_R_roots_118 : decode b_R_roots 118 = .ok (.bipush 8, 2) := by decide +kernel
theorem d_R_roots_120 : decode b_R_roots 120 = .ok (.invokevirtual 104, 3) := by decide +kernel
theorem d_R_roots_123 : decode b_R_roots 123 = .ok (.aload_n 0, 1) := by decide +kernel
theorem d_R_roots_124 : decode b_R_roots 124 = .ok (.bipush 46, 2) := by decide +kernel
theorem d_R_roots_126 : decode b_R_roots 126 = .ok (.bipush 45, 2) := by decide +kernel
theorem d_R_roots_128 : decode b_R_roots 128 = .ok (.bipush 45, 2) := by decide +kernel
theorem d_R_roots_130 : decode b_R_roots 130 = .ok (.bipush 8, 2) := by decide +kernel
theorem d_R_roots_132 : decode b_R_roots 132 = .ok (.invokevirtual 96, 3) := by decide +kernel
theorem d_R_roots_135 : decode b_R_roots 135 = .ok (.aload_n 0, 1) := by decide +kernel
theorem d_R_roots_136 : decode b_R_roots 136 = .ok (.bipush 46, 2) := by decide +kernel
theorem d_R_roots_138 : decode b_R_roots 138 = .ok (.bipush 47, 2) := by decide +kernel
theorem d_R_roots_140 : decode b_R_roots 140 = .ok (.invokevirtual 78, 3) := by decide +kernel
theorem d_R_roots_143 : decode b_R_roots 143 = .ok (.ifCond .eq 5, 3) := by decide +kernel
theorem d_R_roots_146 : decode b_R_roots 146 = .ok (.iconst 0, 1) := by decide +kernel
theorem d_R_roots_147 : decode b_R_roots 147 = .ok (.ireturn, 1) := by decide +kernel
theorem d_R_roots_148 : decode b_R_roots 148 = .ok (.aload_n 0, 1) := by decide +kernel
theorem d_R_roots_149 : decode b_R_roots 149 = .ok (.bipush 45, 2) := by decide +kernel
theorem d_R_roots_151 : decode b_R_roots 151 = .ok (.invokevirtual 108, 3) := by decide +kernel
theorem d_R_roots_154 : decode b_R_roots 154 = .ok (.ifCond .eq 21, 3) := by decide +kernel
theorem d_R_roots_157 : decode b_R_roots 157 = .ok (.aload_n 0, 1) := by decide +kernel
theorem d_R_roots_158 : decode b_R_roots 158 = .ok (.bipush 46, 2) := by decide +kernel
theorem d_R_roots_160 : decode b_R_roots 160 = .ok (.invokevirtual 62, 3) := by decide +kernel
theorem d_R_roots_163 : decode b_R_roots 163 = .ok (.aload_n 0, 1) := by decide +kernel
theorem d_R_roots_164 : decode b_R_roots 164 = .ok (.bipush 45, 2) := by decide +kernel
theorem d_R_roots_166 : decode b_R_roots 166 = .ok (.bipush 46, 2) := by decide +kernel
theorem d_R_roots_168 : decode b_R_roots 168 = .ok (.bipush 45, 2) := by decide +kernel
theorem d_R_roots_170 : decode b_R_roots 170 = .ok (.bipush 8, 2) := by decide +kernel
theorem d_R_roots_172 : decode b_R_roots 172 = .ok (.invokevirtual 112, 3) := by decide +kernel
theorem d_R_roots_175 : decode b_R_roots 175 = .ok (.aload_n 0, 1) := by decide +kernel
theorem d_R_roots_176 : decode b_R_roots 176 = .ok (.iload_n 1, 1) := by decide +kernel
theorem d_R_roots_177 : decode b_R_roots 177 = .ok (.bipush 45, 2) := by decide +kernel
theorem d_R_roots_179 : decode b_R_roots 179 = .ok (.invokevirtual 70, 3) := by decide +kernel
theorem d_R_roots_182 : decode b_R_roots 182 = .ok (.iconst 1, 1) := by decide +kernel
theorem d_R_roots_183 : decode b_R_roots 183 = .ok (.ireturn, 1) := by decide +kernel
theorem d_R_isNone_0 : decode b_R_isNone 0 = .ok (.aload_n 0, 1) := by decide +kernel
theorem d_R_isNone_1 : decode b_R_isNone 1 = .ok (.iload_n 1, 1) := by decide +kernel
theorem d_R_isNone_2 : decode b_R_isNone 2 = .ok (.iconst 2, 1) := by decide +kernel
theorem d_R_isNone_3 : decode b_R_isNone 3 = .ok (.iadd, 1) := by decide +kernel
theorem d_R_isNone_4 : decode b_R_isNone 4 = .ok (.invokevirtual 115, 3) := by decide +kernel
theorem d_R_isNone_7 : decode b_R_isNone 7 = .ok (.ireturn, 1) := by decide +kernel
theorem d_R_copyPoint_0 : decode b_R_copyPoint 0 = .ok (.aload_n 0, 1) := by decide +kernel
theorem d_R_copyPoint_1 : decode b_R_copyPoint 1 = .ok (.iload_n 1, 1) := by decide +kernel
theorem d_R_copyPoint_2 : decode b_R_copyPoint 2 = .ok (.iload_n 2, 1) := by decide +kernel
theorem d_R_copyPoint_3 : decode b_R_copyPoint 3 = .ok (.invokevirtual 70, 3) := by decide +kernel
theorem d_R_copyPoint_6 : decode b_R_copyPoint 6 = .ok (.aload_n 0, 1) := by decide +kernel
theorem d_R_copyPoint_7 : decode b_R_copyPoint 7 = .ok (.iload_n 1, 1) := by decide +kernel
theorem d_R_copyPoint_8 : decode b_R_copyPoint 8 = .ok (.iconst 1, 1) := by decide +kernel
theorem d_R_copyPoint_9 : decode b_R_copyPoint 9 = .ok (.iadd, 1) := by decide +kernel
end
section
/-! the instructions -/
theorem d_R_copyPoint_10 : decode b_R_copyPoint 10 = .ok (.iload_n 2, 1) := by decide +kernel
theorem d_R_copyPoint_11 : decode b_R_copyPoint 11 = .ok (.iconst 1, 1) := by decide +kernel
theorem d_R_copyPoint_12 : decode b_R_copyPoint 12 = .ok (.iadd, 1) := by decide +kernel
theorem d_R_copyPoint_13 : decode b_R_copyPoint 13 = .ok (.invokevirtual 70, 3) := by decide +kernel
theorem d_R_copyPoint_16 : decode b_R_copyPoint 16 = .ok (.aload_n 0, 1) := by decide +kernel
theorem d_R_copyPoint_17 : decode b_R_copyPoint 17 = .ok (.iload_n 1, 1) := by decide +kernel
theorem d_R_copyPoint_18 : decode b_R_copyPoint 18 = .ok (.iconst 2, 1) := by decide +kernel
theorem d_R_copyPoint_19 : decode b_R_copyPoint 19 = .ok (.iadd, 1) := by decide +kernel
theorem d_R_copyPoint_20 : decode b_R_copyPoint 20 = .ok (.iload_n 2, 1) := by decide +kernel
theorem d_R_copyPoint_21 : decode b_R_copyPoint 21 = .ok (.iconst 2, 1) := by decide +kernel
theorem d_R_copyPoint_22 : decode b_R_copyPoint 22 = .ok (.iadd, 1) := by decide +kernel
theorem d_R_copyPoint_23 : decode b_R_copyPoint 23 = .ok (.invokevirtual 70, 3) := by decide +kernel
theorem d_R_copyPoint_26 : decode b_R_copyPoint 26 = .ok (.return_, 1) := by decide +kernel
theorem d_R_load_0 : decode b_R_load 0 = .ok (.aload_n 0, 1) := by decide +kernel
theorem d_R_load_1 : decode b_R_load 1 = .ok (.iload_n 1, 1) := by decide +kernel
theorem d_R_load_2 : decode b_R_load 2 = .ok (.bipush 10, 2) := by decide +kernel
theorem d_R_load_4 : decode b_R_load 4 = .ok (.iconst 2, 1) := by decide +kernel
theorem d_R_load_5 : decode b_R_load 5 = .ok (.iload_n 2, 1) := by decide +kernel
theorem d_R_load_6 : decode b_R_load 6 = .ok (.imul, 1) := by decide +kernel
theorem d_R_load_7 : decode b_R_load 7 = .ok (.iadd, 1) := by decide +kernel
theorem d_R_load_8 : decode b_R_load 8 = .ok (.invokevirtual 70, 3) := by decide +kernel
theorem d_R_load_11 : decode b_R_load 11 = .ok (.aload_n 0, 1) := by decide +kernel
theorem d_R_load_12 : decode b_R_load 12 = .ok (.iload_n 1, 1) := by decide +kernel
theorem d_R_load_13 : decode b_R_load 13 = .ok (.iconst 1, 1) := by decide +kernel
theorem d_R_load_14 : decode b_R_load 14 = .ok (.iadd, 1) := by decide +kernel
theorem d_R_load_15 : decode b_R_load 15 = .ok (.bipush 11, 2) := by decide +kernel
theorem d_R_load_17 : decode b_R_load 17 = .ok (.iconst 2, 1) := by decide +kernel
theorem d_R_load_18 : decode b_R_load 18 = .ok (.iload_n 2, 1) := by decide +kernel
theorem d_R_load_19 : decode b_R_load 19 = .ok (.imul, 1) := by decide +kernel
theorem d_R_load_20 : decode b_R_load 20 = .ok (.iadd, 1) := by decide +kernel
theorem d_R_load_21 : decode b_R_load 21 = .ok (.invokevirtual 70, 3) := by decide +kernel
theorem d_R_load_24 : decode b_R_load 24 = .ok (.aload_n 0, 1) := by decide +kernel
theorem d_R_load_25 : decode b_R_load 25 = .ok (.iload_n 1, 1) := by decide +kernel
theorem d_R_load_26 : decode b_R_load 26 = .ok (.iconst 2, 1) := by decide +kernel
theorem d_R_load_27 : decode b_R_load 27 = .ok (.iadd, 1) := by decide +kernel
theorem d_R_load_28 : decode b_R_load 28 = .ok (.bipush 20, 2) := by decide +kernel
theorem d_R_load_30 : decode b_R_load 30 = .ok (.invokevirtual 70, 3) := by decide +kernel
theorem d_R_load_33 : decode b_R_load 33 = .ok (.aload_n 0, 1) := by decide +kernel
theorem d_R_load_34 : decode b_R_load 34 = .ok (.getfield 23, 3) := by decide +kernel
theorem d_R_load_37 : decode b_R_load 37 = .ok (.iload_n 2, 1) := by decide +kernel
theorem d_R_load_38 : decode b_R_load 38 = .ok (.baload, 1) := by decide +kernel
theorem d_R_load_39 : decode b_R_load 39 = .ok (.ifCond .eq 10, 3) := by decide +kernel
theorem d_R_load_42 : decode b_R_load 42 = .ok (.aload_n 0, 1) := by decide +kernel
theorem d_R_load_43 : decode b_R_load 43 = .ok (.iload_n 1, 1) := by decide +kernel
theorem d_R_load_44 : decode b_R_load 44 = .ok (.iconst 2, 1) := by decide +kernel
theorem d_R_load_45 : decode b_R_load 45 = .ok (.iadd, 1) := by decide +kernel
theorem d_R_load_46 : decode b_R_load 46 = .ok (.invokevirtual 62, 3) := by decide +kernel
theorem d_R_load_49 : decode b_R_load 49 = .ok (.return_, 1) := by decide +kernel
theorem d_R_store_0 : decode b_R_store 0 = .ok (.aload_n 0, 1) := by decide +kernel
theorem d_R_store_1 : decode b_R_store 1 = .ok (.getfield 23, 3) := by decide +kernel
theorem d_R_store_4 : decode b_R_store 4 = .ok (.iload_n 1, 1) := by decide +kernel
theorem d_R_store_5 : decode b_R_store 5 = .ok (.aload_n 0, 1) := by decide +kernel
theorem d_R_store_6 : decode b_R_store 6 = .ok (.iload_n 2, 1) := by decide +kernel
theorem d_R_store_7 : decode b_R_store 7 = .ok (.invokevirtual 118, 3) := by decide +kernel
theorem d_R_store_10 : decode b_R_store 10 = .ok (.bastore, 1) := by decide +kernel
theorem d_R_store_11 : decode b_R_store 11 = .ok (.aload_n 0, 1) := by decide +kernel
theorem d_R_store_12 : decode b_R_store 12 = .ok (.getfield 23, 3) := by decide +kernel
theorem d_R_store_15 : decode b_R_store 15 = .ok (.iload_n 1, 1) := by decide +kernel
theorem d_R_store_16 : decode b_R_store 16 = .ok (.baload, 1) := by decide +kernel
theorem d_R_store_17 : decode b_R_store 17 = .ok (.ifCond .ne 37, 3) := by decide +kernel
theorem d_R_store_20 : decode b_R_store 20 = .ok (.aload_n 0, 1) := by decide +kernel
theorem d_R_store_21 : decode b_R_store 21 = .ok (.bipush 10, 2) := by decide +kernel
theorem d_R_store_23 : decode b_R_store 23 = .ok (.iconst 2, 1) := by decide +kernel
theorem d_R_store_24 : decode b_R_store 24 = .ok (.iload_n 1, 1) := by decide +kernel
theorem d_R_store_25 : decode b_R_store 25 = .ok (.imul, 1) := by decide +kernel
theorem d_R_store_26 : decode b_R_store 26 = .ok (.iadd, 1) := by decide +kernel
theorem d_R_store_27 : decode b_R_store 27 = .ok (.iload_n 2, 1) := by decide +kernel
theorem d_R_store_28 : decode b_R_store 28 = .ok (.iload_n 2, 1) := by decide +kernel
theorem d_R_store_29 : decode b_R_store 29 = .ok (.iconst 2, 1) := by decide +kernel
theorem d_R_store_30 : decode b_R_store 30 = .ok (.iadd, 1) := by decide +kernel
theorem d_R_store_31 : decode b_R_store 31 = .ok (.bipush 8, 2) := by decide +kernel
theorem d_R_store_33 : decode b_R_store 33 = .ok (.invokevirtual 121, 3) := by decide +kernel
theorem d_R_store_36 : decode b_R_store 36 = .ok (.aload_n 0, 1) := by decide +kernel
theorem d_R_store_37 : decode b_R_store 37 = .ok (.bipush 11, 2) := by decide +kernel
theorem d_R_store_39 : decode b_R_store 39 = .ok (.iconst 2, 1) := by decide +kernel
theorem d_R_store_40 : decode b_R_store 40 = .ok (.iload_n 1, 1) := by decide +kernel
theorem d_R_store_41 : decode b_R_store 41 = .ok (.imul, 1) := by decide +kernel
theorem d_R_store_42 : decode b_R_store 42 = .ok (.iadd, 1) := by decide +kernel
theorem d_R_store_43 : decode b_R_store 43 = .ok (.iload_n 2, 1) := by decide +kernel
theorem d_R_store_44 : decode b_R_store 44 = .ok (.iconst 1, 1) := by decide +kernel
theorem d_R_store_45 : decode b_R_store 45 = .ok (.iadd, 1) := by decide +kernel
theorem d_R_store_46 : decode b_R_store 46 = .ok (.iload_n 2, 1) := by decide +kernel
theorem d_R_store_47 : decode b_R_store 47 = .ok (.iconst 2, 1) := by decide +kernel
theorem d_R_store_48 : decode b_R_store 48 = .ok (.iadd, 1) := by decide +kernel
theorem d_R_store_49 : decode b_R_store 49 = .ok (.bipush 8, 2) := by decide +kernel
theorem d_R_store_51 : decode b_R_store 51 = .ok (.invokevirtual 121, 3) := by decide +kernel
theorem d_R_store_54 : decode b_R_store 54 = .ok (.return_, 1) := by decide +kernel
theorem d_R_twice_0 : decode b_R_twice 0 = .ok (.aload_n 0, 1) := by decide +kernel
theorem d_R_twice_1 : decode b_R_twice 1 = .ok (.bipush 31, 2) := by decide +kernel
theorem d_R_twice_3 : decode b_R_twice 3 = .ok (.iload_n 1, 1) := by decide +kernel
theorem d_R_twice_4 : decode b_R_twice 4 = .ok (.iload_n 1, 1) := by decide +kernel
theorem d_R_twice_5 : decode b_R_twice 5 = .ok (.bipush 8, 2) := by decide +kernel
theorem d_R_twice_7 : decode b_R_twice 7 = .ok (.invokevirtual 96, 3) := by decide +kernel
theorem d_R_twice_10 : decode b_R_twice 10 = .ok (.aload_n 0, 1) := by decide +kernel
theorem d_R_twice_11 : decode b_R_twice 11 = .ok (.bipush 34, 2) := by decide +kernel
theorem d_R_twice_13 : decode b_R_twice 13 = .ok (.bipush 31, 2) := by decide +kernel
theorem d_R_twice_15 : decode b_R_twice 15 = .ok (.bipush 31, 2) := by decide +kernel
theorem d_R_twice_17 : decode b_R_twice 17 = .ok (.bipush 8, 2) := by decide +kernel
theorem d_R_twice_19 : decode b_R_twice 19 = .ok (.invokevirtual 124, 3) := by decide +kernel
theorem d_R_twice_22 : decode b_R_twice 22 = .ok (.aload_n 0, 1) := by decide +kernel
theorem d_R_twice_23 : decode b_R_twice 23 = .ok (.bipush 31, 2) := by decide +kernel
theorem d_R_twice_25 : decode b_R_twice 25 = .ok (.bipush 31, 2) := by decide +kernel
theorem d_R_twice_27 : decode b_R_twice 27 = .ok (.bipush 34, 2) := by decide +kernel
theorem d_R_twice_29 : decode b_R_twice 29 = .ok (.bipush 8, 2) := by decide +kernel
theorem d_R_twice_31 : decode b_R_twice 31 = .ok (.invokevirtual 124, 3) := by decide +kernel
theorem d_R_twice_34 : decode b_R_twice 34 = .ok (.aload_n 0, 1) := by decide +kernel
theorem d_R_twice_35 : decode b_R_twice 35 = .ok (.bipush 32, 2) := by decide +kernel
theorem d_R_twice_37 : decode b_R_twice 37 = .ok (.iload_n 1, 1) := by decide +kernel
theorem d_R_twice_38 : decode b_R_twice 38 = .ok (.iconst 1, 1) := by decide +kernel
theorem d_R_twice_39 : decode b_R_twice 39 = .ok (.iadd, 1) := by decide +kernel
theorem d_R_twice_40 : decode b_R_twice 40 = .ok (.iload_n 1, 1) := by decide +kernel
theorem d_R_twice_41 : decode b_R_twice 41 = .ok (.iconst 2, 1) := by decide +kernel
theorem d_R_twice_42 : decode b_R_twice 42 = .ok (.iadd, 1) := by decide +kernel
theorem d_R_twice_43 : decode b_R_twice 43 = .ok (.bipush 8, 2) := by decide +kernel
theorem d_R_twice_45 : decode b_R_twice 45 = .ok (.invokevirtual 96, 3) := by decide +kernel
theorem d_R_twice_48 : decode b_R_twice 48 = .ok (.aload_n 0, 1) := by decide +kernel
theorem d_R_twice_49 : decode b_R_twice 49 = .ok (.bipush 33, 2) := by decide +kernel
theorem d_R_twice_51 : decode b_R_twice 51 = .ok (.iload_n 1, 1) := by decide +kernel
theorem d_R_twice_52 : decode b_R_twice 52 = .ok (.iload_n 1, 1) := by decide +kernel
theorem d_R_twice_53 : decode b_R_twice 53 = .ok (.iconst 1, 1) := by decide +kernel
theorem d_R_twice_54 : decode b_R_twice 54 = .ok (.iadd, 1) := by decide +kernel
theorem d_R_twice_55 : decode b_R_twice 55 = .ok (.bipush 8, 2) := by decide +kernel
theorem d_R_twice_57 : decode b_R_twice 57 = .ok (.invokevirtual 96, 3) := by decide +kernel
theorem d_R_twice_60 : decode b_R_twice 60 = .ok (.aload_n 0, 1) := by decide +kernel
theorem d_R_twice_61 : decode b_R_twice 61 = .ok (.bipush 33, 2) := by decide +kernel
theorem d_R_twice_63 : decode b_R_twice 63 = .ok (.bipush 33, 2) := by decide +kernel
theorem d_R_twice_65 : decode b_R_twice 65 = .ok (.bipush 32, 2) := by decide +kernel
theorem d_R_twice_67 : decode b_R_twice 67 = .ok (.bipush 8, 2) := by decide +kernel
theorem d_R_twice_69 : decode b_R_twice 69 = .ok (.invokevirtual 96, 3) := by decide +kernel
theorem d_R_twice_72 : decode b_R_twice 72 = .ok (.aload_n 0, 1) := by decide +kernel
theorem d_R_twice_73 : decode b_R_twice 73 = .ok (.bipush 36, 2) := by decide +kernel
theorem d_R_twice_75 : decode b_R_twice 75 = .ok (.bipush 31, 2) := by decide +kernel
theorem d_R_twice_77 : decode b_R_twice 77 = .ok (.bipush 31, 2) := by decide +kernel
theorem d_R_twice_79 : decode b_R_twice 79 = .ok (.bipush 8, 2) := by decide +kernel
theorem d_R_twice_81 : decode b_R_twice 81 = .ok (.invokevirtual 96, 3) := by decide +kernel
theorem d_R_twice_84 : decode b_R_twice 84 = .ok (.iconst 0, 1) := by decide +kernel
theorem d_R_twice_85 : decode b_R_twice 85 = .ok (.istore_n 2, 1) := by decide +kernel
theorem d_R_twice_86 : decode b_R_twice 86 = .ok (.iload_n 2, 1) := by decide +kernel
theorem d_R_twice_87 : decode b_R_twice 87 = .ok (.bipush 8, 2) := by decide +kernel
theorem d_R_twice_89 : decode b_R_twice 89 = .ok (.if_icmp .ge 21, 3) := by decide +kernel
theorem d_R_twice_92 : decode b_R_twice 92 = .ok (.aload_n 0, 1) := by decide +kernel
theorem d_R_twice_93 : decode b_R_twice 93 = .ok (.bipush 36, 2) := by decide +kernel
theorem d_R_twice_95 : decode b_R_twice 95 = .ok (.bipush 36, 2) := by decide +kernel
theorem d_R_twice_97 : decode b_R_twice 97 = .ok (.bipush 33, 2) := by decide +kernel
theorem d_R_twice_99 : decode b_R_twice 99 = .ok (.bipush 8, 2) := by decide +kernel
theorem d_R_twice_101 : decode b_R_twice 101 = .ok (.invokevirtual 112, 3) := by decide +kernel
theorem d_R_twice_104 : decode b_R_twice 104 = .ok (.iinc 2 1, 3) := by decide +kernel
theorem d_R_twice_107 : decode b_R_twice 107 = .ok (.goto (-21), 3) := by decide +kernel
theorem d_R_twice_110 : decode b_R_twice 110 = .ok (.aload_n 0, 1) := by decide +kernel
theorem d_R_twice_111 : decode b_R_twice 111 = .ok (.bipush 34, 2) := by decide +kernel
theorem d_R_twice_113 : decode b_R_twice 113 = .ok (.bipush 33, 2) := by decide +kernel
theorem d_R_twice_115 : decode b_R_twice 115 = .ok (.bipush 33, 2) := by decide +kernel
theorem d_R_twice_117 : decode b_R_twice 117 = .ok (.bipush 8, 2) := by decide +kernel
theorem d_R_twice_119 : decode b_R_twice 119 = .ok (.invokevirtual 124, 3) := by decide +kernel
theorem d_R_twice_122 : decode b_R_twice 122 = .ok (.aload_n 0, 1) := by decide +kernel
theorem d_R_twice_123 : decode b_R_twice 123 = .ok (.bipush 34, 2) := by decide +kernel
theorem d_R_twice_125 : decode b_R_twice 125 = .ok (.bipush 34, 2) := by decide +kernel
theorem d_R_twice_127 : decode b_R_twice 127 = .ok (.bipush 34, 2) := by decide +kernel
theorem d_R_twice_129 : decode b_R_twice 129 = .ok (.bipush 8, 2) := by decide +kernel
theorem d_R_twice_131 : decode b_R_twice 131 = .ok (.invokevirtual 124, 3) := by decide +kernel
theorem d_R_twice_134 : decode b_R_twice 134 = .ok (.aload_n 0, 1) := by decide +kernel
theorem d_R_twice_135 : decode b_R_twice 135 = .ok (.bipush 34, 2) := by decide +kernel
theorem d_R_twice_137 : decode b_R_twice 137 = .ok (.bipush 34, 2) := by decide +kernel
theorem d_R_twice_139 : decode b_R_twice 139 = .ok (.bipush 36, 2) := by decide +kernel
theorem d_R_twice_141 : decode b_R_twice 141 = .ok (.bipush 8, 2) := by decide +kernel
theorem d_R_twice_143 : decode b_R_twice 143 = .ok (.invokevirtual 112, 3) := by decide +kernel
theorem d_R_twice_146 : decode b_R_twice 146 = .ok (.aload_n 0, 1) := by decide +kernel
theorem d_R_twice_147 : decode b_R_twice 147 = .ok (.bipush 34, 2) := by decide +kernel
theorem d_R_twice_149 : decode b_R_twice 149 = .ok (.bipush 31, 2) := by decide +kernel
theorem d_R_twice_151 : decode b_R_twice 151 = .ok (.bipush 34, 2) := by decide +kernel
theorem d_R_twice_153 : decode b_R_twice 153 = .ok (.bipush 8, 2) := by decide +kernel
theorem d_R_twice_155 : decode b_R_twice 155 = .ok (.invokevirtual 96, 3) := by decide +kernel
theorem d_R_twice_158 : decode b_R_twice 158 = .ok (.aload_n 0, 1) := by decide +kernel
theorem d_R_twice_159 : decode b_R_twice 159 = .ok (.bipush 35, 2) := by decide +kernel
theorem d_R_twice_161 : decode b_R_twice 161 = .ok (.iload_n 1, 1) := by decide +kernel
theorem d_R_twice_162 : decode b_R_twice 162 = .ok (.iconst 1, 1) := by decide +kernel
theorem d_R_twice_163 : decode b_R_twice 163 = .ok (.iadd, 1) := by decide +kernel
theorem d_R_twice_164 : decode b_R_twice 164 = .ok (.bipush 32, 2) := by decide +kernel
theorem d_R_twice_166 : decode b_R_twice 166 = .ok (.bipush 8, 2) := by decide +kernel
theorem d_R_twice_168 : decode b_R_twice 168 = .ok (.invokevirtual 96, 3) := by decide +kernel
theorem d_R_twice_171 : decode b_R_twice 171 = .ok (.aload_n 0, 1) := by decide +kernel
theorem d_R_twice_172 : decode b_R_twice 172 = .ok (.bipush 35, 2) := by decide +kernel
theorem d_R_twice_174 : decode b_R_twice 174 = .ok (.bipush 35, 2) := by decide +kernel
theorem d_R_twice_176 : decode b_R_twice 176 = .ok (.bipush 35, 2) := by decide +kernel
theorem d_R_twice_178 : decode b_R_twice 178 = .ok (.bipush 8, 2) := by decide +kernel
theorem d_R_twice_180 : decode b_R_twice 180 = .ok (.invokevirtual 96, 3) := by decide +kernel
theorem d_R_twice_183 : decode b_R_twice 183 = .ok (.iconst 0, 1) := by decide +kernel
theorem d_R_twice_184 : decode b_R_twice 184 = .ok (.istore_n 2, 1) := by decide +kernel
theorem d_R_twice_185 : decode b_R_twice 185 = .ok (.iload_n 2, 1) := by decide +kernel
theorem d_R_twice_186 : decode b_R_twice 186 = .ok (.bipush 8, 2) := by decide +kernel
theorem d_R_twice_188 : decode b_R_twice 188 = .ok (.if_icmp .ge 21, 3) := by decide +kernel
theorem d_R_twice_191 : decode b_R_twice 191 = .ok (.aload_n 0, 1) := by decide +kernel
theorem d_R_twice_192 : decode b_R_twice 192 = .ok (.bipush 34, 2) := by decide +kernel
theorem d_R_twice_194 : decode b_R_twice 194 = .ok (.bipush 34, 2) := by decide +kernel
theorem d_R_twice_196 : decode b_R_twice 196 = .ok (.bipush 35, 2) := by decide +kernel
theorem d_R_twice_198 : decode b_R_twice 198 = .ok (.bipush 8, 2) := by decide +kernel
theorem d_R_twice_200 : decode b_R_twice 200 = .ok (.invokevirtual 112, 3) := by decide +kernel
theorem d_R_twice_203 : decode b_R_twice 203 = .ok (.iinc 2 1, 3) := by decide +kernel
theorem d_R_twice_206 : decode b_R_twice 206 = .ok (.goto (-21), 3) := by decide +kernel
theorem d_R_twice_209 : decode b_R_twice 209 = .ok (.aload_n 0, 1) := by decide +kernel
theorem d_R_twice_210 : decode b_R_twice 210 = .ok (.iload_n 1, 1) := by decide +kernel
theorem d_R_twice_211 : decode b_R_twice 211 = .ok (.iconst 1, 1) := by decide +kernel
theorem d_R_twice_212 : decode b_R_twice 212 = .ok (.iadd, 1) := by decide +kernel
theorem d_R_twice_213 : decode b_R_twice 213 = .ok (.bipush 34, 2) := by decide +kernel
theorem d_R_twice_215 : decode b_R_twice 215 = .ok (.invokevirtual 70, 3) := by decide +kernel
theorem d_R_twice_218 : decode b_R_twice 218 = .ok (.aload_n 0, 1) := by decide +kernel
theorem d_R_twice_219 : decode b_R_twice 219 = .ok (.bipush 34, 2) := by decide +kernel
theorem d_R_twice_221 : decode b_R_twice 221 = .ok (.bipush 36, 2) := by decide +kernel
theorem d_R_twice_223 : decode b_R_twice 223 = .ok (.bipush 32, 2) := by decide +kernel
theorem d_R_twice_225 : decode b_R_twice 225 = .ok (.bipush 8, 2) := by decide +kernel
theorem d_R_twice_227 : decode b_R_twice 227 = .ok (.invokevirtual 96, 3) := by decide +kernel
theorem d_R_twice_230 : decode b_R_twice 230 = .ok (.aload_n 0, 1) := by decide +kernel
theorem d_R_twice_231 : decode b_R_twice 231 = .ok (.iload_n 1, 1) := by decide +kernel
theorem d_R_twice_232 : decode b_R_twice 232 = .ok (.bipush 34, 2) := by decide +kernel
theorem d_R_twice_234 : decode b_R_twice 234 = .ok (.bipush 34, 2) := by decide +kernel
theorem d_R_twice_236 : decode b_R_twice 236 = .ok (.bipush 8, 2) := by decide +kernel
theorem d_R_twice_238 : decode b_R_twice 238 = .ok (.invokevirtual 124, 3) := by decide +kernel
theorem d_R_twice_241 : decode b_R_twice 241 = .ok (.aload_n 0, 1) := by decide +kernel
theorem d_R_twice_242 : decode b_R_twice 242 = .ok (.bipush 34, 2) := by decide +kernel
theorem d_R_twice_244 : decode b_R_twice 244 = .ok (.bipush 32, 2) := by decide +kernel
theorem d_R_twice_246 : decode b_R_twice 246 = .ok (.bipush 32, 2) := by decide +kernel
theorem d_R_twice_248 : decode b_R_twice 248 = .ok (.bipush 8, 2) := by decide +kernel
theorem d_R_twice_250 : decode b_R_twice 250 = .ok (.invokevirtual 96, 3) := by decide +kernel
theorem d_R_twice_253 : decode b_R_twice 253 = .ok (.aload_n 0, 1) := by decide +kernel
theorem d_R_twice_254 : decode b_R_twice 254 = .ok (.bipush 34, 2) := by decide +kernel
theorem d_R_twice_256 : decode b_R_twice 256 = .ok (.bipush 34, 2) := by decide +kernel
theorem d_R_twice_258 : decode b_R_twice 258 = .ok (.bipush 32, 2) := by decide +kernel
theorem d_R_twice_260 : decode b_R_twice 260 = .ok (.bipush 8, 2) := by decide +kernel
theorem d_R_twice_262 : decode b_R_twice 262 = .ok (.invokevirtual 96, 3) := by decide +kernel
theorem d_R_twice_265 : decode b_R_twice 265 = .ok (.iconst 0, 1) := by decide +kernel
theorem d_R_twice_266 : decode b_R_twice 266 = .ok (.istore_n 2, 1) := by decide +kernel
theorem d_R_twice_267 : decode b_R_twice 267 = .ok (.iload_n 2, 1) := by decide +kernel
theorem d_R_twice_268 : decode b_R_twice 268 = .ok (.iconst 3, 1) := by decide +kernel
theorem d_R_twice_269 : decode b_R_twice 269 = .ok (.if_icmp .ge 21, 3) := by decide +kernel
theorem d_R_twice_272 : decode b_R_twice 272 = .ok (.aload_n 0, 1) := by decide +kernel
theorem d_R_twice_273 : decode b_R_twice 273 = .ok (.bipush 34, 2) := by decide +kernel
theorem d_R_twice_275 : decode b_R_twice 275 = .ok (.bipush 34, 2) := by decide +kernel
theorem d_R_twice_277 : decode b_R_twice 277 = .ok (.bipush 34, 2) := by decide +kernel
theorem d_R_twice_279 : decode b_R_twice 279 = .ok (.bipush 8, 2) := by decide +kernel
theorem d_R_twice_281 : decode b_R_twice 281 = .ok (.invokevirtual 124, 3) := by decide +kernel
theorem d_R_twice_284 : decode b_R_twice 284 = .ok (.iinc 2 1, 3) := by decide +kernel
theorem d_R_twice_287 : decode b_R_twice 287 = .ok (.goto (-20), 3) := by decide +kernel
theorem d_R_twice_290 : decode b_R_twice 290 = .ok (.aload_n 0, 1) := by decide +kernel
theorem d_R_twice_291 : decode b_R_twice 291 = .ok (.iload_n 1, 1) := by decide +kernel
theorem d_R_twice_292 : decode b_R_twice 292 = .ok (.iconst 2, 1) := by decide +kernel
theorem d_R_twice_293 : decode b_R_twice 293 = .ok (.iadd, 1) := by decide +kernel
theorem d_R_twice_294 : decode b_R_twice 294 = .ok (.bipush 34, 2) := by decide +kernel
theorem d_R_twice_296 : decode b_R_twice 296 = .ok (.invokevirtual 70, 3) := by decide +kernel
theorem d_R_twice_299 : decode b_R_twice 299 = .ok (.return_, 1) := by decide +kernel
theorem d_R_join_0 : decode b_R_join 0 = .ok (.aload_n 0, 1) := by decide +kernel
theorem d_R_join_1 : decode b_R_join 1 = .ok (.iload_n 2, 1) := by decide +kernel
theorem d_R_join_2 : decode b_R_join 2 = .ok (.invokevirtual 118, 3) := by decide +kernel
theorem d_R_join_5 : decode b_R_join 5 = .ok (.ifCond .eq 4, 3) := by decide +kernel
theorem d_R_join_8 : decode b_R_join 8 = .ok (.return_, 1) := by decide +kernel
theorem d_R_join_9 : decode b_R_join 9 = .ok (.aload_n 0, 1) := by decide +kernel
theorem d_R_join_10 : decode b_R_join 10 = .ok (.iload_n 1, 1) := by decide +kernel
theorem d_R_join_11 : decode b_R_join 11 = .ok (.invokevirtual 118, 3) := by decide +kernel
theorem d_R_join_14 : decode b_R_join 14 = .ok (.ifCond .eq 10, 3) := by decide +kernel
theorem d_R_join_17 : decode b_R_join 17 = .ok (.aload_n 0, 1) := by decide +kernel
theorem d_R_join_18 : decode b_R_join 18 = .ok (.iload_n 1, 1) := by decide +kernel
theorem d_R_join_19 : decode b_R_join 19 = .ok (.iload_n 2, 1) := by decide +kernel
theorem d_R_join_20 : decode b_R_join 20 = .ok (.invokevirtual 127, 3) := by decide +kernel
theorem d_R_join_23 : decode b_R_join 23 = .ok (.return_, 1) := by decide +kernel
theorem d_R_join_24 : decode b_R_join 24 = .ok (.aload_n 0, 1) := by decide +kernel
theorem d_R_join_25 : decode b_R_join 25 = .ok (.bipush 31, 2) := by decide +kernel
theorem d_R_join_27 : decode b_R_join 27 = .ok (.iload_n 2, 1) := by decide +kernel
theorem d_R_join_28 : decode b_R_join 28 = .ok (.iconst 1, 1) := by decide +kernel
theorem d_R_join_29 : decode b_R_join 29 = .ok (.iadd, 1) := by decide +kernel
theorem d_R_join_30 : decode b_R_join 30 = .ok (.iload_n 1, 1) := by decide +kernel
theorem d_R_join_31 : decode b_R_join 31 = .ok (.iconst 2, 1) := by decide +kernel
theorem d_R_join_32 : decode b_R_join 32 = .ok (.iadd, 1) := by decide +kernel
theorem d_R_join_33 : decode b_R_join 33 = .ok (.bipush 8, 2) := by decide +kernel
theorem d_R_join_35 : decode b_R_join 35 = .ok (.invokevirtual 96, 3) := by decide +kernel
theorem d_R_join_38 : decode b_R_join 38 = .ok (.aload_n 0, 1) := by decide +kernel
theorem d_R_join_39 : decode b_R_join 39 = .ok (.bipush 34, 2) := by decide +kernel
theorem d_R_join_41 : decode b_R_join 41 = .ok (.iload_n 1, 1) := by decide +kernel
theorem d_R_join_42 : decode b_R_join 42 = .ok (.iconst 1, 1) := by decide +kernel
theorem d_R_join_43 : decode b_R_join 43 = .ok (.iadd, 1) := by decide +kernel
theorem d_R_join_44 : decode b_R_join 44 = .ok (.iload_n 2, 1) := by decide +kernel
theorem d_R_join_45 : decode b_R_join 45 = .ok (.iconst 2, 1) := by decide +kernel
theorem d_R_join_46 : decode b_R_join 46 = .ok (.iadd, 1) := by decide +kernel
theorem d_R_join_47 : decode b_R_join 47 = .ok (.bipush 8, 2) := by decide +kernel
theorem d_R_join_49 : decode b_R_join 49 = .ok (.invokevirtual 96, 3) := by decide +kernel
theorem d_R_join_52 : decode b_R_join 52 = .ok (.aload_n 0, 1) := by decide +kernel
theorem d_R_join_53 : decode b_R_join 53 = .ok (.bipush 31, 2) := by decide +kernel
theorem d_R_join_55 : decode b_R_join 55 = .ok (.bipush 31, 2) := by decide +kernel
theorem d_R_join_57 : decode b_R_join 57 = .ok (.bipush 34, 2) := by decide +kernel
theorem d_R_join_59 : decode b_R_join 59 = .ok (.bipush 8, 2) := by decide +kernel
theorem d_R_join_61 : decode b_R_join 61 = .ok (.invokevirtual 112, 3) := by decide +kernel
theorem d_R_join_64 : decode b_R_join 64 = .ok (.aload_n 0, 1) := by decide +kernel
theorem d_R_join_65 : decode b_R_join 65 = .ok (.bipush 32, 2) := by decide +kernel
theorem d_R_join_67 : decode b_R_join 67 = .ok (.iload_n 2, 1) := by decide +kernel
theorem d_R_join_68 : decode b_R_join 68 = .ok (.iload_n 1, 1) := by decide +kernel
theorem d_R_join_69 : decode b_R_join 69 = .ok (.iconst 2, 1) := by decide +kernel
theorem d_R_join_70 : decode b_R_join 70 = .ok (.iadd, 1) := by decide +kernel
theorem d_R_join_71 : decode b_R_join 71 = .ok (.bipush 8, 2) := by decide +kernel
theorem d_R_join_73 : decode b_R_join 73 = .ok (.invokevirtual 96, 3) := by decide +kernel
theorem d_R_join_76 : decode b_R_join 76 = .ok (.aload_n 0, 1) := by decide +kernel
theorem d_R_join_77 : decode b_R_join 77 = .ok (.bipush 34, 2) := by decide +kernel
theorem d_R_join_79 : decode b_R_join 79 = .ok (.iload_n 1, 1) := by decide +kernel
theorem d_R_join_80 : decode b_R_join 80 = .ok (.iload_n 2, 1) := by decide +kernel
theorem d_R_join_81 : decode b_R_join 81 = .ok (.iconst 2, 1) := by decide +kernel
theorem d_R_join_82 : decode b_R_join 82 = .ok (.iadd, 1) := by decide +kernel
theorem d_R_join_83 : decode b_R_join 83 = .ok (.bipush 8, 2) := by decide +kernel
theorem d_R_join_85 : decode b_R_join 85 = .ok (.invokevirtual 96, 3) := by decide +kernel
theorem d_R_join_88 : decode b_R_join 88 = .ok (.aload_n 0, 1) := by decide +kernel
theorem d_R_join_89 : decode b_R_join 89 = .ok (.bipush 32, 2) := by decide +kernel
theorem d_R_join_91 : decode b_R_join 91 = .ok (.bipush 32, 2) := by decide +kernel
theorem d_R_join_93 : decode b_R_join 93 = .ok (.bipush 34, 2) := by decide +kernel
theorem d_R_join_95 : decode b_R_join 95 = .ok (.bipush 8, 2) := by decide +kernel
theorem d_R_join_97 : decode b_R_join 97 = .ok (.invokevirtual 112, 3) := by decide +kernel
theorem d_R_join_100 : decode b_R_join 100 = .ok (.aload_n 0, 1) := by decide +kernel
theorem d_R_join_101 : decode b_R_join 101 = .ok (.bipush 32, 2) := by decide +kernel
theorem d_R_join_103 : decode b_R_join 103 = .ok (.invokevirtual 115, 3) := by decide +kernel
theorem d_R_join_106 : decode b_R_join 106 = .ok (.ifCond .eq 28, 3) := by decide +kernel
theorem d_R_join_109 : decode b_R_join 109 = .ok (.aload_n 0, 1) := by decide +kernel
theorem d_R_join_110 : decode b_R_join 110 = .ok (.bipush 31, 2) := by decide +kernel
theorem d_R_join_112 : decode b_R_join 112 = .ok (.invokevirtual 115, 3) := by decide +kernel
theorem d_R_join_115 : decode b_R_join 115 = .ok (.ifCond .eq 11, 3) := by decide +kernel
theorem d_R_join_118 : decode b_R_join 118 = .ok (.aload_n 0, 1) := by decide +kernel
theorem d_R_join_119 : decode b_R_join 119 = .ok (.iload_n 1, 1) := by decide +kernel
theorem d_R_join_120 : decode b_R_join 120 = .ok (.invokevirtual 130, 3) := by decide +kernel
theorem d_R_join_123 : decode b_R_join 123 = .ok (.goto 10, 3) := by decide +kernel
theorem d_R_join_126 : decode b_R_join 126 = .ok (.aload_n 0, 1) := by decide +kernel
theorem d_R_join_127 : decode b_R_join 127 = .ok (.iload_n 1, 1) := by decide +kernel
theorem d_R_join_128 : decode b_R_join 128 = .ok (.iconst 2, 1) := by decide +kernel
theorem d_R_join_129 : decode b_R_join 129 = .ok (.iadd, 1) := by decide +kernel
theorem d_R_join_130 : decode b_R_join 130 = .ok (.invokevirtual 62, 3) := by decide +kernel
theorem d_R_join_133 : decode b_R_join 133 = .ok (.return_, 1) := by decide +kernel
theorem d_R_join_134 : decode b_R_join 134 = .ok (.aload_n 0, 1) := by decide +kernel
theorem d_R_join_135 : decode b_R_join 135 = .ok (.bipush 35, 2) := by decide +kernel
theorem d_R_join_137 : decode b_R_join 137 = .ok (.bipush 32, 2) := by decide +kernel
theorem d_R_join_139 : decode b_R_join 139 = .ok (.bipush 32, 2) := by decide +kernel
theorem d_R_join_141 : decode b_R_join 141 = .ok (.bipush 8, 2) := by decide +kernel
theorem d_R_join_143 : decode b_R_join 143 = .ok (.invokevirtual 96, 3) := by decide +kernel
theorem d_R_join_146 : decode b_R_join 146 = .ok (.aload_n 0, 1) := by decide +kernel
theorem d_R_join_147 : decode b_R_join 147 = .ok (.bipush 33, 2) := by decide +kernel
theorem d_R_join_149 : decode b_R_join 149 = .ok (.bipush 35, 2) := by decide +kernel
theorem d_R_join_151 : decode b_R_join 151 = .ok (.bipush 34, 2) := by decide +kernel
theorem d_R_join_153 : decode b_R_join 153 = .ok (.bipush 8, 2) := by decide +kernel
theorem d_R_join_155 : decode b_R_join 155 = .ok (.invokevirtual 96, 3) := by decide +kernel
theorem d_R_join_158 : decode b_R_join 158 = .ok (.aload_n 0, 1) := by decide +kernel
theorem d_R_join_159 : decode b_R_join 159 = .ok (.bipush 35, 2) := by decide +kernel
theorem d_R_join_161 : decode b_R_join 161 = .ok (.bipush 35, 2) := by decide +kernel
theorem d_R_join_163 : decode b_R_join 163 = .ok (.bipush 32, 2) := by decide +kernel
theorem d_R_join_165 : decode b_R_join 165 = .ok (.bipush 8, 2) := by decide +kernel
theorem d_R_join_167 : decode b_R_join 167 = .ok (.invokevirtual 96, 3) := by decide +kernel
theorem d_R_join_170 : decode b_R_join 170 = .ok (.aload_n 0, 1) := by decide +kernel
theorem d_R_join_171 : decode b_R_join 171 = .ok (.bipush 36, 2) := by decide +kernel
theorem d_R_join_173 : decode b_R_join 173 = .ok (.iload_n 1, 1) := by decide +kernel
theorem d_R_join_174 : decode b_R_join 174 = .ok (.iconst 2, 1) := by decide +kernel
theorem d_R_join_175 : decode b_R_join 175 = .ok (.iadd, 1) := by decide +kernel
theorem d_R_join_176 : decode b_R_join 176 = .ok (.iload_n 2, 1) := by decide +kernel
theorem d_R_join_177 : decode b_R_join 177 = .ok (.iconst 2, 1) := by decide +kernel
theorem d_R_join_178 : decode b_R_join 178 = .ok (.iadd, 1) := by decide +kernel
theorem d_R_join_179 : decode b_R_join 179 = .ok (.bipush 8, 2) := by decide +kernel
theorem d_R_join_181 : decode b_R_join 181 = .ok (.invokevirtual 96, 3) := by decide +kernel
theorem d_R_join_184 : decode b_R_join 184 = .ok (.aload_n 0, 1) := by decide +kernel
theorem d_R_join_185 : decode b_R_join 185 = .ok (.bipush 34, 2) := by decide +kernel
theorem d_R_join_187 : decode b_R_join 187 = .ok (.bipush 31, 2) := by decide +kernel
theorem d_R_join_189 : decode b_R_join 189 = .ok (.bipush 31, 2) := by decide +kernel
theorem d_R_join_191 : decode b_R_join 191 = .ok (.bipush 8, 2) := by decide +kernel
theorem d_R_join_193 : decode b_R_join 193 = .ok (.invokevirtual 96, 3) := by decide +kernel
theorem d_R_join_196 : decode b_R_join 196 = .ok (.aload_n 0, 1) := by decide +kernel
theorem d_R_join_197 : decode b_R_join 197 = .ok (.bipush 34, 2) := by decide +kernel
theorem d_R_join_199 : decode b_R_join 199 = .ok (.bipush 34, 2) := by decide +kernel
theorem d_R_join_201 : decode b_R_join 201 = .ok (.bipush 36, 2) := by decide +kernel
theorem d_R_join_203 : decode b_R_join 203 = .ok (.bipush 8, 2) := by decide +kernel
theorem d_R_join_205 : decode b_R_join 205 = .ok (.invokevirtual 96, 3) := by decide +kernel
theorem d_R_join_208 : decode b_R_join 208 = .ok (.aload_n 0, 1) := by decide +kernel
theorem d_R_join_209 : decode b_R_join 209 = .ok (.bipush 34, 2) := by decide +kernel
theorem d_R_join_211 : decode b_R_join 211 = .ok (.bipush 34, 2) := by decide +kernel
theorem d_R_join_213 : decode b_R_join 213 = .ok (.bipush 35, 2) := by decide +kernel
theorem d_R_join_215 : decode b_R_join 215 = .ok (.bipush 8, 2) := by decide +kernel
theorem d_R_join_217 : decode b_R_join 217 = .ok (.invokevirtual 112, 3) := by decide +kernel
theorem d_R_join_220 : decode b_R_join 220 = .ok (.aload_n 0, 1) := by decide +kernel
theorem d_R_join_221 : decode b_R_join 221 = .ok (.bipush 34, 2) := by decide +kernel
theorem d_R_join_223 : decode b_R_join 223 = .ok (.bipush 34, 2) := by decide +kernel
theorem d_R_join_225 : decode b_R_join 225 = .ok (.bipush 33, 2) := by decide +kernel
theorem d_R_join_227 : decode b_R_join 227 = .ok (.bipush 8, 2) := by decide +kernel
theorem d_R_join_229 : decode b_R_join 229 = .ok (.invokevirtual 112, 3) := by decide +kernel
theorem d_R_join_232 : decode b_R_join 232 = .ok (.aload_n 0, 1) := by decide +kernel
theorem d_R_join_233 : decode b_R_join 233 = .ok (.bipush 34, 2) := by decide +kernel
theorem d_R_join_235 : decode b_R_join 235 = .ok (.bipush 34, 2) := by decide +kernel
theorem d_R_join_237 : decode b_R_join 237 = .ok (.bipush 33, 2) := by decide +kernel
theorem d_R_join_239 : decode b_R_join 239 = .ok (.bipush 8, 2) := by decide +kernel
theorem d_R_join_241 : decode b_R_join 241 = .ok (.invokevirtual 112, 3) := by decide +kernel
theorem d_R_join_244 : decode b_R_join 244 = .ok (.aload_n 0, 1) := by decide +kernel
theorem d_R_join_245 : decode b_R_join 245 = .ok (.bipush 33, 2) := by decide +kernel
theorem d_R_join_247 : decode b_R_join 247 = .ok (.bipush 33, 2) := by decide +kernel
theorem d_R_join_249 : decode b_R_join 249 = .ok (.bipush 34, 2) := by decide +kernel
theorem d_R_join_251 : decode b_R_join 251 = .ok (.bipush 8, 2) := by decide +kernel
theorem d_R_join_253 : decode b_R_join 253 = .ok (.invokevirtual 112, 3) := by decide +kernel
theorem d_R_join_256 : decode b_R_join 256 = .ok (.aload_n 0, 1) := by decide +kernel
theorem d_R_join_257 : decode b_R_join 257 = .ok (.bipush 33, 2) := by decide +kernel
theorem d_R_join_259 : decode b_R_join 259 = .ok (.bipush 31, 2) := by decide +kernel
theorem d_R_join_261 : decode b_R_join 261 = .ok (.bipush 33, 2) := by decide +kernel
theorem d_R_join_263 : decode b_R_join 263 = .ok (.bipush 8, 2) := by decide +kernel
theorem d_R_join_265 : decode b_R_join 265 = .ok (.invokevirtual 96, 3) := by decide +kernel
theorem d_R_join_268 : decode b_R_join 268 = .ok (.aload_n 0, 1) := by decide +kernel
theorem d_R_join_269 : decode b_R_join 269 = .ok (.bipush 31, 2) := by decide +kernel
theorem d_R_join_271 : decode b_R_join 271 = .ok (.iload_n 1, 1) := by decide +kernel
theorem d_R_join_272 : decode b_R_join 272 = .ok (.iconst 1, 1) := by decide +kernel
theorem d_R_join_273 : decode b_R_join 273 = .ok (.iadd, 1) := by decide +kernel
theorem d_R_join_274 : decode b_R_join 274 = .ok (.iload_n 2, 1) := by decide +kernel
theorem d_R_join_275 : decode b_R_join 275 = .ok (.iconst 2, 1) := by decide +kernel
theorem d_R_join_276 : decode b_R_join 276 = .ok (.iadd, 1) := by decide +kernel
theorem d_R_join_277 : decode b_R_join 277 = .ok (.bipush 8, 2) := by decide +kernel
theorem d_R_join_279 : decode b_R_join 279 = .ok (.invokevirtual 96, 3) := by decide +kernel
theorem d_R_join_282 : decode b_R_join 282 = .ok (.aload_n 0, 1) := by decide +kernel
theorem d_R_join_283 : decode b_R_join 283 = .ok (.bipush 31, 2) := by decide +kernel
theorem d_R_join_285 : decode b_R_join 285 = .ok (.bipush 31, 2) := by decide +kernel
theorem d_R_join_287 : decode b_R_join 287 = .ok (.bipush 35, 2) := by decide +kernel
theorem d_R_join_289 : decode b_R_join 289 = .ok (.bipush 8, 2) := by decide +kernel
theorem d_R_join_291 : decode b_R_join 291 = .ok (.invokevirtual 96, 3) := by decide +kernel
theorem d_R_join_294 : decode b_R_join 294 = .ok (.aload_n 0, 1) := by decide +kernel
theorem d_R_join_295 : decode b_R_join 295 = .ok (.iload_n 1, 1) := by decide +kernel
theorem d_R_join_296 : decode b_R_join 296 = .ok (.iconst 1, 1) := by decide +kernel
theorem d_R_join_297 : decode b_R_join 297 = .ok (.iadd, 1) := by decide +kernel
theorem d_R_join_298 : decode b_R_join 298 = .ok (.bipush 33, 2) := by decide +kernel
end
section
/-! the instructions -/
theorem d_R_join_300 : decode b_R_join 300 = .ok (.bipush 31, 2) := by decide +kernel
theorem d_R_join_302 : decode b_R_join 302 = .ok (.bipush 8, 2) := by decide +kernel
theorem d_R_join_304 : decode b_R_join 304 = .ok (.invokevirtual 112, 3) := by decide +kernel
theorem d_R_join_307 : decode b_R_join 307 = .ok (.aload_n 0, 1) := by decide +kernel
theorem d_R_join_308 : decode b_R_join 308 = .ok (.iload_n 1, 1) := by decide +kernel
theorem d_R_join_309 : decode b_R_join 309 = .ok (.bipush 32, 2) := by decide +kernel
theorem d_R_join_311 : decode b_R_join 311 = .ok (.bipush 34, 2) := by decide +kernel
theorem d_R_join_313 : decode b_R_join 313 = .ok (.bipush 8, 2) := by decide +kernel
theorem d_R_join_315 : decode b_R_join 315 = .ok (.invokevirtual 96, 3) := by decide +kernel
theorem d_R_join_318 : decode b_R_join 318 = .ok (.aload_n 0, 1) := by decide +kernel
theorem d_R_join_319 : decode b_R_join 319 = .ok (.iload_n 1, 1) := by decide +kernel
theorem d_R_join_320 : decode b_R_join 320 = .ok (.iconst 2, 1) := by decide +kernel
theorem d_R_join_321 : decode b_R_join 321 = .ok (.iadd, 1) := by decide +kernel
theorem d_R_join_322 : decode b_R_join 322 = .ok (.bipush 35, 2) := by decide +kernel
theorem d_R_join_324 : decode b_R_join 324 = .ok (.bipush 36, 2) := by decide +kernel
theorem d_R_join_326 : decode b_R_join 326 = .ok (.bipush 8, 2) := by decide +kernel
theorem d_R_join_328 : decode b_R_join 328 = .ok (.invokevirtual 96, 3) := by decide +kernel
theorem d_R_join_331 : decode b_R_join 331 = .ok (.return_, 1) := by decide +kernel
theorem d_R_multiple_0 : decode b_R_multiple 0 = .ok (.aload_n 0, 1) := by decide +kernel
theorem d_R_multiple_1 : decode b_R_multiple 1 = .ok (.bipush 27, 2) := by decide +kernel
theorem d_R_multiple_3 : decode b_R_multiple 3 = .ok (.invokevirtual 62, 3) := by decide +kernel
theorem d_R_multiple_6 : decode b_R_multiple 6 = .ok (.sipush 255, 3) := by decide +kernel
theorem d_R_multiple_9 : decode b_R_multiple 9 = .ok (.istore_n 2, 1) := by decide +kernel
theorem d_R_multiple_10 : decode b_R_multiple 10 = .ok (.iload_n 2, 1) := by decide +kernel
theorem d_R_multiple_11 : decode b_R_multiple 11 = .ok (.ifCond .lt 49, 3) := by decide +kernel
theorem d_R_multiple_14 : decode b_R_multiple 14 = .ok (.aload_n 0, 1) := by decide +kernel
theorem d_R_multiple_15 : decode b_R_multiple 15 = .ok (.bipush 25, 2) := by decide +kernel
theorem d_R_multiple_17 : decode b_R_multiple 17 = .ok (.invokevirtual 118, 3) := by decide +kernel
theorem d_R_multiple_20 : decode b_R_multiple 20 = .ok (.ifCond .ne 9, 3) := by decide +kernel
theorem d_R_multiple_23 : decode b_R_multiple 23 = .ok (.aload_n 0, 1) := by decide +kernel
theorem d_R_multiple_24 : decode b_R_multiple 24 = .ok (.bipush 25, 2) := by decide +kernel
theorem d_R_multiple_26 : decode b_R_multiple 26 = .ok (.invokevirtual 130, 3) := by decide +kernel
theorem d_R_multiple_29 : decode b_R_multiple 29 = .ok (.aload_n 0, 1) := by decide +kernel
theorem d_R_multiple_30 : decode b_R_multiple 30 = .ok (.iload_n 1, 1) := by decide +kernel
theorem d_R_multiple_31 : decode b_R_multiple 31 = .ok (.iload_n 2, 1) := by decide +kernel
theorem d_R_multiple_32 : decode b_R_multiple 32 = .ok (.invokevirtual 100, 3) := by decide +kernel
theorem d_R_multiple_35 : decode b_R_multiple 35 = .ok (.ifCond .eq 19, 3) := by decide +kernel
theorem d_R_multiple_38 : decode b_R_multiple 38 = .ok (.aload_n 0, 1) := by decide +kernel
theorem d_R_multiple_39 : decode b_R_multiple 39 = .ok (.bipush 28, 2) := by decide +kernel
theorem d_R_multiple_41 : decode b_R_multiple 41 = .ok (.bipush 22, 2) := by decide +kernel
theorem d_R_multiple_43 : decode b_R_multiple 43 = .ok (.invokevirtual 127, 3) := by decide +kernel
theorem d_R_multiple_46 : decode b_R_multiple 46 = .ok (.aload_n 0, 1) := by decide +kernel
theorem d_R_multiple_47 : decode b_R_multiple 47 = .ok (.bipush 25, 2) := by decide +kernel
theorem d_R_multiple_49 : decode b_R_multiple 49 = .ok (.bipush 28, 2) := by decide +kernel
theorem d_R_multiple_51 : decode b_R_multiple 51 = .ok (.invokevirtual 133, 3) := by decide +kernel
theorem d_R_multiple_54 : decode b_R_multiple 54 = .ok (.iinc 2 (-1), 3) := by decide +kernel
theorem d_R_multiple_57 : decode b_R_multiple 57 = .ok (.goto (-47), 3) := by decide +kernel
theorem d_R_multiple_60 : decode b_R_multiple 60 = .ok (.return_, 1) := by decide +kernel
theorem d_R_isPoint_0 : decode b_R_isPoint 0 = .ok (.aload_n 0, 1) := by decide +kernel
theorem d_R_isPoint_1 : decode b_R_isPoint 1 = .ok (.iload_n 1, 1) := by decide +kernel
theorem d_R_isPoint_2 : decode b_R_isPoint 2 = .ok (.bipush 8, 2) := by decide +kernel
theorem d_R_isPoint_4 : decode b_R_isPoint 4 = .ok (.invokevirtual 78, 3) := by decide +kernel
theorem d_R_isPoint_7 : decode b_R_isPoint 7 = .ok (.ifCond .ge 13, 3) := by decide +kernel
theorem d_R_isPoint_10 : decode b_R_isPoint 10 = .ok (.aload_n 0, 1) := by decide +kernel
theorem d_R_isPoint_11 : decode b_R_isPoint 11 = .ok (.iload_n 2, 1) := by decide +kernel
theorem d_R_isPoint_12 : decode b_R_isPoint 12 = .ok (.bipush 8, 2) := by decide +kernel
theorem d_R_isPoint_14 : decode b_R_isPoint 14 = .ok (.invokevirtual 78, 3) := by decide +kernel
theorem d_R_isPoint_17 : decode b_R_isPoint 17 = .ok (.ifCond .lt 5, 3) := by decide +kernel
theorem d_R_isPoint_20 : decode b_R_isPoint 20 = .ok (.iconst 0, 1) := by decide +kernel
theorem d_R_isPoint_21 : decode b_R_isPoint 21 = .ok (.ireturn, 1) := by decide +kernel
theorem d_R_isPoint_22 : decode b_R_isPoint 22 = .ok (.aload_n 0, 1) := by decide +kernel
theorem d_R_isPoint_23 : decode b_R_isPoint 23 = .ok (.bipush 33, 2) := by decide +kernel
theorem d_R_isPoint_25 : decode b_R_isPoint 25 = .ok (.iload_n 1, 1) := by decide +kernel
theorem d_R_isPoint_26 : decode b_R_isPoint 26 = .ok (.invokevirtual 136, 3) := by decide +kernel
theorem d_R_isPoint_29 : decode b_R_isPoint 29 = .ok (.aload_n 0, 1) := by decide +kernel
theorem d_R_isPoint_30 : decode b_R_isPoint 30 = .ok (.bipush 32, 2) := by decide +kernel
theorem d_R_isPoint_32 : decode b_R_isPoint 32 = .ok (.iload_n 2, 1) := by decide +kernel
theorem d_R_isPoint_33 : decode b_R_isPoint 33 = .ok (.iload_n 2, 1) := by decide +kernel
theorem d_R_isPoint_34 : decode b_R_isPoint 34 = .ok (.bipush 8, 2) := by decide +kernel
theorem d_R_isPoint_36 : decode b_R_isPoint 36 = .ok (.invokevirtual 96, 3) := by decide +kernel
theorem d_R_isPoint_39 : decode b_R_isPoint 39 = .ok (.aload_n 0, 1) := by decide +kernel
theorem d_R_isPoint_40 : decode b_R_isPoint 40 = .ok (.bipush 32, 2) := by decide +kernel
theorem d_R_isPoint_42 : decode b_R_isPoint 42 = .ok (.bipush 33, 2) := by decide +kernel
theorem d_R_isPoint_44 : decode b_R_isPoint 44 = .ok (.invokevirtual 78, 3) := by decide +kernel
theorem d_R_isPoint_47 : decode b_R_isPoint 47 = .ok (.ifCond .ne 7, 3) := by decide +kernel
theorem d_R_isPoint_50 : decode b_R_isPoint 50 = .ok (.iconst 1, 1) := by decide +kernel
theorem d_R_isPoint_51 : decode b_R_isPoint 51 = .ok (.goto 4, 3) := by decide +kernel
theorem d_R_isPoint_54 : decode b_R_isPoint 54 = .ok (.iconst 0, 1) := by decide +kernel
theorem d_R_isPoint_55 : decode b_R_isPoint 55 = .ok (.ireturn, 1) := by decide +kernel
theorem d_R_curve_0 : decode b_R_curve 0 = .ok (.aload_n 0, 1) := by decide +kernel
theorem d_R_curve_1 : decode b_R_curve 1 = .ok (.bipush 31, 2) := by decide +kernel
theorem d_R_curve_3 : decode b_R_curve 3 = .ok (.iload_n 2, 1) := by decide +kernel
theorem d_R_curve_4 : decode b_R_curve 4 = .ok (.iload_n 2, 1) := by decide +kernel
theorem d_R_curve_5 : decode b_R_curve 5 = .ok (.bipush 8, 2) := by decide +kernel
theorem d_R_curve_7 : decode b_R_curve 7 = .ok (.invokevirtual 96, 3) := by decide +kernel
theorem d_R_curve_10 : decode b_R_curve 10 = .ok (.aload_n 0, 1) := by decide +kernel
theorem d_R_curve_11 : decode b_R_curve 11 = .ok (.bipush 31, 2) := by decide +kernel
theorem d_R_curve_13 : decode b_R_curve 13 = .ok (.bipush 31, 2) := by decide +kernel
theorem d_R_curve_15 : decode b_R_curve 15 = .ok (.iload_n 2, 1) := by decide +kernel
theorem d_R_curve_16 : decode b_R_curve 16 = .ok (.bipush 8, 2) := by decide +kernel
theorem d_R_curve_18 : decode b_R_curve 18 = .ok (.invokevirtual 96, 3) := by decide +kernel
theorem d_R_curve_21 : decode b_R_curve 21 = .ok (.aload_n 0, 1) := by decide +kernel
theorem d_R_curve_22 : decode b_R_curve 22 = .ok (.iload_n 1, 1) := by decide +kernel
theorem d_R_curve_23 : decode b_R_curve 23 = .ok (.bipush 31, 2) := by decide +kernel
theorem d_R_curve_25 : decode b_R_curve 25 = .ok (.bipush 21, 2) := by decide +kernel
theorem d_R_curve_27 : decode b_R_curve 27 = .ok (.bipush 8, 2) := by decide +kernel
theorem d_R_curve_29 : decode b_R_curve 29 = .ok (.invokevirtual 124, 3) := by decide +kernel
theorem d_R_curve_32 : decode b_R_curve 32 = .ok (.return_, 1) := by decide +kernel
theorem d_R_isRegister_0 : decode b_R_isRegister 0 = .ok (.iload_n 0, 1) := by decide +kernel
theorem d_R_isRegister_1 : decode b_R_isRegister 1 = .ok (.ifCond .lt 13, 3) := by decide +kernel
theorem d_R_isRegister_4 : decode b_R_isRegister 4 = .ok (.iload_n 0, 1) := by decide +kernel
theorem d_R_isRegister_5 : decode b_R_isRegister 5 = .ok (.bipush 8, 2) := by decide +kernel
theorem d_R_isRegister_7 : decode b_R_isRegister 7 = .ok (.if_icmp .ge 7, 3) := by decide +kernel
theorem d_R_isRegister_10 : decode b_R_isRegister 10 = .ok (.iconst 1, 1) := by decide +kernel
theorem d_R_isRegister_11 : decode b_R_isRegister 11 = .ok (.goto 4, 3) := by decide +kernel
theorem d_R_isRegister_14 : decode b_R_isRegister 14 = .ok (.iconst 0, 1) := by decide +kernel
theorem d_R_isRegister_15 : decode b_R_isRegister 15 = .ok (.ireturn, 1) := by decide +kernel
theorem d_R_isSpot_0 : decode b_R_isSpot 0 = .ok (.iload_n 0, 1) := by decide +kernel
theorem d_R_isSpot_1 : decode b_R_isSpot 1 = .ok (.ifCond .lt 12, 3) := by decide +kernel
theorem d_R_isSpot_4 : decode b_R_isSpot 4 = .ok (.iload_n 0, 1) := by decide +kernel
theorem d_R_isSpot_5 : decode b_R_isSpot 5 = .ok (.iconst 4, 1) := by decide +kernel
theorem d_R_isSpot_6 : decode b_R_isSpot 6 = .ok (.if_icmp .ge 7, 3) := by decide +kernel
theorem d_R_isSpot_9 : decode b_R_isSpot 9 = .ok (.iconst 1, 1) := by decide +kernel
theorem d_R_isSpot_10 : decode b_R_isSpot 10 = .ok (.goto 4, 3) := by decide +kernel
theorem d_R_isSpot_13 : decode b_R_isSpot 13 = .ok (.iconst 0, 1) := by decide +kernel
theorem d_R_isSpot_14 : decode b_R_isSpot 14 = .ok (.ireturn, 1) := by decide +kernel
theorem d_R_isModulus_0 : decode b_R_isModulus 0 = .ok (.iload_n 0, 1) := by decide +kernel
theorem d_R_isModulus_1 : decode b_R_isModulus 1 = .ok (.ifCond .eq 8, 3) := by decide +kernel
theorem d_R_isModulus_4 : decode b_R_isModulus 4 = .ok (.iload_n 0, 1) := by decide +kernel
theorem d_R_isModulus_5 : decode b_R_isModulus 5 = .ok (.iconst 1, 1) := by decide +kernel
theorem d_R_isModulus_6 : decode b_R_isModulus 6 = .ok (.if_icmp .ne 7, 3) := by decide +kernel
theorem d_R_isModulus_9 : decode b_R_isModulus 9 = .ok (.iconst 1, 1) := by decide +kernel
theorem d_R_isModulus_10 : decode b_R_isModulus 10 = .ok (.goto 4, 3) := by decide +kernel
theorem d_R_isModulus_13 : decode b_R_isModulus 13 = .ok (.iconst 0, 1) := by decide +kernel
theorem d_R_isModulus_14 : decode b_R_isModulus 14 = .ok (.ireturn, 1) := by decide +kernel
theorem d_R_set_0 : decode b_R_set 0 = .ok (.iload_n 1, 1) := by decide +kernel
theorem d_R_set_1 : decode b_R_set 1 = .ok (.invokestatic 139, 3) := by decide +kernel
theorem d_R_set_4 : decode b_R_set 4 = .ok (.ifCond .ne 5, 3) := by decide +kernel
theorem d_R_set_7 : decode b_R_set 7 = .ok (.iconst 0, 1) := by decide +kernel
theorem d_R_set_8 : decode b_R_set 8 = .ok (.ireturn, 1) := by decide +kernel
theorem d_R_set_9 : decode b_R_set 9 = .ok (.aload_n 0, 1) := by decide +kernel
theorem d_R_set_10 : decode b_R_set 10 = .ok (.iload_n 1, 1) := by decide +kernel
theorem d_R_set_11 : decode b_R_set 11 = .ok (.lload_n 2, 1) := by decide +kernel
theorem d_R_set_12 : decode b_R_set 12 = .ok (.lload 4, 2) := by decide +kernel
theorem d_R_set_14 : decode b_R_set 14 = .ok (.lload 6, 2) := by decide +kernel
theorem d_R_set_16 : decode b_R_set 16 = .ok (.lload 8, 2) := by decide +kernel
theorem d_R_set_18 : decode b_R_set 18 = .ok (.invokevirtual 34, 3) := by decide +kernel
theorem d_R_set_21 : decode b_R_set 21 = .ok (.iconst 1, 1) := by decide +kernel
theorem d_R_set_22 : decode b_R_set 22 = .ok (.ireturn, 1) := by decide +kernel
theorem d_R_get_0 : decode b_R_get 0 = .ok (.iload_n 1, 1) := by decide +kernel
theorem d_R_get_1 : decode b_R_get 1 = .ok (.invokestatic 139, 3) := by decide +kernel
theorem d_R_get_4 : decode b_R_get 4 = .ok (.ifCond .eq 12, 3) := by decide +kernel
theorem d_R_get_7 : decode b_R_get 7 = .ok (.iload_n 2, 1) := by decide +kernel
theorem d_R_get_8 : decode b_R_get 8 = .ok (.ifCond .lt 8, 3) := by decide +kernel
theorem d_R_get_11 : decode b_R_get 11 = .ok (.iload_n 2, 1) := by decide +kernel
theorem d_R_get_12 : decode b_R_get 12 = .ok (.iconst 3, 1) := by decide +kernel
theorem d_R_get_13 : decode b_R_get 13 = .ok (.if_icmp .le 5, 3) := by decide +kernel
theorem d_R_get_16 : decode b_R_get 16 = .ok (.lconst 0, 1) := by decide +kernel
theorem d_R_get_17 : decode b_R_get 17 = .ok (.lreturn, 1) := by decide +kernel
theorem d_R_get_18 : decode b_R_get 18 = .ok (.lconst 0, 1) := by decide +kernel
theorem d_R_get_19 : decode b_R_get 19 = .ok (.lstore_n 3, 1) := by decide +kernel
theorem d_R_get_20 : decode b_R_get 20 = .ok (.bipush 63, 2) := by decide +kernel
theorem d_R_get_22 : decode b_R_get 22 = .ok (.istore 5, 2) := by decide +kernel
theorem d_R_get_24 : decode b_R_get 24 = .ok (.iload 5, 2) := by decide +kernel
theorem d_R_get_26 : decode b_R_get 26 = .ok (.ifCond .lt 36, 3) := by decide +kernel
theorem d_R_get_29 : decode b_R_get 29 = .ok (.lload_n 3, 1) := by decide +kernel
theorem d_R_get_30 : decode b_R_get 30 = .ok (.iconst 1, 1) := by decide +kernel
theorem d_R_get_31 : decode b_R_get 31 = .ok (.lshl, 1) := by decide +kernel
theorem d_R_get_32 : decode b_R_get 32 = .ok (.aload_n 0, 1) := by decide +kernel
theorem d_R_get_33 : decode b_R_get 33 = .ok (.iload_n 1, 1) := by decide +kernel
theorem d_R_get_34 : decode b_R_get 34 = .ok (.bipush 64, 2) := by decide +kernel
theorem d_R_get_36 : decode b_R_get 36 = .ok (.iconst 3, 1) := by decide +kernel
theorem d_R_get_37 : decode b_R_get 37 = .ok (.iload_n 2, 1) := by decide +kernel
theorem d_R_get_38 : decode b_R_get 38 = .ok (.isub, 1) := by decide +kernel
theorem d_R_get_39 : decode b_R_get 39 = .ok (.imul, 1) := by decide +kernel
theorem d_R_get_40 : decode b_R_get 40 = .ok (.iload 5, 2) := by decide +kernel
theorem d_R_get_42 : decode b_R_get 42 = .ok (.iadd, 1) := by decide +kernel
theorem d_R_get_43 : decode b_R_get 43 = .ok (.invokevirtual 100, 3) := by decide +kernel
theorem d_R_get_46 : decode b_R_get 46 = .ok (.ifCond .eq 7, 3) := by decide +kernel
theorem d_R_get_49 : decode b_R_get 49 = .ok (.lconst 1, 1) := by decide +kernel
theorem d_R_get_50 : decode b_R_get 50 = .ok (.goto 4, 3) := by decide +kernel
theorem d_R_get_53 : decode b_R_get 53 = .ok (.lconst 0, 1) := by decide +kernel
theorem d_R_get_54 : decode b_R_get 54 = .ok (.lor, 1) := by decide +kernel
theorem d_R_get_55 : decode b_R_get 55 = .ok (.lstore_n 3, 1) := by decide +kernel
theorem d_R_get_56 : decode b_R_get 56 = .ok (.iinc 5 (-1), 3) := by decide +kernel
theorem d_R_get_59 : decode b_R_get 59 = .ok (.goto (-35), 3) := by decide +kernel
theorem d_R_get_62 : decode b_R_get 62 = .ok (.lload_n 3, 1) := by decide +kernel
theorem d_R_get_63 : decode b_R_get 63 = .ok (.lreturn, 1) := by decide +kernel
theorem d_R_reduce_0 : decode b_R_reduce 0 = .ok (.iload_n 1, 1) := by decide +kernel
theorem d_R_reduce_1 : decode b_R_reduce 1 = .ok (.invokestatic 139, 3) := by decide +kernel
theorem d_R_reduce_4 : decode b_R_reduce 4 = .ok (.ifCond .eq 10, 3) := by decide +kernel
theorem d_R_reduce_7 : decode b_R_reduce 7 = .ok (.iload_n 2, 1) := by decide +kernel
theorem d_R_reduce_8 : decode b_R_reduce 8 = .ok (.invokestatic 142, 3) := by decide +kernel
theorem d_R_reduce_11 : decode b_R_reduce 11 = .ok (.ifCond .ne 5, 3) := by decide +kernel
theorem d_R_reduce_14 : decode b_R_reduce 14 = .ok (.iconst 0, 1) := by decide +kernel
theorem d_R_reduce_15 : decode b_R_reduce 15 = .ok (.ireturn, 1) := by decide +kernel
theorem d_R_reduce_16 : decode b_R_reduce 16 = .ok (.aload_n 0, 1) := by decide +kernel
theorem d_R_reduce_17 : decode b_R_reduce 17 = .ok (.iload_n 1, 1) := by decide +kernel
theorem d_R_reduce_18 : decode b_R_reduce 18 = .ok (.iload_n 1, 1) := by decide +kernel
theorem d_R_reduce_19 : decode b_R_reduce 19 = .ok (.bipush 20, 2) := by decide +kernel
theorem d_R_reduce_21 : decode b_R_reduce 21 = .ok (.bipush 8, 2) := by decide +kernel
theorem d_R_reduce_23 : decode b_R_reduce 23 = .ok (.iload_n 2, 1) := by decide +kernel
theorem d_R_reduce_24 : decode b_R_reduce 24 = .ok (.iadd, 1) := by decide +kernel
theorem d_R_reduce_25 : decode b_R_reduce 25 = .ok (.invokevirtual 96, 3) := by decide +kernel
theorem d_R_reduce_28 : decode b_R_reduce 28 = .ok (.iconst 1, 1) := by decide +kernel
theorem d_R_reduce_29 : decode b_R_reduce 29 = .ok (.ireturn, 1) := by decide +kernel
theorem d_R_work_0 : decode b_R_work 0 = .ok (.iload_n 2, 1) := by decide +kernel
theorem d_R_work_1 : decode b_R_work 1 = .ok (.invokestatic 139, 3) := by decide +kernel
theorem d_R_work_4 : decode b_R_work 4 = .ok (.ifCond .eq 35, 3) := by decide +kernel
theorem d_R_work_7 : decode b_R_work 7 = .ok (.iload_n 3, 1) := by decide +kernel
theorem d_R_work_8 : decode b_R_work 8 = .ok (.invokestatic 139, 3) := by decide +kernel
theorem d_R_work_11 : decode b_R_work 11 = .ok (.ifCond .eq 28, 3) := by decide +kernel
theorem d_R_work_14 : decode b_R_work 14 = .ok (.iload 4, 2) := by decide +kernel
theorem d_R_work_16 : decode b_R_work 16 = .ok (.invokestatic 139, 3) := by decide +kernel
theorem d_R_work_19 : decode b_R_work 19 = .ok (.ifCond .eq 20, 3) := by decide +kernel
theorem d_R_work_22 : decode b_R_work 22 = .ok (.iload 5, 2) := by decide +kernel
theorem d_R_work_24 : decode b_R_work 24 = .ok (.invokestatic 142, 3) := by decide +kernel
theorem d_R_work_27 : decode b_R_work 27 = .ok (.ifCond .eq 12, 3) := by decide +kernel
theorem d_R_work_30 : decode b_R_work 30 = .ok (.iload_n 1, 1) := by decide +kernel
theorem d_R_work_31 : decode b_R_work 31 = .ok (.ifCond .lt 8, 3) := by decide +kernel
theorem d_R_work_34 : decode b_R_work 34 = .ok (.iload_n 1, 1) := by decide +kernel
theorem d_R_work_35 : decode b_R_work 35 = .ok (.iconst 3, 1) := by decide +kernel
theorem d_R_work_36 : decode b_R_work 36 = .ok (.if_icmp .le 5, 3) := by decide +kernel
theorem d_R_work_39 : decode b_R_work 39 = .ok (.iconst 0, 1) := by decide +kernel
theorem d_R_work_40 : decode b_R_work 40 = .ok (.ireturn, 1) := by decide +kernel
theorem d_R_work_41 : decode b_R_work 41 = .ok (.aload_n 0, 1) := by decide +kernel
theorem d_R_work_42 : decode b_R_work 42 = .ok (.iload_n 3, 1) := by decide +kernel
theorem d_R_work_43 : decode b_R_work 43 = .ok (.bipush 8, 2) := by decide +kernel
theorem d_R_work_45 : decode b_R_work 45 = .ok (.iload 5, 2) := by decide +kernel
theorem d_R_work_47 : decode b_R_work 47 = .ok (.iadd, 1) := by decide +kernel
theorem d_R_work_48 : decode b_R_work 48 = .ok (.invokevirtual 78, 3) := by decide +kernel
theorem d_R_work_51 : decode b_R_work 51 = .ok (.ifCond .ge 31, 3) := by decide +kernel
theorem d_R_work_54 : decode b_R_work 54 = .ok (.aload_n 0, 1) := by decide +kernel
theorem d_R_work_55 : decode b_R_work 55 = .ok (.iload 4, 2) := by decide +kernel
theorem d_R_work_57 : decode b_R_work 57 = .ok (.bipush 8, 2) := by decide +kernel
theorem d_R_work_59 : decode b_R_work 59 = .ok (.iload 5, 2) := by decide +kernel
theorem d_R_work_61 : decode b_R_work 61 = .ok (.iadd, 1) := by decide +kernel
theorem d_R_work_62 : decode b_R_work 62 = .ok (.invokevirtual 78, 3) := by decide +kernel
theorem d_R_work_65 : decode b_R_work 65 = .ok (.ifCond .ge 17, 3) := by decide +kernel
theorem d_R_work_68 : decode b_R_work 68 = .ok (.iload_n 1, 1) := by decide +kernel
theorem d_R_work_69 : decode b_R_work 69 = .ok (.iconst 3, 1) := by decide +kernel
theorem d_R_work_70 : decode b_R_work 70 = .ok (.if_icmp .ne 14, 3) := by decide +kernel
theorem d_R_work_73 : decode b_R_work 73 = .ok (.aload_n 0, 1) := by decide +kernel
theorem d_R_work_74 : decode b_R_work 74 = .ok (.iload 4, 2) := by decide +kernel
theorem d_R_work_76 : decode b_R_work 76 = .ok (.invokevirtual 115, 3) := by decide +kernel
theorem d_R_work_79 : decode b_R_work 79 = .ok (.ifCond .eq 5, 3) := by decide +kernel
theorem d_R_work_82 : decode b_R_work 82 = .ok (.iconst 0, 1) := by decide +kernel
theorem d_R_work_83 : decode b_R_work 83 = .ok (.ireturn, 1) := by decide +kernel
theorem d_R_work_84 : decode b_R_work 84 = .ok (.iload_n 1, 1) := by decide +kernel
theorem d_R_work_85 : decode b_R_work 85 = .ok (.ifCond .ne 19, 3) := by decide +kernel
theorem d_R_work_88 : decode b_R_work 88 = .ok (.aload_n 0, 1) := by decide +kernel
theorem d_R_work_89 : decode b_R_work 89 = .ok (.iload_n 2, 1) := by decide +kernel
theorem d_R_work_90 : decode b_R_work 90 = .ok (.iload_n 3, 1) := by decide +kernel
theorem d_R_work_91 : decode b_R_work 91 = .ok (.iload 4, 2) := by decide +kernel
theorem d_R_work_93 : decode b_R_work 93 = .ok (.bipush 8, 2) := by decide +kernel
theorem d_R_work_95 : decode b_R_work 95 = .ok (.iload 5, 2) := by decide +kernel
theorem d_R_work_97 : decode b_R_work 97 = .ok (.iadd, 1) := by decide +kernel
theorem d_R_work_98 : decode b_R_work 98 = .ok (.invokevirtual 124, 3) := by decide +kernel
theorem d_R_work_101 : decode b_R_work 101 = .ok (.goto 58, 3) := by decide +kernel
theorem d_R_work_104 : decode b_R_work 104 = .ok (.iload_n 1, 1) := by decide +kernel
theorem d_R_work_105 : decode b_R_work 105 = .ok (.iconst 1, 1) := by decide +kernel
theorem d_R_work_106 : decode b_R_work 106 = .ok (.if_icmp .ne 19, 3) := by decide +kernel
theorem d_R_work_109 : decode b_R_work 109 = .ok (.aload_n 0, 1) := by decide +kernel
theorem d_R_work_110 : decode b_R_work 110 = .ok (.iload_n 2, 1) := by decide +kernel
theorem d_R_work_111 : decode b_R_work 111 = .ok (.iload_n 3, 1) := by decide +kernel
theorem d_R_work_112 : decode b_R_work 112 = .ok (.iload 4, 2) := by decide +kernel
theorem d_R_work_114 : decode b_R_work 114 = .ok (.bipush 8, 2) := by decide +kernel
theorem d_R_work_116 : decode b_R_work 116 = .ok (.iload 5, 2) := by decide +kernel
theorem d_R_work_118 : decode b_R_work 118 = .ok (.iadd, 1) := by decide +kernel
theorem d_R_work_119 : decode b_R_work 119 = .ok (.invokevirtual 112, 3) := by decide +kernel
theorem d_R_work_122 : decode b_R_work 122 = .ok (.goto 37, 3) := by decide +kernel
theorem d_R_work_125 : decode b_R_work 125 = .ok (.iload_n 1, 1) := by decide +kernel
theorem d_R_work_126 : decode b_R_work 126 = .ok (.iconst 2, 1) := by decide +kernel
theorem d_R_work_127 : decode b_R_work 127 = .ok (.if_icmp .ne 19, 3) := by decide +kernel
theorem d_R_work_130 : decode b_R_work 130 = .ok (.aload_n 0, 1) := by decide +kernel
theorem d_R_work_131 : decode b_R_work 131 = .ok (.iload_n 2, 1) := by decide +kernel
theorem d_R_work_132 : decode b_R_work 132 = .ok (.iload_n 3, 1) := by decide +kernel
theorem d_R_work_133 : decode b_R_work 133 = .ok (.iload 4, 2) := by decide +kernel
theorem d_R_work_135 : decode b_R_work 135 = .ok (.bipush 8, 2) := by decide +kernel
theorem d_R_work_137 : decode b_R_work 137 = .ok (.iload 5, 2) := by decide +kernel
theorem d_R_work_139 : decode b_R_work 139 = .ok (.iadd, 1) := by decide +kernel
theorem d_R_work_140 : decode b_R_work 140 = .ok (.invokevirtual 96, 3) := by decide +kernel
theorem d_R_work_143 : decode b_R_work 143 = .ok (.goto 16, 3) := by decide +kernel
theorem d_R_work_146 : decode b_R_work 146 = .ok (.aload_n 0, 1) := by decide +kernel
theorem d_R_work_147 : decode b_R_work 147 = .ok (.iload_n 2, 1) := by decide +kernel
theorem d_R_work_148 : decode b_R_work 148 = .ok (.iload_n 3, 1) := by decide +kernel
theorem d_R_work_149 : decode b_R_work 149 = .ok (.iload 4, 2) := by decide +kernel
theorem d_R_work_151 : decode b_R_work 151 = .ok (.bipush 8, 2) := by decide +kernel
theorem d_R_work_153 : decode b_R_work 153 = .ok (.iload 5, 2) := by decide +kernel
theorem d_R_work_155 : decode b_R_work 155 = .ok (.iadd, 1) := by decide +kernel
theorem d_R_work_156 : decode b_R_work 156 = .ok (.invokevirtual 121, 3) := by decide +kernel
theorem d_R_work_159 : decode b_R_work 159 = .ok (.iconst 1, 1) := by decide +kernel
theorem d_R_work_160 : decode b_R_work 160 = .ok (.ireturn, 1) := by decide +kernel
theorem d_R_root_0 : decode b_R_root 0 = .ok (.iload_n 1, 1) := by decide +kernel
theorem d_R_root_1 : decode b_R_root 1 = .ok (.invokestatic 139, 3) := by decide +kernel
theorem d_R_root_4 : decode b_R_root 4 = .ok (.ifCond .eq 33, 3) := by decide +kernel
theorem d_R_root_7 : decode b_R_root 7 = .ok (.iload_n 2, 1) := by decide +kernel
theorem d_R_root_8 : decode b_R_root 8 = .ok (.invokestatic 139, 3) := by decide +kernel
theorem d_R_root_11 : decode b_R_root 11 = .ok (.ifCond .eq 26, 3) := by decide +kernel
theorem d_R_root_14 : decode b_R_root 14 = .ok (.aload_n 0, 1) := by decide +kernel
theorem d_R_root_15 : decode b_R_root 15 = .ok (.iload_n 2, 1) := by decide +kernel
theorem d_R_root_16 : decode b_R_root 16 = .ok (.bipush 8, 2) := by decide +kernel
theorem d_R_root_18 : decode b_R_root 18 = .ok (.invokevirtual 78, 3) := by decide +kernel
theorem d_R_root_21 : decode b_R_root 21 = .ok (.ifCond .ge 16, 3) := by decide +kernel
theorem d_R_root_24 : decode b_R_root 24 = .ok (.aload_n 0, 1) := by decide +kernel
theorem d_R_root_25 : decode b_R_root 25 = .ok (.iload_n 1, 1) := by decide +kernel
theorem d_R_root_26 : decode b_R_root 26 = .ok (.iload_n 2, 1) := by decide +kernel
theorem d_R_root_27 : decode b_R_root 27 = .ok (.invokevirtual 145, 3) := by decide +kernel
theorem d_R_root_30 : decode b_R_root 30 = .ok (.ifCond .eq 7, 3) := by decide +kernel
theorem d_R_root_33 : decode b_R_root 33 = .ok (.iconst 1, 1) := by decide +kernel
theorem d_R_root_34 : decode b_R_root 34 = .ok (.goto 4, 3) := by decide +kernel
theorem d_R_root_37 : decode b_R_root 37 = .ok (.iconst 0, 1) := by decide +kernel
theorem d_R_root_38 : decode b_R_root 38 = .ok (.ireturn, 1) := by decide +kernel
theorem d_R_spot_0 : decode b_R_spot 0 = .ok (.iload_n 2, 1) := by decide +kernel
theorem d_R_spot_1 : decode b_R_spot 1 = .ok (.invokestatic 148, 3) := by decide +kernel
theorem d_R_spot_4 : decode b_R_spot 4 = .ok (.ifCond .eq 42, 3) := by decide +kernel
theorem d_R_spot_7 : decode b_R_spot 7 = .ok (.iload_n 1, 1) := by decide +kernel
theorem d_R_spot_8 : decode b_R_spot 8 = .ok (.ifCond .lt 38, 3) := by decide +kernel
theorem d_R_spot_11 : decode b_R_spot 11 = .ok (.iload_n 1, 1) := by decide +kernel
theorem d_R_spot_12 : decode b_R_spot 12 = .ok (.iconst 2, 1) := by decide +kernel
theorem d_R_spot_13 : decode b_R_spot 13 = .ok (.if_icmp .gt 33, 3) := by decide +kernel
theorem d_R_spot_16 : decode b_R_spot 16 = .ok (.iload_n 1, 1) := by decide +kernel
theorem d_R_spot_17 : decode b_R_spot 17 = .ok (.iconst 2, 1) := by decide +kernel
theorem d_R_spot_18 : decode b_R_spot 18 = .ok (.if_icmp .ne 30, 3) := by decide +kernel
theorem d_R_spot_21 : decode b_R_spot 21 = .ok (.iload_n 3, 1) := by decide +kernel
theorem d_R_spot_22 : decode b_R_spot 22 = .ok (.invokestatic 139, 3) := by decide +kernel
theorem d_R_spot_25 : decode b_R_spot 25 = .ok (.ifCond .eq 21, 3) := by decide +kernel
theorem d_R_spot_28 : decode b_R_spot 28 = .ok (.iload 4, 2) := by decide +kernel
theorem d_R_spot_30 : decode b_R_spot 30 = .ok (.invokestatic 139, 3) := by decide +kernel
theorem d_R_spot_33 : decode b_R_spot 33 = .ok (.ifCond .eq 13, 3) := by decide +kernel
theorem d_R_spot_36 : decode b_R_spot 36 = .ok (.aload_n 0, 1) := by decide +kernel
theorem d_R_spot_37 : decode b_R_spot 37 = .ok (.iload_n 3, 1) := by decide +kernel
theorem d_R_spot_38 : decode b_R_spot 38 = .ok (.iload 4, 2) := by decide +kernel
theorem d_R_spot_40 : decode b_R_spot 40 = .ok (.invokevirtual 151, 3) := by decide +kernel
theorem d_R_spot_43 : decode b_R_spot 43 = .ok (.ifCond .ne 5, 3) := by decide +kernel
theorem d_R_spot_46 : decode b_R_spot 46 = .ok (.iconst 0, 1) := by decide +kernel
theorem d_R_spot_47 : decode b_R_spot 47 = .ok (.ireturn, 1) := by decide +kernel
theorem d_R_spot_48 : decode b_R_spot 48 = .ok (.aload_n 0, 1) := by decide +kernel
theorem d_R_spot_49 : decode b_R_spot 49 = .ok (.getfield 23, 3) := by decide +kernel
theorem d_R_spot_52 : decode b_R_spot 52 = .ok (.iload_n 2, 1) := by decide +kernel
theorem d_R_spot_53 : decode b_R_spot 53 = .ok (.iload_n 1, 1) := by decide +kernel
theorem d_R_spot_54 : decode b_R_spot 54 = .ok (.ifCond .ne 7, 3) := by decide +kernel
theorem d_R_spot_57 : decode b_R_spot 57 = .ok (.iconst 1, 1) := by decide +kernel
theorem d_R_spot_58 : decode b_R_spot 58 = .ok (.goto 4, 3) := by decide +kernel
theorem d_R_spot_61 : decode b_R_spot 61 = .ok (.iconst 0, 1) := by decide +kernel
theorem d_R_spot_62 : decode b_R_spot 62 = .ok (.bastore, 1) := by decide +kernel
theorem d_R_spot_63 : decode b_R_spot 63 = .ok (.iload_n 1, 1) := by decide +kernel
theorem d_R_spot_64 : decode b_R_spot 64 = .ok (.ifCond .le 46, 3) := by decide +kernel
theorem d_R_spot_67 : decode b_R_spot 67 = .ok (.aload_n 0, 1) := by decide +kernel
theorem d_R_spot_68 : decode b_R_spot 68 = .ok (.bipush 10, 2) := by decide +kernel
theorem d_R_spot_70 : decode b_R_spot 70 = .ok (.iconst 2, 1) := by decide +kernel
theorem d_R_spot_71 : decode b_R_spot 71 = .ok (.iload_n 2, 1) := by decide +kernel
theorem d_R_spot_72 : decode b_R_spot 72 = .ok (.imul, 1) := by decide +kernel
theorem d_R_spot_73 : decode b_R_spot 73 = .ok (.iadd, 1) := by decide +kernel
theorem d_R_spot_74 : decode b_R_spot 74 = .ok (.iload_n 1, 1) := by decide +kernel
theorem d_R_spot_75 : decode b_R_spot 75 = .ok (.iconst 1, 1) := by decide +kernel
theorem d_R_spot_76 : decode b_R_spot 76 = .ok (.if_icmp .ne 8, 3) := by decide +kernel
theorem d_R_spot_79 : decode b_R_spot 79 = .ok (.bipush 18, 2) := by decide +kernel
theorem d_R_spot_81 : decode b_R_spot 81 = .ok (.goto 4, 3) := by decide +kernel
theorem d_R_spot_84 : decode b_R_spot 84 = .ok (.iload_n 3, 1) := by decide +kernel
theorem d_R_spot_85 : decode b_R_spot 85 = .ok (.invokevirtual 70, 3) := by decide +kernel
theorem d_R_spot_88 : decode b_R_spot 88 = .ok (.aload_n 0, 1) := by decide +kernel
theorem d_R_spot_89 : decode b_R_spot 89 = .ok (.bipush 11, 2) := by decide +kernel
theorem d_R_spot_91 : decode b_R_spot 91 = .ok (.iconst 2, 1) := by decide +kernel
theorem d_R_spot_92 : decode b_R_spot 92 = .ok (.iload_n 2, 1) := by decide +kernel
theorem d_R_spot_93 : decode b_R_spot 93 = .ok (.imul, 1) := by decide +kernel
theorem d_R_spot_94 : decode b_R_spot 94 = .ok (.iadd, 1) := by decide +kernel
theorem d_R_spot_95 : decode b_R_spot 95 = .ok (.iload_n 1, 1) := by decide +kernel
theorem d_R_spot_96 : decode b_R_spot 96 = .ok (.iconst 1, 1) := by decide +kernel
theorem d_R_spot_97 : decode b_R_spot 97 = .ok (.if_icmp .ne 8, 3) := by decide +kernel
theorem d_R_spot_100 : decode b_R_spot 100 = .ok (.bipush 19, 2) := by decide +kernel
theorem d_R_spot_102 : decode b_R_spot 102 = .ok (.goto 5, 3) := by decide +kernel
theorem d_R_spot_105 : decode b_R_spot 105 = .ok (.iload 4, 2) := by decide +kernel
theorem d_R_spot_107 : decode b_R_spot 107 = .ok (.invokevirtual 70, 3) := by decide +kernel
theorem d_R_spot_110 : decode b_R_spot 110 = .ok (.iconst 1, 1) := by decide +kernel
theorem d_R_spot_111 : decode b_R_spot 111 = .ok (.ireturn, 1) := by decide +kernel
theorem d_R_sum_0 : decode b_R_sum 0 = .ok (.iload_n 1, 1) := by decide +kernel
theorem d_R_sum_1 : decode b_R_sum 1 = .ok (.invokestatic 148, 3) := by decide +kernel
theorem d_R_sum_4 : decode b_R_sum 4 = .ok (.ifCond .eq 17, 3) := by decide +kernel
theorem d_R_sum_7 : decode b_R_sum 7 = .ok (.iload_n 2, 1) := by decide +kernel
theorem d_R_sum_8 : decode b_R_sum 8 = .ok (.invokestatic 148, 3) := by decide +kernel
theorem d_R_sum_11 : decode b_R_sum 11 = .ok (.ifCond .eq 10, 3) := by decide +kernel
theorem d_R_sum_14 : decode b_R_sum 14 = .ok (.iload_n 3, 1) := by decide +kernel
theorem d_R_sum_15 : decode b_R_sum 15 = .ok (.invokestatic 148, 3) := by decide +kernel
theorem d_R_sum_18 : decode b_R_sum 18 = .ok (.ifCond .ne 5, 3) := by decide +kernel
theorem d_R_sum_21 : decode b_R_sum 21 = .ok (.iconst 0, 1) := by decide +kernel
theorem d_R_sum_22 : decode b_R_sum 22 = .ok (.ireturn, 1) := by decide +kernel
theorem d_R_sum_23 : decode b_R_sum 23 = .ok (.aload_n 0, 1) := by decide +kernel
theorem d_R_sum_24 : decode b_R_sum 24 = .ok (.bipush 22, 2) := by decide +kernel
theorem d_R_sum_26 : decode b_R_sum 26 = .ok (.iload_n 2, 1) := by decide +kernel
theorem d_R_sum_27 : decode b_R_sum 27 = .ok (.invokevirtual 154, 3) := by decide +kernel
theorem d_R_sum_30 : decode b_R_sum 30 = .ok (.aload_n 0, 1) := by decide +kernel
theorem d_R_sum_31 : decode b_R_sum 31 = .ok (.bipush 25, 2) := by decide +kernel
theorem d_R_sum_33 : decode b_R_sum 33 = .ok (.iload_n 3, 1) := by decide +kernel
theorem d_R_sum_34 : decode b_R_sum 34 = .ok (.invokevirtual 154, 3) := by decide +kernel
theorem d_R_sum_37 : decode b_R_sum 37 = .ok (.aload_n 0, 1) := by decide +kernel
theorem d_R_sum_38 : decode b_R_sum 38 = .ok (.bipush 22, 2) := by decide +kernel
theorem d_R_sum_40 : decode b_R_sum 40 = .ok (.bipush 25, 2) := by decide +kernel
theorem d_R_sum_42 : decode b_R_sum 42 = .ok (.invokevirtual 133, 3) := by decide +kernel
theorem d_R_sum_45 : decode b_R_sum 45 = .ok (.aload_n 0, 1) := by decide +kernel
theorem d_R_sum_46 : decode b_R_sum 46 = .ok (.iload_n 1, 1) := by decide +kernel
theorem d_R_sum_47 : decode b_R_sum 47 = .ok (.bipush 22, 2) := by decide +kernel
theorem d_R_sum_49 : decode b_R_sum 49 = .ok (.invokevirtual 157, 3) := by decide +kernel
theorem d_R_sum_52 : decode b_R_sum 52 = .ok (.iconst 1, 1) := by decide +kernel
theorem d_R_sum_53 : decode b_R_sum 53 = .ok (.ireturn, 1) := by decide +kernel
theorem d_R_times_0 : decode b_R_times 0 = .ok (.iload_n 1, 1) := by decide +kernel
theorem d_R_times_1 : decode b_R_times 1 = .ok (.invokestatic 148, 3) := by decide +kernel
theorem d_R_times_4 : decode b_R_times 4 = .ok (.ifCond .eq 17, 3) := by decide +kernel
theorem d_R_times_7 : decode b_R_times 7 = .ok (.iload_n 2, 1) := by decide +kernel
theorem d_R_times_8 : decode b_R_times 8 = .ok (.invokestatic 148, 3) := by decide +kernel
theorem d_R_times_11 : decode b_R_times 11 = .ok (.ifCond .eq 10, 3) := by decide +kernel
theorem d_R_times_14 : decode b_R_times 14 = .ok (.iload_n 3, 1) := by decide +kernel
theorem d_R_times_15 : decode b_R_times 15 = .ok (.invokestatic 139, 3) := by decide +kernel
theorem d_R_times_18 : decode b_R_times 18 = .ok (.ifCond .ne 5, 3) := by decide +kernel
theorem d_R_times_21 : decode b_R_times 21 = .ok (.iconst 0, 1) := by decide +kernel
theorem d_R_times_22 : decode b_R_times 22 = .ok (.ireturn, 1) := by decide +kernel
theorem d_R_times_23 : decode b_R_times 23 = .ok (.aload_n 0, 1) := by decide +kernel
theorem d_R_times_24 : decode b_R_times 24 = .ok (.bipush 22, 2) := by decide +kernel
theorem d_R_times_26 : decode b_R_times 26 = .ok (.iload_n 2, 1) := by decide +kernel
theorem d_R_times_27 : decode b_R_times 27 = .ok (.invokevirtual 154, 3) := by decide +kernel
theorem d_R_times_30 : decode b_R_times 30 = .ok (.aload_n 0, 1) := by decide +kernel
theorem d_R_times_31 : decode b_R_times 31 = .ok (.iload_n 3, 1) := by decide +kernel
theorem d_R_times_32 : decode b_R_times 32 = .ok (.invokevirtual 160, 3) := by decide +kernel
theorem d_R_times_35 : decode b_R_times 35 = .ok (.aload_n 0, 1) := by decide +kernel
theorem d_R_times_36 : decode b_R_times 36 = .ok (.iload_n 1, 1) := by decide +kernel
theorem d_R_times_37 : decode b_R_times 37 = .ok (.bipush 25, 2) := by decide +kernel
theorem d_R_times_39 : decode b_R_times 39 = .ok (.invokevirtual 157, 3) := by decide +kernel
theorem d_R_times_42 : decode b_R_times 42 = .ok (.iconst 1, 1) := by decide +kernel
theorem d_R_times_43 : decode b_R_times 43 = .ok (.ireturn, 1) := by decide +kernel
theorem d_R_place_0 : decode b_R_place 0 = .ok (.iload_n 1, 1) := by decide +kernel
end
section
/-! the instructions -/
theorem d_R_place_1 : decode b_R_place 1 = .ok (.invokestatic 148, 3) := by decide +kernel
theorem d_R_place_4 : decode b_R_place 4 = .ok (.ifCond .eq 22, 3) := by decide +kernel
theorem d_R_place_7 : decode b_R_place 7 = .ok (.iload_n 2, 1) := by decide +kernel
theorem d_R_place_8 : decode b_R_place 8 = .ok (.invokestatic 139, 3) := by decide +kernel
theorem d_R_place_11 : decode b_R_place 11 = .ok (.ifCond .eq 15, 3) := by decide +kernel
theorem d_R_place_14 : decode b_R_place 14 = .ok (.iload_n 3, 1) := by decide +kernel
theorem d_R_place_15 : decode b_R_place 15 = .ok (.invokestatic 139, 3) := by decide +kernel
theorem d_R_place_18 : decode b_R_place 18 = .ok (.ifCond .eq 8, 3) := by decide +kernel
theorem d_R_place_21 : decode b_R_place 21 = .ok (.iload_n 2, 1) := by decide +kernel
theorem d_R_place_22 : decode b_R_place 22 = .ok (.iload_n 3, 1) := by decide +kernel
theorem d_R_place_23 : decode b_R_place 23 = .ok (.if_icmp .ne 5, 3) := by decide +kernel
theorem d_R_place_26 : decode b_R_place 26 = .ok (.iconst (-1), 1) := by decide +kernel
theorem d_R_place_27 : decode b_R_place 27 = .ok (.ireturn, 1) := by decide +kernel
theorem d_R_place_28 : decode b_R_place 28 = .ok (.aload_n 0, 1) := by decide +kernel
theorem d_R_place_29 : decode b_R_place 29 = .ok (.getfield 23, 3) := by decide +kernel
theorem d_R_place_32 : decode b_R_place 32 = .ok (.iload_n 1, 1) := by decide +kernel
theorem d_R_place_33 : decode b_R_place 33 = .ok (.baload, 1) := by decide +kernel
theorem d_R_place_34 : decode b_R_place 34 = .ok (.ifCond .eq 5, 3) := by decide +kernel
theorem d_R_place_37 : decode b_R_place 37 = .ok (.iconst 0, 1) := by decide +kernel
theorem d_R_place_38 : decode b_R_place 38 = .ok (.ireturn, 1) := by decide +kernel
theorem d_R_place_39 : decode b_R_place 39 = .ok (.aload_n 0, 1) := by decide +kernel
theorem d_R_place_40 : decode b_R_place 40 = .ok (.iload_n 2, 1) := by decide +kernel
theorem d_R_place_41 : decode b_R_place 41 = .ok (.bipush 10, 2) := by decide +kernel
theorem d_R_place_43 : decode b_R_place 43 = .ok (.iconst 2, 1) := by decide +kernel
theorem d_R_place_44 : decode b_R_place 44 = .ok (.iload_n 1, 1) := by decide +kernel
theorem d_R_place_45 : decode b_R_place 45 = .ok (.imul, 1) := by decide +kernel
theorem d_R_place_46 : decode b_R_place 46 = .ok (.iadd, 1) := by decide +kernel
theorem d_R_place_47 : decode b_R_place 47 = .ok (.invokevirtual 70, 3) := by decide +kernel
theorem d_R_place_50 : decode b_R_place 50 = .ok (.aload_n 0, 1) := by decide +kernel
theorem d_R_place_51 : decode b_R_place 51 = .ok (.iload_n 3, 1) := by decide +kernel
theorem d_R_place_52 : decode b_R_place 52 = .ok (.bipush 11, 2) := by decide +kernel
theorem d_R_place_54 : decode b_R_place 54 = .ok (.iconst 2, 1) := by decide +kernel
theorem d_R_place_55 : decode b_R_place 55 = .ok (.iload_n 1, 1) := by decide +kernel
theorem d_R_place_56 : decode b_R_place 56 = .ok (.imul, 1) := by decide +kernel
theorem d_R_place_57 : decode b_R_place 57 = .ok (.iadd, 1) := by decide +kernel
theorem d_R_place_58 : decode b_R_place 58 = .ok (.invokevirtual 70, 3) := by decide +kernel
theorem d_R_place_61 : decode b_R_place 61 = .ok (.iconst 1, 1) := by decide +kernel
theorem d_R_place_62 : decode b_R_place 62 = .ok (.ireturn, 1) := by decide +kernel
theorem d_R_put_0 : decode b_R_put 0 = .ok (.iload_n 3, 1) := by decide +kernel
theorem d_R_put_1 : decode b_R_put 1 = .ok (.iconst 1, 1) := by decide +kernel
theorem d_R_put_2 : decode b_R_put 2 = .ok (.if_icmp .lt 20, 3) := by decide +kernel
theorem d_R_put_5 : decode b_R_put 5 = .ok (.iload_n 3, 1) := by decide +kernel
theorem d_R_put_6 : decode b_R_put 6 = .ok (.bipush 8, 2) := by decide +kernel
theorem d_R_put_8 : decode b_R_put 8 = .ok (.if_icmp .gt 14, 3) := by decide +kernel
theorem d_R_put_11 : decode b_R_put 11 = .ok (.aload_n 0, 1) := by decide +kernel
theorem d_R_put_12 : decode b_R_put 12 = .ok (.getfield 163, 3) := by decide +kernel
theorem d_R_put_15 : decode b_R_put 15 = .ok (.iload_n 3, 1) := by decide +kernel
theorem d_R_put_16 : decode b_R_put 16 = .ok (.iadd, 1) := by decide +kernel
theorem d_R_put_17 : decode b_R_put 17 = .ok (.bipush 100, 2) := by decide +kernel
theorem d_R_put_19 : decode b_R_put 19 = .ok (.if_icmp .le 5, 3) := by decide +kernel
theorem d_R_put_22 : decode b_R_put 22 = .ok (.iconst 0, 1) := by decide +kernel
theorem d_R_put_23 : decode b_R_put 23 = .ok (.ireturn, 1) := by decide +kernel
theorem d_R_put_24 : decode b_R_put 24 = .ok (.iload_n 3, 1) := by decide +kernel
theorem d_R_put_25 : decode b_R_put 25 = .ok (.iconst 1, 1) := by decide +kernel
theorem d_R_put_26 : decode b_R_put 26 = .ok (.isub, 1) := by decide +kernel
theorem d_R_put_27 : decode b_R_put 27 = .ok (.istore 4, 2) := by decide +kernel
theorem d_R_put_29 : decode b_R_put 29 = .ok (.iload 4, 2) := by decide +kernel
theorem d_R_put_31 : decode b_R_put 31 = .ok (.ifCond .lt 40, 3) := by decide +kernel
theorem d_R_put_34 : decode b_R_put 34 = .ok (.aload_n 0, 1) := by decide +kernel
theorem d_R_put_35 : decode b_R_put 35 = .ok (.getfield 27, 3) := by decide +kernel
theorem d_R_put_38 : decode b_R_put 38 = .ok (.aload_n 0, 1) := by decide +kernel
theorem d_R_put_39 : decode b_R_put 39 = .ok (.getfield 163, 3) := by decide +kernel
theorem d_R_put_42 : decode b_R_put 42 = .ok (.lload_n 1, 1) := by decide +kernel
theorem d_R_put_43 : decode b_R_put 43 = .ok (.bipush 8, 2) := by decide +kernel
theorem d_R_put_45 : decode b_R_put 45 = .ok (.iload 4, 2) := by decide +kernel
theorem d_R_put_47 : decode b_R_put 47 = .ok (.imul, 1) := by decide +kernel
theorem d_R_put_48 : decode b_R_put 48 = .ok (.lshr, 1) := by decide +kernel
theorem d_R_put_49 : decode b_R_put 49 = .ok (.ldc2_w 167, 3) := by decide +kernel
theorem d_R_put_52 : decode b_R_put 52 = .ok (.land, 1) := by decide +kernel
theorem d_R_put_53 : decode b_R_put 53 = .ok (.l2i, 1) := by decide +kernel
theorem d_R_put_54 : decode b_R_put 54 = .ok (.iastore, 1) := by decide +kernel
theorem d_R_put_55 : decode b_R_put 55 = .ok (.aload_n 0, 1) := by decide +kernel
theorem d_R_put_56 : decode b_R_put 56 = .ok (.dup, 1) := by decide +kernel
theorem d_R_put_57 : decode b_R_put 57 = .ok (.getfield 163, 3) := by decide +kernel
theorem d_R_put_60 : decode b_R_put 60 = .ok (.iconst 1, 1) := by decide +kernel
theorem d_R_put_61 : decode b_R_put 61 = .ok (.iadd, 1) := by decide +kernel
theorem d_R_put_62 : decode b_R_put 62 = .ok (.putfield 163, 3) := by decide +kernel
theorem d_R_put_65 : decode b_R_put 65 = .ok (.iinc 4 (-1), 3) := by decide +kernel
theorem d_R_put_68 : decode b_R_put 68 = .ok (.goto (-39), 3) := by decide +kernel
theorem d_R_put_71 : decode b_R_put 71 = .ok (.iconst 1, 1) := by decide +kernel
theorem d_R_put_72 : decode b_R_put 72 = .ok (.ireturn, 1) := by decide +kernel
theorem d_R_read_0 : decode b_R_read 0 = .ok (.aload_n 0, 1) := by decide +kernel
theorem d_R_read_1 : decode b_R_read 1 = .ok (.iload_n 1, 1) := by decide +kernel
theorem d_R_read_2 : decode b_R_read 2 = .ok (.invokevirtual 62, 3) := by decide +kernel
theorem d_R_read_5 : decode b_R_read 5 = .ok (.iconst 0, 1) := by decide +kernel
theorem d_R_read_6 : decode b_R_read 6 = .ok (.istore 4, 2) := by decide +kernel
theorem d_R_read_8 : decode b_R_read 8 = .ok (.iload 4, 2) := by decide +kernel
theorem d_R_read_10 : decode b_R_read 10 = .ok (.iload_n 3, 1) := by decide +kernel
theorem d_R_read_11 : decode b_R_read 11 = .ok (.if_icmp .ge 88, 3) := by decide +kernel
theorem d_R_read_14 : decode b_R_read 14 = .ok (.bipush 8, 2) := by decide +kernel
theorem d_R_read_16 : decode b_R_read 16 = .ok (.iload_n 3, 1) := by decide +kernel
theorem d_R_read_17 : decode b_R_read 17 = .ok (.iconst 1, 1) := by decide +kernel
theorem d_R_read_18 : decode b_R_read 18 = .ok (.isub, 1) := by decide +kernel
theorem d_R_read_19 : decode b_R_read 19 = .ok (.iload 4, 2) := by decide +kernel
theorem d_R_read_21 : decode b_R_read 21 = .ok (.isub, 1) := by decide +kernel
theorem d_R_read_22 : decode b_R_read 22 = .ok (.imul, 1) := by decide +kernel
theorem d_R_read_23 : decode b_R_read 23 = .ok (.istore 5, 2) := by decide +kernel
theorem d_R_read_25 : decode b_R_read 25 = .ok (.iconst 0, 1) := by decide +kernel
theorem d_R_read_26 : decode b_R_read 26 = .ok (.istore 6, 2) := by decide +kernel
theorem d_R_read_28 : decode b_R_read 28 = .ok (.iload 6, 2) := by decide +kernel
theorem d_R_read_30 : decode b_R_read 30 = .ok (.bipush 8, 2) := by decide +kernel
theorem d_R_read_32 : decode b_R_read 32 = .ok (.if_icmp .ge 61, 3) := by decide +kernel
theorem d_R_read_35 : decode b_R_read 35 = .ok (.iload 5, 2) := by decide +kernel
theorem d_R_read_37 : decode b_R_read 37 = .ok (.sipush 256, 3) := by decide +kernel
theorem d_R_read_40 : decode b_R_read 40 = .ok (.if_icmp .ge 53, 3) := by decide +kernel
theorem d_R_read_43 : decode b_R_read 43 = .ok (.aload_n 0, 1) := by decide +kernel
theorem d_R_read_44 : decode b_R_read 44 = .ok (.getfield 7, 3) := by decide +kernel
theorem d_R_read_47 : decode b_R_read 47 = .ok (.bipush 10, 2) := by decide +kernel
theorem d_R_read_49 : decode b_R_read 49 = .ok (.iload_n 1, 1) := by decide +kernel
theorem d_R_read_50 : decode b_R_read 50 = .ok (.imul, 1) := by decide +kernel
theorem d_R_read_51 : decode b_R_read 51 = .ok (.iload 5, 2) := by decide +kernel
theorem d_R_read_53 : decode b_R_read 53 = .ok (.iload 6, 2) := by decide +kernel
theorem d_R_read_55 : decode b_R_read 55 = .ok (.iadd, 1) := by decide +kernel
theorem d_R_read_56 : decode b_R_read 56 = .ok (.bipush 26, 2) := by decide +kernel
theorem d_R_read_58 : decode b_R_read 58 = .ok (.idiv, 1) := by decide +kernel
theorem d_R_read_59 : decode b_R_read 59 = .ok (.iadd, 1) := by decide +kernel
theorem d_R_read_60 : decode b_R_read 60 = .ok (.dup2, 1) := by decide +kernel
theorem d_R_read_61 : decode b_R_read 61 = .ok (.iaload, 1) := by decide +kernel
theorem d_R_read_62 : decode b_R_read 62 = .ok (.aload_n 0, 1) := by decide +kernel
theorem d_R_read_63 : decode b_R_read 63 = .ok (.getfield 27, 3) := by decide +kernel
theorem d_R_read_66 : decode b_R_read 66 = .ok (.iload_n 2, 1) := by decide +kernel
theorem d_R_read_67 : decode b_R_read 67 = .ok (.iload 4, 2) := by decide +kernel
theorem d_R_read_69 : decode b_R_read 69 = .ok (.iadd, 1) := by decide +kernel
theorem d_R_read_70 : decode b_R_read 70 = .ok (.iaload, 1) := by decide +kernel
theorem d_R_read_71 : decode b_R_read 71 = .ok (.iload 6, 2) := by decide +kernel
theorem d_R_read_73 : decode b_R_read 73 = .ok (.ishr, 1) := by decide +kernel
theorem d_R_read_74 : decode b_R_read 74 = .ok (.iconst 1, 1) := by decide +kernel
theorem d_R_read_75 : decode b_R_read 75 = .ok (.iand, 1) := by decide +kernel
theorem d_R_read_76 : decode b_R_read 76 = .ok (.iload 5, 2) := by decide +kernel
theorem d_R_read_78 : decode b_R_read 78 = .ok (.iload 6, 2) := by decide +kernel
theorem d_R_read_80 : decode b_R_read 80 = .ok (.iadd, 1) := by decide +kernel
theorem d_R_read_81 : decode b_R_read 81 = .ok (.bipush 26, 2) := by decide +kernel
theorem d_R_read_83 : decode b_R_read 83 = .ok (.irem, 1) := by decide +kernel
theorem d_R_read_84 : decode b_R_read 84 = .ok (.ishl, 1) := by decide +kernel
theorem d_R_read_85 : decode b_R_read 85 = .ok (.ior, 1) := by decide +kernel
theorem d_R_read_86 : decode b_R_read 86 = .ok (.iastore, 1) := by decide +kernel
theorem d_R_read_87 : decode b_R_read 87 = .ok (.iinc 6 1, 3) := by decide +kernel
theorem d_R_read_90 : decode b_R_read 90 = .ok (.goto (-62), 3) := by decide +kernel
theorem d_R_read_93 : decode b_R_read 93 = .ok (.iinc 4 1, 3) := by decide +kernel
theorem d_R_read_96 : decode b_R_read 96 = .ok (.goto (-88), 3) := by decide +kernel
theorem d_R_read_99 : decode b_R_read 99 = .ok (.return_, 1) := by decide +kernel
theorem d_R_key_0 : decode b_R_key 0 = .ok (.iload_n 1, 1) := by decide +kernel
theorem d_R_key_1 : decode b_R_key 1 = .ok (.invokestatic 148, 3) := by decide +kernel
theorem d_R_key_4 : decode b_R_key 4 = .ok (.ifCond .ne 5, 3) := by decide +kernel
theorem d_R_key_7 : decode b_R_key 7 = .ok (.iconst (-1), 1) := by decide +kernel
theorem d_R_key_8 : decode b_R_key 8 = .ok (.ireturn, 1) := by decide +kernel
theorem d_R_key_9 : decode b_R_key 9 = .ok (.aload_n 0, 1) := by decide +kernel
theorem d_R_key_10 : decode b_R_key 10 = .ok (.getfield 163, 3) := by decide +kernel
theorem d_R_key_13 : decode b_R_key 13 = .ok (.istore_n 2, 1) := by decide +kernel
theorem d_R_key_14 : decode b_R_key 14 = .ok (.aload_n 0, 1) := by decide +kernel
theorem d_R_key_15 : decode b_R_key 15 = .ok (.iconst 0, 1) := by decide +kernel
theorem d_R_key_16 : decode b_R_key 16 = .ok (.putfield 163, 3) := by decide +kernel
theorem d_R_key_19 : decode b_R_key 19 = .ok (.iload_n 2, 1) := by decide +kernel
theorem d_R_key_20 : decode b_R_key 20 = .ok (.bipush 33, 2) := by decide +kernel
theorem d_R_key_22 : decode b_R_key 22 = .ok (.if_icmp .ne 97, 3) := by decide +kernel
theorem d_R_key_25 : decode b_R_key 25 = .ok (.aload_n 0, 1) := by decide +kernel
theorem d_R_key_26 : decode b_R_key 26 = .ok (.getfield 27, 3) := by decide +kernel
theorem d_R_key_29 : decode b_R_key 29 = .ok (.iconst 0, 1) := by decide +kernel
theorem d_R_key_30 : decode b_R_key 30 = .ok (.iaload, 1) := by decide +kernel
theorem d_R_key_31 : decode b_R_key 31 = .ok (.iconst 2, 1) := by decide +kernel
theorem d_R_key_32 : decode b_R_key 32 = .ok (.if_icmp .eq 13, 3) := by decide +kernel
theorem d_R_key_35 : decode b_R_key 35 = .ok (.aload_n 0, 1) := by decide +kernel
theorem d_R_key_36 : decode b_R_key 36 = .ok (.getfield 27, 3) := by decide +kernel
theorem d_R_key_39 : decode b_R_key 39 = .ok (.iconst 0, 1) := by decide +kernel
theorem d_R_key_40 : decode b_R_key 40 = .ok (.iaload, 1) := by decide +kernel
theorem d_R_key_41 : decode b_R_key 41 = .ok (.iconst 3, 1) := by decide +kernel
theorem d_R_key_42 : decode b_R_key 42 = .ok (.if_icmp .ne 77, 3) := by decide +kernel
theorem d_R_key_45 : decode b_R_key 45 = .ok (.aload_n 0, 1) := by decide +kernel
theorem d_R_key_46 : decode b_R_key 46 = .ok (.bipush 40, 2) := by decide +kernel
theorem d_R_key_48 : decode b_R_key 48 = .ok (.iconst 1, 1) := by decide +kernel
theorem d_R_key_49 : decode b_R_key 49 = .ok (.bipush 32, 2) := by decide +kernel
theorem d_R_key_51 : decode b_R_key 51 = .ok (.invokevirtual 169, 3) := by decide +kernel
theorem d_R_key_54 : decode b_R_key 54 = .ok (.aload_n 0, 1) := by decide +kernel
theorem d_R_key_55 : decode b_R_key 55 = .ok (.bipush 40, 2) := by decide +kernel
theorem d_R_key_57 : decode b_R_key 57 = .ok (.bipush 8, 2) := by decide +kernel
theorem d_R_key_59 : decode b_R_key 59 = .ok (.invokevirtual 78, 3) := by decide +kernel
theorem d_R_key_62 : decode b_R_key 62 = .ok (.ifCond .lt 5, 3) := by decide +kernel
theorem d_R_key_65 : decode b_R_key 65 = .ok (.iconst 0, 1) := by decide +kernel
theorem d_R_key_66 : decode b_R_key 66 = .ok (.ireturn, 1) := by decide +kernel
theorem d_R_key_67 : decode b_R_key 67 = .ok (.aload_n 0, 1) := by decide +kernel
theorem d_R_key_68 : decode b_R_key 68 = .ok (.bipush 33, 2) := by decide +kernel
theorem d_R_key_70 : decode b_R_key 70 = .ok (.bipush 40, 2) := by decide +kernel
theorem d_R_key_72 : decode b_R_key 72 = .ok (.invokevirtual 136, 3) := by decide +kernel
theorem d_R_key_75 : decode b_R_key 75 = .ok (.aload_n 0, 1) := by decide +kernel
theorem d_R_key_76 : decode b_R_key 76 = .ok (.bipush 41, 2) := by decide +kernel
theorem d_R_key_78 : decode b_R_key 78 = .ok (.bipush 33, 2) := by decide +kernel
theorem d_R_key_80 : decode b_R_key 80 = .ok (.invokevirtual 145, 3) := by decide +kernel
theorem d_R_key_83 : decode b_R_key 83 = .ok (.ifCond .ne 5, 3) := by decide +kernel
theorem d_R_key_86 : decode b_R_key 86 = .ok (.iconst 0, 1) := by decide +kernel
theorem d_R_key_87 : decode b_R_key 87 = .ok (.ireturn, 1) := by decide +kernel
theorem d_R_key_88 : decode b_R_key 88 = .ok (.aload_n 0, 1) := by decide +kernel
theorem d_R_key_89 : decode b_R_key 89 = .ok (.getfield 27, 3) := by decide +kernel
theorem d_R_key_92 : decode b_R_key 92 = .ok (.iconst 0, 1) := by decide +kernel
theorem d_R_key_93 : decode b_R_key 93 = .ok (.iaload, 1) := by decide +kernel
theorem d_R_key_94 : decode b_R_key 94 = .ok (.iconst 3, 1) := by decide +kernel
theorem d_R_key_95 : decode b_R_key 95 = .ok (.if_icmp .ne 74, 3) := by decide +kernel
theorem d_R_key_98 : decode b_R_key 98 = .ok (.aload_n 0, 1) := by decide +kernel
theorem d_R_key_99 : decode b_R_key 99 = .ok (.bipush 33, 2) := by decide +kernel
theorem d_R_key_101 : decode b_R_key 101 = .ok (.invokevirtual 62, 3) := by decide +kernel
theorem d_R_key_104 : decode b_R_key 104 = .ok (.aload_n 0, 1) := by decide +kernel
theorem d_R_key_105 : decode b_R_key 105 = .ok (.bipush 41, 2) := by decide +kernel
theorem d_R_key_107 : decode b_R_key 107 = .ok (.bipush 33, 2) := by decide +kernel
theorem d_R_key_109 : decode b_R_key 109 = .ok (.bipush 41, 2) := by decide +kernel
theorem d_R_key_111 : decode b_R_key 111 = .ok (.bipush 8, 2) := by decide +kernel
theorem d_R_key_113 : decode b_R_key 113 = .ok (.invokevirtual 112, 3) := by decide +kernel
theorem d_R_key_116 : decode b_R_key 116 = .ok (.goto 53, 3) := by decide +kernel
theorem d_R_key_119 : decode b_R_key 119 = .ok (.iload_n 2, 1) := by decide +kernel
theorem d_R_key_120 : decode b_R_key 120 = .ok (.bipush 65, 2) := by decide +kernel
theorem d_R_key_122 : decode b_R_key 122 = .ok (.if_icmp .ne 45, 3) := by decide +kernel
theorem d_R_key_125 : decode b_R_key 125 = .ok (.aload_n 0, 1) := by decide +kernel
theorem d_R_key_126 : decode b_R_key 126 = .ok (.getfield 27, 3) := by decide +kernel
theorem d_R_key_129 : decode b_R_key 129 = .ok (.iconst 0, 1) := by decide +kernel
theorem d_R_key_130 : decode b_R_key 130 = .ok (.iaload, 1) := by decide +kernel
theorem d_R_key_131 : decode b_R_key 131 = .ok (.iconst 4, 1) := by decide +kernel
theorem d_R_key_132 : decode b_R_key 132 = .ok (.if_icmp .ne 35, 3) := by decide +kernel
theorem d_R_key_135 : decode b_R_key 135 = .ok (.aload_n 0, 1) := by decide +kernel
theorem d_R_key_136 : decode b_R_key 136 = .ok (.bipush 40, 2) := by decide +kernel
theorem d_R_key_138 : decode b_R_key 138 = .ok (.iconst 1, 1) := by decide +kernel
theorem d_R_key_139 : decode b_R_key 139 = .ok (.bipush 32, 2) := by decide +kernel
theorem d_R_key_141 : decode b_R_key 141 = .ok (.invokevirtual 169, 3) := by decide +kernel
theorem d_R_key_144 : decode b_R_key 144 = .ok (.aload_n 0, 1) := by decide +kernel
theorem d_R_key_145 : decode b_R_key 145 = .ok (.bipush 41, 2) := by decide +kernel
theorem d_R_key_147 : decode b_R_key 147 = .ok (.bipush 33, 2) := by decide +kernel
theorem d_R_key_149 : decode b_R_key 149 = .ok (.bipush 32, 2) := by decide +kernel
theorem d_R_key_151 : decode b_R_key 151 = .ok (.invokevirtual 169, 3) := by decide +kernel
theorem d_R_key_154 : decode b_R_key 154 = .ok (.aload_n 0, 1) := by decide +kernel
theorem d_R_key_155 : decode b_R_key 155 = .ok (.bipush 40, 2) := by decide +kernel
theorem d_R_key_157 : decode b_R_key 157 = .ok (.bipush 41, 2) := by decide +kernel
theorem d_R_key_159 : decode b_R_key 159 = .ok (.invokevirtual 151, 3) := by decide +kernel
theorem d_R_key_162 : decode b_R_key 162 = .ok (.ifCond .ne 7, 3) := by decide +kernel
theorem d_R_key_165 : decode b_R_key 165 = .ok (.iconst 0, 1) := by decide +kernel
theorem d_R_key_166 : decode b_R_key 166 = .ok (.ireturn, 1) := by decide +kernel
theorem d_R_key_167 : decode b_R_key 167 = .ok (.iconst 0, 1) := by decide +kernel
theorem d_R_key_168 : decode b_R_key 168 = .ok (.ireturn, 1) := by decide +kernel
theorem d_R_key_169 : decode b_R_key 169 = .ok (.aload_n 0, 1) := by decide +kernel
theorem d_R_key_170 : decode b_R_key 170 = .ok (.bipush 10, 2) := by decide +kernel
theorem d_R_key_172 : decode b_R_key 172 = .ok (.iconst 2, 1) := by decide +kernel
theorem d_R_key_173 : decode b_R_key 173 = .ok (.iload_n 1, 1) := by decide +kernel
theorem d_R_key_174 : decode b_R_key 174 = .ok (.imul, 1) := by decide +kernel
theorem d_R_key_175 : decode b_R_key 175 = .ok (.iadd, 1) := by decide +kernel
theorem d_R_key_176 : decode b_R_key 176 = .ok (.bipush 40, 2) := by decide +kernel
theorem d_R_key_178 : decode b_R_key 178 = .ok (.invokevirtual 70, 3) := by decide +kernel
theorem d_R_key_181 : decode b_R_key 181 = .ok (.aload_n 0, 1) := by decide +kernel
theorem d_R_key_182 : decode b_R_key 182 = .ok (.bipush 11, 2) := by decide +kernel
theorem d_R_key_184 : decode b_R_key 184 = .ok (.iconst 2, 1) := by decide +kernel
theorem d_R_key_185 : decode b_R_key 185 = .ok (.iload_n 1, 1) := by decide +kernel
theorem d_R_key_186 : decode b_R_key 186 = .ok (.imul, 1) := by decide +kernel
theorem d_R_key_187 : decode b_R_key 187 = .ok (.iadd, 1) := by decide +kernel
theorem d_R_key_188 : decode b_R_key 188 = .ok (.bipush 41, 2) := by decide +kernel
theorem d_R_key_190 : decode b_R_key 190 = .ok (.invokevirtual 70, 3) := by decide +kernel
theorem d_R_key_193 : decode b_R_key 193 = .ok (.aload_n 0, 1) := by decide +kernel
theorem d_R_key_194 : decode b_R_key 194 = .ok (.getfield 23, 3) := by decide +kernel
theorem d_R_key_197 : decode b_R_key 197 = .ok (.iload_n 1, 1) := by decide +kernel
theorem d_R_key_198 : decode b_R_key 198 = .ok (.iconst 0, 1) := by decide +kernel
theorem d_R_key_199 : decode b_R_key 199 = .ok (.bastore, 1) := by decide +kernel
theorem d_R_key_200 : decode b_R_key 200 = .ok (.iconst 1, 1) := by decide +kernel
theorem d_R_key_201 : decode b_R_key 201 = .ok (.ireturn, 1) := by decide +kernel
theorem d_R_numberEnd_0 : decode b_R_numberEnd 0 = .ok (.iload_n 1, 1) := by decide +kernel
theorem d_R_numberEnd_1 : decode b_R_numberEnd 1 = .ok (.iconst 2, 1) := by decide +kernel
theorem d_R_numberEnd_2 : decode b_R_numberEnd 2 = .ok (.iadd, 1) := by decide +kernel
theorem d_R_numberEnd_3 : decode b_R_numberEnd 3 = .ok (.iload_n 2, 1) := by decide +kernel
theorem d_R_numberEnd_4 : decode b_R_numberEnd 4 = .ok (.if_icmp .gt 13, 3) := by decide +kernel
theorem d_R_numberEnd_7 : decode b_R_numberEnd 7 = .ok (.aload_n 0, 1) := by decide +kernel
theorem d_R_numberEnd_8 : decode b_R_numberEnd 8 = .ok (.getfield 27, 3) := by decide +kernel
theorem d_R_numberEnd_11 : decode b_R_numberEnd 11 = .ok (.iload_n 1, 1) := by decide +kernel
theorem d_R_numberEnd_12 : decode b_R_numberEnd 12 = .ok (.iaload, 1) := by decide +kernel
theorem d_R_numberEnd_13 : decode b_R_numberEnd 13 = .ok (.iconst 2, 1) := by decide +kernel
theorem d_R_numberEnd_14 : decode b_R_numberEnd 14 = .ok (.if_icmp .eq 5, 3) := by decide +kernel
theorem d_R_numberEnd_17 : decode b_R_numberEnd 17 = .ok (.iconst (-1), 1) := by decide +kernel
theorem d_R_numberEnd_18 : decode b_R_numberEnd 18 = .ok (.ireturn, 1) := by decide +kernel
theorem d_R_numberEnd_19 : decode b_R_numberEnd 19 = .ok (.aload_n 0, 1) := by decide +kernel
theorem d_R_numberEnd_20 : decode b_R_numberEnd 20 = .ok (.getfield 27, 3) := by decide +kernel
theorem d_R_numberEnd_23 : decode b_R_numberEnd 23 = .ok (.iload_n 1, 1) := by decide +kernel
theorem d_R_numberEnd_24 : decode b_R_numberEnd 24 = .ok (.iconst 1, 1) := by decide +kernel
theorem d_R_numberEnd_25 : decode b_R_numberEnd 25 = .ok (.iadd, 1) := by decide +kernel
theorem d_R_numberEnd_26 : decode b_R_numberEnd 26 = .ok (.iaload, 1) := by decide +kernel
theorem d_R_numberEnd_27 : decode b_R_numberEnd 27 = .ok (.istore_n 3, 1) := by decide +kernel
theorem d_R_numberEnd_28 : decode b_R_numberEnd 28 = .ok (.iload_n 3, 1) := by decide +kernel
theorem d_R_numberEnd_29 : decode b_R_numberEnd 29 = .ok (.iconst 1, 1) := by decide +kernel
theorem d_R_numberEnd_30 : decode b_R_numberEnd 30 = .ok (.if_icmp .lt 18, 3) := by decide +kernel
theorem d_R_numberEnd_33 : decode b_R_numberEnd 33 = .ok (.iload_n 3, 1) := by decide +kernel
theorem d_R_numberEnd_34 : decode b_R_numberEnd 34 = .ok (.bipush 33, 2) := by decide +kernel
theorem d_R_numberEnd_36 : decode b_R_numberEnd 36 = .ok (.if_icmp .gt 12, 3) := by decide +kernel
theorem d_R_numberEnd_39 : decode b_R_numberEnd 39 = .ok (.iload_n 1, 1) := by decide +kernel
theorem d_R_numberEnd_40 : decode b_R_numberEnd 40 = .ok (.iconst 2, 1) := by decide +kernel
theorem d_R_numberEnd_41 : decode b_R_numberEnd 41 = .ok (.iadd, 1) := by decide +kernel
theorem d_R_numberEnd_42 : decode b_R_numberEnd 42 = .ok (.iload_n 3, 1) := by decide +kernel
theorem d_R_numberEnd_43 : decode b_R_numberEnd 43 = .ok (.iadd, 1) := by decide +kernel
theorem d_R_numberEnd_44 : decode b_R_numberEnd 44 = .ok (.iload_n 2, 1) := by decide +kernel
theorem d_R_numberEnd_45 : decode b_R_numberEnd 45 = .ok (.if_icmp .le 5, 3) := by decide +kernel
theorem d_R_numberEnd_48 : decode b_R_numberEnd 48 = .ok (.iconst (-1), 1) := by decide +kernel
theorem d_R_numberEnd_49 : decode b_R_numberEnd 49 = .ok (.ireturn, 1) := by decide +kernel
theorem d_R_numberEnd_50 : decode b_R_numberEnd 50 = .ok (.aload_n 0, 1) := by decide +kernel
theorem d_R_numberEnd_51 : decode b_R_numberEnd 51 = .ok (.getfield 27, 3) := by decide +kernel
theorem d_R_numberEnd_54 : decode b_R_numberEnd 54 = .ok (.iload_n 1, 1) := by decide +kernel
theorem d_R_numberEnd_55 : decode b_R_numberEnd 55 = .ok (.iconst 2, 1) := by decide +kernel
theorem d_R_numberEnd_56 : decode b_R_numberEnd 56 = .ok (.iadd, 1) := by decide +kernel
theorem d_R_numberEnd_57 : decode b_R_numberEnd 57 = .ok (.iaload, 1) := by decide +kernel
theorem d_R_numberEnd_58 : decode b_R_numberEnd 58 = .ok (.istore 4, 2) := by decide +kernel
theorem d_R_numberEnd_60 : decode b_R_numberEnd 60 = .ok (.iload 4, 2) := by decide +kernel
theorem d_R_numberEnd_62 : decode b_R_numberEnd 62 = .ok (.sipush 128, 3) := by decide +kernel
theorem d_R_numberEnd_65 : decode b_R_numberEnd 65 = .ok (.if_icmp .ge 31, 3) := by decide +kernel
theorem d_R_numberEnd_68 : decode b_R_numberEnd 68 = .ok (.iload 4, 2) := by decide +kernel
theorem d_R_numberEnd_70 : decode b_R_numberEnd 70 = .ok (.ifCond .gt 22, 3) := by decide +kernel
theorem d_R_numberEnd_73 : decode b_R_numberEnd 73 = .ok (.iload_n 3, 1) := by decide +kernel
theorem d_R_numberEnd_74 : decode b_R_numberEnd 74 = .ok (.iconst 1, 1) := by decide +kernel
theorem d_R_numberEnd_75 : decode b_R_numberEnd 75 = .ok (.if_icmp .eq 17, 3) := by decide +kernel
theorem d_R_numberEnd_78 : decode b_R_numberEnd 78 = .ok (.aload_n 0, 1) := by decide +kernel
theorem d_R_numberEnd_79 : decode b_R_numberEnd 79 = .ok (.getfield 27, 3) := by decide +kernel
theorem d_R_numberEnd_82 : decode b_R_numberEnd 82 = .ok (.iload_n 1, 1) := by decide +kernel
theorem d_R_numberEnd_83 : decode b_R_numberEnd 83 = .ok (.iconst 3, 1) := by decide +kernel
theorem d_R_numberEnd_84 : decode b_R_numberEnd 84 = .ok (.iadd, 1) := by decide +kernel
theorem d_R_numberEnd_85 : decode b_R_numberEnd 85 = .ok (.iaload, 1) := by decide +kernel
theorem d_R_numberEnd_86 : decode b_R_numberEnd 86 = .ok (.sipush 128, 3) := by decide +kernel
theorem d_R_numberEnd_89 : decode b_R_numberEnd 89 = .ok (.if_icmp .lt 7, 3) := by decide +kernel
theorem d_R_numberEnd_92 : decode b_R_numberEnd 92 = .ok (.iconst 1, 1) := by decide +kernel
theorem d_R_numberEnd_93 : decode b_R_numberEnd 93 = .ok (.goto 4, 3) := by decide +kernel
theorem d_R_numberEnd_96 : decode b_R_numberEnd 96 = .ok (.iconst 0, 1) := by decide +kernel
theorem d_R_numberEnd_97 : decode b_R_numberEnd 97 = .ok (.istore 5, 2) := by decide +kernel
theorem d_R_numberEnd_99 : decode b_R_numberEnd 99 = .ok (.iload 5, 2) := by decide +kernel
theorem d_R_numberEnd_101 : decode b_R_numberEnd 101 = .ok (.ifCond .eq 22, 3) := by decide +kernel
theorem d_R_numberEnd_104 : decode b_R_numberEnd 104 = .ok (.iload_n 3, 1) := by decide +kernel
theorem d_R_numberEnd_105 : decode b_R_numberEnd 105 = .ok (.bipush 33, 2) := by decide +kernel
theorem d_R_numberEnd_107 : decode b_R_numberEnd 107 = .ok (.if_icmp .lt 8, 3) := by decide +kernel
theorem d_R_numberEnd_110 : decode b_R_numberEnd 110 = .ok (.iload 4, 2) := by decide +kernel
theorem d_R_numberEnd_112 : decode b_R_numberEnd 112 = .ok (.ifCond .ne 11, 3) := by decide +kernel
theorem d_R_numberEnd_115 : decode b_R_numberEnd 115 = .ok (.iload_n 1, 1) := by decide +kernel
theorem d_R_numberEnd_116 : decode b_R_numberEnd 116 = .ok (.iconst 2, 1) := by decide +kernel
theorem d_R_numberEnd_117 : decode b_R_numberEnd 117 = .ok (.iadd, 1) := by decide +kernel
theorem d_R_numberEnd_118 : decode b_R_numberEnd 118 = .ok (.iload_n 3, 1) := by decide +kernel
theorem d_R_numberEnd_119 : decode b_R_numberEnd 119 = .ok (.iadd, 1) := by decide +kernel
theorem d_R_numberEnd_120 : decode b_R_numberEnd 120 = .ok (.goto 4, 3) := by decide +kernel
theorem d_R_numberEnd_123 : decode b_R_numberEnd 123 = .ok (.iconst (-1), 1) := by decide +kernel
theorem d_R_numberEnd_124 : decode b_R_numberEnd 124 = .ok (.ireturn, 1) := by decide +kernel
theorem d_R_signature_0 : decode b_R_signature 0 = .ok (.iload_n 1, 1) := by decide +kernel
theorem d_R_signature_1 : decode b_R_signature 1 = .ok (.invokestatic 139, 3) := by decide +kernel
theorem d_R_signature_4 : decode b_R_signature 4 = .ok (.ifCond .eq 15, 3) := by decide +kernel
theorem d_R_signature_7 : decode b_R_signature 7 = .ok (.iload_n 2, 1) := by decide +kernel
theorem d_R_signature_8 : decode b_R_signature 8 = .ok (.invokestatic 139, 3) := by decide +kernel
theorem d_R_signature_11 : decode b_R_signature 11 = .ok (.ifCond .eq 8, 3) := by decide +kernel
theorem d_R_signature_14 : decode b_R_signature 14 = .ok (.iload_n 1, 1) := by decide +kernel
theorem d_R_signature_15 : decode b_R_signature 15 = .ok (.iload_n 2, 1) := by decide +kernel
theorem d_R_signature_16 : decode b_R_signature 16 = .ok (.if_icmp .ne 5, 3) := by decide +kernel
theorem d_R_signature_19 : decode b_R_signature 19 = .ok (.iconst (-1), 1) := by decide +kernel
theorem d_R_signature_20 : decode b_R_signature 20 = .ok (.ireturn, 1) := by decide +kernel
theorem d_R_signature_21 : decode b_R_signature 21 = .ok (.aload_n 0, 1) := by decide +kernel
theorem d_R_signature_22 : decode b_R_signature 22 = .ok (.getfield 163, 3) := by decide +kernel
theorem d_R_signature_25 : decode b_R_signature 25 = .ok (.istore_n 3, 1) := by decide +kernel
theorem d_R_signature_26 : decode b_R_signature 26 = .ok (.aload_n 0, 1) := by decide +kernel
theorem d_R_signature_27 : decode b_R_signature 27 = .ok (.iconst 0, 1) := by decide +kernel
theorem d_R_signature_28 : decode b_R_signature 28 = .ok (.putfield 163, 3) := by decide +kernel
theorem d_R_signature_31 : decode b_R_signature 31 = .ok (.iload_n 3, 1) := by decide +kernel
theorem d_R_signature_32 : decode b_R_signature 32 = .ok (.iconst 2, 1) := by decide +kernel
theorem d_R_signature_33 : decode b_R_signature 33 = .ok (.if_icmp .lt 26, 3) := by decide +kernel
theorem d_R_signature_36 : decode b_R_signature 36 = .ok (.aload_n 0, 1) := by decide +kernel
theorem d_R_signature_37 : decode b_R_signature 37 = .ok (.getfield 27, 3) := by decide +kernel
theorem d_R_signature_40 : decode b_R_signature 40 = .ok (.iconst 0, 1) := by decide +kernel
theorem d_R_signature_41 : decode b_R_signature 41 = .ok (.iaload, 1) := by decide +kernel
theorem d_R_signature_42 : decode b_R_signature 42 = .ok (.bipush 48, 2) := by decide +kernel
theorem d_R_signature_44 : decode b_R_signature 44 = .ok (.if_icmp .ne 15, 3) := by decide +kernel
theorem d_R_signature_47 : decode b_R_signature 47 = .ok (.aload_n 0, 1) := by decide +kernel
theorem d_R_signature_48 : decode b_R_signature 48 = .ok (.getfield 27, 3) := by decide +kernel
theorem d_R_signature_51 : decode b_R_signature 51 = .ok (.iconst 1, 1) := by decide +kernel
theorem d_R_signature_52 : decode b_R_signature 52 = .ok (.iaload, 1) := by decide +kernel
theorem d_R_signature_53 : decode b_R_signature 53 = .ok (.iload_n 3, 1) := by decide +kernel
theorem d_R_signature_54 : decode b_R_signature 54 = .ok (.iconst 2, 1) := by decide +kernel
theorem d_R_signature_55 : decode b_R_signature 55 = .ok (.isub, 1) := by decide +kernel
theorem d_R_signature_56 : decode b_R_signature 56 = .ok (.if_icmp .eq 5, 3) := by decide +kernel
theorem d_R_signature_59 : decode b_R_signature 59 = .ok (.iconst 0, 1) := by decide +kernel
theorem d_R_signature_60 : decode b_R_signature 60 = .ok (.ireturn, 1) := by decide +kernel
theorem d_R_signature_61 : decode b_R_signature 61 = .ok (.aload_n 0, 1) := by decide +kernel
theorem d_R_signature_62 : decode b_R_signature 62 = .ok (.iconst 2, 1) := by decide +kernel
theorem d_R_signature_63 : decode b_R_signature 63 = .ok (.iload_n 3, 1) := by decide +kernel
theorem d_R_signature_64 : decode b_R_signature 64 = .ok (.invokevirtual 172, 3) := by decide +kernel
theorem d_R_signature_67 : decode b_R_signature 67 = .ok (.istore 4, 2) := by decide +kernel
theorem d_R_signature_69 : decode b_R_signature 69 = .ok (.iload 4, 2) := by decide +kernel
theorem d_R_signature_71 : decode b_R_signature 71 = .ok (.ifCond .lt 14, 3) := by decide +kernel
theorem d_R_signature_74 : decode b_R_signature 74 = .ok (.aload_n 0, 1) := by decide +kernel
theorem d_R_signature_75 : decode b_R_signature 75 = .ok (.iload 4, 2) := by decide +kernel
theorem d_R_signature_77 : decode b_R_signature 77 = .ok (.iload_n 3, 1) := by decide +kernel
theorem d_R_signature_78 : decode b_R_signature 78 = .ok (.invokevirtual 172, 3) := by decide +kernel
theorem d_R_signature_81 : decode b_R_signature 81 = .ok (.iload_n 3, 1) := by decide +kernel
theorem d_R_signature_82 : decode b_R_signature 82 = .ok (.if_icmp .eq 5, 3) := by decide +kernel
theorem d_R_signature_85 : decode b_R_signature 85 = .ok (.iconst 0, 1) := by decide +kernel
theorem d_R_signature_86 : decode b_R_signature 86 = .ok (.ireturn, 1) := by decide +kernel
theorem d_R_signature_87 : decode b_R_signature 87 = .ok (.aload_n 0, 1) := by decide +kernel
theorem d_R_signature_88 : decode b_R_signature 88 = .ok (.iload_n 1, 1) := by decide +kernel
theorem d_R_signature_89 : decode b_R_signature 89 = .ok (.iconst 4, 1) := by decide +kernel
theorem d_R_signature_90 : decode b_R_signature 90 = .ok (.iload 4, 2) := by decide +kernel
theorem d_R_signature_92 : decode b_R_signature 92 = .ok (.iconst 4, 1) := by decide +kernel
theorem d_R_signature_93 : decode b_R_signature 93 = .ok (.isub, 1) := by decide +kernel
theorem d_R_signature_94 : decode b_R_signature 94 = .ok (.invokevirtual 169, 3) := by decide +kernel
theorem d_R_signature_97 : decode b_R_signature 97 = .ok (.aload_n 0, 1) := by decide +kernel
theorem d_R_signature_98 : decode b_R_signature 98 = .ok (.iload_n 2, 1) := by decide +kernel
theorem d_R_signature_99 : decode b_R_signature 99 = .ok (.iload 4, 2) := by decide +kernel
theorem d_R_signature_101 : decode b_R_signature 101 = .ok (.iconst 2, 1) := by decide +kernel
theorem d_R_signature_102 : decode b_R_signature 102 = .ok (.iadd, 1) := by decide +kernel
theorem d_R_signature_103 : decode b_R_signature 103 = .ok (.iload_n 3, 1) := by decide +kernel
theorem d_R_signature_104 : decode b_R_signature 104 = .ok (.iload 4, 2) := by decide +kernel
theorem d_R_signature_106 : decode b_R_signature 106 = .ok (.isub, 1) := by decide +kernel
theorem d_R_signature_107 : decode b_R_signature 107 = .ok (.iconst 2, 1) := by decide +kernel
theorem d_R_signature_108 : decode b_R_signature 108 = .ok (.isub, 1) := by decide +kernel
theorem d_R_signature_109 : decode b_R_signature 109 = .ok (.invokevirtual 169, 3) := by decide +kernel
theorem d_R_signature_112 : decode b_R_signature 112 = .ok (.iconst 1, 1) := by decide +kernel
theorem d_R_signature_113 : decode b_R_signature 113 = .ok (.ireturn, 1) := by decide +kernel
theorem d_R_fits_0 : decode b_R_fits 0 = .ok (.iload_n 1, 1) := by decide +kernel
theorem d_R_fits_1 : decode b_R_fits 1 = .ok (.invokestatic 148, 3) := by decide +kernel
theorem d_R_fits_4 : decode b_R_fits 4 = .ok (.ifCond .eq 25, 3) := by decide +kernel
theorem d_R_fits_7 : decode b_R_fits 7 = .ok (.iload_n 2, 1) := by decide +kernel
theorem d_R_fits_8 : decode b_R_fits 8 = .ok (.invokestatic 139, 3) := by decide +kernel
theorem d_R_fits_11 : decode b_R_fits 11 = .ok (.ifCond .eq 18, 3) := by decide +kernel
theorem d_R_fits_14 : decode b_R_fits 14 = .ok (.iload_n 3, 1) := by decide +kernel
theorem d_R_fits_15 : decode b_R_fits 15 = .ok (.invokestatic 139, 3) := by decide +kernel
theorem d_R_fits_18 : decode b_R_fits 18 = .ok (.ifCond .eq 11, 3) := by decide +kernel
theorem d_R_fits_21 : decode b_R_fits 21 = .ok (.iload 4, 2) := by decide +kernel
theorem d_R_fits_23 : decode b_R_fits 23 = .ok (.invokestatic 139, 3) := by decide +kernel
theorem d_R_fits_26 : decode b_R_fits 26 = .ok (.ifCond .ne 5, 3) := by decide +kernel
theorem d_R_fits_29 : decode b_R_fits 29 = .ok (.iconst (-1), 1) := by decide +kernel
theorem d_R_fits_30 : decode b_R_fits 30 = .ok (.ireturn, 1) := by decide +kernel
theorem d_R_fits_31 : decode b_R_fits 31 = .ok (.aload_n 0, 1) := by decide +kernel
end
section
/-! the instructions -/
theorem d_R_fits_32 : decode b_R_fits 32 = .ok (.getfield 23, 3) := by decide +kernel
theorem d_R_fits_35 : decode b_R_fits 35 = .ok (.iload_n 1, 1) := by decide +kernel
theorem d_R_fits_36 : decode b_R_fits 36 = .ok (.baload, 1) := by decide +kernel
theorem d_R_fits_37 : decode b_R_fits 37 = .ok (.ifCond .ne 39, 3) := by decide +kernel
theorem d_R_fits_40 : decode b_R_fits 40 = .ok (.aload_n 0, 1) := by decide +kernel
theorem d_R_fits_41 : decode b_R_fits 41 = .ok (.iload_n 2, 1) := by decide +kernel
theorem d_R_fits_42 : decode b_R_fits 42 = .ok (.invokevirtual 115, 3) := by decide +kernel
theorem d_R_fits_45 : decode b_R_fits 45 = .ok (.ifCond .ne 31, 3) := by decide +kernel
theorem d_R_fits_48 : decode b_R_fits 48 = .ok (.aload_n 0, 1) := by decide +kernel
theorem d_R_fits_49 : decode b_R_fits 49 = .ok (.iload_n 3, 1) := by decide +kernel
theorem d_R_fits_50 : decode b_R_fits 50 = .ok (.invokevirtual 115, 3) := by decide +kernel
theorem d_R_fits_53 : decode b_R_fits 53 = .ok (.ifCond .ne 23, 3) := by decide +kernel
theorem d_R_fits_56 : decode b_R_fits 56 = .ok (.aload_n 0, 1) := by decide +kernel
theorem d_R_fits_57 : decode b_R_fits 57 = .ok (.iload_n 2, 1) := by decide +kernel
theorem d_R_fits_58 : decode b_R_fits 58 = .ok (.bipush 9, 2) := by decide +kernel
theorem d_R_fits_60 : decode b_R_fits 60 = .ok (.invokevirtual 78, 3) := by decide +kernel
theorem d_R_fits_63 : decode b_R_fits 63 = .ok (.ifCond .ge 13, 3) := by decide +kernel
theorem d_R_fits_66 : decode b_R_fits 66 = .ok (.aload_n 0, 1) := by decide +kernel
theorem d_R_fits_67 : decode b_R_fits 67 = .ok (.iload_n 3, 1) := by decide +kernel
theorem d_R_fits_68 : decode b_R_fits 68 = .ok (.bipush 9, 2) := by decide +kernel
theorem d_R_fits_70 : decode b_R_fits 70 = .ok (.invokevirtual 78, 3) := by decide +kernel
theorem d_R_fits_73 : decode b_R_fits 73 = .ok (.ifCond .lt 5, 3) := by decide +kernel
theorem d_R_fits_76 : decode b_R_fits 76 = .ok (.iconst 0, 1) := by decide +kernel
theorem d_R_fits_77 : decode b_R_fits 77 = .ok (.ireturn, 1) := by decide +kernel
theorem d_R_fits_78 : decode b_R_fits 78 = .ok (.aload_n 0, 1) := by decide +kernel
theorem d_R_fits_79 : decode b_R_fits 79 = .ok (.bipush 42, 2) := by decide +kernel
theorem d_R_fits_81 : decode b_R_fits 81 = .ok (.iload 4, 2) := by decide +kernel
theorem d_R_fits_83 : decode b_R_fits 83 = .ok (.bipush 20, 2) := by decide +kernel
theorem d_R_fits_85 : decode b_R_fits 85 = .ok (.bipush 9, 2) := by decide +kernel
theorem d_R_fits_87 : decode b_R_fits 87 = .ok (.invokevirtual 96, 3) := by decide +kernel
theorem d_R_fits_90 : decode b_R_fits 90 = .ok (.aload_n 0, 1) := by decide +kernel
theorem d_R_fits_91 : decode b_R_fits 91 = .ok (.bipush 42, 2) := by decide +kernel
theorem d_R_fits_93 : decode b_R_fits 93 = .ok (.bipush 42, 2) := by decide +kernel
theorem d_R_fits_95 : decode b_R_fits 95 = .ok (.iload_n 3, 1) := by decide +kernel
theorem d_R_fits_96 : decode b_R_fits 96 = .ok (.bipush 9, 2) := by decide +kernel
theorem d_R_fits_98 : decode b_R_fits 98 = .ok (.invokevirtual 121, 3) := by decide +kernel
theorem d_R_fits_101 : decode b_R_fits 101 = .ok (.aload_n 0, 1) := by decide +kernel
theorem d_R_fits_102 : decode b_R_fits 102 = .ok (.bipush 43, 2) := by decide +kernel
theorem d_R_fits_104 : decode b_R_fits 104 = .ok (.iload_n 2, 1) := by decide +kernel
theorem d_R_fits_105 : decode b_R_fits 105 = .ok (.iload_n 3, 1) := by decide +kernel
theorem d_R_fits_106 : decode b_R_fits 106 = .ok (.bipush 9, 2) := by decide +kernel
theorem d_R_fits_108 : decode b_R_fits 108 = .ok (.invokevirtual 121, 3) := by decide +kernel
theorem d_R_fits_111 : decode b_R_fits 111 = .ok (.aload_n 0, 1) := by decide +kernel
theorem d_R_fits_112 : decode b_R_fits 112 = .ok (.bipush 22, 2) := by decide +kernel
theorem d_R_fits_114 : decode b_R_fits 114 = .ok (.bipush 18, 2) := by decide +kernel
theorem d_R_fits_116 : decode b_R_fits 116 = .ok (.invokevirtual 70, 3) := by decide +kernel
theorem d_R_fits_119 : decode b_R_fits 119 = .ok (.aload_n 0, 1) := by decide +kernel
theorem d_R_fits_120 : decode b_R_fits 120 = .ok (.bipush 23, 2) := by decide +kernel
theorem d_R_fits_122 : decode b_R_fits 122 = .ok (.bipush 19, 2) := by decide +kernel
theorem d_R_fits_124 : decode b_R_fits 124 = .ok (.invokevirtual 70, 3) := by decide +kernel
theorem d_R_fits_127 : decode b_R_fits 127 = .ok (.aload_n 0, 1) := by decide +kernel
theorem d_R_fits_128 : decode b_R_fits 128 = .ok (.bipush 24, 2) := by decide +kernel
theorem d_R_fits_130 : decode b_R_fits 130 = .ok (.bipush 20, 2) := by decide +kernel
theorem d_R_fits_132 : decode b_R_fits 132 = .ok (.invokevirtual 70, 3) := by decide +kernel
theorem d_R_fits_135 : decode b_R_fits 135 = .ok (.aload_n 0, 1) := by decide +kernel
theorem d_R_fits_136 : decode b_R_fits 136 = .ok (.bipush 42, 2) := by decide +kernel
theorem d_R_fits_138 : decode b_R_fits 138 = .ok (.invokevirtual 160, 3) := by decide +kernel
theorem d_R_fits_141 : decode b_R_fits 141 = .ok (.aload_n 0, 1) := by decide +kernel
theorem d_R_fits_142 : decode b_R_fits 142 = .ok (.bipush 44, 2) := by decide +kernel
theorem d_R_fits_144 : decode b_R_fits 144 = .ok (.bipush 25, 2) := by decide +kernel
theorem d_R_fits_146 : decode b_R_fits 146 = .ok (.invokevirtual 127, 3) := by decide +kernel
theorem d_R_fits_149 : decode b_R_fits 149 = .ok (.aload_n 0, 1) := by decide +kernel
theorem d_R_fits_150 : decode b_R_fits 150 = .ok (.bipush 22, 2) := by decide +kernel
theorem d_R_fits_152 : decode b_R_fits 152 = .ok (.iload_n 1, 1) := by decide +kernel
theorem d_R_fits_153 : decode b_R_fits 153 = .ok (.invokevirtual 154, 3) := by decide +kernel
theorem d_R_fits_156 : decode b_R_fits 156 = .ok (.aload_n 0, 1) := by decide +kernel
theorem d_R_fits_157 : decode b_R_fits 157 = .ok (.bipush 43, 2) := by decide +kernel
theorem d_R_fits_159 : decode b_R_fits 159 = .ok (.invokevirtual 160, 3) := by decide +kernel
theorem d_R_fits_162 : decode b_R_fits 162 = .ok (.aload_n 0, 1) := by decide +kernel
theorem d_R_fits_163 : decode b_R_fits 163 = .ok (.bipush 25, 2) := by decide +kernel
theorem d_R_fits_165 : decode b_R_fits 165 = .ok (.bipush 44, 2) := by decide +kernel
theorem d_R_fits_167 : decode b_R_fits 167 = .ok (.invokevirtual 133, 3) := by decide +kernel
theorem d_R_fits_170 : decode b_R_fits 170 = .ok (.aload_n 0, 1) := by decide +kernel
theorem d_R_fits_171 : decode b_R_fits 171 = .ok (.bipush 25, 2) := by decide +kernel
theorem d_R_fits_173 : decode b_R_fits 173 = .ok (.invokevirtual 118, 3) := by decide +kernel
theorem d_R_fits_176 : decode b_R_fits 176 = .ok (.ifCond .eq 5, 3) := by decide +kernel
theorem d_R_fits_179 : decode b_R_fits 179 = .ok (.iconst 0, 1) := by decide +kernel
theorem d_R_fits_180 : decode b_R_fits 180 = .ok (.ireturn, 1) := by decide +kernel
theorem d_R_fits_181 : decode b_R_fits 181 = .ok (.aload_n 0, 1) := by decide +kernel
theorem d_R_fits_182 : decode b_R_fits 182 = .ok (.bipush 42, 2) := by decide +kernel
theorem d_R_fits_184 : decode b_R_fits 184 = .ok (.bipush 25, 2) := by decide +kernel
theorem d_R_fits_186 : decode b_R_fits 186 = .ok (.bipush 27, 2) := by decide +kernel
theorem d_R_fits_188 : decode b_R_fits 188 = .ok (.bipush 8, 2) := by decide +kernel
theorem d_R_fits_190 : decode b_R_fits 190 = .ok (.invokevirtual 121, 3) := by decide +kernel
theorem d_R_fits_193 : decode b_R_fits 193 = .ok (.aload_n 0, 1) := by decide +kernel
theorem d_R_fits_194 : decode b_R_fits 194 = .ok (.bipush 42, 2) := by decide +kernel
theorem d_R_fits_196 : decode b_R_fits 196 = .ok (.bipush 42, 2) := by decide +kernel
theorem d_R_fits_198 : decode b_R_fits 198 = .ok (.bipush 20, 2) := by decide +kernel
theorem d_R_fits_200 : decode b_R_fits 200 = .ok (.bipush 9, 2) := by decide +kernel
theorem d_R_fits_202 : decode b_R_fits 202 = .ok (.invokevirtual 96, 3) := by decide +kernel
theorem d_R_fits_205 : decode b_R_fits 205 = .ok (.aload_n 0, 1) := by decide +kernel
theorem d_R_fits_206 : decode b_R_fits 206 = .ok (.bipush 42, 2) := by decide +kernel
theorem d_R_fits_208 : decode b_R_fits 208 = .ok (.iload_n 2, 1) := by decide +kernel
theorem d_R_fits_209 : decode b_R_fits 209 = .ok (.invokevirtual 78, 3) := by decide +kernel
theorem d_R_fits_212 : decode b_R_fits 212 = .ok (.ifCond .ne 7, 3) := by decide +kernel
theorem d_R_fits_215 : decode b_R_fits 215 = .ok (.iconst 1, 1) := by decide +kernel
theorem d_R_fits_216 : decode b_R_fits 216 = .ok (.goto 4, 3) := by decide +kernel
theorem d_R_fits_219 : decode b_R_fits 219 = .ok (.iconst 0, 1) := by decide +kernel
theorem d_R_fits_220 : decode b_R_fits 220 = .ok (.ireturn, 1) := by decide +kernel
theorem d_C_init_0 : decode b_C_init 0 = .ok (.aload_n 0, 1) := by decide +kernel
theorem d_C_init_1 : decode b_C_init 1 = .ok (.invokespecial 3, 3) := by decide +kernel
theorem d_C_init_4 : decode b_C_init 4 = .ok (.aload_n 0, 1) := by decide +kernel
theorem d_C_init_5 : decode b_C_init 5 = .ok (.bipush 8, 2) := by decide +kernel
theorem d_C_init_7 : decode b_C_init 7 = .ok (.newarray .long, 2) := by decide +kernel
theorem d_C_init_9 : decode b_C_init 9 = .ok (.putfield 9, 3) := by decide +kernel
theorem d_C_init_12 : decode b_C_init 12 = .ok (.aload_n 0, 1) := by decide +kernel
theorem d_C_init_13 : decode b_C_init 13 = .ok (.bipush 8, 2) := by decide +kernel
theorem d_C_init_15 : decode b_C_init 15 = .ok (.newarray .long, 2) := by decide +kernel
theorem d_C_init_17 : decode b_C_init 17 = .ok (.putfield 15, 3) := by decide +kernel
theorem d_C_init_20 : decode b_C_init 20 = .ok (.aload_n 0, 1) := by decide +kernel
theorem d_C_init_21 : decode b_C_init 21 = .ok (.bipush 8, 2) := by decide +kernel
theorem d_C_init_23 : decode b_C_init 23 = .ok (.newarray .long, 2) := by decide +kernel
theorem d_C_init_25 : decode b_C_init 25 = .ok (.putfield 18, 3) := by decide +kernel
theorem d_C_init_28 : decode b_C_init 28 = .ok (.aload_n 0, 1) := by decide +kernel
theorem d_C_init_29 : decode b_C_init 29 = .ok (.bipush 8, 2) := by decide +kernel
theorem d_C_init_31 : decode b_C_init 31 = .ok (.newarray .long, 2) := by decide +kernel
theorem d_C_init_33 : decode b_C_init 33 = .ok (.putfield 21, 3) := by decide +kernel
theorem d_C_init_36 : decode b_C_init 36 = .ok (.aload_n 0, 1) := by decide +kernel
theorem d_C_init_37 : decode b_C_init 37 = .ok (.bipush 8, 2) := by decide +kernel
theorem d_C_init_39 : decode b_C_init 39 = .ok (.newarray .long, 2) := by decide +kernel
theorem d_C_init_41 : decode b_C_init 41 = .ok (.putfield 24, 3) := by decide +kernel
theorem d_C_init_44 : decode b_C_init 44 = .ok (.aload_n 0, 1) := by decide +kernel
theorem d_C_init_45 : decode b_C_init 45 = .ok (.bipush 8, 2) := by decide +kernel
theorem d_C_init_47 : decode b_C_init 47 = .ok (.newarray .long, 2) := by decide +kernel
theorem d_C_init_49 : decode b_C_init 49 = .ok (.putfield 27, 3) := by decide +kernel
theorem d_C_init_52 : decode b_C_init 52 = .ok (.aload_n 0, 1) := by decide +kernel
theorem d_C_init_53 : decode b_C_init 53 = .ok (.aload_n 1, 1) := by decide +kernel
theorem d_C_init_54 : decode b_C_init 54 = .ok (.putfield 30, 3) := by decide +kernel
theorem d_C_init_57 : decode b_C_init 57 = .ok (.return_, 1) := by decide +kernel
theorem d_C_isPoint_0 : decode b_C_isPoint 0 = .ok (.aload_n 0, 1) := by decide +kernel
theorem d_C_isPoint_1 : decode b_C_isPoint 1 = .ok (.getfield 30, 3) := by decide +kernel
theorem d_C_isPoint_4 : decode b_C_isPoint 4 = .ok (.aload_n 1, 1) := by decide +kernel
theorem d_C_isPoint_5 : decode b_C_isPoint 5 = .ok (.invokevirtual 34, 3) := by decide +kernel
theorem d_C_isPoint_8 : decode b_C_isPoint 8 = .ok (.ifCond .eq 14, 3) := by decide +kernel
theorem d_C_isPoint_11 : decode b_C_isPoint 11 = .ok (.aload_n 0, 1) := by decide +kernel
theorem d_C_isPoint_12 : decode b_C_isPoint 12 = .ok (.getfield 30, 3) := by decide +kernel
theorem d_C_isPoint_15 : decode b_C_isPoint 15 = .ok (.aload_n 2, 1) := by decide +kernel
theorem d_C_isPoint_16 : decode b_C_isPoint 16 = .ok (.invokevirtual 34, 3) := by decide +kernel
theorem d_C_isPoint_19 : decode b_C_isPoint 19 = .ok (.ifCond .ne 5, 3) := by decide +kernel
theorem d_C_isPoint_22 : decode b_C_isPoint 22 = .ok (.iconst 0, 1) := by decide +kernel
theorem d_C_isPoint_23 : decode b_C_isPoint 23 = .ok (.ireturn, 1) := by decide +kernel
theorem d_C_isPoint_24 : decode b_C_isPoint 24 = .ok (.aload_n 0, 1) := by decide +kernel
theorem d_C_isPoint_25 : decode b_C_isPoint 25 = .ok (.aload_n 0, 1) := by decide +kernel
theorem d_C_isPoint_26 : decode b_C_isPoint 26 = .ok (.getfield 21, 3) := by decide +kernel
theorem d_C_isPoint_29 : decode b_C_isPoint 29 = .ok (.aload_n 1, 1) := by decide +kernel
theorem d_C_isPoint_30 : decode b_C_isPoint 30 = .ok (.invokevirtual 40, 3) := by decide +kernel
theorem d_C_isPoint_33 : decode b_C_isPoint 33 = .ok (.aload_n 0, 1) := by decide +kernel
theorem d_C_isPoint_34 : decode b_C_isPoint 34 = .ok (.getfield 30, 3) := by decide +kernel
theorem d_C_isPoint_37 : decode b_C_isPoint 37 = .ok (.aload_n 0, 1) := by decide +kernel
theorem d_C_isPoint_38 : decode b_C_isPoint 38 = .ok (.getfield 24, 3) := by decide +kernel
theorem d_C_isPoint_41 : decode b_C_isPoint 41 = .ok (.aload_n 2, 1) := by decide +kernel
theorem d_C_isPoint_42 : decode b_C_isPoint 42 = .ok (.aload_n 2, 1) := by decide +kernel
theorem d_C_isPoint_43 : decode b_C_isPoint 43 = .ok (.invokevirtual 44, 3) := by decide +kernel
theorem d_C_isPoint_46 : decode b_C_isPoint 46 = .ok (.aload_n 0, 1) := by decide +kernel
theorem d_C_isPoint_47 : decode b_C_isPoint 47 = .ok (.getfield 21, 3) := by decide +kernel
theorem d_C_isPoint_50 : decode b_C_isPoint 50 = .ok (.aload_n 0, 1) := by decide +kernel
theorem d_C_isPoint_51 : decode b_C_isPoint 51 = .ok (.getfield 24, 3) := by decide +kernel
theorem d_C_isPoint_54 : decode b_C_isPoint 54 = .ok (.invokestatic 48, 3) := by decide +kernel
theorem d_C_isPoint_57 : decode b_C_isPoint 57 = .ok (.ireturn, 1) := by decide +kernel
theorem d_C_findSquareOfY_0 : decode b_C_findSquareOfY 0 = .ok (.aload_n 0, 1) := by decide +kernel
theorem d_C_findSquareOfY_1 : decode b_C_findSquareOfY 1 = .ok (.getfield 30, 3) := by decide +kernel
theorem d_C_findSquareOfY_4 : decode b_C_findSquareOfY 4 = .ok (.aload_n 0, 1) := by decide +kernel
theorem d_C_findSquareOfY_5 : decode b_C_findSquareOfY 5 = .ok (.getfield 27, 3) := by decide +kernel
theorem d_C_findSquareOfY_8 : decode b_C_findSquareOfY 8 = .ok (.aload_n 2, 1) := by decide +kernel
theorem d_C_findSquareOfY_9 : decode b_C_findSquareOfY 9 = .ok (.aload_n 2, 1) := by decide +kernel
theorem d_C_findSquareOfY_10 : decode b_C_findSquareOfY 10 = .ok (.invokevirtual 44, 3) := by decide +kernel
theorem d_C_findSquareOfY_13 : decode b_C_findSquareOfY 13 = .ok (.aload_n 0, 1) := by decide +kernel
theorem d_C_findSquareOfY_14 : decode b_C_findSquareOfY 14 = .ok (.getfield 30, 3) := by decide +kernel
theorem d_C_findSquareOfY_17 : decode b_C_findSquareOfY 17 = .ok (.aload_n 0, 1) := by decide +kernel
theorem d_C_findSquareOfY_18 : decode b_C_findSquareOfY 18 = .ok (.getfield 27, 3) := by decide +kernel
theorem d_C_findSquareOfY_21 : decode b_C_findSquareOfY 21 = .ok (.aload_n 0, 1) := by decide +kernel
theorem d_C_findSquareOfY_22 : decode b_C_findSquareOfY 22 = .ok (.getfield 27, 3) := by decide +kernel
theorem d_C_findSquareOfY_25 : decode b_C_findSquareOfY 25 = .ok (.aload_n 2, 1) := by decide +kernel
theorem d_C_findSquareOfY_26 : decode b_C_findSquareOfY 26 = .ok (.invokevirtual 44, 3) := by decide +kernel
theorem d_C_findSquareOfY_29 : decode b_C_findSquareOfY 29 = .ok (.aload_n 0, 1) := by decide +kernel
theorem d_C_findSquareOfY_30 : decode b_C_findSquareOfY 30 = .ok (.getfield 30, 3) := by decide +kernel
theorem d_C_findSquareOfY_33 : decode b_C_findSquareOfY 33 = .ok (.aload_n 1, 1) := by decide +kernel
theorem d_C_findSquareOfY_34 : decode b_C_findSquareOfY 34 = .ok (.aload_n 0, 1) := by decide +kernel
theorem d_C_findSquareOfY_35 : decode b_C_findSquareOfY 35 = .ok (.getfield 27, 3) := by decide +kernel
theorem d_C_findSquareOfY_38 : decode b_C_findSquareOfY 38 = .ok (.getstatic 54, 3) := by decide +kernel
theorem d_C_findSquareOfY_41 : decode b_C_findSquareOfY 41 = .ok (.invokevirtual 57, 3) := by decide +kernel
theorem d_C_findSquareOfY_44 : decode b_C_findSquareOfY 44 = .ok (.return_, 1) := by decide +kernel
theorem d_C_findEvenRoot_0 : decode b_C_findEvenRoot 0 = .ok (.aload_n 0, 1) := by decide +kernel
theorem d_C_findEvenRoot_1 : decode b_C_findEvenRoot 1 = .ok (.getfield 30, 3) := by decide +kernel
theorem d_C_findEvenRoot_4 : decode b_C_findEvenRoot 4 = .ok (.aload_n 0, 1) := by decide +kernel
theorem d_C_findEvenRoot_5 : decode b_C_findEvenRoot 5 = .ok (.getfield 21, 3) := by decide +kernel
theorem d_C_findEvenRoot_8 : decode b_C_findEvenRoot 8 = .ok (.aload_n 2, 1) := by decide +kernel
theorem d_C_findEvenRoot_9 : decode b_C_findEvenRoot 9 = .ok (.getstatic 60, 3) := by decide +kernel
theorem d_C_findEvenRoot_12 : decode b_C_findEvenRoot 12 = .ok (.invokevirtual 63, 3) := by decide +kernel
theorem d_C_findEvenRoot_15 : decode b_C_findEvenRoot 15 = .ok (.aload_n 0, 1) := by decide +kernel
theorem d_C_findEvenRoot_16 : decode b_C_findEvenRoot 16 = .ok (.getfield 30, 3) := by decide +kernel
theorem d_C_findEvenRoot_19 : decode b_C_findEvenRoot 19 = .ok (.aload_n 0, 1) := by decide +kernel
theorem d_C_findEvenRoot_20 : decode b_C_findEvenRoot 20 = .ok (.getfield 24, 3) := by decide +kernel
theorem d_C_findEvenRoot_23 : decode b_C_findEvenRoot 23 = .ok (.aload_n 0, 1) := by decide +kernel
theorem d_C_findEvenRoot_24 : decode b_C_findEvenRoot 24 = .ok (.getfield 21, 3) := by decide +kernel
theorem d_C_findEvenRoot_27 : decode b_C_findEvenRoot 27 = .ok (.aload_n 0, 1) := by decide +kernel
theorem d_C_findEvenRoot_28 : decode b_C_findEvenRoot 28 = .ok (.getfield 21, 3) := by decide +kernel
theorem d_C_findEvenRoot_31 : decode b_C_findEvenRoot 31 = .ok (.invokevirtual 44, 3) := by decide +kernel
theorem d_C_findEvenRoot_34 : decode b_C_findEvenRoot 34 = .ok (.aload_n 0, 1) := by decide +kernel
theorem d_C_findEvenRoot_35 : decode b_C_findEvenRoot 35 = .ok (.getfield 24, 3) := by decide +kernel
theorem d_C_findEvenRoot_38 : decode b_C_findEvenRoot 38 = .ok (.aload_n 2, 1) := by decide +kernel
theorem d_C_findEvenRoot_39 : decode b_C_findEvenRoot 39 = .ok (.invokestatic 48, 3) := by decide +kernel
theorem d_C_findEvenRoot_42 : decode b_C_findEvenRoot 42 = .ok (.ifCond .ne 5, 3) := by decide +kernel
theorem d_C_findEvenRoot_45 : decode b_C_findEvenRoot 45 = .ok (.iconst 0, 1) := by decide +kernel
theorem d_C_findEvenRoot_46 : decode b_C_findEvenRoot 46 = .ok (.ireturn, 1) := by decide +kernel
theorem d_C_findEvenRoot_47 : decode b_C_findEvenRoot 47 = .ok (.aload_n 0, 1) := by decide +kernel
theorem d_C_findEvenRoot_48 : decode b_C_findEvenRoot 48 = .ok (.getfield 21, 3) := by decide +kernel
theorem d_C_findEvenRoot_51 : decode b_C_findEvenRoot 51 = .ok (.invokestatic 66, 3) := by decide +kernel
theorem d_C_findEvenRoot_54 : decode b_C_findEvenRoot 54 = .ok (.ifCond .eq 21, 3) := by decide +kernel
theorem d_C_findEvenRoot_57 : decode b_C_findEvenRoot 57 = .ok (.aload_n 0, 1) := by decide +kernel
theorem d_C_findEvenRoot_58 : decode b_C_findEvenRoot 58 = .ok (.getfield 30, 3) := by decide +kernel
theorem d_C_findEvenRoot_61 : decode b_C_findEvenRoot 61 = .ok (.aload_n 0, 1) := by decide +kernel
theorem d_C_findEvenRoot_62 : decode b_C_findEvenRoot 62 = .ok (.getfield 21, 3) := by decide +kernel
theorem d_C_findEvenRoot_65 : decode b_C_findEvenRoot 65 = .ok (.getstatic 69, 3) := by decide +kernel
theorem d_C_findEvenRoot_68 : decode b_C_findEvenRoot 68 = .ok (.aload_n 0, 1) := by decide +kernel
theorem d_C_findEvenRoot_69 : decode b_C_findEvenRoot 69 = .ok (.getfield 21, 3) := by decide +kernel
theorem d_C_findEvenRoot_72 : decode b_C_findEvenRoot 72 = .ok (.invokevirtual 72, 3) := by decide +kernel
theorem d_C_findEvenRoot_75 : decode b_C_findEvenRoot 75 = .ok (.aload_n 1, 1) := by decide +kernel
theorem d_C_findEvenRoot_76 : decode b_C_findEvenRoot 76 = .ok (.aload_n 0, 1) := by decide +kernel
theorem d_C_findEvenRoot_77 : decode b_C_findEvenRoot 77 = .ok (.getfield 21, 3) := by decide +kernel
theorem d_C_findEvenRoot_80 : decode b_C_findEvenRoot 80 = .ok (.invokestatic 75, 3) := by decide +kernel
theorem d_C_findEvenRoot_83 : decode b_C_findEvenRoot 83 = .ok (.iconst 1, 1) := by decide +kernel
theorem d_C_findEvenRoot_84 : decode b_C_findEvenRoot 84 = .ok (.ireturn, 1) := by decide +kernel
theorem d_C_addTwo_0 : decode b_C_addTwo 0 = .ok (.aload_n 0, 1) := by decide +kernel
theorem d_C_addTwo_1 : decode b_C_addTwo 1 = .ok (.invokevirtual 78, 3) := by decide +kernel
theorem d_C_addTwo_4 : decode b_C_addTwo 4 = .ok (.aload_n 0, 1) := by decide +kernel
theorem d_C_addTwo_5 : decode b_C_addTwo 5 = .ok (.aload_n 2, 1) := by decide +kernel
theorem d_C_addTwo_6 : decode b_C_addTwo 6 = .ok (.invokevirtual 81, 3) := by decide +kernel
theorem d_C_addTwo_9 : decode b_C_addTwo 9 = .ok (.aload_n 0, 1) := by decide +kernel
theorem d_C_addTwo_10 : decode b_C_addTwo 10 = .ok (.aload_n 3, 1) := by decide +kernel
theorem d_C_addTwo_11 : decode b_C_addTwo 11 = .ok (.invokevirtual 81, 3) := by decide +kernel
theorem d_C_addTwo_14 : decode b_C_addTwo 14 = .ok (.aload_n 0, 1) := by decide +kernel
theorem d_C_addTwo_15 : decode b_C_addTwo 15 = .ok (.aload_n 1, 1) := by decide +kernel
theorem d_C_addTwo_16 : decode b_C_addTwo 16 = .ok (.invokevirtual 85, 3) := by decide +kernel
theorem d_C_addTwo_19 : decode b_C_addTwo 19 = .ok (.return_, 1) := by decide +kernel
theorem d_C_addMultiples_0 : decode b_C_addMultiples 0 = .ok (.aload_n 0, 1) := by decide +kernel
theorem d_C_addMultiples_1 : decode b_C_addMultiples 1 = .ok (.invokevirtual 78, 3) := by decide +kernel
theorem d_C_addMultiples_4 : decode b_C_addMultiples 4 = .ok (.sipush 255, 3) := by decide +kernel
theorem d_C_addMultiples_7 : decode b_C_addMultiples 7 = .ok (.istore 6, 2) := by decide +kernel
theorem d_C_addMultiples_9 : decode b_C_addMultiples 9 = .ok (.iload 6, 2) := by decide +kernel
theorem d_C_addMultiples_11 : decode b_C_addMultiples 11 = .ok (.ifCond .lt 43, 3) := by decide +kernel
theorem d_C_addMultiples_14 : decode b_C_addMultiples 14 = .ok (.aload_n 0, 1) := by decide +kernel
theorem d_C_addMultiples_15 : decode b_C_addMultiples 15 = .ok (.invokevirtual 88, 3) := by decide +kernel
theorem d_C_addMultiples_18 : decode b_C_addMultiples 18 = .ok (.aload_n 2, 1) := by decide +kernel
theorem d_C_addMultiples_19 : decode b_C_addMultiples 19 = .ok (.iload 6, 2) := by decide +kernel
theorem d_C_addMultiples_21 : decode b_C_addMultiples 21 = .ok (.invokestatic 91, 3) := by decide +kernel
theorem d_C_addMultiples_24 : decode b_C_addMultiples 24 = .ok (.ifCond .eq 8, 3) := by decide +kernel
theorem d_C_addMultiples_27 : decode b_C_addMultiples 27 = .ok (.aload_n 0, 1) := by decide +kernel
theorem d_C_addMultiples_28 : decode b_C_addMultiples 28 = .ok (.aload_n 3, 1) := by decide +kernel
theorem d_C_addMultiples_29 : decode b_C_addMultiples 29 = .ok (.invokevirtual 81, 3) := by decide +kernel
theorem d_C_addMultiples_32 : decode b_C_addMultiples 32 = .ok (.aload 4, 2) := by decide +kernel
theorem d_C_addMultiples_34 : decode b_C_addMultiples 34 = .ok (.iload 6, 2) := by decide +kernel
theorem d_C_addMultiples_36 : decode b_C_addMultiples 36 = .ok (.invokestatic 91, 3) := by decide +kernel
theorem d_C_addMultiples_39 : decode b_C_addMultiples 39 = .ok (.ifCond .eq 9, 3) := by decide +kernel
theorem d_C_addMultiples_42 : decode b_C_addMultiples 42 = .ok (.aload_n 0, 1) := by decide +kernel
theorem d_C_addMultiples_43 : decode b_C_addMultiples 43 = .ok (.aload 5, 2) := by decide +kernel
theorem d_C_addMultiples_45 : decode b_C_addMultiples 45 = .ok (.invokevirtual 81, 3) := by decide +kernel
theorem d_C_addMultiples_48 : decode b_C_addMultiples 48 = .ok (.iinc 6 (-1), 3) := by decide +kernel
theorem d_C_addMultiples_51 : decode b_C_addMultiples 51 = .ok (.goto (-42), 3) := by decide +kernel
theorem d_C_addMultiples_54 : decode b_C_addMultiples 54 = .ok (.aload_n 0, 1) := by decide +kernel
theorem d_C_addMultiples_55 : decode b_C_addMultiples 55 = .ok (.aload_n 1, 1) := by decide +kernel
theorem d_C_addMultiples_56 : decode b_C_addMultiples 56 = .ok (.invokevirtual 85, 3) := by decide +kernel
theorem d_C_addMultiples_59 : decode b_C_addMultiples 59 = .ok (.return_, 1) := by decide +kernel
theorem d_C_startSum_0 : decode b_C_startSum 0 = .ok (.aload_n 0, 1) := by decide +kernel
theorem d_C_startSum_1 : decode b_C_startSum 1 = .ok (.getfield 18, 3) := by decide +kernel
theorem d_C_startSum_4 : decode b_C_startSum 4 = .ok (.getstatic 69, 3) := by decide +kernel
theorem d_C_startSum_7 : decode b_C_startSum 7 = .ok (.invokestatic 75, 3) := by decide +kernel
theorem d_C_startSum_10 : decode b_C_startSum 10 = .ok (.return_, 1) := by decide +kernel
theorem d_C_include_0 : decode b_C_include 0 = .ok (.aload_n 1, 1) := by decide +kernel
theorem d_C_include_1 : decode b_C_include 1 = .ok (.getfield 95, 3) := by decide +kernel
theorem d_C_include_4 : decode b_C_include 4 = .ok (.ifCond .eq 4, 3) := by decide +kernel
theorem d_C_include_7 : decode b_C_include 7 = .ok (.return_, 1) := by decide +kernel
theorem d_C_include_8 : decode b_C_include 8 = .ok (.aload_n 0, 1) := by decide +kernel
theorem d_C_include_9 : decode b_C_include 9 = .ok (.getfield 18, 3) := by decide +kernel
theorem d_C_include_12 : decode b_C_include 12 = .ok (.invokestatic 101, 3) := by decide +kernel
theorem d_C_include_15 : decode b_C_include 15 = .ok (.ifCond .eq 36, 3) := by decide +kernel
theorem d_C_include_18 : decode b_C_include 18 = .ok (.aload_n 0, 1) := by decide +kernel
theorem d_C_include_19 : decode b_C_include 19 = .ok (.getfield 9, 3) := by decide +kernel
theorem d_C_include_22 : decode b_C_include 22 = .ok (.aload_n 1, 1) := by decide +kernel
theorem d_C_include_23 : decode b_C_include 23 = .ok (.getfield 104, 3) := by decide +kernel
theorem d_C_include_26 : decode b_C_include 26 = .ok (.invokestatic 75, 3) := by decide +kernel
theorem d_C_include_29 : decode b_C_include 29 = .ok (.aload_n 0, 1) := by decide +kernel
theorem d_C_include_30 : decode b_C_include 30 = .ok (.getfield 15, 3) := by decide +kernel
theorem d_C_include_33 : decode b_C_include 33 = .ok (.aload_n 1, 1) := by decide +kernel
theorem d_C_include_34 : decode b_C_include 34 = .ok (.getfield 105, 3) := by decide +kernel
theorem d_C_include_37 : decode b_C_include 37 = .ok (.invokestatic 75, 3) := by decide +kernel
theorem d_C_include_40 : decode b_C_include 40 = .ok (.aload_n 0, 1) := by decide +kernel
theorem d_C_include_41 : decode b_C_include 41 = .ok (.getfield 18, 3) := by decide +kernel
theorem d_C_include_44 : decode b_C_include 44 = .ok (.getstatic 106, 3) := by decide +kernel
theorem d_C_include_47 : decode b_C_include 47 = .ok (.invokestatic 75, 3) := by decide +kernel
theorem d_C_include_50 : decode b_C_include 50 = .ok (.return_, 1) := by decide +kernel
theorem d_C_include_51 : decode b_C_include 51 = .ok (.aload_n 0, 1) := by decide +kernel
theorem d_C_include_52 : decode b_C_include 52 = .ok (.aload_n 1, 1) := by decide +kernel
theorem d_C_include_53 : decode b_C_include 53 = .ok (.invokevirtual 109, 3) := by decide +kernel
theorem d_C_include_56 : decode b_C_include 56 = .ok (.aload_n 0, 1) := by decide +kernel
theorem d_C_include_57 : decode b_C_include 57 = .ok (.getfield 24, 3) := by decide +kernel
theorem d_C_include_60 : decode b_C_include 60 = .ok (.invokestatic 101, 3) := by decide +kernel
theorem d_C_include_63 : decode b_C_include 63 = .ok (.ifCond .ne 10, 3) := by decide +kernel
theorem d_C_include_66 : decode b_C_include 66 = .ok (.aload_n 0, 1) := by decide +kernel
theorem d_C_include_67 : decode b_C_include 67 = .ok (.invokevirtual 112, 3) := by decide +kernel
theorem d_C_include_70 : decode b_C_include 70 = .ok (.goto 24, 3) := by decide +kernel
theorem d_C_include_73 : decode b_C_include 73 = .ok (.aload_n 0, 1) := by decide +kernel
theorem d_C_include_74 : decode b_C_include 74 = .ok (.getfield 27, 3) := by decide +kernel
theorem d_C_include_77 : decode b_C_include 77 = .ok (.invokestatic 101, 3) := by decide +kernel
theorem d_C_include_80 : decode b_C_include 80 = .ok (.ifCond .eq 10, 3) := by decide +kernel
theorem d_C_include_83 : decode b_C_include 83 = .ok (.aload_n 0, 1) := by decide +kernel
theorem d_C_include_84 : decode b_C_include 84 = .ok (.invokevirtual 88, 3) := by decide +kernel
theorem d_C_include_87 : decode b_C_include 87 = .ok (.goto 7, 3) := by decide +kernel
theorem d_C_include_90 : decode b_C_include 90 = .ok (.aload_n 0, 1) := by decide +kernel
theorem d_C_include_91 : decode b_C_include 91 = .ok (.invokevirtual 78, 3) := by decide +kernel
theorem d_C_include_94 : decode b_C_include 94 = .ok (.return_, 1) := by decide +kernel
theorem d_C_findDifferences_0 : decode b_C_findDifferences 0 = .ok (.aload_n 0, 1) := by decide +kernel
theorem d_C_findDifferences_1 : decode b_C_findDifferences 1 = .ok (.getfield 30, 3) := by decide +kernel
theorem d_C_findDifferences_4 : decode b_C_findDifferences 4 = .ok (.aload_n 0, 1) := by decide +kernel
theorem d_C_findDifferences_5 : decode b_C_findDifferences 5 = .ok (.getfield 21, 3) := by decide +kernel
theorem d_C_findDifferences_8 : decode b_C_findDifferences 8 = .ok (.aload_n 0, 1) := by decide +kernel
theorem d_C_findDifferences_9 : decode b_C_findDifferences 9 = .ok (.getfield 18, 3) := by decide +kernel
theorem d_C_findDifferences_12 : decode b_C_findDifferences 12 = .ok (.aload_n 0, 1) := by decide +kernel
theorem d_C_findDifferences_13 : decode b_C_findDifferences 13 = .ok (.getfield 18, 3) := by decide +kernel
theorem d_C_findDifferences_16 : decode b_C_findDifferences 16 = .ok (.invokevirtual 44, 3) := by decide +kernel
theorem d_C_findDifferences_19 : decode b_C_findDifferences 19 = .ok (.aload_n 0, 1) := by decide +kernel
theorem d_C_findDifferences_20 : decode b_C_findDifferences 20 = .ok (.getfield 30, 3) := by decide +kernel
theorem d_C_findDifferences_23 : decode b_C_findDifferences 23 = .ok (.aload_n 0, 1) := by decide +kernel
theorem d_C_findDifferences_24 : decode b_C_findDifferences 24 = .ok (.getfield 24, 3) := by decide +kernel
theorem d_C_findDifferences_27 : decode b_C_findDifferences 27 = .ok (.aload_n 1, 1) := by decide +kernel
theorem d_C_findDifferences_28 : decode b_C_findDifferences 28 = .ok (.getfield 104, 3) := by decide +kernel
theorem d_C_findDifferences_31 : decode b_C_findDifferences 31 = .ok (.aload_n 0, 1) := by decide +kernel
theorem d_C_findDifferences_32 : decode b_C_findDifferences 32 = .ok (.getfield 21, 3) := by decide +kernel
theorem d_C_findDifferences_35 : decode b_C_findDifferences 35 = .ok (.invokevirtual 44, 3) := by decide +kernel
theorem d_C_findDifferences_38 : decode b_C_findDifferences 38 = .ok (.aload_n 0, 1) := by decide +kernel
theorem d_C_findDifferences_39 : decode b_C_findDifferences 39 = .ok (.getfield 30, 3) := by decide +kernel
theorem d_C_findDifferences_42 : decode b_C_findDifferences 42 = .ok (.aload_n 0, 1) := by decide +kernel
theorem d_C_findDifferences_43 : decode b_C_findDifferences 43 = .ok (.getfield 21, 3) := by decide +kernel
theorem d_C_findDifferences_46 : decode b_C_findDifferences 46 = .ok (.aload_n 0, 1) := by decide +kernel
theorem d_C_findDifferences_47 : decode b_C_findDifferences 47 = .ok (.getfield 21, 3) := by decide +kernel
theorem d_C_findDifferences_50 : decode b_C_findDifferences 50 = .ok (.aload_n 0, 1) := by decide +kernel
theorem d_C_findDifferences_51 : decode b_C_findDifferences 51 = .ok (.getfield 18, 3) := by decide +kernel
theorem d_C_findDifferences_54 : decode b_C_findDifferences 54 = .ok (.invokevirtual 44, 3) := by decide +kernel
theorem d_C_findDifferences_57 : decode b_C_findDifferences 57 = .ok (.aload_n 0, 1) := by decide +kernel
theorem d_C_findDifferences_58 : decode b_C_findDifferences 58 = .ok (.getfield 30, 3) := by decide +kernel
theorem d_C_findDifferences_61 : decode b_C_findDifferences 61 = .ok (.aload_n 0, 1) := by decide +kernel
theorem d_C_findDifferences_62 : decode b_C_findDifferences 62 = .ok (.getfield 27, 3) := by decide +kernel
theorem d_C_findDifferences_65 : decode b_C_findDifferences 65 = .ok (.aload_n 1, 1) := by decide +kernel
theorem d_C_findDifferences_66 : decode b_C_findDifferences 66 = .ok (.getfield 105, 3) := by decide +kernel
theorem d_C_findDifferences_69 : decode b_C_findDifferences 69 = .ok (.aload_n 0, 1) := by decide +kernel
theorem d_C_findDifferences_70 : decode b_C_findDifferences 70 = .ok (.getfield 21, 3) := by decide +kernel
theorem d_C_findDifferences_73 : decode b_C_findDifferences 73 = .ok (.invokevirtual 44, 3) := by decide +kernel
theorem d_C_findDifferences_76 : decode b_C_findDifferences 76 = .ok (.aload_n 0, 1) := by decide +kernel
theorem d_C_findDifferences_77 : decode b_C_findDifferences 77 = .ok (.getfield 30, 3) := by decide +kernel
theorem d_C_findDifferences_80 : decode b_C_findDifferences 80 = .ok (.aload_n 0, 1) := by decide +kernel
theorem d_C_findDifferences_81 : decode b_C_findDifferences 81 = .ok (.getfield 24, 3) := by decide +kernel
theorem d_C_findDifferences_84 : decode b_C_findDifferences 84 = .ok (.aload_n 0, 1) := by decide +kernel
theorem d_C_findDifferences_85 : decode b_C_findDifferences 85 = .ok (.getfield 24, 3) := by decide +kernel
theorem d_C_findDifferences_88 : decode b_C_findDifferences 88 = .ok (.aload_n 0, 1) := by decide +kernel
theorem d_C_findDifferences_89 : decode b_C_findDifferences 89 = .ok (.getfield 9, 3) := by decide +kernel
theorem d_C_findDifferences_92 : decode b_C_findDifferences 92 = .ok (.invokevirtual 72, 3) := by decide +kernel
theorem d_C_findDifferences_95 : decode b_C_findDifferences 95 = .ok (.aload_n 0, 1) := by decide +kernel
theorem d_C_findDifferences_96 : decode b_C_findDifferences 96 = .ok (.getfield 30, 3) := by decide +kernel
theorem d_C_findDifferences_99 : decode b_C_findDifferences 99 = .ok (.aload_n 0, 1) := by decide +kernel
theorem d_C_findDifferences_100 : decode b_C_findDifferences 100 = .ok (.getfield 27, 3) := by decide +kernel
theorem d_C_findDifferences_103 : decode b_C_findDifferences 103 = .ok (.aload_n 0, 1) := by decide +kernel
theorem d_C_findDifferences_104 : decode b_C_findDifferences 104 = .ok (.getfield 27, 3) := by decide +kernel
theorem d_C_findDifferences_107 : decode b_C_findDifferences 107 = .ok (.aload_n 0, 1) := by decide +kernel
theorem d_C_findDifferences_108 : decode b_C_findDifferences 108 = .ok (.getfield 15, 3) := by decide +kernel
theorem d_C_findDifferences_111 : decode b_C_findDifferences 111 = .ok (.invokevirtual 72, 3) := by decide +kernel
theorem d_C_findDifferences_114 : decode b_C_findDifferences 114 = .ok (.return_, 1) := by decide +kernel
theorem d_C_moveAlongLine_0 : decode b_C_moveAlongLine 0 = .ok (.aload_n 0, 1) := by decide +kernel
theorem d_C_moveAlongLine_1 : decode b_C_moveAlongLine 1 = .ok (.getfield 30, 3) := by decide +kernel
theorem d_C_moveAlongLine_4 : decode b_C_moveAlongLine 4 = .ok (.aload_n 0, 1) := by decide +kernel
theorem d_C_moveAlongLine_5 : decode b_C_moveAlongLine 5 = .ok (.getfield 18, 3) := by decide +kernel
theorem d_C_moveAlongLine_8 : decode b_C_moveAlongLine 8 = .ok (.aload_n 0, 1) := by decide +kernel
theorem d_C_moveAlongLine_9 : decode b_C_moveAlongLine 9 = .ok (.getfield 18, 3) := by decide +kernel
theorem d_C_moveAlongLine_12 : decode b_C_moveAlongLine 12 = .ok (.aload_n 0, 1) := by decide +kernel
theorem d_C_moveAlongLine_13 : decode b_C_moveAlongLine 13 = .ok (.getfield 24, 3) := by decide +kernel
theorem d_C_moveAlongLine_16 : decode b_C_moveAlongLine 16 = .ok (.invokevirtual 44, 3) := by decide +kernel
theorem d_C_moveAlongLine_19 : decode b_C_moveAlongLine 19 = .ok (.aload_n 0, 1) := by decide +kernel
theorem d_C_moveAlongLine_20 : decode b_C_moveAlongLine 20 = .ok (.getfield 30, 3) := by decide +kernel
theorem d_C_moveAlongLine_23 : decode b_C_moveAlongLine 23 = .ok (.aload_n 0, 1) := by decide +kernel
theorem d_C_moveAlongLine_24 : decode b_C_moveAlongLine 24 = .ok (.getfield 21, 3) := by decide +kernel
theorem d_C_moveAlongLine_27 : decode b_C_moveAlongLine 27 = .ok (.aload_n 0, 1) := by decide +kernel
theorem d_C_moveAlongLine_28 : decode b_C_moveAlongLine 28 = .ok (.getfield 24, 3) := by decide +kernel
theorem d_C_moveAlongLine_31 : decode b_C_moveAlongLine 31 = .ok (.aload_n 0, 1) := by decide +kernel
theorem d_C_moveAlongLine_32 : decode b_C_moveAlongLine 32 = .ok (.getfield 24, 3) := by decide +kernel
theorem d_C_moveAlongLine_35 : decode b_C_moveAlongLine 35 = .ok (.invokevirtual 44, 3) := by decide +kernel
theorem d_C_moveAlongLine_38 : decode b_C_moveAlongLine 38 = .ok (.aload_n 0, 1) := by decide +kernel
theorem d_C_moveAlongLine_39 : decode b_C_moveAlongLine 39 = .ok (.getfield 30, 3) := by decide +kernel
theorem d_C_moveAlongLine_42 : decode b_C_moveAlongLine 42 = .ok (.aload_n 0, 1) := by decide +kernel
theorem d_C_moveAlongLine_43 : decode b_C_moveAlongLine 43 = .ok (.getfield 24, 3) := by decide +kernel
theorem d_C_moveAlongLine_46 : decode b_C_moveAlongLine 46 = .ok (.aload_n 0, 1) := by decide +kernel
theorem d_C_moveAlongLine_47 : decode b_C_moveAlongLine 47 = .ok (.getfield 21, 3) := by decide +kernel
theorem d_C_moveAlongLine_50 : decode b_C_moveAlongLine 50 = .ok (.aload_n 0, 1) := by decide +kernel
theorem d_C_moveAlongLine_51 : decode b_C_moveAlongLine 51 = .ok (.getfield 24, 3) := by decide +kernel
theorem d_C_moveAlongLine_54 : decode b_C_moveAlongLine 54 = .ok (.invokevirtual 44, 3) := by decide +kernel
theorem d_C_moveAlongLine_57 : decode b_C_moveAlongLine 57 = .ok (.aload_n 0, 1) := by decide +kernel
theorem d_C_moveAlongLine_58 : decode b_C_moveAlongLine 58 = .ok (.getfield 30, 3) := by decide +kernel
theorem d_C_moveAlongLine_61 : decode b_C_moveAlongLine 61 = .ok (.aload_n 0, 1) := by decide +kernel
theorem d_C_moveAlongLine_62 : decode b_C_moveAlongLine 62 = .ok (.getfield 21, 3) := by decide +kernel
theorem d_C_moveAlongLine_65 : decode b_C_moveAlongLine 65 = .ok (.aload_n 0, 1) := by decide +kernel
theorem d_C_moveAlongLine_66 : decode b_C_moveAlongLine 66 = .ok (.getfield 21, 3) := by decide +kernel
theorem d_C_moveAlongLine_69 : decode b_C_moveAlongLine 69 = .ok (.aload_n 0, 1) := by decide +kernel
theorem d_C_moveAlongLine_70 : decode b_C_moveAlongLine 70 = .ok (.getfield 9, 3) := by decide +kernel
theorem d_C_moveAlongLine_73 : decode b_C_moveAlongLine 73 = .ok (.invokevirtual 44, 3) := by decide +kernel
theorem d_C_moveAlongLine_76 : decode b_C_moveAlongLine 76 = .ok (.aload_n 0, 1) := by decide +kernel
theorem d_C_moveAlongLine_77 : decode b_C_moveAlongLine 77 = .ok (.getfield 30, 3) := by decide +kernel
theorem d_C_moveAlongLine_80 : decode b_C_moveAlongLine 80 = .ok (.aload_n 0, 1) := by decide +kernel
theorem d_C_moveAlongLine_81 : decode b_C_moveAlongLine 81 = .ok (.getfield 9, 3) := by decide +kernel
theorem d_C_moveAlongLine_84 : decode b_C_moveAlongLine 84 = .ok (.aload_n 0, 1) := by decide +kernel
theorem d_C_moveAlongLine_85 : decode b_C_moveAlongLine 85 = .ok (.getfield 27, 3) := by decide +kernel
theorem d_C_moveAlongLine_88 : decode b_C_moveAlongLine 88 = .ok (.aload_n 0, 1) := by decide +kernel
theorem d_C_moveAlongLine_89 : decode b_C_moveAlongLine 89 = .ok (.getfield 27, 3) := by decide +kernel
theorem d_C_moveAlongLine_92 : decode b_C_moveAlongLine 92 = .ok (.invokevirtual 44, 3) := by decide +kernel
theorem d_C_moveAlongLine_95 : decode b_C_moveAlongLine 95 = .ok (.aload_n 0, 1) := by decide +kernel
theorem d_C_moveAlongLine_96 : decode b_C_moveAlongLine 96 = .ok (.getfield 30, 3) := by decide +kernel
theorem d_C_moveAlongLine_99 : decode b_C_moveAlongLine 99 = .ok (.aload_n 0, 1) := by decide +kernel
theorem d_C_moveAlongLine_100 : decode b_C_moveAlongLine 100 = .ok (.getfield 9, 3) := by decide +kernel
theorem d_C_moveAlongLine_103 : decode b_C_moveAlongLine 103 = .ok (.aload_n 0, 1) := by decide +kernel
theorem d_C_moveAlongLine_104 : decode b_C_moveAlongLine 104 = .ok (.getfield 9, 3) := by decide +kernel
theorem d_C_moveAlongLine_107 : decode b_C_moveAlongLine 107 = .ok (.aload_n 0, 1) := by decide +kernel
theorem d_C_moveAlongLine_108 : decode b_C_moveAlongLine 108 = .ok (.getfield 24, 3) := by decide +kernel
theorem d_C_moveAlongLine_111 : decode b_C_moveAlongLine 111 = .ok (.invokevirtual 72, 3) := by decide +kernel
end
section
/-! the instructions -/
theorem d_C_moveAlongLine_114 : decode b_C_moveAlongLine 114 = .ok (.aload_n 0, 1) := by decide +kernel
theorem d_C_moveAlongLine_115 : decode b_C_moveAlongLine 115 = .ok (.getfield 30, 3) := by decide +kernel
theorem d_C_moveAlongLine_118 : decode b_C_moveAlongLine 118 = .ok (.aload_n 0, 1) := by decide +kernel
theorem d_C_moveAlongLine_119 : decode b_C_moveAlongLine 119 = .ok (.getfield 9, 3) := by decide +kernel
theorem d_C_moveAlongLine_122 : decode b_C_moveAlongLine 122 = .ok (.aload_n 0, 1) := by decide +kernel
theorem d_C_moveAlongLine_123 : decode b_C_moveAlongLine 123 = .ok (.getfield 9, 3) := by decide +kernel
theorem d_C_moveAlongLine_126 : decode b_C_moveAlongLine 126 = .ok (.aload_n 0, 1) := by decide +kernel
theorem d_C_moveAlongLine_127 : decode b_C_moveAlongLine 127 = .ok (.getfield 21, 3) := by decide +kernel
theorem d_C_moveAlongLine_130 : decode b_C_moveAlongLine 130 = .ok (.invokevirtual 72, 3) := by decide +kernel
theorem d_C_moveAlongLine_133 : decode b_C_moveAlongLine 133 = .ok (.aload_n 0, 1) := by decide +kernel
theorem d_C_moveAlongLine_134 : decode b_C_moveAlongLine 134 = .ok (.getfield 30, 3) := by decide +kernel
theorem d_C_moveAlongLine_137 : decode b_C_moveAlongLine 137 = .ok (.aload_n 0, 1) := by decide +kernel
theorem d_C_moveAlongLine_138 : decode b_C_moveAlongLine 138 = .ok (.getfield 9, 3) := by decide +kernel
theorem d_C_moveAlongLine_141 : decode b_C_moveAlongLine 141 = .ok (.aload_n 0, 1) := by decide +kernel
theorem d_C_moveAlongLine_142 : decode b_C_moveAlongLine 142 = .ok (.getfield 9, 3) := by decide +kernel
theorem d_C_moveAlongLine_145 : decode b_C_moveAlongLine 145 = .ok (.aload_n 0, 1) := by decide +kernel
theorem d_C_moveAlongLine_146 : decode b_C_moveAlongLine 146 = .ok (.getfield 21, 3) := by decide +kernel
theorem d_C_moveAlongLine_149 : decode b_C_moveAlongLine 149 = .ok (.invokevirtual 72, 3) := by decide +kernel
theorem d_C_moveAlongLine_152 : decode b_C_moveAlongLine 152 = .ok (.aload_n 0, 1) := by decide +kernel
theorem d_C_moveAlongLine_153 : decode b_C_moveAlongLine 153 = .ok (.getfield 30, 3) := by decide +kernel
theorem d_C_moveAlongLine_156 : decode b_C_moveAlongLine 156 = .ok (.aload_n 0, 1) := by decide +kernel
theorem d_C_moveAlongLine_157 : decode b_C_moveAlongLine 157 = .ok (.getfield 21, 3) := by decide +kernel
theorem d_C_moveAlongLine_160 : decode b_C_moveAlongLine 160 = .ok (.aload_n 0, 1) := by decide +kernel
theorem d_C_moveAlongLine_161 : decode b_C_moveAlongLine 161 = .ok (.getfield 21, 3) := by decide +kernel
theorem d_C_moveAlongLine_164 : decode b_C_moveAlongLine 164 = .ok (.aload_n 0, 1) := by decide +kernel
theorem d_C_moveAlongLine_165 : decode b_C_moveAlongLine 165 = .ok (.getfield 9, 3) := by decide +kernel
theorem d_C_moveAlongLine_168 : decode b_C_moveAlongLine 168 = .ok (.invokevirtual 72, 3) := by decide +kernel
theorem d_C_moveAlongLine_171 : decode b_C_moveAlongLine 171 = .ok (.aload_n 0, 1) := by decide +kernel
theorem d_C_moveAlongLine_172 : decode b_C_moveAlongLine 172 = .ok (.getfield 30, 3) := by decide +kernel
theorem d_C_moveAlongLine_175 : decode b_C_moveAlongLine 175 = .ok (.aload_n 0, 1) := by decide +kernel
theorem d_C_moveAlongLine_176 : decode b_C_moveAlongLine 176 = .ok (.getfield 21, 3) := by decide +kernel
theorem d_C_moveAlongLine_179 : decode b_C_moveAlongLine 179 = .ok (.aload_n 0, 1) := by decide +kernel
theorem d_C_moveAlongLine_180 : decode b_C_moveAlongLine 180 = .ok (.getfield 21, 3) := by decide +kernel
theorem d_C_moveAlongLine_183 : decode b_C_moveAlongLine 183 = .ok (.aload_n 0, 1) := by decide +kernel
theorem d_C_moveAlongLine_184 : decode b_C_moveAlongLine 184 = .ok (.getfield 27, 3) := by decide +kernel
theorem d_C_moveAlongLine_187 : decode b_C_moveAlongLine 187 = .ok (.invokevirtual 44, 3) := by decide +kernel
theorem d_C_moveAlongLine_190 : decode b_C_moveAlongLine 190 = .ok (.aload_n 0, 1) := by decide +kernel
theorem d_C_moveAlongLine_191 : decode b_C_moveAlongLine 191 = .ok (.getfield 30, 3) := by decide +kernel
theorem d_C_moveAlongLine_194 : decode b_C_moveAlongLine 194 = .ok (.aload_n 0, 1) := by decide +kernel
theorem d_C_moveAlongLine_195 : decode b_C_moveAlongLine 195 = .ok (.getfield 24, 3) := by decide +kernel
theorem d_C_moveAlongLine_198 : decode b_C_moveAlongLine 198 = .ok (.aload_n 0, 1) := by decide +kernel
theorem d_C_moveAlongLine_199 : decode b_C_moveAlongLine 199 = .ok (.getfield 24, 3) := by decide +kernel
theorem d_C_moveAlongLine_202 : decode b_C_moveAlongLine 202 = .ok (.aload_n 0, 1) := by decide +kernel
theorem d_C_moveAlongLine_203 : decode b_C_moveAlongLine 203 = .ok (.getfield 15, 3) := by decide +kernel
theorem d_C_moveAlongLine_206 : decode b_C_moveAlongLine 206 = .ok (.invokevirtual 44, 3) := by decide +kernel
theorem d_C_moveAlongLine_209 : decode b_C_moveAlongLine 209 = .ok (.aload_n 0, 1) := by decide +kernel
theorem d_C_moveAlongLine_210 : decode b_C_moveAlongLine 210 = .ok (.getfield 30, 3) := by decide +kernel
theorem d_C_moveAlongLine_213 : decode b_C_moveAlongLine 213 = .ok (.aload_n 0, 1) := by decide +kernel
theorem d_C_moveAlongLine_214 : decode b_C_moveAlongLine 214 = .ok (.getfield 15, 3) := by decide +kernel
theorem d_C_moveAlongLine_217 : decode b_C_moveAlongLine 217 = .ok (.aload_n 0, 1) := by decide +kernel
theorem d_C_moveAlongLine_218 : decode b_C_moveAlongLine 218 = .ok (.getfield 21, 3) := by decide +kernel
theorem d_C_moveAlongLine_221 : decode b_C_moveAlongLine 221 = .ok (.aload_n 0, 1) := by decide +kernel
theorem d_C_moveAlongLine_222 : decode b_C_moveAlongLine 222 = .ok (.getfield 24, 3) := by decide +kernel
theorem d_C_moveAlongLine_225 : decode b_C_moveAlongLine 225 = .ok (.invokevirtual 72, 3) := by decide +kernel
theorem d_C_moveAlongLine_228 : decode b_C_moveAlongLine 228 = .ok (.return_, 1) := by decide +kernel
theorem d_C_doubleSum_0 : decode b_C_doubleSum 0 = .ok (.aload_n 0, 1) := by decide +kernel
theorem d_C_doubleSum_1 : decode b_C_doubleSum 1 = .ok (.getfield 18, 3) := by decide +kernel
theorem d_C_doubleSum_4 : decode b_C_doubleSum 4 = .ok (.invokestatic 101, 3) := by decide +kernel
theorem d_C_doubleSum_7 : decode b_C_doubleSum 7 = .ok (.ifCond .eq 4, 3) := by decide +kernel
theorem d_C_doubleSum_10 : decode b_C_doubleSum 10 = .ok (.return_, 1) := by decide +kernel
theorem d_C_doubleSum_11 : decode b_C_doubleSum 11 = .ok (.aload_n 0, 1) := by decide +kernel
theorem d_C_doubleSum_12 : decode b_C_doubleSum 12 = .ok (.getfield 30, 3) := by decide +kernel
theorem d_C_doubleSum_15 : decode b_C_doubleSum 15 = .ok (.aload_n 0, 1) := by decide +kernel
theorem d_C_doubleSum_16 : decode b_C_doubleSum 16 = .ok (.getfield 18, 3) := by decide +kernel
theorem d_C_doubleSum_19 : decode b_C_doubleSum 19 = .ok (.aload_n 0, 1) := by decide +kernel
theorem d_C_doubleSum_20 : decode b_C_doubleSum 20 = .ok (.getfield 18, 3) := by decide +kernel
theorem d_C_doubleSum_23 : decode b_C_doubleSum 23 = .ok (.aload_n 0, 1) := by decide +kernel
theorem d_C_doubleSum_24 : decode b_C_doubleSum 24 = .ok (.getfield 15, 3) := by decide +kernel
theorem d_C_doubleSum_27 : decode b_C_doubleSum 27 = .ok (.invokevirtual 44, 3) := by decide +kernel
theorem d_C_doubleSum_30 : decode b_C_doubleSum 30 = .ok (.aload_n 0, 1) := by decide +kernel
theorem d_C_doubleSum_31 : decode b_C_doubleSum 31 = .ok (.getfield 30, 3) := by decide +kernel
theorem d_C_doubleSum_34 : decode b_C_doubleSum 34 = .ok (.aload_n 0, 1) := by decide +kernel
theorem d_C_doubleSum_35 : decode b_C_doubleSum 35 = .ok (.getfield 18, 3) := by decide +kernel
theorem d_C_doubleSum_38 : decode b_C_doubleSum 38 = .ok (.aload_n 0, 1) := by decide +kernel
theorem d_C_doubleSum_39 : decode b_C_doubleSum 39 = .ok (.getfield 18, 3) := by decide +kernel
theorem d_C_doubleSum_42 : decode b_C_doubleSum 42 = .ok (.aload_n 0, 1) := by decide +kernel
theorem d_C_doubleSum_43 : decode b_C_doubleSum 43 = .ok (.getfield 18, 3) := by decide +kernel
theorem d_C_doubleSum_46 : decode b_C_doubleSum 46 = .ok (.invokevirtual 57, 3) := by decide +kernel
theorem d_C_doubleSum_49 : decode b_C_doubleSum 49 = .ok (.aload_n 0, 1) := by decide +kernel
theorem d_C_doubleSum_50 : decode b_C_doubleSum 50 = .ok (.getfield 30, 3) := by decide +kernel
theorem d_C_doubleSum_53 : decode b_C_doubleSum 53 = .ok (.aload_n 0, 1) := by decide +kernel
theorem d_C_doubleSum_54 : decode b_C_doubleSum 54 = .ok (.getfield 21, 3) := by decide +kernel
theorem d_C_doubleSum_57 : decode b_C_doubleSum 57 = .ok (.aload_n 0, 1) := by decide +kernel
theorem d_C_doubleSum_58 : decode b_C_doubleSum 58 = .ok (.getfield 15, 3) := by decide +kernel
theorem d_C_doubleSum_61 : decode b_C_doubleSum 61 = .ok (.aload_n 0, 1) := by decide +kernel
theorem d_C_doubleSum_62 : decode b_C_doubleSum 62 = .ok (.getfield 15, 3) := by decide +kernel
theorem d_C_doubleSum_65 : decode b_C_doubleSum 65 = .ok (.invokevirtual 44, 3) := by decide +kernel
theorem d_C_doubleSum_68 : decode b_C_doubleSum 68 = .ok (.aload_n 0, 1) := by decide +kernel
theorem d_C_doubleSum_69 : decode b_C_doubleSum 69 = .ok (.getfield 30, 3) := by decide +kernel
theorem d_C_doubleSum_72 : decode b_C_doubleSum 72 = .ok (.aload_n 0, 1) := by decide +kernel
theorem d_C_doubleSum_73 : decode b_C_doubleSum 73 = .ok (.getfield 21, 3) := by decide +kernel
theorem d_C_doubleSum_76 : decode b_C_doubleSum 76 = .ok (.aload_n 0, 1) := by decide +kernel
theorem d_C_doubleSum_77 : decode b_C_doubleSum 77 = .ok (.getfield 21, 3) := by decide +kernel
theorem d_C_doubleSum_80 : decode b_C_doubleSum 80 = .ok (.aload_n 0, 1) := by decide +kernel
theorem d_C_doubleSum_81 : decode b_C_doubleSum 81 = .ok (.getfield 21, 3) := by decide +kernel
theorem d_C_doubleSum_84 : decode b_C_doubleSum 84 = .ok (.invokevirtual 57, 3) := by decide +kernel
theorem d_C_doubleSum_87 : decode b_C_doubleSum 87 = .ok (.aload_n 0, 1) := by decide +kernel
theorem d_C_doubleSum_88 : decode b_C_doubleSum 88 = .ok (.getfield 30, 3) := by decide +kernel
theorem d_C_doubleSum_91 : decode b_C_doubleSum 91 = .ok (.aload_n 0, 1) := by decide +kernel
theorem d_C_doubleSum_92 : decode b_C_doubleSum 92 = .ok (.getfield 24, 3) := by decide +kernel
theorem d_C_doubleSum_95 : decode b_C_doubleSum 95 = .ok (.aload_n 0, 1) := by decide +kernel
theorem d_C_doubleSum_96 : decode b_C_doubleSum 96 = .ok (.getfield 21, 3) := by decide +kernel
theorem d_C_doubleSum_99 : decode b_C_doubleSum 99 = .ok (.aload_n 0, 1) := by decide +kernel
theorem d_C_doubleSum_100 : decode b_C_doubleSum 100 = .ok (.getfield 9, 3) := by decide +kernel
theorem d_C_doubleSum_103 : decode b_C_doubleSum 103 = .ok (.invokevirtual 44, 3) := by decide +kernel
theorem d_C_doubleSum_106 : decode b_C_doubleSum 106 = .ok (.aload_n 0, 1) := by decide +kernel
theorem d_C_doubleSum_107 : decode b_C_doubleSum 107 = .ok (.getfield 30, 3) := by decide +kernel
theorem d_C_doubleSum_110 : decode b_C_doubleSum 110 = .ok (.aload_n 0, 1) := by decide +kernel
theorem d_C_doubleSum_111 : decode b_C_doubleSum 111 = .ok (.getfield 24, 3) := by decide +kernel
theorem d_C_doubleSum_114 : decode b_C_doubleSum 114 = .ok (.aload_n 0, 1) := by decide +kernel
theorem d_C_doubleSum_115 : decode b_C_doubleSum 115 = .ok (.getfield 24, 3) := by decide +kernel
theorem d_C_doubleSum_118 : decode b_C_doubleSum 118 = .ok (.aload_n 0, 1) := by decide +kernel
theorem d_C_doubleSum_119 : decode b_C_doubleSum 119 = .ok (.getfield 24, 3) := by decide +kernel
theorem d_C_doubleSum_122 : decode b_C_doubleSum 122 = .ok (.invokevirtual 57, 3) := by decide +kernel
theorem d_C_doubleSum_125 : decode b_C_doubleSum 125 = .ok (.aload_n 0, 1) := by decide +kernel
theorem d_C_doubleSum_126 : decode b_C_doubleSum 126 = .ok (.getfield 30, 3) := by decide +kernel
theorem d_C_doubleSum_129 : decode b_C_doubleSum 129 = .ok (.aload_n 0, 1) := by decide +kernel
theorem d_C_doubleSum_130 : decode b_C_doubleSum 130 = .ok (.getfield 9, 3) := by decide +kernel
theorem d_C_doubleSum_133 : decode b_C_doubleSum 133 = .ok (.aload_n 0, 1) := by decide +kernel
theorem d_C_doubleSum_134 : decode b_C_doubleSum 134 = .ok (.getfield 9, 3) := by decide +kernel
theorem d_C_doubleSum_137 : decode b_C_doubleSum 137 = .ok (.aload_n 0, 1) := by decide +kernel
theorem d_C_doubleSum_138 : decode b_C_doubleSum 138 = .ok (.getfield 9, 3) := by decide +kernel
theorem d_C_doubleSum_141 : decode b_C_doubleSum 141 = .ok (.invokevirtual 44, 3) := by decide +kernel
theorem d_C_doubleSum_144 : decode b_C_doubleSum 144 = .ok (.aload_n 0, 1) := by decide +kernel
theorem d_C_doubleSum_145 : decode b_C_doubleSum 145 = .ok (.getfield 30, 3) := by decide +kernel
theorem d_C_doubleSum_148 : decode b_C_doubleSum 148 = .ok (.aload_n 0, 1) := by decide +kernel
theorem d_C_doubleSum_149 : decode b_C_doubleSum 149 = .ok (.getfield 27, 3) := by decide +kernel
theorem d_C_doubleSum_152 : decode b_C_doubleSum 152 = .ok (.aload_n 0, 1) := by decide +kernel
theorem d_C_doubleSum_153 : decode b_C_doubleSum 153 = .ok (.getfield 9, 3) := by decide +kernel
theorem d_C_doubleSum_156 : decode b_C_doubleSum 156 = .ok (.aload_n 0, 1) := by decide +kernel
theorem d_C_doubleSum_157 : decode b_C_doubleSum 157 = .ok (.getfield 9, 3) := by decide +kernel
theorem d_C_doubleSum_160 : decode b_C_doubleSum 160 = .ok (.invokevirtual 57, 3) := by decide +kernel
theorem d_C_doubleSum_163 : decode b_C_doubleSum 163 = .ok (.aload_n 0, 1) := by decide +kernel
theorem d_C_doubleSum_164 : decode b_C_doubleSum 164 = .ok (.getfield 30, 3) := by decide +kernel
theorem d_C_doubleSum_167 : decode b_C_doubleSum 167 = .ok (.aload_n 0, 1) := by decide +kernel
theorem d_C_doubleSum_168 : decode b_C_doubleSum 168 = .ok (.getfield 27, 3) := by decide +kernel
theorem d_C_doubleSum_171 : decode b_C_doubleSum 171 = .ok (.aload_n 0, 1) := by decide +kernel
theorem d_C_doubleSum_172 : decode b_C_doubleSum 172 = .ok (.getfield 27, 3) := by decide +kernel
theorem d_C_doubleSum_175 : decode b_C_doubleSum 175 = .ok (.aload_n 0, 1) := by decide +kernel
theorem d_C_doubleSum_176 : decode b_C_doubleSum 176 = .ok (.getfield 9, 3) := by decide +kernel
theorem d_C_doubleSum_179 : decode b_C_doubleSum 179 = .ok (.invokevirtual 57, 3) := by decide +kernel
theorem d_C_doubleSum_182 : decode b_C_doubleSum 182 = .ok (.aload_n 0, 1) := by decide +kernel
theorem d_C_doubleSum_183 : decode b_C_doubleSum 183 = .ok (.getfield 30, 3) := by decide +kernel
theorem d_C_doubleSum_186 : decode b_C_doubleSum 186 = .ok (.aload_n 0, 1) := by decide +kernel
theorem d_C_doubleSum_187 : decode b_C_doubleSum 187 = .ok (.getfield 9, 3) := by decide +kernel
theorem d_C_doubleSum_190 : decode b_C_doubleSum 190 = .ok (.aload_n 0, 1) := by decide +kernel
theorem d_C_doubleSum_191 : decode b_C_doubleSum 191 = .ok (.getfield 27, 3) := by decide +kernel
theorem d_C_doubleSum_194 : decode b_C_doubleSum 194 = .ok (.aload_n 0, 1) := by decide +kernel
theorem d_C_doubleSum_195 : decode b_C_doubleSum 195 = .ok (.getfield 27, 3) := by decide +kernel
theorem d_C_doubleSum_198 : decode b_C_doubleSum 198 = .ok (.invokevirtual 44, 3) := by decide +kernel
theorem d_C_doubleSum_201 : decode b_C_doubleSum 201 = .ok (.aload_n 0, 1) := by decide +kernel
theorem d_C_doubleSum_202 : decode b_C_doubleSum 202 = .ok (.getfield 30, 3) := by decide +kernel
theorem d_C_doubleSum_205 : decode b_C_doubleSum 205 = .ok (.aload_n 0, 1) := by decide +kernel
theorem d_C_doubleSum_206 : decode b_C_doubleSum 206 = .ok (.getfield 9, 3) := by decide +kernel
theorem d_C_doubleSum_209 : decode b_C_doubleSum 209 = .ok (.aload_n 0, 1) := by decide +kernel
theorem d_C_doubleSum_210 : decode b_C_doubleSum 210 = .ok (.getfield 9, 3) := by decide +kernel
theorem d_C_doubleSum_213 : decode b_C_doubleSum 213 = .ok (.aload_n 0, 1) := by decide +kernel
theorem d_C_doubleSum_214 : decode b_C_doubleSum 214 = .ok (.getfield 24, 3) := by decide +kernel
theorem d_C_doubleSum_217 : decode b_C_doubleSum 217 = .ok (.invokevirtual 72, 3) := by decide +kernel
theorem d_C_doubleSum_220 : decode b_C_doubleSum 220 = .ok (.aload_n 0, 1) := by decide +kernel
theorem d_C_doubleSum_221 : decode b_C_doubleSum 221 = .ok (.getfield 30, 3) := by decide +kernel
theorem d_C_doubleSum_224 : decode b_C_doubleSum 224 = .ok (.aload_n 0, 1) := by decide +kernel
theorem d_C_doubleSum_225 : decode b_C_doubleSum 225 = .ok (.getfield 9, 3) := by decide +kernel
theorem d_C_doubleSum_228 : decode b_C_doubleSum 228 = .ok (.aload_n 0, 1) := by decide +kernel
theorem d_C_doubleSum_229 : decode b_C_doubleSum 229 = .ok (.getfield 9, 3) := by decide +kernel
theorem d_C_doubleSum_232 : decode b_C_doubleSum 232 = .ok (.aload_n 0, 1) := by decide +kernel
theorem d_C_doubleSum_233 : decode b_C_doubleSum 233 = .ok (.getfield 24, 3) := by decide +kernel
theorem d_C_doubleSum_236 : decode b_C_doubleSum 236 = .ok (.invokevirtual 72, 3) := by decide +kernel
theorem d_C_doubleSum_239 : decode b_C_doubleSum 239 = .ok (.aload_n 0, 1) := by decide +kernel
theorem d_C_doubleSum_240 : decode b_C_doubleSum 240 = .ok (.getfield 30, 3) := by decide +kernel
theorem d_C_doubleSum_243 : decode b_C_doubleSum 243 = .ok (.aload_n 0, 1) := by decide +kernel
theorem d_C_doubleSum_244 : decode b_C_doubleSum 244 = .ok (.getfield 24, 3) := by decide +kernel
theorem d_C_doubleSum_247 : decode b_C_doubleSum 247 = .ok (.aload_n 0, 1) := by decide +kernel
theorem d_C_doubleSum_248 : decode b_C_doubleSum 248 = .ok (.getfield 24, 3) := by decide +kernel
theorem d_C_doubleSum_251 : decode b_C_doubleSum 251 = .ok (.aload_n 0, 1) := by decide +kernel
theorem d_C_doubleSum_252 : decode b_C_doubleSum 252 = .ok (.getfield 9, 3) := by decide +kernel
theorem d_C_doubleSum_255 : decode b_C_doubleSum 255 = .ok (.invokevirtual 72, 3) := by decide +kernel
theorem d_C_doubleSum_258 : decode b_C_doubleSum 258 = .ok (.aload_n 0, 1) := by decide +kernel
theorem d_C_doubleSum_259 : decode b_C_doubleSum 259 = .ok (.getfield 30, 3) := by decide +kernel
theorem d_C_doubleSum_262 : decode b_C_doubleSum 262 = .ok (.aload_n 0, 1) := by decide +kernel
theorem d_C_doubleSum_263 : decode b_C_doubleSum 263 = .ok (.getfield 24, 3) := by decide +kernel
theorem d_C_doubleSum_266 : decode b_C_doubleSum 266 = .ok (.aload_n 0, 1) := by decide +kernel
theorem d_C_doubleSum_267 : decode b_C_doubleSum 267 = .ok (.getfield 24, 3) := by decide +kernel
theorem d_C_doubleSum_270 : decode b_C_doubleSum 270 = .ok (.aload_n 0, 1) := by decide +kernel
theorem d_C_doubleSum_271 : decode b_C_doubleSum 271 = .ok (.getfield 27, 3) := by decide +kernel
theorem d_C_doubleSum_274 : decode b_C_doubleSum 274 = .ok (.invokevirtual 44, 3) := by decide +kernel
theorem d_C_doubleSum_277 : decode b_C_doubleSum 277 = .ok (.aload_n 0, 1) := by decide +kernel
theorem d_C_doubleSum_278 : decode b_C_doubleSum 278 = .ok (.getfield 30, 3) := by decide +kernel
theorem d_C_doubleSum_281 : decode b_C_doubleSum 281 = .ok (.aload_n 0, 1) := by decide +kernel
theorem d_C_doubleSum_282 : decode b_C_doubleSum 282 = .ok (.getfield 21, 3) := by decide +kernel
theorem d_C_doubleSum_285 : decode b_C_doubleSum 285 = .ok (.aload_n 0, 1) := by decide +kernel
theorem d_C_doubleSum_286 : decode b_C_doubleSum 286 = .ok (.getfield 21, 3) := by decide +kernel
theorem d_C_doubleSum_289 : decode b_C_doubleSum 289 = .ok (.aload_n 0, 1) := by decide +kernel
theorem d_C_doubleSum_290 : decode b_C_doubleSum 290 = .ok (.getfield 21, 3) := by decide +kernel
theorem d_C_doubleSum_293 : decode b_C_doubleSum 293 = .ok (.invokevirtual 44, 3) := by decide +kernel
theorem d_C_doubleSum_296 : decode b_C_doubleSum 296 = .ok (.aload_n 0, 1) := by decide +kernel
theorem d_C_doubleSum_297 : decode b_C_doubleSum 297 = .ok (.getfield 30, 3) := by decide +kernel
theorem d_C_doubleSum_300 : decode b_C_doubleSum 300 = .ok (.aload_n 0, 1) := by decide +kernel
theorem d_C_doubleSum_301 : decode b_C_doubleSum 301 = .ok (.getfield 21, 3) := by decide +kernel
theorem d_C_doubleSum_304 : decode b_C_doubleSum 304 = .ok (.aload_n 0, 1) := by decide +kernel
theorem d_C_doubleSum_305 : decode b_C_doubleSum 305 = .ok (.getfield 21, 3) := by decide +kernel
theorem d_C_doubleSum_308 : decode b_C_doubleSum 308 = .ok (.aload_n 0, 1) := by decide +kernel
theorem d_C_doubleSum_309 : decode b_C_doubleSum 309 = .ok (.getfield 21, 3) := by decide +kernel
theorem d_C_doubleSum_312 : decode b_C_doubleSum 312 = .ok (.invokevirtual 57, 3) := by decide +kernel
theorem d_C_doubleSum_315 : decode b_C_doubleSum 315 = .ok (.aload_n 0, 1) := by decide +kernel
theorem d_C_doubleSum_316 : decode b_C_doubleSum 316 = .ok (.getfield 30, 3) := by decide +kernel
theorem d_C_doubleSum_319 : decode b_C_doubleSum 319 = .ok (.aload_n 0, 1) := by decide +kernel
theorem d_C_doubleSum_320 : decode b_C_doubleSum 320 = .ok (.getfield 15, 3) := by decide +kernel
theorem d_C_doubleSum_323 : decode b_C_doubleSum 323 = .ok (.aload_n 0, 1) := by decide +kernel
theorem d_C_doubleSum_324 : decode b_C_doubleSum 324 = .ok (.getfield 24, 3) := by decide +kernel
theorem d_C_doubleSum_327 : decode b_C_doubleSum 327 = .ok (.aload_n 0, 1) := by decide +kernel
theorem d_C_doubleSum_328 : decode b_C_doubleSum 328 = .ok (.getfield 21, 3) := by decide +kernel
theorem d_C_doubleSum_331 : decode b_C_doubleSum 331 = .ok (.invokevirtual 72, 3) := by decide +kernel
theorem d_C_doubleSum_334 : decode b_C_doubleSum 334 = .ok (.return_, 1) := by decide +kernel
theorem d_C_storeSum_0 : decode b_C_storeSum 0 = .ok (.aload_n 0, 1) := by decide +kernel
theorem d_C_storeSum_1 : decode b_C_storeSum 1 = .ok (.getfield 18, 3) := by decide +kernel
theorem d_C_storeSum_4 : decode b_C_storeSum 4 = .ok (.invokestatic 101, 3) := by decide +kernel
theorem d_C_storeSum_7 : decode b_C_storeSum 7 = .ok (.ifCond .eq 8, 3) := by decide +kernel
theorem d_C_storeSum_10 : decode b_C_storeSum 10 = .ok (.aload_n 1, 1) := by decide +kernel
theorem d_C_storeSum_11 : decode b_C_storeSum 11 = .ok (.invokevirtual 115, 3) := by decide +kernel
theorem d_C_storeSum_14 : decode b_C_storeSum 14 = .ok (.return_, 1) := by decide +kernel
theorem d_C_storeSum_15 : decode b_C_storeSum 15 = .ok (.aload_n 0, 1) := by decide +kernel
theorem d_C_storeSum_16 : decode b_C_storeSum 16 = .ok (.getfield 30, 3) := by decide +kernel
theorem d_C_storeSum_19 : decode b_C_storeSum 19 = .ok (.aload_n 0, 1) := by decide +kernel
theorem d_C_storeSum_20 : decode b_C_storeSum 20 = .ok (.getfield 21, 3) := by decide +kernel
theorem d_C_storeSum_23 : decode b_C_storeSum 23 = .ok (.aload_n 0, 1) := by decide +kernel
theorem d_C_storeSum_24 : decode b_C_storeSum 24 = .ok (.getfield 18, 3) := by decide +kernel
theorem d_C_storeSum_27 : decode b_C_storeSum 27 = .ok (.getstatic 118, 3) := by decide +kernel
theorem d_C_storeSum_30 : decode b_C_storeSum 30 = .ok (.invokevirtual 63, 3) := by decide +kernel
theorem d_C_storeSum_33 : decode b_C_storeSum 33 = .ok (.aload_n 0, 1) := by decide +kernel
theorem d_C_storeSum_34 : decode b_C_storeSum 34 = .ok (.getfield 30, 3) := by decide +kernel
theorem d_C_storeSum_37 : decode b_C_storeSum 37 = .ok (.aload_n 0, 1) := by decide +kernel
theorem d_C_storeSum_38 : decode b_C_storeSum 38 = .ok (.getfield 24, 3) := by decide +kernel
theorem d_C_storeSum_41 : decode b_C_storeSum 41 = .ok (.aload_n 0, 1) := by decide +kernel
theorem d_C_storeSum_42 : decode b_C_storeSum 42 = .ok (.getfield 21, 3) := by decide +kernel
theorem d_C_storeSum_45 : decode b_C_storeSum 45 = .ok (.aload_n 0, 1) := by decide +kernel
theorem d_C_storeSum_46 : decode b_C_storeSum 46 = .ok (.getfield 21, 3) := by decide +kernel
theorem d_C_storeSum_49 : decode b_C_storeSum 49 = .ok (.invokevirtual 44, 3) := by decide +kernel
theorem d_C_storeSum_52 : decode b_C_storeSum 52 = .ok (.aload_n 0, 1) := by decide +kernel
theorem d_C_storeSum_53 : decode b_C_storeSum 53 = .ok (.getfield 30, 3) := by decide +kernel
theorem d_C_storeSum_56 : decode b_C_storeSum 56 = .ok (.aload_n 0, 1) := by decide +kernel
theorem d_C_storeSum_57 : decode b_C_storeSum 57 = .ok (.getfield 21, 3) := by decide +kernel
theorem d_C_storeSum_60 : decode b_C_storeSum 60 = .ok (.aload_n 0, 1) := by decide +kernel
theorem d_C_storeSum_61 : decode b_C_storeSum 61 = .ok (.getfield 21, 3) := by decide +kernel
theorem d_C_storeSum_64 : decode b_C_storeSum 64 = .ok (.aload_n 0, 1) := by decide +kernel
theorem d_C_storeSum_65 : decode b_C_storeSum 65 = .ok (.getfield 24, 3) := by decide +kernel
theorem d_C_storeSum_68 : decode b_C_storeSum 68 = .ok (.invokevirtual 44, 3) := by decide +kernel
theorem d_C_storeSum_71 : decode b_C_storeSum 71 = .ok (.aload_n 0, 1) := by decide +kernel
theorem d_C_storeSum_72 : decode b_C_storeSum 72 = .ok (.getfield 30, 3) := by decide +kernel
theorem d_C_storeSum_75 : decode b_C_storeSum 75 = .ok (.aload_n 0, 1) := by decide +kernel
theorem d_C_storeSum_76 : decode b_C_storeSum 76 = .ok (.getfield 9, 3) := by decide +kernel
theorem d_C_storeSum_79 : decode b_C_storeSum 79 = .ok (.aload_n 0, 1) := by decide +kernel
theorem d_C_storeSum_80 : decode b_C_storeSum 80 = .ok (.getfield 9, 3) := by decide +kernel
theorem d_C_storeSum_83 : decode b_C_storeSum 83 = .ok (.aload_n 0, 1) := by decide +kernel
theorem d_C_storeSum_84 : decode b_C_storeSum 84 = .ok (.getfield 24, 3) := by decide +kernel
theorem d_C_storeSum_87 : decode b_C_storeSum 87 = .ok (.invokevirtual 44, 3) := by decide +kernel
theorem d_C_storeSum_90 : decode b_C_storeSum 90 = .ok (.aload_n 0, 1) := by decide +kernel
theorem d_C_storeSum_91 : decode b_C_storeSum 91 = .ok (.getfield 30, 3) := by decide +kernel
theorem d_C_storeSum_94 : decode b_C_storeSum 94 = .ok (.aload_n 0, 1) := by decide +kernel
theorem d_C_storeSum_95 : decode b_C_storeSum 95 = .ok (.getfield 15, 3) := by decide +kernel
theorem d_C_storeSum_98 : decode b_C_storeSum 98 = .ok (.aload_n 0, 1) := by decide +kernel
theorem d_C_storeSum_99 : decode b_C_storeSum 99 = .ok (.getfield 15, 3) := by decide +kernel
theorem d_C_storeSum_102 : decode b_C_storeSum 102 = .ok (.aload_n 0, 1) := by decide +kernel
theorem d_C_storeSum_103 : decode b_C_storeSum 103 = .ok (.getfield 21, 3) := by decide +kernel
theorem d_C_storeSum_106 : decode b_C_storeSum 106 = .ok (.invokevirtual 44, 3) := by decide +kernel
theorem d_C_storeSum_109 : decode b_C_storeSum 109 = .ok (.aload_n 1, 1) := by decide +kernel
theorem d_C_storeSum_110 : decode b_C_storeSum 110 = .ok (.aload_n 0, 1) := by decide +kernel
theorem d_C_storeSum_111 : decode b_C_storeSum 111 = .ok (.getfield 9, 3) := by decide +kernel
theorem d_C_storeSum_114 : decode b_C_storeSum 114 = .ok (.aload_n 0, 1) := by decide +kernel
theorem d_C_storeSum_115 : decode b_C_storeSum 115 = .ok (.getfield 15, 3) := by decide +kernel
theorem d_C_storeSum_118 : decode b_C_storeSum 118 = .ok (.invokevirtual 121, 3) := by decide +kernel
theorem d_C_storeSum_121 : decode b_C_storeSum 121 = .ok (.return_, 1) := by decide +kernel
theorem d_H_init_0 : decode b_H_init 0 = .ok (.aload_n 0, 1) := by decide +kernel
theorem d_H_init_1 : decode b_H_init 1 = .ok (.invokespecial 3, 3) := by decide +kernel
theorem d_H_init_4 : decode b_H_init 4 = .ok (.aload_n 0, 1) := by decide +kernel
theorem d_H_init_5 : decode b_H_init 5 = .ok (.bipush 100, 2) := by decide +kernel
theorem d_H_init_7 : decode b_H_init 7 = .ok (.newarray .int, 2) := by decide +kernel
theorem d_H_init_9 : decode b_H_init 9 = .ok (.putfield 9, 3) := by decide +kernel
theorem d_H_init_12 : decode b_H_init 12 = .ok (.aload_n 0, 1) := by decide +kernel
theorem d_H_init_13 : decode b_H_init 13 = .ok (.iconst 0, 1) := by decide +kernel
theorem d_H_init_14 : decode b_H_init 14 = .ok (.putfield 15, 3) := by decide +kernel
theorem d_H_init_17 : decode b_H_init 17 = .ok (.return_, 1) := by decide +kernel
theorem d_H_append_0 : decode b_H_append 0 = .ok (.iload_n 3, 1) := by decide +kernel
theorem d_H_append_1 : decode b_H_append 1 = .ok (.iconst 1, 1) := by decide +kernel
theorem d_H_append_2 : decode b_H_append 2 = .ok (.if_icmp .lt 20, 3) := by decide +kernel
theorem d_H_append_5 : decode b_H_append 5 = .ok (.iload_n 3, 1) := by decide +kernel
theorem d_H_append_6 : decode b_H_append 6 = .ok (.bipush 8, 2) := by decide +kernel
theorem d_H_append_8 : decode b_H_append 8 = .ok (.if_icmp .gt 14, 3) := by decide +kernel
theorem d_H_append_11 : decode b_H_append 11 = .ok (.aload_n 0, 1) := by decide +kernel
theorem d_H_append_12 : decode b_H_append 12 = .ok (.getfield 15, 3) := by decide +kernel
theorem d_H_append_15 : decode b_H_append 15 = .ok (.iload_n 3, 1) := by decide +kernel
theorem d_H_append_16 : decode b_H_append 16 = .ok (.iadd, 1) := by decide +kernel
theorem d_H_append_17 : decode b_H_append 17 = .ok (.bipush 100, 2) := by decide +kernel
theorem d_H_append_19 : decode b_H_append 19 = .ok (.if_icmp .le 5, 3) := by decide +kernel
theorem d_H_append_22 : decode b_H_append 22 = .ok (.iconst 0, 1) := by decide +kernel
theorem d_H_append_23 : decode b_H_append 23 = .ok (.ireturn, 1) := by decide +kernel
theorem d_H_append_24 : decode b_H_append 24 = .ok (.iload_n 3, 1) := by decide +kernel
theorem d_H_append_25 : decode b_H_append 25 = .ok (.iconst 1, 1) := by decide +kernel
theorem d_H_append_26 : decode b_H_append 26 = .ok (.isub, 1) := by decide +kernel
theorem d_H_append_27 : decode b_H_append 27 = .ok (.istore 4, 2) := by decide +kernel
theorem d_H_append_29 : decode b_H_append 29 = .ok (.iload 4, 2) := by decide +kernel
theorem d_H_append_31 : decode b_H_append 31 = .ok (.ifCond .lt 40, 3) := by decide +kernel
theorem d_H_append_34 : decode b_H_append 34 = .ok (.aload_n 0, 1) := by decide +kernel
theorem d_H_append_35 : decode b_H_append 35 = .ok (.getfield 9, 3) := by decide +kernel
theorem d_H_append_38 : decode b_H_append 38 = .ok (.aload_n 0, 1) := by decide +kernel
theorem d_H_append_39 : decode b_H_append 39 = .ok (.getfield 15, 3) := by decide +kernel
theorem d_H_append_42 : decode b_H_append 42 = .ok (.lload_n 1, 1) := by decide +kernel
theorem d_H_append_43 : decode b_H_append 43 = .ok (.bipush 8, 2) := by decide +kernel
theorem d_H_append_45 : decode b_H_append 45 = .ok (.iload 4, 2) := by decide +kernel
theorem d_H_append_47 : decode b_H_append 47 = .ok (.imul, 1) := by decide +kernel
theorem d_H_append_48 : decode b_H_append 48 = .ok (.lushr, 1) := by decide +kernel
theorem d_H_append_49 : decode b_H_append 49 = .ok (.l2i, 1) := by decide +kernel
theorem d_H_append_50 : decode b_H_append 50 = .ok (.sipush 255, 3) := by decide +kernel
theorem d_H_append_53 : decode b_H_append 53 = .ok (.iand, 1) := by decide +kernel
theorem d_H_append_54 : decode b_H_append 54 = .ok (.iastore, 1) := by decide +kernel
theorem d_H_append_55 : decode b_H_append 55 = .ok (.aload_n 0, 1) := by decide +kernel
theorem d_H_append_56 : decode b_H_append 56 = .ok (.dup, 1) := by decide +kernel
theorem d_H_append_57 : decode b_H_append 57 = .ok (.getfield 15, 3) := by decide +kernel
theorem d_H_append_60 : decode b_H_append 60 = .ok (.iconst 1, 1) := by decide +kernel
theorem d_H_append_61 : decode b_H_append 61 = .ok (.iadd, 1) := by decide +kernel
theorem d_H_append_62 : decode b_H_append 62 = .ok (.putfield 15, 3) := by decide +kernel
theorem d_H_append_65 : decode b_H_append 65 = .ok (.iinc 4 (-1), 3) := by decide +kernel
theorem d_H_append_68 : decode b_H_append 68 = .ok (.goto (-39), 3) := by decide +kernel
theorem d_H_append_71 : decode b_H_append 71 = .ok (.iconst 1, 1) := by decide +kernel
theorem d_H_append_72 : decode b_H_append 72 = .ok (.ireturn, 1) := by decide +kernel
theorem d_H_takeAll_0 : decode b_H_takeAll 0 = .ok (.aload_n 0, 1) := by decide +kernel
theorem d_H_takeAll_1 : decode b_H_takeAll 1 = .ok (.getfield 15, 3) := by decide +kernel
theorem d_H_takeAll_4 : decode b_H_takeAll 4 = .ok (.istore_n 1, 1) := by decide +kernel
theorem d_H_takeAll_5 : decode b_H_takeAll 5 = .ok (.aload_n 0, 1) := by decide +kernel
theorem d_H_takeAll_6 : decode b_H_takeAll 6 = .ok (.iconst 0, 1) := by decide +kernel
theorem d_H_takeAll_7 : decode b_H_takeAll 7 = .ok (.putfield 15, 3) := by decide +kernel
theorem d_H_takeAll_10 : decode b_H_takeAll 10 = .ok (.iload_n 1, 1) := by decide +kernel
theorem d_H_takeAll_11 : decode b_H_takeAll 11 = .ok (.ireturn, 1) := by decide +kernel
theorem d_H_firstByte_0 : decode b_H_firstByte 0 = .ok (.aload_n 0, 1) := by decide +kernel
theorem d_H_firstByte_1 : decode b_H_firstByte 1 = .ok (.getfield 9, 3) := by decide +kernel
theorem d_H_firstByte_4 : decode b_H_firstByte 4 = .ok (.iconst 0, 1) := by decide +kernel
theorem d_H_firstByte_5 : decode b_H_firstByte 5 = .ok (.iaload, 1) := by decide +kernel
theorem d_H_firstByte_6 : decode b_H_firstByte 6 = .ok (.ireturn, 1) := by decide +kernel
theorem d_H_readNumber_0 : decode b_H_readNumber 0 = .ok (.aload_n 1, 1) := by decide +kernel
theorem d_H_readNumber_1 : decode b_H_readNumber 1 = .ok (.getstatic 19, 3) := by decide +kernel
theorem d_H_readNumber_4 : decode b_H_readNumber 4 = .ok (.invokestatic 23, 3) := by decide +kernel
theorem d_H_readNumber_7 : decode b_H_readNumber 7 = .ok (.iload_n 2, 1) := by decide +kernel
theorem d_H_readNumber_8 : decode b_H_readNumber 8 = .ok (.iload_n 3, 1) := by decide +kernel
theorem d_H_readNumber_9 : decode b_H_readNumber 9 = .ok (.iadd, 1) := by decide +kernel
theorem d_H_readNumber_10 : decode b_H_readNumber 10 = .ok (.iconst 1, 1) := by decide +kernel
theorem d_H_readNumber_11 : decode b_H_readNumber 11 = .ok (.isub, 1) := by decide +kernel
theorem d_H_readNumber_12 : decode b_H_readNumber 12 = .ok (.istore 4, 2) := by decide +kernel
theorem d_H_readNumber_14 : decode b_H_readNumber 14 = .ok (.iconst 0, 1) := by decide +kernel
theorem d_H_readNumber_15 : decode b_H_readNumber 15 = .ok (.istore 5, 2) := by decide +kernel
theorem d_H_readNumber_17 : decode b_H_readNumber 17 = .ok (.iload 5, 2) := by decide +kernel
theorem d_H_readNumber_19 : decode b_H_readNumber 19 = .ok (.iload_n 3, 1) := by decide +kernel
theorem d_H_readNumber_20 : decode b_H_readNumber 20 = .ok (.if_icmp .ge 44, 3) := by decide +kernel
theorem d_H_readNumber_23 : decode b_H_readNumber 23 = .ok (.iload 5, 2) := by decide +kernel
theorem d_H_readNumber_25 : decode b_H_readNumber 25 = .ok (.bipush 32, 2) := by decide +kernel
theorem d_H_readNumber_27 : decode b_H_readNumber 27 = .ok (.if_icmp .ge 37, 3) := by decide +kernel
theorem d_H_readNumber_30 : decode b_H_readNumber 30 = .ok (.aload_n 1, 1) := by decide +kernel
theorem d_H_readNumber_31 : decode b_H_readNumber 31 = .ok (.iload 5, 2) := by decide +kernel
theorem d_H_readNumber_33 : decode b_H_readNumber 33 = .ok (.iconst 4, 1) := by decide +kernel
theorem d_H_readNumber_34 : decode b_H_readNumber 34 = .ok (.idiv, 1) := by decide +kernel
theorem d_H_readNumber_35 : decode b_H_readNumber 35 = .ok (.dup2, 1) := by decide +kernel
theorem d_H_readNumber_36 : decode b_H_readNumber 36 = .ok (.laload, 1) := by decide +kernel
theorem d_H_readNumber_37 : decode b_H_readNumber 37 = .ok (.aload_n 0, 1) := by decide +kernel
theorem d_H_readNumber_38 : decode b_H_readNumber 38 = .ok (.getfield 9, 3) := by decide +kernel
theorem d_H_readNumber_41 : decode b_H_readNumber 41 = .ok (.iload 4, 2) := by decide +kernel
theorem d_H_readNumber_43 : decode b_H_readNumber 43 = .ok (.iload 5, 2) := by decide +kernel
theorem d_H_readNumber_45 : decode b_H_readNumber 45 = .ok (.isub, 1) := by decide +kernel
theorem d_H_readNumber_46 : decode b_H_readNumber 46 = .ok (.iaload, 1) := by decide +kernel
theorem d_H_readNumber_47 : decode b_H_readNumber 47 = .ok (.i2l, 1) := by decide +kernel
theorem d_H_readNumber_48 : decode b_H_readNumber 48 = .ok (.bipush 8, 2) := by decide +kernel
theorem d_H_readNumber_50 : decode b_H_readNumber 50 = .ok (.iload 5, 2) := by decide +kernel
theorem d_H_readNumber_52 : decode b_H_readNumber 52 = .ok (.iconst 4, 1) := by decide +kernel
theorem d_H_readNumber_53 : decode b_H_readNumber 53 = .ok (.irem, 1) := by decide +kernel
theorem d_H_readNumber_54 : decode b_H_readNumber 54 = .ok (.imul, 1) := by decide +kernel
theorem d_H_readNumber_55 : decode b_H_readNumber 55 = .ok (.lshl, 1) := by decide +kernel
theorem d_H_readNumber_56 : decode b_H_readNumber 56 = .ok (.lor, 1) := by decide +kernel
theorem d_H_readNumber_57 : decode b_H_readNumber 57 = .ok (.lastore, 1) := by decide +kernel
theorem d_H_readNumber_58 : decode b_H_readNumber 58 = .ok (.iinc 5 1, 3) := by decide +kernel
theorem d_H_readNumber_61 : decode b_H_readNumber 61 = .ok (.goto (-44), 3) := by decide +kernel
theorem d_H_readNumber_64 : decode b_H_readNumber 64 = .ok (.return_, 1) := by decide +kernel
theorem d_H_readSignature_0 : decode b_H_readSignature 0 = .ok (.iload_n 3, 1) := by decide +kernel
theorem d_H_readSignature_1 : decode b_H_readSignature 1 = .ok (.iconst 2, 1) := by decide +kernel
theorem d_H_readSignature_2 : decode b_H_readSignature 2 = .ok (.if_icmp .lt 26, 3) := by decide +kernel
theorem d_H_readSignature_5 : decode b_H_readSignature 5 = .ok (.aload_n 0, 1) := by decide +kernel
theorem d_H_readSignature_6 : decode b_H_readSignature 6 = .ok (.getfield 9, 3) := by decide +kernel
theorem d_H_readSignature_9 : decode b_H_readSignature 9 = .ok (.iconst 0, 1) := by decide +kernel
theorem d_H_readSignature_10 : decode b_H_readSignature 10 = .ok (.iaload, 1) := by decide +kernel
theorem d_H_readSignature_11 : decode b_H_readSignature 11 = .ok (.bipush 48, 2) := by decide +kernel
theorem d_H_readSignature_13 : decode b_H_readSignature 13 = .ok (.if_icmp .ne 15, 3) := by decide +kernel
theorem d_H_readSignature_16 : decode b_H_readSignature 16 = .ok (.aload_n 0, 1) := by decide +kernel
theorem d_H_readSignature_17 : decode b_H_readSignature 17 = .ok (.getfield 9, 3) := by decide +kernel
theorem d_H_readSignature_20 : decode b_H_readSignature 20 = .ok (.iconst 1, 1) := by decide +kernel
theorem d_H_readSignature_21 : decode b_H_readSignature 21 = .ok (.iaload, 1) := by decide +kernel
theorem d_H_readSignature_22 : decode b_H_readSignature 22 = .ok (.iload_n 3, 1) := by decide +kernel
theorem d_H_readSignature_23 : decode b_H_readSignature 23 = .ok (.iconst 2, 1) := by decide +kernel
theorem d_H_readSignature_24 : decode b_H_readSignature 24 = .ok (.isub, 1) := by decide +kernel
theorem d_H_readSignature_25 : decode b_H_readSignature 25 = .ok (.if_icmp .eq 5, 3) := by decide +kernel
theorem d_H_readSignature_28 : decode b_H_readSignature 28 = .ok (.iconst 0, 1) := by decide +kernel
theorem d_H_readSignature_29 : decode b_H_readSignature 29 = .ok (.ireturn, 1) := by decide +kernel
theorem d_H_readSignature_30 : decode b_H_readSignature 30 = .ok (.aload_n 0, 1) := by decide +kernel
theorem d_H_readSignature_31 : decode b_H_readSignature 31 = .ok (.aload_n 1, 1) := by decide +kernel
theorem d_H_readSignature_32 : decode b_H_readSignature 32 = .ok (.iconst 2, 1) := by decide +kernel
theorem d_H_readSignature_33 : decode b_H_readSignature 33 = .ok (.iload_n 3, 1) := by decide +kernel
theorem d_H_readSignature_34 : decode b_H_readSignature 34 = .ok (.invokevirtual 29, 3) := by decide +kernel
theorem d_H_readSignature_37 : decode b_H_readSignature 37 = .ok (.istore 4, 2) := by decide +kernel
theorem d_H_readSignature_39 : decode b_H_readSignature 39 = .ok (.iload 4, 2) := by decide +kernel
theorem d_H_readSignature_41 : decode b_H_readSignature 41 = .ok (.ifCond .le 19, 3) := by decide +kernel
theorem d_H_readSignature_44 : decode b_H_readSignature 44 = .ok (.aload_n 0, 1) := by decide +kernel
theorem d_H_readSignature_45 : decode b_H_readSignature 45 = .ok (.aload_n 2, 1) := by decide +kernel
theorem d_H_readSignature_46 : decode b_H_readSignature 46 = .ok (.iload 4, 2) := by decide +kernel
theorem d_H_readSignature_48 : decode b_H_readSignature 48 = .ok (.iload_n 3, 1) := by decide +kernel
theorem d_H_readSignature_49 : decode b_H_readSignature 49 = .ok (.invokevirtual 29, 3) := by decide +kernel
theorem d_H_readSignature_52 : decode b_H_readSignature 52 = .ok (.iload_n 3, 1) := by decide +kernel
theorem d_H_readSignature_53 : decode b_H_readSignature 53 = .ok (.if_icmp .ne 7, 3) := by decide +kernel
theorem d_H_readSignature_56 : decode b_H_readSignature 56 = .ok (.iconst 1, 1) := by decide +kernel
theorem d_H_readSignature_57 : decode b_H_readSignature 57 = .ok (.goto 4, 3) := by decide +kernel
theorem d_H_readSignature_60 : decode b_H_readSignature 60 = .ok (.iconst 0, 1) := by decide +kernel
theorem d_H_readSignature_61 : decode b_H_readSignature 61 = .ok (.ireturn, 1) := by decide +kernel
theorem d_H_readPart_0 : decode b_H_readPart 0 = .ok (.iload_n 2, 1) := by decide +kernel
theorem d_H_readPart_1 : decode b_H_readPart 1 = .ok (.iconst 2, 1) := by decide +kernel
theorem d_H_readPart_2 : decode b_H_readPart 2 = .ok (.iadd, 1) := by decide +kernel
end
section
/-! the instructions -/
theorem d_H_readPart_3 : decode b_H_readPart 3 = .ok (.iload_n 3, 1) := by decide +kernel
theorem d_H_readPart_4 : decode b_H_readPart 4 = .ok (.if_icmp .gt 13, 3) := by decide +kernel
theorem d_H_readPart_7 : decode b_H_readPart 7 = .ok (.aload_n 0, 1) := by decide +kernel
theorem d_H_readPart_8 : decode b_H_readPart 8 = .ok (.getfield 9, 3) := by decide +kernel
theorem d_H_readPart_11 : decode b_H_readPart 11 = .ok (.iload_n 2, 1) := by decide +kernel
theorem d_H_readPart_12 : decode b_H_readPart 12 = .ok (.iaload, 1) := by decide +kernel
theorem d_H_readPart_13 : decode b_H_readPart 13 = .ok (.iconst 2, 1) := by decide +kernel
theorem d_H_readPart_14 : decode b_H_readPart 14 = .ok (.if_icmp .eq 5, 3) := by decide +kernel
theorem d_H_readPart_17 : decode b_H_readPart 17 = .ok (.iconst (-1), 1) := by decide +kernel
theorem d_H_readPart_18 : decode b_H_readPart 18 = .ok (.ireturn, 1) := by decide +kernel
theorem d_H_readPart_19 : decode b_H_readPart 19 = .ok (.iload_n 2, 1) := by decide +kernel
theorem d_H_readPart_20 : decode b_H_readPart 20 = .ok (.iconst 2, 1) := by decide +kernel
theorem d_H_readPart_21 : decode b_H_readPart 21 = .ok (.iadd, 1) := by decide +kernel
theorem d_H_readPart_22 : decode b_H_readPart 22 = .ok (.istore 4, 2) := by decide +kernel
theorem d_H_readPart_24 : decode b_H_readPart 24 = .ok (.aload_n 0, 1) := by decide +kernel
theorem d_H_readPart_25 : decode b_H_readPart 25 = .ok (.getfield 9, 3) := by decide +kernel
theorem d_H_readPart_28 : decode b_H_readPart 28 = .ok (.iload_n 2, 1) := by decide +kernel
theorem d_H_readPart_29 : decode b_H_readPart 29 = .ok (.iconst 1, 1) := by decide +kernel
theorem d_H_readPart_30 : decode b_H_readPart 30 = .ok (.iadd, 1) := by decide +kernel
theorem d_H_readPart_31 : decode b_H_readPart 31 = .ok (.iaload, 1) := by decide +kernel
theorem d_H_readPart_32 : decode b_H_readPart 32 = .ok (.istore 5, 2) := by decide +kernel
theorem d_H_readPart_34 : decode b_H_readPart 34 = .ok (.iload 5, 2) := by decide +kernel
theorem d_H_readPart_36 : decode b_H_readPart 36 = .ok (.iconst 1, 1) := by decide +kernel
theorem d_H_readPart_37 : decode b_H_readPart 37 = .ok (.if_icmp .lt 19, 3) := by decide +kernel
theorem d_H_readPart_40 : decode b_H_readPart 40 = .ok (.iload 5, 2) := by decide +kernel
theorem d_H_readPart_42 : decode b_H_readPart 42 = .ok (.bipush 33, 2) := by decide +kernel
theorem d_H_readPart_44 : decode b_H_readPart 44 = .ok (.if_icmp .gt 12, 3) := by decide +kernel
theorem d_H_readPart_47 : decode b_H_readPart 47 = .ok (.iload 4, 2) := by decide +kernel
theorem d_H_readPart_49 : decode b_H_readPart 49 = .ok (.iload 5, 2) := by decide +kernel
theorem d_H_readPart_51 : decode b_H_readPart 51 = .ok (.iadd, 1) := by decide +kernel
theorem d_H_readPart_52 : decode b_H_readPart 52 = .ok (.iload_n 3, 1) := by decide +kernel
theorem d_H_readPart_53 : decode b_H_readPart 53 = .ok (.if_icmp .le 5, 3) := by decide +kernel
theorem d_H_readPart_56 : decode b_H_readPart 56 = .ok (.iconst (-1), 1) := by decide +kernel
theorem d_H_readPart_57 : decode b_H_readPart 57 = .ok (.ireturn, 1) := by decide +kernel
theorem d_H_readPart_58 : decode b_H_readPart 58 = .ok (.aload_n 0, 1) := by decide +kernel
theorem d_H_readPart_59 : decode b_H_readPart 59 = .ok (.iload 4, 2) := by decide +kernel
theorem d_H_readPart_61 : decode b_H_readPart 61 = .ok (.iload 5, 2) := by decide +kernel
theorem d_H_readPart_63 : decode b_H_readPart 63 = .ok (.invokevirtual 33, 3) := by decide +kernel
theorem d_H_readPart_66 : decode b_H_readPart 66 = .ok (.ifCond .ne 5, 3) := by decide +kernel
theorem d_H_readPart_69 : decode b_H_readPart 69 = .ok (.iconst (-1), 1) := by decide +kernel
theorem d_H_readPart_70 : decode b_H_readPart 70 = .ok (.ireturn, 1) := by decide +kernel
theorem d_H_readPart_71 : decode b_H_readPart 71 = .ok (.aload_n 0, 1) := by decide +kernel
theorem d_H_readPart_72 : decode b_H_readPart 72 = .ok (.aload_n 1, 1) := by decide +kernel
theorem d_H_readPart_73 : decode b_H_readPart 73 = .ok (.iload 4, 2) := by decide +kernel
theorem d_H_readPart_75 : decode b_H_readPart 75 = .ok (.iload 5, 2) := by decide +kernel
theorem d_H_readPart_77 : decode b_H_readPart 77 = .ok (.invokevirtual 37, 3) := by decide +kernel
theorem d_H_readPart_80 : decode b_H_readPart 80 = .ok (.iload 4, 2) := by decide +kernel
theorem d_H_readPart_82 : decode b_H_readPart 82 = .ok (.iload 5, 2) := by decide +kernel
theorem d_H_readPart_84 : decode b_H_readPart 84 = .ok (.iadd, 1) := by decide +kernel
theorem d_H_readPart_85 : decode b_H_readPart 85 = .ok (.ireturn, 1) := by decide +kernel
theorem d_H_isWellWritten_0 : decode b_H_isWellWritten 0 = .ok (.aload_n 0, 1) := by decide +kernel
theorem d_H_isWellWritten_1 : decode b_H_isWellWritten 1 = .ok (.getfield 9, 3) := by decide +kernel
theorem d_H_isWellWritten_4 : decode b_H_isWellWritten 4 = .ok (.iload_n 1, 1) := by decide +kernel
theorem d_H_isWellWritten_5 : decode b_H_isWellWritten 5 = .ok (.iaload, 1) := by decide +kernel
theorem d_H_isWellWritten_6 : decode b_H_isWellWritten 6 = .ok (.istore_n 3, 1) := by decide +kernel
theorem d_H_isWellWritten_7 : decode b_H_isWellWritten 7 = .ok (.iload_n 3, 1) := by decide +kernel
theorem d_H_isWellWritten_8 : decode b_H_isWellWritten 8 = .ok (.ifCond .ne 28, 3) := by decide +kernel
theorem d_H_isWellWritten_11 : decode b_H_isWellWritten 11 = .ok (.iload_n 2, 1) := by decide +kernel
theorem d_H_isWellWritten_12 : decode b_H_isWellWritten 12 = .ok (.iconst 1, 1) := by decide +kernel
theorem d_H_isWellWritten_13 : decode b_H_isWellWritten 13 = .ok (.if_icmp .eq 17, 3) := by decide +kernel
theorem d_H_isWellWritten_16 : decode b_H_isWellWritten 16 = .ok (.aload_n 0, 1) := by decide +kernel
theorem d_H_isWellWritten_17 : decode b_H_isWellWritten 17 = .ok (.getfield 9, 3) := by decide +kernel
theorem d_H_isWellWritten_20 : decode b_H_isWellWritten 20 = .ok (.iload_n 1, 1) := by decide +kernel
theorem d_H_isWellWritten_21 : decode b_H_isWellWritten 21 = .ok (.iconst 1, 1) := by decide +kernel
theorem d_H_isWellWritten_22 : decode b_H_isWellWritten 22 = .ok (.iadd, 1) := by decide +kernel
theorem d_H_isWellWritten_23 : decode b_H_isWellWritten 23 = .ok (.iaload, 1) := by decide +kernel
theorem d_H_isWellWritten_24 : decode b_H_isWellWritten 24 = .ok (.sipush 128, 3) := by decide +kernel
theorem d_H_isWellWritten_27 : decode b_H_isWellWritten 27 = .ok (.if_icmp .lt 7, 3) := by decide +kernel
theorem d_H_isWellWritten_30 : decode b_H_isWellWritten 30 = .ok (.iconst 1, 1) := by decide +kernel
theorem d_H_isWellWritten_31 : decode b_H_isWellWritten 31 = .ok (.goto 4, 3) := by decide +kernel
theorem d_H_isWellWritten_34 : decode b_H_isWellWritten 34 = .ok (.iconst 0, 1) := by decide +kernel
theorem d_H_isWellWritten_35 : decode b_H_isWellWritten 35 = .ok (.ireturn, 1) := by decide +kernel
theorem d_H_isWellWritten_36 : decode b_H_isWellWritten 36 = .ok (.iload_n 3, 1) := by decide +kernel
theorem d_H_isWellWritten_37 : decode b_H_isWellWritten 37 = .ok (.sipush 128, 3) := by decide +kernel
theorem d_H_isWellWritten_40 : decode b_H_isWellWritten 40 = .ok (.if_icmp .ge 13, 3) := by decide +kernel
theorem d_H_isWellWritten_43 : decode b_H_isWellWritten 43 = .ok (.iload_n 2, 1) := by decide +kernel
theorem d_H_isWellWritten_44 : decode b_H_isWellWritten 44 = .ok (.bipush 32, 2) := by decide +kernel
theorem d_H_isWellWritten_46 : decode b_H_isWellWritten 46 = .ok (.if_icmp .gt 7, 3) := by decide +kernel
theorem d_H_isWellWritten_49 : decode b_H_isWellWritten 49 = .ok (.iconst 1, 1) := by decide +kernel
theorem d_H_isWellWritten_50 : decode b_H_isWellWritten 50 = .ok (.goto 4, 3) := by decide +kernel
theorem d_H_isWellWritten_53 : decode b_H_isWellWritten 53 = .ok (.iconst 0, 1) := by decide +kernel
theorem d_H_isWellWritten_54 : decode b_H_isWellWritten 54 = .ok (.ireturn, 1) := by decide +kernel
theorem d_L_copy_0 : decode b_L_copy 0 = .ok (.aload_n 1, 1) := by decide +kernel
theorem d_L_copy_1 : decode b_L_copy 1 = .ok (.iconst 0, 1) := by decide +kernel
theorem d_L_copy_2 : decode b_L_copy 2 = .ok (.aload_n 0, 1) := by decide +kernel
theorem d_L_copy_3 : decode b_L_copy 3 = .ok (.iconst 0, 1) := by decide +kernel
theorem d_L_copy_4 : decode b_L_copy 4 = .ok (.bipush 8, 2) := by decide +kernel
theorem d_L_copy_6 : decode b_L_copy 6 = .ok (.invokestatic 9, 3) := by decide +kernel
theorem d_L_copy_9 : decode b_L_copy 9 = .ok (.return_, 1) := by decide +kernel
theorem d_L_setLong_0 : decode b_L_setLong 0 = .ok (.bipush 6, 2) := by decide +kernel
theorem d_L_setLong_2 : decode b_L_setLong 2 = .ok (.iconst 2, 1) := by decide +kernel
theorem d_L_setLong_3 : decode b_L_setLong 3 = .ok (.iload_n 1, 1) := by decide +kernel
theorem d_L_setLong_4 : decode b_L_setLong 4 = .ok (.imul, 1) := by decide +kernel
theorem d_L_setLong_5 : decode b_L_setLong 5 = .ok (.isub, 1) := by decide +kernel
theorem d_L_setLong_6 : decode b_L_setLong 6 = .ok (.istore 4, 2) := by decide +kernel
theorem d_L_setLong_8 : decode b_L_setLong 8 = .ok (.aload_n 0, 1) := by decide +kernel
theorem d_L_setLong_9 : decode b_L_setLong 9 = .ok (.iload 4, 2) := by decide +kernel
theorem d_L_setLong_11 : decode b_L_setLong 11 = .ok (.lload_n 2, 1) := by decide +kernel
theorem d_L_setLong_12 : decode b_L_setLong 12 = .ok (.ldc2_w 15, 3) := by decide +kernel
theorem d_L_setLong_15 : decode b_L_setLong 15 = .ok (.land, 1) := by decide +kernel
theorem d_L_setLong_16 : decode b_L_setLong 16 = .ok (.lastore, 1) := by decide +kernel
theorem d_L_setLong_17 : decode b_L_setLong 17 = .ok (.aload_n 0, 1) := by decide +kernel
theorem d_L_setLong_18 : decode b_L_setLong 18 = .ok (.iload 4, 2) := by decide +kernel
theorem d_L_setLong_20 : decode b_L_setLong 20 = .ok (.iconst 1, 1) := by decide +kernel
theorem d_L_setLong_21 : decode b_L_setLong 21 = .ok (.iadd, 1) := by decide +kernel
theorem d_L_setLong_22 : decode b_L_setLong 22 = .ok (.lload_n 2, 1) := by decide +kernel
theorem d_L_setLong_23 : decode b_L_setLong 23 = .ok (.bipush 32, 2) := by decide +kernel
theorem d_L_setLong_25 : decode b_L_setLong 25 = .ok (.lushr, 1) := by decide +kernel
theorem d_L_setLong_26 : decode b_L_setLong 26 = .ok (.lastore, 1) := by decide +kernel
theorem d_L_setLong_27 : decode b_L_setLong 27 = .ok (.return_, 1) := by decide +kernel
theorem d_L_longOf_0 : decode b_L_longOf 0 = .ok (.bipush 6, 2) := by decide +kernel
theorem d_L_longOf_2 : decode b_L_longOf 2 = .ok (.iconst 2, 1) := by decide +kernel
theorem d_L_longOf_3 : decode b_L_longOf 3 = .ok (.iload_n 1, 1) := by decide +kernel
theorem d_L_longOf_4 : decode b_L_longOf 4 = .ok (.imul, 1) := by decide +kernel
theorem d_L_longOf_5 : decode b_L_longOf 5 = .ok (.isub, 1) := by decide +kernel
theorem d_L_longOf_6 : decode b_L_longOf 6 = .ok (.istore_n 2, 1) := by decide +kernel
theorem d_L_longOf_7 : decode b_L_longOf 7 = .ok (.aload_n 0, 1) := by decide +kernel
theorem d_L_longOf_8 : decode b_L_longOf 8 = .ok (.iload_n 2, 1) := by decide +kernel
theorem d_L_longOf_9 : decode b_L_longOf 9 = .ok (.iconst 1, 1) := by decide +kernel
theorem d_L_longOf_10 : decode b_L_longOf 10 = .ok (.iadd, 1) := by decide +kernel
theorem d_L_longOf_11 : decode b_L_longOf 11 = .ok (.laload, 1) := by decide +kernel
theorem d_L_longOf_12 : decode b_L_longOf 12 = .ok (.bipush 32, 2) := by decide +kernel
theorem d_L_longOf_14 : decode b_L_longOf 14 = .ok (.lshl, 1) := by decide +kernel
theorem d_L_longOf_15 : decode b_L_longOf 15 = .ok (.aload_n 0, 1) := by decide +kernel
theorem d_L_longOf_16 : decode b_L_longOf 16 = .ok (.iload_n 2, 1) := by decide +kernel
theorem d_L_longOf_17 : decode b_L_longOf 17 = .ok (.laload, 1) := by decide +kernel
theorem d_L_longOf_18 : decode b_L_longOf 18 = .ok (.lor, 1) := by decide +kernel
theorem d_L_longOf_19 : decode b_L_longOf 19 = .ok (.lreturn, 1) := by decide +kernel
theorem d_L_isZero_0 : decode b_L_isZero 0 = .ok (.aload_n 0, 1) := by decide +kernel
theorem d_L_isZero_1 : decode b_L_isZero 1 = .ok (.getstatic 17, 3) := by decide +kernel
theorem d_L_isZero_4 : decode b_L_isZero 4 = .ok (.invokestatic 21, 3) := by decide +kernel
theorem d_L_isZero_7 : decode b_L_isZero 7 = .ok (.ireturn, 1) := by decide +kernel
theorem d_L_isOdd_0 : decode b_L_isOdd 0 = .ok (.aload_n 0, 1) := by decide +kernel
theorem d_L_isOdd_1 : decode b_L_isOdd 1 = .ok (.iconst 0, 1) := by decide +kernel
theorem d_L_isOdd_2 : decode b_L_isOdd 2 = .ok (.laload, 1) := by decide +kernel
theorem d_L_isOdd_3 : decode b_L_isOdd 3 = .ok (.lconst 1, 1) := by decide +kernel
theorem d_L_isOdd_4 : decode b_L_isOdd 4 = .ok (.land, 1) := by decide +kernel
theorem d_L_isOdd_5 : decode b_L_isOdd 5 = .ok (.lconst 0, 1) := by decide +kernel
theorem d_L_isOdd_6 : decode b_L_isOdd 6 = .ok (.lcmp, 1) := by decide +kernel
theorem d_L_isOdd_7 : decode b_L_isOdd 7 = .ok (.ifCond .eq 7, 3) := by decide +kernel
theorem d_L_isOdd_10 : decode b_L_isOdd 10 = .ok (.iconst 1, 1) := by decide +kernel
theorem d_L_isOdd_11 : decode b_L_isOdd 11 = .ok (.goto 4, 3) := by decide +kernel
theorem d_L_isOdd_14 : decode b_L_isOdd 14 = .ok (.iconst 0, 1) := by decide +kernel
theorem d_L_isOdd_15 : decode b_L_isOdd 15 = .ok (.ireturn, 1) := by decide +kernel
theorem d_L_hasBit_0 : decode b_L_hasBit 0 = .ok (.aload_n 0, 1) := by decide +kernel
theorem d_L_hasBit_1 : decode b_L_hasBit 1 = .ok (.iload_n 1, 1) := by decide +kernel
theorem d_L_hasBit_2 : decode b_L_hasBit 2 = .ok (.bipush 32, 2) := by decide +kernel
theorem d_L_hasBit_4 : decode b_L_hasBit 4 = .ok (.idiv, 1) := by decide +kernel
theorem d_L_hasBit_5 : decode b_L_hasBit 5 = .ok (.laload, 1) := by decide +kernel
theorem d_L_hasBit_6 : decode b_L_hasBit 6 = .ok (.iload_n 1, 1) := by decide +kernel
theorem d_L_hasBit_7 : decode b_L_hasBit 7 = .ok (.bipush 32, 2) := by decide +kernel
theorem d_L_hasBit_9 : decode b_L_hasBit 9 = .ok (.irem, 1) := by decide +kernel
theorem d_L_hasBit_10 : decode b_L_hasBit 10 = .ok (.lushr, 1) := by decide +kernel
theorem d_L_hasBit_11 : decode b_L_hasBit 11 = .ok (.lconst 1, 1) := by decide +kernel
theorem d_L_hasBit_12 : decode b_L_hasBit 12 = .ok (.land, 1) := by decide +kernel
theorem d_L_hasBit_13 : decode b_L_hasBit 13 = .ok (.lconst 0, 1) := by decide +kernel
theorem d_L_hasBit_14 : decode b_L_hasBit 14 = .ok (.lcmp, 1) := by decide +kernel
theorem d_L_hasBit_15 : decode b_L_hasBit 15 = .ok (.ifCond .eq 7, 3) := by decide +kernel
theorem d_L_hasBit_18 : decode b_L_hasBit 18 = .ok (.iconst 1, 1) := by decide +kernel
theorem d_L_hasBit_19 : decode b_L_hasBit 19 = .ok (.goto 4, 3) := by decide +kernel
theorem d_L_hasBit_22 : decode b_L_hasBit 22 = .ok (.iconst 0, 1) := by decide +kernel
theorem d_L_hasBit_23 : decode b_L_hasBit 23 = .ok (.ireturn, 1) := by decide +kernel
theorem d_L_areSame_0 : decode b_L_areSame 0 = .ok (.iconst 0, 1) := by decide +kernel
theorem d_L_areSame_1 : decode b_L_areSame 1 = .ok (.istore_n 2, 1) := by decide +kernel
theorem d_L_areSame_2 : decode b_L_areSame 2 = .ok (.iload_n 2, 1) := by decide +kernel
theorem d_L_areSame_3 : decode b_L_areSame 3 = .ok (.bipush 8, 2) := by decide +kernel
theorem d_L_areSame_5 : decode b_L_areSame 5 = .ok (.if_icmp .ge 21, 3) := by decide +kernel
theorem d_L_areSame_8 : decode b_L_areSame 8 = .ok (.aload_n 0, 1) := by decide +kernel
theorem d_L_areSame_9 : decode b_L_areSame 9 = .ok (.iload_n 2, 1) := by decide +kernel
theorem d_L_areSame_10 : decode b_L_areSame 10 = .ok (.laload, 1) := by decide +kernel
theorem d_L_areSame_11 : decode b_L_areSame 11 = .ok (.aload_n 1, 1) := by decide +kernel
theorem d_L_areSame_12 : decode b_L_areSame 12 = .ok (.iload_n 2, 1) := by decide +kernel
theorem d_L_areSame_13 : decode b_L_areSame 13 = .ok (.laload, 1) := by decide +kernel
theorem d_L_areSame_14 : decode b_L_areSame 14 = .ok (.lcmp, 1) := by decide +kernel
theorem d_L_areSame_15 : decode b_L_areSame 15 = .ok (.ifCond .eq 5, 3) := by decide +kernel
theorem d_L_areSame_18 : decode b_L_areSame 18 = .ok (.iconst 0, 1) := by decide +kernel
theorem d_L_areSame_19 : decode b_L_areSame 19 = .ok (.ireturn, 1) := by decide +kernel
theorem d_L_areSame_20 : decode b_L_areSame 20 = .ok (.iinc 2 1, 3) := by decide +kernel
theorem d_L_areSame_23 : decode b_L_areSame 23 = .ok (.goto (-21), 3) := by decide +kernel
theorem d_L_areSame_26 : decode b_L_areSame 26 = .ok (.iconst 1, 1) := by decide +kernel
theorem d_L_areSame_27 : decode b_L_areSame 27 = .ok (.ireturn, 1) := by decide +kernel
theorem d_L_isBelow_0 : decode b_L_isBelow 0 = .ok (.bipush 7, 2) := by decide +kernel
theorem d_L_isBelow_2 : decode b_L_isBelow 2 = .ok (.istore_n 2, 1) := by decide +kernel
theorem d_L_isBelow_3 : decode b_L_isBelow 3 = .ok (.iload_n 2, 1) := by decide +kernel
theorem d_L_isBelow_4 : decode b_L_isBelow 4 = .ok (.ifCond .lt 35, 3) := by decide +kernel
theorem d_L_isBelow_7 : decode b_L_isBelow 7 = .ok (.aload_n 0, 1) := by decide +kernel
theorem d_L_isBelow_8 : decode b_L_isBelow 8 = .ok (.iload_n 2, 1) := by decide +kernel
theorem d_L_isBelow_9 : decode b_L_isBelow 9 = .ok (.laload, 1) := by decide +kernel
theorem d_L_isBelow_10 : decode b_L_isBelow 10 = .ok (.aload_n 1, 1) := by decide +kernel
theorem d_L_isBelow_11 : decode b_L_isBelow 11 = .ok (.iload_n 2, 1) := by decide +kernel
theorem d_L_isBelow_12 : decode b_L_isBelow 12 = .ok (.laload, 1) := by decide +kernel
theorem d_L_isBelow_13 : decode b_L_isBelow 13 = .ok (.lcmp, 1) := by decide +kernel
theorem d_L_isBelow_14 : decode b_L_isBelow 14 = .ok (.ifCond .eq 19, 3) := by decide +kernel
theorem d_L_isBelow_17 : decode b_L_isBelow 17 = .ok (.aload_n 0, 1) := by decide +kernel
theorem d_L_isBelow_18 : decode b_L_isBelow 18 = .ok (.iload_n 2, 1) := by decide +kernel
theorem d_L_isBelow_19 : decode b_L_isBelow 19 = .ok (.laload, 1) := by decide +kernel
theorem d_L_isBelow_20 : decode b_L_isBelow 20 = .ok (.aload_n 1, 1) := by decide +kernel
theorem d_L_isBelow_21 : decode b_L_isBelow 21 = .ok (.iload_n 2, 1) := by decide +kernel
theorem d_L_isBelow_22 : decode b_L_isBelow 22 = .ok (.laload, 1) := by decide +kernel
theorem d_L_isBelow_23 : decode b_L_isBelow 23 = .ok (.lcmp, 1) := by decide +kernel
theorem d_L_isBelow_24 : decode b_L_isBelow 24 = .ok (.ifCond .ge 7, 3) := by decide +kernel
theorem d_L_isBelow_27 : decode b_L_isBelow 27 = .ok (.iconst 1, 1) := by decide +kernel
theorem d_L_isBelow_28 : decode b_L_isBelow 28 = .ok (.goto 4, 3) := by decide +kernel
theorem d_L_isBelow_31 : decode b_L_isBelow 31 = .ok (.iconst 0, 1) := by decide +kernel
theorem d_L_isBelow_32 : decode b_L_isBelow 32 = .ok (.ireturn, 1) := by decide +kernel
theorem d_L_isBelow_33 : decode b_L_isBelow 33 = .ok (.iinc 2 (-1), 3) := by decide +kernel
theorem d_L_isBelow_36 : decode b_L_isBelow 36 = .ok (.goto (-33), 3) := by decide +kernel
theorem d_L_isBelow_39 : decode b_L_isBelow 39 = .ok (.iconst 0, 1) := by decide +kernel
theorem d_L_isBelow_40 : decode b_L_isBelow 40 = .ok (.ireturn, 1) := by decide +kernel
theorem d_L_add_0 : decode b_L_add 0 = .ok (.lconst 0, 1) := by decide +kernel
theorem d_L_add_1 : decode b_L_add 1 = .ok (.lstore_n 3, 1) := by decide +kernel
theorem d_L_add_2 : decode b_L_add 2 = .ok (.iconst 0, 1) := by decide +kernel
theorem d_L_add_3 : decode b_L_add 3 = .ok (.istore 5, 2) := by decide +kernel
theorem d_L_add_5 : decode b_L_add 5 = .ok (.iload 5, 2) := by decide +kernel
theorem d_L_add_7 : decode b_L_add 7 = .ok (.bipush 8, 2) := by decide +kernel
theorem d_L_add_9 : decode b_L_add 9 = .ok (.if_icmp .ge 38, 3) := by decide +kernel
theorem d_L_add_12 : decode b_L_add 12 = .ok (.aload_n 1, 1) := by decide +kernel
theorem d_L_add_13 : decode b_L_add 13 = .ok (.iload 5, 2) := by decide +kernel
theorem d_L_add_15 : decode b_L_add 15 = .ok (.laload, 1) := by decide +kernel
theorem d_L_add_16 : decode b_L_add 16 = .ok (.aload_n 2, 1) := by decide +kernel
theorem d_L_add_17 : decode b_L_add 17 = .ok (.iload 5, 2) := by decide +kernel
theorem d_L_add_19 : decode b_L_add 19 = .ok (.laload, 1) := by decide +kernel
theorem d_L_add_20 : decode b_L_add 20 = .ok (.ladd, 1) := by decide +kernel
theorem d_L_add_21 : decode b_L_add 21 = .ok (.lload_n 3, 1) := by decide +kernel
theorem d_L_add_22 : decode b_L_add 22 = .ok (.ladd, 1) := by decide +kernel
theorem d_L_add_23 : decode b_L_add 23 = .ok (.lstore 6, 2) := by decide +kernel
theorem d_L_add_25 : decode b_L_add 25 = .ok (.aload_n 0, 1) := by decide +kernel
theorem d_L_add_26 : decode b_L_add 26 = .ok (.iload 5, 2) := by decide +kernel
theorem d_L_add_28 : decode b_L_add 28 = .ok (.lload 6, 2) := by decide +kernel
theorem d_L_add_30 : decode b_L_add 30 = .ok (.ldc2_w 15, 3) := by decide +kernel
theorem d_L_add_33 : decode b_L_add 33 = .ok (.land, 1) := by decide +kernel
theorem d_L_add_34 : decode b_L_add 34 = .ok (.lastore, 1) := by decide +kernel
theorem d_L_add_35 : decode b_L_add 35 = .ok (.lload 6, 2) := by decide +kernel
theorem d_L_add_37 : decode b_L_add 37 = .ok (.bipush 32, 2) := by decide +kernel
theorem d_L_add_39 : decode b_L_add 39 = .ok (.lushr, 1) := by decide +kernel
theorem d_L_add_40 : decode b_L_add 40 = .ok (.lstore_n 3, 1) := by decide +kernel
theorem d_L_add_41 : decode b_L_add 41 = .ok (.iinc 5 1, 3) := by decide +kernel
theorem d_L_add_44 : decode b_L_add 44 = .ok (.goto (-39), 3) := by decide +kernel
theorem d_L_add_47 : decode b_L_add 47 = .ok (.lload_n 3, 1) := by decide +kernel
theorem d_L_add_48 : decode b_L_add 48 = .ok (.lreturn, 1) := by decide +kernel
theorem d_L_subtract_0 : decode b_L_subtract 0 = .ok (.lconst 0, 1) := by decide +kernel
theorem d_L_subtract_1 : decode b_L_subtract 1 = .ok (.lstore_n 3, 1) := by decide +kernel
theorem d_L_subtract_2 : decode b_L_subtract 2 = .ok (.iconst 0, 1) := by decide +kernel
theorem d_L_subtract_3 : decode b_L_subtract 3 = .ok (.istore 5, 2) := by decide +kernel
theorem d_L_subtract_5 : decode b_L_subtract 5 = .ok (.iload 5, 2) := by decide +kernel
theorem d_L_subtract_7 : decode b_L_subtract 7 = .ok (.bipush 8, 2) := by decide +kernel
theorem d_L_subtract_9 : decode b_L_subtract 9 = .ok (.if_icmp .ge 45, 3) := by decide +kernel
theorem d_L_subtract_12 : decode b_L_subtract 12 = .ok (.aload_n 1, 1) := by decide +kernel
theorem d_L_subtract_13 : decode b_L_subtract 13 = .ok (.iload 5, 2) := by decide +kernel
theorem d_L_subtract_15 : decode b_L_subtract 15 = .ok (.laload, 1) := by decide +kernel
theorem d_L_subtract_16 : decode b_L_subtract 16 = .ok (.aload_n 2, 1) := by decide +kernel
theorem d_L_subtract_17 : decode b_L_subtract 17 = .ok (.iload 5, 2) := by decide +kernel
theorem d_L_subtract_19 : decode b_L_subtract 19 = .ok (.laload, 1) := by decide +kernel
theorem d_L_subtract_20 : decode b_L_subtract 20 = .ok (.lsub, 1) := by decide +kernel
theorem d_L_subtract_21 : decode b_L_subtract 21 = .ok (.lload_n 3, 1) := by decide +kernel
theorem d_L_subtract_22 : decode b_L_subtract 22 = .ok (.lsub, 1) := by decide +kernel
theorem d_L_subtract_23 : decode b_L_subtract 23 = .ok (.lstore 6, 2) := by decide +kernel
theorem d_L_subtract_25 : decode b_L_subtract 25 = .ok (.aload_n 0, 1) := by decide +kernel
theorem d_L_subtract_26 : decode b_L_subtract 26 = .ok (.iload 5, 2) := by decide +kernel
theorem d_L_subtract_28 : decode b_L_subtract 28 = .ok (.lload 6, 2) := by decide +kernel
theorem d_L_subtract_30 : decode b_L_subtract 30 = .ok (.ldc2_w 15, 3) := by decide +kernel
theorem d_L_subtract_33 : decode b_L_subtract 33 = .ok (.land, 1) := by decide +kernel
theorem d_L_subtract_34 : decode b_L_subtract 34 = .ok (.lastore, 1) := by decide +kernel
theorem d_L_subtract_35 : decode b_L_subtract 35 = .ok (.lload 6, 2) := by decide +kernel
theorem d_L_subtract_37 : decode b_L_subtract 37 = .ok (.lconst 0, 1) := by decide +kernel
theorem d_L_subtract_38 : decode b_L_subtract 38 = .ok (.lcmp, 1) := by decide +kernel
theorem d_L_subtract_39 : decode b_L_subtract 39 = .ok (.ifCond .ge 7, 3) := by decide +kernel
theorem d_L_subtract_42 : decode b_L_subtract 42 = .ok (.lconst 1, 1) := by decide +kernel
theorem d_L_subtract_43 : decode b_L_subtract 43 = .ok (.goto 4, 3) := by decide +kernel
theorem d_L_subtract_46 : decode b_L_subtract 46 = .ok (.lconst 0, 1) := by decide +kernel
theorem d_L_subtract_47 : decode b_L_subtract 47 = .ok (.lstore_n 3, 1) := by decide +kernel
theorem d_L_subtract_48 : decode b_L_subtract 48 = .ok (.iinc 5 1, 3) := by decide +kernel
theorem d_L_subtract_51 : decode b_L_subtract 51 = .ok (.goto (-46), 3) := by decide +kernel
theorem d_L_subtract_54 : decode b_L_subtract 54 = .ok (.lload_n 3, 1) := by decide +kernel
theorem d_L_subtract_55 : decode b_L_subtract 55 = .ok (.lreturn, 1) := by decide +kernel
theorem d_M_init_0 : decode b_M_init 0 = .ok (.aload_n 0, 1) := by decide +kernel
theorem d_M_init_1 : decode b_M_init 1 = .ok (.invokespecial 3, 3) := by decide +kernel
theorem d_M_init_4 : decode b_M_init 4 = .ok (.aload_n 0, 1) := by decide +kernel
theorem d_M_init_5 : decode b_M_init 5 = .ok (.bipush 16, 2) := by decide +kernel
theorem d_M_init_7 : decode b_M_init 7 = .ok (.newarray .long, 2) := by decide +kernel
theorem d_M_init_9 : decode b_M_init 9 = .ok (.putfield 9, 3) := by decide +kernel
theorem d_M_init_12 : decode b_M_init 12 = .ok (.aload_n 0, 1) := by decide +kernel
theorem d_M_init_13 : decode b_M_init 13 = .ok (.bipush 8, 2) := by decide +kernel
theorem d_M_init_15 : decode b_M_init 15 = .ok (.newarray .long, 2) := by decide +kernel
theorem d_M_init_17 : decode b_M_init 17 = .ok (.putfield 15, 3) := by decide +kernel
theorem d_M_init_20 : decode b_M_init 20 = .ok (.aload_n 0, 1) := by decide +kernel
theorem d_M_init_21 : decode b_M_init 21 = .ok (.bipush 8, 2) := by decide +kernel
theorem d_M_init_23 : decode b_M_init 23 = .ok (.newarray .long, 2) := by decide +kernel
theorem d_M_init_25 : decode b_M_init 25 = .ok (.putfield 18, 3) := by decide +kernel
theorem d_M_init_28 : decode b_M_init 28 = .ok (.aload_n 0, 1) := by decide +kernel
theorem d_M_init_29 : decode b_M_init 29 = .ok (.aload_n 1, 1) := by decide +kernel
theorem d_M_init_30 : decode b_M_init 30 = .ok (.putfield 21, 3) := by decide +kernel
theorem d_M_init_33 : decode b_M_init 33 = .ok (.aload_n 0, 1) := by decide +kernel
theorem d_M_init_34 : decode b_M_init 34 = .ok (.aload_n 2, 1) := by decide +kernel
theorem d_M_init_35 : decode b_M_init 35 = .ok (.putfield 24, 3) := by decide +kernel
theorem d_M_init_38 : decode b_M_init 38 = .ok (.aload_n 0, 1) := by decide +kernel
theorem d_M_init_39 : decode b_M_init 39 = .ok (.aload_n 3, 1) := by decide +kernel
theorem d_M_init_40 : decode b_M_init 40 = .ok (.putfield 27, 3) := by decide +kernel
theorem d_M_init_43 : decode b_M_init 43 = .ok (.return_, 1) := by decide +kernel
theorem d_M_isAbove_0 : decode b_M_isAbove 0 = .ok (.aload_n 1, 1) := by decide +kernel
theorem d_M_isAbove_1 : decode b_M_isAbove 1 = .ok (.aload_n 0, 1) := by decide +kernel
theorem d_M_isAbove_2 : decode b_M_isAbove 2 = .ok (.getfield 21, 3) := by decide +kernel
theorem d_M_isAbove_5 : decode b_M_isAbove 5 = .ok (.invokestatic 30, 3) := by decide +kernel
theorem d_M_isAbove_8 : decode b_M_isAbove 8 = .ok (.ireturn, 1) := by decide +kernel
theorem d_M_bringBelow_0 : decode b_M_bringBelow 0 = .ok (.aload_n 0, 1) := by decide +kernel
theorem d_M_bringBelow_1 : decode b_M_bringBelow 1 = .ok (.aload_n 1, 1) := by decide +kernel
theorem d_M_bringBelow_2 : decode b_M_bringBelow 2 = .ok (.invokevirtual 36, 3) := by decide +kernel
theorem d_M_bringBelow_5 : decode b_M_bringBelow 5 = .ok (.ifCond .ne 13, 3) := by decide +kernel
theorem d_M_bringBelow_8 : decode b_M_bringBelow 8 = .ok (.aload_n 1, 1) := by decide +kernel
theorem d_M_bringBelow_9 : decode b_M_bringBelow 9 = .ok (.aload_n 1, 1) := by decide +kernel
theorem d_M_bringBelow_10 : decode b_M_bringBelow 10 = .ok (.aload_n 0, 1) := by decide +kernel
theorem d_M_bringBelow_11 : decode b_M_bringBelow 11 = .ok (.getfield 21, 3) := by decide +kernel
theorem d_M_bringBelow_14 : decode b_M_bringBelow 14 = .ok (.invokestatic 40, 3) := by decide +kernel
theorem d_M_bringBelow_17 : decode b_M_bringBelow 17 = .ok (.pop2, 1) := by decide +kernel
theorem d_M_bringBelow_18 : decode b_M_bringBelow 18 = .ok (.return_, 1) := by decide +kernel
theorem d_M_add_0 : decode b_M_add 0 = .ok (.aload_n 1, 1) := by decide +kernel
theorem d_M_add_1 : decode b_M_add 1 = .ok (.aload_n 2, 1) := by decide +kernel
theorem d_M_add_2 : decode b_M_add 2 = .ok (.aload_n 3, 1) := by decide +kernel
theorem d_M_add_3 : decode b_M_add 3 = .ok (.invokestatic 44, 3) := by decide +kernel
theorem d_M_add_6 : decode b_M_add 6 = .ok (.lstore 4, 2) := by decide +kernel
theorem d_M_add_8 : decode b_M_add 8 = .ok (.lload 4, 2) := by decide +kernel
theorem d_M_add_10 : decode b_M_add 10 = .ok (.lconst 0, 1) := by decide +kernel
theorem d_M_add_11 : decode b_M_add 11 = .ok (.lcmp, 1) := by decide +kernel
theorem d_M_add_12 : decode b_M_add 12 = .ok (.ifCond .ne 11, 3) := by decide +kernel
theorem d_M_add_15 : decode b_M_add 15 = .ok (.aload_n 0, 1) := by decide +kernel
theorem d_M_add_16 : decode b_M_add 16 = .ok (.aload_n 1, 1) := by decide +kernel
theorem d_M_add_17 : decode b_M_add 17 = .ok (.invokevirtual 36, 3) := by decide +kernel
theorem d_M_add_20 : decode b_M_add 20 = .ok (.ifCond .ne 13, 3) := by decide +kernel
theorem d_M_add_23 : decode b_M_add 23 = .ok (.aload_n 1, 1) := by decide +kernel
theorem d_M_add_24 : decode b_M_add 24 = .ok (.aload_n 1, 1) := by decide +kernel
theorem d_M_add_25 : decode b_M_add 25 = .ok (.aload_n 0, 1) := by decide +kernel
theorem d_M_add_26 : decode b_M_add 26 = .ok (.getfield 21, 3) := by decide +kernel
theorem d_M_add_29 : decode b_M_add 29 = .ok (.invokestatic 40, 3) := by decide +kernel
theorem d_M_add_32 : decode b_M_add 32 = .ok (.pop2, 1) := by decide +kernel
theorem d_M_add_33 : decode b_M_add 33 = .ok (.return_, 1) := by decide +kernel
theorem d_M_subtract_0 : decode b_M_subtract 0 = .ok (.aload_n 1, 1) := by decide +kernel
theorem d_M_subtract_1 : decode b_M_subtract 1 = .ok (.aload_n 2, 1) := by decide +kernel
theorem d_M_subtract_2 : decode b_M_subtract 2 = .ok (.aload_n 3, 1) := by decide +kernel
theorem d_M_subtract_3 : decode b_M_subtract 3 = .ok (.invokestatic 40, 3) := by decide +kernel
theorem d_M_subtract_6 : decode b_M_subtract 6 = .ok (.lstore 4, 2) := by decide +kernel
theorem d_M_subtract_8 : decode b_M_subtract 8 = .ok (.lload 4, 2) := by decide +kernel
theorem d_M_subtract_10 : decode b_M_subtract 10 = .ok (.lconst 0, 1) := by decide +kernel
theorem d_M_subtract_11 : decode b_M_subtract 11 = .ok (.lcmp, 1) := by decide +kernel
theorem d_M_subtract_12 : decode b_M_subtract 12 = .ok (.ifCond .eq 13, 3) := by decide +kernel
theorem d_M_subtract_15 : decode b_M_subtract 15 = .ok (.aload_n 1, 1) := by decide +kernel
theorem d_M_subtract_16 : decode b_M_subtract 16 = .ok (.aload_n 1, 1) := by decide +kernel
theorem d_M_subtract_17 : decode b_M_subtract 17 = .ok (.aload_n 0, 1) := by decide +kernel
theorem d_M_subtract_18 : decode b_M_subtract 18 = .ok (.getfield 21, 3) := by decide +kernel
theorem d_M_subtract_21 : decode b_M_subtract 21 = .ok (.invokestatic 44, 3) := by decide +kernel
theorem d_M_subtract_24 : decode b_M_subtract 24 = .ok (.pop2, 1) := by decide +kernel
theorem d_M_subtract_25 : decode b_M_subtract 25 = .ok (.return_, 1) := by decide +kernel
theorem d_M_multiply_0 : decode b_M_multiply 0 = .ok (.iconst 0, 1) := by decide +kernel
theorem d_M_multiply_1 : decode b_M_multiply 1 = .ok (.istore 4, 2) := by decide +kernel
theorem d_M_multiply_3 : decode b_M_multiply 3 = .ok (.iload 4, 2) := by decide +kernel
theorem d_M_multiply_5 : decode b_M_multiply 5 = .ok (.aload_n 0, 1) := by decide +kernel
theorem d_M_multiply_6 : decode b_M_multiply 6 = .ok (.getfield 9, 3) := by decide +kernel
theorem d_M_multiply_9 : decode b_M_multiply 9 = .ok (.arraylength, 1) := by decide +kernel
theorem d_M_multiply_10 : decode b_M_multiply 10 = .ok (.if_icmp .ge 17, 3) := by decide +kernel
theorem d_M_multiply_13 : decode b_M_multiply 13 = .ok (.aload_n 0, 1) := by decide +kernel
theorem d_M_multiply_14 : decode b_M_multiply 14 = .ok (.getfield 9, 3) := by decide +kernel
theorem d_M_multiply_17 : decode b_M_multiply 17 = .ok (.iload 4, 2) := by decide +kernel
theorem d_M_multiply_19 : decode b_M_multiply 19 = .ok (.lconst 0, 1) := by decide +kernel
theorem d_M_multiply_20 : decode b_M_multiply 20 = .ok (.lastore, 1) := by decide +kernel
theorem d_M_multiply_21 : decode b_M_multiply 21 = .ok (.iinc 4 1, 3) := by decide +kernel
theorem d_M_multiply_24 : decode b_M_multiply 24 = .ok (.goto (-21), 3) := by decide +kernel
theorem d_M_multiply_27 : decode b_M_multiply 27 = .ok (.iconst 0, 1) := by decide +kernel
theorem d_M_multiply_28 : decode b_M_multiply 28 = .ok (.istore 4, 2) := by decide +kernel
theorem d_M_multiply_30 : decode b_M_multiply 30 = .ok (.iload 4, 2) := by decide +kernel
theorem d_M_multiply_32 : decode b_M_multiply 32 = .ok (.bipush 8, 2) := by decide +kernel
theorem d_M_multiply_34 : decode b_M_multiply 34 = .ok (.if_icmp .ge 22, 3) := by decide +kernel
theorem d_M_multiply_37 : decode b_M_multiply 37 = .ok (.aload_n 0, 1) := by decide +kernel
theorem d_M_multiply_38 : decode b_M_multiply 38 = .ok (.aload_n 2, 1) := by decide +kernel
theorem d_M_multiply_39 : decode b_M_multiply 39 = .ok (.iload 4, 2) := by decide +kernel
theorem d_M_multiply_41 : decode b_M_multiply 41 = .ok (.laload, 1) := by decide +kernel
theorem d_M_multiply_42 : decode b_M_multiply 42 = .ok (.aload_n 3, 1) := by decide +kernel
theorem d_M_multiply_43 : decode b_M_multiply 43 = .ok (.bipush 8, 2) := by decide +kernel
theorem d_M_multiply_45 : decode b_M_multiply 45 = .ok (.iload 4, 2) := by decide +kernel
theorem d_M_multiply_47 : decode b_M_multiply 47 = .ok (.invokevirtual 47, 3) := by decide +kernel
theorem d_M_multiply_50 : decode b_M_multiply 50 = .ok (.iinc 4 1, 3) := by decide +kernel
theorem d_M_multiply_53 : decode b_M_multiply 53 = .ok (.goto (-23), 3) := by decide +kernel
theorem d_M_multiply_56 : decode b_M_multiply 56 = .ok (.aload_n 0, 1) := by decide +kernel
theorem d_M_multiply_57 : decode b_M_multiply 57 = .ok (.bipush 8, 2) := by decide +kernel
theorem d_M_multiply_59 : decode b_M_multiply 59 = .ok (.invokevirtual 51, 3) := by decide +kernel
theorem d_M_multiply_62 : decode b_M_multiply 62 = .ok (.aload_n 0, 1) := by decide +kernel
theorem d_M_multiply_63 : decode b_M_multiply 63 = .ok (.aload_n 0, 1) := by decide +kernel
theorem d_M_multiply_64 : decode b_M_multiply 64 = .ok (.getfield 24, 3) := by decide +kernel
theorem d_M_multiply_67 : decode b_M_multiply 67 = .ok (.arraylength, 1) := by decide +kernel
theorem d_M_multiply_68 : decode b_M_multiply 68 = .ok (.invokevirtual 51, 3) := by decide +kernel
theorem d_M_multiply_71 : decode b_M_multiply 71 = .ok (.aload_n 0, 1) := by decide +kernel
theorem d_M_multiply_72 : decode b_M_multiply 72 = .ok (.iconst 1, 1) := by decide +kernel
theorem d_M_multiply_73 : decode b_M_multiply 73 = .ok (.invokevirtual 51, 3) := by decide +kernel
theorem d_M_multiply_76 : decode b_M_multiply 76 = .ok (.aload_n 0, 1) := by decide +kernel
theorem d_M_multiply_77 : decode b_M_multiply 77 = .ok (.iconst 1, 1) := by decide +kernel
theorem d_M_multiply_78 : decode b_M_multiply 78 = .ok (.invokevirtual 51, 3) := by decide +kernel
theorem d_M_multiply_81 : decode b_M_multiply 81 = .ok (.aload_n 1, 1) := by decide +kernel
theorem d_M_multiply_82 : decode b_M_multiply 82 = .ok (.aload_n 0, 1) := by decide +kernel
theorem d_M_multiply_83 : decode b_M_multiply 83 = .ok (.getfield 9, 3) := by decide +kernel
theorem d_M_multiply_86 : decode b_M_multiply 86 = .ok (.invokestatic 55, 3) := by decide +kernel
theorem d_M_multiply_89 : decode b_M_multiply 89 = .ok (.aload_n 0, 1) := by decide +kernel
theorem d_M_multiply_90 : decode b_M_multiply 90 = .ok (.aload_n 1, 1) := by decide +kernel
theorem d_M_multiply_91 : decode b_M_multiply 91 = .ok (.invokevirtual 59, 3) := by decide +kernel
theorem d_M_multiply_94 : decode b_M_multiply 94 = .ok (.return_, 1) := by decide +kernel
theorem d_M_invert_0 : decode b_M_invert 0 = .ok (.aload_n 0, 1) := by decide +kernel
theorem d_M_invert_1 : decode b_M_invert 1 = .ok (.aload_n 1, 1) := by decide +kernel
theorem d_M_invert_2 : decode b_M_invert 2 = .ok (.aload_n 2, 1) := by decide +kernel
theorem d_M_invert_3 : decode b_M_invert 3 = .ok (.aload_n 0, 1) := by decide +kernel
theorem d_M_invert_4 : decode b_M_invert 4 = .ok (.getfield 27, 3) := by decide +kernel
theorem d_M_invert_7 : decode b_M_invert 7 = .ok (.invokevirtual 63, 3) := by decide +kernel
theorem d_M_invert_10 : decode b_M_invert 10 = .ok (.return_, 1) := by decide +kernel
theorem d_M_raise_0 : decode b_M_raise 0 = .ok (.aload_n 0, 1) := by decide +kernel
theorem d_M_raise_1 : decode b_M_raise 1 = .ok (.getfield 18, 3) := by decide +kernel
theorem d_M_raise_4 : decode b_M_raise 4 = .ok (.getstatic 67, 3) := by decide +kernel
theorem d_M_raise_7 : decode b_M_raise 7 = .ok (.invokestatic 55, 3) := by decide +kernel
theorem d_M_raise_10 : decode b_M_raise 10 = .ok (.sipush 255, 3) := by decide +kernel
theorem d_M_raise_13 : decode b_M_raise 13 = .ok (.istore 4, 2) := by decide +kernel
theorem d_M_raise_15 : decode b_M_raise 15 = .ok (.iload 4, 2) := by decide +kernel
theorem d_M_raise_17 : decode b_M_raise 17 = .ok (.ifCond .lt 47, 3) := by decide +kernel
theorem d_M_raise_20 : decode b_M_raise 20 = .ok (.aload_n 0, 1) := by decide +kernel
theorem d_M_raise_21 : decode b_M_raise 21 = .ok (.aload_n 0, 1) := by decide +kernel
theorem d_M_raise_22 : decode b_M_raise 22 = .ok (.getfield 18, 3) := by decide +kernel
end
section
/-! the instructions -/
theorem d_M_raise_25 : decode b_M_raise 25 = .ok (.aload_n 0, 1) := by decide +kernel
theorem d_M_raise_26 : decode b_M_raise 26 = .ok (.getfield 18, 3) := by decide +kernel
theorem d_M_raise_29 : decode b_M_raise 29 = .ok (.aload_n 0, 1) := by decide +kernel
theorem d_M_raise_30 : decode b_M_raise 30 = .ok (.getfield 18, 3) := by decide +kernel
theorem d_M_raise_33 : decode b_M_raise 33 = .ok (.invokevirtual 70, 3) := by decide +kernel
theorem d_M_raise_36 : decode b_M_raise 36 = .ok (.aload_n 3, 1) := by decide +kernel
theorem d_M_raise_37 : decode b_M_raise 37 = .ok (.iload 4, 2) := by decide +kernel
theorem d_M_raise_39 : decode b_M_raise 39 = .ok (.invokestatic 73, 3) := by decide +kernel
theorem d_M_raise_42 : decode b_M_raise 42 = .ok (.ifCond .eq 16, 3) := by decide +kernel
theorem d_M_raise_45 : decode b_M_raise 45 = .ok (.aload_n 0, 1) := by decide +kernel
theorem d_M_raise_46 : decode b_M_raise 46 = .ok (.aload_n 0, 1) := by decide +kernel
theorem d_M_raise_47 : decode b_M_raise 47 = .ok (.getfield 18, 3) := by decide +kernel
theorem d_M_raise_50 : decode b_M_raise 50 = .ok (.aload_n 0, 1) := by decide +kernel
theorem d_M_raise_51 : decode b_M_raise 51 = .ok (.getfield 18, 3) := by decide +kernel
theorem d_M_raise_54 : decode b_M_raise 54 = .ok (.aload_n 2, 1) := by decide +kernel
theorem d_M_raise_55 : decode b_M_raise 55 = .ok (.invokevirtual 70, 3) := by decide +kernel
theorem d_M_raise_58 : decode b_M_raise 58 = .ok (.iinc 4 (-1), 3) := by decide +kernel
theorem d_M_raise_61 : decode b_M_raise 61 = .ok (.goto (-46), 3) := by decide +kernel
theorem d_M_raise_64 : decode b_M_raise 64 = .ok (.aload_n 1, 1) := by decide +kernel
theorem d_M_raise_65 : decode b_M_raise 65 = .ok (.aload_n 0, 1) := by decide +kernel
theorem d_M_raise_66 : decode b_M_raise 66 = .ok (.getfield 18, 3) := by decide +kernel
theorem d_M_raise_69 : decode b_M_raise 69 = .ok (.invokestatic 55, 3) := by decide +kernel
theorem d_M_raise_72 : decode b_M_raise 72 = .ok (.return_, 1) := by decide +kernel
theorem d_M_fold_0 : decode b_M_fold 0 = .ok (.iconst 0, 1) := by decide +kernel
theorem d_M_fold_1 : decode b_M_fold 1 = .ok (.istore_n 2, 1) := by decide +kernel
theorem d_M_fold_2 : decode b_M_fold 2 = .ok (.iload_n 2, 1) := by decide +kernel
theorem d_M_fold_3 : decode b_M_fold 3 = .ok (.iload_n 1, 1) := by decide +kernel
theorem d_M_fold_4 : decode b_M_fold 4 = .ok (.if_icmp .ge 34, 3) := by decide +kernel
theorem d_M_fold_7 : decode b_M_fold 7 = .ok (.aload_n 0, 1) := by decide +kernel
theorem d_M_fold_8 : decode b_M_fold 8 = .ok (.getfield 15, 3) := by decide +kernel
theorem d_M_fold_11 : decode b_M_fold 11 = .ok (.iload_n 2, 1) := by decide +kernel
theorem d_M_fold_12 : decode b_M_fold 12 = .ok (.aload_n 0, 1) := by decide +kernel
theorem d_M_fold_13 : decode b_M_fold 13 = .ok (.getfield 9, 3) := by decide +kernel
theorem d_M_fold_16 : decode b_M_fold 16 = .ok (.bipush 8, 2) := by decide +kernel
theorem d_M_fold_18 : decode b_M_fold 18 = .ok (.iload_n 2, 1) := by decide +kernel
theorem d_M_fold_19 : decode b_M_fold 19 = .ok (.iadd, 1) := by decide +kernel
theorem d_M_fold_20 : decode b_M_fold 20 = .ok (.laload, 1) := by decide +kernel
theorem d_M_fold_21 : decode b_M_fold 21 = .ok (.lastore, 1) := by decide +kernel
theorem d_M_fold_22 : decode b_M_fold 22 = .ok (.aload_n 0, 1) := by decide +kernel
theorem d_M_fold_23 : decode b_M_fold 23 = .ok (.getfield 9, 3) := by decide +kernel
theorem d_M_fold_26 : decode b_M_fold 26 = .ok (.bipush 8, 2) := by decide +kernel
theorem d_M_fold_28 : decode b_M_fold 28 = .ok (.iload_n 2, 1) := by decide +kernel
theorem d_M_fold_29 : decode b_M_fold 29 = .ok (.iadd, 1) := by decide +kernel
theorem d_M_fold_30 : decode b_M_fold 30 = .ok (.lconst 0, 1) := by decide +kernel
theorem d_M_fold_31 : decode b_M_fold 31 = .ok (.lastore, 1) := by decide +kernel
theorem d_M_fold_32 : decode b_M_fold 32 = .ok (.iinc 2 1, 3) := by decide +kernel
theorem d_M_fold_35 : decode b_M_fold 35 = .ok (.goto (-33), 3) := by decide +kernel
theorem d_M_fold_38 : decode b_M_fold 38 = .ok (.iconst 0, 1) := by decide +kernel
theorem d_M_fold_39 : decode b_M_fold 39 = .ok (.istore_n 2, 1) := by decide +kernel
theorem d_M_fold_40 : decode b_M_fold 40 = .ok (.iload_n 2, 1) := by decide +kernel
theorem d_M_fold_41 : decode b_M_fold 41 = .ok (.aload_n 0, 1) := by decide +kernel
theorem d_M_fold_42 : decode b_M_fold 42 = .ok (.getfield 24, 3) := by decide +kernel
theorem d_M_fold_45 : decode b_M_fold 45 = .ok (.arraylength, 1) := by decide +kernel
theorem d_M_fold_46 : decode b_M_fold 46 = .ok (.if_icmp .ge 25, 3) := by decide +kernel
theorem d_M_fold_49 : decode b_M_fold 49 = .ok (.aload_n 0, 1) := by decide +kernel
theorem d_M_fold_50 : decode b_M_fold 50 = .ok (.aload_n 0, 1) := by decide +kernel
theorem d_M_fold_51 : decode b_M_fold 51 = .ok (.getfield 24, 3) := by decide +kernel
theorem d_M_fold_54 : decode b_M_fold 54 = .ok (.iload_n 2, 1) := by decide +kernel
theorem d_M_fold_55 : decode b_M_fold 55 = .ok (.laload, 1) := by decide +kernel
theorem d_M_fold_56 : decode b_M_fold 56 = .ok (.aload_n 0, 1) := by decide +kernel
theorem d_M_fold_57 : decode b_M_fold 57 = .ok (.getfield 15, 3) := by decide +kernel
theorem d_M_fold_60 : decode b_M_fold 60 = .ok (.iload_n 1, 1) := by decide +kernel
theorem d_M_fold_61 : decode b_M_fold 61 = .ok (.iload_n 2, 1) := by decide +kernel
theorem d_M_fold_62 : decode b_M_fold 62 = .ok (.invokevirtual 47, 3) := by decide +kernel
theorem d_M_fold_65 : decode b_M_fold 65 = .ok (.iinc 2 1, 3) := by decide +kernel
theorem d_M_fold_68 : decode b_M_fold 68 = .ok (.goto (-28), 3) := by decide +kernel
theorem d_M_fold_71 : decode b_M_fold 71 = .ok (.return_, 1) := by decide +kernel
theorem d_M_addProduct_0 : decode b_M_addProduct 0 = .ok (.lconst 0, 1) := by decide +kernel
theorem d_M_addProduct_1 : decode b_M_addProduct 1 = .ok (.lstore 6, 2) := by decide +kernel
theorem d_M_addProduct_3 : decode b_M_addProduct 3 = .ok (.iload 5, 2) := by decide +kernel
theorem d_M_addProduct_5 : decode b_M_addProduct 5 = .ok (.istore 8, 2) := by decide +kernel
theorem d_M_addProduct_7 : decode b_M_addProduct 7 = .ok (.iconst 0, 1) := by decide +kernel
theorem d_M_addProduct_8 : decode b_M_addProduct 8 = .ok (.istore 9, 2) := by decide +kernel
theorem d_M_addProduct_10 : decode b_M_addProduct 10 = .ok (.iload 9, 2) := by decide +kernel
theorem d_M_addProduct_12 : decode b_M_addProduct 12 = .ok (.iload 4, 2) := by decide +kernel
theorem d_M_addProduct_14 : decode b_M_addProduct 14 = .ok (.if_icmp .ge 51, 3) := by decide +kernel
theorem d_M_addProduct_17 : decode b_M_addProduct 17 = .ok (.lload_n 1, 1) := by decide +kernel
theorem d_M_addProduct_18 : decode b_M_addProduct 18 = .ok (.aload_n 3, 1) := by decide +kernel
theorem d_M_addProduct_19 : decode b_M_addProduct 19 = .ok (.iload 9, 2) := by decide +kernel
theorem d_M_addProduct_21 : decode b_M_addProduct 21 = .ok (.laload, 1) := by decide +kernel
theorem d_M_addProduct_22 : decode b_M_addProduct 22 = .ok (.lmul, 1) := by decide +kernel
theorem d_M_addProduct_23 : decode b_M_addProduct 23 = .ok (.aload_n 0, 1) := by decide +kernel
theorem d_M_addProduct_24 : decode b_M_addProduct 24 = .ok (.getfield 9, 3) := by decide +kernel
theorem d_M_addProduct_27 : decode b_M_addProduct 27 = .ok (.iload 8, 2) := by decide +kernel
theorem d_M_addProduct_29 : decode b_M_addProduct 29 = .ok (.laload, 1) := by decide +kernel
theorem d_M_addProduct_30 : decode b_M_addProduct 30 = .ok (.ladd, 1) := by decide +kernel
theorem d_M_addProduct_31 : decode b_M_addProduct 31 = .ok (.lload 6, 2) := by decide +kernel
theorem d_M_addProduct_33 : decode b_M_addProduct 33 = .ok (.ladd, 1) := by decide +kernel
theorem d_M_addProduct_34 : decode b_M_addProduct 34 = .ok (.lstore 10, 2) := by decide +kernel
theorem d_M_addProduct_36 : decode b_M_addProduct 36 = .ok (.aload_n 0, 1) := by decide +kernel
theorem d_M_addProduct_37 : decode b_M_addProduct 37 = .ok (.getfield 9, 3) := by decide +kernel
theorem d_M_addProduct_40 : decode b_M_addProduct 40 = .ok (.iload 8, 2) := by decide +kernel
theorem d_M_addProduct_42 : decode b_M_addProduct 42 = .ok (.lload 10, 2) := by decide +kernel
theorem d_M_addProduct_44 : decode b_M_addProduct 44 = .ok (.ldc2_w 77, 3) := by decide +kernel
theorem d_M_addProduct_47 : decode b_M_addProduct 47 = .ok (.land, 1) := by decide +kernel
theorem d_M_addProduct_48 : decode b_M_addProduct 48 = .ok (.lastore, 1) := by decide +kernel
theorem d_M_addProduct_49 : decode b_M_addProduct 49 = .ok (.lload 10, 2) := by decide +kernel
theorem d_M_addProduct_51 : decode b_M_addProduct 51 = .ok (.bipush 32, 2) := by decide +kernel
theorem d_M_addProduct_53 : decode b_M_addProduct 53 = .ok (.lushr, 1) := by decide +kernel
theorem d_M_addProduct_54 : decode b_M_addProduct 54 = .ok (.lstore 6, 2) := by decide +kernel
theorem d_M_addProduct_56 : decode b_M_addProduct 56 = .ok (.iinc 8 1, 3) := by decide +kernel
theorem d_M_addProduct_59 : decode b_M_addProduct 59 = .ok (.iinc 9 1, 3) := by decide +kernel
theorem d_M_addProduct_62 : decode b_M_addProduct 62 = .ok (.goto (-52), 3) := by decide +kernel
theorem d_M_addProduct_65 : decode b_M_addProduct 65 = .ok (.lload 6, 2) := by decide +kernel
theorem d_M_addProduct_67 : decode b_M_addProduct 67 = .ok (.lconst 0, 1) := by decide +kernel
theorem d_M_addProduct_68 : decode b_M_addProduct 68 = .ok (.lcmp, 1) := by decide +kernel
theorem d_M_addProduct_69 : decode b_M_addProduct 69 = .ok (.ifCond .eq 51, 3) := by decide +kernel
theorem d_M_addProduct_72 : decode b_M_addProduct 72 = .ok (.iload 8, 2) := by decide +kernel
theorem d_M_addProduct_74 : decode b_M_addProduct 74 = .ok (.aload_n 0, 1) := by decide +kernel
theorem d_M_addProduct_75 : decode b_M_addProduct 75 = .ok (.getfield 9, 3) := by decide +kernel
theorem d_M_addProduct_78 : decode b_M_addProduct 78 = .ok (.arraylength, 1) := by decide +kernel
theorem d_M_addProduct_79 : decode b_M_addProduct 79 = .ok (.if_icmp .ge 41, 3) := by decide +kernel
theorem d_M_addProduct_82 : decode b_M_addProduct 82 = .ok (.aload_n 0, 1) := by decide +kernel
theorem d_M_addProduct_83 : decode b_M_addProduct 83 = .ok (.getfield 9, 3) := by decide +kernel
theorem d_M_addProduct_86 : decode b_M_addProduct 86 = .ok (.iload 8, 2) := by decide +kernel
theorem d_M_addProduct_88 : decode b_M_addProduct 88 = .ok (.laload, 1) := by decide +kernel
theorem d_M_addProduct_89 : decode b_M_addProduct 89 = .ok (.lload 6, 2) := by decide +kernel
theorem d_M_addProduct_91 : decode b_M_addProduct 91 = .ok (.ladd, 1) := by decide +kernel
theorem d_M_addProduct_92 : decode b_M_addProduct 92 = .ok (.lstore 9, 2) := by decide +kernel
theorem d_M_addProduct_94 : decode b_M_addProduct 94 = .ok (.aload_n 0, 1) := by decide +kernel
theorem d_M_addProduct_95 : decode b_M_addProduct 95 = .ok (.getfield 9, 3) := by decide +kernel
theorem d_M_addProduct_98 : decode b_M_addProduct 98 = .ok (.iload 8, 2) := by decide +kernel
theorem d_M_addProduct_100 : decode b_M_addProduct 100 = .ok (.lload 9, 2) := by decide +kernel
theorem d_M_addProduct_102 : decode b_M_addProduct 102 = .ok (.ldc2_w 77, 3) := by decide +kernel
theorem d_M_addProduct_105 : decode b_M_addProduct 105 = .ok (.land, 1) := by decide +kernel
theorem d_M_addProduct_106 : decode b_M_addProduct 106 = .ok (.lastore, 1) := by decide +kernel
theorem d_M_addProduct_107 : decode b_M_addProduct 107 = .ok (.lload 9, 2) := by decide +kernel
theorem d_M_addProduct_109 : decode b_M_addProduct 109 = .ok (.bipush 32, 2) := by decide +kernel
theorem d_M_addProduct_111 : decode b_M_addProduct 111 = .ok (.lushr, 1) := by decide +kernel
theorem d_M_addProduct_112 : decode b_M_addProduct 112 = .ok (.lstore 6, 2) := by decide +kernel
theorem d_M_addProduct_114 : decode b_M_addProduct 114 = .ok (.iinc 8 1, 3) := by decide +kernel
theorem d_M_addProduct_117 : decode b_M_addProduct 117 = .ok (.goto (-52), 3) := by decide +kernel
theorem d_M_addProduct_120 : decode b_M_addProduct 120 = .ok (.return_, 1) := by decide +kernel
theorem d_P_init_0 : decode b_P_init 0 = .ok (.aload_n 0, 1) := by decide +kernel
theorem d_P_init_1 : decode b_P_init 1 = .ok (.invokespecial 3, 3) := by decide +kernel
theorem d_P_init_4 : decode b_P_init 4 = .ok (.aload_n 0, 1) := by decide +kernel
theorem d_P_init_5 : decode b_P_init 5 = .ok (.iconst 1, 1) := by decide +kernel
theorem d_P_init_6 : decode b_P_init 6 = .ok (.putfield 9, 3) := by decide +kernel
theorem d_P_init_9 : decode b_P_init 9 = .ok (.aload_n 0, 1) := by decide +kernel
theorem d_P_init_10 : decode b_P_init 10 = .ok (.bipush 8, 2) := by decide +kernel
theorem d_P_init_12 : decode b_P_init 12 = .ok (.newarray .long, 2) := by decide +kernel
theorem d_P_init_14 : decode b_P_init 14 = .ok (.putfield 15, 3) := by decide +kernel
theorem d_P_init_17 : decode b_P_init 17 = .ok (.aload_n 0, 1) := by decide +kernel
theorem d_P_init_18 : decode b_P_init 18 = .ok (.bipush 8, 2) := by decide +kernel
theorem d_P_init_20 : decode b_P_init 20 = .ok (.newarray .long, 2) := by decide +kernel
theorem d_P_init_22 : decode b_P_init 22 = .ok (.putfield 19, 3) := by decide +kernel
theorem d_P_init_25 : decode b_P_init 25 = .ok (.return_, 1) := by decide +kernel
theorem d_P_becomeNone_0 : decode b_P_becomeNone 0 = .ok (.aload_n 0, 1) := by decide +kernel
theorem d_P_becomeNone_1 : decode b_P_becomeNone 1 = .ok (.iconst 1, 1) := by decide +kernel
theorem d_P_becomeNone_2 : decode b_P_becomeNone 2 = .ok (.putfield 9, 3) := by decide +kernel
theorem d_P_becomeNone_5 : decode b_P_becomeNone 5 = .ok (.return_, 1) := by decide +kernel
theorem d_P_become_0 : decode b_P_become 0 = .ok (.aload_n 0, 1) := by decide +kernel
theorem d_P_become_1 : decode b_P_become 1 = .ok (.iconst 0, 1) := by decide +kernel
theorem d_P_become_2 : decode b_P_become 2 = .ok (.putfield 9, 3) := by decide +kernel
theorem d_P_become_5 : decode b_P_become 5 = .ok (.aload_n 0, 1) := by decide +kernel
theorem d_P_become_6 : decode b_P_become 6 = .ok (.getfield 15, 3) := by decide +kernel
theorem d_P_become_9 : decode b_P_become 9 = .ok (.aload_n 1, 1) := by decide +kernel
theorem d_P_become_10 : decode b_P_become 10 = .ok (.invokestatic 22, 3) := by decide +kernel
theorem d_P_become_13 : decode b_P_become 13 = .ok (.aload_n 0, 1) := by decide +kernel
theorem d_P_become_14 : decode b_P_become 14 = .ok (.getfield 19, 3) := by decide +kernel
theorem d_P_become_17 : decode b_P_become 17 = .ok (.aload_n 2, 1) := by decide +kernel
theorem d_P_become_18 : decode b_P_become 18 = .ok (.invokestatic 22, 3) := by decide +kernel
theorem d_P_become_21 : decode b_P_become 21 = .ok (.return_, 1) := by decide +kernel
theorem d_W_law_0 : decode code 0 = .ok (.new 7, 3) := by decide +kernel
theorem d_W_law_3 : decode code 3 = .ok (.dup, 1) := by decide +kernel
theorem d_W_law_4 : decode code 4 = .ok (.invokespecial 9, 3) := by decide +kernel
theorem d_W_law_7 : decode code 7 = .ok (.astore_n 1, 1) := by decide +kernel
theorem d_W_law_8 : decode code 8 = .ok (.new 10, 3) := by decide +kernel
theorem d_W_law_11 : decode code 11 = .ok (.dup, 1) := by decide +kernel
theorem d_W_law_12 : decode code 12 = .ok (.invokespecial 12, 3) := by decide +kernel
theorem d_W_law_15 : decode code 15 = .ok (.astore_n 2, 1) := by decide +kernel
theorem d_W_law_16 : decode code 16 = .ok (.iconst 0, 1) := by decide +kernel
theorem d_W_law_17 : decode code 17 = .ok (.istore_n 3, 1) := by decide +kernel
theorem d_W_law_18 : decode code 18 = .ok (.iload_n 3, 1) := by decide +kernel
theorem d_W_law_19 : decode code 19 = .ok (.aload_n 0, 1) := by decide +kernel
theorem d_W_law_20 : decode code 20 = .ok (.arraylength, 1) := by decide +kernel
theorem d_W_law_21 : decode code 21 = .ok (.bipush 10, 2) := by decide +kernel
theorem d_W_law_23 : decode code 23 = .ok (.isub, 1) := by decide +kernel
theorem d_W_law_24 : decode code 24 = .ok (.if_icmp .gt 790, 3) := by decide +kernel
theorem d_W_law_27 : decode code 27 = .ok (.aload_n 0, 1) := by decide +kernel
theorem d_W_law_28 : decode code 28 = .ok (.iload_n 3, 1) := by decide +kernel
theorem d_W_law_29 : decode code 29 = .ok (.iaload, 1) := by decide +kernel
theorem d_W_law_30 : decode code 30 = .ok (.bipush 15, 2) := by decide +kernel
theorem d_W_law_32 : decode code 32 = .ok (.iand, 1) := by decide +kernel
theorem d_W_law_33 : decode code 33 = .ok (.tableswitch 775 0 12 #[67, 258, 292, 325, 388, 421, 474, 517, 560, 603, 666, 689, 722], 67) := by decide +kernel
theorem d_W_law_100 : decode code 100 = .ok (.aload_n 1, 1) := by decide +kernel
theorem d_W_law_101 : decode code 101 = .ok (.aload_n 0, 1) := by decide +kernel
theorem d_W_law_102 : decode code 102 = .ok (.iload_n 3, 1) := by decide +kernel
theorem d_W_law_103 : decode code 103 = .ok (.iconst 1, 1) := by decide +kernel
theorem d_W_law_104 : decode code 104 = .ok (.iadd, 1) := by decide +kernel
theorem d_W_law_105 : decode code 105 = .ok (.iaload, 1) := by decide +kernel
theorem d_W_law_106 : decode code 106 = .ok (.aload_n 0, 1) := by decide +kernel
theorem d_W_law_107 : decode code 107 = .ok (.iload_n 3, 1) := by decide +kernel
theorem d_W_law_108 : decode code 108 = .ok (.iconst 2, 1) := by decide +kernel
theorem d_W_law_109 : decode code 109 = .ok (.iadd, 1) := by decide +kernel
theorem d_W_law_110 : decode code 110 = .ok (.iaload, 1) := by decide +kernel
theorem d_W_law_111 : decode code 111 = .ok (.i2l, 1) := by decide +kernel
theorem d_W_law_112 : decode code 112 = .ok (.bipush 32, 2) := by decide +kernel
theorem d_W_law_114 : decode code 114 = .ok (.lshl, 1) := by decide +kernel
theorem d_W_law_115 : decode code 115 = .ok (.aload_n 0, 1) := by decide +kernel
theorem d_W_law_116 : decode code 116 = .ok (.iload_n 3, 1) := by decide +kernel
theorem d_W_law_117 : decode code 117 = .ok (.iconst 3, 1) := by decide +kernel
theorem d_W_law_118 : decode code 118 = .ok (.iadd, 1) := by decide +kernel
theorem d_W_law_119 : decode code 119 = .ok (.iaload, 1) := by decide +kernel
theorem d_W_law_120 : decode code 120 = .ok (.i2l, 1) := by decide +kernel
theorem d_W_law_121 : decode code 121 = .ok (.ldc2_w 13, 3) := by decide +kernel
theorem d_W_law_124 : decode code 124 = .ok (.land, 1) := by decide +kernel
theorem d_W_law_125 : decode code 125 = .ok (.lor, 1) := by decide +kernel
theorem d_W_law_126 : decode code 126 = .ok (.aload_n 0, 1) := by decide +kernel
theorem d_W_law_127 : decode code 127 = .ok (.iload_n 3, 1) := by decide +kernel
theorem d_W_law_128 : decode code 128 = .ok (.iconst 4, 1) := by decide +kernel
theorem d_W_law_129 : decode code 129 = .ok (.iadd, 1) := by decide +kernel
theorem d_W_law_130 : decode code 130 = .ok (.iaload, 1) := by decide +kernel
theorem d_W_law_131 : decode code 131 = .ok (.i2l, 1) := by decide +kernel
theorem d_W_law_132 : decode code 132 = .ok (.bipush 32, 2) := by decide +kernel
theorem d_W_law_134 : decode code 134 = .ok (.lshl, 1) := by decide +kernel
theorem d_W_law_135 : decode code 135 = .ok (.aload_n 0, 1) := by decide +kernel
theorem d_W_law_136 : decode code 136 = .ok (.iload_n 3, 1) := by decide +kernel
theorem d_W_law_137 : decode code 137 = .ok (.iconst 5, 1) := by decide +kernel
theorem d_W_law_138 : decode code 138 = .ok (.iadd, 1) := by decide +kernel
theorem d_W_law_139 : decode code 139 = .ok (.iaload, 1) := by decide +kernel
theorem d_W_law_140 : decode code 140 = .ok (.i2l, 1) := by decide +kernel
theorem d_W_law_141 : decode code 141 = .ok (.ldc2_w 13, 3) := by decide +kernel
theorem d_W_law_144 : decode code 144 = .ok (.land, 1) := by decide +kernel
theorem d_W_law_145 : decode code 145 = .ok (.lor, 1) := by decide +kernel
theorem d_W_law_146 : decode code 146 = .ok (.aload_n 0, 1) := by decide +kernel
theorem d_W_law_147 : decode code 147 = .ok (.iload_n 3, 1) := by decide +kernel
theorem d_W_law_148 : decode code 148 = .ok (.bipush 6, 2) := by decide +kernel
theorem d_W_law_150 : decode code 150 = .ok (.iadd, 1) := by decide +kernel
theorem d_W_law_151 : decode code 151 = .ok (.iaload, 1) := by decide +kernel
theorem d_W_law_152 : decode code 152 = .ok (.i2l, 1) := by decide +kernel
theorem d_W_law_153 : decode code 153 = .ok (.bipush 32, 2) := by decide +kernel
theorem d_W_law_155 : decode code 155 = .ok (.lshl, 1) := by decide +kernel
theorem d_W_law_156 : decode code 156 = .ok (.aload_n 0, 1) := by decide +kernel
theorem d_W_law_157 : decode code 157 = .ok (.iload_n 3, 1) := by decide +kernel
theorem d_W_law_158 : decode code 158 = .ok (.bipush 7, 2) := by decide +kernel
theorem d_W_law_160 : decode code 160 = .ok (.iadd, 1) := by decide +kernel
theorem d_W_law_161 : decode code 161 = .ok (.iaload, 1) := by decide +kernel
theorem d_W_law_162 : decode code 162 = .ok (.i2l, 1) := by decide +kernel
theorem d_W_law_163 : decode code 163 = .ok (.ldc2_w 13, 3) := by decide +kernel
theorem d_W_law_166 : decode code 166 = .ok (.land, 1) := by decide +kernel
theorem d_W_law_167 : decode code 167 = .ok (.lor, 1) := by decide +kernel
theorem d_W_law_168 : decode code 168 = .ok (.aload_n 0, 1) := by decide +kernel
theorem d_W_law_169 : decode code 169 = .ok (.iload_n 3, 1) := by decide +kernel
theorem d_W_law_170 : decode code 170 = .ok (.bipush 8, 2) := by decide +kernel
theorem d_W_law_172 : decode code 172 = .ok (.iadd, 1) := by decide +kernel
theorem d_W_law_173 : decode code 173 = .ok (.iaload, 1) := by decide +kernel
theorem d_W_law_174 : decode code 174 = .ok (.i2l, 1) := by decide +kernel
theorem d_W_law_175 : decode code 175 = .ok (.bipush 32, 2) := by decide +kernel
theorem d_W_law_177 : decode code 177 = .ok (.lshl, 1) := by decide +kernel
theorem d_W_law_178 : decode code 178 = .ok (.aload_n 0, 1) := by decide +kernel
theorem d_W_law_179 : decode code 179 = .ok (.iload_n 3, 1) := by decide +kernel
theorem d_W_law_180 : decode code 180 = .ok (.bipush 9, 2) := by decide +kernel
theorem d_W_law_182 : decode code 182 = .ok (.iadd, 1) := by decide +kernel
theorem d_W_law_183 : decode code 183 = .ok (.iaload, 1) := by decide +kernel
theorem d_W_law_184 : decode code 184 = .ok (.i2l, 1) := by decide +kernel
theorem d_W_law_185 : decode code 185 = .ok (.ldc2_w 13, 3) := by decide +kernel
theorem d_W_law_188 : decode code 188 = .ok (.land, 1) := by decide +kernel
theorem d_W_law_189 : decode code 189 = .ok (.lor, 1) := by decide +kernel
theorem d_W_law_190 : decode code 190 = .ok (.invokevirtual 15, 3) := by decide +kernel
theorem d_W_law_193 : decode code 193 = .ok (.aload_n 2, 1) := by decide +kernel
theorem d_W_law_194 : decode code 194 = .ok (.aload_n 0, 1) := by decide +kernel
theorem d_W_law_195 : decode code 195 = .ok (.iload_n 3, 1) := by decide +kernel
theorem d_W_law_196 : decode code 196 = .ok (.iconst 1, 1) := by decide +kernel
theorem d_W_law_197 : decode code 197 = .ok (.iadd, 1) := by decide +kernel
theorem d_W_law_198 : decode code 198 = .ok (.iaload, 1) := by decide +kernel
theorem d_W_law_199 : decode code 199 = .ok (.aload_n 0, 1) := by decide +kernel
theorem d_W_law_200 : decode code 200 = .ok (.iload_n 3, 1) := by decide +kernel
theorem d_W_law_201 : decode code 201 = .ok (.iconst 2, 1) := by decide +kernel
theorem d_W_law_202 : decode code 202 = .ok (.iadd, 1) := by decide +kernel
theorem d_W_law_203 : decode code 203 = .ok (.iaload, 1) := by decide +kernel
theorem d_W_law_204 : decode code 204 = .ok (.i2l, 1) := by decide +kernel
theorem d_W_law_205 : decode code 205 = .ok (.bipush 32, 2) := by decide +kernel
theorem d_W_law_207 : decode code 207 = .ok (.lshl, 1) := by decide +kernel
theorem d_W_law_208 : decode code 208 = .ok (.aload_n 0, 1) := by decide +kernel
theorem d_W_law_209 : decode code 209 = .ok (.iload_n 3, 1) := by decide +kernel
theorem d_W_law_210 : decode code 210 = .ok (.iconst 3, 1) := by decide +kernel
theorem d_W_law_211 : decode code 211 = .ok (.iadd, 1) := by decide +kernel
theorem d_W_law_212 : decode code 212 = .ok (.iaload, 1) := by decide +kernel
theorem d_W_law_213 : decode code 213 = .ok (.i2l, 1) := by decide +kernel
theorem d_W_law_214 : decode code 214 = .ok (.ldc2_w 13, 3) := by decide +kernel
theorem d_W_law_217 : decode code 217 = .ok (.land, 1) := by decide +kernel
theorem d_W_law_218 : decode code 218 = .ok (.lor, 1) := by decide +kernel
theorem d_W_law_219 : decode code 219 = .ok (.aload_n 0, 1) := by decide +kernel
theorem d_W_law_220 : decode code 220 = .ok (.iload_n 3, 1) := by decide +kernel
theorem d_W_law_221 : decode code 221 = .ok (.iconst 4, 1) := by decide +kernel
theorem d_W_law_222 : decode code 222 = .ok (.iadd, 1) := by decide +kernel
theorem d_W_law_223 : decode code 223 = .ok (.iaload, 1) := by decide +kernel
theorem d_W_law_224 : decode code 224 = .ok (.i2l, 1) := by decide +kernel
theorem d_W_law_225 : decode code 225 = .ok (.bipush 32, 2) := by decide +kernel
theorem d_W_law_227 : decode code 227 = .ok (.lshl, 1) := by decide +kernel
theorem d_W_law_228 : decode code 228 = .ok (.aload_n 0, 1) := by decide +kernel
theorem d_W_law_229 : decode code 229 = .ok (.iload_n 3, 1) := by decide +kernel
theorem d_W_law_230 : decode code 230 = .ok (.iconst 5, 1) := by decide +kernel
theorem d_W_law_231 : decode code 231 = .ok (.iadd, 1) := by decide +kernel
theorem d_W_law_232 : decode code 232 = .ok (.iaload, 1) := by decide +kernel
theorem d_W_law_233 : decode code 233 = .ok (.i2l, 1) := by decide +kernel
theorem d_W_law_234 : decode code 234 = .ok (.ldc2_w 13, 3) := by decide +kernel
theorem d_W_law_237 : decode code 237 = .ok (.land, 1) := by decide +kernel
theorem d_W_law_238 : decode code 238 = .ok (.lor, 1) := by decide +kernel
theorem d_W_law_239 : decode code 239 = .ok (.aload_n 0, 1) := by decide +kernel
theorem d_W_law_240 : decode code 240 = .ok (.iload_n 3, 1) := by decide +kernel
theorem d_W_law_241 : decode code 241 = .ok (.bipush 6, 2) := by decide +kernel
theorem d_W_law_243 : decode code 243 = .ok (.iadd, 1) := by decide +kernel
theorem d_W_law_244 : decode code 244 = .ok (.iaload, 1) := by decide +kernel
theorem d_W_law_245 : decode code 245 = .ok (.i2l, 1) := by decide +kernel
theorem d_W_law_246 : decode code 246 = .ok (.bipush 32, 2) := by decide +kernel
theorem d_W_law_248 : decode code 248 = .ok (.lshl, 1) := by decide +kernel
theorem d_W_law_249 : decode code 249 = .ok (.aload_n 0, 1) := by decide +kernel
theorem d_W_law_250 : decode code 250 = .ok (.iload_n 3, 1) := by decide +kernel
theorem d_W_law_251 : decode code 251 = .ok (.bipush 7, 2) := by decide +kernel
theorem d_W_law_253 : decode code 253 = .ok (.iadd, 1) := by decide +kernel
theorem d_W_law_254 : decode code 254 = .ok (.iaload, 1) := by decide +kernel
theorem d_W_law_255 : decode code 255 = .ok (.i2l, 1) := by decide +kernel
theorem d_W_law_256 : decode code 256 = .ok (.ldc2_w 13, 3) := by decide +kernel
theorem d_W_law_259 : decode code 259 = .ok (.land, 1) := by decide +kernel
theorem d_W_law_260 : decode code 260 = .ok (.lor, 1) := by decide +kernel
theorem d_W_law_261 : decode code 261 = .ok (.aload_n 0, 1) := by decide +kernel
theorem d_W_law_262 : decode code 262 = .ok (.iload_n 3, 1) := by decide +kernel
theorem d_W_law_263 : decode code 263 = .ok (.bipush 8, 2) := by decide +kernel
theorem d_W_law_265 : decode code 265 = .ok (.iadd, 1) := by decide +kernel
theorem d_W_law_266 : decode code 266 = .ok (.iaload, 1) := by decide +kernel
theorem d_W_law_267 : decode code 267 = .ok (.i2l, 1) := by decide +kernel
theorem d_W_law_268 : decode code 268 = .ok (.bipush 32, 2) := by decide +kernel
theorem d_W_law_270 : decode code 270 = .ok (.lshl, 1) := by decide +kernel
theorem d_W_law_271 : decode code 271 = .ok (.aload_n 0, 1) := by decide +kernel
theorem d_W_law_272 : decode code 272 = .ok (.iload_n 3, 1) := by decide +kernel
theorem d_W_law_273 : decode code 273 = .ok (.bipush 9, 2) := by decide +kernel
theorem d_W_law_275 : decode code 275 = .ok (.iadd, 1) := by decide +kernel
theorem d_W_law_276 : decode code 276 = .ok (.iaload, 1) := by decide +kernel
theorem d_W_law_277 : decode code 277 = .ok (.i2l, 1) := by decide +kernel
theorem d_W_law_278 : decode code 278 = .ok (.ldc2_w 13, 3) := by decide +kernel
theorem d_W_law_281 : decode code 281 = .ok (.land, 1) := by decide +kernel
theorem d_W_law_282 : decode code 282 = .ok (.lor, 1) := by decide +kernel
theorem d_W_law_283 : decode code 283 = .ok (.invokevirtual 19, 3) := by decide +kernel
theorem d_W_law_286 : decode code 286 = .ok (.if_icmp .eq 522, 3) := by decide +kernel
theorem d_W_law_289 : decode code 289 = .ok (.iconst 0, 1) := by decide +kernel
theorem d_W_law_290 : decode code 290 = .ok (.ireturn, 1) := by decide +kernel
theorem d_W_law_291 : decode code 291 = .ok (.aload_n 1, 1) := by decide +kernel
theorem d_W_law_292 : decode code 292 = .ok (.aload_n 0, 1) := by decide +kernel
theorem d_W_law_293 : decode code 293 = .ok (.iload_n 3, 1) := by decide +kernel
theorem d_W_law_294 : decode code 294 = .ok (.iconst 1, 1) := by decide +kernel
theorem d_W_law_295 : decode code 295 = .ok (.iadd, 1) := by decide +kernel
theorem d_W_law_296 : decode code 296 = .ok (.iaload, 1) := by decide +kernel
theorem d_W_law_297 : decode code 297 = .ok (.aload_n 0, 1) := by decide +kernel
theorem d_W_law_298 : decode code 298 = .ok (.iload_n 3, 1) := by decide +kernel
theorem d_W_law_299 : decode code 299 = .ok (.iconst 2, 1) := by decide +kernel
theorem d_W_law_300 : decode code 300 = .ok (.iadd, 1) := by decide +kernel
theorem d_W_law_301 : decode code 301 = .ok (.iaload, 1) := by decide +kernel
theorem d_W_law_302 : decode code 302 = .ok (.invokevirtual 20, 3) := by decide +kernel
theorem d_W_law_305 : decode code 305 = .ok (.aload_n 2, 1) := by decide +kernel
theorem d_W_law_306 : decode code 306 = .ok (.aload_n 0, 1) := by decide +kernel
theorem d_W_law_307 : decode code 307 = .ok (.iload_n 3, 1) := by decide +kernel
theorem d_W_law_308 : decode code 308 = .ok (.iconst 1, 1) := by decide +kernel
theorem d_W_law_309 : decode code 309 = .ok (.iadd, 1) := by decide +kernel
theorem d_W_law_310 : decode code 310 = .ok (.iaload, 1) := by decide +kernel
theorem d_W_law_311 : decode code 311 = .ok (.aload_n 0, 1) := by decide +kernel
theorem d_W_law_312 : decode code 312 = .ok (.iload_n 3, 1) := by decide +kernel
theorem d_W_law_313 : decode code 313 = .ok (.iconst 2, 1) := by decide +kernel
theorem d_W_law_314 : decode code 314 = .ok (.iadd, 1) := by decide +kernel
theorem d_W_law_315 : decode code 315 = .ok (.iaload, 1) := by decide +kernel
theorem d_W_law_316 : decode code 316 = .ok (.invokevirtual 24, 3) := by decide +kernel
theorem d_W_law_319 : decode code 319 = .ok (.lcmp, 1) := by decide +kernel
theorem d_W_law_320 : decode code 320 = .ok (.ifCond .eq 488, 3) := by decide +kernel
theorem d_W_law_323 : decode code 323 = .ok (.iconst 0, 1) := by decide +kernel
theorem d_W_law_324 : decode code 324 = .ok (.ireturn, 1) := by decide +kernel
theorem d_W_law_325 : decode code 325 = .ok (.aload_n 1, 1) := by decide +kernel
theorem d_W_law_326 : decode code 326 = .ok (.aload_n 0, 1) := by decide +kernel
theorem d_W_law_327 : decode code 327 = .ok (.iload_n 3, 1) := by decide +kernel
theorem d_W_law_328 : decode code 328 = .ok (.iconst 1, 1) := by decide +kernel
theorem d_W_law_329 : decode code 329 = .ok (.iadd, 1) := by decide +kernel
theorem d_W_law_330 : decode code 330 = .ok (.iaload, 1) := by decide +kernel
theorem d_W_law_331 : decode code 331 = .ok (.aload_n 0, 1) := by decide +kernel
theorem d_W_law_332 : decode code 332 = .ok (.iload_n 3, 1) := by decide +kernel
theorem d_W_law_333 : decode code 333 = .ok (.iconst 2, 1) := by decide +kernel
theorem d_W_law_334 : decode code 334 = .ok (.iadd, 1) := by decide +kernel
theorem d_W_law_335 : decode code 335 = .ok (.iaload, 1) := by decide +kernel
theorem d_W_law_336 : decode code 336 = .ok (.invokevirtual 25, 3) := by decide +kernel
theorem d_W_law_339 : decode code 339 = .ok (.aload_n 2, 1) := by decide +kernel
theorem d_W_law_340 : decode code 340 = .ok (.aload_n 0, 1) := by decide +kernel
theorem d_W_law_341 : decode code 341 = .ok (.iload_n 3, 1) := by decide +kernel
theorem d_W_law_342 : decode code 342 = .ok (.iconst 1, 1) := by decide +kernel
theorem d_W_law_343 : decode code 343 = .ok (.iadd, 1) := by decide +kernel
theorem d_W_law_344 : decode code 344 = .ok (.iaload, 1) := by decide +kernel
theorem d_W_law_345 : decode code 345 = .ok (.aload_n 0, 1) := by decide +kernel
theorem d_W_law_346 : decode code 346 = .ok (.iload_n 3, 1) := by decide +kernel
theorem d_W_law_347 : decode code 347 = .ok (.iconst 2, 1) := by decide +kernel
theorem d_W_law_348 : decode code 348 = .ok (.iadd, 1) := by decide +kernel
theorem d_W_law_349 : decode code 349 = .ok (.iaload, 1) := by decide +kernel
theorem d_W_law_350 : decode code 350 = .ok (.invokevirtual 29, 3) := by decide +kernel
theorem d_W_law_353 : decode code 353 = .ok (.if_icmp .eq 455, 3) := by decide +kernel
theorem d_W_law_356 : decode code 356 = .ok (.iconst 0, 1) := by decide +kernel
theorem d_W_law_357 : decode code 357 = .ok (.ireturn, 1) := by decide +kernel
theorem d_W_law_358 : decode code 358 = .ok (.aload_n 1, 1) := by decide +kernel
theorem d_W_law_359 : decode code 359 = .ok (.aload_n 0, 1) := by decide +kernel
theorem d_W_law_360 : decode code 360 = .ok (.iload_n 3, 1) := by decide +kernel
theorem d_W_law_361 : decode code 361 = .ok (.iconst 1, 1) := by decide +kernel
theorem d_W_law_362 : decode code 362 = .ok (.iadd, 1) := by decide +kernel
theorem d_W_law_363 : decode code 363 = .ok (.iaload, 1) := by decide +kernel
theorem d_W_law_364 : decode code 364 = .ok (.aload_n 0, 1) := by decide +kernel
theorem d_W_law_365 : decode code 365 = .ok (.iload_n 3, 1) := by decide +kernel
theorem d_W_law_366 : decode code 366 = .ok (.iconst 2, 1) := by decide +kernel
theorem d_W_law_367 : decode code 367 = .ok (.iadd, 1) := by decide +kernel
theorem d_W_law_368 : decode code 368 = .ok (.iaload, 1) := by decide +kernel
theorem d_W_law_369 : decode code 369 = .ok (.aload_n 0, 1) := by decide +kernel
theorem d_W_law_370 : decode code 370 = .ok (.iload_n 3, 1) := by decide +kernel
theorem d_W_law_371 : decode code 371 = .ok (.iconst 3, 1) := by decide +kernel
theorem d_W_law_372 : decode code 372 = .ok (.iadd, 1) := by decide +kernel
theorem d_W_law_373 : decode code 373 = .ok (.iaload, 1) := by decide +kernel
theorem d_W_law_374 : decode code 374 = .ok (.aload_n 0, 1) := by decide +kernel
theorem d_W_law_375 : decode code 375 = .ok (.iload_n 3, 1) := by decide +kernel
theorem d_W_law_376 : decode code 376 = .ok (.iconst 4, 1) := by decide +kernel
theorem d_W_law_377 : decode code 377 = .ok (.iadd, 1) := by decide +kernel
theorem d_W_law_378 : decode code 378 = .ok (.iaload, 1) := by decide +kernel
theorem d_W_law_379 : decode code 379 = .ok (.aload_n 0, 1) := by decide +kernel
theorem d_W_law_380 : decode code 380 = .ok (.iload_n 3, 1) := by decide +kernel
theorem d_W_law_381 : decode code 381 = .ok (.iconst 5, 1) := by decide +kernel
theorem d_W_law_382 : decode code 382 = .ok (.iadd, 1) := by decide +kernel
theorem d_W_law_383 : decode code 383 = .ok (.iaload, 1) := by decide +kernel
theorem d_W_law_384 : decode code 384 = .ok (.invokevirtual 30, 3) := by decide +kernel
end
section
/-! the instructions -/
theorem d_W_law_387 : decode code 387 = .ok (.aload_n 2, 1) := by decide +kernel
theorem d_W_law_388 : decode code 388 = .ok (.aload_n 0, 1) := by decide +kernel
theorem d_W_law_389 : decode code 389 = .ok (.iload_n 3, 1) := by decide +kernel
theorem d_W_law_390 : decode code 390 = .ok (.iconst 1, 1) := by decide +kernel
theorem d_W_law_391 : decode code 391 = .ok (.iadd, 1) := by decide +kernel
theorem d_W_law_392 : decode code 392 = .ok (.iaload, 1) := by decide +kernel
theorem d_W_law_393 : decode code 393 = .ok (.aload_n 0, 1) := by decide +kernel
theorem d_W_law_394 : decode code 394 = .ok (.iload_n 3, 1) := by decide +kernel
theorem d_W_law_395 : decode code 395 = .ok (.iconst 2, 1) := by decide +kernel
theorem d_W_law_396 : decode code 396 = .ok (.iadd, 1) := by decide +kernel
theorem d_W_law_397 : decode code 397 = .ok (.iaload, 1) := by decide +kernel
theorem d_W_law_398 : decode code 398 = .ok (.aload_n 0, 1) := by decide +kernel
theorem d_W_law_399 : decode code 399 = .ok (.iload_n 3, 1) := by decide +kernel
theorem d_W_law_400 : decode code 400 = .ok (.iconst 3, 1) := by decide +kernel
theorem d_W_law_401 : decode code 401 = .ok (.iadd, 1) := by decide +kernel
theorem d_W_law_402 : decode code 402 = .ok (.iaload, 1) := by decide +kernel
theorem d_W_law_403 : decode code 403 = .ok (.aload_n 0, 1) := by decide +kernel
theorem d_W_law_404 : decode code 404 = .ok (.iload_n 3, 1) := by decide +kernel
theorem d_W_law_405 : decode code 405 = .ok (.iconst 4, 1) := by decide +kernel
theorem d_W_law_406 : decode code 406 = .ok (.iadd, 1) := by decide +kernel
theorem d_W_law_407 : decode code 407 = .ok (.iaload, 1) := by decide +kernel
theorem d_W_law_408 : decode code 408 = .ok (.aload_n 0, 1) := by decide +kernel
theorem d_W_law_409 : decode code 409 = .ok (.iload_n 3, 1) := by decide +kernel
theorem d_W_law_410 : decode code 410 = .ok (.iconst 5, 1) := by decide +kernel
theorem d_W_law_411 : decode code 411 = .ok (.iadd, 1) := by decide +kernel
theorem d_W_law_412 : decode code 412 = .ok (.iaload, 1) := by decide +kernel
theorem d_W_law_413 : decode code 413 = .ok (.invokevirtual 34, 3) := by decide +kernel
theorem d_W_law_416 : decode code 416 = .ok (.if_icmp .eq 392, 3) := by decide +kernel
theorem d_W_law_419 : decode code 419 = .ok (.iconst 0, 1) := by decide +kernel
theorem d_W_law_420 : decode code 420 = .ok (.ireturn, 1) := by decide +kernel
theorem d_W_law_421 : decode code 421 = .ok (.aload_n 1, 1) := by decide +kernel
theorem d_W_law_422 : decode code 422 = .ok (.aload_n 0, 1) := by decide +kernel
theorem d_W_law_423 : decode code 423 = .ok (.iload_n 3, 1) := by decide +kernel
theorem d_W_law_424 : decode code 424 = .ok (.iconst 1, 1) := by decide +kernel
theorem d_W_law_425 : decode code 425 = .ok (.iadd, 1) := by decide +kernel
theorem d_W_law_426 : decode code 426 = .ok (.iaload, 1) := by decide +kernel
theorem d_W_law_427 : decode code 427 = .ok (.aload_n 0, 1) := by decide +kernel
theorem d_W_law_428 : decode code 428 = .ok (.iload_n 3, 1) := by decide +kernel
theorem d_W_law_429 : decode code 429 = .ok (.iconst 2, 1) := by decide +kernel
theorem d_W_law_430 : decode code 430 = .ok (.iadd, 1) := by decide +kernel
theorem d_W_law_431 : decode code 431 = .ok (.iaload, 1) := by decide +kernel
theorem d_W_law_432 : decode code 432 = .ok (.invokevirtual 35, 3) := by decide +kernel
theorem d_W_law_435 : decode code 435 = .ok (.aload_n 2, 1) := by decide +kernel
theorem d_W_law_436 : decode code 436 = .ok (.aload_n 0, 1) := by decide +kernel
theorem d_W_law_437 : decode code 437 = .ok (.iload_n 3, 1) := by decide +kernel
theorem d_W_law_438 : decode code 438 = .ok (.iconst 1, 1) := by decide +kernel
theorem d_W_law_439 : decode code 439 = .ok (.iadd, 1) := by decide +kernel
theorem d_W_law_440 : decode code 440 = .ok (.iaload, 1) := by decide +kernel
theorem d_W_law_441 : decode code 441 = .ok (.aload_n 0, 1) := by decide +kernel
theorem d_W_law_442 : decode code 442 = .ok (.iload_n 3, 1) := by decide +kernel
theorem d_W_law_443 : decode code 443 = .ok (.iconst 2, 1) := by decide +kernel
theorem d_W_law_444 : decode code 444 = .ok (.iadd, 1) := by decide +kernel
theorem d_W_law_445 : decode code 445 = .ok (.iaload, 1) := by decide +kernel
theorem d_W_law_446 : decode code 446 = .ok (.invokevirtual 39, 3) := by decide +kernel
theorem d_W_law_449 : decode code 449 = .ok (.if_icmp .eq 359, 3) := by decide +kernel
theorem d_W_law_452 : decode code 452 = .ok (.iconst 0, 1) := by decide +kernel
theorem d_W_law_453 : decode code 453 = .ok (.ireturn, 1) := by decide +kernel
theorem d_W_law_454 : decode code 454 = .ok (.aload_n 1, 1) := by decide +kernel
theorem d_W_law_455 : decode code 455 = .ok (.aload_n 0, 1) := by decide +kernel
theorem d_W_law_456 : decode code 456 = .ok (.iload_n 3, 1) := by decide +kernel
theorem d_W_law_457 : decode code 457 = .ok (.iconst 1, 1) := by decide +kernel
theorem d_W_law_458 : decode code 458 = .ok (.iadd, 1) := by decide +kernel
theorem d_W_law_459 : decode code 459 = .ok (.iaload, 1) := by decide +kernel
theorem d_W_law_460 : decode code 460 = .ok (.aload_n 0, 1) := by decide +kernel
theorem d_W_law_461 : decode code 461 = .ok (.iload_n 3, 1) := by decide +kernel
theorem d_W_law_462 : decode code 462 = .ok (.iconst 2, 1) := by decide +kernel
theorem d_W_law_463 : decode code 463 = .ok (.iadd, 1) := by decide +kernel
theorem d_W_law_464 : decode code 464 = .ok (.iaload, 1) := by decide +kernel
theorem d_W_law_465 : decode code 465 = .ok (.aload_n 0, 1) := by decide +kernel
theorem d_W_law_466 : decode code 466 = .ok (.iload_n 3, 1) := by decide +kernel
theorem d_W_law_467 : decode code 467 = .ok (.iconst 3, 1) := by decide +kernel
theorem d_W_law_468 : decode code 468 = .ok (.iadd, 1) := by decide +kernel
theorem d_W_law_469 : decode code 469 = .ok (.iaload, 1) := by decide +kernel
theorem d_W_law_470 : decode code 470 = .ok (.aload_n 0, 1) := by decide +kernel
theorem d_W_law_471 : decode code 471 = .ok (.iload_n 3, 1) := by decide +kernel
theorem d_W_law_472 : decode code 472 = .ok (.iconst 4, 1) := by decide +kernel
theorem d_W_law_473 : decode code 473 = .ok (.iadd, 1) := by decide +kernel
theorem d_W_law_474 : decode code 474 = .ok (.iaload, 1) := by decide +kernel
theorem d_W_law_475 : decode code 475 = .ok (.invokevirtual 40, 3) := by decide +kernel
theorem d_W_law_478 : decode code 478 = .ok (.aload_n 2, 1) := by decide +kernel
theorem d_W_law_479 : decode code 479 = .ok (.aload_n 0, 1) := by decide +kernel
theorem d_W_law_480 : decode code 480 = .ok (.iload_n 3, 1) := by decide +kernel
theorem d_W_law_481 : decode code 481 = .ok (.iconst 1, 1) := by decide +kernel
theorem d_W_law_482 : decode code 482 = .ok (.iadd, 1) := by decide +kernel
theorem d_W_law_483 : decode code 483 = .ok (.iaload, 1) := by decide +kernel
theorem d_W_law_484 : decode code 484 = .ok (.aload_n 0, 1) := by decide +kernel
theorem d_W_law_485 : decode code 485 = .ok (.iload_n 3, 1) := by decide +kernel
theorem d_W_law_486 : decode code 486 = .ok (.iconst 2, 1) := by decide +kernel
theorem d_W_law_487 : decode code 487 = .ok (.iadd, 1) := by decide +kernel
theorem d_W_law_488 : decode code 488 = .ok (.iaload, 1) := by decide +kernel
theorem d_W_law_489 : decode code 489 = .ok (.aload_n 0, 1) := by decide +kernel
theorem d_W_law_490 : decode code 490 = .ok (.iload_n 3, 1) := by decide +kernel
theorem d_W_law_491 : decode code 491 = .ok (.iconst 3, 1) := by decide +kernel
theorem d_W_law_492 : decode code 492 = .ok (.iadd, 1) := by decide +kernel
theorem d_W_law_493 : decode code 493 = .ok (.iaload, 1) := by decide +kernel
theorem d_W_law_494 : decode code 494 = .ok (.aload_n 0, 1) := by decide +kernel
theorem d_W_law_495 : decode code 495 = .ok (.iload_n 3, 1) := by decide +kernel
theorem d_W_law_496 : decode code 496 = .ok (.iconst 4, 1) := by decide +kernel
theorem d_W_law_497 : decode code 497 = .ok (.iadd, 1) := by decide +kernel
theorem d_W_law_498 : decode code 498 = .ok (.iaload, 1) := by decide +kernel
theorem d_W_law_499 : decode code 499 = .ok (.invokevirtual 44, 3) := by decide +kernel
theorem d_W_law_502 : decode code 502 = .ok (.if_icmp .eq 306, 3) := by decide +kernel
theorem d_W_law_505 : decode code 505 = .ok (.iconst 0, 1) := by decide +kernel
theorem d_W_law_506 : decode code 506 = .ok (.ireturn, 1) := by decide +kernel
theorem d_W_law_507 : decode code 507 = .ok (.aload_n 1, 1) := by decide +kernel
theorem d_W_law_508 : decode code 508 = .ok (.aload_n 0, 1) := by decide +kernel
theorem d_W_law_509 : decode code 509 = .ok (.iload_n 3, 1) := by decide +kernel
theorem d_W_law_510 : decode code 510 = .ok (.iconst 1, 1) := by decide +kernel
theorem d_W_law_511 : decode code 511 = .ok (.iadd, 1) := by decide +kernel
theorem d_W_law_512 : decode code 512 = .ok (.iaload, 1) := by decide +kernel
theorem d_W_law_513 : decode code 513 = .ok (.aload_n 0, 1) := by decide +kernel
theorem d_W_law_514 : decode code 514 = .ok (.iload_n 3, 1) := by decide +kernel
theorem d_W_law_515 : decode code 515 = .ok (.iconst 2, 1) := by decide +kernel
theorem d_W_law_516 : decode code 516 = .ok (.iadd, 1) := by decide +kernel
theorem d_W_law_517 : decode code 517 = .ok (.iaload, 1) := by decide +kernel
theorem d_W_law_518 : decode code 518 = .ok (.aload_n 0, 1) := by decide +kernel
theorem d_W_law_519 : decode code 519 = .ok (.iload_n 3, 1) := by decide +kernel
theorem d_W_law_520 : decode code 520 = .ok (.iconst 3, 1) := by decide +kernel
theorem d_W_law_521 : decode code 521 = .ok (.iadd, 1) := by decide +kernel
theorem d_W_law_522 : decode code 522 = .ok (.iaload, 1) := by decide +kernel
theorem d_W_law_523 : decode code 523 = .ok (.invokevirtual 45, 3) := by decide +kernel
theorem d_W_law_526 : decode code 526 = .ok (.aload_n 2, 1) := by decide +kernel
theorem d_W_law_527 : decode code 527 = .ok (.aload_n 0, 1) := by decide +kernel
theorem d_W_law_528 : decode code 528 = .ok (.iload_n 3, 1) := by decide +kernel
theorem d_W_law_529 : decode code 529 = .ok (.iconst 1, 1) := by decide +kernel
theorem d_W_law_530 : decode code 530 = .ok (.iadd, 1) := by decide +kernel
theorem d_W_law_531 : decode code 531 = .ok (.iaload, 1) := by decide +kernel
theorem d_W_law_532 : decode code 532 = .ok (.aload_n 0, 1) := by decide +kernel
theorem d_W_law_533 : decode code 533 = .ok (.iload_n 3, 1) := by decide +kernel
theorem d_W_law_534 : decode code 534 = .ok (.iconst 2, 1) := by decide +kernel
theorem d_W_law_535 : decode code 535 = .ok (.iadd, 1) := by decide +kernel
theorem d_W_law_536 : decode code 536 = .ok (.iaload, 1) := by decide +kernel
theorem d_W_law_537 : decode code 537 = .ok (.aload_n 0, 1) := by decide +kernel
theorem d_W_law_538 : decode code 538 = .ok (.iload_n 3, 1) := by decide +kernel
theorem d_W_law_539 : decode code 539 = .ok (.iconst 3, 1) := by decide +kernel
theorem d_W_law_540 : decode code 540 = .ok (.iadd, 1) := by decide +kernel
theorem d_W_law_541 : decode code 541 = .ok (.iaload, 1) := by decide +kernel
theorem d_W_law_542 : decode code 542 = .ok (.invokevirtual 49, 3) := by decide +kernel
theorem d_W_law_545 : decode code 545 = .ok (.if_icmp .eq 263, 3) := by decide +kernel
theorem d_W_law_548 : decode code 548 = .ok (.iconst 0, 1) := by decide +kernel
theorem d_W_law_549 : decode code 549 = .ok (.ireturn, 1) := by decide +kernel
theorem d_W_law_550 : decode code 550 = .ok (.aload_n 1, 1) := by decide +kernel
theorem d_W_law_551 : decode code 551 = .ok (.aload_n 0, 1) := by decide +kernel
theorem d_W_law_552 : decode code 552 = .ok (.iload_n 3, 1) := by decide +kernel
theorem d_W_law_553 : decode code 553 = .ok (.iconst 1, 1) := by decide +kernel
theorem d_W_law_554 : decode code 554 = .ok (.iadd, 1) := by decide +kernel
theorem d_W_law_555 : decode code 555 = .ok (.iaload, 1) := by decide +kernel
theorem d_W_law_556 : decode code 556 = .ok (.aload_n 0, 1) := by decide +kernel
theorem d_W_law_557 : decode code 557 = .ok (.iload_n 3, 1) := by decide +kernel
theorem d_W_law_558 : decode code 558 = .ok (.iconst 2, 1) := by decide +kernel
theorem d_W_law_559 : decode code 559 = .ok (.iadd, 1) := by decide +kernel
theorem d_W_law_560 : decode code 560 = .ok (.iaload, 1) := by decide +kernel
theorem d_W_law_561 : decode code 561 = .ok (.aload_n 0, 1) := by decide +kernel
theorem d_W_law_562 : decode code 562 = .ok (.iload_n 3, 1) := by decide +kernel
theorem d_W_law_563 : decode code 563 = .ok (.iconst 3, 1) := by decide +kernel
theorem d_W_law_564 : decode code 564 = .ok (.iadd, 1) := by decide +kernel
theorem d_W_law_565 : decode code 565 = .ok (.iaload, 1) := by decide +kernel
theorem d_W_law_566 : decode code 566 = .ok (.invokevirtual 50, 3) := by decide +kernel
theorem d_W_law_569 : decode code 569 = .ok (.aload_n 2, 1) := by decide +kernel
theorem d_W_law_570 : decode code 570 = .ok (.aload_n 0, 1) := by decide +kernel
theorem d_W_law_571 : decode code 571 = .ok (.iload_n 3, 1) := by decide +kernel
theorem d_W_law_572 : decode code 572 = .ok (.iconst 1, 1) := by decide +kernel
theorem d_W_law_573 : decode code 573 = .ok (.iadd, 1) := by decide +kernel
theorem d_W_law_574 : decode code 574 = .ok (.iaload, 1) := by decide +kernel
theorem d_W_law_575 : decode code 575 = .ok (.aload_n 0, 1) := by decide +kernel
theorem d_W_law_576 : decode code 576 = .ok (.iload_n 3, 1) := by decide +kernel
theorem d_W_law_577 : decode code 577 = .ok (.iconst 2, 1) := by decide +kernel
theorem d_W_law_578 : decode code 578 = .ok (.iadd, 1) := by decide +kernel
theorem d_W_law_579 : decode code 579 = .ok (.iaload, 1) := by decide +kernel
theorem d_W_law_580 : decode code 580 = .ok (.aload_n 0, 1) := by decide +kernel
theorem d_W_law_581 : decode code 581 = .ok (.iload_n 3, 1) := by decide +kernel
theorem d_W_law_582 : decode code 582 = .ok (.iconst 3, 1) := by decide +kernel
theorem d_W_law_583 : decode code 583 = .ok (.iadd, 1) := by decide +kernel
theorem d_W_law_584 : decode code 584 = .ok (.iaload, 1) := by decide +kernel
theorem d_W_law_585 : decode code 585 = .ok (.invokevirtual 53, 3) := by decide +kernel
theorem d_W_law_588 : decode code 588 = .ok (.if_icmp .eq 220, 3) := by decide +kernel
theorem d_W_law_591 : decode code 591 = .ok (.iconst 0, 1) := by decide +kernel
theorem d_W_law_592 : decode code 592 = .ok (.ireturn, 1) := by decide +kernel
theorem d_W_law_593 : decode code 593 = .ok (.aload_n 1, 1) := by decide +kernel
theorem d_W_law_594 : decode code 594 = .ok (.aload_n 0, 1) := by decide +kernel
theorem d_W_law_595 : decode code 595 = .ok (.iload_n 3, 1) := by decide +kernel
theorem d_W_law_596 : decode code 596 = .ok (.iconst 1, 1) := by decide +kernel
theorem d_W_law_597 : decode code 597 = .ok (.iadd, 1) := by decide +kernel
theorem d_W_law_598 : decode code 598 = .ok (.iaload, 1) := by decide +kernel
theorem d_W_law_599 : decode code 599 = .ok (.aload_n 0, 1) := by decide +kernel
theorem d_W_law_600 : decode code 600 = .ok (.iload_n 3, 1) := by decide +kernel
theorem d_W_law_601 : decode code 601 = .ok (.iconst 2, 1) := by decide +kernel
theorem d_W_law_602 : decode code 602 = .ok (.iadd, 1) := by decide +kernel
theorem d_W_law_603 : decode code 603 = .ok (.iaload, 1) := by decide +kernel
theorem d_W_law_604 : decode code 604 = .ok (.aload_n 0, 1) := by decide +kernel
theorem d_W_law_605 : decode code 605 = .ok (.iload_n 3, 1) := by decide +kernel
theorem d_W_law_606 : decode code 606 = .ok (.iconst 3, 1) := by decide +kernel
theorem d_W_law_607 : decode code 607 = .ok (.iadd, 1) := by decide +kernel
theorem d_W_law_608 : decode code 608 = .ok (.iaload, 1) := by decide +kernel
theorem d_W_law_609 : decode code 609 = .ok (.invokevirtual 54, 3) := by decide +kernel
theorem d_W_law_612 : decode code 612 = .ok (.aload_n 2, 1) := by decide +kernel
theorem d_W_law_613 : decode code 613 = .ok (.aload_n 0, 1) := by decide +kernel
theorem d_W_law_614 : decode code 614 = .ok (.iload_n 3, 1) := by decide +kernel
theorem d_W_law_615 : decode code 615 = .ok (.iconst 1, 1) := by decide +kernel
theorem d_W_law_616 : decode code 616 = .ok (.iadd, 1) := by decide +kernel
theorem d_W_law_617 : decode code 617 = .ok (.iaload, 1) := by decide +kernel
theorem d_W_law_618 : decode code 618 = .ok (.aload_n 0, 1) := by decide +kernel
theorem d_W_law_619 : decode code 619 = .ok (.iload_n 3, 1) := by decide +kernel
theorem d_W_law_620 : decode code 620 = .ok (.iconst 2, 1) := by decide +kernel
theorem d_W_law_621 : decode code 621 = .ok (.iadd, 1) := by decide +kernel
theorem d_W_law_622 : decode code 622 = .ok (.iaload, 1) := by decide +kernel
theorem d_W_law_623 : decode code 623 = .ok (.aload_n 0, 1) := by decide +kernel
theorem d_W_law_624 : decode code 624 = .ok (.iload_n 3, 1) := by decide +kernel
theorem d_W_law_625 : decode code 625 = .ok (.iconst 3, 1) := by decide +kernel
theorem d_W_law_626 : decode code 626 = .ok (.iadd, 1) := by decide +kernel
theorem d_W_law_627 : decode code 627 = .ok (.iaload, 1) := by decide +kernel
theorem d_W_law_628 : decode code 628 = .ok (.invokevirtual 58, 3) := by decide +kernel
theorem d_W_law_631 : decode code 631 = .ok (.if_icmp .eq 177, 3) := by decide +kernel
theorem d_W_law_634 : decode code 634 = .ok (.iconst 0, 1) := by decide +kernel
theorem d_W_law_635 : decode code 635 = .ok (.ireturn, 1) := by decide +kernel
theorem d_W_law_636 : decode code 636 = .ok (.aload_n 1, 1) := by decide +kernel
theorem d_W_law_637 : decode code 637 = .ok (.aload_n 0, 1) := by decide +kernel
theorem d_W_law_638 : decode code 638 = .ok (.iload_n 3, 1) := by decide +kernel
theorem d_W_law_639 : decode code 639 = .ok (.iconst 1, 1) := by decide +kernel
theorem d_W_law_640 : decode code 640 = .ok (.iadd, 1) := by decide +kernel
theorem d_W_law_641 : decode code 641 = .ok (.iaload, 1) := by decide +kernel
theorem d_W_law_642 : decode code 642 = .ok (.i2l, 1) := by decide +kernel
theorem d_W_law_643 : decode code 643 = .ok (.bipush 32, 2) := by decide +kernel
theorem d_W_law_645 : decode code 645 = .ok (.lshl, 1) := by decide +kernel
theorem d_W_law_646 : decode code 646 = .ok (.aload_n 0, 1) := by decide +kernel
theorem d_W_law_647 : decode code 647 = .ok (.iload_n 3, 1) := by decide +kernel
theorem d_W_law_648 : decode code 648 = .ok (.iconst 2, 1) := by decide +kernel
theorem d_W_law_649 : decode code 649 = .ok (.iadd, 1) := by decide +kernel
theorem d_W_law_650 : decode code 650 = .ok (.iaload, 1) := by decide +kernel
theorem d_W_law_651 : decode code 651 = .ok (.i2l, 1) := by decide +kernel
theorem d_W_law_652 : decode code 652 = .ok (.ldc2_w 13, 3) := by decide +kernel
theorem d_W_law_655 : decode code 655 = .ok (.land, 1) := by decide +kernel
theorem d_W_law_656 : decode code 656 = .ok (.lor, 1) := by decide +kernel
theorem d_W_law_657 : decode code 657 = .ok (.aload_n 0, 1) := by decide +kernel
theorem d_W_law_658 : decode code 658 = .ok (.iload_n 3, 1) := by decide +kernel
theorem d_W_law_659 : decode code 659 = .ok (.iconst 3, 1) := by decide +kernel
theorem d_W_law_660 : decode code 660 = .ok (.iadd, 1) := by decide +kernel
theorem d_W_law_661 : decode code 661 = .ok (.iaload, 1) := by decide +kernel
theorem d_W_law_662 : decode code 662 = .ok (.invokevirtual 59, 3) := by decide +kernel
theorem d_W_law_665 : decode code 665 = .ok (.aload_n 2, 1) := by decide +kernel
theorem d_W_law_666 : decode code 666 = .ok (.aload_n 0, 1) := by decide +kernel
theorem d_W_law_667 : decode code 667 = .ok (.iload_n 3, 1) := by decide +kernel
theorem d_W_law_668 : decode code 668 = .ok (.iconst 1, 1) := by decide +kernel
theorem d_W_law_669 : decode code 669 = .ok (.iadd, 1) := by decide +kernel
theorem d_W_law_670 : decode code 670 = .ok (.iaload, 1) := by decide +kernel
theorem d_W_law_671 : decode code 671 = .ok (.i2l, 1) := by decide +kernel
theorem d_W_law_672 : decode code 672 = .ok (.bipush 32, 2) := by decide +kernel
theorem d_W_law_674 : decode code 674 = .ok (.lshl, 1) := by decide +kernel
theorem d_W_law_675 : decode code 675 = .ok (.aload_n 0, 1) := by decide +kernel
theorem d_W_law_676 : decode code 676 = .ok (.iload_n 3, 1) := by decide +kernel
theorem d_W_law_677 : decode code 677 = .ok (.iconst 2, 1) := by decide +kernel
theorem d_W_law_678 : decode code 678 = .ok (.iadd, 1) := by decide +kernel
theorem d_W_law_679 : decode code 679 = .ok (.iaload, 1) := by decide +kernel
theorem d_W_law_680 : decode code 680 = .ok (.i2l, 1) := by decide +kernel
theorem d_W_law_681 : decode code 681 = .ok (.ldc2_w 13, 3) := by decide +kernel
theorem d_W_law_684 : decode code 684 = .ok (.land, 1) := by decide +kernel
theorem d_W_law_685 : decode code 685 = .ok (.lor, 1) := by decide +kernel
theorem d_W_law_686 : decode code 686 = .ok (.aload_n 0, 1) := by decide +kernel
theorem d_W_law_687 : decode code 687 = .ok (.iload_n 3, 1) := by decide +kernel
theorem d_W_law_688 : decode code 688 = .ok (.iconst 3, 1) := by decide +kernel
theorem d_W_law_689 : decode code 689 = .ok (.iadd, 1) := by decide +kernel
theorem d_W_law_690 : decode code 690 = .ok (.iaload, 1) := by decide +kernel
theorem d_W_law_691 : decode code 691 = .ok (.invokevirtual 63, 3) := by decide +kernel
theorem d_W_law_694 : decode code 694 = .ok (.if_icmp .eq 114, 3) := by decide +kernel
theorem d_W_law_697 : decode code 697 = .ok (.iconst 0, 1) := by decide +kernel
theorem d_W_law_698 : decode code 698 = .ok (.ireturn, 1) := by decide +kernel
theorem d_W_law_699 : decode code 699 = .ok (.aload_n 1, 1) := by decide +kernel
theorem d_W_law_700 : decode code 700 = .ok (.aload_n 0, 1) := by decide +kernel
theorem d_W_law_701 : decode code 701 = .ok (.iload_n 3, 1) := by decide +kernel
theorem d_W_law_702 : decode code 702 = .ok (.iconst 1, 1) := by decide +kernel
theorem d_W_law_703 : decode code 703 = .ok (.iadd, 1) := by decide +kernel
theorem d_W_law_704 : decode code 704 = .ok (.iaload, 1) := by decide +kernel
theorem d_W_law_705 : decode code 705 = .ok (.invokevirtual 64, 3) := by decide +kernel
theorem d_W_law_708 : decode code 708 = .ok (.aload_n 2, 1) := by decide +kernel
theorem d_W_law_709 : decode code 709 = .ok (.aload_n 0, 1) := by decide +kernel
theorem d_W_law_710 : decode code 710 = .ok (.iload_n 3, 1) := by decide +kernel
theorem d_W_law_711 : decode code 711 = .ok (.iconst 1, 1) := by decide +kernel
theorem d_W_law_712 : decode code 712 = .ok (.iadd, 1) := by decide +kernel
theorem d_W_law_713 : decode code 713 = .ok (.iaload, 1) := by decide +kernel
theorem d_W_law_714 : decode code 714 = .ok (.invokevirtual 68, 3) := by decide +kernel
theorem d_W_law_717 : decode code 717 = .ok (.if_icmp .eq 91, 3) := by decide +kernel
theorem d_W_law_720 : decode code 720 = .ok (.iconst 0, 1) := by decide +kernel
theorem d_W_law_721 : decode code 721 = .ok (.ireturn, 1) := by decide +kernel
theorem d_W_law_722 : decode code 722 = .ok (.aload_n 1, 1) := by decide +kernel
theorem d_W_law_723 : decode code 723 = .ok (.aload_n 0, 1) := by decide +kernel
theorem d_W_law_724 : decode code 724 = .ok (.iload_n 3, 1) := by decide +kernel
theorem d_W_law_725 : decode code 725 = .ok (.iconst 1, 1) := by decide +kernel
theorem d_W_law_726 : decode code 726 = .ok (.iadd, 1) := by decide +kernel
theorem d_W_law_727 : decode code 727 = .ok (.iaload, 1) := by decide +kernel
theorem d_W_law_728 : decode code 728 = .ok (.aload_n 0, 1) := by decide +kernel
theorem d_W_law_729 : decode code 729 = .ok (.iload_n 3, 1) := by decide +kernel
theorem d_W_law_730 : decode code 730 = .ok (.iconst 2, 1) := by decide +kernel
theorem d_W_law_731 : decode code 731 = .ok (.iadd, 1) := by decide +kernel
theorem d_W_law_732 : decode code 732 = .ok (.iaload, 1) := by decide +kernel
theorem d_W_law_733 : decode code 733 = .ok (.invokevirtual 69, 3) := by decide +kernel
theorem d_W_law_736 : decode code 736 = .ok (.aload_n 2, 1) := by decide +kernel
theorem d_W_law_737 : decode code 737 = .ok (.aload_n 0, 1) := by decide +kernel
theorem d_W_law_738 : decode code 738 = .ok (.iload_n 3, 1) := by decide +kernel
theorem d_W_law_739 : decode code 739 = .ok (.iconst 1, 1) := by decide +kernel
theorem d_W_law_740 : decode code 740 = .ok (.iadd, 1) := by decide +kernel
theorem d_W_law_741 : decode code 741 = .ok (.iaload, 1) := by decide +kernel
theorem d_W_law_742 : decode code 742 = .ok (.aload_n 0, 1) := by decide +kernel
theorem d_W_law_743 : decode code 743 = .ok (.iload_n 3, 1) := by decide +kernel
theorem d_W_law_744 : decode code 744 = .ok (.iconst 2, 1) := by decide +kernel
theorem d_W_law_745 : decode code 745 = .ok (.iadd, 1) := by decide +kernel
theorem d_W_law_746 : decode code 746 = .ok (.iaload, 1) := by decide +kernel
theorem d_W_law_747 : decode code 747 = .ok (.invokevirtual 72, 3) := by decide +kernel
theorem d_W_law_750 : decode code 750 = .ok (.if_icmp .eq 58, 3) := by decide +kernel
theorem d_W_law_753 : decode code 753 = .ok (.iconst 0, 1) := by decide +kernel
theorem d_W_law_754 : decode code 754 = .ok (.ireturn, 1) := by decide +kernel
theorem d_W_law_755 : decode code 755 = .ok (.aload_n 1, 1) := by decide +kernel
theorem d_W_law_756 : decode code 756 = .ok (.aload_n 0, 1) := by decide +kernel
theorem d_W_law_757 : decode code 757 = .ok (.iload_n 3, 1) := by decide +kernel
theorem d_W_law_758 : decode code 758 = .ok (.iconst 1, 1) := by decide +kernel
theorem d_W_law_759 : decode code 759 = .ok (.iadd, 1) := by decide +kernel
theorem d_W_law_760 : decode code 760 = .ok (.iaload, 1) := by decide +kernel
theorem d_W_law_761 : decode code 761 = .ok (.aload_n 0, 1) := by decide +kernel
theorem d_W_law_762 : decode code 762 = .ok (.iload_n 3, 1) := by decide +kernel
theorem d_W_law_763 : decode code 763 = .ok (.iconst 2, 1) := by decide +kernel
theorem d_W_law_764 : decode code 764 = .ok (.iadd, 1) := by decide +kernel
theorem d_W_law_765 : decode code 765 = .ok (.iaload, 1) := by decide +kernel
theorem d_W_law_766 : decode code 766 = .ok (.aload_n 0, 1) := by decide +kernel
theorem d_W_law_767 : decode code 767 = .ok (.iload_n 3, 1) := by decide +kernel
theorem d_W_law_768 : decode code 768 = .ok (.iconst 3, 1) := by decide +kernel
theorem d_W_law_769 : decode code 769 = .ok (.iadd, 1) := by decide +kernel
theorem d_W_law_770 : decode code 770 = .ok (.iaload, 1) := by decide +kernel
theorem d_W_law_771 : decode code 771 = .ok (.aload_n 0, 1) := by decide +kernel
theorem d_W_law_772 : decode code 772 = .ok (.iload_n 3, 1) := by decide +kernel
theorem d_W_law_773 : decode code 773 = .ok (.iconst 4, 1) := by decide +kernel
theorem d_W_law_774 : decode code 774 = .ok (.iadd, 1) := by decide +kernel
theorem d_W_law_775 : decode code 775 = .ok (.iaload, 1) := by decide +kernel
theorem d_W_law_776 : decode code 776 = .ok (.invokevirtual 73, 3) := by decide +kernel
theorem d_W_law_779 : decode code 779 = .ok (.aload_n 2, 1) := by decide +kernel
theorem d_W_law_780 : decode code 780 = .ok (.aload_n 0, 1) := by decide +kernel
theorem d_W_law_781 : decode code 781 = .ok (.iload_n 3, 1) := by decide +kernel
theorem d_W_law_782 : decode code 782 = .ok (.iconst 1, 1) := by decide +kernel
theorem d_W_law_783 : decode code 783 = .ok (.iadd, 1) := by decide +kernel
theorem d_W_law_784 : decode code 784 = .ok (.iaload, 1) := by decide +kernel
theorem d_W_law_785 : decode code 785 = .ok (.aload_n 0, 1) := by decide +kernel
theorem d_W_law_786 : decode code 786 = .ok (.iload_n 3, 1) := by decide +kernel
theorem d_W_law_787 : decode code 787 = .ok (.iconst 2, 1) := by decide +kernel
theorem d_W_law_788 : decode code 788 = .ok (.iadd, 1) := by decide +kernel
theorem d_W_law_789 : decode code 789 = .ok (.iaload, 1) := by decide +kernel
theorem d_W_law_790 : decode code 790 = .ok (.aload_n 0, 1) := by decide +kernel
theorem d_W_law_791 : decode code 791 = .ok (.iload_n 3, 1) := by decide +kernel
theorem d_W_law_792 : decode code 792 = .ok (.iconst 3, 1) := by decide +kernel
theorem d_W_law_793 : decode code 793 = .ok (.iadd, 1) := by decide +kernel
theorem d_W_law_794 : decode code 794 = .ok (.iaload, 1) := by decide +kernel
theorem d_W_law_795 : decode code 795 = .ok (.aload_n 0, 1) := by decide +kernel
theorem d_W_law_796 : decode code 796 = .ok (.iload_n 3, 1) := by decide +kernel
theorem d_W_law_797 : decode code 797 = .ok (.iconst 4, 1) := by decide +kernel
theorem d_W_law_798 : decode code 798 = .ok (.iadd, 1) := by decide +kernel
theorem d_W_law_799 : decode code 799 = .ok (.iaload, 1) := by decide +kernel
theorem d_W_law_800 : decode code 800 = .ok (.invokevirtual 76, 3) := by decide +kernel
theorem d_W_law_803 : decode code 803 = .ok (.if_icmp .eq 5, 3) := by decide +kernel
theorem d_W_law_806 : decode code 806 = .ok (.iconst 0, 1) := by decide +kernel
theorem d_W_law_807 : decode code 807 = .ok (.ireturn, 1) := by decide +kernel
theorem d_W_law_808 : decode code 808 = .ok (.iinc 3 10, 3) := by decide +kernel
theorem d_W_law_811 : decode code 811 = .ok (.goto (-793), 3) := by decide +kernel
theorem d_W_law_814 : decode code 814 = .ok (.iconst 1, 1) := by decide +kernel
theorem d_W_law_815 : decode code 815 = .ok (.ireturn, 1) := by decide +kernel
end
section
/-! a world that is the same list of cells at every moment: zH within a method, zC at its start and end -/
def zH (D : va_G) (cl : List vw_C) (tys : List (ClassId × FieldType)) (A : Nat → Prop) (S : State → Heap → Prop) (ws : va_W) (s : State) (H : Heap) (locs : List Loc) : Prop :=
  va_P D cl ws H ∧ va_K D cl tys s ∧ va_D A ws ∧ va_S A s.heap H locs ∧ S s s.heap
def zC (D : va_G) (cl : List vw_C) (tys : List (ClassId × FieldType)) (A : Nat → Prop) (S : State → Heap → Prop) (ws : va_W) (U : State) : Prop := zH D cl tys A S ws U U.heap []
/-- S goes along with the state -/
def zS (A : Nat → Prop) (S : State → Heap → Prop) : Prop :=
  (∀ (s U : State), s.WarmedH U.vm → (∀ a : Nat, a < s.heap.size → ¬ A a → U.heap[a]? = s.heap[a]?) → S s s.heap → S U U.heap) ∧ ∀ (U : State) (g : JFrame) (mk : MethodId) (a : Array Value), S U U.heap → S (U.calling g mk a) (U.calling g mk a).heap
section ZK
variable {p : Program} {l : Launch} {e : Env} {R : Room} {s : State} {m : MethodId} {args : Array Value} {below : List Frame} {meth : Method} {c : Code} {H : Heap} {locs : List Loc} {cells slots : Nat} {Q : State → Prop}
variable {cc : ByteArray} {pc : Nat} {ls : Array Slot} {rest st0 : List Value} {D : va_G} {cl : List vw_C} {A : Nat → Prop} {tys : List (ClassId × FieldType)} {ws : va_W} {S : State → Heap → Prop} {mc ms : Nat} {a : Array Value}
theorem zC.blind (hZ : zS A S) {As : List Value} : FrameBlind (va_Pc As (zC D cl tys A S ws)) := by
  intro a U g mk h
  obtain ⟨h0, hP, hK, hD, hS, hs⟩ := h
  exact ⟨h0, hP, va_K.moved (u := U) (U := U.calling g mk a) (Vm.Alike.refl U.vm) hK, hD, va_S.rf, hZ.2 U g mk a hs⟩
theorem zH.at (hZ : zS A S) (hw : zH D cl tys A S ws s H locs) (U : State) (hU : U.heap = H) (hW : s.WarmedH U.vm) : zC D cl tys A S ws U := by
  obtain ⟨hP, hK, hD, hS, hs⟩ := hw
  refine ⟨by rw [hU]; exact hP, va_K.moved hW.alike hK, hD, va_S.rf, hZ.1 s U hW (fun a h1 h2 => ?_) hs⟩
  rw [hU]
  exact hS.2.1 a h1 h2
theorem z_preS (hZ : zS A S) (hw : zH D cl tys A S ws s H locs) (As : List Value) : PreS s H (va_Pc As (zC D cl tys A S ws)) As :=
  ⟨zC.blind hZ, fun U hU hW => ⟨rfl, hw.at hZ U hU hW⟩⟩
theorem z_preV (hZ : zS A S) (hw : zH D cl tys A S ws s H locs) {C : String} {T : u_T} {N ci b : Nat} (q0 : Nat) {fs : List Value} (he : ws[q0]? = some (b, .inr (ci, fs))) (hc : cl[ci]? = some (C, T, N)) (As : List Value) : PreV s H C b (va_Pc (.ref b :: As) (zC D cl tys A S ws)) As :=
  ⟨zC.blind hZ, va_recv hw.2.1 hw.1 hc he, fun U hU hW => ⟨rfl, hw.at hZ U hU hW⟩⟩
theorem z_calli {Y : Type} {wf : Y → va_W} {post : Int32 → Y → Prop} (hr : va_Run p l e R s m args below meth c H locs cells slots mc ms (F0 m pc ls st0) rest (va_Qi post (fun u => zC D cl tys A S (wf u)) A a) A) (hw : zH D cl tys A S ws s H locs)
    (kk : ∀ (r : Int32) (u : Y) (H1 : Heap) (locs1 : List Loc), post r u → zH D cl tys A S (wf u) s H1 locs1 → W p l e R s m args below meth c H1 locs1 (cells + mc) (slots + ms) Q (F0 m (pc + 3) ls (.int r :: rest))) : W p l e R s m args below meth c H locs cells slots Q (F0 m pc ls st0) :=
  va_calli hr hw.2.2.2.1 (fun _ _ h => h) (fun _ h => h) (fun r u t H1 locs1 ht hvm hp hB _ _ hS => kk r u H1 locs1 hp ⟨by rw [← ht]; exact hB.1, va_K.moved hvm.symm hB.2.1, hB.2.2.1, hS, hw.2.2.2.2⟩)
theorem z_calll {Y : Type} {wf : Y → va_W} {post : Int64 → Y → Prop} (hr : va_Run p l e R s m args below meth c H locs cells slots mc ms (F0 m pc ls st0) rest (va_Ql post (fun u => zC D cl tys A S (wf u)) A a) A) (hw : zH D cl tys A S ws s H locs)
    (kk : ∀ (r : Int64) (u : Y) (H1 : Heap) (locs1 : List Loc), post r u → zH D cl tys A S (wf u) s H1 locs1 → W p l e R s m args below meth c H1 locs1 (cells + mc) (slots + ms) Q (F0 m (pc + 3) ls (.long r :: rest))) : W p l e R s m args below meth c H locs cells slots Q (F0 m pc ls st0) :=
  va_calll hr hw.2.2.2.1 (fun _ _ h => h) (fun _ h => h) (fun r u t H1 locs1 ht hvm hp hB _ _ hS => kk r u H1 locs1 hp ⟨by rw [← ht]; exact hB.1, va_K.moved hvm.symm hB.2.1, hB.2.2.1, hS, hw.2.2.2.2⟩)
theorem z_callv {Y : Type} {wf : Y → va_W} {post : Y → Prop} (hr : va_Run p l e R s m args below meth c H locs cells slots mc ms (F0 m pc ls st0) rest (va_Qv post (fun u => zC D cl tys A S (wf u)) A a) A) (hw : zH D cl tys A S ws s H locs)
    (kk : ∀ (u : Y) (H1 : Heap) (locs1 : List Loc), post u → zH D cl tys A S (wf u) s H1 locs1 → W p l e R s m args below meth c H1 locs1 (cells + mc) (slots + ms) Q (F0 m (pc + 3) ls rest)) : W p l e R s m args below meth c H locs cells slots Q (F0 m pc ls st0) :=
  va_callv hr hw.2.2.2.1 (fun _ _ h => h) (fun _ h => h) (fun u t H1 locs1 ht hvm hp hB _ _ hS => kk u H1 locs1 hp ⟨by rw [← ht]; exact hB.1, va_K.moved hvm.symm hB.2.1, hB.2.2.1, hS, hw.2.2.2.2⟩)
theorem z_iret {Y : Type} {wf : Y → va_W} {post : Int32 → Y → Prop} (hZ : zS A S) (hexec : p.tables.exec = Jvm.exec) (hb : c.code = cc) (hr : meth.sig.returnType = some .int) (hlocks : meth.locks = false) {v : Int32} (u : Y) (hw : zH D cl tys A S (wf u) s H locs) (hp : post v u) (hdg : decode cc pc = .ok (.ireturn, 1)) :
    W p l e R s m args below meth c H locs cells slots (MQ below (va_Qi post (fun u => zC D cl tys A S (wf u)) A) args s cells slots A) (F0 m pc ls [.int v]) :=
  W.iret hexec hb hr (fun t ht hW => ⟨⟨v, u, rfl, hp, hw.at hZ t ht hW⟩, hw.2.2.2.1.F ht⟩) hw.2.2.2.1.2.2 hdg hlocks
theorem z_zret {Y : Type} {wf : Y → va_W} {post : Int32 → Y → Prop} (hZ : zS A S) (hexec : p.tables.exec = Jvm.exec) (hb : c.code = cc) {ty : FieldType} (hr : meth.sig.returnType = some ty) (hlocks : meth.locks = false) {v : Int32} (hn : narrow ty (.int v) = .int v) (u : Y) (hw : zH D cl tys A S (wf u) s H locs) (hp : post v u) (hdg : decode cc pc = .ok (.ireturn, 1)) :
    W p l e R s m args below meth c H locs cells slots (MQ below (va_Qi post (fun u => zC D cl tys A S (wf u)) A) args s cells slots A) (F0 m pc ls [.int v]) :=
  W.zret hexec hb hr hn (fun t ht hW => ⟨⟨v, u, rfl, hp, hw.at hZ t ht hW⟩, hw.2.2.2.1.F ht⟩) hw.2.2.2.1.2.2 hdg hlocks
theorem z_lret {Y : Type} {wf : Y → va_W} {post : Int64 → Y → Prop} (hZ : zS A S) (hexec : p.tables.exec = Jvm.exec) (hb : c.code = cc) (hr : meth.sig.returnType = some .long) (hlocks : meth.locks = false) {v : Int64} (u : Y) (hw : zH D cl tys A S (wf u) s H locs) (hp : post v u) (hdg : decode cc pc = .ok (.lreturn, 1)) :
    W p l e R s m args below meth c H locs cells slots (MQ below (va_Ql post (fun u => zC D cl tys A S (wf u)) A) args s cells slots A) (F0 m pc ls [.long v]) :=
  W.lret hexec hb hr (fun t ht hW => ⟨⟨v, u, rfl, hp, hw.at hZ t ht hW⟩, hw.2.2.2.1.F ht⟩) hw.2.2.2.1.2.2 hdg hlocks
theorem z_vret {Y : Type} {wf : Y → va_W} {post : Y → Prop} (hZ : zS A S) (hexec : p.tables.exec = Jvm.exec) (hb : c.code = cc) (hr : meth.sig.returnType = none) (hlocks : meth.locks = false) (u : Y) (hw : zH D cl tys A S (wf u) s H locs) (hp : post u) (hdg : decode cc pc = .ok (.return_, 1)) :
    W p l e R s m args below meth c H locs cells slots (MQ below (va_Qv post (fun u => zC D cl tys A S (wf u)) A) args s cells slots A) (F0 m pc ls []) :=
  W.vret hexec hb hr (fun t ht hW => ⟨⟨u, rfl, hp, hw.at hZ t ht hW⟩, hw.2.2.2.1.F ht⟩) hw.2.2.2.1.2.2 hdg hlocks
theorem tp_i {x y : Int32} (h : x = y) (k : W p l e R s m args below meth c H locs cells slots Q (F0 m pc ls (.int y :: rest))) : W p l e R s m args below meth c H locs cells slots Q (F0 m pc ls (.int x :: rest)) := h ▸ k
theorem tp_l {x y : Int64} (h : x = y) (k : W p l e R s m args below meth c H locs cells slots Q (F0 m pc ls (.long y :: rest))) : W p l e R s m args below meth c H locs cells slots Q (F0 m pc ls (.long x :: rest)) := h ▸ k
end ZK
/-! comparisons of small numbers -/
section ZN
variable {p : Program} {l : Launch} {e : Env} {R : Room} {s : State} {m : MethodId} {args : Array Value} {below : List Frame} {meth : Method} {c : Code} {H : Heap} {locs : List Loc} {cells slots : Nat} {Q : State → Prop}
variable {cc : ByteArray} {pc tgt : Nat} {off : Int} {ls : Array Slot} {rest : List Value} {a b : Nat}
theorem n_eq (hexec : p.tables.exec = Jvm.exec) (hb : c.code = cc) (hdg : decode cc pc = .ok (.if_icmp .eq off, 3)) (ht : (pc : Int) + off = (tgt : Int)) (ha : a < 2 ^ 31) (hb2 : b < 2 ^ 31)
    (kt : a = b → W p l e R s m args below meth c H locs cells slots Q (F0 m tgt ls rest)) (kf : a ≠ b → W p l e R s m args below meth c H locs cells slots Q (F0 m (pc + 3) ls rest)) : W p l e R s m args below meth c H locs cells slots Q (F0 m pc ls (.int (nI b) :: .int (nI a) :: rest)) :=
  lv_icmp_eq hexec hb hdg ht (fun h => kt ((nI_eq ha hb2).mp h)) (fun h => kf (fun q => h ((nI_eq ha hb2).mpr q)))
theorem n_ne (hexec : p.tables.exec = Jvm.exec) (hb : c.code = cc) (hdg : decode cc pc = .ok (.if_icmp .ne off, 3)) (ht : (pc : Int) + off = (tgt : Int)) (ha : a < 2 ^ 31) (hb2 : b < 2 ^ 31)
    (kt : a ≠ b → W p l e R s m args below meth c H locs cells slots Q (F0 m tgt ls rest)) (kf : a = b → W p l e R s m args below meth c H locs cells slots Q (F0 m (pc + 3) ls rest)) : W p l e R s m args below meth c H locs cells slots Q (F0 m pc ls (.int (nI b) :: .int (nI a) :: rest)) :=
  lv_icmp_ne hexec hb hdg ht (fun h => kt (fun q => h ((nI_eq ha hb2).mpr q))) (fun h => kf ((nI_eq ha hb2).mp h))
theorem n_lt (hexec : p.tables.exec = Jvm.exec) (hb : c.code = cc) (hdg : decode cc pc = .ok (.if_icmp .lt off, 3)) (ht : (pc : Int) + off = (tgt : Int)) (ha : a < 2 ^ 31) (hb2 : b < 2 ^ 31)
    (kt : a < b → W p l e R s m args below meth c H locs cells slots Q (F0 m tgt ls rest)) (kf : b ≤ a → W p l e R s m args below meth c H locs cells slots Q (F0 m (pc + 3) ls rest)) : W p l e R s m args below meth c H locs cells slots Q (F0 m pc ls (.int (nI b) :: .int (nI a) :: rest)) :=
  lv_icmp_lt hexec hb hdg ht (fun h => kt ((nI_ltI ha hb2).mp h)) (fun h => kf (Nat.not_lt.mp (fun q => h ((nI_ltI ha hb2).mpr q))))
theorem n_ge (hexec : p.tables.exec = Jvm.exec) (hb : c.code = cc) (hdg : decode cc pc = .ok (.if_icmp .ge off, 3)) (ht : (pc : Int) + off = (tgt : Int)) (ha : a < 2 ^ 31) (hb2 : b < 2 ^ 31)
    (kt : b ≤ a → W p l e R s m args below meth c H locs cells slots Q (F0 m tgt ls rest)) (kf : a < b → W p l e R s m args below meth c H locs cells slots Q (F0 m (pc + 3) ls rest)) : W p l e R s m args below meth c H locs cells slots Q (F0 m pc ls (.int (nI b) :: .int (nI a) :: rest)) :=
  lv_icmp_ge hexec hb hdg ht (fun h => kt ((nI_leI hb2 ha).mp h)) (fun h => kf (Nat.not_le.mp (fun q => h ((nI_leI hb2 ha).mpr q))))
theorem n_gt (hexec : p.tables.exec = Jvm.exec) (hb : c.code = cc) (hdg : decode cc pc = .ok (.if_icmp .gt off, 3)) (ht : (pc : Int) + off = (tgt : Int)) (ha : a < 2 ^ 31) (hb2 : b < 2 ^ 31)
    (kt : b < a → W p l e R s m args below meth c H locs cells slots Q (F0 m tgt ls rest)) (kf : a ≤ b → W p l e R s m args below meth c H locs cells slots Q (F0 m (pc + 3) ls rest)) : W p l e R s m args below meth c H locs cells slots Q (F0 m pc ls (.int (nI b) :: .int (nI a) :: rest)) :=
  lv_icmp_gt hexec hb hdg ht (fun h => kt ((nI_ltI hb2 ha).mp h)) (fun h => kf (Nat.not_lt.mp (fun q => h ((nI_ltI hb2 ha).mpr q))))
theorem n_le (hexec : p.tables.exec = Jvm.exec) (hb : c.code = cc) (hdg : decode cc pc = .ok (.if_icmp .le off, 3)) (ht : (pc : Int) + off = (tgt : Int)) (ha : a < 2 ^ 31) (hb2 : b < 2 ^ 31)
    (kt : a ≤ b → W p l e R s m args below meth c H locs cells slots Q (F0 m tgt ls rest)) (kf : b < a → W p l e R s m args below meth c H locs cells slots Q (F0 m (pc + 3) ls rest)) : W p l e R s m args below meth c H locs cells slots Q (F0 m pc ls (.int (nI b) :: .int (nI a) :: rest)) :=
  lv_icmp_le hexec hb hdg ht (fun h => kt ((nI_leI ha hb2).mp h)) (fun h => kf (Nat.not_le.mp (fun q => h ((nI_leI ha hb2).mpr q))))
theorem n_eq0 (hexec : p.tables.exec = Jvm.exec) (hb : c.code = cc) (hdg : decode cc pc = .ok (.ifCond .eq off, 3)) (ht : (pc : Int) + off = (tgt : Int)) (ha : a < 2 ^ 31)
    (kt : a = 0 → W p l e R s m args below meth c H locs cells slots Q (F0 m tgt ls rest)) (kf : a ≠ 0 → W p l e R s m args below meth c H locs cells slots Q (F0 m (pc + 3) ls rest)) : W p l e R s m args below meth c H locs cells slots Q (F0 m pc ls (.int (nI a) :: rest)) :=
  lv_if_eq hexec hb hdg ht (fun h => kt ((nI_eq (b := 0) ha (by decide)).mp h)) (fun h => kf (fun q => h ((nI_eq (b := 0) ha (by decide)).mpr q)))
theorem n_ne0 (hexec : p.tables.exec = Jvm.exec) (hb : c.code = cc) (hdg : decode cc pc = .ok (.ifCond .ne off, 3)) (ht : (pc : Int) + off = (tgt : Int)) (ha : a < 2 ^ 31)
    (kt : a ≠ 0 → W p l e R s m args below meth c H locs cells slots Q (F0 m tgt ls rest)) (kf : a = 0 → W p l e R s m args below meth c H locs cells slots Q (F0 m (pc + 3) ls rest)) : W p l e R s m args below meth c H locs cells slots Q (F0 m pc ls (.int (nI a) :: rest)) :=
  lv_if_ne hexec hb hdg ht (fun h => kt (fun q => h ((nI_eq (b := 0) ha (by decide)).mpr q))) (fun h => kf ((nI_eq (b := 0) ha (by decide)).mp h))
end ZN
/-! the words of a call, all out of zT -/
theorem gd_V {own C : String} {idx n : Nat} {y : MethodName} {b : ByteArray} {r : Option FieldType} (k1 : Cond.methodLink own idx y ∈ zT) (k2 : Cond.instanceMethod y ∈ zT) (k3 : Cond.selects C y y ∈ zT) (k4 : Cond.initialized C ∈ zT) (k5 : Cond.code y b n r ∈ zT) : GoodIn zT (wsV own idx C y (zW y b n r)) := by
  intro w hw
  refine zT_good w ?_
  simp only [wsV, zW, List.cons_append, List.nil_append, List.mem_cons] at hw
  rcases hw with rfl | rfl | rfl | rfl | rfl | hw
  · exact k1
  · exact k2
  · exact k3
  · exact k4
  · exact k5
  · exact hw
theorem gd_S {own : String} {idx n : Nat} {y : MethodName} {b : ByteArray} {r : Option FieldType} (k1 : Cond.methodLink own idx y ∈ zT) (k2 : Cond.static y ∈ zT) (k4 : Cond.initialized y.cls ∈ zT) (k5 : Cond.code y b n r ∈ zT) : GoodIn zT (va_wsS own idx y (zW y b n r)) := by
  intro w hw
  refine zT_good w ?_
  simp only [va_wsS, zW, List.cons_append, List.nil_append, List.mem_cons] at hw
  rcases hw with rfl | rfl | rfl | rfl | hw
  · exact k1
  · exact k2
  · exact k4
  · exact k5
  · exact hw
theorem gd_I {n : Nat} {y : MethodName} {b : ByteArray} {r : Option FieldType} (k5 : Cond.code y b n r ∈ zT) : GoodIn zT (zW y b n r) := by
  intro w hw
  refine zT_good w ?_
  simp only [zW, List.mem_cons] at hw
  rcases hw with rfl | hw
  · exact k5
  · exact hw
abbrev zr (f n : Nat) : Room := { frames := f, cells := 0, slots := 0, locals := n }
end
section
/-! the reference: its one object and its six arrays -/
/-- what stays: numbers of kinds, which cells may change, the addresses, the kinds of the arrays -/
abbrev rG : Type := va_G × (Nat → Prop) × (Nat → Nat) × ClassId × ClassId × ClassId
/-- what changes: the rows' numbers, the two long rows, the marks, the bytes, how many -/
abbrev rS : Type := (Nat → Nat) × (Nat → Nat) × (Nat → Nat) × (Nat → Nat) × (Nat → Nat) × Nat
abbrev rV (σ : rS) : Nat → Nat := σ.1
abbrev rP (σ : rS) : Nat → Nat := σ.2.1
abbrev rF (σ : rS) : Nat → Nat := σ.2.2.1
abbrev rN (σ : rS) : Nat → Nat := σ.2.2.2.1
abbrev rB (σ : rS) : Nat → Nat := σ.2.2.2.2.1
abbrev rM (σ : rS) : Nat := σ.2.2.2.2.2
abbrev rsV (σ : rS) (V : Nat → Nat) : rS := (V, σ.2)
abbrev rsP (σ : rS) (P : Nat → Nat) : rS := (σ.1, P, σ.2.2)
abbrev rsF (σ : rS) (F : Nat → Nat) : rS := (σ.1, σ.2.1, F, σ.2.2.2)
abbrev rsN (σ : rS) (N : Nat → Nat) : rS := (σ.1, σ.2.1, σ.2.2.1, N, σ.2.2.2.2)
abbrev rsB (σ : rS) (B : Nat → Nat) : rS := (σ.1, σ.2.1, σ.2.2.1, σ.2.2.2.1, B, σ.2.2.2.2.2)
abbrev rsM (σ : rS) (M : Nat) : rS := (σ.1, σ.2.1, σ.2.2.1, σ.2.2.2.1, σ.2.2.2.2.1, M)
abbrev rA (G : rG) (i : Nat) : Nat := G.2.2.1 i
abbrev rAA (G : rG) : Nat → Prop := G.2.1
abbrev b26 : Nat := 67108864
def ec_N : Nat := 115792089237316195423570985008687907852837564279074904382605163141518161494337
/-- what 2 ^ 256 is more than a modulus -/
def rRest (k : Nat) : Nat := if k < 10 then dg b26 (2 ^ 256 - ec_P) k else dg b26 (2 ^ 256 - ec_N) (k - 10)
def rFs (G : rG) (σ : rS) : List Value := [.ref (rA G 1), .ref (rA G 2), .ref (rA G 3), .ref (rA G 4), .ref (rA G 5), .ref (rA G 6), .int (nI (rM σ))]
def rRows (σ : rS) : Nat → Int32 := fun k => nI (dg b26 (rV σ (k / 10)) (k % 10))
def rWs (G : rG) (σ : rS) : va_W := [(rA G 0, .inr (5, rFs G σ)), (rA G 1, .inl (G.2.2.2.1, 480, .inl (rRows σ))), (rA G 2, .inl (G.2.2.2.2.1, 22, .inr (.inl (fun k => lN (rP σ k))))), (rA G 3, .inl (G.2.2.2.2.1, 22, .inr (.inl (fun k => lN (rF σ k))))),
  (rA G 4, .inl (G.2.2.2.1, 20, .inl (fun k => nI (rRest k)))), (rA G 5, .inl (G.2.2.2.2.2, 4, .inl (fun k => nI (rN σ k)))), (rA G 6, .inl (G.2.2.2.1, 100, .inl (fun k => nI (rB σ k))))]
def rTy (G : rG) : List (ClassId × FieldType) := [(G.2.2.2.1, .int), (G.2.2.2.2.1, .long), (G.2.2.2.2.2, .boolean)]
abbrev r0 : State → Heap → Prop := fun _ _ => True
abbrev rH (G : rG) (σ : rS) (s : State) (H : Heap) (locs : List Loc) : Prop := zH G.1 zcl (rTy G) (rAA G) r0 (rWs G σ) s H locs
abbrev rC (G : rG) (σ : rS) (U : State) : Prop := zC G.1 zcl (rTy G) (rAA G) r0 (rWs G σ) U
theorem rZ (A : Nat → Prop) : zS A r0 := ⟨fun _ _ _ _ _ => trivial, fun _ _ _ _ _ => trivial⟩
theorem up_self {α : Type} (f : Nat → α) (k : Nat) (v : α) : va_up f k v k = v := if_pos rfl
theorem up_ne {α : Type} (f : Nat → α) {k j : Nat} (v : α) (h : j ≠ k) : va_up f k v j = f j := if_neg h
section RK
variable {p : Program} {l : Launch} {e : Env} {R : Room} {s : State} {m : MethodId} {args : Array Value} {below : List Frame} {meth : Method} {c : Code} {H : Heap} {locs : List Loc} {cells slots : Nat} {Q : State → Prop}
variable {cc : ByteArray} {pc : Nat} {ls : Array Slot} {rest : List Value} {G : rG} {σ : rS}
theorem r_get (hexec : p.tables.exec = Jvm.exec) (hb : c.code = cc) (ht : ∀ w ∈ zT, w.before args s = true) (hown : s.vm.findClass R_R = some m.cls) (hw : rH G σ s H locs) (k : Nat) (hk : k < 7) {index : Nat} (hlink : (Cond.fieldLink R_R index R_R (F_R k).2.1 (F_R k).2.2.1).before args s = true) {v : Value} (hv : (rFs G σ)[k]? = some v) (hdg : decode cc pc = .ok (.getfield index, 3))
    (hsame : ∀ x, s.fieldFound? (F_R k).1 (F_R k).2.1 (F_R k).2.2.1 = some x → s.fieldFound? R_R (F_R k).2.1 (F_R k).2.2.1 = some x)
    (kk : W p l e R s m args below meth c H locs cells slots Q (F0 m (pc + 3) ls (v :: rest))) : W p l e R s m args below meth c H locs cells slots Q (F0 m pc ls (.ref (rA G 0) :: rest)) :=
  va_get (ci := 5) (C := R_R) (T := F_R) (N := 7) hexec hb ht ku_R hown hw.2.1 hw.1 0 rfl rfl k hk hlink hsame hv hdg kk
/-- an element of the rows -/
theorem r_ild (hexec : p.tables.exec = Jvm.exec) (hb : c.code = cc) (hw : rH G σ s H locs) {n : Nat} (hn : n < 480) (hdg : decode cc pc = .ok (.iaload, 1))
    (kk : W p l e R s m args below meth c H locs cells slots Q (F0 m (pc + 1) ls (.int (nI (dg b26 (rV σ (n / 10)) (n % 10))) :: rest))) : W p l e R s m args below meth c H locs cells slots Q (F0 m pc ls (.int (nI n) :: .ref (rA G 1) :: rest)) := by
  refine va_iald hexec hb hw.2.1 hw.1 1 0 rfl rfl (vp_in_nI hn (by decide)) hdg ?_
  rw [nI_clamp (by omega)]
  exact kk
theorem r_ild' (hexec : p.tables.exec = Jvm.exec) (hb : c.code = cc) (hw : rH G σ s H locs) {r k : Nat} (hr : r < 48) (hk : k < 10) (hdg : decode cc pc = .ok (.iaload, 1))
    (kk : W p l e R s m args below meth c H locs cells slots Q (F0 m (pc + 1) ls (.int (nI (dg b26 (rV σ r) k)) :: rest))) : W p l e R s m args below meth c H locs cells slots Q (F0 m pc ls (.int (nI (10 * r + k)) :: .ref (rA G 1) :: rest)) := by
  refine r_ild hexec hb hw (by omega) hdg ?_
  rw [show (10 * r + k) / 10 = r by omega, show (10 * r + k) % 10 = k by omega]
  exact kk
theorem rRows_set (σ : rS) {r k x : Nat} (hk : k < 10) (hx : x < b26) : upd (rRows σ) (10 * r + k) (nI x) = rRows (rsV σ (va_up (rV σ) r (ds b26 (rV σ r) k x))) := by
  funext j
  unfold upd rRows
  by_cases h : j = 10 * r + k
  · subst h
    rw [if_pos rfl]
    show nI x = nI (dg b26 (va_up (rV σ) r (ds b26 (rV σ r) k x) ((10 * r + k) / 10)) ((10 * r + k) % 10))
    rw [show (10 * r + k) / 10 = r by omega, show (10 * r + k) % 10 = k by omega, up_self, ds_mid (by decide) _ hx]
  · rw [if_neg h]
    show nI (dg b26 (rV σ (j / 10)) (j % 10)) = nI (dg b26 (va_up (rV σ) r (ds b26 (rV σ r) k x) (j / 10)) (j % 10))
    by_cases h2 : j / 10 = r
    · subst h2
      rw [up_self, ds_dg (by decide) _ hx, if_neg (by omega)]
    · rw [up_ne _ _ h2]
theorem rWs_1 (G : rG) (σ : rS) (V : Nat → Nat) (q : Nat × va_E) (h : q = (rA G 1, .inl (G.2.2.2.1, 480, .inl (rRows (rsV σ V))))) : (rWs G σ).set 1 q = rWs G (rsV σ V) := by
  subst h
  rfl
/-- an element of the rows is written -/
theorem r_ist (hexec : p.tables.exec = Jvm.exec) (hb : c.code = cc) (hw : rH G σ s H locs) {r k x : Nat} (hr : r < 48) (hk : k < 10) (hx : x < b26) (hdg : decode cc pc = .ok (.iastore, 1))
    (kk : ∀ (H1 : Heap) (locs1 : List Loc), rH G (rsV σ (va_up (rV σ) r (ds b26 (rV σ r) k x))) s H1 locs1 → W p l e R s m args below meth c H1 locs1 cells slots Q (F0 m (pc + 1) ls rest)) : W p l e R s m args below meth c H locs cells slots Q (F0 m pc ls (.int (nI x) :: .int (nI (10 * r + k)) :: .ref (rA G 1) :: rest)) := by
  obtain ⟨hP, hK, hD, hS, h0⟩ := hw
  refine va_iast hexec hb hK hP hD hS 1 0 rfl rfl (vp_in_nI (show 10 * r + k < 480 by omega) (by decide)) hdg (fun H1 locs1 hP1 hD1 hS1 => ?_)
  rw [nI_clamp (show 10 * r + k < 2 ^ 31 by omega), rRows_set σ hk hx, rWs_1 G σ _ _ rfl] at hP1 hD1
  exact kk H1 locs1 ⟨hP1, hK, hD1, hS1, h0⟩
/-- the long rows: product is 2, folded 3 -/
theorem r_lldP (hexec : p.tables.exec = Jvm.exec) (hb : c.code = cc) (hw : rH G σ s H locs) {n : Nat} (hn : n < 22) (hdg : decode cc pc = .ok (.laload, 1))
    (kk : W p l e R s m args below meth c H locs cells slots Q (F0 m (pc + 1) ls (.long (lN (rP σ n)) :: rest))) : W p l e R s m args below meth c H locs cells slots Q (F0 m pc ls (.int (nI n) :: .ref (rA G 2) :: rest)) := by
  refine va_lald hexec hb hw.2.1 hw.1 2 1 rfl rfl (vp_in_nI hn (by decide)) hdg ?_
  rw [nI_clamp (by omega)]
  exact kk
theorem r_lldF (hexec : p.tables.exec = Jvm.exec) (hb : c.code = cc) (hw : rH G σ s H locs) {n : Nat} (hn : n < 22) (hdg : decode cc pc = .ok (.laload, 1))
    (kk : W p l e R s m args below meth c H locs cells slots Q (F0 m (pc + 1) ls (.long (lN (rF σ n)) :: rest))) : W p l e R s m args below meth c H locs cells slots Q (F0 m pc ls (.int (nI n) :: .ref (rA G 3) :: rest)) := by
  refine va_lald hexec hb hw.2.1 hw.1 3 1 rfl rfl (vp_in_nI hn (by decide)) hdg ?_
  rw [nI_clamp (by omega)]
  exact kk
theorem up_lN (f : Nat → Nat) (n x : Nat) : vp_updL (fun k => lN (f k)) n (lN x) = fun k => lN (va_up f n x k) := by
  funext j
  unfold vp_updL va_up
  by_cases h : j = n
  · rw [if_pos h, if_pos h]
  · rw [if_neg h, if_neg h]
theorem up_nI (f : Nat → Nat) (n x : Nat) : upd (fun k => nI (f k)) n (nI x) = fun k => nI (va_up f n x k) := by
  funext j
  unfold upd va_up
  by_cases h : j = n
  · rw [if_pos h, if_pos h]
  · rw [if_neg h, if_neg h]
theorem r_lstP (hexec : p.tables.exec = Jvm.exec) (hb : c.code = cc) (hw : rH G σ s H locs) {n x : Nat} (hn : n < 22) (hdg : decode cc pc = .ok (.lastore, 1))
    (kk : ∀ (H1 : Heap) (locs1 : List Loc), rH G (rsP σ (va_up (rP σ) n x)) s H1 locs1 → W p l e R s m args below meth c H1 locs1 cells slots Q (F0 m (pc + 1) ls rest)) : W p l e R s m args below meth c H locs cells slots Q (F0 m pc ls (.long (lN x) :: .int (nI n) :: .ref (rA G 2) :: rest)) := by
  obtain ⟨hP, hK, hD, hS, h0⟩ := hw
  refine va_last hexec hb hK hP hD hS 2 1 rfl rfl (vp_in_nI hn (by decide)) hdg (fun H1 locs1 hP1 hD1 hS1 => ?_)
  rw [nI_clamp (show n < 2 ^ 31 by omega), up_lN] at hP1 hD1
  exact kk H1 locs1 ⟨hP1, hK, hD1, hS1, h0⟩
theorem r_lstF (hexec : p.tables.exec = Jvm.exec) (hb : c.code = cc) (hw : rH G σ s H locs) {n x : Nat} (hn : n < 22) (hdg : decode cc pc = .ok (.lastore, 1))
    (kk : ∀ (H1 : Heap) (locs1 : List Loc), rH G (rsF σ (va_up (rF σ) n x)) s H1 locs1 → W p l e R s m args below meth c H1 locs1 cells slots Q (F0 m (pc + 1) ls rest)) : W p l e R s m args below meth c H locs cells slots Q (F0 m pc ls (.long (lN x) :: .int (nI n) :: .ref (rA G 3) :: rest)) := by
  obtain ⟨hP, hK, hD, hS, h0⟩ := hw
  refine va_last hexec hb hK hP hD hS 3 1 rfl rfl (vp_in_nI hn (by decide)) hdg (fun H1 locs1 hP1 hD1 hS1 => ?_)
  rw [nI_clamp (show n < 2 ^ 31 by omega), up_lN] at hP1 hD1
  exact kk H1 locs1 ⟨hP1, hK, hD1, hS1, h0⟩
/-- rest -/
theorem r_ildR (hexec : p.tables.exec = Jvm.exec) (hb : c.code = cc) (hw : rH G σ s H locs) {n : Nat} (hn : n < 20) (hdg : decode cc pc = .ok (.iaload, 1))
    (kk : W p l e R s m args below meth c H locs cells slots Q (F0 m (pc + 1) ls (.int (nI (rRest n)) :: rest))) : W p l e R s m args below meth c H locs cells slots Q (F0 m pc ls (.int (nI n) :: .ref (rA G 4) :: rest)) := by
  refine va_iald hexec hb hw.2.1 hw.1 4 0 rfl rfl (vp_in_nI hn (by decide)) hdg ?_
  rw [nI_clamp (by omega)]
  exact kk
/-- none -/
theorem r_zld (hexec : p.tables.exec = Jvm.exec) (hb : c.code = cc) (hw : rH G σ s H locs) {n : Nat} (hn : n < 4) (hdg : decode cc pc = .ok (.baload, 1))
    (kk : W p l e R s m args below meth c H locs cells slots Q (F0 m (pc + 1) ls (.int (nI (rN σ n)) :: rest))) : W p l e R s m args below meth c H locs cells slots Q (F0 m pc ls (.int (nI n) :: .ref (rA G 5) :: rest)) := by
  refine va_zald hexec hb hw.2.1 hw.1 5 2 rfl rfl (vp_in_nI hn (by decide)) hdg ?_
  rw [nI_clamp (by omega)]
  exact kk
theorem nar_z {x : Nat} (hx : x < 2) : vp_nar .boolean (nI x) = nI x := by
  rcases (show x = 0 ∨ x = 1 by omega) with rfl | rfl <;> decide
theorem r_zst (hexec : p.tables.exec = Jvm.exec) (hb : c.code = cc) (hw : rH G σ s H locs) {n x : Nat} (hn : n < 4) (hx : x < 2) (hdg : decode cc pc = .ok (.bastore, 1))
    (kk : ∀ (H1 : Heap) (locs1 : List Loc), rH G (rsN σ (va_up (rN σ) n x)) s H1 locs1 → W p l e R s m args below meth c H1 locs1 cells slots Q (F0 m (pc + 1) ls rest)) : W p l e R s m args below meth c H locs cells slots Q (F0 m pc ls (.int (nI x) :: .int (nI n) :: .ref (rA G 5) :: rest)) := by
  obtain ⟨hP, hK, hD, hS, h0⟩ := hw
  refine va_zast hexec hb hK hP hD hS 5 2 rfl rfl (vp_in_nI hn (by decide)) hdg (fun H1 locs1 hP1 hD1 hS1 => ?_)
  rw [nI_clamp (show n < 2 ^ 31 by omega), nar_z hx, up_nI] at hP1 hD1
  exact kk H1 locs1 ⟨hP1, hK, hD1, hS1, h0⟩
/-- bytes -/
theorem r_bld (hexec : p.tables.exec = Jvm.exec) (hb : c.code = cc) (hw : rH G σ s H locs) {n : Nat} (hn : n < 100) (hdg : decode cc pc = .ok (.iaload, 1))
    (kk : W p l e R s m args below meth c H locs cells slots Q (F0 m (pc + 1) ls (.int (nI (rB σ n)) :: rest))) : W p l e R s m args below meth c H locs cells slots Q (F0 m pc ls (.int (nI n) :: .ref (rA G 6) :: rest)) := by
  refine va_iald hexec hb hw.2.1 hw.1 6 0 rfl rfl (vp_in_nI hn (by decide)) hdg ?_
  rw [nI_clamp (by omega)]
  exact kk
theorem r_bst (hexec : p.tables.exec = Jvm.exec) (hb : c.code = cc) (hw : rH G σ s H locs) {n x : Nat} (hn : n < 100) (hdg : decode cc pc = .ok (.iastore, 1))
    (kk : ∀ (H1 : Heap) (locs1 : List Loc), rH G (rsB σ (va_up (rB σ) n x)) s H1 locs1 → W p l e R s m args below meth c H1 locs1 cells slots Q (F0 m (pc + 1) ls rest)) : W p l e R s m args below meth c H locs cells slots Q (F0 m pc ls (.int (nI x) :: .int (nI n) :: .ref (rA G 6) :: rest)) := by
  obtain ⟨hP, hK, hD, hS, h0⟩ := hw
  refine va_iast hexec hb hK hP hD hS 6 0 rfl rfl (vp_in_nI hn (by decide)) hdg (fun H1 locs1 hP1 hD1 hS1 => ?_)
  rw [nI_clamp (show n < 2 ^ 31 by omega), up_nI] at hP1 hD1
  exact kk H1 locs1 ⟨hP1, hK, hD1, hS1, h0⟩
/-- many is written -/
theorem r_put (hexec : p.tables.exec = Jvm.exec) (hb : c.code = cc) (ht : ∀ w ∈ zT, w.before args s = true) (hown : s.vm.findClass R_R = some m.cls) (hw : rH G σ s H locs) {index x : Nat} (hlink : (Cond.fieldLink R_R index R_R "many" "I").before args s = true) (hdg : decode cc pc = .ok (.putfield index, 3))
    (kk : ∀ (H1 : Heap) (locs1 : List Loc), rH G (rsM σ x) s H1 locs1 → W p l e R s m args below meth c H1 locs1 cells slots Q (F0 m (pc + 3) ls rest)) : W p l e R s m args below meth c H locs cells slots Q (F0 m pc ls (.int (nI x) :: .ref (rA G 0) :: rest)) := by
  obtain ⟨hP, hK, hD, hS, h0⟩ := hw
  exact va_put (ci := 5) (v := .int (nI x)) (ty := .int) (C := R_R) (T := F_R) (N := 7) hexec hb ht ku_R t_R t_R_ok n_R hown hK hP hD hS 0 rfl rfl 6 (by decide) hlink (fun _ h9 => h9) rfl rfl rfl rfl (show 6 < 7 by decide) hdg (fun H1 locs1 hP1 hD1 hS1 => kk H1 locs1 ⟨hP1, hK, hD1, hS1, h0⟩)
variable {y : MethodName} {bytes : ByteArray} {maxL nL np index : Nat} {rm : Room} {As st0 : List Value}
theorem r_callv {post : rS → Prop} (S : CallFix p m c cc nL s args zT R_R) (hw : rH G σ s H locs) (hM : Met l y (zW y bytes maxL none) rm (va_Pc (.ref (rA G 0) :: As) (rC G σ)) (va_Qv post (fun u => rC G u) (rAA G)) 0 0 (rAA G))
    (k : Cond.methodLink R_R index y ∈ zT ∧ Cond.instanceMethod y ∈ zT ∧ Cond.selects R_R y y ∈ zT ∧ Cond.code y bytes maxL none ∈ zT)
    (hd : y.cls = R_R ∧ y.cls ≠ "java/lang/invoke/MethodHandle" ∧ y.cls ≠ "java/lang/invoke/VarHandle" ∧ (parseMethodDescriptor y.desc).map (fun d => d.parameters.length) = some np) (hR : rm.frames + 1 ≤ R.frames ∧ 8 + (maxL + 11) + rm.locals ≤ R.locals) (hrc : rm.cells = 0) (hrs : rm.slots = 0) (hn : As.length = np) (hsize : ls.size = nL) (hst : st0 = As.reverse ++ .ref (rA G 0) :: rest) (hW : (rest.map fun v => v.category).sum ≤ 8) (hdg : decode cc pc = .ok (.invokevirtual index, 3)) (hf : cells ≤ R.cells ∧ slots ≤ R.slots)
    (kk : ∀ (u : rS) (H1 : Heap) (locs1 : List Loc), post u → rH G u s H1 locs1 → W p l e R s m args below meth c H1 locs1 cells slots Q (F0 m (pc + 3) ls rest)) : W p l e R s m args below meth c H locs cells slots Q (F0 m pc ls st0) :=
  z_callv (va_runV (As := As) (rest := rest) S hM (cwV np S.2.2.2.2 (gd_V k.1 k.2.1 k.2.2.1 ki_R k.2.2.2) rfl hrc hrs hd hR) (z_preV (rZ _) hw 0 rfl rfl As) rfl hn hsize hst (by show 2 * 0 + _ ≤ 8; omega) hdg hf) hw kk
theorem r_calli {post : Int32 → rS → Prop} {rt : FieldType} (S : CallFix p m c cc nL s args zT R_R) (hw : rH G σ s H locs) (hM : Met l y (zW y bytes maxL (some rt)) rm (va_Pc (.ref (rA G 0) :: As) (rC G σ)) (va_Qi post (fun u => rC G u) (rAA G)) 0 0 (rAA G))
    (k : Cond.methodLink R_R index y ∈ zT ∧ Cond.instanceMethod y ∈ zT ∧ Cond.selects R_R y y ∈ zT ∧ Cond.code y bytes maxL (some rt) ∈ zT)
    (hd : y.cls = R_R ∧ y.cls ≠ "java/lang/invoke/MethodHandle" ∧ y.cls ≠ "java/lang/invoke/VarHandle" ∧ (parseMethodDescriptor y.desc).map (fun d => d.parameters.length) = some np) (hR : rm.frames + 1 ≤ R.frames ∧ 8 + (maxL + 11) + rm.locals ≤ R.locals) (hrc : rm.cells = 0) (hrs : rm.slots = 0) (hn : As.length = np) (hsize : ls.size = nL) (hst : st0 = As.reverse ++ .ref (rA G 0) :: rest) (hW : (rest.map fun v => v.category).sum ≤ 8) (hdg : decode cc pc = .ok (.invokevirtual index, 3)) (hf : cells ≤ R.cells ∧ slots ≤ R.slots)
    (kk : ∀ (r : Int32) (u : rS) (H1 : Heap) (locs1 : List Loc), post r u → rH G u s H1 locs1 → W p l e R s m args below meth c H1 locs1 cells slots Q (F0 m (pc + 3) ls (.int r :: rest))) : W p l e R s m args below meth c H locs cells slots Q (F0 m pc ls st0) :=
  z_calli (va_runV (As := As) (rest := rest) S hM (cwV np S.2.2.2.2 (gd_V k.1 k.2.1 k.2.2.1 ki_R k.2.2.2) rfl hrc hrs hd hR) (z_preV (rZ _) hw 0 rfl rfl As) rfl hn hsize hst (by show 2 * 0 + _ ≤ 8; omega) hdg hf) hw kk
end RK
end
section
/-! ===== lN n to 2^64: shifts, and, or, masks, one bit ===== -/
theorem wb_tb (n : Nat) : (lN n).toBitVec = BitVec.ofNat 64 n := rfl
theorem wb_inj {a b : Int64} (h : a.toBitVec = b.toBitVec) : a = b := Int64.toBitVec_inj.mp h
theorem wb_tn {n : Nat} (h : n < 2 ^ 64) : (lN n).toBitVec.toNat = n := by rw [wb_tb, BitVec.toNat_ofNat, Nat.mod_eq_of_lt h]
theorem wb_of (x : Int64) : ∃ n, n < 2 ^ 64 ∧ x = lN n := ⟨x.toBitVec.toNat, x.toBitVec.isLt, wb_inj (by rw [wb_tb]; simp)⟩
theorem wb_of32 (x : Int32) : ∃ n, n < 2 ^ 32 ∧ x = nI n := ⟨x.toBitVec.toNat, x.toBitVec.isLt, Int32.toBitVec_inj.mp (by show _ = BitVec.ofNat 32 _; simp)⟩
theorem wb_c : ∀ k, k < 64 → ((nI k).toInt64 &&& 63) = lN k := by decide +kernel
theorem wb_cu : ∀ k, k < 64 → ((nI k).toInt64.toUInt64 &&& Int64.toUInt64 63) = UInt64.ofNat k := by decide +kernel
theorem wb_sm : ∀ k, k < 64 → (BitVec.ofNat 64 k).smod 64 = BitVec.ofNat 64 k := by decide +kernel
theorem wb_pw {a b : Nat} (h : a ≤ b) : 2 ^ b = 2 ^ a * 2 ^ (b - a) := by rw [← Nat.pow_add]; congr 1; omega
theorem wb_lt2 {a b : Nat} (h : a < b) : 2 ^ a < 2 ^ b := Nat.pow_lt_pow_right (by decide) h
theorem wb_mod (n : Nat) : lN n = lN (n % 2 ^ 64) := wb_inj (by rw [wb_tb, wb_tb]; apply BitVec.eq_of_toNat_eq; rw [BitVec.toNat_ofNat, BitVec.toNat_ofNat, Nat.mod_mod])
theorem wb_shr {n k : Nat} (hn : n < 2 ^ 64) (hk : k < 64) : ((lN n).toUInt64 >>> ((nI k).toInt64.toUInt64 &&& Int64.toUInt64 63)).toInt64 = lN (n / 2 ^ k) := by
  rw [wb_cu k hk]
  apply wb_inj
  apply BitVec.eq_of_toNat_eq
  show ((lN n).toUInt64 >>> UInt64.ofNat k).toNat = (BitVec.ofNat 64 _).toNat
  have h1 : (UInt64.ofNat k).toNat = k := by
    show (BitVec.ofNat 64 k).toNat = k
    rw [BitVec.toNat_ofNat, Nat.mod_eq_of_lt (by omega)]
  have h2 : (lN n).toUInt64.toNat = n := wb_tn hn
  rw [UInt64.toNat_shiftRight, h1, h2, Nat.mod_eq_of_lt hk, Nat.shiftRight_eq_div_pow, BitVec.toNat_ofNat, Nat.mod_eq_of_lt (Nat.lt_of_le_of_lt (Nat.div_le_self _ _) hn)]
theorem wb_shl (n : Nat) {k : Nat} (hk : k < 64) : lN n <<< ((nI k).toInt64 &&& 63) = lN (n * 2 ^ k) := by
  rw [wb_c k hk]
  apply wb_inj
  rw [Int64.toBitVec_shiftLeft, wb_tb, wb_tb, wb_tb, wb_sm k hk]
  apply BitVec.eq_of_toNat_eq
  rw [BitVec.shiftLeft_eq', BitVec.toNat_shiftLeft, BitVec.toNat_ofNat, BitVec.toNat_ofNat, BitVec.toNat_ofNat, Nat.mod_eq_of_lt (show k < 2 ^ 64 by omega), Nat.shiftLeft_eq, Nat.mul_mod, Nat.mod_mod, ← Nat.mul_mod]
theorem wb_and {a b : Nat} (ha : a < 2 ^ 64) (hb : b < 2 ^ 64) : lN a &&& lN b = lN (a &&& b) := by
  apply wb_inj
  rw [Int64.toBitVec_and, wb_tb, wb_tb, wb_tb]
  apply BitVec.eq_of_toNat_eq
  rw [BitVec.toNat_and, BitVec.toNat_ofNat, BitVec.toNat_ofNat, BitVec.toNat_ofNat, Nat.mod_eq_of_lt ha, Nat.mod_eq_of_lt hb, Nat.mod_eq_of_lt (Nat.and_lt_two_pow _ hb)]
theorem wb_or {a b : Nat} (ha : a < 2 ^ 64) (hb : b < 2 ^ 64) : lN a ||| lN b = lN (a ||| b) := by
  apply wb_inj
  rw [Int64.toBitVec_or, wb_tb, wb_tb, wb_tb]
  apply BitVec.eq_of_toNat_eq
  rw [BitVec.toNat_or, BitVec.toNat_ofNat, BitVec.toNat_ofNat, BitVec.toNat_ofNat, Nat.mod_eq_of_lt ha, Nat.mod_eq_of_lt hb, Nat.mod_eq_of_lt (Nat.or_lt_two_pow ha hb)]
theorem wb_mask {n k : Nat} (hn : n < 2 ^ 64) (hk : k < 64) : lN n &&& lN (2 ^ k - 1) = lN (n % 2 ^ k) := by
  rw [wb_and hn (by have := wb_lt2 hk; omega), Nat.and_two_pow_sub_one_eq_mod]
theorem wb_a1 {n : Nat} (hn : n < 2 ^ 64) : lN n &&& 1 = lN (n % 2) := wb_mask (k := 1) hn (by decide)
theorem wb_bit {n k : Nat} (hn : n < 2 ^ 64) (hk : k < 64) : ((lN n).toUInt64 >>> ((nI k).toInt64.toUInt64 &&& Int64.toUInt64 63)).toInt64 &&& 1 = lN (n / 2 ^ k % 2) := by
  rw [wb_shr hn hk, wb_a1 (Nat.lt_of_le_of_lt (Nat.div_le_self _ _) hn)]
theorem wb_xor {q k : Nat} (hk : k < 63) (h : 2 ^ k ≤ q) (h2 : q < 2 ^ (k + 1)) : lN q ^^^ lN (2 ^ k) = lN (q - 2 ^ k) := by
  obtain ⟨r, rfl⟩ : ∃ r, q = 2 ^ k + r := ⟨q - 2 ^ k, by omega⟩
  have hr : r < 2 ^ k := by rw [Nat.pow_succ] at h2; omega
  have hx : (2 ^ k + r) ^^^ 2 ^ k = r := by
    apply Nat.eq_of_testBit_eq
    intro i
    rw [Nat.testBit_xor, Nat.testBit_two_pow]
    rcases Nat.lt_trichotomy i k with h | h | h
    · rw [Nat.testBit_two_pow_add_gt h]
      simp [show ¬ k = i by omega]
    · subst h
      rw [Nat.testBit_two_pow_add_eq]
      simp
    · have a1 : 2 ^ (k + 1) ≤ 2 ^ i := Nat.pow_le_pow_right (by decide) h
      rw [Nat.testBit_lt_two_pow (show 2 ^ k + r < 2 ^ i by omega), Nat.testBit_lt_two_pow (show r < 2 ^ i by omega)]
      simp [show ¬ k = i by omega]
  have b1 := wb_lt2 (show k + 1 < 64 by omega)
  have b2 := wb_lt2 (show k < 64 by omega)
  apply wb_inj
  rw [Int64.toBitVec_xor, wb_tb, wb_tb, wb_tb]
  apply BitVec.eq_of_toNat_eq
  rw [BitVec.toNat_xor, BitVec.toNat_ofNat, BitVec.toNat_ofNat, BitVec.toNat_ofNat, Nat.mod_eq_of_lt (by omega : 2 ^ k + r < 2 ^ 64), Nat.mod_eq_of_lt b2, hx, Nat.add_sub_cancel_left, Nat.mod_eq_of_lt (by omega)]
/-! ===== lN: masks, 'or' of parts that don't overlap is a sum ===== -/
theorem u_tn {n : Nat} (h : n < 2 ^ 64) : (UInt64.ofNat n).toNat = n := Nat.mod_eq_of_lt h
theorem g_and {a b c : Nat} (ha : a < 2 ^ 64) (hb : b < 2 ^ 64) (hc : a &&& b = c) : lN a &&& lN b = lN c := by
  subst hc
  have h : UInt64.ofNat a &&& UInt64.ofNat b = UInt64.ofNat (a &&& b) := UInt64.toNat_inj.mp (by rw [UInt64.toNat_and, u_tn ha, u_tn hb, u_tn (Nat.and_lt_two_pow a hb)])
  have h2 := congrArg UInt64.toInt64 h
  exact h2
theorem g_and1 {a : Nat} (ha : a < 2 ^ 64) : lN a &&& 1 = lN (a % 2) := g_and (b := 1) ha (by decide) (Nat.and_two_pow_sub_one_eq_mod a 1)
theorem g_mask {a s p : Nat} (hp : 2 ^ s = p) (hs : s < 64) (ha : a < 2 ^ 64) : lN a &&& lN (p - 1) = lN (a % p) := by
  subst hp
  have := Nat.pow_lt_pow_right (show 1 < 2 by decide) hs
  exact g_and ha (by omega) (Nat.and_two_pow_sub_one_eq_mod a s)
theorem g_or {k p a b : Nat} (hp : 2 ^ k = p) (ha : a < p) (h : b * p + a < 2 ^ 64) : lN (b * p) ||| lN a = lN (b * p + a) := by
  subst hp
  have h1 : b * 2 ^ k ||| a = b * 2 ^ k + a := by rw [← Nat.shiftLeft_eq, Nat.shiftLeft_add_eq_or_of_lt ha]
  have h3 : UInt64.ofNat (b * 2 ^ k) ||| UInt64.ofNat a = UInt64.ofNat (b * 2 ^ k + a) := UInt64.toNat_inj.mp (by rw [UInt64.toNat_or, u_tn (by omega), u_tn (by omega), u_tn h, h1])
  have h2 := congrArg UInt64.toInt64 h3
  exact h2
theorem g_or' {k p a b : Nat} (hp : 2 ^ k = p) (ha : a < p) (h : a + b * p < 2 ^ 64) : lN a ||| lN (b * p) = lN (a + b * p) := by
  rw [Int64.or_comm, g_or hp ha (by omega), Nat.add_comm]
theorem g_ushr {a k p : Nat} {y : UInt64} (hy : y = UInt64.ofNat k) (hk : k < 64) (hp : 2 ^ k = p) (ha : a < 2 ^ 64) : ((lN a).toUInt64 >>> y).toInt64 = lN (a / p) := by
  subst hy hp
  have h : UInt64.ofNat a >>> UInt64.ofNat k = UInt64.ofNat (a / 2 ^ k) := UInt64.toNat_inj.mp (by rw [UInt64.toNat_shiftRight, u_tn ha, u_tn (by omega), u_tn (Nat.lt_of_le_of_lt (Nat.div_le_self _ _) ha), Nat.mod_eq_of_lt hk, Nat.shiftRight_eq_div_pow])
  have h2 := congrArg UInt64.toInt64 h
  exact h2
theorem g_shl {a k p : Nat} {y : Int64} (hy : y.toBitVec.smod 64 = BitVec.ofNat 64 k) (hk : k < 64) (hp : 2 ^ k = p) (ha : a < 2 ^ 64) : lN a <<< y = lN (a * p) := by
  subst hp
  apply Int64.toBitVec_inj.mp
  rw [Int64.toBitVec_shiftLeft, hy]
  apply BitVec.eq_of_toNat_eq
  have hb : (lN a).toBitVec.toNat = a := Nat.mod_eq_of_lt ha
  have hk' : (BitVec.ofNat 64 k).toNat = k := Nat.mod_eq_of_lt (by omega)
  have h : ((lN a).toBitVec <<< BitVec.ofNat 64 k).toNat = (a * 2 ^ k) % 2 ^ 64 := by simp only [BitVec.shiftLeft_eq', BitVec.toNat_shiftLeft, hb, hk', Nat.shiftLeft_eq]
  exact h
/-! ===== lN to 2^62 under >> and >>> ===== -/
theorem pf_lI {a : Nat} (h : a < 2 ^ 63) : (lN a).toInt = (a : Int) := lg_ofNat_toInt h
theorem pf_shr {a d : Nat} {D : Int64} (hD : (D.toBitVec.smod 64).toNat = d) (h : a < 2 ^ 62) : lN a >>> D = lN (a / 2 ^ d) := by
  have hd : a / 2 ^ d ≤ a := Nat.div_le_self _ _
  apply Int64.toInt_inj.mp
  have e : (lN a >>> D).toInt = (lN a).toInt >>> d := by
    rw [← hD]
    exact BitVec.toInt_sshiftRight ..
  rw [e, Int.shiftRight_eq_div_pow, pf_lI (by omega), pf_lI (by omega)]
  rfl
theorem pf_ushr {a d : Nat} {D : UInt64} (hD : D.toNat % 64 = d) (h : a < 2 ^ 62) : ((lN a).toUInt64 >>> D).toInt64 = lN (a / 2 ^ d) := by
  have hd : a / 2 ^ d ≤ a := Nat.div_le_self _ _
  have e : (lN a).toUInt64 >>> D = UInt64.ofNat (a / 2 ^ d) := UInt64.toNat_inj.mp (by
    rw [UInt64.toNat_shiftRight, hD, Nat.shiftRight_eq_div_pow, UInt64.toNat_ofNat']
    show (UInt64.ofNat a).toNat / 2 ^ d = _
    rw [UInt64.toNat_ofNat', Nat.mod_eq_of_lt (by omega), Nat.mod_eq_of_lt (by omega)])
  rw [e]
  rfl
theorem pf_andw (x : Int64) : ∃ m, m < 2 ^ 32 ∧ x &&& 4294967295 = lN m := ⟨x.toBitVec.toNat % 2 ^ 32, Nat.mod_lt _ (by decide), Int64.toBitVec_inj.mp (BitVec.eq_of_toNat_eq (by
  show (x.toBitVec &&& 4294967295#64).toNat = (BitVec.ofNat 64 (x.toBitVec.toNat % 2 ^ 32)).toNat
  rw [BitVec.toNat_and, show (4294967295#64).toNat = 2 ^ 32 - 1 from by decide, Nat.and_two_pow_sub_one_eq_mod, BitVec.toNat_ofNat]
  omega))⟩
end
section
/-! the reference's small methods -/
theorem up_id {α : Type} (f : Nat → α) (k : Nat) : va_up f k (f k) = f := by
  funext j
  unfold va_up
  by_cases h : j = k
  · rw [if_pos h, h]
  · rw [if_neg h]
theorem up_up {α : Type} (f : Nat → α) (k : Nat) (v w : α) : va_up (va_up f k v) k w = va_up f k w := bx_uu f k v w
def rOk (σ : rS) : Prop := ∀ r, rV σ r < b26 ^ 10
theorem b26_pos : 0 < b26 := by decide
theorem dg_small (v j : Nat) : dg b26 v j < 2 ^ 31 := Nat.lt_trans (dg_lt b26_pos v j) (by decide)
theorem rOk.up {σ : rS} (h : rOk σ) {r x : Nat} (hx : x < b26 ^ 10) : rOk (rsV σ (va_up (rV σ) r x)) := by
  intro q
  show va_up (rV σ) r x q < _
  unfold va_up
  split
  · exact hx
  · exact h q
set_option maxHeartbeats 4000000 in
set_option maxRecDepth 100000 in
theorem c_R_copy (l : Launch) (G : rG) (σ : rS) (hok : rOk σ) {to fr : Nat} (h1 : to < 48) (h2 : fr < 48) (hne : fr ≠ to) : Met l y_R_copy (zW y_R_copy b_R_copy 4 none) (zr 0 0) (va_Pc [.ref (rA G 0), .int (nI (to)), .int (nI (fr))] (rC G σ)) (va_Qv (fun u => u = rsV σ (va_up (rV σ) to (rV σ fr))) (fun u => rC G u) (rAA G)) 0 0 (rAA G) := by
  refine Met.ofW (cc := b_R_copy) (maxL := 4) (ret := none) (by decide) rfl ?_
  intro p e s m args below meth c s₁ B hml hv
  obtain ⟨rfl, hw⟩ := hv
  have hx := B.exec
  have hb := B.bytes
  have hr := B.returns
  have hts := atoms_spec (ws := zW y_R_copy b_R_copy 4 none) B.pre
  have ht : ∀ w ∈ zT, w.before ([.ref (rA G 0), .int (nI (to)), .int (nI (fr))] : List Value).toArray s = true := fun w h => hts w (List.mem_cons_of_mem _ h)
  have hown : s.vm.findClass R_R = some m.cls := findClass_of_methodNamed B.named
  have hlocks := B.notSynchronized
  have hl := lv_entry ([.ref (rA G 0), .int (nI (to)), .int (nI (fr))]) (n := 4) (Nat.le_of_ble_eq_true rfl)
  rw [lg_entry_eq]
  generalize (lg_sl ([.ref (rA G 0), .int (nI (to)), .int (nI (fr))]) ++ List.replicate (4 - (lg_sl ([.ref (rA G 0), .int (nI (to)), .int (nI (fr))])).length) Slot.unset).toArray = ls at hl ⊢
  have hl : lv_has ls 4 [(0, .ref (rA G 0)), (1, .int (nI (to))), (2, .int (nI (fr)))] := hl
  refine lv_iconst (v := nI 0) hx hb d_R_copy_0 (by decide) ?_
  refine lv_istore_n (lv' := [(3, .int (nI (0))), (0, .ref (rA G 0)), (1, .int (nI (to))), (2, .int (nI (fr)))]) hx hb d_R_copy_1 rfl hl (by decide) rfl (fun ls hl => ?_)
  have loop : ∀ (n k : Nat), k + n = 10 → ∀ (w : Nat) (H : Heap) (locs : List Loc) (ls : Array Slot), w < b26 ^ 10 → w % b26 ^ k = rV σ fr % b26 ^ k → rH G (rsV σ (va_up (rV σ) to w)) s H locs → lv_has ls 4 [(0, .ref (rA G 0)), (1, .int (nI (to))), (2, .int (nI (fr))), (3, .int (nI (k)))] → W p l e (headSpec (zW y_R_copy b_R_copy 4 none) (zr 0 0)).room s m ([.ref (rA G 0), .int (nI (to)), .int (nI (fr))] : List Value).toArray below meth c H locs 0 0 (MQ below (va_Qv (fun u => u = rsV σ (va_up (rV σ) to (rV σ fr))) (fun u => rC G u) (rAA G)) ([.ref (rA G 0), .int (nI (to)), .int (nI (fr))] : List Value).toArray s 0 0 (rAA G)) (F0 m 2 ls []) := by
    intro n
    induction n with
    | zero =>
      intro k hk w H locs ls hwb hwm hw hl
      have hk : k = 10 := by omega
      subst hk
      refine lv_iload_n hx hb d_R_copy_2 rfl (lv_at hl 3 rfl) ?_
      refine lv_bipush (v := nI 10) hx hb d_R_copy_3 (by decide) ?_
      refine n_ge (tgt := 36) hx hb d_R_copy_5 (by decide) (by decide) (by decide) (fun _ => ?_) (fun h => absurd h (by omega))
      rw [Nat.mod_eq_of_lt hwb, Nat.mod_eq_of_lt (hok fr)] at hwm
      subst hwm
      exact z_vret (rZ _) hx hb hr hlocks _ hw rfl d_R_copy_36
    | succ n ih =>
      intro k hk w H locs ls hwb hwm hw hl
      refine lv_iload_n hx hb d_R_copy_2 rfl (lv_at hl 3 rfl) ?_
      refine lv_bipush (v := nI 10) hx hb d_R_copy_3 (by decide) ?_
      refine n_ge (tgt := 36) hx hb d_R_copy_5 (by decide) (by omega) (by decide) (fun h => absurd h (by omega)) (fun _ => ?_)
      refine lv_aload_n hx hb d_R_copy_8 rfl (lv_at hl 0 rfl) ?_
      refine r_get hx hb ht hown hw 0 (by decide) (ht _ kf_R_7) rfl d_R_copy_9 (fun _ h9 => h9) ?_
      refine lv_bipush (v := nI 10) hx hb d_R_copy_12 (by decide) ?_
      refine lv_iload_n hx hb d_R_copy_14 rfl (lv_at hl 1 rfl) ?_
      refine lv_imul hx hb d_R_copy_15 ?_
      refine tp_i (pk_mul _ _) ?_
      refine lv_iload_n hx hb d_R_copy_16 rfl (lv_at hl 3 rfl) ?_
      refine lv_iadd hx hb d_R_copy_17 ?_
      refine tp_i (nI_add _ _) ?_
      refine lv_aload_n hx hb d_R_copy_18 rfl (lv_at hl 0 rfl) ?_
      refine r_get hx hb ht hown hw 0 (by decide) (ht _ kf_R_7) rfl d_R_copy_19 (fun _ h9 => h9) ?_
      refine lv_bipush (v := nI 10) hx hb d_R_copy_22 (by decide) ?_
      refine lv_iload_n hx hb d_R_copy_24 rfl (lv_at hl 2 rfl) ?_
      refine lv_imul hx hb d_R_copy_25 ?_
      refine tp_i (pk_mul _ _) ?_
      refine lv_iload_n hx hb d_R_copy_26 rfl (lv_at hl 3 rfl) ?_
      refine lv_iadd hx hb d_R_copy_27 ?_
      refine tp_i (nI_add _ _) ?_
      refine r_ild' hx hb hw h2 (by omega) d_R_copy_28 ?_
      refine r_ist hx hb hw h1 (by omega) (dg_lt b26_pos _ _) d_R_copy_29 (fun H locs hw => ?_)
      refine lv_iinc (v := nI (k + 1)) (lv' := [(3, .int (nI (k + 1))), (0, .ref (rA G 0)), (1, .int (nI (to))), (2, .int (nI (fr)))]) hx hb d_R_copy_30 hl (k := 3) rfl (nI_add k 1) (by decide) rfl (fun ls hl => ?_)
      refine lv_goto (tgt := 2) hx hb d_R_copy_33 (by decide) ?_
      have e1 : dg b26 (va_up (rV σ) to w fr) k = dg b26 (rV σ fr) k := by rw [up_ne _ _ hne]
      rw [show rV (rsV σ (va_up (rV σ) to w)) fr = va_up (rV σ) to w fr from rfl, e1] at hw
      refine ih (k + 1) (by omega) (ds b26 w k (dg b26 (rV σ fr) k)) H locs ls (ds_lt b26_pos (dg_lt b26_pos _ _) (by omega) hwb) ?_ ?_ (lv_sub hl [1, 2, 3, 0] rfl)
      · rw [ds_mod b26_pos _ (dg_lt b26_pos _ _), dg_mod b26 (rV σ fr) k, hwm]
      · have e2 : va_up (va_up (rV σ) to w) to (ds b26 (va_up (rV σ) to w to) k (dg b26 (rV σ fr) k)) = va_up (rV σ) to (ds b26 w k (dg b26 (rV σ fr) k)) := by rw [up_up, up_self]
        rw [← e2]
        exact hw
  refine loop 10 0 rfl (rV σ to) _ _ ls (hok to) (by rw [Nat.pow_zero, Nat.mod_one, Nat.mod_one]) ?_ (lv_sub hl [1, 2, 3, 0] rfl)
  rw [up_id]
  exact hw
end
section
/-! the reference's small methods (2) -/
def cmpN (x y : Nat) : Int32 := if x < y then -1 else if y < x then nI 1 else nI 0
theorem cmpN_lt (x y : Nat) : cmpN x y < 0 ↔ x < y := by
  unfold cmpN
  by_cases h : x < y
  · rw [if_pos h]
    exact ⟨fun _ => h, fun _ => by decide⟩
  · rw [if_neg h]
    by_cases h2 : y < x
    · rw [if_pos h2]
      exact ⟨fun q => absurd q (by decide), fun q => absurd q h⟩
    · rw [if_neg h2]
      exact ⟨fun q => absurd q (by decide), fun q => absurd q h⟩
theorem cmpN_eq (x y : Nat) : cmpN x y = 0 ↔ x = y := by
  unfold cmpN
  by_cases h : x < y
  · rw [if_pos h]
    exact ⟨fun q => absurd q (by decide), fun q => absurd h (by omega)⟩
  · rw [if_neg h]
    by_cases h2 : y < x
    · rw [if_pos h2]
      exact ⟨fun q => absurd q (by decide), fun q => absurd h2 (by omega)⟩
    · rw [if_neg h2]
      exact ⟨fun _ => by omega, fun _ => by decide⟩
def boolN (P : Prop) [Decidable P] : Nat := if P then 1 else 0
theorem boolN_lt (P : Prop) [Decidable P] : boolN P < 2 := by
  unfold boolN
  split <;> decide
theorem boolN_t {P : Prop} [Decidable P] (h : P) : boolN P = 1 := if_pos h
theorem boolN_f {P : Prop} [Decidable P] (h : ¬ P) : boolN P = 0 := if_neg h
theorem nar_b {x : Nat} (hx : x < 2) : narrow .boolean (.int (nI x)) = .int (nI x) := by
  rcases (show x = 0 ∨ x = 1 by omega) with rfl | rfl <;> decide
theorem and26 {n : Nat} (h : n < 2 ^ 32) : nI n &&& (67108863 : Int32) = nI (n % b26) := pk_andN h 26 (by decide)
theorem shr26 {n : Nat} (h : n < 2 ^ 31) : nI n >>> (nI 26 &&& 31) = nI (n / b26) := pk_shrN h _ 26 (by decide)
theorem nI_wrap (n : Nat) : nI (n + 4294967296) = nI n := by
  rw [← nI_add, show nI 4294967296 = 0 by decide, Int32.add_zero]
theorem nI_negy {y : Nat} (h : y ≤ 4294967296) : (-1 : Int32) * nI y = nI (4294967296 - y) := by
  have e : nI (4294967296 - y) + nI y = 0 := by
    rw [nI_add, Nat.sub_add_cancel h]
    decide
  grind
theorem nI_nego {y : Nat} (h : y ≤ 4294967296) : - nI y = nI (4294967296 - y) := by
  have e : nI (4294967296 - y) + nI y = 0 := by
    rw [nI_add, Nat.sub_add_cancel h]
    decide
  grind
theorem sub26 {x y o : Nat} (hx : x < b26) (hy : y < b26) (ho : o < 2) : nI x + (-1 : Int32) * nI y + - nI o = nI (x + (4294967296 - (y + o))) := by
  have hy' : y < 67108864 := hy
  rw [nI_negy (by omega), nI_nego (by omega), nI_add, nI_add, ← nI_wrap (x + (4294967296 - (y + o)))]
  congr 1
  omega
theorem sub26a {x y o : Nat} (hx : x < b26) (hy : y < b26) (ho : o < 2) : (nI x + (-1 : Int32) * nI y + - nI o) &&& (67108863 : Int32) = nI ((x + b26 - (y + o)) % b26) := by
  have hx' : x < 67108864 := hx
  have hy' : y < 67108864 := hy
  rw [sub26 hx hy ho]
  by_cases h : y + o ≤ x
  · rw [show x + (4294967296 - (y + o)) = (x - (y + o)) + 4294967296 by omega, nI_wrap, and26 (by omega)]
    congr 1
    show (x - (y + o)) % 67108864 = (x + 67108864 - (y + o)) % 67108864
    omega
  · rw [and26 (by omega)]
    congr 1
    show (x + (4294967296 - (y + o))) % 67108864 = (x + 67108864 - (y + o)) % 67108864
    omega
theorem sub26s {x y o : Nat} (hx : x < b26) (hy : y < b26) (ho : o < 2) : (nI x + (-1 : Int32) * nI y + - nI o) >>> (nI 26 &&& 31) = - nI (boolN (x < y + o)) := by
  have hx' : x < 67108864 := hx
  have hy' : y < 67108864 := hy
  by_cases h : y + o ≤ x
  · rw [sub26 hx hy ho, show x + (4294967296 - (y + o)) = (x - (y + o)) + 4294967296 by omega, nI_wrap, shr26 (by omega), boolN_f (by omega), Nat.div_eq_of_lt (show x - (y + o) < 67108864 by omega)]
    decide
  · rw [boolN_t (show x < y + o by omega)]
    apply Int32.toInt_inj.mp
    rw [pk_shr _ _ 26 (by decide)]
    have e : nI x + (-1 : Int32) * nI y + - nI o = - nI (y + o - x) := by
      rw [sub26 hx hy ho, nI_nego (by omega)]
      congr 1
      omega
    rw [e, sb_negT (by omega)]
    have e2 : (- nI 1 : Int32).toInt = -1 := by decide
    rw [e2]
    show Int.shiftRight (-((y + o - x : Nat) : Int)) 26 = -1
    obtain ⟨d, hd⟩ : ∃ d, y + o - x = d + 1 := ⟨y + o - x - 1, by omega⟩
    rw [hd]
    show Int.negSucc (d >>> 26) = -1
    rw [Nat.shiftRight_eq_div_pow, Nat.div_eq_of_lt (show d < 2 ^ 26 by omega)]
    rfl
set_option maxHeartbeats 4000000 in
set_option maxRecDepth 100000 in
theorem c_R_nothing (l : Launch) (G : rG) (σ : rS) (hok : rOk σ) {to : Nat} (h1 : to < 48) : Met l y_R_nothing (zW y_R_nothing b_R_nothing 3 none) (zr 0 0) (va_Pc [.ref (rA G 0), .int (nI (to))] (rC G σ)) (va_Qv (fun u => u = rsV σ (va_up (rV σ) to 0)) (fun u => rC G u) (rAA G)) 0 0 (rAA G) := by
  refine Met.ofW (cc := b_R_nothing) (maxL := 3) (ret := none) (by decide) rfl ?_
  intro p e s m args below meth c s₁ B hml hv
  obtain ⟨rfl, hw⟩ := hv
  have hx := B.exec
  have hb := B.bytes
  have hr := B.returns
  have hts := atoms_spec (ws := zW y_R_nothing b_R_nothing 3 none) B.pre
  have ht : ∀ w ∈ zT, w.before ([.ref (rA G 0), .int (nI (to))] : List Value).toArray s = true := fun w h => hts w (List.mem_cons_of_mem _ h)
  have hown : s.vm.findClass R_R = some m.cls := findClass_of_methodNamed B.named
  have hlocks := B.notSynchronized
  have hl := lv_entry ([.ref (rA G 0), .int (nI (to))]) (n := 3) (Nat.le_of_ble_eq_true rfl)
  rw [lg_entry_eq]
  generalize (lg_sl ([.ref (rA G 0), .int (nI (to))]) ++ List.replicate (3 - (lg_sl ([.ref (rA G 0), .int (nI (to))])).length) Slot.unset).toArray = ls at hl ⊢
  have hl : lv_has ls 3 [(0, .ref (rA G 0)), (1, .int (nI (to)))] := hl
  refine lv_iconst (v := nI 0) hx hb d_R_nothing_0 (by decide) ?_
  refine lv_istore_n (lv' := [(2, .int (nI (0))), (0, .ref (rA G 0)), (1, .int (nI (to)))]) hx hb d_R_nothing_1 rfl hl (by decide) rfl (fun ls hl => ?_)
  have loop : ∀ (n k : Nat), k + n = 10 → ∀ (w : Nat) (H : Heap) (locs : List Loc) (ls : Array Slot), w < b26 ^ 10 → w % b26 ^ k = 0 → rH G (rsV σ (va_up (rV σ) to w)) s H locs → lv_has ls 3 [(0, .ref (rA G 0)), (1, .int (nI (to))), (2, .int (nI (k)))] → W p l e (headSpec (zW y_R_nothing b_R_nothing 3 none) (zr 0 0)).room s m ([.ref (rA G 0), .int (nI (to))] : List Value).toArray below meth c H locs 0 0 (MQ below (va_Qv (fun u => u = rsV σ (va_up (rV σ) to 0)) (fun u => rC G u) (rAA G)) ([.ref (rA G 0), .int (nI (to))] : List Value).toArray s 0 0 (rAA G)) (F0 m 2 ls []) := by
    intro n
    induction n with
    | zero =>
      intro k hk w H locs ls hwb hwm hw hl
      have hk : k = 10 := by omega
      subst hk
      refine lv_iload_n hx hb d_R_nothing_2 rfl (lv_at hl 2 rfl) ?_
      refine lv_bipush (v := nI 10) hx hb d_R_nothing_3 (by decide) ?_
      refine n_ge (tgt := 26) hx hb d_R_nothing_5 (by decide) (by decide) (by decide) (fun _ => ?_) (fun h => absurd h (by omega))
      rw [Nat.mod_eq_of_lt hwb] at hwm
      subst hwm
      exact z_vret (rZ _) hx hb hr hlocks _ hw rfl d_R_nothing_26
    | succ n ih =>
      intro k hk w H locs ls hwb hwm hw hl
      refine lv_iload_n hx hb d_R_nothing_2 rfl (lv_at hl 2 rfl) ?_
      refine lv_bipush (v := nI 10) hx hb d_R_nothing_3 (by decide) ?_
      refine n_ge (tgt := 26) hx hb d_R_nothing_5 (by decide) (by omega) (by decide) (fun h => absurd h (by omega)) (fun _ => ?_)
      refine lv_aload_n hx hb d_R_nothing_8 rfl (lv_at hl 0 rfl) ?_
      refine r_get hx hb ht hown hw 0 (by decide) (ht _ kf_R_7) rfl d_R_nothing_9 (fun _ h9 => h9) ?_
      refine lv_bipush (v := nI 10) hx hb d_R_nothing_12 (by decide) ?_
      refine lv_iload_n hx hb d_R_nothing_14 rfl (lv_at hl 1 rfl) ?_
      refine lv_imul hx hb d_R_nothing_15 ?_
      refine tp_i (pk_mul _ _) ?_
      refine lv_iload_n hx hb d_R_nothing_16 rfl (lv_at hl 2 rfl) ?_
      refine lv_iadd hx hb d_R_nothing_17 ?_
      refine tp_i (nI_add _ _) ?_
      refine lv_iconst (v := nI 0) hx hb d_R_nothing_18 (by decide) ?_
      refine r_ist hx hb hw h1 (by omega) (show 0 < b26 by decide) d_R_nothing_19 (fun H locs hw => ?_)
      refine lv_iinc (v := nI (k + 1)) (lv' := [(2, .int (nI (k + 1))), (0, .ref (rA G 0)), (1, .int (nI (to)))]) hx hb d_R_nothing_20 hl (k := 2) rfl (nI_add k 1) (by decide) rfl (fun ls hl => ?_)
      refine lv_goto (tgt := 2) hx hb d_R_nothing_23 (by decide) ?_
      refine ih (k + 1) (by omega) (ds b26 w k 0) H locs ls (ds_lt b26_pos b26_pos (by omega) hwb) ?_ ?_ (lv_sub hl [1, 2, 0] rfl)
      · rw [ds_mod b26_pos _ b26_pos, hwm]
        omega
      · have e2 : va_up (va_up (rV σ) to w) to (ds b26 (va_up (rV σ) to w to) k 0) = va_up (rV σ) to (ds b26 w k 0) := by rw [up_up, up_self]
        rw [← e2]
        exact hw
  refine loop 10 0 rfl (rV σ to) _ _ ls (hok to) (by rw [Nat.pow_zero, Nat.mod_one]) ?_ (lv_sub hl [1, 2, 0] rfl)
  rw [up_id]
  exact hw
set_option maxHeartbeats 4000000 in
set_option maxRecDepth 100000 in
theorem c_R_compare (l : Launch) (G : rG) (σ : rS) (hok : rOk σ) {a b : Nat} (h1 : a < 48) (h2 : b < 48) : Met l y_R_compare (zW y_R_compare b_R_compare 6 (some .int)) (zr 0 0) (va_Pc [.ref (rA G 0), .int (nI (a)), .int (nI (b))] (rC G σ)) (va_Qi (fun r u => u = σ ∧ r = cmpN (rV σ a) (rV σ b)) (fun u => rC G u) (rAA G)) 0 0 (rAA G) := by
  refine Met.ofW (cc := b_R_compare) (maxL := 6) (ret := (some .int)) (by decide) rfl ?_
  intro p e s m args below meth c s₁ B hml hv
  obtain ⟨rfl, hw⟩ := hv
  have hx := B.exec
  have hb := B.bytes
  have hr := B.returns
  have hts := atoms_spec (ws := zW y_R_compare b_R_compare 6 (some .int)) B.pre
  have ht : ∀ w ∈ zT, w.before ([.ref (rA G 0), .int (nI (a)), .int (nI (b))] : List Value).toArray s = true := fun w h => hts w (List.mem_cons_of_mem _ h)
  have hown : s.vm.findClass R_R = some m.cls := findClass_of_methodNamed B.named
  have hlocks := B.notSynchronized
  have hl := lv_entry ([.ref (rA G 0), .int (nI (a)), .int (nI (b))]) (n := 6) (Nat.le_of_ble_eq_true rfl)
  rw [lg_entry_eq]
  generalize (lg_sl ([.ref (rA G 0), .int (nI (a)), .int (nI (b))]) ++ List.replicate (6 - (lg_sl ([.ref (rA G 0), .int (nI (a)), .int (nI (b))])).length) Slot.unset).toArray = ls at hl ⊢
  have hl : lv_has ls 6 [(0, .ref (rA G 0)), (1, .int (nI (a))), (2, .int (nI (b)))] := hl
  refine lv_bipush (v := nI 9) hx hb d_R_compare_0 (by decide) ?_
  refine lv_istore_n (lv' := [(3, .int (nI (9))), (0, .ref (rA G 0)), (1, .int (nI (a))), (2, .int (nI (b)))]) hx hb d_R_compare_2 rfl hl (by decide) rfl (fun ls hl => ?_)
  have tail : ∀ (k : Nat), k < 10 → (∀ j, k < j → j < 10 → dg b26 (rV σ a) j = dg b26 (rV σ b) j) → (k = 0 ∨ dg b26 (rV σ a) k ≠ dg b26 (rV σ b) k) → ∀ (H : Heap) (locs : List Loc) (ls : Array Slot), rH G σ s H locs → lv_has ls 6 [(0, .ref (rA G 0)), (1, .int (nI (a))), (2, .int (nI (b))), (3, .int (nI (k)))] → W p l e (headSpec (zW y_R_compare b_R_compare 6 (some .int)) (zr 0 0)).room s m ([.ref (rA G 0), .int (nI (a)), .int (nI (b))] : List Value).toArray below meth c H locs 0 0 (MQ below (va_Qi (fun r u => u = σ ∧ r = cmpN (rV σ a) (rV σ b)) (fun u => rC G u) (rAA G)) ([.ref (rA G 0), .int (nI (a)), .int (nI (b))] : List Value).toArray s 0 0 (rAA G)) (F0 m 38 ls []) := by
    intro k hk hj hor H locs ls hw hl
    refine lv_aload_n hx hb d_R_compare_38 rfl (lv_at hl 0 rfl) ?_
    refine r_get hx hb ht hown hw 0 (by decide) (ht _ kf_R_7) rfl d_R_compare_39 (fun _ h9 => h9) ?_
    refine lv_bipush (v := nI 10) hx hb d_R_compare_42 (by decide) ?_
    refine lv_iload_n hx hb d_R_compare_44 rfl (lv_at hl 1 rfl) ?_
    refine lv_imul hx hb d_R_compare_45 ?_
    refine tp_i (pk_mul _ _) ?_
    refine lv_iload_n hx hb d_R_compare_46 rfl (lv_at hl 3 rfl) ?_
    refine lv_iadd hx hb d_R_compare_47 ?_
    refine tp_i (nI_add _ _) ?_
    refine r_ild' hx hb hw h1 (by omega) d_R_compare_48 ?_
    refine lv_istore (lv' := [(4, .int (nI (dg b26 (rV σ a) k))), (0, .ref (rA G 0)), (1, .int (nI (a))), (2, .int (nI (b))), (3, .int (nI (k)))]) hx hb d_R_compare_49 hl (by decide) rfl (fun ls hl => ?_)
    refine lv_aload_n hx hb d_R_compare_51 rfl (lv_at hl 1 rfl) ?_
    refine r_get hx hb ht hown hw 0 (by decide) (ht _ kf_R_7) rfl d_R_compare_52 (fun _ h9 => h9) ?_
    refine lv_bipush (v := nI 10) hx hb d_R_compare_55 (by decide) ?_
    refine lv_iload_n hx hb d_R_compare_57 rfl (lv_at hl 3 rfl) ?_
    refine lv_imul hx hb d_R_compare_58 ?_
    refine tp_i (pk_mul _ _) ?_
    refine lv_iload_n hx hb d_R_compare_59 rfl (lv_at hl 4 rfl) ?_
    refine lv_iadd hx hb d_R_compare_60 ?_
    refine tp_i (nI_add _ _) ?_
    refine r_ild' hx hb hw h2 (by omega) d_R_compare_61 ?_
    refine lv_istore (lv' := [(5, .int (nI (dg b26 (rV σ b) k))), (4, .int (nI (dg b26 (rV σ a) k))), (0, .ref (rA G 0)), (1, .int (nI (a))), (2, .int (nI (b))), (3, .int (nI (k)))]) hx hb d_R_compare_62 hl (by decide) rfl (fun ls hl => ?_)
    refine lv_iload hx hb d_R_compare_64 (lv_at hl 1 rfl) ?_
    refine lv_iload hx hb d_R_compare_66 (lv_at hl 0 rfl) ?_
    refine n_ge (tgt := 75) hx hb d_R_compare_68 (by decide) (dg_small _ _) (dg_small _ _) (fun c1 => ?_) (fun c1 => ?_)
    · refine lv_iload hx hb d_R_compare_75 (lv_at hl 1 rfl) ?_
      refine lv_iload hx hb d_R_compare_77 (lv_at hl 0 rfl) ?_
      refine n_le (tgt := 86) hx hb d_R_compare_79 (by decide) (dg_small _ _) (dg_small _ _) (fun c2 => ?_) (fun c2 => ?_)
      · refine lv_iconst (v := nI 0) hx hb d_R_compare_86 (by decide) ?_
        have e0 : dg b26 (rV σ a) k = dg b26 (rV σ b) k := Nat.le_antisymm c2 c1
        have hk0 : k = 0 := hor.elim id (fun h => absurd e0 h)
        subst hk0
        have e1 : rV σ a = rV σ b := dg_ext' 10 (hok a) (hok b) (fun j hj2 => (Nat.eq_zero_or_pos j).elim (fun h => by rw [h]; exact e0) (fun h => hj j h hj2))
        refine z_iret (rZ _) hx hb hr hlocks σ hw ⟨rfl, ?_⟩ d_R_compare_87
        unfold cmpN
        rw [e1, if_neg (Nat.lt_irrefl _), if_neg (Nat.lt_irrefl _)]
      · refine lv_iconst (v := nI 1) hx hb d_R_compare_82 (by decide) ?_
        refine lv_goto (tgt := 87) hx hb d_R_compare_83 (by decide) ?_
        have hlt := dg_cmp b26_pos hk (hok b) (hok a) (fun j h h' => (hj j h h').symm) c2
        refine z_iret (rZ _) hx hb hr hlocks σ hw ⟨rfl, ?_⟩ d_R_compare_87
        unfold cmpN
        rw [if_neg (by omega), if_pos hlt]
    · refine lv_iconst (v := -1) hx hb d_R_compare_71 (by decide) ?_
      refine lv_goto (tgt := 87) hx hb d_R_compare_72 (by decide) ?_
      have hlt := dg_cmp b26_pos hk (hok a) (hok b) hj c1
      refine z_iret (rZ _) hx hb hr hlocks σ hw ⟨rfl, ?_⟩ d_R_compare_87
      unfold cmpN
      rw [if_pos hlt]
  have loop : ∀ (k : Nat), k < 10 → (∀ j, k < j → j < 10 → dg b26 (rV σ a) j = dg b26 (rV σ b) j) → ∀ (H : Heap) (locs : List Loc) (ls : Array Slot), rH G σ s H locs → lv_has ls 6 [(0, .ref (rA G 0)), (1, .int (nI (a))), (2, .int (nI (b))), (3, .int (nI (k)))] → W p l e (headSpec (zW y_R_compare b_R_compare 6 (some .int)) (zr 0 0)).room s m ([.ref (rA G 0), .int (nI (a)), .int (nI (b))] : List Value).toArray below meth c H locs 0 0 (MQ below (va_Qi (fun r u => u = σ ∧ r = cmpN (rV σ a) (rV σ b)) (fun u => rC G u) (rAA G)) ([.ref (rA G 0), .int (nI (a)), .int (nI (b))] : List Value).toArray s 0 0 (rAA G)) (F0 m 3 ls []) := by
    intro k
    induction k with
    | zero =>
      intro hk hj H locs ls hw hl
      refine lv_iload_n hx hb d_R_compare_3 rfl (lv_at hl 3 rfl) ?_
      refine lv_if_le (tgt := 38) hx hb d_R_compare_4 (by decide) (fun _ => ?_) (fun h => absurd (show nI 0 ≤ 0 by decide) h)
      exact tail 0 hk hj (Or.inl rfl) H locs ls hw hl
    | succ k ih =>
      intro hk hj H locs ls hw hl
      refine lv_iload_n hx hb d_R_compare_3 rfl (lv_at hl 3 rfl) ?_
      refine lv_if_le (tgt := 38) hx hb d_R_compare_4 (by decide) (fun h => absurd h (nI_nle (by omega) (by omega))) (fun _ => ?_)
      refine lv_aload_n hx hb d_R_compare_7 rfl (lv_at hl 0 rfl) ?_
      refine r_get hx hb ht hown hw 0 (by decide) (ht _ kf_R_7) rfl d_R_compare_8 (fun _ h9 => h9) ?_
      refine lv_bipush (v := nI 10) hx hb d_R_compare_11 (by decide) ?_
      refine lv_iload_n hx hb d_R_compare_13 rfl (lv_at hl 1 rfl) ?_
      refine lv_imul hx hb d_R_compare_14 ?_
      refine tp_i (pk_mul _ _) ?_
      refine lv_iload_n hx hb d_R_compare_15 rfl (lv_at hl 3 rfl) ?_
      refine lv_iadd hx hb d_R_compare_16 ?_
      refine tp_i (nI_add _ _) ?_
      refine r_ild' hx hb hw h1 (by omega) d_R_compare_17 ?_
      refine lv_aload_n hx hb d_R_compare_18 rfl (lv_at hl 0 rfl) ?_
      refine r_get hx hb ht hown hw 0 (by decide) (ht _ kf_R_7) rfl d_R_compare_19 (fun _ h9 => h9) ?_
      refine lv_bipush (v := nI 10) hx hb d_R_compare_22 (by decide) ?_
      refine lv_iload_n hx hb d_R_compare_24 rfl (lv_at hl 2 rfl) ?_
      refine lv_imul hx hb d_R_compare_25 ?_
      refine tp_i (pk_mul _ _) ?_
      refine lv_iload_n hx hb d_R_compare_26 rfl (lv_at hl 3 rfl) ?_
      refine lv_iadd hx hb d_R_compare_27 ?_
      refine tp_i (nI_add _ _) ?_
      refine r_ild' hx hb hw h2 (by omega) d_R_compare_28 ?_
      refine n_ne (tgt := 38) hx hb d_R_compare_29 (by decide) (dg_small _ _) (dg_small _ _) (fun c1 => ?_) (fun c1 => ?_)
      · exact tail (k + 1) hk hj (Or.inr c1) H locs ls hw hl
      · refine lv_iinc (v := nI (k)) (lv' := [(3, .int (nI (k))), (0, .ref (rA G 0)), (1, .int (nI (a))), (2, .int (nI (b)))]) hx hb d_R_compare_32 hl (k := 3) rfl (pk_m1 _) (by decide) rfl (fun ls hl => ?_)
        refine lv_goto (tgt := 3) hx hb d_R_compare_35 (by decide) ?_
        refine ih (by omega) (fun j h h2 => ?_) H locs ls hw (lv_sub hl [1, 2, 3, 0] rfl)
        by_cases hjk : j = k + 1
        · rw [hjk]; exact c1
        · exact hj j (by omega) h2
  exact loop 9 (by decide) (fun j h h2 => absurd h2 (by omega)) _ _ ls hw (lv_sub hl [1, 2, 3, 0] rfl)
set_option maxHeartbeats 4000000 in
set_option maxRecDepth 100000 in
theorem c_R_isNothing (l : Launch) (G : rG) (σ : rS) (hok : rOk σ) {a : Nat} (h1 : a < 48) : Met l y_R_isNothing (zW y_R_isNothing b_R_isNothing 4 (some .boolean)) (zr 0 0) (va_Pc [.ref (rA G 0), .int (nI (a))] (rC G σ)) (va_Qi (fun r u => u = σ ∧ r = nI (boolN (rV σ a = 0))) (fun u => rC G u) (rAA G)) 0 0 (rAA G) := by
  refine Met.ofW (cc := b_R_isNothing) (maxL := 4) (ret := (some .boolean)) (by decide) rfl ?_
  intro p e s m args below meth c s₁ B hml hv
  obtain ⟨rfl, hw⟩ := hv
  have hx := B.exec
  have hb := B.bytes
  have hr := B.returns
  have hts := atoms_spec (ws := zW y_R_isNothing b_R_isNothing 4 (some .boolean)) B.pre
  have ht : ∀ w ∈ zT, w.before ([.ref (rA G 0), .int (nI (a))] : List Value).toArray s = true := fun w h => hts w (List.mem_cons_of_mem _ h)
  have hown : s.vm.findClass R_R = some m.cls := findClass_of_methodNamed B.named
  have hlocks := B.notSynchronized
  have hl := lv_entry ([.ref (rA G 0), .int (nI (a))]) (n := 4) (Nat.le_of_ble_eq_true rfl)
  rw [lg_entry_eq]
  generalize (lg_sl ([.ref (rA G 0), .int (nI (a))]) ++ List.replicate (4 - (lg_sl ([.ref (rA G 0), .int (nI (a))])).length) Slot.unset).toArray = ls at hl ⊢
  have hl : lv_has ls 4 [(0, .ref (rA G 0)), (1, .int (nI (a)))] := hl
  refine lv_iconst (v := nI 1) hx hb d_R_isNothing_0 (by decide) ?_
  refine lv_istore_n (lv' := [(2, .int (nI (1))), (0, .ref (rA G 0)), (1, .int (nI (a)))]) hx hb d_R_isNothing_1 rfl hl (by decide) rfl (fun ls hl => ?_)
  refine lv_iconst (v := nI 0) hx hb d_R_isNothing_2 (by decide) ?_
  refine lv_istore_n (lv' := [(3, .int (nI (0))), (2, .int (nI (1))), (0, .ref (rA G 0)), (1, .int (nI (a)))]) hx hb d_R_isNothing_3 rfl hl (by decide) rfl (fun ls hl => ?_)
  have done : ∀ (z : Nat), z = boolN (rV σ a = 0) → ∀ (k : Nat) (H : Heap) (locs : List Loc) (ls : Array Slot), rH G σ s H locs → lv_has ls 4 [(0, .ref (rA G 0)), (1, .int (nI (a))), (2, .int (nI (z))), (3, .int (nI (k)))] → W p l e (headSpec (zW y_R_isNothing b_R_isNothing 4 (some .boolean)) (zr 0 0)).room s m ([.ref (rA G 0), .int (nI (a))] : List Value).toArray below meth c H locs 0 0 (MQ below (va_Qi (fun r u => u = σ ∧ r = nI (boolN (rV σ a = 0))) (fun u => rC G u) (rAA G)) ([.ref (rA G 0), .int (nI (a))] : List Value).toArray s 0 0 (rAA G)) (F0 m 40 ls []) := by
    intro z hz k H locs ls hw hl
    refine lv_iload_n hx hb d_R_isNothing_40 rfl (lv_at hl 2 rfl) ?_
    exact z_zret (rZ _) hx hb hr hlocks (nar_b (by rw [hz]; exact boolN_lt _)) σ hw ⟨rfl, by rw [hz]⟩ d_R_isNothing_41
  have loop : ∀ (n k : Nat), k + n = 10 → ∀ (z : Nat), z < 2 → (z = 1 → ∀ j, j < k → dg b26 (rV σ a) j = 0) → (z = 0 → rV σ a ≠ 0) → ∀ (H : Heap) (locs : List Loc) (ls : Array Slot), rH G σ s H locs → lv_has ls 4 [(0, .ref (rA G 0)), (1, .int (nI (a))), (2, .int (nI (z))), (3, .int (nI (k)))] → W p l e (headSpec (zW y_R_isNothing b_R_isNothing 4 (some .boolean)) (zr 0 0)).room s m ([.ref (rA G 0), .int (nI (a))] : List Value).toArray below meth c H locs 0 0 (MQ below (va_Qi (fun r u => u = σ ∧ r = nI (boolN (rV σ a = 0))) (fun u => rC G u) (rAA G)) ([.ref (rA G 0), .int (nI (a))] : List Value).toArray s 0 0 (rAA G)) (F0 m 4 ls []) := by
    intro n
    induction n with
    | zero =>
      intro k hk z hz2 hz1 hz0 H locs ls hw hl
      have hk : k = 10 := by omega
      subst hk
      refine lv_iload_n hx hb d_R_isNothing_4 rfl (lv_at hl 3 rfl) ?_
      refine lv_bipush (v := nI 10) hx hb d_R_isNothing_5 (by decide) ?_
      refine n_ge (tgt := 40) hx hb d_R_isNothing_7 (by decide) (by decide) (by decide) (fun _ => ?_) (fun h => absurd h (by omega))
      refine done z ?_ 10 H locs ls hw hl
      rcases (show z = 0 ∨ z = 1 by omega) with h | h
      · rw [h, boolN_f (hz0 h)]
      · rw [h, boolN_t (dg_ext' 10 (hok a) (by decide) (fun j hj => by rw [hz1 h j hj]; simp [dg]))]
    | succ n ih =>
      intro k hk z hz2 hz1 hz0 H locs ls hw hl
      refine lv_iload_n hx hb d_R_isNothing_4 rfl (lv_at hl 3 rfl) ?_
      refine lv_bipush (v := nI 10) hx hb d_R_isNothing_5 (by decide) ?_
      refine n_ge (tgt := 40) hx hb d_R_isNothing_7 (by decide) (by omega) (by decide) (fun h => absurd h (by omega)) (fun _ => ?_)
      refine lv_iload_n hx hb d_R_isNothing_10 rfl (lv_at hl 2 rfl) ?_
      refine n_eq0 (tgt := 40) hx hb d_R_isNothing_11 (by decide) (by omega) (fun c1 => done z (by rw [c1, boolN_f (hz0 c1)]) k H locs ls hw hl) (fun c1 => ?_)
      refine lv_aload_n hx hb d_R_isNothing_14 rfl (lv_at hl 0 rfl) ?_
      refine r_get hx hb ht hown hw 0 (by decide) (ht _ kf_R_7) rfl d_R_isNothing_15 (fun _ h9 => h9) ?_
      refine lv_bipush (v := nI 10) hx hb d_R_isNothing_18 (by decide) ?_
      refine lv_iload_n hx hb d_R_isNothing_20 rfl (lv_at hl 1 rfl) ?_
      refine lv_imul hx hb d_R_isNothing_21 ?_
      refine tp_i (pk_mul _ _) ?_
      refine lv_iload_n hx hb d_R_isNothing_22 rfl (lv_at hl 3 rfl) ?_
      refine lv_iadd hx hb d_R_isNothing_23 ?_
      refine tp_i (nI_add _ _) ?_
      refine r_ild' hx hb hw h1 (by omega) d_R_isNothing_24 ?_
      refine n_ne0 (tgt := 32) hx hb d_R_isNothing_25 (by decide) (dg_small _ _) (fun c2 => ?_) (fun c2 => ?_)
      · refine lv_iconst (v := nI 0) hx hb d_R_isNothing_32 (by decide) ?_
        refine lv_istore_n (lv' := [(2, .int (nI (0))), (0, .ref (rA G 0)), (1, .int (nI (a))), (3, .int (nI (k)))]) hx hb d_R_isNothing_33 rfl hl (by decide) rfl (fun ls hl => ?_)
        refine lv_iinc (v := nI (k + 1)) (lv' := [(3, .int (nI (k + 1))), (2, .int (nI (0))), (0, .ref (rA G 0)), (1, .int (nI (a)))]) hx hb d_R_isNothing_34 hl (k := 3) rfl (nI_add k 1) (by decide) rfl (fun ls hl => ?_)
        refine lv_goto (tgt := 4) hx hb d_R_isNothing_37 (by decide) ?_
        exact ih (k + 1) (by omega) 0 (by decide) (fun h => absurd h (by decide)) (fun _ hv => c2 (by rw [hv]; simp [dg])) H locs ls hw (lv_sub hl [2, 3, 1, 0] rfl)
      · refine lv_iconst (v := nI 1) hx hb d_R_isNothing_28 (by decide) ?_
        refine lv_goto (tgt := 33) hx hb d_R_isNothing_29 (by decide) ?_
        refine lv_istore_n (lv' := [(2, .int (nI (1))), (0, .ref (rA G 0)), (1, .int (nI (a))), (3, .int (nI (k)))]) hx hb d_R_isNothing_33 rfl hl (by decide) rfl (fun ls hl => ?_)
        refine lv_iinc (v := nI (k + 1)) (lv' := [(3, .int (nI (k + 1))), (2, .int (nI (1))), (0, .ref (rA G 0)), (1, .int (nI (a)))]) hx hb d_R_isNothing_34 hl (k := 3) rfl (nI_add k 1) (by decide) rfl (fun ls hl => ?_)
        refine lv_goto (tgt := 4) hx hb d_R_isNothing_37 (by decide) ?_
        exact ih (k + 1) (by omega) 1 (by decide) (fun _ j hj => if h : j = k then by rw [h]; exact c2 else hz1 (by omega) j (by omega)) (fun h => absurd h (by decide)) H locs ls hw (lv_sub hl [2, 3, 1, 0] rfl)
  exact loop 10 0 rfl 1 (by decide) (fun _ j hj => absurd hj (by omega)) (fun h => absurd h (by decide)) _ _ ls hw (lv_sub hl [2, 3, 1, 0] rfl)
end
section
/-! the reference's add, plus, minus -/
theorem add_step {b p w cy A B da db : Nat} (h : w + cy * p = A + B) : w + ((da + db + cy) % b) * p + ((da + db + cy) / b) * (p * b) = (A + da * p) + (B + db * p) := by
  have e := Nat.div_add_mod (da + db + cy) b
  generalize (da + db + cy) / b = q at e ⊢
  generalize (da + db + cy) % b = r at e ⊢
  have e2 : r * p + q * (p * b) = (b * q + r) * p := by grind
  rw [e] at e2
  rw [Nat.add_mul, Nat.add_mul] at e2
  omega
theorem sub_step {b p w o A B da db : Nat} (hda : da < b) (hdb : db < b) (ho : o < 2) (h : w + B = A + o * p) : w + ((da + b - (db + o)) % b) * p + (B + db * p) = (A + da * p) + boolN (da < db + o) * (p * b) := by
  have e : (da + b - (db + o)) % b + (db + o) = da + boolN (da < db + o) * b := by
    by_cases c : da < db + o
    · rw [boolN_t c, Nat.mod_eq_of_lt (by omega)]
      omega
    · rw [boolN_f c, show da + b - (db + o) = (da - (db + o)) + b by omega, Nat.add_mod_right, Nat.mod_eq_of_lt (by omega)]
      omega
  generalize (da + b - (db + o)) % b = r at e ⊢
  generalize boolN (da < db + o) = t at e ⊢
  have e2 : (r + (db + o)) * p = (da + t * b) * p := by rw [e]
  rw [Nat.add_mul, Nat.add_mul, Nat.add_mul] at e2
  have e3 : t * b * p = t * (p * b) := by rw [Nat.mul_assoc, Nat.mul_comm b]
  omega
set_option maxHeartbeats 4000000 in
set_option maxRecDepth 100000 in
theorem c_R_addp (l : Launch) (G : rG) (σ : rS) (hok : rOk σ) {a b : Nat} (h1 : a < 48) (h2 : b < 48) (hne : b ≠ a) : Met l y_R_add (zW y_R_add b_R_add 7 none) (zr 0 0) (va_Pc [.ref (rA G 0), .int (nI (a)), .int (nI (b)), .int (nI (1))] (rC G σ)) (va_Qv (fun u => u = rsV σ (va_up (rV σ) a ((rV σ a + rV σ b) % b26 ^ 10))) (fun u => rC G u) (rAA G)) 0 0 (rAA G) := by
  refine Met.ofW (cc := b_R_add) (maxL := 7) (ret := none) (by decide) rfl ?_
  intro p e s m args below meth c s₁ B hml hv
  obtain ⟨rfl, hw⟩ := hv
  have hx := B.exec
  have hb := B.bytes
  have hr := B.returns
  have hts := atoms_spec (ws := zW y_R_add b_R_add 7 none) B.pre
  have ht : ∀ w ∈ zT, w.before ([.ref (rA G 0), .int (nI (a)), .int (nI (b)), .int (nI (1))] : List Value).toArray s = true := fun w h => hts w (List.mem_cons_of_mem _ h)
  have hown : s.vm.findClass R_R = some m.cls := findClass_of_methodNamed B.named
  have hlocks := B.notSynchronized
  have hl := lv_entry ([.ref (rA G 0), .int (nI (a)), .int (nI (b)), .int (nI (1))]) (n := 7) (Nat.le_of_ble_eq_true rfl)
  rw [lg_entry_eq]
  generalize (lg_sl ([.ref (rA G 0), .int (nI (a)), .int (nI (b)), .int (nI (1))]) ++ List.replicate (7 - (lg_sl ([.ref (rA G 0), .int (nI (a)), .int (nI (b)), .int (nI (1))])).length) Slot.unset).toArray = ls at hl ⊢
  have hl : lv_has ls 7 [(0, .ref (rA G 0)), (1, .int (nI (a))), (2, .int (nI (b))), (3, .int (nI (1)))] := hl
  refine lv_iconst (v := nI 0) hx hb d_R_add_0 (by decide) ?_
  refine lv_istore (lv' := [(4, .int (nI (0))), (0, .ref (rA G 0)), (1, .int (nI (a))), (2, .int (nI (b))), (3, .int (nI (1)))]) hx hb d_R_add_1 hl (by decide) rfl (fun ls hl => ?_)
  refine lv_iconst (v := nI 0) hx hb d_R_add_3 (by decide) ?_
  refine lv_istore (lv' := [(5, .int (nI (0))), (4, .int (nI (0))), (0, .ref (rA G 0)), (1, .int (nI (a))), (2, .int (nI (b))), (3, .int (nI (1)))]) hx hb d_R_add_4 hl (by decide) rfl (fun ls hl => ?_)
  have loop : ∀ (n k : Nat), k + n = 10 → ∀ (w cy : Nat) (H : Heap) (locs : List Loc) (ls : Array Slot), w < b26 ^ 10 → cy < 2 → (∀ j, k ≤ j → dg b26 w j = dg b26 (rV σ a) j) → w % b26 ^ k + cy * b26 ^ k = rV σ a % b26 ^ k + rV σ b % b26 ^ k → rH G (rsV σ (va_up (rV σ) a w)) s H locs → lv_has ls 7 [(0, .ref (rA G 0)), (1, .int (nI (a))), (2, .int (nI (b))), (3, .int (nI (1))), (4, .int (nI (cy))), (5, .int (nI (k)))] → W p l e (headSpec (zW y_R_add b_R_add 7 none) (zr 0 0)).room s m ([.ref (rA G 0), .int (nI (a)), .int (nI (b)), .int (nI (1))] : List Value).toArray below meth c H locs 0 0 (MQ below (va_Qv (fun u => u = rsV σ (va_up (rV σ) a ((rV σ a + rV σ b) % b26 ^ 10))) (fun u => rC G u) (rAA G)) ([.ref (rA G 0), .int (nI (a)), .int (nI (b)), .int (nI (1))] : List Value).toArray s 0 0 (rAA G)) (F0 m 6 ls []) := by
    intro n
    induction n with
    | zero =>
      intro k hk w cy H locs ls hwb hcy hup hsum hw hl
      have hk : k = 10 := by omega
      subst hk
      refine lv_iload hx hb d_R_add_6 (lv_at hl 5 rfl) ?_
      refine lv_bipush (v := nI 10) hx hb d_R_add_8 (by decide) ?_
      refine n_ge (tgt := 75) hx hb d_R_add_10 (by decide) (by decide) (by decide) (fun _ => ?_) (fun h => absurd h (by omega))
      rw [Nat.mod_eq_of_lt hwb, Nat.mod_eq_of_lt (hok a), Nat.mod_eq_of_lt (hok b)] at hsum
      have hw9 : w = (rV σ a + rV σ b) % b26 ^ 10 := by rw [← hsum, Nat.add_mul_mod_self_right, Nat.mod_eq_of_lt hwb]
      exact z_vret (rZ _) hx hb hr hlocks _ hw (by rw [← hw9]) d_R_add_75
    | succ n ih =>
      intro k hk w cy H locs ls hwb hcy hup hsum hw hl
      refine lv_iload hx hb d_R_add_6 (lv_at hl 5 rfl) ?_
      refine lv_bipush (v := nI 10) hx hb d_R_add_8 (by decide) ?_
      refine n_ge (tgt := 75) hx hb d_R_add_10 (by decide) (by omega) (by decide) (fun h => absurd h (by omega)) (fun _ => ?_)
      have hda : dg b26 (rV σ a) k < 67108864 := dg_lt b26_pos _ _
      have hdb : dg b26 (rV σ b) k < 67108864 := dg_lt b26_pos _ _
      have ea : dg b26 (va_up (rV σ) a w a) k = dg b26 (rV σ a) k := by rw [up_self]; exact hup k (Nat.le_refl k)
      have eb : dg b26 (va_up (rV σ) a w b) k = dg b26 (rV σ b) k := by rw [up_ne _ _ hne]
      refine lv_aload_n hx hb d_R_add_13 rfl (lv_at hl 0 rfl) ?_
      refine r_get hx hb ht hown hw 0 (by decide) (ht _ kf_R_7) rfl d_R_add_14 (fun _ h9 => h9) ?_
      refine lv_bipush (v := nI 10) hx hb d_R_add_17 (by decide) ?_
      refine lv_iload_n hx hb d_R_add_19 rfl (lv_at hl 1 rfl) ?_
      refine lv_imul hx hb d_R_add_20 ?_
      refine tp_i (y := nI (10 * a)) (pk_mul _ _) ?_
      refine lv_iload hx hb d_R_add_21 (lv_at hl 5 rfl) ?_
      refine lv_iadd hx hb d_R_add_23 ?_
      refine tp_i (y := nI ((10 * a) + k)) (nI_add _ _) ?_
      refine r_ild' hx hb hw h1 (by omega) d_R_add_24 ?_
      refine tp_i (congrArg nI (ea)) ?_
      refine lv_iload_n hx hb d_R_add_25 rfl (lv_at hl 3 rfl) ?_
      refine lv_aload_n hx hb d_R_add_26 rfl (lv_at hl 0 rfl) ?_
      refine r_get hx hb ht hown hw 0 (by decide) (ht _ kf_R_7) rfl d_R_add_27 (fun _ h9 => h9) ?_
      refine lv_bipush (v := nI 10) hx hb d_R_add_30 (by decide) ?_
      refine lv_iload_n hx hb d_R_add_32 rfl (lv_at hl 2 rfl) ?_
      refine lv_imul hx hb d_R_add_33 ?_
      refine tp_i (y := nI (10 * b)) (pk_mul _ _) ?_
      refine lv_iload hx hb d_R_add_34 (lv_at hl 5 rfl) ?_
      refine lv_iadd hx hb d_R_add_36 ?_
      refine tp_i (y := nI ((10 * b) + k)) (nI_add _ _) ?_
      refine r_ild' hx hb hw h2 (by omega) d_R_add_37 ?_
      refine tp_i (congrArg nI (eb)) ?_
      refine lv_imul hx hb d_R_add_38 ?_
      refine tp_i (y := nI (1 * (dg b26 (rV σ b) k))) (pk_mul _ _) ?_
      refine lv_iadd hx hb d_R_add_39 ?_
      refine tp_i (y := nI ((dg b26 (rV σ a) k) + (1 * (dg b26 (rV σ b) k)))) (nI_add _ _) ?_
      refine lv_iload hx hb d_R_add_40 (lv_at hl 4 rfl) ?_
      refine lv_iadd hx hb d_R_add_42 ?_
      refine tp_i (y := nI (((dg b26 (rV σ a) k) + (1 * (dg b26 (rV σ b) k))) + cy)) (nI_add _ _) ?_
      refine lv_istore (lv' := [(6, .int (nI (((dg b26 (rV σ a) k) + (1 * (dg b26 (rV σ b) k))) + cy))), (0, .ref (rA G 0)), (1, .int (nI (a))), (2, .int (nI (b))), (3, .int (nI (1))), (4, .int (nI (cy))), (5, .int (nI (k)))]) hx hb d_R_add_43 hl (by decide) rfl (fun ls hl => ?_)
      refine lv_aload_n hx hb d_R_add_45 rfl (lv_at hl 1 rfl) ?_
      refine r_get hx hb ht hown hw 0 (by decide) (ht _ kf_R_7) rfl d_R_add_46 (fun _ h9 => h9) ?_
      refine lv_bipush (v := nI 10) hx hb d_R_add_49 (by decide) ?_
      refine lv_iload_n hx hb d_R_add_51 rfl (lv_at hl 2 rfl) ?_
      refine lv_imul hx hb d_R_add_52 ?_
      refine tp_i (y := nI (10 * a)) (pk_mul _ _) ?_
      refine lv_iload hx hb d_R_add_53 (lv_at hl 6 rfl) ?_
      refine lv_iadd hx hb d_R_add_55 ?_
      refine tp_i (y := nI ((10 * a) + k)) (nI_add _ _) ?_
      refine lv_iload hx hb d_R_add_56 (lv_at hl 0 rfl) ?_
      refine lv_ldc hx hb hown (ht _ kl_R_60) d_R_add_58 ?_
      refine lv_iand hx hb d_R_add_60 ?_
      refine tp_i (y := nI ((dg b26 (rV σ a) k + 1 * dg b26 (rV σ b) k + cy) % b26)) (and26 (by omega)) ?_
      refine r_ist hx hb hw h1 (by omega) (Nat.mod_lt _ b26_pos) d_R_add_61 (fun H locs hw => ?_)
      refine lv_iload hx hb d_R_add_62 (lv_at hl 0 rfl) ?_
      refine lv_bipush (v := nI 26) hx hb d_R_add_64 (by decide) ?_
      refine lv_ishr hx hb d_R_add_66 ?_
      refine tp_i (y := nI ((dg b26 (rV σ a) k + 1 * dg b26 (rV σ b) k + cy) / b26)) (shr26 (by omega)) ?_
      refine lv_istore (lv' := [(4, .int (nI ((dg b26 (rV σ a) k + 1 * dg b26 (rV σ b) k + cy) / b26))), (6, .int (nI (((dg b26 (rV σ a) k) + (1 * (dg b26 (rV σ b) k))) + cy))), (0, .ref (rA G 0)), (1, .int (nI (a))), (2, .int (nI (b))), (3, .int (nI (1))), (5, .int (nI (k)))]) hx hb d_R_add_67 hl (by decide) rfl (fun ls hl => ?_)
      refine lv_iinc (v := nI (k + 1)) (lv' := [(5, .int (nI (k + 1))), (4, .int (nI ((dg b26 (rV σ a) k + 1 * dg b26 (rV σ b) k + cy) / b26))), (6, .int (nI (((dg b26 (rV σ a) k) + (1 * (dg b26 (rV σ b) k))) + cy))), (0, .ref (rA G 0)), (1, .int (nI (a))), (2, .int (nI (b))), (3, .int (nI (1)))]) hx hb d_R_add_69 hl (k := 6) rfl (nI_add k 1) (by decide) rfl (fun ls hl => ?_)
      refine lv_goto (tgt := 6) hx hb d_R_add_72 (by decide) ?_
      have e1 : dg b26 (rV σ a) k + 1 * dg b26 (rV σ b) k + cy = dg b26 (rV σ a) k + dg b26 (rV σ b) k + cy := by rw [Nat.one_mul]
      rw [e1] at hw hl
      refine ih (k + 1) (by omega) (ds b26 w k ((dg b26 (rV σ a) k + dg b26 (rV σ b) k + cy) % b26)) ((dg b26 (rV σ a) k + dg b26 (rV σ b) k + cy) / b26) H locs ls (ds_lt b26_pos (Nat.mod_lt _ b26_pos) (by omega) hwb) (by show _ / 67108864 < 2; omega) (fun j hj => ?_) ?_ ?_ (lv_sub hl [3, 4, 5, 6, 1, 0] rfl)
      · rw [ds_dg b26_pos _ (Nat.mod_lt _ b26_pos), if_neg (by omega)]; exact hup j (by omega)
      · rw [ds_mod b26_pos _ (Nat.mod_lt _ b26_pos), dg_mod b26 (rV σ a) k, dg_mod b26 (rV σ b) k, Nat.pow_succ]; exact add_step hsum
      · have e2 : va_up (va_up (rV σ) a w) a (ds b26 (va_up (rV σ) a w a) k ((dg b26 (rV σ a) k + dg b26 (rV σ b) k + cy) % b26)) = va_up (rV σ) a (ds b26 w k ((dg b26 (rV σ a) k + dg b26 (rV σ b) k + cy) % b26)) := by rw [up_up, up_self]
        rw [← e2]
        exact hw
  refine loop 10 0 rfl (rV σ a) 0 _ _ ls (hok a) (by decide) (fun _ _ => rfl) (by rw [Nat.pow_zero, Nat.mod_one, Nat.mod_one]) ?_ (lv_sub hl [2, 3, 4, 5, 1, 0] rfl)
  rw [up_id]
  exact hw
set_option maxHeartbeats 4000000 in
set_option maxRecDepth 100000 in
theorem c_R_addm (l : Launch) (G : rG) (σ : rS) (hok : rOk σ) {a b : Nat} (h1 : a < 48) (h2 : b < 48) (hne : b ≠ a) (hle : rV σ b ≤ rV σ a) : Met l y_R_add (zW y_R_add b_R_add 7 none) (zr 0 0) (va_Pc [.ref (rA G 0), .int (nI (a)), .int (nI (b)), .int (-1 : Int32)] (rC G σ)) (va_Qv (fun u => u = rsV σ (va_up (rV σ) a (rV σ a - rV σ b))) (fun u => rC G u) (rAA G)) 0 0 (rAA G) := by
  refine Met.ofW (cc := b_R_add) (maxL := 7) (ret := none) (by decide) rfl ?_
  intro p e s m args below meth c s₁ B hml hv
  obtain ⟨rfl, hw⟩ := hv
  have hx := B.exec
  have hb := B.bytes
  have hr := B.returns
  have hts := atoms_spec (ws := zW y_R_add b_R_add 7 none) B.pre
  have ht : ∀ w ∈ zT, w.before ([.ref (rA G 0), .int (nI (a)), .int (nI (b)), .int (-1 : Int32)] : List Value).toArray s = true := fun w h => hts w (List.mem_cons_of_mem _ h)
  have hown : s.vm.findClass R_R = some m.cls := findClass_of_methodNamed B.named
  have hlocks := B.notSynchronized
  have hl := lv_entry ([.ref (rA G 0), .int (nI (a)), .int (nI (b)), .int (-1 : Int32)]) (n := 7) (Nat.le_of_ble_eq_true rfl)
  rw [lg_entry_eq]
  generalize (lg_sl ([.ref (rA G 0), .int (nI (a)), .int (nI (b)), .int (-1 : Int32)]) ++ List.replicate (7 - (lg_sl ([.ref (rA G 0), .int (nI (a)), .int (nI (b)), .int (-1 : Int32)])).length) Slot.unset).toArray = ls at hl ⊢
  have hl : lv_has ls 7 [(0, .ref (rA G 0)), (1, .int (nI (a))), (2, .int (nI (b))), (3, .int (-1 : Int32))] := hl
  refine lv_iconst (v := nI 0) hx hb d_R_add_0 (by decide) ?_
  refine lv_istore (lv' := [(4, .int (nI (0))), (0, .ref (rA G 0)), (1, .int (nI (a))), (2, .int (nI (b))), (3, .int (-1 : Int32))]) hx hb d_R_add_1 hl (by decide) rfl (fun ls hl => ?_)
  refine lv_iconst (v := nI 0) hx hb d_R_add_3 (by decide) ?_
  refine lv_istore (lv' := [(5, .int (nI (0))), (4, .int (nI (0))), (0, .ref (rA G 0)), (1, .int (nI (a))), (2, .int (nI (b))), (3, .int (-1 : Int32))]) hx hb d_R_add_4 hl (by decide) rfl (fun ls hl => ?_)
  have loop : ∀ (n k : Nat), k + n = 10 → ∀ (w o : Nat) (cI : Int32) (H : Heap) (locs : List Loc) (ls : Array Slot), w < b26 ^ 10 → o < 2 → cI = - nI o → (∀ j, k ≤ j → dg b26 w j = dg b26 (rV σ a) j) → w % b26 ^ k + rV σ b % b26 ^ k = rV σ a % b26 ^ k + o * b26 ^ k → rH G (rsV σ (va_up (rV σ) a w)) s H locs → lv_has ls 7 [(0, .ref (rA G 0)), (1, .int (nI (a))), (2, .int (nI (b))), (3, .int (-1 : Int32)), (4, .int (cI)), (5, .int (nI (k)))] → W p l e (headSpec (zW y_R_add b_R_add 7 none) (zr 0 0)).room s m ([.ref (rA G 0), .int (nI (a)), .int (nI (b)), .int (-1 : Int32)] : List Value).toArray below meth c H locs 0 0 (MQ below (va_Qv (fun u => u = rsV σ (va_up (rV σ) a (rV σ a - rV σ b))) (fun u => rC G u) (rAA G)) ([.ref (rA G 0), .int (nI (a)), .int (nI (b)), .int (-1 : Int32)] : List Value).toArray s 0 0 (rAA G)) (F0 m 6 ls []) := by
    intro n
    induction n with
    | zero =>
      intro k hk w o cI H locs ls hwb ho hc hup hsum hw hl
      have hk : k = 10 := by omega
      subst hk
      refine lv_iload hx hb d_R_add_6 (lv_at hl 5 rfl) ?_
      refine lv_bipush (v := nI 10) hx hb d_R_add_8 (by decide) ?_
      refine n_ge (tgt := 75) hx hb d_R_add_10 (by decide) (by decide) (by decide) (fun _ => ?_) (fun h => absurd h (by omega))
      rw [Nat.mod_eq_of_lt hwb, Nat.mod_eq_of_lt (hok a), Nat.mod_eq_of_lt (hok b)] at hsum
      have hw9 : w = rV σ a - rV σ b := by
        rcases (show o = 0 ∨ o = 1 by omega) with h | h
        · rw [h] at hsum; omega
        · rw [h] at hsum; omega
      exact z_vret (rZ _) hx hb hr hlocks _ hw (by rw [← hw9]) d_R_add_75
    | succ n ih =>
      intro k hk w o cI H locs ls hwb ho hc hup hsum hw hl
      refine lv_iload hx hb d_R_add_6 (lv_at hl 5 rfl) ?_
      refine lv_bipush (v := nI 10) hx hb d_R_add_8 (by decide) ?_
      refine n_ge (tgt := 75) hx hb d_R_add_10 (by decide) (by omega) (by decide) (fun h => absurd h (by omega)) (fun _ => ?_)
      have hda : dg b26 (rV σ a) k < b26 := dg_lt b26_pos _ _
      have hdb : dg b26 (rV σ b) k < b26 := dg_lt b26_pos _ _
      have ea : dg b26 (va_up (rV σ) a w a) k = dg b26 (rV σ a) k := by rw [up_self]; exact hup k (Nat.le_refl k)
      have eb : dg b26 (va_up (rV σ) a w b) k = dg b26 (rV σ b) k := by rw [up_ne _ _ hne]
      refine lv_aload_n hx hb d_R_add_13 rfl (lv_at hl 0 rfl) ?_
      refine r_get hx hb ht hown hw 0 (by decide) (ht _ kf_R_7) rfl d_R_add_14 (fun _ h9 => h9) ?_
      refine lv_bipush (v := nI 10) hx hb d_R_add_17 (by decide) ?_
      refine lv_iload_n hx hb d_R_add_19 rfl (lv_at hl 1 rfl) ?_
      refine lv_imul hx hb d_R_add_20 ?_
      refine tp_i (y := nI (10 * a)) (pk_mul _ _) ?_
      refine lv_iload hx hb d_R_add_21 (lv_at hl 5 rfl) ?_
      refine lv_iadd hx hb d_R_add_23 ?_
      refine tp_i (y := nI ((10 * a) + k)) (nI_add _ _) ?_
      refine r_ild' hx hb hw h1 (by omega) d_R_add_24 ?_
      refine tp_i (congrArg nI (ea)) ?_
      refine lv_iload_n hx hb d_R_add_25 rfl (lv_at hl 3 rfl) ?_
      refine lv_aload_n hx hb d_R_add_26 rfl (lv_at hl 0 rfl) ?_
      refine r_get hx hb ht hown hw 0 (by decide) (ht _ kf_R_7) rfl d_R_add_27 (fun _ h9 => h9) ?_
      refine lv_bipush (v := nI 10) hx hb d_R_add_30 (by decide) ?_
      refine lv_iload_n hx hb d_R_add_32 rfl (lv_at hl 2 rfl) ?_
      refine lv_imul hx hb d_R_add_33 ?_
      refine tp_i (y := nI (10 * b)) (pk_mul _ _) ?_
      refine lv_iload hx hb d_R_add_34 (lv_at hl 5 rfl) ?_
      refine lv_iadd hx hb d_R_add_36 ?_
      refine tp_i (y := nI ((10 * b) + k)) (nI_add _ _) ?_
      refine r_ild' hx hb hw h2 (by omega) d_R_add_37 ?_
      refine tp_i (congrArg nI (eb)) ?_
      refine lv_imul hx hb d_R_add_38 ?_
      refine lv_iadd hx hb d_R_add_39 ?_
      refine lv_iload hx hb d_R_add_40 (lv_at hl 4 rfl) ?_
      refine lv_iadd hx hb d_R_add_42 ?_
      refine lv_istore (lv' := [(6, .int ((nI (dg b26 (rV σ a) k) + ((-1 : Int32) * nI (dg b26 (rV σ b) k))) + (cI))), (0, .ref (rA G 0)), (1, .int (nI (a))), (2, .int (nI (b))), (3, .int (-1 : Int32)), (4, .int (cI)), (5, .int (nI (k)))]) hx hb d_R_add_43 hl (by decide) rfl (fun ls hl => ?_)
      refine lv_aload_n hx hb d_R_add_45 rfl (lv_at hl 1 rfl) ?_
      refine r_get hx hb ht hown hw 0 (by decide) (ht _ kf_R_7) rfl d_R_add_46 (fun _ h9 => h9) ?_
      refine lv_bipush (v := nI 10) hx hb d_R_add_49 (by decide) ?_
      refine lv_iload_n hx hb d_R_add_51 rfl (lv_at hl 2 rfl) ?_
      refine lv_imul hx hb d_R_add_52 ?_
      refine tp_i (y := nI (10 * a)) (pk_mul _ _) ?_
      refine lv_iload hx hb d_R_add_53 (lv_at hl 6 rfl) ?_
      refine lv_iadd hx hb d_R_add_55 ?_
      refine tp_i (y := nI ((10 * a) + k)) (nI_add _ _) ?_
      refine lv_iload hx hb d_R_add_56 (lv_at hl 0 rfl) ?_
      refine lv_ldc hx hb hown (ht _ kl_R_60) d_R_add_58 ?_
      refine lv_iand hx hb d_R_add_60 ?_
      refine tp_i (y := nI ((dg b26 (rV σ a) k + b26 - (dg b26 (rV σ b) k + o)) % b26)) (by rw [hc]; exact sub26a hda hdb ho) ?_
      refine r_ist hx hb hw h1 (by omega) (Nat.mod_lt _ b26_pos) d_R_add_61 (fun H locs hw => ?_)
      refine lv_iload hx hb d_R_add_62 (lv_at hl 0 rfl) ?_
      refine lv_bipush (v := nI 26) hx hb d_R_add_64 (by decide) ?_
      refine lv_ishr hx hb d_R_add_66 ?_
      refine tp_i (y := (- nI (boolN (dg b26 (rV σ a) k < dg b26 (rV σ b) k + o)))) (by rw [hc]; exact sub26s hda hdb ho) ?_
      refine lv_istore (lv' := [(4, .int (- nI (boolN (dg b26 (rV σ a) k < dg b26 (rV σ b) k + o)))), (6, .int ((nI (dg b26 (rV σ a) k) + ((-1 : Int32) * nI (dg b26 (rV σ b) k))) + (cI))), (0, .ref (rA G 0)), (1, .int (nI (a))), (2, .int (nI (b))), (3, .int (-1 : Int32)), (5, .int (nI (k)))]) hx hb d_R_add_67 hl (by decide) rfl (fun ls hl => ?_)
      refine lv_iinc (v := nI (k + 1)) (lv' := [(5, .int (nI (k + 1))), (4, .int (- nI (boolN (dg b26 (rV σ a) k < dg b26 (rV σ b) k + o)))), (6, .int ((nI (dg b26 (rV σ a) k) + ((-1 : Int32) * nI (dg b26 (rV σ b) k))) + (cI))), (0, .ref (rA G 0)), (1, .int (nI (a))), (2, .int (nI (b))), (3, .int (-1 : Int32))]) hx hb d_R_add_69 hl (k := 6) rfl (nI_add k 1) (by decide) rfl (fun ls hl => ?_)
      refine lv_goto (tgt := 6) hx hb d_R_add_72 (by decide) ?_
      refine ih (k + 1) (by omega) (ds b26 w k ((dg b26 (rV σ a) k + b26 - (dg b26 (rV σ b) k + o)) % b26)) (boolN (dg b26 (rV σ a) k < dg b26 (rV σ b) k + o)) _ H locs ls (ds_lt b26_pos (Nat.mod_lt _ b26_pos) (by omega) hwb) (boolN_lt _) rfl (fun j hj => ?_) ?_ ?_ (lv_sub hl [3, 4, 5, 6, 1, 0] rfl)
      · rw [ds_dg b26_pos _ (Nat.mod_lt _ b26_pos), if_neg (by omega)]; exact hup j (by omega)
      · rw [ds_mod b26_pos _ (Nat.mod_lt _ b26_pos), dg_mod b26 (rV σ a) k, dg_mod b26 (rV σ b) k, Nat.pow_succ]; exact sub_step hda hdb ho hsum
      · have e2 : va_up (va_up (rV σ) a w) a (ds b26 (va_up (rV σ) a w a) k ((dg b26 (rV σ a) k + b26 - (dg b26 (rV σ b) k + o)) % b26)) = va_up (rV σ) a (ds b26 w k ((dg b26 (rV σ a) k + b26 - (dg b26 (rV σ b) k + o)) % b26)) := by rw [up_up, up_self]
        rw [← e2]
        exact hw
  refine loop 10 0 rfl (rV σ a) 0 (nI 0) _ _ ls (hok a) (by decide) (by decide) (fun _ _ => rfl) (by rw [Nat.pow_zero, Nat.mod_one, Nat.mod_one]) ?_ (lv_sub hl [2, 3, 4, 5, 1, 0] rfl)
  rw [up_id]
  exact hw
theorem b256 : 2 ^ 256 * 16 = b26 ^ 10 := by decide
theorem lt260 {x : Nat} (h : x < 2 ^ 256) : x < b26 ^ 10 := by
  rw [← b256]
  omega
set_option maxHeartbeats 4000000 in
set_option maxRecDepth 100000 in
theorem c_R_plus (l : Launch) (G : rG) (σ : rS) (hok : rOk σ) {to a b q : Nat} (h1 : to < 37) (h2 : a < 37) (h3 : b < 37) (h4 : q < 37) (hq : rV σ q ≤ 2 ^ 256) (ha : rV σ a < rV σ q) (hb0 : rV σ b < rV σ q) : Met l y_R_plus (zW y_R_plus b_R_plus 5 none) (zr 1 26) (va_Pc [.ref (rA G 0), .int (nI (to)), .int (nI (a)), .int (nI (b)), .int (nI (q))] (rC G σ)) (va_Qv (fun u => u = rsV σ (va_up (va_up (rV σ) 37 ((rV σ a + rV σ b) % rV σ q)) to ((rV σ a + rV σ b) % rV σ q))) (fun u => rC G u) (rAA G)) 0 0 (rAA G) := by
  refine Met.ofW (cc := b_R_plus) (maxL := 5) (ret := none) (by decide) rfl ?_
  intro p e s m args below meth c s₁ B hml hv
  obtain ⟨rfl, hw⟩ := hv
  have hx := B.exec
  have hb := B.bytes
  have hr := B.returns
  have hts := atoms_spec (ws := zW y_R_plus b_R_plus 5 none) B.pre
  have ht : ∀ w ∈ zT, w.before ([.ref (rA G 0), .int (nI (to)), .int (nI (a)), .int (nI (b)), .int (nI (q))] : List Value).toArray s = true := fun w h => hts w (List.mem_cons_of_mem _ h)
  have hown : s.vm.findClass R_R = some m.cls := findClass_of_methodNamed B.named
  have hlocks := B.notSynchronized
  have hl := lv_entry ([.ref (rA G 0), .int (nI (to)), .int (nI (a)), .int (nI (b)), .int (nI (q))]) (n := 5) (Nat.le_of_ble_eq_true rfl)
  rw [lg_entry_eq]
  generalize (lg_sl ([.ref (rA G 0), .int (nI (to)), .int (nI (a)), .int (nI (b)), .int (nI (q))]) ++ List.replicate (5 - (lg_sl ([.ref (rA G 0), .int (nI (to)), .int (nI (a)), .int (nI (b)), .int (nI (q))])).length) Slot.unset).toArray = ls at hl ⊢
  have hl : lv_has ls 5 [(0, .ref (rA G 0)), (1, .int (nI (to))), (2, .int (nI (a))), (3, .int (nI (b))), (4, .int (nI (q)))] := hl
  refine lv_aload_n hx hb d_R_plus_0 rfl (lv_at hl 0 rfl) ?_
  refine lv_bipush (v := nI 37) hx hb d_R_plus_1 (by decide) ?_
  refine lv_iload_n hx hb d_R_plus_3 rfl (lv_at hl 2 rfl) ?_
  refine r_callv (np := 2) (As := [.int (nI (37)), .int (nI (a))]) (rest := []) ⟨hx, hb, hml, hown, ht⟩ hw (c_R_copy l G σ hok (by decide) (by omega) (by omega)) ⟨km_R_70, kv_R_copy, kx_R_copy, kc_R_copy⟩ (by decide +kernel) ⟨by decide, by decide⟩ rfl rfl rfl hl.1 rfl (by decide) d_R_plus_4 ⟨Nat.le_refl _, Nat.le_refl _⟩ (fun u H locs hp hw => ?_)
  subst hp
  have hok1 : rOk (rsV σ (va_up (rV σ) 37 (rV σ a))) := hok.up (hok a)
  refine lv_aload_n hx hb d_R_plus_7 rfl (lv_at hl 0 rfl) ?_
  refine lv_bipush (v := nI 37) hx hb d_R_plus_8 (by decide) ?_
  refine lv_iload_n hx hb d_R_plus_10 rfl (lv_at hl 3 rfl) ?_
  refine lv_iconst (v := nI 1) hx hb d_R_plus_11 (by decide) ?_
  refine r_callv (np := 3) (As := [.int (nI (37)), .int (nI (b)), .int (nI (1))]) (rest := []) ⟨hx, hb, hml, hown, ht⟩ hw (c_R_addp l G _ hok1 (by decide) (by omega) (by omega)) ⟨km_R_74, kv_R_add, kx_R_add, kc_R_add⟩ (by decide +kernel) ⟨by decide, by decide⟩ rfl rfl rfl hl.1 rfl (by decide) d_R_plus_12 ⟨Nat.le_refl _, Nat.le_refl _⟩ (fun u H locs hp hw => ?_)
  have e1 : u = rsV σ (va_up (rV σ) 37 (rV σ a + rV σ b)) := by
    rw [hp]
    show rsV σ (va_up (va_up (rV σ) 37 (rV σ a)) 37 ((va_up (rV σ) 37 (rV σ a) 37 + va_up (rV σ) 37 (rV σ a) b) % b26 ^ 10)) = _
    rw [up_up, up_self, up_ne _ _ (by omega), Nat.mod_eq_of_lt (by rw [← b256]; omega)]
  subst e1
  clear hp
  have hs : rV σ a + rV σ b < b26 ^ 10 := by rw [← b256]; omega
  have hok2 : rOk (rsV σ (va_up (rV σ) 37 (rV σ a + rV σ b))) := hok.up hs
  refine lv_aload_n hx hb d_R_plus_15 rfl (lv_at hl 0 rfl) ?_
  refine lv_bipush (v := nI 37) hx hb d_R_plus_16 (by decide) ?_
  refine lv_iload hx hb d_R_plus_18 (lv_at hl 4 rfl) ?_
  refine r_calli (np := 2) (As := [.int (nI (37)), .int (nI (q))]) (rest := []) ⟨hx, hb, hml, hown, ht⟩ hw (c_R_compare l G _ hok2 (by decide) (by omega)) ⟨km_R_78, kv_R_compare, kx_R_compare, kc_R_compare⟩ (by decide +kernel) ⟨by decide, by decide⟩ rfl rfl rfl hl.1 rfl (by decide) d_R_plus_20 ⟨Nat.le_refl _, Nat.le_refl _⟩ (fun r u H locs hp hw => ?_)
  obtain ⟨rfl, hp⟩ := hp
  have ec : r = cmpN (rV σ a + rV σ b) (rV σ q) := by
    rw [hp]
    show cmpN (va_up (rV σ) 37 (rV σ a + rV σ b) 37) (va_up (rV σ) 37 (rV σ a + rV σ b) q) = _
    rw [up_self, up_ne _ _ (by omega)]
  have fin : ∀ (x : Nat), x = (rV σ a + rV σ b) % rV σ q → ∀ (H : Heap) (locs : List Loc) (ls : Array Slot), rH G (rsV σ (va_up (rV σ) 37 x)) s H locs → lv_has ls 5 [(0, .ref (rA G 0)), (1, .int (nI (to))), (2, .int (nI (a))), (3, .int (nI (b))), (4, .int (nI (q)))] → W p l e (headSpec (zW y_R_plus b_R_plus 5 none) (zr 1 26)).room s m ([.ref (rA G 0), .int (nI (to)), .int (nI (a)), .int (nI (b)), .int (nI (q))] : List Value).toArray below meth c H locs 0 0 (MQ below (va_Qv (fun u => u = rsV σ (va_up (va_up (rV σ) 37 ((rV σ a + rV σ b) % rV σ q)) to ((rV σ a + rV σ b) % rV σ q))) (fun u => rC G u) (rAA G)) ([.ref (rA G 0), .int (nI (to)), .int (nI (a)), .int (nI (b)), .int (nI (q))] : List Value).toArray s 0 0 (rAA G)) (F0 m 35 ls []) := by
    intro x hx9 H locs ls hw hl
    have hx8 : x < b26 ^ 10 := by rw [hx9]; exact Nat.lt_of_le_of_lt (Nat.mod_le _ _) hs
    refine lv_aload_n hx hb d_R_plus_35 rfl (lv_at hl 0 rfl) ?_
    refine lv_iload_n hx hb d_R_plus_36 rfl (lv_at hl 1 rfl) ?_
    refine lv_bipush (v := nI 37) hx hb d_R_plus_37 (by decide) ?_
    refine r_callv (np := 2) (As := [.int (nI (to)), .int (nI (37))]) (rest := []) ⟨hx, hb, hml, hown, ht⟩ hw (c_R_copy l G _ (hok.up hx8) (by omega) (by decide) (by omega)) ⟨km_R_70, kv_R_copy, kx_R_copy, kc_R_copy⟩ (by decide +kernel) ⟨by decide, by decide⟩ rfl rfl rfl hl.1 rfl (by decide) d_R_plus_39 ⟨Nat.le_refl _, Nat.le_refl _⟩ (fun u H locs hp hw => ?_)
    refine z_vret (rZ _) hx hb hr hlocks u hw ?_ d_R_plus_42
    rw [hp, ← hx9]
    show rsV σ (va_up (va_up (rV σ) 37 x) to (va_up (rV σ) 37 x 37)) = _
    rw [up_self]
  refine lv_if_lt (tgt := 35) hx hb d_R_plus_23 (by decide) (fun c1 => ?_) (fun c1 => ?_)
  · rw [ec, cmpN_lt] at c1
    exact fin _ (Nat.mod_eq_of_lt c1).symm H locs ls hw hl
  · rw [ec, cmpN_lt] at c1
    refine lv_aload_n hx hb d_R_plus_26 rfl (lv_at hl 0 rfl) ?_
    refine lv_bipush (v := nI 37) hx hb d_R_plus_27 (by decide) ?_
    refine lv_iload hx hb d_R_plus_29 (lv_at hl 4 rfl) ?_
    refine lv_iconst (v := -1) hx hb d_R_plus_31 (by decide) ?_
    refine r_callv (np := 3) (As := [.int (nI (37)), .int (nI (q)), .int ((-1 : Int32))]) (rest := []) ⟨hx, hb, hml, hown, ht⟩ hw (c_R_addm l G _ hok2 (by decide) (by omega) (by omega) (by show va_up (rV σ) 37 (rV σ a + rV σ b) q ≤ va_up (rV σ) 37 (rV σ a + rV σ b) 37; rw [up_self, up_ne _ _ (by omega)]; omega)) ⟨km_R_74, kv_R_add, kx_R_add, kc_R_add⟩ (by decide +kernel) ⟨by decide, by decide⟩ rfl rfl rfl hl.1 rfl (by decide) d_R_plus_32 ⟨Nat.le_refl _, Nat.le_refl _⟩ (fun u H locs hp hw => ?_)
    have e3 : u = rsV σ (va_up (rV σ) 37 (rV σ a + rV σ b - rV σ q)) := by
      rw [hp]
      show rsV σ (va_up (va_up (rV σ) 37 (rV σ a + rV σ b)) 37 (va_up (rV σ) 37 (rV σ a + rV σ b) 37 - va_up (rV σ) 37 (rV σ a + rV σ b) q)) = _
      rw [up_up, up_self, up_ne _ _ (by omega)]
    subst e3
    refine fin _ ?_ H locs ls hw hl
    rw [Nat.mod_eq_sub_mod (by omega), Nat.mod_eq_of_lt (by omega)]
set_option maxHeartbeats 4000000 in
set_option maxRecDepth 100000 in
theorem c_R_minus (l : Launch) (G : rG) (σ : rS) (hok : rOk σ) {to a b q : Nat} (h1 : to < 37 ∨ 37 < to) (h1b : to < 48) (h2 : a < 37 ∨ 37 < a) (h2b : a < 48) (h3 : b < 37 ∨ 37 < b) (h3b : b < 48) (h4 : q < 37) (hq : rV σ q ≤ 2 ^ 256) (ha : rV σ a < rV σ q) (hb0 : rV σ b < rV σ q) : Met l y_R_minus (zW y_R_minus b_R_minus 5 none) (zr 1 26) (va_Pc [.ref (rA G 0), .int (nI (to)), .int (nI (a)), .int (nI (b)), .int (nI (q))] (rC G σ)) (va_Qv (fun u => u = rsV σ (va_up (va_up (rV σ) 37 ((rV σ a + rV σ q - rV σ b) % rV σ q)) to ((rV σ a + rV σ q - rV σ b) % rV σ q))) (fun u => rC G u) (rAA G)) 0 0 (rAA G) := by
  refine Met.ofW (cc := b_R_minus) (maxL := 5) (ret := none) (by decide) rfl ?_
  intro p e s m args below meth c s₁ B hml hv
  obtain ⟨rfl, hw⟩ := hv
  have hx := B.exec
  have hb := B.bytes
  have hr := B.returns
  have hts := atoms_spec (ws := zW y_R_minus b_R_minus 5 none) B.pre
  have ht : ∀ w ∈ zT, w.before ([.ref (rA G 0), .int (nI (to)), .int (nI (a)), .int (nI (b)), .int (nI (q))] : List Value).toArray s = true := fun w h => hts w (List.mem_cons_of_mem _ h)
  have hown : s.vm.findClass R_R = some m.cls := findClass_of_methodNamed B.named
  have hlocks := B.notSynchronized
  have hl := lv_entry ([.ref (rA G 0), .int (nI (to)), .int (nI (a)), .int (nI (b)), .int (nI (q))]) (n := 5) (Nat.le_of_ble_eq_true rfl)
  rw [lg_entry_eq]
  generalize (lg_sl ([.ref (rA G 0), .int (nI (to)), .int (nI (a)), .int (nI (b)), .int (nI (q))]) ++ List.replicate (5 - (lg_sl ([.ref (rA G 0), .int (nI (to)), .int (nI (a)), .int (nI (b)), .int (nI (q))])).length) Slot.unset).toArray = ls at hl ⊢
  have hl : lv_has ls 5 [(0, .ref (rA G 0)), (1, .int (nI (to))), (2, .int (nI (a))), (3, .int (nI (b))), (4, .int (nI (q)))] := hl
  refine lv_aload_n hx hb d_R_minus_0 rfl (lv_at hl 0 rfl) ?_
  refine lv_bipush (v := nI 37) hx hb d_R_minus_1 (by decide) ?_
  refine lv_iload_n hx hb d_R_minus_3 rfl (lv_at hl 2 rfl) ?_
  refine r_callv (np := 2) (As := [.int (nI (37)), .int (nI (a))]) (rest := []) ⟨hx, hb, hml, hown, ht⟩ hw (c_R_copy l G σ hok (by decide) h2b (by omega)) ⟨km_R_70, kv_R_copy, kx_R_copy, kc_R_copy⟩ (by decide +kernel) ⟨by decide, by decide⟩ rfl rfl rfl hl.1 rfl (by decide) d_R_minus_4 ⟨Nat.le_refl _, Nat.le_refl _⟩ (fun u H locs hp hw => ?_)
  subst hp
  have hok1 : rOk (rsV σ (va_up (rV σ) 37 (rV σ a))) := hok.up (hok a)
  refine lv_aload_n hx hb d_R_minus_7 rfl (lv_at hl 0 rfl) ?_
  refine lv_bipush (v := nI 37) hx hb d_R_minus_8 (by decide) ?_
  refine lv_iload_n hx hb d_R_minus_10 rfl (lv_at hl 3 rfl) ?_
  refine r_calli (np := 2) (As := [.int (nI (37)), .int (nI (b))]) (rest := []) ⟨hx, hb, hml, hown, ht⟩ hw (c_R_compare l G _ hok1 (by decide) h3b) ⟨km_R_78, kv_R_compare, kx_R_compare, kc_R_compare⟩ (by decide +kernel) ⟨by decide, by decide⟩ rfl rfl rfl hl.1 rfl (by decide) d_R_minus_11 ⟨Nat.le_refl _, Nat.le_refl _⟩ (fun r u H locs hp hw => ?_)
  obtain ⟨rfl, hp⟩ := hp
  have ec : r = cmpN (rV σ a) (rV σ b) := by
    rw [hp]
    show cmpN (va_up (rV σ) 37 (rV σ a) 37) (va_up (rV σ) 37 (rV σ a) b) = _
    rw [up_self, up_ne _ _ (by omega)]
  have fin : ∀ (x : Nat), x < b26 ^ 10 → rV σ b ≤ x → x - rV σ b = ((rV σ a + rV σ q - rV σ b) % rV σ q) → ∀ (H : Heap) (locs : List Loc) (ls : Array Slot), rH G (rsV σ (va_up (rV σ) 37 x)) s H locs → lv_has ls 5 [(0, .ref (rA G 0)), (1, .int (nI (to))), (2, .int (nI (a))), (3, .int (nI (b))), (4, .int (nI (q)))] → W p l e (headSpec (zW y_R_minus b_R_minus 5 none) (zr 1 26)).room s m ([.ref (rA G 0), .int (nI (to)), .int (nI (a)), .int (nI (b)), .int (nI (q))] : List Value).toArray below meth c H locs 0 0 (MQ below (va_Qv (fun u => u = rsV σ (va_up (va_up (rV σ) 37 ((rV σ a + rV σ q - rV σ b) % rV σ q)) to ((rV σ a + rV σ q - rV σ b) % rV σ q))) (fun u => rC G u) (rAA G)) ([.ref (rA G 0), .int (nI (to)), .int (nI (a)), .int (nI (b)), .int (nI (q))] : List Value).toArray s 0 0 (rAA G)) (F0 m 26 ls []) := by
    intro x hx8 hx7 hx9 H locs ls hw hl
    refine lv_aload_n hx hb d_R_minus_26 rfl (lv_at hl 0 rfl) ?_
    refine lv_bipush (v := nI 37) hx hb d_R_minus_27 (by decide) ?_
    refine lv_iload_n hx hb d_R_minus_29 rfl (lv_at hl 3 rfl) ?_
    refine lv_iconst (v := -1) hx hb d_R_minus_30 (by decide) ?_
    refine r_callv (np := 3) (As := [.int (nI (37)), .int (nI (b)), .int ((-1 : Int32))]) (rest := []) ⟨hx, hb, hml, hown, ht⟩ hw (c_R_addm l G _ (hok.up hx8) (by decide) h3b (by omega) (by show va_up (rV σ) 37 x b ≤ va_up (rV σ) 37 x 37; rw [up_self, up_ne _ _ (by omega)]; exact hx7)) ⟨km_R_74, kv_R_add, kx_R_add, kc_R_add⟩ (by decide +kernel) ⟨by decide, by decide⟩ rfl rfl rfl hl.1 rfl (by decide) d_R_minus_31 ⟨Nat.le_refl _, Nat.le_refl _⟩ (fun u H locs hp hw => ?_)
    have e3 : u = rsV σ (va_up (rV σ) 37 ((rV σ a + rV σ q - rV σ b) % rV σ q)) := by
      rw [hp]
      show rsV σ (va_up (va_up (rV σ) 37 x) 37 (va_up (rV σ) 37 x 37 - va_up (rV σ) 37 x b)) = _
      rw [up_up, up_self, up_ne _ _ (by omega), hx9]
    subst e3
    clear hp
    have hx6 : ((rV σ a + rV σ q - rV σ b) % rV σ q) < b26 ^ 10 := by rw [← hx9]; omega
    refine lv_aload_n hx hb d_R_minus_34 rfl (lv_at hl 0 rfl) ?_
    refine lv_iload_n hx hb d_R_minus_35 rfl (lv_at hl 1 rfl) ?_
    refine lv_bipush (v := nI 37) hx hb d_R_minus_36 (by decide) ?_
    refine r_callv (np := 2) (As := [.int (nI (to)), .int (nI (37))]) (rest := []) ⟨hx, hb, hml, hown, ht⟩ hw (c_R_copy l G _ (hok.up hx6) h1b (by decide) (by omega)) ⟨km_R_70, kv_R_copy, kx_R_copy, kc_R_copy⟩ (by decide +kernel) ⟨by decide, by decide⟩ rfl rfl rfl hl.1 rfl (by decide) d_R_minus_38 ⟨Nat.le_refl _, Nat.le_refl _⟩ (fun u H locs hp hw => ?_)
    refine z_vret (rZ _) hx hb hr hlocks u hw ?_ d_R_minus_41
    rw [hp]
    show rsV σ (va_up (va_up (rV σ) 37 ((rV σ a + rV σ q - rV σ b) % rV σ q)) to (va_up (rV σ) 37 ((rV σ a + rV σ q - rV σ b) % rV σ q) 37)) = _
    rw [up_self]
  have ha2 := hok a
  refine lv_if_ge (tgt := 26) hx hb d_R_minus_14 (by decide) (fun c1 => ?_) (fun c1 => ?_)
  · have c2 : ¬ rV σ a < rV σ b := fun q9 => by rw [ec] at c1; exact absurd ((cmpN_lt _ _).mpr q9) (Int32.not_lt.mpr c1)
    refine fin _ (hok a) (by omega) ?_ H locs ls hw hl
    rw [show rV σ a + rV σ q - rV σ b = (rV σ a - rV σ b) + rV σ q by omega, Nat.add_mod_right, Nat.mod_eq_of_lt (by omega)]
  · have c2 : rV σ a < rV σ b := by rw [ec] at c1; exact (cmpN_lt _ _).mp (Int32.not_le.mp c1)
    refine lv_aload_n hx hb d_R_minus_17 rfl (lv_at hl 0 rfl) ?_
    refine lv_bipush (v := nI 37) hx hb d_R_minus_18 (by decide) ?_
    refine lv_iload hx hb d_R_minus_20 (lv_at hl 4 rfl) ?_
    refine lv_iconst (v := nI 1) hx hb d_R_minus_22 (by decide) ?_
    refine r_callv (np := 3) (As := [.int (nI (37)), .int (nI (q)), .int (nI (1))]) (rest := []) ⟨hx, hb, hml, hown, ht⟩ hw (c_R_addp l G _ hok1 (by decide) (by omega) (by omega)) ⟨km_R_74, kv_R_add, kx_R_add, kc_R_add⟩ (by decide +kernel) ⟨by decide, by decide⟩ rfl rfl rfl hl.1 rfl (by decide) d_R_minus_23 ⟨Nat.le_refl _, Nat.le_refl _⟩ (fun u H locs hp hw => ?_)
    have e1 : u = rsV σ (va_up (rV σ) 37 (rV σ a + rV σ q)) := by
      rw [hp]
      show rsV σ (va_up (va_up (rV σ) 37 (rV σ a)) 37 ((va_up (rV σ) 37 (rV σ a) 37 + va_up (rV σ) 37 (rV σ a) q) % b26 ^ 10)) = _
      rw [up_up, up_self, up_ne _ _ (by omega), Nat.mod_eq_of_lt (by rw [← b256]; omega)]
    subst e1
    refine fin _ (by rw [← b256]; omega) (by omega) ?_ H locs ls hw hl
    rw [Nat.mod_eq_of_lt (by omega)]
end
section
/-! the value of a row of long digits; long rows -/
def pv (f : Nat → Nat) : Nat → Nat
  | 0 => 0
  | n + 1 => pv f n + f n * b26 ^ n
theorem pv_congr {f g : Nat → Nat} : ∀ (n : Nat), (∀ j, j < n → f j = g j) → pv f n = pv g n
  | 0, _ => rfl
  | n + 1, h => by
    show pv f n + f n * b26 ^ n = pv g n + g n * b26 ^ n
    rw [pv_congr n (fun j hj => h j (by omega)), h n (by omega)]
theorem pv_up_ge (f : Nat → Nat) {k n : Nat} (x : Nat) (h : n ≤ k) : pv (va_up f k x) n = pv f n := pv_congr n (fun j hj => up_ne _ _ (by omega))
theorem pv_inc (f : Nat → Nat) {k : Nat} (d : Nat) : ∀ (n : Nat), k < n → pv (va_up f k (f k + d)) n = pv f n + d * b26 ^ k
  | 0, h => absurd h (by omega)
  | n + 1, h => by
    show pv (va_up f k (f k + d)) n + va_up f k (f k + d) n * b26 ^ n = pv f n + f n * b26 ^ n + d * b26 ^ k
    by_cases e : k = n
    · subst e
      rw [pv_up_ge f _ (Nat.le_refl k), up_self, Nat.add_mul]
      omega
    · rw [pv_inc f d n (by omega), up_ne _ _ (by omega)]
      omega
theorem pv_lt {f : Nat → Nat} : ∀ (n : Nat), (∀ j, j < n → f j < b26) → pv f n < b26 ^ n
  | 0, _ => (by decide : (0 : Nat) < 1)
  | n + 1, h => by
    have h1 := pv_lt n (fun j hj => h j (by omega))
    have h2 : (f n + 1) * b26 ^ n ≤ b26 * b26 ^ n := Nat.mul_le_mul_right _ (h n (by omega))
    show pv f n + f n * b26 ^ n < b26 ^ (n + 1)
    rw [Nat.pow_succ, Nat.mul_comm (b26 ^ n)]
    rw [Nat.add_mul, Nat.one_mul] at h2
    omega
/-- the low digits are the remainder -/
theorem pv_mod {f : Nat → Nat} {k : Nat} : ∀ (n : Nat), k ≤ n → (∀ j, j < k → f j < b26) → pv f n % b26 ^ k = pv f k
  | 0, h, hd => by
    have e : k = 0 := by omega
    subst e
    rfl
  | n + 1, h, hd => by
    by_cases e : k = n + 1
    · rw [e]
      exact Nat.mod_eq_of_lt (pv_lt (n + 1) (by rw [← e]; exact hd))
    · have ih := pv_mod n (by omega) hd
      show (pv f n + f n * b26 ^ n) % b26 ^ k = pv f k
      have e2 : f n * b26 ^ n = b26 ^ k * (f n * b26 ^ (n - k)) := by
        rw [show b26 ^ n = b26 ^ k * b26 ^ (n - k) by rw [← Nat.pow_add]; congr 1; omega, Nat.mul_left_comm]
      rw [e2, Nat.add_mul_mod_self_left, ih]
theorem pv_dg {f : Nat → Nat} {j n : Nat} (hj : j < n) (hd : ∀ i, i < n → f i < b26) : dg b26 (pv f n) j = f j := by
  rw [dg_alt, pv_mod n (by omega) (fun i hi => hd i (by omega))]
  show (pv f j + f j * b26 ^ j) / b26 ^ j = f j
  rw [Nat.add_mul_div_right _ _ (Nat.pow_pos b26_pos), Nat.div_eq_of_lt (pv_lt j (fun i hi => hd i (by omega))), Nat.zero_add]
theorem land26 {n : Nat} (h : n < 2 ^ 64) : lN n &&& (67108863 : Int64) = lN (n % b26) := wb_mask (k := 26) h (by decide)
theorem land22 {n : Nat} (h : n < 2 ^ 64) : lN n &&& (4194303 : Int64) = lN (n % 4194304) := wb_mask (k := 22) h (by decide)
theorem lshr26 {n : Nat} (h : n < 2 ^ 62) : lN n >>> ((nI 26).toInt64 &&& 63) = lN (n / b26) := pf_shr (d := 26) (by decide) h
theorem lshr22 {n : Nat} (h : n < 2 ^ 62) : lN n >>> ((nI 22).toInt64 &&& 63) = lN (n / 4194304) := pf_shr (d := 22) (by decide) h
theorem lshl4 (n : Nat) : lN n <<< ((nI 4).toInt64 &&& 63) = lN (n * 16) := wb_shl n (by decide)
theorem lor16 {a b : Nat} (ha : a < 16) (h : b * 16 + a < 2 ^ 64) : lN a ||| lN (b * 16) = lN (a + b * 16) := g_or' (k := 4) (by decide) ha (by omega)
theorem lcmp_le {a b : Nat} (ha : a < 2 ^ 63) (hb : b < 2 ^ 63) : lg_cmp (lN a) (lN b) ≤ 0 ↔ a ≤ b := by
  unfold lg_cmp
  by_cases h : b < a
  · rw [if_pos ((pk_lLT hb ha).mpr h)]
    exact ⟨fun q => absurd q (by decide), fun q => absurd h (by omega)⟩
  · rw [if_neg (fun q => h ((pk_lLT hb ha).mp q))]
    by_cases h2 : a = b
    · subst h2
      rw [if_pos rfl]
      exact ⟨fun _ => Nat.le_refl _, fun _ => by decide⟩
    · rw [if_neg (fun q => h2 ((pk_lEQ ha hb).mp q))]
      exact ⟨fun _ => by omega, fun _ => by decide⟩
theorem carry_end {a b c B : Nat} (h : a + c * B = b) (hb : b < B) : a = b := by
  rcases Nat.eq_zero_or_pos c with h0 | h0
  · rw [h0] at h
    omega
  · have := Nat.mul_le_mul_right B h0
    omega
/-- the whole row, and whether it has a bit from 256 on: kept shut -/
def pw (f : Nat → Nat) : Nat := pv f 22
def B22 : Nat := b26 ^ 22
def W256 : Nat := 2 ^ 256
theorem W256_9 : W256 = 4194304 * b26 ^ 9 := by decide
theorem W256_10 : W256 ≤ b26 ^ 10 := by decide
theorem pv_wide0 {f : Nat → Nat} {B W : Nat} (hW : W = 4194304 * B) (h9 : pv f 9 < B) : W ≤ pv f 9 + f 9 * B ↔ 4194303 < f 9 := by
  rw [hW]
  constructor
  · intro h
    rcases Nat.lt_or_ge 4194303 (f 9) with h2 | h2
    · exact h2
    · have := Nat.mul_le_mul_right B (show f 9 + 1 ≤ 4194304 by omega)
      rw [Nat.add_mul] at this
      omega
  · intro h
    have := Nat.mul_le_mul_right B (show 4194304 ≤ f 9 from h)
    omega
theorem pv_wide {f : Nat → Nat} (hf : ∀ j, j < 22 → f j < b26) : ∀ k, k ≤ 12 → (W256 ≤ pv f (10 + k) ↔ (4194303 < f 9 ∨ ∃ j, j < 10 + k ∧ 10 ≤ j ∧ 0 < f j)) := by
  intro k
  induction k with
  | zero =>
    intro _
    have h := pv_wide0 (f := f) W256_9 (pv_lt 9 (fun j hj => hf j (by omega)))
    refine ⟨fun q => Or.inl (h.mp q), fun q => ?_⟩
    rcases q with q | ⟨j, h1, h2, h3⟩
    · exact h.mpr q
    · exact absurd h1 (by omega)
  | succ k ih =>
    intro hk
    have ih := ih (by omega)
    have hbig : W256 ≤ b26 ^ (10 + k) := Nat.le_trans W256_10 (Nat.pow_le_pow_right (by decide) (by omega))
    have e : pv f (10 + (k + 1)) = pv f (10 + k) + f (10 + k) * b26 ^ (10 + k) := rfl
    rw [e]
    generalize b26 ^ (10 + k) = B at hbig ⊢
    generalize pv f (10 + k) = v at ih ⊢
    generalize W256 = W at ih hbig ⊢
    clear e hf
    constructor
    · intro h
      rcases Nat.eq_zero_or_pos (f (10 + k)) with h0 | h0
      · rw [h0, Nat.zero_mul, Nat.add_zero, ih] at h
        rcases h with h | ⟨j, h1, h2, h3⟩
        · exact Or.inl h
        · exact Or.inr ⟨j, by omega, h2, h3⟩
      · exact Or.inr ⟨10 + k, by omega, by omega, h0⟩
    · intro h
      rcases h with h | ⟨j, h1, h2, h3⟩
      · have := ih.mpr (Or.inl h)
        omega
      · by_cases ej : j = 10 + k
        · subst ej
          have := Nat.mul_le_mul_right B h3
          omega
        · have := ih.mpr (Or.inr ⟨j, by omega, h2, h3⟩)
          omega
theorem pw_wide {f : Nat → Nat} (hf : ∀ j, j < 22 → f j < b26) : W256 ≤ pw f ↔ (4194303 < f 9 ∨ ∃ j, j < 22 ∧ 10 ≤ j ∧ 0 < f j) := pv_wide hf 12 (by decide)
end
section
/-! the references carry and isWide -/
set_option maxHeartbeats 4000000 in
set_option maxRecDepth 100000 in
theorem c_R_carry (l : Launch) (G : rG) (σ : rS) (hP : ∀ j, j < 22 → rP σ j < 2 ^ 60) (hv : pw (rP σ) < B22) : Met l y_R_carry (zW y_R_carry b_R_carry 6 none) (zr 0 0) (va_Pc [.ref (rA G 0)] (rC G σ)) (va_Qv (fun u => ∃ P, u = rsP σ P ∧ (∀ j, j < 22 → P j < b26) ∧ pw P = pw (rP σ)) (fun u => rC G u) (rAA G)) 0 0 (rAA G) := by
  refine Met.ofW (cc := b_R_carry) (maxL := 6) (ret := none) (by decide) rfl ?_
  intro p e s m args below meth c s₁ B hml hv
  obtain ⟨rfl, hw⟩ := hv
  have hx := B.exec
  have hb := B.bytes
  have hr := B.returns
  have hts := atoms_spec (ws := zW y_R_carry b_R_carry 6 none) B.pre
  have ht : ∀ w ∈ zT, w.before ([.ref (rA G 0)] : List Value).toArray s = true := fun w h => hts w (List.mem_cons_of_mem _ h)
  have hown : s.vm.findClass R_R = some m.cls := findClass_of_methodNamed B.named
  have hlocks := B.notSynchronized
  have hl := lv_entry ([.ref (rA G 0)]) (n := 6) (Nat.le_of_ble_eq_true rfl)
  rw [lg_entry_eq]
  generalize (lg_sl ([.ref (rA G 0)]) ++ List.replicate (6 - (lg_sl ([.ref (rA G 0)])).length) Slot.unset).toArray = ls at hl ⊢
  have hl : lv_has ls 6 [(0, .ref (rA G 0))] := hl
  refine lv_lconst (v := lN 0) hx hb d_R_carry_0 (by decide) ?_
  refine lv_lstore_n (lv' := [(1, .long (lN (0))), (0, .ref (rA G 0))]) hx hb d_R_carry_1 rfl hl (by decide) rfl (fun ls hl => ?_)
  refine lv_iconst (v := nI 0) hx hb d_R_carry_2 (by decide) ?_
  refine lv_istore_n (lv' := [(3, .int (nI (0))), (1, .long (lN (0))), (0, .ref (rA G 0))]) hx hb d_R_carry_3 rfl hl (by decide) rfl (fun ls hl => ?_)
  have loop : ∀ (n k : Nat), k + n = 22 → ∀ (P : Nat → Nat) (cy : Nat) (H : Heap) (locs : List Loc) (ls : Array Slot), cy < 2 ^ 36 → (∀ j, j < k → P j < b26) → (∀ j, k ≤ j → P j = rP σ j) → pv P k + cy * b26 ^ k = pv (rP σ) k → rH G (rsP σ P) s H locs → lv_has ls 6 [(0, .ref (rA G 0)), (1, .long (lN (cy))), (3, .int (nI (k)))] → W p l e (headSpec (zW y_R_carry b_R_carry 6 none) (zr 0 0)).room s m ([.ref (rA G 0)] : List Value).toArray below meth c H locs 0 0 (MQ below (va_Qv (fun u => ∃ P, u = rsP σ P ∧ (∀ j, j < 22 → P j < b26) ∧ pw P = pw (rP σ)) (fun u => rC G u) (rAA G)) ([.ref (rA G 0)] : List Value).toArray s 0 0 (rAA G)) (F0 m 4 ls []) := by
    intro n
    induction n with
    | zero =>
      intro k hk P cy H locs ls hcy hlo hup hsum hw hl
      have hk : k = 22 := by omega
      subst hk
      refine lv_iload_n hx hb d_R_carry_4 rfl (lv_at hl 2 rfl) ?_
      refine lv_bipush (v := nI 22) hx hb d_R_carry_5 (by decide) ?_
      refine n_ge (tgt := 44) hx hb d_R_carry_7 (by decide) (by decide) (by decide) (fun _ => ?_) (fun h => absurd h (by omega))
      exact z_vret (rZ _) hx hb hr hlocks _ hw ⟨P, rfl, hlo, carry_end hsum hv⟩ d_R_carry_44
    | succ n ih =>
      intro k hk P cy H locs ls hcy hlo hup hsum hw hl
      refine lv_iload_n hx hb d_R_carry_4 rfl (lv_at hl 2 rfl) ?_
      refine lv_bipush (v := nI 22) hx hb d_R_carry_5 (by decide) ?_
      refine n_ge (tgt := 44) hx hb d_R_carry_7 (by decide) (by omega) (by decide) (fun h => absurd h (by omega)) (fun _ => ?_)
      clear hv
      have hPk := hP k (by omega)
      refine lv_aload_n hx hb d_R_carry_10 rfl (lv_at hl 0 rfl) ?_
      refine r_get hx hb ht hown hw 1 (by decide) (ht _ kf_R_13) rfl d_R_carry_11 (fun _ h9 => h9) ?_
      refine lv_iload_n hx hb d_R_carry_14 rfl (lv_at hl 2 rfl) ?_
      refine r_lldP hx hb hw (by omega) d_R_carry_15 ?_
      refine tp_l (congrArg lN (hup k (Nat.le_refl k))) ?_
      refine lv_lload_n hx hb d_R_carry_16 rfl (lv_at hl 1 rfl) ?_
      refine lv_ladd hx hb d_R_carry_17 ?_
      refine tp_l (y := lN ((rP σ k) + cy)) (lN_add _ _) ?_
      refine lv_lstore (lv' := [(4, .long (lN ((rP σ k) + cy))), (0, .ref (rA G 0)), (1, .long (lN (cy))), (3, .int (nI (k)))]) hx hb d_R_carry_18 hl (by decide) rfl (fun ls hl => ?_)
      refine lv_aload_n hx hb d_R_carry_20 rfl (lv_at hl 1 rfl) ?_
      refine r_get hx hb ht hown hw 1 (by decide) (ht _ kf_R_13) rfl d_R_carry_21 (fun _ h9 => h9) ?_
      refine lv_iload_n hx hb d_R_carry_24 rfl (lv_at hl 3 rfl) ?_
      refine lv_lload hx hb d_R_carry_25 (lv_at hl 0 rfl) ?_
      refine lv_ldc2 hx hb hown (ht _ kl_R_82) d_R_carry_27 ?_
      refine lv_land hx hb d_R_carry_30 ?_
      refine tp_l (y := lN ((rP σ k + cy) % b26)) (land26 (by omega)) ?_
      refine r_lstP hx hb hw (by omega) d_R_carry_31 (fun H locs hw => ?_)
      refine lv_lload hx hb d_R_carry_32 (lv_at hl 0 rfl) ?_
      refine lv_bipush (v := nI 26) hx hb d_R_carry_34 (by decide) ?_
      refine lv_lshr (v := lN ((rP σ k + cy) / b26)) hx hb d_R_carry_36 (lshr26 (by omega)) ?_
      refine lv_lstore_n (lv' := [(1, .long (lN ((rP σ k + cy) / b26))), (4, .long (lN ((rP σ k) + cy))), (0, .ref (rA G 0)), (3, .int (nI (k)))]) hx hb d_R_carry_37 rfl hl (by decide) rfl (fun ls hl => ?_)
      refine lv_iinc (v := nI (k + 1)) (lv' := [(3, .int (nI (k + 1))), (1, .long (lN ((rP σ k + cy) / b26))), (4, .long (lN ((rP σ k) + cy))), (0, .ref (rA G 0))]) hx hb d_R_carry_38 hl (k := 3) rfl (nI_add k 1) (by decide) rfl (fun ls hl => ?_)
      refine lv_goto (tgt := 4) hx hb d_R_carry_41 (by decide) ?_
      refine ih (k + 1) (by omega) (va_up P k ((rP σ k + cy) % b26)) ((rP σ k + cy) / b26) H locs ls (by show _ / 67108864 < _; omega) (fun j hj => ?_) (fun j hj => ?_) ?_ hw (lv_sub hl [3, 1, 0] rfl)
      · by_cases e : j = k
        · rw [e, up_self]; exact Nat.mod_lt _ b26_pos
        · rw [up_ne _ _ e]; exact hlo j (by omega)
      · rw [up_ne _ _ (by omega)]; exact hup j (by omega)
      · show pv (va_up P k ((rP σ k + cy) % b26)) k + va_up P k ((rP σ k + cy) % b26) k * b26 ^ k + (rP σ k + cy) / b26 * b26 ^ (k + 1) = pv (rP σ) k + rP σ k * b26 ^ k
        rw [pv_up_ge P _ (Nat.le_refl k), up_self, Nat.pow_succ]
        have e := add_step (b := b26) (da := rP σ k) (db := 0) (A := pv (rP σ) k) (B := 0) (cy := cy) (p := b26 ^ k) (w := pv P k) (by omega)
        rw [Nat.add_zero] at e
        omega
  exact loop 22 0 rfl (rP σ) 0 _ _ ls (by decide) (fun j hj => absurd hj (by omega)) (fun _ _ => rfl) rfl hw (lv_sub hl [2, 1, 0] rfl)
set_option maxHeartbeats 4000000 in
set_option maxRecDepth 100000 in
theorem c_R_isWide (l : Launch) (G : rG) (σ : rS) (hP : ∀ j, j < 22 → rP σ j < b26) : Met l y_R_isWide (zW y_R_isWide b_R_isWide 3 (some .boolean)) (zr 0 0) (va_Pc [.ref (rA G 0)] (rC G σ)) (va_Qi (fun r u => u = σ ∧ r = nI (boolN (W256 ≤ pw (rP σ)))) (fun u => rC G u) (rAA G)) 0 0 (rAA G) := by
  refine Met.ofW (cc := b_R_isWide) (maxL := 3) (ret := (some .boolean)) (by decide) rfl ?_
  intro p e s m args below meth c s₁ B hml hv
  obtain ⟨rfl, hw⟩ := hv
  have hx := B.exec
  have hb := B.bytes
  have hr := B.returns
  have hts := atoms_spec (ws := zW y_R_isWide b_R_isWide 3 (some .boolean)) B.pre
  have ht : ∀ w ∈ zT, w.before ([.ref (rA G 0)] : List Value).toArray s = true := fun w h => hts w (List.mem_cons_of_mem _ h)
  have hown : s.vm.findClass R_R = some m.cls := findClass_of_methodNamed B.named
  have hlocks := B.notSynchronized
  have hl := lv_entry ([.ref (rA G 0)]) (n := 3) (Nat.le_of_ble_eq_true rfl)
  rw [lg_entry_eq]
  generalize (lg_sl ([.ref (rA G 0)]) ++ List.replicate (3 - (lg_sl ([.ref (rA G 0)])).length) Slot.unset).toArray = ls at hl ⊢
  have hl : lv_has ls 3 [(0, .ref (rA G 0))] := hl
  have hP9 : rP σ 9 < 67108864 := hP 9 (by decide)
  refine lv_aload_n hx hb d_R_isWide_0 rfl (lv_at hl 0 rfl) ?_
  refine r_get hx hb ht hown hw 1 (by decide) (ht _ kf_R_13) rfl d_R_isWide_1 (fun _ h9 => h9) ?_
  refine lv_bipush (v := nI 9) hx hb d_R_isWide_4 (by decide) ?_
  refine r_lldP hx hb hw (by decide) d_R_isWide_6 ?_
  refine lv_ldc2 hx hb hown (ht _ kl_R_84) d_R_isWide_7 ?_
  refine tp_l (y := lN 4194303) (by decide) ?_
  refine W.lcmp hx hb d_R_isWide_10 ?_
  have key := pw_wide hP
  have done : ∀ (z : Nat), z = boolN (W256 ≤ pw (rP σ)) → ∀ (k : Nat) (H : Heap) (locs : List Loc) (ls : Array Slot), rH G σ s H locs → lv_has ls 3 [(0, .ref (rA G 0)), (1, .int (nI (z))), (2, .int (nI (k)))] → W p l e (headSpec (zW y_R_isWide b_R_isWide 3 (some .boolean)) (zr 0 0)).room s m ([.ref (rA G 0)] : List Value).toArray below meth c H locs 0 0 (MQ below (va_Qi (fun r u => u = σ ∧ r = nI (boolN (W256 ≤ pw (rP σ)))) (fun u => rC G u) (rAA G)) ([.ref (rA G 0)] : List Value).toArray s 0 0 (rAA G)) (F0 m 56 ls []) := by
    intro z hz k H locs ls hw hl
    refine lv_iload_n hx hb d_R_isWide_56 rfl (lv_at hl 1 rfl) ?_
    exact z_zret (rZ _) hx hb hr hlocks (nar_b (by rw [hz]; exact boolN_lt _)) σ hw ⟨rfl, by rw [hz]⟩ d_R_isWide_57
  have loop : ∀ (n k : Nat), k + n = 22 → 10 ≤ k → ∀ (z : Nat), z < 2 → (z = 1 → W256 ≤ pw (rP σ)) → (z = 0 → ¬ 4194303 < rP σ 9 ∧ ∀ j, 10 ≤ j → j < k → rP σ j = 0) → ∀ (H : Heap) (locs : List Loc) (ls : Array Slot), rH G σ s H locs → lv_has ls 3 [(0, .ref (rA G 0)), (1, .int (nI (z))), (2, .int (nI (k)))] → W p l e (headSpec (zW y_R_isWide b_R_isWide 3 (some .boolean)) (zr 0 0)).room s m ([.ref (rA G 0)] : List Value).toArray below meth c H locs 0 0 (MQ below (va_Qi (fun r u => u = σ ∧ r = nI (boolN (W256 ≤ pw (rP σ)))) (fun u => rC G u) (rAA G)) ([.ref (rA G 0)] : List Value).toArray s 0 0 (rAA G)) (F0 m 23 ls []) := by
    intro n
    induction n with
    | zero =>
      intro k hk h10 z hz2 hz1 hz0 H locs ls hw hl
      have hk : k = 22 := by omega
      subst hk
      refine lv_iload_n hx hb d_R_isWide_23 rfl (lv_at hl 2 rfl) ?_
      refine lv_bipush (v := nI 22) hx hb d_R_isWide_24 (by decide) ?_
      refine n_ge (tgt := 56) hx hb d_R_isWide_26 (by decide) (by decide) (by decide) (fun _ => ?_) (fun h => absurd h (by omega))
      refine done z ?_ 22 H locs ls hw hl
      rcases (show z = 0 ∨ z = 1 by omega) with h | h
      · rw [h, boolN_f]
        intro hh
        rcases key.mp hh with h3 | ⟨j, h3, h4, h5⟩
        · exact (hz0 h).1 h3
        · have := (hz0 h).2 j h4 (by omega)
          omega
      · rw [h, boolN_t (hz1 h)]
    | succ n ih =>
      intro k hk h10 z hz2 hz1 hz0 H locs ls hw hl
      refine lv_iload_n hx hb d_R_isWide_23 rfl (lv_at hl 2 rfl) ?_
      refine lv_bipush (v := nI 22) hx hb d_R_isWide_24 (by decide) ?_
      refine n_ge (tgt := 56) hx hb d_R_isWide_26 (by decide) (by omega) (by decide) (fun h => absurd h (by omega)) (fun _ => ?_)
      refine lv_iload_n hx hb d_R_isWide_29 rfl (lv_at hl 1 rfl) ?_
      refine n_ne0 (tgt := 56) hx hb d_R_isWide_30 (by decide) (by omega) (fun c1 => done z (by rw [show z = 1 by omega, boolN_t (hz1 (by omega))]) k H locs ls hw hl) (fun c1 => ?_)
      have hPk : rP σ k < 67108864 := hP k (by omega)
      refine lv_aload_n hx hb d_R_isWide_33 rfl (lv_at hl 0 rfl) ?_
      refine r_get hx hb ht hown hw 1 (by decide) (ht _ kf_R_13) rfl d_R_isWide_34 (fun _ h9 => h9) ?_
      refine lv_iload_n hx hb d_R_isWide_37 rfl (lv_at hl 2 rfl) ?_
      refine r_lldP hx hb hw (by omega) d_R_isWide_38 ?_
      refine lv_lconst (v := lN 0) hx hb d_R_isWide_39 (by decide) ?_
      refine W.lcmp hx hb d_R_isWide_40 ?_
      refine lv_if_le (tgt := 48) hx hb d_R_isWide_41 (by decide) (fun c2 => ?_) (fun c2 => ?_)
      · rw [lcmp_le (by omega) (by decide)] at c2
        refine lv_iconst (v := nI 0) hx hb d_R_isWide_48 (by decide) ?_
        refine lv_istore_n (lv' := [(1, .int (nI (0))), (0, .ref (rA G 0)), (2, .int (nI (k)))]) hx hb d_R_isWide_49 rfl hl (by decide) rfl (fun ls hl => ?_)
        refine lv_iinc (v := nI (k + 1)) (lv' := [(2, .int (nI (k + 1))), (1, .int (nI (0))), (0, .ref (rA G 0))]) hx hb d_R_isWide_50 hl (k := 2) rfl (nI_add k 1) (by decide) rfl (fun ls hl => ?_)
        refine lv_goto (tgt := 23) hx hb d_R_isWide_53 (by decide) ?_
        exact ih (k + 1) (by omega) (by omega) 0 (by decide) (fun h => absurd h (by decide)) (fun _ => ⟨(hz0 c1).1, fun j h1 h2 => if h : j = k then by rw [h]; omega else (hz0 c1).2 j h1 (by omega)⟩) H locs ls hw (lv_sub hl [2, 1, 0] rfl)
      · rw [lcmp_le (by omega) (by decide)] at c2
        refine lv_iconst (v := nI 1) hx hb d_R_isWide_44 (by decide) ?_
        refine lv_goto (tgt := 49) hx hb d_R_isWide_45 (by decide) ?_
        refine lv_istore_n (lv' := [(1, .int (nI (1))), (0, .ref (rA G 0)), (2, .int (nI (k)))]) hx hb d_R_isWide_49 rfl hl (by decide) rfl (fun ls hl => ?_)
        refine lv_iinc (v := nI (k + 1)) (lv' := [(2, .int (nI (k + 1))), (1, .int (nI (1))), (0, .ref (rA G 0))]) hx hb d_R_isWide_50 hl (k := 2) rfl (nI_add k 1) (by decide) rfl (fun ls hl => ?_)
        refine lv_goto (tgt := 23) hx hb d_R_isWide_53 (by decide) ?_
        exact ih (k + 1) (by omega) (by omega) 1 (by decide) (fun _ => key.mpr (Or.inr ⟨k, by omega, h10, by omega⟩)) (fun h => absurd h (by decide)) H locs ls hw (lv_sub hl [2, 1, 0] rfl)
  refine lv_if_le (tgt := 18) hx hb d_R_isWide_11 (by decide) (fun c2 => ?_) (fun c2 => ?_)
  · rw [lcmp_le (by omega) (by decide)] at c2
    refine lv_iconst (v := nI 0) hx hb d_R_isWide_18 (by decide) ?_
    refine lv_istore_n (lv' := [(1, .int (nI (0))), (0, .ref (rA G 0))]) hx hb d_R_isWide_19 rfl hl (by decide) rfl (fun ls hl => ?_)
    refine lv_bipush (v := nI 10) hx hb d_R_isWide_20 (by decide) ?_
    refine lv_istore_n (lv' := [(2, .int (nI (10))), (1, .int (nI (0))), (0, .ref (rA G 0))]) hx hb d_R_isWide_22 rfl hl (by decide) rfl (fun ls hl => ?_)
    exact loop 12 10 rfl (Nat.le_refl _) 0 (by decide) (fun h => absurd h (by decide)) (fun _ => ⟨by omega, fun j h1 h2 => absurd h2 (by omega)⟩) _ _ ls hw (lv_sub hl [2, 1, 0] rfl)
  · rw [lcmp_le (by omega) (by decide)] at c2
    refine lv_iconst (v := nI 1) hx hb d_R_isWide_14 (by decide) ?_
    refine lv_goto (tgt := 19) hx hb d_R_isWide_15 (by decide) ?_
    refine lv_istore_n (lv' := [(1, .int (nI (1))), (0, .ref (rA G 0))]) hx hb d_R_isWide_19 rfl hl (by decide) rfl (fun ls hl => ?_)
    refine lv_bipush (v := nI 10) hx hb d_R_isWide_20 (by decide) ?_
    refine lv_istore_n (lv' := [(2, .int (nI (10))), (1, .int (nI (1))), (0, .ref (rA G 0))]) hx hb d_R_isWide_22 rfl hl (by decide) rfl (fun ls hl => ?_)
    exact loop 12 10 rfl (Nat.le_refl _) 1 (by decide) (fun _ => key.mpr (Or.inl (by omega))) (fun h => absurd h (by decide)) _ _ ls hw (lv_sub hl [2, 1, 0] rfl)
end
section
/-! what is above 2 ^ 256 is taken away, and as many gaps are added: the numbers of it -/
def B12 : Nat := b26 ^ 12
def B5 : Nat := b26 ^ 5
theorem pv_digits (v : Nat) : ∀ n, pv (fun i => dg b26 v i) n = v % b26 ^ n
  | 0 => by rw [Nat.pow_zero, Nat.mod_one]; rfl
  | n + 1 => by
    show pv (fun i => dg b26 v i) n + dg b26 v n * b26 ^ n = _
    rw [pv_digits v n, dg_mod]
/-- the digits of what stands above -/
def hiD (P : Nat → Nat) (i : Nat) : Nat := P (9 + i) / 4194304 + P (10 + i) % 4194304 * 16
theorem hi_arith {z q0 q1 X : Nat} (hq0 : q0 < 67108864) (hz : z = q0 + 67108864 * (q1 + 67108864 * X)) : z / 4194304 % 67108864 = q0 / 4194304 + q1 % 4194304 * 16 := by
  omega
theorem hi_dg {P : Nat → Nat} (hP : ∀ j, j < 22 → P j < b26) {i : Nat} (hi : i < 12) : dg b26 (pw P / W256) i = hiD P i := by
  have h0 : dg b26 (pw P) (9 + i) = P (9 + i) := pv_dg (by omega) hP
  have h1 : dg b26 (pw P) (10 + i) = P (10 + i) := pv_dg (by omega) hP
  generalize pw P = T at h0 h1 ⊢
  have hp0 := hP (9 + i) (by omega)
  unfold hiD
  rw [← h0, ← h1]
  rw [← h0] at hp0
  unfold dg at *
  have e1 : T / W256 / b26 ^ i = T / b26 ^ (9 + i) / 4194304 := by
    rw [W256_9, Nat.div_div_eq_div_mul, Nat.div_div_eq_div_mul]
    congr 1
    rw [Nat.pow_add, Nat.mul_assoc, Nat.mul_comm 4194304]
  have e2 : T / b26 ^ (10 + i) = T / b26 ^ (9 + i) / 67108864 := by
    rw [Nat.div_div_eq_div_mul]
    congr 1
    rw [show 10 + i = (9 + i) + 1 by omega, Nat.pow_succ]
  rw [e1, e2]
  generalize T / b26 ^ (9 + i) = z
  show z / 4194304 % 67108864 = z % 67108864 / 4194304 + z / 67108864 % 67108864 % 4194304 * 16
  omega
theorem hi_val {P : Nat → Nat} (hP : ∀ j, j < 22 → P j < b26) (hT : pw P < W256 * B12) : pv (hiD P) 12 = pw P / W256 := by
  rw [pv_congr 12 (g := fun i => dg b26 (pw P / W256) i) (fun j hj => (hi_dg hP hj).symm), pv_digits]
  refine Nat.mod_eq_of_lt ?_
  exact Nat.div_lt_of_lt_mul hT
/-- the low part -/
def loD (P : Nat → Nat) (k : Nat) : Nat := if k < 9 then P k else if k = 9 then P 9 % 4194304 else 0
theorem lo_val {P : Nat → Nat} (hP : ∀ j, j < 22 → P j < b26) : pw (loD P) = pw P % W256 := by
  have e1 : pw (loD P) = pv (loD P) 10 := by
    have key : ∀ k, pv (loD P) (10 + k) = pv (loD P) 10 := by
      intro k
      induction k with
      | zero => rfl
      | succ k ih =>
        show pv (loD P) (10 + k) + loD P (10 + k) * b26 ^ (10 + k) = _
        rw [ih, show loD P (10 + k) = 0 by unfold loD; rw [if_neg (by omega), if_neg (by omega)], Nat.zero_mul, Nat.add_zero]
    exact key 12
  have e2 : pv (loD P) 10 = pv P 9 + P 9 % 4194304 * b26 ^ 9 := by
    show pv (loD P) 9 + loD P 9 * b26 ^ 9 = _
    rw [pv_congr 9 (g := P) (fun j hj => by unfold loD; rw [if_pos hj])]
    rfl
  have h9 : dg b26 (pw P) 9 = P 9 := pv_dg (by decide) hP
  have hm : pw P % b26 ^ 9 = pv P 9 := pv_mod 22 (by decide) (fun j hj => hP j (by omega))
  rw [e1, e2, ← h9, ← hm]
  generalize pw P = T
  unfold dg
  rw [W256_9, Nat.mul_comm 4194304, Nat.mod_mul]
  generalize T / b26 ^ 9 = z
  generalize T % b26 ^ 9 = w
  generalize b26 ^ 9 = B
  show w + z % 67108864 % 4194304 * B = w + B * (z % 4194304)
  rw [show z % 67108864 % 4194304 = z % 4194304 by omega, Nat.mul_comm B]
theorem fold_small {x y r : Nat} (hx : x < W256) (hy : y < B12) (hr : r < B5) : x + y * r < B22 := by
  have h1 : y * r ≤ B12 * B5 := Nat.mul_le_mul (Nat.le_of_lt hy) (Nat.le_of_lt hr)
  have h2 : W256 + B12 * B5 < B22 := by decide
  exact Nat.lt_of_lt_of_le (Nat.add_lt_add_of_lt_of_le hx h1) (Nat.le_of_lt h2)
/-- the gap of a modulus: 0 P, 1 N -/
def rMod (μ : Nat) : Nat := if μ = 0 then ec_P else ec_N
def rGap (μ : Nat) : Nat := pv (fun j => rRest (10 * μ + j)) 5
theorem rGap_eq {μ : Nat} (h : μ < 2) : rGap μ + rMod μ = W256 := by
  rcases (show μ = 0 ∨ μ = 1 by omega) with rfl | rfl <;> decide +kernel
theorem rGap_lt {μ : Nat} (h : μ < 2) : rGap μ < B5 := by
  rcases (show μ = 0 ∨ μ = 1 by omega) with rfl | rfl <;> decide +kernel
theorem rMod_half {μ : Nat} (h : μ < 2) : W256 < 2 * rMod μ := by
  rcases (show μ = 0 ∨ μ = 1 by omega) with rfl | rfl <;> decide +kernel
theorem rRest_lt (k : Nat) : rRest k < b26 := by
  unfold rRest
  split
  · exact dg_lt b26_pos _ _
  · exact dg_lt b26_pos _ _
theorem fold_mod {T W R Mo : Nat} (h : R + Mo = W) : (T % W + T / W * R) % Mo = T % Mo := by
  have e := Nat.div_add_mod T W
  have e2 : T = (T % W + T / W * R) + Mo * (T / W) := by
    have : W * (T / W) = R * (T / W) + Mo * (T / W) := by rw [← h, Nat.add_mul]
    rw [Nat.mul_comm (T / W) R]
    omega
  conv => rhs; rw [e2]
  rw [Nat.add_mul_mod_self_left]
theorem fold_lt {T W R Mo : Nat} (h : R + Mo = W) (hM : 0 < Mo) (hT : W ≤ T) : T % W + T / W * R < T := by
  have e := Nat.div_add_mod T W
  have hq : 0 < T / W := Nat.div_pos hT (by omega)
  have e1 : W * (T / W) = R * (T / W) + Mo * (T / W) := by rw [← h, Nat.add_mul]
  have e2 : 0 < Mo * (T / W) := Nat.mul_pos hM hq
  rw [Nat.mul_comm (T / W) R]
  omega
end
section
/-! the fold of the reference -/
theorem bnd_mono {x a p q c : Nat} (h : x < a + p * c) (hpq : p ≤ q) : x < a + q * c := Nat.lt_of_lt_of_le h (Nat.add_le_add_left (Nat.mul_le_mul_right c hpq) a)
set_option maxHeartbeats 4000000 in
set_option maxRecDepth 100000 in
theorem c_R_fold (l : Launch) (G : rG) (σ : rS) {μ : Nat} (hμ : μ < 2) (hP : ∀ j, j < 22 → rP σ j < b26) (hT : pw (rP σ) < W256 * B12) : Met l y_R_fold (zW y_R_fold b_R_fold 6 none) (zr 1 25) (va_Pc [.ref (rA G 0), .int (nI (10 * μ))] (rC G σ)) (va_Qv (fun u => ∃ P F, u = rsP (rsF σ F) P ∧ (∀ j, j < 22 → P j < b26) ∧ pw P = pw (rP σ) % W256 + pw (rP σ) / W256 * rGap μ) (fun u => rC G u) (rAA G)) 0 0 (rAA G) := by
  refine Met.ofW (cc := b_R_fold) (maxL := 6) (ret := none) (by decide) rfl ?_
  intro p e s m args below meth c s₁ B hml hv
  obtain ⟨rfl, hw⟩ := hv
  have hx := B.exec
  have hb := B.bytes
  have hr := B.returns
  have hts := atoms_spec (ws := zW y_R_fold b_R_fold 6 none) B.pre
  have ht : ∀ w ∈ zT, w.before ([.ref (rA G 0), .int (nI (10 * μ))] : List Value).toArray s = true := fun w h => hts w (List.mem_cons_of_mem _ h)
  have hown : s.vm.findClass R_R = some m.cls := findClass_of_methodNamed B.named
  have hlocks := B.notSynchronized
  have hl := lv_entry ([.ref (rA G 0), .int (nI (10 * μ))]) (n := 6) (Nat.le_of_ble_eq_true rfl)
  rw [lg_entry_eq]
  generalize (lg_sl ([.ref (rA G 0), .int (nI (10 * μ))]) ++ List.replicate (6 - (lg_sl ([.ref (rA G 0), .int (nI (10 * μ))])).length) Slot.unset).toArray = ls at hl ⊢
  have hl : lv_has ls 6 [(0, .ref (rA G 0)), (1, .int (nI (10 * μ)))] := hl
  have hP60 : ∀ j, j < 22 → rP σ j < 67108864 := hP
  have third : ∀ (F : Nat → Nat), (∀ j, j < 22 → F j < 2 ^ 60) → pw F = pw (rP σ) % W256 + pw (rP σ) / W256 * rGap μ → ∀ (n k : Nat), k + n = 22 → ∀ (P : Nat → Nat) (H : Heap) (locs : List Loc) (ls : Array Slot), (∀ j, j < k → P j = F j) → rH G (rsP (rsF σ F) P) s H locs → lv_has ls 6 [(0, .ref (rA G 0)), (1, .int (nI (10 * μ))), (2, .int (nI (k)))] → W p l e (headSpec (zW y_R_fold b_R_fold 6 none) (zr 1 25)).room s m ([.ref (rA G 0), .int (nI (10 * μ))] : List Value).toArray below meth c H locs 0 0 (MQ below (va_Qv (fun u => ∃ P F, u = rsP (rsF σ F) P ∧ (∀ j, j < 22 → P j < b26) ∧ pw P = pw (rP σ) % W256 + pw (rP σ) / W256 * rGap μ) (fun u => rC G u) (rAA G)) ([.ref (rA G 0), .int (nI (10 * μ))] : List Value).toArray s 0 0 (rAA G)) (F0 m 146 ls []) := by
    intro F hF hFv n
    induction n with
    | zero =>
      intro k hk P H locs ls hPF hw hl
      have hk : k = 22 := by omega
      subst hk
      refine lv_iload_n hx hb d_R_fold_146 rfl (lv_at hl 2 rfl) ?_
      refine lv_bipush (v := nI 22) hx hb d_R_fold_147 (by decide) ?_
      refine n_ge (tgt := 170) hx hb d_R_fold_149 (by decide) (by decide) (by decide) (fun _ => ?_) (fun h => absurd h (by omega))
      refine lv_aload_n hx hb d_R_fold_170 rfl (lv_at hl 0 rfl) ?_
      have eP : pw P = pw F := pv_congr 22 hPF
      refine r_callv (np := 0) (As := []) (rest := []) ⟨hx, hb, hml, hown, ht⟩ hw (c_R_carry l G (rsP (rsF σ F) P) (fun j hj => by show P j < _; rw [hPF j hj]; exact hF j hj) (by show pw P < B22; rw [eP, hFv]; exact fold_small (Nat.mod_lt _ (by decide)) (Nat.div_lt_of_lt_mul hT) (rGap_lt hμ))) ⟨km_R_86, kv_R_carry, kx_R_carry, kc_R_carry⟩ (by decide +kernel) ⟨by decide, by decide⟩ rfl rfl rfl hl.1 rfl (by decide) d_R_fold_171 ⟨Nat.le_refl _, Nat.le_refl _⟩ (fun u H locs hp hw => ?_)
      obtain ⟨P2, rfl, h1, h2⟩ := hp
      refine z_vret (rZ _) hx hb hr hlocks _ hw ⟨P2, F, rfl, h1, ?_⟩ d_R_fold_174
      rw [h2, ← hFv]
      exact eP
    | succ n ih =>
      intro k hk P H locs ls hPF hw hl
      refine lv_iload_n hx hb d_R_fold_146 rfl (lv_at hl 2 rfl) ?_
      refine lv_bipush (v := nI 22) hx hb d_R_fold_147 (by decide) ?_
      refine n_ge (tgt := 170) hx hb d_R_fold_149 (by decide) (by omega) (by decide) (fun h => absurd h (by omega)) (fun _ => ?_)
      refine lv_aload_n hx hb d_R_fold_152 rfl (lv_at hl 0 rfl) ?_
      refine r_get hx hb ht hown hw 1 (by decide) (ht _ kf_R_13) rfl d_R_fold_153 (fun _ h9 => h9) ?_
      refine lv_iload_n hx hb d_R_fold_156 rfl (lv_at hl 2 rfl) ?_
      refine lv_aload_n hx hb d_R_fold_157 rfl (lv_at hl 0 rfl) ?_
      refine r_get hx hb ht hown hw 2 (by decide) (ht _ kf_R_17) rfl d_R_fold_158 (fun _ h9 => h9) ?_
      refine lv_iload_n hx hb d_R_fold_161 rfl (lv_at hl 2 rfl) ?_
      refine r_lldF hx hb hw (by omega) d_R_fold_162 ?_
      refine tp_l (y := lN (F k)) (rfl) ?_
      refine r_lstP hx hb hw (by omega) d_R_fold_163 (fun H locs hw => ?_)
      refine lv_iinc (v := nI (k + 1)) (lv' := [(2, .int (nI (k + 1))), (0, .ref (rA G 0)), (1, .int (nI (10 * μ)))]) hx hb d_R_fold_164 hl (k := 2) rfl (nI_add k 1) (by decide) rfl (fun ls hl => ?_)
      refine lv_goto (tgt := 146) hx hb d_R_fold_167 (by decide) ?_
      refine ih (k + 1) (by omega) (va_up P k (F k)) H locs ls (fun j hj => ?_) hw (lv_sub hl [1, 2, 0] rfl)
      by_cases e : j = k
      · rw [e, up_self]
      · rw [up_ne _ _ e]; exact hPF j (by omega)
  have second : ∀ (n k : Nat), k + n = 12 → ∀ (F : Nat → Nat) (H : Heap) (locs : List Loc) (ls : Array Slot), (∀ j, j < 22 → F j < 67108864 + (5 * k) * 4503599627370496) → pw F = pw (rP σ) % W256 + pv (hiD (rP σ)) k * rGap μ → rH G (rsF σ F) s H locs → lv_has ls 6 [(0, .ref (rA G 0)), (1, .int (nI (10 * μ))), (2, .int (nI (k)))] → W p l e (headSpec (zW y_R_fold b_R_fold 6 none) (zr 1 25)).room s m ([.ref (rA G 0), .int (nI (10 * μ))] : List Value).toArray below meth c H locs 0 0 (MQ below (va_Qv (fun u => ∃ P F, u = rsP (rsF σ F) P ∧ (∀ j, j < 22 → P j < b26) ∧ pw P = pw (rP σ) % W256 + pw (rP σ) / W256 * rGap μ) (fun u => rC G u) (rAA G)) ([.ref (rA G 0), .int (nI (10 * μ))] : List Value).toArray s 0 0 (rAA G)) (F0 m 58 ls []) := by
    intro n
    induction n with
    | zero =>
      intro k hk F H locs ls hF hFv hw hl
      have hk : k = 12 := by omega
      subst hk
      refine lv_iload_n hx hb d_R_fold_58 rfl (lv_at hl 2 rfl) ?_
      refine lv_bipush (v := nI 12) hx hb d_R_fold_59 (by decide) ?_
      refine n_ge (tgt := 144) hx hb d_R_fold_61 (by decide) (by decide) (by decide) (fun _ => ?_) (fun h => absurd h (by omega))
      refine lv_iconst (v := nI 0) hx hb d_R_fold_144 (by decide) ?_
      refine lv_istore_n (lv' := [(2, .int (nI (0))), (0, .ref (rA G 0)), (1, .int (nI (10 * μ)))]) hx hb d_R_fold_145 rfl hl (by decide) rfl (fun ls hl => ?_)
      refine third F (fun j hj => by have := hF j hj; omega) (by rw [hFv, hi_val hP hT]) 22 0 rfl (rP σ) H locs ls (fun j hj => absurd hj (by omega)) hw (lv_sub hl [1, 2, 0] rfl)
    | succ n ih =>
      intro k hk F H locs ls hF hFv hw hl
      refine lv_iload_n hx hb d_R_fold_58 rfl (lv_at hl 2 rfl) ?_
      refine lv_bipush (v := nI 12) hx hb d_R_fold_59 (by decide) ?_
      refine n_ge (tgt := 144) hx hb d_R_fold_61 (by decide) (by omega) (by decide) (fun h => absurd h (by omega)) (fun _ => ?_)
      have q0 := hP60 (9 + k) (by omega)
      have q1 := hP60 (10 + k) (by omega)
      refine lv_aload_n hx hb d_R_fold_64 rfl (lv_at hl 0 rfl) ?_
      refine r_get hx hb ht hown hw 1 (by decide) (ht _ kf_R_13) rfl d_R_fold_65 (fun _ h9 => h9) ?_
      refine lv_bipush (v := nI 9) hx hb d_R_fold_68 (by decide) ?_
      refine lv_iload_n hx hb d_R_fold_70 rfl (lv_at hl 2 rfl) ?_
      refine lv_iadd hx hb d_R_fold_71 ?_
      refine tp_i (y := nI (9 + k)) (nI_add _ _) ?_
      refine r_lldP hx hb hw (by omega) d_R_fold_72 ?_
      refine tp_l (y := lN (rP σ (9 + k))) (rfl) ?_
      refine lv_bipush (v := nI 22) hx hb d_R_fold_73 (by decide) ?_
      refine lv_lshr (v := lN (rP σ (9 + k) / 4194304)) hx hb d_R_fold_75 (lshr22 (by omega)) ?_
      refine lv_aload_n hx hb d_R_fold_76 rfl (lv_at hl 0 rfl) ?_
      refine r_get hx hb ht hown hw 1 (by decide) (ht _ kf_R_13) rfl d_R_fold_77 (fun _ h9 => h9) ?_
      refine lv_bipush (v := nI 10) hx hb d_R_fold_80 (by decide) ?_
      refine lv_iload_n hx hb d_R_fold_82 rfl (lv_at hl 2 rfl) ?_
      refine lv_iadd hx hb d_R_fold_83 ?_
      refine tp_i (y := nI (10 + k)) (nI_add _ _) ?_
      refine r_lldP hx hb hw (by omega) d_R_fold_84 ?_
      refine tp_l (y := lN (rP σ (10 + k))) (rfl) ?_
      refine lv_ldc2 hx hb hown (ht _ kl_R_84) d_R_fold_85 ?_
      refine lv_land hx hb d_R_fold_88 ?_
      refine tp_l (y := lN (rP σ (10 + k) % 4194304)) (land22 (by omega)) ?_
      refine lv_iconst (v := nI 4) hx hb d_R_fold_89 (by decide) ?_
      refine lv_lshl (v := lN (rP σ (10 + k) % 4194304 * 16)) hx hb d_R_fold_90 (lshl4 _) ?_
      refine lv_lor hx hb d_R_fold_91 ?_
      refine tp_l (y := lN (rP σ (9 + k) / 4194304 + rP σ (10 + k) % 4194304 * 16)) (lor16 (by omega) (by omega)) ?_
      refine tp_l (y := lN (hiD (rP σ) k)) (rfl) ?_
      have hhi : hiD (rP σ) k < 67108864 := by unfold hiD; omega
      refine lv_lstore_n (lv' := [(3, .long (lN (hiD (rP σ) k))), (0, .ref (rA G 0)), (1, .int (nI (10 * μ))), (2, .int (nI (k)))]) hx hb d_R_fold_92 rfl hl (by decide) rfl (fun ls hl => ?_)
      refine lv_iconst (v := nI 0) hx hb d_R_fold_93 (by decide) ?_
      refine lv_istore (lv' := [(5, .int (nI (0))), (3, .long (lN (hiD (rP σ) k))), (0, .ref (rA G 0)), (1, .int (nI (10 * μ))), (2, .int (nI (k)))]) hx hb d_R_fold_94 hl (by decide) rfl (fun ls hl => ?_)
      have inner : ∀ (n j : Nat), j + n = 5 → ∀ (F2 : Nat → Nat) (H : Heap) (locs : List Loc) (ls : Array Slot), (∀ i, i < 22 → F2 i < 67108864 + (5 * k + j) * 4503599627370496) → pw F2 = pw F + hiD (rP σ) k * b26 ^ k * pv (fun i => rRest (10 * μ + i)) j → rH G (rsF σ F2) s H locs → lv_has ls 6 [(0, .ref (rA G 0)), (1, .int (nI (10 * μ))), (2, .int (nI (k))), (3, .long (lN (hiD (rP σ) k))), (5, .int (nI (j)))] → W p l e (headSpec (zW y_R_fold b_R_fold 6 none) (zr 1 25)).room s m ([.ref (rA G 0), .int (nI (10 * μ))] : List Value).toArray below meth c H locs 0 0 (MQ below (va_Qv (fun u => ∃ P F, u = rsP (rsF σ F) P ∧ (∀ j, j < 22 → P j < b26) ∧ pw P = pw (rP σ) % W256 + pw (rP σ) / W256 * rGap μ) (fun u => rC G u) (rAA G)) ([.ref (rA G 0), .int (nI (10 * μ))] : List Value).toArray s 0 0 (rAA G)) (F0 m 96 ls []) := by
        have leave : ∀ (j : Nat), j ≤ 5 → ∀ (F2 : Nat → Nat) (H : Heap) (locs : List Loc) (ls : Array Slot), (∀ i, i < 22 → F2 i < 67108864 + (5 * k + 5) * 4503599627370496) → pw F2 = pw F + hiD (rP σ) k * b26 ^ k * rGap μ → rH G (rsF σ F2) s H locs → lv_has ls 6 [(0, .ref (rA G 0)), (1, .int (nI (10 * μ))), (2, .int (nI (k))), (3, .long (lN (hiD (rP σ) k))), (5, .int (nI (j)))] → W p l e (headSpec (zW y_R_fold b_R_fold 6 none) (zr 1 25)).room s m ([.ref (rA G 0), .int (nI (10 * μ))] : List Value).toArray below meth c H locs 0 0 (MQ below (va_Qv (fun u => ∃ P F, u = rsP (rsF σ F) P ∧ (∀ j, j < 22 → P j < b26) ∧ pw P = pw (rP σ) % W256 + pw (rP σ) / W256 * rGap μ) (fun u => rC G u) (rAA G)) ([.ref (rA G 0), .int (nI (10 * μ))] : List Value).toArray s 0 0 (rAA G)) (F0 m 138 ls []) := by
          intro j hj F2 H locs ls hF2 hv2 hw hl
          refine lv_iinc (v := nI (k + 1)) (lv' := [(2, .int (nI (k + 1))), (0, .ref (rA G 0)), (1, .int (nI (10 * μ))), (3, .long (lN (hiD (rP σ) k))), (5, .int (nI (j)))]) hx hb d_R_fold_138 hl (k := 2) rfl (nI_add k 1) (by decide) rfl (fun ls hl => ?_)
          refine lv_goto (tgt := 58) hx hb d_R_fold_141 (by decide) ?_
          refine ih (k + 1) (by omega) F2 H locs ls hF2 ?_ hw (lv_sub hl [1, 2, 0] rfl)
          rw [hv2, hFv]
          show _ = pw (rP σ) % W256 + (pv (hiD (rP σ)) k + hiD (rP σ) k * b26 ^ k) * rGap μ
          rw [Nat.add_mul, Nat.add_assoc]
        intro n
        induction n with
        | zero =>
          intro j hj F2 H locs ls hF2 hv2 hw hl
          have hj : j = 5 := by omega
          subst hj
          refine lv_iload hx hb d_R_fold_96 (lv_at hl 4 rfl) ?_
          refine lv_iconst (v := nI 5) hx hb d_R_fold_98 (by decide) ?_
          refine n_ge (tgt := 138) hx hb d_R_fold_99 (by decide) (by decide) (by decide) (fun _ => ?_) (fun h => absurd h (by omega))
          exact leave 5 (Nat.le_refl 5) F2 H locs ls hF2 hv2 hw hl
        | succ n ih2 =>
          intro j hj F2 H locs ls hF2 hv2 hw hl
          refine lv_iload hx hb d_R_fold_96 (lv_at hl 4 rfl) ?_
          refine lv_iconst (v := nI 5) hx hb d_R_fold_98 (by decide) ?_
          refine n_ge (tgt := 138) hx hb d_R_fold_99 (by decide) (by omega) (by decide) (fun h => absurd h (by omega)) (fun _ => ?_)
          refine lv_lload_n hx hb d_R_fold_102 rfl (lv_at hl 3 rfl) ?_
          refine lv_lconst (v := lN 0) hx hb d_R_fold_103 (by decide) ?_
          refine W.lcmp hx hb d_R_fold_104 ?_
          refine lv_if_le (tgt := 138) hx hb d_R_fold_105 (by decide) (fun c2 => ?_) (fun c2 => ?_)
          · rw [lcmp_le (by omega) (by decide)] at c2
            have h0 : hiD (rP σ) k = 0 := by omega
            refine leave j (by omega) F2 H locs ls (fun i hi => bnd_mono (hF2 i hi) (by omega)) ?_ hw hl
            rw [hv2, h0, Nat.zero_mul, Nat.zero_mul, Nat.zero_mul]
          · have hr0 : rRest (10 * μ + j) < 67108864 := rRest_lt _
            have hF2k := hF2 (k + j) (by omega)
            refine lv_aload_n hx hb d_R_fold_108 rfl (lv_at hl 0 rfl) ?_
            refine r_get hx hb ht hown hw 2 (by decide) (ht _ kf_R_17) rfl d_R_fold_109 (fun _ h9 => h9) ?_
            refine lv_iload_n hx hb d_R_fold_112 rfl (lv_at hl 2 rfl) ?_
            refine lv_iload hx hb d_R_fold_113 (lv_at hl 4 rfl) ?_
            refine lv_iadd hx hb d_R_fold_115 ?_
            refine tp_i (y := nI (k + j)) (nI_add _ _) ?_
            refine lv_dup2_11 hx hb d_R_fold_116 rfl rfl ?_
            refine r_lldF hx hb hw (by omega) d_R_fold_117 ?_
            refine tp_l (y := lN (F2 (k + j))) (rfl) ?_
            refine lv_lload_n hx hb d_R_fold_118 rfl (lv_at hl 3 rfl) ?_
            refine lv_aload_n hx hb d_R_fold_119 rfl (lv_at hl 0 rfl) ?_
            refine r_get hx hb ht hown hw 3 (by decide) (ht _ kf_R_20) rfl d_R_fold_120 (fun _ h9 => h9) ?_
            refine lv_iload_n hx hb d_R_fold_123 rfl (lv_at hl 1 rfl) ?_
            refine lv_iload hx hb d_R_fold_124 (lv_at hl 4 rfl) ?_
            refine lv_iadd hx hb d_R_fold_126 ?_
            refine tp_i (y := nI ((10 * μ) + j)) (nI_add _ _) ?_
            refine r_ildR hx hb hw (by omega) d_R_fold_127 ?_
            refine lv_i2l (v := lN (rRest (10 * μ + j))) hx hb d_R_fold_128 (nI_l (by omega)) ?_
            refine lv_lmul hx hb d_R_fold_129 ?_
            refine tp_l (y := lN ((hiD (rP σ) k) * (rRest (10 * μ + j)))) (lN_mul _ _) ?_
            refine lv_ladd hx hb d_R_fold_130 ?_
            refine tp_l (y := lN ((F2 (k + j)) + ((hiD (rP σ) k) * (rRest (10 * μ + j))))) (lN_add _ _) ?_
            refine r_lstF hx hb hw (by omega) d_R_fold_131 (fun H locs hw => ?_)
            refine lv_iinc (v := nI (j + 1)) (lv' := [(5, .int (nI (j + 1))), (0, .ref (rA G 0)), (1, .int (nI (10 * μ))), (2, .int (nI (k))), (3, .long (lN (hiD (rP σ) k)))]) hx hb d_R_fold_132 hl (k := 4) rfl (nI_add j 1) (by decide) rfl (fun ls hl => ?_)
            refine lv_goto (tgt := 96) hx hb d_R_fold_135 (by decide) ?_
            have hmul : hiD (rP σ) k * rRest (10 * μ + j) ≤ 67108864 * 67108864 := Nat.mul_le_mul (Nat.le_of_lt hhi) (Nat.le_of_lt hr0)
            refine ih2 (j + 1) (by omega) (va_up F2 (k + j) (F2 (k + j) + hiD (rP σ) k * rRest (10 * μ + j))) H locs ls (fun i hi => ?_) ?_ hw (lv_sub hl [1, 2, 3, 4, 0] rfl)
            · by_cases e : i = k + j
              · rw [e, up_self]; omega
              · rw [up_ne _ _ e]; exact bnd_mono (hF2 i hi) (by omega)
            · have e1 : pw (va_up F2 (k + j) (F2 (k + j) + hiD (rP σ) k * rRest (10 * μ + j))) = pw F2 + hiD (rP σ) k * rRest (10 * μ + j) * b26 ^ (k + j) := pv_inc F2 _ 22 (by omega)
              rw [e1, hv2]
              show _ = pw F + hiD (rP σ) k * b26 ^ k * (pv (fun i => rRest (10 * μ + i)) j + rRest (10 * μ + j) * b26 ^ j)
              rw [Nat.mul_add, Nat.pow_add, Nat.add_assoc]
              congr 2
              grind
      refine inner 5 0 rfl F H locs ls (fun i hi => by have := hF i hi; omega) (by show pw F = pw F + _ * 0; omega) hw (lv_sub hl [2, 3, 4, 1, 0] rfl)
  refine lv_iconst (v := nI 0) hx hb d_R_fold_0 (by decide) ?_
  refine lv_istore_n (lv' := [(2, .int (nI (0))), (0, .ref (rA G 0)), (1, .int (nI (10 * μ)))]) hx hb d_R_fold_1 rfl hl (by decide) rfl (fun ls hl => ?_)
  have first : ∀ (n k : Nat), k + n = 22 → ∀ (F : Nat → Nat) (H : Heap) (locs : List Loc) (ls : Array Slot), (∀ j, j < k → F j = loD (rP σ) j) → rH G (rsF σ F) s H locs → lv_has ls 6 [(0, .ref (rA G 0)), (1, .int (nI (10 * μ))), (2, .int (nI (k)))] → W p l e (headSpec (zW y_R_fold b_R_fold 6 none) (zr 1 25)).room s m ([.ref (rA G 0), .int (nI (10 * μ))] : List Value).toArray below meth c H locs 0 0 (MQ below (va_Qv (fun u => ∃ P F, u = rsP (rsF σ F) P ∧ (∀ j, j < 22 → P j < b26) ∧ pw P = pw (rP σ) % W256 + pw (rP σ) / W256 * rGap μ) (fun u => rC G u) (rAA G)) ([.ref (rA G 0), .int (nI (10 * μ))] : List Value).toArray s 0 0 (rAA G)) (F0 m 2 ls []) := by
    intro n
    induction n with
    | zero =>
      intro k hk F H locs ls hF hw hl
      have hk : k = 22 := by omega
      subst hk
      refine lv_iload_n hx hb d_R_fold_2 rfl (lv_at hl 2 rfl) ?_
      refine lv_bipush (v := nI 22) hx hb d_R_fold_3 (by decide) ?_
      refine n_ge (tgt := 56) hx hb d_R_fold_5 (by decide) (by decide) (by decide) (fun _ => ?_) (fun h => absurd h (by omega))
      refine lv_iconst (v := nI 0) hx hb d_R_fold_56 (by decide) ?_
      refine lv_istore_n (lv' := [(2, .int (nI (0))), (0, .ref (rA G 0)), (1, .int (nI (10 * μ)))]) hx hb d_R_fold_57 rfl hl (by decide) rfl (fun ls hl => ?_)
      refine second 12 0 rfl F H locs ls (fun j hj => ?_) ?_ hw (lv_sub hl [1, 2, 0] rfl)
      · rw [hF j hj]; unfold loD; have := hP60 j hj; have := hP60 9 (by decide); split; omega; split; omega; omega
      · have e1 : pw F = pw (loD (rP σ)) := pv_congr 22 hF
        rw [e1, lo_val hP]
        show _ = _ + 0 * _
        rw [Nat.zero_mul, Nat.add_zero]
    | succ n ih =>
      intro k hk F H locs ls hF hw hl
      refine lv_iload_n hx hb d_R_fold_2 rfl (lv_at hl 2 rfl) ?_
      refine lv_bipush (v := nI 22) hx hb d_R_fold_3 (by decide) ?_
      refine n_ge (tgt := 56) hx hb d_R_fold_5 (by decide) (by omega) (by decide) (fun h => absurd h (by omega)) (fun _ => ?_)
      have put : ∀ (v : Nat), v = loD (rP σ) k → ∀ (H : Heap) (locs : List Loc) (ls : Array Slot), rH G (rsF σ F) s H locs → lv_has ls 6 [(0, .ref (rA G 0)), (1, .int (nI (10 * μ))), (2, .int (nI (k)))] → W p l e (headSpec (zW y_R_fold b_R_fold 6 none) (zr 1 25)).room s m ([.ref (rA G 0), .int (nI (10 * μ))] : List Value).toArray below meth c H locs 0 0 (MQ below (va_Qv (fun u => ∃ P F, u = rsP (rsF σ F) P ∧ (∀ j, j < 22 → P j < b26) ∧ pw P = pw (rP σ) % W256 + pw (rP σ) / W256 * rGap μ) (fun u => rC G u) (rAA G)) ([.ref (rA G 0), .int (nI (10 * μ))] : List Value).toArray s 0 0 (rAA G)) (F0 m 49 ls [.long (lN (v)), .int (nI (k)), .ref (rA G 3)]) := by
        intro v hv H locs ls hw hl
        refine r_lstF hx hb hw (by omega) d_R_fold_49 (fun H locs hw => ?_)
        refine lv_iinc (v := nI (k + 1)) (lv' := [(2, .int (nI (k + 1))), (0, .ref (rA G 0)), (1, .int (nI (10 * μ)))]) hx hb d_R_fold_50 hl (k := 2) rfl (nI_add k 1) (by decide) rfl (fun ls hl => ?_)
        refine lv_goto (tgt := 2) hx hb d_R_fold_53 (by decide) ?_
        refine ih (k + 1) (by omega) (va_up F k v) H locs ls (fun j hj => ?_) hw (lv_sub hl [1, 2, 0] rfl)
        by_cases e : j = k
        · rw [e, up_self]; exact hv
        · rw [up_ne _ _ e]; exact hF j (by omega)
      refine lv_aload_n hx hb d_R_fold_8 rfl (lv_at hl 0 rfl) ?_
      refine r_get hx hb ht hown hw 2 (by decide) (ht _ kf_R_17) rfl d_R_fold_9 (fun _ h9 => h9) ?_
      refine lv_iload_n hx hb d_R_fold_12 rfl (lv_at hl 2 rfl) ?_
      refine lv_iload_n hx hb d_R_fold_13 rfl (lv_at hl 2 rfl) ?_
      refine lv_bipush (v := nI 9) hx hb d_R_fold_14 (by decide) ?_
      refine n_ge (tgt := 28) hx hb d_R_fold_16 (by decide) (by omega) (by decide) (fun c1 => ?_) (fun c1 => ?_)
      · refine lv_iload_n hx hb d_R_fold_28 rfl (lv_at hl 2 rfl) ?_
        refine lv_bipush (v := nI 9) hx hb d_R_fold_29 (by decide) ?_
        refine n_ne (tgt := 48) hx hb d_R_fold_31 (by decide) (by omega) (by decide) (fun c2 => ?_) (fun c2 => ?_)
        · refine lv_lconst (v := lN 0) hx hb d_R_fold_48 (by decide) ?_
          exact put 0 (by unfold loD; rw [if_neg (by omega), if_neg c2]) H locs ls hw hl
        · refine lv_aload_n hx hb d_R_fold_34 rfl (lv_at hl 0 rfl) ?_
          refine r_get hx hb ht hown hw 1 (by decide) (ht _ kf_R_13) rfl d_R_fold_35 (fun _ h9 => h9) ?_
          refine lv_bipush (v := nI 9) hx hb d_R_fold_38 (by decide) ?_
          have q9 := hP60 9 (by decide)
          refine r_lldP hx hb hw (by decide) d_R_fold_40 ?_
          refine tp_l (y := lN (rP σ 9)) (rfl) ?_
          refine lv_ldc2 hx hb hown (ht _ kl_R_84) d_R_fold_41 ?_
          refine lv_land hx hb d_R_fold_44 ?_
          refine tp_l (y := lN (rP σ 9 % 4194304)) (land22 (by omega)) ?_
          refine lv_goto (tgt := 49) hx hb d_R_fold_45 (by decide) ?_
          exact put (rP σ 9 % 4194304) (by unfold loD; rw [if_neg (by omega), if_pos c2]) H locs ls hw hl
      · refine lv_aload_n hx hb d_R_fold_19 rfl (lv_at hl 0 rfl) ?_
        refine r_get hx hb ht hown hw 1 (by decide) (ht _ kf_R_13) rfl d_R_fold_20 (fun _ h9 => h9) ?_
        refine lv_iload_n hx hb d_R_fold_23 rfl (lv_at hl 2 rfl) ?_
        refine r_lldP hx hb hw (by omega) d_R_fold_24 ?_
        refine tp_l (y := lN (rP σ k)) (rfl) ?_
        refine lv_goto (tgt := 49) hx hb d_R_fold_25 (by decide) ?_
        exact put (rP σ k) (by unfold loD; rw [if_pos c1]) H locs ls hw hl
  exact first 22 0 rfl (rF σ) _ _ ls (fun j hj => absurd hj (by omega)) hw (lv_sub hl [1, 2, 0] rfl)
end
section
/-! the product of the reference -/
theorem prod_small {A B : Nat} (hA : A < b26 ^ 10) (hB : B < b26 ^ 10) : A * B < W256 * B12 ∧ A * B < B22 := by
  have h1 : A * B ≤ b26 ^ 10 * b26 ^ 10 := Nat.mul_le_mul (Nat.le_of_lt hA) (Nat.le_of_lt hB)
  exact ⟨Nat.lt_of_le_of_lt h1 (by decide), Nat.lt_of_le_of_lt h1 (by decide)⟩
theorem low10 {P : Nat → Nat} (hP : ∀ j, j < 22 → P j < b26) (h : ¬ W256 ≤ pw P) : pv P 10 = pw P := by
  have e : pw P % b26 ^ 10 = pv P 10 := pv_mod 22 (by decide) (fun j hj => hP j (by omega))
  rw [← e, Nat.mod_eq_of_lt (Nat.lt_of_lt_of_le (Nat.lt_of_not_le h) W256_10)]
theorem rMod_pos {μ : Nat} (h : μ < 2) : 0 < rMod μ := by
  have := rMod_half h
  omega
theorem once_mod {T W Mo : Nat} (h1 : T < W) (h2 : W < 2 * Mo) (h3 : Mo ≤ T) : T - Mo = T % Mo := by
  rw [Nat.mod_eq_sub_mod h3, Nat.mod_eq_of_lt (by omega)]
set_option maxHeartbeats 4000000 in
set_option maxRecDepth 100000 in
theorem c_R_multiply (l : Launch) (G : rG) (σ : rS) (hok : rOk σ) {μ to a b : Nat} (hμ : μ < 2) (h1 : to < 48) (h2 : a < 48) (h3 : b < 48) (hto : to ≠ 8 + μ) (hq : rV σ (8 + μ) = rMod μ) : Met l y_R_multiply (zW y_R_multiply b_R_multiply 9 none) (zr 2 50) (va_Pc [.ref (rA G 0), .int (nI (to)), .int (nI (a)), .int (nI (b)), .int (nI (8 + μ))] (rC G σ)) (va_Qv (fun u => ∃ P F, u = rsP (rsF (rsV σ (va_up (rV σ) to ((rV σ a * rV σ b) % rMod μ))) F) P) (fun u => rC G u) (rAA G)) 0 0 (rAA G) := by
  refine Met.ofW (cc := b_R_multiply) (maxL := 9) (ret := none) (by decide) rfl ?_
  intro p e s m args below meth c s₁ B hml hv
  obtain ⟨rfl, hw⟩ := hv
  have hx := B.exec
  have hb := B.bytes
  have hr := B.returns
  have hts := atoms_spec (ws := zW y_R_multiply b_R_multiply 9 none) B.pre
  have ht : ∀ w ∈ zT, w.before ([.ref (rA G 0), .int (nI (to)), .int (nI (a)), .int (nI (b)), .int (nI (8 + μ))] : List Value).toArray s = true := fun w h => hts w (List.mem_cons_of_mem _ h)
  have hown : s.vm.findClass R_R = some m.cls := findClass_of_methodNamed B.named
  have hlocks := B.notSynchronized
  have hl := lv_entry ([.ref (rA G 0), .int (nI (to)), .int (nI (a)), .int (nI (b)), .int (nI (8 + μ))]) (n := 9) (Nat.le_of_ble_eq_true rfl)
  rw [lg_entry_eq]
  generalize (lg_sl ([.ref (rA G 0), .int (nI (to)), .int (nI (a)), .int (nI (b)), .int (nI (8 + μ))]) ++ List.replicate (9 - (lg_sl ([.ref (rA G 0), .int (nI (to)), .int (nI (a)), .int (nI (b)), .int (nI (8 + μ))])).length) Slot.unset).toArray = ls at hl ⊢
  have hl : lv_has ls 9 [(0, .ref (rA G 0)), (1, .int (nI (to))), (2, .int (nI (a))), (3, .int (nI (b))), (4, .int (nI (8 + μ)))] := hl
  have last : ∀ (P F : Nat → Nat) (T : Nat) (k : Nat), T < W256 → T % rMod μ = (rV σ a * rV σ b) % rMod μ → ∀ (H : Heap) (locs : List Loc) (ls : Array Slot), rH G (rsP (rsF (rsV σ (va_up (rV σ) to T)) F) P) s H locs → lv_has ls 9 [(0, .ref (rA G 0)), (1, .int (nI (to))), (2, .int (nI (a))), (3, .int (nI (b))), (4, .int (nI (8 + μ)))] → W p l e (headSpec (zW y_R_multiply b_R_multiply 9 none) (zr 2 50)).room s m ([.ref (rA G 0), .int (nI (to)), .int (nI (a)), .int (nI (b)), .int (nI (8 + μ))] : List Value).toArray below meth c H locs 0 0 (MQ below (va_Qv (fun u => ∃ P F, u = rsP (rsF (rsV σ (va_up (rV σ) to ((rV σ a * rV σ b) % rMod μ))) F) P) (fun u => rC G u) (rAA G)) ([.ref (rA G 0), .int (nI (to)), .int (nI (a)), .int (nI (b)), .int (nI (8 + μ))] : List Value).toArray s 0 0 (rAA G)) (F0 m 169 ls []) := by
    intro P F T k hT hTm H locs ls hw hl
    have hT10 : T < b26 ^ 10 := Nat.lt_of_lt_of_le hT W256_10
    have hok2 : rOk (rsP (rsF (rsV σ (va_up (rV σ) to T)) F) P) := fun r => hok.up hT10 r
    have e1 : va_up (rV σ) to T to = T := up_self _ _ _
    have e2 : va_up (rV σ) to T (8 + μ) = rMod μ := by rw [up_ne _ _ (Ne.symm hto)]; exact hq
    refine lv_aload_n hx hb d_R_multiply_169 rfl (lv_at hl 0 rfl) ?_
    refine lv_iload_n hx hb d_R_multiply_170 rfl (lv_at hl 1 rfl) ?_
    refine lv_iload hx hb d_R_multiply_171 (lv_at hl 4 rfl) ?_
    refine r_calli (np := 2) (As := [.int (nI (to)), .int (nI (8 + μ))]) (rest := []) ⟨hx, hb, hml, hown, ht⟩ hw (c_R_compare l G _ hok2 h1 (by omega)) ⟨km_R_78, kv_R_compare, kx_R_compare, kc_R_compare⟩ (by decide +kernel) ⟨by decide, by decide⟩ rfl rfl rfl hl.1 rfl (by decide) d_R_multiply_173 ⟨Nat.le_refl _, Nat.le_refl _⟩ (fun r u H locs hp hw => ?_)
    obtain ⟨rfl, hp⟩ := hp
    have ec : r = cmpN T (rMod μ) := by rw [hp]; show cmpN (va_up (rV σ) to T to) (va_up (rV σ) to T (8 + μ)) = _; rw [e1, e2]
    refine lv_if_lt (tgt := 187) hx hb d_R_multiply_176 (by decide) (fun c1 => ?_) (fun c1 => ?_)
    · rw [ec, cmpN_lt] at c1
      refine z_vret (rZ _) hx hb hr hlocks _ hw ⟨P, F, ?_⟩ d_R_multiply_187
      rw [← hTm, Nat.mod_eq_of_lt c1]
    · rw [ec, cmpN_lt] at c1
      refine lv_aload_n hx hb d_R_multiply_179 rfl (lv_at hl 0 rfl) ?_
      refine lv_iload_n hx hb d_R_multiply_180 rfl (lv_at hl 1 rfl) ?_
      refine lv_iload hx hb d_R_multiply_181 (lv_at hl 4 rfl) ?_
      refine lv_iconst (v := -1) hx hb d_R_multiply_183 (by decide) ?_
      refine r_callv (np := 3) (As := [.int (nI (to)), .int (nI (8 + μ)), .int ((-1 : Int32))]) (rest := []) ⟨hx, hb, hml, hown, ht⟩ hw (c_R_addm l G _ hok2 h1 (by omega) (Ne.symm hto) (by show va_up (rV σ) to T (8 + μ) ≤ va_up (rV σ) to T to; rw [e1, e2]; exact Nat.not_lt.mp c1)) ⟨km_R_74, kv_R_add, kx_R_add, kc_R_add⟩ (by decide +kernel) ⟨by decide, by decide⟩ rfl rfl rfl hl.1 rfl (by decide) d_R_multiply_184 ⟨Nat.le_refl _, Nat.le_refl _⟩ (fun u H locs hp hw => ?_)
      refine z_vret (rZ _) hx hb hr hlocks _ hw ⟨P, F, ?_⟩ d_R_multiply_187
      rw [hp]
      show rsP (rsF (rsV σ (va_up (va_up (rV σ) to T) to (va_up (rV σ) to T to - va_up (rV σ) to T (8 + μ)))) F) P = _
      rw [up_up, e1, e2, once_mod hT (rMod_half hμ) (Nat.not_lt.mp c1), hTm]
  have copy : ∀ (P F : Nat → Nat), (∀ j, j < 22 → P j < b26) → ¬ W256 ≤ pw P → pw P % rMod μ = (rV σ a * rV σ b) % rMod μ → ∀ (n k : Nat), k + n = 10 → ∀ (w : Nat) (H : Heap) (locs : List Loc) (ls : Array Slot), w < b26 ^ 10 → w % b26 ^ k = pv P k → rH G (rsP (rsF (rsV σ (va_up (rV σ) to w)) F) P) s H locs → lv_has ls 9 [(0, .ref (rA G 0)), (1, .int (nI (to))), (2, .int (nI (a))), (3, .int (nI (b))), (4, .int (nI (8 + μ))), (5, .int (nI (k)))] → W p l e (headSpec (zW y_R_multiply b_R_multiply 9 none) (zr 2 50)).room s m ([.ref (rA G 0), .int (nI (to)), .int (nI (a)), .int (nI (b)), .int (nI (8 + μ))] : List Value).toArray below meth c H locs 0 0 (MQ below (va_Qv (fun u => ∃ P F, u = rsP (rsF (rsV σ (va_up (rV σ) to ((rV σ a * rV σ b) % rMod μ))) F) P) (fun u => rC G u) (rAA G)) ([.ref (rA G 0), .int (nI (to)), .int (nI (a)), .int (nI (b)), .int (nI (8 + μ))] : List Value).toArray s 0 0 (rAA G)) (F0 m 136 ls []) := by
    intro P F hP hnw hPm n
    induction n with
    | zero =>
      intro k hk w H locs ls hwb hwm hw hl
      have hk : k = 10 := by omega
      subst hk
      refine lv_iload hx hb d_R_multiply_136 (lv_at hl 5 rfl) ?_
      refine lv_bipush (v := nI 10) hx hb d_R_multiply_138 (by decide) ?_
      refine n_ge (tgt := 169) hx hb d_R_multiply_140 (by decide) (by decide) (by decide) (fun _ => ?_) (fun h => absurd h (by omega))
      rw [Nat.mod_eq_of_lt hwb, low10 hP hnw] at hwm
      exact last P F w 10 (by rw [hwm]; exact Nat.lt_of_not_le hnw) (by rw [hwm]; exact hPm) H locs ls hw (lv_sub hl [0, 1, 2, 3, 4] rfl)
    | succ n ih =>
      intro k hk w H locs ls hwb hwm hw hl
      refine lv_iload hx hb d_R_multiply_136 (lv_at hl 5 rfl) ?_
      refine lv_bipush (v := nI 10) hx hb d_R_multiply_138 (by decide) ?_
      refine n_ge (tgt := 169) hx hb d_R_multiply_140 (by decide) (by omega) (by decide) (fun h => absurd h (by omega)) (fun _ => ?_)
      refine lv_aload_n hx hb d_R_multiply_143 rfl (lv_at hl 0 rfl) ?_
      refine r_get hx hb ht hown hw 0 (by decide) (ht _ kf_R_7) rfl d_R_multiply_144 (fun _ h9 => h9) ?_
      refine lv_bipush (v := nI 10) hx hb d_R_multiply_147 (by decide) ?_
      refine lv_iload_n hx hb d_R_multiply_149 rfl (lv_at hl 1 rfl) ?_
      refine lv_imul hx hb d_R_multiply_150 ?_
      refine tp_i (y := nI (10 * to)) (pk_mul _ _) ?_
      refine lv_iload hx hb d_R_multiply_151 (lv_at hl 5 rfl) ?_
      refine lv_iadd hx hb d_R_multiply_153 ?_
      refine tp_i (y := nI ((10 * to) + k)) (nI_add _ _) ?_
      refine lv_aload_n hx hb d_R_multiply_154 rfl (lv_at hl 0 rfl) ?_
      refine r_get hx hb ht hown hw 1 (by decide) (ht _ kf_R_13) rfl d_R_multiply_155 (fun _ h9 => h9) ?_
      refine lv_iload hx hb d_R_multiply_158 (lv_at hl 5 rfl) ?_
      refine r_lldP hx hb hw (by omega) d_R_multiply_160 ?_
      refine tp_l (y := lN (P k)) (rfl) ?_
      refine lv_l2i (v := nI (P k)) hx hb d_R_multiply_161 (lN_i _) ?_
      refine r_ist hx hb hw h1 (by omega) (hP k (by omega)) d_R_multiply_162 (fun H locs hw => ?_)
      refine lv_iinc (v := nI (k + 1)) (lv' := [(5, .int (nI (k + 1))), (0, .ref (rA G 0)), (1, .int (nI (to))), (2, .int (nI (a))), (3, .int (nI (b))), (4, .int (nI (8 + μ)))]) hx hb d_R_multiply_163 hl (k := 5) rfl (nI_add k 1) (by decide) rfl (fun ls hl => ?_)
      refine lv_goto (tgt := 136) hx hb d_R_multiply_166 (by decide) ?_
      refine ih (k + 1) (by omega) (ds b26 w k (P k)) H locs ls (ds_lt b26_pos (hP k (by omega)) (by omega) hwb) ?_ ?_ (lv_sub hl [1, 2, 3, 4, 5, 0] rfl)
      · rw [ds_mod b26_pos _ (hP k (by omega)), hwm]; rfl
      · have e2 : va_up (va_up (rV σ) to w) to (ds b26 (va_up (rV σ) to w to) k (P k)) = va_up (rV σ) to (ds b26 w k (P k)) := by rw [up_up, up_self]
        rw [← e2]
        exact hw
  have wide : ∀ (T : Nat) (P F : Nat → Nat) (k : Nat), pw P = T → (∀ j, j < 22 → P j < b26) → T < W256 * B12 → T % rMod μ = (rV σ a * rV σ b) % rMod μ → ∀ (H : Heap) (locs : List Loc) (ls : Array Slot), rH G (rsP (rsF σ F) P) s H locs → lv_has ls 9 [(0, .ref (rA G 0)), (1, .int (nI (to))), (2, .int (nI (a))), (3, .int (nI (b))), (4, .int (nI (8 + μ)))] → W p l e (headSpec (zW y_R_multiply b_R_multiply 9 none) (zr 2 50)).room s m ([.ref (rA G 0), .int (nI (to)), .int (nI (a)), .int (nI (b)), .int (nI (8 + μ))] : List Value).toArray below meth c H locs 0 0 (MQ below (va_Qv (fun u => ∃ P F, u = rsP (rsF (rsV σ (va_up (rV σ) to ((rV σ a * rV σ b) % rMod μ))) F) P) (fun u => rC G u) (rAA G)) ([.ref (rA G 0), .int (nI (to)), .int (nI (a)), .int (nI (b)), .int (nI (8 + μ))] : List Value).toArray s 0 0 (rAA G)) (F0 m 111 ls []) := by
    intro T
    induction T using Nat.strongRecOn with
    | ind T ih =>
      intro P F k hPT hP hT hTm H locs ls hw hl
      refine lv_aload_n hx hb d_R_multiply_111 rfl (lv_at hl 0 rfl) ?_
      refine r_calli (np := 0) (As := []) (rest := []) ⟨hx, hb, hml, hown, ht⟩ hw (c_R_isWide l G (rsP (rsF σ F) P) hP) ⟨km_R_89, kv_R_isWide, kx_R_isWide, kc_R_isWide⟩ (by decide +kernel) ⟨by decide, by decide⟩ rfl rfl rfl hl.1 rfl (by decide) d_R_multiply_112 ⟨Nat.le_refl _, Nat.le_refl _⟩ (fun r u H locs hp hw => ?_)
      obtain ⟨rfl, hp⟩ := hp
      subst hp
      refine n_eq0 (tgt := 133) hx hb d_R_multiply_115 (by decide) (Nat.lt_trans (boolN_lt _) (by decide)) (fun c1 => ?_) (fun c1 => ?_)
      · have c2 : ¬ W256 ≤ pw P := fun q => by rw [show boolN (W256 ≤ pw (rP (rsP (rsF σ F) P))) = 1 from boolN_t q] at c1; cases c1
        refine lv_iconst (v := nI 0) hx hb d_R_multiply_133 (by decide) ?_
        refine lv_istore (lv' := [(5, .int (nI (0))), (0, .ref (rA G 0)), (1, .int (nI (to))), (2, .int (nI (a))), (3, .int (nI (b))), (4, .int (nI (8 + μ)))]) hx hb d_R_multiply_134 hl (by decide) rfl (fun ls hl => ?_)
        refine copy P F hP c2 (by rw [hPT]; exact hTm) 10 0 rfl (rV σ to) H locs ls (hok to) (by rw [Nat.pow_zero, Nat.mod_one]; rfl) ?_ (lv_sub hl [1, 2, 3, 4, 5, 0] rfl)
        rw [up_id]
        exact hw
      · have c2 : W256 ≤ pw P := by
          by_cases q : W256 ≤ pw P
          · exact q
          · exact absurd (boolN_f q) c1
        refine lv_aload_n hx hb d_R_multiply_118 rfl (lv_at hl 0 rfl) ?_
        refine lv_bipush (v := nI 10) hx hb d_R_multiply_119 (by decide) ?_
        refine lv_iload hx hb d_R_multiply_121 (lv_at hl 4 rfl) ?_
        refine lv_bipush (v := nI 8) hx hb d_R_multiply_123 (by decide) ?_
        refine lv_isub hx hb d_R_multiply_125 ?_
        refine tp_i (y := nI (μ)) (by rw [pk_sub (by omega)]; congr 1; omega) ?_
        refine lv_imul hx hb d_R_multiply_126 ?_
        refine tp_i (y := nI (10 * μ)) (pk_mul _ _) ?_
        refine r_callv (np := 1) (As := [.int (nI (10 * μ))]) (rest := []) ⟨hx, hb, hml, hown, ht⟩ hw (c_R_fold l G (rsP (rsF σ F) P) hμ hP (by show pw P < _; rw [hPT]; exact hT)) ⟨km_R_93, kv_R_fold, kx_R_fold, kc_R_fold⟩ (by decide +kernel) ⟨by decide, by decide⟩ rfl rfl rfl hl.1 rfl (by decide) d_R_multiply_127 ⟨Nat.le_refl _, Nat.le_refl _⟩ (fun u H locs hp hw => ?_)
        obtain ⟨P2, F2, rfl, hP2, hv2⟩ := hp
        have hv3 : pw P2 = T % W256 + T / W256 * rGap μ := by rw [hv2, ← hPT]
        rw [hPT] at c2
        have hlt : pw P2 < T := by rw [hv3]; exact fold_lt (rGap_eq hμ) (rMod_pos hμ) c2
        refine lv_goto (tgt := 111) hx hb d_R_multiply_130 (by decide) ?_
        exact ih (pw P2) hlt P2 F2 k rfl hP2 (Nat.lt_trans hlt hT) (by rw [hv3, fold_mod (rGap_eq hμ)]; exact hTm) H locs ls hw hl
  have rowsB : ∀ (n i : Nat), i + n = 10 → ∀ (P : Nat → Nat) (H : Heap) (locs : List Loc) (ls : Array Slot), (∀ j, j < 22 → P j < 1 + (10 * i) * 4503599627370496) → pw P = rV σ a % b26 ^ i * rV σ b → rH G (rsP σ P) s H locs → lv_has ls 9 [(0, .ref (rA G 0)), (1, .int (nI (to))), (2, .int (nI (a))), (3, .int (nI (b))), (4, .int (nI (8 + μ))), (5, .int (nI (i)))] → W p l e (headSpec (zW y_R_multiply b_R_multiply 9 none) (zr 2 50)).room s m ([.ref (rA G 0), .int (nI (to)), .int (nI (a)), .int (nI (b)), .int (nI (8 + μ))] : List Value).toArray below meth c H locs 0 0 (MQ below (va_Qv (fun u => ∃ P F, u = rsP (rsF (rsV σ (va_up (rV σ) to ((rV σ a * rV σ b) % rMod μ))) F) P) (fun u => rC G u) (rAA G)) ([.ref (rA G 0), .int (nI (to)), .int (nI (a)), .int (nI (b)), .int (nI (8 + μ))] : List Value).toArray s 0 0 (rAA G)) (F0 m 27 ls []) := by
    intro n
    induction n with
    | zero =>
      intro i hi P H locs ls hPb hPv hw hl
      have hi : i = 10 := by omega
      subst hi
      refine lv_iload hx hb d_R_multiply_27 (lv_at hl 5 rfl) ?_
      refine lv_bipush (v := nI 10) hx hb d_R_multiply_29 (by decide) ?_
      refine n_ge (tgt := 107) hx hb d_R_multiply_31 (by decide) (by decide) (by decide) (fun _ => ?_) (fun h => absurd h (by omega))
      rw [Nat.mod_eq_of_lt (hok a)] at hPv
      have hsm := prod_small (hok a) (hok b)
      refine lv_aload_n hx hb d_R_multiply_107 rfl (lv_at hl 0 rfl) ?_
      refine r_callv (np := 0) (As := []) (rest := []) ⟨hx, hb, hml, hown, ht⟩ hw (c_R_carry l G (rsP σ P) (fun j hj => Nat.lt_of_lt_of_le (hPb j hj) (by decide)) (by show pw P < _; rw [hPv]; exact hsm.2)) ⟨km_R_86, kv_R_carry, kx_R_carry, kc_R_carry⟩ (by decide +kernel) ⟨by decide, by decide⟩ rfl rfl rfl hl.1 rfl (by decide) d_R_multiply_108 ⟨Nat.le_refl _, Nat.le_refl _⟩ (fun u H locs hp hw => ?_)
      obtain ⟨P2, rfl, hP2, hv2⟩ := hp
      have hv3 : pw P2 = rV σ a * rV σ b := by rw [hv2]; exact hPv
      exact wide _ P2 (rF σ) 0 hv3 hP2 hsm.1 rfl H locs ls hw (lv_sub hl [0, 1, 2, 3, 4] rfl)
    | succ n ih =>
      intro i hi P H locs ls hPb hPv hw hl
      refine lv_iload hx hb d_R_multiply_27 (lv_at hl 5 rfl) ?_
      refine lv_bipush (v := nI 10) hx hb d_R_multiply_29 (by decide) ?_
      refine n_ge (tgt := 107) hx hb d_R_multiply_31 (by decide) (by omega) (by decide) (fun h => absurd h (by omega)) (fun _ => ?_)
      have hxa : dg b26 (rV σ a) i < 67108864 := dg_lt b26_pos _ _
      refine lv_aload_n hx hb d_R_multiply_34 rfl (lv_at hl 0 rfl) ?_
      refine r_get hx hb ht hown hw 0 (by decide) (ht _ kf_R_7) rfl d_R_multiply_35 (fun _ h9 => h9) ?_
      refine lv_bipush (v := nI 10) hx hb d_R_multiply_38 (by decide) ?_
      refine lv_iload_n hx hb d_R_multiply_40 rfl (lv_at hl 2 rfl) ?_
      refine lv_imul hx hb d_R_multiply_41 ?_
      refine tp_i (y := nI (10 * a)) (pk_mul _ _) ?_
      refine lv_iload hx hb d_R_multiply_42 (lv_at hl 5 rfl) ?_
      refine lv_iadd hx hb d_R_multiply_44 ?_
      refine tp_i (y := nI ((10 * a) + i)) (nI_add _ _) ?_
      refine r_ild' hx hb hw h2 (by omega) d_R_multiply_45 ?_
      refine tp_i (y := nI (dg b26 (rV σ a) i)) (rfl) ?_
      refine lv_i2l (v := lN (dg b26 (rV σ a) i)) hx hb d_R_multiply_46 (nI_l (by omega)) ?_
      refine lv_lstore (lv' := [(6, .long (lN (dg b26 (rV σ a) i))), (0, .ref (rA G 0)), (1, .int (nI (to))), (2, .int (nI (a))), (3, .int (nI (b))), (4, .int (nI (8 + μ))), (5, .int (nI (i)))]) hx hb d_R_multiply_47 hl (by decide) rfl (fun ls hl => ?_)
      refine lv_iconst (v := nI 0) hx hb d_R_multiply_49 (by decide) ?_
      refine lv_istore (lv' := [(8, .int (nI (0))), (6, .long (lN (dg b26 (rV σ a) i))), (0, .ref (rA G 0)), (1, .int (nI (to))), (2, .int (nI (a))), (3, .int (nI (b))), (4, .int (nI (8 + μ))), (5, .int (nI (i)))]) hx hb d_R_multiply_50 hl (by decide) rfl (fun ls hl => ?_)
      have leave : ∀ (j : Nat), j ≤ 10 → ∀ (P2 : Nat → Nat) (H : Heap) (locs : List Loc) (ls : Array Slot), (∀ q, q < 22 → P2 q < 1 + (10 * i + 10) * 4503599627370496) → pw P2 = pw P + dg b26 (rV σ a) i * b26 ^ i * rV σ b → rH G (rsP σ P2) s H locs → lv_has ls 9 [(0, .ref (rA G 0)), (1, .int (nI (to))), (2, .int (nI (a))), (3, .int (nI (b))), (4, .int (nI (8 + μ))), (5, .int (nI (i))), (6, .long (lN (dg b26 (rV σ a) i))), (8, .int (nI (j)))] → W p l e (headSpec (zW y_R_multiply b_R_multiply 9 none) (zr 2 50)).room s m ([.ref (rA G 0), .int (nI (to)), .int (nI (a)), .int (nI (b)), .int (nI (8 + μ))] : List Value).toArray below meth c H locs 0 0 (MQ below (va_Qv (fun u => ∃ P F, u = rsP (rsF (rsV σ (va_up (rV σ) to ((rV σ a * rV σ b) % rMod μ))) F) P) (fun u => rC G u) (rAA G)) ([.ref (rA G 0), .int (nI (to)), .int (nI (a)), .int (nI (b)), .int (nI (8 + μ))] : List Value).toArray s 0 0 (rAA G)) (F0 m 101 ls []) := by
        intro j hj P2 H locs ls hPb2 hv2 hw hl
        refine lv_iinc (v := nI (i + 1)) (lv' := [(5, .int (nI (i + 1))), (0, .ref (rA G 0)), (1, .int (nI (to))), (2, .int (nI (a))), (3, .int (nI (b))), (4, .int (nI (8 + μ))), (6, .long (lN (dg b26 (rV σ a) i))), (8, .int (nI (j)))]) hx hb d_R_multiply_101 hl (k := 5) rfl (nI_add i 1) (by decide) rfl (fun ls hl => ?_)
        refine lv_goto (tgt := 27) hx hb d_R_multiply_104 (by decide) ?_
        refine ih (i + 1) (by omega) P2 H locs ls hPb2 ?_ hw (lv_sub hl [1, 2, 3, 4, 5, 0] rfl)
        rw [hv2, hPv, dg_mod, Nat.add_mul]
      have inner : ∀ (n j : Nat), j + n = 10 → ∀ (P2 : Nat → Nat) (H : Heap) (locs : List Loc) (ls : Array Slot), (∀ q, q < 22 → P2 q < 1 + (10 * i + j) * 4503599627370496) → pw P2 = pw P + dg b26 (rV σ a) i * b26 ^ i * (rV σ b % b26 ^ j) → rH G (rsP σ P2) s H locs → lv_has ls 9 [(0, .ref (rA G 0)), (1, .int (nI (to))), (2, .int (nI (a))), (3, .int (nI (b))), (4, .int (nI (8 + μ))), (5, .int (nI (i))), (6, .long (lN (dg b26 (rV σ a) i))), (8, .int (nI (j)))] → W p l e (headSpec (zW y_R_multiply b_R_multiply 9 none) (zr 2 50)).room s m ([.ref (rA G 0), .int (nI (to)), .int (nI (a)), .int (nI (b)), .int (nI (8 + μ))] : List Value).toArray below meth c H locs 0 0 (MQ below (va_Qv (fun u => ∃ P F, u = rsP (rsF (rsV σ (va_up (rV σ) to ((rV σ a * rV σ b) % rMod μ))) F) P) (fun u => rC G u) (rAA G)) ([.ref (rA G 0), .int (nI (to)), .int (nI (a)), .int (nI (b)), .int (nI (8 + μ))] : List Value).toArray s 0 0 (rAA G)) (F0 m 52 ls []) := by
        intro n
        induction n with
        | zero =>
          intro j hj P2 H locs ls hPb2 hv2 hw hl
          have hj : j = 10 := by omega
          subst hj
          refine lv_iload hx hb d_R_multiply_52 (lv_at hl 7 rfl) ?_
          refine lv_bipush (v := nI 10) hx hb d_R_multiply_54 (by decide) ?_
          refine n_ge (tgt := 101) hx hb d_R_multiply_56 (by decide) (by decide) (by decide) (fun _ => ?_) (fun h => absurd h (by omega))
          rw [Nat.mod_eq_of_lt (hok b)] at hv2
          exact leave 10 (Nat.le_refl _) P2 H locs ls hPb2 hv2 hw hl
        | succ n ih2 =>
          intro j hj P2 H locs ls hPb2 hv2 hw hl
          refine lv_iload hx hb d_R_multiply_52 (lv_at hl 7 rfl) ?_
          refine lv_bipush (v := nI 10) hx hb d_R_multiply_54 (by decide) ?_
          refine n_ge (tgt := 101) hx hb d_R_multiply_56 (by decide) (by omega) (by decide) (fun h => absurd h (by omega)) (fun _ => ?_)
          refine lv_lload hx hb d_R_multiply_59 (lv_at hl 6 rfl) ?_
          refine lv_lconst (v := lN 0) hx hb d_R_multiply_61 (by decide) ?_
          refine W.lcmp hx hb d_R_multiply_62 ?_
          refine lv_if_le (tgt := 101) hx hb d_R_multiply_63 (by decide) (fun c2 => ?_) (fun c2 => ?_)
          · rw [lcmp_le (Nat.lt_trans hxa (by decide)) (by decide)] at c2
            have h0 : dg b26 (rV σ a) i = 0 := Nat.le_zero.mp c2
            refine leave j (by omega) P2 H locs ls (fun q hq => bnd_mono (hPb2 q hq) (by omega)) ?_ hw hl
            rw [hv2, h0, Nat.zero_mul, Nat.zero_mul, Nat.zero_mul]
          · have hxb : dg b26 (rV σ b) j < 67108864 := dg_lt b26_pos _ _
            have hPk := hPb2 (i + j) (by omega)
            refine lv_aload_n hx hb d_R_multiply_66 rfl (lv_at hl 0 rfl) ?_
            refine r_get hx hb ht hown hw 1 (by decide) (ht _ kf_R_13) rfl d_R_multiply_67 (fun _ h9 => h9) ?_
            refine lv_iload hx hb d_R_multiply_70 (lv_at hl 5 rfl) ?_
            refine lv_iload hx hb d_R_multiply_72 (lv_at hl 7 rfl) ?_
            refine lv_iadd hx hb d_R_multiply_74 ?_
            refine tp_i (y := nI (i + j)) (nI_add _ _) ?_
            refine lv_dup2_11 hx hb d_R_multiply_75 rfl rfl ?_
            refine r_lldP hx hb hw (by omega) d_R_multiply_76 ?_
            refine tp_l (y := lN (P2 (i + j))) (rfl) ?_
            refine lv_lload hx hb d_R_multiply_77 (lv_at hl 6 rfl) ?_
            refine lv_aload_n hx hb d_R_multiply_79 rfl (lv_at hl 0 rfl) ?_
            refine r_get hx hb ht hown hw 0 (by decide) (ht _ kf_R_7) rfl d_R_multiply_80 (fun _ h9 => h9) ?_
            refine lv_bipush (v := nI 10) hx hb d_R_multiply_83 (by decide) ?_
            refine lv_iload_n hx hb d_R_multiply_85 rfl (lv_at hl 3 rfl) ?_
            refine lv_imul hx hb d_R_multiply_86 ?_
            refine tp_i (y := nI (10 * b)) (pk_mul _ _) ?_
            refine lv_iload hx hb d_R_multiply_87 (lv_at hl 7 rfl) ?_
            refine lv_iadd hx hb d_R_multiply_89 ?_
            refine tp_i (y := nI ((10 * b) + j)) (nI_add _ _) ?_
            refine r_ild' hx hb hw h3 (by omega) d_R_multiply_90 ?_
            refine tp_i (y := nI (dg b26 (rV σ b) j)) (rfl) ?_
            refine lv_i2l (v := lN (dg b26 (rV σ b) j)) hx hb d_R_multiply_91 (nI_l (by omega)) ?_
            refine lv_lmul hx hb d_R_multiply_92 ?_
            refine tp_l (y := lN ((dg b26 (rV σ a) i) * (dg b26 (rV σ b) j))) (lN_mul _ _) ?_
            refine lv_ladd hx hb d_R_multiply_93 ?_
            refine tp_l (y := lN ((P2 (i + j)) + ((dg b26 (rV σ a) i) * (dg b26 (rV σ b) j)))) (lN_add _ _) ?_
            refine r_lstP hx hb hw (by omega) d_R_multiply_94 (fun H locs hw => ?_)
            refine lv_iinc (v := nI (j + 1)) (lv' := [(8, .int (nI (j + 1))), (0, .ref (rA G 0)), (1, .int (nI (to))), (2, .int (nI (a))), (3, .int (nI (b))), (4, .int (nI (8 + μ))), (5, .int (nI (i))), (6, .long (lN (dg b26 (rV σ a) i)))]) hx hb d_R_multiply_95 hl (k := 7) rfl (nI_add j 1) (by decide) rfl (fun ls hl => ?_)
            refine lv_goto (tgt := 52) hx hb d_R_multiply_98 (by decide) ?_
            have hmul : dg b26 (rV σ a) i * dg b26 (rV σ b) j ≤ 67108864 * 67108864 := Nat.mul_le_mul (Nat.le_of_lt hxa) (Nat.le_of_lt hxb)
            refine ih2 (j + 1) (by omega) (va_up P2 (i + j) (P2 (i + j) + dg b26 (rV σ a) i * dg b26 (rV σ b) j)) H locs ls (fun q hq => ?_) ?_ hw (lv_sub hl [1, 2, 3, 4, 5, 6, 7, 0] rfl)
            · by_cases e : q = i + j
              · rw [e, up_self]; clear hPv hv2 hPb2; omega
              · rw [up_ne _ _ e]; exact bnd_mono (hPb2 q hq) (by omega)
            · have e1 : pw (va_up P2 (i + j) (P2 (i + j) + dg b26 (rV σ a) i * dg b26 (rV σ b) j)) = pw P2 + dg b26 (rV σ a) i * dg b26 (rV σ b) j * b26 ^ (i + j) := pv_inc P2 _ 22 (by omega)
              rw [e1, hv2, dg_mod b26 (rV σ b) j, Nat.mul_add, Nat.pow_add, Nat.add_assoc]
              congr 2
              grind
      refine inner 10 0 rfl P H locs ls hPb (by rw [Nat.pow_zero, Nat.mod_one, Nat.mul_zero, Nat.add_zero]) hw (lv_sub hl [2, 3, 4, 5, 6, 7, 1, 0] rfl)
  refine lv_iconst (v := nI 0) hx hb d_R_multiply_0 (by decide) ?_
  refine lv_istore (lv' := [(5, .int (nI (0))), (0, .ref (rA G 0)), (1, .int (nI (to))), (2, .int (nI (a))), (3, .int (nI (b))), (4, .int (nI (8 + μ)))]) hx hb d_R_multiply_1 hl (by decide) rfl (fun ls hl => ?_)
  have zero : ∀ (n k : Nat), k + n = 22 → ∀ (P : Nat → Nat) (H : Heap) (locs : List Loc) (ls : Array Slot), (∀ j, j < k → P j = 0) → rH G (rsP σ P) s H locs → lv_has ls 9 [(0, .ref (rA G 0)), (1, .int (nI (to))), (2, .int (nI (a))), (3, .int (nI (b))), (4, .int (nI (8 + μ))), (5, .int (nI (k)))] → W p l e (headSpec (zW y_R_multiply b_R_multiply 9 none) (zr 2 50)).room s m ([.ref (rA G 0), .int (nI (to)), .int (nI (a)), .int (nI (b)), .int (nI (8 + μ))] : List Value).toArray below meth c H locs 0 0 (MQ below (va_Qv (fun u => ∃ P F, u = rsP (rsF (rsV σ (va_up (rV σ) to ((rV σ a * rV σ b) % rMod μ))) F) P) (fun u => rC G u) (rAA G)) ([.ref (rA G 0), .int (nI (to)), .int (nI (a)), .int (nI (b)), .int (nI (8 + μ))] : List Value).toArray s 0 0 (rAA G)) (F0 m 3 ls []) := by
    intro n
    induction n with
    | zero =>
      intro k hk P H locs ls hP hw hl
      have hk : k = 22 := by omega
      subst hk
      refine lv_iload hx hb d_R_multiply_3 (lv_at hl 5 rfl) ?_
      refine lv_bipush (v := nI 22) hx hb d_R_multiply_5 (by decide) ?_
      refine n_ge (tgt := 24) hx hb d_R_multiply_7 (by decide) (by decide) (by decide) (fun _ => ?_) (fun h => absurd h (by omega))
      refine lv_iconst (v := nI 0) hx hb d_R_multiply_24 (by decide) ?_
      refine lv_istore (lv' := [(5, .int (nI (0))), (0, .ref (rA G 0)), (1, .int (nI (to))), (2, .int (nI (a))), (3, .int (nI (b))), (4, .int (nI (8 + μ)))]) hx hb d_R_multiply_25 hl (by decide) rfl (fun ls hl => ?_)
      refine rowsB 10 0 rfl P H locs ls (fun j hj => by rw [hP j hj]; decide) ?_ hw (lv_sub hl [1, 2, 3, 4, 5, 0] rfl)
      have e1 : pw P = pw (fun _ => 0) := pv_congr 22 hP
      rw [e1, Nat.pow_zero, Nat.mod_one, Nat.zero_mul]
      decide
    | succ n ih =>
      intro k hk P H locs ls hP hw hl
      refine lv_iload hx hb d_R_multiply_3 (lv_at hl 5 rfl) ?_
      refine lv_bipush (v := nI 22) hx hb d_R_multiply_5 (by decide) ?_
      refine n_ge (tgt := 24) hx hb d_R_multiply_7 (by decide) (by omega) (by decide) (fun h => absurd h (by omega)) (fun _ => ?_)
      refine lv_aload_n hx hb d_R_multiply_10 rfl (lv_at hl 0 rfl) ?_
      refine r_get hx hb ht hown hw 1 (by decide) (ht _ kf_R_13) rfl d_R_multiply_11 (fun _ h9 => h9) ?_
      refine lv_iload hx hb d_R_multiply_14 (lv_at hl 5 rfl) ?_
      refine lv_lconst (v := lN 0) hx hb d_R_multiply_16 (by decide) ?_
      refine r_lstP hx hb hw (by omega) d_R_multiply_17 (fun H locs hw => ?_)
      refine lv_iinc (v := nI (k + 1)) (lv' := [(5, .int (nI (k + 1))), (0, .ref (rA G 0)), (1, .int (nI (to))), (2, .int (nI (a))), (3, .int (nI (b))), (4, .int (nI (8 + μ)))]) hx hb d_R_multiply_18 hl (k := 5) rfl (nI_add k 1) (by decide) rfl (fun ls hl => ?_)
      refine lv_goto (tgt := 3) hx hb d_R_multiply_21 (by decide) ?_
      refine ih (k + 1) (by omega) (va_up P k 0) H locs ls (fun j hj => ?_) hw (lv_sub hl [1, 2, 3, 4, 5, 0] rfl)
      by_cases e : j = k
      · rw [e, up_self]
      · rw [up_ne _ _ e]; exact hP j (by omega)
  exact zero 22 0 rfl (rP σ) _ _ ls (fun j hj => absurd hj (by omega)) hw (lv_sub hl [1, 2, 3, 4, 5, 0] rfl)
end
section
/-! bits, powers, quotients of the reference -/
theorem sh_c : ∀ t, t < 32 → ((nI t &&& 31).toBitVec.smod 32).toNat = t := by decide +kernel
theorem shrt {n t : Nat} (hn : n < 2 ^ 31) (ht : t < 32) : nI n >>> (nI t &&& 31) = nI (n / 2 ^ t) := pk_shrN hn _ t (sh_c t ht)
theorem and1 {n : Nat} (h : n < 2 ^ 32) : nI n &&& nI 1 = nI (n % 2) := pk_andN h 1 (by decide)
theorem bit_dg (v k : Nat) : dg b26 v (k / 26) / 2 ^ (k % 26) % 2 = v / 2 ^ k % 2 := by
  unfold dg
  have e : (2 : Nat) ^ k = b26 ^ (k / 26) * 2 ^ (k % 26) := by
    rw [show b26 = 2 ^ 26 by decide, ← Nat.pow_mul, ← Nat.pow_add]
    congr 1
    omega
  rw [e, ← Nat.div_div_eq_div_mul]
  generalize v / b26 ^ (k / 26) = z
  have ht : k % 26 < 26 := Nat.mod_lt _ (by decide)
  generalize k % 26 = t at ht ⊢
  have e2 : b26 = 2 ^ t * (2 * 2 ^ (25 - t)) := by
    rw [← Nat.pow_succ', ← Nat.pow_add, show b26 = 2 ^ 26 by decide]
    congr 1
    omega
  rw [e2, Nat.mod_mul_right_div_self, Nat.mod_mul_right_mod]
def iv : Nat → Int32
  | 0 => -1
  | n + 1 => nI n
theorem iv_dec (n : Nat) : nI n + Int32.ofInt (-1) = iv n := by
  cases n with
  | zero => decide
  | succ n => exact pk_m1 n
/-- σ with other rows, and any long rows -/
def rU (σ : rS) (V : Nat → Nat) (u : rS) : Prop := ∃ P F, u = rsP (rsF (rsV σ V) F) P
theorem rU.V {σ u : rS} {V : Nat → Nat} (h : rU σ V u) : rV u = V := by
  obtain ⟨P, F, rfl⟩ := h
  rfl
theorem rU.trans {σ u v : rS} {V W : Nat → Nat} (h : rU σ V u) (h2 : rU u W v) : rU σ W v := by
  obtain ⟨P, F, rfl⟩ := h
  obtain ⟨P2, F2, rfl⟩ := h2
  exact ⟨P2, F2, rfl⟩
theorem rU.rfl' (σ : rS) : rU σ (rV σ) σ := ⟨rP σ, rF σ, rfl⟩
theorem rU.of {σ u : rS} {V : Nat → Nat} (h : u = rsV σ V) : rU σ V u := ⟨rP σ, rF σ, h⟩
theorem rU.ok {σ u : rS} {V : Nat → Nat} (h : rU σ V u) (hV : ∀ r, V r < b26 ^ 10) : rOk u := by
  intro r
  rw [h.V]
  exact hV r
theorem up_lt {V : Nat → Nat} {B : Nat} (h : ∀ r, V r < B) {k x : Nat} (hx : x < B) : ∀ r, va_up V k x r < B := by
  intro r
  unfold va_up
  split
  · exact hx
  · exact h r
theorem rMod_lt {μ : Nat} (h : μ < 2) : rMod μ < W256 := by
  rcases (show μ = 0 ∨ μ = 1 by omega) with rfl | rfl <;> decide +kernel
theorem rMod_one {μ : Nat} (h : μ < 2) : 1 < rMod μ := by
  have h1 := rMod_half h
  have h2 : 2 < W256 := by decide
  omega
theorem mod_ok {μ x : Nat} (h : μ < 2) : x % rMod μ < b26 ^ 10 := Nat.lt_of_lt_of_le (Nat.lt_trans (Nat.mod_lt _ (rMod_pos h)) (rMod_lt h)) W256_10
theorem pow_bit (E k : Nat) : E / 2 ^ k = 2 * (E / 2 ^ (k + 1)) + E / 2 ^ k % 2 := by
  rw [Nat.pow_succ, ← Nat.div_div_eq_div_mul]
  omega
theorem pow_step0 {A E k M x : Nat} (hx : x = A ^ (E / 2 ^ (k + 1)) % M) (hb : ¬ E / 2 ^ k % 2 = 1) : x * x % M = A ^ (E / 2 ^ k) % M := by
  have e := pow_bit E k
  rw [show E / 2 ^ k % 2 = 0 by omega, Nat.add_zero] at e
  rw [hx, ← Nat.mul_mod, ← Nat.pow_add, ← Nat.two_mul, ← e]
theorem pow_step1 {A E k M x : Nat} (hx : x = A ^ (E / 2 ^ (k + 1)) % M) (hb : E / 2 ^ k % 2 = 1) : x * x % M * A % M = A ^ (E / 2 ^ k) % M := by
  have e := pow_bit E k
  rw [hb] at e
  rw [hx, ← Nat.mul_mod, ← Nat.pow_add, ← Nat.two_mul, Nat.mod_mul_mod, ← Nat.pow_succ, Nat.succ_eq_add_one, ← e]
set_option maxHeartbeats 4000000 in
set_option maxRecDepth 100000 in
theorem c_R_bit (l : Launch) (G : rG) (σ : rS) {a k : Nat} (h1 : a < 48) (h2 : k < 260) : Met l y_R_bit (zW y_R_bit b_R_bit 3 (some .boolean)) (zr 0 0) (va_Pc [.ref (rA G 0), .int (nI (a)), .int (nI (k))] (rC G σ)) (va_Qi (fun r u => u = σ ∧ r = nI (boolN (rV σ a / 2 ^ k % 2 = 1))) (fun u => rC G u) (rAA G)) 0 0 (rAA G) := by
  refine Met.ofW (cc := b_R_bit) (maxL := 3) (ret := (some .boolean)) (by decide) rfl ?_
  intro p e s m args below meth c s₁ B hml hv
  obtain ⟨rfl, hw⟩ := hv
  have hx := B.exec
  have hb := B.bytes
  have hr := B.returns
  have hts := atoms_spec (ws := zW y_R_bit b_R_bit 3 (some .boolean)) B.pre
  have ht : ∀ w ∈ zT, w.before ([.ref (rA G 0), .int (nI (a)), .int (nI (k))] : List Value).toArray s = true := fun w h => hts w (List.mem_cons_of_mem _ h)
  have hown : s.vm.findClass R_R = some m.cls := findClass_of_methodNamed B.named
  have hlocks := B.notSynchronized
  have hl := lv_entry ([.ref (rA G 0), .int (nI (a)), .int (nI (k))]) (n := 3) (Nat.le_of_ble_eq_true rfl)
  rw [lg_entry_eq]
  generalize (lg_sl ([.ref (rA G 0), .int (nI (a)), .int (nI (k))]) ++ List.replicate (3 - (lg_sl ([.ref (rA G 0), .int (nI (a)), .int (nI (k))])).length) Slot.unset).toArray = ls at hl ⊢
  have hl : lv_has ls 3 [(0, .ref (rA G 0)), (1, .int (nI (a))), (2, .int (nI (k)))] := hl
  refine lv_aload_n hx hb d_R_bit_0 rfl (lv_at hl 0 rfl) ?_
  refine r_get hx hb ht hown hw 0 (by decide) (ht _ kf_R_7) rfl d_R_bit_1 (fun _ h9 => h9) ?_
  refine lv_bipush (v := nI 10) hx hb d_R_bit_4 (by decide) ?_
  refine lv_iload_n hx hb d_R_bit_6 rfl (lv_at hl 1 rfl) ?_
  refine lv_imul hx hb d_R_bit_7 ?_
  refine tp_i (y := nI (10 * a)) (pk_mul _ _) ?_
  refine lv_iload_n hx hb d_R_bit_8 rfl (lv_at hl 2 rfl) ?_
  refine lv_bipush (v := nI 26) hx hb d_R_bit_9 (by decide) ?_
  refine lv_idiv hx hb d_R_bit_11 (by decide) ?_
  refine tp_i (y := nI (k / 26)) (pk_div (by omega) (by decide) (by decide)) ?_
  refine lv_iadd hx hb d_R_bit_12 ?_
  refine tp_i (y := nI ((10 * a) + (k / 26))) (nI_add _ _) ?_
  refine r_ild' hx hb hw h1 (by omega) d_R_bit_13 ?_
  refine tp_i (y := nI (dg b26 (rV σ a) (k / 26))) (rfl) ?_
  refine lv_iload_n hx hb d_R_bit_14 rfl (lv_at hl 2 rfl) ?_
  refine lv_bipush (v := nI 26) hx hb d_R_bit_15 (by decide) ?_
  refine lv_irem hx hb d_R_bit_17 (by decide) ?_
  refine tp_i (y := nI (k % 26)) (pk_rem (by omega) (by decide) (by decide)) ?_
  refine lv_ishr hx hb d_R_bit_18 ?_
  refine tp_i (y := nI (dg b26 (rV σ a) (k / 26) / 2 ^ (k % 26))) (shrt (dg_small _ _) (by omega)) ?_
  have hs : dg b26 (rV σ a) (k / 26) / 2 ^ (k % 26) < 2 ^ 31 := Nat.lt_of_le_of_lt (Nat.div_le_self _ _) (dg_small _ _)
  refine lv_iconst (v := nI 1) hx hb d_R_bit_19 (by decide) ?_
  refine lv_iand hx hb d_R_bit_20 ?_
  refine tp_i (y := nI (dg b26 (rV σ a) (k / 26) / 2 ^ (k % 26) % 2)) (and1 (Nat.lt_trans hs (by decide))) ?_
  refine tp_i (y := nI (rV σ a / 2 ^ k % 2)) (congrArg nI (bit_dg _ _)) ?_
  refine lv_iconst (v := nI 1) hx hb d_R_bit_21 (by decide) ?_
  have hb2 : rV σ a / 2 ^ k % 2 < 2 := Nat.mod_lt _ (by decide)
  refine n_ne (tgt := 29) hx hb d_R_bit_22 (by decide) (by omega) (by decide) (fun c1 => ?_) (fun c1 => ?_)
  · refine lv_iconst (v := nI 0) hx hb d_R_bit_29 (by decide) ?_
    exact z_zret (rZ _) hx hb hr hlocks (nar_b (by decide)) σ hw ⟨rfl, by rw [boolN_f c1]⟩ d_R_bit_30
  · refine lv_iconst (v := nI 1) hx hb d_R_bit_25 (by decide) ?_
    refine lv_goto (tgt := 30) hx hb d_R_bit_26 (by decide) ?_
    exact z_zret (rZ _) hx hb hr hlocks (nar_b (by decide)) σ hw ⟨rfl, by rw [boolN_t c1]⟩ d_R_bit_30
set_option maxHeartbeats 4000000 in
set_option maxRecDepth 100000 in
theorem c_R_isOdd (l : Launch) (G : rG) (σ : rS) {a : Nat} (h1 : a < 48) : Met l y_R_isOdd (zW y_R_isOdd b_R_isOdd 2 (some .boolean)) (zr 0 0) (va_Pc [.ref (rA G 0), .int (nI (a))] (rC G σ)) (va_Qi (fun r u => u = σ ∧ r = nI (boolN (rV σ a % 2 = 1))) (fun u => rC G u) (rAA G)) 0 0 (rAA G) := by
  refine Met.ofW (cc := b_R_isOdd) (maxL := 2) (ret := (some .boolean)) (by decide) rfl ?_
  intro p e s m args below meth c s₁ B hml hv
  obtain ⟨rfl, hw⟩ := hv
  have hx := B.exec
  have hb := B.bytes
  have hr := B.returns
  have hts := atoms_spec (ws := zW y_R_isOdd b_R_isOdd 2 (some .boolean)) B.pre
  have ht : ∀ w ∈ zT, w.before ([.ref (rA G 0), .int (nI (a))] : List Value).toArray s = true := fun w h => hts w (List.mem_cons_of_mem _ h)
  have hown : s.vm.findClass R_R = some m.cls := findClass_of_methodNamed B.named
  have hlocks := B.notSynchronized
  have hl := lv_entry ([.ref (rA G 0), .int (nI (a))]) (n := 2) (Nat.le_of_ble_eq_true rfl)
  rw [lg_entry_eq]
  generalize (lg_sl ([.ref (rA G 0), .int (nI (a))]) ++ List.replicate (2 - (lg_sl ([.ref (rA G 0), .int (nI (a))])).length) Slot.unset).toArray = ls at hl ⊢
  have hl : lv_has ls 2 [(0, .ref (rA G 0)), (1, .int (nI (a)))] := hl
  refine lv_aload_n hx hb d_R_isOdd_0 rfl (lv_at hl 0 rfl) ?_
  refine r_get hx hb ht hown hw 0 (by decide) (ht _ kf_R_7) rfl d_R_isOdd_1 (fun _ h9 => h9) ?_
  refine lv_bipush (v := nI 10) hx hb d_R_isOdd_4 (by decide) ?_
  refine lv_iload_n hx hb d_R_isOdd_6 rfl (lv_at hl 1 rfl) ?_
  refine lv_imul hx hb d_R_isOdd_7 ?_
  refine tp_i (y := nI (10 * a)) (pk_mul _ _) ?_
  refine tp_i (y := nI (10 * a + 0)) (by rw [Nat.add_zero]) ?_
  refine r_ild' hx hb hw h1 (by decide) d_R_isOdd_8 ?_
  refine tp_i (y := nI (dg b26 (rV σ a) 0)) (rfl) ?_
  refine lv_iconst (v := nI 2) hx hb d_R_isOdd_9 (by decide) ?_
  refine lv_irem hx hb d_R_isOdd_10 (by decide) ?_
  refine tp_i (y := nI (dg b26 (rV σ a) 0 % 2)) (pk_rem (dg_small _ _) (by decide) (by decide)) ?_
  refine tp_i (y := nI (rV σ a % 2)) (congrArg nI (by have := bit_dg (rV σ a) 0; rw [Nat.pow_zero, Nat.div_one] at this; exact (by simpa using this))) ?_
  refine lv_iconst (v := nI 1) hx hb d_R_isOdd_11 (by decide) ?_
  have hb2 : rV σ a % 2 < 2 := Nat.mod_lt _ (by decide)
  refine n_ne (tgt := 19) hx hb d_R_isOdd_12 (by decide) (by omega) (by decide) (fun c1 => ?_) (fun c1 => ?_)
  · refine lv_iconst (v := nI 0) hx hb d_R_isOdd_19 (by decide) ?_
    exact z_zret (rZ _) hx hb hr hlocks (nar_b (by decide)) σ hw ⟨rfl, by rw [boolN_f c1]⟩ d_R_isOdd_20
  · refine lv_iconst (v := nI 1) hx hb d_R_isOdd_15 (by decide) ?_
    refine lv_goto (tgt := 20) hx hb d_R_isOdd_16 (by decide) ?_
    exact z_zret (rZ _) hx hb hr hlocks (nar_b (by decide)) σ hw ⟨rfl, by rw [boolN_t c1]⟩ d_R_isOdd_20
set_option maxHeartbeats 4000000 in
set_option maxRecDepth 100000 in
theorem c_R_isNone (l : Launch) (G : rG) (σ : rS) (hok : rOk σ) {a : Nat} (h1 : a < 46) : Met l y_R_isNone (zW y_R_isNone b_R_isNone 2 (some .boolean)) (zr 1 23) (va_Pc [.ref (rA G 0), .int (nI (a))] (rC G σ)) (va_Qi (fun r u => u = σ ∧ r = nI (boolN (rV σ (a + 2) = 0))) (fun u => rC G u) (rAA G)) 0 0 (rAA G) := by
  refine Met.ofW (cc := b_R_isNone) (maxL := 2) (ret := (some .boolean)) (by decide) rfl ?_
  intro p e s m args below meth c s₁ B hml hv
  obtain ⟨rfl, hw⟩ := hv
  have hx := B.exec
  have hb := B.bytes
  have hr := B.returns
  have hts := atoms_spec (ws := zW y_R_isNone b_R_isNone 2 (some .boolean)) B.pre
  have ht : ∀ w ∈ zT, w.before ([.ref (rA G 0), .int (nI (a))] : List Value).toArray s = true := fun w h => hts w (List.mem_cons_of_mem _ h)
  have hown : s.vm.findClass R_R = some m.cls := findClass_of_methodNamed B.named
  have hlocks := B.notSynchronized
  have hl := lv_entry ([.ref (rA G 0), .int (nI (a))]) (n := 2) (Nat.le_of_ble_eq_true rfl)
  rw [lg_entry_eq]
  generalize (lg_sl ([.ref (rA G 0), .int (nI (a))]) ++ List.replicate (2 - (lg_sl ([.ref (rA G 0), .int (nI (a))])).length) Slot.unset).toArray = ls at hl ⊢
  have hl : lv_has ls 2 [(0, .ref (rA G 0)), (1, .int (nI (a)))] := hl
  refine lv_aload_n hx hb d_R_isNone_0 rfl (lv_at hl 0 rfl) ?_
  refine lv_iload_n hx hb d_R_isNone_1 rfl (lv_at hl 1 rfl) ?_
  refine lv_iconst (v := nI 2) hx hb d_R_isNone_2 (by decide) ?_
  refine lv_iadd hx hb d_R_isNone_3 ?_
  refine tp_i (y := nI (a + 2)) (nI_add _ _) ?_
  refine r_calli (np := 1) (As := [.int (nI (a + 2))]) (rest := []) ⟨hx, hb, hml, hown, ht⟩ hw (c_R_isNothing l G σ hok (by omega)) ⟨km_R_115, kv_R_isNothing, kx_R_isNothing, kc_R_isNothing⟩ (by decide +kernel) ⟨by decide, by decide⟩ rfl rfl rfl hl.1 rfl (by decide) d_R_isNone_4 ⟨Nat.le_refl _, Nat.le_refl _⟩ (fun r u H locs hp hw => ?_)
  obtain ⟨hpu, rfl⟩ := hp
  rw [hpu] at hw
  exact z_zret (rZ _) hx hb hr hlocks (nar_b (boolN_lt _)) _ hw ⟨rfl, rfl⟩ d_R_isNone_7
set_option maxHeartbeats 4000000 in
set_option maxRecDepth 100000 in
theorem c_R_power (l : Launch) (G : rG) (σ : rS) (hok : rOk σ) {μ to a : Nat} (hμ : μ < 2) (h1 : to < 48) (h2 : a < 48) (ha1 : a ≠ 44) (ha2 : a ≠ 38) (hto : to ≠ 38) (hq : rV σ (8 + μ) = rMod μ) (hone : rV σ 20 = 1) (hE : rV σ 39 < 2 ^ 256) : Met l y_R_power (zW y_R_power b_R_power 5 none) (zr 3 78) (va_Pc [.ref (rA G 0), .int (nI (to)), .int (nI (a)), .int (nI (8 + μ))] (rC G σ)) (va_Qv (fun u => rU σ (va_up (va_up (va_up (rV σ) 44 (rV σ a)) 38 (rV σ a ^ rV σ 39 % rMod μ)) to (rV σ a ^ rV σ 39 % rMod μ)) u) (fun u => rC G u) (rAA G)) 0 0 (rAA G) := by
  refine Met.ofW (cc := b_R_power) (maxL := 5) (ret := none) (by decide) rfl ?_
  intro p e s m args below meth c s₁ B hml hv
  obtain ⟨rfl, hw⟩ := hv
  have hx := B.exec
  have hb := B.bytes
  have hr := B.returns
  have hts := atoms_spec (ws := zW y_R_power b_R_power 5 none) B.pre
  have ht : ∀ w ∈ zT, w.before ([.ref (rA G 0), .int (nI (to)), .int (nI (a)), .int (nI (8 + μ))] : List Value).toArray s = true := fun w h => hts w (List.mem_cons_of_mem _ h)
  have hown : s.vm.findClass R_R = some m.cls := findClass_of_methodNamed B.named
  have hlocks := B.notSynchronized
  have hl := lv_entry ([.ref (rA G 0), .int (nI (to)), .int (nI (a)), .int (nI (8 + μ))]) (n := 5) (Nat.le_of_ble_eq_true rfl)
  rw [lg_entry_eq]
  generalize (lg_sl ([.ref (rA G 0), .int (nI (to)), .int (nI (a)), .int (nI (8 + μ))]) ++ List.replicate (5 - (lg_sl ([.ref (rA G 0), .int (nI (to)), .int (nI (a)), .int (nI (8 + μ))])).length) Slot.unset).toArray = ls at hl ⊢
  have hl : lv_has ls 5 [(0, .ref (rA G 0)), (1, .int (nI (to))), (2, .int (nI (a))), (3, .int (nI (8 + μ)))] := hl
  refine lv_aload_n hx hb d_R_power_0 rfl (lv_at hl 0 rfl) ?_
  refine lv_bipush (v := nI 44) hx hb d_R_power_1 (by decide) ?_
  refine lv_iload_n hx hb d_R_power_3 rfl (lv_at hl 2 rfl) ?_
  refine r_callv (np := 2) (As := [.int (nI (44)), .int (nI (a))]) (rest := []) ⟨hx, hb, hml, hown, ht⟩ hw (c_R_copy l G σ hok (by decide) h2 ha1) ⟨km_R_70, kv_R_copy, kx_R_copy, kc_R_copy⟩ (by decide +kernel) ⟨by decide, by decide⟩ rfl rfl rfl hl.1 rfl (by decide) d_R_power_4 ⟨Nat.le_refl _, Nat.le_refl _⟩ (fun u H locs hp hw => ?_)
  subst hp
  have hok1 := hok.up (r := 44) (hok a)
  refine lv_aload_n hx hb d_R_power_7 rfl (lv_at hl 0 rfl) ?_
  refine lv_bipush (v := nI 38) hx hb d_R_power_8 (by decide) ?_
  refine lv_bipush (v := nI 20) hx hb d_R_power_10 (by decide) ?_
  refine r_callv (np := 2) (As := [.int (nI (38)), .int (nI (20))]) (rest := []) ⟨hx, hb, hml, hown, ht⟩ hw (c_R_copy l G _ hok1 (by decide) (by decide) (by decide)) ⟨km_R_70, kv_R_copy, kx_R_copy, kc_R_copy⟩ (by decide +kernel) ⟨by decide, by decide⟩ rfl rfl rfl hl.1 rfl (by decide) d_R_power_12 ⟨Nat.le_refl _, Nat.le_refl _⟩ (fun u H locs hp hw => ?_)
  have hu : rU σ (va_up (va_up (rV σ) 44 (rV σ a)) 38 1) u := rU.of (by rw [hp]; show rsV σ (va_up (va_up (rV σ) 44 (rV σ a)) 38 (va_up (rV σ) 44 (rV σ a) 20)) = _; rw [up_ne _ _ (by decide), hone])
  clear hp
  refine lv_sipush (v := nI 255) hx hb d_R_power_15 (by decide) ?_
  refine tp_i (y := (iv 256)) (rfl) ?_
  refine lv_istore (lv' := [(4, .int (iv 256)), (0, .ref (rA G 0)), (1, .int (nI (to))), (2, .int (nI (a))), (3, .int (nI (8 + μ)))]) hx hb d_R_power_18 hl (by decide) rfl (fun ls hl => ?_)
  have h44 : ∀ x, va_up (va_up (rV σ) 44 (rV σ a)) 38 x 44 = rV σ a := fun x => by rw [up_ne _ _ (by decide), up_self]
  have h38 : ∀ x, va_up (va_up (rV σ) 44 (rV σ a)) 38 x 38 = x := fun x => up_self _ _ _
  have h39 : ∀ x, va_up (va_up (rV σ) 44 (rV σ a)) 38 x 39 = rV σ 39 := fun x => by rw [up_ne _ _ (by decide), up_ne _ _ (by decide)]
  have hqq : ∀ x, va_up (va_up (rV σ) 44 (rV σ a)) 38 x (8 + μ) = rMod μ := fun x => by rw [up_ne _ _ (by omega), up_ne _ _ (by omega)]; exact hq
  have hVok : ∀ x, x < b26 ^ 10 → ∀ r, va_up (va_up (rV σ) 44 (rV σ a)) 38 x r < b26 ^ 10 := fun x hx9 => up_lt (up_lt hok (hok a)) hx9
  have loop : ∀ (n : Nat), n ≤ 256 → ∀ (x : Nat) (u : rS) (H : Heap) (locs : List Loc) (ls : Array Slot), x = rV σ a ^ (rV σ 39 / 2 ^ n) % rMod μ → rU σ (va_up (va_up (rV σ) 44 (rV σ a)) 38 x) u → rH G u s H locs → lv_has ls 5 [(0, .ref (rA G 0)), (1, .int (nI (to))), (2, .int (nI (a))), (3, .int (nI (8 + μ))), (4, .int (iv n))] → W p l e (headSpec (zW y_R_power b_R_power 5 none) (zr 3 78)).room s m ([.ref (rA G 0), .int (nI (to)), .int (nI (a)), .int (nI (8 + μ))] : List Value).toArray below meth c H locs 0 0 (MQ below (va_Qv (fun u => rU σ (va_up (va_up (va_up (rV σ) 44 (rV σ a)) 38 (rV σ a ^ rV σ 39 % rMod μ)) to (rV σ a ^ rV σ 39 % rMod μ)) u) (fun u => rC G u) (rAA G)) ([.ref (rA G 0), .int (nI (to)), .int (nI (a)), .int (nI (8 + μ))] : List Value).toArray s 0 0 (rAA G)) (F0 m 20 ls []) := by
    intro n
    induction n with
    | zero =>
      intro hn x u H locs ls hx9 hu hw hl
      refine lv_iload hx hb d_R_power_20 (lv_at hl 4 rfl) ?_
      have hxb : x < b26 ^ 10 := by rw [hx9]; exact mod_ok hμ
      refine lv_if_lt (tgt := 64) hx hb d_R_power_22 (by decide) (fun _ => ?_) (fun h => absurd (show iv 0 < 0 by decide) h)
      refine lv_aload_n hx hb d_R_power_64 rfl (lv_at hl 0 rfl) ?_
      refine lv_iload_n hx hb d_R_power_65 rfl (lv_at hl 1 rfl) ?_
      refine lv_bipush (v := nI 38) hx hb d_R_power_66 (by decide) ?_
      refine r_callv (np := 2) (As := [.int (nI (to)), .int (nI (38))]) (rest := []) ⟨hx, hb, hml, hown, ht⟩ hw (c_R_copy l G u (hu.ok (hVok x hxb)) h1 (by decide) (Ne.symm hto)) ⟨km_R_70, kv_R_copy, kx_R_copy, kc_R_copy⟩ (by decide +kernel) ⟨by decide, by decide⟩ rfl rfl rfl hl.1 rfl (by decide) d_R_power_68 ⟨Nat.le_refl _, Nat.le_refl _⟩ (fun u2 H locs hp hw => ?_)
      refine z_vret (rZ _) hx hb hr hlocks u2 hw ?_ d_R_power_71
      rw [Nat.pow_zero, Nat.div_one] at hx9
      have h := hu.trans (rU.of hp)
      rw [hu.V, h38, hx9] at h
      exact h
    | succ n ih =>
      intro hn x u H locs ls hx9 hu hw hl
      have hl : lv_has ls 5 [(0, .ref (rA G 0)), (1, .int (nI (to))), (2, .int (nI (a))), (3, .int (nI (8 + μ))), (4, .int (nI (n)))] := hl
      refine lv_iload hx hb d_R_power_20 (lv_at hl 4 rfl) ?_
      have hxb : x < b26 ^ 10 := by rw [hx9]; exact mod_ok hμ
      refine lv_if_lt (tgt := 64) hx hb d_R_power_22 (by decide) (fun h => absurd h (nI_pos (by omega))) (fun _ => ?_)
      refine lv_aload_n hx hb d_R_power_25 rfl (lv_at hl 0 rfl) ?_
      refine lv_bipush (v := nI 38) hx hb d_R_power_26 (by decide) ?_
      refine lv_bipush (v := nI 38) hx hb d_R_power_28 (by decide) ?_
      refine lv_bipush (v := nI 38) hx hb d_R_power_30 (by decide) ?_
      refine lv_iload_n hx hb d_R_power_32 rfl (lv_at hl 3 rfl) ?_
      refine r_callv (np := 4) (As := [.int (nI (38)), .int (nI (38)), .int (nI (38)), .int (nI (8 + μ))]) (rest := []) ⟨hx, hb, hml, hown, ht⟩ hw (c_R_multiply l G u (hu.ok (hVok x hxb)) hμ (by decide) (by decide) (by decide) (by omega) (by rw [hu.V]; exact hqq x)) ⟨km_R_96, kv_R_multiply, kx_R_multiply, kc_R_multiply⟩ (by decide +kernel) ⟨by decide, by decide⟩ rfl rfl rfl hl.1 rfl (by decide) d_R_power_33 ⟨Nat.le_refl _, Nat.le_refl _⟩ (fun u2 H locs hp hw => ?_)
      have hu2 : rU σ (va_up (va_up (rV σ) 44 (rV σ a)) 38 (x * x % rMod μ)) u2 := by
        have h := hu.trans hp
        rw [hu.V, h38, up_up] at h
        exact h
      have hxb2 : x * x % rMod μ < b26 ^ 10 := mod_ok hμ
      refine lv_aload_n hx hb d_R_power_36 rfl (lv_at hl 0 rfl) ?_
      refine lv_bipush (v := nI 39) hx hb d_R_power_37 (by decide) ?_
      refine lv_iload hx hb d_R_power_39 (lv_at hl 4 rfl) ?_
      refine r_calli (np := 2) (As := [.int (nI (39)), .int (nI (n))]) (rest := []) ⟨hx, hb, hml, hown, ht⟩ hw (c_R_bit l G u2 (by decide) (by omega)) ⟨km_R_100, kv_R_bit, kx_R_bit, kc_R_bit⟩ (by decide +kernel) ⟨by decide, by decide⟩ rfl rfl rfl hl.1 rfl (by decide) d_R_power_41 ⟨Nat.le_refl _, Nat.le_refl _⟩ (fun r u3 H locs hp2 hw => ?_)
      obtain ⟨hpu, rfl⟩ := hp2
      rw [hpu] at hw
      rw [show rV u2 39 = rV σ 39 by rw [hu2.V]; exact h39 _]
      refine n_eq0 (tgt := 58) hx hb d_R_power_44 (by decide) (Nat.lt_trans (boolN_lt _) (by decide)) (fun c1 => ?_) (fun c1 => ?_)
      · have c2 : ¬ rV σ 39 / 2 ^ n % 2 = 1 := fun q => by rw [boolN_t q] at c1; cases c1
        refine lv_iinc (v := iv n) (lv' := [(4, .int (iv n)), (0, .ref (rA G 0)), (1, .int (nI (to))), (2, .int (nI (a))), (3, .int (nI (8 + μ)))]) hx hb d_R_power_58 hl (k := 4) rfl (iv_dec n) (by decide) rfl (fun ls hl => ?_)
        refine lv_goto (tgt := 20) hx hb d_R_power_61 (by decide) ?_
        exact ih (by omega) _ u2 H locs ls (pow_step0 hx9 c2) hu2 hw (lv_sub hl [1, 2, 3, 4, 0] rfl)
      · have c2 : rV σ 39 / 2 ^ n % 2 = 1 := by
          by_cases q : rV σ 39 / 2 ^ n % 2 = 1
          · exact q
          · exact absurd (boolN_f q) c1
        refine lv_aload_n hx hb d_R_power_47 rfl (lv_at hl 0 rfl) ?_
        refine lv_bipush (v := nI 38) hx hb d_R_power_48 (by decide) ?_
        refine lv_bipush (v := nI 38) hx hb d_R_power_50 (by decide) ?_
        refine lv_bipush (v := nI 44) hx hb d_R_power_52 (by decide) ?_
        refine lv_iload_n hx hb d_R_power_54 rfl (lv_at hl 3 rfl) ?_
        refine r_callv (np := 4) (As := [.int (nI (38)), .int (nI (38)), .int (nI (44)), .int (nI (8 + μ))]) (rest := []) ⟨hx, hb, hml, hown, ht⟩ hw (c_R_multiply l G u2 (hu2.ok (hVok _ hxb2)) hμ (by decide) (by decide) (by decide) (by omega) (by rw [hu2.V]; exact hqq _)) ⟨km_R_96, kv_R_multiply, kx_R_multiply, kc_R_multiply⟩ (by decide +kernel) ⟨by decide, by decide⟩ rfl rfl rfl hl.1 rfl (by decide) d_R_power_55 ⟨Nat.le_refl _, Nat.le_refl _⟩ (fun u4 H locs hp hw => ?_)
        have hu4 : rU σ (va_up (va_up (rV σ) 44 (rV σ a)) 38 (x * x % rMod μ * rV σ a % rMod μ)) u4 := by
          have h := hu2.trans hp
          rw [hu2.V, h38, h44, up_up] at h
          exact h
        refine lv_iinc (v := iv n) (lv' := [(4, .int (iv n)), (0, .ref (rA G 0)), (1, .int (nI (to))), (2, .int (nI (a))), (3, .int (nI (8 + μ)))]) hx hb d_R_power_58 hl (k := 4) rfl (iv_dec n) (by decide) rfl (fun ls hl => ?_)
        refine lv_goto (tgt := 20) hx hb d_R_power_61 (by decide) ?_
        exact ih (by omega) _ u4 H locs ls (pow_step1 hx9 c2) hu4 hw (lv_sub hl [1, 2, 3, 4, 0] rfl)
  refine loop 256 (Nat.le_refl _) 1 u _ _ ls ?_ hu hw (lv_sub hl [1, 2, 3, 4, 0] rfl)
  rw [Nat.div_eq_of_lt hE, Nat.pow_zero]
  exact (Nat.mod_eq_of_lt (rMod_one hμ)).symm
end
section
/-! runs of calls on the rows -/
def mm (M a b : Nat) : Nat := a * b % M
def pp (M a b : Nat) : Nat := (a + b) % M
def ss (M a b : Nat) : Nat := (a + M - b) % M
theorem mm_lt {M a b : Nat} (h : 0 < M) : mm M a b < M := Nat.mod_lt _ h
theorem pp_lt {M a b : Nat} (h : 0 < M) : pp M a b < M := Nat.mod_lt _ h
theorem ss_lt {M a b : Nat} (h : 0 < M) : ss M a b < M := Nat.mod_lt _ h
theorem rMod_le {μ : Nat} (h : μ < 2) : rMod μ ≤ 2 ^ 256 := Nat.le_of_lt (rMod_lt h)
theorem q_copy {σ u u2 : rS} {V : Nat → Nat} {to fr : Nat} (hu : rU σ V u) (hok : ∀ r, V r < b26 ^ 10) (hp : u2 = rsV u (va_up (rV u) to (rV u fr))) : ∃ V2, rU σ V2 u2 ∧ V2 to = V fr ∧ (∀ r, r ≠ to → V2 r = V r) ∧ ∀ r, V2 r < b26 ^ 10 := by
  refine ⟨va_up V to (V fr), ?_, up_self _ _ _, fun r h => up_ne _ _ h, up_lt hok (hok fr)⟩
  have h := hu.trans (rU.of hp)
  rw [hu.V] at h
  exact h
theorem q_nothing {σ u u2 : rS} {V : Nat → Nat} {to : Nat} (hu : rU σ V u) (hok : ∀ r, V r < b26 ^ 10) (hp : u2 = rsV u (va_up (rV u) to 0)) : ∃ V2, rU σ V2 u2 ∧ V2 to = 0 ∧ (∀ r, r ≠ to → V2 r = V r) ∧ ∀ r, V2 r < b26 ^ 10 := by
  refine ⟨va_up V to 0, ?_, up_self _ _ _, fun r h => up_ne _ _ h, up_lt hok (Nat.pow_pos b26_pos)⟩
  have h := hu.trans (rU.of hp)
  rw [hu.V] at h
  exact h
theorem q_mul {σ u u2 : rS} {V : Nat → Nat} {μ to a b : Nat} (hμ : μ < 2) (hu : rU σ V u) (hok : ∀ r, V r < b26 ^ 10) (hp : ∃ P F, u2 = rsP (rsF (rsV u (va_up (rV u) to ((rV u a * rV u b) % rMod μ))) F) P) : ∃ V2, rU σ V2 u2 ∧ V2 to = mm (rMod μ) (V a) (V b) ∧ (∀ r, r ≠ to → V2 r = V r) ∧ ∀ r, V2 r < b26 ^ 10 := by
  refine ⟨va_up V to (mm (rMod μ) (V a) (V b)), ?_, up_self _ _ _, fun r h => up_ne _ _ h, up_lt hok (mod_ok hμ)⟩
  have h := hu.trans hp
  rw [hu.V] at h
  exact h
theorem q_plus {σ u u2 : rS} {V : Nat → Nat} {to a b q : Nat} (hu : rU σ V u) (hok : ∀ r, V r < b26 ^ 10) (h0 : 0 < V q) (hq : V q ≤ 2 ^ 256) (hp : u2 = rsV u (va_up (va_up (rV u) 37 ((rV u a + rV u b) % rV u q)) to ((rV u a + rV u b) % rV u q))) : ∃ V2, rU σ V2 u2 ∧ V2 to = pp (V q) (V a) (V b) ∧ (∀ r, r ≠ to → r ≠ 37 → V2 r = V r) ∧ ∀ r, V2 r < b26 ^ 10 := by
  have hx : pp (V q) (V a) (V b) < b26 ^ 10 := lt260 (Nat.lt_of_lt_of_le (pp_lt h0) hq)
  refine ⟨va_up (va_up V 37 (pp (V q) (V a) (V b))) to (pp (V q) (V a) (V b)), ?_, up_self _ _ _, fun r h h' => by rw [up_ne _ _ h, up_ne _ _ h'], up_lt (up_lt hok hx) hx⟩
  have h := hu.trans (rU.of hp)
  rw [hu.V] at h
  exact h
theorem q_minus {σ u u2 : rS} {V : Nat → Nat} {to a b q : Nat} (hu : rU σ V u) (hok : ∀ r, V r < b26 ^ 10) (h0 : 0 < V q) (hq : V q ≤ 2 ^ 256) (hp : u2 = rsV u (va_up (va_up (rV u) 37 ((rV u a + rV u q - rV u b) % rV u q)) to ((rV u a + rV u q - rV u b) % rV u q))) : ∃ V2, rU σ V2 u2 ∧ V2 to = ss (V q) (V a) (V b) ∧ (∀ r, r ≠ to → r ≠ 37 → V2 r = V r) ∧ ∀ r, V2 r < b26 ^ 10 := by
  have hx : ss (V q) (V a) (V b) < b26 ^ 10 := lt260 (Nat.lt_of_lt_of_le (ss_lt h0) hq)
  refine ⟨va_up (va_up V 37 (ss (V q) (V a) (V b))) to (ss (V q) (V a) (V b)), ?_, up_self _ _ _, fun r h h' => by rw [up_ne _ _ h, up_ne _ _ h'], up_lt (up_lt hok hx) hx⟩
  have h := hu.trans (rU.of hp)
  rw [hu.V] at h
  exact h
theorem q_power {σ u u2 : rS} {V : Nat → Nat} {μ to a : Nat} (hμ : μ < 2) (hu : rU σ V u) (hok : ∀ r, V r < b26 ^ 10) (hp : rU u (va_up (va_up (va_up (rV u) 44 (rV u a)) 38 (rV u a ^ rV u 39 % rMod μ)) to (rV u a ^ rV u 39 % rMod μ)) u2) : ∃ V2, rU σ V2 u2 ∧ V2 to = V a ^ V 39 % rMod μ ∧ (∀ r, r ≠ to → r ≠ 38 → r ≠ 44 → V2 r = V r) ∧ ∀ r, V2 r < b26 ^ 10 := by
  refine ⟨_, hu.trans hp, ?_, fun r h h' h2 => ?_, ?_⟩
  · rw [hu.V]; exact up_self _ _ _
  · rw [hu.V, up_ne _ _ h, up_ne _ _ h', up_ne _ _ h2]
  · rw [hu.V]; exact up_lt (up_lt (up_lt hok (hok a)) (mod_ok hμ)) (mod_ok hμ)
theorem low2 {μ : Nat} (h : μ < 2) : 2 ≤ dg b26 (rMod μ) 0 := by
  rcases (show μ = 0 ∨ μ = 1 by omega) with rfl | rfl <;> decide +kernel
theorem less2 {μ : Nat} (h : μ < 2) : ds b26 (rMod μ) 0 (dg b26 (rMod μ) 0 - 2) = rMod μ - 2 := by
  rcases (show μ = 0 ∨ μ = 1 by omega) with rfl | rfl <;> decide +kernel
set_option maxHeartbeats 4000000 in
set_option maxRecDepth 100000 in
theorem c_R_divide (l : Launch) (G : rG) (σ : rS) (hok : rOk σ) {μ to a b : Nat} (hμ : μ < 2) (h1 : to < 48) (h2 : a < 48) (h3 : b < 48) (hto : to ≠ 8 + μ) (ha1 : a ≠ 39) (ha2 : a ≠ 45) (hb1 : b < 38 ∨ 46 < b ∨ b = 42) (hq : rV σ (8 + μ) = rMod μ) (hone : rV σ 20 = 1) : Met l y_R_divide (zW y_R_divide b_R_divide 5 none) (zr 4 102) (va_Pc [.ref (rA G 0), .int (nI (to)), .int (nI (a)), .int (nI (b)), .int (nI (8 + μ))] (rC G σ)) (va_Qv (fun u => ∃ V, rU σ V u ∧ V to = mm (rMod μ) (rV σ a) (rV σ b ^ (rMod μ - 2) % rMod μ) ∧ (∀ r, r ≠ to → r ≠ 38 → r ≠ 39 → r ≠ 44 → r ≠ 45 → r ≠ 46 → V r = rV σ r) ∧ ∀ r, V r < b26 ^ 10) (fun u => rC G u) (rAA G)) 0 0 (rAA G) := by
  refine Met.ofW (cc := b_R_divide) (maxL := 5) (ret := none) (by decide) rfl ?_
  intro p e s m args below meth c s₁ B hml hv
  obtain ⟨rfl, hw⟩ := hv
  have hx := B.exec
  have hb := B.bytes
  have hr := B.returns
  have hts := atoms_spec (ws := zW y_R_divide b_R_divide 5 none) B.pre
  have ht : ∀ w ∈ zT, w.before ([.ref (rA G 0), .int (nI (to)), .int (nI (a)), .int (nI (b)), .int (nI (8 + μ))] : List Value).toArray s = true := fun w h => hts w (List.mem_cons_of_mem _ h)
  have hown : s.vm.findClass R_R = some m.cls := findClass_of_methodNamed B.named
  have hlocks := B.notSynchronized
  have hl := lv_entry ([.ref (rA G 0), .int (nI (to)), .int (nI (a)), .int (nI (b)), .int (nI (8 + μ))]) (n := 5) (Nat.le_of_ble_eq_true rfl)
  rw [lg_entry_eq]
  generalize (lg_sl ([.ref (rA G 0), .int (nI (to)), .int (nI (a)), .int (nI (b)), .int (nI (8 + μ))]) ++ List.replicate (5 - (lg_sl ([.ref (rA G 0), .int (nI (to)), .int (nI (a)), .int (nI (b)), .int (nI (8 + μ))])).length) Slot.unset).toArray = ls at hl ⊢
  have hl : lv_has ls 5 [(0, .ref (rA G 0)), (1, .int (nI (to))), (2, .int (nI (a))), (3, .int (nI (b))), (4, .int (nI (8 + μ)))] := hl
  obtain ⟨V0, u0, hV0, hu0, hok0, hw⟩ : ∃ (V : Nat → Nat) (u : rS), V = rV σ ∧ rU σ V u ∧ (∀ r, V r < b26 ^ 10) ∧ rH G u s s.heap [] := ⟨rV σ, σ, rfl, rU.rfl' σ, hok, hw⟩
  have f0_q : V0 (8 + μ) = rMod μ := by rw [hV0]; exact hq
  have f0_a : V0 a = rV σ a := by rw [hV0]
  have f0_b : V0 b = rV σ b := by rw [hV0]
  have f0_one : V0 20 = 1 := by rw [hV0]; exact hone
  refine lv_aload_n hx hb d_R_divide_0 rfl (lv_at hl 0 rfl) ?_
  refine lv_bipush (v := nI 39) hx hb d_R_divide_1 (by decide) ?_
  refine lv_iload hx hb d_R_divide_3 (lv_at hl 4 rfl) ?_
  refine r_callv (np := 2) (As := [.int (nI (39)), .int (nI (8 + μ))]) (rest := []) ⟨hx, hb, hml, hown, ht⟩ hw (c_R_copy l G u0 (hu0.ok hok0) (by decide) (by omega) (by omega)) ⟨km_R_70, kv_R_copy, kx_R_copy, kc_R_copy⟩ (by decide +kernel) ⟨by decide, by decide⟩ rfl rfl rfl hl.1 rfl (by decide) d_R_divide_5 ⟨Nat.le_refl _, Nat.le_refl _⟩ (fun u1 H locs hp hw => ?_)
  obtain ⟨V1, hu1, ht1, hk1, hok1⟩ := q_copy hu0 hok0 hp
  have f1_8_μ : V1 (8 + μ) = rMod μ := (hk1 _ (by omega)).trans f0_q
  have f1_a : V1 (a) = rV σ a := (hk1 _ (by omega)).trans f0_a
  have f1_b : V1 (b) = rV σ b := (hk1 _ (by omega)).trans f0_b
  have f1_20 : V1 (20) = 1 := (hk1 _ (by decide)).trans f0_one
  have f1_39 : V1 (39) = rMod μ := ht1.trans f0_q
  refine lv_aload_n hx hb d_R_divide_8 rfl (lv_at hl 0 rfl) ?_
  refine r_get hx hb ht hown hw 0 (by decide) (ht _ kf_R_7) rfl d_R_divide_9 (fun _ h9 => h9) ?_
  refine lv_sipush (v := nI 390) hx hb d_R_divide_12 (by decide) ?_
  refine lv_dup2_11 hx hb d_R_divide_15 rfl rfl ?_
  refine tp_i (y := nI (10 * 39 + 0)) (rfl) ?_
  refine r_ild' hx hb hw (by decide) (by decide) d_R_divide_16 ?_
  refine tp_i (y := nI (dg b26 (rMod μ) 0)) (congrArg nI (by rw [hu1.V, f1_39])) ?_
  refine lv_iconst (v := nI 2) hx hb d_R_divide_17 (by decide) ?_
  refine lv_isub hx hb d_R_divide_18 ?_
  refine tp_i (y := nI (dg b26 (rMod μ) 0 - 2)) (pk_sub (low2 hμ)) ?_
  have hix : nI 390 = nI (10 * 39 + 0) := rfl
  rw [hix]
  refine r_ist hx hb hw (by decide) (by decide) (show dg b26 (rMod μ) 0 - 2 < b26 from Nat.lt_of_le_of_lt (Nat.sub_le _ _) (dg_lt b26_pos _ _)) d_R_divide_19 (fun H locs hw => ?_)
  obtain ⟨u2, hu2e⟩ : ∃ u2, u2 = rsV u1 (va_up (rV u1) 39 (ds b26 (rV u1 39) 0 (dg b26 (rMod μ) 0 - 2))) := ⟨_, rfl⟩
  rw [← hu2e] at hw
  have e39 : ds b26 (rV u1 39) 0 (dg b26 (rMod μ) 0 - 2) = rMod μ - 2 := by rw [hu1.V, f1_39]; exact less2 hμ
  have hM2 : rMod μ - 2 < b26 ^ 10 := lt260 (Nat.lt_of_le_of_lt (Nat.sub_le _ _) (rMod_lt hμ))
  obtain ⟨V2, hu2, ht2, hk2, hok2⟩ : ∃ V2, rU σ V2 u2 ∧ V2 39 = rMod μ - 2 ∧ (∀ r, r ≠ 39 → V2 r = V1 r) ∧ ∀ r, V2 r < b26 ^ 10 := by
    refine ⟨va_up V1 39 (rMod μ - 2), ?_, up_self _ _ _, fun r h => up_ne _ _ h, up_lt hok1 hM2⟩
    have h := hu1.trans (rU.of hu2e)
    rw [e39, hu1.V] at h
    exact h
  have f2_8_μ : V2 (8 + μ) = rMod μ := (hk2 _ (by omega)).trans f1_8_μ
  have f2_a : V2 (a) = rV σ a := (hk2 _ (by omega)).trans f1_a
  have f2_b : V2 (b) = rV σ b := (hk2 _ (by omega)).trans f1_b
  have f2_20 : V2 (20) = 1 := (hk2 _ (by omega)).trans f1_20
  refine lv_aload_n hx hb d_R_divide_20 rfl (lv_at hl 0 rfl) ?_
  refine lv_bipush (v := nI 45) hx hb d_R_divide_21 (by decide) ?_
  refine lv_iload_n hx hb d_R_divide_23 rfl (lv_at hl 2 rfl) ?_
  refine r_callv (np := 2) (As := [.int (nI (45)), .int (nI (a))]) (rest := []) ⟨hx, hb, hml, hown, ht⟩ hw (c_R_copy l G u2 (hu2.ok hok2) (by decide) (by omega) (by omega)) ⟨km_R_70, kv_R_copy, kx_R_copy, kc_R_copy⟩ (by decide +kernel) ⟨by decide, by decide⟩ rfl rfl rfl hl.1 rfl (by decide) d_R_divide_24 ⟨Nat.le_refl _, Nat.le_refl _⟩ (fun u3 H locs hp hw => ?_)
  obtain ⟨V3, hu3, ht3, hk3, hok3⟩ := q_copy hu2 hok2 hp
  have f3_8_μ : V3 (8 + μ) = rMod μ := (hk3 _ (by omega)).trans f2_8_μ
  have f3_a : V3 (a) = rV σ a := (hk3 _ (by omega)).trans f2_a
  have f3_b : V3 (b) = rV σ b := (hk3 _ (by omega)).trans f2_b
  have f3_20 : V3 (20) = 1 := (hk3 _ (by decide)).trans f2_20
  have f3_39 : V3 (39) = rMod μ - 2 := (hk3 _ (by decide)).trans ht2
  have f3_45 : V3 (45) = rV σ a := ht3.trans f2_a
  refine lv_aload_n hx hb d_R_divide_27 rfl (lv_at hl 0 rfl) ?_
  refine lv_bipush (v := nI 46) hx hb d_R_divide_28 (by decide) ?_
  refine lv_iload_n hx hb d_R_divide_30 rfl (lv_at hl 3 rfl) ?_
  refine lv_iload hx hb d_R_divide_31 (lv_at hl 4 rfl) ?_
  refine r_callv (np := 3) (As := [.int (nI (46)), .int (nI (b)), .int (nI (8 + μ))]) (rest := []) ⟨hx, hb, hml, hown, ht⟩ hw (c_R_power l G u3 (hu3.ok hok3) hμ (by decide) h3 (by omega) (by omega) (by decide) (by rw [hu3.V]; exact f3_8_μ) (by rw [hu3.V]; exact f3_20) (by rw [hu3.V, f3_39]; exact Nat.lt_of_le_of_lt (Nat.sub_le _ _) (rMod_lt hμ))) ⟨km_R_104, kv_R_power, kx_R_power, kc_R_power⟩ (by decide +kernel) ⟨by decide, by decide⟩ rfl rfl rfl hl.1 rfl (by decide) d_R_divide_33 ⟨Nat.le_refl _, Nat.le_refl _⟩ (fun u4 H locs hp hw => ?_)
  obtain ⟨V4, hu4, ht4, hk4, hok4⟩ := q_power hμ hu3 hok3 hp
  have f4_8_μ : V4 (8 + μ) = rMod μ := (hk4 _ (by omega) (by omega) (by omega)).trans f3_8_μ
  have f4_20 : V4 (20) = 1 := (hk4 _ (by omega) (by omega) (by omega)).trans f3_20
  have f4_39 : V4 (39) = rMod μ - 2 := (hk4 _ (by omega) (by omega) (by omega)).trans f3_39
  have f4_45 : V4 (45) = rV σ a := (hk4 _ (by omega) (by omega) (by omega)).trans f3_45
  have f4_46 : V4 46 = rV σ b ^ (rMod μ - 2) % rMod μ := by rw [ht4, f3_b, f3_39]
  refine lv_aload_n hx hb d_R_divide_36 rfl (lv_at hl 0 rfl) ?_
  refine lv_iload_n hx hb d_R_divide_37 rfl (lv_at hl 1 rfl) ?_
  refine lv_bipush (v := nI 45) hx hb d_R_divide_38 (by decide) ?_
  refine lv_bipush (v := nI 46) hx hb d_R_divide_40 (by decide) ?_
  refine lv_iload hx hb d_R_divide_42 (lv_at hl 4 rfl) ?_
  refine r_callv (np := 4) (As := [.int (nI (to)), .int (nI (45)), .int (nI (46)), .int (nI (8 + μ))]) (rest := []) ⟨hx, hb, hml, hown, ht⟩ hw (c_R_multiply l G u4 (hu4.ok hok4) (μ := μ) hμ (by omega) (by decide) (by decide) (by omega) (by rw [hu4.V]; exact f4_8_μ)) ⟨km_R_96, kv_R_multiply, kx_R_multiply, kc_R_multiply⟩ (by decide +kernel) ⟨by decide, by decide⟩ rfl rfl rfl hl.1 rfl (by decide) d_R_divide_44 ⟨Nat.le_refl _, Nat.le_refl _⟩ (fun u5 H locs hp hw => ?_)
  obtain ⟨V5, hu5, ht5, hk5, hok5⟩ := q_mul hμ hu4 hok4 hp
  have f5_to : V5 (to) = mm (rMod μ) (rV σ a) (rV σ b ^ (rMod μ - 2) % rMod μ) := ht5.trans (by simp only [f4_45, f4_46])
  refine z_vret (rZ _) hx hb hr hlocks u5 hw ⟨V5, hu5, f5_to, fun r h h38 h39 h44 h45 h46 => ?_, hok5⟩ d_R_divide_47
  rw [hk5 r h, hk4 r h46 h38 h44, hk3 r h45, hk2 r h39, hk1 r h39, hV0]
set_option maxHeartbeats 4000000 in
set_option maxRecDepth 100000 in
theorem c_R_copyPoint (l : Launch) (G : rG) (σ : rS) (hok : rOk σ) {to q : Nat} (h1 : to < 46) (h2 : q < 46) (hd : q + 2 < to ∨ to + 2 < q) : Met l y_R_copyPoint (zW y_R_copyPoint b_R_copyPoint 3 none) (zr 1 23) (va_Pc [.ref (rA G 0), .int (nI (to)), .int (nI (q))] (rC G σ)) (va_Qv (fun u => ∃ V, rU σ V u ∧ V to = rV σ q ∧ V (to + 1) = rV σ (q + 1) ∧ V (to + 2) = rV σ (q + 2) ∧ (∀ r, r ≠ to → r ≠ to + 1 → r ≠ to + 2 → V r = rV σ r) ∧ ∀ r, V r < b26 ^ 10) (fun u => rC G u) (rAA G)) 0 0 (rAA G) := by
  refine Met.ofW (cc := b_R_copyPoint) (maxL := 3) (ret := none) (by decide) rfl ?_
  intro p e s m args below meth c s₁ B hml hv
  obtain ⟨rfl, hw⟩ := hv
  have hx := B.exec
  have hb := B.bytes
  have hr := B.returns
  have hts := atoms_spec (ws := zW y_R_copyPoint b_R_copyPoint 3 none) B.pre
  have ht : ∀ w ∈ zT, w.before ([.ref (rA G 0), .int (nI (to)), .int (nI (q))] : List Value).toArray s = true := fun w h => hts w (List.mem_cons_of_mem _ h)
  have hown : s.vm.findClass R_R = some m.cls := findClass_of_methodNamed B.named
  have hlocks := B.notSynchronized
  have hl := lv_entry ([.ref (rA G 0), .int (nI (to)), .int (nI (q))]) (n := 3) (Nat.le_of_ble_eq_true rfl)
  rw [lg_entry_eq]
  generalize (lg_sl ([.ref (rA G 0), .int (nI (to)), .int (nI (q))]) ++ List.replicate (3 - (lg_sl ([.ref (rA G 0), .int (nI (to)), .int (nI (q))])).length) Slot.unset).toArray = ls at hl ⊢
  have hl : lv_has ls 3 [(0, .ref (rA G 0)), (1, .int (nI (to))), (2, .int (nI (q)))] := hl
  obtain ⟨V0, u0, hV0, hu0, hok0, hw⟩ : ∃ (V : Nat → Nat) (u : rS), V = rV σ ∧ rU σ V u ∧ (∀ r, V r < b26 ^ 10) ∧ rH G u s s.heap [] := ⟨rV σ, σ, rfl, rU.rfl' σ, hok, hw⟩
  have f0_0 : V0 (q) = rV σ (q) := by rw [hV0]
  have f0_1 : V0 (q + 1) = rV σ (q + 1) := by rw [hV0]
  have f0_2 : V0 (q + 2) = rV σ (q + 2) := by rw [hV0]
  refine lv_aload_n hx hb d_R_copyPoint_0 rfl (lv_at hl 0 rfl) ?_
  refine lv_iload_n hx hb d_R_copyPoint_1 rfl (lv_at hl 1 rfl) ?_
  refine lv_iload_n hx hb d_R_copyPoint_2 rfl (lv_at hl 2 rfl) ?_
  refine r_callv (np := 2) (As := [.int (nI (to)), .int (nI (q))]) (rest := []) ⟨hx, hb, hml, hown, ht⟩ hw (c_R_copy l G u0 (hu0.ok hok0) (by omega) (by omega) (by omega)) ⟨km_R_70, kv_R_copy, kx_R_copy, kc_R_copy⟩ (by decide +kernel) ⟨by decide, by decide⟩ rfl rfl rfl hl.1 rfl (by decide) d_R_copyPoint_3 ⟨Nat.le_refl _, Nat.le_refl _⟩ (fun u1 H locs hp hw => ?_)
  obtain ⟨V1, hu1, ht1, hk1, hok1⟩ := q_copy hu0 hok0 hp
  have f1_q : V1 (q) = rV σ (q) := (hk1 _ (by omega)).trans f0_0
  have f1_q_1 : V1 (q + 1) = rV σ (q + 1) := (hk1 _ (by omega)).trans f0_1
  have f1_q_2 : V1 (q + 2) = rV σ (q + 2) := (hk1 _ (by omega)).trans f0_2
  have f1_to : V1 (to) = rV σ (q) := ht1.trans f0_0
  refine lv_aload_n hx hb d_R_copyPoint_6 rfl (lv_at hl 0 rfl) ?_
  refine lv_iload_n hx hb d_R_copyPoint_7 rfl (lv_at hl 1 rfl) ?_
  refine lv_iconst (v := nI 1) hx hb d_R_copyPoint_8 (by decide) ?_
  refine lv_iadd hx hb d_R_copyPoint_9 ?_
  refine tp_i (y := nI (to + 1)) (nI_add _ _) ?_
  refine lv_iload_n hx hb d_R_copyPoint_10 rfl (lv_at hl 2 rfl) ?_
  refine lv_iconst (v := nI 1) hx hb d_R_copyPoint_11 (by decide) ?_
  refine lv_iadd hx hb d_R_copyPoint_12 ?_
  refine tp_i (y := nI (q + 1)) (nI_add _ _) ?_
  refine r_callv (np := 2) (As := [.int (nI (to + 1)), .int (nI (q + 1))]) (rest := []) ⟨hx, hb, hml, hown, ht⟩ hw (c_R_copy l G u1 (hu1.ok hok1) (by omega) (by omega) (by omega)) ⟨km_R_70, kv_R_copy, kx_R_copy, kc_R_copy⟩ (by decide +kernel) ⟨by decide, by decide⟩ rfl rfl rfl hl.1 rfl (by decide) d_R_copyPoint_13 ⟨Nat.le_refl _, Nat.le_refl _⟩ (fun u2 H locs hp hw => ?_)
  obtain ⟨V2, hu2, ht2, hk2, hok2⟩ := q_copy hu1 hok1 hp
  have f2_q : V2 (q) = rV σ (q) := (hk2 _ (by omega)).trans f1_q
  have f2_q_1 : V2 (q + 1) = rV σ (q + 1) := (hk2 _ (by omega)).trans f1_q_1
  have f2_q_2 : V2 (q + 2) = rV σ (q + 2) := (hk2 _ (by omega)).trans f1_q_2
  have f2_to : V2 (to) = rV σ (q) := (hk2 _ (by omega)).trans f1_to
  have f2_to_1 : V2 (to + 1) = rV σ (q + 1) := ht2.trans f1_q_1
  refine lv_aload_n hx hb d_R_copyPoint_16 rfl (lv_at hl 0 rfl) ?_
  refine lv_iload_n hx hb d_R_copyPoint_17 rfl (lv_at hl 1 rfl) ?_
  refine lv_iconst (v := nI 2) hx hb d_R_copyPoint_18 (by decide) ?_
  refine lv_iadd hx hb d_R_copyPoint_19 ?_
  refine tp_i (y := nI (to + 2)) (nI_add _ _) ?_
  refine lv_iload_n hx hb d_R_copyPoint_20 rfl (lv_at hl 2 rfl) ?_
  refine lv_iconst (v := nI 2) hx hb d_R_copyPoint_21 (by decide) ?_
  refine lv_iadd hx hb d_R_copyPoint_22 ?_
  refine tp_i (y := nI (q + 2)) (nI_add _ _) ?_
  refine r_callv (np := 2) (As := [.int (nI (to + 2)), .int (nI (q + 2))]) (rest := []) ⟨hx, hb, hml, hown, ht⟩ hw (c_R_copy l G u2 (hu2.ok hok2) (by omega) (by omega) (by omega)) ⟨km_R_70, kv_R_copy, kx_R_copy, kc_R_copy⟩ (by decide +kernel) ⟨by decide, by decide⟩ rfl rfl rfl hl.1 rfl (by decide) d_R_copyPoint_23 ⟨Nat.le_refl _, Nat.le_refl _⟩ (fun u3 H locs hp hw => ?_)
  obtain ⟨V3, hu3, ht3, hk3, hok3⟩ := q_copy hu2 hok2 hp
  have f3_to : V3 (to) = rV σ (q) := (hk3 _ (by omega)).trans f2_to
  have f3_to_1 : V3 (to + 1) = rV σ (q + 1) := (hk3 _ (by omega)).trans f2_to_1
  have f3_to_2 : V3 (to + 2) = rV σ (q + 2) := ht3.trans f2_q_2
  refine z_vret (rZ _) hx hb hr hlocks u3 hw ⟨V3, hu3, f3_to, f3_to_1, f3_to_2, fun r h h1 h2 => ?_, hok3⟩ d_R_copyPoint_26
  rw [hk3 r h2, hk2 r h1, hk1 r h, hV0]
set_option maxHeartbeats 4000000 in
set_option maxRecDepth 100000 in
theorem c_R_curve (l : Launch) (G : rG) (σ : rS) (hok : rOk σ) {to x : Nat} (h1 : to < 37) (h2 : x < 48) (hto : to ≠ 8) (hx1 : x ≠ 31) (hq : rV σ 8 = rMod 0) (h7 : rV σ 21 = 7) : Met l y_R_curve (zW y_R_curve b_R_curve 3 none) (zr 3 78) (va_Pc [.ref (rA G 0), .int (nI (to)), .int (nI (x))] (rC G σ)) (va_Qv (fun u => ∃ V, rU σ V u ∧ V to = pp (rMod 0) (mm (rMod 0) (mm (rMod 0) (rV σ x) (rV σ x)) (rV σ x)) 7 ∧ (∀ r, r ≠ to → r ≠ 31 → r ≠ 37 → V r = rV σ r) ∧ ∀ r, V r < b26 ^ 10) (fun u => rC G u) (rAA G)) 0 0 (rAA G) := by
  refine Met.ofW (cc := b_R_curve) (maxL := 3) (ret := none) (by decide) rfl ?_
  intro p e s m args below meth c s₁ B hml hv
  obtain ⟨rfl, hw⟩ := hv
  have hx := B.exec
  have hb := B.bytes
  have hr := B.returns
  have hts := atoms_spec (ws := zW y_R_curve b_R_curve 3 none) B.pre
  have ht : ∀ w ∈ zT, w.before ([.ref (rA G 0), .int (nI (to)), .int (nI (x))] : List Value).toArray s = true := fun w h => hts w (List.mem_cons_of_mem _ h)
  have hown : s.vm.findClass R_R = some m.cls := findClass_of_methodNamed B.named
  have hlocks := B.notSynchronized
  have hl := lv_entry ([.ref (rA G 0), .int (nI (to)), .int (nI (x))]) (n := 3) (Nat.le_of_ble_eq_true rfl)
  rw [lg_entry_eq]
  generalize (lg_sl ([.ref (rA G 0), .int (nI (to)), .int (nI (x))]) ++ List.replicate (3 - (lg_sl ([.ref (rA G 0), .int (nI (to)), .int (nI (x))])).length) Slot.unset).toArray = ls at hl ⊢
  have hl : lv_has ls 3 [(0, .ref (rA G 0)), (1, .int (nI (to))), (2, .int (nI (x)))] := hl
  obtain ⟨V0, u0, hV0, hu0, hok0, hw⟩ : ∃ (V : Nat → Nat) (u : rS), V = rV σ ∧ rU σ V u ∧ (∀ r, V r < b26 ^ 10) ∧ rH G u s s.heap [] := ⟨rV σ, σ, rfl, rU.rfl' σ, hok, hw⟩
  have f0_8 : V0 8 = rMod 0 := by rw [hV0]; exact hq
  have f0_x : V0 x = rV σ x := by rw [hV0]
  have f0_21 : V0 21 = 7 := by rw [hV0]; exact h7
  refine lv_aload_n hx hb d_R_curve_0 rfl (lv_at hl 0 rfl) ?_
  refine lv_bipush (v := nI 31) hx hb d_R_curve_1 (by decide) ?_
  refine lv_iload_n hx hb d_R_curve_3 rfl (lv_at hl 2 rfl) ?_
  refine lv_iload_n hx hb d_R_curve_4 rfl (lv_at hl 2 rfl) ?_
  refine lv_bipush (v := nI 8) hx hb d_R_curve_5 (by decide) ?_
  refine r_callv (np := 4) (As := [.int (nI (31)), .int (nI (x)), .int (nI (x)), .int (nI (8))]) (rest := []) ⟨hx, hb, hml, hown, ht⟩ hw (c_R_multiply l G u0 (hu0.ok hok0) (μ := 0) (by decide) (by decide) (by omega) (by omega) (by decide) (by rw [hu0.V]; exact f0_8)) ⟨km_R_96, kv_R_multiply, kx_R_multiply, kc_R_multiply⟩ (by decide +kernel) ⟨by decide, by decide⟩ rfl rfl rfl hl.1 rfl (by decide) d_R_curve_7 ⟨Nat.le_refl _, Nat.le_refl _⟩ (fun u1 H locs hp hw => ?_)
  obtain ⟨V1, hu1, ht1, hk1, hok1⟩ := q_mul (by decide) hu0 hok0 hp
  have f1_8 : V1 (8) = rMod 0 := (hk1 _ (by decide)).trans f0_8
  have f1_x : V1 (x) = rV σ x := (hk1 _ (by omega)).trans f0_x
  have f1_21 : V1 (21) = 7 := (hk1 _ (by decide)).trans f0_21
  have f1_31 : V1 (31) = mm (rMod 0) (rV σ x) (rV σ x) := ht1.trans (by simp only [f0_x])
  refine lv_aload_n hx hb d_R_curve_10 rfl (lv_at hl 0 rfl) ?_
  refine lv_bipush (v := nI 31) hx hb d_R_curve_11 (by decide) ?_
  refine lv_bipush (v := nI 31) hx hb d_R_curve_13 (by decide) ?_
  refine lv_iload_n hx hb d_R_curve_15 rfl (lv_at hl 2 rfl) ?_
  refine lv_bipush (v := nI 8) hx hb d_R_curve_16 (by decide) ?_
  refine r_callv (np := 4) (As := [.int (nI (31)), .int (nI (31)), .int (nI (x)), .int (nI (8))]) (rest := []) ⟨hx, hb, hml, hown, ht⟩ hw (c_R_multiply l G u1 (hu1.ok hok1) (μ := 0) (by decide) (by decide) (by decide) (by omega) (by decide) (by rw [hu1.V]; exact f1_8)) ⟨km_R_96, kv_R_multiply, kx_R_multiply, kc_R_multiply⟩ (by decide +kernel) ⟨by decide, by decide⟩ rfl rfl rfl hl.1 rfl (by decide) d_R_curve_18 ⟨Nat.le_refl _, Nat.le_refl _⟩ (fun u2 H locs hp hw => ?_)
  obtain ⟨V2, hu2, ht2, hk2, hok2⟩ := q_mul (by decide) hu1 hok1 hp
  have f2_8 : V2 (8) = rMod 0 := (hk2 _ (by decide)).trans f1_8
  have f2_x : V2 (x) = rV σ x := (hk2 _ (by omega)).trans f1_x
  have f2_21 : V2 (21) = 7 := (hk2 _ (by decide)).trans f1_21
  have f2_31 : V2 (31) = mm (rMod 0) (mm (rMod 0) (rV σ x) (rV σ x)) (rV σ x) := ht2.trans (by simp only [f1_31, f1_x])
  refine lv_aload_n hx hb d_R_curve_21 rfl (lv_at hl 0 rfl) ?_
  refine lv_iload_n hx hb d_R_curve_22 rfl (lv_at hl 1 rfl) ?_
  refine lv_bipush (v := nI 31) hx hb d_R_curve_23 (by decide) ?_
  refine lv_bipush (v := nI 21) hx hb d_R_curve_25 (by decide) ?_
  refine lv_bipush (v := nI 8) hx hb d_R_curve_27 (by decide) ?_
  refine r_callv (np := 4) (As := [.int (nI (to)), .int (nI (31)), .int (nI (21)), .int (nI (8))]) (rest := []) ⟨hx, hb, hml, hown, ht⟩ hw (c_R_plus l G u2 (hu2.ok hok2) (by omega) (by decide) (by decide) (by decide) (by rw [hu2.V, f2_8]; exact rMod_le (by decide)) (by rw [hu2.V, f2_31, f2_8]; exact mm_lt (rMod_pos (by decide))) (by rw [hu2.V, f2_21, f2_8]; exact (by decide +kernel))) ⟨km_R_124, kv_R_plus, kx_R_plus, kc_R_plus⟩ (by decide +kernel) ⟨by decide, by decide⟩ rfl rfl rfl hl.1 rfl (by decide) d_R_curve_29 ⟨Nat.le_refl _, Nat.le_refl _⟩ (fun u3 H locs hp hw => ?_)
  obtain ⟨V3, hu3, ht3, hk3, hok3⟩ := q_plus hu2 hok2 (by rw [f2_8]; exact rMod_pos (by decide)) (by rw [f2_8]; exact rMod_le (by decide)) hp
  have f3_to : V3 (to) = pp (rMod 0) (mm (rMod 0) (mm (rMod 0) (rV σ x) (rV σ x)) (rV σ x)) (7) := ht3.trans (by simp only [f2_21, f2_31, f2_8])
  refine z_vret (rZ _) hx hb hr hlocks u3 hw ⟨V3, hu3, f3_to, fun r h h31 h37 => ?_, hok3⟩ d_R_curve_32
  rw [hk3 r h h37, hk2 r h31, hk1 r h31, hV0]
end
section
/-! twice, in numbers and in the reference -/
def s8 (M a b : Nat) : Nat := ss M (ss M (ss M (ss M (ss M (ss M (ss M (ss M a b) b) b) b) b) b) b) b
def d8 (M a : Nat) : Nat := pp M (pp M (pp M a a) (pp M a a)) (pp M (pp M a a) (pp M a a))
def tU (M x : Nat) : Nat := pp M (mm M x x) (pp M (mm M x x) (mm M x x))
def tW (M x y z : Nat) : Nat := mm M (mm M x y) (mm M y z)
def tZ (M x y z : Nat) : Nat := s8 M (mm M (tU M x) (tU M x)) (tW M x y z)
def tX (M x y z : Nat) : Nat := ss M (pp M (pp M (tW M x y z) (tW M x y z)) (pp M (tW M x y z) (tW M x y z))) (tZ M x y z)
def tY (M y z : Nat) : Nat := mm M (mm M y (mm M y z)) (mm M y (mm M y z))
def twX (M x y z : Nat) : Nat := pp M (mm M (tZ M x y z) (mm M y z)) (mm M (tZ M x y z) (mm M y z))
def twY (M x y z : Nat) : Nat := s8 M (mm M (tU M x) (tX M x y z)) (tY M y z)
def twZ (M y z : Nat) : Nat := d8 M (mm M (mm M (mm M y z) (mm M y z)) (mm M y z))
set_option maxHeartbeats 4000000 in
set_option maxRecDepth 100000 in
theorem c_R_twice (l : Launch) (G : rG) (σ : rS) (hok : rOk σ) {p0 : Nat} (h1 : 21 < p0) (h2 : p0 < 29) (hq : rV σ 8 = rMod 0) (hx0 : rV σ p0 < rMod 0) (hy0 : rV σ (p0 + 1) < rMod 0) (hz0 : rV σ (p0 + 2) < rMod 0) : Met l y_R_twice (zW y_R_twice b_R_twice 3 none) (zr 3 78) (va_Pc [.ref (rA G 0), .int (nI (p0))] (rC G σ)) (va_Qv (fun u => ∃ V, rU σ V u ∧ V p0 = twX (rMod 0) (rV σ p0) (rV σ (p0 + 1)) (rV σ (p0 + 2)) ∧ V (p0 + 1) = twY (rMod 0) (rV σ p0) (rV σ (p0 + 1)) (rV σ (p0 + 2)) ∧ V (p0 + 2) = twZ (rMod 0) (rV σ (p0 + 1)) (rV σ (p0 + 2)) ∧ (∀ r, r ≠ p0 → r ≠ p0 + 1 → r ≠ p0 + 2 → (r < 31 ∨ 37 < r) → V r = rV σ r) ∧ ∀ r, V r < b26 ^ 10) (fun u => rC G u) (rAA G)) 0 0 (rAA G) := by
  refine Met.ofW (cc := b_R_twice) (maxL := 3) (ret := none) (by decide) rfl ?_
  intro p e s m args below meth c s₁ B hml hv
  obtain ⟨rfl, hw⟩ := hv
  have hx := B.exec
  have hb := B.bytes
  have hr := B.returns
  have hts := atoms_spec (ws := zW y_R_twice b_R_twice 3 none) B.pre
  have ht : ∀ w ∈ zT, w.before ([.ref (rA G 0), .int (nI (p0))] : List Value).toArray s = true := fun w h => hts w (List.mem_cons_of_mem _ h)
  have hown : s.vm.findClass R_R = some m.cls := findClass_of_methodNamed B.named
  have hlocks := B.notSynchronized
  have hl := lv_entry ([.ref (rA G 0), .int (nI (p0))]) (n := 3) (Nat.le_of_ble_eq_true rfl)
  rw [lg_entry_eq]
  generalize (lg_sl ([.ref (rA G 0), .int (nI (p0))]) ++ List.replicate (3 - (lg_sl ([.ref (rA G 0), .int (nI (p0))])).length) Slot.unset).toArray = ls at hl ⊢
  have hl : lv_has ls 3 [(0, .ref (rA G 0)), (1, .int (nI (p0)))] := hl
  obtain ⟨V0, u0, hV0, hu0, hok0, hw⟩ : ∃ (V : Nat → Nat) (u : rS), V = rV σ ∧ rU σ V u ∧ (∀ r, V r < b26 ^ 10) ∧ rH G u s s.heap [] := ⟨rV σ, σ, rfl, rU.rfl' σ, hok, hw⟩
  obtain ⟨x, hxe⟩ : ∃ x, x = rV σ p0 := ⟨_, rfl⟩
  obtain ⟨y, hye⟩ : ∃ y, y = rV σ (p0 + 1) := ⟨_, rfl⟩
  obtain ⟨z, hze⟩ : ∃ z, z = rV σ (p0 + 2) := ⟨_, rfl⟩
  obtain ⟨Q, hQ⟩ : ∃ Q, Q = rMod 0 := ⟨_, rfl⟩
  have f0_8 : V0 8 = rMod 0 := by rw [hV0]; exact hq
  have f0_x : V0 p0 = x := by rw [hV0, hxe]
  have f0_y : V0 (p0 + 1) = y := by rw [hV0, hye]
  have f0_z : V0 (p0 + 2) = z := by rw [hV0, hze]
  rw [← hxe] at hx0
  rw [← hye] at hy0
  rw [← hze] at hz0
  refine lv_aload_n hx hb d_R_twice_0 rfl (lv_at hl 0 rfl) ?_
  refine lv_bipush (v := nI 31) hx hb d_R_twice_1 (by decide) ?_
  refine lv_iload_n hx hb d_R_twice_3 rfl (lv_at hl 1 rfl) ?_
  refine lv_iload_n hx hb d_R_twice_4 rfl (lv_at hl 1 rfl) ?_
  refine lv_bipush (v := nI 8) hx hb d_R_twice_5 (by decide) ?_
  refine r_callv (np := 4) (As := [.int (nI (31)), .int (nI (p0)), .int (nI (p0)), .int (nI (8))]) (rest := []) ⟨hx, hb, hml, hown, ht⟩ hw (c_R_multiply l G u0 (hu0.ok hok0) (μ := 0) (by decide) (by decide) (by omega) (by omega) (by decide) (by rw [hu0.V]; exact f0_8)) ⟨km_R_96, kv_R_multiply, kx_R_multiply, kc_R_multiply⟩ (by decide +kernel) ⟨by decide, by decide⟩ rfl rfl rfl hl.1 rfl (by decide) d_R_twice_7 ⟨Nat.le_refl _, Nat.le_refl _⟩ (fun u1 H locs hp hw => ?_)
  obtain ⟨V1, hu1, ht1, hk1, hok1⟩ := q_mul (by decide) hu0 hok0 hp
  have f1_8 : V1 (8) = rMod 0 := (hk1 _ (by decide)).trans f0_8
  have f1_p0 : V1 (p0) = x := (hk1 _ (by omega)).trans f0_x
  have f1_p0_1 : V1 (p0 + 1) = y := (hk1 _ (by omega)).trans f0_y
  have f1_p0_2 : V1 (p0 + 2) = z := (hk1 _ (by omega)).trans f0_z
  have f1_31 : V1 (31) = mm (rMod 0) (x) (x) := ht1.trans (by simp only [f0_x])
  refine lv_aload_n hx hb d_R_twice_10 rfl (lv_at hl 0 rfl) ?_
  refine lv_bipush (v := nI 34) hx hb d_R_twice_11 (by decide) ?_
  refine lv_bipush (v := nI 31) hx hb d_R_twice_13 (by decide) ?_
  refine lv_bipush (v := nI 31) hx hb d_R_twice_15 (by decide) ?_
  refine lv_bipush (v := nI 8) hx hb d_R_twice_17 (by decide) ?_
  refine r_callv (np := 4) (As := [.int (nI (34)), .int (nI (31)), .int (nI (31)), .int (nI (8))]) (rest := []) ⟨hx, hb, hml, hown, ht⟩ hw (c_R_plus l G u1 (hu1.ok hok1) (by decide) (by decide) (by decide) (by decide) (by rw [hu1.V, f1_8]; exact rMod_le (by decide)) (by rw [hu1.V, f1_31, f1_8]; exact mm_lt (rMod_pos (by decide))) (by rw [hu1.V, f1_31, f1_8]; exact mm_lt (rMod_pos (by decide)))) ⟨km_R_124, kv_R_plus, kx_R_plus, kc_R_plus⟩ (by decide +kernel) ⟨by decide, by decide⟩ rfl rfl rfl hl.1 rfl (by decide) d_R_twice_19 ⟨Nat.le_refl _, Nat.le_refl _⟩ (fun u2 H locs hp hw => ?_)
  obtain ⟨V2, hu2, ht2, hk2, hok2⟩ := q_plus hu1 hok1 (by rw [f1_8]; exact rMod_pos (by decide)) (by rw [f1_8]; exact rMod_le (by decide)) hp
  have f2_8 : V2 (8) = rMod 0 := (hk2 _ (by decide) (by decide)).trans f1_8
  have f2_p0 : V2 (p0) = x := (hk2 _ (by omega) (by omega)).trans f1_p0
  have f2_p0_1 : V2 (p0 + 1) = y := (hk2 _ (by omega) (by omega)).trans f1_p0_1
  have f2_p0_2 : V2 (p0 + 2) = z := (hk2 _ (by omega) (by omega)).trans f1_p0_2
  have f2_31 : V2 (31) = mm (rMod 0) (x) (x) := (hk2 _ (by decide) (by decide)).trans f1_31
  have f2_34 : V2 (34) = pp (rMod 0) (mm (rMod 0) (x) (x)) (mm (rMod 0) (x) (x)) := ht2.trans (by simp only [f1_31, f1_8])
  refine lv_aload_n hx hb d_R_twice_22 rfl (lv_at hl 0 rfl) ?_
  refine lv_bipush (v := nI 31) hx hb d_R_twice_23 (by decide) ?_
  refine lv_bipush (v := nI 31) hx hb d_R_twice_25 (by decide) ?_
  refine lv_bipush (v := nI 34) hx hb d_R_twice_27 (by decide) ?_
  refine lv_bipush (v := nI 8) hx hb d_R_twice_29 (by decide) ?_
  refine r_callv (np := 4) (As := [.int (nI (31)), .int (nI (31)), .int (nI (34)), .int (nI (8))]) (rest := []) ⟨hx, hb, hml, hown, ht⟩ hw (c_R_plus l G u2 (hu2.ok hok2) (by decide) (by decide) (by decide) (by decide) (by rw [hu2.V, f2_8]; exact rMod_le (by decide)) (by rw [hu2.V, f2_31, f2_8]; exact mm_lt (rMod_pos (by decide))) (by rw [hu2.V, f2_34, f2_8]; exact pp_lt (rMod_pos (by decide)))) ⟨km_R_124, kv_R_plus, kx_R_plus, kc_R_plus⟩ (by decide +kernel) ⟨by decide, by decide⟩ rfl rfl rfl hl.1 rfl (by decide) d_R_twice_31 ⟨Nat.le_refl _, Nat.le_refl _⟩ (fun u3 H locs hp hw => ?_)
  obtain ⟨V3, hu3, ht3, hk3, hok3⟩ := q_plus hu2 hok2 (by rw [f2_8]; exact rMod_pos (by decide)) (by rw [f2_8]; exact rMod_le (by decide)) hp
  have f3_8 : V3 (8) = rMod 0 := (hk3 _ (by decide) (by decide)).trans f2_8
  have f3_p0 : V3 (p0) = x := (hk3 _ (by omega) (by omega)).trans f2_p0
  have f3_p0_1 : V3 (p0 + 1) = y := (hk3 _ (by omega) (by omega)).trans f2_p0_1
  have f3_p0_2 : V3 (p0 + 2) = z := (hk3 _ (by omega) (by omega)).trans f2_p0_2
  have f3_34 : V3 (34) = pp (rMod 0) (mm (rMod 0) (x) (x)) (mm (rMod 0) (x) (x)) := (hk3 _ (by decide) (by decide)).trans f2_34
  have f3_31 : V3 (31) = pp (rMod 0) (mm (rMod 0) (x) (x)) (pp (rMod 0) (mm (rMod 0) (x) (x)) (mm (rMod 0) (x) (x))) := ht3.trans (by simp only [f2_31, f2_34, f2_8])
  have f3_31n : V3 (31) = tU (rMod 0) x := f3_31
  refine lv_aload_n hx hb d_R_twice_34 rfl (lv_at hl 0 rfl) ?_
  refine lv_bipush (v := nI 32) hx hb d_R_twice_35 (by decide) ?_
  refine lv_iload_n hx hb d_R_twice_37 rfl (lv_at hl 1 rfl) ?_
  refine lv_iconst (v := nI 1) hx hb d_R_twice_38 (by decide) ?_
  refine lv_iadd hx hb d_R_twice_39 ?_
  refine tp_i (y := nI (p0 + 1)) (nI_add _ _) ?_
  refine lv_iload_n hx hb d_R_twice_40 rfl (lv_at hl 1 rfl) ?_
  refine lv_iconst (v := nI 2) hx hb d_R_twice_41 (by decide) ?_
  refine lv_iadd hx hb d_R_twice_42 ?_
  refine tp_i (y := nI (p0 + 2)) (nI_add _ _) ?_
  refine lv_bipush (v := nI 8) hx hb d_R_twice_43 (by decide) ?_
  refine r_callv (np := 4) (As := [.int (nI (32)), .int (nI (p0 + 1)), .int (nI (p0 + 2)), .int (nI (8))]) (rest := []) ⟨hx, hb, hml, hown, ht⟩ hw (c_R_multiply l G u3 (hu3.ok hok3) (μ := 0) (by decide) (by decide) (by omega) (by omega) (by decide) (by rw [hu3.V]; exact f3_8)) ⟨km_R_96, kv_R_multiply, kx_R_multiply, kc_R_multiply⟩ (by decide +kernel) ⟨by decide, by decide⟩ rfl rfl rfl hl.1 rfl (by decide) d_R_twice_45 ⟨Nat.le_refl _, Nat.le_refl _⟩ (fun u4 H locs hp hw => ?_)
  obtain ⟨V4, hu4, ht4, hk4, hok4⟩ := q_mul (by decide) hu3 hok3 hp
  have f4_8 : V4 (8) = rMod 0 := (hk4 _ (by decide)).trans f3_8
  have f4_p0 : V4 (p0) = x := (hk4 _ (by omega)).trans f3_p0
  have f4_p0_1 : V4 (p0 + 1) = y := (hk4 _ (by omega)).trans f3_p0_1
  have f4_p0_2 : V4 (p0 + 2) = z := (hk4 _ (by omega)).trans f3_p0_2
  have f4_31 : V4 (31) = tU (rMod 0) x := (hk4 _ (by decide)).trans f3_31n
  have f4_32 : V4 (32) = mm (rMod 0) (y) (z) := ht4.trans (by simp only [f3_p0_1, f3_p0_2])
  refine lv_aload_n hx hb d_R_twice_48 rfl (lv_at hl 0 rfl) ?_
  refine lv_bipush (v := nI 33) hx hb d_R_twice_49 (by decide) ?_
  refine lv_iload_n hx hb d_R_twice_51 rfl (lv_at hl 1 rfl) ?_
  refine lv_iload_n hx hb d_R_twice_52 rfl (lv_at hl 1 rfl) ?_
  refine lv_iconst (v := nI 1) hx hb d_R_twice_53 (by decide) ?_
  refine lv_iadd hx hb d_R_twice_54 ?_
  refine tp_i (y := nI (p0 + 1)) (nI_add _ _) ?_
  refine lv_bipush (v := nI 8) hx hb d_R_twice_55 (by decide) ?_
  refine r_callv (np := 4) (As := [.int (nI (33)), .int (nI (p0)), .int (nI (p0 + 1)), .int (nI (8))]) (rest := []) ⟨hx, hb, hml, hown, ht⟩ hw (c_R_multiply l G u4 (hu4.ok hok4) (μ := 0) (by decide) (by decide) (by omega) (by omega) (by decide) (by rw [hu4.V]; exact f4_8)) ⟨km_R_96, kv_R_multiply, kx_R_multiply, kc_R_multiply⟩ (by decide +kernel) ⟨by decide, by decide⟩ rfl rfl rfl hl.1 rfl (by decide) d_R_twice_57 ⟨Nat.le_refl _, Nat.le_refl _⟩ (fun u5 H locs hp hw => ?_)
  obtain ⟨V5, hu5, ht5, hk5, hok5⟩ := q_mul (by decide) hu4 hok4 hp
  have f5_8 : V5 (8) = rMod 0 := (hk5 _ (by decide)).trans f4_8
  have f5_p0 : V5 (p0) = x := (hk5 _ (by omega)).trans f4_p0
  have f5_p0_1 : V5 (p0 + 1) = y := (hk5 _ (by omega)).trans f4_p0_1
  have f5_p0_2 : V5 (p0 + 2) = z := (hk5 _ (by omega)).trans f4_p0_2
  have f5_31 : V5 (31) = tU (rMod 0) x := (hk5 _ (by decide)).trans f4_31
  have f5_32 : V5 (32) = mm (rMod 0) (y) (z) := (hk5 _ (by decide)).trans f4_32
  have f5_33 : V5 (33) = mm (rMod 0) (x) (y) := ht5.trans (by simp only [f4_p0, f4_p0_1])
  refine lv_aload_n hx hb d_R_twice_60 rfl (lv_at hl 0 rfl) ?_
  refine lv_bipush (v := nI 33) hx hb d_R_twice_61 (by decide) ?_
  refine lv_bipush (v := nI 33) hx hb d_R_twice_63 (by decide) ?_
  refine lv_bipush (v := nI 32) hx hb d_R_twice_65 (by decide) ?_
  refine lv_bipush (v := nI 8) hx hb d_R_twice_67 (by decide) ?_
  refine r_callv (np := 4) (As := [.int (nI (33)), .int (nI (33)), .int (nI (32)), .int (nI (8))]) (rest := []) ⟨hx, hb, hml, hown, ht⟩ hw (c_R_multiply l G u5 (hu5.ok hok5) (μ := 0) (by decide) (by decide) (by decide) (by decide) (by decide) (by rw [hu5.V]; exact f5_8)) ⟨km_R_96, kv_R_multiply, kx_R_multiply, kc_R_multiply⟩ (by decide +kernel) ⟨by decide, by decide⟩ rfl rfl rfl hl.1 rfl (by decide) d_R_twice_69 ⟨Nat.le_refl _, Nat.le_refl _⟩ (fun u6 H locs hp hw => ?_)
  obtain ⟨V6, hu6, ht6, hk6, hok6⟩ := q_mul (by decide) hu5 hok5 hp
  have f6_8 : V6 (8) = rMod 0 := (hk6 _ (by decide)).trans f5_8
  have f6_p0 : V6 (p0) = x := (hk6 _ (by omega)).trans f5_p0
  have f6_p0_1 : V6 (p0 + 1) = y := (hk6 _ (by omega)).trans f5_p0_1
  have f6_p0_2 : V6 (p0 + 2) = z := (hk6 _ (by omega)).trans f5_p0_2
  have f6_31 : V6 (31) = tU (rMod 0) x := (hk6 _ (by decide)).trans f5_31
  have f6_32 : V6 (32) = mm (rMod 0) (y) (z) := (hk6 _ (by decide)).trans f5_32
  have f6_33 : V6 (33) = mm (rMod 0) (mm (rMod 0) (x) (y)) (mm (rMod 0) (y) (z)) := ht6.trans (by simp only [f5_32, f5_33])
  have f6_33n : V6 (33) = tW (rMod 0) x y z := f6_33
  refine lv_aload_n hx hb d_R_twice_72 rfl (lv_at hl 0 rfl) ?_
  refine lv_bipush (v := nI 36) hx hb d_R_twice_73 (by decide) ?_
  refine lv_bipush (v := nI 31) hx hb d_R_twice_75 (by decide) ?_
  refine lv_bipush (v := nI 31) hx hb d_R_twice_77 (by decide) ?_
  refine lv_bipush (v := nI 8) hx hb d_R_twice_79 (by decide) ?_
  refine r_callv (np := 4) (As := [.int (nI (36)), .int (nI (31)), .int (nI (31)), .int (nI (8))]) (rest := []) ⟨hx, hb, hml, hown, ht⟩ hw (c_R_multiply l G u6 (hu6.ok hok6) (μ := 0) (by decide) (by decide) (by decide) (by decide) (by decide) (by rw [hu6.V]; exact f6_8)) ⟨km_R_96, kv_R_multiply, kx_R_multiply, kc_R_multiply⟩ (by decide +kernel) ⟨by decide, by decide⟩ rfl rfl rfl hl.1 rfl (by decide) d_R_twice_81 ⟨Nat.le_refl _, Nat.le_refl _⟩ (fun u7 H locs hp hw => ?_)
  obtain ⟨V7, hu7, ht7, hk7, hok7⟩ := q_mul (by decide) hu6 hok6 hp
  have f7_8 : V7 (8) = rMod 0 := (hk7 _ (by decide)).trans f6_8
  have f7_p0_1 : V7 (p0 + 1) = y := (hk7 _ (by omega)).trans f6_p0_1
  have f7_31 : V7 (31) = tU (rMod 0) x := (hk7 _ (by decide)).trans f6_31
  have f7_32 : V7 (32) = mm (rMod 0) (y) (z) := (hk7 _ (by decide)).trans f6_32
  have f7_33 : V7 (33) = tW (rMod 0) x y z := (hk7 _ (by decide)).trans f6_33n
  have f7_36 : V7 (36) = mm (rMod 0) (tU (rMod 0) x) (tU (rMod 0) x) := ht7.trans (by simp only [f6_31])
  refine lv_iconst (v := nI 0) hx hb d_R_twice_84 (by decide) ?_
  refine lv_istore_n (lv' := [(2, .int (nI (0))), (0, .ref (rA G 0)), (1, .int (nI (p0)))]) hx hb d_R_twice_85 rfl hl (by decide) rfl (fun ls hl => ?_)
  refine lv_iload_n hx hb d_R_twice_86 rfl (lv_at hl 0 rfl) ?_
  refine lv_bipush (v := nI 8) hx hb d_R_twice_87 (by decide) ?_
  refine n_ge (tgt := 110) hx hb d_R_twice_89 (by decide) (by decide) (by decide) (fun h => absurd h (by decide)) (fun _ => ?_)
  refine lv_aload_n hx hb d_R_twice_92 rfl (lv_at hl 1 rfl) ?_
  refine lv_bipush (v := nI 36) hx hb d_R_twice_93 (by decide) ?_
  refine lv_bipush (v := nI 36) hx hb d_R_twice_95 (by decide) ?_
  refine lv_bipush (v := nI 33) hx hb d_R_twice_97 (by decide) ?_
  refine lv_bipush (v := nI 8) hx hb d_R_twice_99 (by decide) ?_
  refine r_callv (np := 4) (As := [.int (nI (36)), .int (nI (36)), .int (nI (33)), .int (nI (8))]) (rest := []) ⟨hx, hb, hml, hown, ht⟩ hw (c_R_minus l G u7 (hu7.ok hok7) (by decide) (by decide) (by decide) (by decide) (by decide) (by decide) (by decide) (by rw [hu7.V, f7_8]; exact rMod_le (by decide)) (by rw [hu7.V, f7_36, f7_8]; exact mm_lt (rMod_pos (by decide))) (by rw [hu7.V, f7_33, f7_8]; exact mm_lt (rMod_pos (by decide)))) ⟨km_R_112, kv_R_minus, kx_R_minus, kc_R_minus⟩ (by decide +kernel) ⟨by decide, by decide⟩ rfl rfl rfl hl.1 rfl (by decide) d_R_twice_101 ⟨Nat.le_refl _, Nat.le_refl _⟩ (fun u8 H locs hp hw => ?_)
  obtain ⟨V8, hu8, ht8, hk8, hok8⟩ := q_minus hu7 hok7 (by rw [f7_8]; exact rMod_pos (by decide)) (by rw [f7_8]; exact rMod_le (by decide)) hp
  have f8_8 : V8 (8) = rMod 0 := (hk8 _ (by decide) (by decide)).trans f7_8
  have f8_p0_1 : V8 (p0 + 1) = y := (hk8 _ (by omega) (by omega)).trans f7_p0_1
  have f8_31 : V8 (31) = tU (rMod 0) x := (hk8 _ (by decide) (by decide)).trans f7_31
  have f8_32 : V8 (32) = mm (rMod 0) (y) (z) := (hk8 _ (by decide) (by decide)).trans f7_32
  have f8_33 : V8 (33) = tW (rMod 0) x y z := (hk8 _ (by decide) (by decide)).trans f7_33
  have f8_36 : V8 (36) = ss (rMod 0) (mm (rMod 0) (tU (rMod 0) x) (tU (rMod 0) x)) (tW (rMod 0) x y z) := ht8.trans (by simp only [f7_33, f7_36, f7_8])
  refine lv_iinc (v := nI 1) (lv' := [(2, .int (nI (1))), (0, .ref (rA G 0)), (1, .int (nI (p0)))]) hx hb d_R_twice_104 hl (k := 0) rfl (by decide) (by decide) rfl (fun ls hl => ?_)
  refine lv_goto (tgt := 86) hx hb d_R_twice_107 (by decide) ?_
  refine lv_iload_n hx hb d_R_twice_86 rfl (lv_at hl 0 rfl) ?_
  refine lv_bipush (v := nI 8) hx hb d_R_twice_87 (by decide) ?_
  refine n_ge (tgt := 110) hx hb d_R_twice_89 (by decide) (by decide) (by decide) (fun h => absurd h (by decide)) (fun _ => ?_)
  refine lv_aload_n hx hb d_R_twice_92 rfl (lv_at hl 1 rfl) ?_
  refine lv_bipush (v := nI 36) hx hb d_R_twice_93 (by decide) ?_
  refine lv_bipush (v := nI 36) hx hb d_R_twice_95 (by decide) ?_
  refine lv_bipush (v := nI 33) hx hb d_R_twice_97 (by decide) ?_
  refine lv_bipush (v := nI 8) hx hb d_R_twice_99 (by decide) ?_
  refine r_callv (np := 4) (As := [.int (nI (36)), .int (nI (36)), .int (nI (33)), .int (nI (8))]) (rest := []) ⟨hx, hb, hml, hown, ht⟩ hw (c_R_minus l G u8 (hu8.ok hok8) (by decide) (by decide) (by decide) (by decide) (by decide) (by decide) (by decide) (by rw [hu8.V, f8_8]; exact rMod_le (by decide)) (by rw [hu8.V, f8_36, f8_8]; exact ss_lt (rMod_pos (by decide))) (by rw [hu8.V, f8_33, f8_8]; exact mm_lt (rMod_pos (by decide)))) ⟨km_R_112, kv_R_minus, kx_R_minus, kc_R_minus⟩ (by decide +kernel) ⟨by decide, by decide⟩ rfl rfl rfl hl.1 rfl (by decide) d_R_twice_101 ⟨Nat.le_refl _, Nat.le_refl _⟩ (fun u9 H locs hp hw => ?_)
  obtain ⟨V9, hu9, ht9, hk9, hok9⟩ := q_minus hu8 hok8 (by rw [f8_8]; exact rMod_pos (by decide)) (by rw [f8_8]; exact rMod_le (by decide)) hp
  have f9_8 : V9 (8) = rMod 0 := (hk9 _ (by decide) (by decide)).trans f8_8
  have f9_p0_1 : V9 (p0 + 1) = y := (hk9 _ (by omega) (by omega)).trans f8_p0_1
  have f9_31 : V9 (31) = tU (rMod 0) x := (hk9 _ (by decide) (by decide)).trans f8_31
  have f9_32 : V9 (32) = mm (rMod 0) (y) (z) := (hk9 _ (by decide) (by decide)).trans f8_32
  have f9_33 : V9 (33) = tW (rMod 0) x y z := (hk9 _ (by decide) (by decide)).trans f8_33
  have f9_36 : V9 (36) = ss (rMod 0) (ss (rMod 0) (mm (rMod 0) (tU (rMod 0) x) (tU (rMod 0) x)) (tW (rMod 0) x y z)) (tW (rMod 0) x y z) := ht9.trans (by simp only [f8_33, f8_36, f8_8])
  refine lv_iinc (v := nI 2) (lv' := [(2, .int (nI (2))), (0, .ref (rA G 0)), (1, .int (nI (p0)))]) hx hb d_R_twice_104 hl (k := 0) rfl (by decide) (by decide) rfl (fun ls hl => ?_)
  refine lv_goto (tgt := 86) hx hb d_R_twice_107 (by decide) ?_
  refine lv_iload_n hx hb d_R_twice_86 rfl (lv_at hl 0 rfl) ?_
  refine lv_bipush (v := nI 8) hx hb d_R_twice_87 (by decide) ?_
  refine n_ge (tgt := 110) hx hb d_R_twice_89 (by decide) (by decide) (by decide) (fun h => absurd h (by decide)) (fun _ => ?_)
  refine lv_aload_n hx hb d_R_twice_92 rfl (lv_at hl 1 rfl) ?_
  refine lv_bipush (v := nI 36) hx hb d_R_twice_93 (by decide) ?_
  refine lv_bipush (v := nI 36) hx hb d_R_twice_95 (by decide) ?_
  refine lv_bipush (v := nI 33) hx hb d_R_twice_97 (by decide) ?_
  refine lv_bipush (v := nI 8) hx hb d_R_twice_99 (by decide) ?_
  refine r_callv (np := 4) (As := [.int (nI (36)), .int (nI (36)), .int (nI (33)), .int (nI (8))]) (rest := []) ⟨hx, hb, hml, hown, ht⟩ hw (c_R_minus l G u9 (hu9.ok hok9) (by decide) (by decide) (by decide) (by decide) (by decide) (by decide) (by decide) (by rw [hu9.V, f9_8]; exact rMod_le (by decide)) (by rw [hu9.V, f9_36, f9_8]; exact ss_lt (rMod_pos (by decide))) (by rw [hu9.V, f9_33, f9_8]; exact mm_lt (rMod_pos (by decide)))) ⟨km_R_112, kv_R_minus, kx_R_minus, kc_R_minus⟩ (by decide +kernel) ⟨by decide, by decide⟩ rfl rfl rfl hl.1 rfl (by decide) d_R_twice_101 ⟨Nat.le_refl _, Nat.le_refl _⟩ (fun u10 H locs hp hw => ?_)
  obtain ⟨V10, hu10, ht10, hk10, hok10⟩ := q_minus hu9 hok9 (by rw [f9_8]; exact rMod_pos (by decide)) (by rw [f9_8]; exact rMod_le (by decide)) hp
  have f10_8 : V10 (8) = rMod 0 := (hk10 _ (by decide) (by decide)).trans f9_8
  have f10_p0_1 : V10 (p0 + 1) = y := (hk10 _ (by omega) (by omega)).trans f9_p0_1
  have f10_31 : V10 (31) = tU (rMod 0) x := (hk10 _ (by decide) (by decide)).trans f9_31
  have f10_32 : V10 (32) = mm (rMod 0) (y) (z) := (hk10 _ (by decide) (by decide)).trans f9_32
  have f10_33 : V10 (33) = tW (rMod 0) x y z := (hk10 _ (by decide) (by decide)).trans f9_33
  have f10_36 : V10 (36) = ss (rMod 0) (ss (rMod 0) (ss (rMod 0) (mm (rMod 0) (tU (rMod 0) x) (tU (rMod 0) x)) (tW (rMod 0) x y z)) (tW (rMod 0) x y z)) (tW (rMod 0) x y z) := ht10.trans (by simp only [f9_33, f9_36, f9_8])
  refine lv_iinc (v := nI 3) (lv' := [(2, .int (nI (3))), (0, .ref (rA G 0)), (1, .int (nI (p0)))]) hx hb d_R_twice_104 hl (k := 0) rfl (by decide) (by decide) rfl (fun ls hl => ?_)
  refine lv_goto (tgt := 86) hx hb d_R_twice_107 (by decide) ?_
  refine lv_iload_n hx hb d_R_twice_86 rfl (lv_at hl 0 rfl) ?_
  refine lv_bipush (v := nI 8) hx hb d_R_twice_87 (by decide) ?_
  refine n_ge (tgt := 110) hx hb d_R_twice_89 (by decide) (by decide) (by decide) (fun h => absurd h (by decide)) (fun _ => ?_)
  refine lv_aload_n hx hb d_R_twice_92 rfl (lv_at hl 1 rfl) ?_
  refine lv_bipush (v := nI 36) hx hb d_R_twice_93 (by decide) ?_
  refine lv_bipush (v := nI 36) hx hb d_R_twice_95 (by decide) ?_
  refine lv_bipush (v := nI 33) hx hb d_R_twice_97 (by decide) ?_
  refine lv_bipush (v := nI 8) hx hb d_R_twice_99 (by decide) ?_
  refine r_callv (np := 4) (As := [.int (nI (36)), .int (nI (36)), .int (nI (33)), .int (nI (8))]) (rest := []) ⟨hx, hb, hml, hown, ht⟩ hw (c_R_minus l G u10 (hu10.ok hok10) (by decide) (by decide) (by decide) (by decide) (by decide) (by decide) (by decide) (by rw [hu10.V, f10_8]; exact rMod_le (by decide)) (by rw [hu10.V, f10_36, f10_8]; exact ss_lt (rMod_pos (by decide))) (by rw [hu10.V, f10_33, f10_8]; exact mm_lt (rMod_pos (by decide)))) ⟨km_R_112, kv_R_minus, kx_R_minus, kc_R_minus⟩ (by decide +kernel) ⟨by decide, by decide⟩ rfl rfl rfl hl.1 rfl (by decide) d_R_twice_101 ⟨Nat.le_refl _, Nat.le_refl _⟩ (fun u11 H locs hp hw => ?_)
  obtain ⟨V11, hu11, ht11, hk11, hok11⟩ := q_minus hu10 hok10 (by rw [f10_8]; exact rMod_pos (by decide)) (by rw [f10_8]; exact rMod_le (by decide)) hp
  have f11_8 : V11 (8) = rMod 0 := (hk11 _ (by decide) (by decide)).trans f10_8
  have f11_p0_1 : V11 (p0 + 1) = y := (hk11 _ (by omega) (by omega)).trans f10_p0_1
  have f11_31 : V11 (31) = tU (rMod 0) x := (hk11 _ (by decide) (by decide)).trans f10_31
  have f11_32 : V11 (32) = mm (rMod 0) (y) (z) := (hk11 _ (by decide) (by decide)).trans f10_32
  have f11_33 : V11 (33) = tW (rMod 0) x y z := (hk11 _ (by decide) (by decide)).trans f10_33
  have f11_36 : V11 (36) = ss (rMod 0) (ss (rMod 0) (ss (rMod 0) (ss (rMod 0) (mm (rMod 0) (tU (rMod 0) x) (tU (rMod 0) x)) (tW (rMod 0) x y z)) (tW (rMod 0) x y z)) (tW (rMod 0) x y z)) (tW (rMod 0) x y z) := ht11.trans (by simp only [f10_33, f10_36, f10_8])
  refine lv_iinc (v := nI 4) (lv' := [(2, .int (nI (4))), (0, .ref (rA G 0)), (1, .int (nI (p0)))]) hx hb d_R_twice_104 hl (k := 0) rfl (by decide) (by decide) rfl (fun ls hl => ?_)
  refine lv_goto (tgt := 86) hx hb d_R_twice_107 (by decide) ?_
  refine lv_iload_n hx hb d_R_twice_86 rfl (lv_at hl 0 rfl) ?_
  refine lv_bipush (v := nI 8) hx hb d_R_twice_87 (by decide) ?_
  refine n_ge (tgt := 110) hx hb d_R_twice_89 (by decide) (by decide) (by decide) (fun h => absurd h (by decide)) (fun _ => ?_)
  refine lv_aload_n hx hb d_R_twice_92 rfl (lv_at hl 1 rfl) ?_
  refine lv_bipush (v := nI 36) hx hb d_R_twice_93 (by decide) ?_
  refine lv_bipush (v := nI 36) hx hb d_R_twice_95 (by decide) ?_
  refine lv_bipush (v := nI 33) hx hb d_R_twice_97 (by decide) ?_
  refine lv_bipush (v := nI 8) hx hb d_R_twice_99 (by decide) ?_
  refine r_callv (np := 4) (As := [.int (nI (36)), .int (nI (36)), .int (nI (33)), .int (nI (8))]) (rest := []) ⟨hx, hb, hml, hown, ht⟩ hw (c_R_minus l G u11 (hu11.ok hok11) (by decide) (by decide) (by decide) (by decide) (by decide) (by decide) (by decide) (by rw [hu11.V, f11_8]; exact rMod_le (by decide)) (by rw [hu11.V, f11_36, f11_8]; exact ss_lt (rMod_pos (by decide))) (by rw [hu11.V, f11_33, f11_8]; exact mm_lt (rMod_pos (by decide)))) ⟨km_R_112, kv_R_minus, kx_R_minus, kc_R_minus⟩ (by decide +kernel) ⟨by decide, by decide⟩ rfl rfl rfl hl.1 rfl (by decide) d_R_twice_101 ⟨Nat.le_refl _, Nat.le_refl _⟩ (fun u12 H locs hp hw => ?_)
  obtain ⟨V12, hu12, ht12, hk12, hok12⟩ := q_minus hu11 hok11 (by rw [f11_8]; exact rMod_pos (by decide)) (by rw [f11_8]; exact rMod_le (by decide)) hp
  have f12_8 : V12 (8) = rMod 0 := (hk12 _ (by decide) (by decide)).trans f11_8
  have f12_p0_1 : V12 (p0 + 1) = y := (hk12 _ (by omega) (by omega)).trans f11_p0_1
  have f12_31 : V12 (31) = tU (rMod 0) x := (hk12 _ (by decide) (by decide)).trans f11_31
  have f12_32 : V12 (32) = mm (rMod 0) (y) (z) := (hk12 _ (by decide) (by decide)).trans f11_32
  have f12_33 : V12 (33) = tW (rMod 0) x y z := (hk12 _ (by decide) (by decide)).trans f11_33
  have f12_36 : V12 (36) = ss (rMod 0) (ss (rMod 0) (ss (rMod 0) (ss (rMod 0) (ss (rMod 0) (mm (rMod 0) (tU (rMod 0) x) (tU (rMod 0) x)) (tW (rMod 0) x y z)) (tW (rMod 0) x y z)) (tW (rMod 0) x y z)) (tW (rMod 0) x y z)) (tW (rMod 0) x y z) := ht12.trans (by simp only [f11_33, f11_36, f11_8])
  refine lv_iinc (v := nI 5) (lv' := [(2, .int (nI (5))), (0, .ref (rA G 0)), (1, .int (nI (p0)))]) hx hb d_R_twice_104 hl (k := 0) rfl (by decide) (by decide) rfl (fun ls hl => ?_)
  refine lv_goto (tgt := 86) hx hb d_R_twice_107 (by decide) ?_
  refine lv_iload_n hx hb d_R_twice_86 rfl (lv_at hl 0 rfl) ?_
  refine lv_bipush (v := nI 8) hx hb d_R_twice_87 (by decide) ?_
  refine n_ge (tgt := 110) hx hb d_R_twice_89 (by decide) (by decide) (by decide) (fun h => absurd h (by decide)) (fun _ => ?_)
  refine lv_aload_n hx hb d_R_twice_92 rfl (lv_at hl 1 rfl) ?_
  refine lv_bipush (v := nI 36) hx hb d_R_twice_93 (by decide) ?_
  refine lv_bipush (v := nI 36) hx hb d_R_twice_95 (by decide) ?_
  refine lv_bipush (v := nI 33) hx hb d_R_twice_97 (by decide) ?_
  refine lv_bipush (v := nI 8) hx hb d_R_twice_99 (by decide) ?_
  refine r_callv (np := 4) (As := [.int (nI (36)), .int (nI (36)), .int (nI (33)), .int (nI (8))]) (rest := []) ⟨hx, hb, hml, hown, ht⟩ hw (c_R_minus l G u12 (hu12.ok hok12) (by decide) (by decide) (by decide) (by decide) (by decide) (by decide) (by decide) (by rw [hu12.V, f12_8]; exact rMod_le (by decide)) (by rw [hu12.V, f12_36, f12_8]; exact ss_lt (rMod_pos (by decide))) (by rw [hu12.V, f12_33, f12_8]; exact mm_lt (rMod_pos (by decide)))) ⟨km_R_112, kv_R_minus, kx_R_minus, kc_R_minus⟩ (by decide +kernel) ⟨by decide, by decide⟩ rfl rfl rfl hl.1 rfl (by decide) d_R_twice_101 ⟨Nat.le_refl _, Nat.le_refl _⟩ (fun u13 H locs hp hw => ?_)
  obtain ⟨V13, hu13, ht13, hk13, hok13⟩ := q_minus hu12 hok12 (by rw [f12_8]; exact rMod_pos (by decide)) (by rw [f12_8]; exact rMod_le (by decide)) hp
  have f13_8 : V13 (8) = rMod 0 := (hk13 _ (by decide) (by decide)).trans f12_8
  have f13_p0_1 : V13 (p0 + 1) = y := (hk13 _ (by omega) (by omega)).trans f12_p0_1
  have f13_31 : V13 (31) = tU (rMod 0) x := (hk13 _ (by decide) (by decide)).trans f12_31
  have f13_32 : V13 (32) = mm (rMod 0) (y) (z) := (hk13 _ (by decide) (by decide)).trans f12_32
  have f13_33 : V13 (33) = tW (rMod 0) x y z := (hk13 _ (by decide) (by decide)).trans f12_33
  have f13_36 : V13 (36) = ss (rMod 0) (ss (rMod 0) (ss (rMod 0) (ss (rMod 0) (ss (rMod 0) (ss (rMod 0) (mm (rMod 0) (tU (rMod 0) x) (tU (rMod 0) x)) (tW (rMod 0) x y z)) (tW (rMod 0) x y z)) (tW (rMod 0) x y z)) (tW (rMod 0) x y z)) (tW (rMod 0) x y z)) (tW (rMod 0) x y z) := ht13.trans (by simp only [f12_33, f12_36, f12_8])
  refine lv_iinc (v := nI 6) (lv' := [(2, .int (nI (6))), (0, .ref (rA G 0)), (1, .int (nI (p0)))]) hx hb d_R_twice_104 hl (k := 0) rfl (by decide) (by decide) rfl (fun ls hl => ?_)
  refine lv_goto (tgt := 86) hx hb d_R_twice_107 (by decide) ?_
  refine lv_iload_n hx hb d_R_twice_86 rfl (lv_at hl 0 rfl) ?_
  refine lv_bipush (v := nI 8) hx hb d_R_twice_87 (by decide) ?_
  refine n_ge (tgt := 110) hx hb d_R_twice_89 (by decide) (by decide) (by decide) (fun h => absurd h (by decide)) (fun _ => ?_)
  refine lv_aload_n hx hb d_R_twice_92 rfl (lv_at hl 1 rfl) ?_
  refine lv_bipush (v := nI 36) hx hb d_R_twice_93 (by decide) ?_
  refine lv_bipush (v := nI 36) hx hb d_R_twice_95 (by decide) ?_
  refine lv_bipush (v := nI 33) hx hb d_R_twice_97 (by decide) ?_
  refine lv_bipush (v := nI 8) hx hb d_R_twice_99 (by decide) ?_
  refine r_callv (np := 4) (As := [.int (nI (36)), .int (nI (36)), .int (nI (33)), .int (nI (8))]) (rest := []) ⟨hx, hb, hml, hown, ht⟩ hw (c_R_minus l G u13 (hu13.ok hok13) (by decide) (by decide) (by decide) (by decide) (by decide) (by decide) (by decide) (by rw [hu13.V, f13_8]; exact rMod_le (by decide)) (by rw [hu13.V, f13_36, f13_8]; exact ss_lt (rMod_pos (by decide))) (by rw [hu13.V, f13_33, f13_8]; exact mm_lt (rMod_pos (by decide)))) ⟨km_R_112, kv_R_minus, kx_R_minus, kc_R_minus⟩ (by decide +kernel) ⟨by decide, by decide⟩ rfl rfl rfl hl.1 rfl (by decide) d_R_twice_101 ⟨Nat.le_refl _, Nat.le_refl _⟩ (fun u14 H locs hp hw => ?_)
  obtain ⟨V14, hu14, ht14, hk14, hok14⟩ := q_minus hu13 hok13 (by rw [f13_8]; exact rMod_pos (by decide)) (by rw [f13_8]; exact rMod_le (by decide)) hp
  have f14_8 : V14 (8) = rMod 0 := (hk14 _ (by decide) (by decide)).trans f13_8
  have f14_p0_1 : V14 (p0 + 1) = y := (hk14 _ (by omega) (by omega)).trans f13_p0_1
  have f14_31 : V14 (31) = tU (rMod 0) x := (hk14 _ (by decide) (by decide)).trans f13_31
  have f14_32 : V14 (32) = mm (rMod 0) (y) (z) := (hk14 _ (by decide) (by decide)).trans f13_32
  have f14_33 : V14 (33) = tW (rMod 0) x y z := (hk14 _ (by decide) (by decide)).trans f13_33
  have f14_36 : V14 (36) = ss (rMod 0) (ss (rMod 0) (ss (rMod 0) (ss (rMod 0) (ss (rMod 0) (ss (rMod 0) (ss (rMod 0) (mm (rMod 0) (tU (rMod 0) x) (tU (rMod 0) x)) (tW (rMod 0) x y z)) (tW (rMod 0) x y z)) (tW (rMod 0) x y z)) (tW (rMod 0) x y z)) (tW (rMod 0) x y z)) (tW (rMod 0) x y z)) (tW (rMod 0) x y z) := ht14.trans (by simp only [f13_33, f13_36, f13_8])
  refine lv_iinc (v := nI 7) (lv' := [(2, .int (nI (7))), (0, .ref (rA G 0)), (1, .int (nI (p0)))]) hx hb d_R_twice_104 hl (k := 0) rfl (by decide) (by decide) rfl (fun ls hl => ?_)
  refine lv_goto (tgt := 86) hx hb d_R_twice_107 (by decide) ?_
  refine lv_iload_n hx hb d_R_twice_86 rfl (lv_at hl 0 rfl) ?_
  refine lv_bipush (v := nI 8) hx hb d_R_twice_87 (by decide) ?_
  refine n_ge (tgt := 110) hx hb d_R_twice_89 (by decide) (by decide) (by decide) (fun h => absurd h (by decide)) (fun _ => ?_)
  refine lv_aload_n hx hb d_R_twice_92 rfl (lv_at hl 1 rfl) ?_
  refine lv_bipush (v := nI 36) hx hb d_R_twice_93 (by decide) ?_
  refine lv_bipush (v := nI 36) hx hb d_R_twice_95 (by decide) ?_
  refine lv_bipush (v := nI 33) hx hb d_R_twice_97 (by decide) ?_
  refine lv_bipush (v := nI 8) hx hb d_R_twice_99 (by decide) ?_
  refine r_callv (np := 4) (As := [.int (nI (36)), .int (nI (36)), .int (nI (33)), .int (nI (8))]) (rest := []) ⟨hx, hb, hml, hown, ht⟩ hw (c_R_minus l G u14 (hu14.ok hok14) (by decide) (by decide) (by decide) (by decide) (by decide) (by decide) (by decide) (by rw [hu14.V, f14_8]; exact rMod_le (by decide)) (by rw [hu14.V, f14_36, f14_8]; exact ss_lt (rMod_pos (by decide))) (by rw [hu14.V, f14_33, f14_8]; exact mm_lt (rMod_pos (by decide)))) ⟨km_R_112, kv_R_minus, kx_R_minus, kc_R_minus⟩ (by decide +kernel) ⟨by decide, by decide⟩ rfl rfl rfl hl.1 rfl (by decide) d_R_twice_101 ⟨Nat.le_refl _, Nat.le_refl _⟩ (fun u15 H locs hp hw => ?_)
  obtain ⟨V15, hu15, ht15, hk15, hok15⟩ := q_minus hu14 hok14 (by rw [f14_8]; exact rMod_pos (by decide)) (by rw [f14_8]; exact rMod_le (by decide)) hp
  have f15_8 : V15 (8) = rMod 0 := (hk15 _ (by decide) (by decide)).trans f14_8
  have f15_p0_1 : V15 (p0 + 1) = y := (hk15 _ (by omega) (by omega)).trans f14_p0_1
  have f15_31 : V15 (31) = tU (rMod 0) x := (hk15 _ (by decide) (by decide)).trans f14_31
  have f15_32 : V15 (32) = mm (rMod 0) (y) (z) := (hk15 _ (by decide) (by decide)).trans f14_32
  have f15_33 : V15 (33) = tW (rMod 0) x y z := (hk15 _ (by decide) (by decide)).trans f14_33
  have f15_36 : V15 (36) = ss (rMod 0) (ss (rMod 0) (ss (rMod 0) (ss (rMod 0) (ss (rMod 0) (ss (rMod 0) (ss (rMod 0) (ss (rMod 0) (mm (rMod 0) (tU (rMod 0) x) (tU (rMod 0) x)) (tW (rMod 0) x y z)) (tW (rMod 0) x y z)) (tW (rMod 0) x y z)) (tW (rMod 0) x y z)) (tW (rMod 0) x y z)) (tW (rMod 0) x y z)) (tW (rMod 0) x y z)) (tW (rMod 0) x y z) := ht15.trans (by simp only [f14_33, f14_36, f14_8])
  refine lv_iinc (v := nI 8) (lv' := [(2, .int (nI (8))), (0, .ref (rA G 0)), (1, .int (nI (p0)))]) hx hb d_R_twice_104 hl (k := 0) rfl (by decide) (by decide) rfl (fun ls hl => ?_)
  refine lv_goto (tgt := 86) hx hb d_R_twice_107 (by decide) ?_
  refine lv_iload_n hx hb d_R_twice_86 rfl (lv_at hl 0 rfl) ?_
  refine lv_bipush (v := nI 8) hx hb d_R_twice_87 (by decide) ?_
  refine n_ge (tgt := 110) hx hb d_R_twice_89 (by decide) (by decide) (by decide) (fun _ => ?_) (fun h => absurd h (by decide))
  have f15_36n : V15 (36) = tZ (rMod 0) x y z := f15_36
  refine lv_aload_n hx hb d_R_twice_110 rfl (lv_at hl 1 rfl) ?_
  refine lv_bipush (v := nI 34) hx hb d_R_twice_111 (by decide) ?_
  refine lv_bipush (v := nI 33) hx hb d_R_twice_113 (by decide) ?_
  refine lv_bipush (v := nI 33) hx hb d_R_twice_115 (by decide) ?_
  refine lv_bipush (v := nI 8) hx hb d_R_twice_117 (by decide) ?_
  refine r_callv (np := 4) (As := [.int (nI (34)), .int (nI (33)), .int (nI (33)), .int (nI (8))]) (rest := []) ⟨hx, hb, hml, hown, ht⟩ hw (c_R_plus l G u15 (hu15.ok hok15) (by decide) (by decide) (by decide) (by decide) (by rw [hu15.V, f15_8]; exact rMod_le (by decide)) (by rw [hu15.V, f15_33, f15_8]; exact mm_lt (rMod_pos (by decide))) (by rw [hu15.V, f15_33, f15_8]; exact mm_lt (rMod_pos (by decide)))) ⟨km_R_124, kv_R_plus, kx_R_plus, kc_R_plus⟩ (by decide +kernel) ⟨by decide, by decide⟩ rfl rfl rfl hl.1 rfl (by decide) d_R_twice_119 ⟨Nat.le_refl _, Nat.le_refl _⟩ (fun u16 H locs hp hw => ?_)
  obtain ⟨V16, hu16, ht16, hk16, hok16⟩ := q_plus hu15 hok15 (by rw [f15_8]; exact rMod_pos (by decide)) (by rw [f15_8]; exact rMod_le (by decide)) hp
  have f16_8 : V16 (8) = rMod 0 := (hk16 _ (by decide) (by decide)).trans f15_8
  have f16_p0_1 : V16 (p0 + 1) = y := (hk16 _ (by omega) (by omega)).trans f15_p0_1
  have f16_31 : V16 (31) = tU (rMod 0) x := (hk16 _ (by decide) (by decide)).trans f15_31
  have f16_32 : V16 (32) = mm (rMod 0) (y) (z) := (hk16 _ (by decide) (by decide)).trans f15_32
  have f16_33 : V16 (33) = tW (rMod 0) x y z := (hk16 _ (by decide) (by decide)).trans f15_33
  have f16_36 : V16 (36) = tZ (rMod 0) x y z := (hk16 _ (by decide) (by decide)).trans f15_36n
  have f16_34 : V16 (34) = pp (rMod 0) (tW (rMod 0) x y z) (tW (rMod 0) x y z) := ht16.trans (by simp only [f15_33, f15_8])
  refine lv_aload_n hx hb d_R_twice_122 rfl (lv_at hl 1 rfl) ?_
  refine lv_bipush (v := nI 34) hx hb d_R_twice_123 (by decide) ?_
  refine lv_bipush (v := nI 34) hx hb d_R_twice_125 (by decide) ?_
  refine lv_bipush (v := nI 34) hx hb d_R_twice_127 (by decide) ?_
  refine lv_bipush (v := nI 8) hx hb d_R_twice_129 (by decide) ?_
  refine r_callv (np := 4) (As := [.int (nI (34)), .int (nI (34)), .int (nI (34)), .int (nI (8))]) (rest := []) ⟨hx, hb, hml, hown, ht⟩ hw (c_R_plus l G u16 (hu16.ok hok16) (by decide) (by decide) (by decide) (by decide) (by rw [hu16.V, f16_8]; exact rMod_le (by decide)) (by rw [hu16.V, f16_34, f16_8]; exact pp_lt (rMod_pos (by decide))) (by rw [hu16.V, f16_34, f16_8]; exact pp_lt (rMod_pos (by decide)))) ⟨km_R_124, kv_R_plus, kx_R_plus, kc_R_plus⟩ (by decide +kernel) ⟨by decide, by decide⟩ rfl rfl rfl hl.1 rfl (by decide) d_R_twice_131 ⟨Nat.le_refl _, Nat.le_refl _⟩ (fun u17 H locs hp hw => ?_)
  obtain ⟨V17, hu17, ht17, hk17, hok17⟩ := q_plus hu16 hok16 (by rw [f16_8]; exact rMod_pos (by decide)) (by rw [f16_8]; exact rMod_le (by decide)) hp
  have f17_8 : V17 (8) = rMod 0 := (hk17 _ (by decide) (by decide)).trans f16_8
  have f17_p0_1 : V17 (p0 + 1) = y := (hk17 _ (by omega) (by omega)).trans f16_p0_1
  have f17_31 : V17 (31) = tU (rMod 0) x := (hk17 _ (by decide) (by decide)).trans f16_31
  have f17_32 : V17 (32) = mm (rMod 0) (y) (z) := (hk17 _ (by decide) (by decide)).trans f16_32
  have f17_33 : V17 (33) = tW (rMod 0) x y z := (hk17 _ (by decide) (by decide)).trans f16_33
  have f17_36 : V17 (36) = tZ (rMod 0) x y z := (hk17 _ (by decide) (by decide)).trans f16_36
  have f17_34 : V17 (34) = pp (rMod 0) (pp (rMod 0) (tW (rMod 0) x y z) (tW (rMod 0) x y z)) (pp (rMod 0) (tW (rMod 0) x y z) (tW (rMod 0) x y z)) := ht17.trans (by simp only [f16_34, f16_8])
  refine lv_aload_n hx hb d_R_twice_134 rfl (lv_at hl 1 rfl) ?_
  refine lv_bipush (v := nI 34) hx hb d_R_twice_135 (by decide) ?_
  refine lv_bipush (v := nI 34) hx hb d_R_twice_137 (by decide) ?_
  refine lv_bipush (v := nI 36) hx hb d_R_twice_139 (by decide) ?_
  refine lv_bipush (v := nI 8) hx hb d_R_twice_141 (by decide) ?_
  refine r_callv (np := 4) (As := [.int (nI (34)), .int (nI (34)), .int (nI (36)), .int (nI (8))]) (rest := []) ⟨hx, hb, hml, hown, ht⟩ hw (c_R_minus l G u17 (hu17.ok hok17) (by decide) (by decide) (by decide) (by decide) (by decide) (by decide) (by decide) (by rw [hu17.V, f17_8]; exact rMod_le (by decide)) (by rw [hu17.V, f17_34, f17_8]; exact pp_lt (rMod_pos (by decide))) (by rw [hu17.V, f17_36, f17_8]; exact ss_lt (rMod_pos (by decide)))) ⟨km_R_112, kv_R_minus, kx_R_minus, kc_R_minus⟩ (by decide +kernel) ⟨by decide, by decide⟩ rfl rfl rfl hl.1 rfl (by decide) d_R_twice_143 ⟨Nat.le_refl _, Nat.le_refl _⟩ (fun u18 H locs hp hw => ?_)
  obtain ⟨V18, hu18, ht18, hk18, hok18⟩ := q_minus hu17 hok17 (by rw [f17_8]; exact rMod_pos (by decide)) (by rw [f17_8]; exact rMod_le (by decide)) hp
  have f18_8 : V18 (8) = rMod 0 := (hk18 _ (by decide) (by decide)).trans f17_8
  have f18_p0_1 : V18 (p0 + 1) = y := (hk18 _ (by omega) (by omega)).trans f17_p0_1
  have f18_31 : V18 (31) = tU (rMod 0) x := (hk18 _ (by decide) (by decide)).trans f17_31
  have f18_32 : V18 (32) = mm (rMod 0) (y) (z) := (hk18 _ (by decide) (by decide)).trans f17_32
  have f18_36 : V18 (36) = tZ (rMod 0) x y z := (hk18 _ (by decide) (by decide)).trans f17_36
  have f18_34 : V18 (34) = ss (rMod 0) (pp (rMod 0) (pp (rMod 0) (tW (rMod 0) x y z) (tW (rMod 0) x y z)) (pp (rMod 0) (tW (rMod 0) x y z) (tW (rMod 0) x y z))) (tZ (rMod 0) x y z) := ht18.trans (by simp only [f17_34, f17_36, f17_8])
  have f18_34n : V18 (34) = tX (rMod 0) x y z := f18_34
  refine lv_aload_n hx hb d_R_twice_146 rfl (lv_at hl 1 rfl) ?_
  refine lv_bipush (v := nI 34) hx hb d_R_twice_147 (by decide) ?_
  refine lv_bipush (v := nI 31) hx hb d_R_twice_149 (by decide) ?_
  refine lv_bipush (v := nI 34) hx hb d_R_twice_151 (by decide) ?_
  refine lv_bipush (v := nI 8) hx hb d_R_twice_153 (by decide) ?_
  refine r_callv (np := 4) (As := [.int (nI (34)), .int (nI (31)), .int (nI (34)), .int (nI (8))]) (rest := []) ⟨hx, hb, hml, hown, ht⟩ hw (c_R_multiply l G u18 (hu18.ok hok18) (μ := 0) (by decide) (by decide) (by decide) (by decide) (by decide) (by rw [hu18.V]; exact f18_8)) ⟨km_R_96, kv_R_multiply, kx_R_multiply, kc_R_multiply⟩ (by decide +kernel) ⟨by decide, by decide⟩ rfl rfl rfl hl.1 rfl (by decide) d_R_twice_155 ⟨Nat.le_refl _, Nat.le_refl _⟩ (fun u19 H locs hp hw => ?_)
  obtain ⟨V19, hu19, ht19, hk19, hok19⟩ := q_mul (by decide) hu18 hok18 hp
  have f19_8 : V19 (8) = rMod 0 := (hk19 _ (by decide)).trans f18_8
  have f19_p0_1 : V19 (p0 + 1) = y := (hk19 _ (by omega)).trans f18_p0_1
  have f19_31 : V19 (31) = tU (rMod 0) x := (hk19 _ (by decide)).trans f18_31
  have f19_32 : V19 (32) = mm (rMod 0) (y) (z) := (hk19 _ (by decide)).trans f18_32
  have f19_36 : V19 (36) = tZ (rMod 0) x y z := (hk19 _ (by decide)).trans f18_36
  have f19_34 : V19 (34) = mm (rMod 0) (tU (rMod 0) x) (tX (rMod 0) x y z) := ht19.trans (by simp only [f18_31, f18_34n])
  refine lv_aload_n hx hb d_R_twice_158 rfl (lv_at hl 1 rfl) ?_
  refine lv_bipush (v := nI 35) hx hb d_R_twice_159 (by decide) ?_
  refine lv_iload_n hx hb d_R_twice_161 rfl (lv_at hl 2 rfl) ?_
  refine lv_iconst (v := nI 1) hx hb d_R_twice_162 (by decide) ?_
  refine lv_iadd hx hb d_R_twice_163 ?_
  refine tp_i (y := nI (p0 + 1)) (nI_add _ _) ?_
  refine lv_bipush (v := nI 32) hx hb d_R_twice_164 (by decide) ?_
  refine lv_bipush (v := nI 8) hx hb d_R_twice_166 (by decide) ?_
  refine r_callv (np := 4) (As := [.int (nI (35)), .int (nI (p0 + 1)), .int (nI (32)), .int (nI (8))]) (rest := []) ⟨hx, hb, hml, hown, ht⟩ hw (c_R_multiply l G u19 (hu19.ok hok19) (μ := 0) (by decide) (by decide) (by omega) (by decide) (by decide) (by rw [hu19.V]; exact f19_8)) ⟨km_R_96, kv_R_multiply, kx_R_multiply, kc_R_multiply⟩ (by decide +kernel) ⟨by decide, by decide⟩ rfl rfl rfl hl.1 rfl (by decide) d_R_twice_168 ⟨Nat.le_refl _, Nat.le_refl _⟩ (fun u20 H locs hp hw => ?_)
  obtain ⟨V20, hu20, ht20, hk20, hok20⟩ := q_mul (by decide) hu19 hok19 hp
  have f20_8 : V20 (8) = rMod 0 := (hk20 _ (by decide)).trans f19_8
  have f20_p0_1 : V20 (p0 + 1) = y := (hk20 _ (by omega)).trans f19_p0_1
  have f20_32 : V20 (32) = mm (rMod 0) (y) (z) := (hk20 _ (by decide)).trans f19_32
  have f20_36 : V20 (36) = tZ (rMod 0) x y z := (hk20 _ (by decide)).trans f19_36
  have f20_34 : V20 (34) = mm (rMod 0) (tU (rMod 0) x) (tX (rMod 0) x y z) := (hk20 _ (by decide)).trans f19_34
  have f20_35 : V20 (35) = mm (rMod 0) (y) (mm (rMod 0) (y) (z)) := ht20.trans (by simp only [f19_32, f19_p0_1])
  refine lv_aload_n hx hb d_R_twice_171 rfl (lv_at hl 1 rfl) ?_
  refine lv_bipush (v := nI 35) hx hb d_R_twice_172 (by decide) ?_
  refine lv_bipush (v := nI 35) hx hb d_R_twice_174 (by decide) ?_
  refine lv_bipush (v := nI 35) hx hb d_R_twice_176 (by decide) ?_
  refine lv_bipush (v := nI 8) hx hb d_R_twice_178 (by decide) ?_
  refine r_callv (np := 4) (As := [.int (nI (35)), .int (nI (35)), .int (nI (35)), .int (nI (8))]) (rest := []) ⟨hx, hb, hml, hown, ht⟩ hw (c_R_multiply l G u20 (hu20.ok hok20) (μ := 0) (by decide) (by decide) (by decide) (by decide) (by decide) (by rw [hu20.V]; exact f20_8)) ⟨km_R_96, kv_R_multiply, kx_R_multiply, kc_R_multiply⟩ (by decide +kernel) ⟨by decide, by decide⟩ rfl rfl rfl hl.1 rfl (by decide) d_R_twice_180 ⟨Nat.le_refl _, Nat.le_refl _⟩ (fun u21 H locs hp hw => ?_)
  obtain ⟨V21, hu21, ht21, hk21, hok21⟩ := q_mul (by decide) hu20 hok20 hp
  have f21_8 : V21 (8) = rMod 0 := (hk21 _ (by decide)).trans f20_8
  have f21_32 : V21 (32) = mm (rMod 0) (y) (z) := (hk21 _ (by decide)).trans f20_32
  have f21_36 : V21 (36) = tZ (rMod 0) x y z := (hk21 _ (by decide)).trans f20_36
  have f21_34 : V21 (34) = mm (rMod 0) (tU (rMod 0) x) (tX (rMod 0) x y z) := (hk21 _ (by decide)).trans f20_34
  have f21_35 : V21 (35) = mm (rMod 0) (mm (rMod 0) (y) (mm (rMod 0) (y) (z))) (mm (rMod 0) (y) (mm (rMod 0) (y) (z))) := ht21.trans (by simp only [f20_35])
  have f21_35n : V21 (35) = tY (rMod 0) y z := f21_35
  refine lv_iconst (v := nI 0) hx hb d_R_twice_183 (by decide) ?_
  refine lv_istore_n (lv' := [(2, .int (nI (0))), (0, .ref (rA G 0)), (1, .int (nI (p0)))]) hx hb d_R_twice_184 rfl hl (by decide) rfl (fun ls hl => ?_)
  refine lv_iload_n hx hb d_R_twice_185 rfl (lv_at hl 0 rfl) ?_
  refine lv_bipush (v := nI 8) hx hb d_R_twice_186 (by decide) ?_
  refine n_ge (tgt := 209) hx hb d_R_twice_188 (by decide) (by decide) (by decide) (fun h => absurd h (by decide)) (fun _ => ?_)
  refine lv_aload_n hx hb d_R_twice_191 rfl (lv_at hl 1 rfl) ?_
  refine lv_bipush (v := nI 34) hx hb d_R_twice_192 (by decide) ?_
  refine lv_bipush (v := nI 34) hx hb d_R_twice_194 (by decide) ?_
  refine lv_bipush (v := nI 35) hx hb d_R_twice_196 (by decide) ?_
  refine lv_bipush (v := nI 8) hx hb d_R_twice_198 (by decide) ?_
  refine r_callv (np := 4) (As := [.int (nI (34)), .int (nI (34)), .int (nI (35)), .int (nI (8))]) (rest := []) ⟨hx, hb, hml, hown, ht⟩ hw (c_R_minus l G u21 (hu21.ok hok21) (by decide) (by decide) (by decide) (by decide) (by decide) (by decide) (by decide) (by rw [hu21.V, f21_8]; exact rMod_le (by decide)) (by rw [hu21.V, f21_34, f21_8]; exact mm_lt (rMod_pos (by decide))) (by rw [hu21.V, f21_35n, f21_8]; exact mm_lt (rMod_pos (by decide)))) ⟨km_R_112, kv_R_minus, kx_R_minus, kc_R_minus⟩ (by decide +kernel) ⟨by decide, by decide⟩ rfl rfl rfl hl.1 rfl (by decide) d_R_twice_200 ⟨Nat.le_refl _, Nat.le_refl _⟩ (fun u22 H locs hp hw => ?_)
  obtain ⟨V22, hu22, ht22, hk22, hok22⟩ := q_minus hu21 hok21 (by rw [f21_8]; exact rMod_pos (by decide)) (by rw [f21_8]; exact rMod_le (by decide)) hp
  have f22_8 : V22 (8) = rMod 0 := (hk22 _ (by decide) (by decide)).trans f21_8
  have f22_32 : V22 (32) = mm (rMod 0) (y) (z) := (hk22 _ (by decide) (by decide)).trans f21_32
  have f22_36 : V22 (36) = tZ (rMod 0) x y z := (hk22 _ (by decide) (by decide)).trans f21_36
  have f22_35 : V22 (35) = tY (rMod 0) y z := (hk22 _ (by decide) (by decide)).trans f21_35n
  have f22_34 : V22 (34) = ss (rMod 0) (mm (rMod 0) (tU (rMod 0) x) (tX (rMod 0) x y z)) (tY (rMod 0) y z) := ht22.trans (by simp only [f21_34, f21_35n, f21_8])
  refine lv_iinc (v := nI 1) (lv' := [(2, .int (nI (1))), (0, .ref (rA G 0)), (1, .int (nI (p0)))]) hx hb d_R_twice_203 hl (k := 0) rfl (by decide) (by decide) rfl (fun ls hl => ?_)
  refine lv_goto (tgt := 185) hx hb d_R_twice_206 (by decide) ?_
  refine lv_iload_n hx hb d_R_twice_185 rfl (lv_at hl 0 rfl) ?_
  refine lv_bipush (v := nI 8) hx hb d_R_twice_186 (by decide) ?_
  refine n_ge (tgt := 209) hx hb d_R_twice_188 (by decide) (by decide) (by decide) (fun h => absurd h (by decide)) (fun _ => ?_)
  refine lv_aload_n hx hb d_R_twice_191 rfl (lv_at hl 1 rfl) ?_
  refine lv_bipush (v := nI 34) hx hb d_R_twice_192 (by decide) ?_
  refine lv_bipush (v := nI 34) hx hb d_R_twice_194 (by decide) ?_
  refine lv_bipush (v := nI 35) hx hb d_R_twice_196 (by decide) ?_
  refine lv_bipush (v := nI 8) hx hb d_R_twice_198 (by decide) ?_
  refine r_callv (np := 4) (As := [.int (nI (34)), .int (nI (34)), .int (nI (35)), .int (nI (8))]) (rest := []) ⟨hx, hb, hml, hown, ht⟩ hw (c_R_minus l G u22 (hu22.ok hok22) (by decide) (by decide) (by decide) (by decide) (by decide) (by decide) (by decide) (by rw [hu22.V, f22_8]; exact rMod_le (by decide)) (by rw [hu22.V, f22_34, f22_8]; exact ss_lt (rMod_pos (by decide))) (by rw [hu22.V, f22_35, f22_8]; exact mm_lt (rMod_pos (by decide)))) ⟨km_R_112, kv_R_minus, kx_R_minus, kc_R_minus⟩ (by decide +kernel) ⟨by decide, by decide⟩ rfl rfl rfl hl.1 rfl (by decide) d_R_twice_200 ⟨Nat.le_refl _, Nat.le_refl _⟩ (fun u23 H locs hp hw => ?_)
  obtain ⟨V23, hu23, ht23, hk23, hok23⟩ := q_minus hu22 hok22 (by rw [f22_8]; exact rMod_pos (by decide)) (by rw [f22_8]; exact rMod_le (by decide)) hp
  have f23_8 : V23 (8) = rMod 0 := (hk23 _ (by decide) (by decide)).trans f22_8
  have f23_32 : V23 (32) = mm (rMod 0) (y) (z) := (hk23 _ (by decide) (by decide)).trans f22_32
  have f23_36 : V23 (36) = tZ (rMod 0) x y z := (hk23 _ (by decide) (by decide)).trans f22_36
  have f23_35 : V23 (35) = tY (rMod 0) y z := (hk23 _ (by decide) (by decide)).trans f22_35
  have f23_34 : V23 (34) = ss (rMod 0) (ss (rMod 0) (mm (rMod 0) (tU (rMod 0) x) (tX (rMod 0) x y z)) (tY (rMod 0) y z)) (tY (rMod 0) y z) := ht23.trans (by simp only [f22_34, f22_35, f22_8])
  refine lv_iinc (v := nI 2) (lv' := [(2, .int (nI (2))), (0, .ref (rA G 0)), (1, .int (nI (p0)))]) hx hb d_R_twice_203 hl (k := 0) rfl (by decide) (by decide) rfl (fun ls hl => ?_)
  refine lv_goto (tgt := 185) hx hb d_R_twice_206 (by decide) ?_
  refine lv_iload_n hx hb d_R_twice_185 rfl (lv_at hl 0 rfl) ?_
  refine lv_bipush (v := nI 8) hx hb d_R_twice_186 (by decide) ?_
  refine n_ge (tgt := 209) hx hb d_R_twice_188 (by decide) (by decide) (by decide) (fun h => absurd h (by decide)) (fun _ => ?_)
  refine lv_aload_n hx hb d_R_twice_191 rfl (lv_at hl 1 rfl) ?_
  refine lv_bipush (v := nI 34) hx hb d_R_twice_192 (by decide) ?_
  refine lv_bipush (v := nI 34) hx hb d_R_twice_194 (by decide) ?_
  refine lv_bipush (v := nI 35) hx hb d_R_twice_196 (by decide) ?_
  refine lv_bipush (v := nI 8) hx hb d_R_twice_198 (by decide) ?_
  refine r_callv (np := 4) (As := [.int (nI (34)), .int (nI (34)), .int (nI (35)), .int (nI (8))]) (rest := []) ⟨hx, hb, hml, hown, ht⟩ hw (c_R_minus l G u23 (hu23.ok hok23) (by decide) (by decide) (by decide) (by decide) (by decide) (by decide) (by decide) (by rw [hu23.V, f23_8]; exact rMod_le (by decide)) (by rw [hu23.V, f23_34, f23_8]; exact ss_lt (rMod_pos (by decide))) (by rw [hu23.V, f23_35, f23_8]; exact mm_lt (rMod_pos (by decide)))) ⟨km_R_112, kv_R_minus, kx_R_minus, kc_R_minus⟩ (by decide +kernel) ⟨by decide, by decide⟩ rfl rfl rfl hl.1 rfl (by decide) d_R_twice_200 ⟨Nat.le_refl _, Nat.le_refl _⟩ (fun u24 H locs hp hw => ?_)
  obtain ⟨V24, hu24, ht24, hk24, hok24⟩ := q_minus hu23 hok23 (by rw [f23_8]; exact rMod_pos (by decide)) (by rw [f23_8]; exact rMod_le (by decide)) hp
  have f24_8 : V24 (8) = rMod 0 := (hk24 _ (by decide) (by decide)).trans f23_8
  have f24_32 : V24 (32) = mm (rMod 0) (y) (z) := (hk24 _ (by decide) (by decide)).trans f23_32
  have f24_36 : V24 (36) = tZ (rMod 0) x y z := (hk24 _ (by decide) (by decide)).trans f23_36
  have f24_35 : V24 (35) = tY (rMod 0) y z := (hk24 _ (by decide) (by decide)).trans f23_35
  have f24_34 : V24 (34) = ss (rMod 0) (ss (rMod 0) (ss (rMod 0) (mm (rMod 0) (tU (rMod 0) x) (tX (rMod 0) x y z)) (tY (rMod 0) y z)) (tY (rMod 0) y z)) (tY (rMod 0) y z) := ht24.trans (by simp only [f23_34, f23_35, f23_8])
  refine lv_iinc (v := nI 3) (lv' := [(2, .int (nI (3))), (0, .ref (rA G 0)), (1, .int (nI (p0)))]) hx hb d_R_twice_203 hl (k := 0) rfl (by decide) (by decide) rfl (fun ls hl => ?_)
  refine lv_goto (tgt := 185) hx hb d_R_twice_206 (by decide) ?_
  refine lv_iload_n hx hb d_R_twice_185 rfl (lv_at hl 0 rfl) ?_
  refine lv_bipush (v := nI 8) hx hb d_R_twice_186 (by decide) ?_
  refine n_ge (tgt := 209) hx hb d_R_twice_188 (by decide) (by decide) (by decide) (fun h => absurd h (by decide)) (fun _ => ?_)
  refine lv_aload_n hx hb d_R_twice_191 rfl (lv_at hl 1 rfl) ?_
  refine lv_bipush (v := nI 34) hx hb d_R_twice_192 (by decide) ?_
  refine lv_bipush (v := nI 34) hx hb d_R_twice_194 (by decide) ?_
  refine lv_bipush (v := nI 35) hx hb d_R_twice_196 (by decide) ?_
  refine lv_bipush (v := nI 8) hx hb d_R_twice_198 (by decide) ?_
  refine r_callv (np := 4) (As := [.int (nI (34)), .int (nI (34)), .int (nI (35)), .int (nI (8))]) (rest := []) ⟨hx, hb, hml, hown, ht⟩ hw (c_R_minus l G u24 (hu24.ok hok24) (by decide) (by decide) (by decide) (by decide) (by decide) (by decide) (by decide) (by rw [hu24.V, f24_8]; exact rMod_le (by decide)) (by rw [hu24.V, f24_34, f24_8]; exact ss_lt (rMod_pos (by decide))) (by rw [hu24.V, f24_35, f24_8]; exact mm_lt (rMod_pos (by decide)))) ⟨km_R_112, kv_R_minus, kx_R_minus, kc_R_minus⟩ (by decide +kernel) ⟨by decide, by decide⟩ rfl rfl rfl hl.1 rfl (by decide) d_R_twice_200 ⟨Nat.le_refl _, Nat.le_refl _⟩ (fun u25 H locs hp hw => ?_)
  obtain ⟨V25, hu25, ht25, hk25, hok25⟩ := q_minus hu24 hok24 (by rw [f24_8]; exact rMod_pos (by decide)) (by rw [f24_8]; exact rMod_le (by decide)) hp
  have f25_8 : V25 (8) = rMod 0 := (hk25 _ (by decide) (by decide)).trans f24_8
  have f25_32 : V25 (32) = mm (rMod 0) (y) (z) := (hk25 _ (by decide) (by decide)).trans f24_32
  have f25_36 : V25 (36) = tZ (rMod 0) x y z := (hk25 _ (by decide) (by decide)).trans f24_36
  have f25_35 : V25 (35) = tY (rMod 0) y z := (hk25 _ (by decide) (by decide)).trans f24_35
  have f25_34 : V25 (34) = ss (rMod 0) (ss (rMod 0) (ss (rMod 0) (ss (rMod 0) (mm (rMod 0) (tU (rMod 0) x) (tX (rMod 0) x y z)) (tY (rMod 0) y z)) (tY (rMod 0) y z)) (tY (rMod 0) y z)) (tY (rMod 0) y z) := ht25.trans (by simp only [f24_34, f24_35, f24_8])
  refine lv_iinc (v := nI 4) (lv' := [(2, .int (nI (4))), (0, .ref (rA G 0)), (1, .int (nI (p0)))]) hx hb d_R_twice_203 hl (k := 0) rfl (by decide) (by decide) rfl (fun ls hl => ?_)
  refine lv_goto (tgt := 185) hx hb d_R_twice_206 (by decide) ?_
  refine lv_iload_n hx hb d_R_twice_185 rfl (lv_at hl 0 rfl) ?_
  refine lv_bipush (v := nI 8) hx hb d_R_twice_186 (by decide) ?_
  refine n_ge (tgt := 209) hx hb d_R_twice_188 (by decide) (by decide) (by decide) (fun h => absurd h (by decide)) (fun _ => ?_)
  refine lv_aload_n hx hb d_R_twice_191 rfl (lv_at hl 1 rfl) ?_
  refine lv_bipush (v := nI 34) hx hb d_R_twice_192 (by decide) ?_
  refine lv_bipush (v := nI 34) hx hb d_R_twice_194 (by decide) ?_
  refine lv_bipush (v := nI 35) hx hb d_R_twice_196 (by decide) ?_
  refine lv_bipush (v := nI 8) hx hb d_R_twice_198 (by decide) ?_
  refine r_callv (np := 4) (As := [.int (nI (34)), .int (nI (34)), .int (nI (35)), .int (nI (8))]) (rest := []) ⟨hx, hb, hml, hown, ht⟩ hw (c_R_minus l G u25 (hu25.ok hok25) (by decide) (by decide) (by decide) (by decide) (by decide) (by decide) (by decide) (by rw [hu25.V, f25_8]; exact rMod_le (by decide)) (by rw [hu25.V, f25_34, f25_8]; exact ss_lt (rMod_pos (by decide))) (by rw [hu25.V, f25_35, f25_8]; exact mm_lt (rMod_pos (by decide)))) ⟨km_R_112, kv_R_minus, kx_R_minus, kc_R_minus⟩ (by decide +kernel) ⟨by decide, by decide⟩ rfl rfl rfl hl.1 rfl (by decide) d_R_twice_200 ⟨Nat.le_refl _, Nat.le_refl _⟩ (fun u26 H locs hp hw => ?_)
  obtain ⟨V26, hu26, ht26, hk26, hok26⟩ := q_minus hu25 hok25 (by rw [f25_8]; exact rMod_pos (by decide)) (by rw [f25_8]; exact rMod_le (by decide)) hp
  have f26_8 : V26 (8) = rMod 0 := (hk26 _ (by decide) (by decide)).trans f25_8
  have f26_32 : V26 (32) = mm (rMod 0) (y) (z) := (hk26 _ (by decide) (by decide)).trans f25_32
  have f26_36 : V26 (36) = tZ (rMod 0) x y z := (hk26 _ (by decide) (by decide)).trans f25_36
  have f26_35 : V26 (35) = tY (rMod 0) y z := (hk26 _ (by decide) (by decide)).trans f25_35
  have f26_34 : V26 (34) = ss (rMod 0) (ss (rMod 0) (ss (rMod 0) (ss (rMod 0) (ss (rMod 0) (mm (rMod 0) (tU (rMod 0) x) (tX (rMod 0) x y z)) (tY (rMod 0) y z)) (tY (rMod 0) y z)) (tY (rMod 0) y z)) (tY (rMod 0) y z)) (tY (rMod 0) y z) := ht26.trans (by simp only [f25_34, f25_35, f25_8])
  refine lv_iinc (v := nI 5) (lv' := [(2, .int (nI (5))), (0, .ref (rA G 0)), (1, .int (nI (p0)))]) hx hb d_R_twice_203 hl (k := 0) rfl (by decide) (by decide) rfl (fun ls hl => ?_)
  refine lv_goto (tgt := 185) hx hb d_R_twice_206 (by decide) ?_
  refine lv_iload_n hx hb d_R_twice_185 rfl (lv_at hl 0 rfl) ?_
  refine lv_bipush (v := nI 8) hx hb d_R_twice_186 (by decide) ?_
  refine n_ge (tgt := 209) hx hb d_R_twice_188 (by decide) (by decide) (by decide) (fun h => absurd h (by decide)) (fun _ => ?_)
  refine lv_aload_n hx hb d_R_twice_191 rfl (lv_at hl 1 rfl) ?_
  refine lv_bipush (v := nI 34) hx hb d_R_twice_192 (by decide) ?_
  refine lv_bipush (v := nI 34) hx hb d_R_twice_194 (by decide) ?_
  refine lv_bipush (v := nI 35) hx hb d_R_twice_196 (by decide) ?_
  refine lv_bipush (v := nI 8) hx hb d_R_twice_198 (by decide) ?_
  refine r_callv (np := 4) (As := [.int (nI (34)), .int (nI (34)), .int (nI (35)), .int (nI (8))]) (rest := []) ⟨hx, hb, hml, hown, ht⟩ hw (c_R_minus l G u26 (hu26.ok hok26) (by decide) (by decide) (by decide) (by decide) (by decide) (by decide) (by decide) (by rw [hu26.V, f26_8]; exact rMod_le (by decide)) (by rw [hu26.V, f26_34, f26_8]; exact ss_lt (rMod_pos (by decide))) (by rw [hu26.V, f26_35, f26_8]; exact mm_lt (rMod_pos (by decide)))) ⟨km_R_112, kv_R_minus, kx_R_minus, kc_R_minus⟩ (by decide +kernel) ⟨by decide, by decide⟩ rfl rfl rfl hl.1 rfl (by decide) d_R_twice_200 ⟨Nat.le_refl _, Nat.le_refl _⟩ (fun u27 H locs hp hw => ?_)
  obtain ⟨V27, hu27, ht27, hk27, hok27⟩ := q_minus hu26 hok26 (by rw [f26_8]; exact rMod_pos (by decide)) (by rw [f26_8]; exact rMod_le (by decide)) hp
  have f27_8 : V27 (8) = rMod 0 := (hk27 _ (by decide) (by decide)).trans f26_8
  have f27_32 : V27 (32) = mm (rMod 0) (y) (z) := (hk27 _ (by decide) (by decide)).trans f26_32
  have f27_36 : V27 (36) = tZ (rMod 0) x y z := (hk27 _ (by decide) (by decide)).trans f26_36
  have f27_35 : V27 (35) = tY (rMod 0) y z := (hk27 _ (by decide) (by decide)).trans f26_35
  have f27_34 : V27 (34) = ss (rMod 0) (ss (rMod 0) (ss (rMod 0) (ss (rMod 0) (ss (rMod 0) (ss (rMod 0) (mm (rMod 0) (tU (rMod 0) x) (tX (rMod 0) x y z)) (tY (rMod 0) y z)) (tY (rMod 0) y z)) (tY (rMod 0) y z)) (tY (rMod 0) y z)) (tY (rMod 0) y z)) (tY (rMod 0) y z) := ht27.trans (by simp only [f26_34, f26_35, f26_8])
  refine lv_iinc (v := nI 6) (lv' := [(2, .int (nI (6))), (0, .ref (rA G 0)), (1, .int (nI (p0)))]) hx hb d_R_twice_203 hl (k := 0) rfl (by decide) (by decide) rfl (fun ls hl => ?_)
  refine lv_goto (tgt := 185) hx hb d_R_twice_206 (by decide) ?_
  refine lv_iload_n hx hb d_R_twice_185 rfl (lv_at hl 0 rfl) ?_
  refine lv_bipush (v := nI 8) hx hb d_R_twice_186 (by decide) ?_
  refine n_ge (tgt := 209) hx hb d_R_twice_188 (by decide) (by decide) (by decide) (fun h => absurd h (by decide)) (fun _ => ?_)
  refine lv_aload_n hx hb d_R_twice_191 rfl (lv_at hl 1 rfl) ?_
  refine lv_bipush (v := nI 34) hx hb d_R_twice_192 (by decide) ?_
  refine lv_bipush (v := nI 34) hx hb d_R_twice_194 (by decide) ?_
  refine lv_bipush (v := nI 35) hx hb d_R_twice_196 (by decide) ?_
  refine lv_bipush (v := nI 8) hx hb d_R_twice_198 (by decide) ?_
  refine r_callv (np := 4) (As := [.int (nI (34)), .int (nI (34)), .int (nI (35)), .int (nI (8))]) (rest := []) ⟨hx, hb, hml, hown, ht⟩ hw (c_R_minus l G u27 (hu27.ok hok27) (by decide) (by decide) (by decide) (by decide) (by decide) (by decide) (by decide) (by rw [hu27.V, f27_8]; exact rMod_le (by decide)) (by rw [hu27.V, f27_34, f27_8]; exact ss_lt (rMod_pos (by decide))) (by rw [hu27.V, f27_35, f27_8]; exact mm_lt (rMod_pos (by decide)))) ⟨km_R_112, kv_R_minus, kx_R_minus, kc_R_minus⟩ (by decide +kernel) ⟨by decide, by decide⟩ rfl rfl rfl hl.1 rfl (by decide) d_R_twice_200 ⟨Nat.le_refl _, Nat.le_refl _⟩ (fun u28 H locs hp hw => ?_)
  obtain ⟨V28, hu28, ht28, hk28, hok28⟩ := q_minus hu27 hok27 (by rw [f27_8]; exact rMod_pos (by decide)) (by rw [f27_8]; exact rMod_le (by decide)) hp
  have f28_8 : V28 (8) = rMod 0 := (hk28 _ (by decide) (by decide)).trans f27_8
  have f28_32 : V28 (32) = mm (rMod 0) (y) (z) := (hk28 _ (by decide) (by decide)).trans f27_32
  have f28_36 : V28 (36) = tZ (rMod 0) x y z := (hk28 _ (by decide) (by decide)).trans f27_36
  have f28_35 : V28 (35) = tY (rMod 0) y z := (hk28 _ (by decide) (by decide)).trans f27_35
  have f28_34 : V28 (34) = ss (rMod 0) (ss (rMod 0) (ss (rMod 0) (ss (rMod 0) (ss (rMod 0) (ss (rMod 0) (ss (rMod 0) (mm (rMod 0) (tU (rMod 0) x) (tX (rMod 0) x y z)) (tY (rMod 0) y z)) (tY (rMod 0) y z)) (tY (rMod 0) y z)) (tY (rMod 0) y z)) (tY (rMod 0) y z)) (tY (rMod 0) y z)) (tY (rMod 0) y z) := ht28.trans (by simp only [f27_34, f27_35, f27_8])
  refine lv_iinc (v := nI 7) (lv' := [(2, .int (nI (7))), (0, .ref (rA G 0)), (1, .int (nI (p0)))]) hx hb d_R_twice_203 hl (k := 0) rfl (by decide) (by decide) rfl (fun ls hl => ?_)
  refine lv_goto (tgt := 185) hx hb d_R_twice_206 (by decide) ?_
  refine lv_iload_n hx hb d_R_twice_185 rfl (lv_at hl 0 rfl) ?_
  refine lv_bipush (v := nI 8) hx hb d_R_twice_186 (by decide) ?_
  refine n_ge (tgt := 209) hx hb d_R_twice_188 (by decide) (by decide) (by decide) (fun h => absurd h (by decide)) (fun _ => ?_)
  refine lv_aload_n hx hb d_R_twice_191 rfl (lv_at hl 1 rfl) ?_
  refine lv_bipush (v := nI 34) hx hb d_R_twice_192 (by decide) ?_
  refine lv_bipush (v := nI 34) hx hb d_R_twice_194 (by decide) ?_
  refine lv_bipush (v := nI 35) hx hb d_R_twice_196 (by decide) ?_
  refine lv_bipush (v := nI 8) hx hb d_R_twice_198 (by decide) ?_
  refine r_callv (np := 4) (As := [.int (nI (34)), .int (nI (34)), .int (nI (35)), .int (nI (8))]) (rest := []) ⟨hx, hb, hml, hown, ht⟩ hw (c_R_minus l G u28 (hu28.ok hok28) (by decide) (by decide) (by decide) (by decide) (by decide) (by decide) (by decide) (by rw [hu28.V, f28_8]; exact rMod_le (by decide)) (by rw [hu28.V, f28_34, f28_8]; exact ss_lt (rMod_pos (by decide))) (by rw [hu28.V, f28_35, f28_8]; exact mm_lt (rMod_pos (by decide)))) ⟨km_R_112, kv_R_minus, kx_R_minus, kc_R_minus⟩ (by decide +kernel) ⟨by decide, by decide⟩ rfl rfl rfl hl.1 rfl (by decide) d_R_twice_200 ⟨Nat.le_refl _, Nat.le_refl _⟩ (fun u29 H locs hp hw => ?_)
  obtain ⟨V29, hu29, ht29, hk29, hok29⟩ := q_minus hu28 hok28 (by rw [f28_8]; exact rMod_pos (by decide)) (by rw [f28_8]; exact rMod_le (by decide)) hp
  have f29_8 : V29 (8) = rMod 0 := (hk29 _ (by decide) (by decide)).trans f28_8
  have f29_32 : V29 (32) = mm (rMod 0) (y) (z) := (hk29 _ (by decide) (by decide)).trans f28_32
  have f29_36 : V29 (36) = tZ (rMod 0) x y z := (hk29 _ (by decide) (by decide)).trans f28_36
  have f29_35 : V29 (35) = tY (rMod 0) y z := (hk29 _ (by decide) (by decide)).trans f28_35
  have f29_34 : V29 (34) = ss (rMod 0) (ss (rMod 0) (ss (rMod 0) (ss (rMod 0) (ss (rMod 0) (ss (rMod 0) (ss (rMod 0) (ss (rMod 0) (mm (rMod 0) (tU (rMod 0) x) (tX (rMod 0) x y z)) (tY (rMod 0) y z)) (tY (rMod 0) y z)) (tY (rMod 0) y z)) (tY (rMod 0) y z)) (tY (rMod 0) y z)) (tY (rMod 0) y z)) (tY (rMod 0) y z)) (tY (rMod 0) y z) := ht29.trans (by simp only [f28_34, f28_35, f28_8])
  refine lv_iinc (v := nI 8) (lv' := [(2, .int (nI (8))), (0, .ref (rA G 0)), (1, .int (nI (p0)))]) hx hb d_R_twice_203 hl (k := 0) rfl (by decide) (by decide) rfl (fun ls hl => ?_)
  refine lv_goto (tgt := 185) hx hb d_R_twice_206 (by decide) ?_
  refine lv_iload_n hx hb d_R_twice_185 rfl (lv_at hl 0 rfl) ?_
  refine lv_bipush (v := nI 8) hx hb d_R_twice_186 (by decide) ?_
  refine n_ge (tgt := 209) hx hb d_R_twice_188 (by decide) (by decide) (by decide) (fun _ => ?_) (fun h => absurd h (by decide))
  have f29_34n : V29 (34) = twY (rMod 0) x y z := f29_34
  refine lv_aload_n hx hb d_R_twice_209 rfl (lv_at hl 1 rfl) ?_
  refine lv_iload_n hx hb d_R_twice_210 rfl (lv_at hl 2 rfl) ?_
  refine lv_iconst (v := nI 1) hx hb d_R_twice_211 (by decide) ?_
  refine lv_iadd hx hb d_R_twice_212 ?_
  refine tp_i (y := nI (p0 + 1)) (nI_add _ _) ?_
  refine lv_bipush (v := nI 34) hx hb d_R_twice_213 (by decide) ?_
  refine r_callv (np := 2) (As := [.int (nI (p0 + 1)), .int (nI (34))]) (rest := []) ⟨hx, hb, hml, hown, ht⟩ hw (c_R_copy l G u29 (hu29.ok hok29) (by omega) (by decide) (by omega)) ⟨km_R_70, kv_R_copy, kx_R_copy, kc_R_copy⟩ (by decide +kernel) ⟨by decide, by decide⟩ rfl rfl rfl hl.1 rfl (by decide) d_R_twice_215 ⟨Nat.le_refl _, Nat.le_refl _⟩ (fun u30 H locs hp hw => ?_)
  obtain ⟨V30, hu30, ht30, hk30, hok30⟩ := q_copy hu29 hok29 hp
  have f30_8 : V30 (8) = rMod 0 := (hk30 _ (by omega)).trans f29_8
  have f30_32 : V30 (32) = mm (rMod 0) (y) (z) := (hk30 _ (by omega)).trans f29_32
  have f30_36 : V30 (36) = tZ (rMod 0) x y z := (hk30 _ (by omega)).trans f29_36
  have f30_34 : V30 (34) = twY (rMod 0) x y z := (hk30 _ (by omega)).trans f29_34n
  have f30_p0_1 : V30 (p0 + 1) = twY (rMod 0) x y z := ht30.trans f29_34n
  refine lv_aload_n hx hb d_R_twice_218 rfl (lv_at hl 1 rfl) ?_
  refine lv_bipush (v := nI 34) hx hb d_R_twice_219 (by decide) ?_
  refine lv_bipush (v := nI 36) hx hb d_R_twice_221 (by decide) ?_
  refine lv_bipush (v := nI 32) hx hb d_R_twice_223 (by decide) ?_
  refine lv_bipush (v := nI 8) hx hb d_R_twice_225 (by decide) ?_
  refine r_callv (np := 4) (As := [.int (nI (34)), .int (nI (36)), .int (nI (32)), .int (nI (8))]) (rest := []) ⟨hx, hb, hml, hown, ht⟩ hw (c_R_multiply l G u30 (hu30.ok hok30) (μ := 0) (by decide) (by decide) (by decide) (by decide) (by decide) (by rw [hu30.V]; exact f30_8)) ⟨km_R_96, kv_R_multiply, kx_R_multiply, kc_R_multiply⟩ (by decide +kernel) ⟨by decide, by decide⟩ rfl rfl rfl hl.1 rfl (by decide) d_R_twice_227 ⟨Nat.le_refl _, Nat.le_refl _⟩ (fun u31 H locs hp hw => ?_)
  obtain ⟨V31, hu31, ht31, hk31, hok31⟩ := q_mul (by decide) hu30 hok30 hp
  have f31_8 : V31 (8) = rMod 0 := (hk31 _ (by decide)).trans f30_8
  have f31_32 : V31 (32) = mm (rMod 0) (y) (z) := (hk31 _ (by decide)).trans f30_32
  have f31_36 : V31 (36) = tZ (rMod 0) x y z := (hk31 _ (by decide)).trans f30_36
  have f31_p0_1 : V31 (p0 + 1) = twY (rMod 0) x y z := (hk31 _ (by omega)).trans f30_p0_1
  have f31_34 : V31 (34) = mm (rMod 0) (tZ (rMod 0) x y z) (mm (rMod 0) (y) (z)) := ht31.trans (by simp only [f30_32, f30_36])
  refine lv_aload_n hx hb d_R_twice_230 rfl (lv_at hl 1 rfl) ?_
  refine lv_iload_n hx hb d_R_twice_231 rfl (lv_at hl 2 rfl) ?_
  refine lv_bipush (v := nI 34) hx hb d_R_twice_232 (by decide) ?_
  refine lv_bipush (v := nI 34) hx hb d_R_twice_234 (by decide) ?_
  refine lv_bipush (v := nI 8) hx hb d_R_twice_236 (by decide) ?_
  refine r_callv (np := 4) (As := [.int (nI (p0)), .int (nI (34)), .int (nI (34)), .int (nI (8))]) (rest := []) ⟨hx, hb, hml, hown, ht⟩ hw (c_R_plus l G u31 (hu31.ok hok31) (by omega) (by decide) (by decide) (by decide) (by rw [hu31.V, f31_8]; exact rMod_le (by decide)) (by rw [hu31.V, f31_34, f31_8]; exact mm_lt (rMod_pos (by decide))) (by rw [hu31.V, f31_34, f31_8]; exact mm_lt (rMod_pos (by decide)))) ⟨km_R_124, kv_R_plus, kx_R_plus, kc_R_plus⟩ (by decide +kernel) ⟨by decide, by decide⟩ rfl rfl rfl hl.1 rfl (by decide) d_R_twice_238 ⟨Nat.le_refl _, Nat.le_refl _⟩ (fun u32 H locs hp hw => ?_)
  obtain ⟨V32, hu32, ht32, hk32, hok32⟩ := q_plus hu31 hok31 (by rw [f31_8]; exact rMod_pos (by decide)) (by rw [f31_8]; exact rMod_le (by decide)) hp
  have f32_8 : V32 (8) = rMod 0 := (hk32 _ (by omega) (by decide)).trans f31_8
  have f32_32 : V32 (32) = mm (rMod 0) (y) (z) := (hk32 _ (by omega) (by decide)).trans f31_32
  have f32_p0_1 : V32 (p0 + 1) = twY (rMod 0) x y z := (hk32 _ (by omega) (by omega)).trans f31_p0_1
  have f32_34 : V32 (34) = mm (rMod 0) (tZ (rMod 0) x y z) (mm (rMod 0) (y) (z)) := (hk32 _ (by omega) (by decide)).trans f31_34
  have f32_p0 : V32 (p0) = pp (rMod 0) (mm (rMod 0) (tZ (rMod 0) x y z) (mm (rMod 0) (y) (z))) (mm (rMod 0) (tZ (rMod 0) x y z) (mm (rMod 0) (y) (z))) := ht32.trans (by simp only [f31_34, f31_8])
  have f32_p0n : V32 (p0) = twX (rMod 0) x y z := f32_p0
  refine lv_aload_n hx hb d_R_twice_241 rfl (lv_at hl 1 rfl) ?_
  refine lv_bipush (v := nI 34) hx hb d_R_twice_242 (by decide) ?_
  refine lv_bipush (v := nI 32) hx hb d_R_twice_244 (by decide) ?_
  refine lv_bipush (v := nI 32) hx hb d_R_twice_246 (by decide) ?_
  refine lv_bipush (v := nI 8) hx hb d_R_twice_248 (by decide) ?_
  refine r_callv (np := 4) (As := [.int (nI (34)), .int (nI (32)), .int (nI (32)), .int (nI (8))]) (rest := []) ⟨hx, hb, hml, hown, ht⟩ hw (c_R_multiply l G u32 (hu32.ok hok32) (μ := 0) (by decide) (by decide) (by decide) (by decide) (by decide) (by rw [hu32.V]; exact f32_8)) ⟨km_R_96, kv_R_multiply, kx_R_multiply, kc_R_multiply⟩ (by decide +kernel) ⟨by decide, by decide⟩ rfl rfl rfl hl.1 rfl (by decide) d_R_twice_250 ⟨Nat.le_refl _, Nat.le_refl _⟩ (fun u33 H locs hp hw => ?_)
  obtain ⟨V33, hu33, ht33, hk33, hok33⟩ := q_mul (by decide) hu32 hok32 hp
  have f33_8 : V33 (8) = rMod 0 := (hk33 _ (by decide)).trans f32_8
  have f33_32 : V33 (32) = mm (rMod 0) (y) (z) := (hk33 _ (by decide)).trans f32_32
  have f33_p0_1 : V33 (p0 + 1) = twY (rMod 0) x y z := (hk33 _ (by omega)).trans f32_p0_1
  have f33_p0 : V33 (p0) = twX (rMod 0) x y z := (hk33 _ (by omega)).trans f32_p0n
  have f33_34 : V33 (34) = mm (rMod 0) (mm (rMod 0) (y) (z)) (mm (rMod 0) (y) (z)) := ht33.trans (by simp only [f32_32])
  refine lv_aload_n hx hb d_R_twice_253 rfl (lv_at hl 1 rfl) ?_
  refine lv_bipush (v := nI 34) hx hb d_R_twice_254 (by decide) ?_
  refine lv_bipush (v := nI 34) hx hb d_R_twice_256 (by decide) ?_
  refine lv_bipush (v := nI 32) hx hb d_R_twice_258 (by decide) ?_
  refine lv_bipush (v := nI 8) hx hb d_R_twice_260 (by decide) ?_
  refine r_callv (np := 4) (As := [.int (nI (34)), .int (nI (34)), .int (nI (32)), .int (nI (8))]) (rest := []) ⟨hx, hb, hml, hown, ht⟩ hw (c_R_multiply l G u33 (hu33.ok hok33) (μ := 0) (by decide) (by decide) (by decide) (by decide) (by decide) (by rw [hu33.V]; exact f33_8)) ⟨km_R_96, kv_R_multiply, kx_R_multiply, kc_R_multiply⟩ (by decide +kernel) ⟨by decide, by decide⟩ rfl rfl rfl hl.1 rfl (by decide) d_R_twice_262 ⟨Nat.le_refl _, Nat.le_refl _⟩ (fun u34 H locs hp hw => ?_)
  obtain ⟨V34, hu34, ht34, hk34, hok34⟩ := q_mul (by decide) hu33 hok33 hp
  have f34_8 : V34 (8) = rMod 0 := (hk34 _ (by decide)).trans f33_8
  have f34_32 : V34 (32) = mm (rMod 0) (y) (z) := (hk34 _ (by decide)).trans f33_32
  have f34_p0_1 : V34 (p0 + 1) = twY (rMod 0) x y z := (hk34 _ (by omega)).trans f33_p0_1
  have f34_p0 : V34 (p0) = twX (rMod 0) x y z := (hk34 _ (by omega)).trans f33_p0
  have f34_34 : V34 (34) = mm (rMod 0) (mm (rMod 0) (mm (rMod 0) (y) (z)) (mm (rMod 0) (y) (z))) (mm (rMod 0) (y) (z)) := ht34.trans (by simp only [f33_32, f33_34])
  refine lv_iconst (v := nI 0) hx hb d_R_twice_265 (by decide) ?_
  refine lv_istore_n (lv' := [(2, .int (nI (0))), (0, .ref (rA G 0)), (1, .int (nI (p0)))]) hx hb d_R_twice_266 rfl hl (by decide) rfl (fun ls hl => ?_)
  refine lv_iload_n hx hb d_R_twice_267 rfl (lv_at hl 0 rfl) ?_
  refine lv_iconst (v := nI 3) hx hb d_R_twice_268 (by decide) ?_
  refine n_ge (tgt := 290) hx hb d_R_twice_269 (by decide) (by decide) (by decide) (fun h => absurd h (by decide)) (fun _ => ?_)
  refine lv_aload_n hx hb d_R_twice_272 rfl (lv_at hl 1 rfl) ?_
  refine lv_bipush (v := nI 34) hx hb d_R_twice_273 (by decide) ?_
  refine lv_bipush (v := nI 34) hx hb d_R_twice_275 (by decide) ?_
  refine lv_bipush (v := nI 34) hx hb d_R_twice_277 (by decide) ?_
  refine lv_bipush (v := nI 8) hx hb d_R_twice_279 (by decide) ?_
  refine r_callv (np := 4) (As := [.int (nI (34)), .int (nI (34)), .int (nI (34)), .int (nI (8))]) (rest := []) ⟨hx, hb, hml, hown, ht⟩ hw (c_R_plus l G u34 (hu34.ok hok34) (by decide) (by decide) (by decide) (by decide) (by rw [hu34.V, f34_8]; exact rMod_le (by decide)) (by rw [hu34.V, f34_34, f34_8]; exact mm_lt (rMod_pos (by decide))) (by rw [hu34.V, f34_34, f34_8]; exact mm_lt (rMod_pos (by decide)))) ⟨km_R_124, kv_R_plus, kx_R_plus, kc_R_plus⟩ (by decide +kernel) ⟨by decide, by decide⟩ rfl rfl rfl hl.1 rfl (by decide) d_R_twice_281 ⟨Nat.le_refl _, Nat.le_refl _⟩ (fun u35 H locs hp hw => ?_)
  obtain ⟨V35, hu35, ht35, hk35, hok35⟩ := q_plus hu34 hok34 (by rw [f34_8]; exact rMod_pos (by decide)) (by rw [f34_8]; exact rMod_le (by decide)) hp
  have f35_8 : V35 (8) = rMod 0 := (hk35 _ (by decide) (by decide)).trans f34_8
  have f35_p0_1 : V35 (p0 + 1) = twY (rMod 0) x y z := (hk35 _ (by omega) (by omega)).trans f34_p0_1
  have f35_p0 : V35 (p0) = twX (rMod 0) x y z := (hk35 _ (by omega) (by omega)).trans f34_p0
  have f35_34 : V35 (34) = pp (rMod 0) (mm (rMod 0) (mm (rMod 0) (mm (rMod 0) (y) (z)) (mm (rMod 0) (y) (z))) (mm (rMod 0) (y) (z))) (mm (rMod 0) (mm (rMod 0) (mm (rMod 0) (y) (z)) (mm (rMod 0) (y) (z))) (mm (rMod 0) (y) (z))) := ht35.trans (by simp only [f34_34, f34_8])
  refine lv_iinc (v := nI 1) (lv' := [(2, .int (nI (1))), (0, .ref (rA G 0)), (1, .int (nI (p0)))]) hx hb d_R_twice_284 hl (k := 0) rfl (by decide) (by decide) rfl (fun ls hl => ?_)
  refine lv_goto (tgt := 267) hx hb d_R_twice_287 (by decide) ?_
  refine lv_iload_n hx hb d_R_twice_267 rfl (lv_at hl 0 rfl) ?_
  refine lv_iconst (v := nI 3) hx hb d_R_twice_268 (by decide) ?_
  refine n_ge (tgt := 290) hx hb d_R_twice_269 (by decide) (by decide) (by decide) (fun h => absurd h (by decide)) (fun _ => ?_)
  refine lv_aload_n hx hb d_R_twice_272 rfl (lv_at hl 1 rfl) ?_
  refine lv_bipush (v := nI 34) hx hb d_R_twice_273 (by decide) ?_
  refine lv_bipush (v := nI 34) hx hb d_R_twice_275 (by decide) ?_
  refine lv_bipush (v := nI 34) hx hb d_R_twice_277 (by decide) ?_
  refine lv_bipush (v := nI 8) hx hb d_R_twice_279 (by decide) ?_
  refine r_callv (np := 4) (As := [.int (nI (34)), .int (nI (34)), .int (nI (34)), .int (nI (8))]) (rest := []) ⟨hx, hb, hml, hown, ht⟩ hw (c_R_plus l G u35 (hu35.ok hok35) (by decide) (by decide) (by decide) (by decide) (by rw [hu35.V, f35_8]; exact rMod_le (by decide)) (by rw [hu35.V, f35_34, f35_8]; exact pp_lt (rMod_pos (by decide))) (by rw [hu35.V, f35_34, f35_8]; exact pp_lt (rMod_pos (by decide)))) ⟨km_R_124, kv_R_plus, kx_R_plus, kc_R_plus⟩ (by decide +kernel) ⟨by decide, by decide⟩ rfl rfl rfl hl.1 rfl (by decide) d_R_twice_281 ⟨Nat.le_refl _, Nat.le_refl _⟩ (fun u36 H locs hp hw => ?_)
  obtain ⟨V36, hu36, ht36, hk36, hok36⟩ := q_plus hu35 hok35 (by rw [f35_8]; exact rMod_pos (by decide)) (by rw [f35_8]; exact rMod_le (by decide)) hp
  have f36_8 : V36 (8) = rMod 0 := (hk36 _ (by decide) (by decide)).trans f35_8
  have f36_p0_1 : V36 (p0 + 1) = twY (rMod 0) x y z := (hk36 _ (by omega) (by omega)).trans f35_p0_1
  have f36_p0 : V36 (p0) = twX (rMod 0) x y z := (hk36 _ (by omega) (by omega)).trans f35_p0
  have f36_34 : V36 (34) = pp (rMod 0) (pp (rMod 0) (mm (rMod 0) (mm (rMod 0) (mm (rMod 0) (y) (z)) (mm (rMod 0) (y) (z))) (mm (rMod 0) (y) (z))) (mm (rMod 0) (mm (rMod 0) (mm (rMod 0) (y) (z)) (mm (rMod 0) (y) (z))) (mm (rMod 0) (y) (z)))) (pp (rMod 0) (mm (rMod 0) (mm (rMod 0) (mm (rMod 0) (y) (z)) (mm (rMod 0) (y) (z))) (mm (rMod 0) (y) (z))) (mm (rMod 0) (mm (rMod 0) (mm (rMod 0) (y) (z)) (mm (rMod 0) (y) (z))) (mm (rMod 0) (y) (z)))) := ht36.trans (by simp only [f35_34, f35_8])
  refine lv_iinc (v := nI 2) (lv' := [(2, .int (nI (2))), (0, .ref (rA G 0)), (1, .int (nI (p0)))]) hx hb d_R_twice_284 hl (k := 0) rfl (by decide) (by decide) rfl (fun ls hl => ?_)
  refine lv_goto (tgt := 267) hx hb d_R_twice_287 (by decide) ?_
  refine lv_iload_n hx hb d_R_twice_267 rfl (lv_at hl 0 rfl) ?_
  refine lv_iconst (v := nI 3) hx hb d_R_twice_268 (by decide) ?_
  refine n_ge (tgt := 290) hx hb d_R_twice_269 (by decide) (by decide) (by decide) (fun h => absurd h (by decide)) (fun _ => ?_)
  refine lv_aload_n hx hb d_R_twice_272 rfl (lv_at hl 1 rfl) ?_
  refine lv_bipush (v := nI 34) hx hb d_R_twice_273 (by decide) ?_
  refine lv_bipush (v := nI 34) hx hb d_R_twice_275 (by decide) ?_
  refine lv_bipush (v := nI 34) hx hb d_R_twice_277 (by decide) ?_
  refine lv_bipush (v := nI 8) hx hb d_R_twice_279 (by decide) ?_
  refine r_callv (np := 4) (As := [.int (nI (34)), .int (nI (34)), .int (nI (34)), .int (nI (8))]) (rest := []) ⟨hx, hb, hml, hown, ht⟩ hw (c_R_plus l G u36 (hu36.ok hok36) (by decide) (by decide) (by decide) (by decide) (by rw [hu36.V, f36_8]; exact rMod_le (by decide)) (by rw [hu36.V, f36_34, f36_8]; exact pp_lt (rMod_pos (by decide))) (by rw [hu36.V, f36_34, f36_8]; exact pp_lt (rMod_pos (by decide)))) ⟨km_R_124, kv_R_plus, kx_R_plus, kc_R_plus⟩ (by decide +kernel) ⟨by decide, by decide⟩ rfl rfl rfl hl.1 rfl (by decide) d_R_twice_281 ⟨Nat.le_refl _, Nat.le_refl _⟩ (fun u37 H locs hp hw => ?_)
  obtain ⟨V37, hu37, ht37, hk37, hok37⟩ := q_plus hu36 hok36 (by rw [f36_8]; exact rMod_pos (by decide)) (by rw [f36_8]; exact rMod_le (by decide)) hp
  have f37_8 : V37 (8) = rMod 0 := (hk37 _ (by decide) (by decide)).trans f36_8
  have f37_p0_1 : V37 (p0 + 1) = twY (rMod 0) x y z := (hk37 _ (by omega) (by omega)).trans f36_p0_1
  have f37_p0 : V37 (p0) = twX (rMod 0) x y z := (hk37 _ (by omega) (by omega)).trans f36_p0
  have f37_34 : V37 (34) = pp (rMod 0) (pp (rMod 0) (pp (rMod 0) (mm (rMod 0) (mm (rMod 0) (mm (rMod 0) (y) (z)) (mm (rMod 0) (y) (z))) (mm (rMod 0) (y) (z))) (mm (rMod 0) (mm (rMod 0) (mm (rMod 0) (y) (z)) (mm (rMod 0) (y) (z))) (mm (rMod 0) (y) (z)))) (pp (rMod 0) (mm (rMod 0) (mm (rMod 0) (mm (rMod 0) (y) (z)) (mm (rMod 0) (y) (z))) (mm (rMod 0) (y) (z))) (mm (rMod 0) (mm (rMod 0) (mm (rMod 0) (y) (z)) (mm (rMod 0) (y) (z))) (mm (rMod 0) (y) (z))))) (pp (rMod 0) (pp (rMod 0) (mm (rMod 0) (mm (rMod 0) (mm (rMod 0) (y) (z)) (mm (rMod 0) (y) (z))) (mm (rMod 0) (y) (z))) (mm (rMod 0) (mm (rMod 0) (mm (rMod 0) (y) (z)) (mm (rMod 0) (y) (z))) (mm (rMod 0) (y) (z)))) (pp (rMod 0) (mm (rMod 0) (mm (rMod 0) (mm (rMod 0) (y) (z)) (mm (rMod 0) (y) (z))) (mm (rMod 0) (y) (z))) (mm (rMod 0) (mm (rMod 0) (mm (rMod 0) (y) (z)) (mm (rMod 0) (y) (z))) (mm (rMod 0) (y) (z))))) := ht37.trans (by simp only [f36_34, f36_8])
  refine lv_iinc (v := nI 3) (lv' := [(2, .int (nI (3))), (0, .ref (rA G 0)), (1, .int (nI (p0)))]) hx hb d_R_twice_284 hl (k := 0) rfl (by decide) (by decide) rfl (fun ls hl => ?_)
  refine lv_goto (tgt := 267) hx hb d_R_twice_287 (by decide) ?_
  refine lv_iload_n hx hb d_R_twice_267 rfl (lv_at hl 0 rfl) ?_
  refine lv_iconst (v := nI 3) hx hb d_R_twice_268 (by decide) ?_
  refine n_ge (tgt := 290) hx hb d_R_twice_269 (by decide) (by decide) (by decide) (fun _ => ?_) (fun h => absurd h (by decide))
  have f37_34n : V37 (34) = twZ (rMod 0) y z := f37_34
  refine lv_aload_n hx hb d_R_twice_290 rfl (lv_at hl 1 rfl) ?_
  refine lv_iload_n hx hb d_R_twice_291 rfl (lv_at hl 2 rfl) ?_
  refine lv_iconst (v := nI 2) hx hb d_R_twice_292 (by decide) ?_
  refine lv_iadd hx hb d_R_twice_293 ?_
  refine tp_i (y := nI (p0 + 2)) (nI_add _ _) ?_
  refine lv_bipush (v := nI 34) hx hb d_R_twice_294 (by decide) ?_
  refine r_callv (np := 2) (As := [.int (nI (p0 + 2)), .int (nI (34))]) (rest := []) ⟨hx, hb, hml, hown, ht⟩ hw (c_R_copy l G u37 (hu37.ok hok37) (by omega) (by decide) (by omega)) ⟨km_R_70, kv_R_copy, kx_R_copy, kc_R_copy⟩ (by decide +kernel) ⟨by decide, by decide⟩ rfl rfl rfl hl.1 rfl (by decide) d_R_twice_296 ⟨Nat.le_refl _, Nat.le_refl _⟩ (fun u38 H locs hp hw => ?_)
  obtain ⟨V38, hu38, ht38, hk38, hok38⟩ := q_copy hu37 hok37 hp
  have f38_8 : V38 (8) = rMod 0 := (hk38 _ (by omega)).trans f37_8
  have f38_p0_1 : V38 (p0 + 1) = twY (rMod 0) x y z := (hk38 _ (by omega)).trans f37_p0_1
  have f38_p0 : V38 (p0) = twX (rMod 0) x y z := (hk38 _ (by omega)).trans f37_p0
  have f38_34 : V38 (34) = twZ (rMod 0) y z := (hk38 _ (by omega)).trans f37_34n
  have f38_p0_2 : V38 (p0 + 2) = twZ (rMod 0) y z := ht38.trans f37_34n
  refine z_vret (rZ _) hx hb hr hlocks u38 hw ⟨V38, hu38, ?_, ?_, ?_, fun r h h1 h2 h3 => ?_, hok38⟩ d_R_twice_299
  · rw [← hxe, ← hye, ← hze]; exact f38_p0
  · rw [← hxe, ← hye, ← hze]; exact f38_p0_1
  · rw [← hye, ← hze]; exact f38_p0_2
  have key : ∀ r, r ≠ p0 → r ≠ p0 + 1 → r ≠ p0 + 2 → (r < 31 ∨ 37 < r) → V38 r = V0 r := by
    intro r h h1 h2 h3
    rw [hk38 r (by omega), hk37 r (by omega) (by omega), hk36 r (by omega) (by omega), hk35 r (by omega) (by omega), hk34 r (by omega), hk33 r (by omega), hk32 r (by omega) (by omega), hk31 r (by omega), hk30 r (by omega), hk29 r (by omega) (by omega), hk28 r (by omega) (by omega), hk27 r (by omega) (by omega), hk26 r (by omega) (by omega), hk25 r (by omega) (by omega), hk24 r (by omega) (by omega), hk23 r (by omega) (by omega), hk22 r (by omega) (by omega), hk21 r (by omega), hk20 r (by omega), hk19 r (by omega), hk18 r (by omega) (by omega), hk17 r (by omega) (by omega), hk16 r (by omega) (by omega), hk15 r (by omega) (by omega), hk14 r (by omega) (by omega), hk13 r (by omega) (by omega), hk12 r (by omega) (by omega), hk11 r (by omega) (by omega), hk10 r (by omega) (by omega), hk9 r (by omega) (by omega), hk8 r (by omega) (by omega), hk7 r (by omega), hk6 r (by omega), hk5 r (by omega), hk4 r (by omega), hk3 r (by omega) (by omega), hk2 r (by omega) (by omega), hk1 r (by omega)]
  rw [key r h h1 h2 h3, hV0]
end
section
/-! join, in numbers and in the reference -/
def jU (M y1 z1 y2 z2 : Nat) : Nat := ss M (mm M y2 z1) (mm M y1 z2)
def jV (M x1 z1 x2 z2 : Nat) : Nat := ss M (mm M x2 z1) (mm M x1 z2)
def jXX (M u v X0 Z : Nat) : Nat := ss M (ss M (ss M (mm M (mm M u u) Z) (mm M (mm M v v) v)) (mm M (mm M v v) X0)) (mm M (mm M v v) X0)
def jYY (M u v X0 Z Y0 : Nat) : Nat := ss M (mm M u (ss M (mm M (mm M v v) X0) (jXX M u v X0 Z))) (mm M Y0 (mm M (mm M v v) v))
def jn (M x1 y1 z1 x2 y2 z2 : Nat) : Nat × Nat × Nat :=
  if z2 = 0 then (x1, y1, z1) else if z1 = 0 then (x2, y2, z2) else
  if jV M x1 z1 x2 z2 = 0 then (if jU M y1 z1 y2 z2 = 0 then (twX M x1 y1 z1, twY M x1 y1 z1, twZ M y1 z1) else (x1, y1, 0)) else
  (mm M (jV M x1 z1 x2 z2) (jXX M (jU M y1 z1 y2 z2) (jV M x1 z1 x2 z2) (mm M x1 z2) (mm M z1 z2)), jYY M (jU M y1 z1 y2 z2) (jV M x1 z1 x2 z2) (mm M x1 z2) (mm M z1 z2) (mm M y1 z2), mm M (mm M (mm M (jV M x1 z1 x2 z2) (jV M x1 z1 x2 z2)) (jV M x1 z1 x2 z2)) (mm M z1 z2))
theorem boolN_0 {P : Prop} [Decidable P] (h : boolN P = 0) : ¬ P := fun q => by
  rw [boolN_t q] at h
  cases h
theorem boolN_1 {P : Prop} [Decidable P] (h : boolN P ≠ 0) : P := by
  by_cases q : P
  · exact q
  · exact absurd (boolN_f q) h
theorem boolN_s (P : Prop) [Decidable P] : boolN P < 2 ^ 31 := Nat.lt_trans (boolN_lt P) (by decide)
set_option maxHeartbeats 4000000 in
set_option maxRecDepth 100000 in
theorem c_R_join (l : Launch) (G : rG) (σ : rS) (hok : rOk σ) {p0 q0 : Nat} (h1 : 21 < p0) (h2 : p0 < 29) (h3 : 21 < q0) (h4 : q0 < 29 ∨ q0 = 44) (h5 : p0 + 2 < q0 ∨ q0 + 2 < p0) (hq : rV σ 8 = rMod 0) (hx1 : rV σ p0 < rMod 0) (hy1 : rV σ (p0 + 1) < rMod 0) (hz1 : rV σ (p0 + 2) < rMod 0) (hx2 : rV σ q0 < rMod 0) (hy2 : rV σ (q0 + 1) < rMod 0) (hz2 : rV σ (q0 + 2) < rMod 0) : Met l y_R_join (zW y_R_join b_R_join 3 none) (zr 4 100) (va_Pc [.ref (rA G 0), .int (nI (p0)), .int (nI (q0))] (rC G σ)) (va_Qv (fun u => ∃ V, rU σ V u ∧ V p0 = (jn (rMod 0) (rV σ p0) (rV σ (p0 + 1)) (rV σ (p0 + 2)) (rV σ q0) (rV σ (q0 + 1)) (rV σ (q0 + 2))).1 ∧ V (p0 + 1) = (jn (rMod 0) (rV σ p0) (rV σ (p0 + 1)) (rV σ (p0 + 2)) (rV σ q0) (rV σ (q0 + 1)) (rV σ (q0 + 2))).2.1 ∧ V (p0 + 2) = (jn (rMod 0) (rV σ p0) (rV σ (p0 + 1)) (rV σ (p0 + 2)) (rV σ q0) (rV σ (q0 + 1)) (rV σ (q0 + 2))).2.2 ∧ (∀ r, r ≠ p0 → r ≠ p0 + 1 → r ≠ p0 + 2 → (r < 31 ∨ 37 < r) → V r = rV σ r) ∧ ∀ r, V r < b26 ^ 10) (fun u => rC G u) (rAA G)) 0 0 (rAA G) := by
  refine Met.ofW (cc := b_R_join) (maxL := 3) (ret := none) (by decide) rfl ?_
  intro p e s m args below meth c s₁ B hml hv
  obtain ⟨rfl, hw⟩ := hv
  have hx := B.exec
  have hb := B.bytes
  have hr := B.returns
  have hts := atoms_spec (ws := zW y_R_join b_R_join 3 none) B.pre
  have ht : ∀ w ∈ zT, w.before ([.ref (rA G 0), .int (nI (p0)), .int (nI (q0))] : List Value).toArray s = true := fun w h => hts w (List.mem_cons_of_mem _ h)
  have hown : s.vm.findClass R_R = some m.cls := findClass_of_methodNamed B.named
  have hlocks := B.notSynchronized
  have hl := lv_entry ([.ref (rA G 0), .int (nI (p0)), .int (nI (q0))]) (n := 3) (Nat.le_of_ble_eq_true rfl)
  rw [lg_entry_eq]
  generalize (lg_sl ([.ref (rA G 0), .int (nI (p0)), .int (nI (q0))]) ++ List.replicate (3 - (lg_sl ([.ref (rA G 0), .int (nI (p0)), .int (nI (q0))])).length) Slot.unset).toArray = ls at hl ⊢
  have hl : lv_has ls 3 [(0, .ref (rA G 0)), (1, .int (nI (p0))), (2, .int (nI (q0)))] := hl
  obtain ⟨V0, u0, hV0, hu0, hok0, hw⟩ : ∃ (V : Nat → Nat) (u : rS), V = rV σ ∧ rU σ V u ∧ (∀ r, V r < b26 ^ 10) ∧ rH G u s s.heap [] := ⟨rV σ, σ, rfl, rU.rfl' σ, hok, hw⟩
  have hK0 : ∀ r, r ≠ p0 → r ≠ p0 + 1 → r ≠ p0 + 2 → (r < 31 ∨ 37 < r) → V0 r = rV σ r := fun r _ _ _ _ => by rw [hV0]
  have f0_8 : V0 8 = rMod 0 := by rw [hV0]; exact hq
  obtain ⟨x1, x1e⟩ : ∃ x, x = rV σ (p0) := ⟨_, rfl⟩
  have f0_x1 : V0 (p0) = x1 := by rw [hV0, x1e]
  obtain ⟨y1, y1e⟩ : ∃ x, x = rV σ (p0 + 1) := ⟨_, rfl⟩
  have f0_y1 : V0 (p0 + 1) = y1 := by rw [hV0, y1e]
  obtain ⟨z1, z1e⟩ : ∃ x, x = rV σ (p0 + 2) := ⟨_, rfl⟩
  have f0_z1 : V0 (p0 + 2) = z1 := by rw [hV0, z1e]
  obtain ⟨x2, x2e⟩ : ∃ x, x = rV σ (q0) := ⟨_, rfl⟩
  have f0_x2 : V0 (q0) = x2 := by rw [hV0, x2e]
  obtain ⟨y2, y2e⟩ : ∃ x, x = rV σ (q0 + 1) := ⟨_, rfl⟩
  have f0_y2 : V0 (q0 + 1) = y2 := by rw [hV0, y2e]
  obtain ⟨z2, z2e⟩ : ∃ x, x = rV σ (q0 + 2) := ⟨_, rfl⟩
  have f0_z2 : V0 (q0 + 2) = z2 := by rw [hV0, z2e]
  rw [← x1e] at hx1
  rw [← y1e] at hy1
  rw [← z1e] at hz1
  rw [← x2e] at hx2
  rw [← y2e] at hy2
  rw [← z2e] at hz2
  have hJ : ∀ V u H locs ls pc, decode b_R_join pc = .ok (.return_, 1) → rU σ V u → rH G u s H locs → V p0 = (jn (rMod 0) x1 y1 z1 x2 y2 z2).1 → V (p0 + 1) = (jn (rMod 0) x1 y1 z1 x2 y2 z2).2.1 → V (p0 + 2) = (jn (rMod 0) x1 y1 z1 x2 y2 z2).2.2 → (∀ r, r ≠ p0 → r ≠ p0 + 1 → r ≠ p0 + 2 → (r < 31 ∨ 37 < r) → V r = rV σ r) → (∀ r, V r < b26 ^ 10) → W p l e (headSpec (zW y_R_join b_R_join 3 none) (zr 4 100)).room s m ([.ref (rA G 0), .int (nI (p0)), .int (nI (q0))] : List Value).toArray below meth c H locs 0 0 (MQ below (va_Qv (fun u => ∃ V, rU σ V u ∧ V p0 = (jn (rMod 0) (rV σ p0) (rV σ (p0 + 1)) (rV σ (p0 + 2)) (rV σ q0) (rV σ (q0 + 1)) (rV σ (q0 + 2))).1 ∧ V (p0 + 1) = (jn (rMod 0) (rV σ p0) (rV σ (p0 + 1)) (rV σ (p0 + 2)) (rV σ q0) (rV σ (q0 + 1)) (rV σ (q0 + 2))).2.1 ∧ V (p0 + 2) = (jn (rMod 0) (rV σ p0) (rV σ (p0 + 1)) (rV σ (p0 + 2)) (rV σ q0) (rV σ (q0 + 1)) (rV σ (q0 + 2))).2.2 ∧ (∀ r, r ≠ p0 → r ≠ p0 + 1 → r ≠ p0 + 2 → (r < 31 ∨ 37 < r) → V r = rV σ r) ∧ ∀ r, V r < b26 ^ 10) (fun u => rC G u) (rAA G)) ([.ref (rA G 0), .int (nI (p0)), .int (nI (q0))] : List Value).toArray s 0 0 (rAA G)) (F0 m pc ls []) := by
    intro V u H locs ls pc hd hu hw e1 e2 e3 hk ho
    refine z_vret (rZ _) hx hb hr hlocks u hw ⟨V, hu, ?_, ?_, ?_, fun r h h1 h2 h3 => ?_, ho⟩ hd
    · rw [← x1e, ← y1e, ← z1e, ← x2e, ← y2e, ← z2e]; exact e1
    · rw [← x1e, ← y1e, ← z1e, ← x2e, ← y2e, ← z2e]; exact e2
    · rw [← x1e, ← y1e, ← z1e, ← x2e, ← y2e, ← z2e]; exact e3
    · exact hk r h h1 h2 h3
  refine lv_aload_n hx hb d_R_join_0 rfl (lv_at hl 0 rfl) ?_
  refine lv_iload_n hx hb d_R_join_1 rfl (lv_at hl 2 rfl) ?_
  refine r_calli (np := 1) (As := [.int (nI (q0))]) (rest := []) ⟨hx, hb, hml, hown, ht⟩ hw (c_R_isNone l G u0 (hu0.ok hok0) (by omega)) ⟨km_R_118, kv_R_isNone, kx_R_isNone, kc_R_isNone⟩ (by decide +kernel) ⟨by decide, by decide⟩ rfl rfl rfl hl.1 rfl (by decide) d_R_join_2 ⟨Nat.le_refl _, Nat.le_refl _⟩ (fun r ux H locs hp hw => ?_)
  obtain ⟨hpu, rfl⟩ := hp
  rw [hpu] at hw
  refine tp_i (y := nI (boolN (z2 = 0))) (by rw [hu0.V, f0_z2]) ?_
  refine n_eq0 (tgt := 9) hx hb d_R_join_5 (by decide) (boolN_s _) (fun c1 => ?_) (fun c1 => ?_)
  · have n1 : ¬ z2 = 0 := boolN_0 c1
    refine lv_aload_n hx hb d_R_join_9 rfl (lv_at hl 0 rfl) ?_
    refine lv_iload_n hx hb d_R_join_10 rfl (lv_at hl 1 rfl) ?_
    refine r_calli (np := 1) (As := [.int (nI (p0))]) (rest := []) ⟨hx, hb, hml, hown, ht⟩ hw (c_R_isNone l G u0 (hu0.ok hok0) (by omega)) ⟨km_R_118, kv_R_isNone, kx_R_isNone, kc_R_isNone⟩ (by decide +kernel) ⟨by decide, by decide⟩ rfl rfl rfl hl.1 rfl (by decide) d_R_join_11 ⟨Nat.le_refl _, Nat.le_refl _⟩ (fun r ux H locs hp hw => ?_)
    obtain ⟨hpu, rfl⟩ := hp
    rw [hpu] at hw
    refine tp_i (y := nI (boolN (z1 = 0))) (by rw [hu0.V, f0_z1]) ?_
    refine n_eq0 (tgt := 24) hx hb d_R_join_14 (by decide) (boolN_s _) (fun c2 => ?_) (fun c2 => ?_)
    · have n2 : ¬ z1 = 0 := boolN_0 c2
      refine lv_aload_n hx hb d_R_join_24 rfl (lv_at hl 0 rfl) ?_
      refine lv_bipush (v := nI 31) hx hb d_R_join_25 (by decide) ?_
      refine lv_iload_n hx hb d_R_join_27 rfl (lv_at hl 2 rfl) ?_
      refine lv_iconst (v := nI 1) hx hb d_R_join_28 (by decide) ?_
      refine lv_iadd hx hb d_R_join_29 ?_
      refine tp_i (y := nI (q0 + 1)) (nI_add _ _) ?_
      refine lv_iload_n hx hb d_R_join_30 rfl (lv_at hl 1 rfl) ?_
      refine lv_iconst (v := nI 2) hx hb d_R_join_31 (by decide) ?_
      refine lv_iadd hx hb d_R_join_32 ?_
      refine tp_i (y := nI (p0 + 2)) (nI_add _ _) ?_
      refine lv_bipush (v := nI 8) hx hb d_R_join_33 (by decide) ?_
      refine r_callv (np := 4) (As := [.int (nI (31)), .int (nI (q0 + 1)), .int (nI (p0 + 2)), .int (nI (8))]) (rest := []) ⟨hx, hb, hml, hown, ht⟩ hw (c_R_multiply l G u0 (hu0.ok hok0) (μ := 0) (by decide) (by decide) (by omega) (by omega) (by decide) (by rw [hu0.V]; exact f0_8)) ⟨km_R_96, kv_R_multiply, kx_R_multiply, kc_R_multiply⟩ (by decide +kernel) ⟨by decide, by decide⟩ rfl rfl rfl hl.1 rfl (by decide) d_R_join_35 ⟨Nat.le_refl _, Nat.le_refl _⟩ (fun u1 H locs hp hw => ?_)
      obtain ⟨V1, hu1, ht1, hk1, hok1⟩ := q_mul (by decide) hu0 hok0 hp
      have f1_8 : V1 (8) = rMod 0 := (hk1 _ (by decide)).trans f0_8
      have f1_p0 : V1 (p0) = x1 := (hk1 _ (by omega)).trans f0_x1
      have f1_p0_1 : V1 (p0 + 1) = y1 := (hk1 _ (by omega)).trans f0_y1
      have f1_p0_2 : V1 (p0 + 2) = z1 := (hk1 _ (by omega)).trans f0_z1
      have f1_q0 : V1 (q0) = x2 := (hk1 _ (by omega)).trans f0_x2
      have f1_q0_1 : V1 (q0 + 1) = y2 := (hk1 _ (by omega)).trans f0_y2
      have f1_q0_2 : V1 (q0 + 2) = z2 := (hk1 _ (by omega)).trans f0_z2
      have hK1 : ∀ r, r ≠ p0 → r ≠ p0 + 1 → r ≠ p0 + 2 → (r < 31 ∨ 37 < r) → V1 r = rV σ r := fun r a0 a1 a2 a3 => (hk1 r (by omega)).trans (hK0 r a0 a1 a2 a3)
      have f1_31 : V1 (31) = mm (rMod 0) (y2) (z1) := ht1.trans (by simp only [f0_y2, f0_z1])
      clear f0_8 f0_x1 f0_y1 f0_z1 f0_x2 f0_y2 f0_z2 ht1 hk1 hu0 hok0 hK0 hp
      refine lv_aload_n hx hb d_R_join_38 rfl (lv_at hl 0 rfl) ?_
      refine lv_bipush (v := nI 34) hx hb d_R_join_39 (by decide) ?_
      refine lv_iload_n hx hb d_R_join_41 rfl (lv_at hl 1 rfl) ?_
      refine lv_iconst (v := nI 1) hx hb d_R_join_42 (by decide) ?_
      refine lv_iadd hx hb d_R_join_43 ?_
      refine tp_i (y := nI (p0 + 1)) (nI_add _ _) ?_
      refine lv_iload_n hx hb d_R_join_44 rfl (lv_at hl 2 rfl) ?_
      refine lv_iconst (v := nI 2) hx hb d_R_join_45 (by decide) ?_
      refine lv_iadd hx hb d_R_join_46 ?_
      refine tp_i (y := nI (q0 + 2)) (nI_add _ _) ?_
      refine lv_bipush (v := nI 8) hx hb d_R_join_47 (by decide) ?_
      refine r_callv (np := 4) (As := [.int (nI (34)), .int (nI (p0 + 1)), .int (nI (q0 + 2)), .int (nI (8))]) (rest := []) ⟨hx, hb, hml, hown, ht⟩ hw (c_R_multiply l G u1 (hu1.ok hok1) (μ := 0) (by decide) (by decide) (by omega) (by omega) (by decide) (by rw [hu1.V]; exact f1_8)) ⟨km_R_96, kv_R_multiply, kx_R_multiply, kc_R_multiply⟩ (by decide +kernel) ⟨by decide, by decide⟩ rfl rfl rfl hl.1 rfl (by decide) d_R_join_49 ⟨Nat.le_refl _, Nat.le_refl _⟩ (fun u2 H locs hp hw => ?_)
      obtain ⟨V2, hu2, ht2, hk2, hok2⟩ := q_mul (by decide) hu1 hok1 hp
      have f2_8 : V2 (8) = rMod 0 := (hk2 _ (by decide)).trans f1_8
      have f2_p0 : V2 (p0) = x1 := (hk2 _ (by omega)).trans f1_p0
      have f2_p0_1 : V2 (p0 + 1) = y1 := (hk2 _ (by omega)).trans f1_p0_1
      have f2_p0_2 : V2 (p0 + 2) = z1 := (hk2 _ (by omega)).trans f1_p0_2
      have f2_q0 : V2 (q0) = x2 := (hk2 _ (by omega)).trans f1_q0
      have f2_q0_1 : V2 (q0 + 1) = y2 := (hk2 _ (by omega)).trans f1_q0_1
      have f2_q0_2 : V2 (q0 + 2) = z2 := (hk2 _ (by omega)).trans f1_q0_2
      have f2_31 : V2 (31) = mm (rMod 0) (y2) (z1) := (hk2 _ (by decide)).trans f1_31
      have hK2 : ∀ r, r ≠ p0 → r ≠ p0 + 1 → r ≠ p0 + 2 → (r < 31 ∨ 37 < r) → V2 r = rV σ r := fun r a0 a1 a2 a3 => (hk2 r (by omega)).trans (hK1 r a0 a1 a2 a3)
      have f2_34 : V2 (34) = mm (rMod 0) (y1) (z2) := ht2.trans (by simp only [f1_p0_1, f1_q0_2])
      clear f1_8 f1_p0 f1_p0_1 f1_p0_2 f1_q0 f1_q0_1 f1_q0_2 f1_31 ht2 hk2 hu1 hok1 hK1 hp
      refine lv_aload_n hx hb d_R_join_52 rfl (lv_at hl 0 rfl) ?_
      refine lv_bipush (v := nI 31) hx hb d_R_join_53 (by decide) ?_
      refine lv_bipush (v := nI 31) hx hb d_R_join_55 (by decide) ?_
      refine lv_bipush (v := nI 34) hx hb d_R_join_57 (by decide) ?_
      refine lv_bipush (v := nI 8) hx hb d_R_join_59 (by decide) ?_
      refine r_callv (np := 4) (As := [.int (nI (31)), .int (nI (31)), .int (nI (34)), .int (nI (8))]) (rest := []) ⟨hx, hb, hml, hown, ht⟩ hw (c_R_minus l G u2 (hu2.ok hok2) (by decide) (by decide) (by decide) (by decide) (by decide) (by decide) (by decide) (by rw [hu2.V, f2_8]; exact rMod_le (by decide)) (by rw [hu2.V, f2_31, f2_8]; exact mm_lt (rMod_pos (by decide))) (by rw [hu2.V, f2_34, f2_8]; exact mm_lt (rMod_pos (by decide)))) ⟨km_R_112, kv_R_minus, kx_R_minus, kc_R_minus⟩ (by decide +kernel) ⟨by decide, by decide⟩ rfl rfl rfl hl.1 rfl (by decide) d_R_join_61 ⟨Nat.le_refl _, Nat.le_refl _⟩ (fun u3 H locs hp hw => ?_)
      obtain ⟨V3, hu3, ht3, hk3, hok3⟩ := q_minus hu2 hok2 (by rw [f2_8]; exact rMod_pos (by decide)) (by rw [f2_8]; exact rMod_le (by decide)) hp
      have f3_8 : V3 (8) = rMod 0 := (hk3 _ (by decide) (by decide)).trans f2_8
      have f3_p0 : V3 (p0) = x1 := (hk3 _ (by omega) (by omega)).trans f2_p0
      have f3_p0_1 : V3 (p0 + 1) = y1 := (hk3 _ (by omega) (by omega)).trans f2_p0_1
      have f3_p0_2 : V3 (p0 + 2) = z1 := (hk3 _ (by omega) (by omega)).trans f2_p0_2
      have f3_q0 : V3 (q0) = x2 := (hk3 _ (by omega) (by omega)).trans f2_q0
      have f3_q0_1 : V3 (q0 + 1) = y2 := (hk3 _ (by omega) (by omega)).trans f2_q0_1
      have f3_q0_2 : V3 (q0 + 2) = z2 := (hk3 _ (by omega) (by omega)).trans f2_q0_2
      have f3_34 : V3 (34) = mm (rMod 0) (y1) (z2) := (hk3 _ (by decide) (by decide)).trans f2_34
      have hK3 : ∀ r, r ≠ p0 → r ≠ p0 + 1 → r ≠ p0 + 2 → (r < 31 ∨ 37 < r) → V3 r = rV σ r := fun r a0 a1 a2 a3 => (hk3 r (by omega) (by omega)).trans (hK2 r a0 a1 a2 a3)
      have f3_31 : V3 (31) = ss (rMod 0) (mm (rMod 0) (y2) (z1)) (mm (rMod 0) (y1) (z2)) := ht3.trans (by simp only [f2_31, f2_34, f2_8])
      clear f2_8 f2_p0 f2_p0_1 f2_p0_2 f2_q0 f2_q0_1 f2_q0_2 f2_31 f2_34 ht3 hk3 hu2 hok2 hK2 hp
      have f3_31n : V3 (31) = jU (rMod 0) y1 z1 y2 z2 := f3_31
      clear f3_31
      refine lv_aload_n hx hb d_R_join_64 rfl (lv_at hl 0 rfl) ?_
      refine lv_bipush (v := nI 32) hx hb d_R_join_65 (by decide) ?_
      refine lv_iload_n hx hb d_R_join_67 rfl (lv_at hl 2 rfl) ?_
      refine lv_iload_n hx hb d_R_join_68 rfl (lv_at hl 1 rfl) ?_
      refine lv_iconst (v := nI 2) hx hb d_R_join_69 (by decide) ?_
      refine lv_iadd hx hb d_R_join_70 ?_
      refine tp_i (y := nI (p0 + 2)) (nI_add _ _) ?_
      refine lv_bipush (v := nI 8) hx hb d_R_join_71 (by decide) ?_
      refine r_callv (np := 4) (As := [.int (nI (32)), .int (nI (q0)), .int (nI (p0 + 2)), .int (nI (8))]) (rest := []) ⟨hx, hb, hml, hown, ht⟩ hw (c_R_multiply l G u3 (hu3.ok hok3) (μ := 0) (by decide) (by decide) (by omega) (by omega) (by decide) (by rw [hu3.V]; exact f3_8)) ⟨km_R_96, kv_R_multiply, kx_R_multiply, kc_R_multiply⟩ (by decide +kernel) ⟨by decide, by decide⟩ rfl rfl rfl hl.1 rfl (by decide) d_R_join_73 ⟨Nat.le_refl _, Nat.le_refl _⟩ (fun u4 H locs hp hw => ?_)
      obtain ⟨V4, hu4, ht4, hk4, hok4⟩ := q_mul (by decide) hu3 hok3 hp
      have f4_8 : V4 (8) = rMod 0 := (hk4 _ (by decide)).trans f3_8
      have f4_p0 : V4 (p0) = x1 := (hk4 _ (by omega)).trans f3_p0
      have f4_p0_1 : V4 (p0 + 1) = y1 := (hk4 _ (by omega)).trans f3_p0_1
      have f4_p0_2 : V4 (p0 + 2) = z1 := (hk4 _ (by omega)).trans f3_p0_2
      have f4_q0 : V4 (q0) = x2 := (hk4 _ (by omega)).trans f3_q0
      have f4_q0_1 : V4 (q0 + 1) = y2 := (hk4 _ (by omega)).trans f3_q0_1
      have f4_q0_2 : V4 (q0 + 2) = z2 := (hk4 _ (by omega)).trans f3_q0_2
      have f4_34 : V4 (34) = mm (rMod 0) (y1) (z2) := (hk4 _ (by decide)).trans f3_34
      have f4_31 : V4 (31) = jU (rMod 0) y1 z1 y2 z2 := (hk4 _ (by decide)).trans f3_31n
      have hK4 : ∀ r, r ≠ p0 → r ≠ p0 + 1 → r ≠ p0 + 2 → (r < 31 ∨ 37 < r) → V4 r = rV σ r := fun r a0 a1 a2 a3 => (hk4 r (by omega)).trans (hK3 r a0 a1 a2 a3)
      have f4_32 : V4 (32) = mm (rMod 0) (x2) (z1) := ht4.trans (by simp only [f3_p0_2, f3_q0])
      clear f3_8 f3_p0 f3_p0_1 f3_p0_2 f3_q0 f3_q0_1 f3_q0_2 f3_34 f3_31n ht4 hk4 hu3 hok3 hK3 hp
      refine lv_aload_n hx hb d_R_join_76 rfl (lv_at hl 0 rfl) ?_
      refine lv_bipush (v := nI 34) hx hb d_R_join_77 (by decide) ?_
      refine lv_iload_n hx hb d_R_join_79 rfl (lv_at hl 1 rfl) ?_
      refine lv_iload_n hx hb d_R_join_80 rfl (lv_at hl 2 rfl) ?_
      refine lv_iconst (v := nI 2) hx hb d_R_join_81 (by decide) ?_
      refine lv_iadd hx hb d_R_join_82 ?_
      refine tp_i (y := nI (q0 + 2)) (nI_add _ _) ?_
      refine lv_bipush (v := nI 8) hx hb d_R_join_83 (by decide) ?_
      refine r_callv (np := 4) (As := [.int (nI (34)), .int (nI (p0)), .int (nI (q0 + 2)), .int (nI (8))]) (rest := []) ⟨hx, hb, hml, hown, ht⟩ hw (c_R_multiply l G u4 (hu4.ok hok4) (μ := 0) (by decide) (by decide) (by omega) (by omega) (by decide) (by rw [hu4.V]; exact f4_8)) ⟨km_R_96, kv_R_multiply, kx_R_multiply, kc_R_multiply⟩ (by decide +kernel) ⟨by decide, by decide⟩ rfl rfl rfl hl.1 rfl (by decide) d_R_join_85 ⟨Nat.le_refl _, Nat.le_refl _⟩ (fun u5 H locs hp hw => ?_)
      obtain ⟨V5, hu5, ht5, hk5, hok5⟩ := q_mul (by decide) hu4 hok4 hp
      have f5_8 : V5 (8) = rMod 0 := (hk5 _ (by decide)).trans f4_8
      have f5_p0 : V5 (p0) = x1 := (hk5 _ (by omega)).trans f4_p0
      have f5_p0_1 : V5 (p0 + 1) = y1 := (hk5 _ (by omega)).trans f4_p0_1
      have f5_p0_2 : V5 (p0 + 2) = z1 := (hk5 _ (by omega)).trans f4_p0_2
      have f5_q0 : V5 (q0) = x2 := (hk5 _ (by omega)).trans f4_q0
      have f5_q0_1 : V5 (q0 + 1) = y2 := (hk5 _ (by omega)).trans f4_q0_1
      have f5_q0_2 : V5 (q0 + 2) = z2 := (hk5 _ (by omega)).trans f4_q0_2
      have f5_31 : V5 (31) = jU (rMod 0) y1 z1 y2 z2 := (hk5 _ (by decide)).trans f4_31
      have f5_32 : V5 (32) = mm (rMod 0) (x2) (z1) := (hk5 _ (by decide)).trans f4_32
      have hK5 : ∀ r, r ≠ p0 → r ≠ p0 + 1 → r ≠ p0 + 2 → (r < 31 ∨ 37 < r) → V5 r = rV σ r := fun r a0 a1 a2 a3 => (hk5 r (by omega)).trans (hK4 r a0 a1 a2 a3)
      have f5_34 : V5 (34) = mm (rMod 0) (x1) (z2) := ht5.trans (by simp only [f4_p0, f4_q0_2])
      clear f4_8 f4_p0 f4_p0_1 f4_p0_2 f4_q0 f4_q0_1 f4_q0_2 f4_34 f4_31 f4_32 ht5 hk5 hu4 hok4 hK4 hp
      refine lv_aload_n hx hb d_R_join_88 rfl (lv_at hl 0 rfl) ?_
      refine lv_bipush (v := nI 32) hx hb d_R_join_89 (by decide) ?_
      refine lv_bipush (v := nI 32) hx hb d_R_join_91 (by decide) ?_
      refine lv_bipush (v := nI 34) hx hb d_R_join_93 (by decide) ?_
      refine lv_bipush (v := nI 8) hx hb d_R_join_95 (by decide) ?_
      refine r_callv (np := 4) (As := [.int (nI (32)), .int (nI (32)), .int (nI (34)), .int (nI (8))]) (rest := []) ⟨hx, hb, hml, hown, ht⟩ hw (c_R_minus l G u5 (hu5.ok hok5) (by decide) (by decide) (by decide) (by decide) (by decide) (by decide) (by decide) (by rw [hu5.V, f5_8]; exact rMod_le (by decide)) (by rw [hu5.V, f5_32, f5_8]; exact mm_lt (rMod_pos (by decide))) (by rw [hu5.V, f5_34, f5_8]; exact mm_lt (rMod_pos (by decide)))) ⟨km_R_112, kv_R_minus, kx_R_minus, kc_R_minus⟩ (by decide +kernel) ⟨by decide, by decide⟩ rfl rfl rfl hl.1 rfl (by decide) d_R_join_97 ⟨Nat.le_refl _, Nat.le_refl _⟩ (fun u6 H locs hp hw => ?_)
      obtain ⟨V6, hu6, ht6, hk6, hok6⟩ := q_minus hu5 hok5 (by rw [f5_8]; exact rMod_pos (by decide)) (by rw [f5_8]; exact rMod_le (by decide)) hp
      have f6_8 : V6 (8) = rMod 0 := (hk6 _ (by decide) (by decide)).trans f5_8
      have f6_p0 : V6 (p0) = x1 := (hk6 _ (by omega) (by omega)).trans f5_p0
      have f6_p0_1 : V6 (p0 + 1) = y1 := (hk6 _ (by omega) (by omega)).trans f5_p0_1
      have f6_p0_2 : V6 (p0 + 2) = z1 := (hk6 _ (by omega) (by omega)).trans f5_p0_2
      have f6_q0 : V6 (q0) = x2 := (hk6 _ (by omega) (by omega)).trans f5_q0
      have f6_q0_1 : V6 (q0 + 1) = y2 := (hk6 _ (by omega) (by omega)).trans f5_q0_1
      have f6_q0_2 : V6 (q0 + 2) = z2 := (hk6 _ (by omega) (by omega)).trans f5_q0_2
      have f6_31 : V6 (31) = jU (rMod 0) y1 z1 y2 z2 := (hk6 _ (by decide) (by decide)).trans f5_31
      have f6_34 : V6 (34) = mm (rMod 0) (x1) (z2) := (hk6 _ (by decide) (by decide)).trans f5_34
      have hK6 : ∀ r, r ≠ p0 → r ≠ p0 + 1 → r ≠ p0 + 2 → (r < 31 ∨ 37 < r) → V6 r = rV σ r := fun r a0 a1 a2 a3 => (hk6 r (by omega) (by omega)).trans (hK5 r a0 a1 a2 a3)
      have f6_32 : V6 (32) = ss (rMod 0) (mm (rMod 0) (x2) (z1)) (mm (rMod 0) (x1) (z2)) := ht6.trans (by simp only [f5_32, f5_34, f5_8])
      clear f5_8 f5_p0 f5_p0_1 f5_p0_2 f5_q0 f5_q0_1 f5_q0_2 f5_31 f5_32 f5_34 ht6 hk6 hu5 hok5 hK5 hp
      have f6_32n : V6 (32) = jV (rMod 0) x1 z1 x2 z2 := f6_32
      clear f6_32
      clear f6_q0
      clear f6_q0_1
      refine lv_aload_n hx hb d_R_join_100 rfl (lv_at hl 0 rfl) ?_
      refine lv_bipush (v := nI 32) hx hb d_R_join_101 (by decide) ?_
      refine r_calli (np := 1) (As := [.int (nI (32))]) (rest := []) ⟨hx, hb, hml, hown, ht⟩ hw (c_R_isNothing l G u6 (hu6.ok hok6) (by decide)) ⟨km_R_115, kv_R_isNothing, kx_R_isNothing, kc_R_isNothing⟩ (by decide +kernel) ⟨by decide, by decide⟩ rfl rfl rfl hl.1 rfl (by decide) d_R_join_103 ⟨Nat.le_refl _, Nat.le_refl _⟩ (fun r ux H locs hp hw => ?_)
      obtain ⟨hpu, rfl⟩ := hp
      rw [hpu] at hw
      refine tp_i (y := nI (boolN (jV (rMod 0) x1 z1 x2 z2 = 0))) (by rw [hu6.V, f6_32n]) ?_
      refine n_eq0 (tgt := 134) hx hb d_R_join_106 (by decide) (boolN_s _) (fun c3 => ?_) (fun c3 => ?_)
      · have n3 : ¬ jV (rMod 0) x1 z1 x2 z2 = 0 := boolN_0 c3
        obtain ⟨uu, huu⟩ : ∃ t, t = jU (rMod 0) y1 z1 y2 z2 := ⟨_, rfl⟩
        obtain ⟨vv, hvv⟩ : ∃ t, t = jV (rMod 0) x1 z1 x2 z2 := ⟨_, rfl⟩
        have fu : V6 31 = uu := by rw [huu]; exact f6_31
        have fv : V6 32 = vv := by rw [hvv]; exact f6_32n
        have huL : uu < rMod 0 := by rw [huu]; exact ss_lt (rMod_pos (by decide))
        have hvL : vv < rMod 0 := by rw [hvv]; exact ss_lt (rMod_pos (by decide))
        refine lv_aload_n hx hb d_R_join_134 rfl (lv_at hl 0 rfl) ?_
        refine lv_bipush (v := nI 35) hx hb d_R_join_135 (by decide) ?_
        refine lv_bipush (v := nI 32) hx hb d_R_join_137 (by decide) ?_
        refine lv_bipush (v := nI 32) hx hb d_R_join_139 (by decide) ?_
        refine lv_bipush (v := nI 8) hx hb d_R_join_141 (by decide) ?_
        refine r_callv (np := 4) (As := [.int (nI (35)), .int (nI (32)), .int (nI (32)), .int (nI (8))]) (rest := []) ⟨hx, hb, hml, hown, ht⟩ hw (c_R_multiply l G u6 (hu6.ok hok6) (μ := 0) (by decide) (by decide) (by decide) (by decide) (by decide) (by rw [hu6.V]; exact f6_8)) ⟨km_R_96, kv_R_multiply, kx_R_multiply, kc_R_multiply⟩ (by decide +kernel) ⟨by decide, by decide⟩ rfl rfl rfl hl.1 rfl (by decide) d_R_join_143 ⟨Nat.le_refl _, Nat.le_refl _⟩ (fun u7 H locs hp hw => ?_)
        obtain ⟨V7, hu7, ht7, hk7, hok7⟩ := q_mul (by decide) hu6 hok6 hp
        have f7_8 : V7 (8) = rMod 0 := (hk7 _ (by decide)).trans f6_8
        have f7_p0 : V7 (p0) = x1 := (hk7 _ (by omega)).trans f6_p0
        have f7_p0_1 : V7 (p0 + 1) = y1 := (hk7 _ (by omega)).trans f6_p0_1
        have f7_p0_2 : V7 (p0 + 2) = z1 := (hk7 _ (by omega)).trans f6_p0_2
        have f7_q0_2 : V7 (q0 + 2) = z2 := (hk7 _ (by omega)).trans f6_q0_2
        have f7_31 : V7 (31) = uu := (hk7 _ (by decide)).trans fu
        have f7_34 : V7 (34) = mm (rMod 0) (x1) (z2) := (hk7 _ (by decide)).trans f6_34
        have f7_32 : V7 (32) = vv := (hk7 _ (by decide)).trans fv
        have hK7 : ∀ r, r ≠ p0 → r ≠ p0 + 1 → r ≠ p0 + 2 → (r < 31 ∨ 37 < r) → V7 r = rV σ r := fun r a0 a1 a2 a3 => (hk7 r (by omega)).trans (hK6 r a0 a1 a2 a3)
        have f7_35 : V7 (35) = mm (rMod 0) (vv) (vv) := ht7.trans (by simp only [fv])
        clear f6_8 f6_p0 f6_p0_1 f6_p0_2 f6_q0_2 fu f6_34 fv ht7 hk7 hu6 hok6 hK6 hp
        refine lv_aload_n hx hb d_R_join_146 rfl (lv_at hl 0 rfl) ?_
        refine lv_bipush (v := nI 33) hx hb d_R_join_147 (by decide) ?_
        refine lv_bipush (v := nI 35) hx hb d_R_join_149 (by decide) ?_
        refine lv_bipush (v := nI 34) hx hb d_R_join_151 (by decide) ?_
        refine lv_bipush (v := nI 8) hx hb d_R_join_153 (by decide) ?_
        refine r_callv (np := 4) (As := [.int (nI (33)), .int (nI (35)), .int (nI (34)), .int (nI (8))]) (rest := []) ⟨hx, hb, hml, hown, ht⟩ hw (c_R_multiply l G u7 (hu7.ok hok7) (μ := 0) (by decide) (by decide) (by decide) (by decide) (by decide) (by rw [hu7.V]; exact f7_8)) ⟨km_R_96, kv_R_multiply, kx_R_multiply, kc_R_multiply⟩ (by decide +kernel) ⟨by decide, by decide⟩ rfl rfl rfl hl.1 rfl (by decide) d_R_join_155 ⟨Nat.le_refl _, Nat.le_refl _⟩ (fun u8 H locs hp hw => ?_)
        obtain ⟨V8, hu8, ht8, hk8, hok8⟩ := q_mul (by decide) hu7 hok7 hp
        have f8_8 : V8 (8) = rMod 0 := (hk8 _ (by decide)).trans f7_8
        have f8_p0 : V8 (p0) = x1 := (hk8 _ (by omega)).trans f7_p0
        have f8_p0_1 : V8 (p0 + 1) = y1 := (hk8 _ (by omega)).trans f7_p0_1
        have f8_p0_2 : V8 (p0 + 2) = z1 := (hk8 _ (by omega)).trans f7_p0_2
        have f8_q0_2 : V8 (q0 + 2) = z2 := (hk8 _ (by omega)).trans f7_q0_2
        have f8_31 : V8 (31) = uu := (hk8 _ (by decide)).trans f7_31
        have f8_34 : V8 (34) = mm (rMod 0) (x1) (z2) := (hk8 _ (by decide)).trans f7_34
        have f8_32 : V8 (32) = vv := (hk8 _ (by decide)).trans f7_32
        have f8_35 : V8 (35) = mm (rMod 0) (vv) (vv) := (hk8 _ (by decide)).trans f7_35
        have hK8 : ∀ r, r ≠ p0 → r ≠ p0 + 1 → r ≠ p0 + 2 → (r < 31 ∨ 37 < r) → V8 r = rV σ r := fun r a0 a1 a2 a3 => (hk8 r (by omega)).trans (hK7 r a0 a1 a2 a3)
        have f8_33 : V8 (33) = mm (rMod 0) (mm (rMod 0) (vv) (vv)) (mm (rMod 0) (x1) (z2)) := ht8.trans (by simp only [f7_34, f7_35])
        clear f7_8 f7_p0 f7_p0_1 f7_p0_2 f7_q0_2 f7_31 f7_34 f7_32 f7_35 ht8 hk8 hu7 hok7 hK7 hp
        clear f8_34
        refine lv_aload_n hx hb d_R_join_158 rfl (lv_at hl 0 rfl) ?_
        refine lv_bipush (v := nI 35) hx hb d_R_join_159 (by decide) ?_
        refine lv_bipush (v := nI 35) hx hb d_R_join_161 (by decide) ?_
        refine lv_bipush (v := nI 32) hx hb d_R_join_163 (by decide) ?_
        refine lv_bipush (v := nI 8) hx hb d_R_join_165 (by decide) ?_
        refine r_callv (np := 4) (As := [.int (nI (35)), .int (nI (35)), .int (nI (32)), .int (nI (8))]) (rest := []) ⟨hx, hb, hml, hown, ht⟩ hw (c_R_multiply l G u8 (hu8.ok hok8) (μ := 0) (by decide) (by decide) (by decide) (by decide) (by decide) (by rw [hu8.V]; exact f8_8)) ⟨km_R_96, kv_R_multiply, kx_R_multiply, kc_R_multiply⟩ (by decide +kernel) ⟨by decide, by decide⟩ rfl rfl rfl hl.1 rfl (by decide) d_R_join_167 ⟨Nat.le_refl _, Nat.le_refl _⟩ (fun u9 H locs hp hw => ?_)
        obtain ⟨V9, hu9, ht9, hk9, hok9⟩ := q_mul (by decide) hu8 hok8 hp
        have f9_8 : V9 (8) = rMod 0 := (hk9 _ (by decide)).trans f8_8
        have f9_p0 : V9 (p0) = x1 := (hk9 _ (by omega)).trans f8_p0
        have f9_p0_1 : V9 (p0 + 1) = y1 := (hk9 _ (by omega)).trans f8_p0_1
        have f9_p0_2 : V9 (p0 + 2) = z1 := (hk9 _ (by omega)).trans f8_p0_2
        have f9_q0_2 : V9 (q0 + 2) = z2 := (hk9 _ (by omega)).trans f8_q0_2
        have f9_31 : V9 (31) = uu := (hk9 _ (by decide)).trans f8_31
        have f9_32 : V9 (32) = vv := (hk9 _ (by decide)).trans f8_32
        have f9_33 : V9 (33) = mm (rMod 0) (mm (rMod 0) (vv) (vv)) (mm (rMod 0) (x1) (z2)) := (hk9 _ (by decide)).trans f8_33
        have hK9 : ∀ r, r ≠ p0 → r ≠ p0 + 1 → r ≠ p0 + 2 → (r < 31 ∨ 37 < r) → V9 r = rV σ r := fun r a0 a1 a2 a3 => (hk9 r (by omega)).trans (hK8 r a0 a1 a2 a3)
        have f9_35 : V9 (35) = mm (rMod 0) (mm (rMod 0) (vv) (vv)) (vv) := ht9.trans (by simp only [f8_32, f8_35])
        clear f8_8 f8_p0 f8_p0_1 f8_p0_2 f8_q0_2 f8_31 f8_32 f8_35 f8_33 ht9 hk9 hu8 hok8 hK8 hp
        refine lv_aload_n hx hb d_R_join_170 rfl (lv_at hl 0 rfl) ?_
        refine lv_bipush (v := nI 36) hx hb d_R_join_171 (by decide) ?_
        refine lv_iload_n hx hb d_R_join_173 rfl (lv_at hl 1 rfl) ?_
        refine lv_iconst (v := nI 2) hx hb d_R_join_174 (by decide) ?_
        refine lv_iadd hx hb d_R_join_175 ?_
        refine tp_i (y := nI (p0 + 2)) (nI_add _ _) ?_
        refine lv_iload_n hx hb d_R_join_176 rfl (lv_at hl 2 rfl) ?_
        refine lv_iconst (v := nI 2) hx hb d_R_join_177 (by decide) ?_
        refine lv_iadd hx hb d_R_join_178 ?_
        refine tp_i (y := nI (q0 + 2)) (nI_add _ _) ?_
        refine lv_bipush (v := nI 8) hx hb d_R_join_179 (by decide) ?_
        refine r_callv (np := 4) (As := [.int (nI (36)), .int (nI (p0 + 2)), .int (nI (q0 + 2)), .int (nI (8))]) (rest := []) ⟨hx, hb, hml, hown, ht⟩ hw (c_R_multiply l G u9 (hu9.ok hok9) (μ := 0) (by decide) (by decide) (by omega) (by omega) (by decide) (by rw [hu9.V]; exact f9_8)) ⟨km_R_96, kv_R_multiply, kx_R_multiply, kc_R_multiply⟩ (by decide +kernel) ⟨by decide, by decide⟩ rfl rfl rfl hl.1 rfl (by decide) d_R_join_181 ⟨Nat.le_refl _, Nat.le_refl _⟩ (fun u10 H locs hp hw => ?_)
        obtain ⟨V10, hu10, ht10, hk10, hok10⟩ := q_mul (by decide) hu9 hok9 hp
        have f10_8 : V10 (8) = rMod 0 := (hk10 _ (by decide)).trans f9_8
        have f10_p0 : V10 (p0) = x1 := (hk10 _ (by omega)).trans f9_p0
        have f10_p0_1 : V10 (p0 + 1) = y1 := (hk10 _ (by omega)).trans f9_p0_1
        have f10_p0_2 : V10 (p0 + 2) = z1 := (hk10 _ (by omega)).trans f9_p0_2
        have f10_q0_2 : V10 (q0 + 2) = z2 := (hk10 _ (by omega)).trans f9_q0_2
        have f10_31 : V10 (31) = uu := (hk10 _ (by decide)).trans f9_31
        have f10_32 : V10 (32) = vv := (hk10 _ (by decide)).trans f9_32
        have f10_33 : V10 (33) = mm (rMod 0) (mm (rMod 0) (vv) (vv)) (mm (rMod 0) (x1) (z2)) := (hk10 _ (by decide)).trans f9_33
        have f10_35 : V10 (35) = mm (rMod 0) (mm (rMod 0) (vv) (vv)) (vv) := (hk10 _ (by decide)).trans f9_35
        have hK10 : ∀ r, r ≠ p0 → r ≠ p0 + 1 → r ≠ p0 + 2 → (r < 31 ∨ 37 < r) → V10 r = rV σ r := fun r a0 a1 a2 a3 => (hk10 r (by omega)).trans (hK9 r a0 a1 a2 a3)
        have f10_36 : V10 (36) = mm (rMod 0) (z1) (z2) := ht10.trans (by simp only [f9_p0_2, f9_q0_2])
        clear f9_8 f9_p0 f9_p0_1 f9_p0_2 f9_q0_2 f9_31 f9_32 f9_33 f9_35 ht10 hk10 hu9 hok9 hK9 hp
        refine lv_aload_n hx hb d_R_join_184 rfl (lv_at hl 0 rfl) ?_
        refine lv_bipush (v := nI 34) hx hb d_R_join_185 (by decide) ?_
        refine lv_bipush (v := nI 31) hx hb d_R_join_187 (by decide) ?_
        refine lv_bipush (v := nI 31) hx hb d_R_join_189 (by decide) ?_
        refine lv_bipush (v := nI 8) hx hb d_R_join_191 (by decide) ?_
        refine r_callv (np := 4) (As := [.int (nI (34)), .int (nI (31)), .int (nI (31)), .int (nI (8))]) (rest := []) ⟨hx, hb, hml, hown, ht⟩ hw (c_R_multiply l G u10 (hu10.ok hok10) (μ := 0) (by decide) (by decide) (by decide) (by decide) (by decide) (by rw [hu10.V]; exact f10_8)) ⟨km_R_96, kv_R_multiply, kx_R_multiply, kc_R_multiply⟩ (by decide +kernel) ⟨by decide, by decide⟩ rfl rfl rfl hl.1 rfl (by decide) d_R_join_193 ⟨Nat.le_refl _, Nat.le_refl _⟩ (fun u11 H locs hp hw => ?_)
        obtain ⟨V11, hu11, ht11, hk11, hok11⟩ := q_mul (by decide) hu10 hok10 hp
        have f11_8 : V11 (8) = rMod 0 := (hk11 _ (by decide)).trans f10_8
        have f11_p0 : V11 (p0) = x1 := (hk11 _ (by omega)).trans f10_p0
        have f11_p0_1 : V11 (p0 + 1) = y1 := (hk11 _ (by omega)).trans f10_p0_1
        have f11_p0_2 : V11 (p0 + 2) = z1 := (hk11 _ (by omega)).trans f10_p0_2
        have f11_q0_2 : V11 (q0 + 2) = z2 := (hk11 _ (by omega)).trans f10_q0_2
        have f11_31 : V11 (31) = uu := (hk11 _ (by decide)).trans f10_31
        have f11_32 : V11 (32) = vv := (hk11 _ (by decide)).trans f10_32
        have f11_33 : V11 (33) = mm (rMod 0) (mm (rMod 0) (vv) (vv)) (mm (rMod 0) (x1) (z2)) := (hk11 _ (by decide)).trans f10_33
        have f11_35 : V11 (35) = mm (rMod 0) (mm (rMod 0) (vv) (vv)) (vv) := (hk11 _ (by decide)).trans f10_35
        have f11_36 : V11 (36) = mm (rMod 0) (z1) (z2) := (hk11 _ (by decide)).trans f10_36
        have hK11 : ∀ r, r ≠ p0 → r ≠ p0 + 1 → r ≠ p0 + 2 → (r < 31 ∨ 37 < r) → V11 r = rV σ r := fun r a0 a1 a2 a3 => (hk11 r (by omega)).trans (hK10 r a0 a1 a2 a3)
        have f11_34 : V11 (34) = mm (rMod 0) (uu) (uu) := ht11.trans (by simp only [f10_31])
        clear f10_8 f10_p0 f10_p0_1 f10_p0_2 f10_q0_2 f10_31 f10_32 f10_33 f10_35 f10_36 ht11 hk11 hu10 hok10 hK10 hp
        refine lv_aload_n hx hb d_R_join_196 rfl (lv_at hl 0 rfl) ?_
        refine lv_bipush (v := nI 34) hx hb d_R_join_197 (by decide) ?_
        refine lv_bipush (v := nI 34) hx hb d_R_join_199 (by decide) ?_
        refine lv_bipush (v := nI 36) hx hb d_R_join_201 (by decide) ?_
        refine lv_bipush (v := nI 8) hx hb d_R_join_203 (by decide) ?_
        refine r_callv (np := 4) (As := [.int (nI (34)), .int (nI (34)), .int (nI (36)), .int (nI (8))]) (rest := []) ⟨hx, hb, hml, hown, ht⟩ hw (c_R_multiply l G u11 (hu11.ok hok11) (μ := 0) (by decide) (by decide) (by decide) (by decide) (by decide) (by rw [hu11.V]; exact f11_8)) ⟨km_R_96, kv_R_multiply, kx_R_multiply, kc_R_multiply⟩ (by decide +kernel) ⟨by decide, by decide⟩ rfl rfl rfl hl.1 rfl (by decide) d_R_join_205 ⟨Nat.le_refl _, Nat.le_refl _⟩ (fun u12 H locs hp hw => ?_)
        obtain ⟨V12, hu12, ht12, hk12, hok12⟩ := q_mul (by decide) hu11 hok11 hp
        have f12_8 : V12 (8) = rMod 0 := (hk12 _ (by decide)).trans f11_8
        have f12_p0 : V12 (p0) = x1 := (hk12 _ (by omega)).trans f11_p0
        have f12_p0_1 : V12 (p0 + 1) = y1 := (hk12 _ (by omega)).trans f11_p0_1
        have f12_p0_2 : V12 (p0 + 2) = z1 := (hk12 _ (by omega)).trans f11_p0_2
        have f12_q0_2 : V12 (q0 + 2) = z2 := (hk12 _ (by omega)).trans f11_q0_2
        have f12_31 : V12 (31) = uu := (hk12 _ (by decide)).trans f11_31
        have f12_32 : V12 (32) = vv := (hk12 _ (by decide)).trans f11_32
        have f12_33 : V12 (33) = mm (rMod 0) (mm (rMod 0) (vv) (vv)) (mm (rMod 0) (x1) (z2)) := (hk12 _ (by decide)).trans f11_33
        have f12_35 : V12 (35) = mm (rMod 0) (mm (rMod 0) (vv) (vv)) (vv) := (hk12 _ (by decide)).trans f11_35
        have f12_36 : V12 (36) = mm (rMod 0) (z1) (z2) := (hk12 _ (by decide)).trans f11_36
        have hK12 : ∀ r, r ≠ p0 → r ≠ p0 + 1 → r ≠ p0 + 2 → (r < 31 ∨ 37 < r) → V12 r = rV σ r := fun r a0 a1 a2 a3 => (hk12 r (by omega)).trans (hK11 r a0 a1 a2 a3)
        have f12_34 : V12 (34) = mm (rMod 0) (mm (rMod 0) (uu) (uu)) (mm (rMod 0) (z1) (z2)) := ht12.trans (by simp only [f11_34, f11_36])
        clear f11_8 f11_p0 f11_p0_1 f11_p0_2 f11_q0_2 f11_31 f11_32 f11_33 f11_35 f11_36 f11_34 ht12 hk12 hu11 hok11 hK11 hp
        refine lv_aload_n hx hb d_R_join_208 rfl (lv_at hl 0 rfl) ?_
        refine lv_bipush (v := nI 34) hx hb d_R_join_209 (by decide) ?_
        refine lv_bipush (v := nI 34) hx hb d_R_join_211 (by decide) ?_
        refine lv_bipush (v := nI 35) hx hb d_R_join_213 (by decide) ?_
        refine lv_bipush (v := nI 8) hx hb d_R_join_215 (by decide) ?_
        refine r_callv (np := 4) (As := [.int (nI (34)), .int (nI (34)), .int (nI (35)), .int (nI (8))]) (rest := []) ⟨hx, hb, hml, hown, ht⟩ hw (c_R_minus l G u12 (hu12.ok hok12) (by decide) (by decide) (by decide) (by decide) (by decide) (by decide) (by decide) (by rw [hu12.V, f12_8]; exact rMod_le (by decide)) (by rw [hu12.V, f12_34, f12_8]; exact mm_lt (rMod_pos (by decide))) (by rw [hu12.V, f12_35, f12_8]; exact mm_lt (rMod_pos (by decide)))) ⟨km_R_112, kv_R_minus, kx_R_minus, kc_R_minus⟩ (by decide +kernel) ⟨by decide, by decide⟩ rfl rfl rfl hl.1 rfl (by decide) d_R_join_217 ⟨Nat.le_refl _, Nat.le_refl _⟩ (fun u13 H locs hp hw => ?_)
        obtain ⟨V13, hu13, ht13, hk13, hok13⟩ := q_minus hu12 hok12 (by rw [f12_8]; exact rMod_pos (by decide)) (by rw [f12_8]; exact rMod_le (by decide)) hp
        have f13_8 : V13 (8) = rMod 0 := (hk13 _ (by decide) (by decide)).trans f12_8
        have f13_p0 : V13 (p0) = x1 := (hk13 _ (by omega) (by omega)).trans f12_p0
        have f13_p0_1 : V13 (p0 + 1) = y1 := (hk13 _ (by omega) (by omega)).trans f12_p0_1
        have f13_p0_2 : V13 (p0 + 2) = z1 := (hk13 _ (by omega) (by omega)).trans f12_p0_2
        have f13_q0_2 : V13 (q0 + 2) = z2 := (hk13 _ (by omega) (by omega)).trans f12_q0_2
        have f13_31 : V13 (31) = uu := (hk13 _ (by decide) (by decide)).trans f12_31
        have f13_32 : V13 (32) = vv := (hk13 _ (by decide) (by decide)).trans f12_32
        have f13_33 : V13 (33) = mm (rMod 0) (mm (rMod 0) (vv) (vv)) (mm (rMod 0) (x1) (z2)) := (hk13 _ (by decide) (by decide)).trans f12_33
        have f13_35 : V13 (35) = mm (rMod 0) (mm (rMod 0) (vv) (vv)) (vv) := (hk13 _ (by decide) (by decide)).trans f12_35
        have f13_36 : V13 (36) = mm (rMod 0) (z1) (z2) := (hk13 _ (by decide) (by decide)).trans f12_36
        have hK13 : ∀ r, r ≠ p0 → r ≠ p0 + 1 → r ≠ p0 + 2 → (r < 31 ∨ 37 < r) → V13 r = rV σ r := fun r a0 a1 a2 a3 => (hk13 r (by omega) (by omega)).trans (hK12 r a0 a1 a2 a3)
        have f13_34 : V13 (34) = ss (rMod 0) (mm (rMod 0) (mm (rMod 0) (uu) (uu)) (mm (rMod 0) (z1) (z2))) (mm (rMod 0) (mm (rMod 0) (vv) (vv)) (vv)) := ht13.trans (by simp only [f12_34, f12_35, f12_8])
        clear f12_8 f12_p0 f12_p0_1 f12_p0_2 f12_q0_2 f12_31 f12_32 f12_33 f12_35 f12_36 f12_34 ht13 hk13 hu12 hok12 hK12 hp
        refine lv_aload_n hx hb d_R_join_220 rfl (lv_at hl 0 rfl) ?_
        refine lv_bipush (v := nI 34) hx hb d_R_join_221 (by decide) ?_
        refine lv_bipush (v := nI 34) hx hb d_R_join_223 (by decide) ?_
        refine lv_bipush (v := nI 33) hx hb d_R_join_225 (by decide) ?_
        refine lv_bipush (v := nI 8) hx hb d_R_join_227 (by decide) ?_
        refine r_callv (np := 4) (As := [.int (nI (34)), .int (nI (34)), .int (nI (33)), .int (nI (8))]) (rest := []) ⟨hx, hb, hml, hown, ht⟩ hw (c_R_minus l G u13 (hu13.ok hok13) (by decide) (by decide) (by decide) (by decide) (by decide) (by decide) (by decide) (by rw [hu13.V, f13_8]; exact rMod_le (by decide)) (by rw [hu13.V, f13_34, f13_8]; exact ss_lt (rMod_pos (by decide))) (by rw [hu13.V, f13_33, f13_8]; exact mm_lt (rMod_pos (by decide)))) ⟨km_R_112, kv_R_minus, kx_R_minus, kc_R_minus⟩ (by decide +kernel) ⟨by decide, by decide⟩ rfl rfl rfl hl.1 rfl (by decide) d_R_join_229 ⟨Nat.le_refl _, Nat.le_refl _⟩ (fun u14 H locs hp hw => ?_)
        obtain ⟨V14, hu14, ht14, hk14, hok14⟩ := q_minus hu13 hok13 (by rw [f13_8]; exact rMod_pos (by decide)) (by rw [f13_8]; exact rMod_le (by decide)) hp
        have f14_8 : V14 (8) = rMod 0 := (hk14 _ (by decide) (by decide)).trans f13_8
        have f14_p0 : V14 (p0) = x1 := (hk14 _ (by omega) (by omega)).trans f13_p0
        have f14_p0_1 : V14 (p0 + 1) = y1 := (hk14 _ (by omega) (by omega)).trans f13_p0_1
        have f14_p0_2 : V14 (p0 + 2) = z1 := (hk14 _ (by omega) (by omega)).trans f13_p0_2
        have f14_q0_2 : V14 (q0 + 2) = z2 := (hk14 _ (by omega) (by omega)).trans f13_q0_2
        have f14_31 : V14 (31) = uu := (hk14 _ (by decide) (by decide)).trans f13_31
        have f14_32 : V14 (32) = vv := (hk14 _ (by decide) (by decide)).trans f13_32
        have f14_33 : V14 (33) = mm (rMod 0) (mm (rMod 0) (vv) (vv)) (mm (rMod 0) (x1) (z2)) := (hk14 _ (by decide) (by decide)).trans f13_33
        have f14_35 : V14 (35) = mm (rMod 0) (mm (rMod 0) (vv) (vv)) (vv) := (hk14 _ (by decide) (by decide)).trans f13_35
        have f14_36 : V14 (36) = mm (rMod 0) (z1) (z2) := (hk14 _ (by decide) (by decide)).trans f13_36
        have hK14 : ∀ r, r ≠ p0 → r ≠ p0 + 1 → r ≠ p0 + 2 → (r < 31 ∨ 37 < r) → V14 r = rV σ r := fun r a0 a1 a2 a3 => (hk14 r (by omega) (by omega)).trans (hK13 r a0 a1 a2 a3)
        have f14_34 : V14 (34) = ss (rMod 0) (ss (rMod 0) (mm (rMod 0) (mm (rMod 0) (uu) (uu)) (mm (rMod 0) (z1) (z2))) (mm (rMod 0) (mm (rMod 0) (vv) (vv)) (vv))) (mm (rMod 0) (mm (rMod 0) (vv) (vv)) (mm (rMod 0) (x1) (z2))) := ht14.trans (by simp only [f13_33, f13_34, f13_8])
        clear f13_8 f13_p0 f13_p0_1 f13_p0_2 f13_q0_2 f13_31 f13_32 f13_33 f13_35 f13_36 f13_34 ht14 hk14 hu13 hok13 hK13 hp
        refine lv_aload_n hx hb d_R_join_232 rfl (lv_at hl 0 rfl) ?_
        refine lv_bipush (v := nI 34) hx hb d_R_join_233 (by decide) ?_
        refine lv_bipush (v := nI 34) hx hb d_R_join_235 (by decide) ?_
        refine lv_bipush (v := nI 33) hx hb d_R_join_237 (by decide) ?_
        refine lv_bipush (v := nI 8) hx hb d_R_join_239 (by decide) ?_
        refine r_callv (np := 4) (As := [.int (nI (34)), .int (nI (34)), .int (nI (33)), .int (nI (8))]) (rest := []) ⟨hx, hb, hml, hown, ht⟩ hw (c_R_minus l G u14 (hu14.ok hok14) (by decide) (by decide) (by decide) (by decide) (by decide) (by decide) (by decide) (by rw [hu14.V, f14_8]; exact rMod_le (by decide)) (by rw [hu14.V, f14_34, f14_8]; exact ss_lt (rMod_pos (by decide))) (by rw [hu14.V, f14_33, f14_8]; exact mm_lt (rMod_pos (by decide)))) ⟨km_R_112, kv_R_minus, kx_R_minus, kc_R_minus⟩ (by decide +kernel) ⟨by decide, by decide⟩ rfl rfl rfl hl.1 rfl (by decide) d_R_join_241 ⟨Nat.le_refl _, Nat.le_refl _⟩ (fun u15 H locs hp hw => ?_)
        obtain ⟨V15, hu15, ht15, hk15, hok15⟩ := q_minus hu14 hok14 (by rw [f14_8]; exact rMod_pos (by decide)) (by rw [f14_8]; exact rMod_le (by decide)) hp
        have f15_8 : V15 (8) = rMod 0 := (hk15 _ (by decide) (by decide)).trans f14_8
        have f15_p0 : V15 (p0) = x1 := (hk15 _ (by omega) (by omega)).trans f14_p0
        have f15_p0_1 : V15 (p0 + 1) = y1 := (hk15 _ (by omega) (by omega)).trans f14_p0_1
        have f15_p0_2 : V15 (p0 + 2) = z1 := (hk15 _ (by omega) (by omega)).trans f14_p0_2
        have f15_q0_2 : V15 (q0 + 2) = z2 := (hk15 _ (by omega) (by omega)).trans f14_q0_2
        have f15_31 : V15 (31) = uu := (hk15 _ (by decide) (by decide)).trans f14_31
        have f15_32 : V15 (32) = vv := (hk15 _ (by decide) (by decide)).trans f14_32
        have f15_33 : V15 (33) = mm (rMod 0) (mm (rMod 0) (vv) (vv)) (mm (rMod 0) (x1) (z2)) := (hk15 _ (by decide) (by decide)).trans f14_33
        have f15_35 : V15 (35) = mm (rMod 0) (mm (rMod 0) (vv) (vv)) (vv) := (hk15 _ (by decide) (by decide)).trans f14_35
        have f15_36 : V15 (36) = mm (rMod 0) (z1) (z2) := (hk15 _ (by decide) (by decide)).trans f14_36
        have hK15 : ∀ r, r ≠ p0 → r ≠ p0 + 1 → r ≠ p0 + 2 → (r < 31 ∨ 37 < r) → V15 r = rV σ r := fun r a0 a1 a2 a3 => (hk15 r (by omega) (by omega)).trans (hK14 r a0 a1 a2 a3)
        have f15_34 : V15 (34) = ss (rMod 0) (ss (rMod 0) (ss (rMod 0) (mm (rMod 0) (mm (rMod 0) (uu) (uu)) (mm (rMod 0) (z1) (z2))) (mm (rMod 0) (mm (rMod 0) (vv) (vv)) (vv))) (mm (rMod 0) (mm (rMod 0) (vv) (vv)) (mm (rMod 0) (x1) (z2)))) (mm (rMod 0) (mm (rMod 0) (vv) (vv)) (mm (rMod 0) (x1) (z2))) := ht15.trans (by simp only [f14_33, f14_34, f14_8])
        clear f14_8 f14_p0 f14_p0_1 f14_p0_2 f14_q0_2 f14_31 f14_32 f14_33 f14_35 f14_36 f14_34 ht15 hk15 hu14 hok14 hK14 hp
        have f15_34n : V15 (34) = jXX (rMod 0) uu vv (mm (rMod 0) x1 z2) (mm (rMod 0) z1 z2) := f15_34
        clear f15_34
        refine lv_aload_n hx hb d_R_join_244 rfl (lv_at hl 0 rfl) ?_
        refine lv_bipush (v := nI 33) hx hb d_R_join_245 (by decide) ?_
        refine lv_bipush (v := nI 33) hx hb d_R_join_247 (by decide) ?_
        refine lv_bipush (v := nI 34) hx hb d_R_join_249 (by decide) ?_
        refine lv_bipush (v := nI 8) hx hb d_R_join_251 (by decide) ?_
        refine r_callv (np := 4) (As := [.int (nI (33)), .int (nI (33)), .int (nI (34)), .int (nI (8))]) (rest := []) ⟨hx, hb, hml, hown, ht⟩ hw (c_R_minus l G u15 (hu15.ok hok15) (by decide) (by decide) (by decide) (by decide) (by decide) (by decide) (by decide) (by rw [hu15.V, f15_8]; exact rMod_le (by decide)) (by rw [hu15.V, f15_33, f15_8]; exact mm_lt (rMod_pos (by decide))) (by rw [hu15.V, f15_34n, f15_8]; exact ss_lt (rMod_pos (by decide)))) ⟨km_R_112, kv_R_minus, kx_R_minus, kc_R_minus⟩ (by decide +kernel) ⟨by decide, by decide⟩ rfl rfl rfl hl.1 rfl (by decide) d_R_join_253 ⟨Nat.le_refl _, Nat.le_refl _⟩ (fun u16 H locs hp hw => ?_)
        obtain ⟨V16, hu16, ht16, hk16, hok16⟩ := q_minus hu15 hok15 (by rw [f15_8]; exact rMod_pos (by decide)) (by rw [f15_8]; exact rMod_le (by decide)) hp
        have f16_8 : V16 (8) = rMod 0 := (hk16 _ (by decide) (by decide)).trans f15_8
        have f16_p0 : V16 (p0) = x1 := (hk16 _ (by omega) (by omega)).trans f15_p0
        have f16_p0_1 : V16 (p0 + 1) = y1 := (hk16 _ (by omega) (by omega)).trans f15_p0_1
        have f16_p0_2 : V16 (p0 + 2) = z1 := (hk16 _ (by omega) (by omega)).trans f15_p0_2
        have f16_q0_2 : V16 (q0 + 2) = z2 := (hk16 _ (by omega) (by omega)).trans f15_q0_2
        have f16_31 : V16 (31) = uu := (hk16 _ (by decide) (by decide)).trans f15_31
        have f16_32 : V16 (32) = vv := (hk16 _ (by decide) (by decide)).trans f15_32
        have f16_35 : V16 (35) = mm (rMod 0) (mm (rMod 0) (vv) (vv)) (vv) := (hk16 _ (by decide) (by decide)).trans f15_35
        have f16_36 : V16 (36) = mm (rMod 0) (z1) (z2) := (hk16 _ (by decide) (by decide)).trans f15_36
        have f16_34 : V16 (34) = jXX (rMod 0) uu vv (mm (rMod 0) x1 z2) (mm (rMod 0) z1 z2) := (hk16 _ (by decide) (by decide)).trans f15_34n
        have hK16 : ∀ r, r ≠ p0 → r ≠ p0 + 1 → r ≠ p0 + 2 → (r < 31 ∨ 37 < r) → V16 r = rV σ r := fun r a0 a1 a2 a3 => (hk16 r (by omega) (by omega)).trans (hK15 r a0 a1 a2 a3)
        have f16_33 : V16 (33) = ss (rMod 0) (mm (rMod 0) (mm (rMod 0) (vv) (vv)) (mm (rMod 0) (x1) (z2))) (jXX (rMod 0) uu vv (mm (rMod 0) x1 z2) (mm (rMod 0) z1 z2)) := ht16.trans (by simp only [f15_33, f15_34n, f15_8])
        clear f15_8 f15_p0 f15_p0_1 f15_p0_2 f15_q0_2 f15_31 f15_32 f15_33 f15_35 f15_36 f15_34n ht16 hk16 hu15 hok15 hK15 hp
        refine lv_aload_n hx hb d_R_join_256 rfl (lv_at hl 0 rfl) ?_
        refine lv_bipush (v := nI 33) hx hb d_R_join_257 (by decide) ?_
        refine lv_bipush (v := nI 31) hx hb d_R_join_259 (by decide) ?_
        refine lv_bipush (v := nI 33) hx hb d_R_join_261 (by decide) ?_
        refine lv_bipush (v := nI 8) hx hb d_R_join_263 (by decide) ?_
        refine r_callv (np := 4) (As := [.int (nI (33)), .int (nI (31)), .int (nI (33)), .int (nI (8))]) (rest := []) ⟨hx, hb, hml, hown, ht⟩ hw (c_R_multiply l G u16 (hu16.ok hok16) (μ := 0) (by decide) (by decide) (by decide) (by decide) (by decide) (by rw [hu16.V]; exact f16_8)) ⟨km_R_96, kv_R_multiply, kx_R_multiply, kc_R_multiply⟩ (by decide +kernel) ⟨by decide, by decide⟩ rfl rfl rfl hl.1 rfl (by decide) d_R_join_265 ⟨Nat.le_refl _, Nat.le_refl _⟩ (fun u17 H locs hp hw => ?_)
        obtain ⟨V17, hu17, ht17, hk17, hok17⟩ := q_mul (by decide) hu16 hok16 hp
        have f17_8 : V17 (8) = rMod 0 := (hk17 _ (by decide)).trans f16_8
        have f17_p0 : V17 (p0) = x1 := (hk17 _ (by omega)).trans f16_p0
        have f17_p0_1 : V17 (p0 + 1) = y1 := (hk17 _ (by omega)).trans f16_p0_1
        have f17_p0_2 : V17 (p0 + 2) = z1 := (hk17 _ (by omega)).trans f16_p0_2
        have f17_q0_2 : V17 (q0 + 2) = z2 := (hk17 _ (by omega)).trans f16_q0_2
        have f17_31 : V17 (31) = uu := (hk17 _ (by decide)).trans f16_31
        have f17_32 : V17 (32) = vv := (hk17 _ (by decide)).trans f16_32
        have f17_35 : V17 (35) = mm (rMod 0) (mm (rMod 0) (vv) (vv)) (vv) := (hk17 _ (by decide)).trans f16_35
        have f17_36 : V17 (36) = mm (rMod 0) (z1) (z2) := (hk17 _ (by decide)).trans f16_36
        have f17_34 : V17 (34) = jXX (rMod 0) uu vv (mm (rMod 0) x1 z2) (mm (rMod 0) z1 z2) := (hk17 _ (by decide)).trans f16_34
        have hK17 : ∀ r, r ≠ p0 → r ≠ p0 + 1 → r ≠ p0 + 2 → (r < 31 ∨ 37 < r) → V17 r = rV σ r := fun r a0 a1 a2 a3 => (hk17 r (by omega)).trans (hK16 r a0 a1 a2 a3)
        have f17_33 : V17 (33) = mm (rMod 0) (uu) (ss (rMod 0) (mm (rMod 0) (mm (rMod 0) (vv) (vv)) (mm (rMod 0) (x1) (z2))) (jXX (rMod 0) uu vv (mm (rMod 0) x1 z2) (mm (rMod 0) z1 z2))) := ht17.trans (by simp only [f16_31, f16_33])
        clear f16_8 f16_p0 f16_p0_1 f16_p0_2 f16_q0_2 f16_31 f16_32 f16_35 f16_36 f16_34 f16_33 ht17 hk17 hu16 hok16 hK16 hp
        refine lv_aload_n hx hb d_R_join_268 rfl (lv_at hl 0 rfl) ?_
        refine lv_bipush (v := nI 31) hx hb d_R_join_269 (by decide) ?_
        refine lv_iload_n hx hb d_R_join_271 rfl (lv_at hl 1 rfl) ?_
        refine lv_iconst (v := nI 1) hx hb d_R_join_272 (by decide) ?_
        refine lv_iadd hx hb d_R_join_273 ?_
        refine tp_i (y := nI (p0 + 1)) (nI_add _ _) ?_
        refine lv_iload_n hx hb d_R_join_274 rfl (lv_at hl 2 rfl) ?_
        refine lv_iconst (v := nI 2) hx hb d_R_join_275 (by decide) ?_
        refine lv_iadd hx hb d_R_join_276 ?_
        refine tp_i (y := nI (q0 + 2)) (nI_add _ _) ?_
        refine lv_bipush (v := nI 8) hx hb d_R_join_277 (by decide) ?_
        refine r_callv (np := 4) (As := [.int (nI (31)), .int (nI (p0 + 1)), .int (nI (q0 + 2)), .int (nI (8))]) (rest := []) ⟨hx, hb, hml, hown, ht⟩ hw (c_R_multiply l G u17 (hu17.ok hok17) (μ := 0) (by decide) (by decide) (by omega) (by omega) (by decide) (by rw [hu17.V]; exact f17_8)) ⟨km_R_96, kv_R_multiply, kx_R_multiply, kc_R_multiply⟩ (by decide +kernel) ⟨by decide, by decide⟩ rfl rfl rfl hl.1 rfl (by decide) d_R_join_279 ⟨Nat.le_refl _, Nat.le_refl _⟩ (fun u18 H locs hp hw => ?_)
        obtain ⟨V18, hu18, ht18, hk18, hok18⟩ := q_mul (by decide) hu17 hok17 hp
        have f18_8 : V18 (8) = rMod 0 := (hk18 _ (by decide)).trans f17_8
        have f18_p0 : V18 (p0) = x1 := (hk18 _ (by omega)).trans f17_p0
        have f18_p0_1 : V18 (p0 + 1) = y1 := (hk18 _ (by omega)).trans f17_p0_1
        have f18_p0_2 : V18 (p0 + 2) = z1 := (hk18 _ (by omega)).trans f17_p0_2
        have f18_q0_2 : V18 (q0 + 2) = z2 := (hk18 _ (by omega)).trans f17_q0_2
        have f18_32 : V18 (32) = vv := (hk18 _ (by decide)).trans f17_32
        have f18_35 : V18 (35) = mm (rMod 0) (mm (rMod 0) (vv) (vv)) (vv) := (hk18 _ (by decide)).trans f17_35
        have f18_36 : V18 (36) = mm (rMod 0) (z1) (z2) := (hk18 _ (by decide)).trans f17_36
        have f18_34 : V18 (34) = jXX (rMod 0) uu vv (mm (rMod 0) x1 z2) (mm (rMod 0) z1 z2) := (hk18 _ (by decide)).trans f17_34
        have f18_33 : V18 (33) = mm (rMod 0) (uu) (ss (rMod 0) (mm (rMod 0) (mm (rMod 0) (vv) (vv)) (mm (rMod 0) (x1) (z2))) (jXX (rMod 0) uu vv (mm (rMod 0) x1 z2) (mm (rMod 0) z1 z2))) := (hk18 _ (by decide)).trans f17_33
        have hK18 : ∀ r, r ≠ p0 → r ≠ p0 + 1 → r ≠ p0 + 2 → (r < 31 ∨ 37 < r) → V18 r = rV σ r := fun r a0 a1 a2 a3 => (hk18 r (by omega)).trans (hK17 r a0 a1 a2 a3)
        have f18_31 : V18 (31) = mm (rMod 0) (y1) (z2) := ht18.trans (by simp only [f17_p0_1, f17_q0_2])
        clear f17_8 f17_p0 f17_p0_1 f17_p0_2 f17_q0_2 f17_31 f17_32 f17_35 f17_36 f17_34 f17_33 ht18 hk18 hu17 hok17 hK17 hp
        clear f18_q0_2
        refine lv_aload_n hx hb d_R_join_282 rfl (lv_at hl 0 rfl) ?_
        refine lv_bipush (v := nI 31) hx hb d_R_join_283 (by decide) ?_
        refine lv_bipush (v := nI 31) hx hb d_R_join_285 (by decide) ?_
        refine lv_bipush (v := nI 35) hx hb d_R_join_287 (by decide) ?_
        refine lv_bipush (v := nI 8) hx hb d_R_join_289 (by decide) ?_
        refine r_callv (np := 4) (As := [.int (nI (31)), .int (nI (31)), .int (nI (35)), .int (nI (8))]) (rest := []) ⟨hx, hb, hml, hown, ht⟩ hw (c_R_multiply l G u18 (hu18.ok hok18) (μ := 0) (by decide) (by decide) (by decide) (by decide) (by decide) (by rw [hu18.V]; exact f18_8)) ⟨km_R_96, kv_R_multiply, kx_R_multiply, kc_R_multiply⟩ (by decide +kernel) ⟨by decide, by decide⟩ rfl rfl rfl hl.1 rfl (by decide) d_R_join_291 ⟨Nat.le_refl _, Nat.le_refl _⟩ (fun u19 H locs hp hw => ?_)
        obtain ⟨V19, hu19, ht19, hk19, hok19⟩ := q_mul (by decide) hu18 hok18 hp
        have f19_8 : V19 (8) = rMod 0 := (hk19 _ (by decide)).trans f18_8
        have f19_p0 : V19 (p0) = x1 := (hk19 _ (by omega)).trans f18_p0
        have f19_p0_1 : V19 (p0 + 1) = y1 := (hk19 _ (by omega)).trans f18_p0_1
        have f19_p0_2 : V19 (p0 + 2) = z1 := (hk19 _ (by omega)).trans f18_p0_2
        have f19_32 : V19 (32) = vv := (hk19 _ (by decide)).trans f18_32
        have f19_35 : V19 (35) = mm (rMod 0) (mm (rMod 0) (vv) (vv)) (vv) := (hk19 _ (by decide)).trans f18_35
        have f19_36 : V19 (36) = mm (rMod 0) (z1) (z2) := (hk19 _ (by decide)).trans f18_36
        have f19_34 : V19 (34) = jXX (rMod 0) uu vv (mm (rMod 0) x1 z2) (mm (rMod 0) z1 z2) := (hk19 _ (by decide)).trans f18_34
        have f19_33 : V19 (33) = mm (rMod 0) (uu) (ss (rMod 0) (mm (rMod 0) (mm (rMod 0) (vv) (vv)) (mm (rMod 0) (x1) (z2))) (jXX (rMod 0) uu vv (mm (rMod 0) x1 z2) (mm (rMod 0) z1 z2))) := (hk19 _ (by decide)).trans f18_33
        have hK19 : ∀ r, r ≠ p0 → r ≠ p0 + 1 → r ≠ p0 + 2 → (r < 31 ∨ 37 < r) → V19 r = rV σ r := fun r a0 a1 a2 a3 => (hk19 r (by omega)).trans (hK18 r a0 a1 a2 a3)
        have f19_31 : V19 (31) = mm (rMod 0) (mm (rMod 0) (y1) (z2)) (mm (rMod 0) (mm (rMod 0) (vv) (vv)) (vv)) := ht19.trans (by simp only [f18_31, f18_35])
        clear f18_8 f18_p0 f18_p0_1 f18_p0_2 f18_32 f18_35 f18_36 f18_34 f18_33 f18_31 ht19 hk19 hu18 hok18 hK18 hp
        refine lv_aload_n hx hb d_R_join_294 rfl (lv_at hl 0 rfl) ?_
        refine lv_iload_n hx hb d_R_join_295 rfl (lv_at hl 1 rfl) ?_
        refine lv_iconst (v := nI 1) hx hb d_R_join_296 (by decide) ?_
        refine lv_iadd hx hb d_R_join_297 ?_
        refine tp_i (y := nI (p0 + 1)) (nI_add _ _) ?_
        refine lv_bipush (v := nI 33) hx hb d_R_join_298 (by decide) ?_
        refine lv_bipush (v := nI 31) hx hb d_R_join_300 (by decide) ?_
        refine lv_bipush (v := nI 8) hx hb d_R_join_302 (by decide) ?_
        refine r_callv (np := 4) (As := [.int (nI (p0 + 1)), .int (nI (33)), .int (nI (31)), .int (nI (8))]) (rest := []) ⟨hx, hb, hml, hown, ht⟩ hw (c_R_minus l G u19 (hu19.ok hok19) (by omega) (by omega) (by decide) (by decide) (by decide) (by decide) (by decide) (by rw [hu19.V, f19_8]; exact rMod_le (by decide)) (by rw [hu19.V, f19_33, f19_8]; exact mm_lt (rMod_pos (by decide))) (by rw [hu19.V, f19_31, f19_8]; exact mm_lt (rMod_pos (by decide)))) ⟨km_R_112, kv_R_minus, kx_R_minus, kc_R_minus⟩ (by decide +kernel) ⟨by decide, by decide⟩ rfl rfl rfl hl.1 rfl (by decide) d_R_join_304 ⟨Nat.le_refl _, Nat.le_refl _⟩ (fun u20 H locs hp hw => ?_)
        obtain ⟨V20, hu20, ht20, hk20, hok20⟩ := q_minus hu19 hok19 (by rw [f19_8]; exact rMod_pos (by decide)) (by rw [f19_8]; exact rMod_le (by decide)) hp
        have f20_8 : V20 (8) = rMod 0 := (hk20 _ (by omega) (by decide)).trans f19_8
        have f20_p0 : V20 (p0) = x1 := (hk20 _ (by omega) (by omega)).trans f19_p0
        have f20_p0_2 : V20 (p0 + 2) = z1 := (hk20 _ (by omega) (by omega)).trans f19_p0_2
        have f20_32 : V20 (32) = vv := (hk20 _ (by omega) (by decide)).trans f19_32
        have f20_35 : V20 (35) = mm (rMod 0) (mm (rMod 0) (vv) (vv)) (vv) := (hk20 _ (by omega) (by decide)).trans f19_35
        have f20_36 : V20 (36) = mm (rMod 0) (z1) (z2) := (hk20 _ (by omega) (by decide)).trans f19_36
        have f20_34 : V20 (34) = jXX (rMod 0) uu vv (mm (rMod 0) x1 z2) (mm (rMod 0) z1 z2) := (hk20 _ (by omega) (by decide)).trans f19_34
        have f20_33 : V20 (33) = mm (rMod 0) (uu) (ss (rMod 0) (mm (rMod 0) (mm (rMod 0) (vv) (vv)) (mm (rMod 0) (x1) (z2))) (jXX (rMod 0) uu vv (mm (rMod 0) x1 z2) (mm (rMod 0) z1 z2))) := (hk20 _ (by omega) (by decide)).trans f19_33
        have f20_31 : V20 (31) = mm (rMod 0) (mm (rMod 0) (y1) (z2)) (mm (rMod 0) (mm (rMod 0) (vv) (vv)) (vv)) := (hk20 _ (by omega) (by decide)).trans f19_31
        have hK20 : ∀ r, r ≠ p0 → r ≠ p0 + 1 → r ≠ p0 + 2 → (r < 31 ∨ 37 < r) → V20 r = rV σ r := fun r a0 a1 a2 a3 => (hk20 r (by omega) (by omega)).trans (hK19 r a0 a1 a2 a3)
        have f20_p0_1 : V20 (p0 + 1) = ss (rMod 0) (mm (rMod 0) (uu) (ss (rMod 0) (mm (rMod 0) (mm (rMod 0) (vv) (vv)) (mm (rMod 0) (x1) (z2))) (jXX (rMod 0) uu vv (mm (rMod 0) x1 z2) (mm (rMod 0) z1 z2)))) (mm (rMod 0) (mm (rMod 0) (y1) (z2)) (mm (rMod 0) (mm (rMod 0) (vv) (vv)) (vv))) := ht20.trans (by simp only [f19_31, f19_33, f19_8])
        clear f19_8 f19_p0 f19_p0_1 f19_p0_2 f19_32 f19_35 f19_36 f19_34 f19_33 f19_31 ht20 hk20 hu19 hok19 hK19 hp
        have f20_p0_1n : V20 (p0 + 1) = jYY (rMod 0) uu vv (mm (rMod 0) x1 z2) (mm (rMod 0) z1 z2) (mm (rMod 0) y1 z2) := f20_p0_1
        clear f20_p0_1
        clear f20_33
        clear f20_31
        refine lv_aload_n hx hb d_R_join_307 rfl (lv_at hl 0 rfl) ?_
        refine lv_iload_n hx hb d_R_join_308 rfl (lv_at hl 1 rfl) ?_
        refine lv_bipush (v := nI 32) hx hb d_R_join_309 (by decide) ?_
        refine lv_bipush (v := nI 34) hx hb d_R_join_311 (by decide) ?_
        refine lv_bipush (v := nI 8) hx hb d_R_join_313 (by decide) ?_
        refine r_callv (np := 4) (As := [.int (nI (p0)), .int (nI (32)), .int (nI (34)), .int (nI (8))]) (rest := []) ⟨hx, hb, hml, hown, ht⟩ hw (c_R_multiply l G u20 (hu20.ok hok20) (μ := 0) (by decide) (by omega) (by decide) (by decide) (by omega) (by rw [hu20.V]; exact f20_8)) ⟨km_R_96, kv_R_multiply, kx_R_multiply, kc_R_multiply⟩ (by decide +kernel) ⟨by decide, by decide⟩ rfl rfl rfl hl.1 rfl (by decide) d_R_join_315 ⟨Nat.le_refl _, Nat.le_refl _⟩ (fun u21 H locs hp hw => ?_)
        obtain ⟨V21, hu21, ht21, hk21, hok21⟩ := q_mul (by decide) hu20 hok20 hp
        have f21_8 : V21 (8) = rMod 0 := (hk21 _ (by omega)).trans f20_8
        have f21_p0_2 : V21 (p0 + 2) = z1 := (hk21 _ (by omega)).trans f20_p0_2
        have f21_32 : V21 (32) = vv := (hk21 _ (by omega)).trans f20_32
        have f21_35 : V21 (35) = mm (rMod 0) (mm (rMod 0) (vv) (vv)) (vv) := (hk21 _ (by omega)).trans f20_35
        have f21_36 : V21 (36) = mm (rMod 0) (z1) (z2) := (hk21 _ (by omega)).trans f20_36
        have f21_34 : V21 (34) = jXX (rMod 0) uu vv (mm (rMod 0) x1 z2) (mm (rMod 0) z1 z2) := (hk21 _ (by omega)).trans f20_34
        have f21_p0_1 : V21 (p0 + 1) = jYY (rMod 0) uu vv (mm (rMod 0) x1 z2) (mm (rMod 0) z1 z2) (mm (rMod 0) y1 z2) := (hk21 _ (by omega)).trans f20_p0_1n
        have hK21 : ∀ r, r ≠ p0 → r ≠ p0 + 1 → r ≠ p0 + 2 → (r < 31 ∨ 37 < r) → V21 r = rV σ r := fun r a0 a1 a2 a3 => (hk21 r (by omega)).trans (hK20 r a0 a1 a2 a3)
        have f21_p0 : V21 (p0) = mm (rMod 0) (vv) (jXX (rMod 0) uu vv (mm (rMod 0) x1 z2) (mm (rMod 0) z1 z2)) := ht21.trans (by simp only [f20_32, f20_34])
        clear f20_8 f20_p0 f20_p0_2 f20_32 f20_35 f20_36 f20_34 f20_p0_1n ht21 hk21 hu20 hok20 hK20 hp
        clear f21_32
        clear f21_34
        refine lv_aload_n hx hb d_R_join_318 rfl (lv_at hl 0 rfl) ?_
        refine lv_iload_n hx hb d_R_join_319 rfl (lv_at hl 1 rfl) ?_
        refine lv_iconst (v := nI 2) hx hb d_R_join_320 (by decide) ?_
        refine lv_iadd hx hb d_R_join_321 ?_
        refine tp_i (y := nI (p0 + 2)) (nI_add _ _) ?_
        refine lv_bipush (v := nI 35) hx hb d_R_join_322 (by decide) ?_
        refine lv_bipush (v := nI 36) hx hb d_R_join_324 (by decide) ?_
        refine lv_bipush (v := nI 8) hx hb d_R_join_326 (by decide) ?_
        refine r_callv (np := 4) (As := [.int (nI (p0 + 2)), .int (nI (35)), .int (nI (36)), .int (nI (8))]) (rest := []) ⟨hx, hb, hml, hown, ht⟩ hw (c_R_multiply l G u21 (hu21.ok hok21) (μ := 0) (by decide) (by omega) (by decide) (by decide) (by omega) (by rw [hu21.V]; exact f21_8)) ⟨km_R_96, kv_R_multiply, kx_R_multiply, kc_R_multiply⟩ (by decide +kernel) ⟨by decide, by decide⟩ rfl rfl rfl hl.1 rfl (by decide) d_R_join_328 ⟨Nat.le_refl _, Nat.le_refl _⟩ (fun u22 H locs hp hw => ?_)
        obtain ⟨V22, hu22, ht22, hk22, hok22⟩ := q_mul (by decide) hu21 hok21 hp
        have f22_8 : V22 (8) = rMod 0 := (hk22 _ (by omega)).trans f21_8
        have f22_35 : V22 (35) = mm (rMod 0) (mm (rMod 0) (vv) (vv)) (vv) := (hk22 _ (by omega)).trans f21_35
        have f22_36 : V22 (36) = mm (rMod 0) (z1) (z2) := (hk22 _ (by omega)).trans f21_36
        have f22_p0_1 : V22 (p0 + 1) = jYY (rMod 0) uu vv (mm (rMod 0) x1 z2) (mm (rMod 0) z1 z2) (mm (rMod 0) y1 z2) := (hk22 _ (by omega)).trans f21_p0_1
        have f22_p0 : V22 (p0) = mm (rMod 0) (vv) (jXX (rMod 0) uu vv (mm (rMod 0) x1 z2) (mm (rMod 0) z1 z2)) := (hk22 _ (by omega)).trans f21_p0
        have hK22 : ∀ r, r ≠ p0 → r ≠ p0 + 1 → r ≠ p0 + 2 → (r < 31 ∨ 37 < r) → V22 r = rV σ r := fun r a0 a1 a2 a3 => (hk22 r (by omega)).trans (hK21 r a0 a1 a2 a3)
        have f22_p0_2 : V22 (p0 + 2) = mm (rMod 0) (mm (rMod 0) (mm (rMod 0) (vv) (vv)) (vv)) (mm (rMod 0) (z1) (z2)) := ht22.trans (by simp only [f21_35, f21_36])
        clear f21_8 f21_p0_2 f21_35 f21_36 f21_p0_1 f21_p0 ht22 hk22 hu21 hok21 hK21 hp
        rw [huu, hvv] at f22_p0 f22_p0_1
        rw [hvv] at f22_p0_2
        exact hJ V22 u22 H locs ls 331 d_R_join_331 hu22 hw (by unfold jn; rw [if_neg n1, if_neg n2, if_neg n3]; exact f22_p0) (by unfold jn; rw [if_neg n1, if_neg n2, if_neg n3]; exact f22_p0_1) (by unfold jn; rw [if_neg n1, if_neg n2, if_neg n3]; exact f22_p0_2) hK22 hok22
      · have n3 : jV (rMod 0) x1 z1 x2 z2 = 0 := boolN_1 c3
        refine lv_aload_n hx hb d_R_join_109 rfl (lv_at hl 0 rfl) ?_
        refine lv_bipush (v := nI 31) hx hb d_R_join_110 (by decide) ?_
        refine r_calli (np := 1) (As := [.int (nI (31))]) (rest := []) ⟨hx, hb, hml, hown, ht⟩ hw (c_R_isNothing l G u6 (hu6.ok hok6) (by decide)) ⟨km_R_115, kv_R_isNothing, kx_R_isNothing, kc_R_isNothing⟩ (by decide +kernel) ⟨by decide, by decide⟩ rfl rfl rfl hl.1 rfl (by decide) d_R_join_112 ⟨Nat.le_refl _, Nat.le_refl _⟩ (fun r ux H locs hp hw => ?_)
        obtain ⟨hpu, rfl⟩ := hp
        rw [hpu] at hw
        refine tp_i (y := nI (boolN (jU (rMod 0) y1 z1 y2 z2 = 0))) (by rw [hu6.V, f6_31]) ?_
        refine n_eq0 (tgt := 126) hx hb d_R_join_115 (by decide) (boolN_s _) (fun c4 => ?_) (fun c4 => ?_)
        · have n4 : ¬ jU (rMod 0) y1 z1 y2 z2 = 0 := boolN_0 c4
          refine lv_aload_n hx hb d_R_join_126 rfl (lv_at hl 0 rfl) ?_
          refine lv_iload_n hx hb d_R_join_127 rfl (lv_at hl 1 rfl) ?_
          refine lv_iconst (v := nI 2) hx hb d_R_join_128 (by decide) ?_
          refine lv_iadd hx hb d_R_join_129 ?_
          refine tp_i (y := nI (p0 + 2)) (nI_add _ _) ?_
          refine r_callv (np := 1) (As := [.int (nI (p0 + 2))]) (rest := []) ⟨hx, hb, hml, hown, ht⟩ hw (c_R_nothing l G u6 (hu6.ok hok6) (by omega)) ⟨km_R_62, kv_R_nothing, kx_R_nothing, kc_R_nothing⟩ (by decide +kernel) ⟨by decide, by decide⟩ rfl rfl rfl hl.1 rfl (by decide) d_R_join_130 ⟨Nat.le_refl _, Nat.le_refl _⟩ (fun u9 H locs hp hw => ?_)
          obtain ⟨V9, hu9, ht9, hk9, hok9⟩ := q_nothing hu6 hok6 hp
          exact hJ V9 u9 H locs ls 133 d_R_join_133 hu9 hw (by unfold jn; rw [if_neg n1, if_neg n2, if_pos n3, if_neg n4, hk9 _ (by omega)]; exact f6_p0) (by unfold jn; rw [if_neg n1, if_neg n2, if_pos n3, if_neg n4, hk9 _ (by omega)]; exact f6_p0_1) (by unfold jn; rw [if_neg n1, if_neg n2, if_pos n3, if_neg n4, ht9]) (fun r h1 h2 h3 h4 => by rw [hk9 r h3]; exact hK6 r h1 h2 h3 h4) hok9
        · have n4 : jU (rMod 0) y1 z1 y2 z2 = 0 := boolN_1 c4
          refine lv_aload_n hx hb d_R_join_118 rfl (lv_at hl 0 rfl) ?_
          refine lv_iload_n hx hb d_R_join_119 rfl (lv_at hl 1 rfl) ?_
          refine r_callv (np := 1) (As := [.int (nI (p0))]) (rest := []) ⟨hx, hb, hml, hown, ht⟩ hw (c_R_twice l G u6 (hu6.ok hok6) h1 h2 (by rw [hu6.V]; exact f6_8) (by rw [hu6.V, f6_p0]; exact hx1) (by rw [hu6.V, f6_p0_1]; exact hy1) (by rw [hu6.V, f6_p0_2]; exact hz1)) ⟨km_R_130, kv_R_twice, kx_R_twice, kc_R_twice⟩ (by decide +kernel) ⟨by decide, by decide⟩ rfl rfl rfl hl.1 rfl (by decide) d_R_join_120 ⟨Nat.le_refl _, Nat.le_refl _⟩ (fun u9 H locs hp hw => ?_)
          obtain ⟨V9, hu9, e1, e2, e3, hk9, hok9⟩ := hp
          rw [hu6.V, f6_p0, f6_p0_1, f6_p0_2] at e1 e2
          rw [hu6.V, f6_p0_1, f6_p0_2] at e3
          refine lv_goto (tgt := 133) hx hb d_R_join_123 (by decide) ?_
          exact hJ V9 u9 H locs ls 133 d_R_join_133 (hu6.trans hu9) hw (by unfold jn; rw [if_neg n1, if_neg n2, if_pos n3, if_pos n4]; exact e1) (by unfold jn; rw [if_neg n1, if_neg n2, if_pos n3, if_pos n4]; exact e2) (by unfold jn; rw [if_neg n1, if_neg n2, if_pos n3, if_pos n4]; exact e3) (fun r h h1 h2 h3 => by rw [hk9 r h h1 h2 h3, hu6.V]; exact hK6 r h h1 h2 h3) hok9
    · have n2 : z1 = 0 := boolN_1 c2
      refine lv_aload_n hx hb d_R_join_17 rfl (lv_at hl 0 rfl) ?_
      refine lv_iload_n hx hb d_R_join_18 rfl (lv_at hl 1 rfl) ?_
      refine lv_iload_n hx hb d_R_join_19 rfl (lv_at hl 2 rfl) ?_
      refine r_callv (np := 2) (As := [.int (nI (p0)), .int (nI (q0))]) (rest := []) ⟨hx, hb, hml, hown, ht⟩ hw (c_R_copyPoint l G u0 (hu0.ok hok0) (by omega) (by omega) (by omega)) ⟨km_R_127, kv_R_copyPoint, kx_R_copyPoint, kc_R_copyPoint⟩ (by decide +kernel) ⟨by decide, by decide⟩ rfl rfl rfl hl.1 rfl (by decide) d_R_join_20 ⟨Nat.le_refl _, Nat.le_refl _⟩ (fun u1 H locs hp hw => ?_)
      obtain ⟨V1, hu1, e1, e2, e3, hk1, hok1⟩ := hp
      rw [hu0.V] at e1 e2 e3
      exact hJ V1 u1 H locs ls 23 d_R_join_23 (hu0.trans hu1) hw (by unfold jn; rw [if_neg n1, if_pos n2, e1]; exact f0_x2) (by unfold jn; rw [if_neg n1, if_pos n2, e2]; exact f0_y2) (by unfold jn; rw [if_neg n1, if_pos n2, e3]; exact f0_z2) (fun r h h1 h2 h3 => by rw [hk1 r h h1 h2, hu0.V]; exact hK0 r h h1 h2 h3) hok1
  · have c2 := boolN_1 c1
    exact hJ V0 u0 H locs ls 8 d_R_join_8 hu0 hw (by unfold jn; rw [if_pos c2]; exact f0_x1) (by unfold jn; rw [if_pos c2]; exact f0_y1) (by unfold jn; rw [if_pos c2]; exact f0_z1) hK0 hok0
end
