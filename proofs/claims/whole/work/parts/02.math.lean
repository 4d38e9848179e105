/-! numbers: units of n, the binomial, Euler, the opening of a seal -/
def ma_P (p : Nat) : Prop := 3 ≤ p ∧ p ≤ 229 ∧ ∀ d, 2 ≤ d → d < p → p % d ≠ 0
def ma_isP (p : Nat) : Bool := decide (3 ≤ p) && (List.range p).all (fun d => decide (d < 2) || decide (p % d ≠ 0))
def ma_fe (p : Nat) : Bool := (List.range p).all (fun a => decide (a = 0) || (decide (a ^ (p - 1) % p = 1) && decide (Nat.gcd p a = 1)))
set_option maxRecDepth 100000 in
theorem ma_tab : (List.range 230).all (fun p => !ma_isP p || ma_fe p) = true := by decide +kernel
theorem ma_isP_of {p : Nat} (h : ma_P p) : ma_isP p = true := by
  unfold ma_isP
  simp only [Bool.and_eq_true, List.all_eq_true, List.mem_range, Bool.or_eq_true, decide_eq_true_eq]
  refine ⟨h.1, fun d hd => ?_⟩
  by_cases c : d < 2
  · exact Or.inl c
  · exact Or.inr (h.2.2 d (by omega) hd)
theorem ma_row {p a : Nat} (h : ma_P p) (ha : a < p) (h0 : a ≠ 0) : a ^ (p - 1) % p = 1 ∧ Nat.gcd p a = 1 := by
  have h1 := List.all_eq_true.mp ma_tab p (List.mem_range.mpr (by have := h.2.1; omega))
  rw [ma_isP_of h] at h1
  simp only [Bool.not_true, Bool.false_or] at h1
  have h2 := List.all_eq_true.mp h1 a (List.mem_range.mpr ha)
  simp only [Bool.or_eq_true, Bool.and_eq_true, decide_eq_true_eq] at h2
  rcases h2 with h2 | h2
  · exact absurd h2 h0
  · exact h2
theorem ma_fermat {p a : Nat} (h : ma_P p) (ha : a % p ≠ 0) : a ^ (p - 1) % p = 1 := by
  rw [Nat.pow_mod]
  exact (ma_row h (Nat.mod_lt _ (by have := h.1; omega)) ha).1
theorem ma_cop {p a : Nat} (h : ma_P p) (ha : a % p ≠ 0) : Nat.Coprime p a := by
  have h2 := (ma_row h (Nat.mod_lt a (by have := h.1; omega)) ha).2
  show Nat.gcd p a = 1
  rw [Nat.gcd_rec, Nat.gcd_comm]
  exact h2
theorem ma_bin (x m : Nat) : ∃ k, (1 + x) ^ m = 1 + m * x + k * (x * x) := by
  induction m with
  | zero => exact ⟨0, by simp⟩
  | succ m ih =>
    obtain ⟨k, hk⟩ := ih
    refine ⟨m + k + k * x, ?_⟩
    rw [Nat.pow_succ, hk]
    grind
theorem ma_one {x n : Nat} (h : x % n = 1) : ∃ t, x = 1 + n * t := ⟨x / n, by have := Nat.div_add_mod x n; omega⟩
theorem ma_crt {p q x : Nat} (hc : Nat.Coprime p q) (hp : 1 < p) (hq : 1 < q) (h1 : x % p = 1) (h2 : x % q = 1) : x % (p * q) = 1 := by
  obtain ⟨s, hs⟩ := ma_one h1
  obtain ⟨t, ht⟩ := ma_one h2
  have d1 : p ∣ x - 1 := ⟨s, by omega⟩
  have d2 : q ∣ x - 1 := ⟨t, by omega⟩
  obtain ⟨z, hz⟩ := Nat.Coprime.mul_dvd_of_dvd_of_dvd hc d1 d2
  have e : x = 1 + p * q * z := by omega
  have hpq : 1 * 1 < p * q := Nat.mul_lt_mul'' hp hq
  rw [e, Nat.add_mul_mod_self_left]
  exact Nat.mod_eq_of_lt (by omega)
/-- a is a unit of n, as f shows -/
def ma_U (n f a : Nat) : Prop := a ^ f % n = 1
theorem ma_U_mod {n f a : Nat} (h : ma_U n f a) : ma_U n f (a % n) := by
  unfold ma_U at h ⊢
  rw [← Nat.pow_mod]
  exact h
theorem ma_U_of {n f a b : Nat} (e : a % n = b % n) (h : ma_U n f a) : ma_U n f b := by
  unfold ma_U at h ⊢
  rw [Nat.pow_mod, ← e, ← Nat.pow_mod]
  exact h
theorem ma_1pow {n x w : Nat} (hn : 1 < n) (h : x % n = 1) : x ^ w % n = 1 := by
  rw [Nat.pow_mod, h, Nat.one_pow]
  exact Nat.mod_eq_of_lt hn
theorem ma_U_pow {n f a : Nat} (hn : 1 < n) (k : Nat) (h : ma_U n f a) : ma_U n f (a ^ k) := by
  unfold ma_U at h ⊢
  rw [← Nat.pow_mul, Nat.mul_comm, Nat.pow_mul]
  exact ma_1pow hn h
theorem ma_U_mul {n f a b : Nat} (hn : 1 < n) (ha : ma_U n f a) (hb : ma_U n f b) : ma_U n f (a * b) := by
  unfold ma_U at *
  rw [Nat.mul_pow, Nat.mul_mod, ha, hb]
  exact Nat.mod_eq_of_lt hn
theorem ma_U_one {n f : Nat} (hn : 1 < n) : ma_U n f 1 := by
  unfold ma_U
  rw [Nat.one_pow]
  exact Nat.mod_eq_of_lt hn
theorem ma_sq {n : Nat} (hn : 1 < n) : 1 < n * n := by
  have : 1 * 1 < n * n := Nat.mul_lt_mul'' hn hn
  omega
theorem ma_U2 {n f a : Nat} (hn : 1 < n) (h : ma_U n f a) : a ^ (n * f) % (n * n) = 1 := by
  obtain ⟨t, ht⟩ := ma_one h
  obtain ⟨k, hk⟩ := ma_bin (n * t) n
  rw [Nat.mul_comm n f, Nat.pow_mul, ht, hk]
  have e : 1 + n * (n * t) + k * (n * t * (n * t)) = 1 + n * n * (t + k * (t * t)) := by grind
  rw [e, Nat.add_mul_mod_self_left]
  exact Nat.mod_eq_of_lt (ma_sq hn)
theorem ma_red {n f x : Nat} (hn : 1 < n) (h : ma_U n f x) (e v : Nat) : x ^ (e * (1 + f * v)) % n = x ^ e % n := by
  have e1 : e * (1 + f * v) = e + f * (e * v) := by grind
  rw [e1, Nat.pow_add, Nat.pow_mul, Nat.mul_mod, ma_1pow hn h, Nat.mul_one, Nat.mod_mod]
theorem ma_coin {n f x e1 e2 v1 v2 : Nat} (hn : 1 < n) (h : ma_U n f x) (h1 : n * e1 = 1 + f * v1) (h2 : n * e2 = 1 + f * v2) : x ^ e1 % n = x ^ e2 % n := by
  rw [← ma_red hn h e1 v2, ← ma_red hn h e2 v1, ← h1, ← h2]
  have e : e1 * (n * e2) = e2 * (n * e1) := by grind
  rw [e]
theorem ma_lin {n : Nat} (hn : 1 < n) (w : Nat) : (1 + n * w) % (n * n) = 1 + n * (w % n) := by
  have e : 1 + n * w = 1 + n * (w % n) + n * n * (w / n) := by
    have := Nat.div_add_mod w n
    have e2 : n * w = n * (n * (w / n) + w % n) := by rw [this]
    rw [e2]
    grind
  have hl : w % n < n := Nat.mod_lt _ (by omega)
  have h2 : n * (w % n + 1) ≤ n * n := Nat.mul_le_mul_left n hl
  rw [e, Nat.add_mul_mod_self_left]
  refine Nat.mod_eq_of_lt ?_
  rw [Nat.mul_add] at h2
  omega
theorem ma_bin_mod (n m : Nat) : (1 + n) ^ m % (n * n) = (1 + m * n) % (n * n) := by
  obtain ⟨k, hk⟩ := ma_bin n m
  rw [hk, Nat.add_mul_mod_self_right]
/-- the coin's power takes n away: r ^ n is c by n -/
theorem ma_R {n f c e v : Nat} (hn : 1 < n) (h : ma_U n f c) (he : n * e = 1 + f * v) : ((c % n) ^ e % n) ^ n % n = c % n ∧ ma_U n f ((c % n) ^ e % n) := by
  have hU := ma_U_mod h
  refine ⟨?_, ma_U_mod (ma_U_pow hn e hU)⟩
  rw [← Nat.pow_mod, ← Nat.pow_mul, Nat.mul_comm e n, he]
  have := ma_red hn hU 1 v
  rw [Nat.one_mul, Nat.pow_one, Nat.mod_mod] at this
  exact this
/-- c is R (1 + k n) by n n -/
theorem ma_k {n f c R : Nat} (hn : 1 < n) (hf : 1 ≤ f) (hR : R % n = c % n) (hR2 : R ^ f % (n * n) = 1) (hU : ma_U n f R) : ∃ k, (R * (1 + n * k)) % (n * n) = c % (n * n) := by
  have ey : (c * R ^ (f - 1)) % n = 1 := by
    rw [Nat.mul_mod, ← hR, ← Nat.mul_mod, Nat.mul_comm, ← Nat.pow_succ]
    rw [show (f - 1).succ = f by omega]
    exact hU
  obtain ⟨k, hk⟩ := ma_one ey
  refine ⟨k, ?_⟩
  rw [← hk]
  have e : R * (c * R ^ (f - 1)) = c * R ^ f := by
    have : R ^ f = R ^ (f - 1) * R := by rw [← Nat.pow_succ, show (f - 1).succ = f by omega]
    rw [this]
    grind
  rw [e, Nat.mul_mod, hR2, Nat.mul_one, Nat.mod_mod]
theorem ma_cf {n f c R k : Nat} (hn : 1 < n) (hR2 : R ^ f % (n * n) = 1) (hk : (R * (1 + n * k)) % (n * n) = c % (n * n)) : c ^ f % (n * n) = 1 + n * (f * k % n) := by
  obtain ⟨k', hk'⟩ := ma_bin (n * k) f
  rw [Nat.pow_mod, ← hk, ← Nat.pow_mod, Nat.mul_pow, Nat.mul_mod, hR2, Nat.one_mul, Nat.mod_mod, hk']
  have e : 1 + f * (n * k) + k' * (n * k * (n * k)) = 1 + n * (f * k) + n * n * (k' * (k * k)) := by grind
  rw [e, Nat.add_mul_mod_self_left]
  exact ma_lin hn _
/-- the message: by its formula, and the only one that fits -/
theorem ma_msg {n f c e v iv : Nat} (hn : 1 < n) (hf : 1 ≤ f) (h : ma_U n f c) (he : n * e = 1 + f * v) (hi : f * iv % n = 1) :
    (c ^ f % (n * n) - 1) / n * iv % n < n ∧ 1 ≤ c ^ f % (n * n) ∧ ∀ j, j < n → ((((c % n) ^ e % n) ^ n * (1 + n * j)) % (n * n) = c % (n * n) ↔ j = (c ^ f % (n * n) - 1) / n * iv % n) := by
  obtain ⟨hR, hr⟩ := ma_R hn h he
  generalize hre : (c % n) ^ e % n = r at hR hr ⊢
  have hR2 : (r ^ n) ^ f % (n * n) = 1 := by rw [← Nat.pow_mul]; exact ma_U2 hn hr
  have hRU : ma_U n f (r ^ n) := ma_U_pow hn n hr
  generalize r ^ n = R at hR hR2 hRU ⊢
  obtain ⟨k, hk⟩ := ma_k hn hf hR hR2 hRU
  have hc := ma_cf hn hR2 hk
  have em : (c ^ f % (n * n) - 1) / n * iv % n = k % n := by
    rw [hc, show 1 + n * (f * k % n) - 1 = n * (f * k % n) by omega, Nat.mul_div_cancel_left _ (by omega), Nat.mul_mod, Nat.mod_mod, ← Nat.mul_mod]
    have e : f * k * iv = k * (f * iv) := by grind
    rw [e, Nat.mul_mod, hi, Nat.mul_one, Nat.mod_mod]
  rw [em]
  refine ⟨Nat.mod_lt _ (by omega), by rw [hc]; omega, fun j hj => ⟨fun hj2 => ?_, fun hj2 => ?_⟩⟩
  · have e1 : (R * (1 + n * j)) % (n * n) = (R * (1 + n * k)) % (n * n) := by rw [hj2, hk]
    have e2 : (R ^ (f - 1) * (R * (1 + n * j))) % (n * n) = (R ^ (f - 1) * (R * (1 + n * k))) % (n * n) := by
      rw [Nat.mul_mod, e1, ← Nat.mul_mod]
    have e3 : ∀ w, (R ^ (f - 1) * (R * (1 + n * w))) % (n * n) = 1 + n * (w % n) := by
      intro w
      rw [← Nat.mul_assoc, ← Nat.pow_succ, show (f - 1).succ = f by omega, Nat.mul_mod, hR2, Nat.one_mul, Nat.mod_mod]
      exact ma_lin hn w
    rw [e3, e3] at e2
    have e4 : n * (j % n) = n * (k % n) := by omega
    have e5 := Nat.eq_of_mul_eq_mul_left (by omega) e4
    rw [Nat.mod_eq_of_lt hj] at e5
    exact e5
  · subst hj2
    rw [← hk, Nat.mul_mod, ← ma_lin hn k, Nat.mod_mod, ← Nat.mul_mod]
theorem ma_inv {n f : Nat} (hf : 1 ≤ f) (h : ma_U n f f) : f * (f ^ (f - 1) % n) % n = 1 := by
  rw [Nat.mul_mod, Nat.mod_mod, ← Nat.mul_mod, Nat.mul_comm, ← Nat.pow_succ, show (f - 1).succ = f by omega]
  exact h
theorem ma_cex {n f iv : Nat} (hf : 1 ≤ f) (hi : f * iv % n = 1) (hl : iv < n) : n * (f - (f * iv - 1) / n) = 1 + f * (n - iv) ∧ 1 ≤ f - (f * iv - 1) / n ∧ (f * iv - 1) / n ≤ f ∧ 1 ≤ f * iv := by
  obtain ⟨t, ht⟩ := ma_one hi
  have hn : 0 < n := by omega
  have e1 : (f * iv - 1) / n = t := by
    rw [ht, show 1 + n * t - 1 = n * t by omega, Nat.mul_div_cancel_left _ hn]
  rw [e1]
  have h1 : f * iv + f ≤ f * n := by
    have := Nat.mul_le_mul_left f hl
    rw [Nat.mul_succ] at this
    exact this
  have h2 : n * t < n * f := by rw [Nat.mul_comm n f]; omega
  have h3 : t < f := Nat.lt_of_mul_lt_mul_left h2
  refine ⟨?_, by omega, by omega, by omega⟩
  rw [Nat.mul_sub, Nat.mul_sub, ht, Nat.mul_comm n f]
  rw [Nat.mul_comm n f] at h2
  omega
/-- a key -/
def ma_K (p q : Nat) : Prop := ma_P p ∧ ma_P q ∧ p ≠ q ∧ (q - 1) % p ≠ 0 ∧ (p - 1) % q ≠ 0
theorem ma_neq {p q : Nat} (hp : ma_P p) (hq : ma_P q) (h : p ≠ q) : q % p ≠ 0 := by
  by_cases c : p < q
  · exact hq.2.2 p (by have := hp.1; omega) c
  · rw [Nat.mod_eq_of_lt (by omega)]
    have := hq.1
    omega
theorem ma_pm {p : Nat} (hp : ma_P p) : (p - 1) % p ≠ 0 := by
  have := hp.1
  rw [Nat.mod_eq_of_lt (by omega)]
  omega
theorem ma_mulne {p a b : Nat} (hp : ma_P p) (ha : a % p ≠ 0) (hb : b % p ≠ 0) : a * b % p ≠ 0 := by
  intro h
  have h1 : p ∣ a * b := Nat.dvd_of_mod_eq_zero h
  have h2 := Nat.Coprime.dvd_of_dvd_mul_left (ma_cop hp ha) h1
  exact hb (Nat.mod_eq_zero_of_dvd h2)
def sp_f (p q : Nat) : Nat := (p - 1) * (q - 1)
def sp_inv (p q : Nat) : Nat := if p = 0 then 0 else sp_f p q ^ (sp_f p q - 1) % (p * q)
def sp_cex (p q : Nat) : Nat := sp_f p q - (sp_f p q * sp_inv p q - 1) / (p * q)
theorem ma_unit {p q a : Nat} (h : ma_K p q) (ha : a % p ≠ 0) (hb : a % q ≠ 0) : ma_U (p * q) (sp_f p q) a := by
  obtain ⟨hp, hq, hne, -, -⟩ := h
  have h3 := hp.1
  have h4 := hq.1
  refine ma_crt (ma_cop hp (ma_neq hp hq hne)) (by omega) (by omega) ?_ ?_
  · unfold sp_f
    rw [Nat.pow_mul]
    exact ma_1pow (by omega) (ma_fermat hp ha)
  · unfold sp_f
    rw [Nat.mul_comm (p - 1), Nat.pow_mul]
    exact ma_1pow (by omega) (ma_fermat hq hb)
theorem ma_big {p q : Nat} (h : ma_K p q) : 15 ≤ p * q ∧ p * q ≤ 52441 ∧ 4 ≤ sp_f p q ∧ sp_f p q < p * q ∧ p * q * (p * q) ≤ 2750058481 ∧ 225 ≤ p * q * (p * q) := by
  obtain ⟨hp, hq, hne, -, -⟩ := h
  have h1 := hp.1
  have h2 := hq.1
  have h3 := hp.2.1
  have h4 := hq.2.1
  have h5 : p * q ≤ 229 * 229 := Nat.mul_le_mul h3 h4
  have h6 : 15 ≤ p * q := by
    by_cases c : p < q
    · have : 3 * 5 ≤ p * q := by
        refine Nat.mul_le_mul h1 ?_
        have : q ≠ 4 := fun e => by subst e; exact hq.2.2 2 (by omega) (by omega) (by decide)
        omega
      omega
    · have : 5 * 3 ≤ p * q := by
        refine Nat.mul_le_mul ?_ h2
        have : p ≠ 4 := fun e => by subst e; exact hp.2.2 2 (by omega) (by omega) (by decide)
        omega
      omega
  have h7 : 2 * 2 ≤ sp_f p q := Nat.mul_le_mul (by omega) (by omega)
  have h8 : sp_f p q < p * q := Nat.mul_lt_mul'' (by omega) (by omega)
  have h9 : p * q * (p * q) ≤ 52441 * 52441 := Nat.mul_le_mul h5 h5
  have h10 : 15 * 15 ≤ p * q * (p * q) := Nat.mul_le_mul h6 h6
  exact ⟨h6, by omega, by omega, h8, by omega, by omega⟩
theorem ma_keyf {p q : Nat} (h : ma_K p q) : sp_f p q * sp_inv p q % (p * q) = 1 ∧ sp_inv p q < p * q ∧ p * q * sp_cex p q = 1 + sp_f p q * (p * q - sp_inv p q) ∧ 1 ≤ sp_cex p q ∧ sp_cex p q ≤ sp_f p q ∧ (sp_f p q * sp_inv p q - 1) / (p * q) ≤ sp_f p q ∧ 1 ≤ sp_f p q * sp_inv p q := by
  have hb := ma_big h
  have ei : sp_inv p q = sp_f p q ^ (sp_f p q - 1) % (p * q) := if_neg (by have := h.1.1; omega)
  have hl : sp_inv p q < p * q := by rw [ei]; exact Nat.mod_lt _ (by omega)
  have hu : ma_U (p * q) (sp_f p q) (sp_f p q) := by
    refine ma_unit h ?_ ?_
    · exact ma_mulne h.1 (ma_pm h.1) h.2.2.2.1
    · exact ma_mulne h.2.1 h.2.2.2.2 (ma_pm h.2.1)
  have h1 : sp_f p q * sp_inv p q % (p * q) = 1 := by rw [ei]; exact ma_inv (by omega) hu
  obtain ⟨h2, h3, h4, h5⟩ := ma_cex (by omega) h1 hl
  exact ⟨h1, hl, h2, h3, Nat.sub_le _ _, h4, h5⟩
/-- coprime to n, by both primes -/
theorem ma_gcd {p q a : Nat} (hp : ma_P p) (hq : ma_P q) : Nat.gcd (p * q) a = 1 ↔ a % p ≠ 0 ∧ a % q ≠ 0 := by
  constructor
  · intro h
    have hz := hp.1
    have hw := hq.1
    refine ⟨fun e => ?_, fun e => ?_⟩
    · have d : p ∣ Nat.gcd (p * q) a := Nat.dvd_gcd (Nat.dvd_mul_right p q) (Nat.dvd_of_mod_eq_zero e)
      rw [h] at d
      have := Nat.le_of_dvd (by omega) d
      omega
    · have d : q ∣ Nat.gcd (p * q) a := Nat.dvd_gcd (Nat.dvd_mul_left q p) (Nat.dvd_of_mod_eq_zero e)
      rw [h] at d
      have := Nat.le_of_dvd (by omega) d
      omega
  · intro h
    exact Nat.Coprime.mul_left (ma_cop hp h.1) (ma_cop hq h.2)
