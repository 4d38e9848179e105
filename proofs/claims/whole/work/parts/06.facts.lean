/-! products and counts of ballots -/
theorem fa_down (g : Nat → Nat) : ∀ k, k ≤ 30 → sp_prod g (30 - k) * sp_down g k = sp_prod g 30 := by
  intro k
  induction k with
  | zero => intro _; simp [sp_down]
  | succ k ih =>
    intro h
    have e := ih (by omega)
    have e1 : 30 - k = (29 - k) + 1 := by omega
    have e2 : 30 - (k + 1) = 29 - k := by omega
    rw [e1] at e
    rw [e2]
    simp only [sp_prod, sp_down] at e ⊢
    rw [← e]
    grind
theorem fa_down30 (g : Nat → Nat) : sp_down g 30 = sp_prod g 30 := by
  have h := fa_down g 30 (by omega)
  simp only [Nat.sub_self] at h
  rw [← h]
  simp [sp_prod]
theorem fa_prod {p : Nat} (hp : ma_P p) {g : Nat → Nat} : ∀ n, (∀ j, j < n → g j = 0 ∨ g j % p ≠ 0) → sp_prod g n % p ≠ 0 := by
  intro n
  induction n with
  | zero =>
    intro _
    have := hp.1
    show 1 % p ≠ 0
    rw [Nat.mod_eq_of_lt (by omega)]
    omega
  | succ n ih =>
    intro h
    refine ma_mulne hp (ih (fun j hj => h j (by omega))) ?_
    by_cases c : g n = 0
    · rw [if_pos c]
      have := hp.1
      rw [Nat.mod_eq_of_lt (by omega)]
      omega
    · rw [if_neg c]
      rcases h n (by omega) with h1 | h1
      · exact absurd h1 c
      · exact h1
theorem fa_cnt (g : Nat → Nat) (v c : Nat) : ∀ n, (n ≤ v → sp_cnt (gu g v c) n = sp_cnt g n) ∧ (v < n → sp_cnt (gu g v c) n + (if g v = 0 then 0 else 1) = sp_cnt g n + (if c = 0 then 0 else 1)) := by
  intro n
  induction n with
  | zero => exact ⟨fun _ => rfl, fun h => absurd h (by omega)⟩
  | succ n ih =>
    refine ⟨fun h => ?_, fun h => ?_⟩
    · have e : gu g v c n = g n := by unfold gu; rw [if_neg (by omega)]
      simp only [sp_cnt, e, ih.1 (by omega)]
    · by_cases hv : v = n
      · subst hv
        have e : gu g v c v = c := by unfold gu; rw [if_pos rfl]
        simp only [sp_cnt, e, ih.1 (Nat.le_refl _)]
        omega
      · have e : gu g v c n = g n := by unfold gu; rw [if_neg (by omega)]
        have h2 := ih.2 (by omega)
        simp only [sp_cnt, e]
        omega
theorem fa_cnt_le (g : Nat → Nat) : ∀ n, sp_cnt g n ≤ n := by
  intro n
  induction n with
  | zero => exact Nat.le_refl _
  | succ n ih =>
    simp only [sp_cnt]
    split <;> omega
theorem fa_cnt0 {g : Nat → Nat} : ∀ n, (∀ j, j < n → g j = 0) → sp_cnt g n = 0 := by
  intro n
  induction n with
  | zero => intro _; rfl
  | succ n ih =>
    intro h
    simp only [sp_cnt, ih (fun j hj => h j (by omega)), h n (by omega)]
    rfl
theorem fa_cntE {g g' : Nat → Nat} : ∀ n, (∀ j, j < n → g j = g' j) → sp_cnt g n = sp_cnt g' n := by
  intro n
  induction n with
  | zero => intro _; rfl
  | succ n ih =>
    intro h
    simp only [sp_cnt, ih (fun j hj => h j (by omega)), h n (by omega)]
/-! the product of a box's ballots is a seal -/
theorem fa_pdvd (p q : Nat) : p ∣ p * q * (p * q) := ⟨q * (p * q), by grind⟩
theorem fa_qdvd (p q : Nat) : q ∣ p * q * (p * q) := ⟨p * (p * q), by grind⟩
theorem fa_ndvd (n : Nat) : n ∣ n * n := ⟨n, rfl⟩
theorem fa_seal {p q : Nat} (hk : ma_K p q) {g : Nat → Nat} (h : ∀ j, j < 30 → g j = 0 ∨ (g j % p ≠ 0 ∧ g j % q ≠ 0)) :
    sp_prod g 30 % sq_ p q % p ≠ 0 ∧ sp_prod g 30 % sq_ p q % q ≠ 0 ∧ sp_prod g 30 % sq_ p q < sq_ p q := by
  have hb := ma_big hk
  refine ⟨?_, ?_, Nat.mod_lt _ (by show 0 < p * q * (p * q); omega)⟩
  · rw [Nat.mod_mod_of_dvd _ (fa_pdvd p q)]
    exact fa_prod hk.1 30 (fun j hj => (h j hj).imp (fun a => a) (fun a => a.1))
  · rw [Nat.mod_mod_of_dvd _ (fa_qdvd p q)]
    exact fa_prod hk.2.1 30 (fun j hj => (h j hj).imp (fun a => a) (fun a => a.2))
/-! the reference's own ways -/
theorem fa_sealing (p q m r : Nat) : (1 + p * q) ^ m % (p * q * (p * q)) * (r ^ (p * q) % (p * q * (p * q))) % (p * q * (p * q)) = sp_seal p q m r := by
  unfold sp_seal
  rw [ma_bin_mod, Nat.mul_mod, Nat.mod_mod, ← Nat.mul_mod]
theorem fa_coin {p q c u v : Nat} (hk : ma_K p q) (h1 : c % p ≠ 0) (h2 : c % q ≠ 0) (hu : p * q * u = 1 + sp_f p q * v) : (c % (p * q)) ^ u % (p * q) = sp_coin p q c := by
  have hb := ma_big hk
  obtain ⟨-, -, h3, -⟩ := ma_keyf hk
  exact ma_coin (by omega) (ma_U_mod (ma_unit hk h1 h2)) hu h3
theorem fa_msg {p q c u v : Nat} (hk : ma_K p q) (h1 : c % p ≠ 0) (h2 : c % q ≠ 0) (hu : p * q * u = 1 + sp_f p q * v) :
    sp_msg p q c < p * q ∧ 1 ≤ c ^ sp_f p q % (p * q * (p * q)) ∧ ∀ j, j < p * q → ((((c % (p * q)) ^ u % (p * q)) ^ (p * q) * (1 + p * q * j)) % (p * q * (p * q)) = c % (p * q * (p * q)) ↔ j = sp_msg p q c) := by
  have hb := ma_big hk
  obtain ⟨h3, -⟩ := ma_keyf hk
  exact ma_msg (by omega) (by omega) (ma_unit hk h1 h2) hu h3
/-- a step of the reference's search -/
theorem fa_step (R n m : Nat) : ((R * (1 + n * m)) % (n * n) + R % (n * n) * n % (n * n)) % (n * n) = (R * (1 + n * (m + 1))) % (n * n) := by
  have e : R * (1 + n * (m + 1)) = R * (1 + n * m) + R * n := by grind
  rw [e, Nat.mod_mul_mod, Nat.mod_add_mod, Nat.add_mod_mod]
theorem bx_lt {k i n : Nat} (h : k ^ i ≤ n) (hn : n ≤ 52441) (hk : k < 2 ^ 31) : k ^ (i + 1) < 2 ^ 63 := by
  rw [Nat.pow_succ]
  have : k ^ i * k ≤ 52441 * 2147483648 := Nat.mul_le_mul (by omega) (by omega)
  omega
theorem sl_lt {x n : Nat} (h : x < n) (hn : 1 < n) : 1 + x * n < n * n := by
  have h2 : (x + 1) * n ≤ n * n := Nat.mul_le_mul_right n h
  rw [Nat.add_mul] at h2
  omega
theorem ms_lt {a b : Nat} (h : a ≤ 2750058481) (hb : b ≤ 52441) : a * b < 2 ^ 63 := by
  have : a * b ≤ 2750058481 * 52441 := Nat.mul_le_mul h hb
  omega
theorem ug_t {p q k : Nat} (hk : ma_K p q) (h : Nat.gcd (p * q) k = 1) : sp_un p q k = true := by
  have := (ma_gcd hk.1 hk.2.1).mp h
  simp only [sp_un, Bool.and_eq_true, decide_eq_true_eq]
  exact this
theorem ug_f {p q k : Nat} (hk : ma_K p q) (h : ¬ Nat.gcd (p * q) k = 1) : sp_un p q k = false := by
  rw [Bool.eq_false_iff]
  intro c
  simp only [sp_un, Bool.and_eq_true, decide_eq_true_eq] at c
  exact h ((ma_gcd hk.1 hk.2.1).mpr c)
theorem fa_msg2 {p q c : Nat} (hk : ma_K p q) (h1 : c % p ≠ 0) (h2 : c % q ≠ 0) (hc : c < p * q * (p * q)) :
    sp_msg p q c < p * q ∧ 1 ≤ c ^ sp_f p q % (p * q * (p * q)) ∧ ∀ j, j < p * q → (sp_coin p q c ^ (p * q) * (1 + p * q * j) % (p * q * (p * q)) = c ↔ j = sp_msg p q c) := by
  obtain ⟨-, -, h3, -⟩ := ma_keyf hk
  have h := fa_msg hk h1 h2 h3
  rw [Nat.mod_eq_of_lt hc] at h
  exact h
theorem dn_0 {k : Nat} (hk : k ≤ 30) (h : (nI k - 1).toInt < ((0 : Nat) : Int)) : k = 0 := by
  rcases k with _ | j
  · rfl
  · rw [nI_pred, nI_toInt (by omega)] at h
    omega
theorem dn_s {k : Nat} (h : ¬ (nI k - 1).toInt < ((0 : Nat) : Int)) : ∃ j, k = j + 1 := by
  rcases k with _ | j
  · exact absurd (by decide) h
  · exact ⟨j, rfl⟩
theorem dn_m (j : Nat) : nI j + Int32.ofInt (-1) = nI j - 1 := by
  rw [Int32.sub_eq_add_neg]
  rfl
theorem dn_step1 {g : Nat → Nat} {j x M : Nat} (hj : j + 1 ≤ 30) (hc : ¬ g j = 0) (h : x = sp_down g (30 - (j + 1)) % M) : x * g j % M = sp_down g (30 - j) % M := by
  have e1 : 30 - j = (30 - (j + 1)) + 1 := by omega
  have e2 : 29 - (30 - (j + 1)) = j := by omega
  rw [e1]
  simp only [sp_down, e2, if_neg hc]
  rw [h, Nat.mod_mul_mod]
theorem dn_step0 {g : Nat → Nat} {j x M : Nat} (hj : j + 1 ≤ 30) (hc : g j = 0) (h : x = sp_down g (30 - (j + 1)) % M) : x = sp_down g (30 - j) % M := by
  have e1 : 30 - j = (30 - (j + 1)) + 1 := by omega
  have e2 : 29 - (30 - (j + 1)) = j := by omega
  rw [e1]
  simp only [sp_down, e2, if_pos hc, Nat.mul_one]
  exact h
theorem un_step (n u f : Nat) : (n * u % f + n) % f = n * (u + 1) % f := by
  rw [Nat.mod_add_mod, Nat.mul_add, Nat.mul_one]
theorem un_cex {p q : Nat} (hk : ma_K p q) : p * q * sp_cex p q % sp_f p q = 1 := by
  have hb := ma_big hk
  obtain ⟨-, -, h3, -⟩ := ma_keyf hk
  rw [h3, Nat.add_mul_mod_self_left]
  exact Nat.mod_eq_of_lt (by omega)
/-- the reference's search ends at the very exponent -/
theorem un_eq {p q u : Nat} (hk : ma_K p q) (h1 : 1 ≤ u) (h2 : u ≤ sp_cex p q) (h : p * q * u % sp_f p q = 1) : u = sp_cex p q := by
  have hb := ma_big hk
  have hc := un_cex hk
  obtain ⟨-, -, -, h4, h5, -⟩ := ma_keyf hk
  have e1 : u * (p * q * sp_cex p q) % sp_f p q = u % sp_f p q := by rw [Nat.mul_mod, hc, Nat.mul_one, Nat.mod_mod]
  have e2 : sp_cex p q * (p * q * u) % sp_f p q = sp_cex p q % sp_f p q := by rw [Nat.mul_mod, h, Nat.mul_one, Nat.mod_mod]
  have e3 : u * (p * q * sp_cex p q) = sp_cex p q * (p * q * u) := by grind
  rw [e3, e2] at e1
  by_cases hz : sp_cex p q = sp_f p q
  · rw [hz, Nat.mod_self] at e1
    by_cases hy : u = sp_f p q
    · omega
    · rw [Nat.mod_eq_of_lt (by omega)] at e1
      omega
  · rw [Nat.mod_eq_of_lt (by omega), Nat.mod_eq_of_lt (by omega)] at e1
    omega
theorem ip_s {n d : Nat} (h : ∀ j, 2 ≤ j → j < d → n % j ≠ 0) (hd : ¬ n % d = 0) : ∀ j, 2 ≤ j → j < d + 1 → n % j ≠ 0 := by
  intro j h2 h3
  by_cases e : j = d
  · rw [e]; exact hd
  · exact h j h2 (by omega)
