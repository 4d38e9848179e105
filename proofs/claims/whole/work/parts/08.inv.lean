/-! the state, as both sides hold it -/
def Jv (p q cx rd : Nat) (g : Nat → Nat) : Prop :=
  (p = 0 ∧ q = 0 ∧ cx = 0) ∨ (ma_K p q ∧ (cx = 0 ∨ (1 ≤ cx ∧ cx ≤ 6 ∧ 2 ≤ rd ∧ rd ^ cx ≤ p * q ∧ ∀ j, j < 30 → g j < p * q * (p * q) ∧ (g j = 0 ∨ (g j % p ≠ 0 ∧ g j % q ≠ 0)))))
theorem jv_key {p q cx rd : Nat} {g : Nat → Nat} (h : Jv p q cx rd g) (hp : p ≠ 0) : ma_K p q := by
  rcases h with h | h
  · exact absurd h.1 hp
  · exact h.1
theorem jv_box {p q cx rd : Nat} {g : Nat → Nat} (h : Jv p q cx rd g) (hc : cx ≠ 0) : ma_K p q ∧ 1 ≤ cx ∧ cx ≤ 6 ∧ 2 ≤ rd ∧ rd ^ cx ≤ p * q ∧ ∀ j, j < 30 → g j < p * q * (p * q) ∧ (g j = 0 ∨ (g j % p ≠ 0 ∧ g j % q ≠ 0)) := by
  rcases h with h | ⟨h, h1 | h1⟩
  · exact absurd h.2.2 hc
  · exact absurd h1 hc
  · exact ⟨h, h1⟩
theorem jv_n {p q cx rd : Nat} {g : Nat → Nat} (h : Jv p q cx rd g) : p * q ≤ 52441 ∧ p * q * (p * q) ≤ 2750058481 ∧ p ≤ 229 ∧ q ≤ 229 ∧ cx ≤ 6 ∧ sp_f p q ≤ 52441 ∧ sp_inv p q ≤ 52441 ∧ sp_cex p q ≤ 52441 := by
  rcases h with ⟨rfl, rfl, rfl⟩ | ⟨h, h1⟩
  · decide
  · have hb := ma_big h
    have hk := ma_keyf h
    have h3 := h.1.2.1
    have h4 := h.2.1.2.1
    refine ⟨by omega, by omega, h3, h4, ?_, by omega, by omega, by omega⟩
    rcases h1 with h1 | h1 <;> omega
theorem jv_p0 {p q cx rd : Nat} {g : Nat → Nat} (h : Jv p q cx rd g) : p * q = 0 ↔ p = 0 := by
  rcases h with ⟨rfl, rfl, -⟩ | ⟨h, -⟩
  · simp
  · have hb := ma_big h
    have := h.1.1
    omega
theorem jv_cx {p q cx rd : Nat} {g : Nat → Nat} (h : Jv p q cx rd g) (hp : p = 0) : cx = 0 := by
  rcases h with h | h
  · exact h.2.2
  · have := h.1.1.1
    omega
theorem sp_isK_of {a b : Int32} (h : sp_isK a b = true) : ∃ p q : Nat, ma_K p q ∧ p < 2 ^ 31 ∧ q < 2 ^ 31 ∧ a = nI p ∧ b = nI q := by
  simp only [sp_isK, Bool.and_eq_true, decide_eq_true_eq] at h
  obtain ⟨p, hp, hp2, rfl⟩ := sp_isP_of h.1
  obtain ⟨q, hq, hq2, rfl⟩ := sp_isP_of h.2.1
  rw [ix_nat hp2, ix_nat hq2, nI_toInt hp2, nI_toInt hq2] at h
  exact ⟨p, q, ⟨hp, hq, by omega, h.2.2.2.1, h.2.2.2.2⟩, hp2, hq2, rfl, rfl⟩
theorem jv_t {p q cx rd : Nat} {g : Nat → Nat} (h : Jv p q cx rd g) (c : decide (0 < p * q) = true) : p ≠ 0 := by
  have := of_decide_eq_true c
  intro e
  rw [e, Nat.zero_mul] at this
  omega
theorem jv_f {p q cx rd : Nat} {g : Nat → Nat} (h : Jv p q cx rd g) (c : decide (0 < p * q) = false) : p = 0 := by
  have := of_decide_eq_false c
  exact (jv_p0 h).mp (by omega)
theorem ex_pos {p q : Nat} (h : ma_K p q) : 0 < p * q * sp_f p q := by
  have hb := ma_big h
  exact Nat.mul_pos (by omega) (by omega)
theorem ex_le {p q : Nat} (h : ma_K p q) : p * q * sp_f p q ≤ 2750058481 := by
  have hb := ma_big h
  have : p * q * sp_f p q ≤ 52441 * 52441 := Nat.mul_le_mul (by omega) (by omega)
  omega
theorem ex_lt {p q : Nat} (h : ma_K p q) : p * q * sp_f p q < 2 ^ 62 := by
  have := ex_le h
  omega
theorem ex_32 {p q : Nat} (h : ma_K p q) (y : Int32) : (y.toInt % ((p * q * sp_f p q : Nat) : Int)).toNat < 2 ^ 32 := by
  have h1 := ex_le h
  have h2 := ex_pos h
  have h3 := Int.emod_lt_of_pos y.toInt (b := ((p * q * sp_f p q : Nat) : Int)) (by omega)
  have h4 := Int.emod_nonneg y.toInt (b := ((p * q * sp_f p q : Nat) : Int)) (by omega)
  omega
theorem bx_t {cx : Nat} (c : decide (0 < cx) = true) : cx ≠ 0 := by
  have := of_decide_eq_true c
  omega
theorem bx_f {cx : Nat} (c : decide (0 < cx) = false) : cx = 0 := by
  have := of_decide_eq_false c
  omega
theorem rp_lt {a cx rd n : Nat} (ha : a < cx) (hr : 2 ≤ rd) (h : rd ^ cx ≤ n) : rd ^ a < n :=
  Nat.lt_of_lt_of_le (Nat.pow_lt_pow_right (by omega) ha) h
theorem fa_sm {p q : Nat} (hk : ma_K p q) (c : Nat) : sp_msg p q c < p * q := by
  have hb := ma_big hk
  exact Nat.mod_lt _ (by omega)
def sel (b : Bool) (u v : Nat) : Nat := if b = true then u else v
theorem sel_t {u v : Nat} : sel true u v = u := rfl
theorem sel_f {u v : Nat} : sel false u v = v := rfl
theorem gu_same {g : Nat → Nat} {k c : Nat} (h : g k = c) : gu g k c = g := by
  funext j
  unfold gu
  split
  · rename_i e; rw [e, h]
  · rfl
theorem si_of {p q : Nat} (h : ma_K p q) : sp_f p q ^ (sp_f p q - 1) % (p * q) = sp_inv p q := by
  unfold sp_inv
  rw [if_neg (by have := h.1.1; omega)]
/-! what a cast comes to -/
section
variable {p q cx rd cl : Nat} {g : Nat → Nat} {x : Int32} {y : Int64} {a b : Nat}
theorem cs_bad (h0 : cx ≠ 0) (h1 : cl ≠ 1) (h : (sp_cand 30 x && sp_isS p q y) = false) : nx_cast p q cx rd cl g x y = g := by
  simp [nx_cast, h0, h1, sp_cast, h]
theorem ct_bad (h0 : cx ≠ 0) (h1 : cl ≠ 1) (h : (sp_cand 30 x && sp_isS p q y) = false) : an_cast p q cx rd cl g x y = -4 := by
  simp [an_cast, h0, h1, sp_cast, h]
theorem cs_full (h0 : cx ≠ 0) (h1 : cl ≠ 1) (h2 : sp_cand 30 (nI a) = true) (h3 : sp_isS p q y = true) (ha : a < 2 ^ 31) (hg : g a = 0) (hf : rd - 1 ≤ sp_cnt g 30) : nx_cast p q cx rd cl g (nI a) y = g := by
  simp [nx_cast, h0, h1, sp_cast, h2, h3, ix_nat ha, hg, hf]
theorem ct_full (h0 : cx ≠ 0) (h1 : cl ≠ 1) (h2 : sp_cand 30 (nI a) = true) (h3 : sp_isS p q y = true) (ha : a < 2 ^ 31) (hg : g a = 0) (hf : rd - 1 ≤ sp_cnt g 30) : an_cast p q cx rd cl g (nI a) y = -5 := by
  simp [an_cast, h0, h1, sp_cast, h2, h3, ix_nat ha, hg, hf]
theorem cs_new (h0 : cx ≠ 0) (h1 : cl ≠ 1) (h2 : sp_cand 30 (nI a) = true) (h3 : sp_isS p q (lN b) = true) (ha : a < 2 ^ 31) (hb : b < 2 ^ 63) (hg : g a = 0) (hf : ¬ rd - 1 ≤ sp_cnt g 30) : nx_cast p q cx rd cl g (nI a) (lN b) = gu g a b := by
  simp only [nx_cast, if_neg h0, if_neg h1, sp_cast, h2, h3, Bool.and_self, if_true, ix_nat ha, lx_nat hb, if_pos hg, if_neg hf]
  simp
theorem ct_new (h0 : cx ≠ 0) (h1 : cl ≠ 1) (h2 : sp_cand 30 (nI a) = true) (h3 : sp_isS p q y = true) (ha : a < 2 ^ 31) (hg : g a = 0) (hf : ¬ rd - 1 ≤ sp_cnt g 30) : an_cast p q cx rd cl g (nI a) y = nI 1 := by
  simp only [an_cast, if_neg h0, if_neg h1, sp_cast, h2, h3, Bool.and_self, if_true, ix_nat ha, if_pos hg, if_neg hf]
  decide
theorem cs_old (h0 : cx ≠ 0) (h1 : cl ≠ 1) (h2 : sp_cand 30 (nI a) = true) (h3 : sp_isS p q (lN b) = true) (ha : a < 2 ^ 31) (hb : b < 2 ^ 63) (hg : ¬ g a = 0) : nx_cast p q cx rd cl g (nI a) (lN b) = gu g a b := by
  simp only [nx_cast, if_neg h0, if_neg h1, sp_cast, h2, h3, Bool.and_self, if_true, ix_nat ha, lx_nat hb, if_neg hg]
  simp
theorem ct_old (h0 : cx ≠ 0) (h1 : cl ≠ 1) (h2 : sp_cand 30 (nI a) = true) (h3 : sp_isS p q y = true) (ha : a < 2 ^ 31) (hg : ¬ g a = 0) : an_cast p q cx rd cl g (nI a) y = nI 0 := by
  simp only [an_cast, if_neg h0, if_neg h1, sp_cast, h2, h3, Bool.and_self, if_true, ix_nat ha, if_neg hg]
  decide
end
