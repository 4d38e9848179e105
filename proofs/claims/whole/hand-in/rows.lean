section
/-- a private method of a class that the tables say can be made, by its rows of tables_1 -/
def lw_okq (q : MethodName × Nat) : Prop := (q.1.cls ≠ "java/lang/invoke/MethodHandle" ∧ q.1.cls ≠ "java/lang/invoke/VarHandle") ∧ Cond.instantiable q.1.cls q.2 ∈ tables_1 ∧ Cond.privateMethod q.1 ∈ tables_1 ∧ Cond.instanceMethod q.1 ∈ tables_1
theorem lw_p0 : lw_okq (⟨"SealedTally", "hasKey", "()Z"⟩, 13) := ⟨⟨by decide +kernel, by decide +kernel⟩, List.mem_of_getElem? (i := 6) (by decide +kernel), List.mem_of_getElem? (i := 76) (by decide +kernel), List.mem_of_getElem? (i := 77) (by decide +kernel)⟩
theorem lw_p1 : lw_okq (⟨"SealedTally", "isMessage", "(J)Z"⟩, 13) := ⟨⟨by decide +kernel, by decide +kernel⟩, List.mem_of_getElem? (i := 6) (by decide +kernel), List.mem_of_getElem? (i := 81) (by decide +kernel), List.mem_of_getElem? (i := 82) (by decide +kernel)⟩
theorem lw_p2 : lw_okq (⟨"SealedTally", "isCoin", "(J)Z"⟩, 13) := ⟨⟨by decide +kernel, by decide +kernel⟩, List.mem_of_getElem? (i := 6) (by decide +kernel), List.mem_of_getElem? (i := 85) (by decide +kernel), List.mem_of_getElem? (i := 86) (by decide +kernel)⟩
theorem lw_p3 : lw_okq (⟨"SealedTally", "sharesNoFactor", "(J)Z"⟩, 13) := ⟨⟨by decide +kernel, by decide +kernel⟩, List.mem_of_getElem? (i := 6) (by decide +kernel), List.mem_of_getElem? (i := 89) (by decide +kernel), List.mem_of_getElem? (i := 90) (by decide +kernel)⟩
theorem lw_p4 : lw_okq (⟨"SealedTally", "sealing", "(JJ)J"⟩, 13) := ⟨⟨by decide +kernel, by decide +kernel⟩, List.mem_of_getElem? (i := 6) (by decide +kernel), List.mem_of_getElem? (i := 94) (by decide +kernel), List.mem_of_getElem? (i := 95) (by decide +kernel)⟩
theorem lw_p5 : lw_okq (⟨"SealedTally", "isSeal", "(J)Z"⟩, 13) := ⟨⟨by decide +kernel, by decide +kernel⟩, List.mem_of_getElem? (i := 6) (by decide +kernel), List.mem_of_getElem? (i := 102) (by decide +kernel), List.mem_of_getElem? (i := 103) (by decide +kernel)⟩
theorem lw_p6 : lw_okq (⟨"SealedTally", "messageIn", "(J)J"⟩, 13) := ⟨⟨by decide +kernel, by decide +kernel⟩, List.mem_of_getElem? (i := 6) (by decide +kernel), List.mem_of_getElem? (i := 106) (by decide +kernel), List.mem_of_getElem? (i := 107) (by decide +kernel)⟩
theorem lw_p7 : lw_okq (⟨"SealedTally", "coinIn", "(J)J"⟩, 13) := ⟨⟨by decide +kernel, by decide +kernel⟩, List.mem_of_getElem? (i := 6) (by decide +kernel), List.mem_of_getElem? (i := 114) (by decide +kernel), List.mem_of_getElem? (i := 115) (by decide +kernel)⟩
theorem lw_p8 : lw_okq (⟨"SealedTally", "isBoxSize", "(II)Z"⟩, 13) := ⟨⟨by decide +kernel, by decide +kernel⟩, List.mem_of_getElem? (i := 6) (by decide +kernel), List.mem_of_getElem? (i := 133) (by decide +kernel), List.mem_of_getElem? (i := 134) (by decide +kernel)⟩
theorem lw_p9 : lw_okq (⟨"SealedTally", "hasBox", "()Z"⟩, 13) := ⟨⟨by decide +kernel, by decide +kernel⟩, List.mem_of_getElem? (i := 6) (by decide +kernel), List.mem_of_getElem? (i := 144) (by decide +kernel), List.mem_of_getElem? (i := 145) (by decide +kernel)⟩
theorem lw_p10 : lw_okq (⟨"SealedTally", "isCandidate", "(I)Z"⟩, 13) := ⟨⟨by decide +kernel, by decide +kernel⟩, List.mem_of_getElem? (i := 6) (by decide +kernel), List.mem_of_getElem? (i := 149) (by decide +kernel), List.mem_of_getElem? (i := 150) (by decide +kernel)⟩
theorem lw_p11 : lw_okq (⟨"SealedTally", "radixPower", "(I)J"⟩, 13) := ⟨⟨by decide +kernel, by decide +kernel⟩, List.mem_of_getElem? (i := 6) (by decide +kernel), List.mem_of_getElem? (i := 153) (by decide +kernel), List.mem_of_getElem? (i := 154) (by decide +kernel)⟩
theorem lw_p12 : lw_okq (⟨"SealedTally", "productOfBallots", "()J"⟩, 13) := ⟨⟨by decide +kernel, by decide +kernel⟩, List.mem_of_getElem? (i := 6) (by decide +kernel), List.mem_of_getElem? (i := 182) (by decide +kernel), List.mem_of_getElem? (i := 183) (by decide +kernel)⟩
theorem lw_p13 : lw_okq (⟨"SealedTallyModel", "isMessage", "(J)Z"⟩, 9) := ⟨⟨by decide +kernel, by decide +kernel⟩, List.mem_of_getElem? (i := 202) (by decide +kernel), List.mem_of_getElem? (i := 252) (by decide +kernel), List.mem_of_getElem? (i := 253) (by decide +kernel)⟩
theorem lw_p14 : lw_okq (⟨"SealedTallyModel", "isCoin", "(J)Z"⟩, 9) := ⟨⟨by decide +kernel, by decide +kernel⟩, List.mem_of_getElem? (i := 202) (by decide +kernel), List.mem_of_getElem? (i := 256) (by decide +kernel), List.mem_of_getElem? (i := 257) (by decide +kernel)⟩
theorem lw_p15 : lw_okq (⟨"SealedTallyModel", "sealing", "(JJ)J"⟩, 9) := ⟨⟨by decide +kernel, by decide +kernel⟩, List.mem_of_getElem? (i := 202) (by decide +kernel), List.mem_of_getElem? (i := 263) (by decide +kernel), List.mem_of_getElem? (i := 264) (by decide +kernel)⟩
def lw_privs_1 : List (MethodName × Nat) := [(⟨"SealedTally", "hasKey", "()Z"⟩, 13), (⟨"SealedTally", "isMessage", "(J)Z"⟩, 13), (⟨"SealedTally", "isCoin", "(J)Z"⟩, 13), (⟨"SealedTally", "sharesNoFactor", "(J)Z"⟩, 13), (⟨"SealedTally", "sealing", "(JJ)J"⟩, 13), (⟨"SealedTally", "isSeal", "(J)Z"⟩, 13), (⟨"SealedTally", "messageIn", "(J)J"⟩, 13), (⟨"SealedTally", "coinIn", "(J)J"⟩, 13), (⟨"SealedTally", "isBoxSize", "(II)Z"⟩, 13), (⟨"SealedTally", "hasBox", "()Z"⟩, 13), (⟨"SealedTally", "isCandidate", "(I)Z"⟩, 13), (⟨"SealedTally", "radixPower", "(I)J"⟩, 13), (⟨"SealedTally", "productOfBallots", "()J"⟩, 13), (⟨"SealedTallyModel", "isMessage", "(J)Z"⟩, 9), (⟨"SealedTallyModel", "isCoin", "(J)Z"⟩, 9), (⟨"SealedTallyModel", "sealing", "(JJ)J"⟩, 9)]
theorem lw_r1 : ∀ q ∈ lw_privs_1, lw_okq q := List.forall_mem_cons.mpr ⟨lw_p0, List.forall_mem_cons.mpr ⟨lw_p1, List.forall_mem_cons.mpr ⟨lw_p2, List.forall_mem_cons.mpr ⟨lw_p3, List.forall_mem_cons.mpr ⟨lw_p4, List.forall_mem_cons.mpr ⟨lw_p5, List.forall_mem_cons.mpr ⟨lw_p6, List.forall_mem_cons.mpr ⟨lw_p7, List.forall_mem_cons.mpr ⟨lw_p8, List.forall_mem_cons.mpr ⟨lw_p9, List.forall_mem_cons.mpr ⟨lw_p10, List.forall_mem_cons.mpr ⟨lw_p11, List.forall_mem_cons.mpr ⟨lw_p12, List.forall_mem_cons.mpr ⟨lw_p13, List.forall_mem_cons.mpr ⟨lw_p14, List.forall_mem_cons.mpr ⟨lw_p15, fun _ h => absurd h List.not_mem_nil⟩⟩⟩⟩⟩⟩⟩⟩⟩⟩⟩⟩⟩⟩⟩⟩
theorem lw_p16 : lw_okq (⟨"SealedTallyModel", "isSeal", "(J)Z"⟩, 9) := ⟨⟨by decide +kernel, by decide +kernel⟩, List.mem_of_getElem? (i := 202) (by decide +kernel), List.mem_of_getElem? (i := 276) (by decide +kernel), List.mem_of_getElem? (i := 277) (by decide +kernel)⟩
theorem lw_p17 : lw_okq (⟨"SealedTallyModel", "messageIn", "(J)J"⟩, 9) := ⟨⟨by decide +kernel, by decide +kernel⟩, List.mem_of_getElem? (i := 202) (by decide +kernel), List.mem_of_getElem? (i := 280) (by decide +kernel), List.mem_of_getElem? (i := 281) (by decide +kernel)⟩
theorem lw_p18 : lw_okq (⟨"SealedTallyModel", "coinIn", "(J)J"⟩, 9) := ⟨⟨by decide +kernel, by decide +kernel⟩, List.mem_of_getElem? (i := 202) (by decide +kernel), List.mem_of_getElem? (i := 284) (by decide +kernel), List.mem_of_getElem? (i := 285) (by decide +kernel)⟩
theorem lw_p19 : lw_okq (⟨"SealedTallyModel", "place", "(I)J"⟩, 9) := ⟨⟨by decide +kernel, by decide +kernel⟩, List.mem_of_getElem? (i := 202) (by decide +kernel), List.mem_of_getElem? (i := 309) (by decide +kernel), List.mem_of_getElem? (i := 310) (by decide +kernel)⟩
theorem lw_p20 : lw_okq (⟨"SealedTallyModel", "count", "()I"⟩, 9) := ⟨⟨by decide +kernel, by decide +kernel⟩, List.mem_of_getElem? (i := 202) (by decide +kernel), List.mem_of_getElem? (i := 317) (by decide +kernel), List.mem_of_getElem? (i := 318) (by decide +kernel)⟩
theorem lw_p21 : lw_okq (⟨"SealedTallyModel", "product", "()J"⟩, 9) := ⟨⟨by decide +kernel, by decide +kernel⟩, List.mem_of_getElem? (i := 202) (by decide +kernel), List.mem_of_getElem? (i := 339) (by decide +kernel), List.mem_of_getElem? (i := 340) (by decide +kernel)⟩
def lw_privs_2 : List (MethodName × Nat) := [(⟨"SealedTallyModel", "isSeal", "(J)Z"⟩, 9), (⟨"SealedTallyModel", "messageIn", "(J)J"⟩, 9), (⟨"SealedTallyModel", "coinIn", "(J)J"⟩, 9), (⟨"SealedTallyModel", "place", "(I)J"⟩, 9), (⟨"SealedTallyModel", "count", "()I"⟩, 9), (⟨"SealedTallyModel", "product", "()J"⟩, 9)]
theorem lw_r2 : ∀ q ∈ lw_privs_2, lw_okq q := List.forall_mem_cons.mpr ⟨lw_p16, List.forall_mem_cons.mpr ⟨lw_p17, List.forall_mem_cons.mpr ⟨lw_p18, List.forall_mem_cons.mpr ⟨lw_p19, List.forall_mem_cons.mpr ⟨lw_p20, List.forall_mem_cons.mpr ⟨lw_p21, fun _ h => absurd h List.not_mem_nil⟩⟩⟩⟩⟩⟩
def lw_privs : List (MethodName × Nat) := lw_privs_1 ++ (lw_privs_2)
def lw_tbl : List Cond := k2_sels lw_privs ++ tables_1
theorem lw_privs_ok : ∀ q ∈ lw_privs, lw_okq q := by
  show ∀ q ∈ lw_privs_1 ++ (lw_privs_2), lw_okq q
  exact List.forall_mem_append.mpr ⟨lw_r1, lw_r2⟩
end
section
/-! numbers: units of n, the binomial, Euler, the opening of a seal -/
def ma_P (p : Nat) : Prop := 3 ≤ p ∧ p ≤ 229 ∧ ∀ d, 2 ≤ d → d < p → p % d ≠ 0
def ma_isP (p : Nat) : Bool := decide (3 ≤ p) && (List.range p).all (fun d => decide (d < 2) || decide (p % d ≠ 0))
def ma_fe (p : Nat) : Bool := (List.range p).all (fun a => decide (a = 0) || (decide (a ^ (p - 1) % p = 1) && decide (Nat.gcd p a = 1)))
set_option maxRecDepth 100000 in
theorem ma_tab : (List.range 230).all (fun p => !ma_isP p || ma_fe p) = true := by decide +kernel
theorem ma_isP_of {p : Nat} (h : ma_P p) : ma_isP p = true := by
  unfold ma_isP
  simp only [Bool.and_eq_true, List.all_eq_true, List.mem_range, Bool.or_eq_true, decide_eq_true_eq]
  refine ⟨h.1, fun d hd => ?_⟩
  by_cases c : d < 2
  · exact Or.inl c
  · exact Or.inr (h.2.2 d (by omega) hd)
theorem ma_row {p a : Nat} (h : ma_P p) (ha : a < p) (h0 : a ≠ 0) : a ^ (p - 1) % p = 1 ∧ Nat.gcd p a = 1 := by
  have h1 := List.all_eq_true.mp ma_tab p (List.mem_range.mpr (by have := h.2.1; omega))
  rw [ma_isP_of h] at h1
  simp only [Bool.not_true, Bool.false_or] at h1
  have h2 := List.all_eq_true.mp h1 a (List.mem_range.mpr ha)
  simp only [Bool.or_eq_true, Bool.and_eq_true, decide_eq_true_eq] at h2
  rcases h2 with h2 | h2
  · exact absurd h2 h0
  · exact h2
theorem ma_fermat {p a : Nat} (h : ma_P p) (ha : a % p ≠ 0) : a ^ (p - 1) % p = 1 := by
  rw [Nat.pow_mod]
  exact (ma_row h (Nat.mod_lt _ (by have := h.1; omega)) ha).1
theorem ma_cop {p a : Nat} (h : ma_P p) (ha : a % p ≠ 0) : Nat.Coprime p a := by
  have h2 := (ma_row h (Nat.mod_lt a (by have := h.1; omega)) ha).2
  show Nat.gcd p a = 1
  rw [Nat.gcd_rec, Nat.gcd_comm]
  exact h2
theorem ma_bin (x m : Nat) : ∃ k, (1 + x) ^ m = 1 + m * x + k * (x * x) := by
  induction m with
  | zero => exact ⟨0, by simp⟩
  | succ m ih =>
    obtain ⟨k, hk⟩ := ih
    refine ⟨m + k + k * x, ?_⟩
    rw [Nat.pow_succ, hk]
    grind
theorem ma_one {x n : Nat} (h : x % n = 1) : ∃ t, x = 1 + n * t := ⟨x / n, by have := Nat.div_add_mod x n; omega⟩
theorem ma_crt {p q x : Nat} (hc : Nat.Coprime p q) (hp : 1 < p) (hq : 1 < q) (h1 : x % p = 1) (h2 : x % q = 1) : x % (p * q) = 1 := by
  obtain ⟨s, hs⟩ := ma_one h1
  obtain ⟨t, ht⟩ := ma_one h2
  have d1 : p ∣ x - 1 := ⟨s, by omega⟩
  have d2 : q ∣ x - 1 := ⟨t, by omega⟩
  obtain ⟨z, hz⟩ := Nat.Coprime.mul_dvd_of_dvd_of_dvd hc d1 d2
  have e : x = 1 + p * q * z := by omega
  have hpq : 1 * 1 < p * q := Nat.mul_lt_mul'' hp hq
  rw [e, Nat.add_mul_mod_self_left]
  exact Nat.mod_eq_of_lt (by omega)
/-- a is a unit of n, as f shows -/
def ma_U (n f a : Nat) : Prop := a ^ f % n = 1
theorem ma_U_mod {n f a : Nat} (h : ma_U n f a) : ma_U n f (a % n) := by
  unfold ma_U at h ⊢
  rw [← Nat.pow_mod]
  exact h
theorem ma_U_of {n f a b : Nat} (e : a % n = b % n) (h : ma_U n f a) : ma_U n f b := by
  unfold ma_U at h ⊢
  rw [Nat.pow_mod, ← e, ← Nat.pow_mod]
  exact h
theorem ma_1pow {n x w : Nat} (hn : 1 < n) (h : x % n = 1) : x ^ w % n = 1 := by
  rw [Nat.pow_mod, h, Nat.one_pow]
  exact Nat.mod_eq_of_lt hn
theorem ma_U_pow {n f a : Nat} (hn : 1 < n) (k : Nat) (h : ma_U n f a) : ma_U n f (a ^ k) := by
  unfold ma_U at h ⊢
  rw [← Nat.pow_mul, Nat.mul_comm, Nat.pow_mul]
  exact ma_1pow hn h
theorem ma_U_mul {n f a b : Nat} (hn : 1 < n) (ha : ma_U n f a) (hb : ma_U n f b) : ma_U n f (a * b) := by
  unfold ma_U at *
  rw [Nat.mul_pow, Nat.mul_mod, ha, hb]
  exact Nat.mod_eq_of_lt hn
theorem ma_U_one {n f : Nat} (hn : 1 < n) : ma_U n f 1 := by
  unfold ma_U
  rw [Nat.one_pow]
  exact Nat.mod_eq_of_lt hn
theorem ma_sq {n : Nat} (hn : 1 < n) : 1 < n * n := by
  have : 1 * 1 < n * n := Nat.mul_lt_mul'' hn hn
  omega
theorem ma_U2 {n f a : Nat} (hn : 1 < n) (h : ma_U n f a) : a ^ (n * f) % (n * n) = 1 := by
  obtain ⟨t, ht⟩ := ma_one h
  obtain ⟨k, hk⟩ := ma_bin (n * t) n
  rw [Nat.mul_comm n f, Nat.pow_mul, ht, hk]
  have e : 1 + n * (n * t) + k * (n * t * (n * t)) = 1 + n * n * (t + k * (t * t)) := by grind
  rw [e, Nat.add_mul_mod_self_left]
  exact Nat.mod_eq_of_lt (ma_sq hn)
theorem ma_red {n f x : Nat} (hn : 1 < n) (h : ma_U n f x) (e v : Nat) : x ^ (e * (1 + f * v)) % n = x ^ e % n := by
  have e1 : e * (1 + f * v) = e + f * (e * v) := by grind
  rw [e1, Nat.pow_add, Nat.pow_mul, Nat.mul_mod, ma_1pow hn h, Nat.mul_one, Nat.mod_mod]
theorem ma_coin {n f x e1 e2 v1 v2 : Nat} (hn : 1 < n) (h : ma_U n f x) (h1 : n * e1 = 1 + f * v1) (h2 : n * e2 = 1 + f * v2) : x ^ e1 % n = x ^ e2 % n := by
  rw [← ma_red hn h e1 v2, ← ma_red hn h e2 v1, ← h1, ← h2]
  have e : e1 * (n * e2) = e2 * (n * e1) := by grind
  rw [e]
theorem ma_lin {n : Nat} (hn : 1 < n) (w : Nat) : (1 + n * w) % (n * n) = 1 + n * (w % n) := by
  have e : 1 + n * w = 1 + n * (w % n) + n * n * (w / n) := by
    have := Nat.div_add_mod w n
    have e2 : n * w = n * (n * (w / n) + w % n) := by rw [this]
    rw [e2]
    grind
  have hl : w % n < n := Nat.mod_lt _ (by omega)
  have h2 : n * (w % n + 1) ≤ n * n := Nat.mul_le_mul_left n hl
  rw [e, Nat.add_mul_mod_self_left]
  refine Nat.mod_eq_of_lt ?_
  rw [Nat.mul_add] at h2
  omega
theorem ma_bin_mod (n m : Nat) : (1 + n) ^ m % (n * n) = (1 + m * n) % (n * n) := by
  obtain ⟨k, hk⟩ := ma_bin n m
  rw [hk, Nat.add_mul_mod_self_right]
/-- the coin's power takes n away: r ^ n is c by n -/
theorem ma_R {n f c e v : Nat} (hn : 1 < n) (h : ma_U n f c) (he : n * e = 1 + f * v) : ((c % n) ^ e % n) ^ n % n = c % n ∧ ma_U n f ((c % n) ^ e % n) := by
  have hU := ma_U_mod h
  refine ⟨?_, ma_U_mod (ma_U_pow hn e hU)⟩
  rw [← Nat.pow_mod, ← Nat.pow_mul, Nat.mul_comm e n, he]
  have := ma_red hn hU 1 v
  rw [Nat.one_mul, Nat.pow_one, Nat.mod_mod] at this
  exact this
/-- c is R (1 + k n) by n n -/
theorem ma_k {n f c R : Nat} (hn : 1 < n) (hf : 1 ≤ f) (hR : R % n = c % n) (hR2 : R ^ f % (n * n) = 1) (hU : ma_U n f R) : ∃ k, (R * (1 + n * k)) % (n * n) = c % (n * n) := by
  have ey : (c * R ^ (f - 1)) % n = 1 := by
    rw [Nat.mul_mod, ← hR, ← Nat.mul_mod, Nat.mul_comm, ← Nat.pow_succ]
    rw [show (f - 1).succ = f by omega]
    exact hU
  obtain ⟨k, hk⟩ := ma_one ey
  refine ⟨k, ?_⟩
  rw [← hk]
  have e : R * (c * R ^ (f - 1)) = c * R ^ f := by
    have : R ^ f = R ^ (f - 1) * R := by rw [← Nat.pow_succ, show (f - 1).succ = f by omega]
    rw [this]
    grind
  rw [e, Nat.mul_mod, hR2, Nat.mul_one, Nat.mod_mod]
theorem ma_cf {n f c R k : Nat} (hn : 1 < n) (hR2 : R ^ f % (n * n) = 1) (hk : (R * (1 + n * k)) % (n * n) = c % (n * n)) : c ^ f % (n * n) = 1 + n * (f * k % n) := by
  obtain ⟨k', hk'⟩ := ma_bin (n * k) f
  rw [Nat.pow_mod, ← hk, ← Nat.pow_mod, Nat.mul_pow, Nat.mul_mod, hR2, Nat.one_mul, Nat.mod_mod, hk']
  have e : 1 + f * (n * k) + k' * (n * k * (n * k)) = 1 + n * (f * k) + n * n * (k' * (k * k)) := by grind
  rw [e, Nat.add_mul_mod_self_left]
  exact ma_lin hn _
/-- the message: by its formula, and the only one that fits -/
theorem ma_msg {n f c e v iv : Nat} (hn : 1 < n) (hf : 1 ≤ f) (h : ma_U n f c) (he : n * e = 1 + f * v) (hi : f * iv % n = 1) :
    (c ^ f % (n * n) - 1) / n * iv % n < n ∧ 1 ≤ c ^ f % (n * n) ∧ ∀ j, j < n → ((((c % n) ^ e % n) ^ n * (1 + n * j)) % (n * n) = c % (n * n) ↔ j = (c ^ f % (n * n) - 1) / n * iv % n) := by
  obtain ⟨hR, hr⟩ := ma_R hn h he
  generalize hre : (c % n) ^ e % n = r at hR hr ⊢
  have hR2 : (r ^ n) ^ f % (n * n) = 1 := by rw [← Nat.pow_mul]; exact ma_U2 hn hr
  have hRU : ma_U n f (r ^ n) := ma_U_pow hn n hr
  generalize r ^ n = R at hR hR2 hRU ⊢
  obtain ⟨k, hk⟩ := ma_k hn hf hR hR2 hRU
  have hc := ma_cf hn hR2 hk
  have em : (c ^ f % (n * n) - 1) / n * iv % n = k % n := by
    rw [hc, show 1 + n * (f * k % n) - 1 = n * (f * k % n) by omega, Nat.mul_div_cancel_left _ (by omega), Nat.mul_mod, Nat.mod_mod, ← Nat.mul_mod]
    have e : f * k * iv = k * (f * iv) := by grind
    rw [e, Nat.mul_mod, hi, Nat.mul_one, Nat.mod_mod]
  rw [em]
  refine ⟨Nat.mod_lt _ (by omega), by rw [hc]; omega, fun j hj => ⟨fun hj2 => ?_, fun hj2 => ?_⟩⟩
  · have e1 : (R * (1 + n * j)) % (n * n) = (R * (1 + n * k)) % (n * n) := by rw [hj2, hk]
    have e2 : (R ^ (f - 1) * (R * (1 + n * j))) % (n * n) = (R ^ (f - 1) * (R * (1 + n * k))) % (n * n) := by
      rw [Nat.mul_mod, e1, ← Nat.mul_mod]
    have e3 : ∀ w, (R ^ (f - 1) * (R * (1 + n * w))) % (n * n) = 1 + n * (w % n) := by
      intro w
      rw [← Nat.mul_assoc, ← Nat.pow_succ, show (f - 1).succ = f by omega, Nat.mul_mod, hR2, Nat.one_mul, Nat.mod_mod]
      exact ma_lin hn w
    rw [e3, e3] at e2
    have e4 : n * (j % n) = n * (k % n) := by omega
    have e5 := Nat.eq_of_mul_eq_mul_left (by omega) e4
    rw [Nat.mod_eq_of_lt hj] at e5
    exact e5
  · subst hj2
    rw [← hk, Nat.mul_mod, ← ma_lin hn k, Nat.mod_mod, ← Nat.mul_mod]
theorem ma_inv {n f : Nat} (hf : 1 ≤ f) (h : ma_U n f f) : f * (f ^ (f - 1) % n) % n = 1 := by
  rw [Nat.mul_mod, Nat.mod_mod, ← Nat.mul_mod, Nat.mul_comm, ← Nat.pow_succ, show (f - 1).succ = f by omega]
  exact h
theorem ma_cex {n f iv : Nat} (hf : 1 ≤ f) (hi : f * iv % n = 1) (hl : iv < n) : n * (f - (f * iv - 1) / n) = 1 + f * (n - iv) ∧ 1 ≤ f - (f * iv - 1) / n ∧ (f * iv - 1) / n ≤ f ∧ 1 ≤ f * iv := by
  obtain ⟨t, ht⟩ := ma_one hi
  have hn : 0 < n := by omega
  have e1 : (f * iv - 1) / n = t := by
    rw [ht, show 1 + n * t - 1 = n * t by omega, Nat.mul_div_cancel_left _ hn]
  rw [e1]
  have h1 : f * iv + f ≤ f * n := by
    have := Nat.mul_le_mul_left f hl
    rw [Nat.mul_succ] at this
    exact this
  have h2 : n * t < n * f := by rw [Nat.mul_comm n f]; omega
  have h3 : t < f := Nat.lt_of_mul_lt_mul_left h2
  refine ⟨?_, by omega, by omega, by omega⟩
  rw [Nat.mul_sub, Nat.mul_sub, ht, Nat.mul_comm n f]
  rw [Nat.mul_comm n f] at h2
  omega
/-- a key -/
def ma_K (p q : Nat) : Prop := ma_P p ∧ ma_P q ∧ p ≠ q ∧ (q - 1) % p ≠ 0 ∧ (p - 1) % q ≠ 0
theorem ma_neq {p q : Nat} (hp : ma_P p) (hq : ma_P q) (h : p ≠ q) : q % p ≠ 0 := by
  by_cases c : p < q
  · exact hq.2.2 p (by have := hp.1; omega) c
  · rw [Nat.mod_eq_of_lt (by omega)]
    have := hq.1
    omega
theorem ma_pm {p : Nat} (hp : ma_P p) : (p - 1) % p ≠ 0 := by
  have := hp.1
  rw [Nat.mod_eq_of_lt (by omega)]
  omega
theorem ma_mulne {p a b : Nat} (hp : ma_P p) (ha : a % p ≠ 0) (hb : b % p ≠ 0) : a * b % p ≠ 0 := by
  intro h
  have h1 : p ∣ a * b := Nat.dvd_of_mod_eq_zero h
  have h2 := Nat.Coprime.dvd_of_dvd_mul_left (ma_cop hp ha) h1
  exact hb (Nat.mod_eq_zero_of_dvd h2)
def sp_f (p q : Nat) : Nat := (p - 1) * (q - 1)
def sp_inv (p q : Nat) : Nat := if p = 0 then 0 else sp_f p q ^ (sp_f p q - 1) % (p * q)
def sp_cex (p q : Nat) : Nat := sp_f p q - (sp_f p q * sp_inv p q - 1) / (p * q)
theorem ma_unit {p q a : Nat} (h : ma_K p q) (ha : a % p ≠ 0) (hb : a % q ≠ 0) : ma_U (p * q) (sp_f p q) a := by
  obtain ⟨hp, hq, hne, -, -⟩ := h
  have h3 := hp.1
  have h4 := hq.1
  refine ma_crt (ma_cop hp (ma_neq hp hq hne)) (by omega) (by omega) ?_ ?_
  · unfold sp_f
    rw [Nat.pow_mul]
    exact ma_1pow (by omega) (ma_fermat hp ha)
  · unfold sp_f
    rw [Nat.mul_comm (p - 1), Nat.pow_mul]
    exact ma_1pow (by omega) (ma_fermat hq hb)
theorem ma_big {p q : Nat} (h : ma_K p q) : 15 ≤ p * q ∧ p * q ≤ 52441 ∧ 4 ≤ sp_f p q ∧ sp_f p q < p * q ∧ p * q * (p * q) ≤ 2750058481 ∧ 225 ≤ p * q * (p * q) := by
  obtain ⟨hp, hq, hne, -, -⟩ := h
  have h1 := hp.1
  have h2 := hq.1
  have h3 := hp.2.1
  have h4 := hq.2.1
  have h5 : p * q ≤ 229 * 229 := Nat.mul_le_mul h3 h4
  have h6 : 15 ≤ p * q := by
    by_cases c : p < q
    · have : 3 * 5 ≤ p * q := by
        refine Nat.mul_le_mul h1 ?_
        have : q ≠ 4 := fun e => by subst e; exact hq.2.2 2 (by omega) (by omega) (by decide)
        omega
      omega
    · have : 5 * 3 ≤ p * q := by
        refine Nat.mul_le_mul ?_ h2
        have : p ≠ 4 := fun e => by subst e; exact hp.2.2 2 (by omega) (by omega) (by decide)
        omega
      omega
  have h7 : 2 * 2 ≤ sp_f p q := Nat.mul_le_mul (by omega) (by omega)
  have h8 : sp_f p q < p * q := Nat.mul_lt_mul'' (by omega) (by omega)
  have h9 : p * q * (p * q) ≤ 52441 * 52441 := Nat.mul_le_mul h5 h5
  have h10 : 15 * 15 ≤ p * q * (p * q) := Nat.mul_le_mul h6 h6
  exact ⟨h6, by omega, by omega, h8, by omega, by omega⟩
theorem ma_keyf {p q : Nat} (h : ma_K p q) : sp_f p q * sp_inv p q % (p * q) = 1 ∧ sp_inv p q < p * q ∧ p * q * sp_cex p q = 1 + sp_f p q * (p * q - sp_inv p q) ∧ 1 ≤ sp_cex p q ∧ sp_cex p q ≤ sp_f p q ∧ (sp_f p q * sp_inv p q - 1) / (p * q) ≤ sp_f p q ∧ 1 ≤ sp_f p q * sp_inv p q := by
  have hb := ma_big h
  have ei : sp_inv p q = sp_f p q ^ (sp_f p q - 1) % (p * q) := if_neg (by have := h.1.1; omega)
  have hl : sp_inv p q < p * q := by rw [ei]; exact Nat.mod_lt _ (by omega)
  have hu : ma_U (p * q) (sp_f p q) (sp_f p q) := by
    refine ma_unit h ?_ ?_
    · exact ma_mulne h.1 (ma_pm h.1) h.2.2.2.1
    · exact ma_mulne h.2.1 h.2.2.2.2 (ma_pm h.2.1)
  have h1 : sp_f p q * sp_inv p q % (p * q) = 1 := by rw [ei]; exact ma_inv (by omega) hu
  obtain ⟨h2, h3, h4, h5⟩ := ma_cex (by omega) h1 hl
  exact ⟨h1, hl, h2, h3, Nat.sub_le _ _, h4, h5⟩
/-- coprime to n, by both primes -/
theorem ma_gcd {p q a : Nat} (hp : ma_P p) (hq : ma_P q) : Nat.gcd (p * q) a = 1 ↔ a % p ≠ 0 ∧ a % q ≠ 0 := by
  constructor
  · intro h
    have hz := hp.1
    have hw := hq.1
    refine ⟨fun e => ?_, fun e => ?_⟩
    · have d : p ∣ Nat.gcd (p * q) a := Nat.dvd_gcd (Nat.dvd_mul_right p q) (Nat.dvd_of_mod_eq_zero e)
      rw [h] at d
      have := Nat.le_of_dvd (by omega) d
      omega
    · have d : q ∣ Nat.gcd (p * q) a := Nat.dvd_gcd (Nat.dvd_mul_left q p) (Nat.dvd_of_mod_eq_zero e)
      rw [h] at d
      have := Nat.le_of_dvd (by omega) d
      omega
  · intro h
    exact Nat.Coprime.mul_left (ma_cop hp h.1) (ma_cop hq h.2)
end
section
/-! words: all good words of the tables, one list for every method -/
def al_w : List Cond := lw_tbl.filter goodWord
theorem al_t {w : Cond} (i : Nat) (h : tables_1[i]? = some w) (g : goodWord w = true) : w ∈ al_w :=
  List.mem_filter.mpr ⟨List.mem_append_right _ (List.mem_of_getElem? h), g⟩
theorem al_p {w : Cond} (i : Nat) (h : (k2_sels lw_privs)[i]? = some w) (g : goodWord w = true) : w ∈ al_w :=
  List.mem_filter.mpr ⟨List.mem_append_left _ (List.mem_of_getElem? h), g⟩
theorem al_m {w0 w : Cond} (h : w ∈ al_w) : w ∈ w0 :: al_w := List.mem_cons_of_mem _ h
theorem al_g {w0 w : Cond} (h : w ∈ al_w) : w ∈ w0 :: al_w ∧ ((w.onTables && w.keeps) = true ∨ ∃ ty, w = .arrayClass ty) :=
  ⟨List.mem_cons_of_mem _ h, good_of_word (List.mem_filter.mp h).2⟩
theorem al_good {w0 w1 : Cond} (h : w1 ∈ al_w) : GoodIn (w0 :: al_w) (w1 :: al_w) := by
  intro w hw
  rcases List.mem_cons.mp hw with rfl | hw
  · exact al_g h
  · exact al_g hw
theorem al_V {w0 : Cond} {own C : String} {idx n : Nat} {y : MethodName} {cc : ByteArray} {ret : Option FieldType} (h0 : Cond.code y cc n ret ∈ al_w) (h1 : Cond.methodLink own idx y ∈ al_w) (h2 : Cond.instanceMethod y ∈ al_w) (h3 : Cond.selects C y y ∈ al_w) (h4 : Cond.initialized C ∈ al_w) :
    GoodIn (w0 :: al_w) (wsV own idx C y (Cond.code y cc n ret :: al_w)) := by
  intro w hw
  unfold wsV at hw
  rcases List.mem_append.mp hw with hw | hw
  · simp only [List.mem_cons, List.not_mem_nil, or_false] at hw
    rcases hw with rfl | rfl | rfl | rfl
    · exact al_g h1
    · exact al_g h2
    · exact al_g h3
    · exact al_g h4
  · exact al_good h0 w hw
theorem al_S {w0 : Cond} {own : String} {idx n : Nat} {y : MethodName} {cc : ByteArray} {ret : Option FieldType} (h0 : Cond.code y cc n ret ∈ al_w) (h1 : Cond.methodLink own idx y ∈ al_w) (h2 : Cond.static y ∈ al_w) (h4 : Cond.initialized y.cls ∈ al_w) :
    GoodIn (w0 :: al_w) (va_wsS own idx y (Cond.code y cc n ret :: al_w)) := by
  intro w hw
  unfold va_wsS at hw
  rcases List.mem_append.mp hw with hw | hw
  · simp only [List.mem_cons, List.not_mem_nil, or_false] at hw
    rcases hw with rfl | rfl | rfl
    · exact al_g h1
    · exact al_g h2
    · exact al_g h4
  · exact al_good h0 w hw
/-! booleans, ballots -/
def bI (b : Bool) : Int32 := if b = true then 1 else 0
theorem bI_0 {b : Bool} : bI b = 0 ↔ b = false := by cases b <;> decide
theorem bI_t {b : Bool} (h : b = true) : bI b = nI 1 := by subst h; decide
theorem bI_f {b : Bool} (h : b = false) : bI b = nI 0 := by subst h; decide
theorem nb_bI {b : Bool} : narrow .boolean (.int (bI b)) = .int (bI b) := by cases b <;> decide
def gu (g : Nat → Nat) (k c : Nat) : Nat → Nat := fun j => if j = k then c else g j
theorem gu_eq {g : Nat → Nat} {k c : Nat} : vp_updL (fun j => lN (g j)) k (lN c) = fun j => lN (gu g k c j) := by
  funext j
  unfold vp_updL gu
  split <;> rfl
theorem lN_ne0 {n : Nat} (h0 : 0 < n) (h : n < 2 ^ 63) : ¬ lN n = 0 := by
  intro q
  have a := pk_lT h
  rw [q, Int64.toInt_zero] at a
  omega
/-! a contract that changes nothing -/
abbrev qL (v : Int64) : Array Value → State → Outcome → State → Prop := va_Ql (fun (r : Int64) (_ : Unit) => r = v) (fun _ _ => True) (fun _ => False)
abbrev qI (v : Int32) : Array Value → State → Outcome → State → Prop := va_Qi (fun (r : Int32) (_ : Unit) => r = v) (fun _ _ => True) (fun _ => False)
section PU
variable {p : Program} {l : Launch} {e : Env} {R : Room} {s : State} {m : MethodId} {args : Array Value} {below : List Frame} {meth : Method} {c : Code} {H : Heap} {locs : List Loc} {cells slots : Nat} {Q : State → Prop}
variable {pc : Nat} {ls : Array Slot} {rest st0 : List Value} {a : Array Value} {A0 : Nat → Prop} {H0 : Heap} {cc : ByteArray}
theorem wk_i {x y : Int32} (h : x = y) (k : W p l e R s m args below meth c H locs cells slots Q (F0 m pc ls (.int y :: rest))) : W p l e R s m args below meth c H locs cells slots Q (F0 m pc ls (.int x :: rest)) := h ▸ k
theorem wk_l {x y : Int64} (h : x = y) (k : W p l e R s m args below meth c H locs cells slots Q (F0 m pc ls (.long y :: rest))) : W p l e R s m args below meth c H locs cells slots Q (F0 m pc ls (.long x :: rest)) := h ▸ k
theorem pu_kept {H H1 : Heap} (hk : ∀ q : Nat, q < H.size → ¬ (fun _ : Nat => False) q → H1[q]? = H[q]?) (D : va_G) (cl : List vw_C) (ws : va_W) (hP : va_P D cl ws H) : va_P D cl ws H1 :=
  hP.kept (fun k q hq => hk q.1 (hP k q hq).lt (fun h => h))
theorem pu_l {v : Int64} (hr : va_Run p l e R s m args below meth c H locs cells slots 0 0 (F0 m pc ls st0) rest (qL v a) (fun _ => False)) (hS : va_S A0 H0 H locs)
    (kk : ∀ (H1 : Heap) (locs1 : List Loc), (∀ (D : va_G) (cl : List vw_C) (ws : va_W), va_P D cl ws H → va_P D cl ws H1) → va_S A0 H0 H1 locs1 → W p l e R s m args below meth c H1 locs1 cells slots Q (F0 m (pc + 3) ls (.long v :: rest))) : W p l e R s m args below meth c H locs cells slots Q (F0 m pc ls st0) := by
  refine va_calll hr hS (fun q _ h => h.elim) (fun q h => h.elim) (fun r u t H1 locs1 ht hvm hw hB hz hk hS => ?_)
  subst hw
  exact kk H1 locs1 (pu_kept hk) hS
theorem pu_i {v : Int32} (hr : va_Run p l e R s m args below meth c H locs cells slots 0 0 (F0 m pc ls st0) rest (qI v a) (fun _ => False)) (hS : va_S A0 H0 H locs)
    (kk : ∀ (H1 : Heap) (locs1 : List Loc), (∀ (D : va_G) (cl : List vw_C) (ws : va_W), va_P D cl ws H → va_P D cl ws H1) → va_S A0 H0 H1 locs1 → W p l e R s m args below meth c H1 locs1 cells slots Q (F0 m (pc + 3) ls (.int v :: rest))) : W p l e R s m args below meth c H locs cells slots Q (F0 m pc ls st0) := by
  refine va_calli hr hS (fun q _ h => h.elim) (fun q h => h.elim) (fun r u t H1 locs1 ht hvm hw hB hz hk hS => ?_)
  subst hw
  exact kk H1 locs1 (pu_kept hk) hS
theorem pu_lret {v v' : Int64} (hx : p.tables.exec = Jvm.exec) (hb : c.code = cc) (hr : meth.sig.returnType = some .long) (hS : va_S (fun _ => False) s.heap H locs) (hdg : decode cc pc = .ok (.lreturn, 1)) (hlocks : meth.locks = false) (h : v = v') :
    W p l e R s m args below meth c H locs 0 0 (MQ below (qL v') args s 0 0 (fun _ => False)) (F0 m pc ls [.long v]) := by
  subst h
  exact W.lret hx hb hr (fun t ht hW => ⟨⟨v, (), rfl, rfl, trivial⟩, hS.F ht⟩) hS.2.2 hdg hlocks
theorem pu_iret {v v' : Int32} (hx : p.tables.exec = Jvm.exec) (hb : c.code = cc) (hr : meth.sig.returnType = some .int) (hS : va_S (fun _ => False) s.heap H locs) (hdg : decode cc pc = .ok (.ireturn, 1)) (hlocks : meth.locks = false) (h : v = v') :
    W p l e R s m args below meth c H locs 0 0 (MQ below (qI v') args s 0 0 (fun _ => False)) (F0 m pc ls [.int v]) := by
  subst h
  exact W.iret hx hb hr (fun t ht hW => ⟨⟨v, (), rfl, rfl, trivial⟩, hS.F ht⟩) hS.2.2 hdg hlocks
theorem pu_zret {v v' : Int32} (hx : p.tables.exec = Jvm.exec) (hb : c.code = cc) (hr : meth.sig.returnType = some .boolean) (hn : narrow .boolean (.int v) = .int v) (hS : va_S (fun _ => False) s.heap H locs) (hdg : decode cc pc = .ok (.ireturn, 1)) (hlocks : meth.locks = false) (h : v = v') :
    W p l e R s m args below meth c H locs 0 0 (MQ below (qI v') args s 0 0 (fun _ => False)) (F0 m pc ls [.int v]) := by
  subst h
  exact W.zret hx hb hr hn (fun t ht hW => ⟨⟨v, (), rfl, rfl, trivial⟩, hS.F ht⟩) hS.2.2 hdg hlocks
theorem pu_preS {As : List Value} : PreS s H (va_Pc As (fun _ => True)) As := ⟨fun _ _ _ _ q => q, fun _ _ _ => ⟨rfl, trivial⟩⟩
theorem pu_preV {D : va_G} {cl : List vw_C} {tys : List (ClassId × FieldType)} {ws : va_W} {b q0 ci : Nat} {fs As : List Value} {C : String} {T : u_T} {N : Nat} (hK : va_K D cl tys s) (hP : va_P D cl ws H) (hc : cl[ci]? = some (C, T, N)) (he : ws[q0]? = some (b, .inr (ci, fs))) :
    PreV s H C b (va_Pc (.ref b :: As) (fun U => va_P D cl ws U.heap ∧ va_K D cl tys U)) As :=
  ⟨fun a U g mk q => ⟨q.1, q.2.1, va_K.moved (u := U) (U := U.calling g mk a) (Vm.Alike.refl U.vm) q.2.2⟩, va_recv hK hP hc he, fun U hU hW => ⟨rfl, by rw [hU]; exact hP, va_K.moved hW.alike hK⟩⟩
end PU
theorem ii_1 (n : Nat) : nI n + Int32.ofInt 1 = nI (n + 1) := by rw [show Int32.ofInt 1 = nI 1 from by decide, nI_add]
theorem ii_5 (n : Nat) : nI n + Int32.ofInt 5 = nI (n + 5) := by rw [show Int32.ofInt 5 = nI 5 from by decide, nI_add]
end
section
/-! ===== lN n to 2^64: shifts, and, or, masks, one bit ===== -/
theorem wb_tb (n : Nat) : (lN n).toBitVec = BitVec.ofNat 64 n := rfl
theorem wb_inj {a b : Int64} (h : a.toBitVec = b.toBitVec) : a = b := Int64.toBitVec_inj.mp h
theorem wb_tn {n : Nat} (h : n < 2 ^ 64) : (lN n).toBitVec.toNat = n := by rw [wb_tb, BitVec.toNat_ofNat, Nat.mod_eq_of_lt h]
theorem wb_of (x : Int64) : ∃ n, n < 2 ^ 64 ∧ x = lN n := ⟨x.toBitVec.toNat, x.toBitVec.isLt, wb_inj (by rw [wb_tb]; simp)⟩
theorem wb_of32 (x : Int32) : ∃ n, n < 2 ^ 32 ∧ x = nI n := ⟨x.toBitVec.toNat, x.toBitVec.isLt, Int32.toBitVec_inj.mp (by show _ = BitVec.ofNat 32 _; simp)⟩
theorem wb_c : ∀ k, k < 64 → ((nI k).toInt64 &&& 63) = lN k := by decide +kernel
theorem wb_cu : ∀ k, k < 64 → ((nI k).toInt64.toUInt64 &&& Int64.toUInt64 63) = UInt64.ofNat k := by decide +kernel
theorem wb_sm : ∀ k, k < 64 → (BitVec.ofNat 64 k).smod 64 = BitVec.ofNat 64 k := by decide +kernel
theorem wb_pw {a b : Nat} (h : a ≤ b) : 2 ^ b = 2 ^ a * 2 ^ (b - a) := by rw [← Nat.pow_add]; congr 1; omega
theorem wb_lt2 {a b : Nat} (h : a < b) : 2 ^ a < 2 ^ b := Nat.pow_lt_pow_right (by decide) h
theorem wb_mod (n : Nat) : lN n = lN (n % 2 ^ 64) := wb_inj (by rw [wb_tb, wb_tb]; apply BitVec.eq_of_toNat_eq; rw [BitVec.toNat_ofNat, BitVec.toNat_ofNat, Nat.mod_mod])
theorem wb_shr {n k : Nat} (hn : n < 2 ^ 64) (hk : k < 64) : ((lN n).toUInt64 >>> ((nI k).toInt64.toUInt64 &&& Int64.toUInt64 63)).toInt64 = lN (n / 2 ^ k) := by
  rw [wb_cu k hk]
  apply wb_inj
  apply BitVec.eq_of_toNat_eq
  show ((lN n).toUInt64 >>> UInt64.ofNat k).toNat = (BitVec.ofNat 64 _).toNat
  have h1 : (UInt64.ofNat k).toNat = k := by
    show (BitVec.ofNat 64 k).toNat = k
    rw [BitVec.toNat_ofNat, Nat.mod_eq_of_lt (by omega)]
  have h2 : (lN n).toUInt64.toNat = n := wb_tn hn
  rw [UInt64.toNat_shiftRight, h1, h2, Nat.mod_eq_of_lt hk, Nat.shiftRight_eq_div_pow, BitVec.toNat_ofNat, Nat.mod_eq_of_lt (Nat.lt_of_le_of_lt (Nat.div_le_self _ _) hn)]
theorem wb_shl (n : Nat) {k : Nat} (hk : k < 64) : lN n <<< ((nI k).toInt64 &&& 63) = lN (n * 2 ^ k) := by
  rw [wb_c k hk]
  apply wb_inj
  rw [Int64.toBitVec_shiftLeft, wb_tb, wb_tb, wb_tb, wb_sm k hk]
  apply BitVec.eq_of_toNat_eq
  rw [BitVec.shiftLeft_eq', BitVec.toNat_shiftLeft, BitVec.toNat_ofNat, BitVec.toNat_ofNat, BitVec.toNat_ofNat, Nat.mod_eq_of_lt (show k < 2 ^ 64 by omega), Nat.shiftLeft_eq, Nat.mul_mod, Nat.mod_mod, ← Nat.mul_mod]
theorem wb_and {a b : Nat} (ha : a < 2 ^ 64) (hb : b < 2 ^ 64) : lN a &&& lN b = lN (a &&& b) := by
  apply wb_inj
  rw [Int64.toBitVec_and, wb_tb, wb_tb, wb_tb]
  apply BitVec.eq_of_toNat_eq
  rw [BitVec.toNat_and, BitVec.toNat_ofNat, BitVec.toNat_ofNat, BitVec.toNat_ofNat, Nat.mod_eq_of_lt ha, Nat.mod_eq_of_lt hb, Nat.mod_eq_of_lt (Nat.and_lt_two_pow _ hb)]
theorem wb_or {a b : Nat} (ha : a < 2 ^ 64) (hb : b < 2 ^ 64) : lN a ||| lN b = lN (a ||| b) := by
  apply wb_inj
  rw [Int64.toBitVec_or, wb_tb, wb_tb, wb_tb]
  apply BitVec.eq_of_toNat_eq
  rw [BitVec.toNat_or, BitVec.toNat_ofNat, BitVec.toNat_ofNat, BitVec.toNat_ofNat, Nat.mod_eq_of_lt ha, Nat.mod_eq_of_lt hb, Nat.mod_eq_of_lt (Nat.or_lt_two_pow ha hb)]
theorem wb_mask {n k : Nat} (hn : n < 2 ^ 64) (hk : k < 64) : lN n &&& lN (2 ^ k - 1) = lN (n % 2 ^ k) := by
  rw [wb_and hn (by have := wb_lt2 hk; omega), Nat.and_two_pow_sub_one_eq_mod]
theorem wb_a1 {n : Nat} (hn : n < 2 ^ 64) : lN n &&& 1 = lN (n % 2) := wb_mask (k := 1) hn (by decide)
theorem wb_bit {n k : Nat} (hn : n < 2 ^ 64) (hk : k < 64) : ((lN n).toUInt64 >>> ((nI k).toInt64.toUInt64 &&& Int64.toUInt64 63)).toInt64 &&& 1 = lN (n / 2 ^ k % 2) := by
  rw [wb_shr hn hk, wb_a1 (Nat.lt_of_le_of_lt (Nat.div_le_self _ _) hn)]
theorem wb_xor {q k : Nat} (hk : k < 63) (h : 2 ^ k ≤ q) (h2 : q < 2 ^ (k + 1)) : lN q ^^^ lN (2 ^ k) = lN (q - 2 ^ k) := by
  obtain ⟨r, rfl⟩ : ∃ r, q = 2 ^ k + r := ⟨q - 2 ^ k, by omega⟩
  have hr : r < 2 ^ k := by rw [Nat.pow_succ] at h2; omega
  have hx : (2 ^ k + r) ^^^ 2 ^ k = r := by
    apply Nat.eq_of_testBit_eq
    intro i
    rw [Nat.testBit_xor, Nat.testBit_two_pow]
    rcases Nat.lt_trichotomy i k with h | h | h
    · rw [Nat.testBit_two_pow_add_gt h]
      simp [show ¬ k = i by omega]
    · subst h
      rw [Nat.testBit_two_pow_add_eq]
      simp
    · have a1 : 2 ^ (k + 1) ≤ 2 ^ i := Nat.pow_le_pow_right (by decide) h
      rw [Nat.testBit_lt_two_pow (show 2 ^ k + r < 2 ^ i by omega), Nat.testBit_lt_two_pow (show r < 2 ^ i by omega)]
      simp [show ¬ k = i by omega]
  have b1 := wb_lt2 (show k + 1 < 64 by omega)
  have b2 := wb_lt2 (show k < 64 by omega)
  apply wb_inj
  rw [Int64.toBitVec_xor, wb_tb, wb_tb, wb_tb]
  apply BitVec.eq_of_toNat_eq
  rw [BitVec.toNat_xor, BitVec.toNat_ofNat, BitVec.toNat_ofNat, BitVec.toNat_ofNat, Nat.mod_eq_of_lt (by omega : 2 ^ k + r < 2 ^ 64), Nat.mod_eq_of_lt b2, hx, Nat.add_sub_cancel_left, Nat.mod_eq_of_lt (by omega)]
/-! ===== lN to 2^62 under >> and >>> ===== -/
theorem pf_lI {a : Nat} (h : a < 2 ^ 63) : (lN a).toInt = (a : Int) := lg_ofNat_toInt h
theorem pf_shr {a d : Nat} {D : Int64} (hD : (D.toBitVec.smod 64).toNat = d) (h : a < 2 ^ 62) : lN a >>> D = lN (a / 2 ^ d) := by
  have hd : a / 2 ^ d ≤ a := Nat.div_le_self _ _
  apply Int64.toInt_inj.mp
  have e : (lN a >>> D).toInt = (lN a).toInt >>> d := by
    rw [← hD]
    exact BitVec.toInt_sshiftRight ..
  rw [e, Int.shiftRight_eq_div_pow, pf_lI (by omega), pf_lI (by omega)]
  rfl
theorem pf_ushr {a d : Nat} {D : UInt64} (hD : D.toNat % 64 = d) (h : a < 2 ^ 62) : ((lN a).toUInt64 >>> D).toInt64 = lN (a / 2 ^ d) := by
  have hd : a / 2 ^ d ≤ a := Nat.div_le_self _ _
  have e : (lN a).toUInt64 >>> D = UInt64.ofNat (a / 2 ^ d) := UInt64.toNat_inj.mp (by
    rw [UInt64.toNat_shiftRight, hD, Nat.shiftRight_eq_div_pow, UInt64.toNat_ofNat']
    show (UInt64.ofNat a).toNat / 2 ^ d = _
    rw [UInt64.toNat_ofNat', Nat.mod_eq_of_lt (by omega), Nat.mod_eq_of_lt (by omega)])
  rw [e]
  rfl
theorem pf_andw (x : Int64) : ∃ m, m < 2 ^ 32 ∧ x &&& 4294967295 = lN m := ⟨x.toBitVec.toNat % 2 ^ 32, Nat.mod_lt _ (by decide), Int64.toBitVec_inj.mp (BitVec.eq_of_toNat_eq (by
  show (x.toBitVec &&& 4294967295#64).toNat = (BitVec.ofNat 64 (x.toBitVec.toNat % 2 ^ 32)).toNat
  rw [BitVec.toNat_and, show (4294967295#64).toNat = 2 ^ 32 - 1 from by decide, Nat.and_two_pow_sub_one_eq_mod, BitVec.toNat_ofNat]
  omega))⟩
/-! square and multiply -/
theorem rs_lt {x y M : Nat} (hx : x < M) (hy : y < M) (hM : M ≤ 2750058481) : x * y < 2 ^ 63 := by
  have : x * y ≤ 2750058480 * 2750058480 := Nat.mul_le_mul (by omega) (by omega)
  omega
theorem rs_odd {x y M k : Nat} (h : k % 2 = 1) : (x * y % M) * (y * y % M) ^ (k / 2) % M = x * y ^ k % M := by
  have e : y ^ k = y * (y * y) ^ (k / 2) := by
    have h1 : k = 1 + 2 * (k / 2) := by omega
    conv => lhs; rw [h1]
    rw [Nat.pow_add, Nat.pow_one, Nat.pow_mul, Nat.pow_two]
  rw [Nat.mul_mod, Nat.mod_mod, ← Nat.pow_mod, ← Nat.mul_mod, e, Nat.mul_assoc]
theorem rs_even {x y M k : Nat} (h : k % 2 = 0) : x * (y * y % M) ^ (k / 2) % M = x * y ^ k % M := by
  have e : y ^ k = (y * y) ^ (k / 2) := by
    have h1 : k = 2 * (k / 2) := by omega
    conv => lhs; rw [h1]
    rw [Nat.pow_mul, Nat.pow_two]
  rw [Nat.mul_mod, ← Nat.pow_mod, ← Nat.mul_mod, e]
theorem rs_half (e i : Nat) : e / 2 ^ (i + 1) = e / 2 ^ i / 2 := by
  rw [Nat.pow_succ, Nat.div_div_eq_div_mul]
theorem rs_end {b e M i x y : Nat} (hi : i = 32) (he : e < 2 ^ 32) (hx : x < M) (hq : x * y ^ (e / 2 ^ i) % M = b ^ e % M) : x = b ^ e % M := by
  subst hi
  rw [Nat.div_eq_of_lt he, Nat.pow_zero, Nat.mul_one, Nat.mod_eq_of_lt hx] at hq
  exact hq
theorem rs_bit {e i : Nat} (he : e < 2 ^ 62) (hi : i < 64) : lN e >>> ((nI i).toInt64 &&& 63) = lN (e / 2 ^ i) := by
  rw [wb_c i hi]
  refine pf_shr ?_ he
  rw [wb_tb]
  show ((BitVec.ofNat 64 i).smod 64).toNat = i
  rw [wb_sm i hi, BitVec.toNat_ofNat]
  exact Nat.mod_eq_of_lt (by omega)
/-! the document's numbers -/
def sp_seal (p q m r : Nat) : Nat := (1 + m * (p * q)) * (r ^ (p * q) % (p * q * (p * q))) % (p * q * (p * q))
def sp_msg (p q c : Nat) : Nat := (c ^ sp_f p q % (p * q * (p * q)) - 1) / (p * q) * sp_inv p q % (p * q)
def sp_coin (p q c : Nat) : Nat := (c % (p * q)) ^ sp_cex p q % (p * q)
def sp_prod (g : Nat → Nat) : Nat → Nat
  | 0 => 1
  | k + 1 => sp_prod g k * (if g k = 0 then 1 else g k)
def sp_down (g : Nat → Nat) : Nat → Nat
  | 0 => 1
  | k + 1 => sp_down g k * (if g (29 - k) = 0 then 1 else g (29 - k))
def sp_cnt (g : Nat → Nat) : Nat → Nat
  | 0 => 0
  | k + 1 => sp_cnt g k + (if g k = 0 then 0 else 1)
/-- who may be a message, a coin, a seal: of any long -/
def sp_isM (p q : Nat) (x : Int64) : Bool := decide (0 ≤ x.toInt) && decide (x.toInt < (p * q : Nat))
def sp_un (p q : Nat) (k : Nat) : Bool := decide (k % p ≠ 0) && decide (k % q ≠ 0)
def sp_isC (p q : Nat) (x : Int64) : Bool := decide (1 ≤ x.toInt) && (decide (x.toInt < (p * q : Nat)) && sp_un p q x.toInt.toNat)
def sp_isS (p q : Nat) (x : Int64) : Bool := decide (1 ≤ x.toInt) && (decide (x.toInt < (p * q * (p * q) : Nat)) && sp_un p q x.toInt.toNat)
def sp_cand (cx : Nat) (x : Int32) : Bool := decide (0 ≤ x.toInt) && decide (x.toInt < cx)
/-- a prime of a key, of any int -/
def sp_isP (x : Int32) : Bool := decide (3 ≤ x.toInt) && (decide (x.toInt ≤ 229) && ma_isP x.toInt.toNat)
def sp_dv (x : Nat) : Nat → Nat
  | 0 => 0
  | d + 1 => sp_dv x d + (if x % (d + 1) = 0 then 1 else 0)
set_option maxRecDepth 100000 in
theorem sp_dvt : (List.range 230).all (fun x => decide (x < 3) || (decide (sp_dv x x = 2) == ma_isP x)) = true := by decide +kernel
theorem sp_dvp {x : Nat} (h : 3 ≤ x) (h2 : x ≤ 229) : (decide (sp_dv x x = 2)) = ma_isP x := by
  have h1 := List.all_eq_true.mp sp_dvt x (List.mem_range.mpr (by omega))
  rw [Bool.or_eq_true] at h1
  rcases h1 with h1 | h1
  · exact absurd (of_decide_eq_true h1) (by omega)
  · exact eq_of_beq h1
end
section
/-! any int, any long, against a number -/
theorem lx_lt {x : Int64} {n : Nat} (h : n < 2 ^ 63) : x < lN n ↔ x.toInt < (n : Int) := by rw [Int64.lt_iff_toInt_lt, pk_lT h]
theorem lx_le {x : Int64} {n : Nat} (h : n < 2 ^ 63) : lN n ≤ x ↔ (n : Int) ≤ x.toInt := by rw [Int64.le_iff_toInt_le, pk_lT h]
theorem lx_gt {x : Int64} {n : Nat} (h : n < 2 ^ 63) : lN n < x ↔ (n : Int) < x.toInt := by rw [Int64.lt_iff_toInt_lt, pk_lT h]
theorem lx_ge {x : Int64} {n : Nat} (h : n < 2 ^ 63) : x ≤ lN n ↔ x.toInt ≤ (n : Int) := by rw [Int64.le_iff_toInt_le, pk_lT h]
theorem lx_eq {x : Int64} {n : Nat} (h : n < 2 ^ 63) : x = lN n ↔ x.toInt = (n : Int) := by rw [← Int64.toInt_inj, pk_lT h]
theorem ix_lt {x : Int32} {n : Nat} (h : n < 2 ^ 31) : x < nI n ↔ x.toInt < (n : Int) := by rw [Int32.lt_iff_toInt_lt, nI_toInt h]
theorem ix_le {x : Int32} {n : Nat} (h : n < 2 ^ 31) : nI n ≤ x ↔ (n : Int) ≤ x.toInt := by rw [Int32.le_iff_toInt_le, nI_toInt h]
theorem ix_gt {x : Int32} {n : Nat} (h : n < 2 ^ 31) : nI n < x ↔ (n : Int) < x.toInt := by rw [Int32.lt_iff_toInt_lt, nI_toInt h]
theorem ix_ge {x : Int32} {n : Nat} (h : n < 2 ^ 31) : x ≤ nI n ↔ x.toInt ≤ (n : Int) := by rw [Int32.le_iff_toInt_le, nI_toInt h]
theorem ix_eq {x : Int32} {n : Nat} (h : n < 2 ^ 31) : x = nI n ↔ x.toInt = (n : Int) := by rw [← Int32.toInt_inj, nI_toInt h]
/-- a long that isn't below 0, an int that isn't below 0, by its number -/
theorem lx_of {x : Int64} (h : 0 ≤ x.toInt) : ∃ k : Nat, k < 2 ^ 63 ∧ x = lN k := pk_lOf (by rw [Int64.lt_iff_toInt_lt, Int64.toInt_zero]; omega)
theorem ix_of {x : Int32} (h : 0 ≤ x.toInt) : ∃ k : Nat, k < 2 ^ 31 ∧ x = nI k := nI_of (by rw [Int32.lt_iff_toInt_lt, Int32.toInt_zero]; omega)
theorem lx_nat {k : Nat} (h : k < 2 ^ 63) : (lN k).toInt.toNat = k := by rw [pk_lT h]; rfl
theorem ix_nat {k : Nat} (h : k < 2 ^ 31) : (nI k).toInt.toNat = k := by rw [nI_toInt h]; rfl
/-! the answers -/
abbrev sq_ (p q : Nat) : Nat := p * q * (p * q)
def an_seal (p q : Nat) (m r : Int64) : Int64 := if p = 0 then -1 else if (sp_isM p q m && sp_isC p q r) = true then lN (sp_seal p q m.toInt.toNat r.toInt.toNat) else -4
def an_msg (p q : Nat) (c : Int64) : Int64 := if p = 0 then -1 else if sp_isS p q c = true then lN (sp_msg p q c.toInt.toNat) else -4
def an_coin (p q : Nat) (c : Int64) : Int64 := if p = 0 then -1 else if sp_isS p q c = true then lN (sp_coin p q c.toInt.toNat) else -4
def an_join (p q : Nat) (c d : Int64) : Int64 := if p = 0 then -1 else if (sp_isS p q c && sp_isS p q d) = true then lN (c.toInt.toNat * d.toInt.toNat % sq_ p q) else -4
def an_power (p q : Nat) (c : Int64) (k : Int32) : Int64 := if p = 0 then -1 else if sp_isS p q c = true then lN (c.toInt.toNat ^ (k.toInt % ((p * q * sp_f p q : Nat) : Int)).toNat % sq_ p q) else -4
def an_choice (p q cx rd : Nat) (i : Int32) (r : Int64) : Int64 := if cx = 0 then -2 else if (sp_cand cx i && sp_isC p q r) = true then lN (sp_seal p q (rd ^ i.toInt.toNat) r.toInt.toNat) else -4
def an_ballot (cx : Nat) (g : Nat → Nat) (v : Int32) : Int64 := if cx = 0 then -2 else if sp_cand 30 v = true then (if g v.toInt.toNat = 0 then -6 else lN (g v.toInt.toNat)) else -4
def an_ballots (cx : Nat) (g : Nat → Nat) : Int32 := if cx = 0 then -2 else nI (sp_cnt g 30)
def an_sum (p q cx : Nat) (g : Nat → Nat) : Int64 := if cx = 0 then -2 else lN (sp_prod g 30 % sq_ p q)
def an_close (p q cx cl : Nat) (g : Nat → Nat) : Int64 := if cx = 0 then -2 else if cl = 1 then -3 else lN (sp_msg p q (sp_prod g 30 % sq_ p q))
def an_votes (p q cx rd cl : Nat) (g : Nat → Nat) (i : Int32) : Int32 := if cx = 0 then -2 else if sp_cand cx i = true then (if cl = 0 then -6 else nI (sp_msg p q (sp_prod g 30 % sq_ p q) / rd ^ i.toInt.toNat % rd)) else -4
def an_witness (p q cx cl : Nat) (g : Nat → Nat) : Int64 := if cx = 0 then -2 else if cl = 0 then -6 else lN (sp_coin p q (sp_prod g 30 % sq_ p q))
def an_check (p q cx : Nat) (g : Nat → Nat) (m r : Int64) : Bool := decide (cx ≠ 0) && (sp_isM p q m && (sp_isC p q r && decide (sp_seal p q m.toInt.toNat r.toInt.toNat = sp_prod g 30 % sq_ p q)))
/-- a ballot that is taken: 0 not at all, 1 the first one, 2 again -/
def sp_cast (p q rd : Nat) (g : Nat → Nat) (v : Int32) (c : Int64) : Nat := if (sp_cand 30 v && sp_isS p q c) = true then (if g v.toInt.toNat = 0 then (if rd - 1 ≤ sp_cnt g 30 then 3 else 1) else 2) else 0
def an_cast (p q cx rd cl : Nat) (g : Nat → Nat) (v : Int32) (c : Int64) : Int32 := if cx = 0 then -2 else if cl = 1 then -3 else if sp_cast p q rd g v c = 0 then -4 else if sp_cast p q rd g v c = 3 then -5 else if sp_cast p q rd g v c = 1 then 1 else 0
def nx_cast (p q cx rd cl : Nat) (g : Nat → Nat) (v : Int32) (c : Int64) : Nat → Nat := if cx = 0 then g else if cl = 1 then g else if sp_cast p q rd g v c = 0 then g else if sp_cast p q rd g v c = 3 then g else gu g v.toInt.toNat c.toInt.toNat
def an_withdraw (cx cl : Nat) (g : Nat → Nat) (v : Int32) : Int64 := if cx = 0 then -2 else if cl = 1 then -3 else if sp_cand 30 v = true then (if g v.toInt.toNat = 0 then -6 else lN (g v.toInt.toNat)) else -4
def nx_withdraw (cx cl : Nat) (g : Nat → Nat) (v : Int32) : Nat → Nat := if cx = 0 then g else if cl = 1 then g else if sp_cand 30 v = true then gu g v.toInt.toNat 0 else g
/-- a key, of any two ints -/
def sp_isK (a b : Int32) : Bool := sp_isP a && (sp_isP b && (decide (a.toInt ≠ b.toInt) && (decide ((b.toInt.toNat - 1) % a.toInt.toNat ≠ 0) && decide ((a.toInt.toNat - 1) % b.toInt.toNat ≠ 0))))
def an_key (a b : Int32) : Int32 := if sp_isK a b = true then nI (a.toInt.toNat * b.toInt.toNat) else -4
def sp_box (p q : Nat) (a b : Int32) : Bool := decide (1 ≤ a.toInt) && (decide (a.toInt ≤ 6) && (decide (2 ≤ b.toInt) && decide (b.toInt.toNat ^ a.toInt.toNat ≤ p * q)))
def sp_open (p q : Nat) (a b : Int32) : Bool := decide (p ≠ 0) && sp_box p q a b
/-! what they are under what is known -/
theorem sp_isM_of {p q : Nat} {x : Int64} (h : sp_isM p q x = true) : ∃ k : Nat, k < p * q ∧ k < 2 ^ 63 ∧ x = lN k := by
  simp only [sp_isM, Bool.and_eq_true, decide_eq_true_eq] at h
  obtain ⟨k, hk, rfl⟩ := lx_of h.1
  rw [pk_lT hk] at h
  exact ⟨k, by omega, hk, rfl⟩
theorem sp_isC_of {p q : Nat} {x : Int64} (h : sp_isC p q x = true) : ∃ k : Nat, 1 ≤ k ∧ k < p * q ∧ k < 2 ^ 63 ∧ k % p ≠ 0 ∧ k % q ≠ 0 ∧ x = lN k := by
  simp only [sp_isC, sp_un, Bool.and_eq_true, decide_eq_true_eq] at h
  obtain ⟨k, hk, rfl⟩ := lx_of (x := x) (by omega)
  rw [lx_nat hk, pk_lT hk] at h
  exact ⟨k, by omega, by omega, hk, h.2.2.1, h.2.2.2, rfl⟩
theorem sp_isS_of {p q : Nat} {x : Int64} (h : sp_isS p q x = true) : ∃ k : Nat, 1 ≤ k ∧ k < p * q * (p * q) ∧ k < 2 ^ 63 ∧ k % p ≠ 0 ∧ k % q ≠ 0 ∧ x = lN k := by
  simp only [sp_isS, sp_un, Bool.and_eq_true, decide_eq_true_eq] at h
  obtain ⟨k, hk, rfl⟩ := lx_of (x := x) (by omega)
  rw [lx_nat hk, pk_lT hk] at h
  exact ⟨k, by omega, by omega, hk, h.2.2.1, h.2.2.2, rfl⟩
theorem sp_cand_of {cx : Nat} {x : Int32} (h : sp_cand cx x = true) : ∃ k : Nat, k < cx ∧ k < 2 ^ 31 ∧ x = nI k := by
  simp only [sp_cand, Bool.and_eq_true, decide_eq_true_eq] at h
  obtain ⟨k, hk, rfl⟩ := ix_of h.1
  rw [nI_toInt hk] at h
  exact ⟨k, by omega, hk, rfl⟩
theorem sp_isP_of {x : Int32} (h : sp_isP x = true) : ∃ k : Nat, ma_P k ∧ k < 2 ^ 31 ∧ x = nI k := by
  simp only [sp_isP, Bool.and_eq_true, decide_eq_true_eq] at h
  obtain ⟨k, hk, rfl⟩ := ix_of (x := x) (by omega)
  rw [ix_nat hk, nI_toInt hk] at h
  refine ⟨k, ⟨by omega, by omega, fun d h2 h3 => ?_⟩, hk, rfl⟩
  have h4 := h.2.2
  simp only [ma_isP, Bool.and_eq_true, List.all_eq_true, List.mem_range, Bool.or_eq_true, decide_eq_true_eq] at h4
  rcases h4.2 d h3 with h5 | h5
  · omega
  · exact h5
theorem ip_n {n : Nat} (h3 : 3 ≤ n) (h : n ≤ 229) : sp_isP (nI n) = ma_isP n := by
  have hn : n < 2 ^ 31 := by omega
  unfold sp_isP
  rw [ix_nat hn, nI_toInt hn, decide_eq_true (by omega), decide_eq_true (by omega), Bool.true_and, Bool.true_and]
theorem ip_f {n d : Nat} (h2 : 2 ≤ d) (hd : d < n) (h : n % d = 0) : ma_isP n = false := by
  rw [Bool.eq_false_iff]
  intro ht
  simp only [ma_isP, Bool.and_eq_true, List.all_eq_true, List.mem_range, Bool.or_eq_true, decide_eq_true_eq] at ht
  rcases ht.2 d hd with h5 | h5
  · omega
  · exact h5 h
theorem dv_step {n d : Nat} (h : 1 ≤ d) : sp_dv n d = sp_dv n (d - 1) + (if n % d = 0 then 1 else 0) := by
  obtain ⟨e, rfl⟩ : ∃ e, d = e + 1 := ⟨d - 1, by omega⟩
  rfl
end
section
/-! products and counts of ballots -/
theorem fa_down (g : Nat → Nat) : ∀ k, k ≤ 30 → sp_prod g (30 - k) * sp_down g k = sp_prod g 30 := by
  intro k
  induction k with
  | zero => intro _; simp [sp_down]
  | succ k ih =>
    intro h
    have e := ih (by omega)
    have e1 : 30 - k = (29 - k) + 1 := by omega
    have e2 : 30 - (k + 1) = 29 - k := by omega
    rw [e1] at e
    rw [e2]
    simp only [sp_prod, sp_down] at e ⊢
    rw [← e]
    grind
theorem fa_down30 (g : Nat → Nat) : sp_down g 30 = sp_prod g 30 := by
  have h := fa_down g 30 (by omega)
  simp only [Nat.sub_self] at h
  rw [← h]
  simp [sp_prod]
theorem fa_prod {p : Nat} (hp : ma_P p) {g : Nat → Nat} : ∀ n, (∀ j, j < n → g j = 0 ∨ g j % p ≠ 0) → sp_prod g n % p ≠ 0 := by
  intro n
  induction n with
  | zero =>
    intro _
    have := hp.1
    show 1 % p ≠ 0
    rw [Nat.mod_eq_of_lt (by omega)]
    omega
  | succ n ih =>
    intro h
    refine ma_mulne hp (ih (fun j hj => h j (by omega))) ?_
    by_cases c : g n = 0
    · rw [if_pos c]
      have := hp.1
      rw [Nat.mod_eq_of_lt (by omega)]
      omega
    · rw [if_neg c]
      rcases h n (by omega) with h1 | h1
      · exact absurd h1 c
      · exact h1
theorem fa_cnt (g : Nat → Nat) (v c : Nat) : ∀ n, (n ≤ v → sp_cnt (gu g v c) n = sp_cnt g n) ∧ (v < n → sp_cnt (gu g v c) n + (if g v = 0 then 0 else 1) = sp_cnt g n + (if c = 0 then 0 else 1)) := by
  intro n
  induction n with
  | zero => exact ⟨fun _ => rfl, fun h => absurd h (by omega)⟩
  | succ n ih =>
    refine ⟨fun h => ?_, fun h => ?_⟩
    · have e : gu g v c n = g n := by unfold gu; rw [if_neg (by omega)]
      simp only [sp_cnt, e, ih.1 (by omega)]
    · by_cases hv : v = n
      · subst hv
        have e : gu g v c v = c := by unfold gu; rw [if_pos rfl]
        simp only [sp_cnt, e, ih.1 (Nat.le_refl _)]
        omega
      · have e : gu g v c n = g n := by unfold gu; rw [if_neg (by omega)]
        have h2 := ih.2 (by omega)
        simp only [sp_cnt, e]
        omega
theorem fa_cnt_le (g : Nat → Nat) : ∀ n, sp_cnt g n ≤ n := by
  intro n
  induction n with
  | zero => exact Nat.le_refl _
  | succ n ih =>
    simp only [sp_cnt]
    split <;> omega
theorem fa_cnt0 {g : Nat → Nat} : ∀ n, (∀ j, j < n → g j = 0) → sp_cnt g n = 0 := by
  intro n
  induction n with
  | zero => intro _; rfl
  | succ n ih =>
    intro h
    simp only [sp_cnt, ih (fun j hj => h j (by omega)), h n (by omega)]
    rfl
theorem fa_cntE {g g' : Nat → Nat} : ∀ n, (∀ j, j < n → g j = g' j) → sp_cnt g n = sp_cnt g' n := by
  intro n
  induction n with
  | zero => intro _; rfl
  | succ n ih =>
    intro h
    simp only [sp_cnt, ih (fun j hj => h j (by omega)), h n (by omega)]
/-! the product of a box's ballots is a seal -/
theorem fa_pdvd (p q : Nat) : p ∣ p * q * (p * q) := ⟨q * (p * q), by grind⟩
theorem fa_qdvd (p q : Nat) : q ∣ p * q * (p * q) := ⟨p * (p * q), by grind⟩
theorem fa_ndvd (n : Nat) : n ∣ n * n := ⟨n, rfl⟩
theorem fa_seal {p q : Nat} (hk : ma_K p q) {g : Nat → Nat} (h : ∀ j, j < 30 → g j = 0 ∨ (g j % p ≠ 0 ∧ g j % q ≠ 0)) :
    sp_prod g 30 % sq_ p q % p ≠ 0 ∧ sp_prod g 30 % sq_ p q % q ≠ 0 ∧ sp_prod g 30 % sq_ p q < sq_ p q := by
  have hb := ma_big hk
  refine ⟨?_, ?_, Nat.mod_lt _ (by show 0 < p * q * (p * q); omega)⟩
  · rw [Nat.mod_mod_of_dvd _ (fa_pdvd p q)]
    exact fa_prod hk.1 30 (fun j hj => (h j hj).imp (fun a => a) (fun a => a.1))
  · rw [Nat.mod_mod_of_dvd _ (fa_qdvd p q)]
    exact fa_prod hk.2.1 30 (fun j hj => (h j hj).imp (fun a => a) (fun a => a.2))
/-! the reference's own ways -/
theorem fa_sealing (p q m r : Nat) : (1 + p * q) ^ m % (p * q * (p * q)) * (r ^ (p * q) % (p * q * (p * q))) % (p * q * (p * q)) = sp_seal p q m r := by
  unfold sp_seal
  rw [ma_bin_mod, Nat.mul_mod, Nat.mod_mod, ← Nat.mul_mod]
theorem fa_coin {p q c u v : Nat} (hk : ma_K p q) (h1 : c % p ≠ 0) (h2 : c % q ≠ 0) (hu : p * q * u = 1 + sp_f p q * v) : (c % (p * q)) ^ u % (p * q) = sp_coin p q c := by
  have hb := ma_big hk
  obtain ⟨-, -, h3, -⟩ := ma_keyf hk
  exact ma_coin (by omega) (ma_U_mod (ma_unit hk h1 h2)) hu h3
theorem fa_msg {p q c u v : Nat} (hk : ma_K p q) (h1 : c % p ≠ 0) (h2 : c % q ≠ 0) (hu : p * q * u = 1 + sp_f p q * v) :
    sp_msg p q c < p * q ∧ 1 ≤ c ^ sp_f p q % (p * q * (p * q)) ∧ ∀ j, j < p * q → ((((c % (p * q)) ^ u % (p * q)) ^ (p * q) * (1 + p * q * j)) % (p * q * (p * q)) = c % (p * q * (p * q)) ↔ j = sp_msg p q c) := by
  have hb := ma_big hk
  obtain ⟨h3, -⟩ := ma_keyf hk
  exact ma_msg (by omega) (by omega) (ma_unit hk h1 h2) hu h3
/-- a step of the reference's search -/
theorem fa_step (R n m : Nat) : ((R * (1 + n * m)) % (n * n) + R % (n * n) * n % (n * n)) % (n * n) = (R * (1 + n * (m + 1))) % (n * n) := by
  have e : R * (1 + n * (m + 1)) = R * (1 + n * m) + R * n := by grind
  rw [e, Nat.mod_mul_mod, Nat.mod_add_mod, Nat.add_mod_mod]
theorem bx_lt {k i n : Nat} (h : k ^ i ≤ n) (hn : n ≤ 52441) (hk : k < 2 ^ 31) : k ^ (i + 1) < 2 ^ 63 := by
  rw [Nat.pow_succ]
  have : k ^ i * k ≤ 52441 * 2147483648 := Nat.mul_le_mul (by omega) (by omega)
  omega
theorem sl_lt {x n : Nat} (h : x < n) (hn : 1 < n) : 1 + x * n < n * n := by
  have h2 : (x + 1) * n ≤ n * n := Nat.mul_le_mul_right n h
  rw [Nat.add_mul] at h2
  omega
theorem ms_lt {a b : Nat} (h : a ≤ 2750058481) (hb : b ≤ 52441) : a * b < 2 ^ 63 := by
  have : a * b ≤ 2750058481 * 52441 := Nat.mul_le_mul h hb
  omega
theorem ug_t {p q k : Nat} (hk : ma_K p q) (h : Nat.gcd (p * q) k = 1) : sp_un p q k = true := by
  have := (ma_gcd hk.1 hk.2.1).mp h
  simp only [sp_un, Bool.and_eq_true, decide_eq_true_eq]
  exact this
theorem ug_f {p q k : Nat} (hk : ma_K p q) (h : ¬ Nat.gcd (p * q) k = 1) : sp_un p q k = false := by
  rw [Bool.eq_false_iff]
  intro c
  simp only [sp_un, Bool.and_eq_true, decide_eq_true_eq] at c
  exact h ((ma_gcd hk.1 hk.2.1).mpr c)
theorem fa_msg2 {p q c : Nat} (hk : ma_K p q) (h1 : c % p ≠ 0) (h2 : c % q ≠ 0) (hc : c < p * q * (p * q)) :
    sp_msg p q c < p * q ∧ 1 ≤ c ^ sp_f p q % (p * q * (p * q)) ∧ ∀ j, j < p * q → (sp_coin p q c ^ (p * q) * (1 + p * q * j) % (p * q * (p * q)) = c ↔ j = sp_msg p q c) := by
  obtain ⟨-, -, h3, -⟩ := ma_keyf hk
  have h := fa_msg hk h1 h2 h3
  rw [Nat.mod_eq_of_lt hc] at h
  exact h
theorem dn_0 {k : Nat} (hk : k ≤ 30) (h : (nI k - 1).toInt < ((0 : Nat) : Int)) : k = 0 := by
  rcases k with _ | j
  · rfl
  · rw [nI_pred, nI_toInt (by omega)] at h
    omega
theorem dn_s {k : Nat} (h : ¬ (nI k - 1).toInt < ((0 : Nat) : Int)) : ∃ j, k = j + 1 := by
  rcases k with _ | j
  · exact absurd (by decide) h
  · exact ⟨j, rfl⟩
theorem dn_m (j : Nat) : nI j + Int32.ofInt (-1) = nI j - 1 := by
  rw [Int32.sub_eq_add_neg]
  rfl
theorem dn_step1 {g : Nat → Nat} {j x M : Nat} (hj : j + 1 ≤ 30) (hc : ¬ g j = 0) (h : x = sp_down g (30 - (j + 1)) % M) : x * g j % M = sp_down g (30 - j) % M := by
  have e1 : 30 - j = (30 - (j + 1)) + 1 := by omega
  have e2 : 29 - (30 - (j + 1)) = j := by omega
  rw [e1]
  simp only [sp_down, e2, if_neg hc]
  rw [h, Nat.mod_mul_mod]
theorem dn_step0 {g : Nat → Nat} {j x M : Nat} (hj : j + 1 ≤ 30) (hc : g j = 0) (h : x = sp_down g (30 - (j + 1)) % M) : x = sp_down g (30 - j) % M := by
  have e1 : 30 - j = (30 - (j + 1)) + 1 := by omega
  have e2 : 29 - (30 - (j + 1)) = j := by omega
  rw [e1]
  simp only [sp_down, e2, if_pos hc, Nat.mul_one]
  exact h
theorem un_step (n u f : Nat) : (n * u % f + n) % f = n * (u + 1) % f := by
  rw [Nat.mod_add_mod, Nat.mul_add, Nat.mul_one]
theorem un_cex {p q : Nat} (hk : ma_K p q) : p * q * sp_cex p q % sp_f p q = 1 := by
  have hb := ma_big hk
  obtain ⟨-, -, h3, -⟩ := ma_keyf hk
  rw [h3, Nat.add_mul_mod_self_left]
  exact Nat.mod_eq_of_lt (by omega)
/-- the reference's search ends at the very exponent -/
theorem un_eq {p q u : Nat} (hk : ma_K p q) (h1 : 1 ≤ u) (h2 : u ≤ sp_cex p q) (h : p * q * u % sp_f p q = 1) : u = sp_cex p q := by
  have hb := ma_big hk
  have hc := un_cex hk
  obtain ⟨-, -, -, h4, h5, -⟩ := ma_keyf hk
  have e1 : u * (p * q * sp_cex p q) % sp_f p q = u % sp_f p q := by rw [Nat.mul_mod, hc, Nat.mul_one, Nat.mod_mod]
  have e2 : sp_cex p q * (p * q * u) % sp_f p q = sp_cex p q % sp_f p q := by rw [Nat.mul_mod, h, Nat.mul_one, Nat.mod_mod]
  have e3 : u * (p * q * sp_cex p q) = sp_cex p q * (p * q * u) := by grind
  rw [e3, e2] at e1
  by_cases hz : sp_cex p q = sp_f p q
  · rw [hz, Nat.mod_self] at e1
    by_cases hy : u = sp_f p q
    · omega
    · rw [Nat.mod_eq_of_lt (by omega)] at e1
      omega
  · rw [Nat.mod_eq_of_lt (by omega), Nat.mod_eq_of_lt (by omega)] at e1
    omega
theorem ip_s {n d : Nat} (h : ∀ j, 2 ≤ j → j < d → n % j ≠ 0) (hd : ¬ n % d = 0) : ∀ j, 2 ≤ j → j < d + 1 → n % j ≠ 0 := by
  intro j h2 h3
  by_cases e : j = d
  · rw [e]; exact hd
  · exact h j h2 (by omega)
end
section
/-! remainders of any long, floorMod -/
theorem fm_rng {x : Int64} {d : Nat} (h0 : 0 < d) (hd : d < 2 ^ 62) : -(d : Int) < (x - x / lN d * lN d).toInt ∧ (x - x / lN d * lN d).toInt < d ∧ x.toInt % (d : Int) = if (x - x / lN d * lN d).toInt < 0 then (x - x / lN d * lN d).toInt + d else (x - x / lN d * lN d).toInt := by
  have e : (x - x / lN d * lN d).toInt = x.toInt.tmod (d : Int) := by rw [Jvm.Kit.i64_rem, pk_lT (by omega)]
  rw [e]
  obtain ⟨h1, h2⟩ := tmod_bounds (a := x.toInt) (M := (d : Int)) (by omega)
  refine ⟨h1, h2, ?_⟩
  have h3 := Int.mul_tdiv_add_tmod x.toInt (d : Int)
  have h4 : x.toInt % (d : Int) = x.toInt.tmod (d : Int) % (d : Int) := by
    conv => lhs; rw [← h3]
    rw [Int.mul_add_emod_self_left]
  rw [h4]
  split
  · rename_i hneg
    rw [← Int.add_emod_right]
    exact Int.emod_eq_of_lt (by omega) (by omega)
  · exact Int.emod_eq_of_lt (by omega) (by omega)
theorem fm_neg {x : Int64} {d : Nat} (h0 : 0 < d) (hd : d < 2 ^ 62) (h : (x - x / lN d * lN d).toInt < 0) : (x - x / lN d * lN d) + lN d = lN (x.toInt % (d : Int)).toNat := by
  obtain ⟨h1, h2, h3⟩ := fm_rng (x := x) h0 hd
  rw [if_pos h] at h3
  apply Int64.toInt_inj.mp
  rw [Int64.toInt_add, pk_lT (n := d) (by omega), pk_lT (by omega), h3]
  rw [Int.bmod_eq_of_le (by omega) (by omega)]
  omega
theorem fm_pos {x : Int64} {d : Nat} (h0 : 0 < d) (hd : d < 2 ^ 62) (h : ¬ (x - x / lN d * lN d).toInt < 0) : (x - x / lN d * lN d) = lN (x.toInt % (d : Int)).toNat := by
  obtain ⟨h1, h2, h3⟩ := fm_rng (x := x) h0 hd
  rw [if_neg h] at h3
  apply Int64.toInt_inj.mp
  rw [h3, pk_lT (by omega)]
  omega
theorem fm_xor {a : Int64} {d : Nat} (hd : d < 2 ^ 62) : (a ^^^ lN d).toInt < 0 ↔ a.toInt < 0 := by
  have h1 : (a ^^^ lN d).toBitVec.msb = (a.toBitVec.msb ^^ (lN d).toBitVec.msb) := by rw [Int64.toBitVec_xor, BitVec.msb_xor]
  have h2 : (lN d).toBitVec.msb = false := by
    rw [BitVec.msb_eq_toInt]
    have : (lN d).toBitVec.toInt = (d : Int) := pk_lT (by omega)
    rw [this]
    exact decide_eq_false (by omega)
  rw [h2, Bool.xor_false, BitVec.msb_eq_toInt, BitVec.msb_eq_toInt] at h1
  exact decide_eq_decide.mp h1
theorem fm_z {r : Int64} (h : r.toInt = ((0 : Nat) : Int)) : ¬ r.toInt < 0 := by omega
theorem fm_ge {x : Int64} {d : Nat} (h0 : 0 < d) (hd : d < 2 ^ 62) (h : ((0 : Nat) : Int) ≤ (x ^^^ lN d).toInt) : ¬ (x - x / lN d * lN d).toInt < 0 := by
  have h1 : ¬ x.toInt < 0 := fun z => by have := (fm_xor (a := x) hd).mpr z; omega
  have e : (x - x / lN d * lN d).toInt = x.toInt % ((lN d).toInt) := Jvm.Kit.i64_rem_nonneg (by omega)
  rw [e, pk_lT (by omega)]
  have := Int.emod_nonneg x.toInt (b := (d : Int)) (by omega)
  omega
theorem fm_sgn {x : Int64} {d : Nat} (h0 : 0 < d) (hd : d < 2 ^ 62) (h : ¬ ((0 : Nat) : Int) ≤ (x ^^^ lN d).toInt) (hz : ¬ (x - x / lN d * lN d).toInt = ((0 : Nat) : Int)) : (x - x / lN d * lN d).toInt < 0 := by
  have h1 : x.toInt < 0 := (fm_xor (a := x) hd).mp (by omega)
  have e : (x - x / lN d * lN d).toInt = x.toInt.tmod (d : Int) := by rw [Jvm.Kit.i64_rem, pk_lT (by omega)]
  rw [e] at hz ⊢
  have h2 : (-x.toInt).tmod (d : Int) = -(x.toInt.tmod (d : Int)) := Int.neg_tmod _ _
  have h3 : (-x.toInt).tmod (d : Int) = (-x.toInt) % (d : Int) := Int.tmod_eq_emod_of_nonneg (by omega)
  have h4 := Int.emod_nonneg (-x.toInt) (b := (d : Int)) (by omega)
  omega
end
section
/-! the state, as both sides hold it -/
def Jv (p q cx rd : Nat) (g : Nat → Nat) : Prop :=
  (p = 0 ∧ q = 0 ∧ cx = 0) ∨ (ma_K p q ∧ (cx = 0 ∨ (1 ≤ cx ∧ cx ≤ 6 ∧ 2 ≤ rd ∧ rd ^ cx ≤ p * q ∧ ∀ j, j < 30 → g j < p * q * (p * q) ∧ (g j = 0 ∨ (g j % p ≠ 0 ∧ g j % q ≠ 0)))))
theorem jv_key {p q cx rd : Nat} {g : Nat → Nat} (h : Jv p q cx rd g) (hp : p ≠ 0) : ma_K p q := by
  rcases h with h | h
  · exact absurd h.1 hp
  · exact h.1
theorem jv_box {p q cx rd : Nat} {g : Nat → Nat} (h : Jv p q cx rd g) (hc : cx ≠ 0) : ma_K p q ∧ 1 ≤ cx ∧ cx ≤ 6 ∧ 2 ≤ rd ∧ rd ^ cx ≤ p * q ∧ ∀ j, j < 30 → g j < p * q * (p * q) ∧ (g j = 0 ∨ (g j % p ≠ 0 ∧ g j % q ≠ 0)) := by
  rcases h with h | ⟨h, h1 | h1⟩
  · exact absurd h.2.2 hc
  · exact absurd h1 hc
  · exact ⟨h, h1⟩
theorem jv_n {p q cx rd : Nat} {g : Nat → Nat} (h : Jv p q cx rd g) : p * q ≤ 52441 ∧ p * q * (p * q) ≤ 2750058481 ∧ p ≤ 229 ∧ q ≤ 229 ∧ cx ≤ 6 ∧ sp_f p q ≤ 52441 ∧ sp_inv p q ≤ 52441 ∧ sp_cex p q ≤ 52441 := by
  rcases h with ⟨rfl, rfl, rfl⟩ | ⟨h, h1⟩
  · decide
  · have hb := ma_big h
    have hk := ma_keyf h
    have h3 := h.1.2.1
    have h4 := h.2.1.2.1
    refine ⟨by omega, by omega, h3, h4, ?_, by omega, by omega, by omega⟩
    rcases h1 with h1 | h1 <;> omega
theorem jv_p0 {p q cx rd : Nat} {g : Nat → Nat} (h : Jv p q cx rd g) : p * q = 0 ↔ p = 0 := by
  rcases h with ⟨rfl, rfl, -⟩ | ⟨h, -⟩
  · simp
  · have hb := ma_big h
    have := h.1.1
    omega
theorem jv_cx {p q cx rd : Nat} {g : Nat → Nat} (h : Jv p q cx rd g) (hp : p = 0) : cx = 0 := by
  rcases h with h | h
  · exact h.2.2
  · have := h.1.1.1
    omega
theorem sp_isK_of {a b : Int32} (h : sp_isK a b = true) : ∃ p q : Nat, ma_K p q ∧ p < 2 ^ 31 ∧ q < 2 ^ 31 ∧ a = nI p ∧ b = nI q := by
  simp only [sp_isK, Bool.and_eq_true, decide_eq_true_eq] at h
  obtain ⟨p, hp, hp2, rfl⟩ := sp_isP_of h.1
  obtain ⟨q, hq, hq2, rfl⟩ := sp_isP_of h.2.1
  rw [ix_nat hp2, ix_nat hq2, nI_toInt hp2, nI_toInt hq2] at h
  exact ⟨p, q, ⟨hp, hq, by omega, h.2.2.2.1, h.2.2.2.2⟩, hp2, hq2, rfl, rfl⟩
theorem jv_t {p q cx rd : Nat} {g : Nat → Nat} (h : Jv p q cx rd g) (c : decide (0 < p * q) = true) : p ≠ 0 := by
  have := of_decide_eq_true c
  intro e
  rw [e, Nat.zero_mul] at this
  omega
theorem jv_f {p q cx rd : Nat} {g : Nat → Nat} (h : Jv p q cx rd g) (c : decide (0 < p * q) = false) : p = 0 := by
  have := of_decide_eq_false c
  exact (jv_p0 h).mp (by omega)
theorem ex_pos {p q : Nat} (h : ma_K p q) : 0 < p * q * sp_f p q := by
  have hb := ma_big h
  exact Nat.mul_pos (by omega) (by omega)
theorem ex_le {p q : Nat} (h : ma_K p q) : p * q * sp_f p q ≤ 2750058481 := by
  have hb := ma_big h
  have : p * q * sp_f p q ≤ 52441 * 52441 := Nat.mul_le_mul (by omega) (by omega)
  omega
theorem ex_lt {p q : Nat} (h : ma_K p q) : p * q * sp_f p q < 2 ^ 62 := by
  have := ex_le h
  omega
theorem ex_32 {p q : Nat} (h : ma_K p q) (y : Int32) : (y.toInt % ((p * q * sp_f p q : Nat) : Int)).toNat < 2 ^ 32 := by
  have h1 := ex_le h
  have h2 := ex_pos h
  have h3 := Int.emod_lt_of_pos y.toInt (b := ((p * q * sp_f p q : Nat) : Int)) (by omega)
  have h4 := Int.emod_nonneg y.toInt (b := ((p * q * sp_f p q : Nat) : Int)) (by omega)
  omega
theorem bx_t {cx : Nat} (c : decide (0 < cx) = true) : cx ≠ 0 := by
  have := of_decide_eq_true c
  omega
theorem bx_f {cx : Nat} (c : decide (0 < cx) = false) : cx = 0 := by
  have := of_decide_eq_false c
  omega
theorem rp_lt {a cx rd n : Nat} (ha : a < cx) (hr : 2 ≤ rd) (h : rd ^ cx ≤ n) : rd ^ a < n :=
  Nat.lt_of_lt_of_le (Nat.pow_lt_pow_right (by omega) ha) h
theorem fa_sm {p q : Nat} (hk : ma_K p q) (c : Nat) : sp_msg p q c < p * q := by
  have hb := ma_big hk
  exact Nat.mod_lt _ (by omega)
def sel (b : Bool) (u v : Nat) : Nat := if b = true then u else v
theorem sel_t {u v : Nat} : sel true u v = u := rfl
theorem sel_f {u v : Nat} : sel false u v = v := rfl
theorem gu_same {g : Nat → Nat} {k c : Nat} (h : g k = c) : gu g k c = g := by
  funext j
  unfold gu
  split
  · rename_i e; rw [e, h]
  · rfl
theorem si_of {p q : Nat} (h : ma_K p q) : sp_f p q ^ (sp_f p q - 1) % (p * q) = sp_inv p q := by
  unfold sp_inv
  rw [if_neg (by have := h.1.1; omega)]
/-! what a cast comes to -/
section
variable {p q cx rd cl : Nat} {g : Nat → Nat} {x : Int32} {y : Int64} {a b : Nat}
theorem cs_bad (h0 : cx ≠ 0) (h1 : cl ≠ 1) (h : (sp_cand 30 x && sp_isS p q y) = false) : nx_cast p q cx rd cl g x y = g := by
  simp [nx_cast, h0, h1, sp_cast, h]
theorem ct_bad (h0 : cx ≠ 0) (h1 : cl ≠ 1) (h : (sp_cand 30 x && sp_isS p q y) = false) : an_cast p q cx rd cl g x y = -4 := by
  simp [an_cast, h0, h1, sp_cast, h]
theorem cs_full (h0 : cx ≠ 0) (h1 : cl ≠ 1) (h2 : sp_cand 30 (nI a) = true) (h3 : sp_isS p q y = true) (ha : a < 2 ^ 31) (hg : g a = 0) (hf : rd - 1 ≤ sp_cnt g 30) : nx_cast p q cx rd cl g (nI a) y = g := by
  simp [nx_cast, h0, h1, sp_cast, h2, h3, ix_nat ha, hg, hf]
theorem ct_full (h0 : cx ≠ 0) (h1 : cl ≠ 1) (h2 : sp_cand 30 (nI a) = true) (h3 : sp_isS p q y = true) (ha : a < 2 ^ 31) (hg : g a = 0) (hf : rd - 1 ≤ sp_cnt g 30) : an_cast p q cx rd cl g (nI a) y = -5 := by
  simp [an_cast, h0, h1, sp_cast, h2, h3, ix_nat ha, hg, hf]
theorem cs_new (h0 : cx ≠ 0) (h1 : cl ≠ 1) (h2 : sp_cand 30 (nI a) = true) (h3 : sp_isS p q (lN b) = true) (ha : a < 2 ^ 31) (hb : b < 2 ^ 63) (hg : g a = 0) (hf : ¬ rd - 1 ≤ sp_cnt g 30) : nx_cast p q cx rd cl g (nI a) (lN b) = gu g a b := by
  simp only [nx_cast, if_neg h0, if_neg h1, sp_cast, h2, h3, Bool.and_self, if_true, ix_nat ha, lx_nat hb, if_pos hg, if_neg hf]
  simp
theorem ct_new (h0 : cx ≠ 0) (h1 : cl ≠ 1) (h2 : sp_cand 30 (nI a) = true) (h3 : sp_isS p q y = true) (ha : a < 2 ^ 31) (hg : g a = 0) (hf : ¬ rd - 1 ≤ sp_cnt g 30) : an_cast p q cx rd cl g (nI a) y = nI 1 := by
  simp only [an_cast, if_neg h0, if_neg h1, sp_cast, h2, h3, Bool.and_self, if_true, ix_nat ha, if_pos hg, if_neg hf]
  decide
theorem cs_old (h0 : cx ≠ 0) (h1 : cl ≠ 1) (h2 : sp_cand 30 (nI a) = true) (h3 : sp_isS p q (lN b) = true) (ha : a < 2 ^ 31) (hb : b < 2 ^ 63) (hg : ¬ g a = 0) : nx_cast p q cx rd cl g (nI a) (lN b) = gu g a b := by
  simp only [nx_cast, if_neg h0, if_neg h1, sp_cast, h2, h3, Bool.and_self, if_true, ix_nat ha, lx_nat hb, if_neg hg]
  simp
theorem ct_old (h0 : cx ≠ 0) (h1 : cl ≠ 1) (h2 : sp_cand 30 (nI a) = true) (h3 : sp_isS p q y = true) (ha : a < 2 ^ 31) (hg : ¬ g a = 0) : an_cast p q cx rd cl g (nI a) y = nI 0 := by
  simp only [an_cast, if_neg h0, if_neg h1, sp_cast, h2, h3, Bool.and_self, if_true, ix_nat ha, if_neg hg]
  decide
end
end
section
/-! contracts that change one object and its array -/
abbrev two (a b : Nat) : Nat → Prop := fun q => q = a ∨ q = b
abbrev qmI (v : Int32) (D : va_G) (cl : List vw_C) (ws : va_W) (h q : Nat) : Array Value → State → Outcome → State → Prop := va_Qi (fun (r : Int32) (_ : Unit) => r = v) (fun _ t => va_P D cl ws t.heap) (two h q)
abbrev qmL (v : Int64) (D : va_G) (cl : List vw_C) (ws : va_W) (h q : Nat) : Array Value → State → Outcome → State → Prop := va_Ql (fun (r : Int64) (_ : Unit) => r = v) (fun _ t => va_P D cl ws t.heap) (two h q)
abbrev qmV (D : va_G) (cl : List vw_C) (ws : va_W) (h q : Nat) : Array Value → State → Outcome → State → Prop := va_Qv (fun (_ : Unit) => True) (fun _ t => va_P D cl ws t.heap) (two h q)
theorem mu_D {h q : Nat} {e1 e2 : va_E} (hne : h ≠ q) : va_D (two h q) [(h, e1), (q, e2)] := by
  refine ⟨fun i j p r hi hj hp => ?_, fun k r hk => ?_⟩
  · match i, j with
    | 0, 0 => rfl
    | 1, 1 => rfl
    | 0, 1 => cases hi; cases hj; exact absurd hp hne
    | 1, 0 => cases hi; cases hj; exact absurd hp.symm hne
    | i + 2, _ => cases hi
    | 0, j + 2 => cases hj
    | 1, j + 2 => cases hj
  · match k with
    | 0 => cases hk; exact Or.inl rfl
    | 1 => cases hk; exact Or.inr rfl
    | k + 2 => cases hk
section MU
variable {p : Program} {l : Launch} {e : Env} {R : Room} {s : State} {m : MethodId} {args : Array Value} {below : List Frame} {meth : Method} {c : Code} {H : Heap} {locs : List Loc} {cells slots : Nat} {Q : State → Prop}
variable {pc : Nat} {ls : Array Slot} {rest st0 : List Value} {a : Array Value} {A0 : Nat → Prop} {H0 : Heap} {cc : ByteArray} {D : va_G} {cl : List vw_C} {ws wo : va_W} {h q : Nat}
theorem mu_kept {H H1 : Heap} (hk : ∀ r : Nat, r < H.size → ¬ two h q r → H1[r]? = H[r]?) (ho : ∀ (k : Nat) (r : Nat × va_E), wo[k]? = some r → r.1 ≠ h ∧ r.1 ≠ q) (hO : va_P D cl wo H) : va_P D cl wo H1 :=
  hO.kept (fun k r hr => hk r.1 (hO k r hr).lt (fun z => z.elim (ho k r hr).1 (ho k r hr).2))
theorem mu_i {v : Int32} (hr : va_Run p l e R s m args below meth c H locs cells slots 0 0 (F0 m pc ls st0) rest (qmI v D cl ws h q a) (two h q)) (hS : va_S A0 H0 H locs) (hh : A0 h) (hq : A0 q) (ho : ∀ (k : Nat) (r : Nat × va_E), wo[k]? = some r → r.1 ≠ h ∧ r.1 ≠ q) (hO : va_P D cl wo H)
    (kk : ∀ (H1 : Heap) (locs1 : List Loc), va_P D cl ws H1 → va_P D cl wo H1 → va_S A0 H0 H1 locs1 → W p l e R s m args below meth c H1 locs1 cells slots Q (F0 m (pc + 3) ls (.int v :: rest))) : W p l e R s m args below meth c H locs cells slots Q (F0 m pc ls st0) := by
  refine va_calli hr hS (fun r _ z => z.elim (fun e => e ▸ hh) (fun e => e ▸ hq)) (fun r z => z.elim (fun e => e ▸ hh) (fun e => e ▸ hq)) (fun r u t H1 locs1 ht hvm hw hB hz hk hS => ?_)
  subst hw
  rw [ht] at hB
  exact kk H1 locs1 hB (mu_kept hk ho hO) hS
theorem mu_l {v : Int64} (hr : va_Run p l e R s m args below meth c H locs cells slots 0 0 (F0 m pc ls st0) rest (qmL v D cl ws h q a) (two h q)) (hS : va_S A0 H0 H locs) (hh : A0 h) (hq : A0 q) (ho : ∀ (k : Nat) (r : Nat × va_E), wo[k]? = some r → r.1 ≠ h ∧ r.1 ≠ q) (hO : va_P D cl wo H)
    (kk : ∀ (H1 : Heap) (locs1 : List Loc), va_P D cl ws H1 → va_P D cl wo H1 → va_S A0 H0 H1 locs1 → W p l e R s m args below meth c H1 locs1 cells slots Q (F0 m (pc + 3) ls (.long v :: rest))) : W p l e R s m args below meth c H locs cells slots Q (F0 m pc ls st0) := by
  refine va_calll hr hS (fun r _ z => z.elim (fun e => e ▸ hh) (fun e => e ▸ hq)) (fun r z => z.elim (fun e => e ▸ hh) (fun e => e ▸ hq)) (fun r u t H1 locs1 ht hvm hw hB hz hk hS => ?_)
  subst hw
  rw [ht] at hB
  exact kk H1 locs1 hB (mu_kept hk ho hO) hS
theorem mu_v (hr : va_Run p l e R s m args below meth c H locs cells slots 0 0 (F0 m pc ls st0) rest (qmV D cl ws h q a) (two h q)) (hS : va_S A0 H0 H locs) (hh : A0 h) (hq : A0 q) (ho : ∀ (k : Nat) (r : Nat × va_E), wo[k]? = some r → r.1 ≠ h ∧ r.1 ≠ q) (hO : va_P D cl wo H)
    (kk : ∀ (H1 : Heap) (locs1 : List Loc), va_P D cl ws H1 → va_P D cl wo H1 → va_S A0 H0 H1 locs1 → W p l e R s m args below meth c H1 locs1 cells slots Q (F0 m (pc + 3) ls rest)) : W p l e R s m args below meth c H locs cells slots Q (F0 m pc ls st0) := by
  refine va_callv hr hS (fun r _ z => z.elim (fun e => e ▸ hh) (fun e => e ▸ hq)) (fun r z => z.elim (fun e => e ▸ hh) (fun e => e ▸ hq)) (fun u t H1 locs1 ht hvm hw hB hz hk hS => ?_)
  rw [ht] at hB
  exact kk H1 locs1 hB (mu_kept hk ho hO) hS
theorem mu_iret {v v' : Int32} (hx : p.tables.exec = Jvm.exec) (hb : c.code = cc) (hr : meth.sig.returnType = some .int) (hP : va_P D cl ws H) (hS : va_S (two h q) s.heap H locs) (hdg : decode cc pc = .ok (.ireturn, 1)) (hlocks : meth.locks = false) (hv : v = v') :
    W p l e R s m args below meth c H locs 0 0 (MQ below (qmI v' D cl ws h q) args s 0 0 (two h q)) (F0 m pc ls [.int v]) := by
  subst hv
  exact W.iret hx hb hr (fun t ht hW => ⟨⟨v, (), rfl, rfl, by show va_P D cl ws t.heap; rw [ht]; exact hP⟩, hS.F ht⟩) hS.2.2 hdg hlocks
theorem mu_zret {v v' : Int32} (hx : p.tables.exec = Jvm.exec) (hb : c.code = cc) (hr : meth.sig.returnType = some .boolean) (hn : narrow .boolean (.int v) = .int v) (hP : va_P D cl ws H) (hS : va_S (two h q) s.heap H locs) (hdg : decode cc pc = .ok (.ireturn, 1)) (hlocks : meth.locks = false) (hv : v = v') :
    W p l e R s m args below meth c H locs 0 0 (MQ below (qmI v' D cl ws h q) args s 0 0 (two h q)) (F0 m pc ls [.int v]) := by
  subst hv
  exact W.zret hx hb hr hn (fun t ht hW => ⟨⟨v, (), rfl, rfl, by show va_P D cl ws t.heap; rw [ht]; exact hP⟩, hS.F ht⟩) hS.2.2 hdg hlocks
theorem mu_lret {v v' : Int64} (hx : p.tables.exec = Jvm.exec) (hb : c.code = cc) (hr : meth.sig.returnType = some .long) (hP : va_P D cl ws H) (hS : va_S (two h q) s.heap H locs) (hdg : decode cc pc = .ok (.lreturn, 1)) (hlocks : meth.locks = false) (hv : v = v') :
    W p l e R s m args below meth c H locs 0 0 (MQ below (qmL v' D cl ws h q) args s 0 0 (two h q)) (F0 m pc ls [.long v]) := by
  subst hv
  exact W.lret hx hb hr (fun t ht hW => ⟨⟨v, (), rfl, rfl, by show va_P D cl ws t.heap; rw [ht]; exact hP⟩, hS.F ht⟩) hS.2.2 hdg hlocks
theorem mu_vret (hx : p.tables.exec = Jvm.exec) (hb : c.code = cc) (hr : meth.sig.returnType = none) (hP : va_P D cl ws H) (hS : va_S (two h q) s.heap H locs) (hdg : decode cc pc = .ok (.return_, 1)) (hlocks : meth.locks = false) :
    W p l e R s m args below meth c H locs 0 0 (MQ below (qmV D cl ws h q) args s 0 0 (two h q)) (F0 m pc ls []) :=
  W.vret hx hb hr (fun t ht hW => ⟨⟨(), rfl, trivial, by show va_P D cl ws t.heap; rw [ht]; exact hP⟩, hS.F ht⟩) hS.2.2 hdg hlocks
end MU
end
section
def R_X : String := "SealedTally"
def R_M : String := "SealedTallyModel"
def R_L : String := "SealedTallyLaw"
def R_J : String := "java/lang/Math"
def R_A : String := "java/util/Arrays"
def F_X : u_T := fun k => match k with
  | 0 => ("SealedTally", "p", "I", false)
  | 1 => ("SealedTally", "q", "I", false)
  | 2 => ("SealedTally", "n", "I", false)
  | 3 => ("SealedTally", "square", "J", false)
  | 4 => ("SealedTally", "coinCount", "J", false)
  | 5 => ("SealedTally", "coinCountInverse", "J", false)
  | 6 => ("SealedTally", "coinExponent", "J", false)
  | 7 => ("SealedTally", "candidates", "I", false)
  | 8 => ("SealedTally", "radix", "I", false)
  | 9 => ("SealedTally", "closed", "Z", false)
  | 10 => ("SealedTally", "total", "J", false)
  | 11 => ("SealedTally", "ballotCount", "I", false)
  | _ => ("SealedTally", "ballotOf", "[J", true)
def t_X : Nat → FieldType := fun k => match k with
  | 0 => .int
  | 1 => .int
  | 2 => .int
  | 3 => .long
  | 4 => .long
  | 5 => .long
  | 6 => .long
  | 7 => .int
  | 8 => .int
  | 9 => .boolean
  | 10 => .long
  | 11 => .int
  | _ => .array .long
theorem n_X : ∀ a, a < 13 → ∀ b, b < 13 → a ≠ b → (F_X a).2.1 ≠ (F_X b).2.1 := by decide +kernel
theorem t_X_ok : ∀ k, k < 13 → parseFieldDescriptor (F_X k).2.2.1 = some (t_X k) := by decide +kernel
theorem f_X0 : ∀ w ∈ u_ws R_X F_X 13, w ∈ tables_1 := by decide +kernel
theorem f_X1 : ∀ w ∈ u_ws R_X F_X 13, goodWord w = true := by decide +kernel
theorem f_X {w0 : Cond} : ∀ w ∈ u_ws R_X F_X 13, w ∈ w0 :: al_w := fun w h => List.mem_cons_of_mem _ (List.mem_filter.mpr ⟨List.mem_append_right _ (f_X0 w h), f_X1 w h⟩)
def F_M : u_T := fun k => match k with
  | 0 => ("SealedTallyModel", "n", "J", false)
  | 1 => ("SealedTallyModel", "square", "J", false)
  | 2 => ("SealedTallyModel", "coins", "J", false)
  | 3 => ("SealedTallyModel", "undo", "J", false)
  | 4 => ("SealedTallyModel", "box", "Z", false)
  | 5 => ("SealedTallyModel", "closed", "Z", false)
  | 6 => ("SealedTallyModel", "candidates", "I", false)
  | 7 => ("SealedTallyModel", "radix", "I", false)
  | _ => ("SealedTallyModel", "ballot", "[J", true)
def t_M : Nat → FieldType := fun k => match k with
  | 0 => .long
  | 1 => .long
  | 2 => .long
  | 3 => .long
  | 4 => .boolean
  | 5 => .boolean
  | 6 => .int
  | 7 => .int
  | _ => .array .long
theorem n_M : ∀ a, a < 9 → ∀ b, b < 9 → a ≠ b → (F_M a).2.1 ≠ (F_M b).2.1 := by decide +kernel
theorem t_M_ok : ∀ k, k < 9 → parseFieldDescriptor (F_M k).2.2.1 = some (t_M k) := by decide +kernel
theorem f_M0 : ∀ w ∈ u_ws R_M F_M 9, w ∈ tables_1 := by decide +kernel
theorem f_M1 : ∀ w ∈ u_ws R_M F_M 9, goodWord w = true := by decide +kernel
theorem f_M {w0 : Cond} : ∀ w ∈ u_ws R_M F_M 9, w ∈ w0 :: al_w := fun w h => List.mem_cons_of_mem _ (List.mem_filter.mpr ⟨List.mem_append_right _ (f_M0 w h), f_M1 w h⟩)
abbrev classes : List vw_C := [(R_X, F_X, 13), (R_M, F_M, 9)]
abbrev b_X_init : ByteArray := prog_1_method_1_code
def y_X_init : MethodName := ⟨R_X, "<init>", "()V"⟩
abbrev w_X_init : List Cond := Cond.code y_X_init b_X_init 1 (none) :: al_w
abbrev b_X_key : ByteArray := prog_1_method_2_code
def y_X_key : MethodName := ⟨R_X, "key", "(II)I"⟩
abbrev w_X_key : List Cond := Cond.code y_X_key b_X_key 3 (some .int) :: al_w
abbrev b_X_isKey : ByteArray := prog_1_method_22_code
def y_X_isKey : MethodName := ⟨R_X, "isKey", "(II)Z"⟩
abbrev w_X_isKey : List Cond := Cond.code y_X_isKey b_X_isKey 2 (some .boolean) :: al_w
abbrev b_X_isKeyPrime : ByteArray := prog_1_method_23_code
def y_X_isKeyPrime : MethodName := ⟨R_X, "isKeyPrime", "(I)Z"⟩
abbrev w_X_isKeyPrime : List Cond := Cond.code y_X_isKeyPrime b_X_isKeyPrime 2 (some .boolean) :: al_w
abbrev b_X_raised : ByteArray := prog_1_method_36_code
def y_X_raised : MethodName := ⟨R_X, "raised", "(JJJ)J"⟩
abbrev w_X_raised : List Cond := Cond.code y_X_raised b_X_raised 11 (some .long) :: al_w
abbrev b_X_modulus : ByteArray := prog_1_method_3_code
def y_X_modulus : MethodName := ⟨R_X, "modulus", "()I"⟩
abbrev w_X_modulus : List Cond := Cond.code y_X_modulus b_X_modulus 1 (some .int) :: al_w
abbrev b_X_seal : ByteArray := prog_1_method_4_code
def y_X_seal : MethodName := ⟨R_X, "seal", "(JJ)J"⟩
abbrev w_X_seal : List Cond := Cond.code y_X_seal b_X_seal 5 (some .long) :: al_w
abbrev b_X_hasKey : ByteArray := prog_1_method_20_code
def y_X_hasKey : MethodName := ⟨R_X, "hasKey", "()Z"⟩
abbrev w_X_hasKey : List Cond := Cond.code y_X_hasKey b_X_hasKey 1 (some .boolean) :: al_w
abbrev b_X_isMessage : ByteArray := prog_1_method_24_code
def y_X_isMessage : MethodName := ⟨R_X, "isMessage", "(J)Z"⟩
abbrev w_X_isMessage : List Cond := Cond.code y_X_isMessage b_X_isMessage 3 (some .boolean) :: al_w
abbrev b_X_isCoin : ByteArray := prog_1_method_25_code
def y_X_isCoin : MethodName := ⟨R_X, "isCoin", "(J)Z"⟩
abbrev w_X_isCoin : List Cond := Cond.code y_X_isCoin b_X_isCoin 3 (some .boolean) :: al_w
abbrev b_X_sharesNoFactor : ByteArray := prog_1_method_27_code
def y_X_sharesNoFactor : MethodName := ⟨R_X, "sharesNoFactor", "(J)Z"⟩
abbrev w_X_sharesNoFactor : List Cond := Cond.code y_X_sharesNoFactor b_X_sharesNoFactor 3 (some .boolean) :: al_w
abbrev b_X_sealing : ByteArray := prog_1_method_32_code
def y_X_sealing : MethodName := ⟨R_X, "sealing", "(JJ)J"⟩
abbrev w_X_sealing : List Cond := Cond.code y_X_sealing b_X_sealing 5 (some .long) :: al_w
abbrev b_X_message : ByteArray := prog_1_method_5_code
def y_X_message : MethodName := ⟨R_X, "message", "(J)J"⟩
abbrev w_X_message : List Cond := Cond.code y_X_message b_X_message 3 (some .long) :: al_w
abbrev b_X_isSeal : ByteArray := prog_1_method_26_code
def y_X_isSeal : MethodName := ⟨R_X, "isSeal", "(J)Z"⟩
abbrev w_X_isSeal : List Cond := Cond.code y_X_isSeal b_X_isSeal 3 (some .boolean) :: al_w
abbrev b_X_messageIn : ByteArray := prog_1_method_33_code
def y_X_messageIn : MethodName := ⟨R_X, "messageIn", "(J)J"⟩
abbrev w_X_messageIn : List Cond := Cond.code y_X_messageIn b_X_messageIn 5 (some .long) :: al_w
abbrev b_X_coin : ByteArray := prog_1_method_6_code
def y_X_coin : MethodName := ⟨R_X, "coin", "(J)J"⟩
abbrev w_X_coin : List Cond := Cond.code y_X_coin b_X_coin 3 (some .long) :: al_w
abbrev b_X_coinIn : ByteArray := prog_1_method_34_code
def y_X_coinIn : MethodName := ⟨R_X, "coinIn", "(J)J"⟩
abbrev w_X_coinIn : List Cond := Cond.code y_X_coinIn b_X_coinIn 3 (some .long) :: al_w
abbrev b_X_join : ByteArray := prog_1_method_7_code
def y_X_join : MethodName := ⟨R_X, "join", "(JJ)J"⟩
abbrev w_X_join : List Cond := Cond.code y_X_join b_X_join 5 (some .long) :: al_w
abbrev b_X_power : ByteArray := prog_1_method_8_code
def y_X_power : MethodName := ⟨R_X, "power", "(JI)J"⟩
abbrev w_X_power : List Cond := Cond.code y_X_power b_X_power 6 (some .long) :: al_w
abbrev b_J_floorMod : ByteArray := prog_4_method_52_code
def y_J_floorMod : MethodName := ⟨R_J, "floorMod", "(JJ)J"⟩
abbrev w_J_floorMod : List Cond := Cond.code y_J_floorMod b_J_floorMod 6 (some .long) :: al_w
abbrev b_X_open : ByteArray := prog_1_method_9_code
def y_X_open : MethodName := ⟨R_X, "open", "(II)Z"⟩
abbrev w_X_open : List Cond := Cond.code y_X_open b_X_open 3 (some .boolean) :: al_w
abbrev b_X_isBoxSize : ByteArray := prog_1_method_28_code
def y_X_isBoxSize : MethodName := ⟨R_X, "isBoxSize", "(II)Z"⟩
abbrev w_X_isBoxSize : List Cond := Cond.code y_X_isBoxSize b_X_isBoxSize 6 (some .boolean) :: al_w
abbrev b_A_fill : ByteArray := prog_5_method_101_code
def y_A_fill : MethodName := ⟨R_A, "fill", "([JJ)V"⟩
abbrev w_A_fill : List Cond := Cond.code y_A_fill b_A_fill 5 (none) :: al_w
abbrev b_X_choice : ByteArray := prog_1_method_10_code
def y_X_choice : MethodName := ⟨R_X, "choice", "(IJ)J"⟩
abbrev w_X_choice : List Cond := Cond.code y_X_choice b_X_choice 4 (some .long) :: al_w
abbrev b_X_hasBox : ByteArray := prog_1_method_21_code
def y_X_hasBox : MethodName := ⟨R_X, "hasBox", "()Z"⟩
abbrev w_X_hasBox : List Cond := Cond.code y_X_hasBox b_X_hasBox 1 (some .boolean) :: al_w
abbrev b_X_isCandidate : ByteArray := prog_1_method_29_code
def y_X_isCandidate : MethodName := ⟨R_X, "isCandidate", "(I)Z"⟩
abbrev w_X_isCandidate : List Cond := Cond.code y_X_isCandidate b_X_isCandidate 2 (some .boolean) :: al_w
abbrev b_X_radixPower : ByteArray := prog_1_method_31_code
def y_X_radixPower : MethodName := ⟨R_X, "radixPower", "(I)J"⟩
abbrev w_X_radixPower : List Cond := Cond.code y_X_radixPower b_X_radixPower 5 (some .long) :: al_w
abbrev b_X_cast : ByteArray := prog_1_method_11_code
def y_X_cast : MethodName := ⟨R_X, "cast", "(IJ)I"⟩
abbrev w_X_cast : List Cond := Cond.code y_X_cast b_X_cast 5 (some .int) :: al_w
abbrev b_X_isVoter : ByteArray := prog_1_method_30_code
def y_X_isVoter : MethodName := ⟨R_X, "isVoter", "(I)Z"⟩
abbrev w_X_isVoter : List Cond := Cond.code y_X_isVoter b_X_isVoter 1 (some .boolean) :: al_w
abbrev b_X_withdraw : ByteArray := prog_1_method_12_code
def y_X_withdraw : MethodName := ⟨R_X, "withdraw", "(I)J"⟩
abbrev w_X_withdraw : List Cond := Cond.code y_X_withdraw b_X_withdraw 4 (some .long) :: al_w
abbrev b_X_ballot : ByteArray := prog_1_method_13_code
def y_X_ballot : MethodName := ⟨R_X, "ballot", "(I)J"⟩
abbrev w_X_ballot : List Cond := Cond.code y_X_ballot b_X_ballot 2 (some .long) :: al_w
abbrev b_X_ballots : ByteArray := prog_1_method_14_code
def y_X_ballots : MethodName := ⟨R_X, "ballots", "()I"⟩
abbrev w_X_ballots : List Cond := Cond.code y_X_ballots b_X_ballots 1 (some .int) :: al_w
abbrev b_X_sum : ByteArray := prog_1_method_15_code
def y_X_sum : MethodName := ⟨R_X, "sum", "()J"⟩
abbrev w_X_sum : List Cond := Cond.code y_X_sum b_X_sum 1 (some .long) :: al_w
abbrev b_X_productOfBallots : ByteArray := prog_1_method_35_code
def y_X_productOfBallots : MethodName := ⟨R_X, "productOfBallots", "()J"⟩
abbrev w_X_productOfBallots : List Cond := Cond.code y_X_productOfBallots b_X_productOfBallots 4 (some .long) :: al_w
abbrev b_X_close : ByteArray := prog_1_method_16_code
def y_X_close : MethodName := ⟨R_X, "close", "()J"⟩
abbrev w_X_close : List Cond := Cond.code y_X_close b_X_close 1 (some .long) :: al_w
abbrev b_X_votes : ByteArray := prog_1_method_17_code
def y_X_votes : MethodName := ⟨R_X, "votes", "(I)I"⟩
abbrev w_X_votes : List Cond := Cond.code y_X_votes b_X_votes 2 (some .int) :: al_w
abbrev b_X_witness : ByteArray := prog_1_method_18_code
def y_X_witness : MethodName := ⟨R_X, "witness", "()J"⟩
abbrev w_X_witness : List Cond := Cond.code y_X_witness b_X_witness 1 (some .long) :: al_w
abbrev b_X_check : ByteArray := prog_1_method_19_code
def y_X_check : MethodName := ⟨R_X, "check", "(JJ)Z"⟩
abbrev w_X_check : List Cond := Cond.code y_X_check b_X_check 5 (some .boolean) :: al_w
abbrev b_M_init : ByteArray := prog_3_method_1_code
def y_M_init : MethodName := ⟨R_M, "<init>", "()V"⟩
abbrev w_M_init : List Cond := Cond.code y_M_init b_M_init 1 (none) :: al_w
abbrev b_M_key : ByteArray := prog_3_method_3_code
def y_M_key : MethodName := ⟨R_M, "key", "(II)I"⟩
abbrev w_M_key : List Cond := Cond.code y_M_key b_M_key 5 (some .int) :: al_w
abbrev b_M_prime : ByteArray := prog_3_method_2_code
def y_M_prime : MethodName := ⟨R_M, "prime", "(I)Z"⟩
abbrev w_M_prime : List Cond := Cond.code y_M_prime b_M_prime 3 (some .boolean) :: al_w
abbrev b_M_modulus : ByteArray := prog_3_method_4_code
def y_M_modulus : MethodName := ⟨R_M, "modulus", "()I"⟩
abbrev w_M_modulus : List Cond := Cond.code y_M_modulus b_M_modulus 1 (some .int) :: al_w
abbrev b_M_seal : ByteArray := prog_3_method_13_code
def y_M_seal : MethodName := ⟨R_M, "seal", "(JJ)J"⟩
abbrev w_M_seal : List Cond := Cond.code y_M_seal b_M_seal 5 (some .long) :: al_w
abbrev b_M_isMessage : ByteArray := prog_3_method_7_code
def y_M_isMessage : MethodName := ⟨R_M, "isMessage", "(J)Z"⟩
abbrev w_M_isMessage : List Cond := Cond.code y_M_isMessage b_M_isMessage 3 (some .boolean) :: al_w
abbrev b_M_isCoin : ByteArray := prog_3_method_8_code
def y_M_isCoin : MethodName := ⟨R_M, "isCoin", "(J)Z"⟩
abbrev w_M_isCoin : List Cond := Cond.code y_M_isCoin b_M_isCoin 3 (some .boolean) :: al_w
abbrev b_M_factor : ByteArray := prog_3_method_5_code
def y_M_factor : MethodName := ⟨R_M, "factor", "(JJ)J"⟩
abbrev w_M_factor : List Cond := Cond.code y_M_factor b_M_factor 10 (some .long) :: al_w
abbrev b_M_sealing : ByteArray := prog_3_method_10_code
def y_M_sealing : MethodName := ⟨R_M, "sealing", "(JJ)J"⟩
abbrev w_M_sealing : List Cond := Cond.code y_M_sealing b_M_sealing 7 (some .long) :: al_w
abbrev b_M_raise : ByteArray := prog_3_method_9_code
def y_M_raise : MethodName := ⟨R_M, "raise", "(JJJ)J"⟩
abbrev w_M_raise : List Cond := Cond.code y_M_raise b_M_raise 12 (some .long) :: al_w
abbrev b_M_message : ByteArray := prog_3_method_14_code
def y_M_message : MethodName := ⟨R_M, "message", "(J)J"⟩
abbrev w_M_message : List Cond := Cond.code y_M_message b_M_message 3 (some .long) :: al_w
abbrev b_M_isSeal : ByteArray := prog_3_method_6_code
def y_M_isSeal : MethodName := ⟨R_M, "isSeal", "(J)Z"⟩
abbrev w_M_isSeal : List Cond := Cond.code y_M_isSeal b_M_isSeal 3 (some .boolean) :: al_w
abbrev b_M_messageIn : ByteArray := prog_3_method_12_code
def y_M_messageIn : MethodName := ⟨R_M, "messageIn", "(J)J"⟩
abbrev w_M_messageIn : List Cond := Cond.code y_M_messageIn b_M_messageIn 11 (some .long) :: al_w
abbrev b_M_coinIn : ByteArray := prog_3_method_11_code
def y_M_coinIn : MethodName := ⟨R_M, "coinIn", "(J)J"⟩
abbrev w_M_coinIn : List Cond := Cond.code y_M_coinIn b_M_coinIn 3 (some .long) :: al_w
abbrev b_M_coin : ByteArray := prog_3_method_15_code
def y_M_coin : MethodName := ⟨R_M, "coin", "(J)J"⟩
abbrev w_M_coin : List Cond := Cond.code y_M_coin b_M_coin 3 (some .long) :: al_w
abbrev b_M_join : ByteArray := prog_3_method_16_code
def y_M_join : MethodName := ⟨R_M, "join", "(JJ)J"⟩
abbrev w_M_join : List Cond := Cond.code y_M_join b_M_join 5 (some .long) :: al_w
abbrev b_M_power : ByteArray := prog_3_method_17_code
def y_M_power : MethodName := ⟨R_M, "power", "(JI)J"⟩
abbrev w_M_power : List Cond := Cond.code y_M_power b_M_power 8 (some .long) :: al_w
abbrev b_M_open : ByteArray := prog_3_method_18_code
def y_M_open : MethodName := ⟨R_M, "open", "(II)Z"⟩
abbrev w_M_open : List Cond := Cond.code y_M_open b_M_open 6 (some .boolean) :: al_w
abbrev b_M_choice : ByteArray := prog_3_method_20_code
def y_M_choice : MethodName := ⟨R_M, "choice", "(IJ)J"⟩
abbrev w_M_choice : List Cond := Cond.code y_M_choice b_M_choice 4 (some .long) :: al_w
abbrev b_M_place : ByteArray := prog_3_method_19_code
def y_M_place : MethodName := ⟨R_M, "place", "(I)J"⟩
abbrev w_M_place : List Cond := Cond.code y_M_place b_M_place 5 (some .long) :: al_w
abbrev b_M_cast : ByteArray := prog_3_method_23_code
def y_M_cast : MethodName := ⟨R_M, "cast", "(IJ)I"⟩
abbrev w_M_cast : List Cond := Cond.code y_M_cast b_M_cast 5 (some .int) :: al_w
abbrev b_M_count : ByteArray := prog_3_method_21_code
def y_M_count : MethodName := ⟨R_M, "count", "()I"⟩
abbrev w_M_count : List Cond := Cond.code y_M_count b_M_count 3 (some .int) :: al_w
abbrev b_M_withdraw : ByteArray := prog_3_method_24_code
def y_M_withdraw : MethodName := ⟨R_M, "withdraw", "(I)J"⟩
abbrev w_M_withdraw : List Cond := Cond.code y_M_withdraw b_M_withdraw 4 (some .long) :: al_w
abbrev b_M_ballot : ByteArray := prog_3_method_25_code
def y_M_ballot : MethodName := ⟨R_M, "ballot", "(I)J"⟩
abbrev w_M_ballot : List Cond := Cond.code y_M_ballot b_M_ballot 2 (some .long) :: al_w
abbrev b_M_ballots : ByteArray := prog_3_method_26_code
def y_M_ballots : MethodName := ⟨R_M, "ballots", "()I"⟩
abbrev w_M_ballots : List Cond := Cond.code y_M_ballots b_M_ballots 1 (some .int) :: al_w
abbrev b_M_sum : ByteArray := prog_3_method_27_code
def y_M_sum : MethodName := ⟨R_M, "sum", "()J"⟩
abbrev w_M_sum : List Cond := Cond.code y_M_sum b_M_sum 1 (some .long) :: al_w
abbrev b_M_product : ByteArray := prog_3_method_22_code
def y_M_product : MethodName := ⟨R_M, "product", "()J"⟩
abbrev w_M_product : List Cond := Cond.code y_M_product b_M_product 4 (some .long) :: al_w
abbrev b_M_close : ByteArray := prog_3_method_28_code
def y_M_close : MethodName := ⟨R_M, "close", "()J"⟩
abbrev w_M_close : List Cond := Cond.code y_M_close b_M_close 1 (some .long) :: al_w
abbrev b_M_votes : ByteArray := prog_3_method_29_code
def y_M_votes : MethodName := ⟨R_M, "votes", "(I)I"⟩
abbrev w_M_votes : List Cond := Cond.code y_M_votes b_M_votes 4 (some .int) :: al_w
abbrev b_M_witness : ByteArray := prog_3_method_30_code
def y_M_witness : MethodName := ⟨R_M, "witness", "()J"⟩
abbrev w_M_witness : List Cond := Cond.code y_M_witness b_M_witness 1 (some .long) :: al_w
abbrev b_M_check : ByteArray := prog_3_method_31_code
def y_M_check : MethodName := ⟨R_M, "check", "(JJ)Z"⟩
abbrev w_M_check : List Cond := Cond.code y_M_check b_M_check 5 (some .boolean) :: al_w
end
section
set_option maxRecDepth 100000 in
theorem aw_t0 : Cond.initialized R_L ∈ al_w := al_t 0 (by decide +kernel) (by decide +kernel)
set_option maxRecDepth 100000 in
theorem aw_t1 : Cond.initialized R_X ∈ al_w := al_t 1 (by decide +kernel) (by decide +kernel)
set_option maxRecDepth 100000 in
theorem aw_t2 : Cond.initialized R_M ∈ al_w := al_t 2 (by decide +kernel) (by decide +kernel)
set_option maxRecDepth 100000 in
theorem aw_t3 : Cond.initialized R_J ∈ al_w := al_t 3 (by decide +kernel) (by decide +kernel)
set_option maxRecDepth 100000 in
theorem aw_t4 : Cond.initialized R_A ∈ al_w := al_t 4 (by decide +kernel) (by decide +kernel)
set_option maxRecDepth 100000 in
theorem aw_t5 : Cond.classLink R_L 7 R_X ∈ al_w := al_t 5 (by decide +kernel) (by decide +kernel)
set_option maxRecDepth 100000 in
theorem aw_t6 : Cond.instantiable R_X 13 ∈ al_w := al_t 6 (by decide +kernel) (by decide +kernel)
set_option maxRecDepth 100000 in
theorem aw_t7 : Cond.methodLink R_L 9 y_X_init ∈ al_w := al_t 7 (by decide +kernel) (by decide +kernel)
set_option maxRecDepth 100000 in
theorem aw_t8 : Cond.instanceMethod y_X_init ∈ al_w := al_t 8 (by decide +kernel) (by decide +kernel)
set_option maxRecDepth 100000 in
theorem aw_t10 : Cond.methodLink R_X 1 objectInit ∈ al_w := al_t 10 (by decide +kernel) (by decide +kernel)
set_option maxRecDepth 100000 in
theorem aw_t11 : Cond.instanceMethod objectInit ∈ al_w := al_t 11 (by decide +kernel) (by decide +kernel)
set_option maxRecDepth 100000 in
theorem aw_t13 : Cond.fieldLink R_X 17 "SealedTally" "p" "I" ∈ al_w := al_t 13 (by decide +kernel) (by decide +kernel)
set_option maxRecDepth 100000 in
theorem aw_t14 : Cond.fieldLink R_X 21 "SealedTally" "q" "I" ∈ al_w := al_t 14 (by decide +kernel) (by decide +kernel)
set_option maxRecDepth 100000 in
theorem aw_t15 : Cond.fieldLink R_X 24 "SealedTally" "n" "I" ∈ al_w := al_t 15 (by decide +kernel) (by decide +kernel)
set_option maxRecDepth 100000 in
theorem aw_t16 : Cond.fieldLink R_X 27 "SealedTally" "square" "J" ∈ al_w := al_t 16 (by decide +kernel) (by decide +kernel)
set_option maxRecDepth 100000 in
theorem aw_t17 : Cond.fieldLink R_X 31 "SealedTally" "coinCount" "J" ∈ al_w := al_t 17 (by decide +kernel) (by decide +kernel)
set_option maxRecDepth 100000 in
theorem aw_t18 : Cond.fieldLink R_X 38 "SealedTally" "coinCountInverse" "J" ∈ al_w := al_t 18 (by decide +kernel) (by decide +kernel)
set_option maxRecDepth 100000 in
theorem aw_t19 : Cond.fieldLink R_X 41 "SealedTally" "coinExponent" "J" ∈ al_w := al_t 19 (by decide +kernel) (by decide +kernel)
set_option maxRecDepth 100000 in
theorem aw_t20 : Cond.fieldLink R_X 44 "SealedTally" "candidates" "I" ∈ al_w := al_t 20 (by decide +kernel) (by decide +kernel)
set_option maxRecDepth 100000 in
theorem aw_t21 : Cond.fieldLink R_X 84 "SealedTally" "radix" "I" ∈ al_w := al_t 21 (by decide +kernel) (by decide +kernel)
set_option maxRecDepth 100000 in
theorem aw_t22 : Cond.fieldLink R_X 87 "SealedTally" "closed" "Z" ∈ al_w := al_t 22 (by decide +kernel) (by decide +kernel)
set_option maxRecDepth 100000 in
theorem aw_t23 : Cond.fieldLink R_X 124 "SealedTally" "total" "J" ∈ al_w := al_t 23 (by decide +kernel) (by decide +kernel)
set_option maxRecDepth 100000 in
theorem aw_t24 : Cond.fieldLink R_X 91 "SealedTally" "ballotCount" "I" ∈ al_w := al_t 24 (by decide +kernel) (by decide +kernel)
set_option maxRecDepth 100000 in
theorem aw_t25 : Cond.fieldLink R_X 9 "SealedTally" "ballotOf" "[J" ∈ al_w := al_t 25 (by decide +kernel) (by decide +kernel)
set_option maxRecDepth 100000 in
theorem aw_t53 : Cond.arrayClass (newarray.typeOf .long) ∈ al_w := al_t 53 (by decide +kernel) (by decide +kernel)
set_option maxRecDepth 100000 in
theorem aw_t54 : Cond.methodLink R_L 13 y_X_key ∈ al_w := al_t 54 (by decide +kernel) (by decide +kernel)
set_option maxRecDepth 100000 in
theorem aw_t55 : Cond.instanceMethod y_X_key ∈ al_w := al_t 55 (by decide +kernel) (by decide +kernel)
set_option maxRecDepth 100000 in
theorem aw_t56 : Cond.selects R_X y_X_key y_X_key ∈ al_w := al_t 56 (by decide +kernel) (by decide +kernel)
set_option maxRecDepth 100000 in
theorem aw_t58 : Cond.methodLink R_X 13 y_X_isKey ∈ al_w := al_t 58 (by decide +kernel) (by decide +kernel)
set_option maxRecDepth 100000 in
theorem aw_t59 : Cond.static y_X_isKey ∈ al_w := al_t 59 (by decide +kernel) (by decide +kernel)
set_option maxRecDepth 100000 in
theorem aw_t61 : Cond.methodLink R_X 127 y_X_isKeyPrime ∈ al_w := al_t 61 (by decide +kernel) (by decide +kernel)
set_option maxRecDepth 100000 in
theorem aw_t62 : Cond.static y_X_isKeyPrime ∈ al_w := al_t 62 (by decide +kernel) (by decide +kernel)
set_option maxRecDepth 100000 in
theorem aw_t64 : Cond.methodLink R_X 34 y_X_raised ∈ al_w := al_t 64 (by decide +kernel) (by decide +kernel)
set_option maxRecDepth 100000 in
theorem aw_t65 : Cond.static y_X_raised ∈ al_w := al_t 65 (by decide +kernel) (by decide +kernel)
set_option maxRecDepth 100000 in
theorem aw_t67 : Cond.methodLink R_L 18 y_X_modulus ∈ al_w := al_t 67 (by decide +kernel) (by decide +kernel)
set_option maxRecDepth 100000 in
theorem aw_t68 : Cond.instanceMethod y_X_modulus ∈ al_w := al_t 68 (by decide +kernel) (by decide +kernel)
set_option maxRecDepth 100000 in
theorem aw_t69 : Cond.selects R_X y_X_modulus y_X_modulus ∈ al_w := al_t 69 (by decide +kernel) (by decide +kernel)
set_option maxRecDepth 100000 in
theorem aw_t71 : Cond.methodLink R_L 25 y_X_seal ∈ al_w := al_t 71 (by decide +kernel) (by decide +kernel)
set_option maxRecDepth 100000 in
theorem aw_t72 : Cond.instanceMethod y_X_seal ∈ al_w := al_t 72 (by decide +kernel) (by decide +kernel)
set_option maxRecDepth 100000 in
theorem aw_t73 : Cond.selects R_X y_X_seal y_X_seal ∈ al_w := al_t 73 (by decide +kernel) (by decide +kernel)
set_option maxRecDepth 100000 in
theorem aw_t75 : Cond.methodLink R_X 47 y_X_hasKey ∈ al_w := al_t 75 (by decide +kernel) (by decide +kernel)
set_option maxRecDepth 100000 in
theorem aw_t77 : Cond.instanceMethod y_X_hasKey ∈ al_w := al_t 77 (by decide +kernel) (by decide +kernel)
set_option maxRecDepth 100000 in
theorem aw_t79 : Cond.constantLong R_X 51 (-1) ∈ al_w := al_t 79 (by decide +kernel) (by decide +kernel)
set_option maxRecDepth 100000 in
theorem aw_t80 : Cond.methodLink R_X 53 y_X_isMessage ∈ al_w := al_t 80 (by decide +kernel) (by decide +kernel)
set_option maxRecDepth 100000 in
theorem aw_t82 : Cond.instanceMethod y_X_isMessage ∈ al_w := al_t 82 (by decide +kernel) (by decide +kernel)
set_option maxRecDepth 100000 in
theorem aw_t84 : Cond.methodLink R_X 57 y_X_isCoin ∈ al_w := al_t 84 (by decide +kernel) (by decide +kernel)
set_option maxRecDepth 100000 in
theorem aw_t86 : Cond.instanceMethod y_X_isCoin ∈ al_w := al_t 86 (by decide +kernel) (by decide +kernel)
set_option maxRecDepth 100000 in
theorem aw_t88 : Cond.methodLink R_X 130 y_X_sharesNoFactor ∈ al_w := al_t 88 (by decide +kernel) (by decide +kernel)
set_option maxRecDepth 100000 in
theorem aw_t90 : Cond.instanceMethod y_X_sharesNoFactor ∈ al_w := al_t 90 (by decide +kernel) (by decide +kernel)
set_option maxRecDepth 100000 in
theorem aw_t92 : Cond.constantLong R_X 60 (-4) ∈ al_w := al_t 92 (by decide +kernel) (by decide +kernel)
set_option maxRecDepth 100000 in
theorem aw_t93 : Cond.methodLink R_X 62 y_X_sealing ∈ al_w := al_t 93 (by decide +kernel) (by decide +kernel)
set_option maxRecDepth 100000 in
theorem aw_t95 : Cond.instanceMethod y_X_sealing ∈ al_w := al_t 95 (by decide +kernel) (by decide +kernel)
set_option maxRecDepth 100000 in
theorem aw_t97 : Cond.methodLink R_L 30 y_X_message ∈ al_w := al_t 97 (by decide +kernel) (by decide +kernel)
set_option maxRecDepth 100000 in
theorem aw_t98 : Cond.instanceMethod y_X_message ∈ al_w := al_t 98 (by decide +kernel) (by decide +kernel)
set_option maxRecDepth 100000 in
theorem aw_t99 : Cond.selects R_X y_X_message y_X_message ∈ al_w := al_t 99 (by decide +kernel) (by decide +kernel)
set_option maxRecDepth 100000 in
theorem aw_t101 : Cond.methodLink R_X 66 y_X_isSeal ∈ al_w := al_t 101 (by decide +kernel) (by decide +kernel)
set_option maxRecDepth 100000 in
theorem aw_t103 : Cond.instanceMethod y_X_isSeal ∈ al_w := al_t 103 (by decide +kernel) (by decide +kernel)
set_option maxRecDepth 100000 in
theorem aw_t105 : Cond.methodLink R_X 69 y_X_messageIn ∈ al_w := al_t 105 (by decide +kernel) (by decide +kernel)
set_option maxRecDepth 100000 in
theorem aw_t107 : Cond.instanceMethod y_X_messageIn ∈ al_w := al_t 107 (by decide +kernel) (by decide +kernel)
set_option maxRecDepth 100000 in
theorem aw_t109 : Cond.methodLink R_L 35 y_X_coin ∈ al_w := al_t 109 (by decide +kernel) (by decide +kernel)
set_option maxRecDepth 100000 in
theorem aw_t110 : Cond.instanceMethod y_X_coin ∈ al_w := al_t 110 (by decide +kernel) (by decide +kernel)
set_option maxRecDepth 100000 in
theorem aw_t111 : Cond.selects R_X y_X_coin y_X_coin ∈ al_w := al_t 111 (by decide +kernel) (by decide +kernel)
set_option maxRecDepth 100000 in
theorem aw_t113 : Cond.methodLink R_X 73 y_X_coinIn ∈ al_w := al_t 113 (by decide +kernel) (by decide +kernel)
set_option maxRecDepth 100000 in
theorem aw_t115 : Cond.instanceMethod y_X_coinIn ∈ al_w := al_t 115 (by decide +kernel) (by decide +kernel)
set_option maxRecDepth 100000 in
theorem aw_t117 : Cond.methodLink R_L 39 y_X_join ∈ al_w := al_t 117 (by decide +kernel) (by decide +kernel)
set_option maxRecDepth 100000 in
theorem aw_t118 : Cond.instanceMethod y_X_join ∈ al_w := al_t 118 (by decide +kernel) (by decide +kernel)
set_option maxRecDepth 100000 in
theorem aw_t119 : Cond.selects R_X y_X_join y_X_join ∈ al_w := al_t 119 (by decide +kernel) (by decide +kernel)
set_option maxRecDepth 100000 in
theorem aw_t121 : Cond.methodLink R_L 43 y_X_power ∈ al_w := al_t 121 (by decide +kernel) (by decide +kernel)
set_option maxRecDepth 100000 in
theorem aw_t122 : Cond.instanceMethod y_X_power ∈ al_w := al_t 122 (by decide +kernel) (by decide +kernel)
set_option maxRecDepth 100000 in
theorem aw_t123 : Cond.selects R_X y_X_power y_X_power ∈ al_w := al_t 123 (by decide +kernel) (by decide +kernel)
set_option maxRecDepth 100000 in
theorem aw_t125 : Cond.methodLink R_X 76 y_J_floorMod ∈ al_w := al_t 125 (by decide +kernel) (by decide +kernel)
set_option maxRecDepth 100000 in
theorem aw_t126 : Cond.static y_J_floorMod ∈ al_w := al_t 126 (by decide +kernel) (by decide +kernel)
set_option maxRecDepth 100000 in
theorem aw_t128 : Cond.methodLink R_L 48 y_X_open ∈ al_w := al_t 128 (by decide +kernel) (by decide +kernel)
set_option maxRecDepth 100000 in
theorem aw_t129 : Cond.instanceMethod y_X_open ∈ al_w := al_t 129 (by decide +kernel) (by decide +kernel)
set_option maxRecDepth 100000 in
theorem aw_t130 : Cond.selects R_X y_X_open y_X_open ∈ al_w := al_t 130 (by decide +kernel) (by decide +kernel)
set_option maxRecDepth 100000 in
theorem aw_t132 : Cond.methodLink R_X 81 y_X_isBoxSize ∈ al_w := al_t 132 (by decide +kernel) (by decide +kernel)
set_option maxRecDepth 100000 in
theorem aw_t134 : Cond.instanceMethod y_X_isBoxSize ∈ al_w := al_t 134 (by decide +kernel) (by decide +kernel)
set_option maxRecDepth 100000 in
theorem aw_t136 : Cond.methodLink R_X 94 y_A_fill ∈ al_w := al_t 136 (by decide +kernel) (by decide +kernel)
set_option maxRecDepth 100000 in
theorem aw_t137 : Cond.static y_A_fill ∈ al_w := al_t 137 (by decide +kernel) (by decide +kernel)
set_option maxRecDepth 100000 in
theorem aw_t139 : Cond.methodLink R_L 53 y_X_choice ∈ al_w := al_t 139 (by decide +kernel) (by decide +kernel)
set_option maxRecDepth 100000 in
theorem aw_t140 : Cond.instanceMethod y_X_choice ∈ al_w := al_t 140 (by decide +kernel) (by decide +kernel)
set_option maxRecDepth 100000 in
theorem aw_t141 : Cond.selects R_X y_X_choice y_X_choice ∈ al_w := al_t 141 (by decide +kernel) (by decide +kernel)
set_option maxRecDepth 100000 in
theorem aw_t143 : Cond.methodLink R_X 100 y_X_hasBox ∈ al_w := al_t 143 (by decide +kernel) (by decide +kernel)
set_option maxRecDepth 100000 in
theorem aw_t145 : Cond.instanceMethod y_X_hasBox ∈ al_w := al_t 145 (by decide +kernel) (by decide +kernel)
set_option maxRecDepth 100000 in
theorem aw_t147 : Cond.constantLong R_X 103 (-2) ∈ al_w := al_t 147 (by decide +kernel) (by decide +kernel)
set_option maxRecDepth 100000 in
theorem aw_t148 : Cond.methodLink R_X 105 y_X_isCandidate ∈ al_w := al_t 148 (by decide +kernel) (by decide +kernel)
set_option maxRecDepth 100000 in
theorem aw_t150 : Cond.instanceMethod y_X_isCandidate ∈ al_w := al_t 150 (by decide +kernel) (by decide +kernel)
set_option maxRecDepth 100000 in
theorem aw_t152 : Cond.methodLink R_X 109 y_X_radixPower ∈ al_w := al_t 152 (by decide +kernel) (by decide +kernel)
set_option maxRecDepth 100000 in
theorem aw_t154 : Cond.instanceMethod y_X_radixPower ∈ al_w := al_t 154 (by decide +kernel) (by decide +kernel)
set_option maxRecDepth 100000 in
theorem aw_t156 : Cond.methodLink R_L 58 y_X_cast ∈ al_w := al_t 156 (by decide +kernel) (by decide +kernel)
set_option maxRecDepth 100000 in
theorem aw_t157 : Cond.instanceMethod y_X_cast ∈ al_w := al_t 157 (by decide +kernel) (by decide +kernel)
set_option maxRecDepth 100000 in
theorem aw_t158 : Cond.selects R_X y_X_cast y_X_cast ∈ al_w := al_t 158 (by decide +kernel) (by decide +kernel)
set_option maxRecDepth 100000 in
theorem aw_t160 : Cond.methodLink R_X 113 y_X_isVoter ∈ al_w := al_t 160 (by decide +kernel) (by decide +kernel)
set_option maxRecDepth 100000 in
theorem aw_t161 : Cond.static y_X_isVoter ∈ al_w := al_t 161 (by decide +kernel) (by decide +kernel)
set_option maxRecDepth 100000 in
theorem aw_t163 : Cond.methodLink R_L 63 y_X_withdraw ∈ al_w := al_t 163 (by decide +kernel) (by decide +kernel)
set_option maxRecDepth 100000 in
theorem aw_t164 : Cond.instanceMethod y_X_withdraw ∈ al_w := al_t 164 (by decide +kernel) (by decide +kernel)
set_option maxRecDepth 100000 in
theorem aw_t165 : Cond.selects R_X y_X_withdraw y_X_withdraw ∈ al_w := al_t 165 (by decide +kernel) (by decide +kernel)
set_option maxRecDepth 100000 in
theorem aw_t167 : Cond.constantLong R_X 116 (-3) ∈ al_w := al_t 167 (by decide +kernel) (by decide +kernel)
set_option maxRecDepth 100000 in
theorem aw_t168 : Cond.constantLong R_X 118 (-6) ∈ al_w := al_t 168 (by decide +kernel) (by decide +kernel)
set_option maxRecDepth 100000 in
theorem aw_t169 : Cond.methodLink R_L 68 y_X_ballot ∈ al_w := al_t 169 (by decide +kernel) (by decide +kernel)
set_option maxRecDepth 100000 in
theorem aw_t170 : Cond.instanceMethod y_X_ballot ∈ al_w := al_t 170 (by decide +kernel) (by decide +kernel)
set_option maxRecDepth 100000 in
theorem aw_t171 : Cond.selects R_X y_X_ballot y_X_ballot ∈ al_w := al_t 171 (by decide +kernel) (by decide +kernel)
set_option maxRecDepth 100000 in
theorem aw_t173 : Cond.methodLink R_L 72 y_X_ballots ∈ al_w := al_t 173 (by decide +kernel) (by decide +kernel)
set_option maxRecDepth 100000 in
theorem aw_t174 : Cond.instanceMethod y_X_ballots ∈ al_w := al_t 174 (by decide +kernel) (by decide +kernel)
set_option maxRecDepth 100000 in
theorem aw_t175 : Cond.selects R_X y_X_ballots y_X_ballots ∈ al_w := al_t 175 (by decide +kernel) (by decide +kernel)
set_option maxRecDepth 100000 in
theorem aw_t177 : Cond.methodLink R_L 76 y_X_sum ∈ al_w := al_t 177 (by decide +kernel) (by decide +kernel)
set_option maxRecDepth 100000 in
theorem aw_t178 : Cond.instanceMethod y_X_sum ∈ al_w := al_t 178 (by decide +kernel) (by decide +kernel)
set_option maxRecDepth 100000 in
theorem aw_t179 : Cond.selects R_X y_X_sum y_X_sum ∈ al_w := al_t 179 (by decide +kernel) (by decide +kernel)
set_option maxRecDepth 100000 in
theorem aw_t181 : Cond.methodLink R_X 120 y_X_productOfBallots ∈ al_w := al_t 181 (by decide +kernel) (by decide +kernel)
set_option maxRecDepth 100000 in
theorem aw_t183 : Cond.instanceMethod y_X_productOfBallots ∈ al_w := al_t 183 (by decide +kernel) (by decide +kernel)
set_option maxRecDepth 100000 in
theorem aw_t185 : Cond.methodLink R_L 81 y_X_close ∈ al_w := al_t 185 (by decide +kernel) (by decide +kernel)
set_option maxRecDepth 100000 in
theorem aw_t186 : Cond.instanceMethod y_X_close ∈ al_w := al_t 186 (by decide +kernel) (by decide +kernel)
set_option maxRecDepth 100000 in
theorem aw_t187 : Cond.selects R_X y_X_close y_X_close ∈ al_w := al_t 187 (by decide +kernel) (by decide +kernel)
set_option maxRecDepth 100000 in
theorem aw_t189 : Cond.methodLink R_L 85 y_X_votes ∈ al_w := al_t 189 (by decide +kernel) (by decide +kernel)
set_option maxRecDepth 100000 in
theorem aw_t190 : Cond.instanceMethod y_X_votes ∈ al_w := al_t 190 (by decide +kernel) (by decide +kernel)
set_option maxRecDepth 100000 in
theorem aw_t191 : Cond.selects R_X y_X_votes y_X_votes ∈ al_w := al_t 191 (by decide +kernel) (by decide +kernel)
set_option maxRecDepth 100000 in
theorem aw_t193 : Cond.methodLink R_L 90 y_X_witness ∈ al_w := al_t 193 (by decide +kernel) (by decide +kernel)
set_option maxRecDepth 100000 in
theorem aw_t194 : Cond.instanceMethod y_X_witness ∈ al_w := al_t 194 (by decide +kernel) (by decide +kernel)
set_option maxRecDepth 100000 in
theorem aw_t195 : Cond.selects R_X y_X_witness y_X_witness ∈ al_w := al_t 195 (by decide +kernel) (by decide +kernel)
set_option maxRecDepth 100000 in
theorem aw_t197 : Cond.methodLink R_L 94 y_X_check ∈ al_w := al_t 197 (by decide +kernel) (by decide +kernel)
set_option maxRecDepth 100000 in
theorem aw_t198 : Cond.instanceMethod y_X_check ∈ al_w := al_t 198 (by decide +kernel) (by decide +kernel)
set_option maxRecDepth 100000 in
theorem aw_t199 : Cond.selects R_X y_X_check y_X_check ∈ al_w := al_t 199 (by decide +kernel) (by decide +kernel)
set_option maxRecDepth 100000 in
theorem aw_t201 : Cond.classLink R_L 10 R_M ∈ al_w := al_t 201 (by decide +kernel) (by decide +kernel)
set_option maxRecDepth 100000 in
theorem aw_t202 : Cond.instantiable R_M 9 ∈ al_w := al_t 202 (by decide +kernel) (by decide +kernel)
set_option maxRecDepth 100000 in
theorem aw_t203 : Cond.methodLink R_L 12 y_M_init ∈ al_w := al_t 203 (by decide +kernel) (by decide +kernel)
set_option maxRecDepth 100000 in
theorem aw_t204 : Cond.instanceMethod y_M_init ∈ al_w := al_t 204 (by decide +kernel) (by decide +kernel)
set_option maxRecDepth 100000 in
theorem aw_t206 : Cond.methodLink R_M 1 objectInit ∈ al_w := al_t 206 (by decide +kernel) (by decide +kernel)
set_option maxRecDepth 100000 in
theorem aw_t207 : Cond.fieldLink R_M 17 "SealedTallyModel" "n" "J" ∈ al_w := al_t 207 (by decide +kernel) (by decide +kernel)
set_option maxRecDepth 100000 in
theorem aw_t208 : Cond.fieldLink R_M 21 "SealedTallyModel" "square" "J" ∈ al_w := al_t 208 (by decide +kernel) (by decide +kernel)
set_option maxRecDepth 100000 in
theorem aw_t209 : Cond.fieldLink R_M 24 "SealedTallyModel" "coins" "J" ∈ al_w := al_t 209 (by decide +kernel) (by decide +kernel)
set_option maxRecDepth 100000 in
theorem aw_t210 : Cond.fieldLink R_M 27 "SealedTallyModel" "undo" "J" ∈ al_w := al_t 210 (by decide +kernel) (by decide +kernel)
set_option maxRecDepth 100000 in
theorem aw_t211 : Cond.fieldLink R_M 30 "SealedTallyModel" "box" "Z" ∈ al_w := al_t 211 (by decide +kernel) (by decide +kernel)
set_option maxRecDepth 100000 in
theorem aw_t212 : Cond.fieldLink R_M 68 "SealedTallyModel" "closed" "Z" ∈ al_w := al_t 212 (by decide +kernel) (by decide +kernel)
set_option maxRecDepth 100000 in
theorem aw_t213 : Cond.fieldLink R_M 71 "SealedTallyModel" "candidates" "I" ∈ al_w := al_t 213 (by decide +kernel) (by decide +kernel)
set_option maxRecDepth 100000 in
theorem aw_t214 : Cond.fieldLink R_M 75 "SealedTallyModel" "radix" "I" ∈ al_w := al_t 214 (by decide +kernel) (by decide +kernel)
set_option maxRecDepth 100000 in
theorem aw_t215 : Cond.fieldLink R_M 7 "SealedTallyModel" "ballot" "[J" ∈ al_w := al_t 215 (by decide +kernel) (by decide +kernel)
set_option maxRecDepth 100000 in
theorem aw_t235 : Cond.methodLink R_L 17 y_M_key ∈ al_w := al_t 235 (by decide +kernel) (by decide +kernel)
set_option maxRecDepth 100000 in
theorem aw_t236 : Cond.instanceMethod y_M_key ∈ al_w := al_t 236 (by decide +kernel) (by decide +kernel)
set_option maxRecDepth 100000 in
theorem aw_t237 : Cond.selects R_M y_M_key y_M_key ∈ al_w := al_t 237 (by decide +kernel) (by decide +kernel)
set_option maxRecDepth 100000 in
theorem aw_t239 : Cond.methodLink R_M 13 y_M_prime ∈ al_w := al_t 239 (by decide +kernel) (by decide +kernel)
set_option maxRecDepth 100000 in
theorem aw_t240 : Cond.static y_M_prime ∈ al_w := al_t 240 (by decide +kernel) (by decide +kernel)
set_option maxRecDepth 100000 in
theorem aw_t242 : Cond.methodLink R_L 22 y_M_modulus ∈ al_w := al_t 242 (by decide +kernel) (by decide +kernel)
set_option maxRecDepth 100000 in
theorem aw_t243 : Cond.instanceMethod y_M_modulus ∈ al_w := al_t 243 (by decide +kernel) (by decide +kernel)
set_option maxRecDepth 100000 in
theorem aw_t244 : Cond.selects R_M y_M_modulus y_M_modulus ∈ al_w := al_t 244 (by decide +kernel) (by decide +kernel)
set_option maxRecDepth 100000 in
theorem aw_t246 : Cond.methodLink R_L 29 y_M_seal ∈ al_w := al_t 246 (by decide +kernel) (by decide +kernel)
set_option maxRecDepth 100000 in
theorem aw_t247 : Cond.instanceMethod y_M_seal ∈ al_w := al_t 247 (by decide +kernel) (by decide +kernel)
set_option maxRecDepth 100000 in
theorem aw_t248 : Cond.selects R_M y_M_seal y_M_seal ∈ al_w := al_t 248 (by decide +kernel) (by decide +kernel)
set_option maxRecDepth 100000 in
theorem aw_t250 : Cond.constantLong R_M 48 (-1) ∈ al_w := al_t 250 (by decide +kernel) (by decide +kernel)
set_option maxRecDepth 100000 in
theorem aw_t251 : Cond.methodLink R_M 50 y_M_isMessage ∈ al_w := al_t 251 (by decide +kernel) (by decide +kernel)
set_option maxRecDepth 100000 in
theorem aw_t253 : Cond.instanceMethod y_M_isMessage ∈ al_w := al_t 253 (by decide +kernel) (by decide +kernel)
set_option maxRecDepth 100000 in
theorem aw_t255 : Cond.methodLink R_M 54 y_M_isCoin ∈ al_w := al_t 255 (by decide +kernel) (by decide +kernel)
set_option maxRecDepth 100000 in
theorem aw_t257 : Cond.instanceMethod y_M_isCoin ∈ al_w := al_t 257 (by decide +kernel) (by decide +kernel)
set_option maxRecDepth 100000 in
theorem aw_t259 : Cond.methodLink R_M 34 y_M_factor ∈ al_w := al_t 259 (by decide +kernel) (by decide +kernel)
set_option maxRecDepth 100000 in
theorem aw_t260 : Cond.static y_M_factor ∈ al_w := al_t 260 (by decide +kernel) (by decide +kernel)
set_option maxRecDepth 100000 in
theorem aw_t262 : Cond.methodLink R_M 57 y_M_sealing ∈ al_w := al_t 262 (by decide +kernel) (by decide +kernel)
set_option maxRecDepth 100000 in
theorem aw_t264 : Cond.instanceMethod y_M_sealing ∈ al_w := al_t 264 (by decide +kernel) (by decide +kernel)
set_option maxRecDepth 100000 in
theorem aw_t266 : Cond.methodLink R_M 40 y_M_raise ∈ al_w := al_t 266 (by decide +kernel) (by decide +kernel)
set_option maxRecDepth 100000 in
theorem aw_t267 : Cond.static y_M_raise ∈ al_w := al_t 267 (by decide +kernel) (by decide +kernel)
set_option maxRecDepth 100000 in
theorem aw_t269 : Cond.constantLong R_M 38 (lN 2) ∈ al_w := al_t 269 (by decide +kernel) (by decide +kernel)
set_option maxRecDepth 100000 in
theorem aw_t270 : Cond.constantLong R_M 60 (-4) ∈ al_w := al_t 270 (by decide +kernel) (by decide +kernel)
set_option maxRecDepth 100000 in
theorem aw_t271 : Cond.methodLink R_L 34 y_M_message ∈ al_w := al_t 271 (by decide +kernel) (by decide +kernel)
set_option maxRecDepth 100000 in
theorem aw_t272 : Cond.instanceMethod y_M_message ∈ al_w := al_t 272 (by decide +kernel) (by decide +kernel)
set_option maxRecDepth 100000 in
theorem aw_t273 : Cond.selects R_M y_M_message y_M_message ∈ al_w := al_t 273 (by decide +kernel) (by decide +kernel)
set_option maxRecDepth 100000 in
theorem aw_t275 : Cond.methodLink R_M 62 y_M_isSeal ∈ al_w := al_t 275 (by decide +kernel) (by decide +kernel)
set_option maxRecDepth 100000 in
theorem aw_t277 : Cond.instanceMethod y_M_isSeal ∈ al_w := al_t 277 (by decide +kernel) (by decide +kernel)
set_option maxRecDepth 100000 in
theorem aw_t279 : Cond.methodLink R_M 65 y_M_messageIn ∈ al_w := al_t 279 (by decide +kernel) (by decide +kernel)
set_option maxRecDepth 100000 in
theorem aw_t281 : Cond.instanceMethod y_M_messageIn ∈ al_w := al_t 281 (by decide +kernel) (by decide +kernel)
set_option maxRecDepth 100000 in
theorem aw_t283 : Cond.methodLink R_M 44 y_M_coinIn ∈ al_w := al_t 283 (by decide +kernel) (by decide +kernel)
set_option maxRecDepth 100000 in
theorem aw_t285 : Cond.instanceMethod y_M_coinIn ∈ al_w := al_t 285 (by decide +kernel) (by decide +kernel)
set_option maxRecDepth 100000 in
theorem aw_t287 : Cond.methodLink R_L 38 y_M_coin ∈ al_w := al_t 287 (by decide +kernel) (by decide +kernel)
set_option maxRecDepth 100000 in
theorem aw_t288 : Cond.instanceMethod y_M_coin ∈ al_w := al_t 288 (by decide +kernel) (by decide +kernel)
set_option maxRecDepth 100000 in
theorem aw_t289 : Cond.selects R_M y_M_coin y_M_coin ∈ al_w := al_t 289 (by decide +kernel) (by decide +kernel)
set_option maxRecDepth 100000 in
theorem aw_t291 : Cond.methodLink R_L 42 y_M_join ∈ al_w := al_t 291 (by decide +kernel) (by decide +kernel)
set_option maxRecDepth 100000 in
theorem aw_t292 : Cond.instanceMethod y_M_join ∈ al_w := al_t 292 (by decide +kernel) (by decide +kernel)
set_option maxRecDepth 100000 in
theorem aw_t293 : Cond.selects R_M y_M_join y_M_join ∈ al_w := al_t 293 (by decide +kernel) (by decide +kernel)
set_option maxRecDepth 100000 in
theorem aw_t295 : Cond.methodLink R_L 47 y_M_power ∈ al_w := al_t 295 (by decide +kernel) (by decide +kernel)
set_option maxRecDepth 100000 in
theorem aw_t296 : Cond.instanceMethod y_M_power ∈ al_w := al_t 296 (by decide +kernel) (by decide +kernel)
set_option maxRecDepth 100000 in
theorem aw_t297 : Cond.selects R_M y_M_power y_M_power ∈ al_w := al_t 297 (by decide +kernel) (by decide +kernel)
set_option maxRecDepth 100000 in
theorem aw_t299 : Cond.methodLink R_L 52 y_M_open ∈ al_w := al_t 299 (by decide +kernel) (by decide +kernel)
set_option maxRecDepth 100000 in
theorem aw_t300 : Cond.instanceMethod y_M_open ∈ al_w := al_t 300 (by decide +kernel) (by decide +kernel)
set_option maxRecDepth 100000 in
theorem aw_t301 : Cond.selects R_M y_M_open y_M_open ∈ al_w := al_t 301 (by decide +kernel) (by decide +kernel)
set_option maxRecDepth 100000 in
theorem aw_t303 : Cond.methodLink R_L 57 y_M_choice ∈ al_w := al_t 303 (by decide +kernel) (by decide +kernel)
set_option maxRecDepth 100000 in
theorem aw_t304 : Cond.instanceMethod y_M_choice ∈ al_w := al_t 304 (by decide +kernel) (by decide +kernel)
set_option maxRecDepth 100000 in
theorem aw_t305 : Cond.selects R_M y_M_choice y_M_choice ∈ al_w := al_t 305 (by decide +kernel) (by decide +kernel)
set_option maxRecDepth 100000 in
theorem aw_t307 : Cond.constantLong R_M 78 (-2) ∈ al_w := al_t 307 (by decide +kernel) (by decide +kernel)
set_option maxRecDepth 100000 in
theorem aw_t308 : Cond.methodLink R_M 80 y_M_place ∈ al_w := al_t 308 (by decide +kernel) (by decide +kernel)
set_option maxRecDepth 100000 in
theorem aw_t310 : Cond.instanceMethod y_M_place ∈ al_w := al_t 310 (by decide +kernel) (by decide +kernel)
set_option maxRecDepth 100000 in
theorem aw_t312 : Cond.methodLink R_L 62 y_M_cast ∈ al_w := al_t 312 (by decide +kernel) (by decide +kernel)
set_option maxRecDepth 100000 in
theorem aw_t313 : Cond.instanceMethod y_M_cast ∈ al_w := al_t 313 (by decide +kernel) (by decide +kernel)
set_option maxRecDepth 100000 in
theorem aw_t314 : Cond.selects R_M y_M_cast y_M_cast ∈ al_w := al_t 314 (by decide +kernel) (by decide +kernel)
set_option maxRecDepth 100000 in
theorem aw_t316 : Cond.methodLink R_M 84 y_M_count ∈ al_w := al_t 316 (by decide +kernel) (by decide +kernel)
set_option maxRecDepth 100000 in
theorem aw_t318 : Cond.instanceMethod y_M_count ∈ al_w := al_t 318 (by decide +kernel) (by decide +kernel)
set_option maxRecDepth 100000 in
theorem aw_t320 : Cond.methodLink R_L 67 y_M_withdraw ∈ al_w := al_t 320 (by decide +kernel) (by decide +kernel)
set_option maxRecDepth 100000 in
theorem aw_t321 : Cond.instanceMethod y_M_withdraw ∈ al_w := al_t 321 (by decide +kernel) (by decide +kernel)
set_option maxRecDepth 100000 in
theorem aw_t322 : Cond.selects R_M y_M_withdraw y_M_withdraw ∈ al_w := al_t 322 (by decide +kernel) (by decide +kernel)
set_option maxRecDepth 100000 in
theorem aw_t324 : Cond.constantLong R_M 88 (-3) ∈ al_w := al_t 324 (by decide +kernel) (by decide +kernel)
set_option maxRecDepth 100000 in
theorem aw_t325 : Cond.constantLong R_M 90 (-6) ∈ al_w := al_t 325 (by decide +kernel) (by decide +kernel)
set_option maxRecDepth 100000 in
theorem aw_t326 : Cond.methodLink R_L 71 y_M_ballot ∈ al_w := al_t 326 (by decide +kernel) (by decide +kernel)
set_option maxRecDepth 100000 in
theorem aw_t327 : Cond.instanceMethod y_M_ballot ∈ al_w := al_t 327 (by decide +kernel) (by decide +kernel)
set_option maxRecDepth 100000 in
theorem aw_t328 : Cond.selects R_M y_M_ballot y_M_ballot ∈ al_w := al_t 328 (by decide +kernel) (by decide +kernel)
set_option maxRecDepth 100000 in
theorem aw_t330 : Cond.methodLink R_L 75 y_M_ballots ∈ al_w := al_t 330 (by decide +kernel) (by decide +kernel)
set_option maxRecDepth 100000 in
theorem aw_t331 : Cond.instanceMethod y_M_ballots ∈ al_w := al_t 331 (by decide +kernel) (by decide +kernel)
set_option maxRecDepth 100000 in
theorem aw_t332 : Cond.selects R_M y_M_ballots y_M_ballots ∈ al_w := al_t 332 (by decide +kernel) (by decide +kernel)
set_option maxRecDepth 100000 in
theorem aw_t334 : Cond.methodLink R_L 80 y_M_sum ∈ al_w := al_t 334 (by decide +kernel) (by decide +kernel)
set_option maxRecDepth 100000 in
theorem aw_t335 : Cond.instanceMethod y_M_sum ∈ al_w := al_t 335 (by decide +kernel) (by decide +kernel)
set_option maxRecDepth 100000 in
theorem aw_t336 : Cond.selects R_M y_M_sum y_M_sum ∈ al_w := al_t 336 (by decide +kernel) (by decide +kernel)
set_option maxRecDepth 100000 in
theorem aw_t338 : Cond.methodLink R_M 92 y_M_product ∈ al_w := al_t 338 (by decide +kernel) (by decide +kernel)
set_option maxRecDepth 100000 in
theorem aw_t340 : Cond.instanceMethod y_M_product ∈ al_w := al_t 340 (by decide +kernel) (by decide +kernel)
set_option maxRecDepth 100000 in
theorem aw_t342 : Cond.methodLink R_L 84 y_M_close ∈ al_w := al_t 342 (by decide +kernel) (by decide +kernel)
set_option maxRecDepth 100000 in
theorem aw_t343 : Cond.instanceMethod y_M_close ∈ al_w := al_t 343 (by decide +kernel) (by decide +kernel)
set_option maxRecDepth 100000 in
theorem aw_t344 : Cond.selects R_M y_M_close y_M_close ∈ al_w := al_t 344 (by decide +kernel) (by decide +kernel)
set_option maxRecDepth 100000 in
theorem aw_t346 : Cond.methodLink R_L 89 y_M_votes ∈ al_w := al_t 346 (by decide +kernel) (by decide +kernel)
set_option maxRecDepth 100000 in
theorem aw_t347 : Cond.instanceMethod y_M_votes ∈ al_w := al_t 347 (by decide +kernel) (by decide +kernel)
set_option maxRecDepth 100000 in
theorem aw_t348 : Cond.selects R_M y_M_votes y_M_votes ∈ al_w := al_t 348 (by decide +kernel) (by decide +kernel)
set_option maxRecDepth 100000 in
theorem aw_t350 : Cond.methodLink R_L 93 y_M_witness ∈ al_w := al_t 350 (by decide +kernel) (by decide +kernel)
set_option maxRecDepth 100000 in
theorem aw_t351 : Cond.instanceMethod y_M_witness ∈ al_w := al_t 351 (by decide +kernel) (by decide +kernel)
set_option maxRecDepth 100000 in
theorem aw_t352 : Cond.selects R_M y_M_witness y_M_witness ∈ al_w := al_t 352 (by decide +kernel) (by decide +kernel)
set_option maxRecDepth 100000 in
theorem aw_t354 : Cond.methodLink R_L 98 y_M_check ∈ al_w := al_t 354 (by decide +kernel) (by decide +kernel)
set_option maxRecDepth 100000 in
theorem aw_t355 : Cond.instanceMethod y_M_check ∈ al_w := al_t 355 (by decide +kernel) (by decide +kernel)
set_option maxRecDepth 100000 in
theorem aw_t356 : Cond.selects R_M y_M_check y_M_check ∈ al_w := al_t 356 (by decide +kernel) (by decide +kernel)
set_option maxRecDepth 100000 in
theorem aw_t358 : Cond.constantLong R_L 23 (lN 4294967295) ∈ al_w := al_t 358 (by decide +kernel) (by decide +kernel)
set_option maxRecDepth 100000 in
theorem aw_p0 : Cond.selects R_X y_X_hasKey y_X_hasKey ∈ al_w := al_p 0 (by decide +kernel) (by decide +kernel)
set_option maxRecDepth 100000 in
theorem aw_p1 : Cond.selects R_X y_X_isMessage y_X_isMessage ∈ al_w := al_p 1 (by decide +kernel) (by decide +kernel)
set_option maxRecDepth 100000 in
theorem aw_p2 : Cond.selects R_X y_X_isCoin y_X_isCoin ∈ al_w := al_p 2 (by decide +kernel) (by decide +kernel)
set_option maxRecDepth 100000 in
theorem aw_p3 : Cond.selects R_X y_X_sharesNoFactor y_X_sharesNoFactor ∈ al_w := al_p 3 (by decide +kernel) (by decide +kernel)
set_option maxRecDepth 100000 in
theorem aw_p4 : Cond.selects R_X y_X_sealing y_X_sealing ∈ al_w := al_p 4 (by decide +kernel) (by decide +kernel)
set_option maxRecDepth 100000 in
theorem aw_p5 : Cond.selects R_X y_X_isSeal y_X_isSeal ∈ al_w := al_p 5 (by decide +kernel) (by decide +kernel)
set_option maxRecDepth 100000 in
theorem aw_p6 : Cond.selects R_X y_X_messageIn y_X_messageIn ∈ al_w := al_p 6 (by decide +kernel) (by decide +kernel)
set_option maxRecDepth 100000 in
theorem aw_p7 : Cond.selects R_X y_X_coinIn y_X_coinIn ∈ al_w := al_p 7 (by decide +kernel) (by decide +kernel)
set_option maxRecDepth 100000 in
theorem aw_p8 : Cond.selects R_X y_X_isBoxSize y_X_isBoxSize ∈ al_w := al_p 8 (by decide +kernel) (by decide +kernel)
set_option maxRecDepth 100000 in
theorem aw_p9 : Cond.selects R_X y_X_hasBox y_X_hasBox ∈ al_w := al_p 9 (by decide +kernel) (by decide +kernel)
set_option maxRecDepth 100000 in
theorem aw_p10 : Cond.selects R_X y_X_isCandidate y_X_isCandidate ∈ al_w := al_p 10 (by decide +kernel) (by decide +kernel)
set_option maxRecDepth 100000 in
theorem aw_p11 : Cond.selects R_X y_X_radixPower y_X_radixPower ∈ al_w := al_p 11 (by decide +kernel) (by decide +kernel)
set_option maxRecDepth 100000 in
theorem aw_p12 : Cond.selects R_X y_X_productOfBallots y_X_productOfBallots ∈ al_w := al_p 12 (by decide +kernel) (by decide +kernel)
set_option maxRecDepth 100000 in
theorem aw_p13 : Cond.selects R_M y_M_isMessage y_M_isMessage ∈ al_w := al_p 13 (by decide +kernel) (by decide +kernel)
set_option maxRecDepth 100000 in
theorem aw_p14 : Cond.selects R_M y_M_isCoin y_M_isCoin ∈ al_w := al_p 14 (by decide +kernel) (by decide +kernel)
set_option maxRecDepth 100000 in
theorem aw_p15 : Cond.selects R_M y_M_sealing y_M_sealing ∈ al_w := al_p 15 (by decide +kernel) (by decide +kernel)
set_option maxRecDepth 100000 in
theorem aw_p16 : Cond.selects R_M y_M_isSeal y_M_isSeal ∈ al_w := al_p 16 (by decide +kernel) (by decide +kernel)
set_option maxRecDepth 100000 in
theorem aw_p17 : Cond.selects R_M y_M_messageIn y_M_messageIn ∈ al_w := al_p 17 (by decide +kernel) (by decide +kernel)
set_option maxRecDepth 100000 in
theorem aw_p18 : Cond.selects R_M y_M_coinIn y_M_coinIn ∈ al_w := al_p 18 (by decide +kernel) (by decide +kernel)
set_option maxRecDepth 100000 in
theorem aw_p19 : Cond.selects R_M y_M_place y_M_place ∈ al_w := al_p 19 (by decide +kernel) (by decide +kernel)
set_option maxRecDepth 100000 in
theorem aw_p20 : Cond.selects R_M y_M_count y_M_count ∈ al_w := al_p 20 (by decide +kernel) (by decide +kernel)
set_option maxRecDepth 100000 in
theorem aw_p21 : Cond.selects R_M y_M_product y_M_product ∈ al_w := al_p 21 (by decide +kernel) (by decide +kernel)
set_option maxRecDepth 100000 in
theorem k_X_init : Cond.code y_X_init b_X_init 1 (none) ∈ al_w := al_t 9 rfl rfl
set_option maxRecDepth 100000 in
theorem k_X_key : Cond.code y_X_key b_X_key 3 (some .int) ∈ al_w := al_t 57 rfl rfl
set_option maxRecDepth 100000 in
theorem k_X_isKey : Cond.code y_X_isKey b_X_isKey 2 (some .boolean) ∈ al_w := al_t 60 rfl rfl
set_option maxRecDepth 100000 in
theorem k_X_isKeyPrime : Cond.code y_X_isKeyPrime b_X_isKeyPrime 2 (some .boolean) ∈ al_w := al_t 63 rfl rfl
set_option maxRecDepth 100000 in
theorem k_X_raised : Cond.code y_X_raised b_X_raised 11 (some .long) ∈ al_w := al_t 66 rfl rfl
set_option maxRecDepth 100000 in
theorem k_X_modulus : Cond.code y_X_modulus b_X_modulus 1 (some .int) ∈ al_w := al_t 70 rfl rfl
set_option maxRecDepth 100000 in
theorem k_X_seal : Cond.code y_X_seal b_X_seal 5 (some .long) ∈ al_w := al_t 74 rfl rfl
set_option maxRecDepth 100000 in
theorem k_X_hasKey : Cond.code y_X_hasKey b_X_hasKey 1 (some .boolean) ∈ al_w := al_t 78 rfl rfl
set_option maxRecDepth 100000 in
theorem k_X_isMessage : Cond.code y_X_isMessage b_X_isMessage 3 (some .boolean) ∈ al_w := al_t 83 rfl rfl
set_option maxRecDepth 100000 in
theorem k_X_isCoin : Cond.code y_X_isCoin b_X_isCoin 3 (some .boolean) ∈ al_w := al_t 87 rfl rfl
set_option maxRecDepth 100000 in
theorem k_X_sharesNoFactor : Cond.code y_X_sharesNoFactor b_X_sharesNoFactor 3 (some .boolean) ∈ al_w := al_t 91 rfl rfl
set_option maxRecDepth 100000 in
theorem k_X_sealing : Cond.code y_X_sealing b_X_sealing 5 (some .long) ∈ al_w := al_t 96 rfl rfl
set_option maxRecDepth 100000 in
theorem k_X_message : Cond.code y_X_message b_X_message 3 (some .long) ∈ al_w := al_t 100 rfl rfl
set_option maxRecDepth 100000 in
theorem k_X_isSeal : Cond.code y_X_isSeal b_X_isSeal 3 (some .boolean) ∈ al_w := al_t 104 rfl rfl
set_option maxRecDepth 100000 in
theorem k_X_messageIn : Cond.code y_X_messageIn b_X_messageIn 5 (some .long) ∈ al_w := al_t 108 rfl rfl
set_option maxRecDepth 100000 in
theorem k_X_coin : Cond.code y_X_coin b_X_coin 3 (some .long) ∈ al_w := al_t 112 rfl rfl
set_option maxRecDepth 100000 in
theorem k_X_coinIn : Cond.code y_X_coinIn b_X_coinIn 3 (some .long) ∈ al_w := al_t 116 rfl rfl
set_option maxRecDepth 100000 in
theorem k_X_join : Cond.code y_X_join b_X_join 5 (some .long) ∈ al_w := al_t 120 rfl rfl
set_option maxRecDepth 100000 in
theorem k_X_power : Cond.code y_X_power b_X_power 6 (some .long) ∈ al_w := al_t 124 rfl rfl
set_option maxRecDepth 100000 in
theorem k_J_floorMod : Cond.code y_J_floorMod b_J_floorMod 6 (some .long) ∈ al_w := al_t 127 rfl rfl
set_option maxRecDepth 100000 in
theorem k_X_open : Cond.code y_X_open b_X_open 3 (some .boolean) ∈ al_w := al_t 131 rfl rfl
set_option maxRecDepth 100000 in
theorem k_X_isBoxSize : Cond.code y_X_isBoxSize b_X_isBoxSize 6 (some .boolean) ∈ al_w := al_t 135 rfl rfl
set_option maxRecDepth 100000 in
theorem k_A_fill : Cond.code y_A_fill b_A_fill 5 (none) ∈ al_w := al_t 138 rfl rfl
set_option maxRecDepth 100000 in
theorem k_X_choice : Cond.code y_X_choice b_X_choice 4 (some .long) ∈ al_w := al_t 142 rfl rfl
set_option maxRecDepth 100000 in
theorem k_X_hasBox : Cond.code y_X_hasBox b_X_hasBox 1 (some .boolean) ∈ al_w := al_t 146 rfl rfl
set_option maxRecDepth 100000 in
theorem k_X_isCandidate : Cond.code y_X_isCandidate b_X_isCandidate 2 (some .boolean) ∈ al_w := al_t 151 rfl rfl
set_option maxRecDepth 100000 in
theorem k_X_radixPower : Cond.code y_X_radixPower b_X_radixPower 5 (some .long) ∈ al_w := al_t 155 rfl rfl
set_option maxRecDepth 100000 in
theorem k_X_cast : Cond.code y_X_cast b_X_cast 5 (some .int) ∈ al_w := al_t 159 rfl rfl
set_option maxRecDepth 100000 in
theorem k_X_isVoter : Cond.code y_X_isVoter b_X_isVoter 1 (some .boolean) ∈ al_w := al_t 162 rfl rfl
set_option maxRecDepth 100000 in
theorem k_X_withdraw : Cond.code y_X_withdraw b_X_withdraw 4 (some .long) ∈ al_w := al_t 166 rfl rfl
set_option maxRecDepth 100000 in
theorem k_X_ballot : Cond.code y_X_ballot b_X_ballot 2 (some .long) ∈ al_w := al_t 172 rfl rfl
set_option maxRecDepth 100000 in
theorem k_X_ballots : Cond.code y_X_ballots b_X_ballots 1 (some .int) ∈ al_w := al_t 176 rfl rfl
set_option maxRecDepth 100000 in
theorem k_X_sum : Cond.code y_X_sum b_X_sum 1 (some .long) ∈ al_w := al_t 180 rfl rfl
set_option maxRecDepth 100000 in
theorem k_X_productOfBallots : Cond.code y_X_productOfBallots b_X_productOfBallots 4 (some .long) ∈ al_w := al_t 184 rfl rfl
set_option maxRecDepth 100000 in
theorem k_X_close : Cond.code y_X_close b_X_close 1 (some .long) ∈ al_w := al_t 188 rfl rfl
set_option maxRecDepth 100000 in
theorem k_X_votes : Cond.code y_X_votes b_X_votes 2 (some .int) ∈ al_w := al_t 192 rfl rfl
set_option maxRecDepth 100000 in
theorem k_X_witness : Cond.code y_X_witness b_X_witness 1 (some .long) ∈ al_w := al_t 196 rfl rfl
set_option maxRecDepth 100000 in
theorem k_X_check : Cond.code y_X_check b_X_check 5 (some .boolean) ∈ al_w := al_t 200 rfl rfl
set_option maxRecDepth 100000 in
theorem k_M_init : Cond.code y_M_init b_M_init 1 (none) ∈ al_w := al_t 205 rfl rfl
set_option maxRecDepth 100000 in
theorem k_M_key : Cond.code y_M_key b_M_key 5 (some .int) ∈ al_w := al_t 238 rfl rfl
set_option maxRecDepth 100000 in
theorem k_M_prime : Cond.code y_M_prime b_M_prime 3 (some .boolean) ∈ al_w := al_t 241 rfl rfl
set_option maxRecDepth 100000 in
theorem k_M_modulus : Cond.code y_M_modulus b_M_modulus 1 (some .int) ∈ al_w := al_t 245 rfl rfl
set_option maxRecDepth 100000 in
theorem k_M_seal : Cond.code y_M_seal b_M_seal 5 (some .long) ∈ al_w := al_t 249 rfl rfl
set_option maxRecDepth 100000 in
theorem k_M_isMessage : Cond.code y_M_isMessage b_M_isMessage 3 (some .boolean) ∈ al_w := al_t 254 rfl rfl
set_option maxRecDepth 100000 in
theorem k_M_isCoin : Cond.code y_M_isCoin b_M_isCoin 3 (some .boolean) ∈ al_w := al_t 258 rfl rfl
set_option maxRecDepth 100000 in
theorem k_M_factor : Cond.code y_M_factor b_M_factor 10 (some .long) ∈ al_w := al_t 261 rfl rfl
set_option maxRecDepth 100000 in
theorem k_M_sealing : Cond.code y_M_sealing b_M_sealing 7 (some .long) ∈ al_w := al_t 265 rfl rfl
set_option maxRecDepth 100000 in
theorem k_M_raise : Cond.code y_M_raise b_M_raise 12 (some .long) ∈ al_w := al_t 268 rfl rfl
set_option maxRecDepth 100000 in
theorem k_M_message : Cond.code y_M_message b_M_message 3 (some .long) ∈ al_w := al_t 274 rfl rfl
set_option maxRecDepth 100000 in
theorem k_M_isSeal : Cond.code y_M_isSeal b_M_isSeal 3 (some .boolean) ∈ al_w := al_t 278 rfl rfl
set_option maxRecDepth 100000 in
theorem k_M_messageIn : Cond.code y_M_messageIn b_M_messageIn 11 (some .long) ∈ al_w := al_t 282 rfl rfl
set_option maxRecDepth 100000 in
theorem k_M_coinIn : Cond.code y_M_coinIn b_M_coinIn 3 (some .long) ∈ al_w := al_t 286 rfl rfl
set_option maxRecDepth 100000 in
theorem k_M_coin : Cond.code y_M_coin b_M_coin 3 (some .long) ∈ al_w := al_t 290 rfl rfl
set_option maxRecDepth 100000 in
theorem k_M_join : Cond.code y_M_join b_M_join 5 (some .long) ∈ al_w := al_t 294 rfl rfl
set_option maxRecDepth 100000 in
theorem k_M_power : Cond.code y_M_power b_M_power 8 (some .long) ∈ al_w := al_t 298 rfl rfl
set_option maxRecDepth 100000 in
theorem k_M_open : Cond.code y_M_open b_M_open 6 (some .boolean) ∈ al_w := al_t 302 rfl rfl
set_option maxRecDepth 100000 in
theorem k_M_choice : Cond.code y_M_choice b_M_choice 4 (some .long) ∈ al_w := al_t 306 rfl rfl
set_option maxRecDepth 100000 in
theorem k_M_place : Cond.code y_M_place b_M_place 5 (some .long) ∈ al_w := al_t 311 rfl rfl
set_option maxRecDepth 100000 in
theorem k_M_cast : Cond.code y_M_cast b_M_cast 5 (some .int) ∈ al_w := al_t 315 rfl rfl
set_option maxRecDepth 100000 in
theorem k_M_count : Cond.code y_M_count b_M_count 3 (some .int) ∈ al_w := al_t 319 rfl rfl
set_option maxRecDepth 100000 in
theorem k_M_withdraw : Cond.code y_M_withdraw b_M_withdraw 4 (some .long) ∈ al_w := al_t 323 rfl rfl
set_option maxRecDepth 100000 in
theorem k_M_ballot : Cond.code y_M_ballot b_M_ballot 2 (some .long) ∈ al_w := al_t 329 rfl rfl
set_option maxRecDepth 100000 in
theorem k_M_ballots : Cond.code y_M_ballots b_M_ballots 1 (some .int) ∈ al_w := al_t 333 rfl rfl
set_option maxRecDepth 100000 in
theorem k_M_sum : Cond.code y_M_sum b_M_sum 1 (some .long) ∈ al_w := al_t 337 rfl rfl
set_option maxRecDepth 100000 in
theorem k_M_product : Cond.code y_M_product b_M_product 4 (some .long) ∈ al_w := al_t 341 rfl rfl
set_option maxRecDepth 100000 in
theorem k_M_close : Cond.code y_M_close b_M_close 1 (some .long) ∈ al_w := al_t 345 rfl rfl
set_option maxRecDepth 100000 in
theorem k_M_votes : Cond.code y_M_votes b_M_votes 4 (some .int) ∈ al_w := al_t 349 rfl rfl
set_option maxRecDepth 100000 in
theorem k_M_witness : Cond.code y_M_witness b_M_witness 1 (some .long) ∈ al_w := al_t 353 rfl rfl
set_option maxRecDepth 100000 in
theorem k_M_check : Cond.code y_M_check b_M_check 5 (some .boolean) ∈ al_w := al_t 357 rfl rfl
set_option maxRecDepth 100000 in
theorem k_Object_init : Cond.code objectInit ⟨#[0xb1]⟩ 1 none ∈ al_w := al_t 12 rfl rfl
end
section
theorem d_X_init_0 : decode b_X_init 0 = .ok (.aload_n 0, 1) := by decide +kernel
theorem d_X_init_1 : decode b_X_init 1 = .ok (.invokespecial 1, 3) := by decide +kernel
theorem d_X_init_4 : decode b_X_init 4 = .ok (.aload_n 0, 1) := by decide +kernel
theorem d_X_init_5 : decode b_X_init 5 = .ok (.bipush 30, 2) := by decide +kernel
theorem d_X_init_7 : decode b_X_init 7 = .ok (.newarray .long, 2) := by decide +kernel
theorem d_X_init_9 : decode b_X_init 9 = .ok (.putfield 9, 3) := by decide +kernel
theorem d_X_init_12 : decode b_X_init 12 = .ok (.return_, 1) := by decide +kernel
theorem d_X_key_0 : decode b_X_key 0 = .ok (.iload_n 1, 1) := by decide +kernel
theorem d_X_key_1 : decode b_X_key 1 = .ok (.iload_n 2, 1) := by decide +kernel
theorem d_X_key_2 : decode b_X_key 2 = .ok (.invokestatic 13, 3) := by decide +kernel
theorem d_X_key_5 : decode b_X_key 5 = .ok (.ifCond .ne 6, 3) := by decide +kernel
theorem d_X_key_8 : decode b_X_key 8 = .ok (.bipush (-4), 2) := by decide +kernel
theorem d_X_key_10 : decode b_X_key 10 = .ok (.ireturn, 1) := by decide +kernel
theorem d_X_key_11 : decode b_X_key 11 = .ok (.aload_n 0, 1) := by decide +kernel
theorem d_X_key_12 : decode b_X_key 12 = .ok (.iload_n 1, 1) := by decide +kernel
theorem d_X_key_13 : decode b_X_key 13 = .ok (.putfield 17, 3) := by decide +kernel
theorem d_X_key_16 : decode b_X_key 16 = .ok (.aload_n 0, 1) := by decide +kernel
theorem d_X_key_17 : decode b_X_key 17 = .ok (.iload_n 2, 1) := by decide +kernel
theorem d_X_key_18 : decode b_X_key 18 = .ok (.putfield 21, 3) := by decide +kernel
theorem d_X_key_21 : decode b_X_key 21 = .ok (.aload_n 0, 1) := by decide +kernel
theorem d_X_key_22 : decode b_X_key 22 = .ok (.iload_n 1, 1) := by decide +kernel
theorem d_X_key_23 : decode b_X_key 23 = .ok (.iload_n 2, 1) := by decide +kernel
theorem d_X_key_24 : decode b_X_key 24 = .ok (.imul, 1) := by decide +kernel
theorem d_X_key_25 : decode b_X_key 25 = .ok (.putfield 24, 3) := by decide +kernel
theorem d_X_key_28 : decode b_X_key 28 = .ok (.aload_n 0, 1) := by decide +kernel
theorem d_X_key_29 : decode b_X_key 29 = .ok (.aload_n 0, 1) := by decide +kernel
theorem d_X_key_30 : decode b_X_key 30 = .ok (.getfield 24, 3) := by decide +kernel
theorem d_X_key_33 : decode b_X_key 33 = .ok (.i2l, 1) := by decide +kernel
theorem d_X_key_34 : decode b_X_key 34 = .ok (.aload_n 0, 1) := by decide +kernel
theorem d_X_key_35 : decode b_X_key 35 = .ok (.getfield 24, 3) := by decide +kernel
theorem d_X_key_38 : decode b_X_key 38 = .ok (.i2l, 1) := by decide +kernel
theorem d_X_key_39 : decode b_X_key 39 = .ok (.lmul, 1) := by decide +kernel
theorem d_X_key_40 : decode b_X_key 40 = .ok (.putfield 27, 3) := by decide +kernel
theorem d_X_key_43 : decode b_X_key 43 = .ok (.aload_n 0, 1) := by decide +kernel
theorem d_X_key_44 : decode b_X_key 44 = .ok (.iload_n 1, 1) := by decide +kernel
theorem d_X_key_45 : decode b_X_key 45 = .ok (.iconst 1, 1) := by decide +kernel
theorem d_X_key_46 : decode b_X_key 46 = .ok (.isub, 1) := by decide +kernel
theorem d_X_key_47 : decode b_X_key 47 = .ok (.i2l, 1) := by decide +kernel
theorem d_X_key_48 : decode b_X_key 48 = .ok (.iload_n 2, 1) := by decide +kernel
theorem d_X_key_49 : decode b_X_key 49 = .ok (.iconst 1, 1) := by decide +kernel
theorem d_X_key_50 : decode b_X_key 50 = .ok (.isub, 1) := by decide +kernel
theorem d_X_key_51 : decode b_X_key 51 = .ok (.i2l, 1) := by decide +kernel
theorem d_X_key_52 : decode b_X_key 52 = .ok (.lmul, 1) := by decide +kernel
theorem d_X_key_53 : decode b_X_key 53 = .ok (.putfield 31, 3) := by decide +kernel
theorem d_X_key_56 : decode b_X_key 56 = .ok (.aload_n 0, 1) := by decide +kernel
theorem d_X_key_57 : decode b_X_key 57 = .ok (.aload_n 0, 1) := by decide +kernel
theorem d_X_key_58 : decode b_X_key 58 = .ok (.getfield 31, 3) := by decide +kernel
theorem d_X_key_61 : decode b_X_key 61 = .ok (.aload_n 0, 1) := by decide +kernel
theorem d_X_key_62 : decode b_X_key 62 = .ok (.getfield 31, 3) := by decide +kernel
theorem d_X_key_65 : decode b_X_key 65 = .ok (.lconst 1, 1) := by decide +kernel
theorem d_X_key_66 : decode b_X_key 66 = .ok (.lsub, 1) := by decide +kernel
theorem d_X_key_67 : decode b_X_key 67 = .ok (.aload_n 0, 1) := by decide +kernel
theorem d_X_key_68 : decode b_X_key 68 = .ok (.getfield 24, 3) := by decide +kernel
theorem d_X_key_71 : decode b_X_key 71 = .ok (.i2l, 1) := by decide +kernel
theorem d_X_key_72 : decode b_X_key 72 = .ok (.invokestatic 34, 3) := by decide +kernel
theorem d_X_key_75 : decode b_X_key 75 = .ok (.putfield 38, 3) := by decide +kernel
theorem d_X_key_78 : decode b_X_key 78 = .ok (.aload_n 0, 1) := by decide +kernel
theorem d_X_key_79 : decode b_X_key 79 = .ok (.aload_n 0, 1) := by decide +kernel
theorem d_X_key_80 : decode b_X_key 80 = .ok (.getfield 31, 3) := by decide +kernel
theorem d_X_key_83 : decode b_X_key 83 = .ok (.aload_n 0, 1) := by decide +kernel
theorem d_X_key_84 : decode b_X_key 84 = .ok (.getfield 31, 3) := by decide +kernel
theorem d_X_key_87 : decode b_X_key 87 = .ok (.aload_n 0, 1) := by decide +kernel
theorem d_X_key_88 : decode b_X_key 88 = .ok (.getfield 38, 3) := by decide +kernel
theorem d_X_key_91 : decode b_X_key 91 = .ok (.lmul, 1) := by decide +kernel
theorem d_X_key_92 : decode b_X_key 92 = .ok (.lconst 1, 1) := by decide +kernel
theorem d_X_key_93 : decode b_X_key 93 = .ok (.lsub, 1) := by decide +kernel
theorem d_X_key_94 : decode b_X_key 94 = .ok (.aload_n 0, 1) := by decide +kernel
theorem d_X_key_95 : decode b_X_key 95 = .ok (.getfield 24, 3) := by decide +kernel
theorem d_X_key_98 : decode b_X_key 98 = .ok (.i2l, 1) := by decide +kernel
theorem d_X_key_99 : decode b_X_key 99 = .ok (.ldiv, 1) := by decide +kernel
theorem d_X_key_100 : decode b_X_key 100 = .ok (.lsub, 1) := by decide +kernel
theorem d_X_key_101 : decode b_X_key 101 = .ok (.putfield 41, 3) := by decide +kernel
theorem d_X_key_104 : decode b_X_key 104 = .ok (.aload_n 0, 1) := by decide +kernel
theorem d_X_key_105 : decode b_X_key 105 = .ok (.iconst 0, 1) := by decide +kernel
theorem d_X_key_106 : decode b_X_key 106 = .ok (.putfield 44, 3) := by decide +kernel
theorem d_X_key_109 : decode b_X_key 109 = .ok (.aload_n 0, 1) := by decide +kernel
theorem d_X_key_110 : decode b_X_key 110 = .ok (.getfield 24, 3) := by decide +kernel
theorem d_X_key_113 : decode b_X_key 113 = .ok (.ireturn, 1) := by decide +kernel
theorem d_X_isKey_0 : decode b_X_isKey 0 = .ok (.iload_n 0, 1) := by decide +kernel
theorem d_X_isKey_1 : decode b_X_isKey 1 = .ok (.invokestatic 127, 3) := by decide +kernel
theorem d_X_isKey_4 : decode b_X_isKey 4 = .ok (.ifCond .eq 35, 3) := by decide +kernel
theorem d_X_isKey_7 : decode b_X_isKey 7 = .ok (.iload_n 1, 1) := by decide +kernel
theorem d_X_isKey_8 : decode b_X_isKey 8 = .ok (.invokestatic 127, 3) := by decide +kernel
theorem d_X_isKey_11 : decode b_X_isKey 11 = .ok (.ifCond .eq 28, 3) := by decide +kernel
theorem d_X_isKey_14 : decode b_X_isKey 14 = .ok (.iload_n 0, 1) := by decide +kernel
theorem d_X_isKey_15 : decode b_X_isKey 15 = .ok (.iload_n 1, 1) := by decide +kernel
theorem d_X_isKey_16 : decode b_X_isKey 16 = .ok (.if_icmp .eq 23, 3) := by decide +kernel
theorem d_X_isKey_19 : decode b_X_isKey 19 = .ok (.iload_n 1, 1) := by decide +kernel
theorem d_X_isKey_20 : decode b_X_isKey 20 = .ok (.iconst 1, 1) := by decide +kernel
theorem d_X_isKey_21 : decode b_X_isKey 21 = .ok (.isub, 1) := by decide +kernel
theorem d_X_isKey_22 : decode b_X_isKey 22 = .ok (.iload_n 0, 1) := by decide +kernel
theorem d_X_isKey_23 : decode b_X_isKey 23 = .ok (.irem, 1) := by decide +kernel
theorem d_X_isKey_24 : decode b_X_isKey 24 = .ok (.ifCond .eq 15, 3) := by decide +kernel
theorem d_X_isKey_27 : decode b_X_isKey 27 = .ok (.iload_n 0, 1) := by decide +kernel
theorem d_X_isKey_28 : decode b_X_isKey 28 = .ok (.iconst 1, 1) := by decide +kernel
theorem d_X_isKey_29 : decode b_X_isKey 29 = .ok (.isub, 1) := by decide +kernel
theorem d_X_isKey_30 : decode b_X_isKey 30 = .ok (.iload_n 1, 1) := by decide +kernel
theorem d_X_isKey_31 : decode b_X_isKey 31 = .ok (.irem, 1) := by decide +kernel
theorem d_X_isKey_32 : decode b_X_isKey 32 = .ok (.ifCond .eq 7, 3) := by decide +kernel
theorem d_X_isKey_35 : decode b_X_isKey 35 = .ok (.iconst 1, 1) := by decide +kernel
theorem d_X_isKey_36 : decode b_X_isKey 36 = .ok (.goto 4, 3) := by decide +kernel
theorem d_X_isKey_39 : decode b_X_isKey 39 = .ok (.iconst 0, 1) := by decide +kernel
theorem d_X_isKey_40 : decode b_X_isKey 40 = .ok (.ireturn, 1) := by decide +kernel
theorem d_X_isKeyPrime_0 : decode b_X_isKeyPrime 0 = .ok (.iload_n 0, 1) := by decide +kernel
theorem d_X_isKeyPrime_1 : decode b_X_isKeyPrime 1 = .ok (.iconst 3, 1) := by decide +kernel
theorem d_X_isKeyPrime_2 : decode b_X_isKeyPrime 2 = .ok (.if_icmp .lt 10, 3) := by decide +kernel
theorem d_X_isKeyPrime_5 : decode b_X_isKeyPrime 5 = .ok (.iload_n 0, 1) := by decide +kernel
theorem d_X_isKeyPrime_6 : decode b_X_isKeyPrime 6 = .ok (.sipush 229, 3) := by decide +kernel
theorem d_X_isKeyPrime_9 : decode b_X_isKeyPrime 9 = .ok (.if_icmp .le 5, 3) := by decide +kernel
theorem d_X_isKeyPrime_12 : decode b_X_isKeyPrime 12 = .ok (.iconst 0, 1) := by decide +kernel
theorem d_X_isKeyPrime_13 : decode b_X_isKeyPrime 13 = .ok (.ireturn, 1) := by decide +kernel
theorem d_X_isKeyPrime_14 : decode b_X_isKeyPrime 14 = .ok (.iconst 2, 1) := by decide +kernel
theorem d_X_isKeyPrime_15 : decode b_X_isKeyPrime 15 = .ok (.istore_n 1, 1) := by decide +kernel
theorem d_X_isKeyPrime_16 : decode b_X_isKeyPrime 16 = .ok (.iload_n 1, 1) := by decide +kernel
theorem d_X_isKeyPrime_17 : decode b_X_isKeyPrime 17 = .ok (.iload_n 0, 1) := by decide +kernel
theorem d_X_isKeyPrime_18 : decode b_X_isKeyPrime 18 = .ok (.if_icmp .ge 17, 3) := by decide +kernel
theorem d_X_isKeyPrime_21 : decode b_X_isKeyPrime 21 = .ok (.iload_n 0, 1) := by decide +kernel
theorem d_X_isKeyPrime_22 : decode b_X_isKeyPrime 22 = .ok (.iload_n 1, 1) := by decide +kernel
theorem d_X_isKeyPrime_23 : decode b_X_isKeyPrime 23 = .ok (.irem, 1) := by decide +kernel
theorem d_X_isKeyPrime_24 : decode b_X_isKeyPrime 24 = .ok (.ifCond .ne 5, 3) := by decide +kernel
theorem d_X_isKeyPrime_27 : decode b_X_isKeyPrime 27 = .ok (.iconst 0, 1) := by decide +kernel
theorem d_X_isKeyPrime_28 : decode b_X_isKeyPrime 28 = .ok (.ireturn, 1) := by decide +kernel
theorem d_X_isKeyPrime_29 : decode b_X_isKeyPrime 29 = .ok (.iinc 1 1, 3) := by decide +kernel
theorem d_X_isKeyPrime_32 : decode b_X_isKeyPrime 32 = .ok (.goto (-16), 3) := by decide +kernel
theorem d_X_isKeyPrime_35 : decode b_X_isKeyPrime 35 = .ok (.iconst 1, 1) := by decide +kernel
theorem d_X_isKeyPrime_36 : decode b_X_isKeyPrime 36 = .ok (.ireturn, 1) := by decide +kernel
theorem d_X_raised_0 : decode b_X_raised 0 = .ok (.lconst 1, 1) := by decide +kernel
theorem d_X_raised_1 : decode b_X_raised 1 = .ok (.lstore 6, 2) := by decide +kernel
theorem d_X_raised_3 : decode b_X_raised 3 = .ok (.lload_n 0, 1) := by decide +kernel
theorem d_X_raised_4 : decode b_X_raised 4 = .ok (.lstore 8, 2) := by decide +kernel
theorem d_X_raised_6 : decode b_X_raised 6 = .ok (.iconst 0, 1) := by decide +kernel
theorem d_X_raised_7 : decode b_X_raised 7 = .ok (.istore 10, 2) := by decide +kernel
theorem d_X_raised_9 : decode b_X_raised 9 = .ok (.iload 10, 2) := by decide +kernel
theorem d_X_raised_11 : decode b_X_raised 11 = .ok (.bipush 32, 2) := by decide +kernel
theorem d_X_raised_13 : decode b_X_raised 13 = .ok (.if_icmp .ge 40, 3) := by decide +kernel
theorem d_X_raised_16 : decode b_X_raised 16 = .ok (.lload_n 2, 1) := by decide +kernel
theorem d_X_raised_17 : decode b_X_raised 17 = .ok (.iload 10, 2) := by decide +kernel
theorem d_X_raised_19 : decode b_X_raised 19 = .ok (.lshr, 1) := by decide +kernel
theorem d_X_raised_20 : decode b_X_raised 20 = .ok (.lconst 1, 1) := by decide +kernel
theorem d_X_raised_21 : decode b_X_raised 21 = .ok (.land, 1) := by decide +kernel
theorem d_X_raised_22 : decode b_X_raised 22 = .ok (.lconst 1, 1) := by decide +kernel
theorem d_X_raised_23 : decode b_X_raised 23 = .ok (.lcmp, 1) := by decide +kernel
theorem d_X_raised_24 : decode b_X_raised 24 = .ok (.ifCond .ne 13, 3) := by decide +kernel
theorem d_X_raised_27 : decode b_X_raised 27 = .ok (.lload 6, 2) := by decide +kernel
theorem d_X_raised_29 : decode b_X_raised 29 = .ok (.lload 8, 2) := by decide +kernel
theorem d_X_raised_31 : decode b_X_raised 31 = .ok (.lmul, 1) := by decide +kernel
theorem d_X_raised_32 : decode b_X_raised 32 = .ok (.lload 4, 2) := by decide +kernel
theorem d_X_raised_34 : decode b_X_raised 34 = .ok (.lrem, 1) := by decide +kernel
theorem d_X_raised_35 : decode b_X_raised 35 = .ok (.lstore 6, 2) := by decide +kernel
theorem d_X_raised_37 : decode b_X_raised 37 = .ok (.lload 8, 2) := by decide +kernel
theorem d_X_raised_39 : decode b_X_raised 39 = .ok (.lload 8, 2) := by decide +kernel
theorem d_X_raised_41 : decode b_X_raised 41 = .ok (.lmul, 1) := by decide +kernel
theorem d_X_raised_42 : decode b_X_raised 42 = .ok (.lload 4, 2) := by decide +kernel
theorem d_X_raised_44 : decode b_X_raised 44 = .ok (.lrem, 1) := by decide +kernel
theorem d_X_raised_45 : decode b_X_raised 45 = .ok (.lstore 8, 2) := by decide +kernel
theorem d_X_raised_47 : decode b_X_raised 47 = .ok (.iinc 10 1, 3) := by decide +kernel
theorem d_X_raised_50 : decode b_X_raised 50 = .ok (.goto (-41), 3) := by decide +kernel
theorem d_X_raised_53 : decode b_X_raised 53 = .ok (.lload 6, 2) := by decide +kernel
theorem d_X_raised_55 : decode b_X_raised 55 = .ok (.lreturn, 1) := by decide +kernel
theorem d_X_modulus_0 : decode b_X_modulus 0 = .ok (.aload_n 0, 1) := by decide +kernel
theorem d_X_modulus_1 : decode b_X_modulus 1 = .ok (.getfield 24, 3) := by decide +kernel
theorem d_X_modulus_4 : decode b_X_modulus 4 = .ok (.ireturn, 1) := by decide +kernel
theorem d_X_seal_0 : decode b_X_seal 0 = .ok (.aload_n 0, 1) := by decide +kernel
theorem d_X_seal_1 : decode b_X_seal 1 = .ok (.invokevirtual 47, 3) := by decide +kernel
theorem d_X_seal_4 : decode b_X_seal 4 = .ok (.ifCond .ne 7, 3) := by decide +kernel
theorem d_X_seal_7 : decode b_X_seal 7 = .ok (.ldc2_w 51, 3) := by decide +kernel
theorem d_X_seal_10 : decode b_X_seal 10 = .ok (.lreturn, 1) := by decide +kernel
theorem d_X_seal_11 : decode b_X_seal 11 = .ok (.aload_n 0, 1) := by decide +kernel
theorem d_X_seal_12 : decode b_X_seal 12 = .ok (.lload_n 1, 1) := by decide +kernel
theorem d_X_seal_13 : decode b_X_seal 13 = .ok (.invokevirtual 53, 3) := by decide +kernel
theorem d_X_seal_16 : decode b_X_seal 16 = .ok (.ifCond .eq 11, 3) := by decide +kernel
theorem d_X_seal_19 : decode b_X_seal 19 = .ok (.aload_n 0, 1) := by decide +kernel
theorem d_X_seal_20 : decode b_X_seal 20 = .ok (.lload_n 3, 1) := by decide +kernel
theorem d_X_seal_21 : decode b_X_seal 21 = .ok (.invokevirtual 57, 3) := by decide +kernel
theorem d_X_seal_24 : decode b_X_seal 24 = .ok (.ifCond .ne 7, 3) := by decide +kernel
theorem d_X_seal_27 : decode b_X_seal 27 = .ok (.ldc2_w 60, 3) := by decide +kernel
theorem d_X_seal_30 : decode b_X_seal 30 = .ok (.lreturn, 1) := by decide +kernel
theorem d_X_seal_31 : decode b_X_seal 31 = .ok (.aload_n 0, 1) := by decide +kernel
theorem d_X_seal_32 : decode b_X_seal 32 = .ok (.lload_n 1, 1) := by decide +kernel
theorem d_X_seal_33 : decode b_X_seal 33 = .ok (.lload_n 3, 1) := by decide +kernel
theorem d_X_seal_34 : decode b_X_seal 34 = .ok (.invokevirtual 62, 3) := by decide +kernel
theorem d_X_seal_37 : decode b_X_seal 37 = .ok (.lreturn, 1) := by decide +kernel
theorem d_X_hasKey_0 : decode b_X_hasKey 0 = .ok (.aload_n 0, 1) := by decide +kernel
theorem d_X_hasKey_1 : decode b_X_hasKey 1 = .ok (.getfield 24, 3) := by decide +kernel
theorem d_X_hasKey_4 : decode b_X_hasKey 4 = .ok (.ifCond .le 7, 3) := by decide +kernel
theorem d_X_hasKey_7 : decode b_X_hasKey 7 = .ok (.iconst 1, 1) := by decide +kernel
theorem d_X_hasKey_8 : decode b_X_hasKey 8 = .ok (.goto 4, 3) := by decide +kernel
theorem d_X_hasKey_11 : decode b_X_hasKey 11 = .ok (.iconst 0, 1) := by decide +kernel
theorem d_X_hasKey_12 : decode b_X_hasKey 12 = .ok (.ireturn, 1) := by decide +kernel
theorem d_X_isMessage_0 : decode b_X_isMessage 0 = .ok (.lload_n 1, 1) := by decide +kernel
theorem d_X_isMessage_1 : decode b_X_isMessage 1 = .ok (.lconst 0, 1) := by decide +kernel
theorem d_X_isMessage_2 : decode b_X_isMessage 2 = .ok (.lcmp, 1) := by decide +kernel
theorem d_X_isMessage_3 : decode b_X_isMessage 3 = .ok (.ifCond .lt 17, 3) := by decide +kernel
theorem d_X_isMessage_6 : decode b_X_isMessage 6 = .ok (.lload_n 1, 1) := by decide +kernel
theorem d_X_isMessage_7 : decode b_X_isMessage 7 = .ok (.aload_n 0, 1) := by decide +kernel
theorem d_X_isMessage_8 : decode b_X_isMessage 8 = .ok (.getfield 24, 3) := by decide +kernel
theorem d_X_isMessage_11 : decode b_X_isMessage 11 = .ok (.i2l, 1) := by decide +kernel
theorem d_X_isMessage_12 : decode b_X_isMessage 12 = .ok (.lcmp, 1) := by decide +kernel
theorem d_X_isMessage_13 : decode b_X_isMessage 13 = .ok (.ifCond .ge 7, 3) := by decide +kernel
theorem d_X_isMessage_16 : decode b_X_isMessage 16 = .ok (.iconst 1, 1) := by decide +kernel
theorem d_X_isMessage_17 : decode b_X_isMessage 17 = .ok (.goto 4, 3) := by decide +kernel
theorem d_X_isMessage_20 : decode b_X_isMessage 20 = .ok (.iconst 0, 1) := by decide +kernel
theorem d_X_isMessage_21 : decode b_X_isMessage 21 = .ok (.ireturn, 1) := by decide +kernel
theorem d_X_isCoin_0 : decode b_X_isCoin 0 = .ok (.lload_n 1, 1) := by decide +kernel
theorem d_X_isCoin_1 : decode b_X_isCoin 1 = .ok (.lconst 1, 1) := by decide +kernel
theorem d_X_isCoin_2 : decode b_X_isCoin 2 = .ok (.lcmp, 1) := by decide +kernel
theorem d_X_isCoin_3 : decode b_X_isCoin 3 = .ok (.ifCond .lt 25, 3) := by decide +kernel
theorem d_X_isCoin_6 : decode b_X_isCoin 6 = .ok (.lload_n 1, 1) := by decide +kernel
theorem d_X_isCoin_7 : decode b_X_isCoin 7 = .ok (.aload_n 0, 1) := by decide +kernel
theorem d_X_isCoin_8 : decode b_X_isCoin 8 = .ok (.getfield 24, 3) := by decide +kernel
theorem d_X_isCoin_11 : decode b_X_isCoin 11 = .ok (.i2l, 1) := by decide +kernel
theorem d_X_isCoin_12 : decode b_X_isCoin 12 = .ok (.lcmp, 1) := by decide +kernel
theorem d_X_isCoin_13 : decode b_X_isCoin 13 = .ok (.ifCond .ge 15, 3) := by decide +kernel
theorem d_X_isCoin_16 : decode b_X_isCoin 16 = .ok (.aload_n 0, 1) := by decide +kernel
theorem d_X_isCoin_17 : decode b_X_isCoin 17 = .ok (.lload_n 1, 1) := by decide +kernel
theorem d_X_isCoin_18 : decode b_X_isCoin 18 = .ok (.invokevirtual 130, 3) := by decide +kernel
theorem d_X_isCoin_21 : decode b_X_isCoin 21 = .ok (.ifCond .eq 7, 3) := by decide +kernel
theorem d_X_isCoin_24 : decode b_X_isCoin 24 = .ok (.iconst 1, 1) := by decide +kernel
theorem d_X_isCoin_25 : decode b_X_isCoin 25 = .ok (.goto 4, 3) := by decide +kernel
theorem d_X_isCoin_28 : decode b_X_isCoin 28 = .ok (.iconst 0, 1) := by decide +kernel
theorem d_X_isCoin_29 : decode b_X_isCoin 29 = .ok (.ireturn, 1) := by decide +kernel
theorem d_X_sharesNoFactor_0 : decode b_X_sharesNoFactor 0 = .ok (.aload_n 0, 1) := by decide +kernel
theorem d_X_sharesNoFactor_1 : decode b_X_sharesNoFactor 1 = .ok (.invokevirtual 47, 3) := by decide +kernel
theorem d_X_sharesNoFactor_4 : decode b_X_sharesNoFactor 4 = .ok (.ifCond .eq 31, 3) := by decide +kernel
theorem d_X_sharesNoFactor_7 : decode b_X_sharesNoFactor 7 = .ok (.lload_n 1, 1) := by decide +kernel
theorem d_X_sharesNoFactor_8 : decode b_X_sharesNoFactor 8 = .ok (.aload_n 0, 1) := by decide +kernel
theorem d_X_sharesNoFactor_9 : decode b_X_sharesNoFactor 9 = .ok (.getfield 17, 3) := by decide +kernel
theorem d_X_sharesNoFactor_12 : decode b_X_sharesNoFactor 12 = .ok (.i2l, 1) := by decide +kernel
theorem d_X_sharesNoFactor_13 : decode b_X_sharesNoFactor 13 = .ok (.lrem, 1) := by decide +kernel
theorem d_X_sharesNoFactor_14 : decode b_X_sharesNoFactor 14 = .ok (.lconst 0, 1) := by decide +kernel
theorem d_X_sharesNoFactor_15 : decode b_X_sharesNoFactor 15 = .ok (.lcmp, 1) := by decide +kernel
theorem d_X_sharesNoFactor_16 : decode b_X_sharesNoFactor 16 = .ok (.ifCond .eq 19, 3) := by decide +kernel
theorem d_X_sharesNoFactor_19 : decode b_X_sharesNoFactor 19 = .ok (.lload_n 1, 1) := by decide +kernel
theorem d_X_sharesNoFactor_20 : decode b_X_sharesNoFactor 20 = .ok (.aload_n 0, 1) := by decide +kernel
theorem d_X_sharesNoFactor_21 : decode b_X_sharesNoFactor 21 = .ok (.getfield 21, 3) := by decide +kernel
theorem d_X_sharesNoFactor_24 : decode b_X_sharesNoFactor 24 = .ok (.i2l, 1) := by decide +kernel
theorem d_X_sharesNoFactor_25 : decode b_X_sharesNoFactor 25 = .ok (.lrem, 1) := by decide +kernel
theorem d_X_sharesNoFactor_26 : decode b_X_sharesNoFactor 26 = .ok (.lconst 0, 1) := by decide +kernel
theorem d_X_sharesNoFactor_27 : decode b_X_sharesNoFactor 27 = .ok (.lcmp, 1) := by decide +kernel
theorem d_X_sharesNoFactor_28 : decode b_X_sharesNoFactor 28 = .ok (.ifCond .eq 7, 3) := by decide +kernel
theorem d_X_sharesNoFactor_31 : decode b_X_sharesNoFactor 31 = .ok (.iconst 1, 1) := by decide +kernel
theorem d_X_sharesNoFactor_32 : decode b_X_sharesNoFactor 32 = .ok (.goto 4, 3) := by decide +kernel
theorem d_X_sharesNoFactor_35 : decode b_X_sharesNoFactor 35 = .ok (.iconst 0, 1) := by decide +kernel
theorem d_X_sharesNoFactor_36 : decode b_X_sharesNoFactor 36 = .ok (.ireturn, 1) := by decide +kernel
theorem d_X_sealing_0 : decode b_X_sealing 0 = .ok (.lconst 1, 1) := by decide +kernel
theorem d_X_sealing_1 : decode b_X_sealing 1 = .ok (.lload_n 1, 1) := by decide +kernel
theorem d_X_sealing_2 : decode b_X_sealing 2 = .ok (.aload_n 0, 1) := by decide +kernel
theorem d_X_sealing_3 : decode b_X_sealing 3 = .ok (.getfield 24, 3) := by decide +kernel
theorem d_X_sealing_6 : decode b_X_sealing 6 = .ok (.i2l, 1) := by decide +kernel
theorem d_X_sealing_7 : decode b_X_sealing 7 = .ok (.lmul, 1) := by decide +kernel
theorem d_X_sealing_8 : decode b_X_sealing 8 = .ok (.ladd, 1) := by decide +kernel
theorem d_X_sealing_9 : decode b_X_sealing 9 = .ok (.lload_n 3, 1) := by decide +kernel
theorem d_X_sealing_10 : decode b_X_sealing 10 = .ok (.aload_n 0, 1) := by decide +kernel
theorem d_X_sealing_11 : decode b_X_sealing 11 = .ok (.getfield 24, 3) := by decide +kernel
theorem d_X_sealing_14 : decode b_X_sealing 14 = .ok (.i2l, 1) := by decide +kernel
theorem d_X_sealing_15 : decode b_X_sealing 15 = .ok (.aload_n 0, 1) := by decide +kernel
theorem d_X_sealing_16 : decode b_X_sealing 16 = .ok (.getfield 27, 3) := by decide +kernel
theorem d_X_sealing_19 : decode b_X_sealing 19 = .ok (.invokestatic 34, 3) := by decide +kernel
theorem d_X_sealing_22 : decode b_X_sealing 22 = .ok (.lmul, 1) := by decide +kernel
theorem d_X_sealing_23 : decode b_X_sealing 23 = .ok (.aload_n 0, 1) := by decide +kernel
theorem d_X_sealing_24 : decode b_X_sealing 24 = .ok (.getfield 27, 3) := by decide +kernel
theorem d_X_sealing_27 : decode b_X_sealing 27 = .ok (.lrem, 1) := by decide +kernel
theorem d_X_sealing_28 : decode b_X_sealing 28 = .ok (.lreturn, 1) := by decide +kernel
theorem d_X_message_0 : decode b_X_message 0 = .ok (.aload_n 0, 1) := by decide +kernel
theorem d_X_message_1 : decode b_X_message 1 = .ok (.invokevirtual 47, 3) := by decide +kernel
theorem d_X_message_4 : decode b_X_message 4 = .ok (.ifCond .ne 7, 3) := by decide +kernel
theorem d_X_message_7 : decode b_X_message 7 = .ok (.ldc2_w 51, 3) := by decide +kernel
theorem d_X_message_10 : decode b_X_message 10 = .ok (.lreturn, 1) := by decide +kernel
theorem d_X_message_11 : decode b_X_message 11 = .ok (.aload_n 0, 1) := by decide +kernel
theorem d_X_message_12 : decode b_X_message 12 = .ok (.lload_n 1, 1) := by decide +kernel
theorem d_X_message_13 : decode b_X_message 13 = .ok (.invokevirtual 66, 3) := by decide +kernel
theorem d_X_message_16 : decode b_X_message 16 = .ok (.ifCond .ne 7, 3) := by decide +kernel
theorem d_X_message_19 : decode b_X_message 19 = .ok (.ldc2_w 60, 3) := by decide +kernel
theorem d_X_message_22 : decode b_X_message 22 = .ok (.lreturn, 1) := by decide +kernel
theorem d_X_message_23 : decode b_X_message 23 = .ok (.aload_n 0, 1) := by decide +kernel
theorem d_X_message_24 : decode b_X_message 24 = .ok (.lload_n 1, 1) := by decide +kernel
theorem d_X_message_25 : decode b_X_message 25 = .ok (.invokevirtual 69, 3) := by decide +kernel
theorem d_X_message_28 : decode b_X_message 28 = .ok (.lreturn, 1) := by decide +kernel
theorem d_X_isSeal_0 : decode b_X_isSeal 0 = .ok (.lload_n 1, 1) := by decide +kernel
theorem d_X_isSeal_1 : decode b_X_isSeal 1 = .ok (.lconst 1, 1) := by decide +kernel
theorem d_X_isSeal_2 : decode b_X_isSeal 2 = .ok (.lcmp, 1) := by decide +kernel
theorem d_X_isSeal_3 : decode b_X_isSeal 3 = .ok (.ifCond .lt 24, 3) := by decide +kernel
theorem d_X_isSeal_6 : decode b_X_isSeal 6 = .ok (.lload_n 1, 1) := by decide +kernel
theorem d_X_isSeal_7 : decode b_X_isSeal 7 = .ok (.aload_n 0, 1) := by decide +kernel
theorem d_X_isSeal_8 : decode b_X_isSeal 8 = .ok (.getfield 27, 3) := by decide +kernel
theorem d_X_isSeal_11 : decode b_X_isSeal 11 = .ok (.lcmp, 1) := by decide +kernel
theorem d_X_isSeal_12 : decode b_X_isSeal 12 = .ok (.ifCond .ge 15, 3) := by decide +kernel
theorem d_X_isSeal_15 : decode b_X_isSeal 15 = .ok (.aload_n 0, 1) := by decide +kernel
theorem d_X_isSeal_16 : decode b_X_isSeal 16 = .ok (.lload_n 1, 1) := by decide +kernel
theorem d_X_isSeal_17 : decode b_X_isSeal 17 = .ok (.invokevirtual 130, 3) := by decide +kernel
theorem d_X_isSeal_20 : decode b_X_isSeal 20 = .ok (.ifCond .eq 7, 3) := by decide +kernel
theorem d_X_isSeal_23 : decode b_X_isSeal 23 = .ok (.iconst 1, 1) := by decide +kernel
theorem d_X_isSeal_24 : decode b_X_isSeal 24 = .ok (.goto 4, 3) := by decide +kernel
theorem d_X_isSeal_27 : decode b_X_isSeal 27 = .ok (.iconst 0, 1) := by decide +kernel
theorem d_X_isSeal_28 : decode b_X_isSeal 28 = .ok (.ireturn, 1) := by decide +kernel
theorem d_X_messageIn_0 : decode b_X_messageIn 0 = .ok (.lload_n 1, 1) := by decide +kernel
theorem d_X_messageIn_1 : decode b_X_messageIn 1 = .ok (.aload_n 0, 1) := by decide +kernel
theorem d_X_messageIn_2 : decode b_X_messageIn 2 = .ok (.getfield 31, 3) := by decide +kernel
theorem d_X_messageIn_5 : decode b_X_messageIn 5 = .ok (.aload_n 0, 1) := by decide +kernel
theorem d_X_messageIn_6 : decode b_X_messageIn 6 = .ok (.getfield 27, 3) := by decide +kernel
theorem d_X_messageIn_9 : decode b_X_messageIn 9 = .ok (.invokestatic 34, 3) := by decide +kernel
theorem d_X_messageIn_12 : decode b_X_messageIn 12 = .ok (.lstore_n 3, 1) := by decide +kernel
theorem d_X_messageIn_13 : decode b_X_messageIn 13 = .ok (.lload_n 3, 1) := by decide +kernel
theorem d_X_messageIn_14 : decode b_X_messageIn 14 = .ok (.lconst 1, 1) := by decide +kernel
theorem d_X_messageIn_15 : decode b_X_messageIn 15 = .ok (.lsub, 1) := by decide +kernel
theorem d_X_messageIn_16 : decode b_X_messageIn 16 = .ok (.aload_n 0, 1) := by decide +kernel
theorem d_X_messageIn_17 : decode b_X_messageIn 17 = .ok (.getfield 24, 3) := by decide +kernel
theorem d_X_messageIn_20 : decode b_X_messageIn 20 = .ok (.i2l, 1) := by decide +kernel
theorem d_X_messageIn_21 : decode b_X_messageIn 21 = .ok (.ldiv, 1) := by decide +kernel
theorem d_X_messageIn_22 : decode b_X_messageIn 22 = .ok (.aload_n 0, 1) := by decide +kernel
theorem d_X_messageIn_23 : decode b_X_messageIn 23 = .ok (.getfield 38, 3) := by decide +kernel
theorem d_X_messageIn_26 : decode b_X_messageIn 26 = .ok (.lmul, 1) := by decide +kernel
theorem d_X_messageIn_27 : decode b_X_messageIn 27 = .ok (.aload_n 0, 1) := by decide +kernel
theorem d_X_messageIn_28 : decode b_X_messageIn 28 = .ok (.getfield 24, 3) := by decide +kernel
theorem d_X_messageIn_31 : decode b_X_messageIn 31 = .ok (.i2l, 1) := by decide +kernel
theorem d_X_messageIn_32 : decode b_X_messageIn 32 = .ok (.lrem, 1) := by decide +kernel
theorem d_X_messageIn_33 : decode b_X_messageIn 33 = .ok (.lreturn, 1) := by decide +kernel
theorem d_X_coin_0 : decode b_X_coin 0 = .ok (.aload_n 0, 1) := by decide +kernel
theorem d_X_coin_1 : decode b_X_coin 1 = .ok (.invokevirtual 47, 3) := by decide +kernel
theorem d_X_coin_4 : decode b_X_coin 4 = .ok (.ifCond .ne 7, 3) := by decide +kernel
theorem d_X_coin_7 : decode b_X_coin 7 = .ok (.ldc2_w 51, 3) := by decide +kernel
theorem d_X_coin_10 : decode b_X_coin 10 = .ok (.lreturn, 1) := by decide +kernel
theorem d_X_coin_11 : decode b_X_coin 11 = .ok (.aload_n 0, 1) := by decide +kernel
theorem d_X_coin_12 : decode b_X_coin 12 = .ok (.lload_n 1, 1) := by decide +kernel
theorem d_X_coin_13 : decode b_X_coin 13 = .ok (.invokevirtual 66, 3) := by decide +kernel
theorem d_X_coin_16 : decode b_X_coin 16 = .ok (.ifCond .ne 7, 3) := by decide +kernel
theorem d_X_coin_19 : decode b_X_coin 19 = .ok (.ldc2_w 60, 3) := by decide +kernel
theorem d_X_coin_22 : decode b_X_coin 22 = .ok (.lreturn, 1) := by decide +kernel
theorem d_X_coin_23 : decode b_X_coin 23 = .ok (.aload_n 0, 1) := by decide +kernel
theorem d_X_coin_24 : decode b_X_coin 24 = .ok (.lload_n 1, 1) := by decide +kernel
theorem d_X_coin_25 : decode b_X_coin 25 = .ok (.invokevirtual 73, 3) := by decide +kernel
theorem d_X_coin_28 : decode b_X_coin 28 = .ok (.lreturn, 1) := by decide +kernel
theorem d_X_coinIn_0 : decode b_X_coinIn 0 = .ok (.lload_n 1, 1) := by decide +kernel
theorem d_X_coinIn_1 : decode b_X_coinIn 1 = .ok (.aload_n 0, 1) := by decide +kernel
theorem d_X_coinIn_2 : decode b_X_coinIn 2 = .ok (.getfield 24, 3) := by decide +kernel
theorem d_X_coinIn_5 : decode b_X_coinIn 5 = .ok (.i2l, 1) := by decide +kernel
theorem d_X_coinIn_6 : decode b_X_coinIn 6 = .ok (.lrem, 1) := by decide +kernel
theorem d_X_coinIn_7 : decode b_X_coinIn 7 = .ok (.aload_n 0, 1) := by decide +kernel
theorem d_X_coinIn_8 : decode b_X_coinIn 8 = .ok (.getfield 41, 3) := by decide +kernel
theorem d_X_coinIn_11 : decode b_X_coinIn 11 = .ok (.aload_n 0, 1) := by decide +kernel
theorem d_X_coinIn_12 : decode b_X_coinIn 12 = .ok (.getfield 24, 3) := by decide +kernel
theorem d_X_coinIn_15 : decode b_X_coinIn 15 = .ok (.i2l, 1) := by decide +kernel
theorem d_X_coinIn_16 : decode b_X_coinIn 16 = .ok (.invokestatic 34, 3) := by decide +kernel
theorem d_X_coinIn_19 : decode b_X_coinIn 19 = .ok (.lreturn, 1) := by decide +kernel
theorem d_X_join_0 : decode b_X_join 0 = .ok (.aload_n 0, 1) := by decide +kernel
theorem d_X_join_1 : decode b_X_join 1 = .ok (.invokevirtual 47, 3) := by decide +kernel
theorem d_X_join_4 : decode b_X_join 4 = .ok (.ifCond .ne 7, 3) := by decide +kernel
theorem d_X_join_7 : decode b_X_join 7 = .ok (.ldc2_w 51, 3) := by decide +kernel
theorem d_X_join_10 : decode b_X_join 10 = .ok (.lreturn, 1) := by decide +kernel
theorem d_X_join_11 : decode b_X_join 11 = .ok (.aload_n 0, 1) := by decide +kernel
theorem d_X_join_12 : decode b_X_join 12 = .ok (.lload_n 1, 1) := by decide +kernel
theorem d_X_join_13 : decode b_X_join 13 = .ok (.invokevirtual 66, 3) := by decide +kernel
theorem d_X_join_16 : decode b_X_join 16 = .ok (.ifCond .eq 11, 3) := by decide +kernel
theorem d_X_join_19 : decode b_X_join 19 = .ok (.aload_n 0, 1) := by decide +kernel
theorem d_X_join_20 : decode b_X_join 20 = .ok (.lload_n 3, 1) := by decide +kernel
theorem d_X_join_21 : decode b_X_join 21 = .ok (.invokevirtual 66, 3) := by decide +kernel
theorem d_X_join_24 : decode b_X_join 24 = .ok (.ifCond .ne 7, 3) := by decide +kernel
theorem d_X_join_27 : decode b_X_join 27 = .ok (.ldc2_w 60, 3) := by decide +kernel
theorem d_X_join_30 : decode b_X_join 30 = .ok (.lreturn, 1) := by decide +kernel
theorem d_X_join_31 : decode b_X_join 31 = .ok (.lload_n 1, 1) := by decide +kernel
theorem d_X_join_32 : decode b_X_join 32 = .ok (.lload_n 3, 1) := by decide +kernel
theorem d_X_join_33 : decode b_X_join 33 = .ok (.lmul, 1) := by decide +kernel
theorem d_X_join_34 : decode b_X_join 34 = .ok (.aload_n 0, 1) := by decide +kernel
theorem d_X_join_35 : decode b_X_join 35 = .ok (.getfield 27, 3) := by decide +kernel
theorem d_X_join_38 : decode b_X_join 38 = .ok (.lrem, 1) := by decide +kernel
theorem d_X_join_39 : decode b_X_join 39 = .ok (.lreturn, 1) := by decide +kernel
theorem d_X_power_0 : decode b_X_power 0 = .ok (.aload_n 0, 1) := by decide +kernel
theorem d_X_power_1 : decode b_X_power 1 = .ok (.invokevirtual 47, 3) := by decide +kernel
theorem d_X_power_4 : decode b_X_power 4 = .ok (.ifCond .ne 7, 3) := by decide +kernel
theorem d_X_power_7 : decode b_X_power 7 = .ok (.ldc2_w 51, 3) := by decide +kernel
theorem d_X_power_10 : decode b_X_power 10 = .ok (.lreturn, 1) := by decide +kernel
theorem d_X_power_11 : decode b_X_power 11 = .ok (.aload_n 0, 1) := by decide +kernel
theorem d_X_power_12 : decode b_X_power 12 = .ok (.lload_n 1, 1) := by decide +kernel
theorem d_X_power_13 : decode b_X_power 13 = .ok (.invokevirtual 66, 3) := by decide +kernel
theorem d_X_power_16 : decode b_X_power 16 = .ok (.ifCond .ne 7, 3) := by decide +kernel
theorem d_X_power_19 : decode b_X_power 19 = .ok (.ldc2_w 60, 3) := by decide +kernel
theorem d_X_power_22 : decode b_X_power 22 = .ok (.lreturn, 1) := by decide +kernel
theorem d_X_power_23 : decode b_X_power 23 = .ok (.iload_n 3, 1) := by decide +kernel
theorem d_X_power_24 : decode b_X_power 24 = .ok (.i2l, 1) := by decide +kernel
theorem d_X_power_25 : decode b_X_power 25 = .ok (.aload_n 0, 1) := by decide +kernel
theorem d_X_power_26 : decode b_X_power 26 = .ok (.getfield 24, 3) := by decide +kernel
theorem d_X_power_29 : decode b_X_power 29 = .ok (.i2l, 1) := by decide +kernel
theorem d_X_power_30 : decode b_X_power 30 = .ok (.aload_n 0, 1) := by decide +kernel
theorem d_X_power_31 : decode b_X_power 31 = .ok (.getfield 31, 3) := by decide +kernel
theorem d_X_power_34 : decode b_X_power 34 = .ok (.lmul, 1) := by decide +kernel
theorem d_X_power_35 : decode b_X_power 35 = .ok (.invokestatic 76, 3) := by decide +kernel
theorem d_X_power_38 : decode b_X_power 38 = .ok (.lstore 4, 2) := by decide +kernel
theorem d_X_power_40 : decode b_X_power 40 = .ok (.lload_n 1, 1) := by decide +kernel
theorem d_X_power_41 : decode b_X_power 41 = .ok (.lload 4, 2) := by decide +kernel
theorem d_X_power_43 : decode b_X_power 43 = .ok (.aload_n 0, 1) := by decide +kernel
theorem d_X_power_44 : decode b_X_power 44 = .ok (.getfield 27, 3) := by decide +kernel
theorem d_X_power_47 : decode b_X_power 47 = .ok (.invokestatic 34, 3) := by decide +kernel
theorem d_X_power_50 : decode b_X_power 50 = .ok (.lreturn, 1) := by decide +kernel
theorem d_J_floorMod_0 : decode b_J_floorMod 0 = .ok (.lload_n 0, 1) := by decide +kernel
theorem d_J_floorMod_1 : decode b_J_floorMod 1 = .ok (.lload_n 2, 1) := by decide +kernel
theorem d_J_floorMod_2 : decode b_J_floorMod 2 = .ok (.lrem, 1) := by decide +kernel
theorem d_J_floorMod_3 : decode b_J_floorMod 3 = .ok (.lstore 4, 2) := by decide +kernel
theorem d_J_floorMod_5 : decode b_J_floorMod 5 = .ok (.lload_n 0, 1) := by decide +kernel
theorem d_J_floorMod_6 : decode b_J_floorMod 6 = .ok (.lload_n 2, 1) := by decide +kernel
theorem d_J_floorMod_7 : decode b_J_floorMod 7 = .ok (.lxor, 1) := by decide +kernel
theorem d_J_floorMod_8 : decode b_J_floorMod 8 = .ok (.lconst 0, 1) := by decide +kernel
theorem d_J_floorMod_9 : decode b_J_floorMod 9 = .ok (.lcmp, 1) := by decide +kernel
theorem d_J_floorMod_10 : decode b_J_floorMod 10 = .ok (.ifCond .ge 15, 3) := by decide +kernel
theorem d_J_floorMod_13 : decode b_J_floorMod 13 = .ok (.lload 4, 2) := by decide +kernel
theorem d_J_floorMod_15 : decode b_J_floorMod 15 = .ok (.lconst 0, 1) := by decide +kernel
theorem d_J_floorMod_16 : decode b_J_floorMod 16 = .ok (.lcmp, 1) := by decide +kernel
theorem d_J_floorMod_17 : decode b_J_floorMod 17 = .ok (.ifCond .eq 8, 3) := by decide +kernel
theorem d_J_floorMod_20 : decode b_J_floorMod 20 = .ok (.lload 4, 2) := by decide +kernel
theorem d_J_floorMod_22 : decode b_J_floorMod 22 = .ok (.lload_n 2, 1) := by decide +kernel
theorem d_J_floorMod_23 : decode b_J_floorMod 23 = .ok (.ladd, 1) := by decide +kernel
theorem d_J_floorMod_24 : decode b_J_floorMod 24 = .ok (.lreturn, 1) := by decide +kernel
theorem d_J_floorMod_25 : decode b_J_floorMod 25 = .ok (.lload 4, 2) := by decide +kernel
theorem d_J_floorMod_27 : decode b_J_floorMod 27 = .ok (.lreturn, 1) := by decide +kernel
theorem d_X_open_0 : decode b_X_open 0 = .ok (.aload_n 0, 1) := by decide +kernel
theorem d_X_open_1 : decode b_X_open 1 = .ok (.invokevirtual 47, 3) := by decide +kernel
theorem d_X_open_4 : decode b_X_open 4 = .ok (.ifCond .eq 12, 3) := by decide +kernel
theorem d_X_open_7 : decode b_X_open 7 = .ok (.aload_n 0, 1) := by decide +kernel
theorem d_X_open_8 : decode b_X_open 8 = .ok (.iload_n 1, 1) := by decide +kernel
theorem d_X_open_9 : decode b_X_open 9 = .ok (.iload_n 2, 1) := by decide +kernel
theorem d_X_open_10 : decode b_X_open 10 = .ok (.invokevirtual 81, 3) := by decide +kernel
theorem d_X_open_13 : decode b_X_open 13 = .ok (.ifCond .ne 5, 3) := by decide +kernel
theorem d_X_open_16 : decode b_X_open 16 = .ok (.iconst 0, 1) := by decide +kernel
theorem d_X_open_17 : decode b_X_open 17 = .ok (.ireturn, 1) := by decide +kernel
theorem d_X_open_18 : decode b_X_open 18 = .ok (.aload_n 0, 1) := by decide +kernel
theorem d_X_open_19 : decode b_X_open 19 = .ok (.iload_n 1, 1) := by decide +kernel
theorem d_X_open_20 : decode b_X_open 20 = .ok (.putfield 44, 3) := by decide +kernel
theorem d_X_open_23 : decode b_X_open 23 = .ok (.aload_n 0, 1) := by decide +kernel
theorem d_X_open_24 : decode b_X_open 24 = .ok (.iload_n 2, 1) := by decide +kernel
theorem d_X_open_25 : decode b_X_open 25 = .ok (.putfield 84, 3) := by decide +kernel
theorem d_X_open_28 : decode b_X_open 28 = .ok (.aload_n 0, 1) := by decide +kernel
theorem d_X_open_29 : decode b_X_open 29 = .ok (.iconst 0, 1) := by decide +kernel
theorem d_X_open_30 : decode b_X_open 30 = .ok (.putfield 87, 3) := by decide +kernel
theorem d_X_open_33 : decode b_X_open 33 = .ok (.aload_n 0, 1) := by decide +kernel
theorem d_X_open_34 : decode b_X_open 34 = .ok (.iconst 0, 1) := by decide +kernel
theorem d_X_open_35 : decode b_X_open 35 = .ok (.putfield 91, 3) := by decide +kernel
theorem d_X_open_38 : decode b_X_open 38 = .ok (.aload_n 0, 1) := by decide +kernel
theorem d_X_open_39 : decode b_X_open 39 = .ok (.getfield 9, 3) := by decide +kernel
theorem d_X_open_42 : decode b_X_open 42 = .ok (.lconst 0, 1) := by decide +kernel
theorem d_X_open_43 : decode b_X_open 43 = .ok (.invokestatic 94, 3) := by decide +kernel
theorem d_X_open_46 : decode b_X_open 46 = .ok (.iconst 1, 1) := by decide +kernel
theorem d_X_open_47 : decode b_X_open 47 = .ok (.ireturn, 1) := by decide +kernel
theorem d_X_isBoxSize_0 : decode b_X_isBoxSize 0 = .ok (.iload_n 1, 1) := by decide +kernel
theorem d_X_isBoxSize_1 : decode b_X_isBoxSize 1 = .ok (.iconst 1, 1) := by decide +kernel
theorem d_X_isBoxSize_2 : decode b_X_isBoxSize 2 = .ok (.if_icmp .lt 14, 3) := by decide +kernel
theorem d_X_isBoxSize_5 : decode b_X_isBoxSize 5 = .ok (.iload_n 1, 1) := by decide +kernel
theorem d_X_isBoxSize_6 : decode b_X_isBoxSize 6 = .ok (.bipush 6, 2) := by decide +kernel
theorem d_X_isBoxSize_8 : decode b_X_isBoxSize 8 = .ok (.if_icmp .gt 8, 3) := by decide +kernel
theorem d_X_isBoxSize_11 : decode b_X_isBoxSize 11 = .ok (.iload_n 2, 1) := by decide +kernel
theorem d_X_isBoxSize_12 : decode b_X_isBoxSize 12 = .ok (.iconst 2, 1) := by decide +kernel
theorem d_X_isBoxSize_13 : decode b_X_isBoxSize 13 = .ok (.if_icmp .ge 5, 3) := by decide +kernel
theorem d_X_isBoxSize_16 : decode b_X_isBoxSize 16 = .ok (.iconst 0, 1) := by decide +kernel
theorem d_X_isBoxSize_17 : decode b_X_isBoxSize 17 = .ok (.ireturn, 1) := by decide +kernel
theorem d_X_isBoxSize_18 : decode b_X_isBoxSize 18 = .ok (.lconst 1, 1) := by decide +kernel
theorem d_X_isBoxSize_19 : decode b_X_isBoxSize 19 = .ok (.lstore_n 3, 1) := by decide +kernel
theorem d_X_isBoxSize_20 : decode b_X_isBoxSize 20 = .ok (.iconst 0, 1) := by decide +kernel
theorem d_X_isBoxSize_21 : decode b_X_isBoxSize 21 = .ok (.istore 5, 2) := by decide +kernel
theorem d_X_isBoxSize_23 : decode b_X_isBoxSize 23 = .ok (.iload 5, 2) := by decide +kernel
theorem d_X_isBoxSize_25 : decode b_X_isBoxSize 25 = .ok (.iload_n 1, 1) := by decide +kernel
theorem d_X_isBoxSize_26 : decode b_X_isBoxSize 26 = .ok (.if_icmp .ge 26, 3) := by decide +kernel
theorem d_X_isBoxSize_29 : decode b_X_isBoxSize 29 = .ok (.lload_n 3, 1) := by decide +kernel
theorem d_X_isBoxSize_30 : decode b_X_isBoxSize 30 = .ok (.iload_n 2, 1) := by decide +kernel
theorem d_X_isBoxSize_31 : decode b_X_isBoxSize 31 = .ok (.i2l, 1) := by decide +kernel
theorem d_X_isBoxSize_32 : decode b_X_isBoxSize 32 = .ok (.lmul, 1) := by decide +kernel
theorem d_X_isBoxSize_33 : decode b_X_isBoxSize 33 = .ok (.lstore_n 3, 1) := by decide +kernel
theorem d_X_isBoxSize_34 : decode b_X_isBoxSize 34 = .ok (.lload_n 3, 1) := by decide +kernel
theorem d_X_isBoxSize_35 : decode b_X_isBoxSize 35 = .ok (.aload_n 0, 1) := by decide +kernel
theorem d_X_isBoxSize_36 : decode b_X_isBoxSize 36 = .ok (.getfield 24, 3) := by decide +kernel
theorem d_X_isBoxSize_39 : decode b_X_isBoxSize 39 = .ok (.i2l, 1) := by decide +kernel
theorem d_X_isBoxSize_40 : decode b_X_isBoxSize 40 = .ok (.lcmp, 1) := by decide +kernel
theorem d_X_isBoxSize_41 : decode b_X_isBoxSize 41 = .ok (.ifCond .le 5, 3) := by decide +kernel
theorem d_X_isBoxSize_44 : decode b_X_isBoxSize 44 = .ok (.iconst 0, 1) := by decide +kernel
theorem d_X_isBoxSize_45 : decode b_X_isBoxSize 45 = .ok (.ireturn, 1) := by decide +kernel
theorem d_X_isBoxSize_46 : decode b_X_isBoxSize 46 = .ok (.iinc 5 1, 3) := by decide +kernel
theorem d_X_isBoxSize_49 : decode b_X_isBoxSize 49 = .ok (.goto (-26), 3) := by decide +kernel
theorem d_X_isBoxSize_52 : decode b_X_isBoxSize 52 = .ok (.iconst 1, 1) := by decide +kernel
theorem d_X_isBoxSize_53 : decode b_X_isBoxSize 53 = .ok (.ireturn, 1) := by decide +kernel
theorem d_A_fill_0 : decode b_A_fill 0 = .ok (.iconst 0, 1) := by decide +kernel
theorem d_A_fill_1 : decode b_A_fill 1 = .ok (.istore_n 3, 1) := by decide +kernel
theorem d_A_fill_2 : decode b_A_fill 2 = .ok (.aload_n 0, 1) := by decide +kernel
theorem d_A_fill_3 : decode b_A_fill 3 = .ok (.arraylength, 1) := by decide +kernel
theorem d_A_fill_4 : decode b_A_fill 4 = .ok (.istore 4, 2) := by decide +kernel
theorem d_A_fill_6 : decode b_A_fill 6 = .ok (.iload_n 3, 1) := by decide +kernel
theorem d_A_fill_7 : decode b_A_fill 7 = .ok (.iload 4, 2) := by decide +kernel
theorem d_A_fill_9 : decode b_A_fill 9 = .ok (.if_icmp .ge 13, 3) := by decide +kernel
theorem d_A_fill_12 : decode b_A_fill 12 = .ok (.aload_n 0, 1) := by decide +kernel
theorem d_A_fill_13 : decode b_A_fill 13 = .ok (.iload_n 3, 1) := by decide +kernel
theorem d_A_fill_14 : decode b_A_fill 14 = .ok (.lload_n 1, 1) := by decide +kernel
theorem d_A_fill_15 : decode b_A_fill 15 = .ok (.lastore, 1) := by decide +kernel
theorem d_A_fill_16 : decode b_A_fill 16 = .ok (.iinc 3 1, 3) := by decide +kernel
theorem d_A_fill_19 : decode b_A_fill 19 = .ok (.goto (-13), 3) := by decide +kernel
theorem d_A_fill_22 : decode b_A_fill 22 = .ok (.return_, 1) := by decide +kernel
theorem d_X_choice_0 : decode b_X_choice 0 = .ok (.aload_n 0, 1) := by decide +kernel
theorem d_X_choice_1 : decode b_X_choice 1 = .ok (.invokevirtual 100, 3) := by decide +kernel
theorem d_X_choice_4 : decode b_X_choice 4 = .ok (.ifCond .ne 7, 3) := by decide +kernel
theorem d_X_choice_7 : decode b_X_choice 7 = .ok (.ldc2_w 103, 3) := by decide +kernel
theorem d_X_choice_10 : decode b_X_choice 10 = .ok (.lreturn, 1) := by decide +kernel
theorem d_X_choice_11 : decode b_X_choice 11 = .ok (.aload_n 0, 1) := by decide +kernel
theorem d_X_choice_12 : decode b_X_choice 12 = .ok (.iload_n 1, 1) := by decide +kernel
theorem d_X_choice_13 : decode b_X_choice 13 = .ok (.invokevirtual 105, 3) := by decide +kernel
theorem d_X_choice_16 : decode b_X_choice 16 = .ok (.ifCond .eq 11, 3) := by decide +kernel
theorem d_X_choice_19 : decode b_X_choice 19 = .ok (.aload_n 0, 1) := by decide +kernel
theorem d_X_choice_20 : decode b_X_choice 20 = .ok (.lload_n 2, 1) := by decide +kernel
theorem d_X_choice_21 : decode b_X_choice 21 = .ok (.invokevirtual 57, 3) := by decide +kernel
theorem d_X_choice_24 : decode b_X_choice 24 = .ok (.ifCond .ne 7, 3) := by decide +kernel
theorem d_X_choice_27 : decode b_X_choice 27 = .ok (.ldc2_w 60, 3) := by decide +kernel
theorem d_X_choice_30 : decode b_X_choice 30 = .ok (.lreturn, 1) := by decide +kernel
theorem d_X_choice_31 : decode b_X_choice 31 = .ok (.aload_n 0, 1) := by decide +kernel
theorem d_X_choice_32 : decode b_X_choice 32 = .ok (.aload_n 0, 1) := by decide +kernel
theorem d_X_choice_33 : decode b_X_choice 33 = .ok (.iload_n 1, 1) := by decide +kernel
theorem d_X_choice_34 : decode b_X_choice 34 = .ok (.invokevirtual 109, 3) := by decide +kernel
theorem d_X_choice_37 : decode b_X_choice 37 = .ok (.lload_n 2, 1) := by decide +kernel
theorem d_X_choice_38 : decode b_X_choice 38 = .ok (.invokevirtual 62, 3) := by decide +kernel
theorem d_X_choice_41 : decode b_X_choice 41 = .ok (.lreturn, 1) := by decide +kernel
theorem d_X_hasBox_0 : decode b_X_hasBox 0 = .ok (.aload_n 0, 1) := by decide +kernel
theorem d_X_hasBox_1 : decode b_X_hasBox 1 = .ok (.getfield 44, 3) := by decide +kernel
theorem d_X_hasBox_4 : decode b_X_hasBox 4 = .ok (.ifCond .le 7, 3) := by decide +kernel
theorem d_X_hasBox_7 : decode b_X_hasBox 7 = .ok (.iconst 1, 1) := by decide +kernel
theorem d_X_hasBox_8 : decode b_X_hasBox 8 = .ok (.goto 4, 3) := by decide +kernel
theorem d_X_hasBox_11 : decode b_X_hasBox 11 = .ok (.iconst 0, 1) := by decide +kernel
theorem d_X_hasBox_12 : decode b_X_hasBox 12 = .ok (.ireturn, 1) := by decide +kernel
theorem d_X_isCandidate_0 : decode b_X_isCandidate 0 = .ok (.iload_n 1, 1) := by decide +kernel
theorem d_X_isCandidate_1 : decode b_X_isCandidate 1 = .ok (.ifCond .lt 15, 3) := by decide +kernel
theorem d_X_isCandidate_4 : decode b_X_isCandidate 4 = .ok (.iload_n 1, 1) := by decide +kernel
theorem d_X_isCandidate_5 : decode b_X_isCandidate 5 = .ok (.aload_n 0, 1) := by decide +kernel
theorem d_X_isCandidate_6 : decode b_X_isCandidate 6 = .ok (.getfield 44, 3) := by decide +kernel
theorem d_X_isCandidate_9 : decode b_X_isCandidate 9 = .ok (.if_icmp .ge 7, 3) := by decide +kernel
theorem d_X_isCandidate_12 : decode b_X_isCandidate 12 = .ok (.iconst 1, 1) := by decide +kernel
theorem d_X_isCandidate_13 : decode b_X_isCandidate 13 = .ok (.goto 4, 3) := by decide +kernel
theorem d_X_isCandidate_16 : decode b_X_isCandidate 16 = .ok (.iconst 0, 1) := by decide +kernel
theorem d_X_isCandidate_17 : decode b_X_isCandidate 17 = .ok (.ireturn, 1) := by decide +kernel
theorem d_X_radixPower_0 : decode b_X_radixPower 0 = .ok (.lconst 1, 1) := by decide +kernel
theorem d_X_radixPower_1 : decode b_X_radixPower 1 = .ok (.lstore_n 2, 1) := by decide +kernel
theorem d_X_radixPower_2 : decode b_X_radixPower 2 = .ok (.iconst 0, 1) := by decide +kernel
theorem d_X_radixPower_3 : decode b_X_radixPower 3 = .ok (.istore 4, 2) := by decide +kernel
theorem d_X_radixPower_5 : decode b_X_radixPower 5 = .ok (.iload 4, 2) := by decide +kernel
theorem d_X_radixPower_7 : decode b_X_radixPower 7 = .ok (.iload_n 1, 1) := by decide +kernel
theorem d_X_radixPower_8 : decode b_X_radixPower 8 = .ok (.if_icmp .ge 17, 3) := by decide +kernel
theorem d_X_radixPower_11 : decode b_X_radixPower 11 = .ok (.lload_n 2, 1) := by decide +kernel
theorem d_X_radixPower_12 : decode b_X_radixPower 12 = .ok (.aload_n 0, 1) := by decide +kernel
theorem d_X_radixPower_13 : decode b_X_radixPower 13 = .ok (.getfield 84, 3) := by decide +kernel
theorem d_X_radixPower_16 : decode b_X_radixPower 16 = .ok (.i2l, 1) := by decide +kernel
theorem d_X_radixPower_17 : decode b_X_radixPower 17 = .ok (.lmul, 1) := by decide +kernel
theorem d_X_radixPower_18 : decode b_X_radixPower 18 = .ok (.lstore_n 2, 1) := by decide +kernel
theorem d_X_radixPower_19 : decode b_X_radixPower 19 = .ok (.iinc 4 1, 3) := by decide +kernel
theorem d_X_radixPower_22 : decode b_X_radixPower 22 = .ok (.goto (-17), 3) := by decide +kernel
theorem d_X_radixPower_25 : decode b_X_radixPower 25 = .ok (.lload_n 2, 1) := by decide +kernel
theorem d_X_radixPower_26 : decode b_X_radixPower 26 = .ok (.lreturn, 1) := by decide +kernel
theorem d_X_cast_0 : decode b_X_cast 0 = .ok (.aload_n 0, 1) := by decide +kernel
theorem d_X_cast_1 : decode b_X_cast 1 = .ok (.invokevirtual 100, 3) := by decide +kernel
theorem d_X_cast_4 : decode b_X_cast 4 = .ok (.ifCond .ne 6, 3) := by decide +kernel
theorem d_X_cast_7 : decode b_X_cast 7 = .ok (.bipush (-2), 2) := by decide +kernel
theorem d_X_cast_9 : decode b_X_cast 9 = .ok (.ireturn, 1) := by decide +kernel
theorem d_X_cast_10 : decode b_X_cast 10 = .ok (.aload_n 0, 1) := by decide +kernel
theorem d_X_cast_11 : decode b_X_cast 11 = .ok (.getfield 87, 3) := by decide +kernel
theorem d_X_cast_14 : decode b_X_cast 14 = .ok (.ifCond .eq 6, 3) := by decide +kernel
theorem d_X_cast_17 : decode b_X_cast 17 = .ok (.bipush (-3), 2) := by decide +kernel
theorem d_X_cast_19 : decode b_X_cast 19 = .ok (.ireturn, 1) := by decide +kernel
theorem d_X_cast_20 : decode b_X_cast 20 = .ok (.iload_n 1, 1) := by decide +kernel
theorem d_X_cast_21 : decode b_X_cast 21 = .ok (.invokestatic 113, 3) := by decide +kernel
theorem d_X_cast_24 : decode b_X_cast 24 = .ok (.ifCond .eq 11, 3) := by decide +kernel
theorem d_X_cast_27 : decode b_X_cast 27 = .ok (.aload_n 0, 1) := by decide +kernel
theorem d_X_cast_28 : decode b_X_cast 28 = .ok (.lload_n 2, 1) := by decide +kernel
theorem d_X_cast_29 : decode b_X_cast 29 = .ok (.invokevirtual 66, 3) := by decide +kernel
theorem d_X_cast_32 : decode b_X_cast 32 = .ok (.ifCond .ne 6, 3) := by decide +kernel
theorem d_X_cast_35 : decode b_X_cast 35 = .ok (.bipush (-4), 2) := by decide +kernel
theorem d_X_cast_37 : decode b_X_cast 37 = .ok (.ireturn, 1) := by decide +kernel
theorem d_X_cast_38 : decode b_X_cast 38 = .ok (.aload_n 0, 1) := by decide +kernel
theorem d_X_cast_39 : decode b_X_cast 39 = .ok (.getfield 9, 3) := by decide +kernel
theorem d_X_cast_42 : decode b_X_cast 42 = .ok (.iload_n 1, 1) := by decide +kernel
theorem d_X_cast_43 : decode b_X_cast 43 = .ok (.laload, 1) := by decide +kernel
theorem d_X_cast_44 : decode b_X_cast 44 = .ok (.lconst 0, 1) := by decide +kernel
theorem d_X_cast_45 : decode b_X_cast 45 = .ok (.lcmp, 1) := by decide +kernel
theorem d_X_cast_46 : decode b_X_cast 46 = .ok (.ifCond .ne 7, 3) := by decide +kernel
theorem d_X_cast_49 : decode b_X_cast 49 = .ok (.iconst 1, 1) := by decide +kernel
theorem d_X_cast_50 : decode b_X_cast 50 = .ok (.goto 4, 3) := by decide +kernel
theorem d_X_cast_53 : decode b_X_cast 53 = .ok (.iconst 0, 1) := by decide +kernel
theorem d_X_cast_54 : decode b_X_cast 54 = .ok (.istore 4, 2) := by decide +kernel
theorem d_X_cast_56 : decode b_X_cast 56 = .ok (.iload 4, 2) := by decide +kernel
theorem d_X_cast_58 : decode b_X_cast 58 = .ok (.ifCond .eq 19, 3) := by decide +kernel
theorem d_X_cast_61 : decode b_X_cast 61 = .ok (.aload_n 0, 1) := by decide +kernel
theorem d_X_cast_62 : decode b_X_cast 62 = .ok (.getfield 91, 3) := by decide +kernel
theorem d_X_cast_65 : decode b_X_cast 65 = .ok (.aload_n 0, 1) := by decide +kernel
theorem d_X_cast_66 : decode b_X_cast 66 = .ok (.getfield 84, 3) := by decide +kernel
theorem d_X_cast_69 : decode b_X_cast 69 = .ok (.iconst 1, 1) := by decide +kernel
theorem d_X_cast_70 : decode b_X_cast 70 = .ok (.isub, 1) := by decide +kernel
theorem d_X_cast_71 : decode b_X_cast 71 = .ok (.if_icmp .lt 6, 3) := by decide +kernel
theorem d_X_cast_74 : decode b_X_cast 74 = .ok (.bipush (-5), 2) := by decide +kernel
theorem d_X_cast_76 : decode b_X_cast 76 = .ok (.ireturn, 1) := by decide +kernel
theorem d_X_cast_77 : decode b_X_cast 77 = .ok (.aload_n 0, 1) := by decide +kernel
theorem d_X_cast_78 : decode b_X_cast 78 = .ok (.getfield 9, 3) := by decide +kernel
theorem d_X_cast_81 : decode b_X_cast 81 = .ok (.iload_n 1, 1) := by decide +kernel
theorem d_X_cast_82 : decode b_X_cast 82 = .ok (.lload_n 2, 1) := by decide +kernel
theorem d_X_cast_83 : decode b_X_cast 83 = .ok (.lastore, 1) := by decide +kernel
theorem d_X_cast_84 : decode b_X_cast 84 = .ok (.iload 4, 2) := by decide +kernel
theorem d_X_cast_86 : decode b_X_cast 86 = .ok (.ifCond .ne 5, 3) := by decide +kernel
theorem d_X_cast_89 : decode b_X_cast 89 = .ok (.iconst 0, 1) := by decide +kernel
theorem d_X_cast_90 : decode b_X_cast 90 = .ok (.ireturn, 1) := by decide +kernel
theorem d_X_cast_91 : decode b_X_cast 91 = .ok (.aload_n 0, 1) := by decide +kernel
theorem d_X_cast_92 : decode b_X_cast 92 = .ok (.dup, 1) := by decide +kernel
theorem d_X_cast_93 : decode b_X_cast 93 = .ok (.getfield 91, 3) := by decide +kernel
theorem d_X_cast_96 : decode b_X_cast 96 = .ok (.iconst 1, 1) := by decide +kernel
theorem d_X_cast_97 : decode b_X_cast 97 = .ok (.iadd, 1) := by decide +kernel
theorem d_X_cast_98 : decode b_X_cast 98 = .ok (.putfield 91, 3) := by decide +kernel
theorem d_X_cast_101 : decode b_X_cast 101 = .ok (.iconst 1, 1) := by decide +kernel
theorem d_X_cast_102 : decode b_X_cast 102 = .ok (.ireturn, 1) := by decide +kernel
theorem d_X_isVoter_0 : decode b_X_isVoter 0 = .ok (.iload_n 0, 1) := by decide +kernel
theorem d_X_isVoter_1 : decode b_X_isVoter 1 = .ok (.ifCond .lt 13, 3) := by decide +kernel
theorem d_X_isVoter_4 : decode b_X_isVoter 4 = .ok (.iload_n 0, 1) := by decide +kernel
theorem d_X_isVoter_5 : decode b_X_isVoter 5 = .ok (.bipush 30, 2) := by decide +kernel
theorem d_X_isVoter_7 : decode b_X_isVoter 7 = .ok (.if_icmp .ge 7, 3) := by decide +kernel
theorem d_X_isVoter_10 : decode b_X_isVoter 10 = .ok (.iconst 1, 1) := by decide +kernel
theorem d_X_isVoter_11 : decode b_X_isVoter 11 = .ok (.goto 4, 3) := by decide +kernel
theorem d_X_isVoter_14 : decode b_X_isVoter 14 = .ok (.iconst 0, 1) := by decide +kernel
theorem d_X_isVoter_15 : decode b_X_isVoter 15 = .ok (.ireturn, 1) := by decide +kernel
theorem d_X_withdraw_0 : decode b_X_withdraw 0 = .ok (.aload_n 0, 1) := by decide +kernel
theorem d_X_withdraw_1 : decode b_X_withdraw 1 = .ok (.invokevirtual 100, 3) := by decide +kernel
theorem d_X_withdraw_4 : decode b_X_withdraw 4 = .ok (.ifCond .ne 7, 3) := by decide +kernel
theorem d_X_withdraw_7 : decode b_X_withdraw 7 = .ok (.ldc2_w 103, 3) := by decide +kernel
theorem d_X_withdraw_10 : decode b_X_withdraw 10 = .ok (.lreturn, 1) := by decide +kernel
theorem d_X_withdraw_11 : decode b_X_withdraw 11 = .ok (.aload_n 0, 1) := by decide +kernel
theorem d_X_withdraw_12 : decode b_X_withdraw 12 = .ok (.getfield 87, 3) := by decide +kernel
theorem d_X_withdraw_15 : decode b_X_withdraw 15 = .ok (.ifCond .eq 7, 3) := by decide +kernel
theorem d_X_withdraw_18 : decode b_X_withdraw 18 = .ok (.ldc2_w 116, 3) := by decide +kernel
theorem d_X_withdraw_21 : decode b_X_withdraw 21 = .ok (.lreturn, 1) := by decide +kernel
theorem d_X_withdraw_22 : decode b_X_withdraw 22 = .ok (.iload_n 1, 1) := by decide +kernel
theorem d_X_withdraw_23 : decode b_X_withdraw 23 = .ok (.invokestatic 113, 3) := by decide +kernel
theorem d_X_withdraw_26 : decode b_X_withdraw 26 = .ok (.ifCond .ne 7, 3) := by decide +kernel
theorem d_X_withdraw_29 : decode b_X_withdraw 29 = .ok (.ldc2_w 60, 3) := by decide +kernel
theorem d_X_withdraw_32 : decode b_X_withdraw 32 = .ok (.lreturn, 1) := by decide +kernel
theorem d_X_withdraw_33 : decode b_X_withdraw 33 = .ok (.aload_n 0, 1) := by decide +kernel
theorem d_X_withdraw_34 : decode b_X_withdraw 34 = .ok (.getfield 9, 3) := by decide +kernel
theorem d_X_withdraw_37 : decode b_X_withdraw 37 = .ok (.iload_n 1, 1) := by decide +kernel
theorem d_X_withdraw_38 : decode b_X_withdraw 38 = .ok (.laload, 1) := by decide +kernel
theorem d_X_withdraw_39 : decode b_X_withdraw 39 = .ok (.lstore_n 2, 1) := by decide +kernel
theorem d_X_withdraw_40 : decode b_X_withdraw 40 = .ok (.lload_n 2, 1) := by decide +kernel
theorem d_X_withdraw_41 : decode b_X_withdraw 41 = .ok (.lconst 0, 1) := by decide +kernel
theorem d_X_withdraw_42 : decode b_X_withdraw 42 = .ok (.lcmp, 1) := by decide +kernel
theorem d_X_withdraw_43 : decode b_X_withdraw 43 = .ok (.ifCond .ne 7, 3) := by decide +kernel
theorem d_X_withdraw_46 : decode b_X_withdraw 46 = .ok (.ldc2_w 118, 3) := by decide +kernel
theorem d_X_withdraw_49 : decode b_X_withdraw 49 = .ok (.lreturn, 1) := by decide +kernel
theorem d_X_withdraw_50 : decode b_X_withdraw 50 = .ok (.aload_n 0, 1) := by decide +kernel
theorem d_X_withdraw_51 : decode b_X_withdraw 51 = .ok (.getfield 9, 3) := by decide +kernel
theorem d_X_withdraw_54 : decode b_X_withdraw 54 = .ok (.iload_n 1, 1) := by decide +kernel
theorem d_X_withdraw_55 : decode b_X_withdraw 55 = .ok (.lconst 0, 1) := by decide +kernel
theorem d_X_withdraw_56 : decode b_X_withdraw 56 = .ok (.lastore, 1) := by decide +kernel
theorem d_X_withdraw_57 : decode b_X_withdraw 57 = .ok (.aload_n 0, 1) := by decide +kernel
theorem d_X_withdraw_58 : decode b_X_withdraw 58 = .ok (.dup, 1) := by decide +kernel
theorem d_X_withdraw_59 : decode b_X_withdraw 59 = .ok (.getfield 91, 3) := by decide +kernel
theorem d_X_withdraw_62 : decode b_X_withdraw 62 = .ok (.iconst 1, 1) := by decide +kernel
theorem d_X_withdraw_63 : decode b_X_withdraw 63 = .ok (.isub, 1) := by decide +kernel
theorem d_X_withdraw_64 : decode b_X_withdraw 64 = .ok (.putfield 91, 3) := by decide +kernel
theorem d_X_withdraw_67 : decode b_X_withdraw 67 = .ok (.lload_n 2, 1) := by decide +kernel
theorem d_X_withdraw_68 : decode b_X_withdraw 68 = .ok (.lreturn, 1) := by decide +kernel
theorem d_X_ballot_0 : decode b_X_ballot 0 = .ok (.aload_n 0, 1) := by decide +kernel
theorem d_X_ballot_1 : decode b_X_ballot 1 = .ok (.invokevirtual 100, 3) := by decide +kernel
theorem d_X_ballot_4 : decode b_X_ballot 4 = .ok (.ifCond .ne 7, 3) := by decide +kernel
theorem d_X_ballot_7 : decode b_X_ballot 7 = .ok (.ldc2_w 103, 3) := by decide +kernel
theorem d_X_ballot_10 : decode b_X_ballot 10 = .ok (.lreturn, 1) := by decide +kernel
theorem d_X_ballot_11 : decode b_X_ballot 11 = .ok (.iload_n 1, 1) := by decide +kernel
theorem d_X_ballot_12 : decode b_X_ballot 12 = .ok (.invokestatic 113, 3) := by decide +kernel
theorem d_X_ballot_15 : decode b_X_ballot 15 = .ok (.ifCond .ne 7, 3) := by decide +kernel
theorem d_X_ballot_18 : decode b_X_ballot 18 = .ok (.ldc2_w 60, 3) := by decide +kernel
theorem d_X_ballot_21 : decode b_X_ballot 21 = .ok (.lreturn, 1) := by decide +kernel
theorem d_X_ballot_22 : decode b_X_ballot 22 = .ok (.aload_n 0, 1) := by decide +kernel
theorem d_X_ballot_23 : decode b_X_ballot 23 = .ok (.getfield 9, 3) := by decide +kernel
theorem d_X_ballot_26 : decode b_X_ballot 26 = .ok (.iload_n 1, 1) := by decide +kernel
theorem d_X_ballot_27 : decode b_X_ballot 27 = .ok (.laload, 1) := by decide +kernel
theorem d_X_ballot_28 : decode b_X_ballot 28 = .ok (.lconst 0, 1) := by decide +kernel
theorem d_X_ballot_29 : decode b_X_ballot 29 = .ok (.lcmp, 1) := by decide +kernel
theorem d_X_ballot_30 : decode b_X_ballot 30 = .ok (.ifCond .ne 9, 3) := by decide +kernel
theorem d_X_ballot_33 : decode b_X_ballot 33 = .ok (.ldc2_w 118, 3) := by decide +kernel
theorem d_X_ballot_36 : decode b_X_ballot 36 = .ok (.goto 9, 3) := by decide +kernel
theorem d_X_ballot_39 : decode b_X_ballot 39 = .ok (.aload_n 0, 1) := by decide +kernel
theorem d_X_ballot_40 : decode b_X_ballot 40 = .ok (.getfield 9, 3) := by decide +kernel
theorem d_X_ballot_43 : decode b_X_ballot 43 = .ok (.iload_n 1, 1) := by decide +kernel
theorem d_X_ballot_44 : decode b_X_ballot 44 = .ok (.laload, 1) := by decide +kernel
theorem d_X_ballot_45 : decode b_X_ballot 45 = .ok (.lreturn, 1) := by decide +kernel
theorem d_X_ballots_0 : decode b_X_ballots 0 = .ok (.aload_n 0, 1) := by decide +kernel
theorem d_X_ballots_1 : decode b_X_ballots 1 = .ok (.invokevirtual 100, 3) := by decide +kernel
theorem d_X_ballots_4 : decode b_X_ballots 4 = .ok (.ifCond .eq 10, 3) := by decide +kernel
theorem d_X_ballots_7 : decode b_X_ballots 7 = .ok (.aload_n 0, 1) := by decide +kernel
theorem d_X_ballots_8 : decode b_X_ballots 8 = .ok (.getfield 91, 3) := by decide +kernel
theorem d_X_ballots_11 : decode b_X_ballots 11 = .ok (.goto 5, 3) := by decide +kernel
theorem d_X_ballots_14 : decode b_X_ballots 14 = .ok (.bipush (-2), 2) := by decide +kernel
theorem d_X_ballots_16 : decode b_X_ballots 16 = .ok (.ireturn, 1) := by decide +kernel
theorem d_X_sum_0 : decode b_X_sum 0 = .ok (.aload_n 0, 1) := by decide +kernel
theorem d_X_sum_1 : decode b_X_sum 1 = .ok (.invokevirtual 100, 3) := by decide +kernel
theorem d_X_sum_4 : decode b_X_sum 4 = .ok (.ifCond .eq 10, 3) := by decide +kernel
theorem d_X_sum_7 : decode b_X_sum 7 = .ok (.aload_n 0, 1) := by decide +kernel
theorem d_X_sum_8 : decode b_X_sum 8 = .ok (.invokevirtual 120, 3) := by decide +kernel
theorem d_X_sum_11 : decode b_X_sum 11 = .ok (.goto 6, 3) := by decide +kernel
theorem d_X_sum_14 : decode b_X_sum 14 = .ok (.ldc2_w 103, 3) := by decide +kernel
theorem d_X_sum_17 : decode b_X_sum 17 = .ok (.lreturn, 1) := by decide +kernel
theorem d_X_productOfBallots_0 : decode b_X_productOfBallots 0 = .ok (.lconst 1, 1) := by decide +kernel
theorem d_X_productOfBallots_1 : decode b_X_productOfBallots 1 = .ok (.lstore_n 1, 1) := by decide +kernel
theorem d_X_productOfBallots_2 : decode b_X_productOfBallots 2 = .ok (.iconst 0, 1) := by decide +kernel
theorem d_X_productOfBallots_3 : decode b_X_productOfBallots 3 = .ok (.istore_n 3, 1) := by decide +kernel
theorem d_X_productOfBallots_4 : decode b_X_productOfBallots 4 = .ok (.iload_n 3, 1) := by decide +kernel
theorem d_X_productOfBallots_5 : decode b_X_productOfBallots 5 = .ok (.bipush 30, 2) := by decide +kernel
theorem d_X_productOfBallots_7 : decode b_X_productOfBallots 7 = .ok (.if_icmp .ge 34, 3) := by decide +kernel
theorem d_X_productOfBallots_10 : decode b_X_productOfBallots 10 = .ok (.aload_n 0, 1) := by decide +kernel
theorem d_X_productOfBallots_11 : decode b_X_productOfBallots 11 = .ok (.getfield 9, 3) := by decide +kernel
theorem d_X_productOfBallots_14 : decode b_X_productOfBallots 14 = .ok (.iload_n 3, 1) := by decide +kernel
theorem d_X_productOfBallots_15 : decode b_X_productOfBallots 15 = .ok (.laload, 1) := by decide +kernel
theorem d_X_productOfBallots_16 : decode b_X_productOfBallots 16 = .ok (.lconst 0, 1) := by decide +kernel
theorem d_X_productOfBallots_17 : decode b_X_productOfBallots 17 = .ok (.lcmp, 1) := by decide +kernel
theorem d_X_productOfBallots_18 : decode b_X_productOfBallots 18 = .ok (.ifCond .eq 17, 3) := by decide +kernel
theorem d_X_productOfBallots_21 : decode b_X_productOfBallots 21 = .ok (.lload_n 1, 1) := by decide +kernel
theorem d_X_productOfBallots_22 : decode b_X_productOfBallots 22 = .ok (.aload_n 0, 1) := by decide +kernel
theorem d_X_productOfBallots_23 : decode b_X_productOfBallots 23 = .ok (.getfield 9, 3) := by decide +kernel
theorem d_X_productOfBallots_26 : decode b_X_productOfBallots 26 = .ok (.iload_n 3, 1) := by decide +kernel
theorem d_X_productOfBallots_27 : decode b_X_productOfBallots 27 = .ok (.laload, 1) := by decide +kernel
theorem d_X_productOfBallots_28 : decode b_X_productOfBallots 28 = .ok (.lmul, 1) := by decide +kernel
theorem d_X_productOfBallots_29 : decode b_X_productOfBallots 29 = .ok (.aload_n 0, 1) := by decide +kernel
theorem d_X_productOfBallots_30 : decode b_X_productOfBallots 30 = .ok (.getfield 27, 3) := by decide +kernel
theorem d_X_productOfBallots_33 : decode b_X_productOfBallots 33 = .ok (.lrem, 1) := by decide +kernel
theorem d_X_productOfBallots_34 : decode b_X_productOfBallots 34 = .ok (.lstore_n 1, 1) := by decide +kernel
theorem d_X_productOfBallots_35 : decode b_X_productOfBallots 35 = .ok (.iinc 3 1, 3) := by decide +kernel
theorem d_X_productOfBallots_38 : decode b_X_productOfBallots 38 = .ok (.goto (-34), 3) := by decide +kernel
theorem d_X_productOfBallots_41 : decode b_X_productOfBallots 41 = .ok (.lload_n 1, 1) := by decide +kernel
theorem d_X_productOfBallots_42 : decode b_X_productOfBallots 42 = .ok (.lreturn, 1) := by decide +kernel
theorem d_X_close_0 : decode b_X_close 0 = .ok (.aload_n 0, 1) := by decide +kernel
theorem d_X_close_1 : decode b_X_close 1 = .ok (.invokevirtual 100, 3) := by decide +kernel
theorem d_X_close_4 : decode b_X_close 4 = .ok (.ifCond .ne 7, 3) := by decide +kernel
theorem d_X_close_7 : decode b_X_close 7 = .ok (.ldc2_w 103, 3) := by decide +kernel
theorem d_X_close_10 : decode b_X_close 10 = .ok (.lreturn, 1) := by decide +kernel
theorem d_X_close_11 : decode b_X_close 11 = .ok (.aload_n 0, 1) := by decide +kernel
theorem d_X_close_12 : decode b_X_close 12 = .ok (.getfield 87, 3) := by decide +kernel
theorem d_X_close_15 : decode b_X_close 15 = .ok (.ifCond .eq 7, 3) := by decide +kernel
theorem d_X_close_18 : decode b_X_close 18 = .ok (.ldc2_w 116, 3) := by decide +kernel
theorem d_X_close_21 : decode b_X_close 21 = .ok (.lreturn, 1) := by decide +kernel
theorem d_X_close_22 : decode b_X_close 22 = .ok (.aload_n 0, 1) := by decide +kernel
theorem d_X_close_23 : decode b_X_close 23 = .ok (.iconst 1, 1) := by decide +kernel
theorem d_X_close_24 : decode b_X_close 24 = .ok (.putfield 87, 3) := by decide +kernel
theorem d_X_close_27 : decode b_X_close 27 = .ok (.aload_n 0, 1) := by decide +kernel
theorem d_X_close_28 : decode b_X_close 28 = .ok (.aload_n 0, 1) := by decide +kernel
theorem d_X_close_29 : decode b_X_close 29 = .ok (.aload_n 0, 1) := by decide +kernel
theorem d_X_close_30 : decode b_X_close 30 = .ok (.invokevirtual 120, 3) := by decide +kernel
theorem d_X_close_33 : decode b_X_close 33 = .ok (.invokevirtual 69, 3) := by decide +kernel
theorem d_X_close_36 : decode b_X_close 36 = .ok (.putfield 124, 3) := by decide +kernel
theorem d_X_close_39 : decode b_X_close 39 = .ok (.aload_n 0, 1) := by decide +kernel
theorem d_X_close_40 : decode b_X_close 40 = .ok (.getfield 124, 3) := by decide +kernel
theorem d_X_close_43 : decode b_X_close 43 = .ok (.lreturn, 1) := by decide +kernel
theorem d_X_votes_0 : decode b_X_votes 0 = .ok (.aload_n 0, 1) := by decide +kernel
theorem d_X_votes_1 : decode b_X_votes 1 = .ok (.invokevirtual 100, 3) := by decide +kernel
theorem d_X_votes_4 : decode b_X_votes 4 = .ok (.ifCond .ne 6, 3) := by decide +kernel
theorem d_X_votes_7 : decode b_X_votes 7 = .ok (.bipush (-2), 2) := by decide +kernel
theorem d_X_votes_9 : decode b_X_votes 9 = .ok (.ireturn, 1) := by decide +kernel
theorem d_X_votes_10 : decode b_X_votes 10 = .ok (.aload_n 0, 1) := by decide +kernel
theorem d_X_votes_11 : decode b_X_votes 11 = .ok (.iload_n 1, 1) := by decide +kernel
theorem d_X_votes_12 : decode b_X_votes 12 = .ok (.invokevirtual 105, 3) := by decide +kernel
theorem d_X_votes_15 : decode b_X_votes 15 = .ok (.ifCond .ne 6, 3) := by decide +kernel
theorem d_X_votes_18 : decode b_X_votes 18 = .ok (.bipush (-4), 2) := by decide +kernel
theorem d_X_votes_20 : decode b_X_votes 20 = .ok (.ireturn, 1) := by decide +kernel
theorem d_X_votes_21 : decode b_X_votes 21 = .ok (.aload_n 0, 1) := by decide +kernel
theorem d_X_votes_22 : decode b_X_votes 22 = .ok (.getfield 87, 3) := by decide +kernel
theorem d_X_votes_25 : decode b_X_votes 25 = .ok (.ifCond .ne 6, 3) := by decide +kernel
theorem d_X_votes_28 : decode b_X_votes 28 = .ok (.bipush (-6), 2) := by decide +kernel
theorem d_X_votes_30 : decode b_X_votes 30 = .ok (.ireturn, 1) := by decide +kernel
theorem d_X_votes_31 : decode b_X_votes 31 = .ok (.aload_n 0, 1) := by decide +kernel
theorem d_X_votes_32 : decode b_X_votes 32 = .ok (.getfield 124, 3) := by decide +kernel
theorem d_X_votes_35 : decode b_X_votes 35 = .ok (.aload_n 0, 1) := by decide +kernel
theorem d_X_votes_36 : decode b_X_votes 36 = .ok (.iload_n 1, 1) := by decide +kernel
theorem d_X_votes_37 : decode b_X_votes 37 = .ok (.invokevirtual 109, 3) := by decide +kernel
theorem d_X_votes_40 : decode b_X_votes 40 = .ok (.ldiv, 1) := by decide +kernel
theorem d_X_votes_41 : decode b_X_votes 41 = .ok (.aload_n 0, 1) := by decide +kernel
theorem d_X_votes_42 : decode b_X_votes 42 = .ok (.getfield 84, 3) := by decide +kernel
theorem d_X_votes_45 : decode b_X_votes 45 = .ok (.i2l, 1) := by decide +kernel
theorem d_X_votes_46 : decode b_X_votes 46 = .ok (.lrem, 1) := by decide +kernel
theorem d_X_votes_47 : decode b_X_votes 47 = .ok (.l2i, 1) := by decide +kernel
theorem d_X_votes_48 : decode b_X_votes 48 = .ok (.ireturn, 1) := by decide +kernel
theorem d_X_witness_0 : decode b_X_witness 0 = .ok (.aload_n 0, 1) := by decide +kernel
theorem d_X_witness_1 : decode b_X_witness 1 = .ok (.invokevirtual 100, 3) := by decide +kernel
theorem d_X_witness_4 : decode b_X_witness 4 = .ok (.ifCond .ne 7, 3) := by decide +kernel
theorem d_X_witness_7 : decode b_X_witness 7 = .ok (.ldc2_w 103, 3) := by decide +kernel
theorem d_X_witness_10 : decode b_X_witness 10 = .ok (.lreturn, 1) := by decide +kernel
theorem d_X_witness_11 : decode b_X_witness 11 = .ok (.aload_n 0, 1) := by decide +kernel
theorem d_X_witness_12 : decode b_X_witness 12 = .ok (.getfield 87, 3) := by decide +kernel
theorem d_X_witness_15 : decode b_X_witness 15 = .ok (.ifCond .ne 7, 3) := by decide +kernel
theorem d_X_witness_18 : decode b_X_witness 18 = .ok (.ldc2_w 118, 3) := by decide +kernel
theorem d_X_witness_21 : decode b_X_witness 21 = .ok (.lreturn, 1) := by decide +kernel
theorem d_X_witness_22 : decode b_X_witness 22 = .ok (.aload_n 0, 1) := by decide +kernel
theorem d_X_witness_23 : decode b_X_witness 23 = .ok (.aload_n 0, 1) := by decide +kernel
theorem d_X_witness_24 : decode b_X_witness 24 = .ok (.invokevirtual 120, 3) := by decide +kernel
theorem d_X_witness_27 : decode b_X_witness 27 = .ok (.invokevirtual 73, 3) := by decide +kernel
theorem d_X_witness_30 : decode b_X_witness 30 = .ok (.lreturn, 1) := by decide +kernel
theorem d_X_check_0 : decode b_X_check 0 = .ok (.aload_n 0, 1) := by decide +kernel
theorem d_X_check_1 : decode b_X_check 1 = .ok (.invokevirtual 100, 3) := by decide +kernel
theorem d_X_check_4 : decode b_X_check 4 = .ok (.ifCond .eq 37, 3) := by decide +kernel
theorem d_X_check_7 : decode b_X_check 7 = .ok (.aload_n 0, 1) := by decide +kernel
theorem d_X_check_8 : decode b_X_check 8 = .ok (.lload_n 1, 1) := by decide +kernel
theorem d_X_check_9 : decode b_X_check 9 = .ok (.invokevirtual 53, 3) := by decide +kernel
theorem d_X_check_12 : decode b_X_check 12 = .ok (.ifCond .eq 29, 3) := by decide +kernel
theorem d_X_check_15 : decode b_X_check 15 = .ok (.aload_n 0, 1) := by decide +kernel
theorem d_X_check_16 : decode b_X_check 16 = .ok (.lload_n 3, 1) := by decide +kernel
theorem d_X_check_17 : decode b_X_check 17 = .ok (.invokevirtual 57, 3) := by decide +kernel
theorem d_X_check_20 : decode b_X_check 20 = .ok (.ifCond .eq 21, 3) := by decide +kernel
theorem d_X_check_23 : decode b_X_check 23 = .ok (.aload_n 0, 1) := by decide +kernel
theorem d_X_check_24 : decode b_X_check 24 = .ok (.lload_n 1, 1) := by decide +kernel
theorem d_X_check_25 : decode b_X_check 25 = .ok (.lload_n 3, 1) := by decide +kernel
theorem d_X_check_26 : decode b_X_check 26 = .ok (.invokevirtual 62, 3) := by decide +kernel
theorem d_X_check_29 : decode b_X_check 29 = .ok (.aload_n 0, 1) := by decide +kernel
theorem d_X_check_30 : decode b_X_check 30 = .ok (.invokevirtual 120, 3) := by decide +kernel
theorem d_X_check_33 : decode b_X_check 33 = .ok (.lcmp, 1) := by decide +kernel
theorem d_X_check_34 : decode b_X_check 34 = .ok (.ifCond .ne 7, 3) := by decide +kernel
theorem d_X_check_37 : decode b_X_check 37 = .ok (.iconst 1, 1) := by decide +kernel
theorem d_X_check_38 : decode b_X_check 38 = .ok (.goto 4, 3) := by decide +kernel
theorem d_X_check_41 : decode b_X_check 41 = .ok (.iconst 0, 1) := by decide +kernel
theorem d_X_check_42 : decode b_X_check 42 = .ok (.ireturn, 1) := by decide +kernel
end
section
theorem d_M_init_0 : decode b_M_init 0 = .ok (.aload_n 0, 1) := by decide +kernel
theorem d_M_init_1 : decode b_M_init 1 = .ok (.invokespecial 1, 3) := by decide +kernel
theorem d_M_init_4 : decode b_M_init 4 = .ok (.aload_n 0, 1) := by decide +kernel
theorem d_M_init_5 : decode b_M_init 5 = .ok (.bipush 30, 2) := by decide +kernel
theorem d_M_init_7 : decode b_M_init 7 = .ok (.newarray .long, 2) := by decide +kernel
theorem d_M_init_9 : decode b_M_init 9 = .ok (.putfield 7, 3) := by decide +kernel
theorem d_M_init_12 : decode b_M_init 12 = .ok (.return_, 1) := by decide +kernel
theorem d_M_key_0 : decode b_M_key 0 = .ok (.iload_n 1, 1) := by decide +kernel
theorem d_M_key_1 : decode b_M_key 1 = .ok (.invokestatic 13, 3) := by decide +kernel
theorem d_M_key_4 : decode b_M_key 4 = .ok (.ifCond .eq 31, 3) := by decide +kernel
theorem d_M_key_7 : decode b_M_key 7 = .ok (.iload_n 2, 1) := by decide +kernel
theorem d_M_key_8 : decode b_M_key 8 = .ok (.invokestatic 13, 3) := by decide +kernel
theorem d_M_key_11 : decode b_M_key 11 = .ok (.ifCond .eq 24, 3) := by decide +kernel
theorem d_M_key_14 : decode b_M_key 14 = .ok (.iload_n 1, 1) := by decide +kernel
theorem d_M_key_15 : decode b_M_key 15 = .ok (.iload_n 2, 1) := by decide +kernel
theorem d_M_key_16 : decode b_M_key 16 = .ok (.if_icmp .eq 19, 3) := by decide +kernel
theorem d_M_key_19 : decode b_M_key 19 = .ok (.iload_n 2, 1) := by decide +kernel
theorem d_M_key_20 : decode b_M_key 20 = .ok (.iconst 1, 1) := by decide +kernel
theorem d_M_key_21 : decode b_M_key 21 = .ok (.isub, 1) := by decide +kernel
theorem d_M_key_22 : decode b_M_key 22 = .ok (.iload_n 1, 1) := by decide +kernel
theorem d_M_key_23 : decode b_M_key 23 = .ok (.irem, 1) := by decide +kernel
theorem d_M_key_24 : decode b_M_key 24 = .ok (.ifCond .eq 11, 3) := by decide +kernel
theorem d_M_key_27 : decode b_M_key 27 = .ok (.iload_n 1, 1) := by decide +kernel
theorem d_M_key_28 : decode b_M_key 28 = .ok (.iconst 1, 1) := by decide +kernel
theorem d_M_key_29 : decode b_M_key 29 = .ok (.isub, 1) := by decide +kernel
theorem d_M_key_30 : decode b_M_key 30 = .ok (.iload_n 2, 1) := by decide +kernel
theorem d_M_key_31 : decode b_M_key 31 = .ok (.irem, 1) := by decide +kernel
theorem d_M_key_32 : decode b_M_key 32 = .ok (.ifCond .ne 6, 3) := by decide +kernel
theorem d_M_key_35 : decode b_M_key 35 = .ok (.bipush (-4), 2) := by decide +kernel
theorem d_M_key_37 : decode b_M_key 37 = .ok (.ireturn, 1) := by decide +kernel
theorem d_M_key_38 : decode b_M_key 38 = .ok (.aload_n 0, 1) := by decide +kernel
theorem d_M_key_39 : decode b_M_key 39 = .ok (.iload_n 1, 1) := by decide +kernel
theorem d_M_key_40 : decode b_M_key 40 = .ok (.i2l, 1) := by decide +kernel
theorem d_M_key_41 : decode b_M_key 41 = .ok (.iload_n 2, 1) := by decide +kernel
theorem d_M_key_42 : decode b_M_key 42 = .ok (.i2l, 1) := by decide +kernel
theorem d_M_key_43 : decode b_M_key 43 = .ok (.lmul, 1) := by decide +kernel
theorem d_M_key_44 : decode b_M_key 44 = .ok (.putfield 17, 3) := by decide +kernel
theorem d_M_key_47 : decode b_M_key 47 = .ok (.aload_n 0, 1) := by decide +kernel
theorem d_M_key_48 : decode b_M_key 48 = .ok (.aload_n 0, 1) := by decide +kernel
theorem d_M_key_49 : decode b_M_key 49 = .ok (.getfield 17, 3) := by decide +kernel
theorem d_M_key_52 : decode b_M_key 52 = .ok (.aload_n 0, 1) := by decide +kernel
theorem d_M_key_53 : decode b_M_key 53 = .ok (.getfield 17, 3) := by decide +kernel
theorem d_M_key_56 : decode b_M_key 56 = .ok (.lmul, 1) := by decide +kernel
theorem d_M_key_57 : decode b_M_key 57 = .ok (.putfield 21, 3) := by decide +kernel
theorem d_M_key_60 : decode b_M_key 60 = .ok (.aload_n 0, 1) := by decide +kernel
theorem d_M_key_61 : decode b_M_key 61 = .ok (.iload_n 1, 1) := by decide +kernel
theorem d_M_key_62 : decode b_M_key 62 = .ok (.i2l, 1) := by decide +kernel
theorem d_M_key_63 : decode b_M_key 63 = .ok (.lconst 1, 1) := by decide +kernel
theorem d_M_key_64 : decode b_M_key 64 = .ok (.lsub, 1) := by decide +kernel
theorem d_M_key_65 : decode b_M_key 65 = .ok (.iload_n 2, 1) := by decide +kernel
theorem d_M_key_66 : decode b_M_key 66 = .ok (.i2l, 1) := by decide +kernel
theorem d_M_key_67 : decode b_M_key 67 = .ok (.lconst 1, 1) := by decide +kernel
theorem d_M_key_68 : decode b_M_key 68 = .ok (.lsub, 1) := by decide +kernel
theorem d_M_key_69 : decode b_M_key 69 = .ok (.lmul, 1) := by decide +kernel
theorem d_M_key_70 : decode b_M_key 70 = .ok (.putfield 24, 3) := by decide +kernel
theorem d_M_key_73 : decode b_M_key 73 = .ok (.aload_n 0, 1) := by decide +kernel
theorem d_M_key_74 : decode b_M_key 74 = .ok (.lconst 1, 1) := by decide +kernel
theorem d_M_key_75 : decode b_M_key 75 = .ok (.putfield 27, 3) := by decide +kernel
theorem d_M_key_78 : decode b_M_key 78 = .ok (.aload_n 0, 1) := by decide +kernel
theorem d_M_key_79 : decode b_M_key 79 = .ok (.getfield 17, 3) := by decide +kernel
theorem d_M_key_82 : decode b_M_key 82 = .ok (.aload_n 0, 1) := by decide +kernel
theorem d_M_key_83 : decode b_M_key 83 = .ok (.getfield 24, 3) := by decide +kernel
theorem d_M_key_86 : decode b_M_key 86 = .ok (.lrem, 1) := by decide +kernel
theorem d_M_key_87 : decode b_M_key 87 = .ok (.lstore_n 3, 1) := by decide +kernel
theorem d_M_key_88 : decode b_M_key 88 = .ok (.lload_n 3, 1) := by decide +kernel
theorem d_M_key_89 : decode b_M_key 89 = .ok (.lconst 1, 1) := by decide +kernel
theorem d_M_key_90 : decode b_M_key 90 = .ok (.lcmp, 1) := by decide +kernel
theorem d_M_key_91 : decode b_M_key 91 = .ok (.ifCond .eq 40, 3) := by decide +kernel
theorem d_M_key_94 : decode b_M_key 94 = .ok (.aload_n 0, 1) := by decide +kernel
theorem d_M_key_95 : decode b_M_key 95 = .ok (.getfield 27, 3) := by decide +kernel
theorem d_M_key_98 : decode b_M_key 98 = .ok (.aload_n 0, 1) := by decide +kernel
theorem d_M_key_99 : decode b_M_key 99 = .ok (.getfield 24, 3) := by decide +kernel
theorem d_M_key_102 : decode b_M_key 102 = .ok (.lcmp, 1) := by decide +kernel
theorem d_M_key_103 : decode b_M_key 103 = .ok (.ifCond .ge 28, 3) := by decide +kernel
theorem d_M_key_106 : decode b_M_key 106 = .ok (.lload_n 3, 1) := by decide +kernel
theorem d_M_key_107 : decode b_M_key 107 = .ok (.aload_n 0, 1) := by decide +kernel
theorem d_M_key_108 : decode b_M_key 108 = .ok (.getfield 17, 3) := by decide +kernel
theorem d_M_key_111 : decode b_M_key 111 = .ok (.ladd, 1) := by decide +kernel
theorem d_M_key_112 : decode b_M_key 112 = .ok (.aload_n 0, 1) := by decide +kernel
theorem d_M_key_113 : decode b_M_key 113 = .ok (.getfield 24, 3) := by decide +kernel
theorem d_M_key_116 : decode b_M_key 116 = .ok (.lrem, 1) := by decide +kernel
theorem d_M_key_117 : decode b_M_key 117 = .ok (.lstore_n 3, 1) := by decide +kernel
theorem d_M_key_118 : decode b_M_key 118 = .ok (.aload_n 0, 1) := by decide +kernel
theorem d_M_key_119 : decode b_M_key 119 = .ok (.dup, 1) := by decide +kernel
theorem d_M_key_120 : decode b_M_key 120 = .ok (.getfield 27, 3) := by decide +kernel
theorem d_M_key_123 : decode b_M_key 123 = .ok (.lconst 1, 1) := by decide +kernel
theorem d_M_key_124 : decode b_M_key 124 = .ok (.ladd, 1) := by decide +kernel
theorem d_M_key_125 : decode b_M_key 125 = .ok (.putfield 27, 3) := by decide +kernel
theorem d_M_key_128 : decode b_M_key 128 = .ok (.goto (-40), 3) := by decide +kernel
theorem d_M_key_131 : decode b_M_key 131 = .ok (.aload_n 0, 1) := by decide +kernel
theorem d_M_key_132 : decode b_M_key 132 = .ok (.iconst 0, 1) := by decide +kernel
theorem d_M_key_133 : decode b_M_key 133 = .ok (.putfield 30, 3) := by decide +kernel
theorem d_M_key_136 : decode b_M_key 136 = .ok (.aload_n 0, 1) := by decide +kernel
theorem d_M_key_137 : decode b_M_key 137 = .ok (.getfield 17, 3) := by decide +kernel
theorem d_M_key_140 : decode b_M_key 140 = .ok (.l2i, 1) := by decide +kernel
theorem d_M_key_141 : decode b_M_key 141 = .ok (.ireturn, 1) := by decide +kernel
theorem d_M_prime_0 : decode b_M_prime 0 = .ok (.iload_n 0, 1) := by decide +kernel
theorem d_M_prime_1 : decode b_M_prime 1 = .ok (.iconst 3, 1) := by decide +kernel
theorem d_M_prime_2 : decode b_M_prime 2 = .ok (.if_icmp .lt 10, 3) := by decide +kernel
theorem d_M_prime_5 : decode b_M_prime 5 = .ok (.iload_n 0, 1) := by decide +kernel
theorem d_M_prime_6 : decode b_M_prime 6 = .ok (.sipush 229, 3) := by decide +kernel
theorem d_M_prime_9 : decode b_M_prime 9 = .ok (.if_icmp .le 5, 3) := by decide +kernel
theorem d_M_prime_12 : decode b_M_prime 12 = .ok (.iconst 0, 1) := by decide +kernel
theorem d_M_prime_13 : decode b_M_prime 13 = .ok (.ireturn, 1) := by decide +kernel
theorem d_M_prime_14 : decode b_M_prime 14 = .ok (.iconst 0, 1) := by decide +kernel
theorem d_M_prime_15 : decode b_M_prime 15 = .ok (.istore_n 1, 1) := by decide +kernel
theorem d_M_prime_16 : decode b_M_prime 16 = .ok (.iconst 1, 1) := by decide +kernel
theorem d_M_prime_17 : decode b_M_prime 17 = .ok (.istore_n 2, 1) := by decide +kernel
theorem d_M_prime_18 : decode b_M_prime 18 = .ok (.iload_n 2, 1) := by decide +kernel
theorem d_M_prime_19 : decode b_M_prime 19 = .ok (.iload_n 0, 1) := by decide +kernel
theorem d_M_prime_20 : decode b_M_prime 20 = .ok (.if_icmp .gt 23, 3) := by decide +kernel
theorem d_M_prime_23 : decode b_M_prime 23 = .ok (.iload_n 1, 1) := by decide +kernel
theorem d_M_prime_24 : decode b_M_prime 24 = .ok (.iload_n 0, 1) := by decide +kernel
theorem d_M_prime_25 : decode b_M_prime 25 = .ok (.iload_n 2, 1) := by decide +kernel
theorem d_M_prime_26 : decode b_M_prime 26 = .ok (.irem, 1) := by decide +kernel
theorem d_M_prime_27 : decode b_M_prime 27 = .ok (.ifCond .ne 7, 3) := by decide +kernel
theorem d_M_prime_30 : decode b_M_prime 30 = .ok (.iconst 1, 1) := by decide +kernel
theorem d_M_prime_31 : decode b_M_prime 31 = .ok (.goto 4, 3) := by decide +kernel
theorem d_M_prime_34 : decode b_M_prime 34 = .ok (.iconst 0, 1) := by decide +kernel
theorem d_M_prime_35 : decode b_M_prime 35 = .ok (.iadd, 1) := by decide +kernel
theorem d_M_prime_36 : decode b_M_prime 36 = .ok (.istore_n 1, 1) := by decide +kernel
theorem d_M_prime_37 : decode b_M_prime 37 = .ok (.iinc 2 1, 3) := by decide +kernel
theorem d_M_prime_40 : decode b_M_prime 40 = .ok (.goto (-22), 3) := by decide +kernel
theorem d_M_prime_43 : decode b_M_prime 43 = .ok (.iload_n 1, 1) := by decide +kernel
theorem d_M_prime_44 : decode b_M_prime 44 = .ok (.iconst 2, 1) := by decide +kernel
theorem d_M_prime_45 : decode b_M_prime 45 = .ok (.if_icmp .ne 7, 3) := by decide +kernel
theorem d_M_prime_48 : decode b_M_prime 48 = .ok (.iconst 1, 1) := by decide +kernel
theorem d_M_prime_49 : decode b_M_prime 49 = .ok (.goto 4, 3) := by decide +kernel
theorem d_M_prime_52 : decode b_M_prime 52 = .ok (.iconst 0, 1) := by decide +kernel
theorem d_M_prime_53 : decode b_M_prime 53 = .ok (.ireturn, 1) := by decide +kernel
theorem d_M_modulus_0 : decode b_M_modulus 0 = .ok (.aload_n 0, 1) := by decide +kernel
theorem d_M_modulus_1 : decode b_M_modulus 1 = .ok (.getfield 17, 3) := by decide +kernel
theorem d_M_modulus_4 : decode b_M_modulus 4 = .ok (.l2i, 1) := by decide +kernel
theorem d_M_modulus_5 : decode b_M_modulus 5 = .ok (.ireturn, 1) := by decide +kernel
theorem d_M_seal_0 : decode b_M_seal 0 = .ok (.aload_n 0, 1) := by decide +kernel
theorem d_M_seal_1 : decode b_M_seal 1 = .ok (.getfield 17, 3) := by decide +kernel
theorem d_M_seal_4 : decode b_M_seal 4 = .ok (.lconst 0, 1) := by decide +kernel
theorem d_M_seal_5 : decode b_M_seal 5 = .ok (.lcmp, 1) := by decide +kernel
theorem d_M_seal_6 : decode b_M_seal 6 = .ok (.ifCond .ne 7, 3) := by decide +kernel
theorem d_M_seal_9 : decode b_M_seal 9 = .ok (.ldc2_w 48, 3) := by decide +kernel
theorem d_M_seal_12 : decode b_M_seal 12 = .ok (.lreturn, 1) := by decide +kernel
theorem d_M_seal_13 : decode b_M_seal 13 = .ok (.aload_n 0, 1) := by decide +kernel
theorem d_M_seal_14 : decode b_M_seal 14 = .ok (.lload_n 1, 1) := by decide +kernel
theorem d_M_seal_15 : decode b_M_seal 15 = .ok (.invokevirtual 50, 3) := by decide +kernel
theorem d_M_seal_18 : decode b_M_seal 18 = .ok (.ifCond .eq 20, 3) := by decide +kernel
theorem d_M_seal_21 : decode b_M_seal 21 = .ok (.aload_n 0, 1) := by decide +kernel
theorem d_M_seal_22 : decode b_M_seal 22 = .ok (.lload_n 3, 1) := by decide +kernel
theorem d_M_seal_23 : decode b_M_seal 23 = .ok (.invokevirtual 54, 3) := by decide +kernel
theorem d_M_seal_26 : decode b_M_seal 26 = .ok (.ifCond .eq 12, 3) := by decide +kernel
theorem d_M_seal_29 : decode b_M_seal 29 = .ok (.aload_n 0, 1) := by decide +kernel
theorem d_M_seal_30 : decode b_M_seal 30 = .ok (.lload_n 1, 1) := by decide +kernel
theorem d_M_seal_31 : decode b_M_seal 31 = .ok (.lload_n 3, 1) := by decide +kernel
theorem d_M_seal_32 : decode b_M_seal 32 = .ok (.invokevirtual 57, 3) := by decide +kernel
theorem d_M_seal_35 : decode b_M_seal 35 = .ok (.goto 6, 3) := by decide +kernel
theorem d_M_seal_38 : decode b_M_seal 38 = .ok (.ldc2_w 60, 3) := by decide +kernel
theorem d_M_seal_41 : decode b_M_seal 41 = .ok (.lreturn, 1) := by decide +kernel
theorem d_M_isMessage_0 : decode b_M_isMessage 0 = .ok (.lload_n 1, 1) := by decide +kernel
theorem d_M_isMessage_1 : decode b_M_isMessage 1 = .ok (.lconst 0, 1) := by decide +kernel
theorem d_M_isMessage_2 : decode b_M_isMessage 2 = .ok (.lcmp, 1) := by decide +kernel
theorem d_M_isMessage_3 : decode b_M_isMessage 3 = .ok (.ifCond .lt 16, 3) := by decide +kernel
theorem d_M_isMessage_6 : decode b_M_isMessage 6 = .ok (.lload_n 1, 1) := by decide +kernel
theorem d_M_isMessage_7 : decode b_M_isMessage 7 = .ok (.aload_n 0, 1) := by decide +kernel
theorem d_M_isMessage_8 : decode b_M_isMessage 8 = .ok (.getfield 17, 3) := by decide +kernel
theorem d_M_isMessage_11 : decode b_M_isMessage 11 = .ok (.lcmp, 1) := by decide +kernel
theorem d_M_isMessage_12 : decode b_M_isMessage 12 = .ok (.ifCond .ge 7, 3) := by decide +kernel
theorem d_M_isMessage_15 : decode b_M_isMessage 15 = .ok (.iconst 1, 1) := by decide +kernel
theorem d_M_isMessage_16 : decode b_M_isMessage 16 = .ok (.goto 4, 3) := by decide +kernel
theorem d_M_isMessage_19 : decode b_M_isMessage 19 = .ok (.iconst 0, 1) := by decide +kernel
theorem d_M_isMessage_20 : decode b_M_isMessage 20 = .ok (.ireturn, 1) := by decide +kernel
theorem d_M_isCoin_0 : decode b_M_isCoin 0 = .ok (.lload_n 1, 1) := by decide +kernel
theorem d_M_isCoin_1 : decode b_M_isCoin 1 = .ok (.lconst 1, 1) := by decide +kernel
theorem d_M_isCoin_2 : decode b_M_isCoin 2 = .ok (.lcmp, 1) := by decide +kernel
theorem d_M_isCoin_3 : decode b_M_isCoin 3 = .ok (.ifCond .lt 29, 3) := by decide +kernel
theorem d_M_isCoin_6 : decode b_M_isCoin 6 = .ok (.lload_n 1, 1) := by decide +kernel
theorem d_M_isCoin_7 : decode b_M_isCoin 7 = .ok (.aload_n 0, 1) := by decide +kernel
theorem d_M_isCoin_8 : decode b_M_isCoin 8 = .ok (.getfield 17, 3) := by decide +kernel
theorem d_M_isCoin_11 : decode b_M_isCoin 11 = .ok (.lcmp, 1) := by decide +kernel
theorem d_M_isCoin_12 : decode b_M_isCoin 12 = .ok (.ifCond .ge 20, 3) := by decide +kernel
theorem d_M_isCoin_15 : decode b_M_isCoin 15 = .ok (.aload_n 0, 1) := by decide +kernel
theorem d_M_isCoin_16 : decode b_M_isCoin 16 = .ok (.getfield 17, 3) := by decide +kernel
theorem d_M_isCoin_19 : decode b_M_isCoin 19 = .ok (.lload_n 1, 1) := by decide +kernel
theorem d_M_isCoin_20 : decode b_M_isCoin 20 = .ok (.invokestatic 34, 3) := by decide +kernel
theorem d_M_isCoin_23 : decode b_M_isCoin 23 = .ok (.lconst 1, 1) := by decide +kernel
theorem d_M_isCoin_24 : decode b_M_isCoin 24 = .ok (.lcmp, 1) := by decide +kernel
theorem d_M_isCoin_25 : decode b_M_isCoin 25 = .ok (.ifCond .ne 7, 3) := by decide +kernel
theorem d_M_isCoin_28 : decode b_M_isCoin 28 = .ok (.iconst 1, 1) := by decide +kernel
theorem d_M_isCoin_29 : decode b_M_isCoin 29 = .ok (.goto 4, 3) := by decide +kernel
theorem d_M_isCoin_32 : decode b_M_isCoin 32 = .ok (.iconst 0, 1) := by decide +kernel
theorem d_M_isCoin_33 : decode b_M_isCoin 33 = .ok (.ireturn, 1) := by decide +kernel
theorem d_M_factor_0 : decode b_M_factor 0 = .ok (.lload_n 0, 1) := by decide +kernel
theorem d_M_factor_1 : decode b_M_factor 1 = .ok (.lstore 4, 2) := by decide +kernel
theorem d_M_factor_3 : decode b_M_factor 3 = .ok (.lload_n 2, 1) := by decide +kernel
theorem d_M_factor_4 : decode b_M_factor 4 = .ok (.lstore 6, 2) := by decide +kernel
theorem d_M_factor_6 : decode b_M_factor 6 = .ok (.lload 6, 2) := by decide +kernel
theorem d_M_factor_8 : decode b_M_factor 8 = .ok (.lconst 0, 1) := by decide +kernel
theorem d_M_factor_9 : decode b_M_factor 9 = .ok (.lcmp, 1) := by decide +kernel
theorem d_M_factor_10 : decode b_M_factor 10 = .ok (.ifCond .eq 21, 3) := by decide +kernel
theorem d_M_factor_13 : decode b_M_factor 13 = .ok (.lload 4, 2) := by decide +kernel
theorem d_M_factor_15 : decode b_M_factor 15 = .ok (.lload 6, 2) := by decide +kernel
theorem d_M_factor_17 : decode b_M_factor 17 = .ok (.lrem, 1) := by decide +kernel
theorem d_M_factor_18 : decode b_M_factor 18 = .ok (.lstore 8, 2) := by decide +kernel
theorem d_M_factor_20 : decode b_M_factor 20 = .ok (.lload 6, 2) := by decide +kernel
theorem d_M_factor_22 : decode b_M_factor 22 = .ok (.lstore 4, 2) := by decide +kernel
theorem d_M_factor_24 : decode b_M_factor 24 = .ok (.lload 8, 2) := by decide +kernel
theorem d_M_factor_26 : decode b_M_factor 26 = .ok (.lstore 6, 2) := by decide +kernel
theorem d_M_factor_28 : decode b_M_factor 28 = .ok (.goto (-22), 3) := by decide +kernel
theorem d_M_factor_31 : decode b_M_factor 31 = .ok (.lload 4, 2) := by decide +kernel
theorem d_M_factor_33 : decode b_M_factor 33 = .ok (.lreturn, 1) := by decide +kernel
theorem d_M_sealing_0 : decode b_M_sealing 0 = .ok (.lconst 1, 1) := by decide +kernel
theorem d_M_sealing_1 : decode b_M_sealing 1 = .ok (.aload_n 0, 1) := by decide +kernel
theorem d_M_sealing_2 : decode b_M_sealing 2 = .ok (.getfield 17, 3) := by decide +kernel
theorem d_M_sealing_5 : decode b_M_sealing 5 = .ok (.ladd, 1) := by decide +kernel
theorem d_M_sealing_6 : decode b_M_sealing 6 = .ok (.lload_n 1, 1) := by decide +kernel
theorem d_M_sealing_7 : decode b_M_sealing 7 = .ok (.aload_n 0, 1) := by decide +kernel
theorem d_M_sealing_8 : decode b_M_sealing 8 = .ok (.getfield 21, 3) := by decide +kernel
theorem d_M_sealing_11 : decode b_M_sealing 11 = .ok (.invokestatic 40, 3) := by decide +kernel
theorem d_M_sealing_14 : decode b_M_sealing 14 = .ok (.lstore 5, 2) := by decide +kernel
theorem d_M_sealing_16 : decode b_M_sealing 16 = .ok (.lload 5, 2) := by decide +kernel
theorem d_M_sealing_18 : decode b_M_sealing 18 = .ok (.lload_n 3, 1) := by decide +kernel
theorem d_M_sealing_19 : decode b_M_sealing 19 = .ok (.aload_n 0, 1) := by decide +kernel
theorem d_M_sealing_20 : decode b_M_sealing 20 = .ok (.getfield 17, 3) := by decide +kernel
theorem d_M_sealing_23 : decode b_M_sealing 23 = .ok (.aload_n 0, 1) := by decide +kernel
theorem d_M_sealing_24 : decode b_M_sealing 24 = .ok (.getfield 21, 3) := by decide +kernel
theorem d_M_sealing_27 : decode b_M_sealing 27 = .ok (.invokestatic 40, 3) := by decide +kernel
theorem d_M_sealing_30 : decode b_M_sealing 30 = .ok (.lmul, 1) := by decide +kernel
theorem d_M_sealing_31 : decode b_M_sealing 31 = .ok (.aload_n 0, 1) := by decide +kernel
theorem d_M_sealing_32 : decode b_M_sealing 32 = .ok (.getfield 21, 3) := by decide +kernel
theorem d_M_sealing_35 : decode b_M_sealing 35 = .ok (.lrem, 1) := by decide +kernel
theorem d_M_sealing_36 : decode b_M_sealing 36 = .ok (.lreturn, 1) := by decide +kernel
theorem d_M_raise_0 : decode b_M_raise 0 = .ok (.lconst 1, 1) := by decide +kernel
theorem d_M_raise_1 : decode b_M_raise 1 = .ok (.lstore 6, 2) := by decide +kernel
theorem d_M_raise_3 : decode b_M_raise 3 = .ok (.lload_n 0, 1) := by decide +kernel
theorem d_M_raise_4 : decode b_M_raise 4 = .ok (.lload 4, 2) := by decide +kernel
theorem d_M_raise_6 : decode b_M_raise 6 = .ok (.lrem, 1) := by decide +kernel
theorem d_M_raise_7 : decode b_M_raise 7 = .ok (.lstore 8, 2) := by decide +kernel
theorem d_M_raise_9 : decode b_M_raise 9 = .ok (.lload_n 2, 1) := by decide +kernel
theorem d_M_raise_10 : decode b_M_raise 10 = .ok (.lstore 10, 2) := by decide +kernel
theorem d_M_raise_12 : decode b_M_raise 12 = .ok (.lload 10, 2) := by decide +kernel
theorem d_M_raise_14 : decode b_M_raise 14 = .ok (.lconst 0, 1) := by decide +kernel
theorem d_M_raise_15 : decode b_M_raise 15 = .ok (.lcmp, 1) := by decide +kernel
theorem d_M_raise_16 : decode b_M_raise 16 = .ok (.ifCond .le 50, 3) := by decide +kernel
theorem d_M_raise_19 : decode b_M_raise 19 = .ok (.lload 10, 2) := by decide +kernel
theorem d_M_raise_21 : decode b_M_raise 21 = .ok (.ldc2_w 38, 3) := by decide +kernel
theorem d_M_raise_24 : decode b_M_raise 24 = .ok (.lrem, 1) := by decide +kernel
theorem d_M_raise_25 : decode b_M_raise 25 = .ok (.lconst 1, 1) := by decide +kernel
theorem d_M_raise_26 : decode b_M_raise 26 = .ok (.lcmp, 1) := by decide +kernel
theorem d_M_raise_27 : decode b_M_raise 27 = .ok (.ifCond .ne 14, 3) := by decide +kernel
theorem d_M_raise_30 : decode b_M_raise 30 = .ok (.lload 6, 2) := by decide +kernel
theorem d_M_raise_32 : decode b_M_raise 32 = .ok (.lload 8, 2) := by decide +kernel
theorem d_M_raise_34 : decode b_M_raise 34 = .ok (.lmul, 1) := by decide +kernel
theorem d_M_raise_35 : decode b_M_raise 35 = .ok (.lload 4, 2) := by decide +kernel
theorem d_M_raise_37 : decode b_M_raise 37 = .ok (.lrem, 1) := by decide +kernel
theorem d_M_raise_38 : decode b_M_raise 38 = .ok (.goto 5, 3) := by decide +kernel
theorem d_M_raise_41 : decode b_M_raise 41 = .ok (.lload 6, 2) := by decide +kernel
theorem d_M_raise_43 : decode b_M_raise 43 = .ok (.lstore 6, 2) := by decide +kernel
theorem d_M_raise_45 : decode b_M_raise 45 = .ok (.lload 8, 2) := by decide +kernel
theorem d_M_raise_47 : decode b_M_raise 47 = .ok (.lload 8, 2) := by decide +kernel
theorem d_M_raise_49 : decode b_M_raise 49 = .ok (.lmul, 1) := by decide +kernel
theorem d_M_raise_50 : decode b_M_raise 50 = .ok (.lload 4, 2) := by decide +kernel
theorem d_M_raise_52 : decode b_M_raise 52 = .ok (.lrem, 1) := by decide +kernel
theorem d_M_raise_53 : decode b_M_raise 53 = .ok (.lstore 8, 2) := by decide +kernel
theorem d_M_raise_55 : decode b_M_raise 55 = .ok (.lload 10, 2) := by decide +kernel
theorem d_M_raise_57 : decode b_M_raise 57 = .ok (.ldc2_w 38, 3) := by decide +kernel
theorem d_M_raise_60 : decode b_M_raise 60 = .ok (.ldiv, 1) := by decide +kernel
theorem d_M_raise_61 : decode b_M_raise 61 = .ok (.lstore 10, 2) := by decide +kernel
theorem d_M_raise_63 : decode b_M_raise 63 = .ok (.goto (-51), 3) := by decide +kernel
theorem d_M_raise_66 : decode b_M_raise 66 = .ok (.lload 6, 2) := by decide +kernel
theorem d_M_raise_68 : decode b_M_raise 68 = .ok (.lreturn, 1) := by decide +kernel
theorem d_M_message_0 : decode b_M_message 0 = .ok (.aload_n 0, 1) := by decide +kernel
theorem d_M_message_1 : decode b_M_message 1 = .ok (.getfield 17, 3) := by decide +kernel
theorem d_M_message_4 : decode b_M_message 4 = .ok (.lconst 0, 1) := by decide +kernel
theorem d_M_message_5 : decode b_M_message 5 = .ok (.lcmp, 1) := by decide +kernel
theorem d_M_message_6 : decode b_M_message 6 = .ok (.ifCond .ne 7, 3) := by decide +kernel
theorem d_M_message_9 : decode b_M_message 9 = .ok (.ldc2_w 48, 3) := by decide +kernel
theorem d_M_message_12 : decode b_M_message 12 = .ok (.lreturn, 1) := by decide +kernel
theorem d_M_message_13 : decode b_M_message 13 = .ok (.aload_n 0, 1) := by decide +kernel
theorem d_M_message_14 : decode b_M_message 14 = .ok (.lload_n 1, 1) := by decide +kernel
theorem d_M_message_15 : decode b_M_message 15 = .ok (.invokevirtual 62, 3) := by decide +kernel
theorem d_M_message_18 : decode b_M_message 18 = .ok (.ifCond .eq 11, 3) := by decide +kernel
theorem d_M_message_21 : decode b_M_message 21 = .ok (.aload_n 0, 1) := by decide +kernel
theorem d_M_message_22 : decode b_M_message 22 = .ok (.lload_n 1, 1) := by decide +kernel
theorem d_M_message_23 : decode b_M_message 23 = .ok (.invokevirtual 65, 3) := by decide +kernel
theorem d_M_message_26 : decode b_M_message 26 = .ok (.goto 6, 3) := by decide +kernel
theorem d_M_message_29 : decode b_M_message 29 = .ok (.ldc2_w 60, 3) := by decide +kernel
theorem d_M_message_32 : decode b_M_message 32 = .ok (.lreturn, 1) := by decide +kernel
theorem d_M_isSeal_0 : decode b_M_isSeal 0 = .ok (.lload_n 1, 1) := by decide +kernel
theorem d_M_isSeal_1 : decode b_M_isSeal 1 = .ok (.lconst 1, 1) := by decide +kernel
theorem d_M_isSeal_2 : decode b_M_isSeal 2 = .ok (.lcmp, 1) := by decide +kernel
theorem d_M_isSeal_3 : decode b_M_isSeal 3 = .ok (.ifCond .lt 29, 3) := by decide +kernel
theorem d_M_isSeal_6 : decode b_M_isSeal 6 = .ok (.lload_n 1, 1) := by decide +kernel
theorem d_M_isSeal_7 : decode b_M_isSeal 7 = .ok (.aload_n 0, 1) := by decide +kernel
theorem d_M_isSeal_8 : decode b_M_isSeal 8 = .ok (.getfield 21, 3) := by decide +kernel
theorem d_M_isSeal_11 : decode b_M_isSeal 11 = .ok (.lcmp, 1) := by decide +kernel
theorem d_M_isSeal_12 : decode b_M_isSeal 12 = .ok (.ifCond .ge 20, 3) := by decide +kernel
theorem d_M_isSeal_15 : decode b_M_isSeal 15 = .ok (.aload_n 0, 1) := by decide +kernel
theorem d_M_isSeal_16 : decode b_M_isSeal 16 = .ok (.getfield 17, 3) := by decide +kernel
theorem d_M_isSeal_19 : decode b_M_isSeal 19 = .ok (.lload_n 1, 1) := by decide +kernel
theorem d_M_isSeal_20 : decode b_M_isSeal 20 = .ok (.invokestatic 34, 3) := by decide +kernel
theorem d_M_isSeal_23 : decode b_M_isSeal 23 = .ok (.lconst 1, 1) := by decide +kernel
theorem d_M_isSeal_24 : decode b_M_isSeal 24 = .ok (.lcmp, 1) := by decide +kernel
theorem d_M_isSeal_25 : decode b_M_isSeal 25 = .ok (.ifCond .ne 7, 3) := by decide +kernel
theorem d_M_isSeal_28 : decode b_M_isSeal 28 = .ok (.iconst 1, 1) := by decide +kernel
theorem d_M_isSeal_29 : decode b_M_isSeal 29 = .ok (.goto 4, 3) := by decide +kernel
theorem d_M_isSeal_32 : decode b_M_isSeal 32 = .ok (.iconst 0, 1) := by decide +kernel
theorem d_M_isSeal_33 : decode b_M_isSeal 33 = .ok (.ireturn, 1) := by decide +kernel
theorem d_M_messageIn_0 : decode b_M_messageIn 0 = .ok (.aload_n 0, 1) := by decide +kernel
theorem d_M_messageIn_1 : decode b_M_messageIn 1 = .ok (.lload_n 1, 1) := by decide +kernel
theorem d_M_messageIn_2 : decode b_M_messageIn 2 = .ok (.invokevirtual 44, 3) := by decide +kernel
theorem d_M_messageIn_5 : decode b_M_messageIn 5 = .ok (.lstore_n 3, 1) := by decide +kernel
theorem d_M_messageIn_6 : decode b_M_messageIn 6 = .ok (.lload_n 3, 1) := by decide +kernel
theorem d_M_messageIn_7 : decode b_M_messageIn 7 = .ok (.aload_n 0, 1) := by decide +kernel
theorem d_M_messageIn_8 : decode b_M_messageIn 8 = .ok (.getfield 17, 3) := by decide +kernel
theorem d_M_messageIn_11 : decode b_M_messageIn 11 = .ok (.aload_n 0, 1) := by decide +kernel
theorem d_M_messageIn_12 : decode b_M_messageIn 12 = .ok (.getfield 21, 3) := by decide +kernel
theorem d_M_messageIn_15 : decode b_M_messageIn 15 = .ok (.invokestatic 40, 3) := by decide +kernel
theorem d_M_messageIn_18 : decode b_M_messageIn 18 = .ok (.lstore 5, 2) := by decide +kernel
theorem d_M_messageIn_20 : decode b_M_messageIn 20 = .ok (.lload 5, 2) := by decide +kernel
theorem d_M_messageIn_22 : decode b_M_messageIn 22 = .ok (.aload_n 0, 1) := by decide +kernel
theorem d_M_messageIn_23 : decode b_M_messageIn 23 = .ok (.getfield 17, 3) := by decide +kernel
theorem d_M_messageIn_26 : decode b_M_messageIn 26 = .ok (.lmul, 1) := by decide +kernel
theorem d_M_messageIn_27 : decode b_M_messageIn 27 = .ok (.aload_n 0, 1) := by decide +kernel
theorem d_M_messageIn_28 : decode b_M_messageIn 28 = .ok (.getfield 21, 3) := by decide +kernel
theorem d_M_messageIn_31 : decode b_M_messageIn 31 = .ok (.lrem, 1) := by decide +kernel
theorem d_M_messageIn_32 : decode b_M_messageIn 32 = .ok (.lstore 7, 2) := by decide +kernel
theorem d_M_messageIn_34 : decode b_M_messageIn 34 = .ok (.lconst 0, 1) := by decide +kernel
theorem d_M_messageIn_35 : decode b_M_messageIn 35 = .ok (.lstore 9, 2) := by decide +kernel
theorem d_M_messageIn_37 : decode b_M_messageIn 37 = .ok (.lload 5, 2) := by decide +kernel
theorem d_M_messageIn_39 : decode b_M_messageIn 39 = .ok (.lload_n 1, 1) := by decide +kernel
theorem d_M_messageIn_40 : decode b_M_messageIn 40 = .ok (.lcmp, 1) := by decide +kernel
theorem d_M_messageIn_41 : decode b_M_messageIn 41 = .ok (.ifCond .eq 34, 3) := by decide +kernel
theorem d_M_messageIn_44 : decode b_M_messageIn 44 = .ok (.lload 9, 2) := by decide +kernel
theorem d_M_messageIn_46 : decode b_M_messageIn 46 = .ok (.aload_n 0, 1) := by decide +kernel
theorem d_M_messageIn_47 : decode b_M_messageIn 47 = .ok (.getfield 17, 3) := by decide +kernel
theorem d_M_messageIn_50 : decode b_M_messageIn 50 = .ok (.lcmp, 1) := by decide +kernel
theorem d_M_messageIn_51 : decode b_M_messageIn 51 = .ok (.ifCond .ge 24, 3) := by decide +kernel
theorem d_M_messageIn_54 : decode b_M_messageIn 54 = .ok (.lload 5, 2) := by decide +kernel
theorem d_M_messageIn_56 : decode b_M_messageIn 56 = .ok (.lload 7, 2) := by decide +kernel
theorem d_M_messageIn_58 : decode b_M_messageIn 58 = .ok (.ladd, 1) := by decide +kernel
theorem d_M_messageIn_59 : decode b_M_messageIn 59 = .ok (.aload_n 0, 1) := by decide +kernel
theorem d_M_messageIn_60 : decode b_M_messageIn 60 = .ok (.getfield 21, 3) := by decide +kernel
theorem d_M_messageIn_63 : decode b_M_messageIn 63 = .ok (.lrem, 1) := by decide +kernel
theorem d_M_messageIn_64 : decode b_M_messageIn 64 = .ok (.lstore 5, 2) := by decide +kernel
theorem d_M_messageIn_66 : decode b_M_messageIn 66 = .ok (.lload 9, 2) := by decide +kernel
theorem d_M_messageIn_68 : decode b_M_messageIn 68 = .ok (.lconst 1, 1) := by decide +kernel
theorem d_M_messageIn_69 : decode b_M_messageIn 69 = .ok (.ladd, 1) := by decide +kernel
theorem d_M_messageIn_70 : decode b_M_messageIn 70 = .ok (.lstore 9, 2) := by decide +kernel
theorem d_M_messageIn_72 : decode b_M_messageIn 72 = .ok (.goto (-35), 3) := by decide +kernel
theorem d_M_messageIn_75 : decode b_M_messageIn 75 = .ok (.lload 9, 2) := by decide +kernel
theorem d_M_messageIn_77 : decode b_M_messageIn 77 = .ok (.lreturn, 1) := by decide +kernel
theorem d_M_coinIn_0 : decode b_M_coinIn 0 = .ok (.lload_n 1, 1) := by decide +kernel
theorem d_M_coinIn_1 : decode b_M_coinIn 1 = .ok (.aload_n 0, 1) := by decide +kernel
theorem d_M_coinIn_2 : decode b_M_coinIn 2 = .ok (.getfield 17, 3) := by decide +kernel
theorem d_M_coinIn_5 : decode b_M_coinIn 5 = .ok (.lrem, 1) := by decide +kernel
theorem d_M_coinIn_6 : decode b_M_coinIn 6 = .ok (.aload_n 0, 1) := by decide +kernel
theorem d_M_coinIn_7 : decode b_M_coinIn 7 = .ok (.getfield 27, 3) := by decide +kernel
theorem d_M_coinIn_10 : decode b_M_coinIn 10 = .ok (.aload_n 0, 1) := by decide +kernel
theorem d_M_coinIn_11 : decode b_M_coinIn 11 = .ok (.getfield 17, 3) := by decide +kernel
theorem d_M_coinIn_14 : decode b_M_coinIn 14 = .ok (.invokestatic 40, 3) := by decide +kernel
theorem d_M_coinIn_17 : decode b_M_coinIn 17 = .ok (.lreturn, 1) := by decide +kernel
theorem d_M_coin_0 : decode b_M_coin 0 = .ok (.aload_n 0, 1) := by decide +kernel
theorem d_M_coin_1 : decode b_M_coin 1 = .ok (.getfield 17, 3) := by decide +kernel
theorem d_M_coin_4 : decode b_M_coin 4 = .ok (.lconst 0, 1) := by decide +kernel
theorem d_M_coin_5 : decode b_M_coin 5 = .ok (.lcmp, 1) := by decide +kernel
theorem d_M_coin_6 : decode b_M_coin 6 = .ok (.ifCond .ne 7, 3) := by decide +kernel
theorem d_M_coin_9 : decode b_M_coin 9 = .ok (.ldc2_w 48, 3) := by decide +kernel
theorem d_M_coin_12 : decode b_M_coin 12 = .ok (.lreturn, 1) := by decide +kernel
theorem d_M_coin_13 : decode b_M_coin 13 = .ok (.aload_n 0, 1) := by decide +kernel
theorem d_M_coin_14 : decode b_M_coin 14 = .ok (.lload_n 1, 1) := by decide +kernel
theorem d_M_coin_15 : decode b_M_coin 15 = .ok (.invokevirtual 62, 3) := by decide +kernel
theorem d_M_coin_18 : decode b_M_coin 18 = .ok (.ifCond .eq 11, 3) := by decide +kernel
theorem d_M_coin_21 : decode b_M_coin 21 = .ok (.aload_n 0, 1) := by decide +kernel
theorem d_M_coin_22 : decode b_M_coin 22 = .ok (.lload_n 1, 1) := by decide +kernel
theorem d_M_coin_23 : decode b_M_coin 23 = .ok (.invokevirtual 44, 3) := by decide +kernel
theorem d_M_coin_26 : decode b_M_coin 26 = .ok (.goto 6, 3) := by decide +kernel
theorem d_M_coin_29 : decode b_M_coin 29 = .ok (.ldc2_w 60, 3) := by decide +kernel
theorem d_M_coin_32 : decode b_M_coin 32 = .ok (.lreturn, 1) := by decide +kernel
theorem d_M_join_0 : decode b_M_join 0 = .ok (.aload_n 0, 1) := by decide +kernel
theorem d_M_join_1 : decode b_M_join 1 = .ok (.getfield 17, 3) := by decide +kernel
theorem d_M_join_4 : decode b_M_join 4 = .ok (.lconst 0, 1) := by decide +kernel
theorem d_M_join_5 : decode b_M_join 5 = .ok (.lcmp, 1) := by decide +kernel
theorem d_M_join_6 : decode b_M_join 6 = .ok (.ifCond .ne 7, 3) := by decide +kernel
theorem d_M_join_9 : decode b_M_join 9 = .ok (.ldc2_w 48, 3) := by decide +kernel
theorem d_M_join_12 : decode b_M_join 12 = .ok (.lreturn, 1) := by decide +kernel
theorem d_M_join_13 : decode b_M_join 13 = .ok (.aload_n 0, 1) := by decide +kernel
theorem d_M_join_14 : decode b_M_join 14 = .ok (.lload_n 1, 1) := by decide +kernel
theorem d_M_join_15 : decode b_M_join 15 = .ok (.invokevirtual 62, 3) := by decide +kernel
theorem d_M_join_18 : decode b_M_join 18 = .ok (.ifCond .eq 22, 3) := by decide +kernel
theorem d_M_join_21 : decode b_M_join 21 = .ok (.aload_n 0, 1) := by decide +kernel
theorem d_M_join_22 : decode b_M_join 22 = .ok (.lload_n 3, 1) := by decide +kernel
theorem d_M_join_23 : decode b_M_join 23 = .ok (.invokevirtual 62, 3) := by decide +kernel
theorem d_M_join_26 : decode b_M_join 26 = .ok (.ifCond .eq 14, 3) := by decide +kernel
theorem d_M_join_29 : decode b_M_join 29 = .ok (.lload_n 1, 1) := by decide +kernel
theorem d_M_join_30 : decode b_M_join 30 = .ok (.lload_n 3, 1) := by decide +kernel
theorem d_M_join_31 : decode b_M_join 31 = .ok (.lmul, 1) := by decide +kernel
theorem d_M_join_32 : decode b_M_join 32 = .ok (.aload_n 0, 1) := by decide +kernel
theorem d_M_join_33 : decode b_M_join 33 = .ok (.getfield 21, 3) := by decide +kernel
theorem d_M_join_36 : decode b_M_join 36 = .ok (.lrem, 1) := by decide +kernel
theorem d_M_join_37 : decode b_M_join 37 = .ok (.goto 6, 3) := by decide +kernel
theorem d_M_join_40 : decode b_M_join 40 = .ok (.ldc2_w 60, 3) := by decide +kernel
theorem d_M_join_43 : decode b_M_join 43 = .ok (.lreturn, 1) := by decide +kernel
theorem d_M_power_0 : decode b_M_power 0 = .ok (.aload_n 0, 1) := by decide +kernel
theorem d_M_power_1 : decode b_M_power 1 = .ok (.getfield 17, 3) := by decide +kernel
theorem d_M_power_4 : decode b_M_power 4 = .ok (.lconst 0, 1) := by decide +kernel
theorem d_M_power_5 : decode b_M_power 5 = .ok (.lcmp, 1) := by decide +kernel
theorem d_M_power_6 : decode b_M_power 6 = .ok (.ifCond .ne 7, 3) := by decide +kernel
theorem d_M_power_9 : decode b_M_power 9 = .ok (.ldc2_w 48, 3) := by decide +kernel
theorem d_M_power_12 : decode b_M_power 12 = .ok (.lreturn, 1) := by decide +kernel
theorem d_M_power_13 : decode b_M_power 13 = .ok (.aload_n 0, 1) := by decide +kernel
theorem d_M_power_14 : decode b_M_power 14 = .ok (.lload_n 1, 1) := by decide +kernel
theorem d_M_power_15 : decode b_M_power 15 = .ok (.invokevirtual 62, 3) := by decide +kernel
theorem d_M_power_18 : decode b_M_power 18 = .ok (.ifCond .ne 7, 3) := by decide +kernel
theorem d_M_power_21 : decode b_M_power 21 = .ok (.ldc2_w 60, 3) := by decide +kernel
theorem d_M_power_24 : decode b_M_power 24 = .ok (.lreturn, 1) := by decide +kernel
theorem d_M_power_25 : decode b_M_power 25 = .ok (.aload_n 0, 1) := by decide +kernel
theorem d_M_power_26 : decode b_M_power 26 = .ok (.getfield 17, 3) := by decide +kernel
theorem d_M_power_29 : decode b_M_power 29 = .ok (.aload_n 0, 1) := by decide +kernel
theorem d_M_power_30 : decode b_M_power 30 = .ok (.getfield 24, 3) := by decide +kernel
theorem d_M_power_33 : decode b_M_power 33 = .ok (.lmul, 1) := by decide +kernel
theorem d_M_power_34 : decode b_M_power 34 = .ok (.lstore 4, 2) := by decide +kernel
theorem d_M_power_36 : decode b_M_power 36 = .ok (.iload_n 3, 1) := by decide +kernel
theorem d_M_power_37 : decode b_M_power 37 = .ok (.i2l, 1) := by decide +kernel
theorem d_M_power_38 : decode b_M_power 38 = .ok (.lload 4, 2) := by decide +kernel
theorem d_M_power_40 : decode b_M_power 40 = .ok (.lrem, 1) := by decide +kernel
theorem d_M_power_41 : decode b_M_power 41 = .ok (.lstore 6, 2) := by decide +kernel
theorem d_M_power_43 : decode b_M_power 43 = .ok (.lload_n 1, 1) := by decide +kernel
theorem d_M_power_44 : decode b_M_power 44 = .ok (.lload 6, 2) := by decide +kernel
theorem d_M_power_46 : decode b_M_power 46 = .ok (.lconst 0, 1) := by decide +kernel
theorem d_M_power_47 : decode b_M_power 47 = .ok (.lcmp, 1) := by decide +kernel
theorem d_M_power_48 : decode b_M_power 48 = .ok (.ifCond .ge 11, 3) := by decide +kernel
theorem d_M_power_51 : decode b_M_power 51 = .ok (.lload 6, 2) := by decide +kernel
theorem d_M_power_53 : decode b_M_power 53 = .ok (.lload 4, 2) := by decide +kernel
theorem d_M_power_55 : decode b_M_power 55 = .ok (.ladd, 1) := by decide +kernel
theorem d_M_power_56 : decode b_M_power 56 = .ok (.goto 5, 3) := by decide +kernel
theorem d_M_power_59 : decode b_M_power 59 = .ok (.lload 6, 2) := by decide +kernel
theorem d_M_power_61 : decode b_M_power 61 = .ok (.aload_n 0, 1) := by decide +kernel
theorem d_M_power_62 : decode b_M_power 62 = .ok (.getfield 21, 3) := by decide +kernel
theorem d_M_power_65 : decode b_M_power 65 = .ok (.invokestatic 40, 3) := by decide +kernel
theorem d_M_power_68 : decode b_M_power 68 = .ok (.lreturn, 1) := by decide +kernel
theorem d_M_open_0 : decode b_M_open 0 = .ok (.aload_n 0, 1) := by decide +kernel
theorem d_M_open_1 : decode b_M_open 1 = .ok (.getfield 17, 3) := by decide +kernel
theorem d_M_open_4 : decode b_M_open 4 = .ok (.lconst 0, 1) := by decide +kernel
theorem d_M_open_5 : decode b_M_open 5 = .ok (.lcmp, 1) := by decide +kernel
theorem d_M_open_6 : decode b_M_open 6 = .ok (.ifCond .eq 19, 3) := by decide +kernel
theorem d_M_open_9 : decode b_M_open 9 = .ok (.iload_n 1, 1) := by decide +kernel
theorem d_M_open_10 : decode b_M_open 10 = .ok (.iconst 1, 1) := by decide +kernel
theorem d_M_open_11 : decode b_M_open 11 = .ok (.if_icmp .lt 14, 3) := by decide +kernel
theorem d_M_open_14 : decode b_M_open 14 = .ok (.iload_n 1, 1) := by decide +kernel
theorem d_M_open_15 : decode b_M_open 15 = .ok (.bipush 6, 2) := by decide +kernel
theorem d_M_open_17 : decode b_M_open 17 = .ok (.if_icmp .gt 8, 3) := by decide +kernel
theorem d_M_open_20 : decode b_M_open 20 = .ok (.iload_n 2, 1) := by decide +kernel
theorem d_M_open_21 : decode b_M_open 21 = .ok (.iconst 2, 1) := by decide +kernel
theorem d_M_open_22 : decode b_M_open 22 = .ok (.if_icmp .ge 5, 3) := by decide +kernel
theorem d_M_open_25 : decode b_M_open 25 = .ok (.iconst 0, 1) := by decide +kernel
theorem d_M_open_26 : decode b_M_open 26 = .ok (.ireturn, 1) := by decide +kernel
theorem d_M_open_27 : decode b_M_open 27 = .ok (.lconst 1, 1) := by decide +kernel
theorem d_M_open_28 : decode b_M_open 28 = .ok (.lstore_n 3, 1) := by decide +kernel
theorem d_M_open_29 : decode b_M_open 29 = .ok (.iconst 0, 1) := by decide +kernel
theorem d_M_open_30 : decode b_M_open 30 = .ok (.istore 5, 2) := by decide +kernel
theorem d_M_open_32 : decode b_M_open 32 = .ok (.iload 5, 2) := by decide +kernel
theorem d_M_open_34 : decode b_M_open 34 = .ok (.iload_n 1, 1) := by decide +kernel
theorem d_M_open_35 : decode b_M_open 35 = .ok (.if_icmp .ge 27, 3) := by decide +kernel
theorem d_M_open_38 : decode b_M_open 38 = .ok (.lload_n 3, 1) := by decide +kernel
theorem d_M_open_39 : decode b_M_open 39 = .ok (.aload_n 0, 1) := by decide +kernel
theorem d_M_open_40 : decode b_M_open 40 = .ok (.getfield 17, 3) := by decide +kernel
theorem d_M_open_43 : decode b_M_open 43 = .ok (.lcmp, 1) := by decide +kernel
theorem d_M_open_44 : decode b_M_open 44 = .ok (.ifCond .le 7, 3) := by decide +kernel
theorem d_M_open_47 : decode b_M_open 47 = .ok (.lload_n 3, 1) := by decide +kernel
theorem d_M_open_48 : decode b_M_open 48 = .ok (.goto 7, 3) := by decide +kernel
theorem d_M_open_51 : decode b_M_open 51 = .ok (.lload_n 3, 1) := by decide +kernel
theorem d_M_open_52 : decode b_M_open 52 = .ok (.iload_n 2, 1) := by decide +kernel
theorem d_M_open_53 : decode b_M_open 53 = .ok (.i2l, 1) := by decide +kernel
theorem d_M_open_54 : decode b_M_open 54 = .ok (.lmul, 1) := by decide +kernel
theorem d_M_open_55 : decode b_M_open 55 = .ok (.lstore_n 3, 1) := by decide +kernel
theorem d_M_open_56 : decode b_M_open 56 = .ok (.iinc 5 1, 3) := by decide +kernel
theorem d_M_open_59 : decode b_M_open 59 = .ok (.goto (-27), 3) := by decide +kernel
theorem d_M_open_62 : decode b_M_open 62 = .ok (.lload_n 3, 1) := by decide +kernel
theorem d_M_open_63 : decode b_M_open 63 = .ok (.aload_n 0, 1) := by decide +kernel
theorem d_M_open_64 : decode b_M_open 64 = .ok (.getfield 17, 3) := by decide +kernel
theorem d_M_open_67 : decode b_M_open 67 = .ok (.lcmp, 1) := by decide +kernel
theorem d_M_open_68 : decode b_M_open 68 = .ok (.ifCond .le 5, 3) := by decide +kernel
theorem d_M_open_71 : decode b_M_open 71 = .ok (.iconst 0, 1) := by decide +kernel
theorem d_M_open_72 : decode b_M_open 72 = .ok (.ireturn, 1) := by decide +kernel
theorem d_M_open_73 : decode b_M_open 73 = .ok (.aload_n 0, 1) := by decide +kernel
theorem d_M_open_74 : decode b_M_open 74 = .ok (.iconst 1, 1) := by decide +kernel
theorem d_M_open_75 : decode b_M_open 75 = .ok (.putfield 30, 3) := by decide +kernel
theorem d_M_open_78 : decode b_M_open 78 = .ok (.aload_n 0, 1) := by decide +kernel
theorem d_M_open_79 : decode b_M_open 79 = .ok (.iconst 0, 1) := by decide +kernel
theorem d_M_open_80 : decode b_M_open 80 = .ok (.putfield 68, 3) := by decide +kernel
theorem d_M_open_83 : decode b_M_open 83 = .ok (.aload_n 0, 1) := by decide +kernel
theorem d_M_open_84 : decode b_M_open 84 = .ok (.iload_n 1, 1) := by decide +kernel
theorem d_M_open_85 : decode b_M_open 85 = .ok (.putfield 71, 3) := by decide +kernel
theorem d_M_open_88 : decode b_M_open 88 = .ok (.aload_n 0, 1) := by decide +kernel
theorem d_M_open_89 : decode b_M_open 89 = .ok (.iload_n 2, 1) := by decide +kernel
theorem d_M_open_90 : decode b_M_open 90 = .ok (.putfield 75, 3) := by decide +kernel
theorem d_M_open_93 : decode b_M_open 93 = .ok (.iconst 0, 1) := by decide +kernel
theorem d_M_open_94 : decode b_M_open 94 = .ok (.istore 5, 2) := by decide +kernel
theorem d_M_open_96 : decode b_M_open 96 = .ok (.iload 5, 2) := by decide +kernel
theorem d_M_open_98 : decode b_M_open 98 = .ok (.bipush 30, 2) := by decide +kernel
theorem d_M_open_100 : decode b_M_open 100 = .ok (.if_icmp .ge 17, 3) := by decide +kernel
theorem d_M_open_103 : decode b_M_open 103 = .ok (.aload_n 0, 1) := by decide +kernel
theorem d_M_open_104 : decode b_M_open 104 = .ok (.getfield 7, 3) := by decide +kernel
theorem d_M_open_107 : decode b_M_open 107 = .ok (.iload 5, 2) := by decide +kernel
theorem d_M_open_109 : decode b_M_open 109 = .ok (.lconst 0, 1) := by decide +kernel
theorem d_M_open_110 : decode b_M_open 110 = .ok (.lastore, 1) := by decide +kernel
theorem d_M_open_111 : decode b_M_open 111 = .ok (.iinc 5 1, 3) := by decide +kernel
theorem d_M_open_114 : decode b_M_open 114 = .ok (.goto (-18), 3) := by decide +kernel
theorem d_M_open_117 : decode b_M_open 117 = .ok (.iconst 1, 1) := by decide +kernel
theorem d_M_open_118 : decode b_M_open 118 = .ok (.ireturn, 1) := by decide +kernel
theorem d_M_choice_0 : decode b_M_choice 0 = .ok (.aload_n 0, 1) := by decide +kernel
theorem d_M_choice_1 : decode b_M_choice 1 = .ok (.getfield 30, 3) := by decide +kernel
theorem d_M_choice_4 : decode b_M_choice 4 = .ok (.ifCond .ne 7, 3) := by decide +kernel
theorem d_M_choice_7 : decode b_M_choice 7 = .ok (.ldc2_w 78, 3) := by decide +kernel
theorem d_M_choice_10 : decode b_M_choice 10 = .ok (.lreturn, 1) := by decide +kernel
theorem d_M_choice_11 : decode b_M_choice 11 = .ok (.iload_n 1, 1) := by decide +kernel
theorem d_M_choice_12 : decode b_M_choice 12 = .ok (.ifCond .lt 19, 3) := by decide +kernel
theorem d_M_choice_15 : decode b_M_choice 15 = .ok (.iload_n 1, 1) := by decide +kernel
theorem d_M_choice_16 : decode b_M_choice 16 = .ok (.aload_n 0, 1) := by decide +kernel
theorem d_M_choice_17 : decode b_M_choice 17 = .ok (.getfield 71, 3) := by decide +kernel
theorem d_M_choice_20 : decode b_M_choice 20 = .ok (.if_icmp .ge 11, 3) := by decide +kernel
theorem d_M_choice_23 : decode b_M_choice 23 = .ok (.aload_n 0, 1) := by decide +kernel
theorem d_M_choice_24 : decode b_M_choice 24 = .ok (.lload_n 2, 1) := by decide +kernel
theorem d_M_choice_25 : decode b_M_choice 25 = .ok (.invokevirtual 54, 3) := by decide +kernel
theorem d_M_choice_28 : decode b_M_choice 28 = .ok (.ifCond .ne 7, 3) := by decide +kernel
theorem d_M_choice_31 : decode b_M_choice 31 = .ok (.ldc2_w 60, 3) := by decide +kernel
theorem d_M_choice_34 : decode b_M_choice 34 = .ok (.lreturn, 1) := by decide +kernel
theorem d_M_choice_35 : decode b_M_choice 35 = .ok (.aload_n 0, 1) := by decide +kernel
theorem d_M_choice_36 : decode b_M_choice 36 = .ok (.aload_n 0, 1) := by decide +kernel
theorem d_M_choice_37 : decode b_M_choice 37 = .ok (.iload_n 1, 1) := by decide +kernel
theorem d_M_choice_38 : decode b_M_choice 38 = .ok (.invokevirtual 80, 3) := by decide +kernel
theorem d_M_choice_41 : decode b_M_choice 41 = .ok (.lload_n 2, 1) := by decide +kernel
theorem d_M_choice_42 : decode b_M_choice 42 = .ok (.invokevirtual 57, 3) := by decide +kernel
theorem d_M_choice_45 : decode b_M_choice 45 = .ok (.lreturn, 1) := by decide +kernel
theorem d_M_place_0 : decode b_M_place 0 = .ok (.lconst 1, 1) := by decide +kernel
theorem d_M_place_1 : decode b_M_place 1 = .ok (.lstore_n 2, 1) := by decide +kernel
theorem d_M_place_2 : decode b_M_place 2 = .ok (.iconst 0, 1) := by decide +kernel
theorem d_M_place_3 : decode b_M_place 3 = .ok (.istore 4, 2) := by decide +kernel
theorem d_M_place_5 : decode b_M_place 5 = .ok (.iload 4, 2) := by decide +kernel
theorem d_M_place_7 : decode b_M_place 7 = .ok (.iload_n 1, 1) := by decide +kernel
theorem d_M_place_8 : decode b_M_place 8 = .ok (.if_icmp .ge 17, 3) := by decide +kernel
theorem d_M_place_11 : decode b_M_place 11 = .ok (.lload_n 2, 1) := by decide +kernel
theorem d_M_place_12 : decode b_M_place 12 = .ok (.aload_n 0, 1) := by decide +kernel
theorem d_M_place_13 : decode b_M_place 13 = .ok (.getfield 75, 3) := by decide +kernel
theorem d_M_place_16 : decode b_M_place 16 = .ok (.i2l, 1) := by decide +kernel
theorem d_M_place_17 : decode b_M_place 17 = .ok (.lmul, 1) := by decide +kernel
theorem d_M_place_18 : decode b_M_place 18 = .ok (.lstore_n 2, 1) := by decide +kernel
theorem d_M_place_19 : decode b_M_place 19 = .ok (.iinc 4 1, 3) := by decide +kernel
theorem d_M_place_22 : decode b_M_place 22 = .ok (.goto (-17), 3) := by decide +kernel
theorem d_M_place_25 : decode b_M_place 25 = .ok (.lload_n 2, 1) := by decide +kernel
theorem d_M_place_26 : decode b_M_place 26 = .ok (.lreturn, 1) := by decide +kernel
theorem d_M_cast_0 : decode b_M_cast 0 = .ok (.aload_n 0, 1) := by decide +kernel
theorem d_M_cast_1 : decode b_M_cast 1 = .ok (.getfield 30, 3) := by decide +kernel
theorem d_M_cast_4 : decode b_M_cast 4 = .ok (.ifCond .eq 10, 3) := by decide +kernel
theorem d_M_cast_7 : decode b_M_cast 7 = .ok (.aload_n 0, 1) := by decide +kernel
theorem d_M_cast_8 : decode b_M_cast 8 = .ok (.getfield 68, 3) := by decide +kernel
theorem d_M_cast_11 : decode b_M_cast 11 = .ok (.ifCond .eq 18, 3) := by decide +kernel
theorem d_M_cast_14 : decode b_M_cast 14 = .ok (.aload_n 0, 1) := by decide +kernel
theorem d_M_cast_15 : decode b_M_cast 15 = .ok (.getfield 30, 3) := by decide +kernel
theorem d_M_cast_18 : decode b_M_cast 18 = .ok (.ifCond .eq 8, 3) := by decide +kernel
theorem d_M_cast_21 : decode b_M_cast 21 = .ok (.bipush (-3), 2) := by decide +kernel
theorem d_M_cast_23 : decode b_M_cast 23 = .ok (.goto 5, 3) := by decide +kernel
theorem d_M_cast_26 : decode b_M_cast 26 = .ok (.bipush (-2), 2) := by decide +kernel
theorem d_M_cast_28 : decode b_M_cast 28 = .ok (.ireturn, 1) := by decide +kernel
theorem d_M_cast_29 : decode b_M_cast 29 = .ok (.iload_n 1, 1) := by decide +kernel
theorem d_M_cast_30 : decode b_M_cast 30 = .ok (.ifCond .lt 17, 3) := by decide +kernel
theorem d_M_cast_33 : decode b_M_cast 33 = .ok (.iload_n 1, 1) := by decide +kernel
theorem d_M_cast_34 : decode b_M_cast 34 = .ok (.bipush 29, 2) := by decide +kernel
theorem d_M_cast_36 : decode b_M_cast 36 = .ok (.if_icmp .gt 11, 3) := by decide +kernel
theorem d_M_cast_39 : decode b_M_cast 39 = .ok (.aload_n 0, 1) := by decide +kernel
theorem d_M_cast_40 : decode b_M_cast 40 = .ok (.lload_n 2, 1) := by decide +kernel
theorem d_M_cast_41 : decode b_M_cast 41 = .ok (.invokevirtual 62, 3) := by decide +kernel
theorem d_M_cast_44 : decode b_M_cast 44 = .ok (.ifCond .ne 6, 3) := by decide +kernel
theorem d_M_cast_47 : decode b_M_cast 47 = .ok (.bipush (-4), 2) := by decide +kernel
theorem d_M_cast_49 : decode b_M_cast 49 = .ok (.ireturn, 1) := by decide +kernel
theorem d_M_cast_50 : decode b_M_cast 50 = .ok (.aload_n 0, 1) := by decide +kernel
theorem d_M_cast_51 : decode b_M_cast 51 = .ok (.getfield 7, 3) := by decide +kernel
theorem d_M_cast_54 : decode b_M_cast 54 = .ok (.iload_n 1, 1) := by decide +kernel
theorem d_M_cast_55 : decode b_M_cast 55 = .ok (.laload, 1) := by decide +kernel
theorem d_M_cast_56 : decode b_M_cast 56 = .ok (.lconst 0, 1) := by decide +kernel
theorem d_M_cast_57 : decode b_M_cast 57 = .ok (.lcmp, 1) := by decide +kernel
theorem d_M_cast_58 : decode b_M_cast 58 = .ok (.ifCond .ne 7, 3) := by decide +kernel
theorem d_M_cast_61 : decode b_M_cast 61 = .ok (.iconst 1, 1) := by decide +kernel
theorem d_M_cast_62 : decode b_M_cast 62 = .ok (.goto 4, 3) := by decide +kernel
theorem d_M_cast_65 : decode b_M_cast 65 = .ok (.iconst 0, 1) := by decide +kernel
theorem d_M_cast_66 : decode b_M_cast 66 = .ok (.istore 4, 2) := by decide +kernel
theorem d_M_cast_68 : decode b_M_cast 68 = .ok (.iload 4, 2) := by decide +kernel
theorem d_M_cast_70 : decode b_M_cast 70 = .ok (.ifCond .eq 19, 3) := by decide +kernel
theorem d_M_cast_73 : decode b_M_cast 73 = .ok (.aload_n 0, 1) := by decide +kernel
theorem d_M_cast_74 : decode b_M_cast 74 = .ok (.invokevirtual 84, 3) := by decide +kernel
theorem d_M_cast_77 : decode b_M_cast 77 = .ok (.aload_n 0, 1) := by decide +kernel
theorem d_M_cast_78 : decode b_M_cast 78 = .ok (.getfield 75, 3) := by decide +kernel
theorem d_M_cast_81 : decode b_M_cast 81 = .ok (.iconst 1, 1) := by decide +kernel
theorem d_M_cast_82 : decode b_M_cast 82 = .ok (.isub, 1) := by decide +kernel
theorem d_M_cast_83 : decode b_M_cast 83 = .ok (.if_icmp .lt 6, 3) := by decide +kernel
theorem d_M_cast_86 : decode b_M_cast 86 = .ok (.bipush (-5), 2) := by decide +kernel
theorem d_M_cast_88 : decode b_M_cast 88 = .ok (.ireturn, 1) := by decide +kernel
theorem d_M_cast_89 : decode b_M_cast 89 = .ok (.aload_n 0, 1) := by decide +kernel
theorem d_M_cast_90 : decode b_M_cast 90 = .ok (.getfield 7, 3) := by decide +kernel
theorem d_M_cast_93 : decode b_M_cast 93 = .ok (.iload_n 1, 1) := by decide +kernel
theorem d_M_cast_94 : decode b_M_cast 94 = .ok (.lload_n 2, 1) := by decide +kernel
theorem d_M_cast_95 : decode b_M_cast 95 = .ok (.lastore, 1) := by decide +kernel
theorem d_M_cast_96 : decode b_M_cast 96 = .ok (.iload 4, 2) := by decide +kernel
theorem d_M_cast_98 : decode b_M_cast 98 = .ok (.ifCond .eq 7, 3) := by decide +kernel
theorem d_M_cast_101 : decode b_M_cast 101 = .ok (.iconst 1, 1) := by decide +kernel
theorem d_M_cast_102 : decode b_M_cast 102 = .ok (.goto 4, 3) := by decide +kernel
theorem d_M_cast_105 : decode b_M_cast 105 = .ok (.iconst 0, 1) := by decide +kernel
theorem d_M_cast_106 : decode b_M_cast 106 = .ok (.ireturn, 1) := by decide +kernel
theorem d_M_count_0 : decode b_M_count 0 = .ok (.iconst 0, 1) := by decide +kernel
theorem d_M_count_1 : decode b_M_count 1 = .ok (.istore_n 1, 1) := by decide +kernel
theorem d_M_count_2 : decode b_M_count 2 = .ok (.iconst 0, 1) := by decide +kernel
theorem d_M_count_3 : decode b_M_count 3 = .ok (.istore_n 2, 1) := by decide +kernel
theorem d_M_count_4 : decode b_M_count 4 = .ok (.iload_n 2, 1) := by decide +kernel
theorem d_M_count_5 : decode b_M_count 5 = .ok (.bipush 30, 2) := by decide +kernel
theorem d_M_count_7 : decode b_M_count 7 = .ok (.if_icmp .ge 28, 3) := by decide +kernel
theorem d_M_count_10 : decode b_M_count 10 = .ok (.iload_n 1, 1) := by decide +kernel
theorem d_M_count_11 : decode b_M_count 11 = .ok (.aload_n 0, 1) := by decide +kernel
theorem d_M_count_12 : decode b_M_count 12 = .ok (.getfield 7, 3) := by decide +kernel
theorem d_M_count_15 : decode b_M_count 15 = .ok (.iload_n 2, 1) := by decide +kernel
theorem d_M_count_16 : decode b_M_count 16 = .ok (.laload, 1) := by decide +kernel
theorem d_M_count_17 : decode b_M_count 17 = .ok (.lconst 0, 1) := by decide +kernel
theorem d_M_count_18 : decode b_M_count 18 = .ok (.lcmp, 1) := by decide +kernel
theorem d_M_count_19 : decode b_M_count 19 = .ok (.ifCond .eq 7, 3) := by decide +kernel
theorem d_M_count_22 : decode b_M_count 22 = .ok (.iconst 1, 1) := by decide +kernel
theorem d_M_count_23 : decode b_M_count 23 = .ok (.goto 4, 3) := by decide +kernel
theorem d_M_count_26 : decode b_M_count 26 = .ok (.iconst 0, 1) := by decide +kernel
theorem d_M_count_27 : decode b_M_count 27 = .ok (.iadd, 1) := by decide +kernel
theorem d_M_count_28 : decode b_M_count 28 = .ok (.istore_n 1, 1) := by decide +kernel
theorem d_M_count_29 : decode b_M_count 29 = .ok (.iinc 2 1, 3) := by decide +kernel
theorem d_M_count_32 : decode b_M_count 32 = .ok (.goto (-28), 3) := by decide +kernel
theorem d_M_count_35 : decode b_M_count 35 = .ok (.iload_n 1, 1) := by decide +kernel
theorem d_M_count_36 : decode b_M_count 36 = .ok (.ireturn, 1) := by decide +kernel
theorem d_M_withdraw_0 : decode b_M_withdraw 0 = .ok (.aload_n 0, 1) := by decide +kernel
theorem d_M_withdraw_1 : decode b_M_withdraw 1 = .ok (.getfield 30, 3) := by decide +kernel
theorem d_M_withdraw_4 : decode b_M_withdraw 4 = .ok (.ifCond .eq 10, 3) := by decide +kernel
theorem d_M_withdraw_7 : decode b_M_withdraw 7 = .ok (.aload_n 0, 1) := by decide +kernel
theorem d_M_withdraw_8 : decode b_M_withdraw 8 = .ok (.getfield 68, 3) := by decide +kernel
theorem d_M_withdraw_11 : decode b_M_withdraw 11 = .ok (.ifCond .eq 20, 3) := by decide +kernel
theorem d_M_withdraw_14 : decode b_M_withdraw 14 = .ok (.aload_n 0, 1) := by decide +kernel
theorem d_M_withdraw_15 : decode b_M_withdraw 15 = .ok (.getfield 30, 3) := by decide +kernel
theorem d_M_withdraw_18 : decode b_M_withdraw 18 = .ok (.ifCond .eq 9, 3) := by decide +kernel
theorem d_M_withdraw_21 : decode b_M_withdraw 21 = .ok (.ldc2_w 88, 3) := by decide +kernel
theorem d_M_withdraw_24 : decode b_M_withdraw 24 = .ok (.goto 6, 3) := by decide +kernel
theorem d_M_withdraw_27 : decode b_M_withdraw 27 = .ok (.ldc2_w 78, 3) := by decide +kernel
theorem d_M_withdraw_30 : decode b_M_withdraw 30 = .ok (.lreturn, 1) := by decide +kernel
theorem d_M_withdraw_31 : decode b_M_withdraw 31 = .ok (.iload_n 1, 1) := by decide +kernel
theorem d_M_withdraw_32 : decode b_M_withdraw 32 = .ok (.ifCond .lt 9, 3) := by decide +kernel
theorem d_M_withdraw_35 : decode b_M_withdraw 35 = .ok (.iload_n 1, 1) := by decide +kernel
theorem d_M_withdraw_36 : decode b_M_withdraw 36 = .ok (.bipush 29, 2) := by decide +kernel
theorem d_M_withdraw_38 : decode b_M_withdraw 38 = .ok (.if_icmp .le 7, 3) := by decide +kernel
theorem d_M_withdraw_41 : decode b_M_withdraw 41 = .ok (.ldc2_w 60, 3) := by decide +kernel
theorem d_M_withdraw_44 : decode b_M_withdraw 44 = .ok (.lreturn, 1) := by decide +kernel
theorem d_M_withdraw_45 : decode b_M_withdraw 45 = .ok (.aload_n 0, 1) := by decide +kernel
theorem d_M_withdraw_46 : decode b_M_withdraw 46 = .ok (.getfield 7, 3) := by decide +kernel
theorem d_M_withdraw_49 : decode b_M_withdraw 49 = .ok (.iload_n 1, 1) := by decide +kernel
theorem d_M_withdraw_50 : decode b_M_withdraw 50 = .ok (.laload, 1) := by decide +kernel
theorem d_M_withdraw_51 : decode b_M_withdraw 51 = .ok (.lstore_n 2, 1) := by decide +kernel
theorem d_M_withdraw_52 : decode b_M_withdraw 52 = .ok (.aload_n 0, 1) := by decide +kernel
theorem d_M_withdraw_53 : decode b_M_withdraw 53 = .ok (.getfield 7, 3) := by decide +kernel
theorem d_M_withdraw_56 : decode b_M_withdraw 56 = .ok (.iload_n 1, 1) := by decide +kernel
theorem d_M_withdraw_57 : decode b_M_withdraw 57 = .ok (.lconst 0, 1) := by decide +kernel
theorem d_M_withdraw_58 : decode b_M_withdraw 58 = .ok (.lastore, 1) := by decide +kernel
theorem d_M_withdraw_59 : decode b_M_withdraw 59 = .ok (.lload_n 2, 1) := by decide +kernel
theorem d_M_withdraw_60 : decode b_M_withdraw 60 = .ok (.lconst 0, 1) := by decide +kernel
theorem d_M_withdraw_61 : decode b_M_withdraw 61 = .ok (.lcmp, 1) := by decide +kernel
theorem d_M_withdraw_62 : decode b_M_withdraw 62 = .ok (.ifCond .ne 9, 3) := by decide +kernel
theorem d_M_withdraw_65 : decode b_M_withdraw 65 = .ok (.ldc2_w 90, 3) := by decide +kernel
theorem d_M_withdraw_68 : decode b_M_withdraw 68 = .ok (.goto 4, 3) := by decide +kernel
theorem d_M_withdraw_71 : decode b_M_withdraw 71 = .ok (.lload_n 2, 1) := by decide +kernel
theorem d_M_withdraw_72 : decode b_M_withdraw 72 = .ok (.lreturn, 1) := by decide +kernel
theorem d_M_ballot_0 : decode b_M_ballot 0 = .ok (.aload_n 0, 1) := by decide +kernel
theorem d_M_ballot_1 : decode b_M_ballot 1 = .ok (.getfield 30, 3) := by decide +kernel
theorem d_M_ballot_4 : decode b_M_ballot 4 = .ok (.ifCond .ne 7, 3) := by decide +kernel
theorem d_M_ballot_7 : decode b_M_ballot 7 = .ok (.ldc2_w 78, 3) := by decide +kernel
theorem d_M_ballot_10 : decode b_M_ballot 10 = .ok (.lreturn, 1) := by decide +kernel
theorem d_M_ballot_11 : decode b_M_ballot 11 = .ok (.iload_n 1, 1) := by decide +kernel
theorem d_M_ballot_12 : decode b_M_ballot 12 = .ok (.ifCond .lt 9, 3) := by decide +kernel
theorem d_M_ballot_15 : decode b_M_ballot 15 = .ok (.iload_n 1, 1) := by decide +kernel
theorem d_M_ballot_16 : decode b_M_ballot 16 = .ok (.bipush 29, 2) := by decide +kernel
theorem d_M_ballot_18 : decode b_M_ballot 18 = .ok (.if_icmp .le 7, 3) := by decide +kernel
theorem d_M_ballot_21 : decode b_M_ballot 21 = .ok (.ldc2_w 60, 3) := by decide +kernel
theorem d_M_ballot_24 : decode b_M_ballot 24 = .ok (.lreturn, 1) := by decide +kernel
theorem d_M_ballot_25 : decode b_M_ballot 25 = .ok (.aload_n 0, 1) := by decide +kernel
theorem d_M_ballot_26 : decode b_M_ballot 26 = .ok (.getfield 7, 3) := by decide +kernel
theorem d_M_ballot_29 : decode b_M_ballot 29 = .ok (.iload_n 1, 1) := by decide +kernel
theorem d_M_ballot_30 : decode b_M_ballot 30 = .ok (.laload, 1) := by decide +kernel
theorem d_M_ballot_31 : decode b_M_ballot 31 = .ok (.lconst 0, 1) := by decide +kernel
theorem d_M_ballot_32 : decode b_M_ballot 32 = .ok (.lcmp, 1) := by decide +kernel
theorem d_M_ballot_33 : decode b_M_ballot 33 = .ok (.ifCond .ne 9, 3) := by decide +kernel
theorem d_M_ballot_36 : decode b_M_ballot 36 = .ok (.ldc2_w 90, 3) := by decide +kernel
theorem d_M_ballot_39 : decode b_M_ballot 39 = .ok (.goto 9, 3) := by decide +kernel
theorem d_M_ballot_42 : decode b_M_ballot 42 = .ok (.aload_n 0, 1) := by decide +kernel
theorem d_M_ballot_43 : decode b_M_ballot 43 = .ok (.getfield 7, 3) := by decide +kernel
theorem d_M_ballot_46 : decode b_M_ballot 46 = .ok (.iload_n 1, 1) := by decide +kernel
theorem d_M_ballot_47 : decode b_M_ballot 47 = .ok (.laload, 1) := by decide +kernel
theorem d_M_ballot_48 : decode b_M_ballot 48 = .ok (.lreturn, 1) := by decide +kernel
theorem d_M_ballots_0 : decode b_M_ballots 0 = .ok (.aload_n 0, 1) := by decide +kernel
theorem d_M_ballots_1 : decode b_M_ballots 1 = .ok (.getfield 30, 3) := by decide +kernel
theorem d_M_ballots_4 : decode b_M_ballots 4 = .ok (.ifCond .eq 10, 3) := by decide +kernel
theorem d_M_ballots_7 : decode b_M_ballots 7 = .ok (.aload_n 0, 1) := by decide +kernel
theorem d_M_ballots_8 : decode b_M_ballots 8 = .ok (.invokevirtual 84, 3) := by decide +kernel
theorem d_M_ballots_11 : decode b_M_ballots 11 = .ok (.goto 5, 3) := by decide +kernel
theorem d_M_ballots_14 : decode b_M_ballots 14 = .ok (.bipush (-2), 2) := by decide +kernel
theorem d_M_ballots_16 : decode b_M_ballots 16 = .ok (.ireturn, 1) := by decide +kernel
theorem d_M_sum_0 : decode b_M_sum 0 = .ok (.aload_n 0, 1) := by decide +kernel
theorem d_M_sum_1 : decode b_M_sum 1 = .ok (.getfield 30, 3) := by decide +kernel
theorem d_M_sum_4 : decode b_M_sum 4 = .ok (.ifCond .eq 10, 3) := by decide +kernel
theorem d_M_sum_7 : decode b_M_sum 7 = .ok (.aload_n 0, 1) := by decide +kernel
theorem d_M_sum_8 : decode b_M_sum 8 = .ok (.invokevirtual 92, 3) := by decide +kernel
theorem d_M_sum_11 : decode b_M_sum 11 = .ok (.goto 6, 3) := by decide +kernel
theorem d_M_sum_14 : decode b_M_sum 14 = .ok (.ldc2_w 78, 3) := by decide +kernel
theorem d_M_sum_17 : decode b_M_sum 17 = .ok (.lreturn, 1) := by decide +kernel
theorem d_M_product_0 : decode b_M_product 0 = .ok (.lconst 1, 1) := by decide +kernel
theorem d_M_product_1 : decode b_M_product 1 = .ok (.lstore_n 1, 1) := by decide +kernel
theorem d_M_product_2 : decode b_M_product 2 = .ok (.bipush 29, 2) := by decide +kernel
theorem d_M_product_4 : decode b_M_product 4 = .ok (.istore_n 3, 1) := by decide +kernel
theorem d_M_product_5 : decode b_M_product 5 = .ok (.iload_n 3, 1) := by decide +kernel
theorem d_M_product_6 : decode b_M_product 6 = .ok (.ifCond .lt 38, 3) := by decide +kernel
theorem d_M_product_9 : decode b_M_product 9 = .ok (.aload_n 0, 1) := by decide +kernel
theorem d_M_product_10 : decode b_M_product 10 = .ok (.getfield 7, 3) := by decide +kernel
theorem d_M_product_13 : decode b_M_product 13 = .ok (.iload_n 3, 1) := by decide +kernel
theorem d_M_product_14 : decode b_M_product 14 = .ok (.laload, 1) := by decide +kernel
theorem d_M_product_15 : decode b_M_product 15 = .ok (.lconst 0, 1) := by decide +kernel
theorem d_M_product_16 : decode b_M_product 16 = .ok (.lcmp, 1) := by decide +kernel
theorem d_M_product_17 : decode b_M_product 17 = .ok (.ifCond .eq 19, 3) := by decide +kernel
theorem d_M_product_20 : decode b_M_product 20 = .ok (.lload_n 1, 1) := by decide +kernel
theorem d_M_product_21 : decode b_M_product 21 = .ok (.aload_n 0, 1) := by decide +kernel
theorem d_M_product_22 : decode b_M_product 22 = .ok (.getfield 7, 3) := by decide +kernel
theorem d_M_product_25 : decode b_M_product 25 = .ok (.iload_n 3, 1) := by decide +kernel
theorem d_M_product_26 : decode b_M_product 26 = .ok (.laload, 1) := by decide +kernel
theorem d_M_product_27 : decode b_M_product 27 = .ok (.lmul, 1) := by decide +kernel
theorem d_M_product_28 : decode b_M_product 28 = .ok (.aload_n 0, 1) := by decide +kernel
theorem d_M_product_29 : decode b_M_product 29 = .ok (.getfield 21, 3) := by decide +kernel
theorem d_M_product_32 : decode b_M_product 32 = .ok (.lrem, 1) := by decide +kernel
theorem d_M_product_33 : decode b_M_product 33 = .ok (.goto 4, 3) := by decide +kernel
theorem d_M_product_36 : decode b_M_product 36 = .ok (.lload_n 1, 1) := by decide +kernel
theorem d_M_product_37 : decode b_M_product 37 = .ok (.lstore_n 1, 1) := by decide +kernel
theorem d_M_product_38 : decode b_M_product 38 = .ok (.iinc 3 (-1), 3) := by decide +kernel
theorem d_M_product_41 : decode b_M_product 41 = .ok (.goto (-36), 3) := by decide +kernel
theorem d_M_product_44 : decode b_M_product 44 = .ok (.lload_n 1, 1) := by decide +kernel
theorem d_M_product_45 : decode b_M_product 45 = .ok (.lreturn, 1) := by decide +kernel
theorem d_M_close_0 : decode b_M_close 0 = .ok (.aload_n 0, 1) := by decide +kernel
theorem d_M_close_1 : decode b_M_close 1 = .ok (.getfield 30, 3) := by decide +kernel
theorem d_M_close_4 : decode b_M_close 4 = .ok (.ifCond .eq 10, 3) := by decide +kernel
theorem d_M_close_7 : decode b_M_close 7 = .ok (.aload_n 0, 1) := by decide +kernel
theorem d_M_close_8 : decode b_M_close 8 = .ok (.getfield 68, 3) := by decide +kernel
theorem d_M_close_11 : decode b_M_close 11 = .ok (.ifCond .eq 20, 3) := by decide +kernel
theorem d_M_close_14 : decode b_M_close 14 = .ok (.aload_n 0, 1) := by decide +kernel
theorem d_M_close_15 : decode b_M_close 15 = .ok (.getfield 30, 3) := by decide +kernel
theorem d_M_close_18 : decode b_M_close 18 = .ok (.ifCond .eq 9, 3) := by decide +kernel
theorem d_M_close_21 : decode b_M_close 21 = .ok (.ldc2_w 88, 3) := by decide +kernel
theorem d_M_close_24 : decode b_M_close 24 = .ok (.goto 6, 3) := by decide +kernel
theorem d_M_close_27 : decode b_M_close 27 = .ok (.ldc2_w 78, 3) := by decide +kernel
theorem d_M_close_30 : decode b_M_close 30 = .ok (.lreturn, 1) := by decide +kernel
theorem d_M_close_31 : decode b_M_close 31 = .ok (.aload_n 0, 1) := by decide +kernel
theorem d_M_close_32 : decode b_M_close 32 = .ok (.iconst 1, 1) := by decide +kernel
theorem d_M_close_33 : decode b_M_close 33 = .ok (.putfield 68, 3) := by decide +kernel
theorem d_M_close_36 : decode b_M_close 36 = .ok (.aload_n 0, 1) := by decide +kernel
theorem d_M_close_37 : decode b_M_close 37 = .ok (.aload_n 0, 1) := by decide +kernel
theorem d_M_close_38 : decode b_M_close 38 = .ok (.invokevirtual 92, 3) := by decide +kernel
theorem d_M_close_41 : decode b_M_close 41 = .ok (.invokevirtual 65, 3) := by decide +kernel
theorem d_M_close_44 : decode b_M_close 44 = .ok (.lreturn, 1) := by decide +kernel
theorem d_M_votes_0 : decode b_M_votes 0 = .ok (.aload_n 0, 1) := by decide +kernel
theorem d_M_votes_1 : decode b_M_votes 1 = .ok (.getfield 30, 3) := by decide +kernel
theorem d_M_votes_4 : decode b_M_votes 4 = .ok (.ifCond .ne 6, 3) := by decide +kernel
theorem d_M_votes_7 : decode b_M_votes 7 = .ok (.bipush (-2), 2) := by decide +kernel
theorem d_M_votes_9 : decode b_M_votes 9 = .ok (.ireturn, 1) := by decide +kernel
theorem d_M_votes_10 : decode b_M_votes 10 = .ok (.iload_n 1, 1) := by decide +kernel
theorem d_M_votes_11 : decode b_M_votes 11 = .ok (.ifCond .lt 11, 3) := by decide +kernel
theorem d_M_votes_14 : decode b_M_votes 14 = .ok (.iload_n 1, 1) := by decide +kernel
theorem d_M_votes_15 : decode b_M_votes 15 = .ok (.aload_n 0, 1) := by decide +kernel
theorem d_M_votes_16 : decode b_M_votes 16 = .ok (.getfield 71, 3) := by decide +kernel
theorem d_M_votes_19 : decode b_M_votes 19 = .ok (.if_icmp .lt 6, 3) := by decide +kernel
theorem d_M_votes_22 : decode b_M_votes 22 = .ok (.bipush (-4), 2) := by decide +kernel
theorem d_M_votes_24 : decode b_M_votes 24 = .ok (.ireturn, 1) := by decide +kernel
theorem d_M_votes_25 : decode b_M_votes 25 = .ok (.aload_n 0, 1) := by decide +kernel
theorem d_M_votes_26 : decode b_M_votes 26 = .ok (.getfield 68, 3) := by decide +kernel
theorem d_M_votes_29 : decode b_M_votes 29 = .ok (.ifCond .ne 6, 3) := by decide +kernel
theorem d_M_votes_32 : decode b_M_votes 32 = .ok (.bipush (-6), 2) := by decide +kernel
theorem d_M_votes_34 : decode b_M_votes 34 = .ok (.ireturn, 1) := by decide +kernel
theorem d_M_votes_35 : decode b_M_votes 35 = .ok (.aload_n 0, 1) := by decide +kernel
theorem d_M_votes_36 : decode b_M_votes 36 = .ok (.aload_n 0, 1) := by decide +kernel
theorem d_M_votes_37 : decode b_M_votes 37 = .ok (.invokevirtual 92, 3) := by decide +kernel
theorem d_M_votes_40 : decode b_M_votes 40 = .ok (.invokevirtual 65, 3) := by decide +kernel
theorem d_M_votes_43 : decode b_M_votes 43 = .ok (.lstore_n 2, 1) := by decide +kernel
theorem d_M_votes_44 : decode b_M_votes 44 = .ok (.lload_n 2, 1) := by decide +kernel
theorem d_M_votes_45 : decode b_M_votes 45 = .ok (.aload_n 0, 1) := by decide +kernel
theorem d_M_votes_46 : decode b_M_votes 46 = .ok (.iload_n 1, 1) := by decide +kernel
theorem d_M_votes_47 : decode b_M_votes 47 = .ok (.invokevirtual 80, 3) := by decide +kernel
theorem d_M_votes_50 : decode b_M_votes 50 = .ok (.ldiv, 1) := by decide +kernel
theorem d_M_votes_51 : decode b_M_votes 51 = .ok (.aload_n 0, 1) := by decide +kernel
theorem d_M_votes_52 : decode b_M_votes 52 = .ok (.getfield 75, 3) := by decide +kernel
theorem d_M_votes_55 : decode b_M_votes 55 = .ok (.i2l, 1) := by decide +kernel
theorem d_M_votes_56 : decode b_M_votes 56 = .ok (.lrem, 1) := by decide +kernel
theorem d_M_votes_57 : decode b_M_votes 57 = .ok (.l2i, 1) := by decide +kernel
theorem d_M_votes_58 : decode b_M_votes 58 = .ok (.ireturn, 1) := by decide +kernel
theorem d_M_witness_0 : decode b_M_witness 0 = .ok (.aload_n 0, 1) := by decide +kernel
theorem d_M_witness_1 : decode b_M_witness 1 = .ok (.getfield 30, 3) := by decide +kernel
theorem d_M_witness_4 : decode b_M_witness 4 = .ok (.ifCond .ne 7, 3) := by decide +kernel
theorem d_M_witness_7 : decode b_M_witness 7 = .ok (.ldc2_w 78, 3) := by decide +kernel
theorem d_M_witness_10 : decode b_M_witness 10 = .ok (.lreturn, 1) := by decide +kernel
theorem d_M_witness_11 : decode b_M_witness 11 = .ok (.aload_n 0, 1) := by decide +kernel
theorem d_M_witness_12 : decode b_M_witness 12 = .ok (.getfield 68, 3) := by decide +kernel
theorem d_M_witness_15 : decode b_M_witness 15 = .ok (.ifCond .eq 14, 3) := by decide +kernel
theorem d_M_witness_18 : decode b_M_witness 18 = .ok (.aload_n 0, 1) := by decide +kernel
theorem d_M_witness_19 : decode b_M_witness 19 = .ok (.aload_n 0, 1) := by decide +kernel
theorem d_M_witness_20 : decode b_M_witness 20 = .ok (.invokevirtual 92, 3) := by decide +kernel
theorem d_M_witness_23 : decode b_M_witness 23 = .ok (.invokevirtual 44, 3) := by decide +kernel
theorem d_M_witness_26 : decode b_M_witness 26 = .ok (.goto 6, 3) := by decide +kernel
theorem d_M_witness_29 : decode b_M_witness 29 = .ok (.ldc2_w 90, 3) := by decide +kernel
theorem d_M_witness_32 : decode b_M_witness 32 = .ok (.lreturn, 1) := by decide +kernel
theorem d_M_check_0 : decode b_M_check 0 = .ok (.aload_n 0, 1) := by decide +kernel
theorem d_M_check_1 : decode b_M_check 1 = .ok (.getfield 30, 3) := by decide +kernel
theorem d_M_check_4 : decode b_M_check 4 = .ok (.ifCond .eq 37, 3) := by decide +kernel
theorem d_M_check_7 : decode b_M_check 7 = .ok (.aload_n 0, 1) := by decide +kernel
theorem d_M_check_8 : decode b_M_check 8 = .ok (.lload_n 1, 1) := by decide +kernel
theorem d_M_check_9 : decode b_M_check 9 = .ok (.invokevirtual 50, 3) := by decide +kernel
theorem d_M_check_12 : decode b_M_check 12 = .ok (.ifCond .eq 29, 3) := by decide +kernel
theorem d_M_check_15 : decode b_M_check 15 = .ok (.aload_n 0, 1) := by decide +kernel
theorem d_M_check_16 : decode b_M_check 16 = .ok (.lload_n 3, 1) := by decide +kernel
theorem d_M_check_17 : decode b_M_check 17 = .ok (.invokevirtual 54, 3) := by decide +kernel
theorem d_M_check_20 : decode b_M_check 20 = .ok (.ifCond .eq 21, 3) := by decide +kernel
theorem d_M_check_23 : decode b_M_check 23 = .ok (.aload_n 0, 1) := by decide +kernel
theorem d_M_check_24 : decode b_M_check 24 = .ok (.lload_n 1, 1) := by decide +kernel
theorem d_M_check_25 : decode b_M_check 25 = .ok (.lload_n 3, 1) := by decide +kernel
theorem d_M_check_26 : decode b_M_check 26 = .ok (.invokevirtual 57, 3) := by decide +kernel
theorem d_M_check_29 : decode b_M_check 29 = .ok (.aload_n 0, 1) := by decide +kernel
theorem d_M_check_30 : decode b_M_check 30 = .ok (.invokevirtual 92, 3) := by decide +kernel
theorem d_M_check_33 : decode b_M_check 33 = .ok (.lcmp, 1) := by decide +kernel
theorem d_M_check_34 : decode b_M_check 34 = .ok (.ifCond .ne 7, 3) := by decide +kernel
theorem d_M_check_37 : decode b_M_check 37 = .ok (.iconst 1, 1) := by decide +kernel
theorem d_M_check_38 : decode b_M_check 38 = .ok (.goto 4, 3) := by decide +kernel
theorem d_M_check_41 : decode b_M_check 41 = .ok (.iconst 0, 1) := by decide +kernel
theorem d_M_check_42 : decode b_M_check 42 = .ok (.ireturn, 1) := by decide +kernel
end
section
section
variable {pg : Program} {l : Launch} {ev : Env} {R : Room} {s : State} {mi : MethodId} {args : Array Value} {below : List Frame} {meth : Method} {co : Code} {H : Heap} {locs : List Loc} {cells slots : Nat} {Q : State → Prop}
set_option maxHeartbeats 4000000 in
set_option maxRecDepth 100000 in
theorem lp_X_raised_9 (hx : pg.tables.exec = Jvm.exec) (hb : co.code = b_X_raised) {b e0 M : Nat} (he : e0 < 2 ^ 32) (hM : M ≤ 2750058481) (k53 : ∀ (i : Nat) (x : Nat) (y : Nat) (ls : Array Slot), lv_has ls 11 [(10, .int (nI i)), (6, .long (lN x)), (8, .long (lN y)), (0, .long (lN b)), (2, .long (lN e0)), (4, .long (lN M))] → (x = b ^ e0 % M) → W pg l ev R s mi args below meth co H locs cells slots Q (F0 mi 53 ls [])) : ∀ (mz : Nat) (i : Nat) (x : Nat) (y : Nat) (ls : Array Slot), lv_has ls 11 [(10, .int (nI i)), (6, .long (lN x)), (8, .long (lN y)), (0, .long (lN b)), (2, .long (lN e0)), (4, .long (lN M))] → (i ≤ 32) → (x < M) → (y < M) → (x * y ^ (e0 / 2 ^ i) % M = b ^ e0 % M) → 32 - i = mz → W pg l ev R s mi args below meth co H locs cells slots Q (F0 mi 9 ls []) := by
  intro mz
  induction mz using Nat.strongRecOn with
  | ind mz ih =>
    intro i x y ls hl h1 h2 h3 h4 hk
    subst hk
    refine lv_iload hx hb d_X_raised_9 (lv_at hl 0 rfl) ?_
    refine lv_bipush (v := nI 32) hx hb d_X_raised_11 (by decide) ?_
    refine lv_icmp_ge (tgt := 53) hx hb d_X_raised_13 (by decide) (fun hc13 => ?_) (fun hc13 => ?_)
    · skip
      rw [nI_leI (a := 32) (b := i) (by omega) (by omega)] at hc13
      exact k53 i x y ls (lv_sub hl [0, 1, 2, 3, 4, 5] rfl) (rs_end (by omega) he h2 h4)
    · skip
      rw [nI_leI (a := 32) (b := i) (by omega) (by omega)] at hc13
      refine lv_lload_n hx hb d_X_raised_16 rfl (lv_at hl 4 rfl) ?_
      refine lv_iload hx hb d_X_raised_17 (lv_at hl 0 rfl) ?_
      refine lv_lshr (v := lN (e0 / 2 ^ i)) hx hb d_X_raised_19 (rs_bit (by omega) (by omega)) ?_
      refine lv_lconst (v := lN 1) hx hb d_X_raised_20 rfl ?_
      refine lv_land hx hb d_X_raised_21 ?_
      refine wk_l (y := lN (e0 / 2 ^ i % 2)) (wb_a1 (n := e0 / 2 ^ i) (Nat.lt_of_le_of_lt (Nat.div_le_self _ _) (by omega))) ?_
      refine lv_lconst (v := lN 1) hx hb d_X_raised_22 rfl ?_
      refine W.lcmp hx hb d_X_raised_23 ?_
      refine lv_if_ne (tgt := 37) hx hb d_X_raised_24 (by decide) (fun hc24 => ?_) (fun hc24 => ?_)
      · skip
        rw [lg_cmp_eq] at hc24
        rw [pk_lEQ (a := e0 / 2 ^ i % 2) (b := 1) (by omega) (by omega)] at hc24
        refine lv_lload hx hb d_X_raised_37 (lv_at hl 2 rfl) ?_
        refine lv_lload hx hb d_X_raised_39 (lv_at hl 2 rfl) ?_
        refine lv_lmul hx hb d_X_raised_41 ?_
        refine wk_l (y := lN (y * y)) (lN_mul y y) ?_
        refine lv_lload hx hb d_X_raised_42 (lv_at hl 5 rfl) ?_
        refine lv_lrem hx hb d_X_raised_44 (lN_ne0 (by omega) (by omega)) ?_
        refine wk_l (y := lN (y * y % M)) (pk_lRem (rs_lt h3 h3 hM) (by omega) (by omega)) ?_
        refine lv_lstore (lv' := [(8, .long (lN (y * y % M))), (10, .int (nI i)), (6, .long (lN x)), (0, .long (lN b)), (2, .long (lN e0)), (4, .long (lN M))]) hx hb d_X_raised_45 hl (by decide) rfl (fun ls hl => ?_)
        refine lv_iinc (k := 1) (v := nI (i + 1)) (lv' := [(10, .int (nI (i + 1))), (8, .long (lN (y * y % M))), (6, .long (lN x)), (0, .long (lN b)), (2, .long (lN e0)), (4, .long (lN M))]) hx hb d_X_raised_47 hl rfl (ii_1 i) (by decide) rfl (fun ls hl => ?_)
        refine lv_goto (tgt := 9) hx hb d_X_raised_50 (by decide) ?_
        exact ih _ (by omega) (i + 1) x (y * y % M) ls (lv_sub hl [0, 2, 1, 3, 4, 5] rfl) (by omega) (by first | exact h2 | exact Nat.mod_lt _ (by omega)) (Nat.mod_lt _ (by omega)) (by first | (rw [rs_half, rs_odd hc24]; exact h4) | (rw [rs_half, rs_even (by omega)]; exact h4)) rfl
      · skip
        rw [lg_cmp_eq] at hc24
        rw [pk_lEQ (a := e0 / 2 ^ i % 2) (b := 1) (by omega) (by omega)] at hc24
        refine lv_lload hx hb d_X_raised_27 (lv_at hl 1 rfl) ?_
        refine lv_lload hx hb d_X_raised_29 (lv_at hl 2 rfl) ?_
        refine lv_lmul hx hb d_X_raised_31 ?_
        refine wk_l (y := lN (x * y)) (lN_mul x y) ?_
        refine lv_lload hx hb d_X_raised_32 (lv_at hl 5 rfl) ?_
        refine lv_lrem hx hb d_X_raised_34 (lN_ne0 (by omega) (by omega)) ?_
        refine wk_l (y := lN (x * y % M)) (pk_lRem (rs_lt h2 h3 hM) (by omega) (by omega)) ?_
        refine lv_lstore (lv' := [(6, .long (lN (x * y % M))), (10, .int (nI i)), (8, .long (lN y)), (0, .long (lN b)), (2, .long (lN e0)), (4, .long (lN M))]) hx hb d_X_raised_35 hl (by decide) rfl (fun ls hl => ?_)
        refine lv_lload hx hb d_X_raised_37 (lv_at hl 2 rfl) ?_
        refine lv_lload hx hb d_X_raised_39 (lv_at hl 2 rfl) ?_
        refine lv_lmul hx hb d_X_raised_41 ?_
        refine wk_l (y := lN (y * y)) (lN_mul y y) ?_
        refine lv_lload hx hb d_X_raised_42 (lv_at hl 5 rfl) ?_
        refine lv_lrem hx hb d_X_raised_44 (lN_ne0 (by omega) (by omega)) ?_
        refine wk_l (y := lN (y * y % M)) (pk_lRem (rs_lt h3 h3 hM) (by omega) (by omega)) ?_
        refine lv_lstore (lv' := [(8, .long (lN (y * y % M))), (6, .long (lN (x * y % M))), (10, .int (nI i)), (0, .long (lN b)), (2, .long (lN e0)), (4, .long (lN M))]) hx hb d_X_raised_45 hl (by decide) rfl (fun ls hl => ?_)
        refine lv_iinc (k := 2) (v := nI (i + 1)) (lv' := [(10, .int (nI (i + 1))), (8, .long (lN (y * y % M))), (6, .long (lN (x * y % M))), (0, .long (lN b)), (2, .long (lN e0)), (4, .long (lN M))]) hx hb d_X_raised_47 hl rfl (ii_1 i) (by decide) rfl (fun ls hl => ?_)
        refine lv_goto (tgt := 9) hx hb d_X_raised_50 (by decide) ?_
        exact ih _ (by omega) (i + 1) (x * y % M) (y * y % M) ls (lv_sub hl [0, 2, 1, 3, 4, 5] rfl) (by omega) (by first | exact h2 | exact Nat.mod_lt _ (by omega)) (Nat.mod_lt _ (by omega)) (by first | (rw [rs_half, rs_odd hc24]; exact h4) | (rw [rs_half, rs_even (by omega)]; exact h4)) rfl
end

set_option maxHeartbeats 4000000 in
set_option maxRecDepth 100000 in
theorem c_X_raised (l : Launch) (b e0 M : Nat) (he : e0 < 2 ^ 32) (hM : M ≤ 2750058481) (h1 : 1 < M) (hbM : b < M) : Met l y_X_raised w_X_raised ({ frames := 0, cells := 0, slots := 0, locals := 0 }) (va_Pc [.long (lN b), .long (lN e0), .long (lN M)] (fun _ => True)) (qL (lN (b ^ e0 % M))) 0 0 (fun _ => False) := by
  refine Met.ofW (cc := b_X_raised) (maxL := 11) (ret := some .long) (by decide) rfl ?_
  intro pg ev s mi args below meth co s₁ B hml hv
  obtain ⟨rfl, -⟩ := hv
  have hx := B.exec
  have hb := B.bytes
  have hr := B.returns
  have hts := atoms_spec (ws := w_X_raised) B.pre
  have hown : s.vm.findClass R_X = some mi.cls := findClass_of_methodNamed B.named
  have hlocks := B.notSynchronized
  have hS : va_S (fun _ => False) s.heap s.heap [] := va_S.rf
  have hl := lv_entry ([.long (lN b), .long (lN e0), .long (lN M)]) (n := 11) (Nat.le_of_ble_eq_true rfl)
  rw [lg_entry_eq]
  generalize (lg_sl ([.long (lN b), .long (lN e0), .long (lN M)]) ++ List.replicate (11 - (lg_sl ([.long (lN b), .long (lN e0), .long (lN M)])).length) Slot.unset).toArray = ls at hl ⊢
  have hl : lv_has ls 11 [(0, .long (lN b)), (2, .long (lN e0)), (4, .long (lN M))] := hl
  refine lv_lconst (v := lN 1) hx hb d_X_raised_0 rfl ?_
  refine lv_lstore (lv' := [(6, .long (lN 1)), (0, .long (lN b)), (2, .long (lN e0)), (4, .long (lN M))]) hx hb d_X_raised_1 hl (by decide) rfl (fun ls hl => ?_)
  refine lv_lload_n hx hb d_X_raised_3 rfl (lv_at hl 1 rfl) ?_
  refine lv_lstore (lv' := [(8, .long (lN b)), (6, .long (lN 1)), (0, .long (lN b)), (2, .long (lN e0)), (4, .long (lN M))]) hx hb d_X_raised_4 hl (by decide) rfl (fun ls hl => ?_)
  refine lv_iconst (v := nI 0) hx hb d_X_raised_6 (by decide) ?_
  refine lv_istore (lv' := [(10, .int (nI 0)), (8, .long (lN b)), (6, .long (lN 1)), (0, .long (lN b)), (2, .long (lN e0)), (4, .long (lN M))]) hx hb d_X_raised_7 hl (by decide) rfl (fun ls hl => ?_)
  refine lp_X_raised_9 hx hb he hM (fun i x y ls hl hq => ?_) _ 0 1 b ls (lv_sub hl [0, 2, 1, 3, 4, 5] rfl) (by omega) (by omega) (hbM) (by rw [Nat.pow_zero, Nat.div_one, Nat.one_mul]) rfl
  refine lv_lload hx hb d_X_raised_53 (lv_at hl 1 rfl) ?_
  exact pu_lret hx hb hr hS d_X_raised_55 hlocks (congrArg lN hq)

section
variable {pg : Program} {l : Launch} {ev : Env} {R : Room} {s : State} {mi : MethodId} {args : Array Value} {below : List Frame} {meth : Method} {co : Code} {H : Heap} {locs : List Loc} {cells slots : Nat} {Q : State → Prop}
set_option maxHeartbeats 4000000 in
set_option maxRecDepth 100000 in
theorem lp_M_raise_12 (hx : pg.tables.exec = Jvm.exec) (hb : co.code = b_M_raise) {w0 : Cond} (hts : ∀ w ∈ w0 :: al_w, w.before args s = true) (hown : s.vm.findClass R_M = some mi.cls) {b e0 M : Nat} (hM : M ≤ 2750058481) (k66 : ∀ (x : Nat) (y : Nat) (r : Nat) (ls : Array Slot), lv_has ls 12 [(6, .long (lN x)), (8, .long (lN y)), (10, .long (lN r)), (0, .long (lN b)), (2, .long (lN e0)), (4, .long (lN M))] → (x = b ^ e0 % M) → W pg l ev R s mi args below meth co H locs cells slots Q (F0 mi 66 ls [])) : ∀ (mz : Nat) (x : Nat) (y : Nat) (r : Nat) (ls : Array Slot), lv_has ls 12 [(6, .long (lN x)), (8, .long (lN y)), (10, .long (lN r)), (0, .long (lN b)), (2, .long (lN e0)), (4, .long (lN M))] → (r < 2 ^ 63) → (x < M) → (y < M) → (x * y ^ r % M = b ^ e0 % M) → r = mz → W pg l ev R s mi args below meth co H locs cells slots Q (F0 mi 12 ls []) := by
  intro mz
  induction mz using Nat.strongRecOn with
  | ind mz ih =>
    intro x y r ls hl h1 h2 h3 h4 hk
    subst hk
    refine lv_lload hx hb d_M_raise_12 (lv_at hl 2 rfl) ?_
    refine lv_lconst (v := lN 0) hx hb d_M_raise_14 rfl ?_
    refine W.lcmp hx hb d_M_raise_15 ?_
    refine lv_if_le (tgt := 66) hx hb d_M_raise_16 (by decide) (fun hc16 => ?_) (fun hc16 => ?_)
    · skip
      rw [lg_cmp_le] at hc16
      rw [pk_lLE (a := r) (b := 0) (by omega) (by omega)] at hc16
      exact k66 x y r ls (lv_sub hl [0, 1, 2, 3, 4, 5] rfl) (by have hr0 : r = 0 := (by omega); rw [hr0, Nat.pow_zero, Nat.mul_one, Nat.mod_eq_of_lt h2] at h4; exact h4)
    · skip
      rw [lg_cmp_le] at hc16
      rw [pk_lLE (a := r) (b := 0) (by omega) (by omega)] at hc16
      refine lv_lload hx hb d_M_raise_19 (lv_at hl 2 rfl) ?_
      refine lv_ldc2 (v := lN 2) hx hb hown (hts _ (al_m aw_t269)) d_M_raise_21 ?_
      refine lv_lrem hx hb d_M_raise_24 (lN_ne0 (by omega) (by omega)) ?_
      refine wk_l (y := lN (r % 2)) (pk_lRem (by omega) (by omega) (by omega)) ?_
      have hm24 := Nat.mod_le r 2
      refine lv_lconst (v := lN 1) hx hb d_M_raise_25 rfl ?_
      refine W.lcmp hx hb d_M_raise_26 ?_
      refine lv_if_ne (tgt := 41) hx hb d_M_raise_27 (by decide) (fun hc27 => ?_) (fun hc27 => ?_)
      · skip
        rw [lg_cmp_eq] at hc27
        rw [pk_lEQ (a := r % 2) (b := 1) (by omega) (by omega)] at hc27
        refine lv_lload hx hb d_M_raise_41 (lv_at hl 0 rfl) ?_
        refine lv_lstore (lv' := [(6, .long (lN x)), (8, .long (lN y)), (10, .long (lN r)), (0, .long (lN b)), (2, .long (lN e0)), (4, .long (lN M))]) hx hb d_M_raise_43 hl (by decide) rfl (fun ls hl => ?_)
        refine lv_lload hx hb d_M_raise_45 (lv_at hl 1 rfl) ?_
        refine lv_lload hx hb d_M_raise_47 (lv_at hl 1 rfl) ?_
        refine lv_lmul hx hb d_M_raise_49 ?_
        refine wk_l (y := lN (y * y)) (lN_mul y y) ?_
        refine lv_lload hx hb d_M_raise_50 (lv_at hl 5 rfl) ?_
        refine lv_lrem hx hb d_M_raise_52 (lN_ne0 (by omega) (by omega)) ?_
        refine wk_l (y := lN (y * y % M)) (pk_lRem (rs_lt h3 h3 hM) (by omega) (by omega)) ?_
        refine lv_lstore (lv' := [(8, .long (lN (y * y % M))), (6, .long (lN x)), (10, .long (lN r)), (0, .long (lN b)), (2, .long (lN e0)), (4, .long (lN M))]) hx hb d_M_raise_53 hl (by decide) rfl (fun ls hl => ?_)
        refine lv_lload hx hb d_M_raise_55 (lv_at hl 2 rfl) ?_
        refine lv_ldc2 (v := lN 2) hx hb hown (hts _ (al_m aw_t269)) d_M_raise_57 ?_
        refine lv_ldiv hx hb d_M_raise_60 (lN_ne0 (by omega) (by omega)) ?_
        refine wk_l (y := lN (r / 2)) (pk_lDiv (by omega) (by omega) (by omega)) ?_
        have hm60 := Nat.div_le_self r 2
        refine lv_lstore (lv' := [(10, .long (lN (r / 2))), (8, .long (lN (y * y % M))), (6, .long (lN x)), (0, .long (lN b)), (2, .long (lN e0)), (4, .long (lN M))]) hx hb d_M_raise_61 hl (by decide) rfl (fun ls hl => ?_)
        refine lv_goto (tgt := 12) hx hb d_M_raise_63 (by decide) ?_
        exact ih _ (by omega) x (y * y % M) (r / 2) ls (lv_sub hl [2, 1, 0, 3, 4, 5] rfl) (by omega) (by first | exact h2 | exact Nat.mod_lt _ (by omega)) (Nat.mod_lt _ (by omega)) (by first | (rw [rs_odd hc27]; exact h4) | (rw [rs_even (by omega)]; exact h4)) rfl
      · skip
        rw [lg_cmp_eq] at hc27
        rw [pk_lEQ (a := r % 2) (b := 1) (by omega) (by omega)] at hc27
        refine lv_lload hx hb d_M_raise_30 (lv_at hl 0 rfl) ?_
        refine lv_lload hx hb d_M_raise_32 (lv_at hl 1 rfl) ?_
        refine lv_lmul hx hb d_M_raise_34 ?_
        refine wk_l (y := lN (x * y)) (lN_mul x y) ?_
        refine lv_lload hx hb d_M_raise_35 (lv_at hl 5 rfl) ?_
        refine lv_lrem hx hb d_M_raise_37 (lN_ne0 (by omega) (by omega)) ?_
        refine wk_l (y := lN (x * y % M)) (pk_lRem (rs_lt h2 h3 hM) (by omega) (by omega)) ?_
        refine lv_goto (tgt := 43) hx hb d_M_raise_38 (by decide) ?_
        refine lv_lstore (lv' := [(6, .long (lN (x * y % M))), (8, .long (lN y)), (10, .long (lN r)), (0, .long (lN b)), (2, .long (lN e0)), (4, .long (lN M))]) hx hb d_M_raise_43 hl (by decide) rfl (fun ls hl => ?_)
        refine lv_lload hx hb d_M_raise_45 (lv_at hl 1 rfl) ?_
        refine lv_lload hx hb d_M_raise_47 (lv_at hl 1 rfl) ?_
        refine lv_lmul hx hb d_M_raise_49 ?_
        refine wk_l (y := lN (y * y)) (lN_mul y y) ?_
        refine lv_lload hx hb d_M_raise_50 (lv_at hl 5 rfl) ?_
        refine lv_lrem hx hb d_M_raise_52 (lN_ne0 (by omega) (by omega)) ?_
        refine wk_l (y := lN (y * y % M)) (pk_lRem (rs_lt h3 h3 hM) (by omega) (by omega)) ?_
        refine lv_lstore (lv' := [(8, .long (lN (y * y % M))), (6, .long (lN (x * y % M))), (10, .long (lN r)), (0, .long (lN b)), (2, .long (lN e0)), (4, .long (lN M))]) hx hb d_M_raise_53 hl (by decide) rfl (fun ls hl => ?_)
        refine lv_lload hx hb d_M_raise_55 (lv_at hl 2 rfl) ?_
        refine lv_ldc2 (v := lN 2) hx hb hown (hts _ (al_m aw_t269)) d_M_raise_57 ?_
        refine lv_ldiv hx hb d_M_raise_60 (lN_ne0 (by omega) (by omega)) ?_
        refine wk_l (y := lN (r / 2)) (pk_lDiv (by omega) (by omega) (by omega)) ?_
        have hm60 := Nat.div_le_self r 2
        refine lv_lstore (lv' := [(10, .long (lN (r / 2))), (8, .long (lN (y * y % M))), (6, .long (lN (x * y % M))), (0, .long (lN b)), (2, .long (lN e0)), (4, .long (lN M))]) hx hb d_M_raise_61 hl (by decide) rfl (fun ls hl => ?_)
        refine lv_goto (tgt := 12) hx hb d_M_raise_63 (by decide) ?_
        exact ih _ (by omega) (x * y % M) (y * y % M) (r / 2) ls (lv_sub hl [2, 1, 0, 3, 4, 5] rfl) (by omega) (by first | exact h2 | exact Nat.mod_lt _ (by omega)) (Nat.mod_lt _ (by omega)) (by first | (rw [rs_odd hc27]; exact h4) | (rw [rs_even (by omega)]; exact h4)) rfl
end

set_option maxHeartbeats 4000000 in
set_option maxRecDepth 100000 in
theorem c_M_raise (l : Launch) (b e0 M : Nat) (he : e0 < 2 ^ 63) (hM : M ≤ 2750058481) (h1 : 1 < M) (hbM : b < 2 ^ 63) : Met l y_M_raise w_M_raise ({ frames := 0, cells := 0, slots := 0, locals := 0 }) (va_Pc [.long (lN b), .long (lN e0), .long (lN M)] (fun _ => True)) (qL (lN (b ^ e0 % M))) 0 0 (fun _ => False) := by
  refine Met.ofW (cc := b_M_raise) (maxL := 12) (ret := some .long) (by decide) rfl ?_
  intro pg ev s mi args below meth co s₁ B hml hv
  obtain ⟨rfl, -⟩ := hv
  have hx := B.exec
  have hb := B.bytes
  have hr := B.returns
  have hts := atoms_spec (ws := w_M_raise) B.pre
  have hown : s.vm.findClass R_M = some mi.cls := findClass_of_methodNamed B.named
  have hlocks := B.notSynchronized
  have hS : va_S (fun _ => False) s.heap s.heap [] := va_S.rf
  have hl := lv_entry ([.long (lN b), .long (lN e0), .long (lN M)]) (n := 12) (Nat.le_of_ble_eq_true rfl)
  rw [lg_entry_eq]
  generalize (lg_sl ([.long (lN b), .long (lN e0), .long (lN M)]) ++ List.replicate (12 - (lg_sl ([.long (lN b), .long (lN e0), .long (lN M)])).length) Slot.unset).toArray = ls at hl ⊢
  have hl : lv_has ls 12 [(0, .long (lN b)), (2, .long (lN e0)), (4, .long (lN M))] := hl
  refine lv_lconst (v := lN 1) hx hb d_M_raise_0 rfl ?_
  refine lv_lstore (lv' := [(6, .long (lN 1)), (0, .long (lN b)), (2, .long (lN e0)), (4, .long (lN M))]) hx hb d_M_raise_1 hl (by decide) rfl (fun ls hl => ?_)
  refine lv_lload_n hx hb d_M_raise_3 rfl (lv_at hl 1 rfl) ?_
  refine lv_lload hx hb d_M_raise_4 (lv_at hl 3 rfl) ?_
  refine lv_lrem hx hb d_M_raise_6 (lN_ne0 (by omega) (by omega)) ?_
  refine wk_l (y := lN (b % M)) (pk_lRem (by omega) (by omega) (by omega)) ?_
  have hm6 := Nat.mod_le b M
  refine lv_lstore (lv' := [(8, .long (lN (b % M))), (6, .long (lN 1)), (0, .long (lN b)), (2, .long (lN e0)), (4, .long (lN M))]) hx hb d_M_raise_7 hl (by decide) rfl (fun ls hl => ?_)
  refine lv_lload_n hx hb d_M_raise_9 rfl (lv_at hl 3 rfl) ?_
  refine lv_lstore (lv' := [(10, .long (lN e0)), (8, .long (lN (b % M))), (6, .long (lN 1)), (0, .long (lN b)), (2, .long (lN e0)), (4, .long (lN M))]) hx hb d_M_raise_10 hl (by decide) rfl (fun ls hl => ?_)
  refine lp_M_raise_12 hx hb hts hown hM (fun x y r ls hl hq => ?_) _ 1 (b % M) e0 ls (lv_sub hl [2, 1, 0, 3, 4, 5] rfl) (he) (by omega) (Nat.mod_lt _ (by omega)) (by rw [Nat.one_mul, ← Nat.pow_mod]) rfl
  refine lv_lload hx hb d_M_raise_66 (lv_at hl 0 rfl) ?_
  exact pu_lret hx hb hr hS d_M_raise_68 hlocks (congrArg lN hq)

section
variable {pg : Program} {l : Launch} {ev : Env} {R : Room} {s : State} {mi : MethodId} {args : Array Value} {below : List Frame} {meth : Method} {co : Code} {H : Heap} {locs : List Loc} {cells slots : Nat} {Q : State → Prop}
set_option maxHeartbeats 4000000 in
set_option maxRecDepth 100000 in
theorem lp_M_factor_6 (hx : pg.tables.exec = Jvm.exec) (hb : co.code = b_M_factor) {G : Nat} (k31 : ∀ (x : Nat) (y : Nat) (ls : Array Slot), lv_has ls 10 [(4, .long (lN x)), (6, .long (lN y))] → (x = G) → W pg l ev R s mi args below meth co H locs cells slots Q (F0 mi 31 ls [])) : ∀ (mz : Nat) (x : Nat) (y : Nat) (ls : Array Slot), lv_has ls 10 [(4, .long (lN x)), (6, .long (lN y))] → (x < 2 ^ 63) → (y < 2 ^ 63) → (Nat.gcd x y = G) → y = mz → W pg l ev R s mi args below meth co H locs cells slots Q (F0 mi 6 ls []) := by
  intro mz
  induction mz using Nat.strongRecOn with
  | ind mz ih =>
    intro x y ls hl h1 h2 h3 hk
    subst hk
    refine lv_lload hx hb d_M_factor_6 (lv_at hl 1 rfl) ?_
    refine lv_lconst (v := lN 0) hx hb d_M_factor_8 rfl ?_
    refine W.lcmp hx hb d_M_factor_9 ?_
    refine lv_if_eq (tgt := 31) hx hb d_M_factor_10 (by decide) (fun hc10 => ?_) (fun hc10 => ?_)
    · skip
      rw [lg_cmp_eq] at hc10
      rw [pk_lEQ (a := y) (b := 0) (by omega) (by omega)] at hc10
      exact k31 x y ls (lv_sub hl [0, 1] rfl) (by rw [hc10, Nat.gcd_zero_right] at h3; exact h3)
    · skip
      rw [lg_cmp_eq] at hc10
      rw [pk_lEQ (a := y) (b := 0) (by omega) (by omega)] at hc10
      refine lv_lload hx hb d_M_factor_13 (lv_at hl 0 rfl) ?_
      refine lv_lload hx hb d_M_factor_15 (lv_at hl 1 rfl) ?_
      refine lv_lrem hx hb d_M_factor_17 (lN_ne0 (by omega) (by omega)) ?_
      refine wk_l (y := lN (x % y)) (pk_lRem (by omega) (by omega) (by omega)) ?_
      have hm17 := Nat.mod_le x y
      refine lv_lstore (lv' := [(8, .long (lN (x % y))), (4, .long (lN x)), (6, .long (lN y))]) hx hb d_M_factor_18 hl (by decide) rfl (fun ls hl => ?_)
      refine lv_lload hx hb d_M_factor_20 (lv_at hl 2 rfl) ?_
      refine lv_lstore (lv' := [(4, .long (lN y)), (8, .long (lN (x % y))), (6, .long (lN y))]) hx hb d_M_factor_22 hl (by decide) rfl (fun ls hl => ?_)
      refine lv_lload hx hb d_M_factor_24 (lv_at hl 1 rfl) ?_
      refine lv_lstore (lv' := [(6, .long (lN (x % y))), (4, .long (lN y)), (8, .long (lN (x % y)))]) hx hb d_M_factor_26 hl (by decide) rfl (fun ls hl => ?_)
      refine lv_goto (tgt := 6) hx hb d_M_factor_28 (by decide) ?_
      exact ih _ (Nat.mod_lt _ (by omega)) y (x % y) ls (lv_sub hl [1, 0] rfl) (h2) (Nat.lt_trans (Nat.mod_lt _ (by omega)) h2) (by rw [Nat.gcd_comm, ← Nat.gcd_rec, Nat.gcd_comm]; exact h3) rfl
end

set_option maxHeartbeats 4000000 in
set_option maxRecDepth 100000 in
theorem c_M_factor (l : Launch) (a0 b0 : Nat) (ha : a0 < 2 ^ 63) (hb0 : b0 < 2 ^ 63) : Met l y_M_factor w_M_factor ({ frames := 0, cells := 0, slots := 0, locals := 0 }) (va_Pc [.long (lN a0), .long (lN b0)] (fun _ => True)) (qL (lN (Nat.gcd a0 b0))) 0 0 (fun _ => False) := by
  refine Met.ofW (cc := b_M_factor) (maxL := 10) (ret := some .long) (by decide) rfl ?_
  intro pg ev s mi args below meth co s₁ B hml hv
  obtain ⟨rfl, -⟩ := hv
  have hx := B.exec
  have hb := B.bytes
  have hr := B.returns
  have hts := atoms_spec (ws := w_M_factor) B.pre
  have hown : s.vm.findClass R_M = some mi.cls := findClass_of_methodNamed B.named
  have hlocks := B.notSynchronized
  have hS : va_S (fun _ => False) s.heap s.heap [] := va_S.rf
  have hl := lv_entry ([.long (lN a0), .long (lN b0)]) (n := 10) (Nat.le_of_ble_eq_true rfl)
  rw [lg_entry_eq]
  generalize (lg_sl ([.long (lN a0), .long (lN b0)]) ++ List.replicate (10 - (lg_sl ([.long (lN a0), .long (lN b0)])).length) Slot.unset).toArray = ls at hl ⊢
  have hl : lv_has ls 10 [(0, .long (lN a0)), (2, .long (lN b0))] := hl
  refine lv_lload_n hx hb d_M_factor_0 rfl (lv_at hl 0 rfl) ?_
  refine lv_lstore (lv' := [(4, .long (lN a0)), (0, .long (lN a0)), (2, .long (lN b0))]) hx hb d_M_factor_1 hl (by decide) rfl (fun ls hl => ?_)
  refine lv_lload_n hx hb d_M_factor_3 rfl (lv_at hl 2 rfl) ?_
  refine lv_lstore (lv' := [(6, .long (lN b0)), (4, .long (lN a0)), (0, .long (lN a0)), (2, .long (lN b0))]) hx hb d_M_factor_4 hl (by decide) rfl (fun ls hl => ?_)
  refine lp_M_factor_6 hx hb  (fun x y ls hl hq => ?_) _ a0 b0 ls (lv_sub hl [1, 0] rfl) (ha) (hb0) (rfl) rfl
  refine lv_lload hx hb d_M_factor_31 (lv_at hl 0 rfl) ?_
  exact pu_lret hx hb hr hS d_M_factor_33 hlocks (congrArg lN hq)

set_option maxHeartbeats 4000000 in
set_option maxRecDepth 100000 in
theorem c_J_floorMod (l : Launch) (x : Int64) (d : Nat) (h0 : 0 < d) (hd : d < 2 ^ 62) : Met l y_J_floorMod w_J_floorMod ({ frames := 0, cells := 0, slots := 0, locals := 0 }) (va_Pc [.long x, .long (lN d)] (fun _ => True)) (qL (lN (x.toInt % (d : Int)).toNat)) 0 0 (fun _ => False) := by
  refine va_MetF (cc := b_J_floorMod) (maxL := 6) (ret := some .long) (by decide +kernel) rfl ?_
  intro pg ev s mi args below meth co s₁ B hml hv
  obtain ⟨rfl, -⟩ := hv
  have hx := B.exec
  have hb := B.bytes
  have hr := B.returns
  have hts := atoms_spec (ws := w_J_floorMod) B.pre
  have hown : s.vm.findClass R_J = some mi.cls := findClass_of_methodNamed B.named
  have hlocks := B.notSynchronized
  have hS : va_S (fun _ => False) s.heap s.heap [] := va_S.rf
  have hl := lv_entry ([.long x, .long (lN d)]) (n := 6) (Nat.le_of_ble_eq_true rfl)
  rw [lg_entry_eq]
  generalize (lg_sl ([.long x, .long (lN d)]) ++ List.replicate (6 - (lg_sl ([.long x, .long (lN d)])).length) Slot.unset).toArray = ls at hl ⊢
  have hl : lv_has ls 6 [(0, .long x), (2, .long (lN d))] := hl
  refine lv_lload_n hx hb d_J_floorMod_0 rfl (lv_at hl 0 rfl) ?_
  refine lv_lload_n hx hb d_J_floorMod_1 rfl (lv_at hl 1 rfl) ?_
  refine lv_lrem hx hb d_J_floorMod_2 (lN_ne0 (by omega) (by omega)) ?_
  refine lv_lstore (lv' := [(4, .long (x - x / (lN d) * (lN d))), (0, .long x), (2, .long (lN d))]) hx hb d_J_floorMod_3 hl (by decide) rfl (fun ls hl => ?_)
  refine lv_lload_n hx hb d_J_floorMod_5 rfl (lv_at hl 1 rfl) ?_
  refine lv_lload_n hx hb d_J_floorMod_6 rfl (lv_at hl 2 rfl) ?_
  refine lv_lxor hx hb d_J_floorMod_7 ?_
  refine lv_lconst (v := lN 0) hx hb d_J_floorMod_8 rfl ?_
  refine W.lcmp hx hb d_J_floorMod_9 ?_
  refine lv_if_ge (tgt := 25) hx hb d_J_floorMod_10 (by decide) (fun hc10 => ?_) (fun hc10 => ?_)
  · skip
    rw [lg_cmp_ge] at hc10
    rw [lx_le (x := x ^^^ (lN d)) (n := 0) (by omega)] at hc10
    refine lv_lload hx hb d_J_floorMod_25 (lv_at hl 0 rfl) ?_
    exact pu_lret hx hb hr hS d_J_floorMod_27 hlocks (fm_pos h0 hd (fm_ge h0 hd hc10))
  · skip
    rw [lg_cmp_ge] at hc10
    rw [lx_le (x := x ^^^ (lN d)) (n := 0) (by omega)] at hc10
    refine lv_lload hx hb d_J_floorMod_13 (lv_at hl 0 rfl) ?_
    refine lv_lconst (v := lN 0) hx hb d_J_floorMod_15 rfl ?_
    refine W.lcmp hx hb d_J_floorMod_16 ?_
    refine lv_if_eq (tgt := 25) hx hb d_J_floorMod_17 (by decide) (fun hc17 => ?_) (fun hc17 => ?_)
    · skip
      rw [lg_cmp_eq] at hc17
      rw [lx_eq (x := x - x / (lN d) * (lN d)) (n := 0) (by omega)] at hc17
      refine lv_lload hx hb d_J_floorMod_25 (lv_at hl 0 rfl) ?_
      exact pu_lret hx hb hr hS d_J_floorMod_27 hlocks (fm_pos h0 hd (fm_z hc17))
    · skip
      rw [lg_cmp_eq] at hc17
      rw [lx_eq (x := x - x / (lN d) * (lN d)) (n := 0) (by omega)] at hc17
      refine lv_lload hx hb d_J_floorMod_20 (lv_at hl 0 rfl) ?_
      refine lv_lload_n hx hb d_J_floorMod_22 rfl (lv_at hl 2 rfl) ?_
      refine lv_ladd hx hb d_J_floorMod_23 ?_
      refine wk_l (y := lN ((x.toInt % (d : Int)).toNat)) (fm_neg h0 hd (fm_sgn h0 hd hc10 hc17)) ?_
      exact pu_lret hx hb hr hS d_J_floorMod_24 hlocks (rfl)
end
section
section
variable {pg : Program} {l : Launch} {ev : Env} {R : Room} {s : State} {mi : MethodId} {args : Array Value} {below : List Frame} {meth : Method} {co : Code} {H : Heap} {locs : List Loc} {cells slots : Nat} {Q : State → Prop}
set_option maxHeartbeats 4000000 in
set_option maxRecDepth 100000 in
theorem lp_X_isKeyPrime_16 (hx : pg.tables.exec = Jvm.exec) (hb : co.code = b_X_isKeyPrime) {n : Nat} (hn3 : 3 ≤ n) (hn : n ≤ 229) (k35 : ∀ (d : Nat) (ls : Array Slot), lv_has ls 2 [(1, .int (nI d)), (0, .int (nI n))] → (ma_isP n = true) → W pg l ev R s mi args below meth co H locs cells slots Q (F0 mi 35 ls [])) (k27 : ∀ (d : Nat) (ls : Array Slot), lv_has ls 2 [(1, .int (nI d)), (0, .int (nI n))] → (ma_isP n = false) → W pg l ev R s mi args below meth co H locs cells slots Q (F0 mi 27 ls [])) : ∀ (mz : Nat) (d : Nat) (ls : Array Slot), lv_has ls 2 [(1, .int (nI d)), (0, .int (nI n))] → (2 ≤ d) → (d ≤ n) → (∀ j, 2 ≤ j → j < d → n % j ≠ 0) → n - d = mz → W pg l ev R s mi args below meth co H locs cells slots Q (F0 mi 16 ls []) := by
  intro mz
  induction mz using Nat.strongRecOn with
  | ind mz ih =>
    intro d ls hl h1 h2 h3 hk
    subst hk
    refine lv_iload_n hx hb d_X_isKeyPrime_16 rfl (lv_at hl 0 rfl) ?_
    refine lv_iload_n hx hb d_X_isKeyPrime_17 rfl (lv_at hl 1 rfl) ?_
    refine lv_icmp_ge (tgt := 35) hx hb d_X_isKeyPrime_18 (by decide) (fun hc18 => ?_) (fun hc18 => ?_)
    · skip
      rw [nI_leI (a := n) (b := d) (by omega) (by omega)] at hc18
      exact k35 d ls (lv_sub hl [0, 1] rfl) (ma_isP_of ⟨hn3, hn, fun j ha hb2 => h3 j ha (by omega)⟩)
    · skip
      rw [nI_leI (a := n) (b := d) (by omega) (by omega)] at hc18
      refine lv_iload_n hx hb d_X_isKeyPrime_21 rfl (lv_at hl 1 rfl) ?_
      refine lv_iload_n hx hb d_X_isKeyPrime_22 rfl (lv_at hl 0 rfl) ?_
      refine lv_irem hx hb d_X_isKeyPrime_23 (nI_ne0 (by omega) (by omega)) ?_
      refine wk_i (y := nI (n % d)) (pk_rem (by omega) (by omega) (by omega)) ?_
      have hm23 := Nat.mod_le n d
      refine lv_if_ne (tgt := 29) hx hb d_X_isKeyPrime_24 (by decide) (fun hc24 => ?_) (fun hc24 => ?_)
      · skip
        rw [← nI_0] at hc24
        rw [nI_eq (a := n % d) (b := 0) (by omega) (by omega)] at hc24
        refine lv_iinc (k := 0) (v := nI (d + 1)) (lv' := [(1, .int (nI (d + 1))), (0, .int (nI n))]) hx hb d_X_isKeyPrime_29 hl rfl (ii_1 d) (by decide) rfl (fun ls hl => ?_)
        refine lv_goto (tgt := 16) hx hb d_X_isKeyPrime_32 (by decide) ?_
        exact ih _ (by omega) (d + 1) ls (lv_sub hl [0, 1] rfl) (by omega) (by omega) (ip_s h3 hc24) rfl
      · skip
        rw [← nI_0] at hc24
        rw [nI_eq (a := n % d) (b := 0) (by omega) (by omega)] at hc24
        exact k27 d ls (lv_sub hl [0, 1] rfl) (ip_f h1 (by omega) hc24)
end

set_option maxHeartbeats 4000000 in
set_option maxRecDepth 100000 in
theorem c_X_isKeyPrime (l : Launch) (x : Int32)  : Met l y_X_isKeyPrime w_X_isKeyPrime ({ frames := 0, cells := 0, slots := 0, locals := 0 }) (va_Pc [.int x] (fun _ => True)) (qI (bI (sp_isP x))) 0 0 (fun _ => False) := by
  refine Met.ofW (cc := b_X_isKeyPrime) (maxL := 2) (ret := some .boolean) (by decide) rfl ?_
  intro pg ev s mi args below meth co s₁ B hml hv
  obtain ⟨rfl, -⟩ := hv
  have hx := B.exec
  have hb := B.bytes
  have hr := B.returns
  have hts := atoms_spec (ws := w_X_isKeyPrime) B.pre
  have hown : s.vm.findClass R_X = some mi.cls := findClass_of_methodNamed B.named
  have hlocks := B.notSynchronized
  have hS : va_S (fun _ => False) s.heap s.heap [] := va_S.rf
  have hl := lv_entry ([.int x]) (n := 2) (Nat.le_of_ble_eq_true rfl)
  rw [lg_entry_eq]
  generalize (lg_sl ([.int x]) ++ List.replicate (2 - (lg_sl ([.int x])).length) Slot.unset).toArray = ls at hl ⊢
  have hl : lv_has ls 2 [(0, .int x)] := hl
  refine lv_iload_n hx hb d_X_isKeyPrime_0 rfl (lv_at hl 0 rfl) ?_
  refine lv_iconst (v := nI 3) hx hb d_X_isKeyPrime_1 (by decide) ?_
  refine lv_icmp_lt (tgt := 12) hx hb d_X_isKeyPrime_2 (by decide) (fun hc2 => ?_) (fun hc2 => ?_)
  · skip
    rw [ix_lt (x := x) (n := 3) (by omega)] at hc2
    refine lv_iconst (v := nI 0) hx hb d_X_isKeyPrime_12 (by decide) ?_
    exact pu_zret hx hb hr (by decide) hS d_X_isKeyPrime_13 hlocks ((bI_f (by simp only [sp_isP, Bool.and_eq_false_iff, decide_eq_false_iff_not]; omega)).symm)
  · skip
    rw [ix_lt (x := x) (n := 3) (by omega)] at hc2
    refine lv_iload_n hx hb d_X_isKeyPrime_5 rfl (lv_at hl 0 rfl) ?_
    refine lv_sipush (v := nI 229) hx hb d_X_isKeyPrime_6 (by decide) ?_
    refine lv_icmp_le (tgt := 14) hx hb d_X_isKeyPrime_9 (by decide) (fun hc9 => ?_) (fun hc9 => ?_)
    · skip
      rw [ix_ge (x := x) (n := 229) (by omega)] at hc9
      obtain ⟨n, hn, rfl⟩ := ix_of (x := x) (by omega)
      rw [nI_toInt hn] at hc2 hc9
      refine lv_iconst (v := nI 2) hx hb d_X_isKeyPrime_14 (by decide) ?_
      refine lv_istore_n (lv' := [(1, .int (nI 2)), (0, .int (nI n))]) hx hb d_X_isKeyPrime_15 rfl hl (by decide) rfl (fun ls hl => ?_)
      refine lp_X_isKeyPrime_16 hx hb (by omega) (by omega) (fun d ls hl hq => ?_) (fun d ls hl hq => ?_) _ 2 ls (lv_sub hl [0, 1] rfl) (by omega) (by omega) (fun j ha hb2 => absurd ha (by omega)) rfl
      · skip
        refine lv_iconst (v := nI 1) hx hb d_X_isKeyPrime_35 (by decide) ?_
        exact pu_zret hx hb hr (by decide) hS d_X_isKeyPrime_36 hlocks (by rw [ip_n (by omega) (by omega), hq]; decide)
      · skip
        refine lv_iconst (v := nI 0) hx hb d_X_isKeyPrime_27 (by decide) ?_
        exact pu_zret hx hb hr (by decide) hS d_X_isKeyPrime_28 hlocks (by rw [ip_n (by omega) (by omega), hq]; decide)
    · skip
      rw [ix_ge (x := x) (n := 229) (by omega)] at hc9
      refine lv_iconst (v := nI 0) hx hb d_X_isKeyPrime_12 (by decide) ?_
      exact pu_zret hx hb hr (by decide) hS d_X_isKeyPrime_13 hlocks ((bI_f (by simp only [sp_isP, Bool.and_eq_false_iff, decide_eq_false_iff_not]; omega)).symm)

section
variable {pg : Program} {l : Launch} {ev : Env} {R : Room} {s : State} {mi : MethodId} {args : Array Value} {below : List Frame} {meth : Method} {co : Code} {H : Heap} {locs : List Loc} {cells slots : Nat} {Q : State → Prop}
set_option maxHeartbeats 4000000 in
set_option maxRecDepth 100000 in
theorem lp_M_prime_18 (hx : pg.tables.exec = Jvm.exec) (hb : co.code = b_M_prime) {n : Nat} (hn3 : 3 ≤ n) (hn : n ≤ 229) (k43 : ∀ (v : Nat) (d : Nat) (ls : Array Slot), lv_has ls 3 [(1, .int (nI v)), (2, .int (nI d)), (0, .int (nI n))] → (v = sp_dv n n) → (v ≤ n) → W pg l ev R s mi args below meth co H locs cells slots Q (F0 mi 43 ls [])) : ∀ (mz : Nat) (v : Nat) (d : Nat) (ls : Array Slot), lv_has ls 3 [(1, .int (nI v)), (2, .int (nI d)), (0, .int (nI n))] → (1 ≤ d) → (d ≤ n + 1) → (v = sp_dv n (d - 1)) → (v < d) → n + 1 - d = mz → W pg l ev R s mi args below meth co H locs cells slots Q (F0 mi 18 ls []) := by
  intro mz
  induction mz using Nat.strongRecOn with
  | ind mz ih =>
    intro v d ls hl h1 h2 h3 h4 hk
    subst hk
    refine lv_iload_n hx hb d_M_prime_18 rfl (lv_at hl 1 rfl) ?_
    refine lv_iload_n hx hb d_M_prime_19 rfl (lv_at hl 2 rfl) ?_
    refine lv_icmp_gt (tgt := 43) hx hb d_M_prime_20 (by decide) (fun hc20 => ?_) (fun hc20 => ?_)
    · skip
      rw [nI_ltI (a := n) (b := d) (by omega) (by omega)] at hc20
      exact k43 v d ls (lv_sub hl [0, 1, 2] rfl) (by have e : d - 1 = n := (by omega); rw [e] at h3; exact h3) (by omega)
    · skip
      rw [nI_ltI (a := n) (b := d) (by omega) (by omega)] at hc20
      refine lv_iload_n hx hb d_M_prime_23 rfl (lv_at hl 0 rfl) ?_
      refine lv_iload_n hx hb d_M_prime_24 rfl (lv_at hl 2 rfl) ?_
      refine lv_iload_n hx hb d_M_prime_25 rfl (lv_at hl 1 rfl) ?_
      refine lv_irem hx hb d_M_prime_26 (nI_ne0 (by omega) (by omega)) ?_
      refine wk_i (y := nI (n % d)) (pk_rem (by omega) (by omega) (by omega)) ?_
      have hm26 := Nat.mod_le n d
      refine lv_if_ne (tgt := 34) hx hb d_M_prime_27 (by decide) (fun hc27 => ?_) (fun hc27 => ?_)
      · skip
        rw [← nI_0] at hc27
        rw [nI_eq (a := n % d) (b := 0) (by omega) (by omega)] at hc27
        refine lv_iconst (v := nI 0) hx hb d_M_prime_34 (by decide) ?_
        refine lv_iadd hx hb d_M_prime_35 ?_
        refine wk_i (y := nI (v + 0)) (nI_add v 0) ?_
        refine lv_istore_n (lv' := [(1, .int (nI (v + 0))), (2, .int (nI d)), (0, .int (nI n))]) hx hb d_M_prime_36 rfl hl (by decide) rfl (fun ls hl => ?_)
        refine lv_iinc (k := 1) (v := nI (d + 1)) (lv' := [(2, .int (nI (d + 1))), (1, .int (nI (v + 0))), (0, .int (nI n))]) hx hb d_M_prime_37 hl rfl (ii_1 d) (by decide) rfl (fun ls hl => ?_)
        refine lv_goto (tgt := 18) hx hb d_M_prime_40 (by decide) ?_
        exact ih _ (by omega) (v + 0) (d + 1) ls (lv_sub hl [1, 0, 2] rfl) (by omega) (by omega) (by first | (rw [Nat.add_sub_cancel, dv_step h1, if_pos hc27, ← h3]; done) | (rw [Nat.add_sub_cancel, dv_step h1, if_neg hc27, ← h3]; done)) (by omega) rfl
      · skip
        rw [← nI_0] at hc27
        rw [nI_eq (a := n % d) (b := 0) (by omega) (by omega)] at hc27
        refine lv_iconst (v := nI 1) hx hb d_M_prime_30 (by decide) ?_
        refine lv_goto (tgt := 35) hx hb d_M_prime_31 (by decide) ?_
        refine lv_iadd hx hb d_M_prime_35 ?_
        refine wk_i (y := nI (v + 1)) (nI_add v 1) ?_
        refine lv_istore_n (lv' := [(1, .int (nI (v + 1))), (2, .int (nI d)), (0, .int (nI n))]) hx hb d_M_prime_36 rfl hl (by decide) rfl (fun ls hl => ?_)
        refine lv_iinc (k := 1) (v := nI (d + 1)) (lv' := [(2, .int (nI (d + 1))), (1, .int (nI (v + 1))), (0, .int (nI n))]) hx hb d_M_prime_37 hl rfl (ii_1 d) (by decide) rfl (fun ls hl => ?_)
        refine lv_goto (tgt := 18) hx hb d_M_prime_40 (by decide) ?_
        exact ih _ (by omega) (v + 1) (d + 1) ls (lv_sub hl [1, 0, 2] rfl) (by omega) (by omega) (by first | (rw [Nat.add_sub_cancel, dv_step h1, if_pos hc27, ← h3]; done) | (rw [Nat.add_sub_cancel, dv_step h1, if_neg hc27, ← h3]; done)) (by omega) rfl
end

set_option maxHeartbeats 4000000 in
set_option maxRecDepth 100000 in
theorem c_M_prime (l : Launch) (x : Int32)  : Met l y_M_prime w_M_prime ({ frames := 0, cells := 0, slots := 0, locals := 0 }) (va_Pc [.int x] (fun _ => True)) (qI (bI (sp_isP x))) 0 0 (fun _ => False) := by
  refine Met.ofW (cc := b_M_prime) (maxL := 3) (ret := some .boolean) (by decide) rfl ?_
  intro pg ev s mi args below meth co s₁ B hml hv
  obtain ⟨rfl, -⟩ := hv
  have hx := B.exec
  have hb := B.bytes
  have hr := B.returns
  have hts := atoms_spec (ws := w_M_prime) B.pre
  have hown : s.vm.findClass R_M = some mi.cls := findClass_of_methodNamed B.named
  have hlocks := B.notSynchronized
  have hS : va_S (fun _ => False) s.heap s.heap [] := va_S.rf
  have hl := lv_entry ([.int x]) (n := 3) (Nat.le_of_ble_eq_true rfl)
  rw [lg_entry_eq]
  generalize (lg_sl ([.int x]) ++ List.replicate (3 - (lg_sl ([.int x])).length) Slot.unset).toArray = ls at hl ⊢
  have hl : lv_has ls 3 [(0, .int x)] := hl
  refine lv_iload_n hx hb d_M_prime_0 rfl (lv_at hl 0 rfl) ?_
  refine lv_iconst (v := nI 3) hx hb d_M_prime_1 (by decide) ?_
  refine lv_icmp_lt (tgt := 12) hx hb d_M_prime_2 (by decide) (fun hc2 => ?_) (fun hc2 => ?_)
  · skip
    rw [ix_lt (x := x) (n := 3) (by omega)] at hc2
    refine lv_iconst (v := nI 0) hx hb d_M_prime_12 (by decide) ?_
    exact pu_zret hx hb hr (by decide) hS d_M_prime_13 hlocks ((bI_f (by simp only [sp_isP, Bool.and_eq_false_iff, decide_eq_false_iff_not]; omega)).symm)
  · skip
    rw [ix_lt (x := x) (n := 3) (by omega)] at hc2
    refine lv_iload_n hx hb d_M_prime_5 rfl (lv_at hl 0 rfl) ?_
    refine lv_sipush (v := nI 229) hx hb d_M_prime_6 (by decide) ?_
    refine lv_icmp_le (tgt := 14) hx hb d_M_prime_9 (by decide) (fun hc9 => ?_) (fun hc9 => ?_)
    · skip
      rw [ix_ge (x := x) (n := 229) (by omega)] at hc9
      obtain ⟨n, hn, rfl⟩ := ix_of (x := x) (by omega)
      rw [nI_toInt hn] at hc2 hc9
      refine lv_iconst (v := nI 0) hx hb d_M_prime_14 (by decide) ?_
      refine lv_istore_n (lv' := [(1, .int (nI 0)), (0, .int (nI n))]) hx hb d_M_prime_15 rfl hl (by decide) rfl (fun ls hl => ?_)
      refine lv_iconst (v := nI 1) hx hb d_M_prime_16 (by decide) ?_
      refine lv_istore_n (lv' := [(2, .int (nI 1)), (1, .int (nI 0)), (0, .int (nI n))]) hx hb d_M_prime_17 rfl hl (by decide) rfl (fun ls hl => ?_)
      refine lp_M_prime_18 hx hb (by omega) (by omega) (fun v d ls hl hq hv2 => ?_) _ 0 1 ls (lv_sub hl [1, 0, 2] rfl) (by omega) (by omega) (rfl) (by omega) rfl
      refine lv_iload_n hx hb d_M_prime_43 rfl (lv_at hl 0 rfl) ?_
      refine lv_iconst (v := nI 2) hx hb d_M_prime_44 (by decide) ?_
      refine lv_icmp_ne (tgt := 52) hx hb d_M_prime_45 (by decide) (fun hc45 => ?_) (fun hc45 => ?_)
      · skip
        rw [nI_eq (a := v) (b := 2) (by omega) (by omega)] at hc45
        refine lv_iconst (v := nI 0) hx hb d_M_prime_52 (by decide) ?_
        exact pu_zret hx hb hr (by decide) hS d_M_prime_53 hlocks (by rw [ip_n (by omega) (by omega), ← sp_dvp (by omega) (by omega), ← hq]; simp only [hc45]; decide)
      · skip
        rw [nI_eq (a := v) (b := 2) (by omega) (by omega)] at hc45
        refine lv_iconst (v := nI 1) hx hb d_M_prime_48 (by decide) ?_
        refine lv_goto (tgt := 53) hx hb d_M_prime_49 (by decide) ?_
        exact pu_zret hx hb hr (by decide) hS d_M_prime_53 hlocks (by rw [ip_n (by omega) (by omega), ← sp_dvp (by omega) (by omega), ← hq]; simp only [hc45]; decide)
    · skip
      rw [ix_ge (x := x) (n := 229) (by omega)] at hc9
      refine lv_iconst (v := nI 0) hx hb d_M_prime_12 (by decide) ?_
      exact pu_zret hx hb hr (by decide) hS d_M_prime_13 hlocks ((bI_f (by simp only [sp_isP, Bool.and_eq_false_iff, decide_eq_false_iff_not]; omega)).symm)

set_option maxHeartbeats 4000000 in
set_option maxRecDepth 100000 in
theorem c_X_isKey (l : Launch) (x y : Int32)  : Met l y_X_isKey w_X_isKey ({ frames := 1, cells := 0, slots := 0, locals := 21 }) (va_Pc [.int x, .int y] (fun _ => True)) (qI (bI (sp_isK x y))) 0 0 (fun _ => False) := by
  refine Met.ofW (cc := b_X_isKey) (maxL := 2) (ret := some .boolean) (by decide) rfl ?_
  intro pg ev s mi args below meth co s₁ B hml hv
  obtain ⟨rfl, -⟩ := hv
  have hx := B.exec
  have hb := B.bytes
  have hr := B.returns
  have hts := atoms_spec (ws := w_X_isKey) B.pre
  have hown : s.vm.findClass R_X = some mi.cls := findClass_of_methodNamed B.named
  have hlocks := B.notSynchronized
  have hS : va_S (fun _ => False) s.heap s.heap [] := va_S.rf
  have hl := lv_entry ([.int x, .int y]) (n := 2) (Nat.le_of_ble_eq_true rfl)
  rw [lg_entry_eq]
  generalize (lg_sl ([.int x, .int y]) ++ List.replicate (2 - (lg_sl ([.int x, .int y])).length) Slot.unset).toArray = ls at hl ⊢
  have hl : lv_has ls 2 [(0, .int x), (1, .int y)] := hl
  refine lv_iload_n hx hb d_X_isKey_0 rfl (lv_at hl 0 rfl) ?_
  refine pu_i (va_runS (As := [.int x]) (rest := []) ⟨hx, hb, hml, hown, hts⟩ (c_X_isKeyPrime l x) (va_cwS 1 hts (al_S (k_X_isKeyPrime) (aw_t61) (aw_t62) (aw_t1)) rfl rfl rfl (by decide +kernel) ⟨Nat.le_of_ble_eq_true rfl, Nat.le_of_ble_eq_true rfl⟩) pu_preS rfl rfl hl.1 rfl (lv_room (Nat.le_of_ble_eq_true rfl)) d_X_isKey_1 ⟨Nat.zero_le _, Nat.zero_le _⟩) hS (fun H locs hkp hS => ?_)
  refine lv_if_eq (tgt := 39) hx hb d_X_isKey_4 (by decide) (fun hc4 => ?_) (fun hc4 => ?_)
  · skip
    rw [bI_0] at hc4
    refine lv_iconst (v := nI 0) hx hb d_X_isKey_39 (by decide) ?_
    exact pu_zret hx hb hr (by decide) hS d_X_isKey_40 hlocks ((bI_f (by simp [sp_isK, hc4])).symm)
  · skip
    rw [bI_0] at hc4
    rw [Bool.not_eq_false] at hc4
    refine lv_iload_n hx hb d_X_isKey_7 rfl (lv_at hl 1 rfl) ?_
    refine pu_i (va_runS (As := [.int y]) (rest := []) ⟨hx, hb, hml, hown, hts⟩ (c_X_isKeyPrime l y) (va_cwS 1 hts (al_S (k_X_isKeyPrime) (aw_t61) (aw_t62) (aw_t1)) rfl rfl rfl (by decide +kernel) ⟨Nat.le_of_ble_eq_true rfl, Nat.le_of_ble_eq_true rfl⟩) pu_preS rfl rfl hl.1 rfl (lv_room (Nat.le_of_ble_eq_true rfl)) d_X_isKey_8 ⟨Nat.zero_le _, Nat.zero_le _⟩) hS (fun H locs hkp hS => ?_)
    refine lv_if_eq (tgt := 39) hx hb d_X_isKey_11 (by decide) (fun hc11 => ?_) (fun hc11 => ?_)
    · skip
      rw [bI_0] at hc11
      refine lv_iconst (v := nI 0) hx hb d_X_isKey_39 (by decide) ?_
      exact pu_zret hx hb hr (by decide) hS d_X_isKey_40 hlocks ((bI_f (by simp [sp_isK, hc4, hc11])).symm)
    · skip
      rw [bI_0] at hc11
      rw [Bool.not_eq_false] at hc11
      obtain ⟨a, hpa, ha2, rfl⟩ := sp_isP_of hc4
      obtain ⟨b, hpb, hb2, rfl⟩ := sp_isP_of hc11
      have ha3 := hpa.1
      have ha9 := hpa.2.1
      have hb3 := hpb.1
      have hb9 := hpb.2.1
      refine lv_iload_n hx hb d_X_isKey_14 rfl (lv_at hl 0 rfl) ?_
      refine lv_iload_n hx hb d_X_isKey_15 rfl (lv_at hl 1 rfl) ?_
      refine lv_icmp_eq (tgt := 39) hx hb d_X_isKey_16 (by decide) (fun hc16 => ?_) (fun hc16 => ?_)
      · skip
        rw [nI_eq (a := a) (b := b) (by omega) (by omega)] at hc16
        refine lv_iconst (v := nI 0) hx hb d_X_isKey_39 (by decide) ?_
        exact pu_zret hx hb hr (by decide) hS d_X_isKey_40 hlocks ((bI_f (by simp only [sp_isK, hc4, hc11, ix_nat ha2, ix_nat hb2, nI_toInt ha2, nI_toInt hb2, Int.toNat_natCast, Bool.true_and, ne_eq, Bool.and_eq_false_iff, decide_eq_false_iff_not]; omega)).symm)
      · skip
        rw [nI_eq (a := a) (b := b) (by omega) (by omega)] at hc16
        refine lv_iload_n hx hb d_X_isKey_19 rfl (lv_at hl 1 rfl) ?_
        refine lv_iconst (v := nI 1) hx hb d_X_isKey_20 (by decide) ?_
        refine lv_isub hx hb d_X_isKey_21 ?_
        refine wk_i (y := nI (b - 1)) (pk_sub (by omega)) ?_
        refine lv_iload_n hx hb d_X_isKey_22 rfl (lv_at hl 0 rfl) ?_
        refine lv_irem hx hb d_X_isKey_23 (nI_ne0 (by omega) (by omega)) ?_
        refine wk_i (y := nI ((b - 1) % a)) (pk_rem (by omega) (by omega) (by omega)) ?_
        have hm23 := Nat.mod_le (b - 1) a
        refine lv_if_eq (tgt := 39) hx hb d_X_isKey_24 (by decide) (fun hc24 => ?_) (fun hc24 => ?_)
        · skip
          rw [← nI_0] at hc24
          rw [nI_eq (a := (b - 1) % a) (b := 0) (by omega) (by omega)] at hc24
          refine lv_iconst (v := nI 0) hx hb d_X_isKey_39 (by decide) ?_
          exact pu_zret hx hb hr (by decide) hS d_X_isKey_40 hlocks ((bI_f (by simp only [sp_isK, hc4, hc11, ix_nat ha2, ix_nat hb2, nI_toInt ha2, nI_toInt hb2, Int.toNat_natCast, Bool.true_and, ne_eq, Bool.and_eq_false_iff, decide_eq_false_iff_not]; omega)).symm)
        · skip
          rw [← nI_0] at hc24
          rw [nI_eq (a := (b - 1) % a) (b := 0) (by omega) (by omega)] at hc24
          refine lv_iload_n hx hb d_X_isKey_27 rfl (lv_at hl 0 rfl) ?_
          refine lv_iconst (v := nI 1) hx hb d_X_isKey_28 (by decide) ?_
          refine lv_isub hx hb d_X_isKey_29 ?_
          refine wk_i (y := nI (a - 1)) (pk_sub (by omega)) ?_
          refine lv_iload_n hx hb d_X_isKey_30 rfl (lv_at hl 1 rfl) ?_
          refine lv_irem hx hb d_X_isKey_31 (nI_ne0 (by omega) (by omega)) ?_
          refine wk_i (y := nI ((a - 1) % b)) (pk_rem (by omega) (by omega) (by omega)) ?_
          have hm31 := Nat.mod_le (a - 1) b
          refine lv_if_eq (tgt := 39) hx hb d_X_isKey_32 (by decide) (fun hc32 => ?_) (fun hc32 => ?_)
          · skip
            rw [← nI_0] at hc32
            rw [nI_eq (a := (a - 1) % b) (b := 0) (by omega) (by omega)] at hc32
            refine lv_iconst (v := nI 0) hx hb d_X_isKey_39 (by decide) ?_
            exact pu_zret hx hb hr (by decide) hS d_X_isKey_40 hlocks ((bI_f (by simp only [sp_isK, hc4, hc11, ix_nat ha2, ix_nat hb2, nI_toInt ha2, nI_toInt hb2, Int.toNat_natCast, Bool.true_and, ne_eq, Bool.and_eq_false_iff, decide_eq_false_iff_not]; omega)).symm)
          · skip
            rw [← nI_0] at hc32
            rw [nI_eq (a := (a - 1) % b) (b := 0) (by omega) (by omega)] at hc32
            refine lv_iconst (v := nI 1) hx hb d_X_isKey_35 (by decide) ?_
            refine lv_goto (tgt := 40) hx hb d_X_isKey_36 (by decide) ?_
            exact pu_zret hx hb hr (by decide) hS d_X_isKey_40 hlocks ((bI_t (by simp only [sp_isK, hc4, hc11, ix_nat ha2, ix_nat hb2, nI_toInt ha2, nI_toInt hb2, Int.toNat_natCast, Bool.true_and, ne_eq, Bool.and_eq_true, decide_eq_true_eq]; omega)).symm)
end
section
set_option maxHeartbeats 4000000 in
set_option maxRecDepth 100000 in
theorem c_X_hasKey (l : Launch) (dC : Nat → ClassId) (dI : Nat → Nat → Nat) (h0 q0 : Nat) (cA : ClassId) (p q cx rd cl tt bc : Nat) (g : Nat → Nat) (hn : p * q ≤ 52441) : Met l y_X_hasKey w_X_hasKey ({ frames := 0, cells := 0, slots := 0, locals := 0 }) (va_Pc [.ref h0] (fun U => va_P (dC, dI) classes [(h0, .inr (0, [.int (nI p), .int (nI q), .int (nI (p * q)), .long (lN (p * q * (p * q))), .long (lN (sp_f p q)), .long (lN (sp_inv p q)), .long (lN (sp_cex p q)), .int (nI cx), .int (nI rd), .int (nI cl), .long (lN tt), .int (nI bc), .ref q0])), (q0, .inl (cA, 30, .inr (.inl (fun j => lN (g j)))))] U.heap ∧ va_K (dC, dI) classes [(cA, .long)] U)) (qI (bI (decide (0 < p * q)))) 0 0 (fun _ => False) := by
  refine Met.ofW (cc := b_X_hasKey) (maxL := 1) (ret := some .boolean) (by decide) rfl ?_
  intro pg ev s mi args below meth co s₁ B hml hv
  obtain ⟨rfl, hP, hK⟩ := hv
  have hx := B.exec
  have hb := B.bytes
  have hr := B.returns
  have hts := atoms_spec (ws := w_X_hasKey) B.pre
  have hown : s.vm.findClass R_X = some mi.cls := findClass_of_methodNamed B.named
  have hlocks := B.notSynchronized
  have hS : va_S (fun _ => False) s.heap s.heap [] := va_S.rf
  have hP : va_P (dC, dI) classes [(h0, .inr (0, [.int (nI p), .int (nI q), .int (nI (p * q)), .long (lN (p * q * (p * q))), .long (lN (sp_f p q)), .long (lN (sp_inv p q)), .long (lN (sp_cex p q)), .int (nI cx), .int (nI rd), .int (nI cl), .long (lN tt), .int (nI bc), .ref q0])), (q0, .inl (cA, 30, .inr (.inl (fun j => lN (g j)))))] s.heap := hP
  have hl := lv_entry ([.ref h0]) (n := 1) (Nat.le_of_ble_eq_true rfl)
  rw [lg_entry_eq]
  generalize (lg_sl ([.ref h0]) ++ List.replicate (1 - (lg_sl ([.ref h0])).length) Slot.unset).toArray = ls at hl ⊢
  have hl : lv_has ls 1 [(0, .ref h0)] := hl
  refine lv_aload_n hx hb d_X_hasKey_0 rfl (lv_at hl 0 rfl) ?_
  refine va_get (D := (dC, dI)) (ci := 0) (v := .int (nI (p * q))) (C := R_X) (T := F_X) (N := 13) hx hb hts f_X hown hK hP 0 rfl rfl 2 (by decide) (hts _ (al_m aw_t15)) (fun _ h9 => h9) rfl d_X_hasKey_1 ?_
  refine lv_if_le (tgt := 11) hx hb d_X_hasKey_4 (by decide) (fun hc4 => ?_) (fun hc4 => ?_)
  · skip
    rw [← nI_0] at hc4
    rw [nI_leI (a := p * q) (b := 0) (by omega) (by omega)] at hc4
    refine lv_iconst (v := nI 0) hx hb d_X_hasKey_11 (by decide) ?_
    exact pu_zret hx hb hr (by decide) hS d_X_hasKey_12 hlocks ((bI_f (by simp only [Bool.and_eq_false_iff, decide_eq_false_iff_not]; omega)).symm)
  · skip
    rw [← nI_0] at hc4
    rw [nI_leI (a := p * q) (b := 0) (by omega) (by omega)] at hc4
    refine lv_iconst (v := nI 1) hx hb d_X_hasKey_7 (by decide) ?_
    refine lv_goto (tgt := 12) hx hb d_X_hasKey_8 (by decide) ?_
    exact pu_zret hx hb hr (by decide) hS d_X_hasKey_12 hlocks ((bI_t (by simp only [Bool.and_eq_true, decide_eq_true_eq]; omega)).symm)

set_option maxHeartbeats 4000000 in
set_option maxRecDepth 100000 in
theorem c_X_hasBox (l : Launch) (dC : Nat → ClassId) (dI : Nat → Nat → Nat) (h0 q0 : Nat) (cA : ClassId) (p q cx rd cl tt bc : Nat) (g : Nat → Nat) (hcx : cx ≤ 6) : Met l y_X_hasBox w_X_hasBox ({ frames := 0, cells := 0, slots := 0, locals := 0 }) (va_Pc [.ref h0] (fun U => va_P (dC, dI) classes [(h0, .inr (0, [.int (nI p), .int (nI q), .int (nI (p * q)), .long (lN (p * q * (p * q))), .long (lN (sp_f p q)), .long (lN (sp_inv p q)), .long (lN (sp_cex p q)), .int (nI cx), .int (nI rd), .int (nI cl), .long (lN tt), .int (nI bc), .ref q0])), (q0, .inl (cA, 30, .inr (.inl (fun j => lN (g j)))))] U.heap ∧ va_K (dC, dI) classes [(cA, .long)] U)) (qI (bI (decide (0 < cx)))) 0 0 (fun _ => False) := by
  refine Met.ofW (cc := b_X_hasBox) (maxL := 1) (ret := some .boolean) (by decide) rfl ?_
  intro pg ev s mi args below meth co s₁ B hml hv
  obtain ⟨rfl, hP, hK⟩ := hv
  have hx := B.exec
  have hb := B.bytes
  have hr := B.returns
  have hts := atoms_spec (ws := w_X_hasBox) B.pre
  have hown : s.vm.findClass R_X = some mi.cls := findClass_of_methodNamed B.named
  have hlocks := B.notSynchronized
  have hS : va_S (fun _ => False) s.heap s.heap [] := va_S.rf
  have hP : va_P (dC, dI) classes [(h0, .inr (0, [.int (nI p), .int (nI q), .int (nI (p * q)), .long (lN (p * q * (p * q))), .long (lN (sp_f p q)), .long (lN (sp_inv p q)), .long (lN (sp_cex p q)), .int (nI cx), .int (nI rd), .int (nI cl), .long (lN tt), .int (nI bc), .ref q0])), (q0, .inl (cA, 30, .inr (.inl (fun j => lN (g j)))))] s.heap := hP
  have hl := lv_entry ([.ref h0]) (n := 1) (Nat.le_of_ble_eq_true rfl)
  rw [lg_entry_eq]
  generalize (lg_sl ([.ref h0]) ++ List.replicate (1 - (lg_sl ([.ref h0])).length) Slot.unset).toArray = ls at hl ⊢
  have hl : lv_has ls 1 [(0, .ref h0)] := hl
  refine lv_aload_n hx hb d_X_hasBox_0 rfl (lv_at hl 0 rfl) ?_
  refine va_get (D := (dC, dI)) (ci := 0) (v := .int (nI cx)) (C := R_X) (T := F_X) (N := 13) hx hb hts f_X hown hK hP 0 rfl rfl 7 (by decide) (hts _ (al_m aw_t20)) (fun _ h9 => h9) rfl d_X_hasBox_1 ?_
  refine lv_if_le (tgt := 11) hx hb d_X_hasBox_4 (by decide) (fun hc4 => ?_) (fun hc4 => ?_)
  · skip
    rw [← nI_0] at hc4
    rw [nI_leI (a := cx) (b := 0) (by omega) (by omega)] at hc4
    refine lv_iconst (v := nI 0) hx hb d_X_hasBox_11 (by decide) ?_
    exact pu_zret hx hb hr (by decide) hS d_X_hasBox_12 hlocks ((bI_f (by simp only [Bool.and_eq_false_iff, decide_eq_false_iff_not]; omega)).symm)
  · skip
    rw [← nI_0] at hc4
    rw [nI_leI (a := cx) (b := 0) (by omega) (by omega)] at hc4
    refine lv_iconst (v := nI 1) hx hb d_X_hasBox_7 (by decide) ?_
    refine lv_goto (tgt := 12) hx hb d_X_hasBox_8 (by decide) ?_
    exact pu_zret hx hb hr (by decide) hS d_X_hasBox_12 hlocks ((bI_t (by simp only [Bool.and_eq_true, decide_eq_true_eq]; omega)).symm)

set_option maxHeartbeats 4000000 in
set_option maxRecDepth 100000 in
theorem c_X_isMessage (l : Launch) (dC : Nat → ClassId) (dI : Nat → Nat → Nat) (h0 q0 : Nat) (cA : ClassId) (p q cx rd cl tt bc : Nat) (g : Nat → Nat) (x : Int64) (hn : p * q ≤ 52441) : Met l y_X_isMessage w_X_isMessage ({ frames := 0, cells := 0, slots := 0, locals := 0 }) (va_Pc [.ref h0, .long x] (fun U => va_P (dC, dI) classes [(h0, .inr (0, [.int (nI p), .int (nI q), .int (nI (p * q)), .long (lN (p * q * (p * q))), .long (lN (sp_f p q)), .long (lN (sp_inv p q)), .long (lN (sp_cex p q)), .int (nI cx), .int (nI rd), .int (nI cl), .long (lN tt), .int (nI bc), .ref q0])), (q0, .inl (cA, 30, .inr (.inl (fun j => lN (g j)))))] U.heap ∧ va_K (dC, dI) classes [(cA, .long)] U)) (qI (bI (sp_isM p q x))) 0 0 (fun _ => False) := by
  refine Met.ofW (cc := b_X_isMessage) (maxL := 3) (ret := some .boolean) (by decide) rfl ?_
  intro pg ev s mi args below meth co s₁ B hml hv
  obtain ⟨rfl, hP, hK⟩ := hv
  have hx := B.exec
  have hb := B.bytes
  have hr := B.returns
  have hts := atoms_spec (ws := w_X_isMessage) B.pre
  have hown : s.vm.findClass R_X = some mi.cls := findClass_of_methodNamed B.named
  have hlocks := B.notSynchronized
  have hS : va_S (fun _ => False) s.heap s.heap [] := va_S.rf
  have hP : va_P (dC, dI) classes [(h0, .inr (0, [.int (nI p), .int (nI q), .int (nI (p * q)), .long (lN (p * q * (p * q))), .long (lN (sp_f p q)), .long (lN (sp_inv p q)), .long (lN (sp_cex p q)), .int (nI cx), .int (nI rd), .int (nI cl), .long (lN tt), .int (nI bc), .ref q0])), (q0, .inl (cA, 30, .inr (.inl (fun j => lN (g j)))))] s.heap := hP
  have hl := lv_entry ([.ref h0, .long x]) (n := 3) (Nat.le_of_ble_eq_true rfl)
  rw [lg_entry_eq]
  generalize (lg_sl ([.ref h0, .long x]) ++ List.replicate (3 - (lg_sl ([.ref h0, .long x])).length) Slot.unset).toArray = ls at hl ⊢
  have hl : lv_has ls 3 [(0, .ref h0), (1, .long x)] := hl
  refine lv_lload_n hx hb d_X_isMessage_0 rfl (lv_at hl 1 rfl) ?_
  refine lv_lconst (v := lN 0) hx hb d_X_isMessage_1 rfl ?_
  refine W.lcmp hx hb d_X_isMessage_2 ?_
  refine lv_if_lt (tgt := 20) hx hb d_X_isMessage_3 (by decide) (fun hc3 => ?_) (fun hc3 => ?_)
  · skip
    rw [lg_cmp_lt] at hc3
    rw [lx_lt (x := x) (n := 0) (by omega)] at hc3
    refine lv_iconst (v := nI 0) hx hb d_X_isMessage_20 (by decide) ?_
    exact pu_zret hx hb hr (by decide) hS d_X_isMessage_21 hlocks ((bI_f (by simp only [sp_isM, Bool.and_eq_false_iff, decide_eq_false_iff_not]; omega)).symm)
  · skip
    rw [lg_cmp_lt] at hc3
    rw [lx_lt (x := x) (n := 0) (by omega)] at hc3
    refine lv_lload_n hx hb d_X_isMessage_6 rfl (lv_at hl 1 rfl) ?_
    refine lv_aload_n hx hb d_X_isMessage_7 rfl (lv_at hl 0 rfl) ?_
    refine va_get (D := (dC, dI)) (ci := 0) (v := .int (nI (p * q))) (C := R_X) (T := F_X) (N := 13) hx hb hts f_X hown hK hP 0 rfl rfl 2 (by decide) (hts _ (al_m aw_t15)) (fun _ h9 => h9) rfl d_X_isMessage_8 ?_
    refine lv_i2l (v := lN (p * q)) hx hb d_X_isMessage_11 (nI_l (by omega)) ?_
    refine W.lcmp hx hb d_X_isMessage_12 ?_
    refine lv_if_ge (tgt := 20) hx hb d_X_isMessage_13 (by decide) (fun hc13 => ?_) (fun hc13 => ?_)
    · skip
      rw [lg_cmp_ge] at hc13
      rw [lx_le (x := x) (n := p * q) (by omega)] at hc13
      refine lv_iconst (v := nI 0) hx hb d_X_isMessage_20 (by decide) ?_
      exact pu_zret hx hb hr (by decide) hS d_X_isMessage_21 hlocks ((bI_f (by simp only [sp_isM, Bool.and_eq_false_iff, decide_eq_false_iff_not]; omega)).symm)
    · skip
      rw [lg_cmp_ge] at hc13
      rw [lx_le (x := x) (n := p * q) (by omega)] at hc13
      refine lv_iconst (v := nI 1) hx hb d_X_isMessage_16 (by decide) ?_
      refine lv_goto (tgt := 21) hx hb d_X_isMessage_17 (by decide) ?_
      exact pu_zret hx hb hr (by decide) hS d_X_isMessage_21 hlocks ((bI_t (by simp only [sp_isM, Bool.and_eq_true, decide_eq_true_eq]; omega)).symm)

set_option maxHeartbeats 4000000 in
set_option maxRecDepth 100000 in
theorem c_X_isCandidate (l : Launch) (dC : Nat → ClassId) (dI : Nat → Nat → Nat) (h0 q0 : Nat) (cA : ClassId) (p q cx rd cl tt bc : Nat) (g : Nat → Nat) (x : Int32) (hcx : cx ≤ 6) : Met l y_X_isCandidate w_X_isCandidate ({ frames := 0, cells := 0, slots := 0, locals := 0 }) (va_Pc [.ref h0, .int x] (fun U => va_P (dC, dI) classes [(h0, .inr (0, [.int (nI p), .int (nI q), .int (nI (p * q)), .long (lN (p * q * (p * q))), .long (lN (sp_f p q)), .long (lN (sp_inv p q)), .long (lN (sp_cex p q)), .int (nI cx), .int (nI rd), .int (nI cl), .long (lN tt), .int (nI bc), .ref q0])), (q0, .inl (cA, 30, .inr (.inl (fun j => lN (g j)))))] U.heap ∧ va_K (dC, dI) classes [(cA, .long)] U)) (qI (bI (sp_cand cx x))) 0 0 (fun _ => False) := by
  refine Met.ofW (cc := b_X_isCandidate) (maxL := 2) (ret := some .boolean) (by decide) rfl ?_
  intro pg ev s mi args below meth co s₁ B hml hv
  obtain ⟨rfl, hP, hK⟩ := hv
  have hx := B.exec
  have hb := B.bytes
  have hr := B.returns
  have hts := atoms_spec (ws := w_X_isCandidate) B.pre
  have hown : s.vm.findClass R_X = some mi.cls := findClass_of_methodNamed B.named
  have hlocks := B.notSynchronized
  have hS : va_S (fun _ => False) s.heap s.heap [] := va_S.rf
  have hP : va_P (dC, dI) classes [(h0, .inr (0, [.int (nI p), .int (nI q), .int (nI (p * q)), .long (lN (p * q * (p * q))), .long (lN (sp_f p q)), .long (lN (sp_inv p q)), .long (lN (sp_cex p q)), .int (nI cx), .int (nI rd), .int (nI cl), .long (lN tt), .int (nI bc), .ref q0])), (q0, .inl (cA, 30, .inr (.inl (fun j => lN (g j)))))] s.heap := hP
  have hl := lv_entry ([.ref h0, .int x]) (n := 2) (Nat.le_of_ble_eq_true rfl)
  rw [lg_entry_eq]
  generalize (lg_sl ([.ref h0, .int x]) ++ List.replicate (2 - (lg_sl ([.ref h0, .int x])).length) Slot.unset).toArray = ls at hl ⊢
  have hl : lv_has ls 2 [(0, .ref h0), (1, .int x)] := hl
  refine lv_iload_n hx hb d_X_isCandidate_0 rfl (lv_at hl 1 rfl) ?_
  refine lv_if_lt (tgt := 16) hx hb d_X_isCandidate_1 (by decide) (fun hc1 => ?_) (fun hc1 => ?_)
  · skip
    rw [← nI_0] at hc1
    rw [ix_lt (x := x) (n := 0) (by omega)] at hc1
    refine lv_iconst (v := nI 0) hx hb d_X_isCandidate_16 (by decide) ?_
    exact pu_zret hx hb hr (by decide) hS d_X_isCandidate_17 hlocks ((bI_f (by simp only [sp_cand, Bool.and_eq_false_iff, decide_eq_false_iff_not]; omega)).symm)
  · skip
    rw [← nI_0] at hc1
    rw [ix_lt (x := x) (n := 0) (by omega)] at hc1
    refine lv_iload_n hx hb d_X_isCandidate_4 rfl (lv_at hl 1 rfl) ?_
    refine lv_aload_n hx hb d_X_isCandidate_5 rfl (lv_at hl 0 rfl) ?_
    refine va_get (D := (dC, dI)) (ci := 0) (v := .int (nI cx)) (C := R_X) (T := F_X) (N := 13) hx hb hts f_X hown hK hP 0 rfl rfl 7 (by decide) (hts _ (al_m aw_t20)) (fun _ h9 => h9) rfl d_X_isCandidate_6 ?_
    refine lv_icmp_ge (tgt := 16) hx hb d_X_isCandidate_9 (by decide) (fun hc9 => ?_) (fun hc9 => ?_)
    · skip
      rw [ix_le (x := x) (n := cx) (by omega)] at hc9
      refine lv_iconst (v := nI 0) hx hb d_X_isCandidate_16 (by decide) ?_
      exact pu_zret hx hb hr (by decide) hS d_X_isCandidate_17 hlocks ((bI_f (by simp only [sp_cand, Bool.and_eq_false_iff, decide_eq_false_iff_not]; omega)).symm)
    · skip
      rw [ix_le (x := x) (n := cx) (by omega)] at hc9
      refine lv_iconst (v := nI 1) hx hb d_X_isCandidate_12 (by decide) ?_
      refine lv_goto (tgt := 17) hx hb d_X_isCandidate_13 (by decide) ?_
      exact pu_zret hx hb hr (by decide) hS d_X_isCandidate_17 hlocks ((bI_t (by simp only [sp_cand, Bool.and_eq_true, decide_eq_true_eq]; omega)).symm)

set_option maxHeartbeats 4000000 in
set_option maxRecDepth 100000 in
theorem c_X_isVoter (l : Launch) (x : Int32)  : Met l y_X_isVoter w_X_isVoter ({ frames := 0, cells := 0, slots := 0, locals := 0 }) (va_Pc [.int x] (fun _ => True)) (qI (bI (sp_cand 30 x))) 0 0 (fun _ => False) := by
  refine Met.ofW (cc := b_X_isVoter) (maxL := 1) (ret := some .boolean) (by decide) rfl ?_
  intro pg ev s mi args below meth co s₁ B hml hv
  obtain ⟨rfl, -⟩ := hv
  have hx := B.exec
  have hb := B.bytes
  have hr := B.returns
  have hts := atoms_spec (ws := w_X_isVoter) B.pre
  have hown : s.vm.findClass R_X = some mi.cls := findClass_of_methodNamed B.named
  have hlocks := B.notSynchronized
  have hS : va_S (fun _ => False) s.heap s.heap [] := va_S.rf
  have hl := lv_entry ([.int x]) (n := 1) (Nat.le_of_ble_eq_true rfl)
  rw [lg_entry_eq]
  generalize (lg_sl ([.int x]) ++ List.replicate (1 - (lg_sl ([.int x])).length) Slot.unset).toArray = ls at hl ⊢
  have hl : lv_has ls 1 [(0, .int x)] := hl
  refine lv_iload_n hx hb d_X_isVoter_0 rfl (lv_at hl 0 rfl) ?_
  refine lv_if_lt (tgt := 14) hx hb d_X_isVoter_1 (by decide) (fun hc1 => ?_) (fun hc1 => ?_)
  · skip
    rw [← nI_0] at hc1
    rw [ix_lt (x := x) (n := 0) (by omega)] at hc1
    refine lv_iconst (v := nI 0) hx hb d_X_isVoter_14 (by decide) ?_
    exact pu_zret hx hb hr (by decide) hS d_X_isVoter_15 hlocks ((bI_f (by simp only [sp_cand, Bool.and_eq_false_iff, decide_eq_false_iff_not]; omega)).symm)
  · skip
    rw [← nI_0] at hc1
    rw [ix_lt (x := x) (n := 0) (by omega)] at hc1
    refine lv_iload_n hx hb d_X_isVoter_4 rfl (lv_at hl 0 rfl) ?_
    refine lv_bipush (v := nI 30) hx hb d_X_isVoter_5 (by decide) ?_
    refine lv_icmp_ge (tgt := 14) hx hb d_X_isVoter_7 (by decide) (fun hc7 => ?_) (fun hc7 => ?_)
    · skip
      rw [ix_le (x := x) (n := 30) (by omega)] at hc7
      refine lv_iconst (v := nI 0) hx hb d_X_isVoter_14 (by decide) ?_
      exact pu_zret hx hb hr (by decide) hS d_X_isVoter_15 hlocks ((bI_f (by simp only [sp_cand, Bool.and_eq_false_iff, decide_eq_false_iff_not]; omega)).symm)
    · skip
      rw [ix_le (x := x) (n := 30) (by omega)] at hc7
      refine lv_iconst (v := nI 1) hx hb d_X_isVoter_10 (by decide) ?_
      refine lv_goto (tgt := 15) hx hb d_X_isVoter_11 (by decide) ?_
      exact pu_zret hx hb hr (by decide) hS d_X_isVoter_15 hlocks ((bI_t (by simp only [sp_cand, Bool.and_eq_true, decide_eq_true_eq]; omega)).symm)

set_option maxHeartbeats 4000000 in
set_option maxRecDepth 100000 in
theorem c_X_sharesNoFactor (l : Launch) (dC : Nat → ClassId) (dI : Nat → Nat → Nat) (h0 q0 : Nat) (cA : ClassId) (p q cx rd cl tt bc : Nat) (g : Nat → Nat) (k : Nat) (hk : ma_K p q) (hkk : k < 2 ^ 63) : Met l y_X_sharesNoFactor w_X_sharesNoFactor ({ frames := 1, cells := 0, slots := 0, locals := 20 }) (va_Pc [.ref h0, .long (lN k)] (fun U => va_P (dC, dI) classes [(h0, .inr (0, [.int (nI p), .int (nI q), .int (nI (p * q)), .long (lN (p * q * (p * q))), .long (lN (sp_f p q)), .long (lN (sp_inv p q)), .long (lN (sp_cex p q)), .int (nI cx), .int (nI rd), .int (nI cl), .long (lN tt), .int (nI bc), .ref q0])), (q0, .inl (cA, 30, .inr (.inl (fun j => lN (g j)))))] U.heap ∧ va_K (dC, dI) classes [(cA, .long)] U)) (qI (bI (sp_un p q k))) 0 0 (fun _ => False) := by
  refine Met.ofW (cc := b_X_sharesNoFactor) (maxL := 3) (ret := some .boolean) (by decide) rfl ?_
  intro pg ev s mi args below meth co s₁ B hml hv
  obtain ⟨rfl, hP, hK⟩ := hv
  have hx := B.exec
  have hb := B.bytes
  have hr := B.returns
  have hts := atoms_spec (ws := w_X_sharesNoFactor) B.pre
  have hown : s.vm.findClass R_X = some mi.cls := findClass_of_methodNamed B.named
  have hlocks := B.notSynchronized
  have hS : va_S (fun _ => False) s.heap s.heap [] := va_S.rf
  have hP : va_P (dC, dI) classes [(h0, .inr (0, [.int (nI p), .int (nI q), .int (nI (p * q)), .long (lN (p * q * (p * q))), .long (lN (sp_f p q)), .long (lN (sp_inv p q)), .long (lN (sp_cex p q)), .int (nI cx), .int (nI rd), .int (nI cl), .long (lN tt), .int (nI bc), .ref q0])), (q0, .inl (cA, 30, .inr (.inl (fun j => lN (g j)))))] s.heap := hP
  have hl := lv_entry ([.ref h0, .long (lN k)]) (n := 3) (Nat.le_of_ble_eq_true rfl)
  rw [lg_entry_eq]
  generalize (lg_sl ([.ref h0, .long (lN k)]) ++ List.replicate (3 - (lg_sl ([.ref h0, .long (lN k)])).length) Slot.unset).toArray = ls at hl ⊢
  have hl : lv_has ls 3 [(0, .ref h0), (1, .long (lN k))] := hl
  have hbg := ma_big hk
  have hp3 := hk.1.1
  have hq3 := hk.2.1.1
  have hp9 := hk.1.2.1
  have hq9 := hk.2.1.2.1
  have hkf := ma_keyf hk
  refine lv_aload_n hx hb d_X_sharesNoFactor_0 rfl (lv_at hl 0 rfl) ?_
  refine pu_i (va_runV (As := []) (rest := []) ⟨hx, hb, hml, hown, hts⟩ (c_X_hasKey l dC dI h0 q0 cA p q cx rd cl tt bc g (by omega)) (cwV 0 hts (al_V (k_X_hasKey) (aw_t75) (aw_t77) (aw_p0) (aw_t1)) rfl rfl rfl (by decide +kernel) ⟨Nat.le_of_ble_eq_true rfl, Nat.le_of_ble_eq_true rfl⟩) (pu_preV (q0 := 0) (ci := 0) hK hP rfl rfl) rfl rfl hl.1 rfl (lv_room (Nat.le_of_ble_eq_true rfl)) d_X_sharesNoFactor_1 ⟨Nat.zero_le _, Nat.zero_le _⟩) hS (fun H locs hkp hS => ?_)
  have hP := hkp _ _ _ hP
  refine lv_if_eq (tgt := 35) hx hb d_X_sharesNoFactor_4 (by decide) (fun hc4 => ?_) (fun hc4 => ?_)
  · skip
    rw [bI_0] at hc4
    exact absurd (of_decide_eq_false hc4) (by omega)
  · skip
    rw [bI_0] at hc4
    rw [Bool.not_eq_false] at hc4
    refine lv_lload_n hx hb d_X_sharesNoFactor_7 rfl (lv_at hl 1 rfl) ?_
    refine lv_aload_n hx hb d_X_sharesNoFactor_8 rfl (lv_at hl 0 rfl) ?_
    refine va_get (D := (dC, dI)) (ci := 0) (v := .int (nI p)) (C := R_X) (T := F_X) (N := 13) hx hb hts f_X hown hK hP 0 rfl rfl 0 (by decide) (hts _ (al_m aw_t13)) (fun _ h9 => h9) rfl d_X_sharesNoFactor_9 ?_
    refine lv_i2l (v := lN p) hx hb d_X_sharesNoFactor_12 (nI_l (by omega)) ?_
    refine lv_lrem hx hb d_X_sharesNoFactor_13 (lN_ne0 (by omega) (by omega)) ?_
    refine wk_l (y := lN (k % p)) (pk_lRem (by omega) (by omega) (by omega)) ?_
    have hm13 := Nat.mod_le k p
    refine lv_lconst (v := lN 0) hx hb d_X_sharesNoFactor_14 rfl ?_
    refine W.lcmp hx hb d_X_sharesNoFactor_15 ?_
    refine lv_if_eq (tgt := 35) hx hb d_X_sharesNoFactor_16 (by decide) (fun hc16 => ?_) (fun hc16 => ?_)
    · skip
      rw [lg_cmp_eq] at hc16
      rw [pk_lEQ (a := k % p) (b := 0) (by omega) (by omega)] at hc16
      refine lv_iconst (v := nI 0) hx hb d_X_sharesNoFactor_35 (by decide) ?_
      exact pu_zret hx hb hr (by decide) hS d_X_sharesNoFactor_36 hlocks ((bI_f (by simp only [sp_un, ne_eq, Bool.and_eq_false_iff, decide_eq_false_iff_not]; omega)).symm)
    · skip
      rw [lg_cmp_eq] at hc16
      rw [pk_lEQ (a := k % p) (b := 0) (by omega) (by omega)] at hc16
      refine lv_lload_n hx hb d_X_sharesNoFactor_19 rfl (lv_at hl 1 rfl) ?_
      refine lv_aload_n hx hb d_X_sharesNoFactor_20 rfl (lv_at hl 0 rfl) ?_
      refine va_get (D := (dC, dI)) (ci := 0) (v := .int (nI q)) (C := R_X) (T := F_X) (N := 13) hx hb hts f_X hown hK hP 0 rfl rfl 1 (by decide) (hts _ (al_m aw_t14)) (fun _ h9 => h9) rfl d_X_sharesNoFactor_21 ?_
      refine lv_i2l (v := lN q) hx hb d_X_sharesNoFactor_24 (nI_l (by omega)) ?_
      refine lv_lrem hx hb d_X_sharesNoFactor_25 (lN_ne0 (by omega) (by omega)) ?_
      refine wk_l (y := lN (k % q)) (pk_lRem (by omega) (by omega) (by omega)) ?_
      have hm25 := Nat.mod_le k q
      refine lv_lconst (v := lN 0) hx hb d_X_sharesNoFactor_26 rfl ?_
      refine W.lcmp hx hb d_X_sharesNoFactor_27 ?_
      refine lv_if_eq (tgt := 35) hx hb d_X_sharesNoFactor_28 (by decide) (fun hc28 => ?_) (fun hc28 => ?_)
      · skip
        rw [lg_cmp_eq] at hc28
        rw [pk_lEQ (a := k % q) (b := 0) (by omega) (by omega)] at hc28
        refine lv_iconst (v := nI 0) hx hb d_X_sharesNoFactor_35 (by decide) ?_
        exact pu_zret hx hb hr (by decide) hS d_X_sharesNoFactor_36 hlocks ((bI_f (by simp only [sp_un, ne_eq, Bool.and_eq_false_iff, decide_eq_false_iff_not]; omega)).symm)
      · skip
        rw [lg_cmp_eq] at hc28
        rw [pk_lEQ (a := k % q) (b := 0) (by omega) (by omega)] at hc28
        refine lv_iconst (v := nI 1) hx hb d_X_sharesNoFactor_31 (by decide) ?_
        refine lv_goto (tgt := 36) hx hb d_X_sharesNoFactor_32 (by decide) ?_
        exact pu_zret hx hb hr (by decide) hS d_X_sharesNoFactor_36 hlocks ((bI_t (by simp only [sp_un, ne_eq, Bool.and_eq_true, decide_eq_true_eq]; omega)).symm)

set_option maxHeartbeats 4000000 in
set_option maxRecDepth 100000 in
theorem c_X_isCoin (l : Launch) (dC : Nat → ClassId) (dI : Nat → Nat → Nat) (h0 q0 : Nat) (cA : ClassId) (p q cx rd cl tt bc : Nat) (g : Nat → Nat) (x : Int64) (hk : ma_K p q) : Met l y_X_isCoin w_X_isCoin ({ frames := 2, cells := 0, slots := 0, locals := 42 }) (va_Pc [.ref h0, .long x] (fun U => va_P (dC, dI) classes [(h0, .inr (0, [.int (nI p), .int (nI q), .int (nI (p * q)), .long (lN (p * q * (p * q))), .long (lN (sp_f p q)), .long (lN (sp_inv p q)), .long (lN (sp_cex p q)), .int (nI cx), .int (nI rd), .int (nI cl), .long (lN tt), .int (nI bc), .ref q0])), (q0, .inl (cA, 30, .inr (.inl (fun j => lN (g j)))))] U.heap ∧ va_K (dC, dI) classes [(cA, .long)] U)) (qI (bI (sp_isC p q x))) 0 0 (fun _ => False) := by
  refine Met.ofW (cc := b_X_isCoin) (maxL := 3) (ret := some .boolean) (by decide) rfl ?_
  intro pg ev s mi args below meth co s₁ B hml hv
  obtain ⟨rfl, hP, hK⟩ := hv
  have hx := B.exec
  have hb := B.bytes
  have hr := B.returns
  have hts := atoms_spec (ws := w_X_isCoin) B.pre
  have hown : s.vm.findClass R_X = some mi.cls := findClass_of_methodNamed B.named
  have hlocks := B.notSynchronized
  have hS : va_S (fun _ => False) s.heap s.heap [] := va_S.rf
  have hP : va_P (dC, dI) classes [(h0, .inr (0, [.int (nI p), .int (nI q), .int (nI (p * q)), .long (lN (p * q * (p * q))), .long (lN (sp_f p q)), .long (lN (sp_inv p q)), .long (lN (sp_cex p q)), .int (nI cx), .int (nI rd), .int (nI cl), .long (lN tt), .int (nI bc), .ref q0])), (q0, .inl (cA, 30, .inr (.inl (fun j => lN (g j)))))] s.heap := hP
  have hl := lv_entry ([.ref h0, .long x]) (n := 3) (Nat.le_of_ble_eq_true rfl)
  rw [lg_entry_eq]
  generalize (lg_sl ([.ref h0, .long x]) ++ List.replicate (3 - (lg_sl ([.ref h0, .long x])).length) Slot.unset).toArray = ls at hl ⊢
  have hl : lv_has ls 3 [(0, .ref h0), (1, .long x)] := hl
  have hbg := ma_big hk
  have hp3 := hk.1.1
  have hq3 := hk.2.1.1
  have hp9 := hk.1.2.1
  have hq9 := hk.2.1.2.1
  have hkf := ma_keyf hk
  refine lv_lload_n hx hb d_X_isCoin_0 rfl (lv_at hl 1 rfl) ?_
  refine lv_lconst (v := lN 1) hx hb d_X_isCoin_1 rfl ?_
  refine W.lcmp hx hb d_X_isCoin_2 ?_
  refine lv_if_lt (tgt := 28) hx hb d_X_isCoin_3 (by decide) (fun hc3 => ?_) (fun hc3 => ?_)
  · skip
    rw [lg_cmp_lt] at hc3
    rw [lx_lt (x := x) (n := 1) (by omega)] at hc3
    refine lv_iconst (v := nI 0) hx hb d_X_isCoin_28 (by decide) ?_
    exact pu_zret hx hb hr (by decide) hS d_X_isCoin_29 hlocks ((bI_f (by simp only [sp_isC, Bool.and_eq_false_iff, decide_eq_false_iff_not]; omega)).symm)
  · skip
    rw [lg_cmp_lt] at hc3
    rw [lx_lt (x := x) (n := 1) (by omega)] at hc3
    refine lv_lload_n hx hb d_X_isCoin_6 rfl (lv_at hl 1 rfl) ?_
    refine lv_aload_n hx hb d_X_isCoin_7 rfl (lv_at hl 0 rfl) ?_
    refine va_get (D := (dC, dI)) (ci := 0) (v := .int (nI (p * q))) (C := R_X) (T := F_X) (N := 13) hx hb hts f_X hown hK hP 0 rfl rfl 2 (by decide) (hts _ (al_m aw_t15)) (fun _ h9 => h9) rfl d_X_isCoin_8 ?_
    refine lv_i2l (v := lN (p * q)) hx hb d_X_isCoin_11 (nI_l (by omega)) ?_
    refine W.lcmp hx hb d_X_isCoin_12 ?_
    refine lv_if_ge (tgt := 28) hx hb d_X_isCoin_13 (by decide) (fun hc13 => ?_) (fun hc13 => ?_)
    · skip
      rw [lg_cmp_ge] at hc13
      rw [lx_le (x := x) (n := p * q) (by omega)] at hc13
      refine lv_iconst (v := nI 0) hx hb d_X_isCoin_28 (by decide) ?_
      exact pu_zret hx hb hr (by decide) hS d_X_isCoin_29 hlocks ((bI_f (by simp only [sp_isC, Bool.and_eq_false_iff, decide_eq_false_iff_not]; omega)).symm)
    · skip
      rw [lg_cmp_ge] at hc13
      rw [lx_le (x := x) (n := p * q) (by omega)] at hc13
      obtain ⟨k, hkk, rfl⟩ := lx_of (x := x) (by omega)
      rw [pk_lT hkk] at hc3 hc13
      refine lv_aload_n hx hb d_X_isCoin_16 rfl (lv_at hl 0 rfl) ?_
      refine lv_lload_n hx hb d_X_isCoin_17 rfl (lv_at hl 1 rfl) ?_
      refine pu_i (va_runV (As := [.long (lN k)]) (rest := []) ⟨hx, hb, hml, hown, hts⟩ (c_X_sharesNoFactor l dC dI h0 q0 cA p q cx rd cl tt bc g k hk hkk) (cwV 1 hts (al_V (k_X_sharesNoFactor) (aw_t88) (aw_t90) (aw_p3) (aw_t1)) rfl rfl rfl (by decide +kernel) ⟨Nat.le_of_ble_eq_true rfl, Nat.le_of_ble_eq_true rfl⟩) (pu_preV (q0 := 0) (ci := 0) hK hP rfl rfl) rfl rfl hl.1 rfl (lv_room (Nat.le_of_ble_eq_true rfl)) d_X_isCoin_18 ⟨Nat.zero_le _, Nat.zero_le _⟩) hS (fun H locs hkp hS => ?_)
      have hP := hkp _ _ _ hP
      refine lv_if_eq (tgt := 28) hx hb d_X_isCoin_21 (by decide) (fun hc21 => ?_) (fun hc21 => ?_)
      · skip
        rw [bI_0] at hc21
        refine lv_iconst (v := nI 0) hx hb d_X_isCoin_28 (by decide) ?_
        exact pu_zret hx hb hr (by decide) hS d_X_isCoin_29 hlocks ((bI_f (by simp only [sp_isC, lx_nat hkk, pk_lT hkk, Int.toNat_natCast, hc21, Bool.and_false])).symm)
      · skip
        rw [bI_0] at hc21
        rw [Bool.not_eq_false] at hc21
        refine lv_iconst (v := nI 1) hx hb d_X_isCoin_24 (by decide) ?_
        refine lv_goto (tgt := 29) hx hb d_X_isCoin_25 (by decide) ?_
        exact pu_zret hx hb hr (by decide) hS d_X_isCoin_29 hlocks ((bI_t (by simp only [sp_isC, lx_nat hkk, pk_lT hkk, Int.toNat_natCast, hc21, Bool.and_eq_true, decide_eq_true_eq, and_true]; omega)).symm)

set_option maxHeartbeats 4000000 in
set_option maxRecDepth 100000 in
theorem c_X_isSeal (l : Launch) (dC : Nat → ClassId) (dI : Nat → Nat → Nat) (h0 q0 : Nat) (cA : ClassId) (p q cx rd cl tt bc : Nat) (g : Nat → Nat) (x : Int64) (hk : ma_K p q) : Met l y_X_isSeal w_X_isSeal ({ frames := 2, cells := 0, slots := 0, locals := 42 }) (va_Pc [.ref h0, .long x] (fun U => va_P (dC, dI) classes [(h0, .inr (0, [.int (nI p), .int (nI q), .int (nI (p * q)), .long (lN (p * q * (p * q))), .long (lN (sp_f p q)), .long (lN (sp_inv p q)), .long (lN (sp_cex p q)), .int (nI cx), .int (nI rd), .int (nI cl), .long (lN tt), .int (nI bc), .ref q0])), (q0, .inl (cA, 30, .inr (.inl (fun j => lN (g j)))))] U.heap ∧ va_K (dC, dI) classes [(cA, .long)] U)) (qI (bI (sp_isS p q x))) 0 0 (fun _ => False) := by
  refine Met.ofW (cc := b_X_isSeal) (maxL := 3) (ret := some .boolean) (by decide) rfl ?_
  intro pg ev s mi args below meth co s₁ B hml hv
  obtain ⟨rfl, hP, hK⟩ := hv
  have hx := B.exec
  have hb := B.bytes
  have hr := B.returns
  have hts := atoms_spec (ws := w_X_isSeal) B.pre
  have hown : s.vm.findClass R_X = some mi.cls := findClass_of_methodNamed B.named
  have hlocks := B.notSynchronized
  have hS : va_S (fun _ => False) s.heap s.heap [] := va_S.rf
  have hP : va_P (dC, dI) classes [(h0, .inr (0, [.int (nI p), .int (nI q), .int (nI (p * q)), .long (lN (p * q * (p * q))), .long (lN (sp_f p q)), .long (lN (sp_inv p q)), .long (lN (sp_cex p q)), .int (nI cx), .int (nI rd), .int (nI cl), .long (lN tt), .int (nI bc), .ref q0])), (q0, .inl (cA, 30, .inr (.inl (fun j => lN (g j)))))] s.heap := hP
  have hl := lv_entry ([.ref h0, .long x]) (n := 3) (Nat.le_of_ble_eq_true rfl)
  rw [lg_entry_eq]
  generalize (lg_sl ([.ref h0, .long x]) ++ List.replicate (3 - (lg_sl ([.ref h0, .long x])).length) Slot.unset).toArray = ls at hl ⊢
  have hl : lv_has ls 3 [(0, .ref h0), (1, .long x)] := hl
  have hbg := ma_big hk
  have hp3 := hk.1.1
  have hq3 := hk.2.1.1
  have hp9 := hk.1.2.1
  have hq9 := hk.2.1.2.1
  have hkf := ma_keyf hk
  refine lv_lload_n hx hb d_X_isSeal_0 rfl (lv_at hl 1 rfl) ?_
  refine lv_lconst (v := lN 1) hx hb d_X_isSeal_1 rfl ?_
  refine W.lcmp hx hb d_X_isSeal_2 ?_
  refine lv_if_lt (tgt := 27) hx hb d_X_isSeal_3 (by decide) (fun hc3 => ?_) (fun hc3 => ?_)
  · skip
    rw [lg_cmp_lt] at hc3
    rw [lx_lt (x := x) (n := 1) (by omega)] at hc3
    refine lv_iconst (v := nI 0) hx hb d_X_isSeal_27 (by decide) ?_
    exact pu_zret hx hb hr (by decide) hS d_X_isSeal_28 hlocks ((bI_f (by simp only [sp_isS, Bool.and_eq_false_iff, decide_eq_false_iff_not]; omega)).symm)
  · skip
    rw [lg_cmp_lt] at hc3
    rw [lx_lt (x := x) (n := 1) (by omega)] at hc3
    refine lv_lload_n hx hb d_X_isSeal_6 rfl (lv_at hl 1 rfl) ?_
    refine lv_aload_n hx hb d_X_isSeal_7 rfl (lv_at hl 0 rfl) ?_
    refine va_get (D := (dC, dI)) (ci := 0) (v := .long (lN (p * q * (p * q)))) (C := R_X) (T := F_X) (N := 13) hx hb hts f_X hown hK hP 0 rfl rfl 3 (by decide) (hts _ (al_m aw_t16)) (fun _ h9 => h9) rfl d_X_isSeal_8 ?_
    refine W.lcmp hx hb d_X_isSeal_11 ?_
    refine lv_if_ge (tgt := 27) hx hb d_X_isSeal_12 (by decide) (fun hc12 => ?_) (fun hc12 => ?_)
    · skip
      rw [lg_cmp_ge] at hc12
      rw [lx_le (x := x) (n := p * q * (p * q)) (by omega)] at hc12
      refine lv_iconst (v := nI 0) hx hb d_X_isSeal_27 (by decide) ?_
      exact pu_zret hx hb hr (by decide) hS d_X_isSeal_28 hlocks ((bI_f (by simp only [sp_isS, Bool.and_eq_false_iff, decide_eq_false_iff_not]; omega)).symm)
    · skip
      rw [lg_cmp_ge] at hc12
      rw [lx_le (x := x) (n := p * q * (p * q)) (by omega)] at hc12
      obtain ⟨k, hkk, rfl⟩ := lx_of (x := x) (by omega)
      rw [pk_lT hkk] at hc3 hc12
      refine lv_aload_n hx hb d_X_isSeal_15 rfl (lv_at hl 0 rfl) ?_
      refine lv_lload_n hx hb d_X_isSeal_16 rfl (lv_at hl 1 rfl) ?_
      refine pu_i (va_runV (As := [.long (lN k)]) (rest := []) ⟨hx, hb, hml, hown, hts⟩ (c_X_sharesNoFactor l dC dI h0 q0 cA p q cx rd cl tt bc g k hk hkk) (cwV 1 hts (al_V (k_X_sharesNoFactor) (aw_t88) (aw_t90) (aw_p3) (aw_t1)) rfl rfl rfl (by decide +kernel) ⟨Nat.le_of_ble_eq_true rfl, Nat.le_of_ble_eq_true rfl⟩) (pu_preV (q0 := 0) (ci := 0) hK hP rfl rfl) rfl rfl hl.1 rfl (lv_room (Nat.le_of_ble_eq_true rfl)) d_X_isSeal_17 ⟨Nat.zero_le _, Nat.zero_le _⟩) hS (fun H locs hkp hS => ?_)
      have hP := hkp _ _ _ hP
      refine lv_if_eq (tgt := 27) hx hb d_X_isSeal_20 (by decide) (fun hc20 => ?_) (fun hc20 => ?_)
      · skip
        rw [bI_0] at hc20
        refine lv_iconst (v := nI 0) hx hb d_X_isSeal_27 (by decide) ?_
        exact pu_zret hx hb hr (by decide) hS d_X_isSeal_28 hlocks ((bI_f (by simp only [sp_isS, lx_nat hkk, pk_lT hkk, Int.toNat_natCast, hc20, Bool.and_false])).symm)
      · skip
        rw [bI_0] at hc20
        rw [Bool.not_eq_false] at hc20
        refine lv_iconst (v := nI 1) hx hb d_X_isSeal_23 (by decide) ?_
        refine lv_goto (tgt := 28) hx hb d_X_isSeal_24 (by decide) ?_
        exact pu_zret hx hb hr (by decide) hS d_X_isSeal_28 hlocks ((bI_t (by simp only [sp_isS, lx_nat hkk, pk_lT hkk, Int.toNat_natCast, hc20, Bool.and_eq_true, decide_eq_true_eq, and_true]; omega)).symm)

section
variable {pg : Program} {l : Launch} {ev : Env} {R : Room} {s : State} {mi : MethodId} {args : Array Value} {below : List Frame} {meth : Method} {co : Code} {H : Heap} {locs : List Loc} {cells slots : Nat} {Q : State → Prop}
set_option maxHeartbeats 4000000 in
set_option maxRecDepth 100000 in
theorem lp_X_radixPower_5 {h0 q0 : Nat} {cA : ClassId} {p q cx rd cl tt bc : Nat} {g : Nat → Nat} (hx : pg.tables.exec = Jvm.exec) (hb : co.code = b_X_radixPower) {w0 : Cond} {dC : Nat → ClassId} {dI : Nat → Nat → Nat} (hts : ∀ w ∈ w0 :: al_w, w.before args s = true) (hown : s.vm.findClass R_X = some mi.cls) (hK : va_K (dC, dI) classes [(cA, .long)] s) (hP : va_P (dC, dI) classes [(h0, .inr (0, [.int (nI p), .int (nI q), .int (nI (p * q)), .long (lN (p * q * (p * q))), .long (lN (sp_f p q)), .long (lN (sp_inv p q)), .long (lN (sp_cex p q)), .int (nI cx), .int (nI rd), .int (nI cl), .long (lN tt), .int (nI bc), .ref q0])), (q0, .inl (cA, 30, .inr (.inl (fun j => lN (g j)))))] H) {k : Nat} (hrd : rd < 2 ^ 31) (hkk : k < 2 ^ 31) (k25 : ∀ (i : Nat) (ls : Array Slot), lv_has ls 5 [(4, .int (nI i)), (0, .ref h0), (1, .int (nI k)), (2, .long (lN (rd ^ i)))] → (i = k) → W pg l ev R s mi args below meth co H locs cells slots Q (F0 mi 25 ls [])) : ∀ (mz : Nat) (i : Nat) (ls : Array Slot), lv_has ls 5 [(4, .int (nI i)), (0, .ref h0), (1, .int (nI k)), (2, .long (lN (rd ^ i)))] → (i ≤ k) → k - i = mz → W pg l ev R s mi args below meth co H locs cells slots Q (F0 mi 5 ls []) := by
  intro mz
  induction mz using Nat.strongRecOn with
  | ind mz ih =>
    intro i ls hl h1 hk
    subst hk
    refine lv_iload hx hb d_X_radixPower_5 (lv_at hl 0 rfl) ?_
    refine lv_iload_n hx hb d_X_radixPower_7 rfl (lv_at hl 2 rfl) ?_
    refine lv_icmp_ge (tgt := 25) hx hb d_X_radixPower_8 (by decide) (fun hc8 => ?_) (fun hc8 => ?_)
    · skip
      rw [nI_leI (a := k) (b := i) (by omega) (by omega)] at hc8
      exact k25 i ls (lv_sub hl [0, 1, 2, 3] rfl) (by omega)
    · skip
      rw [nI_leI (a := k) (b := i) (by omega) (by omega)] at hc8
      refine lv_lload_n hx hb d_X_radixPower_11 rfl (lv_at hl 3 rfl) ?_
      refine lv_aload_n hx hb d_X_radixPower_12 rfl (lv_at hl 1 rfl) ?_
      refine va_get (D := (dC, dI)) (ci := 0) (v := .int (nI rd)) (C := R_X) (T := F_X) (N := 13) hx hb hts f_X hown hK hP 0 rfl rfl 8 (by decide) (hts _ (al_m aw_t21)) (fun _ h9 => h9) rfl d_X_radixPower_13 ?_
      refine lv_i2l (v := lN rd) hx hb d_X_radixPower_16 (nI_l (by omega)) ?_
      refine lv_lmul hx hb d_X_radixPower_17 ?_
      refine wk_l (y := lN (rd ^ (i + 1))) (by rw [lN_mul, Nat.pow_succ]) ?_
      refine lv_lstore_n (lv' := [(2, .long (lN (rd ^ (i + 1)))), (4, .int (nI i)), (0, .ref h0), (1, .int (nI k))]) hx hb d_X_radixPower_18 rfl hl (by decide) rfl (fun ls hl => ?_)
      refine lv_iinc (k := 1) (v := nI (i + 1)) (lv' := [(4, .int (nI (i + 1))), (2, .long (lN (rd ^ (i + 1)))), (0, .ref h0), (1, .int (nI k))]) hx hb d_X_radixPower_19 hl rfl (ii_1 i) (by decide) rfl (fun ls hl => ?_)
      refine lv_goto (tgt := 5) hx hb d_X_radixPower_22 (by decide) ?_
      exact ih _ (by omega) (i + 1) ls (lv_sub hl [0, 2, 3, 1] rfl) (by omega) rfl
end

set_option maxHeartbeats 4000000 in
set_option maxRecDepth 100000 in
theorem c_X_radixPower (l : Launch) (dC : Nat → ClassId) (dI : Nat → Nat → Nat) (h0 q0 : Nat) (cA : ClassId) (p q cx rd cl tt bc : Nat) (g : Nat → Nat) (k : Nat) (hrd : rd < 2 ^ 31) (hkk : k < 2 ^ 31) : Met l y_X_radixPower w_X_radixPower ({ frames := 0, cells := 0, slots := 0, locals := 0 }) (va_Pc [.ref h0, .int (nI k)] (fun U => va_P (dC, dI) classes [(h0, .inr (0, [.int (nI p), .int (nI q), .int (nI (p * q)), .long (lN (p * q * (p * q))), .long (lN (sp_f p q)), .long (lN (sp_inv p q)), .long (lN (sp_cex p q)), .int (nI cx), .int (nI rd), .int (nI cl), .long (lN tt), .int (nI bc), .ref q0])), (q0, .inl (cA, 30, .inr (.inl (fun j => lN (g j)))))] U.heap ∧ va_K (dC, dI) classes [(cA, .long)] U)) (qL (lN (rd ^ k))) 0 0 (fun _ => False) := by
  refine Met.ofW (cc := b_X_radixPower) (maxL := 5) (ret := some .long) (by decide) rfl ?_
  intro pg ev s mi args below meth co s₁ B hml hv
  obtain ⟨rfl, hP, hK⟩ := hv
  have hx := B.exec
  have hb := B.bytes
  have hr := B.returns
  have hts := atoms_spec (ws := w_X_radixPower) B.pre
  have hown : s.vm.findClass R_X = some mi.cls := findClass_of_methodNamed B.named
  have hlocks := B.notSynchronized
  have hS : va_S (fun _ => False) s.heap s.heap [] := va_S.rf
  have hP : va_P (dC, dI) classes [(h0, .inr (0, [.int (nI p), .int (nI q), .int (nI (p * q)), .long (lN (p * q * (p * q))), .long (lN (sp_f p q)), .long (lN (sp_inv p q)), .long (lN (sp_cex p q)), .int (nI cx), .int (nI rd), .int (nI cl), .long (lN tt), .int (nI bc), .ref q0])), (q0, .inl (cA, 30, .inr (.inl (fun j => lN (g j)))))] s.heap := hP
  have hl := lv_entry ([.ref h0, .int (nI k)]) (n := 5) (Nat.le_of_ble_eq_true rfl)
  rw [lg_entry_eq]
  generalize (lg_sl ([.ref h0, .int (nI k)]) ++ List.replicate (5 - (lg_sl ([.ref h0, .int (nI k)])).length) Slot.unset).toArray = ls at hl ⊢
  have hl : lv_has ls 5 [(0, .ref h0), (1, .int (nI k))] := hl
  refine lv_lconst (v := lN 1) hx hb d_X_radixPower_0 rfl ?_
  refine lv_lstore_n (lv' := [(2, .long (lN 1)), (0, .ref h0), (1, .int (nI k))]) hx hb d_X_radixPower_1 rfl hl (by decide) rfl (fun ls hl => ?_)
  refine lv_iconst (v := nI 0) hx hb d_X_radixPower_2 (by decide) ?_
  refine lv_istore (lv' := [(4, .int (nI 0)), (2, .long (lN 1)), (0, .ref h0), (1, .int (nI k))]) hx hb d_X_radixPower_3 hl (by decide) rfl (fun ls hl => ?_)
  refine lp_X_radixPower_5 hx hb hts hown hK hP hrd hkk (fun i ls hl hq => ?_) _ 0 ls (lv_sub hl [0, 2, 3, 1] rfl) (by omega) rfl
  refine lv_lload_n hx hb d_X_radixPower_25 rfl (lv_at hl 3 rfl) ?_
  exact pu_lret hx hb hr hS d_X_radixPower_26 hlocks (by rw [hq])

section
variable {pg : Program} {l : Launch} {ev : Env} {R : Room} {s : State} {mi : MethodId} {args : Array Value} {below : List Frame} {meth : Method} {co : Code} {H : Heap} {locs : List Loc} {cells slots : Nat} {Q : State → Prop}
set_option maxHeartbeats 4000000 in
set_option maxRecDepth 100000 in
theorem lp_X_isBoxSize_23 {h0 q0 : Nat} {cA : ClassId} {p q cx rd cl tt bc : Nat} {g : Nat → Nat} (hx : pg.tables.exec = Jvm.exec) (hb : co.code = b_X_isBoxSize) {w0 : Cond} {dC : Nat → ClassId} {dI : Nat → Nat → Nat} (hts : ∀ w ∈ w0 :: al_w, w.before args s = true) (hown : s.vm.findClass R_X = some mi.cls) (hK : va_K (dC, dI) classes [(cA, .long)] s) (hP : va_P (dC, dI) classes [(h0, .inr (0, [.int (nI p), .int (nI q), .int (nI (p * q)), .long (lN (p * q * (p * q))), .long (lN (sp_f p q)), .long (lN (sp_inv p q)), .long (lN (sp_cex p q)), .int (nI cx), .int (nI rd), .int (nI cl), .long (lN tt), .int (nI bc), .ref q0])), (q0, .inl (cA, 30, .inr (.inl (fun j => lN (g j)))))] H) {ka kb : Nat} (hn : p * q ≤ 52441) (hka : ka ≤ 6) (hkb : 2 ≤ kb) (hkb2 : kb < 2 ^ 31) (k52 : ∀ (i : Nat) (ls : Array Slot), lv_has ls 6 [(5, .int (nI i)), (0, .ref h0), (1, .int (nI ka)), (2, .int (nI kb)), (3, .long (lN (kb ^ i)))] → (kb ^ ka ≤ p * q) → W pg l ev R s mi args below meth co H locs cells slots Q (F0 mi 52 ls [])) (k44 : ∀ (i : Nat) (ls : Array Slot), lv_has ls 6 [(5, .int (nI i)), (0, .ref h0), (1, .int (nI ka)), (2, .int (nI kb))] → (p * q < kb ^ ka) → W pg l ev R s mi args below meth co H locs cells slots Q (F0 mi 44 ls [])) : ∀ (mz : Nat) (i : Nat) (ls : Array Slot), lv_has ls 6 [(5, .int (nI i)), (0, .ref h0), (1, .int (nI ka)), (2, .int (nI kb)), (3, .long (lN (kb ^ i)))] → (i ≤ ka) → (kb ^ i ≤ p * q) → ka - i = mz → W pg l ev R s mi args below meth co H locs cells slots Q (F0 mi 23 ls []) := by
  intro mz
  induction mz using Nat.strongRecOn with
  | ind mz ih =>
    intro i ls hl h1 h2 hk
    subst hk
    refine lv_iload hx hb d_X_isBoxSize_23 (lv_at hl 0 rfl) ?_
    refine lv_iload_n hx hb d_X_isBoxSize_25 rfl (lv_at hl 2 rfl) ?_
    refine lv_icmp_ge (tgt := 52) hx hb d_X_isBoxSize_26 (by decide) (fun hc26 => ?_) (fun hc26 => ?_)
    · skip
      rw [nI_leI (a := ka) (b := i) (by omega) (by omega)] at hc26
      exact k52 i ls (lv_sub hl [0, 1, 2, 3, 4] rfl) (by have e : i = ka := (by omega); rw [← e]; exact h2)
    · skip
      rw [nI_leI (a := ka) (b := i) (by omega) (by omega)] at hc26
      refine lv_lload_n hx hb d_X_isBoxSize_29 rfl (lv_at hl 4 rfl) ?_
      refine lv_iload_n hx hb d_X_isBoxSize_30 rfl (lv_at hl 3 rfl) ?_
      refine lv_i2l (v := lN kb) hx hb d_X_isBoxSize_31 (nI_l (by omega)) ?_
      refine lv_lmul hx hb d_X_isBoxSize_32 ?_
      refine wk_l (y := lN (kb ^ (i + 1))) (by rw [lN_mul, Nat.pow_succ]) ?_
      refine lv_lstore_n (lv' := [(3, .long (lN (kb ^ (i + 1)))), (5, .int (nI i)), (0, .ref h0), (1, .int (nI ka)), (2, .int (nI kb))]) hx hb d_X_isBoxSize_33 rfl hl (by decide) rfl (fun ls hl => ?_)
      refine lv_lload_n hx hb d_X_isBoxSize_34 rfl (lv_at hl 0 rfl) ?_
      refine lv_aload_n hx hb d_X_isBoxSize_35 rfl (lv_at hl 2 rfl) ?_
      refine va_get (D := (dC, dI)) (ci := 0) (v := .int (nI (p * q))) (C := R_X) (T := F_X) (N := 13) hx hb hts f_X hown hK hP 0 rfl rfl 2 (by decide) (hts _ (al_m aw_t15)) (fun _ h9 => h9) rfl d_X_isBoxSize_36 ?_
      refine lv_i2l (v := lN (p * q)) hx hb d_X_isBoxSize_39 (nI_l (by omega)) ?_
      have hlt : kb ^ (i + 1) < 2 ^ 63 := bx_lt h2 hn hkb2
      refine W.lcmp hx hb d_X_isBoxSize_40 ?_
      refine lv_if_le (tgt := 46) hx hb d_X_isBoxSize_41 (by decide) (fun hc41 => ?_) (fun hc41 => ?_)
      · skip
        rw [lg_cmp_le] at hc41
        rw [pk_lLE (a := kb ^ (i + 1)) (b := p * q) (by omega) (by omega)] at hc41
        refine lv_iinc (k := 1) (v := nI (i + 1)) (lv' := [(5, .int (nI (i + 1))), (3, .long (lN (kb ^ (i + 1)))), (0, .ref h0), (1, .int (nI ka)), (2, .int (nI kb))]) hx hb d_X_isBoxSize_46 hl rfl (ii_1 i) (by decide) rfl (fun ls hl => ?_)
        refine lv_goto (tgt := 23) hx hb d_X_isBoxSize_49 (by decide) ?_
        exact ih _ (by omega) (i + 1) ls (lv_sub hl [0, 2, 3, 4, 1] rfl) (by omega) (hc41) rfl
      · skip
        rw [lg_cmp_le] at hc41
        rw [pk_lLE (a := kb ^ (i + 1)) (b := p * q) (by omega) (by omega)] at hc41
        exact k44 i ls (lv_sub hl [1, 2, 3, 4] rfl) (Nat.lt_of_lt_of_le (Nat.lt_of_not_le hc41) (Nat.pow_le_pow_right (by omega) (by omega)))
end

set_option maxHeartbeats 4000000 in
set_option maxRecDepth 100000 in
theorem c_X_isBoxSize (l : Launch) (dC : Nat → ClassId) (dI : Nat → Nat → Nat) (h0 q0 : Nat) (cA : ClassId) (p q cx rd cl tt bc : Nat) (g : Nat → Nat) (x y : Int32) (hn : p * q ≤ 52441) (hnn : 1 ≤ p * q) : Met l y_X_isBoxSize w_X_isBoxSize ({ frames := 0, cells := 0, slots := 0, locals := 0 }) (va_Pc [.ref h0, .int x, .int y] (fun U => va_P (dC, dI) classes [(h0, .inr (0, [.int (nI p), .int (nI q), .int (nI (p * q)), .long (lN (p * q * (p * q))), .long (lN (sp_f p q)), .long (lN (sp_inv p q)), .long (lN (sp_cex p q)), .int (nI cx), .int (nI rd), .int (nI cl), .long (lN tt), .int (nI bc), .ref q0])), (q0, .inl (cA, 30, .inr (.inl (fun j => lN (g j)))))] U.heap ∧ va_K (dC, dI) classes [(cA, .long)] U)) (qI (bI (sp_box p q x y))) 0 0 (fun _ => False) := by
  refine Met.ofW (cc := b_X_isBoxSize) (maxL := 6) (ret := some .boolean) (by decide) rfl ?_
  intro pg ev s mi args below meth co s₁ B hml hv
  obtain ⟨rfl, hP, hK⟩ := hv
  have hx := B.exec
  have hb := B.bytes
  have hr := B.returns
  have hts := atoms_spec (ws := w_X_isBoxSize) B.pre
  have hown : s.vm.findClass R_X = some mi.cls := findClass_of_methodNamed B.named
  have hlocks := B.notSynchronized
  have hS : va_S (fun _ => False) s.heap s.heap [] := va_S.rf
  have hP : va_P (dC, dI) classes [(h0, .inr (0, [.int (nI p), .int (nI q), .int (nI (p * q)), .long (lN (p * q * (p * q))), .long (lN (sp_f p q)), .long (lN (sp_inv p q)), .long (lN (sp_cex p q)), .int (nI cx), .int (nI rd), .int (nI cl), .long (lN tt), .int (nI bc), .ref q0])), (q0, .inl (cA, 30, .inr (.inl (fun j => lN (g j)))))] s.heap := hP
  have hl := lv_entry ([.ref h0, .int x, .int y]) (n := 6) (Nat.le_of_ble_eq_true rfl)
  rw [lg_entry_eq]
  generalize (lg_sl ([.ref h0, .int x, .int y]) ++ List.replicate (6 - (lg_sl ([.ref h0, .int x, .int y])).length) Slot.unset).toArray = ls at hl ⊢
  have hl : lv_has ls 6 [(0, .ref h0), (1, .int x), (2, .int y)] := hl
  refine lv_iload_n hx hb d_X_isBoxSize_0 rfl (lv_at hl 1 rfl) ?_
  refine lv_iconst (v := nI 1) hx hb d_X_isBoxSize_1 (by decide) ?_
  refine lv_icmp_lt (tgt := 16) hx hb d_X_isBoxSize_2 (by decide) (fun hc2 => ?_) (fun hc2 => ?_)
  · skip
    rw [ix_lt (x := x) (n := 1) (by omega)] at hc2
    refine lv_iconst (v := nI 0) hx hb d_X_isBoxSize_16 (by decide) ?_
    exact pu_zret hx hb hr (by decide) hS d_X_isBoxSize_17 hlocks ((bI_f (by simp only [sp_box, Bool.and_eq_false_iff, decide_eq_false_iff_not]; omega)).symm)
  · skip
    rw [ix_lt (x := x) (n := 1) (by omega)] at hc2
    refine lv_iload_n hx hb d_X_isBoxSize_5 rfl (lv_at hl 1 rfl) ?_
    refine lv_bipush (v := nI 6) hx hb d_X_isBoxSize_6 (by decide) ?_
    refine lv_icmp_gt (tgt := 16) hx hb d_X_isBoxSize_8 (by decide) (fun hc8 => ?_) (fun hc8 => ?_)
    · skip
      rw [ix_gt (x := x) (n := 6) (by omega)] at hc8
      refine lv_iconst (v := nI 0) hx hb d_X_isBoxSize_16 (by decide) ?_
      exact pu_zret hx hb hr (by decide) hS d_X_isBoxSize_17 hlocks ((bI_f (by simp only [sp_box, Bool.and_eq_false_iff, decide_eq_false_iff_not]; omega)).symm)
    · skip
      rw [ix_gt (x := x) (n := 6) (by omega)] at hc8
      refine lv_iload_n hx hb d_X_isBoxSize_11 rfl (lv_at hl 2 rfl) ?_
      refine lv_iconst (v := nI 2) hx hb d_X_isBoxSize_12 (by decide) ?_
      refine lv_icmp_ge (tgt := 18) hx hb d_X_isBoxSize_13 (by decide) (fun hc13 => ?_) (fun hc13 => ?_)
      · skip
        rw [ix_le (x := y) (n := 2) (by omega)] at hc13
        obtain ⟨ka, hka, rfl⟩ := ix_of (x := x) (by omega)
        obtain ⟨kb, hkb, rfl⟩ := ix_of (x := y) (by omega)
        rw [nI_toInt hka] at hc2 hc8
        rw [nI_toInt hkb] at hc13
        refine lv_lconst (v := lN 1) hx hb d_X_isBoxSize_18 rfl ?_
        refine lv_lstore_n (lv' := [(3, .long (lN 1)), (0, .ref h0), (1, .int (nI ka)), (2, .int (nI kb))]) hx hb d_X_isBoxSize_19 rfl hl (by decide) rfl (fun ls hl => ?_)
        refine lv_iconst (v := nI 0) hx hb d_X_isBoxSize_20 (by decide) ?_
        refine lv_istore (lv' := [(5, .int (nI 0)), (3, .long (lN 1)), (0, .ref h0), (1, .int (nI ka)), (2, .int (nI kb))]) hx hb d_X_isBoxSize_21 hl (by decide) rfl (fun ls hl => ?_)
        refine lp_X_isBoxSize_23 hx hb hts hown hK hP hn (by omega) (by omega) hkb (fun i ls hl hq => ?_) (fun i ls hl hq => ?_) _ 0 ls (lv_sub hl [0, 2, 3, 4, 1] rfl) (by omega) (by rw [Nat.pow_zero]; omega) rfl
        · skip
          refine lv_iconst (v := nI 1) hx hb d_X_isBoxSize_52 (by decide) ?_
          exact pu_zret hx hb hr (by decide) hS d_X_isBoxSize_53 hlocks ((bI_t (by simp only [sp_box, ix_nat hka, ix_nat hkb, nI_toInt hka, nI_toInt hkb, Int.toNat_natCast, Bool.and_eq_true, decide_eq_true_eq]; omega)).symm)
        · skip
          refine lv_iconst (v := nI 0) hx hb d_X_isBoxSize_44 (by decide) ?_
          exact pu_zret hx hb hr (by decide) hS d_X_isBoxSize_45 hlocks ((bI_f (by simp only [sp_box, ix_nat hka, ix_nat hkb, nI_toInt hka, nI_toInt hkb, Int.toNat_natCast, Bool.and_eq_false_iff, decide_eq_false_iff_not]; omega)).symm)
      · skip
        rw [ix_le (x := y) (n := 2) (by omega)] at hc13
        refine lv_iconst (v := nI 0) hx hb d_X_isBoxSize_16 (by decide) ?_
        exact pu_zret hx hb hr (by decide) hS d_X_isBoxSize_17 hlocks ((bI_f (by simp only [sp_box, Bool.and_eq_false_iff, decide_eq_false_iff_not]; omega)).symm)

set_option maxHeartbeats 4000000 in
set_option maxRecDepth 100000 in
theorem c_X_sealing (l : Launch) (dC : Nat → ClassId) (dI : Nat → Nat → Nat) (h0 q0 : Nat) (cA : ClassId) (p q cx rd cl tt bc : Nat) (g : Nat → Nat) (x y : Nat) (hk : ma_K p q) (hxn : x < p * q) (hy : y < p * q * (p * q)) : Met l y_X_sealing w_X_sealing ({ frames := 1, cells := 0, slots := 0, locals := 30 }) (va_Pc [.ref h0, .long (lN x), .long (lN y)] (fun U => va_P (dC, dI) classes [(h0, .inr (0, [.int (nI p), .int (nI q), .int (nI (p * q)), .long (lN (p * q * (p * q))), .long (lN (sp_f p q)), .long (lN (sp_inv p q)), .long (lN (sp_cex p q)), .int (nI cx), .int (nI rd), .int (nI cl), .long (lN tt), .int (nI bc), .ref q0])), (q0, .inl (cA, 30, .inr (.inl (fun j => lN (g j)))))] U.heap ∧ va_K (dC, dI) classes [(cA, .long)] U)) (qL (lN (sp_seal p q x y))) 0 0 (fun _ => False) := by
  refine Met.ofW (cc := b_X_sealing) (maxL := 5) (ret := some .long) (by decide) rfl ?_
  intro pg ev s mi args below meth co s₁ B hml hv
  obtain ⟨rfl, hP, hK⟩ := hv
  have hx := B.exec
  have hb := B.bytes
  have hr := B.returns
  have hts := atoms_spec (ws := w_X_sealing) B.pre
  have hown : s.vm.findClass R_X = some mi.cls := findClass_of_methodNamed B.named
  have hlocks := B.notSynchronized
  have hS : va_S (fun _ => False) s.heap s.heap [] := va_S.rf
  have hP : va_P (dC, dI) classes [(h0, .inr (0, [.int (nI p), .int (nI q), .int (nI (p * q)), .long (lN (p * q * (p * q))), .long (lN (sp_f p q)), .long (lN (sp_inv p q)), .long (lN (sp_cex p q)), .int (nI cx), .int (nI rd), .int (nI cl), .long (lN tt), .int (nI bc), .ref q0])), (q0, .inl (cA, 30, .inr (.inl (fun j => lN (g j)))))] s.heap := hP
  have hl := lv_entry ([.ref h0, .long (lN x), .long (lN y)]) (n := 5) (Nat.le_of_ble_eq_true rfl)
  rw [lg_entry_eq]
  generalize (lg_sl ([.ref h0, .long (lN x), .long (lN y)]) ++ List.replicate (5 - (lg_sl ([.ref h0, .long (lN x), .long (lN y)])).length) Slot.unset).toArray = ls at hl ⊢
  have hl : lv_has ls 5 [(0, .ref h0), (1, .long (lN x)), (3, .long (lN y))] := hl
  have hbg := ma_big hk
  have hp3 := hk.1.1
  have hq3 := hk.2.1.1
  have hp9 := hk.1.2.1
  have hq9 := hk.2.1.2.1
  have hkf := ma_keyf hk
  refine lv_lconst (v := lN 1) hx hb d_X_sealing_0 rfl ?_
  refine lv_lload_n hx hb d_X_sealing_1 rfl (lv_at hl 1 rfl) ?_
  refine lv_aload_n hx hb d_X_sealing_2 rfl (lv_at hl 0 rfl) ?_
  refine va_get (D := (dC, dI)) (ci := 0) (v := .int (nI (p * q))) (C := R_X) (T := F_X) (N := 13) hx hb hts f_X hown hK hP 0 rfl rfl 2 (by decide) (hts _ (al_m aw_t15)) (fun _ h9 => h9) rfl d_X_sealing_3 ?_
  refine lv_i2l (v := lN (p * q)) hx hb d_X_sealing_6 (nI_l (by omega)) ?_
  refine lv_lmul hx hb d_X_sealing_7 ?_
  refine wk_l (y := lN (x * (p * q))) (lN_mul x (p * q)) ?_
  refine lv_ladd hx hb d_X_sealing_8 ?_
  refine wk_l (y := lN (1 + (x * (p * q)))) (lN_add 1 (x * (p * q))) ?_
  refine lv_lload_n hx hb d_X_sealing_9 rfl (lv_at hl 2 rfl) ?_
  refine lv_aload_n hx hb d_X_sealing_10 rfl (lv_at hl 0 rfl) ?_
  refine va_get (D := (dC, dI)) (ci := 0) (v := .int (nI (p * q))) (C := R_X) (T := F_X) (N := 13) hx hb hts f_X hown hK hP 0 rfl rfl 2 (by decide) (hts _ (al_m aw_t15)) (fun _ h9 => h9) rfl d_X_sealing_11 ?_
  refine lv_i2l (v := lN (p * q)) hx hb d_X_sealing_14 (nI_l (by omega)) ?_
  refine lv_aload_n hx hb d_X_sealing_15 rfl (lv_at hl 0 rfl) ?_
  refine va_get (D := (dC, dI)) (ci := 0) (v := .long (lN (p * q * (p * q)))) (C := R_X) (T := F_X) (N := 13) hx hb hts f_X hown hK hP 0 rfl rfl 3 (by decide) (hts _ (al_m aw_t16)) (fun _ h9 => h9) rfl d_X_sealing_16 ?_
  refine pu_l (va_runS (As := [.long (lN y), .long (lN (p * q)), .long (lN (p * q * (p * q)))]) (rest := [.long (lN (1 + (x * (p * q))))]) ⟨hx, hb, hml, hown, hts⟩ (c_X_raised l y (p * q) (p * q * (p * q)) (by omega) (by omega) (by omega) hy) (va_cwS 3 hts (al_S (k_X_raised) (aw_t64) (aw_t65) (aw_t1)) rfl rfl rfl (by decide +kernel) ⟨Nat.le_of_ble_eq_true rfl, Nat.le_of_ble_eq_true rfl⟩) pu_preS rfl rfl hl.1 rfl (lv_room (Nat.le_of_ble_eq_true rfl)) d_X_sealing_19 ⟨Nat.zero_le _, Nat.zero_le _⟩) hS (fun H locs hkp hS => ?_)
  have hP := hkp _ _ _ hP
  refine lv_lmul hx hb d_X_sealing_22 ?_
  refine wk_l (y := lN ((1 + (x * (p * q))) * (y ^ (p * q) % (p * q * (p * q))))) (lN_mul (1 + (x * (p * q))) (y ^ (p * q) % (p * q * (p * q)))) ?_
  refine lv_aload_n hx hb d_X_sealing_23 rfl (lv_at hl 0 rfl) ?_
  refine va_get (D := (dC, dI)) (ci := 0) (v := .long (lN (p * q * (p * q)))) (C := R_X) (T := F_X) (N := 13) hx hb hts f_X hown hK hP 0 rfl rfl 3 (by decide) (hts _ (al_m aw_t16)) (fun _ h9 => h9) rfl d_X_sealing_24 ?_
  refine lv_lrem hx hb d_X_sealing_27 (lN_ne0 (by omega) (by omega)) ?_
  refine wk_l (y := lN (sp_seal p q x y)) (pk_lRem (rs_lt (sl_lt hxn (by omega)) (Nat.mod_lt _ (by omega)) (by omega)) (by omega) (by omega)) ?_
  exact pu_lret hx hb hr hS d_X_sealing_28 hlocks (rfl)

set_option maxHeartbeats 4000000 in
set_option maxRecDepth 100000 in
theorem c_X_messageIn (l : Launch) (dC : Nat → ClassId) (dI : Nat → Nat → Nat) (h0 q0 : Nat) (cA : ClassId) (p q cx rd cl tt bc : Nat) (g : Nat → Nat) (x : Nat) (hk : ma_K p q) (hxn : x < p * q * (p * q)) (hx1 : x % p ≠ 0) (hx2 : x % q ≠ 0) : Met l y_X_messageIn w_X_messageIn ({ frames := 1, cells := 0, slots := 0, locals := 30 }) (va_Pc [.ref h0, .long (lN x)] (fun U => va_P (dC, dI) classes [(h0, .inr (0, [.int (nI p), .int (nI q), .int (nI (p * q)), .long (lN (p * q * (p * q))), .long (lN (sp_f p q)), .long (lN (sp_inv p q)), .long (lN (sp_cex p q)), .int (nI cx), .int (nI rd), .int (nI cl), .long (lN tt), .int (nI bc), .ref q0])), (q0, .inl (cA, 30, .inr (.inl (fun j => lN (g j)))))] U.heap ∧ va_K (dC, dI) classes [(cA, .long)] U)) (qL (lN (sp_msg p q x))) 0 0 (fun _ => False) := by
  refine Met.ofW (cc := b_X_messageIn) (maxL := 5) (ret := some .long) (by decide) rfl ?_
  intro pg ev s mi args below meth co s₁ B hml hv
  obtain ⟨rfl, hP, hK⟩ := hv
  have hx := B.exec
  have hb := B.bytes
  have hr := B.returns
  have hts := atoms_spec (ws := w_X_messageIn) B.pre
  have hown : s.vm.findClass R_X = some mi.cls := findClass_of_methodNamed B.named
  have hlocks := B.notSynchronized
  have hS : va_S (fun _ => False) s.heap s.heap [] := va_S.rf
  have hP : va_P (dC, dI) classes [(h0, .inr (0, [.int (nI p), .int (nI q), .int (nI (p * q)), .long (lN (p * q * (p * q))), .long (lN (sp_f p q)), .long (lN (sp_inv p q)), .long (lN (sp_cex p q)), .int (nI cx), .int (nI rd), .int (nI cl), .long (lN tt), .int (nI bc), .ref q0])), (q0, .inl (cA, 30, .inr (.inl (fun j => lN (g j)))))] s.heap := hP
  have hl := lv_entry ([.ref h0, .long (lN x)]) (n := 5) (Nat.le_of_ble_eq_true rfl)
  rw [lg_entry_eq]
  generalize (lg_sl ([.ref h0, .long (lN x)]) ++ List.replicate (5 - (lg_sl ([.ref h0, .long (lN x)])).length) Slot.unset).toArray = ls at hl ⊢
  have hl : lv_has ls 5 [(0, .ref h0), (1, .long (lN x))] := hl
  have hbg := ma_big hk
  have hp3 := hk.1.1
  have hq3 := hk.2.1.1
  have hp9 := hk.1.2.1
  have hq9 := hk.2.1.2.1
  have hkf := ma_keyf hk
  refine lv_lload_n hx hb d_X_messageIn_0 rfl (lv_at hl 1 rfl) ?_
  refine lv_aload_n hx hb d_X_messageIn_1 rfl (lv_at hl 0 rfl) ?_
  refine va_get (D := (dC, dI)) (ci := 0) (v := .long (lN (sp_f p q))) (C := R_X) (T := F_X) (N := 13) hx hb hts f_X hown hK hP 0 rfl rfl 4 (by decide) (hts _ (al_m aw_t17)) (fun _ h9 => h9) rfl d_X_messageIn_2 ?_
  refine lv_aload_n hx hb d_X_messageIn_5 rfl (lv_at hl 0 rfl) ?_
  refine va_get (D := (dC, dI)) (ci := 0) (v := .long (lN (p * q * (p * q)))) (C := R_X) (T := F_X) (N := 13) hx hb hts f_X hown hK hP 0 rfl rfl 3 (by decide) (hts _ (al_m aw_t16)) (fun _ h9 => h9) rfl d_X_messageIn_6 ?_
  refine pu_l (va_runS (As := [.long (lN x), .long (lN (sp_f p q)), .long (lN (p * q * (p * q)))]) (rest := []) ⟨hx, hb, hml, hown, hts⟩ (c_X_raised l x (sp_f p q) (p * q * (p * q)) (by omega) (by omega) (by omega) hxn) (va_cwS 3 hts (al_S (k_X_raised) (aw_t64) (aw_t65) (aw_t1)) rfl rfl rfl (by decide +kernel) ⟨Nat.le_of_ble_eq_true rfl, Nat.le_of_ble_eq_true rfl⟩) pu_preS rfl rfl hl.1 rfl (lv_room (Nat.le_of_ble_eq_true rfl)) d_X_messageIn_9 ⟨Nat.zero_le _, Nat.zero_le _⟩) hS (fun H locs hkp hS => ?_)
  have hP := hkp _ _ _ hP
  have hop := (fa_msg hk hx1 hx2 hkf.2.2.1).2.1
  have hol : x ^ sp_f p q % (p * q * (p * q)) < p * q * (p * q) := Nat.mod_lt _ (by omega)
  refine lv_lstore_n (lv' := [(3, .long (lN (x ^ sp_f p q % (p * q * (p * q))))), (0, .ref h0), (1, .long (lN x))]) hx hb d_X_messageIn_12 rfl hl (by decide) rfl (fun ls hl => ?_)
  refine lv_lload_n hx hb d_X_messageIn_13 rfl (lv_at hl 0 rfl) ?_
  refine lv_lconst (v := lN 1) hx hb d_X_messageIn_14 rfl ?_
  refine lv_lsub hx hb d_X_messageIn_15 ?_
  refine wk_l (y := lN ((x ^ sp_f p q % (p * q * (p * q))) - 1)) (lN_sub (by omega)) ?_
  refine lv_aload_n hx hb d_X_messageIn_16 rfl (lv_at hl 1 rfl) ?_
  refine va_get (D := (dC, dI)) (ci := 0) (v := .int (nI (p * q))) (C := R_X) (T := F_X) (N := 13) hx hb hts f_X hown hK hP 0 rfl rfl 2 (by decide) (hts _ (al_m aw_t15)) (fun _ h9 => h9) rfl d_X_messageIn_17 ?_
  refine lv_i2l (v := lN (p * q)) hx hb d_X_messageIn_20 (nI_l (by omega)) ?_
  refine lv_ldiv hx hb d_X_messageIn_21 (lN_ne0 (by omega) (by omega)) ?_
  refine wk_l (y := lN (((x ^ sp_f p q % (p * q * (p * q))) - 1) / (p * q))) (pk_lDiv (by omega) (by omega) (by omega)) ?_
  have hm21 := Nat.div_le_self ((x ^ sp_f p q % (p * q * (p * q))) - 1) (p * q)
  refine lv_aload_n hx hb d_X_messageIn_22 rfl (lv_at hl 1 rfl) ?_
  refine va_get (D := (dC, dI)) (ci := 0) (v := .long (lN (sp_inv p q))) (C := R_X) (T := F_X) (N := 13) hx hb hts f_X hown hK hP 0 rfl rfl 5 (by decide) (hts _ (al_m aw_t18)) (fun _ h9 => h9) rfl d_X_messageIn_23 ?_
  refine lv_lmul hx hb d_X_messageIn_26 ?_
  refine wk_l (y := lN ((((x ^ sp_f p q % (p * q * (p * q))) - 1) / (p * q)) * (sp_inv p q))) (lN_mul (((x ^ sp_f p q % (p * q * (p * q))) - 1) / (p * q)) (sp_inv p q)) ?_
  refine lv_aload_n hx hb d_X_messageIn_27 rfl (lv_at hl 1 rfl) ?_
  refine va_get (D := (dC, dI)) (ci := 0) (v := .int (nI (p * q))) (C := R_X) (T := F_X) (N := 13) hx hb hts f_X hown hK hP 0 rfl rfl 2 (by decide) (hts _ (al_m aw_t15)) (fun _ h9 => h9) rfl d_X_messageIn_28 ?_
  refine lv_i2l (v := lN (p * q)) hx hb d_X_messageIn_31 (nI_l (by omega)) ?_
  refine lv_lrem hx hb d_X_messageIn_32 (lN_ne0 (by omega) (by omega)) ?_
  refine wk_l (y := lN (sp_msg p q x)) (pk_lRem (ms_lt (by omega) (by omega)) (by omega) (by omega)) ?_
  exact pu_lret hx hb hr hS d_X_messageIn_33 hlocks (rfl)

set_option maxHeartbeats 4000000 in
set_option maxRecDepth 100000 in
theorem c_X_coinIn (l : Launch) (dC : Nat → ClassId) (dI : Nat → Nat → Nat) (h0 q0 : Nat) (cA : ClassId) (p q cx rd cl tt bc : Nat) (g : Nat → Nat) (x : Nat) (hk : ma_K p q) (hxn : x < 2 ^ 63) : Met l y_X_coinIn w_X_coinIn ({ frames := 1, cells := 0, slots := 0, locals := 30 }) (va_Pc [.ref h0, .long (lN x)] (fun U => va_P (dC, dI) classes [(h0, .inr (0, [.int (nI p), .int (nI q), .int (nI (p * q)), .long (lN (p * q * (p * q))), .long (lN (sp_f p q)), .long (lN (sp_inv p q)), .long (lN (sp_cex p q)), .int (nI cx), .int (nI rd), .int (nI cl), .long (lN tt), .int (nI bc), .ref q0])), (q0, .inl (cA, 30, .inr (.inl (fun j => lN (g j)))))] U.heap ∧ va_K (dC, dI) classes [(cA, .long)] U)) (qL (lN (sp_coin p q x))) 0 0 (fun _ => False) := by
  refine Met.ofW (cc := b_X_coinIn) (maxL := 3) (ret := some .long) (by decide) rfl ?_
  intro pg ev s mi args below meth co s₁ B hml hv
  obtain ⟨rfl, hP, hK⟩ := hv
  have hx := B.exec
  have hb := B.bytes
  have hr := B.returns
  have hts := atoms_spec (ws := w_X_coinIn) B.pre
  have hown : s.vm.findClass R_X = some mi.cls := findClass_of_methodNamed B.named
  have hlocks := B.notSynchronized
  have hS : va_S (fun _ => False) s.heap s.heap [] := va_S.rf
  have hP : va_P (dC, dI) classes [(h0, .inr (0, [.int (nI p), .int (nI q), .int (nI (p * q)), .long (lN (p * q * (p * q))), .long (lN (sp_f p q)), .long (lN (sp_inv p q)), .long (lN (sp_cex p q)), .int (nI cx), .int (nI rd), .int (nI cl), .long (lN tt), .int (nI bc), .ref q0])), (q0, .inl (cA, 30, .inr (.inl (fun j => lN (g j)))))] s.heap := hP
  have hl := lv_entry ([.ref h0, .long (lN x)]) (n := 3) (Nat.le_of_ble_eq_true rfl)
  rw [lg_entry_eq]
  generalize (lg_sl ([.ref h0, .long (lN x)]) ++ List.replicate (3 - (lg_sl ([.ref h0, .long (lN x)])).length) Slot.unset).toArray = ls at hl ⊢
  have hl : lv_has ls 3 [(0, .ref h0), (1, .long (lN x))] := hl
  have hbg := ma_big hk
  have hp3 := hk.1.1
  have hq3 := hk.2.1.1
  have hp9 := hk.1.2.1
  have hq9 := hk.2.1.2.1
  have hkf := ma_keyf hk
  refine lv_lload_n hx hb d_X_coinIn_0 rfl (lv_at hl 1 rfl) ?_
  refine lv_aload_n hx hb d_X_coinIn_1 rfl (lv_at hl 0 rfl) ?_
  refine va_get (D := (dC, dI)) (ci := 0) (v := .int (nI (p * q))) (C := R_X) (T := F_X) (N := 13) hx hb hts f_X hown hK hP 0 rfl rfl 2 (by decide) (hts _ (al_m aw_t15)) (fun _ h9 => h9) rfl d_X_coinIn_2 ?_
  refine lv_i2l (v := lN (p * q)) hx hb d_X_coinIn_5 (nI_l (by omega)) ?_
  refine lv_lrem hx hb d_X_coinIn_6 (lN_ne0 (by omega) (by omega)) ?_
  refine wk_l (y := lN (x % (p * q))) (pk_lRem (by omega) (by omega) (by omega)) ?_
  have hm6 := Nat.mod_le x (p * q)
  refine lv_aload_n hx hb d_X_coinIn_7 rfl (lv_at hl 0 rfl) ?_
  refine va_get (D := (dC, dI)) (ci := 0) (v := .long (lN (sp_cex p q))) (C := R_X) (T := F_X) (N := 13) hx hb hts f_X hown hK hP 0 rfl rfl 6 (by decide) (hts _ (al_m aw_t19)) (fun _ h9 => h9) rfl d_X_coinIn_8 ?_
  refine lv_aload_n hx hb d_X_coinIn_11 rfl (lv_at hl 0 rfl) ?_
  refine va_get (D := (dC, dI)) (ci := 0) (v := .int (nI (p * q))) (C := R_X) (T := F_X) (N := 13) hx hb hts f_X hown hK hP 0 rfl rfl 2 (by decide) (hts _ (al_m aw_t15)) (fun _ h9 => h9) rfl d_X_coinIn_12 ?_
  refine lv_i2l (v := lN (p * q)) hx hb d_X_coinIn_15 (nI_l (by omega)) ?_
  refine pu_l (va_runS (As := [.long (lN (x % (p * q))), .long (lN (sp_cex p q)), .long (lN (p * q))]) (rest := []) ⟨hx, hb, hml, hown, hts⟩ (c_X_raised l (x % (p * q)) (sp_cex p q) (p * q) (by omega) (by omega) (by omega) (Nat.mod_lt _ (by omega))) (va_cwS 3 hts (al_S (k_X_raised) (aw_t64) (aw_t65) (aw_t1)) rfl rfl rfl (by decide +kernel) ⟨Nat.le_of_ble_eq_true rfl, Nat.le_of_ble_eq_true rfl⟩) pu_preS rfl rfl hl.1 rfl (lv_room (Nat.le_of_ble_eq_true rfl)) d_X_coinIn_16 ⟨Nat.zero_le _, Nat.zero_le _⟩) hS (fun H locs hkp hS => ?_)
  have hP := hkp _ _ _ hP
  exact pu_lret hx hb hr hS d_X_coinIn_19 hlocks (rfl)

section
variable {pg : Program} {l : Launch} {ev : Env} {R : Room} {s : State} {mi : MethodId} {args : Array Value} {below : List Frame} {meth : Method} {co : Code} {H : Heap} {locs : List Loc} {cells slots : Nat} {Q : State → Prop}
set_option maxHeartbeats 4000000 in
set_option maxRecDepth 100000 in
theorem lp_X_productOfBallots_4 {h0 q0 : Nat} {cA : ClassId} {p q cx rd cl tt bc : Nat} {g : Nat → Nat} (hx : pg.tables.exec = Jvm.exec) (hb : co.code = b_X_productOfBallots) {w0 : Cond} {dC : Nat → ClassId} {dI : Nat → Nat → Nat} (hts : ∀ w ∈ w0 :: al_w, w.before args s = true) (hown : s.vm.findClass R_X = some mi.cls) (hK : va_K (dC, dI) classes [(cA, .long)] s) (hP : va_P (dC, dI) classes [(h0, .inr (0, [.int (nI p), .int (nI q), .int (nI (p * q)), .long (lN (p * q * (p * q))), .long (lN (sp_f p q)), .long (lN (sp_inv p q)), .long (lN (sp_cex p q)), .int (nI cx), .int (nI rd), .int (nI cl), .long (lN tt), .int (nI bc), .ref q0])), (q0, .inl (cA, 30, .inr (.inl (fun j => lN (g j)))))] H) (hn : p * q * (p * q) ≤ 2750058481) (hn1 : 1 < p * q * (p * q)) (hg : ∀ j, j < 30 → g j < p * q * (p * q)) (k41 : ∀ (x : Nat) (i : Nat) (ls : Array Slot), lv_has ls 4 [(1, .long (lN x)), (3, .int (nI i)), (0, .ref h0)] → (x = sp_prod g 30 % (p * q * (p * q))) → W pg l ev R s mi args below meth co H locs cells slots Q (F0 mi 41 ls [])) : ∀ (mz : Nat) (x : Nat) (i : Nat) (ls : Array Slot), lv_has ls 4 [(1, .long (lN x)), (3, .int (nI i)), (0, .ref h0)] → (i ≤ 30) → (x < p * q * (p * q)) → (x = sp_prod g i % (p * q * (p * q))) → 30 - i = mz → W pg l ev R s mi args below meth co H locs cells slots Q (F0 mi 4 ls []) := by
  intro mz
  induction mz using Nat.strongRecOn with
  | ind mz ih =>
    intro x i ls hl h1 h2 h3 hk
    subst hk
    refine lv_iload_n hx hb d_X_productOfBallots_4 rfl (lv_at hl 1 rfl) ?_
    refine lv_bipush (v := nI 30) hx hb d_X_productOfBallots_5 (by decide) ?_
    refine lv_icmp_ge (tgt := 41) hx hb d_X_productOfBallots_7 (by decide) (fun hc7 => ?_) (fun hc7 => ?_)
    · skip
      rw [nI_leI (a := 30) (b := i) (by omega) (by omega)] at hc7
      exact k41 x i ls (lv_sub hl [0, 1, 2] rfl) (by have e : i = 30 := (by omega); rw [← e]; exact h3)
    · skip
      rw [nI_leI (a := 30) (b := i) (by omega) (by omega)] at hc7
      refine lv_aload_n hx hb d_X_productOfBallots_10 rfl (lv_at hl 2 rfl) ?_
      refine va_get (D := (dC, dI)) (ci := 0) (v := .ref q0) (C := R_X) (T := F_X) (N := 13) hx hb hts f_X hown hK hP 0 rfl rfl 12 (by decide) (hts _ (al_m aw_t25)) (fun _ h9 => h9) rfl d_X_productOfBallots_11 ?_
      refine lv_iload_n hx hb d_X_productOfBallots_14 rfl (lv_at hl 1 rfl) ?_
      refine va_lald hx hb hK hP 1 0 rfl rfl (vp_in_nI (by omega) (by decide)) d_X_productOfBallots_15 ?_
      refine wk_l (y := lN (g i)) (by rw [nI_clamp (by omega)]) ?_
      refine lv_lconst (v := lN 0) hx hb d_X_productOfBallots_16 rfl ?_
      have hgi := hg i (by omega)
      refine W.lcmp hx hb d_X_productOfBallots_17 ?_
      refine lv_if_eq (tgt := 35) hx hb d_X_productOfBallots_18 (by decide) (fun hc18 => ?_) (fun hc18 => ?_)
      · skip
        rw [lg_cmp_eq] at hc18
        rw [pk_lEQ (a := g i) (b := 0) (by omega) (by omega)] at hc18
        refine lv_iinc (k := 1) (v := nI (i + 1)) (lv' := [(3, .int (nI (i + 1))), (1, .long (lN x)), (0, .ref h0)]) hx hb d_X_productOfBallots_35 hl rfl (ii_1 i) (by decide) rfl (fun ls hl => ?_)
        refine lv_goto (tgt := 4) hx hb d_X_productOfBallots_38 (by decide) ?_
        exact ih _ (by omega) x (i + 1) ls (lv_sub hl [1, 0, 2] rfl) (by omega) (by first | exact h2 | exact Nat.mod_lt _ (by omega)) (by first | (rw [h3, Nat.mod_mul_mod]; simp only [sp_prod, if_neg hc18]; done) | (rw [h3]; simp only [sp_prod, if_pos hc18, Nat.mul_one]; done)) rfl
      · skip
        rw [lg_cmp_eq] at hc18
        rw [pk_lEQ (a := g i) (b := 0) (by omega) (by omega)] at hc18
        refine lv_lload_n hx hb d_X_productOfBallots_21 rfl (lv_at hl 0 rfl) ?_
        refine lv_aload_n hx hb d_X_productOfBallots_22 rfl (lv_at hl 2 rfl) ?_
        refine va_get (D := (dC, dI)) (ci := 0) (v := .ref q0) (C := R_X) (T := F_X) (N := 13) hx hb hts f_X hown hK hP 0 rfl rfl 12 (by decide) (hts _ (al_m aw_t25)) (fun _ h9 => h9) rfl d_X_productOfBallots_23 ?_
        refine lv_iload_n hx hb d_X_productOfBallots_26 rfl (lv_at hl 1 rfl) ?_
        refine va_lald hx hb hK hP 1 0 rfl rfl (vp_in_nI (by omega) (by decide)) d_X_productOfBallots_27 ?_
        refine wk_l (y := lN (g i)) (by rw [nI_clamp (by omega)]) ?_
        refine lv_lmul hx hb d_X_productOfBallots_28 ?_
        refine wk_l (y := lN (x * (g i))) (lN_mul x (g i)) ?_
        refine lv_aload_n hx hb d_X_productOfBallots_29 rfl (lv_at hl 2 rfl) ?_
        refine va_get (D := (dC, dI)) (ci := 0) (v := .long (lN (p * q * (p * q)))) (C := R_X) (T := F_X) (N := 13) hx hb hts f_X hown hK hP 0 rfl rfl 3 (by decide) (hts _ (al_m aw_t16)) (fun _ h9 => h9) rfl d_X_productOfBallots_30 ?_
        refine lv_lrem hx hb d_X_productOfBallots_33 (lN_ne0 (by omega) (by omega)) ?_
        refine wk_l (y := lN (x * g i % (p * q * (p * q)))) (pk_lRem (rs_lt h2 (hg i (by omega)) hn) (by omega) (by omega)) ?_
        refine lv_lstore_n (lv' := [(1, .long (lN (x * g i % (p * q * (p * q))))), (3, .int (nI i)), (0, .ref h0)]) hx hb d_X_productOfBallots_34 rfl hl (by decide) rfl (fun ls hl => ?_)
        refine lv_iinc (k := 1) (v := nI (i + 1)) (lv' := [(3, .int (nI (i + 1))), (1, .long (lN (x * g i % (p * q * (p * q))))), (0, .ref h0)]) hx hb d_X_productOfBallots_35 hl rfl (ii_1 i) (by decide) rfl (fun ls hl => ?_)
        refine lv_goto (tgt := 4) hx hb d_X_productOfBallots_38 (by decide) ?_
        exact ih _ (by omega) (x * g i % (p * q * (p * q))) (i + 1) ls (lv_sub hl [1, 0, 2] rfl) (by omega) (by first | exact h2 | exact Nat.mod_lt _ (by omega)) (by first | (rw [h3, Nat.mod_mul_mod]; simp only [sp_prod, if_neg hc18]; done) | (rw [h3]; simp only [sp_prod, if_pos hc18, Nat.mul_one]; done)) rfl
end

set_option maxHeartbeats 4000000 in
set_option maxRecDepth 100000 in
theorem c_X_productOfBallots (l : Launch) (dC : Nat → ClassId) (dI : Nat → Nat → Nat) (h0 q0 : Nat) (cA : ClassId) (p q cx rd cl tt bc : Nat) (g : Nat → Nat) (hk : ma_K p q) (hg : ∀ j, j < 30 → g j < p * q * (p * q)) : Met l y_X_productOfBallots w_X_productOfBallots ({ frames := 0, cells := 0, slots := 0, locals := 0 }) (va_Pc [.ref h0] (fun U => va_P (dC, dI) classes [(h0, .inr (0, [.int (nI p), .int (nI q), .int (nI (p * q)), .long (lN (p * q * (p * q))), .long (lN (sp_f p q)), .long (lN (sp_inv p q)), .long (lN (sp_cex p q)), .int (nI cx), .int (nI rd), .int (nI cl), .long (lN tt), .int (nI bc), .ref q0])), (q0, .inl (cA, 30, .inr (.inl (fun j => lN (g j)))))] U.heap ∧ va_K (dC, dI) classes [(cA, .long)] U)) (qL (lN (sp_prod g 30 % (p * q * (p * q))))) 0 0 (fun _ => False) := by
  refine Met.ofW (cc := b_X_productOfBallots) (maxL := 4) (ret := some .long) (by decide) rfl ?_
  intro pg ev s mi args below meth co s₁ B hml hv
  obtain ⟨rfl, hP, hK⟩ := hv
  have hx := B.exec
  have hb := B.bytes
  have hr := B.returns
  have hts := atoms_spec (ws := w_X_productOfBallots) B.pre
  have hown : s.vm.findClass R_X = some mi.cls := findClass_of_methodNamed B.named
  have hlocks := B.notSynchronized
  have hS : va_S (fun _ => False) s.heap s.heap [] := va_S.rf
  have hP : va_P (dC, dI) classes [(h0, .inr (0, [.int (nI p), .int (nI q), .int (nI (p * q)), .long (lN (p * q * (p * q))), .long (lN (sp_f p q)), .long (lN (sp_inv p q)), .long (lN (sp_cex p q)), .int (nI cx), .int (nI rd), .int (nI cl), .long (lN tt), .int (nI bc), .ref q0])), (q0, .inl (cA, 30, .inr (.inl (fun j => lN (g j)))))] s.heap := hP
  have hl := lv_entry ([.ref h0]) (n := 4) (Nat.le_of_ble_eq_true rfl)
  rw [lg_entry_eq]
  generalize (lg_sl ([.ref h0]) ++ List.replicate (4 - (lg_sl ([.ref h0])).length) Slot.unset).toArray = ls at hl ⊢
  have hl : lv_has ls 4 [(0, .ref h0)] := hl
  have hbg := ma_big hk
  have hp3 := hk.1.1
  have hq3 := hk.2.1.1
  have hp9 := hk.1.2.1
  have hq9 := hk.2.1.2.1
  have hkf := ma_keyf hk
  refine lv_lconst (v := lN 1) hx hb d_X_productOfBallots_0 rfl ?_
  refine lv_lstore_n (lv' := [(1, .long (lN 1)), (0, .ref h0)]) hx hb d_X_productOfBallots_1 rfl hl (by decide) rfl (fun ls hl => ?_)
  refine lv_iconst (v := nI 0) hx hb d_X_productOfBallots_2 (by decide) ?_
  refine lv_istore_n (lv' := [(3, .int (nI 0)), (1, .long (lN 1)), (0, .ref h0)]) hx hb d_X_productOfBallots_3 rfl hl (by decide) rfl (fun ls hl => ?_)
  refine lp_X_productOfBallots_4 hx hb hts hown hK hP (by omega) (by omega) hg (fun x i ls hl hq => ?_) _ 1 0 ls (lv_sub hl [1, 0, 2] rfl) (by omega) (by omega) (by show 1 = 1 % (p * q * (p * q)); exact (Nat.mod_eq_of_lt (by omega)).symm) rfl
  refine lv_lload_n hx hb d_X_productOfBallots_41 rfl (lv_at hl 0 rfl) ?_
  exact pu_lret hx hb hr hS d_X_productOfBallots_42 hlocks (congrArg lN hq)
end
section
set_option maxHeartbeats 4000000 in
set_option maxRecDepth 100000 in
theorem c_X_modulus (l : Launch) (dC : Nat → ClassId) (dI : Nat → Nat → Nat) (h0 q0 : Nat) (cA : ClassId) (p q cx rd cl tt bc : Nat) (g : Nat → Nat)  : Met l y_X_modulus w_X_modulus ({ frames := 0, cells := 0, slots := 0, locals := 0 }) (va_Pc [.ref h0] (fun U => va_P (dC, dI) classes [(h0, .inr (0, [.int (nI p), .int (nI q), .int (nI (p * q)), .long (lN (p * q * (p * q))), .long (lN (sp_f p q)), .long (lN (sp_inv p q)), .long (lN (sp_cex p q)), .int (nI cx), .int (nI rd), .int (nI cl), .long (lN tt), .int (nI bc), .ref q0])), (q0, .inl (cA, 30, .inr (.inl (fun j => lN (g j)))))] U.heap ∧ va_K (dC, dI) classes [(cA, .long)] U)) (qI (nI (p * q))) 0 0 (fun _ => False) := by
  refine Met.ofW (cc := b_X_modulus) (maxL := 1) (ret := some .int) (by decide) rfl ?_
  intro pg ev s mi args below meth co s₁ B hml hv
  obtain ⟨rfl, hP, hK⟩ := hv
  have hx := B.exec
  have hb := B.bytes
  have hr := B.returns
  have hts := atoms_spec (ws := w_X_modulus) B.pre
  have hown : s.vm.findClass R_X = some mi.cls := findClass_of_methodNamed B.named
  have hlocks := B.notSynchronized
  have hS : va_S (fun _ => False) s.heap s.heap [] := va_S.rf
  have hP : va_P (dC, dI) classes [(h0, .inr (0, [.int (nI p), .int (nI q), .int (nI (p * q)), .long (lN (p * q * (p * q))), .long (lN (sp_f p q)), .long (lN (sp_inv p q)), .long (lN (sp_cex p q)), .int (nI cx), .int (nI rd), .int (nI cl), .long (lN tt), .int (nI bc), .ref q0])), (q0, .inl (cA, 30, .inr (.inl (fun j => lN (g j)))))] s.heap := hP
  have hl := lv_entry ([.ref h0]) (n := 1) (Nat.le_of_ble_eq_true rfl)
  rw [lg_entry_eq]
  generalize (lg_sl ([.ref h0]) ++ List.replicate (1 - (lg_sl ([.ref h0])).length) Slot.unset).toArray = ls at hl ⊢
  have hl : lv_has ls 1 [(0, .ref h0)] := hl
  refine lv_aload_n hx hb d_X_modulus_0 rfl (lv_at hl 0 rfl) ?_
  refine va_get (D := (dC, dI)) (ci := 0) (v := .int (nI (p * q))) (C := R_X) (T := F_X) (N := 13) hx hb hts f_X hown hK hP 0 rfl rfl 2 (by decide) (hts _ (al_m aw_t15)) (fun _ h9 => h9) rfl d_X_modulus_1 ?_
  exact pu_iret hx hb hr hS d_X_modulus_4 hlocks (rfl)

set_option maxHeartbeats 4000000 in
set_option maxRecDepth 100000 in
theorem c_X_seal (l : Launch) (dC : Nat → ClassId) (dI : Nat → Nat → Nat) (h0 q0 : Nat) (cA : ClassId) (p q cx rd cl tt bc : Nat) (g : Nat → Nat) (x y : Int64) (hj : Jv p q cx rd g) : Met l y_X_seal w_X_seal ({ frames := 3, cells := 0, slots := 0, locals := 64 }) (va_Pc [.ref h0, .long x, .long y] (fun U => va_P (dC, dI) classes [(h0, .inr (0, [.int (nI p), .int (nI q), .int (nI (p * q)), .long (lN (p * q * (p * q))), .long (lN (sp_f p q)), .long (lN (sp_inv p q)), .long (lN (sp_cex p q)), .int (nI cx), .int (nI rd), .int (nI cl), .long (lN tt), .int (nI bc), .ref q0])), (q0, .inl (cA, 30, .inr (.inl (fun j => lN (g j)))))] U.heap ∧ va_K (dC, dI) classes [(cA, .long)] U)) (qL (an_seal p q x y)) 0 0 (fun _ => False) := by
  refine Met.ofW (cc := b_X_seal) (maxL := 5) (ret := some .long) (by decide) rfl ?_
  intro pg ev s mi args below meth co s₁ B hml hv
  obtain ⟨rfl, hP, hK⟩ := hv
  have hx := B.exec
  have hb := B.bytes
  have hr := B.returns
  have hts := atoms_spec (ws := w_X_seal) B.pre
  have hown : s.vm.findClass R_X = some mi.cls := findClass_of_methodNamed B.named
  have hlocks := B.notSynchronized
  have hS : va_S (fun _ => False) s.heap s.heap [] := va_S.rf
  have hP : va_P (dC, dI) classes [(h0, .inr (0, [.int (nI p), .int (nI q), .int (nI (p * q)), .long (lN (p * q * (p * q))), .long (lN (sp_f p q)), .long (lN (sp_inv p q)), .long (lN (sp_cex p q)), .int (nI cx), .int (nI rd), .int (nI cl), .long (lN tt), .int (nI bc), .ref q0])), (q0, .inl (cA, 30, .inr (.inl (fun j => lN (g j)))))] s.heap := hP
  have hl := lv_entry ([.ref h0, .long x, .long y]) (n := 5) (Nat.le_of_ble_eq_true rfl)
  rw [lg_entry_eq]
  generalize (lg_sl ([.ref h0, .long x, .long y]) ++ List.replicate (5 - (lg_sl ([.ref h0, .long x, .long y])).length) Slot.unset).toArray = ls at hl ⊢
  have hl : lv_has ls 5 [(0, .ref h0), (1, .long x), (3, .long y)] := hl
  have hjn := jv_n hj
  refine lv_aload_n hx hb d_X_seal_0 rfl (lv_at hl 0 rfl) ?_
  refine pu_i (va_runV (As := []) (rest := []) ⟨hx, hb, hml, hown, hts⟩ (c_X_hasKey l dC dI h0 q0 cA p q cx rd cl tt bc g (by omega)) (cwV 0 hts (al_V (k_X_hasKey) (aw_t75) (aw_t77) (aw_p0) (aw_t1)) rfl rfl rfl (by decide +kernel) ⟨Nat.le_of_ble_eq_true rfl, Nat.le_of_ble_eq_true rfl⟩) (pu_preV (q0 := 0) (ci := 0) hK hP rfl rfl) rfl rfl hl.1 rfl (lv_room (Nat.le_of_ble_eq_true rfl)) d_X_seal_1 ⟨Nat.zero_le _, Nat.zero_le _⟩) hS (fun H locs hkp hS => ?_)
  have hP := hkp _ _ _ hP
  refine lv_if_ne (tgt := 11) hx hb d_X_seal_4 (by decide) (fun hc4 => ?_) (fun hc4 => ?_)
  · skip
    rw [bI_0] at hc4
    rw [Bool.not_eq_false] at hc4
    have hp0 := jv_t hj hc4
    have hk := jv_key hj hp0
    have hbg := ma_big hk
    have hp3 := hk.1.1
    have hq3 := hk.2.1.1
    have hp9 := hk.1.2.1
    have hq9 := hk.2.1.2.1
    have hkf := ma_keyf hk
    refine lv_aload_n hx hb d_X_seal_11 rfl (lv_at hl 0 rfl) ?_
    refine lv_lload_n hx hb d_X_seal_12 rfl (lv_at hl 1 rfl) ?_
    refine pu_i (va_runV (As := [.long x]) (rest := []) ⟨hx, hb, hml, hown, hts⟩ (c_X_isMessage l dC dI h0 q0 cA p q cx rd cl tt bc g x (by omega)) (cwV 1 hts (al_V (k_X_isMessage) (aw_t80) (aw_t82) (aw_p1) (aw_t1)) rfl rfl rfl (by decide +kernel) ⟨Nat.le_of_ble_eq_true rfl, Nat.le_of_ble_eq_true rfl⟩) (pu_preV (q0 := 0) (ci := 0) hK hP rfl rfl) rfl rfl hl.1 rfl (lv_room (Nat.le_of_ble_eq_true rfl)) d_X_seal_13 ⟨Nat.zero_le _, Nat.zero_le _⟩) hS (fun H locs hkp hS => ?_)
    have hP := hkp _ _ _ hP
    refine lv_if_eq (tgt := 27) hx hb d_X_seal_16 (by decide) (fun hc16 => ?_) (fun hc16 => ?_)
    · skip
      rw [bI_0] at hc16
      refine lv_ldc2 (v := -4) hx hb hown (hts _ (al_m aw_t92)) d_X_seal_27 ?_
      exact pu_lret hx hb hr hS d_X_seal_30 hlocks (by simp [an_seal, hp0, hc16])
    · skip
      rw [bI_0] at hc16
      rw [Bool.not_eq_false] at hc16
      refine lv_aload_n hx hb d_X_seal_19 rfl (lv_at hl 0 rfl) ?_
      refine lv_lload_n hx hb d_X_seal_20 rfl (lv_at hl 2 rfl) ?_
      refine pu_i (va_runV (As := [.long y]) (rest := []) ⟨hx, hb, hml, hown, hts⟩ (c_X_isCoin l dC dI h0 q0 cA p q cx rd cl tt bc g y hk) (cwV 1 hts (al_V (k_X_isCoin) (aw_t84) (aw_t86) (aw_p2) (aw_t1)) rfl rfl rfl (by decide +kernel) ⟨Nat.le_of_ble_eq_true rfl, Nat.le_of_ble_eq_true rfl⟩) (pu_preV (q0 := 0) (ci := 0) hK hP rfl rfl) rfl rfl hl.1 rfl (lv_room (Nat.le_of_ble_eq_true rfl)) d_X_seal_21 ⟨Nat.zero_le _, Nat.zero_le _⟩) hS (fun H locs hkp hS => ?_)
      have hP := hkp _ _ _ hP
      refine lv_if_ne (tgt := 31) hx hb d_X_seal_24 (by decide) (fun hc24 => ?_) (fun hc24 => ?_)
      · skip
        rw [bI_0] at hc24
        rw [Bool.not_eq_false] at hc24
        obtain ⟨a, ha1, ha2, rfl⟩ := sp_isM_of hc16
        obtain ⟨b, hb1, hb2, hb3, hb4, hb5, rfl⟩ := sp_isC_of hc24
        refine lv_aload_n hx hb d_X_seal_31 rfl (lv_at hl 0 rfl) ?_
        refine lv_lload_n hx hb d_X_seal_32 rfl (lv_at hl 1 rfl) ?_
        refine lv_lload_n hx hb d_X_seal_33 rfl (lv_at hl 2 rfl) ?_
        refine pu_l (va_runV (As := [.long (lN a), .long (lN b)]) (rest := []) ⟨hx, hb, hml, hown, hts⟩ (c_X_sealing l dC dI h0 q0 cA p q cx rd cl tt bc g a b hk ha1 (Nat.lt_of_lt_of_le hb2 (Nat.le_mul_of_pos_left _ (by omega)))) (cwV 2 hts (al_V (k_X_sealing) (aw_t93) (aw_t95) (aw_p4) (aw_t1)) rfl rfl rfl (by decide +kernel) ⟨Nat.le_of_ble_eq_true rfl, Nat.le_of_ble_eq_true rfl⟩) (pu_preV (q0 := 0) (ci := 0) hK hP rfl rfl) rfl rfl hl.1 rfl (lv_room (Nat.le_of_ble_eq_true rfl)) d_X_seal_34 ⟨Nat.zero_le _, Nat.zero_le _⟩) hS (fun H locs hkp hS => ?_)
        have hP := hkp _ _ _ hP
        exact pu_lret hx hb hr hS d_X_seal_37 hlocks (by simp [an_seal, hp0, hc16, hc24, lx_nat ha2, lx_nat hb3])
      · skip
        rw [bI_0] at hc24
        refine lv_ldc2 (v := -4) hx hb hown (hts _ (al_m aw_t92)) d_X_seal_27 ?_
        exact pu_lret hx hb hr hS d_X_seal_30 hlocks (by simp [an_seal, hp0, hc16, hc24])
  · skip
    rw [bI_0] at hc4
    have hp0 := jv_f hj hc4
    refine lv_ldc2 (v := -1) hx hb hown (hts _ (al_m aw_t79)) d_X_seal_7 ?_
    exact pu_lret hx hb hr hS d_X_seal_10 hlocks (by simp [an_seal, hp0])

set_option maxHeartbeats 4000000 in
set_option maxRecDepth 100000 in
theorem c_X_message (l : Launch) (dC : Nat → ClassId) (dI : Nat → Nat → Nat) (h0 q0 : Nat) (cA : ClassId) (p q cx rd cl tt bc : Nat) (g : Nat → Nat) (x : Int64) (hj : Jv p q cx rd g) : Met l y_X_message w_X_message ({ frames := 3, cells := 0, slots := 0, locals := 64 }) (va_Pc [.ref h0, .long x] (fun U => va_P (dC, dI) classes [(h0, .inr (0, [.int (nI p), .int (nI q), .int (nI (p * q)), .long (lN (p * q * (p * q))), .long (lN (sp_f p q)), .long (lN (sp_inv p q)), .long (lN (sp_cex p q)), .int (nI cx), .int (nI rd), .int (nI cl), .long (lN tt), .int (nI bc), .ref q0])), (q0, .inl (cA, 30, .inr (.inl (fun j => lN (g j)))))] U.heap ∧ va_K (dC, dI) classes [(cA, .long)] U)) (qL (an_msg p q x)) 0 0 (fun _ => False) := by
  refine Met.ofW (cc := b_X_message) (maxL := 3) (ret := some .long) (by decide) rfl ?_
  intro pg ev s mi args below meth co s₁ B hml hv
  obtain ⟨rfl, hP, hK⟩ := hv
  have hx := B.exec
  have hb := B.bytes
  have hr := B.returns
  have hts := atoms_spec (ws := w_X_message) B.pre
  have hown : s.vm.findClass R_X = some mi.cls := findClass_of_methodNamed B.named
  have hlocks := B.notSynchronized
  have hS : va_S (fun _ => False) s.heap s.heap [] := va_S.rf
  have hP : va_P (dC, dI) classes [(h0, .inr (0, [.int (nI p), .int (nI q), .int (nI (p * q)), .long (lN (p * q * (p * q))), .long (lN (sp_f p q)), .long (lN (sp_inv p q)), .long (lN (sp_cex p q)), .int (nI cx), .int (nI rd), .int (nI cl), .long (lN tt), .int (nI bc), .ref q0])), (q0, .inl (cA, 30, .inr (.inl (fun j => lN (g j)))))] s.heap := hP
  have hl := lv_entry ([.ref h0, .long x]) (n := 3) (Nat.le_of_ble_eq_true rfl)
  rw [lg_entry_eq]
  generalize (lg_sl ([.ref h0, .long x]) ++ List.replicate (3 - (lg_sl ([.ref h0, .long x])).length) Slot.unset).toArray = ls at hl ⊢
  have hl : lv_has ls 3 [(0, .ref h0), (1, .long x)] := hl
  have hjn := jv_n hj
  refine lv_aload_n hx hb d_X_message_0 rfl (lv_at hl 0 rfl) ?_
  refine pu_i (va_runV (As := []) (rest := []) ⟨hx, hb, hml, hown, hts⟩ (c_X_hasKey l dC dI h0 q0 cA p q cx rd cl tt bc g (by omega)) (cwV 0 hts (al_V (k_X_hasKey) (aw_t75) (aw_t77) (aw_p0) (aw_t1)) rfl rfl rfl (by decide +kernel) ⟨Nat.le_of_ble_eq_true rfl, Nat.le_of_ble_eq_true rfl⟩) (pu_preV (q0 := 0) (ci := 0) hK hP rfl rfl) rfl rfl hl.1 rfl (lv_room (Nat.le_of_ble_eq_true rfl)) d_X_message_1 ⟨Nat.zero_le _, Nat.zero_le _⟩) hS (fun H locs hkp hS => ?_)
  have hP := hkp _ _ _ hP
  refine lv_if_ne (tgt := 11) hx hb d_X_message_4 (by decide) (fun hc4 => ?_) (fun hc4 => ?_)
  · skip
    rw [bI_0] at hc4
    rw [Bool.not_eq_false] at hc4
    have hp0 := jv_t hj hc4
    have hk := jv_key hj hp0
    have hbg := ma_big hk
    have hp3 := hk.1.1
    have hq3 := hk.2.1.1
    have hp9 := hk.1.2.1
    have hq9 := hk.2.1.2.1
    have hkf := ma_keyf hk
    refine lv_aload_n hx hb d_X_message_11 rfl (lv_at hl 0 rfl) ?_
    refine lv_lload_n hx hb d_X_message_12 rfl (lv_at hl 1 rfl) ?_
    refine pu_i (va_runV (As := [.long x]) (rest := []) ⟨hx, hb, hml, hown, hts⟩ (c_X_isSeal l dC dI h0 q0 cA p q cx rd cl tt bc g x hk) (cwV 1 hts (al_V (k_X_isSeal) (aw_t101) (aw_t103) (aw_p5) (aw_t1)) rfl rfl rfl (by decide +kernel) ⟨Nat.le_of_ble_eq_true rfl, Nat.le_of_ble_eq_true rfl⟩) (pu_preV (q0 := 0) (ci := 0) hK hP rfl rfl) rfl rfl hl.1 rfl (lv_room (Nat.le_of_ble_eq_true rfl)) d_X_message_13 ⟨Nat.zero_le _, Nat.zero_le _⟩) hS (fun H locs hkp hS => ?_)
    have hP := hkp _ _ _ hP
    refine lv_if_ne (tgt := 23) hx hb d_X_message_16 (by decide) (fun hc16 => ?_) (fun hc16 => ?_)
    · skip
      rw [bI_0] at hc16
      rw [Bool.not_eq_false] at hc16
      obtain ⟨a, ha1, ha2, ha3, ha4, ha5, rfl⟩ := sp_isS_of hc16
      refine lv_aload_n hx hb d_X_message_23 rfl (lv_at hl 0 rfl) ?_
      refine lv_lload_n hx hb d_X_message_24 rfl (lv_at hl 1 rfl) ?_
      refine pu_l (va_runV (As := [.long (lN a)]) (rest := []) ⟨hx, hb, hml, hown, hts⟩ (c_X_messageIn l dC dI h0 q0 cA p q cx rd cl tt bc g a hk ha2 ha4 ha5) (cwV 1 hts (al_V (k_X_messageIn) (aw_t105) (aw_t107) (aw_p6) (aw_t1)) rfl rfl rfl (by decide +kernel) ⟨Nat.le_of_ble_eq_true rfl, Nat.le_of_ble_eq_true rfl⟩) (pu_preV (q0 := 0) (ci := 0) hK hP rfl rfl) rfl rfl hl.1 rfl (lv_room (Nat.le_of_ble_eq_true rfl)) d_X_message_25 ⟨Nat.zero_le _, Nat.zero_le _⟩) hS (fun H locs hkp hS => ?_)
      have hP := hkp _ _ _ hP
      exact pu_lret hx hb hr hS d_X_message_28 hlocks (by simp [an_msg, hp0, hc16, lx_nat ha3])
    · skip
      rw [bI_0] at hc16
      refine lv_ldc2 (v := -4) hx hb hown (hts _ (al_m aw_t92)) d_X_message_19 ?_
      exact pu_lret hx hb hr hS d_X_message_22 hlocks (by simp [an_msg, hp0, hc16])
  · skip
    rw [bI_0] at hc4
    have hp0 := jv_f hj hc4
    refine lv_ldc2 (v := -1) hx hb hown (hts _ (al_m aw_t79)) d_X_message_7 ?_
    exact pu_lret hx hb hr hS d_X_message_10 hlocks (by simp [an_msg, hp0])

set_option maxHeartbeats 4000000 in
set_option maxRecDepth 100000 in
theorem c_X_coin (l : Launch) (dC : Nat → ClassId) (dI : Nat → Nat → Nat) (h0 q0 : Nat) (cA : ClassId) (p q cx rd cl tt bc : Nat) (g : Nat → Nat) (x : Int64) (hj : Jv p q cx rd g) : Met l y_X_coin w_X_coin ({ frames := 3, cells := 0, slots := 0, locals := 64 }) (va_Pc [.ref h0, .long x] (fun U => va_P (dC, dI) classes [(h0, .inr (0, [.int (nI p), .int (nI q), .int (nI (p * q)), .long (lN (p * q * (p * q))), .long (lN (sp_f p q)), .long (lN (sp_inv p q)), .long (lN (sp_cex p q)), .int (nI cx), .int (nI rd), .int (nI cl), .long (lN tt), .int (nI bc), .ref q0])), (q0, .inl (cA, 30, .inr (.inl (fun j => lN (g j)))))] U.heap ∧ va_K (dC, dI) classes [(cA, .long)] U)) (qL (an_coin p q x)) 0 0 (fun _ => False) := by
  refine Met.ofW (cc := b_X_coin) (maxL := 3) (ret := some .long) (by decide) rfl ?_
  intro pg ev s mi args below meth co s₁ B hml hv
  obtain ⟨rfl, hP, hK⟩ := hv
  have hx := B.exec
  have hb := B.bytes
  have hr := B.returns
  have hts := atoms_spec (ws := w_X_coin) B.pre
  have hown : s.vm.findClass R_X = some mi.cls := findClass_of_methodNamed B.named
  have hlocks := B.notSynchronized
  have hS : va_S (fun _ => False) s.heap s.heap [] := va_S.rf
  have hP : va_P (dC, dI) classes [(h0, .inr (0, [.int (nI p), .int (nI q), .int (nI (p * q)), .long (lN (p * q * (p * q))), .long (lN (sp_f p q)), .long (lN (sp_inv p q)), .long (lN (sp_cex p q)), .int (nI cx), .int (nI rd), .int (nI cl), .long (lN tt), .int (nI bc), .ref q0])), (q0, .inl (cA, 30, .inr (.inl (fun j => lN (g j)))))] s.heap := hP
  have hl := lv_entry ([.ref h0, .long x]) (n := 3) (Nat.le_of_ble_eq_true rfl)
  rw [lg_entry_eq]
  generalize (lg_sl ([.ref h0, .long x]) ++ List.replicate (3 - (lg_sl ([.ref h0, .long x])).length) Slot.unset).toArray = ls at hl ⊢
  have hl : lv_has ls 3 [(0, .ref h0), (1, .long x)] := hl
  have hjn := jv_n hj
  refine lv_aload_n hx hb d_X_coin_0 rfl (lv_at hl 0 rfl) ?_
  refine pu_i (va_runV (As := []) (rest := []) ⟨hx, hb, hml, hown, hts⟩ (c_X_hasKey l dC dI h0 q0 cA p q cx rd cl tt bc g (by omega)) (cwV 0 hts (al_V (k_X_hasKey) (aw_t75) (aw_t77) (aw_p0) (aw_t1)) rfl rfl rfl (by decide +kernel) ⟨Nat.le_of_ble_eq_true rfl, Nat.le_of_ble_eq_true rfl⟩) (pu_preV (q0 := 0) (ci := 0) hK hP rfl rfl) rfl rfl hl.1 rfl (lv_room (Nat.le_of_ble_eq_true rfl)) d_X_coin_1 ⟨Nat.zero_le _, Nat.zero_le _⟩) hS (fun H locs hkp hS => ?_)
  have hP := hkp _ _ _ hP
  refine lv_if_ne (tgt := 11) hx hb d_X_coin_4 (by decide) (fun hc4 => ?_) (fun hc4 => ?_)
  · skip
    rw [bI_0] at hc4
    rw [Bool.not_eq_false] at hc4
    have hp0 := jv_t hj hc4
    have hk := jv_key hj hp0
    have hbg := ma_big hk
    have hp3 := hk.1.1
    have hq3 := hk.2.1.1
    have hp9 := hk.1.2.1
    have hq9 := hk.2.1.2.1
    have hkf := ma_keyf hk
    refine lv_aload_n hx hb d_X_coin_11 rfl (lv_at hl 0 rfl) ?_
    refine lv_lload_n hx hb d_X_coin_12 rfl (lv_at hl 1 rfl) ?_
    refine pu_i (va_runV (As := [.long x]) (rest := []) ⟨hx, hb, hml, hown, hts⟩ (c_X_isSeal l dC dI h0 q0 cA p q cx rd cl tt bc g x hk) (cwV 1 hts (al_V (k_X_isSeal) (aw_t101) (aw_t103) (aw_p5) (aw_t1)) rfl rfl rfl (by decide +kernel) ⟨Nat.le_of_ble_eq_true rfl, Nat.le_of_ble_eq_true rfl⟩) (pu_preV (q0 := 0) (ci := 0) hK hP rfl rfl) rfl rfl hl.1 rfl (lv_room (Nat.le_of_ble_eq_true rfl)) d_X_coin_13 ⟨Nat.zero_le _, Nat.zero_le _⟩) hS (fun H locs hkp hS => ?_)
    have hP := hkp _ _ _ hP
    refine lv_if_ne (tgt := 23) hx hb d_X_coin_16 (by decide) (fun hc16 => ?_) (fun hc16 => ?_)
    · skip
      rw [bI_0] at hc16
      rw [Bool.not_eq_false] at hc16
      obtain ⟨a, ha1, ha2, ha3, ha4, ha5, rfl⟩ := sp_isS_of hc16
      refine lv_aload_n hx hb d_X_coin_23 rfl (lv_at hl 0 rfl) ?_
      refine lv_lload_n hx hb d_X_coin_24 rfl (lv_at hl 1 rfl) ?_
      refine pu_l (va_runV (As := [.long (lN a)]) (rest := []) ⟨hx, hb, hml, hown, hts⟩ (c_X_coinIn l dC dI h0 q0 cA p q cx rd cl tt bc g a hk ha3) (cwV 1 hts (al_V (k_X_coinIn) (aw_t113) (aw_t115) (aw_p7) (aw_t1)) rfl rfl rfl (by decide +kernel) ⟨Nat.le_of_ble_eq_true rfl, Nat.le_of_ble_eq_true rfl⟩) (pu_preV (q0 := 0) (ci := 0) hK hP rfl rfl) rfl rfl hl.1 rfl (lv_room (Nat.le_of_ble_eq_true rfl)) d_X_coin_25 ⟨Nat.zero_le _, Nat.zero_le _⟩) hS (fun H locs hkp hS => ?_)
      have hP := hkp _ _ _ hP
      exact pu_lret hx hb hr hS d_X_coin_28 hlocks (by simp [an_coin, hp0, hc16, lx_nat ha3])
    · skip
      rw [bI_0] at hc16
      refine lv_ldc2 (v := -4) hx hb hown (hts _ (al_m aw_t92)) d_X_coin_19 ?_
      exact pu_lret hx hb hr hS d_X_coin_22 hlocks (by simp [an_coin, hp0, hc16])
  · skip
    rw [bI_0] at hc4
    have hp0 := jv_f hj hc4
    refine lv_ldc2 (v := -1) hx hb hown (hts _ (al_m aw_t79)) d_X_coin_7 ?_
    exact pu_lret hx hb hr hS d_X_coin_10 hlocks (by simp [an_coin, hp0])

set_option maxHeartbeats 4000000 in
set_option maxRecDepth 100000 in
theorem c_X_join (l : Launch) (dC : Nat → ClassId) (dI : Nat → Nat → Nat) (h0 q0 : Nat) (cA : ClassId) (p q cx rd cl tt bc : Nat) (g : Nat → Nat) (x y : Int64) (hj : Jv p q cx rd g) : Met l y_X_join w_X_join ({ frames := 3, cells := 0, slots := 0, locals := 64 }) (va_Pc [.ref h0, .long x, .long y] (fun U => va_P (dC, dI) classes [(h0, .inr (0, [.int (nI p), .int (nI q), .int (nI (p * q)), .long (lN (p * q * (p * q))), .long (lN (sp_f p q)), .long (lN (sp_inv p q)), .long (lN (sp_cex p q)), .int (nI cx), .int (nI rd), .int (nI cl), .long (lN tt), .int (nI bc), .ref q0])), (q0, .inl (cA, 30, .inr (.inl (fun j => lN (g j)))))] U.heap ∧ va_K (dC, dI) classes [(cA, .long)] U)) (qL (an_join p q x y)) 0 0 (fun _ => False) := by
  refine Met.ofW (cc := b_X_join) (maxL := 5) (ret := some .long) (by decide) rfl ?_
  intro pg ev s mi args below meth co s₁ B hml hv
  obtain ⟨rfl, hP, hK⟩ := hv
  have hx := B.exec
  have hb := B.bytes
  have hr := B.returns
  have hts := atoms_spec (ws := w_X_join) B.pre
  have hown : s.vm.findClass R_X = some mi.cls := findClass_of_methodNamed B.named
  have hlocks := B.notSynchronized
  have hS : va_S (fun _ => False) s.heap s.heap [] := va_S.rf
  have hP : va_P (dC, dI) classes [(h0, .inr (0, [.int (nI p), .int (nI q), .int (nI (p * q)), .long (lN (p * q * (p * q))), .long (lN (sp_f p q)), .long (lN (sp_inv p q)), .long (lN (sp_cex p q)), .int (nI cx), .int (nI rd), .int (nI cl), .long (lN tt), .int (nI bc), .ref q0])), (q0, .inl (cA, 30, .inr (.inl (fun j => lN (g j)))))] s.heap := hP
  have hl := lv_entry ([.ref h0, .long x, .long y]) (n := 5) (Nat.le_of_ble_eq_true rfl)
  rw [lg_entry_eq]
  generalize (lg_sl ([.ref h0, .long x, .long y]) ++ List.replicate (5 - (lg_sl ([.ref h0, .long x, .long y])).length) Slot.unset).toArray = ls at hl ⊢
  have hl : lv_has ls 5 [(0, .ref h0), (1, .long x), (3, .long y)] := hl
  have hjn := jv_n hj
  refine lv_aload_n hx hb d_X_join_0 rfl (lv_at hl 0 rfl) ?_
  refine pu_i (va_runV (As := []) (rest := []) ⟨hx, hb, hml, hown, hts⟩ (c_X_hasKey l dC dI h0 q0 cA p q cx rd cl tt bc g (by omega)) (cwV 0 hts (al_V (k_X_hasKey) (aw_t75) (aw_t77) (aw_p0) (aw_t1)) rfl rfl rfl (by decide +kernel) ⟨Nat.le_of_ble_eq_true rfl, Nat.le_of_ble_eq_true rfl⟩) (pu_preV (q0 := 0) (ci := 0) hK hP rfl rfl) rfl rfl hl.1 rfl (lv_room (Nat.le_of_ble_eq_true rfl)) d_X_join_1 ⟨Nat.zero_le _, Nat.zero_le _⟩) hS (fun H locs hkp hS => ?_)
  have hP := hkp _ _ _ hP
  refine lv_if_ne (tgt := 11) hx hb d_X_join_4 (by decide) (fun hc4 => ?_) (fun hc4 => ?_)
  · skip
    rw [bI_0] at hc4
    rw [Bool.not_eq_false] at hc4
    have hp0 := jv_t hj hc4
    have hk := jv_key hj hp0
    have hbg := ma_big hk
    have hp3 := hk.1.1
    have hq3 := hk.2.1.1
    have hp9 := hk.1.2.1
    have hq9 := hk.2.1.2.1
    have hkf := ma_keyf hk
    refine lv_aload_n hx hb d_X_join_11 rfl (lv_at hl 0 rfl) ?_
    refine lv_lload_n hx hb d_X_join_12 rfl (lv_at hl 1 rfl) ?_
    refine pu_i (va_runV (As := [.long x]) (rest := []) ⟨hx, hb, hml, hown, hts⟩ (c_X_isSeal l dC dI h0 q0 cA p q cx rd cl tt bc g x hk) (cwV 1 hts (al_V (k_X_isSeal) (aw_t101) (aw_t103) (aw_p5) (aw_t1)) rfl rfl rfl (by decide +kernel) ⟨Nat.le_of_ble_eq_true rfl, Nat.le_of_ble_eq_true rfl⟩) (pu_preV (q0 := 0) (ci := 0) hK hP rfl rfl) rfl rfl hl.1 rfl (lv_room (Nat.le_of_ble_eq_true rfl)) d_X_join_13 ⟨Nat.zero_le _, Nat.zero_le _⟩) hS (fun H locs hkp hS => ?_)
    have hP := hkp _ _ _ hP
    refine lv_if_eq (tgt := 27) hx hb d_X_join_16 (by decide) (fun hc16 => ?_) (fun hc16 => ?_)
    · skip
      rw [bI_0] at hc16
      refine lv_ldc2 (v := -4) hx hb hown (hts _ (al_m aw_t92)) d_X_join_27 ?_
      exact pu_lret hx hb hr hS d_X_join_30 hlocks (by simp [an_join, hp0, hc16])
    · skip
      rw [bI_0] at hc16
      rw [Bool.not_eq_false] at hc16
      refine lv_aload_n hx hb d_X_join_19 rfl (lv_at hl 0 rfl) ?_
      refine lv_lload_n hx hb d_X_join_20 rfl (lv_at hl 2 rfl) ?_
      refine pu_i (va_runV (As := [.long y]) (rest := []) ⟨hx, hb, hml, hown, hts⟩ (c_X_isSeal l dC dI h0 q0 cA p q cx rd cl tt bc g y hk) (cwV 1 hts (al_V (k_X_isSeal) (aw_t101) (aw_t103) (aw_p5) (aw_t1)) rfl rfl rfl (by decide +kernel) ⟨Nat.le_of_ble_eq_true rfl, Nat.le_of_ble_eq_true rfl⟩) (pu_preV (q0 := 0) (ci := 0) hK hP rfl rfl) rfl rfl hl.1 rfl (lv_room (Nat.le_of_ble_eq_true rfl)) d_X_join_21 ⟨Nat.zero_le _, Nat.zero_le _⟩) hS (fun H locs hkp hS => ?_)
      have hP := hkp _ _ _ hP
      refine lv_if_ne (tgt := 31) hx hb d_X_join_24 (by decide) (fun hc24 => ?_) (fun hc24 => ?_)
      · skip
        rw [bI_0] at hc24
        rw [Bool.not_eq_false] at hc24
        obtain ⟨a, ha1, ha2, ha3, ha4, ha5, rfl⟩ := sp_isS_of hc16
        obtain ⟨b, hb1, hb2, hb3, hb4, hb5, rfl⟩ := sp_isS_of hc24
        refine lv_lload_n hx hb d_X_join_31 rfl (lv_at hl 1 rfl) ?_
        refine lv_lload_n hx hb d_X_join_32 rfl (lv_at hl 2 rfl) ?_
        refine lv_lmul hx hb d_X_join_33 ?_
        refine wk_l (y := lN (a * b)) (lN_mul a b) ?_
        refine lv_aload_n hx hb d_X_join_34 rfl (lv_at hl 0 rfl) ?_
        refine va_get (D := (dC, dI)) (ci := 0) (v := .long (lN (p * q * (p * q)))) (C := R_X) (T := F_X) (N := 13) hx hb hts f_X hown hK hP 0 rfl rfl 3 (by decide) (hts _ (al_m aw_t16)) (fun _ h9 => h9) rfl d_X_join_35 ?_
        refine lv_lrem hx hb d_X_join_38 (lN_ne0 (by omega) (by omega)) ?_
        refine wk_l (y := lN (a * b % (p * q * (p * q)))) (pk_lRem (rs_lt ha2 hb2 (by omega)) (by omega) (by omega)) ?_
        exact pu_lret hx hb hr hS d_X_join_39 hlocks (by simp [an_join, hp0, hc16, hc24, lx_nat ha3, lx_nat hb3])
      · skip
        rw [bI_0] at hc24
        refine lv_ldc2 (v := -4) hx hb hown (hts _ (al_m aw_t92)) d_X_join_27 ?_
        exact pu_lret hx hb hr hS d_X_join_30 hlocks (by simp [an_join, hp0, hc16, hc24])
  · skip
    rw [bI_0] at hc4
    have hp0 := jv_f hj hc4
    refine lv_ldc2 (v := -1) hx hb hown (hts _ (al_m aw_t79)) d_X_join_7 ?_
    exact pu_lret hx hb hr hS d_X_join_10 hlocks (by simp [an_join, hp0])

set_option maxHeartbeats 4000000 in
set_option maxRecDepth 100000 in
theorem c_X_power (l : Launch) (dC : Nat → ClassId) (dI : Nat → Nat → Nat) (h0 q0 : Nat) (cA : ClassId) (p q cx rd cl tt bc : Nat) (g : Nat → Nat) (x : Int64) (y : Int32) (hj : Jv p q cx rd g) : Met l y_X_power w_X_power ({ frames := 3, cells := 0, slots := 0, locals := 64 }) (va_Pc [.ref h0, .long x, .int y] (fun U => va_P (dC, dI) classes [(h0, .inr (0, [.int (nI p), .int (nI q), .int (nI (p * q)), .long (lN (p * q * (p * q))), .long (lN (sp_f p q)), .long (lN (sp_inv p q)), .long (lN (sp_cex p q)), .int (nI cx), .int (nI rd), .int (nI cl), .long (lN tt), .int (nI bc), .ref q0])), (q0, .inl (cA, 30, .inr (.inl (fun j => lN (g j)))))] U.heap ∧ va_K (dC, dI) classes [(cA, .long)] U)) (qL (an_power p q x y)) 0 0 (fun _ => False) := by
  refine Met.ofW (cc := b_X_power) (maxL := 6) (ret := some .long) (by decide) rfl ?_
  intro pg ev s mi args below meth co s₁ B hml hv
  obtain ⟨rfl, hP, hK⟩ := hv
  have hx := B.exec
  have hb := B.bytes
  have hr := B.returns
  have hts := atoms_spec (ws := w_X_power) B.pre
  have hown : s.vm.findClass R_X = some mi.cls := findClass_of_methodNamed B.named
  have hlocks := B.notSynchronized
  have hS : va_S (fun _ => False) s.heap s.heap [] := va_S.rf
  have hP : va_P (dC, dI) classes [(h0, .inr (0, [.int (nI p), .int (nI q), .int (nI (p * q)), .long (lN (p * q * (p * q))), .long (lN (sp_f p q)), .long (lN (sp_inv p q)), .long (lN (sp_cex p q)), .int (nI cx), .int (nI rd), .int (nI cl), .long (lN tt), .int (nI bc), .ref q0])), (q0, .inl (cA, 30, .inr (.inl (fun j => lN (g j)))))] s.heap := hP
  have hl := lv_entry ([.ref h0, .long x, .int y]) (n := 6) (Nat.le_of_ble_eq_true rfl)
  rw [lg_entry_eq]
  generalize (lg_sl ([.ref h0, .long x, .int y]) ++ List.replicate (6 - (lg_sl ([.ref h0, .long x, .int y])).length) Slot.unset).toArray = ls at hl ⊢
  have hl : lv_has ls 6 [(0, .ref h0), (1, .long x), (3, .int y)] := hl
  have hjn := jv_n hj
  refine lv_aload_n hx hb d_X_power_0 rfl (lv_at hl 0 rfl) ?_
  refine pu_i (va_runV (As := []) (rest := []) ⟨hx, hb, hml, hown, hts⟩ (c_X_hasKey l dC dI h0 q0 cA p q cx rd cl tt bc g (by omega)) (cwV 0 hts (al_V (k_X_hasKey) (aw_t75) (aw_t77) (aw_p0) (aw_t1)) rfl rfl rfl (by decide +kernel) ⟨Nat.le_of_ble_eq_true rfl, Nat.le_of_ble_eq_true rfl⟩) (pu_preV (q0 := 0) (ci := 0) hK hP rfl rfl) rfl rfl hl.1 rfl (lv_room (Nat.le_of_ble_eq_true rfl)) d_X_power_1 ⟨Nat.zero_le _, Nat.zero_le _⟩) hS (fun H locs hkp hS => ?_)
  have hP := hkp _ _ _ hP
  refine lv_if_ne (tgt := 11) hx hb d_X_power_4 (by decide) (fun hc4 => ?_) (fun hc4 => ?_)
  · skip
    rw [bI_0] at hc4
    rw [Bool.not_eq_false] at hc4
    have hp0 := jv_t hj hc4
    have hk := jv_key hj hp0
    have hbg := ma_big hk
    have hp3 := hk.1.1
    have hq3 := hk.2.1.1
    have hp9 := hk.1.2.1
    have hq9 := hk.2.1.2.1
    have hkf := ma_keyf hk
    refine lv_aload_n hx hb d_X_power_11 rfl (lv_at hl 0 rfl) ?_
    refine lv_lload_n hx hb d_X_power_12 rfl (lv_at hl 1 rfl) ?_
    refine pu_i (va_runV (As := [.long x]) (rest := []) ⟨hx, hb, hml, hown, hts⟩ (c_X_isSeal l dC dI h0 q0 cA p q cx rd cl tt bc g x hk) (cwV 1 hts (al_V (k_X_isSeal) (aw_t101) (aw_t103) (aw_p5) (aw_t1)) rfl rfl rfl (by decide +kernel) ⟨Nat.le_of_ble_eq_true rfl, Nat.le_of_ble_eq_true rfl⟩) (pu_preV (q0 := 0) (ci := 0) hK hP rfl rfl) rfl rfl hl.1 rfl (lv_room (Nat.le_of_ble_eq_true rfl)) d_X_power_13 ⟨Nat.zero_le _, Nat.zero_le _⟩) hS (fun H locs hkp hS => ?_)
    have hP := hkp _ _ _ hP
    refine lv_if_ne (tgt := 23) hx hb d_X_power_16 (by decide) (fun hc16 => ?_) (fun hc16 => ?_)
    · skip
      rw [bI_0] at hc16
      rw [Bool.not_eq_false] at hc16
      obtain ⟨a, ha1, ha2, ha3, ha4, ha5, rfl⟩ := sp_isS_of hc16
      refine lv_iload_n hx hb d_X_power_23 rfl (lv_at hl 2 rfl) ?_
      refine lv_i2l (v := Int32.toInt64 y) hx hb d_X_power_24 (rfl) ?_
      refine lv_aload_n hx hb d_X_power_25 rfl (lv_at hl 0 rfl) ?_
      refine va_get (D := (dC, dI)) (ci := 0) (v := .int (nI (p * q))) (C := R_X) (T := F_X) (N := 13) hx hb hts f_X hown hK hP 0 rfl rfl 2 (by decide) (hts _ (al_m aw_t15)) (fun _ h9 => h9) rfl d_X_power_26 ?_
      refine lv_i2l (v := lN (p * q)) hx hb d_X_power_29 (nI_l (by omega)) ?_
      refine lv_aload_n hx hb d_X_power_30 rfl (lv_at hl 0 rfl) ?_
      refine va_get (D := (dC, dI)) (ci := 0) (v := .long (lN (sp_f p q))) (C := R_X) (T := F_X) (N := 13) hx hb hts f_X hown hK hP 0 rfl rfl 4 (by decide) (hts _ (al_m aw_t17)) (fun _ h9 => h9) rfl d_X_power_31 ?_
      refine lv_lmul hx hb d_X_power_34 ?_
      refine wk_l (y := lN ((p * q) * (sp_f p q))) (lN_mul (p * q) (sp_f p q)) ?_
      refine pu_l (va_runS (As := [.long (Int32.toInt64 y), .long (lN ((p * q) * (sp_f p q)))]) (rest := []) ⟨hx, hb, hml, hown, hts⟩ (c_J_floorMod l (Int32.toInt64 y) (p * q * sp_f p q) (ex_pos hk) (ex_lt hk)) (va_cwS 2 hts (al_S (k_J_floorMod) (aw_t125) (aw_t126) (aw_t3)) rfl rfl rfl (by decide +kernel) ⟨Nat.le_of_ble_eq_true rfl, Nat.le_of_ble_eq_true rfl⟩) pu_preS rfl rfl hl.1 rfl (lv_room (Nat.le_of_ble_eq_true rfl)) d_X_power_35 ⟨Nat.zero_le _, Nat.zero_le _⟩) hS (fun H locs hkp hS => ?_)
      have hP := hkp _ _ _ hP
      refine wk_l (y := lN ((y.toInt % ((p * q * sp_f p q : Nat) : Int)).toNat)) (by rw [Int32.toInt_toInt64]) ?_
      refine lv_lstore (lv' := [(4, .long (lN ((y.toInt % ((p * q * sp_f p q : Nat) : Int)).toNat))), (0, .ref h0), (1, .long (lN a)), (3, .int y)]) hx hb d_X_power_38 hl (by decide) rfl (fun ls hl => ?_)
      refine lv_lload_n hx hb d_X_power_40 rfl (lv_at hl 2 rfl) ?_
      refine lv_lload hx hb d_X_power_41 (lv_at hl 0 rfl) ?_
      refine lv_aload_n hx hb d_X_power_43 rfl (lv_at hl 1 rfl) ?_
      refine va_get (D := (dC, dI)) (ci := 0) (v := .long (lN (p * q * (p * q)))) (C := R_X) (T := F_X) (N := 13) hx hb hts f_X hown hK hP 0 rfl rfl 3 (by decide) (hts _ (al_m aw_t16)) (fun _ h9 => h9) rfl d_X_power_44 ?_
      refine pu_l (va_runS (As := [.long (lN a), .long (lN ((y.toInt % ((p * q * sp_f p q : Nat) : Int)).toNat)), .long (lN (p * q * (p * q)))]) (rest := []) ⟨hx, hb, hml, hown, hts⟩ (c_X_raised l a ((y.toInt % ((p * q * sp_f p q : Nat) : Int)).toNat) (p * q * (p * q)) (ex_32 hk y) (by omega) (by omega) ha2) (va_cwS 3 hts (al_S (k_X_raised) (aw_t64) (aw_t65) (aw_t1)) rfl rfl rfl (by decide +kernel) ⟨Nat.le_of_ble_eq_true rfl, Nat.le_of_ble_eq_true rfl⟩) pu_preS rfl rfl hl.1 rfl (lv_room (Nat.le_of_ble_eq_true rfl)) d_X_power_47 ⟨Nat.zero_le _, Nat.zero_le _⟩) hS (fun H locs hkp hS => ?_)
      have hP := hkp _ _ _ hP
      exact pu_lret hx hb hr hS d_X_power_50 hlocks (by simp only [an_power, if_neg hp0, hc16, if_true, lx_nat ha3])
    · skip
      rw [bI_0] at hc16
      refine lv_ldc2 (v := -4) hx hb hown (hts _ (al_m aw_t92)) d_X_power_19 ?_
      exact pu_lret hx hb hr hS d_X_power_22 hlocks (by simp [an_power, hp0, hc16])
  · skip
    rw [bI_0] at hc4
    have hp0 := jv_f hj hc4
    refine lv_ldc2 (v := -1) hx hb hown (hts _ (al_m aw_t79)) d_X_power_7 ?_
    exact pu_lret hx hb hr hS d_X_power_10 hlocks (by simp [an_power, hp0])

set_option maxHeartbeats 4000000 in
set_option maxRecDepth 100000 in
theorem c_X_choice (l : Launch) (dC : Nat → ClassId) (dI : Nat → Nat → Nat) (h0 q0 : Nat) (cA : ClassId) (p q cx rd cl tt bc : Nat) (g : Nat → Nat) (x : Int32) (y : Int64) (hj : Jv p q cx rd g) (hrd : rd < 2 ^ 31) : Met l y_X_choice w_X_choice ({ frames := 3, cells := 0, slots := 0, locals := 64 }) (va_Pc [.ref h0, .int x, .long y] (fun U => va_P (dC, dI) classes [(h0, .inr (0, [.int (nI p), .int (nI q), .int (nI (p * q)), .long (lN (p * q * (p * q))), .long (lN (sp_f p q)), .long (lN (sp_inv p q)), .long (lN (sp_cex p q)), .int (nI cx), .int (nI rd), .int (nI cl), .long (lN tt), .int (nI bc), .ref q0])), (q0, .inl (cA, 30, .inr (.inl (fun j => lN (g j)))))] U.heap ∧ va_K (dC, dI) classes [(cA, .long)] U)) (qL (an_choice p q cx rd x y)) 0 0 (fun _ => False) := by
  refine Met.ofW (cc := b_X_choice) (maxL := 4) (ret := some .long) (by decide) rfl ?_
  intro pg ev s mi args below meth co s₁ B hml hv
  obtain ⟨rfl, hP, hK⟩ := hv
  have hx := B.exec
  have hb := B.bytes
  have hr := B.returns
  have hts := atoms_spec (ws := w_X_choice) B.pre
  have hown : s.vm.findClass R_X = some mi.cls := findClass_of_methodNamed B.named
  have hlocks := B.notSynchronized
  have hS : va_S (fun _ => False) s.heap s.heap [] := va_S.rf
  have hP : va_P (dC, dI) classes [(h0, .inr (0, [.int (nI p), .int (nI q), .int (nI (p * q)), .long (lN (p * q * (p * q))), .long (lN (sp_f p q)), .long (lN (sp_inv p q)), .long (lN (sp_cex p q)), .int (nI cx), .int (nI rd), .int (nI cl), .long (lN tt), .int (nI bc), .ref q0])), (q0, .inl (cA, 30, .inr (.inl (fun j => lN (g j)))))] s.heap := hP
  have hl := lv_entry ([.ref h0, .int x, .long y]) (n := 4) (Nat.le_of_ble_eq_true rfl)
  rw [lg_entry_eq]
  generalize (lg_sl ([.ref h0, .int x, .long y]) ++ List.replicate (4 - (lg_sl ([.ref h0, .int x, .long y])).length) Slot.unset).toArray = ls at hl ⊢
  have hl : lv_has ls 4 [(0, .ref h0), (1, .int x), (2, .long y)] := hl
  have hjn := jv_n hj
  refine lv_aload_n hx hb d_X_choice_0 rfl (lv_at hl 0 rfl) ?_
  refine pu_i (va_runV (As := []) (rest := []) ⟨hx, hb, hml, hown, hts⟩ (c_X_hasBox l dC dI h0 q0 cA p q cx rd cl tt bc g (by omega)) (cwV 0 hts (al_V (k_X_hasBox) (aw_t143) (aw_t145) (aw_p9) (aw_t1)) rfl rfl rfl (by decide +kernel) ⟨Nat.le_of_ble_eq_true rfl, Nat.le_of_ble_eq_true rfl⟩) (pu_preV (q0 := 0) (ci := 0) hK hP rfl rfl) rfl rfl hl.1 rfl (lv_room (Nat.le_of_ble_eq_true rfl)) d_X_choice_1 ⟨Nat.zero_le _, Nat.zero_le _⟩) hS (fun H locs hkp hS => ?_)
  have hP := hkp _ _ _ hP
  refine lv_if_ne (tgt := 11) hx hb d_X_choice_4 (by decide) (fun hc4 => ?_) (fun hc4 => ?_)
  · skip
    rw [bI_0] at hc4
    rw [Bool.not_eq_false] at hc4
    have hx0 := bx_t hc4
    obtain ⟨hk, hx1, hx6, hr2, hrp, hgj⟩ := jv_box hj hx0
    have hbg := ma_big hk
    have hp3 := hk.1.1
    have hq3 := hk.2.1.1
    have hp9 := hk.1.2.1
    have hq9 := hk.2.1.2.1
    have hkf := ma_keyf hk
    refine lv_aload_n hx hb d_X_choice_11 rfl (lv_at hl 0 rfl) ?_
    refine lv_iload_n hx hb d_X_choice_12 rfl (lv_at hl 1 rfl) ?_
    refine pu_i (va_runV (As := [.int x]) (rest := []) ⟨hx, hb, hml, hown, hts⟩ (c_X_isCandidate l dC dI h0 q0 cA p q cx rd cl tt bc g x (by omega)) (cwV 1 hts (al_V (k_X_isCandidate) (aw_t148) (aw_t150) (aw_p10) (aw_t1)) rfl rfl rfl (by decide +kernel) ⟨Nat.le_of_ble_eq_true rfl, Nat.le_of_ble_eq_true rfl⟩) (pu_preV (q0 := 0) (ci := 0) hK hP rfl rfl) rfl rfl hl.1 rfl (lv_room (Nat.le_of_ble_eq_true rfl)) d_X_choice_13 ⟨Nat.zero_le _, Nat.zero_le _⟩) hS (fun H locs hkp hS => ?_)
    have hP := hkp _ _ _ hP
    refine lv_if_eq (tgt := 27) hx hb d_X_choice_16 (by decide) (fun hc16 => ?_) (fun hc16 => ?_)
    · skip
      rw [bI_0] at hc16
      refine lv_ldc2 (v := -4) hx hb hown (hts _ (al_m aw_t92)) d_X_choice_27 ?_
      exact pu_lret hx hb hr hS d_X_choice_30 hlocks (by simp [an_choice, hx0, hc16])
    · skip
      rw [bI_0] at hc16
      rw [Bool.not_eq_false] at hc16
      refine lv_aload_n hx hb d_X_choice_19 rfl (lv_at hl 0 rfl) ?_
      refine lv_lload_n hx hb d_X_choice_20 rfl (lv_at hl 2 rfl) ?_
      refine pu_i (va_runV (As := [.long y]) (rest := []) ⟨hx, hb, hml, hown, hts⟩ (c_X_isCoin l dC dI h0 q0 cA p q cx rd cl tt bc g y hk) (cwV 1 hts (al_V (k_X_isCoin) (aw_t84) (aw_t86) (aw_p2) (aw_t1)) rfl rfl rfl (by decide +kernel) ⟨Nat.le_of_ble_eq_true rfl, Nat.le_of_ble_eq_true rfl⟩) (pu_preV (q0 := 0) (ci := 0) hK hP rfl rfl) rfl rfl hl.1 rfl (lv_room (Nat.le_of_ble_eq_true rfl)) d_X_choice_21 ⟨Nat.zero_le _, Nat.zero_le _⟩) hS (fun H locs hkp hS => ?_)
      have hP := hkp _ _ _ hP
      refine lv_if_ne (tgt := 31) hx hb d_X_choice_24 (by decide) (fun hc24 => ?_) (fun hc24 => ?_)
      · skip
        rw [bI_0] at hc24
        rw [Bool.not_eq_false] at hc24
        obtain ⟨a, ha1, ha2, rfl⟩ := sp_cand_of hc16
        obtain ⟨b, hb1, hb2, hb3, hb4, hb5, rfl⟩ := sp_isC_of hc24
        refine lv_aload_n hx hb d_X_choice_31 rfl (lv_at hl 0 rfl) ?_
        refine lv_aload_n hx hb d_X_choice_32 rfl (lv_at hl 0 rfl) ?_
        refine lv_iload_n hx hb d_X_choice_33 rfl (lv_at hl 1 rfl) ?_
        refine pu_l (va_runV (As := [.int (nI a)]) (rest := [.ref h0]) ⟨hx, hb, hml, hown, hts⟩ (c_X_radixPower l dC dI h0 q0 cA p q cx rd cl tt bc g a hrd ha2) (cwV 1 hts (al_V (k_X_radixPower) (aw_t152) (aw_t154) (aw_p11) (aw_t1)) rfl rfl rfl (by decide +kernel) ⟨Nat.le_of_ble_eq_true rfl, Nat.le_of_ble_eq_true rfl⟩) (pu_preV (q0 := 0) (ci := 0) hK hP rfl rfl) rfl rfl hl.1 rfl (lv_room (Nat.le_of_ble_eq_true rfl)) d_X_choice_34 ⟨Nat.zero_le _, Nat.zero_le _⟩) hS (fun H locs hkp hS => ?_)
        have hP := hkp _ _ _ hP
        refine lv_lload_n hx hb d_X_choice_37 rfl (lv_at hl 2 rfl) ?_
        refine pu_l (va_runV (As := [.long (lN (rd ^ a)), .long (lN b)]) (rest := []) ⟨hx, hb, hml, hown, hts⟩ (c_X_sealing l dC dI h0 q0 cA p q cx rd cl tt bc g (rd ^ a) b hk (rp_lt ha1 hr2 hrp) (Nat.lt_of_lt_of_le hb2 (Nat.le_mul_of_pos_left _ (by omega)))) (cwV 2 hts (al_V (k_X_sealing) (aw_t93) (aw_t95) (aw_p4) (aw_t1)) rfl rfl rfl (by decide +kernel) ⟨Nat.le_of_ble_eq_true rfl, Nat.le_of_ble_eq_true rfl⟩) (pu_preV (q0 := 0) (ci := 0) hK hP rfl rfl) rfl rfl hl.1 rfl (lv_room (Nat.le_of_ble_eq_true rfl)) d_X_choice_38 ⟨Nat.zero_le _, Nat.zero_le _⟩) hS (fun H locs hkp hS => ?_)
        have hP := hkp _ _ _ hP
        exact pu_lret hx hb hr hS d_X_choice_41 hlocks (by simp [an_choice, hx0, hc16, hc24, ix_nat ha2, lx_nat hb3])
      · skip
        rw [bI_0] at hc24
        refine lv_ldc2 (v := -4) hx hb hown (hts _ (al_m aw_t92)) d_X_choice_27 ?_
        exact pu_lret hx hb hr hS d_X_choice_30 hlocks (by simp [an_choice, hx0, hc16, hc24])
  · skip
    rw [bI_0] at hc4
    have hx0 := bx_f hc4
    refine lv_ldc2 (v := -2) hx hb hown (hts _ (al_m aw_t147)) d_X_choice_7 ?_
    exact pu_lret hx hb hr hS d_X_choice_10 hlocks (by simp [an_choice, hx0])

set_option maxHeartbeats 4000000 in
set_option maxRecDepth 100000 in
theorem c_X_ballot (l : Launch) (dC : Nat → ClassId) (dI : Nat → Nat → Nat) (h0 q0 : Nat) (cA : ClassId) (p q cx rd cl tt bc : Nat) (g : Nat → Nat) (x : Int32) (hj : Jv p q cx rd g) (hrd : rd < 2 ^ 31) : Met l y_X_ballot w_X_ballot ({ frames := 1, cells := 0, slots := 0, locals := 20 }) (va_Pc [.ref h0, .int x] (fun U => va_P (dC, dI) classes [(h0, .inr (0, [.int (nI p), .int (nI q), .int (nI (p * q)), .long (lN (p * q * (p * q))), .long (lN (sp_f p q)), .long (lN (sp_inv p q)), .long (lN (sp_cex p q)), .int (nI cx), .int (nI rd), .int (nI cl), .long (lN tt), .int (nI bc), .ref q0])), (q0, .inl (cA, 30, .inr (.inl (fun j => lN (g j)))))] U.heap ∧ va_K (dC, dI) classes [(cA, .long)] U)) (qL (an_ballot cx g x)) 0 0 (fun _ => False) := by
  refine Met.ofW (cc := b_X_ballot) (maxL := 2) (ret := some .long) (by decide) rfl ?_
  intro pg ev s mi args below meth co s₁ B hml hv
  obtain ⟨rfl, hP, hK⟩ := hv
  have hx := B.exec
  have hb := B.bytes
  have hr := B.returns
  have hts := atoms_spec (ws := w_X_ballot) B.pre
  have hown : s.vm.findClass R_X = some mi.cls := findClass_of_methodNamed B.named
  have hlocks := B.notSynchronized
  have hS : va_S (fun _ => False) s.heap s.heap [] := va_S.rf
  have hP : va_P (dC, dI) classes [(h0, .inr (0, [.int (nI p), .int (nI q), .int (nI (p * q)), .long (lN (p * q * (p * q))), .long (lN (sp_f p q)), .long (lN (sp_inv p q)), .long (lN (sp_cex p q)), .int (nI cx), .int (nI rd), .int (nI cl), .long (lN tt), .int (nI bc), .ref q0])), (q0, .inl (cA, 30, .inr (.inl (fun j => lN (g j)))))] s.heap := hP
  have hl := lv_entry ([.ref h0, .int x]) (n := 2) (Nat.le_of_ble_eq_true rfl)
  rw [lg_entry_eq]
  generalize (lg_sl ([.ref h0, .int x]) ++ List.replicate (2 - (lg_sl ([.ref h0, .int x])).length) Slot.unset).toArray = ls at hl ⊢
  have hl : lv_has ls 2 [(0, .ref h0), (1, .int x)] := hl
  have hjn := jv_n hj
  refine lv_aload_n hx hb d_X_ballot_0 rfl (lv_at hl 0 rfl) ?_
  refine pu_i (va_runV (As := []) (rest := []) ⟨hx, hb, hml, hown, hts⟩ (c_X_hasBox l dC dI h0 q0 cA p q cx rd cl tt bc g (by omega)) (cwV 0 hts (al_V (k_X_hasBox) (aw_t143) (aw_t145) (aw_p9) (aw_t1)) rfl rfl rfl (by decide +kernel) ⟨Nat.le_of_ble_eq_true rfl, Nat.le_of_ble_eq_true rfl⟩) (pu_preV (q0 := 0) (ci := 0) hK hP rfl rfl) rfl rfl hl.1 rfl (lv_room (Nat.le_of_ble_eq_true rfl)) d_X_ballot_1 ⟨Nat.zero_le _, Nat.zero_le _⟩) hS (fun H locs hkp hS => ?_)
  have hP := hkp _ _ _ hP
  refine lv_if_ne (tgt := 11) hx hb d_X_ballot_4 (by decide) (fun hc4 => ?_) (fun hc4 => ?_)
  · skip
    rw [bI_0] at hc4
    rw [Bool.not_eq_false] at hc4
    have hx0 := bx_t hc4
    obtain ⟨hk, hx1, hx6, hr2, hrp, hgj⟩ := jv_box hj hx0
    have hbg := ma_big hk
    have hp3 := hk.1.1
    have hq3 := hk.2.1.1
    have hp9 := hk.1.2.1
    have hq9 := hk.2.1.2.1
    have hkf := ma_keyf hk
    refine lv_iload_n hx hb d_X_ballot_11 rfl (lv_at hl 1 rfl) ?_
    refine pu_i (va_runS (As := [.int x]) (rest := []) ⟨hx, hb, hml, hown, hts⟩ (c_X_isVoter l x) (va_cwS 1 hts (al_S (k_X_isVoter) (aw_t160) (aw_t161) (aw_t1)) rfl rfl rfl (by decide +kernel) ⟨Nat.le_of_ble_eq_true rfl, Nat.le_of_ble_eq_true rfl⟩) pu_preS rfl rfl hl.1 rfl (lv_room (Nat.le_of_ble_eq_true rfl)) d_X_ballot_12 ⟨Nat.zero_le _, Nat.zero_le _⟩) hS (fun H locs hkp hS => ?_)
    have hP := hkp _ _ _ hP
    refine lv_if_ne (tgt := 22) hx hb d_X_ballot_15 (by decide) (fun hc15 => ?_) (fun hc15 => ?_)
    · skip
      rw [bI_0] at hc15
      rw [Bool.not_eq_false] at hc15
      obtain ⟨a, ha1, ha2, rfl⟩ := sp_cand_of hc15
      have hga := (hgj a ha1).1
      refine lv_aload_n hx hb d_X_ballot_22 rfl (lv_at hl 0 rfl) ?_
      refine va_get (D := (dC, dI)) (ci := 0) (v := .ref q0) (C := R_X) (T := F_X) (N := 13) hx hb hts f_X hown hK hP 0 rfl rfl 12 (by decide) (hts _ (al_m aw_t25)) (fun _ h9 => h9) rfl d_X_ballot_23 ?_
      refine lv_iload_n hx hb d_X_ballot_26 rfl (lv_at hl 1 rfl) ?_
      refine va_lald hx hb hK hP 1 0 rfl rfl (vp_in_nI (by omega) (by decide)) d_X_ballot_27 ?_
      refine wk_l (y := lN (g a)) (by rw [nI_clamp (by omega)]) ?_
      refine lv_lconst (v := lN 0) hx hb d_X_ballot_28 rfl ?_
      refine W.lcmp hx hb d_X_ballot_29 ?_
      refine lv_if_ne (tgt := 39) hx hb d_X_ballot_30 (by decide) (fun hc30 => ?_) (fun hc30 => ?_)
      · skip
        rw [lg_cmp_eq] at hc30
        rw [pk_lEQ (a := g a) (b := 0) (by omega) (by omega)] at hc30
        refine lv_aload_n hx hb d_X_ballot_39 rfl (lv_at hl 0 rfl) ?_
        refine va_get (D := (dC, dI)) (ci := 0) (v := .ref q0) (C := R_X) (T := F_X) (N := 13) hx hb hts f_X hown hK hP 0 rfl rfl 12 (by decide) (hts _ (al_m aw_t25)) (fun _ h9 => h9) rfl d_X_ballot_40 ?_
        refine lv_iload_n hx hb d_X_ballot_43 rfl (lv_at hl 1 rfl) ?_
        refine va_lald hx hb hK hP 1 0 rfl rfl (vp_in_nI (by omega) (by decide)) d_X_ballot_44 ?_
        refine wk_l (y := lN (g a)) (by rw [nI_clamp (by omega)]) ?_
        exact pu_lret hx hb hr hS d_X_ballot_45 hlocks (by simp [an_ballot, hx0, hc15, hc30, ix_nat ha2])
      · skip
        rw [lg_cmp_eq] at hc30
        rw [pk_lEQ (a := g a) (b := 0) (by omega) (by omega)] at hc30
        refine lv_ldc2 (v := -6) hx hb hown (hts _ (al_m aw_t168)) d_X_ballot_33 ?_
        refine lv_goto (tgt := 45) hx hb d_X_ballot_36 (by decide) ?_
        exact pu_lret hx hb hr hS d_X_ballot_45 hlocks (by simp [an_ballot, hx0, hc15, hc30, ix_nat ha2])
    · skip
      rw [bI_0] at hc15
      refine lv_ldc2 (v := -4) hx hb hown (hts _ (al_m aw_t92)) d_X_ballot_18 ?_
      exact pu_lret hx hb hr hS d_X_ballot_21 hlocks (by simp [an_ballot, hx0, hc15])
  · skip
    rw [bI_0] at hc4
    have hx0 := bx_f hc4
    refine lv_ldc2 (v := -2) hx hb hown (hts _ (al_m aw_t147)) d_X_ballot_7 ?_
    exact pu_lret hx hb hr hS d_X_ballot_10 hlocks (by simp [an_ballot, hx0])

set_option maxHeartbeats 4000000 in
set_option maxRecDepth 100000 in
theorem c_X_ballots (l : Launch) (dC : Nat → ClassId) (dI : Nat → Nat → Nat) (h0 q0 : Nat) (cA : ClassId) (p q cx rd cl tt bc : Nat) (g : Nat → Nat) (hj : Jv p q cx rd g) (hbc : bc = sp_cnt g 30) : Met l y_X_ballots w_X_ballots ({ frames := 1, cells := 0, slots := 0, locals := 20 }) (va_Pc [.ref h0] (fun U => va_P (dC, dI) classes [(h0, .inr (0, [.int (nI p), .int (nI q), .int (nI (p * q)), .long (lN (p * q * (p * q))), .long (lN (sp_f p q)), .long (lN (sp_inv p q)), .long (lN (sp_cex p q)), .int (nI cx), .int (nI rd), .int (nI cl), .long (lN tt), .int (nI bc), .ref q0])), (q0, .inl (cA, 30, .inr (.inl (fun j => lN (g j)))))] U.heap ∧ va_K (dC, dI) classes [(cA, .long)] U)) (qI (an_ballots cx g)) 0 0 (fun _ => False) := by
  refine Met.ofW (cc := b_X_ballots) (maxL := 1) (ret := some .int) (by decide) rfl ?_
  intro pg ev s mi args below meth co s₁ B hml hv
  obtain ⟨rfl, hP, hK⟩ := hv
  have hx := B.exec
  have hb := B.bytes
  have hr := B.returns
  have hts := atoms_spec (ws := w_X_ballots) B.pre
  have hown : s.vm.findClass R_X = some mi.cls := findClass_of_methodNamed B.named
  have hlocks := B.notSynchronized
  have hS : va_S (fun _ => False) s.heap s.heap [] := va_S.rf
  have hP : va_P (dC, dI) classes [(h0, .inr (0, [.int (nI p), .int (nI q), .int (nI (p * q)), .long (lN (p * q * (p * q))), .long (lN (sp_f p q)), .long (lN (sp_inv p q)), .long (lN (sp_cex p q)), .int (nI cx), .int (nI rd), .int (nI cl), .long (lN tt), .int (nI bc), .ref q0])), (q0, .inl (cA, 30, .inr (.inl (fun j => lN (g j)))))] s.heap := hP
  have hl := lv_entry ([.ref h0]) (n := 1) (Nat.le_of_ble_eq_true rfl)
  rw [lg_entry_eq]
  generalize (lg_sl ([.ref h0]) ++ List.replicate (1 - (lg_sl ([.ref h0])).length) Slot.unset).toArray = ls at hl ⊢
  have hl : lv_has ls 1 [(0, .ref h0)] := hl
  have hjn := jv_n hj
  refine lv_aload_n hx hb d_X_ballots_0 rfl (lv_at hl 0 rfl) ?_
  refine pu_i (va_runV (As := []) (rest := []) ⟨hx, hb, hml, hown, hts⟩ (c_X_hasBox l dC dI h0 q0 cA p q cx rd cl tt bc g (by omega)) (cwV 0 hts (al_V (k_X_hasBox) (aw_t143) (aw_t145) (aw_p9) (aw_t1)) rfl rfl rfl (by decide +kernel) ⟨Nat.le_of_ble_eq_true rfl, Nat.le_of_ble_eq_true rfl⟩) (pu_preV (q0 := 0) (ci := 0) hK hP rfl rfl) rfl rfl hl.1 rfl (lv_room (Nat.le_of_ble_eq_true rfl)) d_X_ballots_1 ⟨Nat.zero_le _, Nat.zero_le _⟩) hS (fun H locs hkp hS => ?_)
  have hP := hkp _ _ _ hP
  refine lv_if_eq (tgt := 14) hx hb d_X_ballots_4 (by decide) (fun hc4 => ?_) (fun hc4 => ?_)
  · skip
    rw [bI_0] at hc4
    have hx0 := bx_f hc4
    refine lv_bipush (v := -2) hx hb d_X_ballots_14 (by decide) ?_
    exact pu_iret hx hb hr hS d_X_ballots_16 hlocks (by simp [an_ballots, hx0, hbc])
  · skip
    rw [bI_0] at hc4
    rw [Bool.not_eq_false] at hc4
    have hx0 := bx_t hc4
    obtain ⟨hk, hx1, hx6, hr2, hrp, hgj⟩ := jv_box hj hx0
    have hbg := ma_big hk
    have hp3 := hk.1.1
    have hq3 := hk.2.1.1
    have hp9 := hk.1.2.1
    have hq9 := hk.2.1.2.1
    have hkf := ma_keyf hk
    refine lv_aload_n hx hb d_X_ballots_7 rfl (lv_at hl 0 rfl) ?_
    refine va_get (D := (dC, dI)) (ci := 0) (v := .int (nI bc)) (C := R_X) (T := F_X) (N := 13) hx hb hts f_X hown hK hP 0 rfl rfl 11 (by decide) (hts _ (al_m aw_t24)) (fun _ h9 => h9) rfl d_X_ballots_8 ?_
    refine lv_goto (tgt := 16) hx hb d_X_ballots_11 (by decide) ?_
    exact pu_iret hx hb hr hS d_X_ballots_16 hlocks (by simp [an_ballots, hx0, hbc])

set_option maxHeartbeats 4000000 in
set_option maxRecDepth 100000 in
theorem c_X_sum (l : Launch) (dC : Nat → ClassId) (dI : Nat → Nat → Nat) (h0 q0 : Nat) (cA : ClassId) (p q cx rd cl tt bc : Nat) (g : Nat → Nat) (hj : Jv p q cx rd g) (hrd : rd < 2 ^ 31) : Met l y_X_sum w_X_sum ({ frames := 1, cells := 0, slots := 0, locals := 23 }) (va_Pc [.ref h0] (fun U => va_P (dC, dI) classes [(h0, .inr (0, [.int (nI p), .int (nI q), .int (nI (p * q)), .long (lN (p * q * (p * q))), .long (lN (sp_f p q)), .long (lN (sp_inv p q)), .long (lN (sp_cex p q)), .int (nI cx), .int (nI rd), .int (nI cl), .long (lN tt), .int (nI bc), .ref q0])), (q0, .inl (cA, 30, .inr (.inl (fun j => lN (g j)))))] U.heap ∧ va_K (dC, dI) classes [(cA, .long)] U)) (qL (an_sum p q cx g)) 0 0 (fun _ => False) := by
  refine Met.ofW (cc := b_X_sum) (maxL := 1) (ret := some .long) (by decide) rfl ?_
  intro pg ev s mi args below meth co s₁ B hml hv
  obtain ⟨rfl, hP, hK⟩ := hv
  have hx := B.exec
  have hb := B.bytes
  have hr := B.returns
  have hts := atoms_spec (ws := w_X_sum) B.pre
  have hown : s.vm.findClass R_X = some mi.cls := findClass_of_methodNamed B.named
  have hlocks := B.notSynchronized
  have hS : va_S (fun _ => False) s.heap s.heap [] := va_S.rf
  have hP : va_P (dC, dI) classes [(h0, .inr (0, [.int (nI p), .int (nI q), .int (nI (p * q)), .long (lN (p * q * (p * q))), .long (lN (sp_f p q)), .long (lN (sp_inv p q)), .long (lN (sp_cex p q)), .int (nI cx), .int (nI rd), .int (nI cl), .long (lN tt), .int (nI bc), .ref q0])), (q0, .inl (cA, 30, .inr (.inl (fun j => lN (g j)))))] s.heap := hP
  have hl := lv_entry ([.ref h0]) (n := 1) (Nat.le_of_ble_eq_true rfl)
  rw [lg_entry_eq]
  generalize (lg_sl ([.ref h0]) ++ List.replicate (1 - (lg_sl ([.ref h0])).length) Slot.unset).toArray = ls at hl ⊢
  have hl : lv_has ls 1 [(0, .ref h0)] := hl
  have hjn := jv_n hj
  refine lv_aload_n hx hb d_X_sum_0 rfl (lv_at hl 0 rfl) ?_
  refine pu_i (va_runV (As := []) (rest := []) ⟨hx, hb, hml, hown, hts⟩ (c_X_hasBox l dC dI h0 q0 cA p q cx rd cl tt bc g (by omega)) (cwV 0 hts (al_V (k_X_hasBox) (aw_t143) (aw_t145) (aw_p9) (aw_t1)) rfl rfl rfl (by decide +kernel) ⟨Nat.le_of_ble_eq_true rfl, Nat.le_of_ble_eq_true rfl⟩) (pu_preV (q0 := 0) (ci := 0) hK hP rfl rfl) rfl rfl hl.1 rfl (lv_room (Nat.le_of_ble_eq_true rfl)) d_X_sum_1 ⟨Nat.zero_le _, Nat.zero_le _⟩) hS (fun H locs hkp hS => ?_)
  have hP := hkp _ _ _ hP
  refine lv_if_eq (tgt := 14) hx hb d_X_sum_4 (by decide) (fun hc4 => ?_) (fun hc4 => ?_)
  · skip
    rw [bI_0] at hc4
    have hx0 := bx_f hc4
    refine lv_ldc2 (v := -2) hx hb hown (hts _ (al_m aw_t147)) d_X_sum_14 ?_
    exact pu_lret hx hb hr hS d_X_sum_17 hlocks (by simp [an_sum, hx0])
  · skip
    rw [bI_0] at hc4
    rw [Bool.not_eq_false] at hc4
    have hx0 := bx_t hc4
    obtain ⟨hk, hx1, hx6, hr2, hrp, hgj⟩ := jv_box hj hx0
    have hbg := ma_big hk
    have hp3 := hk.1.1
    have hq3 := hk.2.1.1
    have hp9 := hk.1.2.1
    have hq9 := hk.2.1.2.1
    have hkf := ma_keyf hk
    refine lv_aload_n hx hb d_X_sum_7 rfl (lv_at hl 0 rfl) ?_
    refine pu_l (va_runV (As := []) (rest := []) ⟨hx, hb, hml, hown, hts⟩ (c_X_productOfBallots l dC dI h0 q0 cA p q cx rd cl tt bc g hk (fun j hj0 => (hgj j hj0).1)) (cwV 0 hts (al_V (k_X_productOfBallots) (aw_t181) (aw_t183) (aw_p12) (aw_t1)) rfl rfl rfl (by decide +kernel) ⟨Nat.le_of_ble_eq_true rfl, Nat.le_of_ble_eq_true rfl⟩) (pu_preV (q0 := 0) (ci := 0) hK hP rfl rfl) rfl rfl hl.1 rfl (lv_room (Nat.le_of_ble_eq_true rfl)) d_X_sum_8 ⟨Nat.zero_le _, Nat.zero_le _⟩) hS (fun H locs hkp hS => ?_)
    have hP := hkp _ _ _ hP
    refine lv_goto (tgt := 17) hx hb d_X_sum_11 (by decide) ?_
    exact pu_lret hx hb hr hS d_X_sum_17 hlocks (by simp [an_sum, hx0])

set_option maxHeartbeats 4000000 in
set_option maxRecDepth 100000 in
theorem c_X_votes (l : Launch) (dC : Nat → ClassId) (dI : Nat → Nat → Nat) (h0 q0 : Nat) (cA : ClassId) (p q cx rd cl tt bc : Nat) (g : Nat → Nat) (x : Int32) (hj : Jv p q cx rd g) (hrd : rd < 2 ^ 31) (hcl : cl ≤ 1) (htt : cl = 1 → cx ≠ 0 → tt = sp_msg p q (sp_prod g 30 % sq_ p q)) : Met l y_X_votes w_X_votes ({ frames := 1, cells := 0, slots := 0, locals := 24 }) (va_Pc [.ref h0, .int x] (fun U => va_P (dC, dI) classes [(h0, .inr (0, [.int (nI p), .int (nI q), .int (nI (p * q)), .long (lN (p * q * (p * q))), .long (lN (sp_f p q)), .long (lN (sp_inv p q)), .long (lN (sp_cex p q)), .int (nI cx), .int (nI rd), .int (nI cl), .long (lN tt), .int (nI bc), .ref q0])), (q0, .inl (cA, 30, .inr (.inl (fun j => lN (g j)))))] U.heap ∧ va_K (dC, dI) classes [(cA, .long)] U)) (qI (an_votes p q cx rd cl g x)) 0 0 (fun _ => False) := by
  refine Met.ofW (cc := b_X_votes) (maxL := 2) (ret := some .int) (by decide) rfl ?_
  intro pg ev s mi args below meth co s₁ B hml hv
  obtain ⟨rfl, hP, hK⟩ := hv
  have hx := B.exec
  have hb := B.bytes
  have hr := B.returns
  have hts := atoms_spec (ws := w_X_votes) B.pre
  have hown : s.vm.findClass R_X = some mi.cls := findClass_of_methodNamed B.named
  have hlocks := B.notSynchronized
  have hS : va_S (fun _ => False) s.heap s.heap [] := va_S.rf
  have hP : va_P (dC, dI) classes [(h0, .inr (0, [.int (nI p), .int (nI q), .int (nI (p * q)), .long (lN (p * q * (p * q))), .long (lN (sp_f p q)), .long (lN (sp_inv p q)), .long (lN (sp_cex p q)), .int (nI cx), .int (nI rd), .int (nI cl), .long (lN tt), .int (nI bc), .ref q0])), (q0, .inl (cA, 30, .inr (.inl (fun j => lN (g j)))))] s.heap := hP
  have hl := lv_entry ([.ref h0, .int x]) (n := 2) (Nat.le_of_ble_eq_true rfl)
  rw [lg_entry_eq]
  generalize (lg_sl ([.ref h0, .int x]) ++ List.replicate (2 - (lg_sl ([.ref h0, .int x])).length) Slot.unset).toArray = ls at hl ⊢
  have hl : lv_has ls 2 [(0, .ref h0), (1, .int x)] := hl
  have hjn := jv_n hj
  refine lv_aload_n hx hb d_X_votes_0 rfl (lv_at hl 0 rfl) ?_
  refine pu_i (va_runV (As := []) (rest := []) ⟨hx, hb, hml, hown, hts⟩ (c_X_hasBox l dC dI h0 q0 cA p q cx rd cl tt bc g (by omega)) (cwV 0 hts (al_V (k_X_hasBox) (aw_t143) (aw_t145) (aw_p9) (aw_t1)) rfl rfl rfl (by decide +kernel) ⟨Nat.le_of_ble_eq_true rfl, Nat.le_of_ble_eq_true rfl⟩) (pu_preV (q0 := 0) (ci := 0) hK hP rfl rfl) rfl rfl hl.1 rfl (lv_room (Nat.le_of_ble_eq_true rfl)) d_X_votes_1 ⟨Nat.zero_le _, Nat.zero_le _⟩) hS (fun H locs hkp hS => ?_)
  have hP := hkp _ _ _ hP
  refine lv_if_ne (tgt := 10) hx hb d_X_votes_4 (by decide) (fun hc4 => ?_) (fun hc4 => ?_)
  · skip
    rw [bI_0] at hc4
    rw [Bool.not_eq_false] at hc4
    have hx0 := bx_t hc4
    obtain ⟨hk, hx1, hx6, hr2, hrp, hgj⟩ := jv_box hj hx0
    have hbg := ma_big hk
    have hp3 := hk.1.1
    have hq3 := hk.2.1.1
    have hp9 := hk.1.2.1
    have hq9 := hk.2.1.2.1
    have hkf := ma_keyf hk
    refine lv_aload_n hx hb d_X_votes_10 rfl (lv_at hl 0 rfl) ?_
    refine lv_iload_n hx hb d_X_votes_11 rfl (lv_at hl 1 rfl) ?_
    refine pu_i (va_runV (As := [.int x]) (rest := []) ⟨hx, hb, hml, hown, hts⟩ (c_X_isCandidate l dC dI h0 q0 cA p q cx rd cl tt bc g x (by omega)) (cwV 1 hts (al_V (k_X_isCandidate) (aw_t148) (aw_t150) (aw_p10) (aw_t1)) rfl rfl rfl (by decide +kernel) ⟨Nat.le_of_ble_eq_true rfl, Nat.le_of_ble_eq_true rfl⟩) (pu_preV (q0 := 0) (ci := 0) hK hP rfl rfl) rfl rfl hl.1 rfl (lv_room (Nat.le_of_ble_eq_true rfl)) d_X_votes_12 ⟨Nat.zero_le _, Nat.zero_le _⟩) hS (fun H locs hkp hS => ?_)
    have hP := hkp _ _ _ hP
    refine lv_if_ne (tgt := 21) hx hb d_X_votes_15 (by decide) (fun hc15 => ?_) (fun hc15 => ?_)
    · skip
      rw [bI_0] at hc15
      rw [Bool.not_eq_false] at hc15
      obtain ⟨a, ha1, ha2, rfl⟩ := sp_cand_of hc15
      refine lv_aload_n hx hb d_X_votes_21 rfl (lv_at hl 0 rfl) ?_
      refine va_get (D := (dC, dI)) (ci := 0) (v := .int (nI cl)) (C := R_X) (T := F_X) (N := 13) hx hb hts f_X hown hK hP 0 rfl rfl 9 (by decide) (hts _ (al_m aw_t22)) (fun _ h9 => h9) rfl d_X_votes_22 ?_
      refine lv_if_ne (tgt := 31) hx hb d_X_votes_25 (by decide) (fun hc25 => ?_) (fun hc25 => ?_)
      · skip
        rw [← nI_0] at hc25
        rw [nI_eq (a := cl) (b := 0) (by omega) (by omega)] at hc25
        have hc1 : cl = 1 := by omega
        have htv := htt hc1 hx0
        have htl : tt < 2 ^ 63 := by rw [htv]; exact Nat.lt_trans (fa_sm hk _) (by omega)
        have hdl : tt / rd ^ a ≤ tt := Nat.div_le_self _ _
        refine lv_aload_n hx hb d_X_votes_31 rfl (lv_at hl 0 rfl) ?_
        refine va_get (D := (dC, dI)) (ci := 0) (v := .long (lN tt)) (C := R_X) (T := F_X) (N := 13) hx hb hts f_X hown hK hP 0 rfl rfl 10 (by decide) (hts _ (al_m aw_t23)) (fun _ h9 => h9) rfl d_X_votes_32 ?_
        refine lv_aload_n hx hb d_X_votes_35 rfl (lv_at hl 0 rfl) ?_
        refine lv_iload_n hx hb d_X_votes_36 rfl (lv_at hl 1 rfl) ?_
        refine pu_l (va_runV (As := [.int (nI a)]) (rest := [.long (lN tt)]) ⟨hx, hb, hml, hown, hts⟩ (c_X_radixPower l dC dI h0 q0 cA p q cx rd cl tt bc g a hrd ha2) (cwV 1 hts (al_V (k_X_radixPower) (aw_t152) (aw_t154) (aw_p11) (aw_t1)) rfl rfl rfl (by decide +kernel) ⟨Nat.le_of_ble_eq_true rfl, Nat.le_of_ble_eq_true rfl⟩) (pu_preV (q0 := 0) (ci := 0) hK hP rfl rfl) rfl rfl hl.1 rfl (lv_room (Nat.le_of_ble_eq_true rfl)) d_X_votes_37 ⟨Nat.zero_le _, Nat.zero_le _⟩) hS (fun H locs hkp hS => ?_)
        have hP := hkp _ _ _ hP
        have hra := rp_lt ha1 hr2 hrp
        have hrz : 0 < rd ^ a := Nat.pow_pos (by omega)
        refine lv_ldiv hx hb d_X_votes_40 (lN_ne0 (by omega) (by omega)) ?_
        refine wk_l (y := lN (tt / (rd ^ a))) (pk_lDiv (by omega) (by omega) (by omega)) ?_
        have hm40 := Nat.div_le_self tt (rd ^ a)
        refine lv_aload_n hx hb d_X_votes_41 rfl (lv_at hl 0 rfl) ?_
        refine va_get (D := (dC, dI)) (ci := 0) (v := .int (nI rd)) (C := R_X) (T := F_X) (N := 13) hx hb hts f_X hown hK hP 0 rfl rfl 8 (by decide) (hts _ (al_m aw_t21)) (fun _ h9 => h9) rfl d_X_votes_42 ?_
        refine lv_i2l (v := lN rd) hx hb d_X_votes_45 (nI_l (by omega)) ?_
        refine lv_lrem hx hb d_X_votes_46 (lN_ne0 (by omega) (by omega)) ?_
        refine wk_l (y := lN ((tt / (rd ^ a)) % rd)) (pk_lRem (by omega) (by omega) (by omega)) ?_
        have hm46 := Nat.mod_le (tt / (rd ^ a)) rd
        refine lv_l2i (v := nI ((tt / (rd ^ a)) % rd)) hx hb d_X_votes_47 (lN_i ((tt / (rd ^ a)) % rd)) ?_
        exact pu_iret hx hb hr hS d_X_votes_48 hlocks (by simp [an_votes, hx0, hc15, hc1, ix_nat ha2, htv])
      · skip
        rw [← nI_0] at hc25
        rw [nI_eq (a := cl) (b := 0) (by omega) (by omega)] at hc25
        refine lv_bipush (v := -6) hx hb d_X_votes_28 (by decide) ?_
        exact pu_iret hx hb hr hS d_X_votes_30 hlocks (by simp [an_votes, hx0, hc15, hc25])
    · skip
      rw [bI_0] at hc15
      refine lv_bipush (v := -4) hx hb d_X_votes_18 (by decide) ?_
      exact pu_iret hx hb hr hS d_X_votes_20 hlocks (by simp [an_votes, hx0, hc15])
  · skip
    rw [bI_0] at hc4
    have hx0 := bx_f hc4
    refine lv_bipush (v := -2) hx hb d_X_votes_7 (by decide) ?_
    exact pu_iret hx hb hr hS d_X_votes_9 hlocks (by simp [an_votes, hx0])

set_option maxHeartbeats 4000000 in
set_option maxRecDepth 100000 in
theorem c_X_witness (l : Launch) (dC : Nat → ClassId) (dI : Nat → Nat → Nat) (h0 q0 : Nat) (cA : ClassId) (p q cx rd cl tt bc : Nat) (g : Nat → Nat) (hj : Jv p q cx rd g) (hcl : cl ≤ 1) : Met l y_X_witness w_X_witness ({ frames := 2, cells := 0, slots := 0, locals := 52 }) (va_Pc [.ref h0] (fun U => va_P (dC, dI) classes [(h0, .inr (0, [.int (nI p), .int (nI q), .int (nI (p * q)), .long (lN (p * q * (p * q))), .long (lN (sp_f p q)), .long (lN (sp_inv p q)), .long (lN (sp_cex p q)), .int (nI cx), .int (nI rd), .int (nI cl), .long (lN tt), .int (nI bc), .ref q0])), (q0, .inl (cA, 30, .inr (.inl (fun j => lN (g j)))))] U.heap ∧ va_K (dC, dI) classes [(cA, .long)] U)) (qL (an_witness p q cx cl g)) 0 0 (fun _ => False) := by
  refine Met.ofW (cc := b_X_witness) (maxL := 1) (ret := some .long) (by decide) rfl ?_
  intro pg ev s mi args below meth co s₁ B hml hv
  obtain ⟨rfl, hP, hK⟩ := hv
  have hx := B.exec
  have hb := B.bytes
  have hr := B.returns
  have hts := atoms_spec (ws := w_X_witness) B.pre
  have hown : s.vm.findClass R_X = some mi.cls := findClass_of_methodNamed B.named
  have hlocks := B.notSynchronized
  have hS : va_S (fun _ => False) s.heap s.heap [] := va_S.rf
  have hP : va_P (dC, dI) classes [(h0, .inr (0, [.int (nI p), .int (nI q), .int (nI (p * q)), .long (lN (p * q * (p * q))), .long (lN (sp_f p q)), .long (lN (sp_inv p q)), .long (lN (sp_cex p q)), .int (nI cx), .int (nI rd), .int (nI cl), .long (lN tt), .int (nI bc), .ref q0])), (q0, .inl (cA, 30, .inr (.inl (fun j => lN (g j)))))] s.heap := hP
  have hl := lv_entry ([.ref h0]) (n := 1) (Nat.le_of_ble_eq_true rfl)
  rw [lg_entry_eq]
  generalize (lg_sl ([.ref h0]) ++ List.replicate (1 - (lg_sl ([.ref h0])).length) Slot.unset).toArray = ls at hl ⊢
  have hl : lv_has ls 1 [(0, .ref h0)] := hl
  have hjn := jv_n hj
  refine lv_aload_n hx hb d_X_witness_0 rfl (lv_at hl 0 rfl) ?_
  refine pu_i (va_runV (As := []) (rest := []) ⟨hx, hb, hml, hown, hts⟩ (c_X_hasBox l dC dI h0 q0 cA p q cx rd cl tt bc g (by omega)) (cwV 0 hts (al_V (k_X_hasBox) (aw_t143) (aw_t145) (aw_p9) (aw_t1)) rfl rfl rfl (by decide +kernel) ⟨Nat.le_of_ble_eq_true rfl, Nat.le_of_ble_eq_true rfl⟩) (pu_preV (q0 := 0) (ci := 0) hK hP rfl rfl) rfl rfl hl.1 rfl (lv_room (Nat.le_of_ble_eq_true rfl)) d_X_witness_1 ⟨Nat.zero_le _, Nat.zero_le _⟩) hS (fun H locs hkp hS => ?_)
  have hP := hkp _ _ _ hP
  refine lv_if_ne (tgt := 11) hx hb d_X_witness_4 (by decide) (fun hc4 => ?_) (fun hc4 => ?_)
  · skip
    rw [bI_0] at hc4
    rw [Bool.not_eq_false] at hc4
    have hx0 := bx_t hc4
    obtain ⟨hk, hx1, hx6, hr2, hrp, hgj⟩ := jv_box hj hx0
    have hbg := ma_big hk
    have hp3 := hk.1.1
    have hq3 := hk.2.1.1
    have hp9 := hk.1.2.1
    have hq9 := hk.2.1.2.1
    have hkf := ma_keyf hk
    refine lv_aload_n hx hb d_X_witness_11 rfl (lv_at hl 0 rfl) ?_
    refine va_get (D := (dC, dI)) (ci := 0) (v := .int (nI cl)) (C := R_X) (T := F_X) (N := 13) hx hb hts f_X hown hK hP 0 rfl rfl 9 (by decide) (hts _ (al_m aw_t22)) (fun _ h9 => h9) rfl d_X_witness_12 ?_
    refine lv_if_ne (tgt := 22) hx hb d_X_witness_15 (by decide) (fun hc15 => ?_) (fun hc15 => ?_)
    · skip
      rw [← nI_0] at hc15
      rw [nI_eq (a := cl) (b := 0) (by omega) (by omega)] at hc15
      refine lv_aload_n hx hb d_X_witness_22 rfl (lv_at hl 0 rfl) ?_
      refine lv_aload_n hx hb d_X_witness_23 rfl (lv_at hl 0 rfl) ?_
      refine pu_l (va_runV (As := []) (rest := [.ref h0]) ⟨hx, hb, hml, hown, hts⟩ (c_X_productOfBallots l dC dI h0 q0 cA p q cx rd cl tt bc g hk (fun j hj0 => (hgj j hj0).1)) (cwV 0 hts (al_V (k_X_productOfBallots) (aw_t181) (aw_t183) (aw_p12) (aw_t1)) rfl rfl rfl (by decide +kernel) ⟨Nat.le_of_ble_eq_true rfl, Nat.le_of_ble_eq_true rfl⟩) (pu_preV (q0 := 0) (ci := 0) hK hP rfl rfl) rfl rfl hl.1 rfl (lv_room (Nat.le_of_ble_eq_true rfl)) d_X_witness_24 ⟨Nat.zero_le _, Nat.zero_le _⟩) hS (fun H locs hkp hS => ?_)
      have hP := hkp _ _ _ hP
      refine pu_l (va_runV (As := [.long (lN (sp_prod g 30 % (p * q * (p * q))))]) (rest := []) ⟨hx, hb, hml, hown, hts⟩ (c_X_coinIn l dC dI h0 q0 cA p q cx rd cl tt bc g (sp_prod g 30 % (p * q * (p * q))) hk (Nat.lt_of_lt_of_le (Nat.mod_lt _ (by omega)) (by omega))) (cwV 1 hts (al_V (k_X_coinIn) (aw_t113) (aw_t115) (aw_p7) (aw_t1)) rfl rfl rfl (by decide +kernel) ⟨Nat.le_of_ble_eq_true rfl, Nat.le_of_ble_eq_true rfl⟩) (pu_preV (q0 := 0) (ci := 0) hK hP rfl rfl) rfl rfl hl.1 rfl (lv_room (Nat.le_of_ble_eq_true rfl)) d_X_witness_27 ⟨Nat.zero_le _, Nat.zero_le _⟩) hS (fun H locs hkp hS => ?_)
      have hP := hkp _ _ _ hP
      exact pu_lret hx hb hr hS d_X_witness_30 hlocks (by simp [an_witness, hx0, hc15])
    · skip
      rw [← nI_0] at hc15
      rw [nI_eq (a := cl) (b := 0) (by omega) (by omega)] at hc15
      refine lv_ldc2 (v := -6) hx hb hown (hts _ (al_m aw_t168)) d_X_witness_18 ?_
      exact pu_lret hx hb hr hS d_X_witness_21 hlocks (by simp [an_witness, hx0, hc15])
  · skip
    rw [bI_0] at hc4
    have hx0 := bx_f hc4
    refine lv_ldc2 (v := -2) hx hb hown (hts _ (al_m aw_t147)) d_X_witness_7 ?_
    exact pu_lret hx hb hr hS d_X_witness_10 hlocks (by simp [an_witness, hx0])

set_option maxHeartbeats 4000000 in
set_option maxRecDepth 100000 in
theorem c_X_check (l : Launch) (dC : Nat → ClassId) (dI : Nat → Nat → Nat) (h0 q0 : Nat) (cA : ClassId) (p q cx rd cl tt bc : Nat) (g : Nat → Nat) (x y : Int64) (hj : Jv p q cx rd g) (hrd : rd < 2 ^ 31) : Met l y_X_check w_X_check ({ frames := 3, cells := 0, slots := 0, locals := 64 }) (va_Pc [.ref h0, .long x, .long y] (fun U => va_P (dC, dI) classes [(h0, .inr (0, [.int (nI p), .int (nI q), .int (nI (p * q)), .long (lN (p * q * (p * q))), .long (lN (sp_f p q)), .long (lN (sp_inv p q)), .long (lN (sp_cex p q)), .int (nI cx), .int (nI rd), .int (nI cl), .long (lN tt), .int (nI bc), .ref q0])), (q0, .inl (cA, 30, .inr (.inl (fun j => lN (g j)))))] U.heap ∧ va_K (dC, dI) classes [(cA, .long)] U)) (qI (bI (an_check p q cx g x y))) 0 0 (fun _ => False) := by
  refine Met.ofW (cc := b_X_check) (maxL := 5) (ret := some .boolean) (by decide) rfl ?_
  intro pg ev s mi args below meth co s₁ B hml hv
  obtain ⟨rfl, hP, hK⟩ := hv
  have hx := B.exec
  have hb := B.bytes
  have hr := B.returns
  have hts := atoms_spec (ws := w_X_check) B.pre
  have hown : s.vm.findClass R_X = some mi.cls := findClass_of_methodNamed B.named
  have hlocks := B.notSynchronized
  have hS : va_S (fun _ => False) s.heap s.heap [] := va_S.rf
  have hP : va_P (dC, dI) classes [(h0, .inr (0, [.int (nI p), .int (nI q), .int (nI (p * q)), .long (lN (p * q * (p * q))), .long (lN (sp_f p q)), .long (lN (sp_inv p q)), .long (lN (sp_cex p q)), .int (nI cx), .int (nI rd), .int (nI cl), .long (lN tt), .int (nI bc), .ref q0])), (q0, .inl (cA, 30, .inr (.inl (fun j => lN (g j)))))] s.heap := hP
  have hl := lv_entry ([.ref h0, .long x, .long y]) (n := 5) (Nat.le_of_ble_eq_true rfl)
  rw [lg_entry_eq]
  generalize (lg_sl ([.ref h0, .long x, .long y]) ++ List.replicate (5 - (lg_sl ([.ref h0, .long x, .long y])).length) Slot.unset).toArray = ls at hl ⊢
  have hl : lv_has ls 5 [(0, .ref h0), (1, .long x), (3, .long y)] := hl
  have hjn := jv_n hj
  refine lv_aload_n hx hb d_X_check_0 rfl (lv_at hl 0 rfl) ?_
  refine pu_i (va_runV (As := []) (rest := []) ⟨hx, hb, hml, hown, hts⟩ (c_X_hasBox l dC dI h0 q0 cA p q cx rd cl tt bc g (by omega)) (cwV 0 hts (al_V (k_X_hasBox) (aw_t143) (aw_t145) (aw_p9) (aw_t1)) rfl rfl rfl (by decide +kernel) ⟨Nat.le_of_ble_eq_true rfl, Nat.le_of_ble_eq_true rfl⟩) (pu_preV (q0 := 0) (ci := 0) hK hP rfl rfl) rfl rfl hl.1 rfl (lv_room (Nat.le_of_ble_eq_true rfl)) d_X_check_1 ⟨Nat.zero_le _, Nat.zero_le _⟩) hS (fun H locs hkp hS => ?_)
  have hP := hkp _ _ _ hP
  refine lv_if_eq (tgt := 41) hx hb d_X_check_4 (by decide) (fun hc4 => ?_) (fun hc4 => ?_)
  · skip
    rw [bI_0] at hc4
    have hx0 := bx_f hc4
    refine lv_iconst (v := nI 0) hx hb d_X_check_41 (by decide) ?_
    exact pu_zret hx hb hr (by decide) hS d_X_check_42 hlocks ((bI_f (by simp [an_check, hx0])).symm)
  · skip
    rw [bI_0] at hc4
    rw [Bool.not_eq_false] at hc4
    have hx0 := bx_t hc4
    obtain ⟨hk, hx1, hx6, hr2, hrp, hgj⟩ := jv_box hj hx0
    have hbg := ma_big hk
    have hp3 := hk.1.1
    have hq3 := hk.2.1.1
    have hp9 := hk.1.2.1
    have hq9 := hk.2.1.2.1
    have hkf := ma_keyf hk
    refine lv_aload_n hx hb d_X_check_7 rfl (lv_at hl 0 rfl) ?_
    refine lv_lload_n hx hb d_X_check_8 rfl (lv_at hl 1 rfl) ?_
    refine pu_i (va_runV (As := [.long x]) (rest := []) ⟨hx, hb, hml, hown, hts⟩ (c_X_isMessage l dC dI h0 q0 cA p q cx rd cl tt bc g x (by omega)) (cwV 1 hts (al_V (k_X_isMessage) (aw_t80) (aw_t82) (aw_p1) (aw_t1)) rfl rfl rfl (by decide +kernel) ⟨Nat.le_of_ble_eq_true rfl, Nat.le_of_ble_eq_true rfl⟩) (pu_preV (q0 := 0) (ci := 0) hK hP rfl rfl) rfl rfl hl.1 rfl (lv_room (Nat.le_of_ble_eq_true rfl)) d_X_check_9 ⟨Nat.zero_le _, Nat.zero_le _⟩) hS (fun H locs hkp hS => ?_)
    have hP := hkp _ _ _ hP
    refine lv_if_eq (tgt := 41) hx hb d_X_check_12 (by decide) (fun hc12 => ?_) (fun hc12 => ?_)
    · skip
      rw [bI_0] at hc12
      refine lv_iconst (v := nI 0) hx hb d_X_check_41 (by decide) ?_
      exact pu_zret hx hb hr (by decide) hS d_X_check_42 hlocks ((bI_f (by simp [an_check, hx0, hc12])).symm)
    · skip
      rw [bI_0] at hc12
      rw [Bool.not_eq_false] at hc12
      refine lv_aload_n hx hb d_X_check_15 rfl (lv_at hl 0 rfl) ?_
      refine lv_lload_n hx hb d_X_check_16 rfl (lv_at hl 2 rfl) ?_
      refine pu_i (va_runV (As := [.long y]) (rest := []) ⟨hx, hb, hml, hown, hts⟩ (c_X_isCoin l dC dI h0 q0 cA p q cx rd cl tt bc g y hk) (cwV 1 hts (al_V (k_X_isCoin) (aw_t84) (aw_t86) (aw_p2) (aw_t1)) rfl rfl rfl (by decide +kernel) ⟨Nat.le_of_ble_eq_true rfl, Nat.le_of_ble_eq_true rfl⟩) (pu_preV (q0 := 0) (ci := 0) hK hP rfl rfl) rfl rfl hl.1 rfl (lv_room (Nat.le_of_ble_eq_true rfl)) d_X_check_17 ⟨Nat.zero_le _, Nat.zero_le _⟩) hS (fun H locs hkp hS => ?_)
      have hP := hkp _ _ _ hP
      refine lv_if_eq (tgt := 41) hx hb d_X_check_20 (by decide) (fun hc20 => ?_) (fun hc20 => ?_)
      · skip
        rw [bI_0] at hc20
        refine lv_iconst (v := nI 0) hx hb d_X_check_41 (by decide) ?_
        exact pu_zret hx hb hr (by decide) hS d_X_check_42 hlocks ((bI_f (by simp [an_check, hx0, hc12, hc20])).symm)
      · skip
        rw [bI_0] at hc20
        rw [Bool.not_eq_false] at hc20
        obtain ⟨a, ha1, ha2, rfl⟩ := sp_isM_of hc12
        obtain ⟨b, hb1, hb2, hb3, hb4, hb5, rfl⟩ := sp_isC_of hc20
        refine lv_aload_n hx hb d_X_check_23 rfl (lv_at hl 0 rfl) ?_
        refine lv_lload_n hx hb d_X_check_24 rfl (lv_at hl 1 rfl) ?_
        refine lv_lload_n hx hb d_X_check_25 rfl (lv_at hl 2 rfl) ?_
        refine pu_l (va_runV (As := [.long (lN a), .long (lN b)]) (rest := []) ⟨hx, hb, hml, hown, hts⟩ (c_X_sealing l dC dI h0 q0 cA p q cx rd cl tt bc g a b hk ha1 (Nat.lt_of_lt_of_le hb2 (Nat.le_mul_of_pos_left _ (by omega)))) (cwV 2 hts (al_V (k_X_sealing) (aw_t93) (aw_t95) (aw_p4) (aw_t1)) rfl rfl rfl (by decide +kernel) ⟨Nat.le_of_ble_eq_true rfl, Nat.le_of_ble_eq_true rfl⟩) (pu_preV (q0 := 0) (ci := 0) hK hP rfl rfl) rfl rfl hl.1 rfl (lv_room (Nat.le_of_ble_eq_true rfl)) d_X_check_26 ⟨Nat.zero_le _, Nat.zero_le _⟩) hS (fun H locs hkp hS => ?_)
        have hP := hkp _ _ _ hP
        refine lv_aload_n hx hb d_X_check_29 rfl (lv_at hl 0 rfl) ?_
        refine pu_l (va_runV (As := []) (rest := [.long (lN (sp_seal p q a b))]) ⟨hx, hb, hml, hown, hts⟩ (c_X_productOfBallots l dC dI h0 q0 cA p q cx rd cl tt bc g hk (fun j hj0 => (hgj j hj0).1)) (cwV 0 hts (al_V (k_X_productOfBallots) (aw_t181) (aw_t183) (aw_p12) (aw_t1)) rfl rfl rfl (by decide +kernel) ⟨Nat.le_of_ble_eq_true rfl, Nat.le_of_ble_eq_true rfl⟩) (pu_preV (q0 := 0) (ci := 0) hK hP rfl rfl) rfl rfl hl.1 rfl (lv_room (Nat.le_of_ble_eq_true rfl)) d_X_check_30 ⟨Nat.zero_le _, Nat.zero_le _⟩) hS (fun H locs hkp hS => ?_)
        have hP := hkp _ _ _ hP
        have hs1 : sp_seal p q a b < p * q * (p * q) := Nat.mod_lt _ (by omega)
        have hs2 : sp_prod g 30 % (p * q * (p * q)) < p * q * (p * q) := Nat.mod_lt _ (by omega)
        refine W.lcmp hx hb d_X_check_33 ?_
        refine lv_if_ne (tgt := 41) hx hb d_X_check_34 (by decide) (fun hc34 => ?_) (fun hc34 => ?_)
        · skip
          rw [lg_cmp_eq] at hc34
          rw [pk_lEQ (a := sp_seal p q a b) (b := sp_prod g 30 % (p * q * (p * q))) (by omega) (by omega)] at hc34
          refine lv_iconst (v := nI 0) hx hb d_X_check_41 (by decide) ?_
          exact pu_zret hx hb hr (by decide) hS d_X_check_42 hlocks ((bI_f (by simp [an_check, hx0, hc12, hc20, lx_nat ha2, lx_nat hb3, hc34])).symm)
        · skip
          rw [lg_cmp_eq] at hc34
          rw [pk_lEQ (a := sp_seal p q a b) (b := sp_prod g 30 % (p * q * (p * q))) (by omega) (by omega)] at hc34
          refine lv_iconst (v := nI 1) hx hb d_X_check_37 (by decide) ?_
          refine lv_goto (tgt := 42) hx hb d_X_check_38 (by decide) ?_
          exact pu_zret hx hb hr (by decide) hS d_X_check_42 hlocks ((bI_t (by simp [an_check, hx0, hc12, hc20, lx_nat ha2, lx_nat hb3, hc34])).symm)
end
section
set_option maxHeartbeats 4000000 in
set_option maxRecDepth 100000 in
theorem c_M_isMessage (l : Launch) (dC : Nat → ClassId) (dI : Nat → Nat → Nat) (h1 q1 : Nat) (cB : ClassId) (p q bx cl cd rd : Nat) (g : Nat → Nat) (x : Int64) (hn : p * q ≤ 52441) : Met l y_M_isMessage w_M_isMessage ({ frames := 0, cells := 0, slots := 0, locals := 0 }) (va_Pc [.ref h1, .long x] (fun U => va_P (dC, dI) classes [(h1, .inr (1, [.long (lN (p * q)), .long (lN (p * q * (p * q))), .long (lN (sp_f p q)), .long (lN (sp_cex p q)), .int (nI bx), .int (nI cl), .int (nI cd), .int (nI rd), .ref q1])), (q1, .inl (cB, 30, .inr (.inl (fun j => lN (g j)))))] U.heap ∧ va_K (dC, dI) classes [(cB, .long)] U)) (qI (bI (sp_isM p q x))) 0 0 (fun _ => False) := by
  refine Met.ofW (cc := b_M_isMessage) (maxL := 3) (ret := some .boolean) (by decide) rfl ?_
  intro pg ev s mi args below meth co s₁ B hml hv
  obtain ⟨rfl, hP, hK⟩ := hv
  have hx := B.exec
  have hb := B.bytes
  have hr := B.returns
  have hts := atoms_spec (ws := w_M_isMessage) B.pre
  have hown : s.vm.findClass R_M = some mi.cls := findClass_of_methodNamed B.named
  have hlocks := B.notSynchronized
  have hS : va_S (fun _ => False) s.heap s.heap [] := va_S.rf
  have hP : va_P (dC, dI) classes [(h1, .inr (1, [.long (lN (p * q)), .long (lN (p * q * (p * q))), .long (lN (sp_f p q)), .long (lN (sp_cex p q)), .int (nI bx), .int (nI cl), .int (nI cd), .int (nI rd), .ref q1])), (q1, .inl (cB, 30, .inr (.inl (fun j => lN (g j)))))] s.heap := hP
  have hl := lv_entry ([.ref h1, .long x]) (n := 3) (Nat.le_of_ble_eq_true rfl)
  rw [lg_entry_eq]
  generalize (lg_sl ([.ref h1, .long x]) ++ List.replicate (3 - (lg_sl ([.ref h1, .long x])).length) Slot.unset).toArray = ls at hl ⊢
  have hl : lv_has ls 3 [(0, .ref h1), (1, .long x)] := hl
  refine lv_lload_n hx hb d_M_isMessage_0 rfl (lv_at hl 1 rfl) ?_
  refine lv_lconst (v := lN 0) hx hb d_M_isMessage_1 rfl ?_
  refine W.lcmp hx hb d_M_isMessage_2 ?_
  refine lv_if_lt (tgt := 19) hx hb d_M_isMessage_3 (by decide) (fun hc3 => ?_) (fun hc3 => ?_)
  · skip
    rw [lg_cmp_lt] at hc3
    rw [lx_lt (x := x) (n := 0) (by omega)] at hc3
    refine lv_iconst (v := nI 0) hx hb d_M_isMessage_19 (by decide) ?_
    exact pu_zret hx hb hr (by decide) hS d_M_isMessage_20 hlocks ((bI_f (by simp only [sp_isM, Bool.and_eq_false_iff, decide_eq_false_iff_not]; omega)).symm)
  · skip
    rw [lg_cmp_lt] at hc3
    rw [lx_lt (x := x) (n := 0) (by omega)] at hc3
    refine lv_lload_n hx hb d_M_isMessage_6 rfl (lv_at hl 1 rfl) ?_
    refine lv_aload_n hx hb d_M_isMessage_7 rfl (lv_at hl 0 rfl) ?_
    refine va_get (D := (dC, dI)) (ci := 1) (v := .long (lN (p * q))) (C := R_M) (T := F_M) (N := 9) hx hb hts f_M hown hK hP 0 rfl rfl 0 (by decide) (hts _ (al_m aw_t207)) (fun _ h9 => h9) rfl d_M_isMessage_8 ?_
    refine W.lcmp hx hb d_M_isMessage_11 ?_
    refine lv_if_ge (tgt := 19) hx hb d_M_isMessage_12 (by decide) (fun hc12 => ?_) (fun hc12 => ?_)
    · skip
      rw [lg_cmp_ge] at hc12
      rw [lx_le (x := x) (n := p * q) (by omega)] at hc12
      refine lv_iconst (v := nI 0) hx hb d_M_isMessage_19 (by decide) ?_
      exact pu_zret hx hb hr (by decide) hS d_M_isMessage_20 hlocks ((bI_f (by simp only [sp_isM, Bool.and_eq_false_iff, decide_eq_false_iff_not]; omega)).symm)
    · skip
      rw [lg_cmp_ge] at hc12
      rw [lx_le (x := x) (n := p * q) (by omega)] at hc12
      refine lv_iconst (v := nI 1) hx hb d_M_isMessage_15 (by decide) ?_
      refine lv_goto (tgt := 20) hx hb d_M_isMessage_16 (by decide) ?_
      exact pu_zret hx hb hr (by decide) hS d_M_isMessage_20 hlocks ((bI_t (by simp only [sp_isM, Bool.and_eq_true, decide_eq_true_eq]; omega)).symm)

set_option maxHeartbeats 4000000 in
set_option maxRecDepth 100000 in
theorem c_M_isCoin (l : Launch) (dC : Nat → ClassId) (dI : Nat → Nat → Nat) (h1 q1 : Nat) (cB : ClassId) (p q bx cl cd rd : Nat) (g : Nat → Nat) (x : Int64) (hk : ma_K p q) : Met l y_M_isCoin w_M_isCoin ({ frames := 1, cells := 0, slots := 0, locals := 29 }) (va_Pc [.ref h1, .long x] (fun U => va_P (dC, dI) classes [(h1, .inr (1, [.long (lN (p * q)), .long (lN (p * q * (p * q))), .long (lN (sp_f p q)), .long (lN (sp_cex p q)), .int (nI bx), .int (nI cl), .int (nI cd), .int (nI rd), .ref q1])), (q1, .inl (cB, 30, .inr (.inl (fun j => lN (g j)))))] U.heap ∧ va_K (dC, dI) classes [(cB, .long)] U)) (qI (bI (sp_isC p q x))) 0 0 (fun _ => False) := by
  refine Met.ofW (cc := b_M_isCoin) (maxL := 3) (ret := some .boolean) (by decide) rfl ?_
  intro pg ev s mi args below meth co s₁ B hml hv
  obtain ⟨rfl, hP, hK⟩ := hv
  have hx := B.exec
  have hb := B.bytes
  have hr := B.returns
  have hts := atoms_spec (ws := w_M_isCoin) B.pre
  have hown : s.vm.findClass R_M = some mi.cls := findClass_of_methodNamed B.named
  have hlocks := B.notSynchronized
  have hS : va_S (fun _ => False) s.heap s.heap [] := va_S.rf
  have hP : va_P (dC, dI) classes [(h1, .inr (1, [.long (lN (p * q)), .long (lN (p * q * (p * q))), .long (lN (sp_f p q)), .long (lN (sp_cex p q)), .int (nI bx), .int (nI cl), .int (nI cd), .int (nI rd), .ref q1])), (q1, .inl (cB, 30, .inr (.inl (fun j => lN (g j)))))] s.heap := hP
  have hl := lv_entry ([.ref h1, .long x]) (n := 3) (Nat.le_of_ble_eq_true rfl)
  rw [lg_entry_eq]
  generalize (lg_sl ([.ref h1, .long x]) ++ List.replicate (3 - (lg_sl ([.ref h1, .long x])).length) Slot.unset).toArray = ls at hl ⊢
  have hl : lv_has ls 3 [(0, .ref h1), (1, .long x)] := hl
  have hbg := ma_big hk
  have hp3 := hk.1.1
  have hq3 := hk.2.1.1
  have hp9 := hk.1.2.1
  have hq9 := hk.2.1.2.1
  have hkf := ma_keyf hk
  refine lv_lload_n hx hb d_M_isCoin_0 rfl (lv_at hl 1 rfl) ?_
  refine lv_lconst (v := lN 1) hx hb d_M_isCoin_1 rfl ?_
  refine W.lcmp hx hb d_M_isCoin_2 ?_
  refine lv_if_lt (tgt := 32) hx hb d_M_isCoin_3 (by decide) (fun hc3 => ?_) (fun hc3 => ?_)
  · skip
    rw [lg_cmp_lt] at hc3
    rw [lx_lt (x := x) (n := 1) (by omega)] at hc3
    refine lv_iconst (v := nI 0) hx hb d_M_isCoin_32 (by decide) ?_
    exact pu_zret hx hb hr (by decide) hS d_M_isCoin_33 hlocks ((bI_f (by simp only [sp_isC, Bool.and_eq_false_iff, decide_eq_false_iff_not]; omega)).symm)
  · skip
    rw [lg_cmp_lt] at hc3
    rw [lx_lt (x := x) (n := 1) (by omega)] at hc3
    refine lv_lload_n hx hb d_M_isCoin_6 rfl (lv_at hl 1 rfl) ?_
    refine lv_aload_n hx hb d_M_isCoin_7 rfl (lv_at hl 0 rfl) ?_
    refine va_get (D := (dC, dI)) (ci := 1) (v := .long (lN (p * q))) (C := R_M) (T := F_M) (N := 9) hx hb hts f_M hown hK hP 0 rfl rfl 0 (by decide) (hts _ (al_m aw_t207)) (fun _ h9 => h9) rfl d_M_isCoin_8 ?_
    refine W.lcmp hx hb d_M_isCoin_11 ?_
    refine lv_if_ge (tgt := 32) hx hb d_M_isCoin_12 (by decide) (fun hc12 => ?_) (fun hc12 => ?_)
    · skip
      rw [lg_cmp_ge] at hc12
      rw [lx_le (x := x) (n := p * q) (by omega)] at hc12
      refine lv_iconst (v := nI 0) hx hb d_M_isCoin_32 (by decide) ?_
      exact pu_zret hx hb hr (by decide) hS d_M_isCoin_33 hlocks ((bI_f (by simp only [sp_isC, Bool.and_eq_false_iff, decide_eq_false_iff_not]; omega)).symm)
    · skip
      rw [lg_cmp_ge] at hc12
      rw [lx_le (x := x) (n := p * q) (by omega)] at hc12
      obtain ⟨k, hkk, rfl⟩ := lx_of (x := x) (by omega)
      rw [pk_lT hkk] at hc3 hc12
      refine lv_aload_n hx hb d_M_isCoin_15 rfl (lv_at hl 0 rfl) ?_
      refine va_get (D := (dC, dI)) (ci := 1) (v := .long (lN (p * q))) (C := R_M) (T := F_M) (N := 9) hx hb hts f_M hown hK hP 0 rfl rfl 0 (by decide) (hts _ (al_m aw_t207)) (fun _ h9 => h9) rfl d_M_isCoin_16 ?_
      refine lv_lload_n hx hb d_M_isCoin_19 rfl (lv_at hl 1 rfl) ?_
      refine pu_l (va_runS (As := [.long (lN (p * q)), .long (lN k)]) (rest := []) ⟨hx, hb, hml, hown, hts⟩ (c_M_factor l (p * q) k (by omega) hkk) (va_cwS 2 hts (al_S (k_M_factor) (aw_t259) (aw_t260) (aw_t2)) rfl rfl rfl (by decide +kernel) ⟨Nat.le_of_ble_eq_true rfl, Nat.le_of_ble_eq_true rfl⟩) pu_preS rfl rfl hl.1 rfl (lv_room (Nat.le_of_ble_eq_true rfl)) d_M_isCoin_20 ⟨Nat.zero_le _, Nat.zero_le _⟩) hS (fun H locs hkp hS => ?_)
      have hP := hkp _ _ _ hP
      have hgl : Nat.gcd (p * q) k ≤ p * q := Nat.gcd_le_left _ (by omega)
      refine lv_lconst (v := lN 1) hx hb d_M_isCoin_23 rfl ?_
      refine W.lcmp hx hb d_M_isCoin_24 ?_
      refine lv_if_ne (tgt := 32) hx hb d_M_isCoin_25 (by decide) (fun hc25 => ?_) (fun hc25 => ?_)
      · skip
        rw [lg_cmp_eq] at hc25
        rw [pk_lEQ (a := Nat.gcd (p * q) k) (b := 1) (by omega) (by omega)] at hc25
        have hu := ug_f hk hc25
        refine lv_iconst (v := nI 0) hx hb d_M_isCoin_32 (by decide) ?_
        exact pu_zret hx hb hr (by decide) hS d_M_isCoin_33 hlocks ((bI_f (by simp only [sp_isC, lx_nat hkk, pk_lT hkk, Int.toNat_natCast, hu, Bool.and_false])).symm)
      · skip
        rw [lg_cmp_eq] at hc25
        rw [pk_lEQ (a := Nat.gcd (p * q) k) (b := 1) (by omega) (by omega)] at hc25
        have hu := ug_t hk hc25
        refine lv_iconst (v := nI 1) hx hb d_M_isCoin_28 (by decide) ?_
        refine lv_goto (tgt := 33) hx hb d_M_isCoin_29 (by decide) ?_
        exact pu_zret hx hb hr (by decide) hS d_M_isCoin_33 hlocks ((bI_t (by simp only [sp_isC, lx_nat hkk, pk_lT hkk, Int.toNat_natCast, hu, Bool.and_eq_true, decide_eq_true_eq, and_true]; omega)).symm)

set_option maxHeartbeats 4000000 in
set_option maxRecDepth 100000 in
theorem c_M_isSeal (l : Launch) (dC : Nat → ClassId) (dI : Nat → Nat → Nat) (h1 q1 : Nat) (cB : ClassId) (p q bx cl cd rd : Nat) (g : Nat → Nat) (x : Int64) (hk : ma_K p q) : Met l y_M_isSeal w_M_isSeal ({ frames := 1, cells := 0, slots := 0, locals := 29 }) (va_Pc [.ref h1, .long x] (fun U => va_P (dC, dI) classes [(h1, .inr (1, [.long (lN (p * q)), .long (lN (p * q * (p * q))), .long (lN (sp_f p q)), .long (lN (sp_cex p q)), .int (nI bx), .int (nI cl), .int (nI cd), .int (nI rd), .ref q1])), (q1, .inl (cB, 30, .inr (.inl (fun j => lN (g j)))))] U.heap ∧ va_K (dC, dI) classes [(cB, .long)] U)) (qI (bI (sp_isS p q x))) 0 0 (fun _ => False) := by
  refine Met.ofW (cc := b_M_isSeal) (maxL := 3) (ret := some .boolean) (by decide) rfl ?_
  intro pg ev s mi args below meth co s₁ B hml hv
  obtain ⟨rfl, hP, hK⟩ := hv
  have hx := B.exec
  have hb := B.bytes
  have hr := B.returns
  have hts := atoms_spec (ws := w_M_isSeal) B.pre
  have hown : s.vm.findClass R_M = some mi.cls := findClass_of_methodNamed B.named
  have hlocks := B.notSynchronized
  have hS : va_S (fun _ => False) s.heap s.heap [] := va_S.rf
  have hP : va_P (dC, dI) classes [(h1, .inr (1, [.long (lN (p * q)), .long (lN (p * q * (p * q))), .long (lN (sp_f p q)), .long (lN (sp_cex p q)), .int (nI bx), .int (nI cl), .int (nI cd), .int (nI rd), .ref q1])), (q1, .inl (cB, 30, .inr (.inl (fun j => lN (g j)))))] s.heap := hP
  have hl := lv_entry ([.ref h1, .long x]) (n := 3) (Nat.le_of_ble_eq_true rfl)
  rw [lg_entry_eq]
  generalize (lg_sl ([.ref h1, .long x]) ++ List.replicate (3 - (lg_sl ([.ref h1, .long x])).length) Slot.unset).toArray = ls at hl ⊢
  have hl : lv_has ls 3 [(0, .ref h1), (1, .long x)] := hl
  have hbg := ma_big hk
  have hp3 := hk.1.1
  have hq3 := hk.2.1.1
  have hp9 := hk.1.2.1
  have hq9 := hk.2.1.2.1
  have hkf := ma_keyf hk
  refine lv_lload_n hx hb d_M_isSeal_0 rfl (lv_at hl 1 rfl) ?_
  refine lv_lconst (v := lN 1) hx hb d_M_isSeal_1 rfl ?_
  refine W.lcmp hx hb d_M_isSeal_2 ?_
  refine lv_if_lt (tgt := 32) hx hb d_M_isSeal_3 (by decide) (fun hc3 => ?_) (fun hc3 => ?_)
  · skip
    rw [lg_cmp_lt] at hc3
    rw [lx_lt (x := x) (n := 1) (by omega)] at hc3
    refine lv_iconst (v := nI 0) hx hb d_M_isSeal_32 (by decide) ?_
    exact pu_zret hx hb hr (by decide) hS d_M_isSeal_33 hlocks ((bI_f (by simp only [sp_isS, Bool.and_eq_false_iff, decide_eq_false_iff_not]; omega)).symm)
  · skip
    rw [lg_cmp_lt] at hc3
    rw [lx_lt (x := x) (n := 1) (by omega)] at hc3
    refine lv_lload_n hx hb d_M_isSeal_6 rfl (lv_at hl 1 rfl) ?_
    refine lv_aload_n hx hb d_M_isSeal_7 rfl (lv_at hl 0 rfl) ?_
    refine va_get (D := (dC, dI)) (ci := 1) (v := .long (lN (p * q * (p * q)))) (C := R_M) (T := F_M) (N := 9) hx hb hts f_M hown hK hP 0 rfl rfl 1 (by decide) (hts _ (al_m aw_t208)) (fun _ h9 => h9) rfl d_M_isSeal_8 ?_
    refine W.lcmp hx hb d_M_isSeal_11 ?_
    refine lv_if_ge (tgt := 32) hx hb d_M_isSeal_12 (by decide) (fun hc12 => ?_) (fun hc12 => ?_)
    · skip
      rw [lg_cmp_ge] at hc12
      rw [lx_le (x := x) (n := p * q * (p * q)) (by omega)] at hc12
      refine lv_iconst (v := nI 0) hx hb d_M_isSeal_32 (by decide) ?_
      exact pu_zret hx hb hr (by decide) hS d_M_isSeal_33 hlocks ((bI_f (by simp only [sp_isS, Bool.and_eq_false_iff, decide_eq_false_iff_not]; omega)).symm)
    · skip
      rw [lg_cmp_ge] at hc12
      rw [lx_le (x := x) (n := p * q * (p * q)) (by omega)] at hc12
      obtain ⟨k, hkk, rfl⟩ := lx_of (x := x) (by omega)
      rw [pk_lT hkk] at hc3 hc12
      refine lv_aload_n hx hb d_M_isSeal_15 rfl (lv_at hl 0 rfl) ?_
      refine va_get (D := (dC, dI)) (ci := 1) (v := .long (lN (p * q))) (C := R_M) (T := F_M) (N := 9) hx hb hts f_M hown hK hP 0 rfl rfl 0 (by decide) (hts _ (al_m aw_t207)) (fun _ h9 => h9) rfl d_M_isSeal_16 ?_
      refine lv_lload_n hx hb d_M_isSeal_19 rfl (lv_at hl 1 rfl) ?_
      refine pu_l (va_runS (As := [.long (lN (p * q)), .long (lN k)]) (rest := []) ⟨hx, hb, hml, hown, hts⟩ (c_M_factor l (p * q) k (by omega) hkk) (va_cwS 2 hts (al_S (k_M_factor) (aw_t259) (aw_t260) (aw_t2)) rfl rfl rfl (by decide +kernel) ⟨Nat.le_of_ble_eq_true rfl, Nat.le_of_ble_eq_true rfl⟩) pu_preS rfl rfl hl.1 rfl (lv_room (Nat.le_of_ble_eq_true rfl)) d_M_isSeal_20 ⟨Nat.zero_le _, Nat.zero_le _⟩) hS (fun H locs hkp hS => ?_)
      have hP := hkp _ _ _ hP
      have hgl : Nat.gcd (p * q) k ≤ p * q := Nat.gcd_le_left _ (by omega)
      refine lv_lconst (v := lN 1) hx hb d_M_isSeal_23 rfl ?_
      refine W.lcmp hx hb d_M_isSeal_24 ?_
      refine lv_if_ne (tgt := 32) hx hb d_M_isSeal_25 (by decide) (fun hc25 => ?_) (fun hc25 => ?_)
      · skip
        rw [lg_cmp_eq] at hc25
        rw [pk_lEQ (a := Nat.gcd (p * q) k) (b := 1) (by omega) (by omega)] at hc25
        have hu := ug_f hk hc25
        refine lv_iconst (v := nI 0) hx hb d_M_isSeal_32 (by decide) ?_
        exact pu_zret hx hb hr (by decide) hS d_M_isSeal_33 hlocks ((bI_f (by simp only [sp_isS, lx_nat hkk, pk_lT hkk, Int.toNat_natCast, hu, Bool.and_false])).symm)
      · skip
        rw [lg_cmp_eq] at hc25
        rw [pk_lEQ (a := Nat.gcd (p * q) k) (b := 1) (by omega) (by omega)] at hc25
        have hu := ug_t hk hc25
        refine lv_iconst (v := nI 1) hx hb d_M_isSeal_28 (by decide) ?_
        refine lv_goto (tgt := 33) hx hb d_M_isSeal_29 (by decide) ?_
        exact pu_zret hx hb hr (by decide) hS d_M_isSeal_33 hlocks ((bI_t (by simp only [sp_isS, lx_nat hkk, pk_lT hkk, Int.toNat_natCast, hu, Bool.and_eq_true, decide_eq_true_eq, and_true]; omega)).symm)

set_option maxHeartbeats 4000000 in
set_option maxRecDepth 100000 in
theorem c_M_sealing (l : Launch) (dC : Nat → ClassId) (dI : Nat → Nat → Nat) (h1 q1 : Nat) (cB : ClassId) (p q bx cl cd rd : Nat) (g : Nat → Nat) (x y : Nat) (hk : ma_K p q) (hxn : x < 2 ^ 63) (hy : y < 2 ^ 63) : Met l y_M_sealing w_M_sealing ({ frames := 1, cells := 0, slots := 0, locals := 31 }) (va_Pc [.ref h1, .long (lN x), .long (lN y)] (fun U => va_P (dC, dI) classes [(h1, .inr (1, [.long (lN (p * q)), .long (lN (p * q * (p * q))), .long (lN (sp_f p q)), .long (lN (sp_cex p q)), .int (nI bx), .int (nI cl), .int (nI cd), .int (nI rd), .ref q1])), (q1, .inl (cB, 30, .inr (.inl (fun j => lN (g j)))))] U.heap ∧ va_K (dC, dI) classes [(cB, .long)] U)) (qL (lN (sp_seal p q x y))) 0 0 (fun _ => False) := by
  refine Met.ofW (cc := b_M_sealing) (maxL := 7) (ret := some .long) (by decide) rfl ?_
  intro pg ev s mi args below meth co s₁ B hml hv
  obtain ⟨rfl, hP, hK⟩ := hv
  have hx := B.exec
  have hb := B.bytes
  have hr := B.returns
  have hts := atoms_spec (ws := w_M_sealing) B.pre
  have hown : s.vm.findClass R_M = some mi.cls := findClass_of_methodNamed B.named
  have hlocks := B.notSynchronized
  have hS : va_S (fun _ => False) s.heap s.heap [] := va_S.rf
  have hP : va_P (dC, dI) classes [(h1, .inr (1, [.long (lN (p * q)), .long (lN (p * q * (p * q))), .long (lN (sp_f p q)), .long (lN (sp_cex p q)), .int (nI bx), .int (nI cl), .int (nI cd), .int (nI rd), .ref q1])), (q1, .inl (cB, 30, .inr (.inl (fun j => lN (g j)))))] s.heap := hP
  have hl := lv_entry ([.ref h1, .long (lN x), .long (lN y)]) (n := 7) (Nat.le_of_ble_eq_true rfl)
  rw [lg_entry_eq]
  generalize (lg_sl ([.ref h1, .long (lN x), .long (lN y)]) ++ List.replicate (7 - (lg_sl ([.ref h1, .long (lN x), .long (lN y)])).length) Slot.unset).toArray = ls at hl ⊢
  have hl : lv_has ls 7 [(0, .ref h1), (1, .long (lN x)), (3, .long (lN y))] := hl
  have hbg := ma_big hk
  have hp3 := hk.1.1
  have hq3 := hk.2.1.1
  have hp9 := hk.1.2.1
  have hq9 := hk.2.1.2.1
  have hkf := ma_keyf hk
  refine lv_lconst (v := lN 1) hx hb d_M_sealing_0 rfl ?_
  refine lv_aload_n hx hb d_M_sealing_1 rfl (lv_at hl 0 rfl) ?_
  refine va_get (D := (dC, dI)) (ci := 1) (v := .long (lN (p * q))) (C := R_M) (T := F_M) (N := 9) hx hb hts f_M hown hK hP 0 rfl rfl 0 (by decide) (hts _ (al_m aw_t207)) (fun _ h9 => h9) rfl d_M_sealing_2 ?_
  refine lv_ladd hx hb d_M_sealing_5 ?_
  refine wk_l (y := lN (1 + (p * q))) (lN_add 1 (p * q)) ?_
  refine lv_lload_n hx hb d_M_sealing_6 rfl (lv_at hl 1 rfl) ?_
  refine lv_aload_n hx hb d_M_sealing_7 rfl (lv_at hl 0 rfl) ?_
  refine va_get (D := (dC, dI)) (ci := 1) (v := .long (lN (p * q * (p * q)))) (C := R_M) (T := F_M) (N := 9) hx hb hts f_M hown hK hP 0 rfl rfl 1 (by decide) (hts _ (al_m aw_t208)) (fun _ h9 => h9) rfl d_M_sealing_8 ?_
  refine pu_l (va_runS (As := [.long (lN (1 + (p * q))), .long (lN x), .long (lN (p * q * (p * q)))]) (rest := []) ⟨hx, hb, hml, hown, hts⟩ (c_M_raise l (1 + p * q) x (p * q * (p * q)) (by omega) (by omega) (by omega) (by omega)) (va_cwS 3 hts (al_S (k_M_raise) (aw_t266) (aw_t267) (aw_t2)) rfl rfl rfl (by decide +kernel) ⟨Nat.le_of_ble_eq_true rfl, Nat.le_of_ble_eq_true rfl⟩) pu_preS rfl rfl hl.1 rfl (lv_room (Nat.le_of_ble_eq_true rfl)) d_M_sealing_11 ⟨Nat.zero_le _, Nat.zero_le _⟩) hS (fun H locs hkp hS => ?_)
  have hP := hkp _ _ _ hP
  refine lv_lstore (lv' := [(5, .long (lN ((1 + p * q) ^ x % (p * q * (p * q))))), (0, .ref h1), (1, .long (lN x)), (3, .long (lN y))]) hx hb d_M_sealing_14 hl (by decide) rfl (fun ls hl => ?_)
  refine lv_lload hx hb d_M_sealing_16 (lv_at hl 0 rfl) ?_
  refine lv_lload_n hx hb d_M_sealing_18 rfl (lv_at hl 3 rfl) ?_
  refine lv_aload_n hx hb d_M_sealing_19 rfl (lv_at hl 1 rfl) ?_
  refine va_get (D := (dC, dI)) (ci := 1) (v := .long (lN (p * q))) (C := R_M) (T := F_M) (N := 9) hx hb hts f_M hown hK hP 0 rfl rfl 0 (by decide) (hts _ (al_m aw_t207)) (fun _ h9 => h9) rfl d_M_sealing_20 ?_
  refine lv_aload_n hx hb d_M_sealing_23 rfl (lv_at hl 1 rfl) ?_
  refine va_get (D := (dC, dI)) (ci := 1) (v := .long (lN (p * q * (p * q)))) (C := R_M) (T := F_M) (N := 9) hx hb hts f_M hown hK hP 0 rfl rfl 1 (by decide) (hts _ (al_m aw_t208)) (fun _ h9 => h9) rfl d_M_sealing_24 ?_
  refine pu_l (va_runS (As := [.long (lN y), .long (lN (p * q)), .long (lN (p * q * (p * q)))]) (rest := [.long (lN ((1 + p * q) ^ x % (p * q * (p * q))))]) ⟨hx, hb, hml, hown, hts⟩ (c_M_raise l y (p * q) (p * q * (p * q)) (by omega) (by omega) (by omega) (by omega)) (va_cwS 3 hts (al_S (k_M_raise) (aw_t266) (aw_t267) (aw_t2)) rfl rfl rfl (by decide +kernel) ⟨Nat.le_of_ble_eq_true rfl, Nat.le_of_ble_eq_true rfl⟩) pu_preS rfl rfl hl.1 rfl (lv_room (Nat.le_of_ble_eq_true rfl)) d_M_sealing_27 ⟨Nat.zero_le _, Nat.zero_le _⟩) hS (fun H locs hkp hS => ?_)
  have hP := hkp _ _ _ hP
  refine lv_lmul hx hb d_M_sealing_30 ?_
  refine wk_l (y := lN (((1 + p * q) ^ x % (p * q * (p * q))) * (y ^ (p * q) % (p * q * (p * q))))) (lN_mul ((1 + p * q) ^ x % (p * q * (p * q))) (y ^ (p * q) % (p * q * (p * q)))) ?_
  refine lv_aload_n hx hb d_M_sealing_31 rfl (lv_at hl 1 rfl) ?_
  refine va_get (D := (dC, dI)) (ci := 1) (v := .long (lN (p * q * (p * q)))) (C := R_M) (T := F_M) (N := 9) hx hb hts f_M hown hK hP 0 rfl rfl 1 (by decide) (hts _ (al_m aw_t208)) (fun _ h9 => h9) rfl d_M_sealing_32 ?_
  refine lv_lrem hx hb d_M_sealing_35 (lN_ne0 (by omega) (by omega)) ?_
  refine wk_l (y := lN (sp_seal p q x y)) ((pk_lRem (rs_lt (Nat.mod_lt _ (by omega)) (Nat.mod_lt _ (by omega)) (by omega)) (by omega) (by omega)).trans (congrArg lN (fa_sealing p q x y))) ?_
  exact pu_lret hx hb hr hS d_M_sealing_36 hlocks (rfl)

set_option maxHeartbeats 4000000 in
set_option maxRecDepth 100000 in
theorem c_M_coinIn (l : Launch) (dC : Nat → ClassId) (dI : Nat → Nat → Nat) (h1 q1 : Nat) (cB : ClassId) (p q bx cl cd rd : Nat) (g : Nat → Nat) (x : Nat) (hk : ma_K p q) (hxn : x < 2 ^ 63) : Met l y_M_coinIn w_M_coinIn ({ frames := 1, cells := 0, slots := 0, locals := 31 }) (va_Pc [.ref h1, .long (lN x)] (fun U => va_P (dC, dI) classes [(h1, .inr (1, [.long (lN (p * q)), .long (lN (p * q * (p * q))), .long (lN (sp_f p q)), .long (lN (sp_cex p q)), .int (nI bx), .int (nI cl), .int (nI cd), .int (nI rd), .ref q1])), (q1, .inl (cB, 30, .inr (.inl (fun j => lN (g j)))))] U.heap ∧ va_K (dC, dI) classes [(cB, .long)] U)) (qL (lN (sp_coin p q x))) 0 0 (fun _ => False) := by
  refine Met.ofW (cc := b_M_coinIn) (maxL := 3) (ret := some .long) (by decide) rfl ?_
  intro pg ev s mi args below meth co s₁ B hml hv
  obtain ⟨rfl, hP, hK⟩ := hv
  have hx := B.exec
  have hb := B.bytes
  have hr := B.returns
  have hts := atoms_spec (ws := w_M_coinIn) B.pre
  have hown : s.vm.findClass R_M = some mi.cls := findClass_of_methodNamed B.named
  have hlocks := B.notSynchronized
  have hS : va_S (fun _ => False) s.heap s.heap [] := va_S.rf
  have hP : va_P (dC, dI) classes [(h1, .inr (1, [.long (lN (p * q)), .long (lN (p * q * (p * q))), .long (lN (sp_f p q)), .long (lN (sp_cex p q)), .int (nI bx), .int (nI cl), .int (nI cd), .int (nI rd), .ref q1])), (q1, .inl (cB, 30, .inr (.inl (fun j => lN (g j)))))] s.heap := hP
  have hl := lv_entry ([.ref h1, .long (lN x)]) (n := 3) (Nat.le_of_ble_eq_true rfl)
  rw [lg_entry_eq]
  generalize (lg_sl ([.ref h1, .long (lN x)]) ++ List.replicate (3 - (lg_sl ([.ref h1, .long (lN x)])).length) Slot.unset).toArray = ls at hl ⊢
  have hl : lv_has ls 3 [(0, .ref h1), (1, .long (lN x))] := hl
  have hbg := ma_big hk
  have hp3 := hk.1.1
  have hq3 := hk.2.1.1
  have hp9 := hk.1.2.1
  have hq9 := hk.2.1.2.1
  have hkf := ma_keyf hk
  refine lv_lload_n hx hb d_M_coinIn_0 rfl (lv_at hl 1 rfl) ?_
  refine lv_aload_n hx hb d_M_coinIn_1 rfl (lv_at hl 0 rfl) ?_
  refine va_get (D := (dC, dI)) (ci := 1) (v := .long (lN (p * q))) (C := R_M) (T := F_M) (N := 9) hx hb hts f_M hown hK hP 0 rfl rfl 0 (by decide) (hts _ (al_m aw_t207)) (fun _ h9 => h9) rfl d_M_coinIn_2 ?_
  refine lv_lrem hx hb d_M_coinIn_5 (lN_ne0 (by omega) (by omega)) ?_
  refine wk_l (y := lN (x % (p * q))) (pk_lRem (by omega) (by omega) (by omega)) ?_
  have hm5 := Nat.mod_le x (p * q)
  refine lv_aload_n hx hb d_M_coinIn_6 rfl (lv_at hl 0 rfl) ?_
  refine va_get (D := (dC, dI)) (ci := 1) (v := .long (lN (sp_cex p q))) (C := R_M) (T := F_M) (N := 9) hx hb hts f_M hown hK hP 0 rfl rfl 3 (by decide) (hts _ (al_m aw_t210)) (fun _ h9 => h9) rfl d_M_coinIn_7 ?_
  refine lv_aload_n hx hb d_M_coinIn_10 rfl (lv_at hl 0 rfl) ?_
  refine va_get (D := (dC, dI)) (ci := 1) (v := .long (lN (p * q))) (C := R_M) (T := F_M) (N := 9) hx hb hts f_M hown hK hP 0 rfl rfl 0 (by decide) (hts _ (al_m aw_t207)) (fun _ h9 => h9) rfl d_M_coinIn_11 ?_
  refine pu_l (va_runS (As := [.long (lN (x % (p * q))), .long (lN (sp_cex p q)), .long (lN (p * q))]) (rest := []) ⟨hx, hb, hml, hown, hts⟩ (c_M_raise l (x % (p * q)) (sp_cex p q) (p * q) (by omega) (by omega) (by omega) (Nat.lt_trans (Nat.mod_lt _ (by omega)) (by omega))) (va_cwS 3 hts (al_S (k_M_raise) (aw_t266) (aw_t267) (aw_t2)) rfl rfl rfl (by decide +kernel) ⟨Nat.le_of_ble_eq_true rfl, Nat.le_of_ble_eq_true rfl⟩) pu_preS rfl rfl hl.1 rfl (lv_room (Nat.le_of_ble_eq_true rfl)) d_M_coinIn_14 ⟨Nat.zero_le _, Nat.zero_le _⟩) hS (fun H locs hkp hS => ?_)
  have hP := hkp _ _ _ hP
  exact pu_lret hx hb hr hS d_M_coinIn_17 hlocks (rfl)

section
variable {pg : Program} {l : Launch} {ev : Env} {R : Room} {s : State} {mi : MethodId} {args : Array Value} {below : List Frame} {meth : Method} {co : Code} {H : Heap} {locs : List Loc} {cells slots : Nat} {Q : State → Prop}
set_option maxHeartbeats 4000000 in
set_option maxRecDepth 100000 in
theorem lp_M_messageIn_37 {h1 q1 : Nat} {cB : ClassId} {p q bx cl cd rd : Nat} {g : Nat → Nat} (hx : pg.tables.exec = Jvm.exec) (hb : co.code = b_M_messageIn) {w0 : Cond} {dC : Nat → ClassId} {dI : Nat → Nat → Nat} (hts : ∀ w ∈ w0 :: al_w, w.before args s = true) (hown : s.vm.findClass R_M = some mi.cls) (hK : va_K (dC, dI) classes [(cB, .long)] s) (hP : va_P (dC, dI) classes [(h1, .inr (1, [.long (lN (p * q)), .long (lN (p * q * (p * q))), .long (lN (sp_f p q)), .long (lN (sp_cex p q)), .int (nI bx), .int (nI cl), .int (nI cd), .int (nI rd), .ref q1])), (q1, .inl (cB, 30, .inr (.inl (fun j => lN (g j)))))] H) {R0 x M0 : Nat} (hbg : 15 ≤ p * q) (hb5 : p * q * (p * q) ≤ 2750058481) (hbn : p * q ≤ 52441) (hb6 : 225 ≤ p * q * (p * q)) (hxn : x < p * q * (p * q)) (hM0 : M0 < p * q) (hU : ∀ j, j < p * q → (R0 * (1 + p * q * j) % (p * q * (p * q)) = x ↔ j = M0)) (k75 : ∀ (m : Nat) (ls : Array Slot), lv_has ls 11 [(9, .long (lN m)), (0, .ref h1), (1, .long (lN x)), (5, .long (lN (R0 * (1 + p * q * m) % (p * q * (p * q))))), (7, .long (lN (R0 % (p * q * (p * q)) * (p * q) % (p * q * (p * q)))))] → (m = M0) → W pg l ev R s mi args below meth co H locs cells slots Q (F0 mi 75 ls [])) : ∀ (mz : Nat) (m : Nat) (ls : Array Slot), lv_has ls 11 [(9, .long (lN m)), (0, .ref h1), (1, .long (lN x)), (5, .long (lN (R0 * (1 + p * q * m) % (p * q * (p * q))))), (7, .long (lN (R0 % (p * q * (p * q)) * (p * q) % (p * q * (p * q)))))] → (m ≤ M0) → M0 - m = mz → W pg l ev R s mi args below meth co H locs cells slots Q (F0 mi 37 ls []) := by
  intro mz
  induction mz using Nat.strongRecOn with
  | ind mz ih =>
    intro m ls hl h1_ hk
    subst hk
    have ht1 : R0 * (1 + p * q * m) % (p * q * (p * q)) < p * q * (p * q) := Nat.mod_lt _ (by omega)
    have ht2 : R0 % (p * q * (p * q)) * (p * q) % (p * q * (p * q)) < p * q * (p * q) := Nat.mod_lt _ (by omega)
    refine lv_lload hx hb d_M_messageIn_37 (lv_at hl 3 rfl) ?_
    refine lv_lload_n hx hb d_M_messageIn_39 rfl (lv_at hl 2 rfl) ?_
    refine W.lcmp hx hb d_M_messageIn_40 ?_
    refine lv_if_eq (tgt := 75) hx hb d_M_messageIn_41 (by decide) (fun hc41 => ?_) (fun hc41 => ?_)
    · skip
      rw [lg_cmp_eq] at hc41
      rw [pk_lEQ (a := R0 * (1 + p * q * m) % (p * q * (p * q))) (b := x) (by omega) (by omega)] at hc41
      exact k75 m ls (lv_sub hl [0, 1, 2, 3, 4] rfl) ((hU m (by omega)).mp hc41)
    · skip
      rw [lg_cmp_eq] at hc41
      rw [pk_lEQ (a := R0 * (1 + p * q * m) % (p * q * (p * q))) (b := x) (by omega) (by omega)] at hc41
      refine lv_lload hx hb d_M_messageIn_44 (lv_at hl 0 rfl) ?_
      refine lv_aload_n hx hb d_M_messageIn_46 rfl (lv_at hl 1 rfl) ?_
      refine va_get (D := (dC, dI)) (ci := 1) (v := .long (lN (p * q))) (C := R_M) (T := F_M) (N := 9) hx hb hts f_M hown hK hP 0 rfl rfl 0 (by decide) (hts _ (al_m aw_t207)) (fun _ h9 => h9) rfl d_M_messageIn_47 ?_
      refine W.lcmp hx hb d_M_messageIn_50 ?_
      refine lv_if_ge (tgt := 75) hx hb d_M_messageIn_51 (by decide) (fun hc51 => ?_) (fun hc51 => ?_)
      · skip
        rw [lg_cmp_ge] at hc51
        rw [pk_lLE (a := p * q) (b := m) (by omega) (by omega)] at hc51
        omega
      · skip
        rw [lg_cmp_ge] at hc51
        rw [pk_lLE (a := p * q) (b := m) (by omega) (by omega)] at hc51
        refine lv_lload hx hb d_M_messageIn_54 (lv_at hl 3 rfl) ?_
        refine lv_lload hx hb d_M_messageIn_56 (lv_at hl 4 rfl) ?_
        refine lv_ladd hx hb d_M_messageIn_58 ?_
        refine wk_l (y := lN ((R0 * (1 + p * q * m) % (p * q * (p * q))) + (R0 % (p * q * (p * q)) * (p * q) % (p * q * (p * q))))) (lN_add (R0 * (1 + p * q * m) % (p * q * (p * q))) (R0 % (p * q * (p * q)) * (p * q) % (p * q * (p * q)))) ?_
        refine lv_aload_n hx hb d_M_messageIn_59 rfl (lv_at hl 1 rfl) ?_
        refine va_get (D := (dC, dI)) (ci := 1) (v := .long (lN (p * q * (p * q)))) (C := R_M) (T := F_M) (N := 9) hx hb hts f_M hown hK hP 0 rfl rfl 1 (by decide) (hts _ (al_m aw_t208)) (fun _ h9 => h9) rfl d_M_messageIn_60 ?_
        refine lv_lrem hx hb d_M_messageIn_63 (lN_ne0 (by omega) (by omega)) ?_
        refine wk_l (y := lN (R0 * (1 + p * q * (m + 1)) % (p * q * (p * q)))) ((pk_lRem (by omega) (by omega) (by omega)).trans (congrArg lN (fa_step R0 (p * q) m))) ?_
        refine lv_lstore (lv' := [(5, .long (lN (R0 * (1 + p * q * (m + 1)) % (p * q * (p * q))))), (9, .long (lN m)), (0, .ref h1), (1, .long (lN x)), (7, .long (lN (R0 % (p * q * (p * q)) * (p * q) % (p * q * (p * q)))))]) hx hb d_M_messageIn_64 hl (by decide) rfl (fun ls hl => ?_)
        refine lv_lload hx hb d_M_messageIn_66 (lv_at hl 1 rfl) ?_
        refine lv_lconst (v := lN 1) hx hb d_M_messageIn_68 rfl ?_
        refine lv_ladd hx hb d_M_messageIn_69 ?_
        refine wk_l (y := lN (m + 1)) (lN_add m 1) ?_
        refine lv_lstore (lv' := [(9, .long (lN (m + 1))), (5, .long (lN (R0 * (1 + p * q * (m + 1)) % (p * q * (p * q))))), (0, .ref h1), (1, .long (lN x)), (7, .long (lN (R0 % (p * q * (p * q)) * (p * q) % (p * q * (p * q)))))]) hx hb d_M_messageIn_70 hl (by decide) rfl (fun ls hl => ?_)
        refine lv_goto (tgt := 37) hx hb d_M_messageIn_72 (by decide) ?_
        exact ih _ (by have hne : m ≠ M0 := fun hh => hc41 ((hU m (by omega)).mpr hh); omega) (m + 1) ls (lv_sub hl [0, 2, 3, 1, 4] rfl) (by have hne : m ≠ M0 := fun hh => hc41 ((hU m (by omega)).mpr hh); omega) rfl
end

set_option maxHeartbeats 4000000 in
set_option maxRecDepth 100000 in
theorem c_M_messageIn (l : Launch) (dC : Nat → ClassId) (dI : Nat → Nat → Nat) (h1 q1 : Nat) (cB : ClassId) (p q bx cl cd rd : Nat) (g : Nat → Nat) (x : Nat) (hk : ma_K p q) (hxn : x < p * q * (p * q)) (hx1 : x % p ≠ 0) (hx2 : x % q ≠ 0) : Met l y_M_messageIn w_M_messageIn ({ frames := 2, cells := 0, slots := 0, locals := 53 }) (va_Pc [.ref h1, .long (lN x)] (fun U => va_P (dC, dI) classes [(h1, .inr (1, [.long (lN (p * q)), .long (lN (p * q * (p * q))), .long (lN (sp_f p q)), .long (lN (sp_cex p q)), .int (nI bx), .int (nI cl), .int (nI cd), .int (nI rd), .ref q1])), (q1, .inl (cB, 30, .inr (.inl (fun j => lN (g j)))))] U.heap ∧ va_K (dC, dI) classes [(cB, .long)] U)) (qL (lN (sp_msg p q x))) 0 0 (fun _ => False) := by
  refine Met.ofW (cc := b_M_messageIn) (maxL := 11) (ret := some .long) (by decide) rfl ?_
  intro pg ev s mi args below meth co s₁ B hml hv
  obtain ⟨rfl, hP, hK⟩ := hv
  have hx := B.exec
  have hb := B.bytes
  have hr := B.returns
  have hts := atoms_spec (ws := w_M_messageIn) B.pre
  have hown : s.vm.findClass R_M = some mi.cls := findClass_of_methodNamed B.named
  have hlocks := B.notSynchronized
  have hS : va_S (fun _ => False) s.heap s.heap [] := va_S.rf
  have hP : va_P (dC, dI) classes [(h1, .inr (1, [.long (lN (p * q)), .long (lN (p * q * (p * q))), .long (lN (sp_f p q)), .long (lN (sp_cex p q)), .int (nI bx), .int (nI cl), .int (nI cd), .int (nI rd), .ref q1])), (q1, .inl (cB, 30, .inr (.inl (fun j => lN (g j)))))] s.heap := hP
  have hl := lv_entry ([.ref h1, .long (lN x)]) (n := 11) (Nat.le_of_ble_eq_true rfl)
  rw [lg_entry_eq]
  generalize (lg_sl ([.ref h1, .long (lN x)]) ++ List.replicate (11 - (lg_sl ([.ref h1, .long (lN x)])).length) Slot.unset).toArray = ls at hl ⊢
  have hl : lv_has ls 11 [(0, .ref h1), (1, .long (lN x))] := hl
  have hbg := ma_big hk
  have hp3 := hk.1.1
  have hq3 := hk.2.1.1
  have hp9 := hk.1.2.1
  have hq9 := hk.2.1.2.1
  have hkf := ma_keyf hk
  refine lv_aload_n hx hb d_M_messageIn_0 rfl (lv_at hl 0 rfl) ?_
  refine lv_lload_n hx hb d_M_messageIn_1 rfl (lv_at hl 1 rfl) ?_
  refine pu_l (va_runV (As := [.long (lN x)]) (rest := []) ⟨hx, hb, hml, hown, hts⟩ (c_M_coinIn l dC dI h1 q1 cB p q bx cl cd rd g x hk (by omega)) (cwV 1 hts (al_V (k_M_coinIn) (aw_t283) (aw_t285) (aw_p18) (aw_t2)) rfl rfl rfl (by decide +kernel) ⟨Nat.le_of_ble_eq_true rfl, Nat.le_of_ble_eq_true rfl⟩) (pu_preV (q0 := 0) (ci := 1) hK hP rfl rfl) rfl rfl hl.1 rfl (lv_room (Nat.le_of_ble_eq_true rfl)) d_M_messageIn_2 ⟨Nat.zero_le _, Nat.zero_le _⟩) hS (fun H locs hkp hS => ?_)
  have hP := hkp _ _ _ hP
  have hcl_ : sp_coin p q x < p * q := Nat.mod_lt _ (by omega)
  refine lv_lstore_n (lv' := [(3, .long (lN (sp_coin p q x))), (0, .ref h1), (1, .long (lN x))]) hx hb d_M_messageIn_5 rfl hl (by decide) rfl (fun ls hl => ?_)
  refine lv_lload_n hx hb d_M_messageIn_6 rfl (lv_at hl 0 rfl) ?_
  refine lv_aload_n hx hb d_M_messageIn_7 rfl (lv_at hl 1 rfl) ?_
  refine va_get (D := (dC, dI)) (ci := 1) (v := .long (lN (p * q))) (C := R_M) (T := F_M) (N := 9) hx hb hts f_M hown hK hP 0 rfl rfl 0 (by decide) (hts _ (al_m aw_t207)) (fun _ h9 => h9) rfl d_M_messageIn_8 ?_
  refine lv_aload_n hx hb d_M_messageIn_11 rfl (lv_at hl 1 rfl) ?_
  refine va_get (D := (dC, dI)) (ci := 1) (v := .long (lN (p * q * (p * q)))) (C := R_M) (T := F_M) (N := 9) hx hb hts f_M hown hK hP 0 rfl rfl 1 (by decide) (hts _ (al_m aw_t208)) (fun _ h9 => h9) rfl d_M_messageIn_12 ?_
  refine pu_l (va_runS (As := [.long (lN (sp_coin p q x)), .long (lN (p * q)), .long (lN (p * q * (p * q)))]) (rest := []) ⟨hx, hb, hml, hown, hts⟩ (c_M_raise l (sp_coin p q x) (p * q) (p * q * (p * q)) (by omega) (by omega) (by omega) (by omega)) (va_cwS 3 hts (al_S (k_M_raise) (aw_t266) (aw_t267) (aw_t2)) rfl rfl rfl (by decide +kernel) ⟨Nat.le_of_ble_eq_true rfl, Nat.le_of_ble_eq_true rfl⟩) pu_preS rfl rfl hl.1 rfl (lv_room (Nat.le_of_ble_eq_true rfl)) d_M_messageIn_15 ⟨Nat.zero_le _, Nat.zero_le _⟩) hS (fun H locs hkp hS => ?_)
  have hP := hkp _ _ _ hP
  obtain ⟨hM0, -, hU⟩ := fa_msg2 hk hx1 hx2 hxn
  obtain ⟨R0, hR0⟩ : ∃ R0, R0 = sp_coin p q x ^ (p * q) := ⟨_, rfl⟩
  rw [← hR0] at hU ⊢
  refine lv_lstore (lv' := [(5, .long (lN (R0 % (p * q * (p * q))))), (3, .long (lN (sp_coin p q x))), (0, .ref h1), (1, .long (lN x))]) hx hb d_M_messageIn_18 hl (by decide) rfl (fun ls hl => ?_)
  refine lv_lload hx hb d_M_messageIn_20 (lv_at hl 0 rfl) ?_
  refine lv_aload_n hx hb d_M_messageIn_22 rfl (lv_at hl 2 rfl) ?_
  refine va_get (D := (dC, dI)) (ci := 1) (v := .long (lN (p * q))) (C := R_M) (T := F_M) (N := 9) hx hb hts f_M hown hK hP 0 rfl rfl 0 (by decide) (hts _ (al_m aw_t207)) (fun _ h9 => h9) rfl d_M_messageIn_23 ?_
  refine lv_lmul hx hb d_M_messageIn_26 ?_
  refine wk_l (y := lN ((R0 % (p * q * (p * q))) * (p * q))) (lN_mul (R0 % (p * q * (p * q))) (p * q)) ?_
  refine lv_aload_n hx hb d_M_messageIn_27 rfl (lv_at hl 2 rfl) ?_
  refine va_get (D := (dC, dI)) (ci := 1) (v := .long (lN (p * q * (p * q)))) (C := R_M) (T := F_M) (N := 9) hx hb hts f_M hown hK hP 0 rfl rfl 1 (by decide) (hts _ (al_m aw_t208)) (fun _ h9 => h9) rfl d_M_messageIn_28 ?_
  refine lv_lrem hx hb d_M_messageIn_31 (lN_ne0 (by omega) (by omega)) ?_
  refine wk_l (y := lN (R0 % (p * q * (p * q)) * (p * q) % (p * q * (p * q)))) (pk_lRem (ms_lt (Nat.le_of_lt (Nat.lt_of_lt_of_le (Nat.mod_lt _ (by omega)) (by omega))) (by omega)) (by omega) (by omega)) ?_
  refine lv_lstore (lv' := [(7, .long (lN (R0 % (p * q * (p * q)) * (p * q) % (p * q * (p * q))))), (5, .long (lN (R0 % (p * q * (p * q))))), (3, .long (lN (sp_coin p q x))), (0, .ref h1), (1, .long (lN x))]) hx hb d_M_messageIn_32 hl (by decide) rfl (fun ls hl => ?_)
  refine lv_lconst (v := lN 0) hx hb d_M_messageIn_34 rfl ?_
  refine lv_lstore (lv' := [(9, .long (lN 0)), (7, .long (lN (R0 % (p * q * (p * q)) * (p * q) % (p * q * (p * q))))), (5, .long (lN (R0 % (p * q * (p * q))))), (3, .long (lN (sp_coin p q x))), (0, .ref h1), (1, .long (lN x))]) hx hb d_M_messageIn_35 hl (by decide) rfl (fun ls hl => ?_)
  have hl : lv_has ls 11 [(9, .long (lN 0)), (7, .long (lN (R0 % (p * q * (p * q)) * (p * q) % (p * q * (p * q))))), (5, .long (lN (R0 * (1 + p * q * 0) % (p * q * (p * q))))), (3, .long (lN (sp_coin p q x))), (0, .ref h1), (1, .long (lN x))] := by rw [Nat.mul_zero, Nat.add_zero, Nat.mul_one]; exact hl
  refine lp_M_messageIn_37 hx hb hts hown hK hP (by omega) (by omega) (by omega) (by omega) hxn hM0 hU (fun m ls hl hq => ?_) _ 0 ls (lv_sub hl [0, 4, 5, 2, 1] rfl) (Nat.zero_le _) rfl
  refine lv_lload hx hb d_M_messageIn_75 (lv_at hl 0 rfl) ?_
  exact pu_lret hx hb hr hS d_M_messageIn_77 hlocks (congrArg lN hq)

section
variable {pg : Program} {l : Launch} {ev : Env} {R : Room} {s : State} {mi : MethodId} {args : Array Value} {below : List Frame} {meth : Method} {co : Code} {H : Heap} {locs : List Loc} {cells slots : Nat} {Q : State → Prop}
set_option maxHeartbeats 4000000 in
set_option maxRecDepth 100000 in
theorem lp_M_place_5 {h1 q1 : Nat} {cB : ClassId} {p q bx cl cd rd : Nat} {g : Nat → Nat} (hx : pg.tables.exec = Jvm.exec) (hb : co.code = b_M_place) {w0 : Cond} {dC : Nat → ClassId} {dI : Nat → Nat → Nat} (hts : ∀ w ∈ w0 :: al_w, w.before args s = true) (hown : s.vm.findClass R_M = some mi.cls) (hK : va_K (dC, dI) classes [(cB, .long)] s) (hP : va_P (dC, dI) classes [(h1, .inr (1, [.long (lN (p * q)), .long (lN (p * q * (p * q))), .long (lN (sp_f p q)), .long (lN (sp_cex p q)), .int (nI bx), .int (nI cl), .int (nI cd), .int (nI rd), .ref q1])), (q1, .inl (cB, 30, .inr (.inl (fun j => lN (g j)))))] H) {k : Nat} (hrd : rd < 2 ^ 31) (hkk : k < 2 ^ 31) (k25 : ∀ (i : Nat) (ls : Array Slot), lv_has ls 5 [(4, .int (nI i)), (0, .ref h1), (1, .int (nI k)), (2, .long (lN (rd ^ i)))] → (i = k) → W pg l ev R s mi args below meth co H locs cells slots Q (F0 mi 25 ls [])) : ∀ (mz : Nat) (i : Nat) (ls : Array Slot), lv_has ls 5 [(4, .int (nI i)), (0, .ref h1), (1, .int (nI k)), (2, .long (lN (rd ^ i)))] → (i ≤ k) → k - i = mz → W pg l ev R s mi args below meth co H locs cells slots Q (F0 mi 5 ls []) := by
  intro mz
  induction mz using Nat.strongRecOn with
  | ind mz ih =>
    intro i ls hl h1_ hk
    subst hk
    refine lv_iload hx hb d_M_place_5 (lv_at hl 0 rfl) ?_
    refine lv_iload_n hx hb d_M_place_7 rfl (lv_at hl 2 rfl) ?_
    refine lv_icmp_ge (tgt := 25) hx hb d_M_place_8 (by decide) (fun hc8 => ?_) (fun hc8 => ?_)
    · skip
      rw [nI_leI (a := k) (b := i) (by omega) (by omega)] at hc8
      exact k25 i ls (lv_sub hl [0, 1, 2, 3] rfl) (by omega)
    · skip
      rw [nI_leI (a := k) (b := i) (by omega) (by omega)] at hc8
      refine lv_lload_n hx hb d_M_place_11 rfl (lv_at hl 3 rfl) ?_
      refine lv_aload_n hx hb d_M_place_12 rfl (lv_at hl 1 rfl) ?_
      refine va_get (D := (dC, dI)) (ci := 1) (v := .int (nI rd)) (C := R_M) (T := F_M) (N := 9) hx hb hts f_M hown hK hP 0 rfl rfl 7 (by decide) (hts _ (al_m aw_t214)) (fun _ h9 => h9) rfl d_M_place_13 ?_
      refine lv_i2l (v := lN rd) hx hb d_M_place_16 (nI_l (by omega)) ?_
      refine lv_lmul hx hb d_M_place_17 ?_
      refine wk_l (y := lN (rd ^ (i + 1))) (by rw [lN_mul, Nat.pow_succ]) ?_
      refine lv_lstore_n (lv' := [(2, .long (lN (rd ^ (i + 1)))), (4, .int (nI i)), (0, .ref h1), (1, .int (nI k))]) hx hb d_M_place_18 rfl hl (by decide) rfl (fun ls hl => ?_)
      refine lv_iinc (k := 1) (v := nI (i + 1)) (lv' := [(4, .int (nI (i + 1))), (2, .long (lN (rd ^ (i + 1)))), (0, .ref h1), (1, .int (nI k))]) hx hb d_M_place_19 hl rfl (ii_1 i) (by decide) rfl (fun ls hl => ?_)
      refine lv_goto (tgt := 5) hx hb d_M_place_22 (by decide) ?_
      exact ih _ (by omega) (i + 1) ls (lv_sub hl [0, 2, 3, 1] rfl) (by omega) rfl
end

set_option maxHeartbeats 4000000 in
set_option maxRecDepth 100000 in
theorem c_M_place (l : Launch) (dC : Nat → ClassId) (dI : Nat → Nat → Nat) (h1 q1 : Nat) (cB : ClassId) (p q bx cl cd rd : Nat) (g : Nat → Nat) (k : Nat) (hrd : rd < 2 ^ 31) (hkk : k < 2 ^ 31) : Met l y_M_place w_M_place ({ frames := 0, cells := 0, slots := 0, locals := 0 }) (va_Pc [.ref h1, .int (nI k)] (fun U => va_P (dC, dI) classes [(h1, .inr (1, [.long (lN (p * q)), .long (lN (p * q * (p * q))), .long (lN (sp_f p q)), .long (lN (sp_cex p q)), .int (nI bx), .int (nI cl), .int (nI cd), .int (nI rd), .ref q1])), (q1, .inl (cB, 30, .inr (.inl (fun j => lN (g j)))))] U.heap ∧ va_K (dC, dI) classes [(cB, .long)] U)) (qL (lN (rd ^ k))) 0 0 (fun _ => False) := by
  refine Met.ofW (cc := b_M_place) (maxL := 5) (ret := some .long) (by decide) rfl ?_
  intro pg ev s mi args below meth co s₁ B hml hv
  obtain ⟨rfl, hP, hK⟩ := hv
  have hx := B.exec
  have hb := B.bytes
  have hr := B.returns
  have hts := atoms_spec (ws := w_M_place) B.pre
  have hown : s.vm.findClass R_M = some mi.cls := findClass_of_methodNamed B.named
  have hlocks := B.notSynchronized
  have hS : va_S (fun _ => False) s.heap s.heap [] := va_S.rf
  have hP : va_P (dC, dI) classes [(h1, .inr (1, [.long (lN (p * q)), .long (lN (p * q * (p * q))), .long (lN (sp_f p q)), .long (lN (sp_cex p q)), .int (nI bx), .int (nI cl), .int (nI cd), .int (nI rd), .ref q1])), (q1, .inl (cB, 30, .inr (.inl (fun j => lN (g j)))))] s.heap := hP
  have hl := lv_entry ([.ref h1, .int (nI k)]) (n := 5) (Nat.le_of_ble_eq_true rfl)
  rw [lg_entry_eq]
  generalize (lg_sl ([.ref h1, .int (nI k)]) ++ List.replicate (5 - (lg_sl ([.ref h1, .int (nI k)])).length) Slot.unset).toArray = ls at hl ⊢
  have hl : lv_has ls 5 [(0, .ref h1), (1, .int (nI k))] := hl
  refine lv_lconst (v := lN 1) hx hb d_M_place_0 rfl ?_
  refine lv_lstore_n (lv' := [(2, .long (lN 1)), (0, .ref h1), (1, .int (nI k))]) hx hb d_M_place_1 rfl hl (by decide) rfl (fun ls hl => ?_)
  refine lv_iconst (v := nI 0) hx hb d_M_place_2 (by decide) ?_
  refine lv_istore (lv' := [(4, .int (nI 0)), (2, .long (lN 1)), (0, .ref h1), (1, .int (nI k))]) hx hb d_M_place_3 hl (by decide) rfl (fun ls hl => ?_)
  refine lp_M_place_5 hx hb hts hown hK hP hrd hkk (fun i ls hl hq => ?_) _ 0 ls (lv_sub hl [0, 2, 3, 1] rfl) (by omega) rfl
  refine lv_lload_n hx hb d_M_place_25 rfl (lv_at hl 3 rfl) ?_
  exact pu_lret hx hb hr hS d_M_place_26 hlocks (by rw [hq])

section
variable {pg : Program} {l : Launch} {ev : Env} {R : Room} {s : State} {mi : MethodId} {args : Array Value} {below : List Frame} {meth : Method} {co : Code} {H : Heap} {locs : List Loc} {cells slots : Nat} {Q : State → Prop}
set_option maxHeartbeats 4000000 in
set_option maxRecDepth 100000 in
theorem lp_M_count_4 {h1 q1 : Nat} {cB : ClassId} {p q bx cl cd rd : Nat} {g : Nat → Nat} (hx : pg.tables.exec = Jvm.exec) (hb : co.code = b_M_count) {w0 : Cond} {dC : Nat → ClassId} {dI : Nat → Nat → Nat} (hts : ∀ w ∈ w0 :: al_w, w.before args s = true) (hown : s.vm.findClass R_M = some mi.cls) (hK : va_K (dC, dI) classes [(cB, .long)] s) (hP : va_P (dC, dI) classes [(h1, .inr (1, [.long (lN (p * q)), .long (lN (p * q * (p * q))), .long (lN (sp_f p q)), .long (lN (sp_cex p q)), .int (nI bx), .int (nI cl), .int (nI cd), .int (nI rd), .ref q1])), (q1, .inl (cB, 30, .inr (.inl (fun j => lN (g j)))))] H) (hg : ∀ j, j < 30 → g j < 2 ^ 63) (k35 : ∀ (v : Nat) (i : Nat) (ls : Array Slot), lv_has ls 3 [(1, .int (nI v)), (2, .int (nI i)), (0, .ref h1)] → (v = sp_cnt g 30) → W pg l ev R s mi args below meth co H locs cells slots Q (F0 mi 35 ls [])) : ∀ (mz : Nat) (v : Nat) (i : Nat) (ls : Array Slot), lv_has ls 3 [(1, .int (nI v)), (2, .int (nI i)), (0, .ref h1)] → (i ≤ 30) → (v = sp_cnt g i) → (v ≤ i) → 30 - i = mz → W pg l ev R s mi args below meth co H locs cells slots Q (F0 mi 4 ls []) := by
  intro mz
  induction mz using Nat.strongRecOn with
  | ind mz ih =>
    intro v i ls hl h1_ h2 h3 hk
    subst hk
    refine lv_iload_n hx hb d_M_count_4 rfl (lv_at hl 1 rfl) ?_
    refine lv_bipush (v := nI 30) hx hb d_M_count_5 (by decide) ?_
    refine lv_icmp_ge (tgt := 35) hx hb d_M_count_7 (by decide) (fun hc7 => ?_) (fun hc7 => ?_)
    · skip
      rw [nI_leI (a := 30) (b := i) (by omega) (by omega)] at hc7
      exact k35 v i ls (lv_sub hl [0, 1, 2] rfl) (by have e : i = 30 := (by omega); rw [← e]; exact h2)
    · skip
      rw [nI_leI (a := 30) (b := i) (by omega) (by omega)] at hc7
      refine lv_iload_n hx hb d_M_count_10 rfl (lv_at hl 0 rfl) ?_
      refine lv_aload_n hx hb d_M_count_11 rfl (lv_at hl 2 rfl) ?_
      refine va_get (D := (dC, dI)) (ci := 1) (v := .ref q1) (C := R_M) (T := F_M) (N := 9) hx hb hts f_M hown hK hP 0 rfl rfl 8 (by decide) (hts _ (al_m aw_t215)) (fun _ h9 => h9) rfl d_M_count_12 ?_
      refine lv_iload_n hx hb d_M_count_15 rfl (lv_at hl 1 rfl) ?_
      refine va_lald hx hb hK hP 1 0 rfl rfl (vp_in_nI (by omega) (by decide)) d_M_count_16 ?_
      refine wk_l (y := lN (g i)) (by rw [nI_clamp (by omega)]) ?_
      refine lv_lconst (v := lN 0) hx hb d_M_count_17 rfl ?_
      have hgi := hg i (by omega)
      refine W.lcmp hx hb d_M_count_18 ?_
      refine lv_if_eq (tgt := 26) hx hb d_M_count_19 (by decide) (fun hc19 => ?_) (fun hc19 => ?_)
      · skip
        rw [lg_cmp_eq] at hc19
        rw [pk_lEQ (a := g i) (b := 0) (by omega) (by omega)] at hc19
        refine lv_iconst (v := nI 0) hx hb d_M_count_26 (by decide) ?_
        refine lv_iadd hx hb d_M_count_27 ?_
        refine wk_i (y := nI (v + 0)) (nI_add v 0) ?_
        refine lv_istore_n (lv' := [(1, .int (nI (v + 0))), (2, .int (nI i)), (0, .ref h1)]) hx hb d_M_count_28 rfl hl (by decide) rfl (fun ls hl => ?_)
        refine lv_iinc (k := 1) (v := nI (i + 1)) (lv' := [(2, .int (nI (i + 1))), (1, .int (nI (v + 0))), (0, .ref h1)]) hx hb d_M_count_29 hl rfl (ii_1 i) (by decide) rfl (fun ls hl => ?_)
        refine lv_goto (tgt := 4) hx hb d_M_count_32 (by decide) ?_
        exact ih _ (by omega) (v + 0) (i + 1) ls (lv_sub hl [1, 0, 2] rfl) (by omega) (by first | (simp only [sp_cnt, if_neg hc19, ← h2]; done) | (simp only [sp_cnt, if_pos hc19, ← h2]; done)) (by omega) rfl
      · skip
        rw [lg_cmp_eq] at hc19
        rw [pk_lEQ (a := g i) (b := 0) (by omega) (by omega)] at hc19
        refine lv_iconst (v := nI 1) hx hb d_M_count_22 (by decide) ?_
        refine lv_goto (tgt := 27) hx hb d_M_count_23 (by decide) ?_
        refine lv_iadd hx hb d_M_count_27 ?_
        refine wk_i (y := nI (v + 1)) (nI_add v 1) ?_
        refine lv_istore_n (lv' := [(1, .int (nI (v + 1))), (2, .int (nI i)), (0, .ref h1)]) hx hb d_M_count_28 rfl hl (by decide) rfl (fun ls hl => ?_)
        refine lv_iinc (k := 1) (v := nI (i + 1)) (lv' := [(2, .int (nI (i + 1))), (1, .int (nI (v + 1))), (0, .ref h1)]) hx hb d_M_count_29 hl rfl (ii_1 i) (by decide) rfl (fun ls hl => ?_)
        refine lv_goto (tgt := 4) hx hb d_M_count_32 (by decide) ?_
        exact ih _ (by omega) (v + 1) (i + 1) ls (lv_sub hl [1, 0, 2] rfl) (by omega) (by first | (simp only [sp_cnt, if_neg hc19, ← h2]; done) | (simp only [sp_cnt, if_pos hc19, ← h2]; done)) (by omega) rfl
end

set_option maxHeartbeats 4000000 in
set_option maxRecDepth 100000 in
theorem c_M_count (l : Launch) (dC : Nat → ClassId) (dI : Nat → Nat → Nat) (h1 q1 : Nat) (cB : ClassId) (p q bx cl cd rd : Nat) (g : Nat → Nat) (hg : ∀ j, j < 30 → g j < 2 ^ 63) : Met l y_M_count w_M_count ({ frames := 0, cells := 0, slots := 0, locals := 0 }) (va_Pc [.ref h1] (fun U => va_P (dC, dI) classes [(h1, .inr (1, [.long (lN (p * q)), .long (lN (p * q * (p * q))), .long (lN (sp_f p q)), .long (lN (sp_cex p q)), .int (nI bx), .int (nI cl), .int (nI cd), .int (nI rd), .ref q1])), (q1, .inl (cB, 30, .inr (.inl (fun j => lN (g j)))))] U.heap ∧ va_K (dC, dI) classes [(cB, .long)] U)) (qI (nI (sp_cnt g 30))) 0 0 (fun _ => False) := by
  refine Met.ofW (cc := b_M_count) (maxL := 3) (ret := some .int) (by decide) rfl ?_
  intro pg ev s mi args below meth co s₁ B hml hv
  obtain ⟨rfl, hP, hK⟩ := hv
  have hx := B.exec
  have hb := B.bytes
  have hr := B.returns
  have hts := atoms_spec (ws := w_M_count) B.pre
  have hown : s.vm.findClass R_M = some mi.cls := findClass_of_methodNamed B.named
  have hlocks := B.notSynchronized
  have hS : va_S (fun _ => False) s.heap s.heap [] := va_S.rf
  have hP : va_P (dC, dI) classes [(h1, .inr (1, [.long (lN (p * q)), .long (lN (p * q * (p * q))), .long (lN (sp_f p q)), .long (lN (sp_cex p q)), .int (nI bx), .int (nI cl), .int (nI cd), .int (nI rd), .ref q1])), (q1, .inl (cB, 30, .inr (.inl (fun j => lN (g j)))))] s.heap := hP
  have hl := lv_entry ([.ref h1]) (n := 3) (Nat.le_of_ble_eq_true rfl)
  rw [lg_entry_eq]
  generalize (lg_sl ([.ref h1]) ++ List.replicate (3 - (lg_sl ([.ref h1])).length) Slot.unset).toArray = ls at hl ⊢
  have hl : lv_has ls 3 [(0, .ref h1)] := hl
  refine lv_iconst (v := nI 0) hx hb d_M_count_0 (by decide) ?_
  refine lv_istore_n (lv' := [(1, .int (nI 0)), (0, .ref h1)]) hx hb d_M_count_1 rfl hl (by decide) rfl (fun ls hl => ?_)
  refine lv_iconst (v := nI 0) hx hb d_M_count_2 (by decide) ?_
  refine lv_istore_n (lv' := [(2, .int (nI 0)), (1, .int (nI 0)), (0, .ref h1)]) hx hb d_M_count_3 rfl hl (by decide) rfl (fun ls hl => ?_)
  refine lp_M_count_4 hx hb hts hown hK hP hg (fun v i ls hl hq => ?_) _ 0 0 ls (lv_sub hl [1, 0, 2] rfl) (by omega) (rfl) (by omega) rfl
  refine lv_iload_n hx hb d_M_count_35 rfl (lv_at hl 0 rfl) ?_
  exact pu_iret hx hb hr hS d_M_count_36 hlocks (congrArg nI hq)

section
variable {pg : Program} {l : Launch} {ev : Env} {R : Room} {s : State} {mi : MethodId} {args : Array Value} {below : List Frame} {meth : Method} {co : Code} {H : Heap} {locs : List Loc} {cells slots : Nat} {Q : State → Prop}
set_option maxHeartbeats 4000000 in
set_option maxRecDepth 100000 in
theorem lp_M_product_5 {h1 q1 : Nat} {cB : ClassId} {p q bx cl cd rd : Nat} {g : Nat → Nat} (hx : pg.tables.exec = Jvm.exec) (hb : co.code = b_M_product) {w0 : Cond} {dC : Nat → ClassId} {dI : Nat → Nat → Nat} (hts : ∀ w ∈ w0 :: al_w, w.before args s = true) (hown : s.vm.findClass R_M = some mi.cls) (hK : va_K (dC, dI) classes [(cB, .long)] s) (hP : va_P (dC, dI) classes [(h1, .inr (1, [.long (lN (p * q)), .long (lN (p * q * (p * q))), .long (lN (sp_f p q)), .long (lN (sp_cex p q)), .int (nI bx), .int (nI cl), .int (nI cd), .int (nI rd), .ref q1])), (q1, .inl (cB, 30, .inr (.inl (fun j => lN (g j)))))] H) (hn : p * q * (p * q) ≤ 2750058481) (hn1 : 1 < p * q * (p * q)) (hg : ∀ j, j < 30 → g j < p * q * (p * q)) (k44 : ∀ (x : Nat) (kk : Nat) (ls : Array Slot), lv_has ls 4 [(1, .long (lN x)), (3, .int (nI kk - 1)), (0, .ref h1)] → (x = sp_prod g 30 % (p * q * (p * q))) → W pg l ev R s mi args below meth co H locs cells slots Q (F0 mi 44 ls [])) : ∀ (mz : Nat) (x : Nat) (kk : Nat) (ls : Array Slot), lv_has ls 4 [(1, .long (lN x)), (3, .int (nI kk - 1)), (0, .ref h1)] → (kk ≤ 30) → (x < p * q * (p * q)) → (x = sp_down g (30 - kk) % (p * q * (p * q))) → kk = mz → W pg l ev R s mi args below meth co H locs cells slots Q (F0 mi 5 ls []) := by
  intro mz
  induction mz using Nat.strongRecOn with
  | ind mz ih =>
    intro x kk ls hl h1_ h2 h3 hk
    subst hk
    refine lv_iload_n hx hb d_M_product_5 rfl (lv_at hl 1 rfl) ?_
    refine lv_if_lt (tgt := 44) hx hb d_M_product_6 (by decide) (fun hc6 => ?_) (fun hc6 => ?_)
    · skip
      rw [← nI_0] at hc6
      rw [ix_lt (x := nI kk - 1) (n := 0) (by omega)] at hc6
      have hk0 : kk = 0 := dn_0 (by omega) hc6
      exact k44 x kk ls (lv_sub hl [0, 1, 2] rfl) (by rw [h3, hk0, Nat.sub_zero, fa_down30])
    · skip
      rw [← nI_0] at hc6
      rw [ix_lt (x := nI kk - 1) (n := 0) (by omega)] at hc6
      obtain ⟨j, rfl⟩ : ∃ j, kk = j + 1 := dn_s hc6
      rw [nI_pred] at hl
      have hgi := hg j (by omega)
      refine lv_aload_n hx hb d_M_product_9 rfl (lv_at hl 2 rfl) ?_
      refine va_get (D := (dC, dI)) (ci := 1) (v := .ref q1) (C := R_M) (T := F_M) (N := 9) hx hb hts f_M hown hK hP 0 rfl rfl 8 (by decide) (hts _ (al_m aw_t215)) (fun _ h9 => h9) rfl d_M_product_10 ?_
      refine lv_iload_n hx hb d_M_product_13 rfl (lv_at hl 1 rfl) ?_
      refine va_lald hx hb hK hP 1 0 rfl rfl (vp_in_nI (by omega) (by decide)) d_M_product_14 ?_
      refine wk_l (y := lN (g j)) (by rw [nI_clamp (by omega)]) ?_
      refine lv_lconst (v := lN 0) hx hb d_M_product_15 rfl ?_
      refine W.lcmp hx hb d_M_product_16 ?_
      refine lv_if_eq (tgt := 36) hx hb d_M_product_17 (by decide) (fun hc17 => ?_) (fun hc17 => ?_)
      · skip
        rw [lg_cmp_eq] at hc17
        rw [pk_lEQ (a := g j) (b := 0) (by omega) (by omega)] at hc17
        refine lv_lload_n hx hb d_M_product_36 rfl (lv_at hl 0 rfl) ?_
        refine lv_lstore_n (lv' := [(1, .long (lN x)), (3, .int (nI j)), (0, .ref h1)]) hx hb d_M_product_37 rfl hl (by decide) rfl (fun ls hl => ?_)
        refine lv_iinc (k := 1) (v := nI j - 1) (lv' := [(3, .int (nI j - 1)), (1, .long (lN x)), (0, .ref h1)]) hx hb d_M_product_38 hl rfl (dn_m j) (by decide) rfl (fun ls hl => ?_)
        refine lv_goto (tgt := 5) hx hb d_M_product_41 (by decide) ?_
        exact ih j (by omega) x j ls (lv_sub hl [1, 0, 2] rfl) (by omega) (by first | exact h2 | exact Nat.mod_lt _ (by omega)) (by first | exact dn_step1 (by omega) hc17 h3 | exact dn_step0 (by omega) hc17 h3) rfl
      · skip
        rw [lg_cmp_eq] at hc17
        rw [pk_lEQ (a := g j) (b := 0) (by omega) (by omega)] at hc17
        refine lv_lload_n hx hb d_M_product_20 rfl (lv_at hl 0 rfl) ?_
        refine lv_aload_n hx hb d_M_product_21 rfl (lv_at hl 2 rfl) ?_
        refine va_get (D := (dC, dI)) (ci := 1) (v := .ref q1) (C := R_M) (T := F_M) (N := 9) hx hb hts f_M hown hK hP 0 rfl rfl 8 (by decide) (hts _ (al_m aw_t215)) (fun _ h9 => h9) rfl d_M_product_22 ?_
        refine lv_iload_n hx hb d_M_product_25 rfl (lv_at hl 1 rfl) ?_
        refine va_lald hx hb hK hP 1 0 rfl rfl (vp_in_nI (by omega) (by decide)) d_M_product_26 ?_
        refine wk_l (y := lN (g j)) (by rw [nI_clamp (by omega)]) ?_
        refine lv_lmul hx hb d_M_product_27 ?_
        refine wk_l (y := lN (x * (g j))) (lN_mul x (g j)) ?_
        refine lv_aload_n hx hb d_M_product_28 rfl (lv_at hl 2 rfl) ?_
        refine va_get (D := (dC, dI)) (ci := 1) (v := .long (lN (p * q * (p * q)))) (C := R_M) (T := F_M) (N := 9) hx hb hts f_M hown hK hP 0 rfl rfl 1 (by decide) (hts _ (al_m aw_t208)) (fun _ h9 => h9) rfl d_M_product_29 ?_
        refine lv_lrem hx hb d_M_product_32 (lN_ne0 (by omega) (by omega)) ?_
        refine wk_l (y := lN (x * g j % (p * q * (p * q)))) (pk_lRem (rs_lt h2 hgi hn) (by omega) (by omega)) ?_
        refine lv_goto (tgt := 37) hx hb d_M_product_33 (by decide) ?_
        refine lv_lstore_n (lv' := [(1, .long (lN (x * g j % (p * q * (p * q))))), (3, .int (nI j)), (0, .ref h1)]) hx hb d_M_product_37 rfl hl (by decide) rfl (fun ls hl => ?_)
        refine lv_iinc (k := 1) (v := nI j - 1) (lv' := [(3, .int (nI j - 1)), (1, .long (lN (x * g j % (p * q * (p * q))))), (0, .ref h1)]) hx hb d_M_product_38 hl rfl (dn_m j) (by decide) rfl (fun ls hl => ?_)
        refine lv_goto (tgt := 5) hx hb d_M_product_41 (by decide) ?_
        exact ih j (by omega) (x * g j % (p * q * (p * q))) j ls (lv_sub hl [1, 0, 2] rfl) (by omega) (by first | exact h2 | exact Nat.mod_lt _ (by omega)) (by first | exact dn_step1 (by omega) hc17 h3 | exact dn_step0 (by omega) hc17 h3) rfl
end

set_option maxHeartbeats 4000000 in
set_option maxRecDepth 100000 in
theorem c_M_product (l : Launch) (dC : Nat → ClassId) (dI : Nat → Nat → Nat) (h1 q1 : Nat) (cB : ClassId) (p q bx cl cd rd : Nat) (g : Nat → Nat) (hk : ma_K p q) (hg : ∀ j, j < 30 → g j < p * q * (p * q)) : Met l y_M_product w_M_product ({ frames := 0, cells := 0, slots := 0, locals := 0 }) (va_Pc [.ref h1] (fun U => va_P (dC, dI) classes [(h1, .inr (1, [.long (lN (p * q)), .long (lN (p * q * (p * q))), .long (lN (sp_f p q)), .long (lN (sp_cex p q)), .int (nI bx), .int (nI cl), .int (nI cd), .int (nI rd), .ref q1])), (q1, .inl (cB, 30, .inr (.inl (fun j => lN (g j)))))] U.heap ∧ va_K (dC, dI) classes [(cB, .long)] U)) (qL (lN (sp_prod g 30 % (p * q * (p * q))))) 0 0 (fun _ => False) := by
  refine Met.ofW (cc := b_M_product) (maxL := 4) (ret := some .long) (by decide) rfl ?_
  intro pg ev s mi args below meth co s₁ B hml hv
  obtain ⟨rfl, hP, hK⟩ := hv
  have hx := B.exec
  have hb := B.bytes
  have hr := B.returns
  have hts := atoms_spec (ws := w_M_product) B.pre
  have hown : s.vm.findClass R_M = some mi.cls := findClass_of_methodNamed B.named
  have hlocks := B.notSynchronized
  have hS : va_S (fun _ => False) s.heap s.heap [] := va_S.rf
  have hP : va_P (dC, dI) classes [(h1, .inr (1, [.long (lN (p * q)), .long (lN (p * q * (p * q))), .long (lN (sp_f p q)), .long (lN (sp_cex p q)), .int (nI bx), .int (nI cl), .int (nI cd), .int (nI rd), .ref q1])), (q1, .inl (cB, 30, .inr (.inl (fun j => lN (g j)))))] s.heap := hP
  have hl := lv_entry ([.ref h1]) (n := 4) (Nat.le_of_ble_eq_true rfl)
  rw [lg_entry_eq]
  generalize (lg_sl ([.ref h1]) ++ List.replicate (4 - (lg_sl ([.ref h1])).length) Slot.unset).toArray = ls at hl ⊢
  have hl : lv_has ls 4 [(0, .ref h1)] := hl
  have hbg := ma_big hk
  have hp3 := hk.1.1
  have hq3 := hk.2.1.1
  have hp9 := hk.1.2.1
  have hq9 := hk.2.1.2.1
  have hkf := ma_keyf hk
  refine lv_lconst (v := lN 1) hx hb d_M_product_0 rfl ?_
  refine lv_lstore_n (lv' := [(1, .long (lN 1)), (0, .ref h1)]) hx hb d_M_product_1 rfl hl (by decide) rfl (fun ls hl => ?_)
  refine lv_bipush (v := nI 29) hx hb d_M_product_2 (by decide) ?_
  refine lv_istore_n (lv' := [(3, .int (nI 29)), (1, .long (lN 1)), (0, .ref h1)]) hx hb d_M_product_4 rfl hl (by decide) rfl (fun ls hl => ?_)
  have hl : lv_has ls 4 [(3, .int (nI 30 - 1)), (1, .long (lN 1)), (0, .ref h1)] := by rw [show (nI 29 : Int32) = nI 30 - 1 from by decide] at hl; exact hl
  refine lp_M_product_5 hx hb hts hown hK hP (by omega) (by omega) hg (fun x kk ls hl hq => ?_) _ 1 30 ls (lv_sub hl [1, 0, 2] rfl) (by omega) (by omega) (by show 1 = 1 % (p * q * (p * q)); exact (Nat.mod_eq_of_lt (by omega)).symm) rfl
  refine lv_lload_n hx hb d_M_product_44 rfl (lv_at hl 0 rfl) ?_
  exact pu_lret hx hb hr hS d_M_product_45 hlocks (congrArg lN hq)
end
section
set_option maxHeartbeats 4000000 in
set_option maxRecDepth 100000 in
theorem c_M_modulus (l : Launch) (dC : Nat → ClassId) (dI : Nat → Nat → Nat) (h1 q1 : Nat) (cB : ClassId) (p q bx cl cd rd : Nat) (g : Nat → Nat)  : Met l y_M_modulus w_M_modulus ({ frames := 0, cells := 0, slots := 0, locals := 0 }) (va_Pc [.ref h1] (fun U => va_P (dC, dI) classes [(h1, .inr (1, [.long (lN (p * q)), .long (lN (p * q * (p * q))), .long (lN (sp_f p q)), .long (lN (sp_cex p q)), .int (nI bx), .int (nI cl), .int (nI cd), .int (nI rd), .ref q1])), (q1, .inl (cB, 30, .inr (.inl (fun j => lN (g j)))))] U.heap ∧ va_K (dC, dI) classes [(cB, .long)] U)) (qI (nI (p * q))) 0 0 (fun _ => False) := by
  refine Met.ofW (cc := b_M_modulus) (maxL := 1) (ret := some .int) (by decide) rfl ?_
  intro pg ev s mi args below meth co s₁ B hml hv
  obtain ⟨rfl, hP, hK⟩ := hv
  have hx := B.exec
  have hb := B.bytes
  have hr := B.returns
  have hts := atoms_spec (ws := w_M_modulus) B.pre
  have hown : s.vm.findClass R_M = some mi.cls := findClass_of_methodNamed B.named
  have hlocks := B.notSynchronized
  have hS : va_S (fun _ => False) s.heap s.heap [] := va_S.rf
  have hP : va_P (dC, dI) classes [(h1, .inr (1, [.long (lN (p * q)), .long (lN (p * q * (p * q))), .long (lN (sp_f p q)), .long (lN (sp_cex p q)), .int (nI bx), .int (nI cl), .int (nI cd), .int (nI rd), .ref q1])), (q1, .inl (cB, 30, .inr (.inl (fun j => lN (g j)))))] s.heap := hP
  have hl := lv_entry ([.ref h1]) (n := 1) (Nat.le_of_ble_eq_true rfl)
  rw [lg_entry_eq]
  generalize (lg_sl ([.ref h1]) ++ List.replicate (1 - (lg_sl ([.ref h1])).length) Slot.unset).toArray = ls at hl ⊢
  have hl : lv_has ls 1 [(0, .ref h1)] := hl
  refine lv_aload_n hx hb d_M_modulus_0 rfl (lv_at hl 0 rfl) ?_
  refine va_get (D := (dC, dI)) (ci := 1) (v := .long (lN (p * q))) (C := R_M) (T := F_M) (N := 9) hx hb hts f_M hown hK hP 0 rfl rfl 0 (by decide) (hts _ (al_m aw_t207)) (fun _ h9 => h9) rfl d_M_modulus_1 ?_
  refine lv_l2i (v := nI (p * q)) hx hb d_M_modulus_4 (lN_i (p * q)) ?_
  exact pu_iret hx hb hr hS d_M_modulus_5 hlocks (rfl)

set_option maxHeartbeats 4000000 in
set_option maxRecDepth 100000 in
theorem c_M_seal (l : Launch) (dC : Nat → ClassId) (dI : Nat → Nat → Nat) (h1 q1 : Nat) (cB : ClassId) (p q bx cl cd rd : Nat) (g : Nat → Nat) (x y : Int64) (cx : Nat) (hj : Jv p q cx rd g)  : Met l y_M_seal w_M_seal ({ frames := 2, cells := 0, slots := 0, locals := 57 }) (va_Pc [.ref h1, .long x, .long y] (fun U => va_P (dC, dI) classes [(h1, .inr (1, [.long (lN (p * q)), .long (lN (p * q * (p * q))), .long (lN (sp_f p q)), .long (lN (sp_cex p q)), .int (nI bx), .int (nI cl), .int (nI cd), .int (nI rd), .ref q1])), (q1, .inl (cB, 30, .inr (.inl (fun j => lN (g j)))))] U.heap ∧ va_K (dC, dI) classes [(cB, .long)] U)) (qL (an_seal p q x y)) 0 0 (fun _ => False) := by
  refine Met.ofW (cc := b_M_seal) (maxL := 5) (ret := some .long) (by decide) rfl ?_
  intro pg ev s mi args below meth co s₁ B hml hv
  obtain ⟨rfl, hP, hK⟩ := hv
  have hx := B.exec
  have hb := B.bytes
  have hr := B.returns
  have hts := atoms_spec (ws := w_M_seal) B.pre
  have hown : s.vm.findClass R_M = some mi.cls := findClass_of_methodNamed B.named
  have hlocks := B.notSynchronized
  have hS : va_S (fun _ => False) s.heap s.heap [] := va_S.rf
  have hP : va_P (dC, dI) classes [(h1, .inr (1, [.long (lN (p * q)), .long (lN (p * q * (p * q))), .long (lN (sp_f p q)), .long (lN (sp_cex p q)), .int (nI bx), .int (nI cl), .int (nI cd), .int (nI rd), .ref q1])), (q1, .inl (cB, 30, .inr (.inl (fun j => lN (g j)))))] s.heap := hP
  have hl := lv_entry ([.ref h1, .long x, .long y]) (n := 5) (Nat.le_of_ble_eq_true rfl)
  rw [lg_entry_eq]
  generalize (lg_sl ([.ref h1, .long x, .long y]) ++ List.replicate (5 - (lg_sl ([.ref h1, .long x, .long y])).length) Slot.unset).toArray = ls at hl ⊢
  have hl : lv_has ls 5 [(0, .ref h1), (1, .long x), (3, .long y)] := hl
  have hjn := jv_n hj
  refine lv_aload_n hx hb d_M_seal_0 rfl (lv_at hl 0 rfl) ?_
  refine va_get (D := (dC, dI)) (ci := 1) (v := .long (lN (p * q))) (C := R_M) (T := F_M) (N := 9) hx hb hts f_M hown hK hP 0 rfl rfl 0 (by decide) (hts _ (al_m aw_t207)) (fun _ h9 => h9) rfl d_M_seal_1 ?_
  refine lv_lconst (v := lN 0) hx hb d_M_seal_4 rfl ?_
  refine W.lcmp hx hb d_M_seal_5 ?_
  refine lv_if_ne (tgt := 13) hx hb d_M_seal_6 (by decide) (fun hc6 => ?_) (fun hc6 => ?_)
  · skip
    rw [lg_cmp_eq] at hc6
    rw [pk_lEQ (a := p * q) (b := 0) (by omega) (by omega)] at hc6
    have hp0 : p ≠ 0 := fun hh => hc6 ((jv_p0 hj).mpr hh)
    have hk := jv_key hj hp0
    have hbg := ma_big hk
    have hp3 := hk.1.1
    have hq3 := hk.2.1.1
    have hp9 := hk.1.2.1
    have hq9 := hk.2.1.2.1
    have hkf := ma_keyf hk
    refine lv_aload_n hx hb d_M_seal_13 rfl (lv_at hl 0 rfl) ?_
    refine lv_lload_n hx hb d_M_seal_14 rfl (lv_at hl 1 rfl) ?_
    refine pu_i (va_runV (As := [.long x]) (rest := []) ⟨hx, hb, hml, hown, hts⟩ (c_M_isMessage l dC dI h1 q1 cB p q bx cl cd rd g x (by omega)) (cwV 1 hts (al_V (k_M_isMessage) (aw_t251) (aw_t253) (aw_p13) (aw_t2)) rfl rfl rfl (by decide +kernel) ⟨Nat.le_of_ble_eq_true rfl, Nat.le_of_ble_eq_true rfl⟩) (pu_preV (q0 := 0) (ci := 1) hK hP rfl rfl) rfl rfl hl.1 rfl (lv_room (Nat.le_of_ble_eq_true rfl)) d_M_seal_15 ⟨Nat.zero_le _, Nat.zero_le _⟩) hS (fun H locs hkp hS => ?_)
    have hP := hkp _ _ _ hP
    refine lv_if_eq (tgt := 38) hx hb d_M_seal_18 (by decide) (fun hc18 => ?_) (fun hc18 => ?_)
    · skip
      rw [bI_0] at hc18
      refine lv_ldc2 (v := -4) hx hb hown (hts _ (al_m aw_t270)) d_M_seal_38 ?_
      exact pu_lret hx hb hr hS d_M_seal_41 hlocks (by simp [an_seal, hp0, hc18])
    · skip
      rw [bI_0] at hc18
      rw [Bool.not_eq_false] at hc18
      refine lv_aload_n hx hb d_M_seal_21 rfl (lv_at hl 0 rfl) ?_
      refine lv_lload_n hx hb d_M_seal_22 rfl (lv_at hl 2 rfl) ?_
      refine pu_i (va_runV (As := [.long y]) (rest := []) ⟨hx, hb, hml, hown, hts⟩ (c_M_isCoin l dC dI h1 q1 cB p q bx cl cd rd g y hk) (cwV 1 hts (al_V (k_M_isCoin) (aw_t255) (aw_t257) (aw_p14) (aw_t2)) rfl rfl rfl (by decide +kernel) ⟨Nat.le_of_ble_eq_true rfl, Nat.le_of_ble_eq_true rfl⟩) (pu_preV (q0 := 0) (ci := 1) hK hP rfl rfl) rfl rfl hl.1 rfl (lv_room (Nat.le_of_ble_eq_true rfl)) d_M_seal_23 ⟨Nat.zero_le _, Nat.zero_le _⟩) hS (fun H locs hkp hS => ?_)
      have hP := hkp _ _ _ hP
      refine lv_if_eq (tgt := 38) hx hb d_M_seal_26 (by decide) (fun hc26 => ?_) (fun hc26 => ?_)
      · skip
        rw [bI_0] at hc26
        refine lv_ldc2 (v := -4) hx hb hown (hts _ (al_m aw_t270)) d_M_seal_38 ?_
        exact pu_lret hx hb hr hS d_M_seal_41 hlocks (by simp [an_seal, hp0, hc18, hc26])
      · skip
        rw [bI_0] at hc26
        rw [Bool.not_eq_false] at hc26
        obtain ⟨a, ha1, ha2, rfl⟩ := sp_isM_of hc18
        obtain ⟨b, hb1, hb2, hb3, hb4, hb5, rfl⟩ := sp_isC_of hc26
        refine lv_aload_n hx hb d_M_seal_29 rfl (lv_at hl 0 rfl) ?_
        refine lv_lload_n hx hb d_M_seal_30 rfl (lv_at hl 1 rfl) ?_
        refine lv_lload_n hx hb d_M_seal_31 rfl (lv_at hl 2 rfl) ?_
        refine pu_l (va_runV (As := [.long (lN a), .long (lN b)]) (rest := []) ⟨hx, hb, hml, hown, hts⟩ (c_M_sealing l dC dI h1 q1 cB p q bx cl cd rd g a b hk ha2 hb3) (cwV 2 hts (al_V (k_M_sealing) (aw_t262) (aw_t264) (aw_p15) (aw_t2)) rfl rfl rfl (by decide +kernel) ⟨Nat.le_of_ble_eq_true rfl, Nat.le_of_ble_eq_true rfl⟩) (pu_preV (q0 := 0) (ci := 1) hK hP rfl rfl) rfl rfl hl.1 rfl (lv_room (Nat.le_of_ble_eq_true rfl)) d_M_seal_32 ⟨Nat.zero_le _, Nat.zero_le _⟩) hS (fun H locs hkp hS => ?_)
        have hP := hkp _ _ _ hP
        refine lv_goto (tgt := 41) hx hb d_M_seal_35 (by decide) ?_
        exact pu_lret hx hb hr hS d_M_seal_41 hlocks (by simp [an_seal, hp0, hc18, hc26, lx_nat ha2, lx_nat hb3])
  · skip
    rw [lg_cmp_eq] at hc6
    rw [pk_lEQ (a := p * q) (b := 0) (by omega) (by omega)] at hc6
    have hp0 : p = 0 := (jv_p0 hj).mp hc6
    refine lv_ldc2 (v := -1) hx hb hown (hts _ (al_m aw_t250)) d_M_seal_9 ?_
    exact pu_lret hx hb hr hS d_M_seal_12 hlocks (by simp [an_seal, hp0])

set_option maxHeartbeats 4000000 in
set_option maxRecDepth 100000 in
theorem c_M_message (l : Launch) (dC : Nat → ClassId) (dI : Nat → Nat → Nat) (h1 q1 : Nat) (cB : ClassId) (p q bx cl cd rd : Nat) (g : Nat → Nat) (x : Int64) (cx : Nat) (hj : Jv p q cx rd g)  : Met l y_M_message w_M_message ({ frames := 3, cells := 0, slots := 0, locals := 83 }) (va_Pc [.ref h1, .long x] (fun U => va_P (dC, dI) classes [(h1, .inr (1, [.long (lN (p * q)), .long (lN (p * q * (p * q))), .long (lN (sp_f p q)), .long (lN (sp_cex p q)), .int (nI bx), .int (nI cl), .int (nI cd), .int (nI rd), .ref q1])), (q1, .inl (cB, 30, .inr (.inl (fun j => lN (g j)))))] U.heap ∧ va_K (dC, dI) classes [(cB, .long)] U)) (qL (an_msg p q x)) 0 0 (fun _ => False) := by
  refine Met.ofW (cc := b_M_message) (maxL := 3) (ret := some .long) (by decide) rfl ?_
  intro pg ev s mi args below meth co s₁ B hml hv
  obtain ⟨rfl, hP, hK⟩ := hv
  have hx := B.exec
  have hb := B.bytes
  have hr := B.returns
  have hts := atoms_spec (ws := w_M_message) B.pre
  have hown : s.vm.findClass R_M = some mi.cls := findClass_of_methodNamed B.named
  have hlocks := B.notSynchronized
  have hS : va_S (fun _ => False) s.heap s.heap [] := va_S.rf
  have hP : va_P (dC, dI) classes [(h1, .inr (1, [.long (lN (p * q)), .long (lN (p * q * (p * q))), .long (lN (sp_f p q)), .long (lN (sp_cex p q)), .int (nI bx), .int (nI cl), .int (nI cd), .int (nI rd), .ref q1])), (q1, .inl (cB, 30, .inr (.inl (fun j => lN (g j)))))] s.heap := hP
  have hl := lv_entry ([.ref h1, .long x]) (n := 3) (Nat.le_of_ble_eq_true rfl)
  rw [lg_entry_eq]
  generalize (lg_sl ([.ref h1, .long x]) ++ List.replicate (3 - (lg_sl ([.ref h1, .long x])).length) Slot.unset).toArray = ls at hl ⊢
  have hl : lv_has ls 3 [(0, .ref h1), (1, .long x)] := hl
  have hjn := jv_n hj
  refine lv_aload_n hx hb d_M_message_0 rfl (lv_at hl 0 rfl) ?_
  refine va_get (D := (dC, dI)) (ci := 1) (v := .long (lN (p * q))) (C := R_M) (T := F_M) (N := 9) hx hb hts f_M hown hK hP 0 rfl rfl 0 (by decide) (hts _ (al_m aw_t207)) (fun _ h9 => h9) rfl d_M_message_1 ?_
  refine lv_lconst (v := lN 0) hx hb d_M_message_4 rfl ?_
  refine W.lcmp hx hb d_M_message_5 ?_
  refine lv_if_ne (tgt := 13) hx hb d_M_message_6 (by decide) (fun hc6 => ?_) (fun hc6 => ?_)
  · skip
    rw [lg_cmp_eq] at hc6
    rw [pk_lEQ (a := p * q) (b := 0) (by omega) (by omega)] at hc6
    have hp0 : p ≠ 0 := fun hh => hc6 ((jv_p0 hj).mpr hh)
    have hk := jv_key hj hp0
    have hbg := ma_big hk
    have hp3 := hk.1.1
    have hq3 := hk.2.1.1
    have hp9 := hk.1.2.1
    have hq9 := hk.2.1.2.1
    have hkf := ma_keyf hk
    refine lv_aload_n hx hb d_M_message_13 rfl (lv_at hl 0 rfl) ?_
    refine lv_lload_n hx hb d_M_message_14 rfl (lv_at hl 1 rfl) ?_
    refine pu_i (va_runV (As := [.long x]) (rest := []) ⟨hx, hb, hml, hown, hts⟩ (c_M_isSeal l dC dI h1 q1 cB p q bx cl cd rd g x hk) (cwV 1 hts (al_V (k_M_isSeal) (aw_t275) (aw_t277) (aw_p16) (aw_t2)) rfl rfl rfl (by decide +kernel) ⟨Nat.le_of_ble_eq_true rfl, Nat.le_of_ble_eq_true rfl⟩) (pu_preV (q0 := 0) (ci := 1) hK hP rfl rfl) rfl rfl hl.1 rfl (lv_room (Nat.le_of_ble_eq_true rfl)) d_M_message_15 ⟨Nat.zero_le _, Nat.zero_le _⟩) hS (fun H locs hkp hS => ?_)
    have hP := hkp _ _ _ hP
    refine lv_if_eq (tgt := 29) hx hb d_M_message_18 (by decide) (fun hc18 => ?_) (fun hc18 => ?_)
    · skip
      rw [bI_0] at hc18
      refine lv_ldc2 (v := -4) hx hb hown (hts _ (al_m aw_t270)) d_M_message_29 ?_
      exact pu_lret hx hb hr hS d_M_message_32 hlocks (by simp [an_msg, hp0, hc18])
    · skip
      rw [bI_0] at hc18
      rw [Bool.not_eq_false] at hc18
      obtain ⟨a, ha1, ha2, ha3, ha4, ha5, rfl⟩ := sp_isS_of hc18
      refine lv_aload_n hx hb d_M_message_21 rfl (lv_at hl 0 rfl) ?_
      refine lv_lload_n hx hb d_M_message_22 rfl (lv_at hl 1 rfl) ?_
      refine pu_l (va_runV (As := [.long (lN a)]) (rest := []) ⟨hx, hb, hml, hown, hts⟩ (c_M_messageIn l dC dI h1 q1 cB p q bx cl cd rd g a hk ha2 ha4 ha5) (cwV 1 hts (al_V (k_M_messageIn) (aw_t279) (aw_t281) (aw_p17) (aw_t2)) rfl rfl rfl (by decide +kernel) ⟨Nat.le_of_ble_eq_true rfl, Nat.le_of_ble_eq_true rfl⟩) (pu_preV (q0 := 0) (ci := 1) hK hP rfl rfl) rfl rfl hl.1 rfl (lv_room (Nat.le_of_ble_eq_true rfl)) d_M_message_23 ⟨Nat.zero_le _, Nat.zero_le _⟩) hS (fun H locs hkp hS => ?_)
      have hP := hkp _ _ _ hP
      refine lv_goto (tgt := 32) hx hb d_M_message_26 (by decide) ?_
      exact pu_lret hx hb hr hS d_M_message_32 hlocks (by simp [an_msg, hp0, hc18, lx_nat ha3])
  · skip
    rw [lg_cmp_eq] at hc6
    rw [pk_lEQ (a := p * q) (b := 0) (by omega) (by omega)] at hc6
    have hp0 : p = 0 := (jv_p0 hj).mp hc6
    refine lv_ldc2 (v := -1) hx hb hown (hts _ (al_m aw_t250)) d_M_message_9 ?_
    exact pu_lret hx hb hr hS d_M_message_12 hlocks (by simp [an_msg, hp0])

set_option maxHeartbeats 4000000 in
set_option maxRecDepth 100000 in
theorem c_M_coin (l : Launch) (dC : Nat → ClassId) (dI : Nat → Nat → Nat) (h1 q1 : Nat) (cB : ClassId) (p q bx cl cd rd : Nat) (g : Nat → Nat) (x : Int64) (cx : Nat) (hj : Jv p q cx rd g)  : Met l y_M_coin w_M_coin ({ frames := 2, cells := 0, slots := 0, locals := 53 }) (va_Pc [.ref h1, .long x] (fun U => va_P (dC, dI) classes [(h1, .inr (1, [.long (lN (p * q)), .long (lN (p * q * (p * q))), .long (lN (sp_f p q)), .long (lN (sp_cex p q)), .int (nI bx), .int (nI cl), .int (nI cd), .int (nI rd), .ref q1])), (q1, .inl (cB, 30, .inr (.inl (fun j => lN (g j)))))] U.heap ∧ va_K (dC, dI) classes [(cB, .long)] U)) (qL (an_coin p q x)) 0 0 (fun _ => False) := by
  refine Met.ofW (cc := b_M_coin) (maxL := 3) (ret := some .long) (by decide) rfl ?_
  intro pg ev s mi args below meth co s₁ B hml hv
  obtain ⟨rfl, hP, hK⟩ := hv
  have hx := B.exec
  have hb := B.bytes
  have hr := B.returns
  have hts := atoms_spec (ws := w_M_coin) B.pre
  have hown : s.vm.findClass R_M = some mi.cls := findClass_of_methodNamed B.named
  have hlocks := B.notSynchronized
  have hS : va_S (fun _ => False) s.heap s.heap [] := va_S.rf
  have hP : va_P (dC, dI) classes [(h1, .inr (1, [.long (lN (p * q)), .long (lN (p * q * (p * q))), .long (lN (sp_f p q)), .long (lN (sp_cex p q)), .int (nI bx), .int (nI cl), .int (nI cd), .int (nI rd), .ref q1])), (q1, .inl (cB, 30, .inr (.inl (fun j => lN (g j)))))] s.heap := hP
  have hl := lv_entry ([.ref h1, .long x]) (n := 3) (Nat.le_of_ble_eq_true rfl)
  rw [lg_entry_eq]
  generalize (lg_sl ([.ref h1, .long x]) ++ List.replicate (3 - (lg_sl ([.ref h1, .long x])).length) Slot.unset).toArray = ls at hl ⊢
  have hl : lv_has ls 3 [(0, .ref h1), (1, .long x)] := hl
  have hjn := jv_n hj
  refine lv_aload_n hx hb d_M_coin_0 rfl (lv_at hl 0 rfl) ?_
  refine va_get (D := (dC, dI)) (ci := 1) (v := .long (lN (p * q))) (C := R_M) (T := F_M) (N := 9) hx hb hts f_M hown hK hP 0 rfl rfl 0 (by decide) (hts _ (al_m aw_t207)) (fun _ h9 => h9) rfl d_M_coin_1 ?_
  refine lv_lconst (v := lN 0) hx hb d_M_coin_4 rfl ?_
  refine W.lcmp hx hb d_M_coin_5 ?_
  refine lv_if_ne (tgt := 13) hx hb d_M_coin_6 (by decide) (fun hc6 => ?_) (fun hc6 => ?_)
  · skip
    rw [lg_cmp_eq] at hc6
    rw [pk_lEQ (a := p * q) (b := 0) (by omega) (by omega)] at hc6
    have hp0 : p ≠ 0 := fun hh => hc6 ((jv_p0 hj).mpr hh)
    have hk := jv_key hj hp0
    have hbg := ma_big hk
    have hp3 := hk.1.1
    have hq3 := hk.2.1.1
    have hp9 := hk.1.2.1
    have hq9 := hk.2.1.2.1
    have hkf := ma_keyf hk
    refine lv_aload_n hx hb d_M_coin_13 rfl (lv_at hl 0 rfl) ?_
    refine lv_lload_n hx hb d_M_coin_14 rfl (lv_at hl 1 rfl) ?_
    refine pu_i (va_runV (As := [.long x]) (rest := []) ⟨hx, hb, hml, hown, hts⟩ (c_M_isSeal l dC dI h1 q1 cB p q bx cl cd rd g x hk) (cwV 1 hts (al_V (k_M_isSeal) (aw_t275) (aw_t277) (aw_p16) (aw_t2)) rfl rfl rfl (by decide +kernel) ⟨Nat.le_of_ble_eq_true rfl, Nat.le_of_ble_eq_true rfl⟩) (pu_preV (q0 := 0) (ci := 1) hK hP rfl rfl) rfl rfl hl.1 rfl (lv_room (Nat.le_of_ble_eq_true rfl)) d_M_coin_15 ⟨Nat.zero_le _, Nat.zero_le _⟩) hS (fun H locs hkp hS => ?_)
    have hP := hkp _ _ _ hP
    refine lv_if_eq (tgt := 29) hx hb d_M_coin_18 (by decide) (fun hc18 => ?_) (fun hc18 => ?_)
    · skip
      rw [bI_0] at hc18
      refine lv_ldc2 (v := -4) hx hb hown (hts _ (al_m aw_t270)) d_M_coin_29 ?_
      exact pu_lret hx hb hr hS d_M_coin_32 hlocks (by simp [an_coin, hp0, hc18])
    · skip
      rw [bI_0] at hc18
      rw [Bool.not_eq_false] at hc18
      obtain ⟨a, ha1, ha2, ha3, ha4, ha5, rfl⟩ := sp_isS_of hc18
      refine lv_aload_n hx hb d_M_coin_21 rfl (lv_at hl 0 rfl) ?_
      refine lv_lload_n hx hb d_M_coin_22 rfl (lv_at hl 1 rfl) ?_
      refine pu_l (va_runV (As := [.long (lN a)]) (rest := []) ⟨hx, hb, hml, hown, hts⟩ (c_M_coinIn l dC dI h1 q1 cB p q bx cl cd rd g a hk ha3) (cwV 1 hts (al_V (k_M_coinIn) (aw_t283) (aw_t285) (aw_p18) (aw_t2)) rfl rfl rfl (by decide +kernel) ⟨Nat.le_of_ble_eq_true rfl, Nat.le_of_ble_eq_true rfl⟩) (pu_preV (q0 := 0) (ci := 1) hK hP rfl rfl) rfl rfl hl.1 rfl (lv_room (Nat.le_of_ble_eq_true rfl)) d_M_coin_23 ⟨Nat.zero_le _, Nat.zero_le _⟩) hS (fun H locs hkp hS => ?_)
      have hP := hkp _ _ _ hP
      refine lv_goto (tgt := 32) hx hb d_M_coin_26 (by decide) ?_
      exact pu_lret hx hb hr hS d_M_coin_32 hlocks (by simp [an_coin, hp0, hc18, lx_nat ha3])
  · skip
    rw [lg_cmp_eq] at hc6
    rw [pk_lEQ (a := p * q) (b := 0) (by omega) (by omega)] at hc6
    have hp0 : p = 0 := (jv_p0 hj).mp hc6
    refine lv_ldc2 (v := -1) hx hb hown (hts _ (al_m aw_t250)) d_M_coin_9 ?_
    exact pu_lret hx hb hr hS d_M_coin_12 hlocks (by simp [an_coin, hp0])

set_option maxHeartbeats 4000000 in
set_option maxRecDepth 100000 in
theorem c_M_join (l : Launch) (dC : Nat → ClassId) (dI : Nat → Nat → Nat) (h1 q1 : Nat) (cB : ClassId) (p q bx cl cd rd : Nat) (g : Nat → Nat) (x y : Int64) (cx : Nat) (hj : Jv p q cx rd g)  : Met l y_M_join w_M_join ({ frames := 2, cells := 0, slots := 0, locals := 51 }) (va_Pc [.ref h1, .long x, .long y] (fun U => va_P (dC, dI) classes [(h1, .inr (1, [.long (lN (p * q)), .long (lN (p * q * (p * q))), .long (lN (sp_f p q)), .long (lN (sp_cex p q)), .int (nI bx), .int (nI cl), .int (nI cd), .int (nI rd), .ref q1])), (q1, .inl (cB, 30, .inr (.inl (fun j => lN (g j)))))] U.heap ∧ va_K (dC, dI) classes [(cB, .long)] U)) (qL (an_join p q x y)) 0 0 (fun _ => False) := by
  refine Met.ofW (cc := b_M_join) (maxL := 5) (ret := some .long) (by decide) rfl ?_
  intro pg ev s mi args below meth co s₁ B hml hv
  obtain ⟨rfl, hP, hK⟩ := hv
  have hx := B.exec
  have hb := B.bytes
  have hr := B.returns
  have hts := atoms_spec (ws := w_M_join) B.pre
  have hown : s.vm.findClass R_M = some mi.cls := findClass_of_methodNamed B.named
  have hlocks := B.notSynchronized
  have hS : va_S (fun _ => False) s.heap s.heap [] := va_S.rf
  have hP : va_P (dC, dI) classes [(h1, .inr (1, [.long (lN (p * q)), .long (lN (p * q * (p * q))), .long (lN (sp_f p q)), .long (lN (sp_cex p q)), .int (nI bx), .int (nI cl), .int (nI cd), .int (nI rd), .ref q1])), (q1, .inl (cB, 30, .inr (.inl (fun j => lN (g j)))))] s.heap := hP
  have hl := lv_entry ([.ref h1, .long x, .long y]) (n := 5) (Nat.le_of_ble_eq_true rfl)
  rw [lg_entry_eq]
  generalize (lg_sl ([.ref h1, .long x, .long y]) ++ List.replicate (5 - (lg_sl ([.ref h1, .long x, .long y])).length) Slot.unset).toArray = ls at hl ⊢
  have hl : lv_has ls 5 [(0, .ref h1), (1, .long x), (3, .long y)] := hl
  have hjn := jv_n hj
  refine lv_aload_n hx hb d_M_join_0 rfl (lv_at hl 0 rfl) ?_
  refine va_get (D := (dC, dI)) (ci := 1) (v := .long (lN (p * q))) (C := R_M) (T := F_M) (N := 9) hx hb hts f_M hown hK hP 0 rfl rfl 0 (by decide) (hts _ (al_m aw_t207)) (fun _ h9 => h9) rfl d_M_join_1 ?_
  refine lv_lconst (v := lN 0) hx hb d_M_join_4 rfl ?_
  refine W.lcmp hx hb d_M_join_5 ?_
  refine lv_if_ne (tgt := 13) hx hb d_M_join_6 (by decide) (fun hc6 => ?_) (fun hc6 => ?_)
  · skip
    rw [lg_cmp_eq] at hc6
    rw [pk_lEQ (a := p * q) (b := 0) (by omega) (by omega)] at hc6
    have hp0 : p ≠ 0 := fun hh => hc6 ((jv_p0 hj).mpr hh)
    have hk := jv_key hj hp0
    have hbg := ma_big hk
    have hp3 := hk.1.1
    have hq3 := hk.2.1.1
    have hp9 := hk.1.2.1
    have hq9 := hk.2.1.2.1
    have hkf := ma_keyf hk
    refine lv_aload_n hx hb d_M_join_13 rfl (lv_at hl 0 rfl) ?_
    refine lv_lload_n hx hb d_M_join_14 rfl (lv_at hl 1 rfl) ?_
    refine pu_i (va_runV (As := [.long x]) (rest := []) ⟨hx, hb, hml, hown, hts⟩ (c_M_isSeal l dC dI h1 q1 cB p q bx cl cd rd g x hk) (cwV 1 hts (al_V (k_M_isSeal) (aw_t275) (aw_t277) (aw_p16) (aw_t2)) rfl rfl rfl (by decide +kernel) ⟨Nat.le_of_ble_eq_true rfl, Nat.le_of_ble_eq_true rfl⟩) (pu_preV (q0 := 0) (ci := 1) hK hP rfl rfl) rfl rfl hl.1 rfl (lv_room (Nat.le_of_ble_eq_true rfl)) d_M_join_15 ⟨Nat.zero_le _, Nat.zero_le _⟩) hS (fun H locs hkp hS => ?_)
    have hP := hkp _ _ _ hP
    refine lv_if_eq (tgt := 40) hx hb d_M_join_18 (by decide) (fun hc18 => ?_) (fun hc18 => ?_)
    · skip
      rw [bI_0] at hc18
      refine lv_ldc2 (v := -4) hx hb hown (hts _ (al_m aw_t270)) d_M_join_40 ?_
      exact pu_lret hx hb hr hS d_M_join_43 hlocks (by simp [an_join, hp0, hc18])
    · skip
      rw [bI_0] at hc18
      rw [Bool.not_eq_false] at hc18
      refine lv_aload_n hx hb d_M_join_21 rfl (lv_at hl 0 rfl) ?_
      refine lv_lload_n hx hb d_M_join_22 rfl (lv_at hl 2 rfl) ?_
      refine pu_i (va_runV (As := [.long y]) (rest := []) ⟨hx, hb, hml, hown, hts⟩ (c_M_isSeal l dC dI h1 q1 cB p q bx cl cd rd g y hk) (cwV 1 hts (al_V (k_M_isSeal) (aw_t275) (aw_t277) (aw_p16) (aw_t2)) rfl rfl rfl (by decide +kernel) ⟨Nat.le_of_ble_eq_true rfl, Nat.le_of_ble_eq_true rfl⟩) (pu_preV (q0 := 0) (ci := 1) hK hP rfl rfl) rfl rfl hl.1 rfl (lv_room (Nat.le_of_ble_eq_true rfl)) d_M_join_23 ⟨Nat.zero_le _, Nat.zero_le _⟩) hS (fun H locs hkp hS => ?_)
      have hP := hkp _ _ _ hP
      refine lv_if_eq (tgt := 40) hx hb d_M_join_26 (by decide) (fun hc26 => ?_) (fun hc26 => ?_)
      · skip
        rw [bI_0] at hc26
        refine lv_ldc2 (v := -4) hx hb hown (hts _ (al_m aw_t270)) d_M_join_40 ?_
        exact pu_lret hx hb hr hS d_M_join_43 hlocks (by simp [an_join, hp0, hc18, hc26])
      · skip
        rw [bI_0] at hc26
        rw [Bool.not_eq_false] at hc26
        obtain ⟨a, ha1, ha2, ha3, ha4, ha5, rfl⟩ := sp_isS_of hc18
        obtain ⟨b, hb1, hb2, hb3, hb4, hb5, rfl⟩ := sp_isS_of hc26
        refine lv_lload_n hx hb d_M_join_29 rfl (lv_at hl 1 rfl) ?_
        refine lv_lload_n hx hb d_M_join_30 rfl (lv_at hl 2 rfl) ?_
        refine lv_lmul hx hb d_M_join_31 ?_
        refine wk_l (y := lN (a * b)) (lN_mul a b) ?_
        refine lv_aload_n hx hb d_M_join_32 rfl (lv_at hl 0 rfl) ?_
        refine va_get (D := (dC, dI)) (ci := 1) (v := .long (lN (p * q * (p * q)))) (C := R_M) (T := F_M) (N := 9) hx hb hts f_M hown hK hP 0 rfl rfl 1 (by decide) (hts _ (al_m aw_t208)) (fun _ h9 => h9) rfl d_M_join_33 ?_
        refine lv_lrem hx hb d_M_join_36 (lN_ne0 (by omega) (by omega)) ?_
        refine wk_l (y := lN (a * b % (p * q * (p * q)))) (pk_lRem (rs_lt ha2 hb2 (by omega)) (by omega) (by omega)) ?_
        refine lv_goto (tgt := 43) hx hb d_M_join_37 (by decide) ?_
        exact pu_lret hx hb hr hS d_M_join_43 hlocks (by simp [an_join, hp0, hc18, hc26, lx_nat ha3, lx_nat hb3])
  · skip
    rw [lg_cmp_eq] at hc6
    rw [pk_lEQ (a := p * q) (b := 0) (by omega) (by omega)] at hc6
    have hp0 : p = 0 := (jv_p0 hj).mp hc6
    refine lv_ldc2 (v := -1) hx hb hown (hts _ (al_m aw_t250)) d_M_join_9 ?_
    exact pu_lret hx hb hr hS d_M_join_12 hlocks (by simp [an_join, hp0])

set_option maxHeartbeats 4000000 in
set_option maxRecDepth 100000 in
theorem c_M_power (l : Launch) (dC : Nat → ClassId) (dI : Nat → Nat → Nat) (h1 q1 : Nat) (cB : ClassId) (p q bx cl cd rd : Nat) (g : Nat → Nat) (x : Int64) (y : Int32) (cx : Nat) (hj : Jv p q cx rd g)  : Met l y_M_power w_M_power ({ frames := 2, cells := 0, slots := 0, locals := 51 }) (va_Pc [.ref h1, .long x, .int y] (fun U => va_P (dC, dI) classes [(h1, .inr (1, [.long (lN (p * q)), .long (lN (p * q * (p * q))), .long (lN (sp_f p q)), .long (lN (sp_cex p q)), .int (nI bx), .int (nI cl), .int (nI cd), .int (nI rd), .ref q1])), (q1, .inl (cB, 30, .inr (.inl (fun j => lN (g j)))))] U.heap ∧ va_K (dC, dI) classes [(cB, .long)] U)) (qL (an_power p q x y)) 0 0 (fun _ => False) := by
  refine Met.ofW (cc := b_M_power) (maxL := 8) (ret := some .long) (by decide) rfl ?_
  intro pg ev s mi args below meth co s₁ B hml hv
  obtain ⟨rfl, hP, hK⟩ := hv
  have hx := B.exec
  have hb := B.bytes
  have hr := B.returns
  have hts := atoms_spec (ws := w_M_power) B.pre
  have hown : s.vm.findClass R_M = some mi.cls := findClass_of_methodNamed B.named
  have hlocks := B.notSynchronized
  have hS : va_S (fun _ => False) s.heap s.heap [] := va_S.rf
  have hP : va_P (dC, dI) classes [(h1, .inr (1, [.long (lN (p * q)), .long (lN (p * q * (p * q))), .long (lN (sp_f p q)), .long (lN (sp_cex p q)), .int (nI bx), .int (nI cl), .int (nI cd), .int (nI rd), .ref q1])), (q1, .inl (cB, 30, .inr (.inl (fun j => lN (g j)))))] s.heap := hP
  have hl := lv_entry ([.ref h1, .long x, .int y]) (n := 8) (Nat.le_of_ble_eq_true rfl)
  rw [lg_entry_eq]
  generalize (lg_sl ([.ref h1, .long x, .int y]) ++ List.replicate (8 - (lg_sl ([.ref h1, .long x, .int y])).length) Slot.unset).toArray = ls at hl ⊢
  have hl : lv_has ls 8 [(0, .ref h1), (1, .long x), (3, .int y)] := hl
  have hjn := jv_n hj
  refine lv_aload_n hx hb d_M_power_0 rfl (lv_at hl 0 rfl) ?_
  refine va_get (D := (dC, dI)) (ci := 1) (v := .long (lN (p * q))) (C := R_M) (T := F_M) (N := 9) hx hb hts f_M hown hK hP 0 rfl rfl 0 (by decide) (hts _ (al_m aw_t207)) (fun _ h9 => h9) rfl d_M_power_1 ?_
  refine lv_lconst (v := lN 0) hx hb d_M_power_4 rfl ?_
  refine W.lcmp hx hb d_M_power_5 ?_
  refine lv_if_ne (tgt := 13) hx hb d_M_power_6 (by decide) (fun hc6 => ?_) (fun hc6 => ?_)
  · skip
    rw [lg_cmp_eq] at hc6
    rw [pk_lEQ (a := p * q) (b := 0) (by omega) (by omega)] at hc6
    have hp0 : p ≠ 0 := fun hh => hc6 ((jv_p0 hj).mpr hh)
    have hk := jv_key hj hp0
    have hbg := ma_big hk
    have hp3 := hk.1.1
    have hq3 := hk.2.1.1
    have hp9 := hk.1.2.1
    have hq9 := hk.2.1.2.1
    have hkf := ma_keyf hk
    refine lv_aload_n hx hb d_M_power_13 rfl (lv_at hl 0 rfl) ?_
    refine lv_lload_n hx hb d_M_power_14 rfl (lv_at hl 1 rfl) ?_
    refine pu_i (va_runV (As := [.long x]) (rest := []) ⟨hx, hb, hml, hown, hts⟩ (c_M_isSeal l dC dI h1 q1 cB p q bx cl cd rd g x hk) (cwV 1 hts (al_V (k_M_isSeal) (aw_t275) (aw_t277) (aw_p16) (aw_t2)) rfl rfl rfl (by decide +kernel) ⟨Nat.le_of_ble_eq_true rfl, Nat.le_of_ble_eq_true rfl⟩) (pu_preV (q0 := 0) (ci := 1) hK hP rfl rfl) rfl rfl hl.1 rfl (lv_room (Nat.le_of_ble_eq_true rfl)) d_M_power_15 ⟨Nat.zero_le _, Nat.zero_le _⟩) hS (fun H locs hkp hS => ?_)
    have hP := hkp _ _ _ hP
    refine lv_if_ne (tgt := 25) hx hb d_M_power_18 (by decide) (fun hc18 => ?_) (fun hc18 => ?_)
    · skip
      rw [bI_0] at hc18
      rw [Bool.not_eq_false] at hc18
      obtain ⟨a, ha1, ha2, ha3, ha4, ha5, rfl⟩ := sp_isS_of hc18
      refine lv_aload_n hx hb d_M_power_25 rfl (lv_at hl 0 rfl) ?_
      refine va_get (D := (dC, dI)) (ci := 1) (v := .long (lN (p * q))) (C := R_M) (T := F_M) (N := 9) hx hb hts f_M hown hK hP 0 rfl rfl 0 (by decide) (hts _ (al_m aw_t207)) (fun _ h9 => h9) rfl d_M_power_26 ?_
      refine lv_aload_n hx hb d_M_power_29 rfl (lv_at hl 0 rfl) ?_
      refine va_get (D := (dC, dI)) (ci := 1) (v := .long (lN (sp_f p q))) (C := R_M) (T := F_M) (N := 9) hx hb hts f_M hown hK hP 0 rfl rfl 2 (by decide) (hts _ (al_m aw_t209)) (fun _ h9 => h9) rfl d_M_power_30 ?_
      refine lv_lmul hx hb d_M_power_33 ?_
      refine wk_l (y := lN ((p * q) * (sp_f p q))) (lN_mul (p * q) (sp_f p q)) ?_
      refine lv_lstore (lv' := [(4, .long (lN ((p * q) * (sp_f p q)))), (0, .ref h1), (1, .long (lN a)), (3, .int y)]) hx hb d_M_power_34 hl (by decide) rfl (fun ls hl => ?_)
      refine lv_iload_n hx hb d_M_power_36 rfl (lv_at hl 3 rfl) ?_
      refine lv_i2l (v := Int32.toInt64 y) hx hb d_M_power_37 (rfl) ?_
      refine lv_lload hx hb d_M_power_38 (lv_at hl 0 rfl) ?_
      refine lv_lrem hx hb d_M_power_40 (lN_ne0 (ex_pos hk) (Nat.lt_trans (ex_lt hk) (by decide))) ?_
      refine lv_lstore (lv' := [(6, .long ((Int32.toInt64 y) - (Int32.toInt64 y) / (lN ((p * q) * (sp_f p q))) * (lN ((p * q) * (sp_f p q))))), (4, .long (lN ((p * q) * (sp_f p q)))), (0, .ref h1), (1, .long (lN a)), (3, .int y)]) hx hb d_M_power_41 hl (by decide) rfl (fun ls hl => ?_)
      refine lv_lload_n hx hb d_M_power_43 rfl (lv_at hl 3 rfl) ?_
      refine lv_lload hx hb d_M_power_44 (lv_at hl 0 rfl) ?_
      refine lv_lconst (v := lN 0) hx hb d_M_power_46 rfl ?_
      refine W.lcmp hx hb d_M_power_47 ?_
      refine lv_if_ge (tgt := 59) hx hb d_M_power_48 (by decide) (fun hc48 => ?_) (fun hc48 => ?_)
      · skip
        rw [lg_cmp_ge] at hc48
        rw [lx_le (x := (Int32.toInt64 y) - (Int32.toInt64 y) / (lN ((p * q) * (sp_f p q))) * (lN ((p * q) * (sp_f p q)))) (n := 0) (by omega)] at hc48
        refine lv_lload hx hb d_M_power_59 (lv_at hl 0 rfl) ?_
        refine wk_l (y := lN ((y.toInt % ((p * q * sp_f p q : Nat) : Int)).toNat)) ((fm_pos (x := Int32.toInt64 y) (ex_pos hk) (ex_lt hk) (by simpa using hc48)).trans (by rw [Int32.toInt_toInt64])) ?_
        refine lv_aload_n hx hb d_M_power_61 rfl (lv_at hl 2 rfl) ?_
        refine va_get (D := (dC, dI)) (ci := 1) (v := .long (lN (p * q * (p * q)))) (C := R_M) (T := F_M) (N := 9) hx hb hts f_M hown hK hP 0 rfl rfl 1 (by decide) (hts _ (al_m aw_t208)) (fun _ h9 => h9) rfl d_M_power_62 ?_
        refine pu_l (va_runS (As := [.long (lN a), .long (lN ((y.toInt % ((p * q * sp_f p q : Nat) : Int)).toNat)), .long (lN (p * q * (p * q)))]) (rest := []) ⟨hx, hb, hml, hown, hts⟩ (c_M_raise l a ((y.toInt % ((p * q * sp_f p q : Nat) : Int)).toNat) (p * q * (p * q)) (Nat.lt_trans (ex_32 hk y) (by decide)) (by omega) (by omega) ha3) (va_cwS 3 hts (al_S (k_M_raise) (aw_t266) (aw_t267) (aw_t2)) rfl rfl rfl (by decide +kernel) ⟨Nat.le_of_ble_eq_true rfl, Nat.le_of_ble_eq_true rfl⟩) pu_preS rfl rfl hl.1 rfl (lv_room (Nat.le_of_ble_eq_true rfl)) d_M_power_65 ⟨Nat.zero_le _, Nat.zero_le _⟩) hS (fun H locs hkp hS => ?_)
        have hP := hkp _ _ _ hP
        exact pu_lret hx hb hr hS d_M_power_68 hlocks (by simp only [an_power, if_neg hp0, hc18, if_true, lx_nat ha3])
      · skip
        rw [lg_cmp_ge] at hc48
        rw [lx_le (x := (Int32.toInt64 y) - (Int32.toInt64 y) / (lN ((p * q) * (sp_f p q))) * (lN ((p * q) * (sp_f p q)))) (n := 0) (by omega)] at hc48
        refine lv_lload hx hb d_M_power_51 (lv_at hl 0 rfl) ?_
        refine lv_lload hx hb d_M_power_53 (lv_at hl 1 rfl) ?_
        refine lv_ladd hx hb d_M_power_55 ?_
        refine wk_l (y := lN ((y.toInt % ((p * q * sp_f p q : Nat) : Int)).toNat)) ((fm_neg (x := Int32.toInt64 y) (ex_pos hk) (ex_lt hk) (by simpa using hc48)).trans (by rw [Int32.toInt_toInt64])) ?_
        refine lv_goto (tgt := 61) hx hb d_M_power_56 (by decide) ?_
        refine lv_aload_n hx hb d_M_power_61 rfl (lv_at hl 2 rfl) ?_
        refine va_get (D := (dC, dI)) (ci := 1) (v := .long (lN (p * q * (p * q)))) (C := R_M) (T := F_M) (N := 9) hx hb hts f_M hown hK hP 0 rfl rfl 1 (by decide) (hts _ (al_m aw_t208)) (fun _ h9 => h9) rfl d_M_power_62 ?_
        refine pu_l (va_runS (As := [.long (lN a), .long (lN ((y.toInt % ((p * q * sp_f p q : Nat) : Int)).toNat)), .long (lN (p * q * (p * q)))]) (rest := []) ⟨hx, hb, hml, hown, hts⟩ (c_M_raise l a ((y.toInt % ((p * q * sp_f p q : Nat) : Int)).toNat) (p * q * (p * q)) (Nat.lt_trans (ex_32 hk y) (by decide)) (by omega) (by omega) ha3) (va_cwS 3 hts (al_S (k_M_raise) (aw_t266) (aw_t267) (aw_t2)) rfl rfl rfl (by decide +kernel) ⟨Nat.le_of_ble_eq_true rfl, Nat.le_of_ble_eq_true rfl⟩) pu_preS rfl rfl hl.1 rfl (lv_room (Nat.le_of_ble_eq_true rfl)) d_M_power_65 ⟨Nat.zero_le _, Nat.zero_le _⟩) hS (fun H locs hkp hS => ?_)
        have hP := hkp _ _ _ hP
        exact pu_lret hx hb hr hS d_M_power_68 hlocks (by simp only [an_power, if_neg hp0, hc18, if_true, lx_nat ha3])
    · skip
      rw [bI_0] at hc18
      refine lv_ldc2 (v := -4) hx hb hown (hts _ (al_m aw_t270)) d_M_power_21 ?_
      exact pu_lret hx hb hr hS d_M_power_24 hlocks (by simp [an_power, hp0, hc18])
  · skip
    rw [lg_cmp_eq] at hc6
    rw [pk_lEQ (a := p * q) (b := 0) (by omega) (by omega)] at hc6
    have hp0 : p = 0 := (jv_p0 hj).mp hc6
    refine lv_ldc2 (v := -1) hx hb hown (hts _ (al_m aw_t250)) d_M_power_9 ?_
    exact pu_lret hx hb hr hS d_M_power_12 hlocks (by simp [an_power, hp0])

set_option maxHeartbeats 4000000 in
set_option maxRecDepth 100000 in
theorem c_M_choice (l : Launch) (dC : Nat → ClassId) (dI : Nat → Nat → Nat) (h1 q1 : Nat) (cB : ClassId) (p q bx cl cd rd : Nat) (g : Nat → Nat) (x : Int32) (y : Int64) (cx : Nat) (hj : Jv p q cx rd g) (hrd : rd < 2 ^ 31) (hbx : bx = 0 ↔ cx = 0) (hbx1 : bx ≤ 1) (hcd : cx ≠ 0 → cd = cx) (hcl : cl ≤ 1)  : Met l y_M_choice w_M_choice ({ frames := 2, cells := 0, slots := 0, locals := 57 }) (va_Pc [.ref h1, .int x, .long y] (fun U => va_P (dC, dI) classes [(h1, .inr (1, [.long (lN (p * q)), .long (lN (p * q * (p * q))), .long (lN (sp_f p q)), .long (lN (sp_cex p q)), .int (nI bx), .int (nI cl), .int (nI cd), .int (nI rd), .ref q1])), (q1, .inl (cB, 30, .inr (.inl (fun j => lN (g j)))))] U.heap ∧ va_K (dC, dI) classes [(cB, .long)] U)) (qL (an_choice p q cx rd x y)) 0 0 (fun _ => False) := by
  refine Met.ofW (cc := b_M_choice) (maxL := 4) (ret := some .long) (by decide) rfl ?_
  intro pg ev s mi args below meth co s₁ B hml hv
  obtain ⟨rfl, hP, hK⟩ := hv
  have hx := B.exec
  have hb := B.bytes
  have hr := B.returns
  have hts := atoms_spec (ws := w_M_choice) B.pre
  have hown : s.vm.findClass R_M = some mi.cls := findClass_of_methodNamed B.named
  have hlocks := B.notSynchronized
  have hS : va_S (fun _ => False) s.heap s.heap [] := va_S.rf
  have hP : va_P (dC, dI) classes [(h1, .inr (1, [.long (lN (p * q)), .long (lN (p * q * (p * q))), .long (lN (sp_f p q)), .long (lN (sp_cex p q)), .int (nI bx), .int (nI cl), .int (nI cd), .int (nI rd), .ref q1])), (q1, .inl (cB, 30, .inr (.inl (fun j => lN (g j)))))] s.heap := hP
  have hl := lv_entry ([.ref h1, .int x, .long y]) (n := 4) (Nat.le_of_ble_eq_true rfl)
  rw [lg_entry_eq]
  generalize (lg_sl ([.ref h1, .int x, .long y]) ++ List.replicate (4 - (lg_sl ([.ref h1, .int x, .long y])).length) Slot.unset).toArray = ls at hl ⊢
  have hl : lv_has ls 4 [(0, .ref h1), (1, .int x), (2, .long y)] := hl
  have hjn := jv_n hj
  refine lv_aload_n hx hb d_M_choice_0 rfl (lv_at hl 0 rfl) ?_
  refine va_get (D := (dC, dI)) (ci := 1) (v := .int (nI bx)) (C := R_M) (T := F_M) (N := 9) hx hb hts f_M hown hK hP 0 rfl rfl 4 (by decide) (hts _ (al_m aw_t211)) (fun _ h9 => h9) rfl d_M_choice_1 ?_
  refine lv_if_ne (tgt := 11) hx hb d_M_choice_4 (by decide) (fun hc4 => ?_) (fun hc4 => ?_)
  · skip
    rw [← nI_0] at hc4
    rw [nI_eq (a := bx) (b := 0) (by omega) (by omega)] at hc4
    have hx0 : cx ≠ 0 := fun hh => hc4 (hbx.mpr hh)
    obtain ⟨hk, hx1, hx6, hr2, hrp, hgj⟩ := jv_box hj hx0
    have hcd1 := hcd hx0
    have hbg := ma_big hk
    have hp3 := hk.1.1
    have hq3 := hk.2.1.1
    have hp9 := hk.1.2.1
    have hq9 := hk.2.1.2.1
    have hkf := ma_keyf hk
    refine lv_iload_n hx hb d_M_choice_11 rfl (lv_at hl 1 rfl) ?_
    refine lv_if_lt (tgt := 31) hx hb d_M_choice_12 (by decide) (fun hc12 => ?_) (fun hc12 => ?_)
    · skip
      rw [← nI_0] at hc12
      rw [ix_lt (x := x) (n := 0) (by omega)] at hc12
      have hcb_ : sp_cand cx x = false := by simp only [sp_cand, Bool.and_eq_false_iff, decide_eq_false_iff_not]; omega
      refine lv_ldc2 (v := -4) hx hb hown (hts _ (al_m aw_t270)) d_M_choice_31 ?_
      exact pu_lret hx hb hr hS d_M_choice_34 hlocks (by simp [an_choice, hx0, hcb_])
    · skip
      rw [← nI_0] at hc12
      rw [ix_lt (x := x) (n := 0) (by omega)] at hc12
      refine lv_iload_n hx hb d_M_choice_15 rfl (lv_at hl 1 rfl) ?_
      refine lv_aload_n hx hb d_M_choice_16 rfl (lv_at hl 0 rfl) ?_
      refine va_get (D := (dC, dI)) (ci := 1) (v := .int (nI cd)) (C := R_M) (T := F_M) (N := 9) hx hb hts f_M hown hK hP 0 rfl rfl 6 (by decide) (hts _ (al_m aw_t213)) (fun _ h9 => h9) rfl d_M_choice_17 ?_
      refine lv_icmp_ge (tgt := 31) hx hb d_M_choice_20 (by decide) (fun hc20 => ?_) (fun hc20 => ?_)
      · skip
        rw [ix_le (x := x) (n := cd) (by omega)] at hc20
        have hcb_ : sp_cand cx x = false := by simp only [sp_cand, Bool.and_eq_false_iff, decide_eq_false_iff_not]; omega
        refine lv_ldc2 (v := -4) hx hb hown (hts _ (al_m aw_t270)) d_M_choice_31 ?_
        exact pu_lret hx hb hr hS d_M_choice_34 hlocks (by simp [an_choice, hx0, hcb_])
      · skip
        rw [ix_le (x := x) (n := cd) (by omega)] at hc20
        have hct : sp_cand cx x = true := by simp only [sp_cand, Bool.and_eq_true, decide_eq_true_eq]; omega
        refine lv_aload_n hx hb d_M_choice_23 rfl (lv_at hl 0 rfl) ?_
        refine lv_lload_n hx hb d_M_choice_24 rfl (lv_at hl 2 rfl) ?_
        refine pu_i (va_runV (As := [.long y]) (rest := []) ⟨hx, hb, hml, hown, hts⟩ (c_M_isCoin l dC dI h1 q1 cB p q bx cl cd rd g y hk) (cwV 1 hts (al_V (k_M_isCoin) (aw_t255) (aw_t257) (aw_p14) (aw_t2)) rfl rfl rfl (by decide +kernel) ⟨Nat.le_of_ble_eq_true rfl, Nat.le_of_ble_eq_true rfl⟩) (pu_preV (q0 := 0) (ci := 1) hK hP rfl rfl) rfl rfl hl.1 rfl (lv_room (Nat.le_of_ble_eq_true rfl)) d_M_choice_25 ⟨Nat.zero_le _, Nat.zero_le _⟩) hS (fun H locs hkp hS => ?_)
        have hP := hkp _ _ _ hP
        refine lv_if_ne (tgt := 35) hx hb d_M_choice_28 (by decide) (fun hc28 => ?_) (fun hc28 => ?_)
        · skip
          rw [bI_0] at hc28
          rw [Bool.not_eq_false] at hc28
          obtain ⟨a, ha1, ha2, rfl⟩ := sp_cand_of hct
          obtain ⟨b, hb1, hb2, hb3, hb4, hb5, rfl⟩ := sp_isC_of hc28
          refine lv_aload_n hx hb d_M_choice_35 rfl (lv_at hl 0 rfl) ?_
          refine lv_aload_n hx hb d_M_choice_36 rfl (lv_at hl 0 rfl) ?_
          refine lv_iload_n hx hb d_M_choice_37 rfl (lv_at hl 1 rfl) ?_
          refine pu_l (va_runV (As := [.int (nI a)]) (rest := [.ref h1]) ⟨hx, hb, hml, hown, hts⟩ (c_M_place l dC dI h1 q1 cB p q bx cl cd rd g a hrd ha2) (cwV 1 hts (al_V (k_M_place) (aw_t308) (aw_t310) (aw_p19) (aw_t2)) rfl rfl rfl (by decide +kernel) ⟨Nat.le_of_ble_eq_true rfl, Nat.le_of_ble_eq_true rfl⟩) (pu_preV (q0 := 0) (ci := 1) hK hP rfl rfl) rfl rfl hl.1 rfl (lv_room (Nat.le_of_ble_eq_true rfl)) d_M_choice_38 ⟨Nat.zero_le _, Nat.zero_le _⟩) hS (fun H locs hkp hS => ?_)
          have hP := hkp _ _ _ hP
          refine lv_lload_n hx hb d_M_choice_41 rfl (lv_at hl 2 rfl) ?_
          refine pu_l (va_runV (As := [.long (lN (rd ^ a)), .long (lN b)]) (rest := []) ⟨hx, hb, hml, hown, hts⟩ (c_M_sealing l dC dI h1 q1 cB p q bx cl cd rd g (rd ^ a) b hk (Nat.lt_trans (rp_lt ha1 hr2 hrp) (by omega)) hb3) (cwV 2 hts (al_V (k_M_sealing) (aw_t262) (aw_t264) (aw_p15) (aw_t2)) rfl rfl rfl (by decide +kernel) ⟨Nat.le_of_ble_eq_true rfl, Nat.le_of_ble_eq_true rfl⟩) (pu_preV (q0 := 0) (ci := 1) hK hP rfl rfl) rfl rfl hl.1 rfl (lv_room (Nat.le_of_ble_eq_true rfl)) d_M_choice_42 ⟨Nat.zero_le _, Nat.zero_le _⟩) hS (fun H locs hkp hS => ?_)
          have hP := hkp _ _ _ hP
          exact pu_lret hx hb hr hS d_M_choice_45 hlocks (by simp [an_choice, hx0, hct, hc28, ix_nat ha2, lx_nat hb3])
        · skip
          rw [bI_0] at hc28
          refine lv_ldc2 (v := -4) hx hb hown (hts _ (al_m aw_t270)) d_M_choice_31 ?_
          exact pu_lret hx hb hr hS d_M_choice_34 hlocks (by simp [an_choice, hx0, hct, hc28])
  · skip
    rw [← nI_0] at hc4
    rw [nI_eq (a := bx) (b := 0) (by omega) (by omega)] at hc4
    have hx0 : cx = 0 := hbx.mp hc4
    refine lv_ldc2 (v := -2) hx hb hown (hts _ (al_m aw_t307)) d_M_choice_7 ?_
    exact pu_lret hx hb hr hS d_M_choice_10 hlocks (by simp [an_choice, hx0])

set_option maxHeartbeats 4000000 in
set_option maxRecDepth 100000 in
theorem c_M_ballot (l : Launch) (dC : Nat → ClassId) (dI : Nat → Nat → Nat) (h1 q1 : Nat) (cB : ClassId) (p q bx cl cd rd : Nat) (g : Nat → Nat) (x : Int32) (cx : Nat) (hj : Jv p q cx rd g) (hrd : rd < 2 ^ 31) (hbx : bx = 0 ↔ cx = 0) (hbx1 : bx ≤ 1) (hcd : cx ≠ 0 → cd = cx) (hcl : cl ≤ 1)  : Met l y_M_ballot w_M_ballot ({ frames := 0, cells := 0, slots := 0, locals := 0 }) (va_Pc [.ref h1, .int x] (fun U => va_P (dC, dI) classes [(h1, .inr (1, [.long (lN (p * q)), .long (lN (p * q * (p * q))), .long (lN (sp_f p q)), .long (lN (sp_cex p q)), .int (nI bx), .int (nI cl), .int (nI cd), .int (nI rd), .ref q1])), (q1, .inl (cB, 30, .inr (.inl (fun j => lN (g j)))))] U.heap ∧ va_K (dC, dI) classes [(cB, .long)] U)) (qL (an_ballot cx g x)) 0 0 (fun _ => False) := by
  refine Met.ofW (cc := b_M_ballot) (maxL := 2) (ret := some .long) (by decide) rfl ?_
  intro pg ev s mi args below meth co s₁ B hml hv
  obtain ⟨rfl, hP, hK⟩ := hv
  have hx := B.exec
  have hb := B.bytes
  have hr := B.returns
  have hts := atoms_spec (ws := w_M_ballot) B.pre
  have hown : s.vm.findClass R_M = some mi.cls := findClass_of_methodNamed B.named
  have hlocks := B.notSynchronized
  have hS : va_S (fun _ => False) s.heap s.heap [] := va_S.rf
  have hP : va_P (dC, dI) classes [(h1, .inr (1, [.long (lN (p * q)), .long (lN (p * q * (p * q))), .long (lN (sp_f p q)), .long (lN (sp_cex p q)), .int (nI bx), .int (nI cl), .int (nI cd), .int (nI rd), .ref q1])), (q1, .inl (cB, 30, .inr (.inl (fun j => lN (g j)))))] s.heap := hP
  have hl := lv_entry ([.ref h1, .int x]) (n := 2) (Nat.le_of_ble_eq_true rfl)
  rw [lg_entry_eq]
  generalize (lg_sl ([.ref h1, .int x]) ++ List.replicate (2 - (lg_sl ([.ref h1, .int x])).length) Slot.unset).toArray = ls at hl ⊢
  have hl : lv_has ls 2 [(0, .ref h1), (1, .int x)] := hl
  have hjn := jv_n hj
  refine lv_aload_n hx hb d_M_ballot_0 rfl (lv_at hl 0 rfl) ?_
  refine va_get (D := (dC, dI)) (ci := 1) (v := .int (nI bx)) (C := R_M) (T := F_M) (N := 9) hx hb hts f_M hown hK hP 0 rfl rfl 4 (by decide) (hts _ (al_m aw_t211)) (fun _ h9 => h9) rfl d_M_ballot_1 ?_
  refine lv_if_ne (tgt := 11) hx hb d_M_ballot_4 (by decide) (fun hc4 => ?_) (fun hc4 => ?_)
  · skip
    rw [← nI_0] at hc4
    rw [nI_eq (a := bx) (b := 0) (by omega) (by omega)] at hc4
    have hx0 : cx ≠ 0 := fun hh => hc4 (hbx.mpr hh)
    obtain ⟨hk, hx1, hx6, hr2, hrp, hgj⟩ := jv_box hj hx0
    have hcd1 := hcd hx0
    have hbg := ma_big hk
    have hp3 := hk.1.1
    have hq3 := hk.2.1.1
    have hp9 := hk.1.2.1
    have hq9 := hk.2.1.2.1
    have hkf := ma_keyf hk
    refine lv_iload_n hx hb d_M_ballot_11 rfl (lv_at hl 1 rfl) ?_
    refine lv_if_lt (tgt := 21) hx hb d_M_ballot_12 (by decide) (fun hc12 => ?_) (fun hc12 => ?_)
    · skip
      rw [← nI_0] at hc12
      rw [ix_lt (x := x) (n := 0) (by omega)] at hc12
      have hcb_ : sp_cand 30 x = false := by simp only [sp_cand, Bool.and_eq_false_iff, decide_eq_false_iff_not]; omega
      refine lv_ldc2 (v := -4) hx hb hown (hts _ (al_m aw_t270)) d_M_ballot_21 ?_
      exact pu_lret hx hb hr hS d_M_ballot_24 hlocks (by simp [an_ballot, hx0, hcb_])
    · skip
      rw [← nI_0] at hc12
      rw [ix_lt (x := x) (n := 0) (by omega)] at hc12
      refine lv_iload_n hx hb d_M_ballot_15 rfl (lv_at hl 1 rfl) ?_
      refine lv_bipush (v := nI 29) hx hb d_M_ballot_16 (by decide) ?_
      refine lv_icmp_le (tgt := 25) hx hb d_M_ballot_18 (by decide) (fun hc18 => ?_) (fun hc18 => ?_)
      · skip
        rw [ix_ge (x := x) (n := 29) (by omega)] at hc18
        have hct : sp_cand 30 x = true := by simp only [sp_cand, Bool.and_eq_true, decide_eq_true_eq]; omega
        obtain ⟨a, ha1, ha2, rfl⟩ := sp_cand_of hct
        have hga := (hgj a ha1).1
        refine lv_aload_n hx hb d_M_ballot_25 rfl (lv_at hl 0 rfl) ?_
        refine va_get (D := (dC, dI)) (ci := 1) (v := .ref q1) (C := R_M) (T := F_M) (N := 9) hx hb hts f_M hown hK hP 0 rfl rfl 8 (by decide) (hts _ (al_m aw_t215)) (fun _ h9 => h9) rfl d_M_ballot_26 ?_
        refine lv_iload_n hx hb d_M_ballot_29 rfl (lv_at hl 1 rfl) ?_
        refine va_lald hx hb hK hP 1 0 rfl rfl (vp_in_nI (by omega) (by decide)) d_M_ballot_30 ?_
        refine wk_l (y := lN (g a)) (by rw [nI_clamp (by omega)]) ?_
        refine lv_lconst (v := lN 0) hx hb d_M_ballot_31 rfl ?_
        refine W.lcmp hx hb d_M_ballot_32 ?_
        refine lv_if_ne (tgt := 42) hx hb d_M_ballot_33 (by decide) (fun hc33 => ?_) (fun hc33 => ?_)
        · skip
          rw [lg_cmp_eq] at hc33
          rw [pk_lEQ (a := g a) (b := 0) (by omega) (by omega)] at hc33
          refine lv_aload_n hx hb d_M_ballot_42 rfl (lv_at hl 0 rfl) ?_
          refine va_get (D := (dC, dI)) (ci := 1) (v := .ref q1) (C := R_M) (T := F_M) (N := 9) hx hb hts f_M hown hK hP 0 rfl rfl 8 (by decide) (hts _ (al_m aw_t215)) (fun _ h9 => h9) rfl d_M_ballot_43 ?_
          refine lv_iload_n hx hb d_M_ballot_46 rfl (lv_at hl 1 rfl) ?_
          refine va_lald hx hb hK hP 1 0 rfl rfl (vp_in_nI (by omega) (by decide)) d_M_ballot_47 ?_
          refine wk_l (y := lN (g a)) (by rw [nI_clamp (by omega)]) ?_
          exact pu_lret hx hb hr hS d_M_ballot_48 hlocks (by simp [an_ballot, hx0, hct, hc33, ix_nat ha2])
        · skip
          rw [lg_cmp_eq] at hc33
          rw [pk_lEQ (a := g a) (b := 0) (by omega) (by omega)] at hc33
          refine lv_ldc2 (v := -6) hx hb hown (hts _ (al_m aw_t325)) d_M_ballot_36 ?_
          refine lv_goto (tgt := 48) hx hb d_M_ballot_39 (by decide) ?_
          exact pu_lret hx hb hr hS d_M_ballot_48 hlocks (by simp [an_ballot, hx0, hct, hc33, ix_nat ha2])
      · skip
        rw [ix_ge (x := x) (n := 29) (by omega)] at hc18
        have hcb_ : sp_cand 30 x = false := by simp only [sp_cand, Bool.and_eq_false_iff, decide_eq_false_iff_not]; omega
        refine lv_ldc2 (v := -4) hx hb hown (hts _ (al_m aw_t270)) d_M_ballot_21 ?_
        exact pu_lret hx hb hr hS d_M_ballot_24 hlocks (by simp [an_ballot, hx0, hcb_])
  · skip
    rw [← nI_0] at hc4
    rw [nI_eq (a := bx) (b := 0) (by omega) (by omega)] at hc4
    have hx0 : cx = 0 := hbx.mp hc4
    refine lv_ldc2 (v := -2) hx hb hown (hts _ (al_m aw_t307)) d_M_ballot_7 ?_
    exact pu_lret hx hb hr hS d_M_ballot_10 hlocks (by simp [an_ballot, hx0])

set_option maxHeartbeats 4000000 in
set_option maxRecDepth 100000 in
theorem c_M_ballots (l : Launch) (dC : Nat → ClassId) (dI : Nat → Nat → Nat) (h1 q1 : Nat) (cB : ClassId) (p q bx cl cd rd : Nat) (g : Nat → Nat) (cx : Nat) (hj : Jv p q cx rd g) (hrd : rd < 2 ^ 31) (hbx : bx = 0 ↔ cx = 0) (hbx1 : bx ≤ 1) (hcd : cx ≠ 0 → cd = cx) (hcl : cl ≤ 1)  : Met l y_M_ballots w_M_ballots ({ frames := 1, cells := 0, slots := 0, locals := 22 }) (va_Pc [.ref h1] (fun U => va_P (dC, dI) classes [(h1, .inr (1, [.long (lN (p * q)), .long (lN (p * q * (p * q))), .long (lN (sp_f p q)), .long (lN (sp_cex p q)), .int (nI bx), .int (nI cl), .int (nI cd), .int (nI rd), .ref q1])), (q1, .inl (cB, 30, .inr (.inl (fun j => lN (g j)))))] U.heap ∧ va_K (dC, dI) classes [(cB, .long)] U)) (qI (an_ballots cx g)) 0 0 (fun _ => False) := by
  refine Met.ofW (cc := b_M_ballots) (maxL := 1) (ret := some .int) (by decide) rfl ?_
  intro pg ev s mi args below meth co s₁ B hml hv
  obtain ⟨rfl, hP, hK⟩ := hv
  have hx := B.exec
  have hb := B.bytes
  have hr := B.returns
  have hts := atoms_spec (ws := w_M_ballots) B.pre
  have hown : s.vm.findClass R_M = some mi.cls := findClass_of_methodNamed B.named
  have hlocks := B.notSynchronized
  have hS : va_S (fun _ => False) s.heap s.heap [] := va_S.rf
  have hP : va_P (dC, dI) classes [(h1, .inr (1, [.long (lN (p * q)), .long (lN (p * q * (p * q))), .long (lN (sp_f p q)), .long (lN (sp_cex p q)), .int (nI bx), .int (nI cl), .int (nI cd), .int (nI rd), .ref q1])), (q1, .inl (cB, 30, .inr (.inl (fun j => lN (g j)))))] s.heap := hP
  have hl := lv_entry ([.ref h1]) (n := 1) (Nat.le_of_ble_eq_true rfl)
  rw [lg_entry_eq]
  generalize (lg_sl ([.ref h1]) ++ List.replicate (1 - (lg_sl ([.ref h1])).length) Slot.unset).toArray = ls at hl ⊢
  have hl : lv_has ls 1 [(0, .ref h1)] := hl
  have hjn := jv_n hj
  refine lv_aload_n hx hb d_M_ballots_0 rfl (lv_at hl 0 rfl) ?_
  refine va_get (D := (dC, dI)) (ci := 1) (v := .int (nI bx)) (C := R_M) (T := F_M) (N := 9) hx hb hts f_M hown hK hP 0 rfl rfl 4 (by decide) (hts _ (al_m aw_t211)) (fun _ h9 => h9) rfl d_M_ballots_1 ?_
  refine lv_if_eq (tgt := 14) hx hb d_M_ballots_4 (by decide) (fun hc4 => ?_) (fun hc4 => ?_)
  · skip
    rw [← nI_0] at hc4
    rw [nI_eq (a := bx) (b := 0) (by omega) (by omega)] at hc4
    have hx0 : cx = 0 := hbx.mp hc4
    refine lv_bipush (v := -2) hx hb d_M_ballots_14 (by decide) ?_
    exact pu_iret hx hb hr hS d_M_ballots_16 hlocks (by simp [an_ballots, hx0])
  · skip
    rw [← nI_0] at hc4
    rw [nI_eq (a := bx) (b := 0) (by omega) (by omega)] at hc4
    have hx0 : cx ≠ 0 := fun hh => hc4 (hbx.mpr hh)
    obtain ⟨hk, hx1, hx6, hr2, hrp, hgj⟩ := jv_box hj hx0
    have hcd1 := hcd hx0
    have hbg := ma_big hk
    have hp3 := hk.1.1
    have hq3 := hk.2.1.1
    have hp9 := hk.1.2.1
    have hq9 := hk.2.1.2.1
    have hkf := ma_keyf hk
    refine lv_aload_n hx hb d_M_ballots_7 rfl (lv_at hl 0 rfl) ?_
    refine pu_i (va_runV (As := []) (rest := []) ⟨hx, hb, hml, hown, hts⟩ (c_M_count l dC dI h1 q1 cB p q bx cl cd rd g (fun j hj0 => Nat.lt_of_lt_of_le (hgj j hj0).1 (by omega))) (cwV 0 hts (al_V (k_M_count) (aw_t316) (aw_t318) (aw_p20) (aw_t2)) rfl rfl rfl (by decide +kernel) ⟨Nat.le_of_ble_eq_true rfl, Nat.le_of_ble_eq_true rfl⟩) (pu_preV (q0 := 0) (ci := 1) hK hP rfl rfl) rfl rfl hl.1 rfl (lv_room (Nat.le_of_ble_eq_true rfl)) d_M_ballots_8 ⟨Nat.zero_le _, Nat.zero_le _⟩) hS (fun H locs hkp hS => ?_)
    have hP := hkp _ _ _ hP
    refine lv_goto (tgt := 16) hx hb d_M_ballots_11 (by decide) ?_
    exact pu_iret hx hb hr hS d_M_ballots_16 hlocks (by simp [an_ballots, hx0])

set_option maxHeartbeats 4000000 in
set_option maxRecDepth 100000 in
theorem c_M_sum (l : Launch) (dC : Nat → ClassId) (dI : Nat → Nat → Nat) (h1 q1 : Nat) (cB : ClassId) (p q bx cl cd rd : Nat) (g : Nat → Nat) (cx : Nat) (hj : Jv p q cx rd g) (hrd : rd < 2 ^ 31) (hbx : bx = 0 ↔ cx = 0) (hbx1 : bx ≤ 1) (hcd : cx ≠ 0 → cd = cx) (hcl : cl ≤ 1)  : Met l y_M_sum w_M_sum ({ frames := 1, cells := 0, slots := 0, locals := 23 }) (va_Pc [.ref h1] (fun U => va_P (dC, dI) classes [(h1, .inr (1, [.long (lN (p * q)), .long (lN (p * q * (p * q))), .long (lN (sp_f p q)), .long (lN (sp_cex p q)), .int (nI bx), .int (nI cl), .int (nI cd), .int (nI rd), .ref q1])), (q1, .inl (cB, 30, .inr (.inl (fun j => lN (g j)))))] U.heap ∧ va_K (dC, dI) classes [(cB, .long)] U)) (qL (an_sum p q cx g)) 0 0 (fun _ => False) := by
  refine Met.ofW (cc := b_M_sum) (maxL := 1) (ret := some .long) (by decide) rfl ?_
  intro pg ev s mi args below meth co s₁ B hml hv
  obtain ⟨rfl, hP, hK⟩ := hv
  have hx := B.exec
  have hb := B.bytes
  have hr := B.returns
  have hts := atoms_spec (ws := w_M_sum) B.pre
  have hown : s.vm.findClass R_M = some mi.cls := findClass_of_methodNamed B.named
  have hlocks := B.notSynchronized
  have hS : va_S (fun _ => False) s.heap s.heap [] := va_S.rf
  have hP : va_P (dC, dI) classes [(h1, .inr (1, [.long (lN (p * q)), .long (lN (p * q * (p * q))), .long (lN (sp_f p q)), .long (lN (sp_cex p q)), .int (nI bx), .int (nI cl), .int (nI cd), .int (nI rd), .ref q1])), (q1, .inl (cB, 30, .inr (.inl (fun j => lN (g j)))))] s.heap := hP
  have hl := lv_entry ([.ref h1]) (n := 1) (Nat.le_of_ble_eq_true rfl)
  rw [lg_entry_eq]
  generalize (lg_sl ([.ref h1]) ++ List.replicate (1 - (lg_sl ([.ref h1])).length) Slot.unset).toArray = ls at hl ⊢
  have hl : lv_has ls 1 [(0, .ref h1)] := hl
  have hjn := jv_n hj
  refine lv_aload_n hx hb d_M_sum_0 rfl (lv_at hl 0 rfl) ?_
  refine va_get (D := (dC, dI)) (ci := 1) (v := .int (nI bx)) (C := R_M) (T := F_M) (N := 9) hx hb hts f_M hown hK hP 0 rfl rfl 4 (by decide) (hts _ (al_m aw_t211)) (fun _ h9 => h9) rfl d_M_sum_1 ?_
  refine lv_if_eq (tgt := 14) hx hb d_M_sum_4 (by decide) (fun hc4 => ?_) (fun hc4 => ?_)
  · skip
    rw [← nI_0] at hc4
    rw [nI_eq (a := bx) (b := 0) (by omega) (by omega)] at hc4
    have hx0 : cx = 0 := hbx.mp hc4
    refine lv_ldc2 (v := -2) hx hb hown (hts _ (al_m aw_t307)) d_M_sum_14 ?_
    exact pu_lret hx hb hr hS d_M_sum_17 hlocks (by simp [an_sum, hx0])
  · skip
    rw [← nI_0] at hc4
    rw [nI_eq (a := bx) (b := 0) (by omega) (by omega)] at hc4
    have hx0 : cx ≠ 0 := fun hh => hc4 (hbx.mpr hh)
    obtain ⟨hk, hx1, hx6, hr2, hrp, hgj⟩ := jv_box hj hx0
    have hcd1 := hcd hx0
    have hbg := ma_big hk
    have hp3 := hk.1.1
    have hq3 := hk.2.1.1
    have hp9 := hk.1.2.1
    have hq9 := hk.2.1.2.1
    have hkf := ma_keyf hk
    refine lv_aload_n hx hb d_M_sum_7 rfl (lv_at hl 0 rfl) ?_
    refine pu_l (va_runV (As := []) (rest := []) ⟨hx, hb, hml, hown, hts⟩ (c_M_product l dC dI h1 q1 cB p q bx cl cd rd g hk (fun j hj0 => (hgj j hj0).1)) (cwV 0 hts (al_V (k_M_product) (aw_t338) (aw_t340) (aw_p21) (aw_t2)) rfl rfl rfl (by decide +kernel) ⟨Nat.le_of_ble_eq_true rfl, Nat.le_of_ble_eq_true rfl⟩) (pu_preV (q0 := 0) (ci := 1) hK hP rfl rfl) rfl rfl hl.1 rfl (lv_room (Nat.le_of_ble_eq_true rfl)) d_M_sum_8 ⟨Nat.zero_le _, Nat.zero_le _⟩) hS (fun H locs hkp hS => ?_)
    have hP := hkp _ _ _ hP
    refine lv_goto (tgt := 17) hx hb d_M_sum_11 (by decide) ?_
    exact pu_lret hx hb hr hS d_M_sum_17 hlocks (by simp [an_sum, hx0])

set_option maxHeartbeats 4000000 in
set_option maxRecDepth 100000 in
theorem c_M_votes (l : Launch) (dC : Nat → ClassId) (dI : Nat → Nat → Nat) (h1 q1 : Nat) (cB : ClassId) (p q bx cl cd rd : Nat) (g : Nat → Nat) (x : Int32) (cx : Nat) (hj : Jv p q cx rd g) (hrd : rd < 2 ^ 31) (hbx : bx = 0 ↔ cx = 0) (hbx1 : bx ≤ 1) (hcd : cx ≠ 0 → cd = cx) (hcl : cl ≤ 1)  : Met l y_M_votes w_M_votes ({ frames := 3, cells := 0, slots := 0, locals := 83 }) (va_Pc [.ref h1, .int x] (fun U => va_P (dC, dI) classes [(h1, .inr (1, [.long (lN (p * q)), .long (lN (p * q * (p * q))), .long (lN (sp_f p q)), .long (lN (sp_cex p q)), .int (nI bx), .int (nI cl), .int (nI cd), .int (nI rd), .ref q1])), (q1, .inl (cB, 30, .inr (.inl (fun j => lN (g j)))))] U.heap ∧ va_K (dC, dI) classes [(cB, .long)] U)) (qI (an_votes p q cx rd cl g x)) 0 0 (fun _ => False) := by
  refine Met.ofW (cc := b_M_votes) (maxL := 4) (ret := some .int) (by decide) rfl ?_
  intro pg ev s mi args below meth co s₁ B hml hv
  obtain ⟨rfl, hP, hK⟩ := hv
  have hx := B.exec
  have hb := B.bytes
  have hr := B.returns
  have hts := atoms_spec (ws := w_M_votes) B.pre
  have hown : s.vm.findClass R_M = some mi.cls := findClass_of_methodNamed B.named
  have hlocks := B.notSynchronized
  have hS : va_S (fun _ => False) s.heap s.heap [] := va_S.rf
  have hP : va_P (dC, dI) classes [(h1, .inr (1, [.long (lN (p * q)), .long (lN (p * q * (p * q))), .long (lN (sp_f p q)), .long (lN (sp_cex p q)), .int (nI bx), .int (nI cl), .int (nI cd), .int (nI rd), .ref q1])), (q1, .inl (cB, 30, .inr (.inl (fun j => lN (g j)))))] s.heap := hP
  have hl := lv_entry ([.ref h1, .int x]) (n := 4) (Nat.le_of_ble_eq_true rfl)
  rw [lg_entry_eq]
  generalize (lg_sl ([.ref h1, .int x]) ++ List.replicate (4 - (lg_sl ([.ref h1, .int x])).length) Slot.unset).toArray = ls at hl ⊢
  have hl : lv_has ls 4 [(0, .ref h1), (1, .int x)] := hl
  have hjn := jv_n hj
  refine lv_aload_n hx hb d_M_votes_0 rfl (lv_at hl 0 rfl) ?_
  refine va_get (D := (dC, dI)) (ci := 1) (v := .int (nI bx)) (C := R_M) (T := F_M) (N := 9) hx hb hts f_M hown hK hP 0 rfl rfl 4 (by decide) (hts _ (al_m aw_t211)) (fun _ h9 => h9) rfl d_M_votes_1 ?_
  refine lv_if_ne (tgt := 10) hx hb d_M_votes_4 (by decide) (fun hc4 => ?_) (fun hc4 => ?_)
  · skip
    rw [← nI_0] at hc4
    rw [nI_eq (a := bx) (b := 0) (by omega) (by omega)] at hc4
    have hx0 : cx ≠ 0 := fun hh => hc4 (hbx.mpr hh)
    obtain ⟨hk, hx1, hx6, hr2, hrp, hgj⟩ := jv_box hj hx0
    have hcd1 := hcd hx0
    have hbg := ma_big hk
    have hp3 := hk.1.1
    have hq3 := hk.2.1.1
    have hp9 := hk.1.2.1
    have hq9 := hk.2.1.2.1
    have hkf := ma_keyf hk
    refine lv_iload_n hx hb d_M_votes_10 rfl (lv_at hl 1 rfl) ?_
    refine lv_if_lt (tgt := 22) hx hb d_M_votes_11 (by decide) (fun hc11 => ?_) (fun hc11 => ?_)
    · skip
      rw [← nI_0] at hc11
      rw [ix_lt (x := x) (n := 0) (by omega)] at hc11
      have hcb_ : sp_cand cx x = false := by simp only [sp_cand, Bool.and_eq_false_iff, decide_eq_false_iff_not]; omega
      refine lv_bipush (v := -4) hx hb d_M_votes_22 (by decide) ?_
      exact pu_iret hx hb hr hS d_M_votes_24 hlocks (by simp [an_votes, hx0, hcb_])
    · skip
      rw [← nI_0] at hc11
      rw [ix_lt (x := x) (n := 0) (by omega)] at hc11
      refine lv_iload_n hx hb d_M_votes_14 rfl (lv_at hl 1 rfl) ?_
      refine lv_aload_n hx hb d_M_votes_15 rfl (lv_at hl 0 rfl) ?_
      refine va_get (D := (dC, dI)) (ci := 1) (v := .int (nI cd)) (C := R_M) (T := F_M) (N := 9) hx hb hts f_M hown hK hP 0 rfl rfl 6 (by decide) (hts _ (al_m aw_t213)) (fun _ h9 => h9) rfl d_M_votes_16 ?_
      refine lv_icmp_lt (tgt := 25) hx hb d_M_votes_19 (by decide) (fun hc19 => ?_) (fun hc19 => ?_)
      · skip
        rw [ix_lt (x := x) (n := cd) (by omega)] at hc19
        have hct : sp_cand cx x = true := by simp only [sp_cand, Bool.and_eq_true, decide_eq_true_eq]; omega
        obtain ⟨a, ha1, ha2, rfl⟩ := sp_cand_of hct
        refine lv_aload_n hx hb d_M_votes_25 rfl (lv_at hl 0 rfl) ?_
        refine va_get (D := (dC, dI)) (ci := 1) (v := .int (nI cl)) (C := R_M) (T := F_M) (N := 9) hx hb hts f_M hown hK hP 0 rfl rfl 5 (by decide) (hts _ (al_m aw_t212)) (fun _ h9 => h9) rfl d_M_votes_26 ?_
        refine lv_if_ne (tgt := 35) hx hb d_M_votes_29 (by decide) (fun hc29 => ?_) (fun hc29 => ?_)
        · skip
          rw [← nI_0] at hc29
          rw [nI_eq (a := cl) (b := 0) (by omega) (by omega)] at hc29
          have hc1 : cl = 1 := by omega
          refine lv_aload_n hx hb d_M_votes_35 rfl (lv_at hl 0 rfl) ?_
          refine lv_aload_n hx hb d_M_votes_36 rfl (lv_at hl 0 rfl) ?_
          refine pu_l (va_runV (As := []) (rest := [.ref h1]) ⟨hx, hb, hml, hown, hts⟩ (c_M_product l dC dI h1 q1 cB p q bx cl cd rd g hk (fun j hj0 => (hgj j hj0).1)) (cwV 0 hts (al_V (k_M_product) (aw_t338) (aw_t340) (aw_p21) (aw_t2)) rfl rfl rfl (by decide +kernel) ⟨Nat.le_of_ble_eq_true rfl, Nat.le_of_ble_eq_true rfl⟩) (pu_preV (q0 := 0) (ci := 1) hK hP rfl rfl) rfl rfl hl.1 rfl (lv_room (Nat.le_of_ble_eq_true rfl)) d_M_votes_37 ⟨Nat.zero_le _, Nat.zero_le _⟩) hS (fun H locs hkp hS => ?_)
          have hP := hkp _ _ _ hP
          obtain ⟨hs1, hs2, hs3⟩ := fa_seal hk (fun j hj0 => (hgj j hj0).2)
          refine pu_l (va_runV (As := [.long (lN (sp_prod g 30 % (p * q * (p * q))))]) (rest := []) ⟨hx, hb, hml, hown, hts⟩ (c_M_messageIn l dC dI h1 q1 cB p q bx cl cd rd g (sp_prod g 30 % (p * q * (p * q))) hk hs3 hs1 hs2) (cwV 1 hts (al_V (k_M_messageIn) (aw_t279) (aw_t281) (aw_p17) (aw_t2)) rfl rfl rfl (by decide +kernel) ⟨Nat.le_of_ble_eq_true rfl, Nat.le_of_ble_eq_true rfl⟩) (pu_preV (q0 := 0) (ci := 1) hK hP rfl rfl) rfl rfl hl.1 rfl (lv_room (Nat.le_of_ble_eq_true rfl)) d_M_votes_40 ⟨Nat.zero_le _, Nat.zero_le _⟩) hS (fun H locs hkp hS => ?_)
          have hP := hkp _ _ _ hP
          have htl := fa_sm hk (sp_prod g 30 % (p * q * (p * q)))
          refine lv_lstore_n (lv' := [(2, .long (lN (sp_msg p q (sp_prod g 30 % (p * q * (p * q)))))), (0, .ref h1), (1, .int (nI a))]) hx hb d_M_votes_43 rfl hl (by decide) rfl (fun ls hl => ?_)
          refine lv_lload_n hx hb d_M_votes_44 rfl (lv_at hl 0 rfl) ?_
          refine lv_aload_n hx hb d_M_votes_45 rfl (lv_at hl 1 rfl) ?_
          refine lv_iload_n hx hb d_M_votes_46 rfl (lv_at hl 2 rfl) ?_
          refine pu_l (va_runV (As := [.int (nI a)]) (rest := [.long (lN (sp_msg p q (sp_prod g 30 % (p * q * (p * q)))))]) ⟨hx, hb, hml, hown, hts⟩ (c_M_place l dC dI h1 q1 cB p q bx cl cd rd g a hrd ha2) (cwV 1 hts (al_V (k_M_place) (aw_t308) (aw_t310) (aw_p19) (aw_t2)) rfl rfl rfl (by decide +kernel) ⟨Nat.le_of_ble_eq_true rfl, Nat.le_of_ble_eq_true rfl⟩) (pu_preV (q0 := 0) (ci := 1) hK hP rfl rfl) rfl rfl hl.1 rfl (lv_room (Nat.le_of_ble_eq_true rfl)) d_M_votes_47 ⟨Nat.zero_le _, Nat.zero_le _⟩) hS (fun H locs hkp hS => ?_)
          have hP := hkp _ _ _ hP
          have hra := rp_lt ha1 hr2 hrp
          have hrz : 0 < rd ^ a := Nat.pow_pos (by omega)
          have hdl : sp_msg p q (sp_prod g 30 % (p * q * (p * q))) / rd ^ a ≤ sp_msg p q (sp_prod g 30 % (p * q * (p * q))) := Nat.div_le_self _ _
          refine lv_ldiv hx hb d_M_votes_50 (lN_ne0 (by omega) (by omega)) ?_
          refine wk_l (y := lN ((sp_msg p q (sp_prod g 30 % (p * q * (p * q)))) / (rd ^ a))) (pk_lDiv (by omega) (by omega) (by omega)) ?_
          have hm50 := Nat.div_le_self (sp_msg p q (sp_prod g 30 % (p * q * (p * q)))) (rd ^ a)
          refine lv_aload_n hx hb d_M_votes_51 rfl (lv_at hl 1 rfl) ?_
          refine va_get (D := (dC, dI)) (ci := 1) (v := .int (nI rd)) (C := R_M) (T := F_M) (N := 9) hx hb hts f_M hown hK hP 0 rfl rfl 7 (by decide) (hts _ (al_m aw_t214)) (fun _ h9 => h9) rfl d_M_votes_52 ?_
          refine lv_i2l (v := lN rd) hx hb d_M_votes_55 (nI_l (by omega)) ?_
          refine lv_lrem hx hb d_M_votes_56 (lN_ne0 (by omega) (by omega)) ?_
          refine wk_l (y := lN (((sp_msg p q (sp_prod g 30 % (p * q * (p * q)))) / (rd ^ a)) % rd)) (pk_lRem (by omega) (by omega) (by omega)) ?_
          have hm56 := Nat.mod_le ((sp_msg p q (sp_prod g 30 % (p * q * (p * q)))) / (rd ^ a)) rd
          refine lv_l2i (v := nI (((sp_msg p q (sp_prod g 30 % (p * q * (p * q)))) / (rd ^ a)) % rd)) hx hb d_M_votes_57 (lN_i (((sp_msg p q (sp_prod g 30 % (p * q * (p * q)))) / (rd ^ a)) % rd)) ?_
          exact pu_iret hx hb hr hS d_M_votes_58 hlocks (by simp [an_votes, hx0, hct, hc1, ix_nat ha2])
        · skip
          rw [← nI_0] at hc29
          rw [nI_eq (a := cl) (b := 0) (by omega) (by omega)] at hc29
          refine lv_bipush (v := -6) hx hb d_M_votes_32 (by decide) ?_
          exact pu_iret hx hb hr hS d_M_votes_34 hlocks (by simp [an_votes, hx0, hct, hc29])
      · skip
        rw [ix_lt (x := x) (n := cd) (by omega)] at hc19
        have hcb_ : sp_cand cx x = false := by simp only [sp_cand, Bool.and_eq_false_iff, decide_eq_false_iff_not]; omega
        refine lv_bipush (v := -4) hx hb d_M_votes_22 (by decide) ?_
        exact pu_iret hx hb hr hS d_M_votes_24 hlocks (by simp [an_votes, hx0, hcb_])
  · skip
    rw [← nI_0] at hc4
    rw [nI_eq (a := bx) (b := 0) (by omega) (by omega)] at hc4
    have hx0 : cx = 0 := hbx.mp hc4
    refine lv_bipush (v := -2) hx hb d_M_votes_7 (by decide) ?_
    exact pu_iret hx hb hr hS d_M_votes_9 hlocks (by simp [an_votes, hx0])

set_option maxHeartbeats 4000000 in
set_option maxRecDepth 100000 in
theorem c_M_witness (l : Launch) (dC : Nat → ClassId) (dI : Nat → Nat → Nat) (h1 q1 : Nat) (cB : ClassId) (p q bx cl cd rd : Nat) (g : Nat → Nat) (cx : Nat) (hj : Jv p q cx rd g) (hrd : rd < 2 ^ 31) (hbx : bx = 0 ↔ cx = 0) (hbx1 : bx ≤ 1) (hcd : cx ≠ 0 → cd = cx) (hcl : cl ≤ 1)  : Met l y_M_witness w_M_witness ({ frames := 2, cells := 0, slots := 0, locals := 53 }) (va_Pc [.ref h1] (fun U => va_P (dC, dI) classes [(h1, .inr (1, [.long (lN (p * q)), .long (lN (p * q * (p * q))), .long (lN (sp_f p q)), .long (lN (sp_cex p q)), .int (nI bx), .int (nI cl), .int (nI cd), .int (nI rd), .ref q1])), (q1, .inl (cB, 30, .inr (.inl (fun j => lN (g j)))))] U.heap ∧ va_K (dC, dI) classes [(cB, .long)] U)) (qL (an_witness p q cx cl g)) 0 0 (fun _ => False) := by
  refine Met.ofW (cc := b_M_witness) (maxL := 1) (ret := some .long) (by decide) rfl ?_
  intro pg ev s mi args below meth co s₁ B hml hv
  obtain ⟨rfl, hP, hK⟩ := hv
  have hx := B.exec
  have hb := B.bytes
  have hr := B.returns
  have hts := atoms_spec (ws := w_M_witness) B.pre
  have hown : s.vm.findClass R_M = some mi.cls := findClass_of_methodNamed B.named
  have hlocks := B.notSynchronized
  have hS : va_S (fun _ => False) s.heap s.heap [] := va_S.rf
  have hP : va_P (dC, dI) classes [(h1, .inr (1, [.long (lN (p * q)), .long (lN (p * q * (p * q))), .long (lN (sp_f p q)), .long (lN (sp_cex p q)), .int (nI bx), .int (nI cl), .int (nI cd), .int (nI rd), .ref q1])), (q1, .inl (cB, 30, .inr (.inl (fun j => lN (g j)))))] s.heap := hP
  have hl := lv_entry ([.ref h1]) (n := 1) (Nat.le_of_ble_eq_true rfl)
  rw [lg_entry_eq]
  generalize (lg_sl ([.ref h1]) ++ List.replicate (1 - (lg_sl ([.ref h1])).length) Slot.unset).toArray = ls at hl ⊢
  have hl : lv_has ls 1 [(0, .ref h1)] := hl
  have hjn := jv_n hj
  refine lv_aload_n hx hb d_M_witness_0 rfl (lv_at hl 0 rfl) ?_
  refine va_get (D := (dC, dI)) (ci := 1) (v := .int (nI bx)) (C := R_M) (T := F_M) (N := 9) hx hb hts f_M hown hK hP 0 rfl rfl 4 (by decide) (hts _ (al_m aw_t211)) (fun _ h9 => h9) rfl d_M_witness_1 ?_
  refine lv_if_ne (tgt := 11) hx hb d_M_witness_4 (by decide) (fun hc4 => ?_) (fun hc4 => ?_)
  · skip
    rw [← nI_0] at hc4
    rw [nI_eq (a := bx) (b := 0) (by omega) (by omega)] at hc4
    have hx0 : cx ≠ 0 := fun hh => hc4 (hbx.mpr hh)
    obtain ⟨hk, hx1, hx6, hr2, hrp, hgj⟩ := jv_box hj hx0
    have hcd1 := hcd hx0
    have hbg := ma_big hk
    have hp3 := hk.1.1
    have hq3 := hk.2.1.1
    have hp9 := hk.1.2.1
    have hq9 := hk.2.1.2.1
    have hkf := ma_keyf hk
    refine lv_aload_n hx hb d_M_witness_11 rfl (lv_at hl 0 rfl) ?_
    refine va_get (D := (dC, dI)) (ci := 1) (v := .int (nI cl)) (C := R_M) (T := F_M) (N := 9) hx hb hts f_M hown hK hP 0 rfl rfl 5 (by decide) (hts _ (al_m aw_t212)) (fun _ h9 => h9) rfl d_M_witness_12 ?_
    refine lv_if_eq (tgt := 29) hx hb d_M_witness_15 (by decide) (fun hc15 => ?_) (fun hc15 => ?_)
    · skip
      rw [← nI_0] at hc15
      rw [nI_eq (a := cl) (b := 0) (by omega) (by omega)] at hc15
      refine lv_ldc2 (v := -6) hx hb hown (hts _ (al_m aw_t325)) d_M_witness_29 ?_
      exact pu_lret hx hb hr hS d_M_witness_32 hlocks (by simp [an_witness, hx0, hc15])
    · skip
      rw [← nI_0] at hc15
      rw [nI_eq (a := cl) (b := 0) (by omega) (by omega)] at hc15
      refine lv_aload_n hx hb d_M_witness_18 rfl (lv_at hl 0 rfl) ?_
      refine lv_aload_n hx hb d_M_witness_19 rfl (lv_at hl 0 rfl) ?_
      refine pu_l (va_runV (As := []) (rest := [.ref h1]) ⟨hx, hb, hml, hown, hts⟩ (c_M_product l dC dI h1 q1 cB p q bx cl cd rd g hk (fun j hj0 => (hgj j hj0).1)) (cwV 0 hts (al_V (k_M_product) (aw_t338) (aw_t340) (aw_p21) (aw_t2)) rfl rfl rfl (by decide +kernel) ⟨Nat.le_of_ble_eq_true rfl, Nat.le_of_ble_eq_true rfl⟩) (pu_preV (q0 := 0) (ci := 1) hK hP rfl rfl) rfl rfl hl.1 rfl (lv_room (Nat.le_of_ble_eq_true rfl)) d_M_witness_20 ⟨Nat.zero_le _, Nat.zero_le _⟩) hS (fun H locs hkp hS => ?_)
      have hP := hkp _ _ _ hP
      refine pu_l (va_runV (As := [.long (lN (sp_prod g 30 % (p * q * (p * q))))]) (rest := []) ⟨hx, hb, hml, hown, hts⟩ (c_M_coinIn l dC dI h1 q1 cB p q bx cl cd rd g (sp_prod g 30 % (p * q * (p * q))) hk (Nat.lt_of_lt_of_le (Nat.mod_lt _ (by omega)) (by omega))) (cwV 1 hts (al_V (k_M_coinIn) (aw_t283) (aw_t285) (aw_p18) (aw_t2)) rfl rfl rfl (by decide +kernel) ⟨Nat.le_of_ble_eq_true rfl, Nat.le_of_ble_eq_true rfl⟩) (pu_preV (q0 := 0) (ci := 1) hK hP rfl rfl) rfl rfl hl.1 rfl (lv_room (Nat.le_of_ble_eq_true rfl)) d_M_witness_23 ⟨Nat.zero_le _, Nat.zero_le _⟩) hS (fun H locs hkp hS => ?_)
      have hP := hkp _ _ _ hP
      refine lv_goto (tgt := 32) hx hb d_M_witness_26 (by decide) ?_
      exact pu_lret hx hb hr hS d_M_witness_32 hlocks (by simp [an_witness, hx0, hc15])
  · skip
    rw [← nI_0] at hc4
    rw [nI_eq (a := bx) (b := 0) (by omega) (by omega)] at hc4
    have hx0 : cx = 0 := hbx.mp hc4
    refine lv_ldc2 (v := -2) hx hb hown (hts _ (al_m aw_t307)) d_M_witness_7 ?_
    exact pu_lret hx hb hr hS d_M_witness_10 hlocks (by simp [an_witness, hx0])

set_option maxHeartbeats 4000000 in
set_option maxRecDepth 100000 in
theorem c_M_check (l : Launch) (dC : Nat → ClassId) (dI : Nat → Nat → Nat) (h1 q1 : Nat) (cB : ClassId) (p q bx cl cd rd : Nat) (g : Nat → Nat) (x y : Int64) (cx : Nat) (hj : Jv p q cx rd g) (hrd : rd < 2 ^ 31) (hbx : bx = 0 ↔ cx = 0) (hbx1 : bx ≤ 1) (hcd : cx ≠ 0 → cd = cx) (hcl : cl ≤ 1)  : Met l y_M_check w_M_check ({ frames := 2, cells := 0, slots := 0, locals := 57 }) (va_Pc [.ref h1, .long x, .long y] (fun U => va_P (dC, dI) classes [(h1, .inr (1, [.long (lN (p * q)), .long (lN (p * q * (p * q))), .long (lN (sp_f p q)), .long (lN (sp_cex p q)), .int (nI bx), .int (nI cl), .int (nI cd), .int (nI rd), .ref q1])), (q1, .inl (cB, 30, .inr (.inl (fun j => lN (g j)))))] U.heap ∧ va_K (dC, dI) classes [(cB, .long)] U)) (qI (bI (an_check p q cx g x y))) 0 0 (fun _ => False) := by
  refine Met.ofW (cc := b_M_check) (maxL := 5) (ret := some .boolean) (by decide) rfl ?_
  intro pg ev s mi args below meth co s₁ B hml hv
  obtain ⟨rfl, hP, hK⟩ := hv
  have hx := B.exec
  have hb := B.bytes
  have hr := B.returns
  have hts := atoms_spec (ws := w_M_check) B.pre
  have hown : s.vm.findClass R_M = some mi.cls := findClass_of_methodNamed B.named
  have hlocks := B.notSynchronized
  have hS : va_S (fun _ => False) s.heap s.heap [] := va_S.rf
  have hP : va_P (dC, dI) classes [(h1, .inr (1, [.long (lN (p * q)), .long (lN (p * q * (p * q))), .long (lN (sp_f p q)), .long (lN (sp_cex p q)), .int (nI bx), .int (nI cl), .int (nI cd), .int (nI rd), .ref q1])), (q1, .inl (cB, 30, .inr (.inl (fun j => lN (g j)))))] s.heap := hP
  have hl := lv_entry ([.ref h1, .long x, .long y]) (n := 5) (Nat.le_of_ble_eq_true rfl)
  rw [lg_entry_eq]
  generalize (lg_sl ([.ref h1, .long x, .long y]) ++ List.replicate (5 - (lg_sl ([.ref h1, .long x, .long y])).length) Slot.unset).toArray = ls at hl ⊢
  have hl : lv_has ls 5 [(0, .ref h1), (1, .long x), (3, .long y)] := hl
  have hjn := jv_n hj
  refine lv_aload_n hx hb d_M_check_0 rfl (lv_at hl 0 rfl) ?_
  refine va_get (D := (dC, dI)) (ci := 1) (v := .int (nI bx)) (C := R_M) (T := F_M) (N := 9) hx hb hts f_M hown hK hP 0 rfl rfl 4 (by decide) (hts _ (al_m aw_t211)) (fun _ h9 => h9) rfl d_M_check_1 ?_
  refine lv_if_eq (tgt := 41) hx hb d_M_check_4 (by decide) (fun hc4 => ?_) (fun hc4 => ?_)
  · skip
    rw [← nI_0] at hc4
    rw [nI_eq (a := bx) (b := 0) (by omega) (by omega)] at hc4
    have hx0 : cx = 0 := hbx.mp hc4
    refine lv_iconst (v := nI 0) hx hb d_M_check_41 (by decide) ?_
    exact pu_zret hx hb hr (by decide) hS d_M_check_42 hlocks ((bI_f (by simp [an_check, hx0])).symm)
  · skip
    rw [← nI_0] at hc4
    rw [nI_eq (a := bx) (b := 0) (by omega) (by omega)] at hc4
    have hx0 : cx ≠ 0 := fun hh => hc4 (hbx.mpr hh)
    obtain ⟨hk, hx1, hx6, hr2, hrp, hgj⟩ := jv_box hj hx0
    have hcd1 := hcd hx0
    have hbg := ma_big hk
    have hp3 := hk.1.1
    have hq3 := hk.2.1.1
    have hp9 := hk.1.2.1
    have hq9 := hk.2.1.2.1
    have hkf := ma_keyf hk
    refine lv_aload_n hx hb d_M_check_7 rfl (lv_at hl 0 rfl) ?_
    refine lv_lload_n hx hb d_M_check_8 rfl (lv_at hl 1 rfl) ?_
    refine pu_i (va_runV (As := [.long x]) (rest := []) ⟨hx, hb, hml, hown, hts⟩ (c_M_isMessage l dC dI h1 q1 cB p q bx cl cd rd g x (by omega)) (cwV 1 hts (al_V (k_M_isMessage) (aw_t251) (aw_t253) (aw_p13) (aw_t2)) rfl rfl rfl (by decide +kernel) ⟨Nat.le_of_ble_eq_true rfl, Nat.le_of_ble_eq_true rfl⟩) (pu_preV (q0 := 0) (ci := 1) hK hP rfl rfl) rfl rfl hl.1 rfl (lv_room (Nat.le_of_ble_eq_true rfl)) d_M_check_9 ⟨Nat.zero_le _, Nat.zero_le _⟩) hS (fun H locs hkp hS => ?_)
    have hP := hkp _ _ _ hP
    refine lv_if_eq (tgt := 41) hx hb d_M_check_12 (by decide) (fun hc12 => ?_) (fun hc12 => ?_)
    · skip
      rw [bI_0] at hc12
      refine lv_iconst (v := nI 0) hx hb d_M_check_41 (by decide) ?_
      exact pu_zret hx hb hr (by decide) hS d_M_check_42 hlocks ((bI_f (by simp [an_check, hx0, hc12])).symm)
    · skip
      rw [bI_0] at hc12
      rw [Bool.not_eq_false] at hc12
      refine lv_aload_n hx hb d_M_check_15 rfl (lv_at hl 0 rfl) ?_
      refine lv_lload_n hx hb d_M_check_16 rfl (lv_at hl 2 rfl) ?_
      refine pu_i (va_runV (As := [.long y]) (rest := []) ⟨hx, hb, hml, hown, hts⟩ (c_M_isCoin l dC dI h1 q1 cB p q bx cl cd rd g y hk) (cwV 1 hts (al_V (k_M_isCoin) (aw_t255) (aw_t257) (aw_p14) (aw_t2)) rfl rfl rfl (by decide +kernel) ⟨Nat.le_of_ble_eq_true rfl, Nat.le_of_ble_eq_true rfl⟩) (pu_preV (q0 := 0) (ci := 1) hK hP rfl rfl) rfl rfl hl.1 rfl (lv_room (Nat.le_of_ble_eq_true rfl)) d_M_check_17 ⟨Nat.zero_le _, Nat.zero_le _⟩) hS (fun H locs hkp hS => ?_)
      have hP := hkp _ _ _ hP
      refine lv_if_eq (tgt := 41) hx hb d_M_check_20 (by decide) (fun hc20 => ?_) (fun hc20 => ?_)
      · skip
        rw [bI_0] at hc20
        refine lv_iconst (v := nI 0) hx hb d_M_check_41 (by decide) ?_
        exact pu_zret hx hb hr (by decide) hS d_M_check_42 hlocks ((bI_f (by simp [an_check, hx0, hc12, hc20])).symm)
      · skip
        rw [bI_0] at hc20
        rw [Bool.not_eq_false] at hc20
        obtain ⟨a, ha1, ha2, rfl⟩ := sp_isM_of hc12
        obtain ⟨b, hb1, hb2, hb3, hb4, hb5, rfl⟩ := sp_isC_of hc20
        refine lv_aload_n hx hb d_M_check_23 rfl (lv_at hl 0 rfl) ?_
        refine lv_lload_n hx hb d_M_check_24 rfl (lv_at hl 1 rfl) ?_
        refine lv_lload_n hx hb d_M_check_25 rfl (lv_at hl 2 rfl) ?_
        refine pu_l (va_runV (As := [.long (lN a), .long (lN b)]) (rest := []) ⟨hx, hb, hml, hown, hts⟩ (c_M_sealing l dC dI h1 q1 cB p q bx cl cd rd g a b hk ha2 hb3) (cwV 2 hts (al_V (k_M_sealing) (aw_t262) (aw_t264) (aw_p15) (aw_t2)) rfl rfl rfl (by decide +kernel) ⟨Nat.le_of_ble_eq_true rfl, Nat.le_of_ble_eq_true rfl⟩) (pu_preV (q0 := 0) (ci := 1) hK hP rfl rfl) rfl rfl hl.1 rfl (lv_room (Nat.le_of_ble_eq_true rfl)) d_M_check_26 ⟨Nat.zero_le _, Nat.zero_le _⟩) hS (fun H locs hkp hS => ?_)
        have hP := hkp _ _ _ hP
        refine lv_aload_n hx hb d_M_check_29 rfl (lv_at hl 0 rfl) ?_
        refine pu_l (va_runV (As := []) (rest := [.long (lN (sp_seal p q a b))]) ⟨hx, hb, hml, hown, hts⟩ (c_M_product l dC dI h1 q1 cB p q bx cl cd rd g hk (fun j hj0 => (hgj j hj0).1)) (cwV 0 hts (al_V (k_M_product) (aw_t338) (aw_t340) (aw_p21) (aw_t2)) rfl rfl rfl (by decide +kernel) ⟨Nat.le_of_ble_eq_true rfl, Nat.le_of_ble_eq_true rfl⟩) (pu_preV (q0 := 0) (ci := 1) hK hP rfl rfl) rfl rfl hl.1 rfl (lv_room (Nat.le_of_ble_eq_true rfl)) d_M_check_30 ⟨Nat.zero_le _, Nat.zero_le _⟩) hS (fun H locs hkp hS => ?_)
        have hP := hkp _ _ _ hP
        have hs1 : sp_seal p q a b < p * q * (p * q) := Nat.mod_lt _ (by omega)
        have hs2 : sp_prod g 30 % (p * q * (p * q)) < p * q * (p * q) := Nat.mod_lt _ (by omega)
        refine W.lcmp hx hb d_M_check_33 ?_
        refine lv_if_ne (tgt := 41) hx hb d_M_check_34 (by decide) (fun hc34 => ?_) (fun hc34 => ?_)
        · skip
          rw [lg_cmp_eq] at hc34
          rw [pk_lEQ (a := sp_seal p q a b) (b := sp_prod g 30 % (p * q * (p * q))) (by omega) (by omega)] at hc34
          refine lv_iconst (v := nI 0) hx hb d_M_check_41 (by decide) ?_
          exact pu_zret hx hb hr (by decide) hS d_M_check_42 hlocks ((bI_f (by simp [an_check, hx0, hc12, hc20, lx_nat ha2, lx_nat hb3, hc34])).symm)
        · skip
          rw [lg_cmp_eq] at hc34
          rw [pk_lEQ (a := sp_seal p q a b) (b := sp_prod g 30 % (p * q * (p * q))) (by omega) (by omega)] at hc34
          refine lv_iconst (v := nI 1) hx hb d_M_check_37 (by decide) ?_
          refine lv_goto (tgt := 42) hx hb d_M_check_38 (by decide) ?_
          exact pu_zret hx hb hr (by decide) hS d_M_check_42 hlocks ((bI_t (by simp [an_check, hx0, hc12, hc20, lx_nat ha2, lx_nat hb3, hc34])).symm)
end
section
set_option maxHeartbeats 4000000 in
set_option maxRecDepth 100000 in
theorem c_X_key (l : Launch) (dC : Nat → ClassId) (dI : Nat → Nat → Nat) (h0 q0 : Nat) (cA : ClassId) (p q cx rd cl tt bc : Nat) (g : Nat → Nat) (x y : Int32) (hj : Jv p q cx rd g) (hne : h0 ≠ q0) : Met l y_X_key w_X_key ({ frames := 2, cells := 0, slots := 0, locals := 42 }) (va_Pc [.ref h0, .int x, .int y] (fun U => va_P (dC, dI) classes [(h0, .inr (0, [.int (nI p), .int (nI q), .int (nI (p * q)), .long (lN (p * q * (p * q))), .long (lN (sp_f p q)), .long (lN (sp_inv p q)), .long (lN (sp_cex p q)), .int (nI cx), .int (nI rd), .int (nI cl), .long (lN tt), .int (nI bc), .ref q0])), (q0, .inl (cA, 30, .inr (.inl (fun j => lN (g j)))))] U.heap ∧ va_K (dC, dI) classes [(cA, .long)] U)) (qmI (an_key x y) (dC, dI) classes [(h0, .inr (0, [.int (nI (sel (sp_isK x y) x.toInt.toNat p)), .int (nI (sel (sp_isK x y) y.toInt.toNat q)), .int (nI ((sel (sp_isK x y) x.toInt.toNat p) * (sel (sp_isK x y) y.toInt.toNat q))), .long (lN ((sel (sp_isK x y) x.toInt.toNat p) * (sel (sp_isK x y) y.toInt.toNat q) * ((sel (sp_isK x y) x.toInt.toNat p) * (sel (sp_isK x y) y.toInt.toNat q)))), .long (lN (sp_f (sel (sp_isK x y) x.toInt.toNat p) (sel (sp_isK x y) y.toInt.toNat q))), .long (lN (sp_inv (sel (sp_isK x y) x.toInt.toNat p) (sel (sp_isK x y) y.toInt.toNat q))), .long (lN (sp_cex (sel (sp_isK x y) x.toInt.toNat p) (sel (sp_isK x y) y.toInt.toNat q))), .int (nI (sel (sp_isK x y) 0 cx)), .int (nI rd), .int (nI cl), .long (lN tt), .int (nI bc), .ref q0])), (q0, .inl (cA, 30, .inr (.inl (fun j => lN (g j)))))] h0 q0) 0 0 (two h0 q0) := by
  refine Met.ofW (cc := b_X_key) (maxL := 3) (ret := some .int) (by decide) rfl ?_
  intro pg ev s mi args below meth co s₁ B hml hv
  obtain ⟨rfl, hP, hK⟩ := hv
  have hx := B.exec
  have hb := B.bytes
  have hr := B.returns
  have hts := atoms_spec (ws := w_X_key) B.pre
  have hown : s.vm.findClass R_X = some mi.cls := findClass_of_methodNamed B.named
  have hlocks := B.notSynchronized
  have hS : va_S (two h0 q0) s.heap s.heap [] := va_S.rf
  have hP : va_P (dC, dI) classes [(h0, .inr (0, [.int (nI p), .int (nI q), .int (nI (p * q)), .long (lN (p * q * (p * q))), .long (lN (sp_f p q)), .long (lN (sp_inv p q)), .long (lN (sp_cex p q)), .int (nI cx), .int (nI rd), .int (nI cl), .long (lN tt), .int (nI bc), .ref q0])), (q0, .inl (cA, 30, .inr (.inl (fun j => lN (g j)))))] s.heap := hP
  obtain ⟨A, hAe⟩ : ∃ A : Nat → Prop, A = two h0 q0 := ⟨_, rfl⟩
  rw [← hAe] at hS
  have hD : va_D A [(h0, .inr (0, [.int (nI p), .int (nI q), .int (nI (p * q)), .long (lN (p * q * (p * q))), .long (lN (sp_f p q)), .long (lN (sp_inv p q)), .long (lN (sp_cex p q)), .int (nI cx), .int (nI rd), .int (nI cl), .long (lN tt), .int (nI bc), .ref q0])), (q0, .inl (cA, 30, .inr (.inl (fun j => lN (g j)))))] := by rw [hAe]; exact mu_D hne
  have hl := lv_entry ([.ref h0, .int x, .int y]) (n := 3) (Nat.le_of_ble_eq_true rfl)
  rw [lg_entry_eq]
  generalize (lg_sl ([.ref h0, .int x, .int y]) ++ List.replicate (3 - (lg_sl ([.ref h0, .int x, .int y])).length) Slot.unset).toArray = ls at hl ⊢
  have hl : lv_has ls 3 [(0, .ref h0), (1, .int x), (2, .int y)] := hl
  have hjn := jv_n hj
  refine lv_iload_n hx hb d_X_key_0 rfl (lv_at hl 1 rfl) ?_
  refine lv_iload_n hx hb d_X_key_1 rfl (lv_at hl 2 rfl) ?_
  refine pu_i (va_runS (As := [.int x, .int y]) (rest := []) ⟨hx, hb, hml, hown, hts⟩ (c_X_isKey l x y) (va_cwS 2 hts (al_S (k_X_isKey) (aw_t58) (aw_t59) (aw_t1)) rfl rfl rfl (by decide +kernel) ⟨Nat.le_of_ble_eq_true rfl, Nat.le_of_ble_eq_true rfl⟩) pu_preS rfl rfl hl.1 rfl (lv_room (Nat.le_of_ble_eq_true rfl)) d_X_key_2 ⟨Nat.zero_le _, Nat.zero_le _⟩) hS (fun H locs hkp hS => ?_)
  have hP := hkp _ _ _ hP
  refine lv_if_ne (tgt := 11) hx hb d_X_key_5 (by decide) (fun hc5 => ?_) (fun hc5 => ?_)
  · skip
    rw [bI_0] at hc5
    rw [Bool.not_eq_false] at hc5
    obtain ⟨a, b, hk, ha2, hb2, rfl, rfl⟩ := sp_isK_of hc5
    have hbg := ma_big hk
    have hp3 := hk.1.1
    have hq3 := hk.2.1.1
    have hp9 := hk.1.2.1
    have hq9 := hk.2.1.2.1
    have hkf := ma_keyf hk
    have hfi : sp_f a b * sp_inv a b < 2 ^ 63 := ms_lt (by omega) (by omega)
    refine lv_aload_n hx hb d_X_key_11 rfl (lv_at hl 0 rfl) ?_
    refine lv_iload_n hx hb d_X_key_12 rfl (lv_at hl 1 rfl) ?_
    refine va_put (D := (dC, dI)) (ci := 0) (v := .int (nI a)) (ty := .int) (C := R_X) (T := F_X) (N := 13) hx hb hts f_X t_X t_X_ok n_X hown hK hP hD hS 0 rfl rfl 0 (by decide) (hts _ (al_m aw_t13)) (fun _ h9 => h9) rfl (by decide +kernel) rfl rfl (Nat.le_of_ble_eq_true rfl) d_X_key_13 (fun H locs hP hD hS => ?_)
    have hP : va_P (dC, dI) classes [(h0, .inr (0, [.int (nI a), .int (nI q), .int (nI (p * q)), .long (lN (p * q * (p * q))), .long (lN (sp_f p q)), .long (lN (sp_inv p q)), .long (lN (sp_cex p q)), .int (nI cx), .int (nI rd), .int (nI cl), .long (lN tt), .int (nI bc), .ref q0])), (q0, .inl (cA, 30, .inr (.inl (fun j => lN (g j)))))] H := hP
    have hD : va_D A [(h0, .inr (0, [.int (nI a), .int (nI q), .int (nI (p * q)), .long (lN (p * q * (p * q))), .long (lN (sp_f p q)), .long (lN (sp_inv p q)), .long (lN (sp_cex p q)), .int (nI cx), .int (nI rd), .int (nI cl), .long (lN tt), .int (nI bc), .ref q0])), (q0, .inl (cA, 30, .inr (.inl (fun j => lN (g j)))))] := hD
    refine lv_aload_n hx hb d_X_key_16 rfl (lv_at hl 0 rfl) ?_
    refine lv_iload_n hx hb d_X_key_17 rfl (lv_at hl 2 rfl) ?_
    refine va_put (D := (dC, dI)) (ci := 0) (v := .int (nI b)) (ty := .int) (C := R_X) (T := F_X) (N := 13) hx hb hts f_X t_X t_X_ok n_X hown hK hP hD hS 0 rfl rfl 1 (by decide) (hts _ (al_m aw_t14)) (fun _ h9 => h9) rfl (by decide +kernel) rfl rfl (Nat.le_of_ble_eq_true rfl) d_X_key_18 (fun H locs hP hD hS => ?_)
    have hP : va_P (dC, dI) classes [(h0, .inr (0, [.int (nI a), .int (nI b), .int (nI (p * q)), .long (lN (p * q * (p * q))), .long (lN (sp_f p q)), .long (lN (sp_inv p q)), .long (lN (sp_cex p q)), .int (nI cx), .int (nI rd), .int (nI cl), .long (lN tt), .int (nI bc), .ref q0])), (q0, .inl (cA, 30, .inr (.inl (fun j => lN (g j)))))] H := hP
    have hD : va_D A [(h0, .inr (0, [.int (nI a), .int (nI b), .int (nI (p * q)), .long (lN (p * q * (p * q))), .long (lN (sp_f p q)), .long (lN (sp_inv p q)), .long (lN (sp_cex p q)), .int (nI cx), .int (nI rd), .int (nI cl), .long (lN tt), .int (nI bc), .ref q0])), (q0, .inl (cA, 30, .inr (.inl (fun j => lN (g j)))))] := hD
    refine lv_aload_n hx hb d_X_key_21 rfl (lv_at hl 0 rfl) ?_
    refine lv_iload_n hx hb d_X_key_22 rfl (lv_at hl 1 rfl) ?_
    refine lv_iload_n hx hb d_X_key_23 rfl (lv_at hl 2 rfl) ?_
    refine lv_imul hx hb d_X_key_24 ?_
    refine wk_i (y := nI (a * b)) (pk_mul a b) ?_
    refine va_put (D := (dC, dI)) (ci := 0) (v := .int (nI (a * b))) (ty := .int) (C := R_X) (T := F_X) (N := 13) hx hb hts f_X t_X t_X_ok n_X hown hK hP hD hS 0 rfl rfl 2 (by decide) (hts _ (al_m aw_t15)) (fun _ h9 => h9) rfl (by decide +kernel) rfl rfl (Nat.le_of_ble_eq_true rfl) d_X_key_25 (fun H locs hP hD hS => ?_)
    have hP : va_P (dC, dI) classes [(h0, .inr (0, [.int (nI a), .int (nI b), .int (nI (a * b)), .long (lN (p * q * (p * q))), .long (lN (sp_f p q)), .long (lN (sp_inv p q)), .long (lN (sp_cex p q)), .int (nI cx), .int (nI rd), .int (nI cl), .long (lN tt), .int (nI bc), .ref q0])), (q0, .inl (cA, 30, .inr (.inl (fun j => lN (g j)))))] H := hP
    have hD : va_D A [(h0, .inr (0, [.int (nI a), .int (nI b), .int (nI (a * b)), .long (lN (p * q * (p * q))), .long (lN (sp_f p q)), .long (lN (sp_inv p q)), .long (lN (sp_cex p q)), .int (nI cx), .int (nI rd), .int (nI cl), .long (lN tt), .int (nI bc), .ref q0])), (q0, .inl (cA, 30, .inr (.inl (fun j => lN (g j)))))] := hD
    refine lv_aload_n hx hb d_X_key_28 rfl (lv_at hl 0 rfl) ?_
    refine lv_aload_n hx hb d_X_key_29 rfl (lv_at hl 0 rfl) ?_
    refine va_get (D := (dC, dI)) (ci := 0) (v := .int (nI (a * b))) (C := R_X) (T := F_X) (N := 13) hx hb hts f_X hown hK hP 0 rfl rfl 2 (by decide) (hts _ (al_m aw_t15)) (fun _ h9 => h9) rfl d_X_key_30 ?_
    refine lv_i2l (v := lN (a * b)) hx hb d_X_key_33 (nI_l (by omega)) ?_
    refine lv_aload_n hx hb d_X_key_34 rfl (lv_at hl 0 rfl) ?_
    refine va_get (D := (dC, dI)) (ci := 0) (v := .int (nI (a * b))) (C := R_X) (T := F_X) (N := 13) hx hb hts f_X hown hK hP 0 rfl rfl 2 (by decide) (hts _ (al_m aw_t15)) (fun _ h9 => h9) rfl d_X_key_35 ?_
    refine lv_i2l (v := lN (a * b)) hx hb d_X_key_38 (nI_l (by omega)) ?_
    refine lv_lmul hx hb d_X_key_39 ?_
    refine wk_l (y := lN ((a * b) * (a * b))) (lN_mul (a * b) (a * b)) ?_
    refine va_put (D := (dC, dI)) (ci := 0) (v := .long (lN ((a * b) * (a * b)))) (ty := .long) (C := R_X) (T := F_X) (N := 13) hx hb hts f_X t_X t_X_ok n_X hown hK hP hD hS 0 rfl rfl 3 (by decide) (hts _ (al_m aw_t16)) (fun _ h9 => h9) rfl (by decide +kernel) rfl rfl (Nat.le_of_ble_eq_true rfl) d_X_key_40 (fun H locs hP hD hS => ?_)
    have hP : va_P (dC, dI) classes [(h0, .inr (0, [.int (nI a), .int (nI b), .int (nI (a * b)), .long (lN ((a * b) * (a * b))), .long (lN (sp_f p q)), .long (lN (sp_inv p q)), .long (lN (sp_cex p q)), .int (nI cx), .int (nI rd), .int (nI cl), .long (lN tt), .int (nI bc), .ref q0])), (q0, .inl (cA, 30, .inr (.inl (fun j => lN (g j)))))] H := hP
    have hD : va_D A [(h0, .inr (0, [.int (nI a), .int (nI b), .int (nI (a * b)), .long (lN ((a * b) * (a * b))), .long (lN (sp_f p q)), .long (lN (sp_inv p q)), .long (lN (sp_cex p q)), .int (nI cx), .int (nI rd), .int (nI cl), .long (lN tt), .int (nI bc), .ref q0])), (q0, .inl (cA, 30, .inr (.inl (fun j => lN (g j)))))] := hD
    refine lv_aload_n hx hb d_X_key_43 rfl (lv_at hl 0 rfl) ?_
    refine lv_iload_n hx hb d_X_key_44 rfl (lv_at hl 1 rfl) ?_
    refine lv_iconst (v := nI 1) hx hb d_X_key_45 (by decide) ?_
    refine lv_isub hx hb d_X_key_46 ?_
    refine wk_i (y := nI (a - 1)) (pk_sub (by omega)) ?_
    refine lv_i2l (v := lN (a - 1)) hx hb d_X_key_47 (nI_l (by omega)) ?_
    refine lv_iload_n hx hb d_X_key_48 rfl (lv_at hl 2 rfl) ?_
    refine lv_iconst (v := nI 1) hx hb d_X_key_49 (by decide) ?_
    refine lv_isub hx hb d_X_key_50 ?_
    refine wk_i (y := nI (b - 1)) (pk_sub (by omega)) ?_
    refine lv_i2l (v := lN (b - 1)) hx hb d_X_key_51 (nI_l (by omega)) ?_
    refine lv_lmul hx hb d_X_key_52 ?_
    refine wk_l (y := lN (sp_f a b)) (lN_mul _ _) ?_
    refine va_put (D := (dC, dI)) (ci := 0) (v := .long (lN (sp_f a b))) (ty := .long) (C := R_X) (T := F_X) (N := 13) hx hb hts f_X t_X t_X_ok n_X hown hK hP hD hS 0 rfl rfl 4 (by decide) (hts _ (al_m aw_t17)) (fun _ h9 => h9) rfl (by decide +kernel) rfl rfl (Nat.le_of_ble_eq_true rfl) d_X_key_53 (fun H locs hP hD hS => ?_)
    have hP : va_P (dC, dI) classes [(h0, .inr (0, [.int (nI a), .int (nI b), .int (nI (a * b)), .long (lN ((a * b) * (a * b))), .long (lN (sp_f a b)), .long (lN (sp_inv p q)), .long (lN (sp_cex p q)), .int (nI cx), .int (nI rd), .int (nI cl), .long (lN tt), .int (nI bc), .ref q0])), (q0, .inl (cA, 30, .inr (.inl (fun j => lN (g j)))))] H := hP
    have hD : va_D A [(h0, .inr (0, [.int (nI a), .int (nI b), .int (nI (a * b)), .long (lN ((a * b) * (a * b))), .long (lN (sp_f a b)), .long (lN (sp_inv p q)), .long (lN (sp_cex p q)), .int (nI cx), .int (nI rd), .int (nI cl), .long (lN tt), .int (nI bc), .ref q0])), (q0, .inl (cA, 30, .inr (.inl (fun j => lN (g j)))))] := hD
    refine lv_aload_n hx hb d_X_key_56 rfl (lv_at hl 0 rfl) ?_
    refine lv_aload_n hx hb d_X_key_57 rfl (lv_at hl 0 rfl) ?_
    refine va_get (D := (dC, dI)) (ci := 0) (v := .long (lN (sp_f a b))) (C := R_X) (T := F_X) (N := 13) hx hb hts f_X hown hK hP 0 rfl rfl 4 (by decide) (hts _ (al_m aw_t17)) (fun _ h9 => h9) rfl d_X_key_58 ?_
    refine lv_aload_n hx hb d_X_key_61 rfl (lv_at hl 0 rfl) ?_
    refine va_get (D := (dC, dI)) (ci := 0) (v := .long (lN (sp_f a b))) (C := R_X) (T := F_X) (N := 13) hx hb hts f_X hown hK hP 0 rfl rfl 4 (by decide) (hts _ (al_m aw_t17)) (fun _ h9 => h9) rfl d_X_key_62 ?_
    refine lv_lconst (v := lN 1) hx hb d_X_key_65 rfl ?_
    refine lv_lsub hx hb d_X_key_66 ?_
    refine wk_l (y := lN ((sp_f a b) - 1)) (lN_sub (by omega)) ?_
    refine lv_aload_n hx hb d_X_key_67 rfl (lv_at hl 0 rfl) ?_
    refine va_get (D := (dC, dI)) (ci := 0) (v := .int (nI (a * b))) (C := R_X) (T := F_X) (N := 13) hx hb hts f_X hown hK hP 0 rfl rfl 2 (by decide) (hts _ (al_m aw_t15)) (fun _ h9 => h9) rfl d_X_key_68 ?_
    refine lv_i2l (v := lN (a * b)) hx hb d_X_key_71 (nI_l (by omega)) ?_
    refine pu_l (va_runS (As := [.long (lN (sp_f a b)), .long (lN ((sp_f a b) - 1)), .long (lN (a * b))]) (rest := [.ref h0]) ⟨hx, hb, hml, hown, hts⟩ (c_X_raised l (sp_f a b) (sp_f a b - 1) (a * b) (by omega) (by omega) (by omega) (by omega)) (va_cwS 3 hts (al_S (k_X_raised) (aw_t64) (aw_t65) (aw_t1)) rfl rfl rfl (by decide +kernel) ⟨Nat.le_of_ble_eq_true rfl, Nat.le_of_ble_eq_true rfl⟩) pu_preS rfl rfl hl.1 rfl (lv_room (Nat.le_of_ble_eq_true rfl)) d_X_key_72 ⟨Nat.zero_le _, Nat.zero_le _⟩) hS (fun H locs hkp hS => ?_)
    have hP := hkp _ _ _ hP
    refine wk_l (y := lN (sp_inv a b)) (congrArg lN (si_of hk)) ?_
    refine va_put (D := (dC, dI)) (ci := 0) (v := .long (lN (sp_inv a b))) (ty := .long) (C := R_X) (T := F_X) (N := 13) hx hb hts f_X t_X t_X_ok n_X hown hK hP hD hS 0 rfl rfl 5 (by decide) (hts _ (al_m aw_t18)) (fun _ h9 => h9) rfl (by decide +kernel) rfl rfl (Nat.le_of_ble_eq_true rfl) d_X_key_75 (fun H locs hP hD hS => ?_)
    have hP : va_P (dC, dI) classes [(h0, .inr (0, [.int (nI a), .int (nI b), .int (nI (a * b)), .long (lN ((a * b) * (a * b))), .long (lN (sp_f a b)), .long (lN (sp_inv a b)), .long (lN (sp_cex p q)), .int (nI cx), .int (nI rd), .int (nI cl), .long (lN tt), .int (nI bc), .ref q0])), (q0, .inl (cA, 30, .inr (.inl (fun j => lN (g j)))))] H := hP
    have hD : va_D A [(h0, .inr (0, [.int (nI a), .int (nI b), .int (nI (a * b)), .long (lN ((a * b) * (a * b))), .long (lN (sp_f a b)), .long (lN (sp_inv a b)), .long (lN (sp_cex p q)), .int (nI cx), .int (nI rd), .int (nI cl), .long (lN tt), .int (nI bc), .ref q0])), (q0, .inl (cA, 30, .inr (.inl (fun j => lN (g j)))))] := hD
    refine lv_aload_n hx hb d_X_key_78 rfl (lv_at hl 0 rfl) ?_
    refine lv_aload_n hx hb d_X_key_79 rfl (lv_at hl 0 rfl) ?_
    refine va_get (D := (dC, dI)) (ci := 0) (v := .long (lN (sp_f a b))) (C := R_X) (T := F_X) (N := 13) hx hb hts f_X hown hK hP 0 rfl rfl 4 (by decide) (hts _ (al_m aw_t17)) (fun _ h9 => h9) rfl d_X_key_80 ?_
    refine lv_aload_n hx hb d_X_key_83 rfl (lv_at hl 0 rfl) ?_
    refine va_get (D := (dC, dI)) (ci := 0) (v := .long (lN (sp_f a b))) (C := R_X) (T := F_X) (N := 13) hx hb hts f_X hown hK hP 0 rfl rfl 4 (by decide) (hts _ (al_m aw_t17)) (fun _ h9 => h9) rfl d_X_key_84 ?_
    refine lv_aload_n hx hb d_X_key_87 rfl (lv_at hl 0 rfl) ?_
    refine va_get (D := (dC, dI)) (ci := 0) (v := .long (lN (sp_inv a b))) (C := R_X) (T := F_X) (N := 13) hx hb hts f_X hown hK hP 0 rfl rfl 5 (by decide) (hts _ (al_m aw_t18)) (fun _ h9 => h9) rfl d_X_key_88 ?_
    refine lv_lmul hx hb d_X_key_91 ?_
    refine wk_l (y := lN ((sp_f a b) * (sp_inv a b))) (lN_mul (sp_f a b) (sp_inv a b)) ?_
    refine lv_lconst (v := lN 1) hx hb d_X_key_92 rfl ?_
    refine lv_lsub hx hb d_X_key_93 ?_
    refine wk_l (y := lN (((sp_f a b) * (sp_inv a b)) - 1)) (lN_sub (by omega)) ?_
    refine lv_aload_n hx hb d_X_key_94 rfl (lv_at hl 0 rfl) ?_
    refine va_get (D := (dC, dI)) (ci := 0) (v := .int (nI (a * b))) (C := R_X) (T := F_X) (N := 13) hx hb hts f_X hown hK hP 0 rfl rfl 2 (by decide) (hts _ (al_m aw_t15)) (fun _ h9 => h9) rfl d_X_key_95 ?_
    refine lv_i2l (v := lN (a * b)) hx hb d_X_key_98 (nI_l (by omega)) ?_
    refine lv_ldiv hx hb d_X_key_99 (lN_ne0 (by omega) (by omega)) ?_
    refine wk_l (y := lN ((((sp_f a b) * (sp_inv a b)) - 1) / (a * b))) (pk_lDiv (by omega) (by omega) (by omega)) ?_
    have hm99 := Nat.div_le_self (((sp_f a b) * (sp_inv a b)) - 1) (a * b)
    refine lv_lsub hx hb d_X_key_100 ?_
    refine wk_l (y := lN (sp_cex a b)) (lN_sub hkf.2.2.2.2.2.1) ?_
    refine va_put (D := (dC, dI)) (ci := 0) (v := .long (lN (sp_cex a b))) (ty := .long) (C := R_X) (T := F_X) (N := 13) hx hb hts f_X t_X t_X_ok n_X hown hK hP hD hS 0 rfl rfl 6 (by decide) (hts _ (al_m aw_t19)) (fun _ h9 => h9) rfl (by decide +kernel) rfl rfl (Nat.le_of_ble_eq_true rfl) d_X_key_101 (fun H locs hP hD hS => ?_)
    have hP : va_P (dC, dI) classes [(h0, .inr (0, [.int (nI a), .int (nI b), .int (nI (a * b)), .long (lN ((a * b) * (a * b))), .long (lN (sp_f a b)), .long (lN (sp_inv a b)), .long (lN (sp_cex a b)), .int (nI cx), .int (nI rd), .int (nI cl), .long (lN tt), .int (nI bc), .ref q0])), (q0, .inl (cA, 30, .inr (.inl (fun j => lN (g j)))))] H := hP
    have hD : va_D A [(h0, .inr (0, [.int (nI a), .int (nI b), .int (nI (a * b)), .long (lN ((a * b) * (a * b))), .long (lN (sp_f a b)), .long (lN (sp_inv a b)), .long (lN (sp_cex a b)), .int (nI cx), .int (nI rd), .int (nI cl), .long (lN tt), .int (nI bc), .ref q0])), (q0, .inl (cA, 30, .inr (.inl (fun j => lN (g j)))))] := hD
    refine lv_aload_n hx hb d_X_key_104 rfl (lv_at hl 0 rfl) ?_
    refine lv_iconst (v := nI 0) hx hb d_X_key_105 (by decide) ?_
    refine va_put (D := (dC, dI)) (ci := 0) (v := .int (nI 0)) (ty := .int) (C := R_X) (T := F_X) (N := 13) hx hb hts f_X t_X t_X_ok n_X hown hK hP hD hS 0 rfl rfl 7 (by decide) (hts _ (al_m aw_t20)) (fun _ h9 => h9) rfl (by decide +kernel) rfl rfl (Nat.le_of_ble_eq_true rfl) d_X_key_106 (fun H locs hP hD hS => ?_)
    have hP : va_P (dC, dI) classes [(h0, .inr (0, [.int (nI a), .int (nI b), .int (nI (a * b)), .long (lN ((a * b) * (a * b))), .long (lN (sp_f a b)), .long (lN (sp_inv a b)), .long (lN (sp_cex a b)), .int (nI 0), .int (nI rd), .int (nI cl), .long (lN tt), .int (nI bc), .ref q0])), (q0, .inl (cA, 30, .inr (.inl (fun j => lN (g j)))))] H := hP
    have hD : va_D A [(h0, .inr (0, [.int (nI a), .int (nI b), .int (nI (a * b)), .long (lN ((a * b) * (a * b))), .long (lN (sp_f a b)), .long (lN (sp_inv a b)), .long (lN (sp_cex a b)), .int (nI 0), .int (nI rd), .int (nI cl), .long (lN tt), .int (nI bc), .ref q0])), (q0, .inl (cA, 30, .inr (.inl (fun j => lN (g j)))))] := hD
    refine lv_aload_n hx hb d_X_key_109 rfl (lv_at hl 0 rfl) ?_
    refine va_get (D := (dC, dI)) (ci := 0) (v := .int (nI (a * b))) (C := R_X) (T := F_X) (N := 13) hx hb hts f_X hown hK hP 0 rfl rfl 2 (by decide) (hts _ (al_m aw_t15)) (fun _ h9 => h9) rfl d_X_key_110 ?_
    rw [hAe] at hS
    exact mu_iret hx hb hr (by simp only [hc5, sel_t, ix_nat ha2, ix_nat hb2]; exact hP) hS d_X_key_113 hlocks (by simp [an_key, hc5, ix_nat ha2, ix_nat hb2])
  · skip
    rw [bI_0] at hc5
    refine lv_bipush (v := -4) hx hb d_X_key_8 (by decide) ?_
    rw [hAe] at hS
    exact mu_iret hx hb hr (by simp only [hc5, sel_f]; exact hP) hS d_X_key_10 hlocks (by simp [an_key, hc5])

set_option maxHeartbeats 4000000 in
set_option maxRecDepth 100000 in
theorem c_X_close (l : Launch) (dC : Nat → ClassId) (dI : Nat → Nat → Nat) (h0 q0 : Nat) (cA : ClassId) (p q cx rd cl tt bc : Nat) (g : Nat → Nat) (hj : Jv p q cx rd g) (hcl : cl ≤ 1) (hne : h0 ≠ q0) : Met l y_X_close w_X_close ({ frames := 2, cells := 0, slots := 0, locals := 54 }) (va_Pc [.ref h0] (fun U => va_P (dC, dI) classes [(h0, .inr (0, [.int (nI p), .int (nI q), .int (nI (p * q)), .long (lN (p * q * (p * q))), .long (lN (sp_f p q)), .long (lN (sp_inv p q)), .long (lN (sp_cex p q)), .int (nI cx), .int (nI rd), .int (nI cl), .long (lN tt), .int (nI bc), .ref q0])), (q0, .inl (cA, 30, .inr (.inl (fun j => lN (g j)))))] U.heap ∧ va_K (dC, dI) classes [(cA, .long)] U)) (qmL (an_close p q cx cl g) (dC, dI) classes [(h0, .inr (0, [.int (nI p), .int (nI q), .int (nI (p * q)), .long (lN (p * q * (p * q))), .long (lN (sp_f p q)), .long (lN (sp_inv p q)), .long (lN (sp_cex p q)), .int (nI cx), .int (nI rd), .int (nI (sel (decide (cx = 0)) cl 1)), .long (lN (sel (decide (cx = 0 ∨ cl = 1)) tt (sp_msg p q (sp_prod g 30 % (p * q * (p * q)))))), .int (nI bc), .ref q0])), (q0, .inl (cA, 30, .inr (.inl (fun j => lN (g j)))))] h0 q0) 0 0 (two h0 q0) := by
  refine Met.ofW (cc := b_X_close) (maxL := 1) (ret := some .long) (by decide) rfl ?_
  intro pg ev s mi args below meth co s₁ B hml hv
  obtain ⟨rfl, hP, hK⟩ := hv
  have hx := B.exec
  have hb := B.bytes
  have hr := B.returns
  have hts := atoms_spec (ws := w_X_close) B.pre
  have hown : s.vm.findClass R_X = some mi.cls := findClass_of_methodNamed B.named
  have hlocks := B.notSynchronized
  have hS : va_S (two h0 q0) s.heap s.heap [] := va_S.rf
  have hP : va_P (dC, dI) classes [(h0, .inr (0, [.int (nI p), .int (nI q), .int (nI (p * q)), .long (lN (p * q * (p * q))), .long (lN (sp_f p q)), .long (lN (sp_inv p q)), .long (lN (sp_cex p q)), .int (nI cx), .int (nI rd), .int (nI cl), .long (lN tt), .int (nI bc), .ref q0])), (q0, .inl (cA, 30, .inr (.inl (fun j => lN (g j)))))] s.heap := hP
  obtain ⟨A, hAe⟩ : ∃ A : Nat → Prop, A = two h0 q0 := ⟨_, rfl⟩
  rw [← hAe] at hS
  have hD : va_D A [(h0, .inr (0, [.int (nI p), .int (nI q), .int (nI (p * q)), .long (lN (p * q * (p * q))), .long (lN (sp_f p q)), .long (lN (sp_inv p q)), .long (lN (sp_cex p q)), .int (nI cx), .int (nI rd), .int (nI cl), .long (lN tt), .int (nI bc), .ref q0])), (q0, .inl (cA, 30, .inr (.inl (fun j => lN (g j)))))] := by rw [hAe]; exact mu_D hne
  have hl := lv_entry ([.ref h0]) (n := 1) (Nat.le_of_ble_eq_true rfl)
  rw [lg_entry_eq]
  generalize (lg_sl ([.ref h0]) ++ List.replicate (1 - (lg_sl ([.ref h0])).length) Slot.unset).toArray = ls at hl ⊢
  have hl : lv_has ls 1 [(0, .ref h0)] := hl
  have hjn := jv_n hj
  refine lv_aload_n hx hb d_X_close_0 rfl (lv_at hl 0 rfl) ?_
  refine pu_i (va_runV (As := []) (rest := []) ⟨hx, hb, hml, hown, hts⟩ (c_X_hasBox l dC dI h0 q0 cA p q cx rd cl tt bc g (by omega)) (cwV 0 hts (al_V (k_X_hasBox) (aw_t143) (aw_t145) (aw_p9) (aw_t1)) rfl rfl rfl (by decide +kernel) ⟨Nat.le_of_ble_eq_true rfl, Nat.le_of_ble_eq_true rfl⟩) (pu_preV (q0 := 0) (ci := 0) hK hP rfl rfl) rfl rfl hl.1 rfl (lv_room (Nat.le_of_ble_eq_true rfl)) d_X_close_1 ⟨Nat.zero_le _, Nat.zero_le _⟩) hS (fun H locs hkp hS => ?_)
  have hP := hkp _ _ _ hP
  refine lv_if_ne (tgt := 11) hx hb d_X_close_4 (by decide) (fun hc4 => ?_) (fun hc4 => ?_)
  · skip
    rw [bI_0] at hc4
    rw [Bool.not_eq_false] at hc4
    have hx0 := bx_t hc4
    obtain ⟨hk, hx1, hx6, hr2, hrp, hgj⟩ := jv_box hj hx0
    have hbg := ma_big hk
    have hp3 := hk.1.1
    have hq3 := hk.2.1.1
    have hp9 := hk.1.2.1
    have hq9 := hk.2.1.2.1
    have hkf := ma_keyf hk
    refine lv_aload_n hx hb d_X_close_11 rfl (lv_at hl 0 rfl) ?_
    refine va_get (D := (dC, dI)) (ci := 0) (v := .int (nI cl)) (C := R_X) (T := F_X) (N := 13) hx hb hts f_X hown hK hP 0 rfl rfl 9 (by decide) (hts _ (al_m aw_t22)) (fun _ h9 => h9) rfl d_X_close_12 ?_
    refine lv_if_eq (tgt := 22) hx hb d_X_close_15 (by decide) (fun hc15 => ?_) (fun hc15 => ?_)
    · skip
      rw [← nI_0] at hc15
      rw [nI_eq (a := cl) (b := 0) (by omega) (by omega)] at hc15
      have hc0 : cl = 0 := by omega
      refine lv_aload_n hx hb d_X_close_22 rfl (lv_at hl 0 rfl) ?_
      refine lv_iconst (v := nI 1) hx hb d_X_close_23 (by decide) ?_
      refine va_put (D := (dC, dI)) (ci := 0) (v := .int (nI 1)) (ty := .boolean) (C := R_X) (T := F_X) (N := 13) hx hb hts f_X t_X t_X_ok n_X hown hK hP hD hS 0 rfl rfl 9 (by decide) (hts _ (al_m aw_t22)) (fun _ h9 => h9) rfl (by decide +kernel) rfl rfl (Nat.le_of_ble_eq_true rfl) d_X_close_24 (fun H locs hP hD hS => ?_)
      have hP : va_P (dC, dI) classes [(h0, .inr (0, [.int (nI p), .int (nI q), .int (nI (p * q)), .long (lN (p * q * (p * q))), .long (lN (sp_f p q)), .long (lN (sp_inv p q)), .long (lN (sp_cex p q)), .int (nI cx), .int (nI rd), .int (nI 1), .long (lN tt), .int (nI bc), .ref q0])), (q0, .inl (cA, 30, .inr (.inl (fun j => lN (g j)))))] H := hP
      have hD : va_D A [(h0, .inr (0, [.int (nI p), .int (nI q), .int (nI (p * q)), .long (lN (p * q * (p * q))), .long (lN (sp_f p q)), .long (lN (sp_inv p q)), .long (lN (sp_cex p q)), .int (nI cx), .int (nI rd), .int (nI 1), .long (lN tt), .int (nI bc), .ref q0])), (q0, .inl (cA, 30, .inr (.inl (fun j => lN (g j)))))] := hD
      refine lv_aload_n hx hb d_X_close_27 rfl (lv_at hl 0 rfl) ?_
      refine lv_aload_n hx hb d_X_close_28 rfl (lv_at hl 0 rfl) ?_
      refine lv_aload_n hx hb d_X_close_29 rfl (lv_at hl 0 rfl) ?_
      refine pu_l (va_runV (As := []) (rest := [.ref h0, .ref h0]) ⟨hx, hb, hml, hown, hts⟩ (c_X_productOfBallots l dC dI h0 q0 cA p q cx rd 1 tt bc g hk (fun j hj0 => (hgj j hj0).1)) (cwV 0 hts (al_V (k_X_productOfBallots) (aw_t181) (aw_t183) (aw_p12) (aw_t1)) rfl rfl rfl (by decide +kernel) ⟨Nat.le_of_ble_eq_true rfl, Nat.le_of_ble_eq_true rfl⟩) (pu_preV (q0 := 0) (ci := 0) hK hP rfl rfl) rfl rfl hl.1 rfl (lv_room (Nat.le_of_ble_eq_true rfl)) d_X_close_30 ⟨Nat.zero_le _, Nat.zero_le _⟩) hS (fun H locs hkp hS => ?_)
      have hP := hkp _ _ _ hP
      obtain ⟨hs1, hs2, hs3⟩ := fa_seal hk (fun j hj0 => (hgj j hj0).2)
      refine pu_l (va_runV (As := [.long (lN (sp_prod g 30 % (p * q * (p * q))))]) (rest := [.ref h0]) ⟨hx, hb, hml, hown, hts⟩ (c_X_messageIn l dC dI h0 q0 cA p q cx rd 1 tt bc g (sp_prod g 30 % (p * q * (p * q))) hk hs3 hs1 hs2) (cwV 1 hts (al_V (k_X_messageIn) (aw_t105) (aw_t107) (aw_p6) (aw_t1)) rfl rfl rfl (by decide +kernel) ⟨Nat.le_of_ble_eq_true rfl, Nat.le_of_ble_eq_true rfl⟩) (pu_preV (q0 := 0) (ci := 0) hK hP rfl rfl) rfl rfl hl.1 rfl (lv_room (Nat.le_of_ble_eq_true rfl)) d_X_close_33 ⟨Nat.zero_le _, Nat.zero_le _⟩) hS (fun H locs hkp hS => ?_)
      have hP := hkp _ _ _ hP
      refine va_put (D := (dC, dI)) (ci := 0) (v := .long (lN (sp_msg p q (sp_prod g 30 % (p * q * (p * q)))))) (ty := .long) (C := R_X) (T := F_X) (N := 13) hx hb hts f_X t_X t_X_ok n_X hown hK hP hD hS 0 rfl rfl 10 (by decide) (hts _ (al_m aw_t23)) (fun _ h9 => h9) rfl (by decide +kernel) rfl rfl (Nat.le_of_ble_eq_true rfl) d_X_close_36 (fun H locs hP hD hS => ?_)
      have hP : va_P (dC, dI) classes [(h0, .inr (0, [.int (nI p), .int (nI q), .int (nI (p * q)), .long (lN (p * q * (p * q))), .long (lN (sp_f p q)), .long (lN (sp_inv p q)), .long (lN (sp_cex p q)), .int (nI cx), .int (nI rd), .int (nI 1), .long (lN (sp_msg p q (sp_prod g 30 % (p * q * (p * q))))), .int (nI bc), .ref q0])), (q0, .inl (cA, 30, .inr (.inl (fun j => lN (g j)))))] H := hP
      have hD : va_D A [(h0, .inr (0, [.int (nI p), .int (nI q), .int (nI (p * q)), .long (lN (p * q * (p * q))), .long (lN (sp_f p q)), .long (lN (sp_inv p q)), .long (lN (sp_cex p q)), .int (nI cx), .int (nI rd), .int (nI 1), .long (lN (sp_msg p q (sp_prod g 30 % (p * q * (p * q))))), .int (nI bc), .ref q0])), (q0, .inl (cA, 30, .inr (.inl (fun j => lN (g j)))))] := hD
      refine lv_aload_n hx hb d_X_close_39 rfl (lv_at hl 0 rfl) ?_
      refine va_get (D := (dC, dI)) (ci := 0) (v := .long (lN (sp_msg p q (sp_prod g 30 % (p * q * (p * q)))))) (C := R_X) (T := F_X) (N := 13) hx hb hts f_X hown hK hP 0 rfl rfl 10 (by decide) (hts _ (al_m aw_t23)) (fun _ h9 => h9) rfl d_X_close_40 ?_
      rw [hAe] at hS
      exact mu_lret hx hb hr (by simp only [decide_eq_false hx0, sel_f, decide_eq_false (show ¬ (cx = 0 ∨ cl = 1) from fun z => z.elim hx0 (by omega))]; exact hP) hS d_X_close_43 hlocks (by simp [an_close, hx0, hc0])
    · skip
      rw [← nI_0] at hc15
      rw [nI_eq (a := cl) (b := 0) (by omega) (by omega)] at hc15
      have hc1 : cl = 1 := by omega
      refine lv_ldc2 (v := -3) hx hb hown (hts _ (al_m aw_t167)) d_X_close_18 ?_
      rw [hAe] at hS
      exact mu_lret hx hb hr (by simp only [decide_eq_false hx0, sel_f, decide_eq_true (show cx = 0 ∨ cl = 1 from Or.inr hc1), sel_t]; rw [hc1] at hP; exact hP) hS d_X_close_21 hlocks (by simp [an_close, hx0, hc1])
  · skip
    rw [bI_0] at hc4
    have hx0 := bx_f hc4
    refine lv_ldc2 (v := -2) hx hb hown (hts _ (al_m aw_t147)) d_X_close_7 ?_
    rw [hAe] at hS
    exact mu_lret hx hb hr (by simp only [decide_eq_true hx0, decide_eq_true (show cx = 0 ∨ cl = 1 from Or.inl hx0), sel_t]; exact hP) hS d_X_close_10 hlocks (by simp [an_close, hx0])

set_option maxHeartbeats 4000000 in
set_option maxRecDepth 100000 in
theorem c_X_withdraw (l : Launch) (dC : Nat → ClassId) (dI : Nat → Nat → Nat) (h0 q0 : Nat) (cA : ClassId) (p q cx rd cl tt bc : Nat) (g : Nat → Nat) (x : Int32) (hj : Jv p q cx rd g) (hcl : cl ≤ 1) (hbc : bc = sp_cnt g 30) (hne : h0 ≠ q0) : Met l y_X_withdraw w_X_withdraw ({ frames := 1, cells := 0, slots := 0, locals := 20 }) (va_Pc [.ref h0, .int x] (fun U => va_P (dC, dI) classes [(h0, .inr (0, [.int (nI p), .int (nI q), .int (nI (p * q)), .long (lN (p * q * (p * q))), .long (lN (sp_f p q)), .long (lN (sp_inv p q)), .long (lN (sp_cex p q)), .int (nI cx), .int (nI rd), .int (nI cl), .long (lN tt), .int (nI bc), .ref q0])), (q0, .inl (cA, 30, .inr (.inl (fun j => lN (g j)))))] U.heap ∧ va_K (dC, dI) classes [(cA, .long)] U)) (qmL (an_withdraw cx cl g x) (dC, dI) classes [(h0, .inr (0, [.int (nI p), .int (nI q), .int (nI (p * q)), .long (lN (p * q * (p * q))), .long (lN (sp_f p q)), .long (lN (sp_inv p q)), .long (lN (sp_cex p q)), .int (nI cx), .int (nI rd), .int (nI cl), .long (lN tt), .int (nI (sp_cnt (nx_withdraw cx cl g x) 30)), .ref q0])), (q0, .inl (cA, 30, .inr (.inl (fun j => lN ((nx_withdraw cx cl g x) j)))))] h0 q0) 0 0 (two h0 q0) := by
  refine Met.ofW (cc := b_X_withdraw) (maxL := 4) (ret := some .long) (by decide) rfl ?_
  intro pg ev s mi args below meth co s₁ B hml hv
  obtain ⟨rfl, hP, hK⟩ := hv
  have hx := B.exec
  have hb := B.bytes
  have hr := B.returns
  have hts := atoms_spec (ws := w_X_withdraw) B.pre
  have hown : s.vm.findClass R_X = some mi.cls := findClass_of_methodNamed B.named
  have hlocks := B.notSynchronized
  have hS : va_S (two h0 q0) s.heap s.heap [] := va_S.rf
  have hP : va_P (dC, dI) classes [(h0, .inr (0, [.int (nI p), .int (nI q), .int (nI (p * q)), .long (lN (p * q * (p * q))), .long (lN (sp_f p q)), .long (lN (sp_inv p q)), .long (lN (sp_cex p q)), .int (nI cx), .int (nI rd), .int (nI cl), .long (lN tt), .int (nI bc), .ref q0])), (q0, .inl (cA, 30, .inr (.inl (fun j => lN (g j)))))] s.heap := hP
  obtain ⟨A, hAe⟩ : ∃ A : Nat → Prop, A = two h0 q0 := ⟨_, rfl⟩
  rw [← hAe] at hS
  have hD : va_D A [(h0, .inr (0, [.int (nI p), .int (nI q), .int (nI (p * q)), .long (lN (p * q * (p * q))), .long (lN (sp_f p q)), .long (lN (sp_inv p q)), .long (lN (sp_cex p q)), .int (nI cx), .int (nI rd), .int (nI cl), .long (lN tt), .int (nI bc), .ref q0])), (q0, .inl (cA, 30, .inr (.inl (fun j => lN (g j)))))] := by rw [hAe]; exact mu_D hne
  have hl := lv_entry ([.ref h0, .int x]) (n := 4) (Nat.le_of_ble_eq_true rfl)
  rw [lg_entry_eq]
  generalize (lg_sl ([.ref h0, .int x]) ++ List.replicate (4 - (lg_sl ([.ref h0, .int x])).length) Slot.unset).toArray = ls at hl ⊢
  have hl : lv_has ls 4 [(0, .ref h0), (1, .int x)] := hl
  have hjn := jv_n hj
  have hcb := fa_cnt_le g 30
  refine lv_aload_n hx hb d_X_withdraw_0 rfl (lv_at hl 0 rfl) ?_
  refine pu_i (va_runV (As := []) (rest := []) ⟨hx, hb, hml, hown, hts⟩ (c_X_hasBox l dC dI h0 q0 cA p q cx rd cl tt bc g (by omega)) (cwV 0 hts (al_V (k_X_hasBox) (aw_t143) (aw_t145) (aw_p9) (aw_t1)) rfl rfl rfl (by decide +kernel) ⟨Nat.le_of_ble_eq_true rfl, Nat.le_of_ble_eq_true rfl⟩) (pu_preV (q0 := 0) (ci := 0) hK hP rfl rfl) rfl rfl hl.1 rfl (lv_room (Nat.le_of_ble_eq_true rfl)) d_X_withdraw_1 ⟨Nat.zero_le _, Nat.zero_le _⟩) hS (fun H locs hkp hS => ?_)
  have hP := hkp _ _ _ hP
  refine lv_if_ne (tgt := 11) hx hb d_X_withdraw_4 (by decide) (fun hc4 => ?_) (fun hc4 => ?_)
  · skip
    rw [bI_0] at hc4
    rw [Bool.not_eq_false] at hc4
    have hx0 := bx_t hc4
    obtain ⟨hk, hx1, hx6, hr2, hrp, hgj⟩ := jv_box hj hx0
    have hbg := ma_big hk
    have hp3 := hk.1.1
    have hq3 := hk.2.1.1
    have hp9 := hk.1.2.1
    have hq9 := hk.2.1.2.1
    have hkf := ma_keyf hk
    refine lv_aload_n hx hb d_X_withdraw_11 rfl (lv_at hl 0 rfl) ?_
    refine va_get (D := (dC, dI)) (ci := 0) (v := .int (nI cl)) (C := R_X) (T := F_X) (N := 13) hx hb hts f_X hown hK hP 0 rfl rfl 9 (by decide) (hts _ (al_m aw_t22)) (fun _ h9 => h9) rfl d_X_withdraw_12 ?_
    refine lv_if_eq (tgt := 22) hx hb d_X_withdraw_15 (by decide) (fun hc15 => ?_) (fun hc15 => ?_)
    · skip
      rw [← nI_0] at hc15
      rw [nI_eq (a := cl) (b := 0) (by omega) (by omega)] at hc15
      have hcl0 : cl ≠ 1 := by omega
      refine lv_iload_n hx hb d_X_withdraw_22 rfl (lv_at hl 1 rfl) ?_
      refine pu_i (va_runS (As := [.int x]) (rest := []) ⟨hx, hb, hml, hown, hts⟩ (c_X_isVoter l x) (va_cwS 1 hts (al_S (k_X_isVoter) (aw_t160) (aw_t161) (aw_t1)) rfl rfl rfl (by decide +kernel) ⟨Nat.le_of_ble_eq_true rfl, Nat.le_of_ble_eq_true rfl⟩) pu_preS rfl rfl hl.1 rfl (lv_room (Nat.le_of_ble_eq_true rfl)) d_X_withdraw_23 ⟨Nat.zero_le _, Nat.zero_le _⟩) hS (fun H locs hkp hS => ?_)
      have hP := hkp _ _ _ hP
      refine lv_if_ne (tgt := 33) hx hb d_X_withdraw_26 (by decide) (fun hc26 => ?_) (fun hc26 => ?_)
      · skip
        rw [bI_0] at hc26
        rw [Bool.not_eq_false] at hc26
        obtain ⟨a, ha1, ha2, rfl⟩ := sp_cand_of hc26
        have hga := (hgj a ha1).1
        have hcn := (fa_cnt g a 0 30).2 ha1
        have hcl0 : cl ≠ 1 := by omega
        refine lv_aload_n hx hb d_X_withdraw_33 rfl (lv_at hl 0 rfl) ?_
        refine va_get (D := (dC, dI)) (ci := 0) (v := .ref q0) (C := R_X) (T := F_X) (N := 13) hx hb hts f_X hown hK hP 0 rfl rfl 12 (by decide) (hts _ (al_m aw_t25)) (fun _ h9 => h9) rfl d_X_withdraw_34 ?_
        refine lv_iload_n hx hb d_X_withdraw_37 rfl (lv_at hl 1 rfl) ?_
        refine va_lald hx hb hK hP 1 0 rfl rfl (vp_in_nI (by omega) (by decide)) d_X_withdraw_38 ?_
        refine wk_l (y := lN (g a)) (by rw [nI_clamp (by omega)]) ?_
        refine lv_lstore_n (lv' := [(2, .long (lN (g a))), (0, .ref h0), (1, .int (nI a))]) hx hb d_X_withdraw_39 rfl hl (by decide) rfl (fun ls hl => ?_)
        refine lv_lload_n hx hb d_X_withdraw_40 rfl (lv_at hl 0 rfl) ?_
        refine lv_lconst (v := lN 0) hx hb d_X_withdraw_41 rfl ?_
        refine W.lcmp hx hb d_X_withdraw_42 ?_
        refine lv_if_ne (tgt := 50) hx hb d_X_withdraw_43 (by decide) (fun hc43 => ?_) (fun hc43 => ?_)
        · skip
          rw [lg_cmp_eq] at hc43
          rw [pk_lEQ (a := g a) (b := 0) (by omega) (by omega)] at hc43
          rw [if_neg hc43, if_pos rfl] at hcn
          refine lv_aload_n hx hb d_X_withdraw_50 rfl (lv_at hl 1 rfl) ?_
          refine va_get (D := (dC, dI)) (ci := 0) (v := .ref q0) (C := R_X) (T := F_X) (N := 13) hx hb hts f_X hown hK hP 0 rfl rfl 12 (by decide) (hts _ (al_m aw_t25)) (fun _ h9 => h9) rfl d_X_withdraw_51 ?_
          refine lv_iload_n hx hb d_X_withdraw_54 rfl (lv_at hl 2 rfl) ?_
          refine lv_lconst (v := lN 0) hx hb d_X_withdraw_55 rfl ?_
          refine va_last hx hb hK hP hD hS 1 0 rfl rfl (vp_in_nI (by omega) (by decide)) d_X_withdraw_56 (fun H locs hP hD hS => ?_)
          rw [nI_clamp (by omega), gu_eq] at hP hD
          have hP : va_P (dC, dI) classes [(h0, .inr (0, [.int (nI p), .int (nI q), .int (nI (p * q)), .long (lN (p * q * (p * q))), .long (lN (sp_f p q)), .long (lN (sp_inv p q)), .long (lN (sp_cex p q)), .int (nI cx), .int (nI rd), .int (nI cl), .long (lN tt), .int (nI bc), .ref q0])), (q0, .inl (cA, 30, .inr (.inl (fun j => lN ((gu g a 0) j)))))] H := hP
          have hD : va_D A [(h0, .inr (0, [.int (nI p), .int (nI q), .int (nI (p * q)), .long (lN (p * q * (p * q))), .long (lN (sp_f p q)), .long (lN (sp_inv p q)), .long (lN (sp_cex p q)), .int (nI cx), .int (nI rd), .int (nI cl), .long (lN tt), .int (nI bc), .ref q0])), (q0, .inl (cA, 30, .inr (.inl (fun j => lN ((gu g a 0) j)))))] := hD
          refine lv_aload_n hx hb d_X_withdraw_57 rfl (lv_at hl 1 rfl) ?_
          refine lv_dup hx hb d_X_withdraw_58 rfl ?_
          refine va_get (D := (dC, dI)) (ci := 0) (v := .int (nI bc)) (C := R_X) (T := F_X) (N := 13) hx hb hts f_X hown hK hP 0 rfl rfl 11 (by decide) (hts _ (al_m aw_t24)) (fun _ h9 => h9) rfl d_X_withdraw_59 ?_
          refine lv_iconst (v := nI 1) hx hb d_X_withdraw_62 (by decide) ?_
          refine lv_isub hx hb d_X_withdraw_63 ?_
          refine wk_i (y := nI (bc - 1)) (pk_sub (by omega)) ?_
          refine va_put (D := (dC, dI)) (ci := 0) (v := .int (nI (bc - 1))) (ty := .int) (C := R_X) (T := F_X) (N := 13) hx hb hts f_X t_X t_X_ok n_X hown hK hP hD hS 0 rfl rfl 11 (by decide) (hts _ (al_m aw_t24)) (fun _ h9 => h9) rfl (by decide +kernel) rfl rfl (Nat.le_of_ble_eq_true rfl) d_X_withdraw_64 (fun H locs hP hD hS => ?_)
          have hP : va_P (dC, dI) classes [(h0, .inr (0, [.int (nI p), .int (nI q), .int (nI (p * q)), .long (lN (p * q * (p * q))), .long (lN (sp_f p q)), .long (lN (sp_inv p q)), .long (lN (sp_cex p q)), .int (nI cx), .int (nI rd), .int (nI cl), .long (lN tt), .int (nI (bc - 1)), .ref q0])), (q0, .inl (cA, 30, .inr (.inl (fun j => lN ((gu g a 0) j)))))] H := hP
          have hD : va_D A [(h0, .inr (0, [.int (nI p), .int (nI q), .int (nI (p * q)), .long (lN (p * q * (p * q))), .long (lN (sp_f p q)), .long (lN (sp_inv p q)), .long (lN (sp_cex p q)), .int (nI cx), .int (nI rd), .int (nI cl), .long (lN tt), .int (nI (bc - 1)), .ref q0])), (q0, .inl (cA, 30, .inr (.inl (fun j => lN ((gu g a 0) j)))))] := hD
          refine lv_lload_n hx hb d_X_withdraw_67 rfl (lv_at hl 0 rfl) ?_
          rw [hAe] at hS
          exact mu_lret hx hb hr (by simp only [nx_withdraw, if_neg hx0, if_neg hcl0, hc26, if_true, ix_nat ha2]; rw [show sp_cnt (gu g a 0) 30 = bc - 1 from by omega]; exact hP) hS d_X_withdraw_68 hlocks (by simp [an_withdraw, hx0, hcl0, hc26, ix_nat ha2, hc43])
        · skip
          rw [lg_cmp_eq] at hc43
          rw [pk_lEQ (a := g a) (b := 0) (by omega) (by omega)] at hc43
          refine lv_ldc2 (v := -6) hx hb hown (hts _ (al_m aw_t168)) d_X_withdraw_46 ?_
          rw [hAe] at hS
          exact mu_lret hx hb hr (by simp only [nx_withdraw, if_neg hx0, if_neg hcl0, hc26, if_true, ix_nat ha2, gu_same hc43]; rw [hbc] at hP; exact hP) hS d_X_withdraw_49 hlocks (by simp [an_withdraw, hx0, hcl0, hc26, ix_nat ha2, hc43])
      · skip
        rw [bI_0] at hc26
        refine lv_ldc2 (v := -4) hx hb hown (hts _ (al_m aw_t92)) d_X_withdraw_29 ?_
        rw [hAe] at hS
        exact mu_lret hx hb hr (by simp only [nx_withdraw, if_neg hx0, if_neg hcl0, hc26, Bool.false_eq_true, if_false]; rw [hbc] at hP; exact hP) hS d_X_withdraw_32 hlocks (by simp [an_withdraw, hx0, hcl0, hc26])
    · skip
      rw [← nI_0] at hc15
      rw [nI_eq (a := cl) (b := 0) (by omega) (by omega)] at hc15
      have hc1 : cl = 1 := by omega
      refine lv_ldc2 (v := -3) hx hb hown (hts _ (al_m aw_t167)) d_X_withdraw_18 ?_
      rw [hAe] at hS
      exact mu_lret hx hb hr (by simp only [nx_withdraw, if_neg hx0, if_pos hc1]; rw [hbc] at hP; exact hP) hS d_X_withdraw_21 hlocks (by simp [an_withdraw, hx0, hc1])
  · skip
    rw [bI_0] at hc4
    have hx0 := bx_f hc4
    refine lv_ldc2 (v := -2) hx hb hown (hts _ (al_m aw_t147)) d_X_withdraw_7 ?_
    rw [hAe] at hS
    exact mu_lret hx hb hr (by simp only [nx_withdraw, if_pos hx0]; rw [hbc] at hP; exact hP) hS d_X_withdraw_10 hlocks (by simp [an_withdraw, hx0])

set_option maxHeartbeats 4000000 in
set_option maxRecDepth 100000 in
theorem c_X_cast (l : Launch) (dC : Nat → ClassId) (dI : Nat → Nat → Nat) (h0 q0 : Nat) (cA : ClassId) (p q cx rd cl tt bc : Nat) (g : Nat → Nat) (x : Int32) (y : Int64) (hj : Jv p q cx rd g) (hrd : rd < 2 ^ 31) (hcl : cl ≤ 1) (hbc : bc = sp_cnt g 30) (hne : h0 ≠ q0) : Met l y_X_cast w_X_cast ({ frames := 3, cells := 0, slots := 0, locals := 64 }) (va_Pc [.ref h0, .int x, .long y] (fun U => va_P (dC, dI) classes [(h0, .inr (0, [.int (nI p), .int (nI q), .int (nI (p * q)), .long (lN (p * q * (p * q))), .long (lN (sp_f p q)), .long (lN (sp_inv p q)), .long (lN (sp_cex p q)), .int (nI cx), .int (nI rd), .int (nI cl), .long (lN tt), .int (nI bc), .ref q0])), (q0, .inl (cA, 30, .inr (.inl (fun j => lN (g j)))))] U.heap ∧ va_K (dC, dI) classes [(cA, .long)] U)) (qmI (an_cast p q cx rd cl g x y) (dC, dI) classes [(h0, .inr (0, [.int (nI p), .int (nI q), .int (nI (p * q)), .long (lN (p * q * (p * q))), .long (lN (sp_f p q)), .long (lN (sp_inv p q)), .long (lN (sp_cex p q)), .int (nI cx), .int (nI rd), .int (nI cl), .long (lN tt), .int (nI (sp_cnt (nx_cast p q cx rd cl g x y) 30)), .ref q0])), (q0, .inl (cA, 30, .inr (.inl (fun j => lN ((nx_cast p q cx rd cl g x y) j)))))] h0 q0) 0 0 (two h0 q0) := by
  refine Met.ofW (cc := b_X_cast) (maxL := 5) (ret := some .int) (by decide) rfl ?_
  intro pg ev s mi args below meth co s₁ B hml hv
  obtain ⟨rfl, hP, hK⟩ := hv
  have hx := B.exec
  have hb := B.bytes
  have hr := B.returns
  have hts := atoms_spec (ws := w_X_cast) B.pre
  have hown : s.vm.findClass R_X = some mi.cls := findClass_of_methodNamed B.named
  have hlocks := B.notSynchronized
  have hS : va_S (two h0 q0) s.heap s.heap [] := va_S.rf
  have hP : va_P (dC, dI) classes [(h0, .inr (0, [.int (nI p), .int (nI q), .int (nI (p * q)), .long (lN (p * q * (p * q))), .long (lN (sp_f p q)), .long (lN (sp_inv p q)), .long (lN (sp_cex p q)), .int (nI cx), .int (nI rd), .int (nI cl), .long (lN tt), .int (nI bc), .ref q0])), (q0, .inl (cA, 30, .inr (.inl (fun j => lN (g j)))))] s.heap := hP
  obtain ⟨A, hAe⟩ : ∃ A : Nat → Prop, A = two h0 q0 := ⟨_, rfl⟩
  rw [← hAe] at hS
  have hD : va_D A [(h0, .inr (0, [.int (nI p), .int (nI q), .int (nI (p * q)), .long (lN (p * q * (p * q))), .long (lN (sp_f p q)), .long (lN (sp_inv p q)), .long (lN (sp_cex p q)), .int (nI cx), .int (nI rd), .int (nI cl), .long (lN tt), .int (nI bc), .ref q0])), (q0, .inl (cA, 30, .inr (.inl (fun j => lN (g j)))))] := by rw [hAe]; exact mu_D hne
  have hl := lv_entry ([.ref h0, .int x, .long y]) (n := 5) (Nat.le_of_ble_eq_true rfl)
  rw [lg_entry_eq]
  generalize (lg_sl ([.ref h0, .int x, .long y]) ++ List.replicate (5 - (lg_sl ([.ref h0, .int x, .long y])).length) Slot.unset).toArray = ls at hl ⊢
  have hl : lv_has ls 5 [(0, .ref h0), (1, .int x), (2, .long y)] := hl
  have hjn := jv_n hj
  have hcb := fa_cnt_le g 30
  refine lv_aload_n hx hb d_X_cast_0 rfl (lv_at hl 0 rfl) ?_
  refine pu_i (va_runV (As := []) (rest := []) ⟨hx, hb, hml, hown, hts⟩ (c_X_hasBox l dC dI h0 q0 cA p q cx rd cl tt bc g (by omega)) (cwV 0 hts (al_V (k_X_hasBox) (aw_t143) (aw_t145) (aw_p9) (aw_t1)) rfl rfl rfl (by decide +kernel) ⟨Nat.le_of_ble_eq_true rfl, Nat.le_of_ble_eq_true rfl⟩) (pu_preV (q0 := 0) (ci := 0) hK hP rfl rfl) rfl rfl hl.1 rfl (lv_room (Nat.le_of_ble_eq_true rfl)) d_X_cast_1 ⟨Nat.zero_le _, Nat.zero_le _⟩) hS (fun H locs hkp hS => ?_)
  have hP := hkp _ _ _ hP
  refine lv_if_ne (tgt := 10) hx hb d_X_cast_4 (by decide) (fun hc4 => ?_) (fun hc4 => ?_)
  · skip
    rw [bI_0] at hc4
    rw [Bool.not_eq_false] at hc4
    have hx0 := bx_t hc4
    obtain ⟨hk, hx1, hx6, hr2, hrp, hgj⟩ := jv_box hj hx0
    have hbg := ma_big hk
    have hp3 := hk.1.1
    have hq3 := hk.2.1.1
    have hp9 := hk.1.2.1
    have hq9 := hk.2.1.2.1
    have hkf := ma_keyf hk
    refine lv_aload_n hx hb d_X_cast_10 rfl (lv_at hl 0 rfl) ?_
    refine va_get (D := (dC, dI)) (ci := 0) (v := .int (nI cl)) (C := R_X) (T := F_X) (N := 13) hx hb hts f_X hown hK hP 0 rfl rfl 9 (by decide) (hts _ (al_m aw_t22)) (fun _ h9 => h9) rfl d_X_cast_11 ?_
    refine lv_if_eq (tgt := 20) hx hb d_X_cast_14 (by decide) (fun hc14 => ?_) (fun hc14 => ?_)
    · skip
      rw [← nI_0] at hc14
      rw [nI_eq (a := cl) (b := 0) (by omega) (by omega)] at hc14
      have hcl0 : cl ≠ 1 := by omega
      refine lv_iload_n hx hb d_X_cast_20 rfl (lv_at hl 1 rfl) ?_
      refine pu_i (va_runS (As := [.int x]) (rest := []) ⟨hx, hb, hml, hown, hts⟩ (c_X_isVoter l x) (va_cwS 1 hts (al_S (k_X_isVoter) (aw_t160) (aw_t161) (aw_t1)) rfl rfl rfl (by decide +kernel) ⟨Nat.le_of_ble_eq_true rfl, Nat.le_of_ble_eq_true rfl⟩) pu_preS rfl rfl hl.1 rfl (lv_room (Nat.le_of_ble_eq_true rfl)) d_X_cast_21 ⟨Nat.zero_le _, Nat.zero_le _⟩) hS (fun H locs hkp hS => ?_)
      have hP := hkp _ _ _ hP
      refine lv_if_eq (tgt := 35) hx hb d_X_cast_24 (by decide) (fun hc24 => ?_) (fun hc24 => ?_)
      · skip
        rw [bI_0] at hc24
        refine lv_bipush (v := -4) hx hb d_X_cast_35 (by decide) ?_
        rw [hAe] at hS
        exact mu_iret hx hb hr (by rw [show nx_cast p q cx rd cl g x y = g from cs_bad hx0 hcl0 (by simp [hc24])]; rw [hbc] at hP; exact hP) hS d_X_cast_37 hlocks ((ct_bad hx0 hcl0 (by simp [hc24])).symm)
      · skip
        rw [bI_0] at hc24
        rw [Bool.not_eq_false] at hc24
        refine lv_aload_n hx hb d_X_cast_27 rfl (lv_at hl 0 rfl) ?_
        refine lv_lload_n hx hb d_X_cast_28 rfl (lv_at hl 2 rfl) ?_
        refine pu_i (va_runV (As := [.long y]) (rest := []) ⟨hx, hb, hml, hown, hts⟩ (c_X_isSeal l dC dI h0 q0 cA p q cx rd cl tt bc g y hk) (cwV 1 hts (al_V (k_X_isSeal) (aw_t101) (aw_t103) (aw_p5) (aw_t1)) rfl rfl rfl (by decide +kernel) ⟨Nat.le_of_ble_eq_true rfl, Nat.le_of_ble_eq_true rfl⟩) (pu_preV (q0 := 0) (ci := 0) hK hP rfl rfl) rfl rfl hl.1 rfl (lv_room (Nat.le_of_ble_eq_true rfl)) d_X_cast_29 ⟨Nat.zero_le _, Nat.zero_le _⟩) hS (fun H locs hkp hS => ?_)
        have hP := hkp _ _ _ hP
        refine lv_if_ne (tgt := 38) hx hb d_X_cast_32 (by decide) (fun hc32 => ?_) (fun hc32 => ?_)
        · skip
          rw [bI_0] at hc32
          rw [Bool.not_eq_false] at hc32
          obtain ⟨a, ha1, ha2, rfl⟩ := sp_cand_of hc24
          obtain ⟨b, hb1, hb2, hb3, hb4, hb5, rfl⟩ := sp_isS_of hc32
          have hga := (hgj a ha1).1
          have hcn := (fa_cnt g a b 30).2 ha1
          rw [if_neg (show ¬ b = 0 by omega)] at hcn
          refine lv_aload_n hx hb d_X_cast_38 rfl (lv_at hl 0 rfl) ?_
          refine va_get (D := (dC, dI)) (ci := 0) (v := .ref q0) (C := R_X) (T := F_X) (N := 13) hx hb hts f_X hown hK hP 0 rfl rfl 12 (by decide) (hts _ (al_m aw_t25)) (fun _ h9 => h9) rfl d_X_cast_39 ?_
          refine lv_iload_n hx hb d_X_cast_42 rfl (lv_at hl 1 rfl) ?_
          refine va_lald hx hb hK hP 1 0 rfl rfl (vp_in_nI (by omega) (by decide)) d_X_cast_43 ?_
          refine wk_l (y := lN (g a)) (by rw [nI_clamp (by omega)]) ?_
          refine lv_lconst (v := lN 0) hx hb d_X_cast_44 rfl ?_
          refine W.lcmp hx hb d_X_cast_45 ?_
          refine lv_if_ne (tgt := 53) hx hb d_X_cast_46 (by decide) (fun hc46 => ?_) (fun hc46 => ?_)
          · skip
            rw [lg_cmp_eq] at hc46
            rw [pk_lEQ (a := g a) (b := 0) (by omega) (by omega)] at hc46
            rw [if_neg hc46] at hcn
            refine lv_iconst (v := nI 0) hx hb d_X_cast_53 (by decide) ?_
            refine lv_istore (lv' := [(4, .int (nI 0)), (0, .ref h0), (1, .int (nI a)), (2, .long (lN b))]) hx hb d_X_cast_54 hl (by decide) rfl (fun ls hl => ?_)
            refine lv_iload hx hb d_X_cast_56 (lv_at hl 0 rfl) ?_
            refine lv_if_eq (tgt := 77) hx hb d_X_cast_58 (by decide) (fun hc58 => ?_) (fun hc58 => ?_)
            · skip
              rw [← nI_0] at hc58
              rw [nI_eq (a := 0) (b := 0) (by omega) (by omega)] at hc58
              refine lv_aload_n hx hb d_X_cast_77 rfl (lv_at hl 1 rfl) ?_
              refine va_get (D := (dC, dI)) (ci := 0) (v := .ref q0) (C := R_X) (T := F_X) (N := 13) hx hb hts f_X hown hK hP 0 rfl rfl 12 (by decide) (hts _ (al_m aw_t25)) (fun _ h9 => h9) rfl d_X_cast_78 ?_
              refine lv_iload_n hx hb d_X_cast_81 rfl (lv_at hl 2 rfl) ?_
              refine lv_lload_n hx hb d_X_cast_82 rfl (lv_at hl 3 rfl) ?_
              refine va_last hx hb hK hP hD hS 1 0 rfl rfl (vp_in_nI (by omega) (by decide)) d_X_cast_83 (fun H locs hP hD hS => ?_)
              rw [nI_clamp (by omega), gu_eq] at hP hD
              have hP : va_P (dC, dI) classes [(h0, .inr (0, [.int (nI p), .int (nI q), .int (nI (p * q)), .long (lN (p * q * (p * q))), .long (lN (sp_f p q)), .long (lN (sp_inv p q)), .long (lN (sp_cex p q)), .int (nI cx), .int (nI rd), .int (nI cl), .long (lN tt), .int (nI bc), .ref q0])), (q0, .inl (cA, 30, .inr (.inl (fun j => lN ((gu g a b) j)))))] H := hP
              have hD : va_D A [(h0, .inr (0, [.int (nI p), .int (nI q), .int (nI (p * q)), .long (lN (p * q * (p * q))), .long (lN (sp_f p q)), .long (lN (sp_inv p q)), .long (lN (sp_cex p q)), .int (nI cx), .int (nI rd), .int (nI cl), .long (lN tt), .int (nI bc), .ref q0])), (q0, .inl (cA, 30, .inr (.inl (fun j => lN ((gu g a b) j)))))] := hD
              refine lv_iload hx hb d_X_cast_84 (lv_at hl 0 rfl) ?_
              refine lv_if_ne (tgt := 91) hx hb d_X_cast_86 (by decide) (fun hc86 => ?_) (fun hc86 => ?_)
              · skip
                rw [← nI_0] at hc86
                rw [nI_eq (a := 0) (b := 0) (by omega) (by omega)] at hc86
                omega
              · skip
                rw [← nI_0] at hc86
                rw [nI_eq (a := 0) (b := 0) (by omega) (by omega)] at hc86
                refine lv_iconst (v := nI 0) hx hb d_X_cast_89 (by decide) ?_
                rw [hAe] at hS
                exact mu_iret hx hb hr (by rw [cs_old hx0 hcl0 hc24 hc32 ha2 hb3 hc46]; rw [show sp_cnt (gu g a b) 30 = bc from by omega]; exact hP) hS d_X_cast_90 hlocks ((ct_old hx0 hcl0 hc24 hc32 ha2 hc46).symm)
            · skip
              rw [← nI_0] at hc58
              rw [nI_eq (a := 0) (b := 0) (by omega) (by omega)] at hc58
              omega
          · skip
            rw [lg_cmp_eq] at hc46
            rw [pk_lEQ (a := g a) (b := 0) (by omega) (by omega)] at hc46
            rw [if_pos hc46] at hcn
            refine lv_iconst (v := nI 1) hx hb d_X_cast_49 (by decide) ?_
            refine lv_goto (tgt := 54) hx hb d_X_cast_50 (by decide) ?_
            refine lv_istore (lv' := [(4, .int (nI 1)), (0, .ref h0), (1, .int (nI a)), (2, .long (lN b))]) hx hb d_X_cast_54 hl (by decide) rfl (fun ls hl => ?_)
            refine lv_iload hx hb d_X_cast_56 (lv_at hl 0 rfl) ?_
            refine lv_if_eq (tgt := 77) hx hb d_X_cast_58 (by decide) (fun hc58 => ?_) (fun hc58 => ?_)
            · skip
              rw [← nI_0] at hc58
              rw [nI_eq (a := 1) (b := 0) (by omega) (by omega)] at hc58
              omega
            · skip
              rw [← nI_0] at hc58
              rw [nI_eq (a := 1) (b := 0) (by omega) (by omega)] at hc58
              refine lv_aload_n hx hb d_X_cast_61 rfl (lv_at hl 1 rfl) ?_
              refine va_get (D := (dC, dI)) (ci := 0) (v := .int (nI bc)) (C := R_X) (T := F_X) (N := 13) hx hb hts f_X hown hK hP 0 rfl rfl 11 (by decide) (hts _ (al_m aw_t24)) (fun _ h9 => h9) rfl d_X_cast_62 ?_
              refine lv_aload_n hx hb d_X_cast_65 rfl (lv_at hl 1 rfl) ?_
              refine va_get (D := (dC, dI)) (ci := 0) (v := .int (nI rd)) (C := R_X) (T := F_X) (N := 13) hx hb hts f_X hown hK hP 0 rfl rfl 8 (by decide) (hts _ (al_m aw_t21)) (fun _ h9 => h9) rfl d_X_cast_66 ?_
              refine lv_iconst (v := nI 1) hx hb d_X_cast_69 (by decide) ?_
              refine lv_isub hx hb d_X_cast_70 ?_
              refine wk_i (y := nI (rd - 1)) (pk_sub (by omega)) ?_
              refine lv_icmp_lt (tgt := 77) hx hb d_X_cast_71 (by decide) (fun hc71 => ?_) (fun hc71 => ?_)
              · skip
                rw [nI_ltI (a := bc) (b := rd - 1) (by omega) (by omega)] at hc71
                refine lv_aload_n hx hb d_X_cast_77 rfl (lv_at hl 1 rfl) ?_
                refine va_get (D := (dC, dI)) (ci := 0) (v := .ref q0) (C := R_X) (T := F_X) (N := 13) hx hb hts f_X hown hK hP 0 rfl rfl 12 (by decide) (hts _ (al_m aw_t25)) (fun _ h9 => h9) rfl d_X_cast_78 ?_
                refine lv_iload_n hx hb d_X_cast_81 rfl (lv_at hl 2 rfl) ?_
                refine lv_lload_n hx hb d_X_cast_82 rfl (lv_at hl 3 rfl) ?_
                refine va_last hx hb hK hP hD hS 1 0 rfl rfl (vp_in_nI (by omega) (by decide)) d_X_cast_83 (fun H locs hP hD hS => ?_)
                rw [nI_clamp (by omega), gu_eq] at hP hD
                have hP : va_P (dC, dI) classes [(h0, .inr (0, [.int (nI p), .int (nI q), .int (nI (p * q)), .long (lN (p * q * (p * q))), .long (lN (sp_f p q)), .long (lN (sp_inv p q)), .long (lN (sp_cex p q)), .int (nI cx), .int (nI rd), .int (nI cl), .long (lN tt), .int (nI bc), .ref q0])), (q0, .inl (cA, 30, .inr (.inl (fun j => lN ((gu g a b) j)))))] H := hP
                have hD : va_D A [(h0, .inr (0, [.int (nI p), .int (nI q), .int (nI (p * q)), .long (lN (p * q * (p * q))), .long (lN (sp_f p q)), .long (lN (sp_inv p q)), .long (lN (sp_cex p q)), .int (nI cx), .int (nI rd), .int (nI cl), .long (lN tt), .int (nI bc), .ref q0])), (q0, .inl (cA, 30, .inr (.inl (fun j => lN ((gu g a b) j)))))] := hD
                refine lv_iload hx hb d_X_cast_84 (lv_at hl 0 rfl) ?_
                refine lv_if_ne (tgt := 91) hx hb d_X_cast_86 (by decide) (fun hc86 => ?_) (fun hc86 => ?_)
                · skip
                  rw [← nI_0] at hc86
                  rw [nI_eq (a := 1) (b := 0) (by omega) (by omega)] at hc86
                  refine lv_aload_n hx hb d_X_cast_91 rfl (lv_at hl 1 rfl) ?_
                  refine lv_dup hx hb d_X_cast_92 rfl ?_
                  refine va_get (D := (dC, dI)) (ci := 0) (v := .int (nI bc)) (C := R_X) (T := F_X) (N := 13) hx hb hts f_X hown hK hP 0 rfl rfl 11 (by decide) (hts _ (al_m aw_t24)) (fun _ h9 => h9) rfl d_X_cast_93 ?_
                  refine lv_iconst (v := nI 1) hx hb d_X_cast_96 (by decide) ?_
                  refine lv_iadd hx hb d_X_cast_97 ?_
                  refine wk_i (y := nI (bc + 1)) (nI_add bc 1) ?_
                  refine va_put (D := (dC, dI)) (ci := 0) (v := .int (nI (bc + 1))) (ty := .int) (C := R_X) (T := F_X) (N := 13) hx hb hts f_X t_X t_X_ok n_X hown hK hP hD hS 0 rfl rfl 11 (by decide) (hts _ (al_m aw_t24)) (fun _ h9 => h9) rfl (by decide +kernel) rfl rfl (Nat.le_of_ble_eq_true rfl) d_X_cast_98 (fun H locs hP hD hS => ?_)
                  have hP : va_P (dC, dI) classes [(h0, .inr (0, [.int (nI p), .int (nI q), .int (nI (p * q)), .long (lN (p * q * (p * q))), .long (lN (sp_f p q)), .long (lN (sp_inv p q)), .long (lN (sp_cex p q)), .int (nI cx), .int (nI rd), .int (nI cl), .long (lN tt), .int (nI (bc + 1)), .ref q0])), (q0, .inl (cA, 30, .inr (.inl (fun j => lN ((gu g a b) j)))))] H := hP
                  have hD : va_D A [(h0, .inr (0, [.int (nI p), .int (nI q), .int (nI (p * q)), .long (lN (p * q * (p * q))), .long (lN (sp_f p q)), .long (lN (sp_inv p q)), .long (lN (sp_cex p q)), .int (nI cx), .int (nI rd), .int (nI cl), .long (lN tt), .int (nI (bc + 1)), .ref q0])), (q0, .inl (cA, 30, .inr (.inl (fun j => lN ((gu g a b) j)))))] := hD
                  refine lv_iconst (v := nI 1) hx hb d_X_cast_101 (by decide) ?_
                  rw [hAe] at hS
                  exact mu_iret hx hb hr (by rw [cs_new hx0 hcl0 hc24 hc32 ha2 hb3 hc46 (by omega)]; rw [show sp_cnt (gu g a b) 30 = bc + 1 from by omega]; exact hP) hS d_X_cast_102 hlocks ((ct_new hx0 hcl0 hc24 hc32 ha2 hc46 (by omega)).symm)
                · skip
                  rw [← nI_0] at hc86
                  rw [nI_eq (a := 1) (b := 0) (by omega) (by omega)] at hc86
                  omega
              · skip
                rw [nI_ltI (a := bc) (b := rd - 1) (by omega) (by omega)] at hc71
                refine lv_bipush (v := -5) hx hb d_X_cast_74 (by decide) ?_
                rw [hAe] at hS
                exact mu_iret hx hb hr (by rw [cs_full hx0 hcl0 hc24 hc32 ha2 hc46 (by omega)]; rw [hbc] at hP; exact hP) hS d_X_cast_76 hlocks ((ct_full hx0 hcl0 hc24 hc32 ha2 hc46 (by omega)).symm)
        · skip
          rw [bI_0] at hc32
          refine lv_bipush (v := -4) hx hb d_X_cast_35 (by decide) ?_
          rw [hAe] at hS
          exact mu_iret hx hb hr (by rw [show nx_cast p q cx rd cl g x y = g from cs_bad hx0 hcl0 (by simp [hc24, hc32])]; rw [hbc] at hP; exact hP) hS d_X_cast_37 hlocks ((ct_bad hx0 hcl0 (by simp [hc24, hc32])).symm)
    · skip
      rw [← nI_0] at hc14
      rw [nI_eq (a := cl) (b := 0) (by omega) (by omega)] at hc14
      have hc1 : cl = 1 := by omega
      refine lv_bipush (v := -3) hx hb d_X_cast_17 (by decide) ?_
      rw [hAe] at hS
      exact mu_iret hx hb hr (by simp only [nx_cast, if_neg hx0, if_pos hc1]; rw [hbc] at hP; exact hP) hS d_X_cast_19 hlocks (by simp [an_cast, hx0, hc1])
  · skip
    rw [bI_0] at hc4
    have hx0 := bx_f hc4
    refine lv_bipush (v := -2) hx hb d_X_cast_7 (by decide) ?_
    rw [hAe] at hS
    exact mu_iret hx hb hr (by simp only [nx_cast, if_pos hx0]; rw [hbc] at hP; exact hP) hS d_X_cast_9 hlocks (by simp [an_cast, hx0])
end
section
/-! arrays that are cleared, worlds of one array -/
def fz (g : Nat → Nat) (i : Nat) : Nat → Nat := fun j => if j < i then 0 else g j
theorem fz_0 {g : Nat → Nat} : fz g 0 = g := by
  funext j
  unfold fz
  rw [if_neg (by omega)]
theorem fz_s {g : Nat → Nat} {i : Nat} : gu (fz g i) i 0 = fz g (i + 1) := by
  funext j
  unfold gu fz
  by_cases h : j = i
  · rw [if_pos h, if_pos (by omega)]
  · rw [if_neg h]
    by_cases h2 : j < i
    · rw [if_pos h2, if_pos (by omega)]
    · rw [if_neg h2, if_neg (by omega)]
def selg (b : Bool) (u v : Nat → Nat) : Nat → Nat := if b = true then u else v
theorem selg_t {u v : Nat → Nat} : selg true u v = u := rfl
theorem selg_f {u v : Nat → Nat} : selg false u v = v := rfl
theorem mu_D1 {q : Nat} {e : va_E} : va_D (two q q) [(q, e)] := by
  refine ⟨fun i j p r hi hj hp => ?_, fun k r hk => ?_⟩
  · match i, j with
    | 0, 0 => rfl
    | i + 1, _ => cases hi
    | 0, j + 1 => cases hj
  · match k with
    | 0 => cases hk; exact Or.inl rfl
    | k + 1 => cases hk
theorem mu_o1 {h q : Nat} {e : va_E} (hne : h ≠ q) : ∀ (k : Nat) (r : Nat × va_E), [(h, e)][k]? = some r → r.1 ≠ q ∧ r.1 ≠ q := by
  intro k r hk
  match k with
  | 0 => cases hk; exact ⟨hne, hne⟩
  | k + 1 => cases hk
theorem mu_preS {s : State} {H : Heap} {As : List Value} {D : va_G} {cl : List vw_C} {tys : List (ClassId × FieldType)} {ws : va_W} (hK : va_K D cl tys s) (hP : va_P D cl ws H) : PreS s H (va_Pc As (fun U => va_P D cl ws U.heap ∧ va_K D cl tys U)) As :=
  ⟨fun a U g mk q => ⟨q.1, q.2.1, va_K.moved (u := U) (U := U.calling g mk a) (Vm.Alike.refl U.vm) q.2.2⟩, fun U hU hW => ⟨rfl, by rw [hU]; exact hP, va_K.moved hW.alike hK⟩⟩
/-! the room of a box, as the reference reckons it -/
theorem ro_1 {r n kb i : Nat} (hr : n < r) (hkb : 2 ≤ kb) (h4 : n < r → n < kb ^ i) : n < kb ^ (i + 1) :=
  Nat.lt_of_lt_of_le (h4 hr) (Nat.pow_le_pow_right (by omega) (by omega))
theorem ro_b {r n kb : Nat} (hr : r ≤ n) (hn : n ≤ 52441) (hkb : kb < 2 ^ 31) : r * kb < 2 ^ 48 := by
  have : r * kb ≤ 52441 * 2147483648 := Nat.mul_le_mul (by omega) (by omega)
  omega
theorem ro_x {r n kb i ka : Nat} (e : i = ka) (h3 : r ≤ n → r = kb ^ i) (h4 : n < r → n < kb ^ i) : r ≤ n ↔ kb ^ ka ≤ n := by
  subst e
  constructor
  · intro h
    rw [← h3 h]
    exact h
  · intro h
    by_cases c : r ≤ n
    · exact c
    · exact absurd (h4 (by omega)) (by omega)
theorem sp_box_of {p q : Nat} {x y : Int32} (h : sp_box p q x y = true) : ∃ a b : Nat, a < 2 ^ 31 ∧ b < 2 ^ 31 ∧ (1 ≤ a ∧ a ≤ 6) ∧ (2 ≤ b ∧ b ^ a ≤ p * q) ∧ x = nI a ∧ y = nI b := by
  simp only [sp_box, Bool.and_eq_true, decide_eq_true_eq] at h
  obtain ⟨a, ha, rfl⟩ := ix_of (x := x) (by omega)
  obtain ⟨b, hb, rfl⟩ := ix_of (x := y) (by omega)
  rw [ix_nat ha, ix_nat hb, nI_toInt ha, nI_toInt hb] at h
  exact ⟨a, b, ha, hb, ⟨by omega, by omega⟩, ⟨by omega, h.2.2.2⟩, rfl, rfl⟩
end
section
section
variable {pg : Program} {l : Launch} {ev : Env} {R : Room} {s : State} {mi : MethodId} {args : Array Value} {below : List Frame} {meth : Method} {co : Code} {H : Heap} {locs : List Loc} {cells slots : Nat} {Q : State → Prop}
set_option maxHeartbeats 4000000 in
set_option maxRecDepth 100000 in
theorem lp_A_fill_6 {q0 : Nat} {cA : ClassId} {g : Nat → Nat} {A0 : Nat → Prop} {H0 : Heap} (hx : pg.tables.exec = Jvm.exec) (hb : co.code = b_A_fill) {w0 : Cond} {dC : Nat → ClassId} {dI : Nat → Nat → Nat} (hts : ∀ w ∈ w0 :: al_w, w.before args s = true) (hown : s.vm.findClass R_A = some mi.cls) (hK : va_K (dC, dI) classes [(cA, .long)] s)  (k22 : ∀ (i : Nat) (H : Heap) (locs : List Loc) (ls : Array Slot), lv_has ls 5 [(3, .int (nI i)), (0, .ref q0), (1, .long (lN 0)), (4, .int (nI 30))] → va_P (dC, dI) classes [(q0, .inl (cA, 30, .inr (.inl (fun j => lN ((fz g i) j)))))] H → va_D A0 [(q0, .inl (cA, 30, .inr (.inl (fun j => lN ((fz g i) j)))))] → va_S A0 H0 H locs → (i = 30) → W pg l ev R s mi args below meth co H locs cells slots Q (F0 mi 22 ls [])) : ∀ (mz : Nat) (i : Nat) (H : Heap) (locs : List Loc) (ls : Array Slot), lv_has ls 5 [(3, .int (nI i)), (0, .ref q0), (1, .long (lN 0)), (4, .int (nI 30))] → va_P (dC, dI) classes [(q0, .inl (cA, 30, .inr (.inl (fun j => lN ((fz g i) j)))))] H → va_D A0 [(q0, .inl (cA, 30, .inr (.inl (fun j => lN ((fz g i) j)))))] → va_S A0 H0 H locs → (i ≤ 30) → 30 - i = mz → W pg l ev R s mi args below meth co H locs cells slots Q (F0 mi 6 ls []) := by
  intro mz
  induction mz using Nat.strongRecOn with
  | ind mz ih =>
    intro i H locs ls hl hP hD hS h1 hk
    subst hk
    refine lv_iload_n hx hb d_A_fill_6 rfl (lv_at hl 0 rfl) ?_
    refine lv_iload hx hb d_A_fill_7 (lv_at hl 3 rfl) ?_
    refine lv_icmp_ge (tgt := 22) hx hb d_A_fill_9 (by decide) (fun hc9 => ?_) (fun hc9 => ?_)
    · skip
      rw [nI_leI (a := 30) (b := i) (by omega) (by omega)] at hc9
      exact k22 i _ _ ls (lv_sub hl [0, 1, 2, 3] rfl) hP hD hS (by omega)
    · skip
      rw [nI_leI (a := 30) (b := i) (by omega) (by omega)] at hc9
      refine lv_aload_n hx hb d_A_fill_12 rfl (lv_at hl 1 rfl) ?_
      refine lv_iload_n hx hb d_A_fill_13 rfl (lv_at hl 0 rfl) ?_
      refine lv_lload_n hx hb d_A_fill_14 rfl (lv_at hl 2 rfl) ?_
      refine va_last hx hb hK hP hD hS 0 0 rfl rfl (vp_in_nI (by omega) (by decide)) d_A_fill_15 (fun H locs hP hD hS => ?_)
      rw [nI_clamp (by omega), gu_eq] at hP hD
      rw [fz_s] at hP hD
      have hP : va_P (dC, dI) classes [(q0, .inl (cA, 30, .inr (.inl (fun j => lN ((fz g (i + 1)) j)))))] H := hP
      have hD : va_D A0 [(q0, .inl (cA, 30, .inr (.inl (fun j => lN ((fz g (i + 1)) j)))))] := hD
      refine lv_iinc (k := 0) (v := nI (i + 1)) (lv' := [(3, .int (nI (i + 1))), (0, .ref q0), (1, .long (lN 0)), (4, .int (nI 30))]) hx hb d_A_fill_16 hl rfl (ii_1 i) (by decide) rfl (fun ls hl => ?_)
      refine lv_goto (tgt := 6) hx hb d_A_fill_19 (by decide) ?_
      exact ih _ (by omega) (i + 1) _ _ ls (lv_sub hl [0, 1, 2, 3] rfl) hP hD hS (by omega) rfl
end

set_option maxHeartbeats 4000000 in
set_option maxRecDepth 100000 in
theorem c_A_fill (l : Launch) (dC : Nat → ClassId) (dI : Nat → Nat → Nat) (q0 : Nat) (cA : ClassId) (g : Nat → Nat)  : Met l y_A_fill w_A_fill ({ frames := 0, cells := 0, slots := 0, locals := 0 }) (va_Pc [.ref q0, .long (lN 0)] (fun U => va_P (dC, dI) classes [(q0, .inl (cA, 30, .inr (.inl (fun j => lN (g j)))))] U.heap ∧ va_K (dC, dI) classes [(cA, .long)] U)) (qmV (dC, dI) classes [(q0, .inl (cA, 30, .inr (.inl (fun j => lN ((fz g 30) j)))))] q0 q0) 0 0 (two q0 q0) := by
  refine va_MetF (cc := b_A_fill) (maxL := 5) (ret := none) (by decide +kernel) rfl ?_
  intro pg ev s mi args below meth co s₁ B hml hv
  obtain ⟨rfl, hP, hK⟩ := hv
  have hx := B.exec
  have hb := B.bytes
  have hr := B.returns
  have hts := atoms_spec (ws := w_A_fill) B.pre
  have hown : s.vm.findClass R_A = some mi.cls := findClass_of_methodNamed B.named
  have hlocks := B.notSynchronized
  have hS : va_S (two q0 q0) s.heap s.heap [] := va_S.rf
  have hP : va_P (dC, dI) classes [(q0, .inl (cA, 30, .inr (.inl (fun j => lN (g j)))))] s.heap := hP
  obtain ⟨A, hAe⟩ : ∃ A : Nat → Prop, A = two q0 q0 := ⟨_, rfl⟩
  rw [← hAe] at hS
  have hD : va_D A [(q0, .inl (cA, 30, .inr (.inl (fun j => lN (g j)))))] := by rw [hAe]; exact mu_D1
  have hl := lv_entry ([.ref q0, .long (lN 0)]) (n := 5) (Nat.le_of_ble_eq_true rfl)
  rw [lg_entry_eq]
  generalize (lg_sl ([.ref q0, .long (lN 0)]) ++ List.replicate (5 - (lg_sl ([.ref q0, .long (lN 0)])).length) Slot.unset).toArray = ls at hl ⊢
  have hl : lv_has ls 5 [(0, .ref q0), (1, .long (lN 0))] := hl
  refine lv_iconst (v := nI 0) hx hb d_A_fill_0 (by decide) ?_
  refine lv_istore_n (lv' := [(3, .int (nI 0)), (0, .ref q0), (1, .long (lN 0))]) hx hb d_A_fill_1 rfl hl (by decide) rfl (fun ls hl => ?_)
  refine lv_aload_n hx hb d_A_fill_2 rfl (lv_at hl 1 rfl) ?_
  refine va_alen (v := nI 30) hx hb hK hP 0 0 rfl rfl rfl d_A_fill_3 ?_
  refine lv_istore (lv' := [(4, .int (nI 30)), (3, .int (nI 0)), (0, .ref q0), (1, .long (lN 0))]) hx hb d_A_fill_4 hl (by decide) rfl (fun ls hl => ?_)
  rw [← fz_0 (g := g)] at hP hD
  refine lp_A_fill_6 hx hb hts hown hK  (fun i H locs ls hl hP hD hS hq => ?_) _ 0 _ _ ls (lv_sub hl [1, 2, 3, 0] rfl) hP hD hS (by omega) rfl
  rw [hq] at hP
  rw [hAe] at hS
  exact mu_vret hx hb hr hP hS d_A_fill_22 hlocks

set_option maxHeartbeats 4000000 in
set_option maxRecDepth 100000 in
theorem c_X_open (l : Launch) (dC : Nat → ClassId) (dI : Nat → Nat → Nat) (h0 q0 : Nat) (cA : ClassId) (p q cx rd cl tt bc : Nat) (g : Nat → Nat) (x y : Int32) (hj : Jv p q cx rd g) (hne : h0 ≠ q0) : Met l y_X_open w_X_open ({ frames := 1, cells := 0, slots := 0, locals := 25 }) (va_Pc [.ref h0, .int x, .int y] (fun U => va_P (dC, dI) classes [(h0, .inr (0, [.int (nI p), .int (nI q), .int (nI (p * q)), .long (lN (p * q * (p * q))), .long (lN (sp_f p q)), .long (lN (sp_inv p q)), .long (lN (sp_cex p q)), .int (nI cx), .int (nI rd), .int (nI cl), .long (lN tt), .int (nI bc), .ref q0])), (q0, .inl (cA, 30, .inr (.inl (fun j => lN (g j)))))] U.heap ∧ va_K (dC, dI) classes [(cA, .long)] U)) (qmI (bI (sp_open p q x y)) (dC, dI) classes [(h0, .inr (0, [.int (nI p), .int (nI q), .int (nI (p * q)), .long (lN (p * q * (p * q))), .long (lN (sp_f p q)), .long (lN (sp_inv p q)), .long (lN (sp_cex p q)), .int (nI (sel (sp_open p q x y) x.toInt.toNat cx)), .int (nI (sel (sp_open p q x y) y.toInt.toNat rd)), .int (nI (sel (sp_open p q x y) 0 cl)), .long (lN tt), .int (nI (sel (sp_open p q x y) 0 bc)), .ref q0])), (q0, .inl (cA, 30, .inr (.inl (fun j => lN ((selg (sp_open p q x y) (fz g 30) g) j)))))] h0 q0) 0 0 (two h0 q0) := by
  refine Met.ofW (cc := b_X_open) (maxL := 3) (ret := some .boolean) (by decide) rfl ?_
  intro pg ev s mi args below meth co s₁ B hml hv
  obtain ⟨rfl, hP, hK⟩ := hv
  have hx := B.exec
  have hb := B.bytes
  have hr := B.returns
  have hts := atoms_spec (ws := w_X_open) B.pre
  have hown : s.vm.findClass R_X = some mi.cls := findClass_of_methodNamed B.named
  have hlocks := B.notSynchronized
  have hS : va_S (two h0 q0) s.heap s.heap [] := va_S.rf
  have hP : va_P (dC, dI) classes [(h0, .inr (0, [.int (nI p), .int (nI q), .int (nI (p * q)), .long (lN (p * q * (p * q))), .long (lN (sp_f p q)), .long (lN (sp_inv p q)), .long (lN (sp_cex p q)), .int (nI cx), .int (nI rd), .int (nI cl), .long (lN tt), .int (nI bc), .ref q0])), (q0, .inl (cA, 30, .inr (.inl (fun j => lN (g j)))))] s.heap := hP
  obtain ⟨A, hAe⟩ : ∃ A : Nat → Prop, A = two h0 q0 := ⟨_, rfl⟩
  rw [← hAe] at hS
  have hD : va_D A [(h0, .inr (0, [.int (nI p), .int (nI q), .int (nI (p * q)), .long (lN (p * q * (p * q))), .long (lN (sp_f p q)), .long (lN (sp_inv p q)), .long (lN (sp_cex p q)), .int (nI cx), .int (nI rd), .int (nI cl), .long (lN tt), .int (nI bc), .ref q0])), (q0, .inl (cA, 30, .inr (.inl (fun j => lN (g j)))))] := by rw [hAe]; exact mu_D hne
  have hl := lv_entry ([.ref h0, .int x, .int y]) (n := 3) (Nat.le_of_ble_eq_true rfl)
  rw [lg_entry_eq]
  generalize (lg_sl ([.ref h0, .int x, .int y]) ++ List.replicate (3 - (lg_sl ([.ref h0, .int x, .int y])).length) Slot.unset).toArray = ls at hl ⊢
  have hl : lv_has ls 3 [(0, .ref h0), (1, .int x), (2, .int y)] := hl
  have hjn := jv_n hj
  refine lv_aload_n hx hb d_X_open_0 rfl (lv_at hl 0 rfl) ?_
  refine pu_i (va_runV (As := []) (rest := []) ⟨hx, hb, hml, hown, hts⟩ (c_X_hasKey l dC dI h0 q0 cA p q cx rd cl tt bc g (by omega)) (cwV 0 hts (al_V (k_X_hasKey) (aw_t75) (aw_t77) (aw_p0) (aw_t1)) rfl rfl rfl (by decide +kernel) ⟨Nat.le_of_ble_eq_true rfl, Nat.le_of_ble_eq_true rfl⟩) (pu_preV (q0 := 0) (ci := 0) hK hP rfl rfl) rfl rfl hl.1 rfl (lv_room (Nat.le_of_ble_eq_true rfl)) d_X_open_1 ⟨Nat.zero_le _, Nat.zero_le _⟩) hS (fun H locs hkp hS => ?_)
  have hP := hkp _ _ _ hP
  refine lv_if_eq (tgt := 16) hx hb d_X_open_4 (by decide) (fun hc4 => ?_) (fun hc4 => ?_)
  · skip
    rw [bI_0] at hc4
    have hp0 := jv_f hj hc4
    have ho : sp_open p q x y = false := by simp [sp_open, hp0]
    refine lv_iconst (v := nI 0) hx hb d_X_open_16 (by decide) ?_
    rw [hAe] at hS
    exact mu_zret hx hb hr (by decide) (by simp only [ho, sel_f, selg_f]; exact hP) hS d_X_open_17 hlocks (by rw [ho]; decide)
  · skip
    rw [bI_0] at hc4
    rw [Bool.not_eq_false] at hc4
    have hp0 := jv_t hj hc4
    have hk := jv_key hj hp0
    have hbg := ma_big hk
    have hp3 := hk.1.1
    have hq3 := hk.2.1.1
    have hp9 := hk.1.2.1
    have hq9 := hk.2.1.2.1
    have hkf := ma_keyf hk
    refine lv_aload_n hx hb d_X_open_7 rfl (lv_at hl 0 rfl) ?_
    refine lv_iload_n hx hb d_X_open_8 rfl (lv_at hl 1 rfl) ?_
    refine lv_iload_n hx hb d_X_open_9 rfl (lv_at hl 2 rfl) ?_
    refine pu_i (va_runV (As := [.int x, .int y]) (rest := []) ⟨hx, hb, hml, hown, hts⟩ (c_X_isBoxSize l dC dI h0 q0 cA p q cx rd cl tt bc g x y (by omega) (by omega)) (cwV 2 hts (al_V (k_X_isBoxSize) (aw_t132) (aw_t134) (aw_p8) (aw_t1)) rfl rfl rfl (by decide +kernel) ⟨Nat.le_of_ble_eq_true rfl, Nat.le_of_ble_eq_true rfl⟩) (pu_preV (q0 := 0) (ci := 0) hK hP rfl rfl) rfl rfl hl.1 rfl (lv_room (Nat.le_of_ble_eq_true rfl)) d_X_open_10 ⟨Nat.zero_le _, Nat.zero_le _⟩) hS (fun H locs hkp hS => ?_)
    have hP := hkp _ _ _ hP
    refine lv_if_ne (tgt := 18) hx hb d_X_open_13 (by decide) (fun hc13 => ?_) (fun hc13 => ?_)
    · skip
      rw [bI_0] at hc13
      rw [Bool.not_eq_false] at hc13
      have ho : sp_open p q x y = true := by simp [sp_open, hp0, hc13]
      obtain ⟨a, b, ha2, hb2, ha6, hbb, rfl, rfl⟩ := sp_box_of hc13
      refine lv_aload_n hx hb d_X_open_18 rfl (lv_at hl 0 rfl) ?_
      refine lv_iload_n hx hb d_X_open_19 rfl (lv_at hl 1 rfl) ?_
      refine va_put (D := (dC, dI)) (ci := 0) (v := .int (nI a)) (ty := .int) (C := R_X) (T := F_X) (N := 13) hx hb hts f_X t_X t_X_ok n_X hown hK hP hD hS 0 rfl rfl 7 (by decide) (hts _ (al_m aw_t20)) (fun _ h9 => h9) rfl (by decide +kernel) rfl rfl (Nat.le_of_ble_eq_true rfl) d_X_open_20 (fun H locs hP hD hS => ?_)
      have hP : va_P (dC, dI) classes [(h0, .inr (0, [.int (nI p), .int (nI q), .int (nI (p * q)), .long (lN (p * q * (p * q))), .long (lN (sp_f p q)), .long (lN (sp_inv p q)), .long (lN (sp_cex p q)), .int (nI a), .int (nI rd), .int (nI cl), .long (lN tt), .int (nI bc), .ref q0])), (q0, .inl (cA, 30, .inr (.inl (fun j => lN (g j)))))] H := hP
      have hD : va_D A [(h0, .inr (0, [.int (nI p), .int (nI q), .int (nI (p * q)), .long (lN (p * q * (p * q))), .long (lN (sp_f p q)), .long (lN (sp_inv p q)), .long (lN (sp_cex p q)), .int (nI a), .int (nI rd), .int (nI cl), .long (lN tt), .int (nI bc), .ref q0])), (q0, .inl (cA, 30, .inr (.inl (fun j => lN (g j)))))] := hD
      refine lv_aload_n hx hb d_X_open_23 rfl (lv_at hl 0 rfl) ?_
      refine lv_iload_n hx hb d_X_open_24 rfl (lv_at hl 2 rfl) ?_
      refine va_put (D := (dC, dI)) (ci := 0) (v := .int (nI b)) (ty := .int) (C := R_X) (T := F_X) (N := 13) hx hb hts f_X t_X t_X_ok n_X hown hK hP hD hS 0 rfl rfl 8 (by decide) (hts _ (al_m aw_t21)) (fun _ h9 => h9) rfl (by decide +kernel) rfl rfl (Nat.le_of_ble_eq_true rfl) d_X_open_25 (fun H locs hP hD hS => ?_)
      have hP : va_P (dC, dI) classes [(h0, .inr (0, [.int (nI p), .int (nI q), .int (nI (p * q)), .long (lN (p * q * (p * q))), .long (lN (sp_f p q)), .long (lN (sp_inv p q)), .long (lN (sp_cex p q)), .int (nI a), .int (nI b), .int (nI cl), .long (lN tt), .int (nI bc), .ref q0])), (q0, .inl (cA, 30, .inr (.inl (fun j => lN (g j)))))] H := hP
      have hD : va_D A [(h0, .inr (0, [.int (nI p), .int (nI q), .int (nI (p * q)), .long (lN (p * q * (p * q))), .long (lN (sp_f p q)), .long (lN (sp_inv p q)), .long (lN (sp_cex p q)), .int (nI a), .int (nI b), .int (nI cl), .long (lN tt), .int (nI bc), .ref q0])), (q0, .inl (cA, 30, .inr (.inl (fun j => lN (g j)))))] := hD
      refine lv_aload_n hx hb d_X_open_28 rfl (lv_at hl 0 rfl) ?_
      refine lv_iconst (v := nI 0) hx hb d_X_open_29 (by decide) ?_
      refine va_put (D := (dC, dI)) (ci := 0) (v := .int (nI 0)) (ty := .boolean) (C := R_X) (T := F_X) (N := 13) hx hb hts f_X t_X t_X_ok n_X hown hK hP hD hS 0 rfl rfl 9 (by decide) (hts _ (al_m aw_t22)) (fun _ h9 => h9) rfl (by decide +kernel) rfl rfl (Nat.le_of_ble_eq_true rfl) d_X_open_30 (fun H locs hP hD hS => ?_)
      have hP : va_P (dC, dI) classes [(h0, .inr (0, [.int (nI p), .int (nI q), .int (nI (p * q)), .long (lN (p * q * (p * q))), .long (lN (sp_f p q)), .long (lN (sp_inv p q)), .long (lN (sp_cex p q)), .int (nI a), .int (nI b), .int (nI 0), .long (lN tt), .int (nI bc), .ref q0])), (q0, .inl (cA, 30, .inr (.inl (fun j => lN (g j)))))] H := hP
      have hD : va_D A [(h0, .inr (0, [.int (nI p), .int (nI q), .int (nI (p * q)), .long (lN (p * q * (p * q))), .long (lN (sp_f p q)), .long (lN (sp_inv p q)), .long (lN (sp_cex p q)), .int (nI a), .int (nI b), .int (nI 0), .long (lN tt), .int (nI bc), .ref q0])), (q0, .inl (cA, 30, .inr (.inl (fun j => lN (g j)))))] := hD
      refine lv_aload_n hx hb d_X_open_33 rfl (lv_at hl 0 rfl) ?_
      refine lv_iconst (v := nI 0) hx hb d_X_open_34 (by decide) ?_
      refine va_put (D := (dC, dI)) (ci := 0) (v := .int (nI 0)) (ty := .int) (C := R_X) (T := F_X) (N := 13) hx hb hts f_X t_X t_X_ok n_X hown hK hP hD hS 0 rfl rfl 11 (by decide) (hts _ (al_m aw_t24)) (fun _ h9 => h9) rfl (by decide +kernel) rfl rfl (Nat.le_of_ble_eq_true rfl) d_X_open_35 (fun H locs hP hD hS => ?_)
      have hP : va_P (dC, dI) classes [(h0, .inr (0, [.int (nI p), .int (nI q), .int (nI (p * q)), .long (lN (p * q * (p * q))), .long (lN (sp_f p q)), .long (lN (sp_inv p q)), .long (lN (sp_cex p q)), .int (nI a), .int (nI b), .int (nI 0), .long (lN tt), .int (nI 0), .ref q0])), (q0, .inl (cA, 30, .inr (.inl (fun j => lN (g j)))))] H := hP
      have hD : va_D A [(h0, .inr (0, [.int (nI p), .int (nI q), .int (nI (p * q)), .long (lN (p * q * (p * q))), .long (lN (sp_f p q)), .long (lN (sp_inv p q)), .long (lN (sp_cex p q)), .int (nI a), .int (nI b), .int (nI 0), .long (lN tt), .int (nI 0), .ref q0])), (q0, .inl (cA, 30, .inr (.inl (fun j => lN (g j)))))] := hD
      refine lv_aload_n hx hb d_X_open_38 rfl (lv_at hl 0 rfl) ?_
      refine va_get (D := (dC, dI)) (ci := 0) (v := .ref q0) (C := R_X) (T := F_X) (N := 13) hx hb hts f_X hown hK hP 0 rfl rfl 12 (by decide) (hts _ (al_m aw_t25)) (fun _ h9 => h9) rfl d_X_open_39 ?_
      refine lv_lconst (v := lN 0) hx hb d_X_open_42 rfl ?_
      refine mu_v (wo := [(h0, .inr (0, [.int (nI p), .int (nI q), .int (nI (p * q)), .long (lN (p * q * (p * q))), .long (lN (sp_f p q)), .long (lN (sp_inv p q)), .long (lN (sp_cex p q)), .int (nI a), .int (nI b), .int (nI 0), .long (lN tt), .int (nI 0), .ref q0]))]) (va_runS (As := [.ref q0, .long (lN 0)]) (rest := []) ⟨hx, hb, hml, hown, hts⟩ (c_A_fill l dC dI q0 cA g) (va_cwS 2 hts (al_S (k_A_fill) (aw_t136) (aw_t137) (aw_t4)) rfl rfl rfl (by decide +kernel) ⟨Nat.le_of_ble_eq_true rfl, Nat.le_of_ble_eq_true rfl⟩) (mu_preS hK (hP.sub (ws' := [(q0, .inl (cA, 30, .inr (.inl (fun j => lN (g j)))))]) [1] rfl)) rfl rfl hl.1 rfl (lv_room (Nat.le_of_ble_eq_true rfl)) d_X_open_43 ⟨Nat.zero_le _, Nat.zero_le _⟩) hS (by rw [hAe]; exact Or.inr rfl) (by rw [hAe]; exact Or.inr rfl) (mu_o1 hne) (hP.sub [0] rfl) (fun H locs hP2 hO2 hS => ?_)
      have hP : va_P (dC, dI) classes [(h0, .inr (0, [.int (nI p), .int (nI q), .int (nI (p * q)), .long (lN (p * q * (p * q))), .long (lN (sp_f p q)), .long (lN (sp_inv p q)), .long (lN (sp_cex p q)), .int (nI a), .int (nI b), .int (nI 0), .long (lN tt), .int (nI 0), .ref q0])), (q0, .inl (cA, 30, .inr (.inl (fun j => lN ((fz g 30) j)))))] H := hO2.app hP2
      refine lv_iconst (v := nI 1) hx hb d_X_open_46 (by decide) ?_
      rw [hAe] at hS
      exact mu_zret hx hb hr (by decide) (by simp only [ho, sel_t, selg_t, ix_nat ha2, ix_nat hb2]; exact hP) hS d_X_open_47 hlocks (by rw [ho]; decide)
    · skip
      rw [bI_0] at hc13
      have ho : sp_open p q x y = false := by simp [sp_open, hc13]
      refine lv_iconst (v := nI 0) hx hb d_X_open_16 (by decide) ?_
      rw [hAe] at hS
      exact mu_zret hx hb hr (by decide) (by simp only [ho, sel_f, selg_f]; exact hP) hS d_X_open_17 hlocks (by rw [ho]; decide)

section
variable {pg : Program} {l : Launch} {ev : Env} {R : Room} {s : State} {mi : MethodId} {args : Array Value} {below : List Frame} {meth : Method} {co : Code} {H : Heap} {locs : List Loc} {cells slots : Nat} {Q : State → Prop}
set_option maxHeartbeats 4000000 in
set_option maxRecDepth 100000 in
theorem lp_M_key_88 {h1 q1 : Nat} {cB : ClassId} {a b bx cl cd rd : Nat} {g : Nat → Nat} {A0 : Nat → Prop} {H0 : Heap} (hx : pg.tables.exec = Jvm.exec) (hb : co.code = b_M_key) {w0 : Cond} {dC : Nat → ClassId} {dI : Nat → Nat → Nat} (hts : ∀ w ∈ w0 :: al_w, w.before args s = true) (hown : s.vm.findClass R_M = some mi.cls) (hK : va_K (dC, dI) classes [(cB, .long)] s) (hk : ma_K a b) (hbg : 15 ≤ a * b ∧ a * b ≤ 52441 ∧ 4 ≤ sp_f a b ∧ sp_f a b < a * b) (hcl1 : sp_cex a b ≤ sp_f a b) (k131 : ∀ (u : Nat) (H : Heap) (locs : List Loc) (ls : Array Slot), lv_has ls 5 [(3, .long (lN (a * b * u % sp_f a b))), (0, .ref h1), (1, .int (nI a)), (2, .int (nI b))] → va_P (dC, dI) classes [(h1, .inr (1, [.long (lN (a * b)), .long (lN (a * b * (a * b))), .long (lN (sp_f a b)), .long (lN u), .int (nI bx), .int (nI cl), .int (nI cd), .int (nI rd), .ref q1])), (q1, .inl (cB, 30, .inr (.inl (fun j => lN (g j)))))] H → va_D A0 [(h1, .inr (1, [.long (lN (a * b)), .long (lN (a * b * (a * b))), .long (lN (sp_f a b)), .long (lN u), .int (nI bx), .int (nI cl), .int (nI cd), .int (nI rd), .ref q1])), (q1, .inl (cB, 30, .inr (.inl (fun j => lN (g j)))))] → va_S A0 H0 H locs → (u = sp_cex a b) → W pg l ev R s mi args below meth co H locs cells slots Q (F0 mi 131 ls [])) : ∀ (mz : Nat) (u : Nat) (H : Heap) (locs : List Loc) (ls : Array Slot), lv_has ls 5 [(3, .long (lN (a * b * u % sp_f a b))), (0, .ref h1), (1, .int (nI a)), (2, .int (nI b))] → va_P (dC, dI) classes [(h1, .inr (1, [.long (lN (a * b)), .long (lN (a * b * (a * b))), .long (lN (sp_f a b)), .long (lN u), .int (nI bx), .int (nI cl), .int (nI cd), .int (nI rd), .ref q1])), (q1, .inl (cB, 30, .inr (.inl (fun j => lN (g j)))))] H → va_D A0 [(h1, .inr (1, [.long (lN (a * b)), .long (lN (a * b * (a * b))), .long (lN (sp_f a b)), .long (lN u), .int (nI bx), .int (nI cl), .int (nI cd), .int (nI rd), .ref q1])), (q1, .inl (cB, 30, .inr (.inl (fun j => lN (g j)))))] → va_S A0 H0 H locs → (1 ≤ u) → (u ≤ sp_cex a b) → sp_cex a b - u = mz → W pg l ev R s mi args below meth co H locs cells slots Q (F0 mi 88 ls []) := by
  intro mz
  induction mz using Nat.strongRecOn with
  | ind mz ih =>
    intro u H locs ls hl hP hD hS h1_ h2 hk
    subst hk
    have hml : a * b * u % sp_f a b < sp_f a b := Nat.mod_lt _ (by omega)
    refine lv_lload_n hx hb d_M_key_88 rfl (lv_at hl 0 rfl) ?_
    refine lv_lconst (v := lN 1) hx hb d_M_key_89 rfl ?_
    refine W.lcmp hx hb d_M_key_90 ?_
    refine lv_if_eq (tgt := 131) hx hb d_M_key_91 (by decide) (fun hc91 => ?_) (fun hc91 => ?_)
    · skip
      rw [lg_cmp_eq] at hc91
      rw [pk_lEQ (a := a * b * u % sp_f a b) (b := 1) (by omega) (by omega)] at hc91
      exact k131 u _ _ ls (lv_sub hl [0, 1, 2, 3] rfl) hP hD hS (un_eq hk h1_ h2 hc91)
    · skip
      rw [lg_cmp_eq] at hc91
      rw [pk_lEQ (a := a * b * u % sp_f a b) (b := 1) (by omega) (by omega)] at hc91
      have hne : u ≠ sp_cex a b := fun hh => hc91 (by rw [hh]; exact un_cex hk)
      refine lv_aload_n hx hb d_M_key_94 rfl (lv_at hl 1 rfl) ?_
      refine va_get (D := (dC, dI)) (ci := 1) (v := .long (lN u)) (C := R_M) (T := F_M) (N := 9) hx hb hts f_M hown hK hP 0 rfl rfl 3 (by decide) (hts _ (al_m aw_t210)) (fun _ h9 => h9) rfl d_M_key_95 ?_
      refine lv_aload_n hx hb d_M_key_98 rfl (lv_at hl 1 rfl) ?_
      refine va_get (D := (dC, dI)) (ci := 1) (v := .long (lN (sp_f a b))) (C := R_M) (T := F_M) (N := 9) hx hb hts f_M hown hK hP 0 rfl rfl 2 (by decide) (hts _ (al_m aw_t209)) (fun _ h9 => h9) rfl d_M_key_99 ?_
      refine W.lcmp hx hb d_M_key_102 ?_
      refine lv_if_ge (tgt := 131) hx hb d_M_key_103 (by decide) (fun hc103 => ?_) (fun hc103 => ?_)
      · skip
        rw [lg_cmp_ge] at hc103
        rw [pk_lLE (a := sp_f a b) (b := u) (by omega) (by omega)] at hc103
        omega
      · skip
        rw [lg_cmp_ge] at hc103
        rw [pk_lLE (a := sp_f a b) (b := u) (by omega) (by omega)] at hc103
        refine lv_lload_n hx hb d_M_key_106 rfl (lv_at hl 0 rfl) ?_
        refine lv_aload_n hx hb d_M_key_107 rfl (lv_at hl 1 rfl) ?_
        refine va_get (D := (dC, dI)) (ci := 1) (v := .long (lN (a * b))) (C := R_M) (T := F_M) (N := 9) hx hb hts f_M hown hK hP 0 rfl rfl 0 (by decide) (hts _ (al_m aw_t207)) (fun _ h9 => h9) rfl d_M_key_108 ?_
        refine lv_ladd hx hb d_M_key_111 ?_
        refine wk_l (y := lN ((a * b * u % sp_f a b) + (a * b))) (lN_add (a * b * u % sp_f a b) (a * b)) ?_
        refine lv_aload_n hx hb d_M_key_112 rfl (lv_at hl 1 rfl) ?_
        refine va_get (D := (dC, dI)) (ci := 1) (v := .long (lN (sp_f a b))) (C := R_M) (T := F_M) (N := 9) hx hb hts f_M hown hK hP 0 rfl rfl 2 (by decide) (hts _ (al_m aw_t209)) (fun _ h9 => h9) rfl d_M_key_113 ?_
        refine lv_lrem hx hb d_M_key_116 (lN_ne0 (by omega) (by omega)) ?_
        refine wk_l (y := lN (a * b * (u + 1) % sp_f a b)) ((pk_lRem (by omega) (by omega) (by omega)).trans (congrArg lN (un_step (a * b) u (sp_f a b)))) ?_
        refine lv_lstore_n (lv' := [(3, .long (lN (a * b * (u + 1) % sp_f a b))), (0, .ref h1), (1, .int (nI a)), (2, .int (nI b))]) hx hb d_M_key_117 rfl hl (by decide) rfl (fun ls hl => ?_)
        refine lv_aload_n hx hb d_M_key_118 rfl (lv_at hl 1 rfl) ?_
        refine lv_dup hx hb d_M_key_119 rfl ?_
        refine va_get (D := (dC, dI)) (ci := 1) (v := .long (lN u)) (C := R_M) (T := F_M) (N := 9) hx hb hts f_M hown hK hP 0 rfl rfl 3 (by decide) (hts _ (al_m aw_t210)) (fun _ h9 => h9) rfl d_M_key_120 ?_
        refine lv_lconst (v := lN 1) hx hb d_M_key_123 rfl ?_
        refine lv_ladd hx hb d_M_key_124 ?_
        refine wk_l (y := lN (u + 1)) (lN_add u 1) ?_
        refine va_put (D := (dC, dI)) (ci := 1) (v := .long (lN (u + 1))) (ty := .long) (C := R_M) (T := F_M) (N := 9) hx hb hts f_M t_M t_M_ok n_M hown hK hP hD hS 0 rfl rfl 3 (by decide) (hts _ (al_m aw_t210)) (fun _ h9 => h9) rfl (by decide +kernel) rfl rfl (Nat.le_of_ble_eq_true rfl) d_M_key_125 (fun H locs hP hD hS => ?_)
        have hP : va_P (dC, dI) classes [(h1, .inr (1, [.long (lN (a * b)), .long (lN (a * b * (a * b))), .long (lN (sp_f a b)), .long (lN (u + 1)), .int (nI bx), .int (nI cl), .int (nI cd), .int (nI rd), .ref q1])), (q1, .inl (cB, 30, .inr (.inl (fun j => lN (g j)))))] H := hP
        have hD : va_D A0 [(h1, .inr (1, [.long (lN (a * b)), .long (lN (a * b * (a * b))), .long (lN (sp_f a b)), .long (lN (u + 1)), .int (nI bx), .int (nI cl), .int (nI cd), .int (nI rd), .ref q1])), (q1, .inl (cB, 30, .inr (.inl (fun j => lN (g j)))))] := hD
        refine lv_goto (tgt := 88) hx hb d_M_key_128 (by decide) ?_
        exact ih _ (by omega) (u + 1) _ _ ls (lv_sub hl [0, 1, 2, 3] rfl) hP hD hS (by omega) (by omega) rfl
end

set_option maxHeartbeats 4000000 in
set_option maxRecDepth 100000 in
theorem c_M_key (l : Launch) (dC : Nat → ClassId) (dI : Nat → Nat → Nat) (h1 q1 : Nat) (cB : ClassId) (p q bx cl cd rd : Nat) (g : Nat → Nat) (x y : Int32) (hne : h1 ≠ q1) : Met l y_M_key w_M_key ({ frames := 1, cells := 0, slots := 0, locals := 22 }) (va_Pc [.ref h1, .int x, .int y] (fun U => va_P (dC, dI) classes [(h1, .inr (1, [.long (lN (p * q)), .long (lN (p * q * (p * q))), .long (lN (sp_f p q)), .long (lN (sp_cex p q)), .int (nI bx), .int (nI cl), .int (nI cd), .int (nI rd), .ref q1])), (q1, .inl (cB, 30, .inr (.inl (fun j => lN (g j)))))] U.heap ∧ va_K (dC, dI) classes [(cB, .long)] U)) (qmI (an_key x y) (dC, dI) classes [(h1, .inr (1, [.long (lN ((sel (sp_isK x y) x.toInt.toNat p) * (sel (sp_isK x y) y.toInt.toNat q))), .long (lN ((sel (sp_isK x y) x.toInt.toNat p) * (sel (sp_isK x y) y.toInt.toNat q) * ((sel (sp_isK x y) x.toInt.toNat p) * (sel (sp_isK x y) y.toInt.toNat q)))), .long (lN (sp_f (sel (sp_isK x y) x.toInt.toNat p) (sel (sp_isK x y) y.toInt.toNat q))), .long (lN (sp_cex (sel (sp_isK x y) x.toInt.toNat p) (sel (sp_isK x y) y.toInt.toNat q))), .int (nI (sel (sp_isK x y) 0 bx)), .int (nI cl), .int (nI cd), .int (nI rd), .ref q1])), (q1, .inl (cB, 30, .inr (.inl (fun j => lN (g j)))))] h1 q1) 0 0 (two h1 q1) := by
  refine Met.ofW (cc := b_M_key) (maxL := 5) (ret := some .int) (by decide) rfl ?_
  intro pg ev s mi args below meth co s₁ B hml hv
  obtain ⟨rfl, hP, hK⟩ := hv
  have hx := B.exec
  have hb := B.bytes
  have hr := B.returns
  have hts := atoms_spec (ws := w_M_key) B.pre
  have hown : s.vm.findClass R_M = some mi.cls := findClass_of_methodNamed B.named
  have hlocks := B.notSynchronized
  have hS : va_S (two h1 q1) s.heap s.heap [] := va_S.rf
  have hP : va_P (dC, dI) classes [(h1, .inr (1, [.long (lN (p * q)), .long (lN (p * q * (p * q))), .long (lN (sp_f p q)), .long (lN (sp_cex p q)), .int (nI bx), .int (nI cl), .int (nI cd), .int (nI rd), .ref q1])), (q1, .inl (cB, 30, .inr (.inl (fun j => lN (g j)))))] s.heap := hP
  obtain ⟨A, hAe⟩ : ∃ A : Nat → Prop, A = two h1 q1 := ⟨_, rfl⟩
  rw [← hAe] at hS
  have hD : va_D A [(h1, .inr (1, [.long (lN (p * q)), .long (lN (p * q * (p * q))), .long (lN (sp_f p q)), .long (lN (sp_cex p q)), .int (nI bx), .int (nI cl), .int (nI cd), .int (nI rd), .ref q1])), (q1, .inl (cB, 30, .inr (.inl (fun j => lN (g j)))))] := by rw [hAe]; exact mu_D hne
  have hl := lv_entry ([.ref h1, .int x, .int y]) (n := 5) (Nat.le_of_ble_eq_true rfl)
  rw [lg_entry_eq]
  generalize (lg_sl ([.ref h1, .int x, .int y]) ++ List.replicate (5 - (lg_sl ([.ref h1, .int x, .int y])).length) Slot.unset).toArray = ls at hl ⊢
  have hl : lv_has ls 5 [(0, .ref h1), (1, .int x), (2, .int y)] := hl
  refine lv_iload_n hx hb d_M_key_0 rfl (lv_at hl 1 rfl) ?_
  refine pu_i (va_runS (As := [.int x]) (rest := []) ⟨hx, hb, hml, hown, hts⟩ (c_M_prime l x) (va_cwS 1 hts (al_S (k_M_prime) (aw_t239) (aw_t240) (aw_t2)) rfl rfl rfl (by decide +kernel) ⟨Nat.le_of_ble_eq_true rfl, Nat.le_of_ble_eq_true rfl⟩) pu_preS rfl rfl hl.1 rfl (lv_room (Nat.le_of_ble_eq_true rfl)) d_M_key_1 ⟨Nat.zero_le _, Nat.zero_le _⟩) hS (fun H locs hkp hS => ?_)
  have hP := hkp _ _ _ hP
  refine lv_if_eq (tgt := 35) hx hb d_M_key_4 (by decide) (fun hc4 => ?_) (fun hc4 => ?_)
  · skip
    rw [bI_0] at hc4
    have hKf : sp_isK x y = false := by simp [sp_isK, hc4]
    refine lv_bipush (v := -4) hx hb d_M_key_35 (by decide) ?_
    rw [hAe] at hS
    exact mu_iret hx hb hr (by simp only [hKf, sel_f]; exact hP) hS d_M_key_37 hlocks (by simp [an_key, hKf])
  · skip
    rw [bI_0] at hc4
    rw [Bool.not_eq_false] at hc4
    refine lv_iload_n hx hb d_M_key_7 rfl (lv_at hl 2 rfl) ?_
    refine pu_i (va_runS (As := [.int y]) (rest := []) ⟨hx, hb, hml, hown, hts⟩ (c_M_prime l y) (va_cwS 1 hts (al_S (k_M_prime) (aw_t239) (aw_t240) (aw_t2)) rfl rfl rfl (by decide +kernel) ⟨Nat.le_of_ble_eq_true rfl, Nat.le_of_ble_eq_true rfl⟩) pu_preS rfl rfl hl.1 rfl (lv_room (Nat.le_of_ble_eq_true rfl)) d_M_key_8 ⟨Nat.zero_le _, Nat.zero_le _⟩) hS (fun H locs hkp hS => ?_)
    have hP := hkp _ _ _ hP
    refine lv_if_eq (tgt := 35) hx hb d_M_key_11 (by decide) (fun hc11 => ?_) (fun hc11 => ?_)
    · skip
      rw [bI_0] at hc11
      have hKf : sp_isK x y = false := by simp [sp_isK, hc11]
      refine lv_bipush (v := -4) hx hb d_M_key_35 (by decide) ?_
      rw [hAe] at hS
      exact mu_iret hx hb hr (by simp only [hKf, sel_f]; exact hP) hS d_M_key_37 hlocks (by simp [an_key, hKf])
    · skip
      rw [bI_0] at hc11
      rw [Bool.not_eq_false] at hc11
      obtain ⟨a, hpa, ha2, rfl⟩ := sp_isP_of hc4
      obtain ⟨b, hpb, hb2, rfl⟩ := sp_isP_of hc11
      have ha3 := hpa.1
      have ha9 := hpa.2.1
      have hb3 := hpb.1
      have hb9 := hpb.2.1
      refine lv_iload_n hx hb d_M_key_14 rfl (lv_at hl 1 rfl) ?_
      refine lv_iload_n hx hb d_M_key_15 rfl (lv_at hl 2 rfl) ?_
      refine lv_icmp_eq (tgt := 35) hx hb d_M_key_16 (by decide) (fun hc16 => ?_) (fun hc16 => ?_)
      · skip
        rw [nI_eq (a := a) (b := b) (by omega) (by omega)] at hc16
        have hKf : sp_isK (nI a) (nI b) = false := by simp only [sp_isK, hc4, hc11, ix_nat ha2, ix_nat hb2, nI_toInt ha2, nI_toInt hb2, Int.toNat_natCast, Bool.true_and, ne_eq, Bool.and_eq_false_iff, decide_eq_false_iff_not]; omega
        refine lv_bipush (v := -4) hx hb d_M_key_35 (by decide) ?_
        rw [hAe] at hS
        exact mu_iret hx hb hr (by simp only [hKf, sel_f]; exact hP) hS d_M_key_37 hlocks (by simp [an_key, hKf])
      · skip
        rw [nI_eq (a := a) (b := b) (by omega) (by omega)] at hc16
        refine lv_iload_n hx hb d_M_key_19 rfl (lv_at hl 2 rfl) ?_
        refine lv_iconst (v := nI 1) hx hb d_M_key_20 (by decide) ?_
        refine lv_isub hx hb d_M_key_21 ?_
        refine wk_i (y := nI (b - 1)) (pk_sub (by omega)) ?_
        refine lv_iload_n hx hb d_M_key_22 rfl (lv_at hl 1 rfl) ?_
        refine lv_irem hx hb d_M_key_23 (nI_ne0 (by omega) (by omega)) ?_
        refine wk_i (y := nI ((b - 1) % a)) (pk_rem (by omega) (by omega) (by omega)) ?_
        have hm23 := Nat.mod_le (b - 1) a
        refine lv_if_eq (tgt := 35) hx hb d_M_key_24 (by decide) (fun hc24 => ?_) (fun hc24 => ?_)
        · skip
          rw [← nI_0] at hc24
          rw [nI_eq (a := (b - 1) % a) (b := 0) (by omega) (by omega)] at hc24
          have hKf : sp_isK (nI a) (nI b) = false := by simp only [sp_isK, hc4, hc11, ix_nat ha2, ix_nat hb2, nI_toInt ha2, nI_toInt hb2, Int.toNat_natCast, Bool.true_and, ne_eq, Bool.and_eq_false_iff, decide_eq_false_iff_not]; omega
          refine lv_bipush (v := -4) hx hb d_M_key_35 (by decide) ?_
          rw [hAe] at hS
          exact mu_iret hx hb hr (by simp only [hKf, sel_f]; exact hP) hS d_M_key_37 hlocks (by simp [an_key, hKf])
        · skip
          rw [← nI_0] at hc24
          rw [nI_eq (a := (b - 1) % a) (b := 0) (by omega) (by omega)] at hc24
          refine lv_iload_n hx hb d_M_key_27 rfl (lv_at hl 1 rfl) ?_
          refine lv_iconst (v := nI 1) hx hb d_M_key_28 (by decide) ?_
          refine lv_isub hx hb d_M_key_29 ?_
          refine wk_i (y := nI (a - 1)) (pk_sub (by omega)) ?_
          refine lv_iload_n hx hb d_M_key_30 rfl (lv_at hl 2 rfl) ?_
          refine lv_irem hx hb d_M_key_31 (nI_ne0 (by omega) (by omega)) ?_
          refine wk_i (y := nI ((a - 1) % b)) (pk_rem (by omega) (by omega) (by omega)) ?_
          have hm31 := Nat.mod_le (a - 1) b
          refine lv_if_ne (tgt := 38) hx hb d_M_key_32 (by decide) (fun hc32 => ?_) (fun hc32 => ?_)
          · skip
            rw [← nI_0] at hc32
            rw [nI_eq (a := (a - 1) % b) (b := 0) (by omega) (by omega)] at hc32
            have hKt : sp_isK (nI a) (nI b) = true := by simp only [sp_isK, hc4, hc11, ix_nat ha2, ix_nat hb2, nI_toInt ha2, nI_toInt hb2, Int.toNat_natCast, Bool.true_and, ne_eq, Bool.and_eq_true, decide_eq_true_eq]; omega
            have hk : ma_K a b := ⟨hpa, hpb, hc16, hc24, hc32⟩
            have hbg := ma_big hk
            have hp3 := hk.1.1
            have hq3 := hk.2.1.1
            have hp9 := hk.1.2.1
            have hq9 := hk.2.1.2.1
            have hkf := ma_keyf hk
            refine lv_aload_n hx hb d_M_key_38 rfl (lv_at hl 0 rfl) ?_
            refine lv_iload_n hx hb d_M_key_39 rfl (lv_at hl 1 rfl) ?_
            refine lv_i2l (v := lN a) hx hb d_M_key_40 (nI_l (by omega)) ?_
            refine lv_iload_n hx hb d_M_key_41 rfl (lv_at hl 2 rfl) ?_
            refine lv_i2l (v := lN b) hx hb d_M_key_42 (nI_l (by omega)) ?_
            refine lv_lmul hx hb d_M_key_43 ?_
            refine wk_l (y := lN (a * b)) (lN_mul a b) ?_
            refine va_put (D := (dC, dI)) (ci := 1) (v := .long (lN (a * b))) (ty := .long) (C := R_M) (T := F_M) (N := 9) hx hb hts f_M t_M t_M_ok n_M hown hK hP hD hS 0 rfl rfl 0 (by decide) (hts _ (al_m aw_t207)) (fun _ h9 => h9) rfl (by decide +kernel) rfl rfl (Nat.le_of_ble_eq_true rfl) d_M_key_44 (fun H locs hP hD hS => ?_)
            have hP : va_P (dC, dI) classes [(h1, .inr (1, [.long (lN (a * b)), .long (lN (p * q * (p * q))), .long (lN (sp_f p q)), .long (lN (sp_cex p q)), .int (nI bx), .int (nI cl), .int (nI cd), .int (nI rd), .ref q1])), (q1, .inl (cB, 30, .inr (.inl (fun j => lN (g j)))))] H := hP
            have hD : va_D A [(h1, .inr (1, [.long (lN (a * b)), .long (lN (p * q * (p * q))), .long (lN (sp_f p q)), .long (lN (sp_cex p q)), .int (nI bx), .int (nI cl), .int (nI cd), .int (nI rd), .ref q1])), (q1, .inl (cB, 30, .inr (.inl (fun j => lN (g j)))))] := hD
            refine lv_aload_n hx hb d_M_key_47 rfl (lv_at hl 0 rfl) ?_
            refine lv_aload_n hx hb d_M_key_48 rfl (lv_at hl 0 rfl) ?_
            refine va_get (D := (dC, dI)) (ci := 1) (v := .long (lN (a * b))) (C := R_M) (T := F_M) (N := 9) hx hb hts f_M hown hK hP 0 rfl rfl 0 (by decide) (hts _ (al_m aw_t207)) (fun _ h9 => h9) rfl d_M_key_49 ?_
            refine lv_aload_n hx hb d_M_key_52 rfl (lv_at hl 0 rfl) ?_
            refine va_get (D := (dC, dI)) (ci := 1) (v := .long (lN (a * b))) (C := R_M) (T := F_M) (N := 9) hx hb hts f_M hown hK hP 0 rfl rfl 0 (by decide) (hts _ (al_m aw_t207)) (fun _ h9 => h9) rfl d_M_key_53 ?_
            refine lv_lmul hx hb d_M_key_56 ?_
            refine wk_l (y := lN ((a * b) * (a * b))) (lN_mul (a * b) (a * b)) ?_
            refine va_put (D := (dC, dI)) (ci := 1) (v := .long (lN ((a * b) * (a * b)))) (ty := .long) (C := R_M) (T := F_M) (N := 9) hx hb hts f_M t_M t_M_ok n_M hown hK hP hD hS 0 rfl rfl 1 (by decide) (hts _ (al_m aw_t208)) (fun _ h9 => h9) rfl (by decide +kernel) rfl rfl (Nat.le_of_ble_eq_true rfl) d_M_key_57 (fun H locs hP hD hS => ?_)
            have hP : va_P (dC, dI) classes [(h1, .inr (1, [.long (lN (a * b)), .long (lN ((a * b) * (a * b))), .long (lN (sp_f p q)), .long (lN (sp_cex p q)), .int (nI bx), .int (nI cl), .int (nI cd), .int (nI rd), .ref q1])), (q1, .inl (cB, 30, .inr (.inl (fun j => lN (g j)))))] H := hP
            have hD : va_D A [(h1, .inr (1, [.long (lN (a * b)), .long (lN ((a * b) * (a * b))), .long (lN (sp_f p q)), .long (lN (sp_cex p q)), .int (nI bx), .int (nI cl), .int (nI cd), .int (nI rd), .ref q1])), (q1, .inl (cB, 30, .inr (.inl (fun j => lN (g j)))))] := hD
            refine lv_aload_n hx hb d_M_key_60 rfl (lv_at hl 0 rfl) ?_
            refine lv_iload_n hx hb d_M_key_61 rfl (lv_at hl 1 rfl) ?_
            refine lv_i2l (v := lN a) hx hb d_M_key_62 (nI_l (by omega)) ?_
            refine lv_lconst (v := lN 1) hx hb d_M_key_63 rfl ?_
            refine lv_lsub hx hb d_M_key_64 ?_
            refine wk_l (y := lN (a - 1)) (lN_sub (by omega)) ?_
            refine lv_iload_n hx hb d_M_key_65 rfl (lv_at hl 2 rfl) ?_
            refine lv_i2l (v := lN b) hx hb d_M_key_66 (nI_l (by omega)) ?_
            refine lv_lconst (v := lN 1) hx hb d_M_key_67 rfl ?_
            refine lv_lsub hx hb d_M_key_68 ?_
            refine wk_l (y := lN (b - 1)) (lN_sub (by omega)) ?_
            refine lv_lmul hx hb d_M_key_69 ?_
            refine wk_l (y := lN (sp_f a b)) (lN_mul _ _) ?_
            refine va_put (D := (dC, dI)) (ci := 1) (v := .long (lN (sp_f a b))) (ty := .long) (C := R_M) (T := F_M) (N := 9) hx hb hts f_M t_M t_M_ok n_M hown hK hP hD hS 0 rfl rfl 2 (by decide) (hts _ (al_m aw_t209)) (fun _ h9 => h9) rfl (by decide +kernel) rfl rfl (Nat.le_of_ble_eq_true rfl) d_M_key_70 (fun H locs hP hD hS => ?_)
            have hP : va_P (dC, dI) classes [(h1, .inr (1, [.long (lN (a * b)), .long (lN ((a * b) * (a * b))), .long (lN (sp_f a b)), .long (lN (sp_cex p q)), .int (nI bx), .int (nI cl), .int (nI cd), .int (nI rd), .ref q1])), (q1, .inl (cB, 30, .inr (.inl (fun j => lN (g j)))))] H := hP
            have hD : va_D A [(h1, .inr (1, [.long (lN (a * b)), .long (lN ((a * b) * (a * b))), .long (lN (sp_f a b)), .long (lN (sp_cex p q)), .int (nI bx), .int (nI cl), .int (nI cd), .int (nI rd), .ref q1])), (q1, .inl (cB, 30, .inr (.inl (fun j => lN (g j)))))] := hD
            refine lv_aload_n hx hb d_M_key_73 rfl (lv_at hl 0 rfl) ?_
            refine lv_lconst (v := lN 1) hx hb d_M_key_74 rfl ?_
            refine va_put (D := (dC, dI)) (ci := 1) (v := .long (lN 1)) (ty := .long) (C := R_M) (T := F_M) (N := 9) hx hb hts f_M t_M t_M_ok n_M hown hK hP hD hS 0 rfl rfl 3 (by decide) (hts _ (al_m aw_t210)) (fun _ h9 => h9) rfl (by decide +kernel) rfl rfl (Nat.le_of_ble_eq_true rfl) d_M_key_75 (fun H locs hP hD hS => ?_)
            have hP : va_P (dC, dI) classes [(h1, .inr (1, [.long (lN (a * b)), .long (lN ((a * b) * (a * b))), .long (lN (sp_f a b)), .long (lN 1), .int (nI bx), .int (nI cl), .int (nI cd), .int (nI rd), .ref q1])), (q1, .inl (cB, 30, .inr (.inl (fun j => lN (g j)))))] H := hP
            have hD : va_D A [(h1, .inr (1, [.long (lN (a * b)), .long (lN ((a * b) * (a * b))), .long (lN (sp_f a b)), .long (lN 1), .int (nI bx), .int (nI cl), .int (nI cd), .int (nI rd), .ref q1])), (q1, .inl (cB, 30, .inr (.inl (fun j => lN (g j)))))] := hD
            refine lv_aload_n hx hb d_M_key_78 rfl (lv_at hl 0 rfl) ?_
            refine va_get (D := (dC, dI)) (ci := 1) (v := .long (lN (a * b))) (C := R_M) (T := F_M) (N := 9) hx hb hts f_M hown hK hP 0 rfl rfl 0 (by decide) (hts _ (al_m aw_t207)) (fun _ h9 => h9) rfl d_M_key_79 ?_
            refine lv_aload_n hx hb d_M_key_82 rfl (lv_at hl 0 rfl) ?_
            refine va_get (D := (dC, dI)) (ci := 1) (v := .long (lN (sp_f a b))) (C := R_M) (T := F_M) (N := 9) hx hb hts f_M hown hK hP 0 rfl rfl 2 (by decide) (hts _ (al_m aw_t209)) (fun _ h9 => h9) rfl d_M_key_83 ?_
            refine lv_lrem hx hb d_M_key_86 (lN_ne0 (by omega) (by omega)) ?_
            refine wk_l (y := lN ((a * b) % (sp_f a b))) (pk_lRem (by omega) (by omega) (by omega)) ?_
            have hm86 := Nat.mod_le (a * b) (sp_f a b)
            refine lv_lstore_n (lv' := [(3, .long (lN ((a * b) % (sp_f a b)))), (0, .ref h1), (1, .int (nI a)), (2, .int (nI b))]) hx hb d_M_key_87 rfl hl (by decide) rfl (fun ls hl => ?_)
            refine lp_M_key_88 hx hb hts hown hK hk ⟨hbg.1, hbg.2.1, hbg.2.2.1, hbg.2.2.2.1⟩ (by omega) (fun u H locs ls hl hP hD hS hq => ?_) _ 1 _ _ ls (by rw [Nat.mul_one]; exact (lv_sub hl [0, 1, 2, 3] rfl)) hP hD hS (by omega) (by omega) rfl
            subst hq
            refine lv_aload_n hx hb d_M_key_131 rfl (lv_at hl 1 rfl) ?_
            refine lv_iconst (v := nI 0) hx hb d_M_key_132 (by decide) ?_
            refine va_put (D := (dC, dI)) (ci := 1) (v := .int (nI 0)) (ty := .boolean) (C := R_M) (T := F_M) (N := 9) hx hb hts f_M t_M t_M_ok n_M hown hK hP hD hS 0 rfl rfl 4 (by decide) (hts _ (al_m aw_t211)) (fun _ h9 => h9) rfl (by decide +kernel) rfl rfl (Nat.le_of_ble_eq_true rfl) d_M_key_133 (fun H locs hP hD hS => ?_)
            have hP : va_P (dC, dI) classes [(h1, .inr (1, [.long (lN (a * b)), .long (lN (a * b * (a * b))), .long (lN (sp_f a b)), .long (lN (sp_cex a b)), .int (nI 0), .int (nI cl), .int (nI cd), .int (nI rd), .ref q1])), (q1, .inl (cB, 30, .inr (.inl (fun j => lN (g j)))))] H := hP
            have hD : va_D A [(h1, .inr (1, [.long (lN (a * b)), .long (lN (a * b * (a * b))), .long (lN (sp_f a b)), .long (lN (sp_cex a b)), .int (nI 0), .int (nI cl), .int (nI cd), .int (nI rd), .ref q1])), (q1, .inl (cB, 30, .inr (.inl (fun j => lN (g j)))))] := hD
            refine lv_aload_n hx hb d_M_key_136 rfl (lv_at hl 1 rfl) ?_
            refine va_get (D := (dC, dI)) (ci := 1) (v := .long (lN (a * b))) (C := R_M) (T := F_M) (N := 9) hx hb hts f_M hown hK hP 0 rfl rfl 0 (by decide) (hts _ (al_m aw_t207)) (fun _ h9 => h9) rfl d_M_key_137 ?_
            refine lv_l2i (v := nI (a * b)) hx hb d_M_key_140 (lN_i (a * b)) ?_
            rw [hAe] at hS
            exact mu_iret hx hb hr (by simp only [hKt, sel_t, ix_nat ha2, ix_nat hb2]; exact hP) hS d_M_key_141 hlocks (by simp [an_key, hKt, ix_nat ha2, ix_nat hb2])
          · skip
            rw [← nI_0] at hc32
            rw [nI_eq (a := (a - 1) % b) (b := 0) (by omega) (by omega)] at hc32
            have hKf : sp_isK (nI a) (nI b) = false := by simp only [sp_isK, hc4, hc11, ix_nat ha2, ix_nat hb2, nI_toInt ha2, nI_toInt hb2, Int.toNat_natCast, Bool.true_and, ne_eq, Bool.and_eq_false_iff, decide_eq_false_iff_not]; omega
            refine lv_bipush (v := -4) hx hb d_M_key_35 (by decide) ?_
            rw [hAe] at hS
            exact mu_iret hx hb hr (by simp only [hKf, sel_f]; exact hP) hS d_M_key_37 hlocks (by simp [an_key, hKf])
end
section
section
variable {pg : Program} {l : Launch} {ev : Env} {R : Room} {s : State} {mi : MethodId} {args : Array Value} {below : List Frame} {meth : Method} {co : Code} {H : Heap} {locs : List Loc} {cells slots : Nat} {Q : State → Prop}
set_option maxHeartbeats 4000000 in
set_option maxRecDepth 100000 in
theorem lp_M_open_32 {h1 q1 : Nat} {cB : ClassId} {p q bx cl cd rd : Nat} {g : Nat → Nat} (hx : pg.tables.exec = Jvm.exec) (hb : co.code = b_M_open) {w0 : Cond} {dC : Nat → ClassId} {dI : Nat → Nat → Nat} (hts : ∀ w ∈ w0 :: al_w, w.before args s = true) (hown : s.vm.findClass R_M = some mi.cls) (hK : va_K (dC, dI) classes [(cB, .long)] s) (hP : va_P (dC, dI) classes [(h1, .inr (1, [.long (lN (p * q)), .long (lN (p * q * (p * q))), .long (lN (sp_f p q)), .long (lN (sp_cex p q)), .int (nI bx), .int (nI cl), .int (nI cd), .int (nI rd), .ref q1])), (q1, .inl (cB, 30, .inr (.inl (fun j => lN (g j)))))] H) {ka kb : Nat} (hn : p * q ≤ 52441) (hka : ka ≤ 6) (hkb : 2 ≤ kb) (hkb2 : kb < 2 ^ 31) (k62 : ∀ (r : Nat) (i : Nat) (ls : Array Slot), lv_has ls 6 [(3, .long (lN r)), (5, .int (nI i)), (0, .ref h1), (1, .int (nI ka)), (2, .int (nI kb))] → (r ≤ p * q ↔ kb ^ ka ≤ p * q) → (r < 2 ^ 48) → W pg l ev R s mi args below meth co H locs cells slots Q (F0 mi 62 ls [])) : ∀ (mz : Nat) (r : Nat) (i : Nat) (ls : Array Slot), lv_has ls 6 [(3, .long (lN r)), (5, .int (nI i)), (0, .ref h1), (1, .int (nI ka)), (2, .int (nI kb))] → (i ≤ ka) → (r < 2 ^ 48) → (r ≤ p * q → r = kb ^ i) → (p * q < r → p * q < kb ^ i) → ka - i = mz → W pg l ev R s mi args below meth co H locs cells slots Q (F0 mi 32 ls []) := by
  intro mz
  induction mz using Nat.strongRecOn with
  | ind mz ih =>
    intro r i ls hl h1_ h2 h3 h4 hk
    subst hk
    refine lv_iload hx hb d_M_open_32 (lv_at hl 1 rfl) ?_
    refine lv_iload_n hx hb d_M_open_34 rfl (lv_at hl 3 rfl) ?_
    refine lv_icmp_ge (tgt := 62) hx hb d_M_open_35 (by decide) (fun hc35 => ?_) (fun hc35 => ?_)
    · skip
      rw [nI_leI (a := ka) (b := i) (by omega) (by omega)] at hc35
      exact k62 r i ls (lv_sub hl [0, 1, 2, 3, 4] rfl) (ro_x (by omega) h3 h4) (h2)
    · skip
      rw [nI_leI (a := ka) (b := i) (by omega) (by omega)] at hc35
      refine lv_lload_n hx hb d_M_open_38 rfl (lv_at hl 0 rfl) ?_
      refine lv_aload_n hx hb d_M_open_39 rfl (lv_at hl 2 rfl) ?_
      refine va_get (D := (dC, dI)) (ci := 1) (v := .long (lN (p * q))) (C := R_M) (T := F_M) (N := 9) hx hb hts f_M hown hK hP 0 rfl rfl 0 (by decide) (hts _ (al_m aw_t207)) (fun _ h9 => h9) rfl d_M_open_40 ?_
      refine W.lcmp hx hb d_M_open_43 ?_
      refine lv_if_le (tgt := 51) hx hb d_M_open_44 (by decide) (fun hc44 => ?_) (fun hc44 => ?_)
      · skip
        rw [lg_cmp_le] at hc44
        rw [pk_lLE (a := r) (b := p * q) (by omega) (by omega)] at hc44
        refine lv_lload_n hx hb d_M_open_51 rfl (lv_at hl 0 rfl) ?_
        refine lv_iload_n hx hb d_M_open_52 rfl (lv_at hl 4 rfl) ?_
        refine lv_i2l (v := lN kb) hx hb d_M_open_53 (nI_l (by omega)) ?_
        refine lv_lmul hx hb d_M_open_54 ?_
        refine wk_l (y := lN (r * kb)) (lN_mul r kb) ?_
        refine lv_lstore_n (lv' := [(3, .long (lN (r * kb))), (5, .int (nI i)), (0, .ref h1), (1, .int (nI ka)), (2, .int (nI kb))]) hx hb d_M_open_55 rfl hl (by decide) rfl (fun ls hl => ?_)
        refine lv_iinc (k := 1) (v := nI (i + 1)) (lv' := [(5, .int (nI (i + 1))), (3, .long (lN (r * kb))), (0, .ref h1), (1, .int (nI ka)), (2, .int (nI kb))]) hx hb d_M_open_56 hl rfl (ii_1 i) (by decide) rfl (fun ls hl => ?_)
        refine lv_goto (tgt := 32) hx hb d_M_open_59 (by decide) ?_
        exact ih _ (by omega) (r * kb) (i + 1) ls (lv_sub hl [1, 0, 2, 3, 4] rfl) (by omega) (by first | exact h2 | exact ro_b hc44 hn hkb2) (by first | (intro hh; exact absurd hh hc44) | (intro hh; rw [h3 hc44, Nat.pow_succ])) (by first | (intro hh; exact ro_1 hh hkb h4) | (intro hh; rw [h3 hc44, ← Nat.pow_succ] at hh; exact hh)) rfl
      · skip
        rw [lg_cmp_le] at hc44
        rw [pk_lLE (a := r) (b := p * q) (by omega) (by omega)] at hc44
        refine lv_lload_n hx hb d_M_open_47 rfl (lv_at hl 0 rfl) ?_
        refine lv_goto (tgt := 55) hx hb d_M_open_48 (by decide) ?_
        refine lv_lstore_n (lv' := [(3, .long (lN r)), (5, .int (nI i)), (0, .ref h1), (1, .int (nI ka)), (2, .int (nI kb))]) hx hb d_M_open_55 rfl hl (by decide) rfl (fun ls hl => ?_)
        refine lv_iinc (k := 1) (v := nI (i + 1)) (lv' := [(5, .int (nI (i + 1))), (3, .long (lN r)), (0, .ref h1), (1, .int (nI ka)), (2, .int (nI kb))]) hx hb d_M_open_56 hl rfl (ii_1 i) (by decide) rfl (fun ls hl => ?_)
        refine lv_goto (tgt := 32) hx hb d_M_open_59 (by decide) ?_
        exact ih _ (by omega) r (i + 1) ls (lv_sub hl [1, 0, 2, 3, 4] rfl) (by omega) (by first | exact h2 | exact ro_b hc44 hn hkb2) (by first | (intro hh; exact absurd hh hc44) | (intro hh; rw [h3 hc44, Nat.pow_succ])) (by first | (intro hh; exact ro_1 hh hkb h4) | (intro hh; rw [h3 hc44, ← Nat.pow_succ] at hh; exact hh)) rfl
end

section
variable {pg : Program} {l : Launch} {ev : Env} {R : Room} {s : State} {mi : MethodId} {args : Array Value} {below : List Frame} {meth : Method} {co : Code} {H : Heap} {locs : List Loc} {cells slots : Nat} {Q : State → Prop}
set_option maxHeartbeats 4000000 in
set_option maxRecDepth 100000 in
theorem lp_M_open_96 {h1 q1 : Nat} {cB : ClassId} {p q ka kb : Nat} {g : Nat → Nat} {A0 : Nat → Prop} {H0 : Heap} (hx : pg.tables.exec = Jvm.exec) (hb : co.code = b_M_open) {w0 : Cond} {dC : Nat → ClassId} {dI : Nat → Nat → Nat} (hts : ∀ w ∈ w0 :: al_w, w.before args s = true) (hown : s.vm.findClass R_M = some mi.cls) (hK : va_K (dC, dI) classes [(cB, .long)] s)  (k117 : ∀ (i : Nat) (H : Heap) (locs : List Loc) (ls : Array Slot), lv_has ls 6 [(5, .int (nI i)), (0, .ref h1)] → va_P (dC, dI) classes [(h1, .inr (1, [.long (lN (p * q)), .long (lN (p * q * (p * q))), .long (lN (sp_f p q)), .long (lN (sp_cex p q)), .int (nI 1), .int (nI 0), .int (nI ka), .int (nI kb), .ref q1])), (q1, .inl (cB, 30, .inr (.inl (fun j => lN ((fz g i) j)))))] H → va_D A0 [(h1, .inr (1, [.long (lN (p * q)), .long (lN (p * q * (p * q))), .long (lN (sp_f p q)), .long (lN (sp_cex p q)), .int (nI 1), .int (nI 0), .int (nI ka), .int (nI kb), .ref q1])), (q1, .inl (cB, 30, .inr (.inl (fun j => lN ((fz g i) j)))))] → va_S A0 H0 H locs → (i = 30) → W pg l ev R s mi args below meth co H locs cells slots Q (F0 mi 117 ls [])) : ∀ (mz : Nat) (i : Nat) (H : Heap) (locs : List Loc) (ls : Array Slot), lv_has ls 6 [(5, .int (nI i)), (0, .ref h1)] → va_P (dC, dI) classes [(h1, .inr (1, [.long (lN (p * q)), .long (lN (p * q * (p * q))), .long (lN (sp_f p q)), .long (lN (sp_cex p q)), .int (nI 1), .int (nI 0), .int (nI ka), .int (nI kb), .ref q1])), (q1, .inl (cB, 30, .inr (.inl (fun j => lN ((fz g i) j)))))] H → va_D A0 [(h1, .inr (1, [.long (lN (p * q)), .long (lN (p * q * (p * q))), .long (lN (sp_f p q)), .long (lN (sp_cex p q)), .int (nI 1), .int (nI 0), .int (nI ka), .int (nI kb), .ref q1])), (q1, .inl (cB, 30, .inr (.inl (fun j => lN ((fz g i) j)))))] → va_S A0 H0 H locs → (i ≤ 30) → 30 - i = mz → W pg l ev R s mi args below meth co H locs cells slots Q (F0 mi 96 ls []) := by
  intro mz
  induction mz using Nat.strongRecOn with
  | ind mz ih =>
    intro i H locs ls hl hP hD hS h1_ hk
    subst hk
    refine lv_iload hx hb d_M_open_96 (lv_at hl 0 rfl) ?_
    refine lv_bipush (v := nI 30) hx hb d_M_open_98 (by decide) ?_
    refine lv_icmp_ge (tgt := 117) hx hb d_M_open_100 (by decide) (fun hc100 => ?_) (fun hc100 => ?_)
    · skip
      rw [nI_leI (a := 30) (b := i) (by omega) (by omega)] at hc100
      exact k117 i _ _ ls (lv_sub hl [0, 1] rfl) hP hD hS (by omega)
    · skip
      rw [nI_leI (a := 30) (b := i) (by omega) (by omega)] at hc100
      refine lv_aload_n hx hb d_M_open_103 rfl (lv_at hl 1 rfl) ?_
      refine va_get (D := (dC, dI)) (ci := 1) (v := .ref q1) (C := R_M) (T := F_M) (N := 9) hx hb hts f_M hown hK hP 0 rfl rfl 8 (by decide) (hts _ (al_m aw_t215)) (fun _ h9 => h9) rfl d_M_open_104 ?_
      refine lv_iload hx hb d_M_open_107 (lv_at hl 0 rfl) ?_
      refine lv_lconst (v := lN 0) hx hb d_M_open_109 rfl ?_
      refine va_last hx hb hK hP hD hS 1 0 rfl rfl (vp_in_nI (by omega) (by decide)) d_M_open_110 (fun H locs hP hD hS => ?_)
      rw [nI_clamp (by omega), gu_eq] at hP hD
      rw [fz_s] at hP hD
      have hP : va_P (dC, dI) classes [(h1, .inr (1, [.long (lN (p * q)), .long (lN (p * q * (p * q))), .long (lN (sp_f p q)), .long (lN (sp_cex p q)), .int (nI 1), .int (nI 0), .int (nI ka), .int (nI kb), .ref q1])), (q1, .inl (cB, 30, .inr (.inl (fun j => lN ((fz g (i + 1)) j)))))] H := hP
      have hD : va_D A0 [(h1, .inr (1, [.long (lN (p * q)), .long (lN (p * q * (p * q))), .long (lN (sp_f p q)), .long (lN (sp_cex p q)), .int (nI 1), .int (nI 0), .int (nI ka), .int (nI kb), .ref q1])), (q1, .inl (cB, 30, .inr (.inl (fun j => lN ((fz g (i + 1)) j)))))] := hD
      refine lv_iinc (k := 0) (v := nI (i + 1)) (lv' := [(5, .int (nI (i + 1))), (0, .ref h1)]) hx hb d_M_open_111 hl rfl (ii_1 i) (by decide) rfl (fun ls hl => ?_)
      refine lv_goto (tgt := 96) hx hb d_M_open_114 (by decide) ?_
      exact ih _ (by omega) (i + 1) _ _ ls (lv_sub hl [0, 1] rfl) hP hD hS (by omega) rfl
end

set_option maxHeartbeats 4000000 in
set_option maxRecDepth 100000 in
theorem c_M_open (l : Launch) (dC : Nat → ClassId) (dI : Nat → Nat → Nat) (h1 q1 : Nat) (cB : ClassId) (p q bx cl cd rd : Nat) (g : Nat → Nat) (x y : Int32) (cx : Nat) (hj : Jv p q cx rd g) (hne : h1 ≠ q1) : Met l y_M_open w_M_open ({ frames := 0, cells := 0, slots := 0, locals := 0 }) (va_Pc [.ref h1, .int x, .int y] (fun U => va_P (dC, dI) classes [(h1, .inr (1, [.long (lN (p * q)), .long (lN (p * q * (p * q))), .long (lN (sp_f p q)), .long (lN (sp_cex p q)), .int (nI bx), .int (nI cl), .int (nI cd), .int (nI rd), .ref q1])), (q1, .inl (cB, 30, .inr (.inl (fun j => lN (g j)))))] U.heap ∧ va_K (dC, dI) classes [(cB, .long)] U)) (qmI (bI (sp_open p q x y)) (dC, dI) classes [(h1, .inr (1, [.long (lN (p * q)), .long (lN (p * q * (p * q))), .long (lN (sp_f p q)), .long (lN (sp_cex p q)), .int (nI (sel (sp_open p q x y) 1 bx)), .int (nI (sel (sp_open p q x y) 0 cl)), .int (nI (sel (sp_open p q x y) x.toInt.toNat cd)), .int (nI (sel (sp_open p q x y) y.toInt.toNat rd)), .ref q1])), (q1, .inl (cB, 30, .inr (.inl (fun j => lN ((selg (sp_open p q x y) (fz g 30) g) j)))))] h1 q1) 0 0 (two h1 q1) := by
  refine Met.ofW (cc := b_M_open) (maxL := 6) (ret := some .boolean) (by decide) rfl ?_
  intro pg ev s mi args below meth co s₁ B hml hv
  obtain ⟨rfl, hP, hK⟩ := hv
  have hx := B.exec
  have hb := B.bytes
  have hr := B.returns
  have hts := atoms_spec (ws := w_M_open) B.pre
  have hown : s.vm.findClass R_M = some mi.cls := findClass_of_methodNamed B.named
  have hlocks := B.notSynchronized
  have hS : va_S (two h1 q1) s.heap s.heap [] := va_S.rf
  have hP : va_P (dC, dI) classes [(h1, .inr (1, [.long (lN (p * q)), .long (lN (p * q * (p * q))), .long (lN (sp_f p q)), .long (lN (sp_cex p q)), .int (nI bx), .int (nI cl), .int (nI cd), .int (nI rd), .ref q1])), (q1, .inl (cB, 30, .inr (.inl (fun j => lN (g j)))))] s.heap := hP
  obtain ⟨A, hAe⟩ : ∃ A : Nat → Prop, A = two h1 q1 := ⟨_, rfl⟩
  rw [← hAe] at hS
  have hD : va_D A [(h1, .inr (1, [.long (lN (p * q)), .long (lN (p * q * (p * q))), .long (lN (sp_f p q)), .long (lN (sp_cex p q)), .int (nI bx), .int (nI cl), .int (nI cd), .int (nI rd), .ref q1])), (q1, .inl (cB, 30, .inr (.inl (fun j => lN (g j)))))] := by rw [hAe]; exact mu_D hne
  have hl := lv_entry ([.ref h1, .int x, .int y]) (n := 6) (Nat.le_of_ble_eq_true rfl)
  rw [lg_entry_eq]
  generalize (lg_sl ([.ref h1, .int x, .int y]) ++ List.replicate (6 - (lg_sl ([.ref h1, .int x, .int y])).length) Slot.unset).toArray = ls at hl ⊢
  have hl : lv_has ls 6 [(0, .ref h1), (1, .int x), (2, .int y)] := hl
  have hjn := jv_n hj
  refine lv_aload_n hx hb d_M_open_0 rfl (lv_at hl 0 rfl) ?_
  refine va_get (D := (dC, dI)) (ci := 1) (v := .long (lN (p * q))) (C := R_M) (T := F_M) (N := 9) hx hb hts f_M hown hK hP 0 rfl rfl 0 (by decide) (hts _ (al_m aw_t207)) (fun _ h9 => h9) rfl d_M_open_1 ?_
  refine lv_lconst (v := lN 0) hx hb d_M_open_4 rfl ?_
  refine W.lcmp hx hb d_M_open_5 ?_
  refine lv_if_eq (tgt := 25) hx hb d_M_open_6 (by decide) (fun hc6 => ?_) (fun hc6 => ?_)
  · skip
    rw [lg_cmp_eq] at hc6
    rw [pk_lEQ (a := p * q) (b := 0) (by omega) (by omega)] at hc6
    have hp0 : p = 0 := (jv_p0 hj).mp hc6
    have ho : sp_open p q x y = false := by simp [sp_open, hp0]
    refine lv_iconst (v := nI 0) hx hb d_M_open_25 (by decide) ?_
    rw [hAe] at hS
    exact mu_zret hx hb hr (by decide) (by simp only [ho, sel_f, selg_f]; exact hP) hS d_M_open_26 hlocks (by rw [ho]; decide)
  · skip
    rw [lg_cmp_eq] at hc6
    rw [pk_lEQ (a := p * q) (b := 0) (by omega) (by omega)] at hc6
    have hp0 : p ≠ 0 := fun hh => hc6 ((jv_p0 hj).mpr hh)
    refine lv_iload_n hx hb d_M_open_9 rfl (lv_at hl 1 rfl) ?_
    refine lv_iconst (v := nI 1) hx hb d_M_open_10 (by decide) ?_
    refine lv_icmp_lt (tgt := 25) hx hb d_M_open_11 (by decide) (fun hc11 => ?_) (fun hc11 => ?_)
    · skip
      rw [ix_lt (x := x) (n := 1) (by omega)] at hc11
      have ho : sp_open p q x y = false := by simp only [sp_open, sp_box, ne_eq, Bool.and_eq_false_iff, decide_eq_false_iff_not]; omega
      refine lv_iconst (v := nI 0) hx hb d_M_open_25 (by decide) ?_
      rw [hAe] at hS
      exact mu_zret hx hb hr (by decide) (by simp only [ho, sel_f, selg_f]; exact hP) hS d_M_open_26 hlocks (by rw [ho]; decide)
    · skip
      rw [ix_lt (x := x) (n := 1) (by omega)] at hc11
      refine lv_iload_n hx hb d_M_open_14 rfl (lv_at hl 1 rfl) ?_
      refine lv_bipush (v := nI 6) hx hb d_M_open_15 (by decide) ?_
      refine lv_icmp_gt (tgt := 25) hx hb d_M_open_17 (by decide) (fun hc17 => ?_) (fun hc17 => ?_)
      · skip
        rw [ix_gt (x := x) (n := 6) (by omega)] at hc17
        have ho : sp_open p q x y = false := by simp only [sp_open, sp_box, ne_eq, Bool.and_eq_false_iff, decide_eq_false_iff_not]; omega
        refine lv_iconst (v := nI 0) hx hb d_M_open_25 (by decide) ?_
        rw [hAe] at hS
        exact mu_zret hx hb hr (by decide) (by simp only [ho, sel_f, selg_f]; exact hP) hS d_M_open_26 hlocks (by rw [ho]; decide)
      · skip
        rw [ix_gt (x := x) (n := 6) (by omega)] at hc17
        refine lv_iload_n hx hb d_M_open_20 rfl (lv_at hl 2 rfl) ?_
        refine lv_iconst (v := nI 2) hx hb d_M_open_21 (by decide) ?_
        refine lv_icmp_ge (tgt := 27) hx hb d_M_open_22 (by decide) (fun hc22 => ?_) (fun hc22 => ?_)
        · skip
          rw [ix_le (x := y) (n := 2) (by omega)] at hc22
          obtain ⟨ka, hka, rfl⟩ := ix_of (x := x) (by omega)
          obtain ⟨kb, hkb, rfl⟩ := ix_of (x := y) (by omega)
          rw [nI_toInt hka] at hc11 hc17
          rw [nI_toInt hkb] at hc22
          refine lv_lconst (v := lN 1) hx hb d_M_open_27 rfl ?_
          refine lv_lstore_n (lv' := [(3, .long (lN 1)), (0, .ref h1), (1, .int (nI ka)), (2, .int (nI kb))]) hx hb d_M_open_28 rfl hl (by decide) rfl (fun ls hl => ?_)
          refine lv_iconst (v := nI 0) hx hb d_M_open_29 (by decide) ?_
          refine lv_istore (lv' := [(5, .int (nI 0)), (3, .long (lN 1)), (0, .ref h1), (1, .int (nI ka)), (2, .int (nI kb))]) hx hb d_M_open_30 hl (by decide) rfl (fun ls hl => ?_)
          refine lp_M_open_32 hx hb hts hown hK hP (by omega) (by omega) (by omega) hkb (fun r i ls hl hq hrl => ?_) _ 1 0 ls (lv_sub hl [1, 0, 2, 3, 4] rfl) (by omega) (by omega) (fun _ => by rw [Nat.pow_zero]) (fun hh => by rw [Nat.pow_zero]; exact hh) rfl
          refine lv_lload_n hx hb d_M_open_62 rfl (lv_at hl 0 rfl) ?_
          refine lv_aload_n hx hb d_M_open_63 rfl (lv_at hl 2 rfl) ?_
          refine va_get (D := (dC, dI)) (ci := 1) (v := .long (lN (p * q))) (C := R_M) (T := F_M) (N := 9) hx hb hts f_M hown hK hP 0 rfl rfl 0 (by decide) (hts _ (al_m aw_t207)) (fun _ h9 => h9) rfl d_M_open_64 ?_
          refine W.lcmp hx hb d_M_open_67 ?_
          refine lv_if_le (tgt := 73) hx hb d_M_open_68 (by decide) (fun hc68 => ?_) (fun hc68 => ?_)
          · skip
            rw [lg_cmp_le] at hc68
            rw [pk_lLE (a := r) (b := p * q) (by omega) (by omega)] at hc68
            have ho : sp_open p q (nI ka) (nI kb) = true := by have hnk : kb ^ ka ≤ p * q := hq.mp hc68; simp only [sp_open, sp_box, ix_nat hka, ix_nat hkb, nI_toInt hka, nI_toInt hkb, Int.toNat_natCast, ne_eq, Bool.and_eq_true, decide_eq_true_eq]; omega
            refine lv_aload_n hx hb d_M_open_73 rfl (lv_at hl 2 rfl) ?_
            refine lv_iconst (v := nI 1) hx hb d_M_open_74 (by decide) ?_
            refine va_put (D := (dC, dI)) (ci := 1) (v := .int (nI 1)) (ty := .boolean) (C := R_M) (T := F_M) (N := 9) hx hb hts f_M t_M t_M_ok n_M hown hK hP hD hS 0 rfl rfl 4 (by decide) (hts _ (al_m aw_t211)) (fun _ h9 => h9) rfl (by decide +kernel) rfl rfl (Nat.le_of_ble_eq_true rfl) d_M_open_75 (fun H locs hP hD hS => ?_)
            have hP : va_P (dC, dI) classes [(h1, .inr (1, [.long (lN (p * q)), .long (lN (p * q * (p * q))), .long (lN (sp_f p q)), .long (lN (sp_cex p q)), .int (nI 1), .int (nI cl), .int (nI cd), .int (nI rd), .ref q1])), (q1, .inl (cB, 30, .inr (.inl (fun j => lN (g j)))))] H := hP
            have hD : va_D A [(h1, .inr (1, [.long (lN (p * q)), .long (lN (p * q * (p * q))), .long (lN (sp_f p q)), .long (lN (sp_cex p q)), .int (nI 1), .int (nI cl), .int (nI cd), .int (nI rd), .ref q1])), (q1, .inl (cB, 30, .inr (.inl (fun j => lN (g j)))))] := hD
            refine lv_aload_n hx hb d_M_open_78 rfl (lv_at hl 2 rfl) ?_
            refine lv_iconst (v := nI 0) hx hb d_M_open_79 (by decide) ?_
            refine va_put (D := (dC, dI)) (ci := 1) (v := .int (nI 0)) (ty := .boolean) (C := R_M) (T := F_M) (N := 9) hx hb hts f_M t_M t_M_ok n_M hown hK hP hD hS 0 rfl rfl 5 (by decide) (hts _ (al_m aw_t212)) (fun _ h9 => h9) rfl (by decide +kernel) rfl rfl (Nat.le_of_ble_eq_true rfl) d_M_open_80 (fun H locs hP hD hS => ?_)
            have hP : va_P (dC, dI) classes [(h1, .inr (1, [.long (lN (p * q)), .long (lN (p * q * (p * q))), .long (lN (sp_f p q)), .long (lN (sp_cex p q)), .int (nI 1), .int (nI 0), .int (nI cd), .int (nI rd), .ref q1])), (q1, .inl (cB, 30, .inr (.inl (fun j => lN (g j)))))] H := hP
            have hD : va_D A [(h1, .inr (1, [.long (lN (p * q)), .long (lN (p * q * (p * q))), .long (lN (sp_f p q)), .long (lN (sp_cex p q)), .int (nI 1), .int (nI 0), .int (nI cd), .int (nI rd), .ref q1])), (q1, .inl (cB, 30, .inr (.inl (fun j => lN (g j)))))] := hD
            refine lv_aload_n hx hb d_M_open_83 rfl (lv_at hl 2 rfl) ?_
            refine lv_iload_n hx hb d_M_open_84 rfl (lv_at hl 3 rfl) ?_
            refine va_put (D := (dC, dI)) (ci := 1) (v := .int (nI ka)) (ty := .int) (C := R_M) (T := F_M) (N := 9) hx hb hts f_M t_M t_M_ok n_M hown hK hP hD hS 0 rfl rfl 6 (by decide) (hts _ (al_m aw_t213)) (fun _ h9 => h9) rfl (by decide +kernel) rfl rfl (Nat.le_of_ble_eq_true rfl) d_M_open_85 (fun H locs hP hD hS => ?_)
            have hP : va_P (dC, dI) classes [(h1, .inr (1, [.long (lN (p * q)), .long (lN (p * q * (p * q))), .long (lN (sp_f p q)), .long (lN (sp_cex p q)), .int (nI 1), .int (nI 0), .int (nI ka), .int (nI rd), .ref q1])), (q1, .inl (cB, 30, .inr (.inl (fun j => lN (g j)))))] H := hP
            have hD : va_D A [(h1, .inr (1, [.long (lN (p * q)), .long (lN (p * q * (p * q))), .long (lN (sp_f p q)), .long (lN (sp_cex p q)), .int (nI 1), .int (nI 0), .int (nI ka), .int (nI rd), .ref q1])), (q1, .inl (cB, 30, .inr (.inl (fun j => lN (g j)))))] := hD
            refine lv_aload_n hx hb d_M_open_88 rfl (lv_at hl 2 rfl) ?_
            refine lv_iload_n hx hb d_M_open_89 rfl (lv_at hl 4 rfl) ?_
            refine va_put (D := (dC, dI)) (ci := 1) (v := .int (nI kb)) (ty := .int) (C := R_M) (T := F_M) (N := 9) hx hb hts f_M t_M t_M_ok n_M hown hK hP hD hS 0 rfl rfl 7 (by decide) (hts _ (al_m aw_t214)) (fun _ h9 => h9) rfl (by decide +kernel) rfl rfl (Nat.le_of_ble_eq_true rfl) d_M_open_90 (fun H locs hP hD hS => ?_)
            have hP : va_P (dC, dI) classes [(h1, .inr (1, [.long (lN (p * q)), .long (lN (p * q * (p * q))), .long (lN (sp_f p q)), .long (lN (sp_cex p q)), .int (nI 1), .int (nI 0), .int (nI ka), .int (nI kb), .ref q1])), (q1, .inl (cB, 30, .inr (.inl (fun j => lN (g j)))))] H := hP
            have hD : va_D A [(h1, .inr (1, [.long (lN (p * q)), .long (lN (p * q * (p * q))), .long (lN (sp_f p q)), .long (lN (sp_cex p q)), .int (nI 1), .int (nI 0), .int (nI ka), .int (nI kb), .ref q1])), (q1, .inl (cB, 30, .inr (.inl (fun j => lN (g j)))))] := hD
            refine lv_iconst (v := nI 0) hx hb d_M_open_93 (by decide) ?_
            refine lv_istore (lv' := [(5, .int (nI 0)), (3, .long (lN r)), (0, .ref h1), (1, .int (nI ka)), (2, .int (nI kb))]) hx hb d_M_open_94 hl (by decide) rfl (fun ls hl => ?_)
            rw [← fz_0 (g := g)] at hP hD
            refine lp_M_open_96 hx hb hts hown hK  (fun i H locs ls hl hP hD hS hq2 => ?_) _ 0 _ _ ls (lv_sub hl [0, 2] rfl) hP hD hS (by omega) rfl
            refine lv_iconst (v := nI 1) hx hb d_M_open_117 (by decide) ?_
            rw [hAe] at hS
            exact mu_zret hx hb hr (by decide) (by simp only [ho, sel_t, selg_t, ix_nat hka, ix_nat hkb]; rw [hq2] at hP; exact hP) hS d_M_open_118 hlocks (by rw [ho]; decide)
          · skip
            rw [lg_cmp_le] at hc68
            rw [pk_lLE (a := r) (b := p * q) (by omega) (by omega)] at hc68
            have ho : sp_open p q (nI ka) (nI kb) = false := by have hnk : ¬ kb ^ ka ≤ p * q := (fun z => hc68 (hq.mpr z)); simp only [sp_open, sp_box, ix_nat hka, ix_nat hkb, nI_toInt hka, nI_toInt hkb, Int.toNat_natCast, ne_eq, Bool.and_eq_false_iff, decide_eq_false_iff_not]; omega
            refine lv_iconst (v := nI 0) hx hb d_M_open_71 (by decide) ?_
            rw [hAe] at hS
            exact mu_zret hx hb hr (by decide) (by simp only [ho, sel_f, selg_f]; exact hP) hS d_M_open_72 hlocks (by rw [ho]; decide)
        · skip
          rw [ix_le (x := y) (n := 2) (by omega)] at hc22
          have ho : sp_open p q x y = false := by simp only [sp_open, sp_box, ne_eq, Bool.and_eq_false_iff, decide_eq_false_iff_not]; omega
          refine lv_iconst (v := nI 0) hx hb d_M_open_25 (by decide) ?_
          rw [hAe] at hS
          exact mu_zret hx hb hr (by decide) (by simp only [ho, sel_f, selg_f]; exact hP) hS d_M_open_26 hlocks (by rw [ho]; decide)

set_option maxHeartbeats 4000000 in
set_option maxRecDepth 100000 in
theorem c_M_close (l : Launch) (dC : Nat → ClassId) (dI : Nat → Nat → Nat) (h1 q1 : Nat) (cB : ClassId) (p q bx cl cd rd : Nat) (g : Nat → Nat) (cx : Nat) (hj : Jv p q cx rd g) (hrd : rd < 2 ^ 31) (hbx : bx = 0 ↔ cx = 0) (hbx1 : bx ≤ 1) (hcl : cl ≤ 1) (hne : h1 ≠ q1) : Met l y_M_close w_M_close ({ frames := 3, cells := 0, slots := 0, locals := 83 }) (va_Pc [.ref h1] (fun U => va_P (dC, dI) classes [(h1, .inr (1, [.long (lN (p * q)), .long (lN (p * q * (p * q))), .long (lN (sp_f p q)), .long (lN (sp_cex p q)), .int (nI bx), .int (nI cl), .int (nI cd), .int (nI rd), .ref q1])), (q1, .inl (cB, 30, .inr (.inl (fun j => lN (g j)))))] U.heap ∧ va_K (dC, dI) classes [(cB, .long)] U)) (qmL (an_close p q cx cl g) (dC, dI) classes [(h1, .inr (1, [.long (lN (p * q)), .long (lN (p * q * (p * q))), .long (lN (sp_f p q)), .long (lN (sp_cex p q)), .int (nI bx), .int (nI (sel (decide (cx = 0)) cl 1)), .int (nI cd), .int (nI rd), .ref q1])), (q1, .inl (cB, 30, .inr (.inl (fun j => lN (g j)))))] h1 q1) 0 0 (two h1 q1) := by
  refine Met.ofW (cc := b_M_close) (maxL := 1) (ret := some .long) (by decide) rfl ?_
  intro pg ev s mi args below meth co s₁ B hml hv
  obtain ⟨rfl, hP, hK⟩ := hv
  have hx := B.exec
  have hb := B.bytes
  have hr := B.returns
  have hts := atoms_spec (ws := w_M_close) B.pre
  have hown : s.vm.findClass R_M = some mi.cls := findClass_of_methodNamed B.named
  have hlocks := B.notSynchronized
  have hS : va_S (two h1 q1) s.heap s.heap [] := va_S.rf
  have hP : va_P (dC, dI) classes [(h1, .inr (1, [.long (lN (p * q)), .long (lN (p * q * (p * q))), .long (lN (sp_f p q)), .long (lN (sp_cex p q)), .int (nI bx), .int (nI cl), .int (nI cd), .int (nI rd), .ref q1])), (q1, .inl (cB, 30, .inr (.inl (fun j => lN (g j)))))] s.heap := hP
  obtain ⟨A, hAe⟩ : ∃ A : Nat → Prop, A = two h1 q1 := ⟨_, rfl⟩
  rw [← hAe] at hS
  have hD : va_D A [(h1, .inr (1, [.long (lN (p * q)), .long (lN (p * q * (p * q))), .long (lN (sp_f p q)), .long (lN (sp_cex p q)), .int (nI bx), .int (nI cl), .int (nI cd), .int (nI rd), .ref q1])), (q1, .inl (cB, 30, .inr (.inl (fun j => lN (g j)))))] := by rw [hAe]; exact mu_D hne
  have hl := lv_entry ([.ref h1]) (n := 1) (Nat.le_of_ble_eq_true rfl)
  rw [lg_entry_eq]
  generalize (lg_sl ([.ref h1]) ++ List.replicate (1 - (lg_sl ([.ref h1])).length) Slot.unset).toArray = ls at hl ⊢
  have hl : lv_has ls 1 [(0, .ref h1)] := hl
  have hjn := jv_n hj
  have hcb := fa_cnt_le g 30
  refine lv_aload_n hx hb d_M_close_0 rfl (lv_at hl 0 rfl) ?_
  refine va_get (D := (dC, dI)) (ci := 1) (v := .int (nI bx)) (C := R_M) (T := F_M) (N := 9) hx hb hts f_M hown hK hP 0 rfl rfl 4 (by decide) (hts _ (al_m aw_t211)) (fun _ h9 => h9) rfl d_M_close_1 ?_
  refine lv_if_eq (tgt := 14) hx hb d_M_close_4 (by decide) (fun hc4 => ?_) (fun hc4 => ?_)
  · skip
    rw [← nI_0] at hc4
    rw [nI_eq (a := bx) (b := 0) (by omega) (by omega)] at hc4
    have hx0 : cx = 0 := hbx.mp hc4
    refine lv_aload_n hx hb d_M_close_14 rfl (lv_at hl 0 rfl) ?_
    refine va_get (D := (dC, dI)) (ci := 1) (v := .int (nI bx)) (C := R_M) (T := F_M) (N := 9) hx hb hts f_M hown hK hP 0 rfl rfl 4 (by decide) (hts _ (al_m aw_t211)) (fun _ h9 => h9) rfl d_M_close_15 ?_
    refine lv_if_eq (tgt := 27) hx hb d_M_close_18 (by decide) (fun hc18 => ?_) (fun hc18 => ?_)
    · skip
      rw [← nI_0] at hc18
      rw [nI_eq (a := bx) (b := 0) (by omega) (by omega)] at hc18
      refine lv_ldc2 (v := -2) hx hb hown (hts _ (al_m aw_t307)) d_M_close_27 ?_
      rw [hAe] at hS
      exact mu_lret hx hb hr (by simp only [decide_eq_true hx0, sel_t]; exact hP) hS d_M_close_30 hlocks (by simp [an_close, hx0])
    · skip
      rw [← nI_0] at hc18
      rw [nI_eq (a := bx) (b := 0) (by omega) (by omega)] at hc18
      omega
  · skip
    rw [← nI_0] at hc4
    rw [nI_eq (a := bx) (b := 0) (by omega) (by omega)] at hc4
    have hx0 : cx ≠ 0 := fun hh => hc4 (hbx.mpr hh)
    obtain ⟨hk, hx1, hx6, hr2, hrp, hgj⟩ := jv_box hj hx0
    have hbg := ma_big hk
    have hp3 := hk.1.1
    have hq3 := hk.2.1.1
    have hp9 := hk.1.2.1
    have hq9 := hk.2.1.2.1
    have hkf := ma_keyf hk
    refine lv_aload_n hx hb d_M_close_7 rfl (lv_at hl 0 rfl) ?_
    refine va_get (D := (dC, dI)) (ci := 1) (v := .int (nI cl)) (C := R_M) (T := F_M) (N := 9) hx hb hts f_M hown hK hP 0 rfl rfl 5 (by decide) (hts _ (al_m aw_t212)) (fun _ h9 => h9) rfl d_M_close_8 ?_
    refine lv_if_eq (tgt := 31) hx hb d_M_close_11 (by decide) (fun hc11 => ?_) (fun hc11 => ?_)
    · skip
      rw [← nI_0] at hc11
      rw [nI_eq (a := cl) (b := 0) (by omega) (by omega)] at hc11
      have hcl0 : cl ≠ 1 := by omega
      refine lv_aload_n hx hb d_M_close_31 rfl (lv_at hl 0 rfl) ?_
      refine lv_iconst (v := nI 1) hx hb d_M_close_32 (by decide) ?_
      refine va_put (D := (dC, dI)) (ci := 1) (v := .int (nI 1)) (ty := .boolean) (C := R_M) (T := F_M) (N := 9) hx hb hts f_M t_M t_M_ok n_M hown hK hP hD hS 0 rfl rfl 5 (by decide) (hts _ (al_m aw_t212)) (fun _ h9 => h9) rfl (by decide +kernel) rfl rfl (Nat.le_of_ble_eq_true rfl) d_M_close_33 (fun H locs hP hD hS => ?_)
      have hP : va_P (dC, dI) classes [(h1, .inr (1, [.long (lN (p * q)), .long (lN (p * q * (p * q))), .long (lN (sp_f p q)), .long (lN (sp_cex p q)), .int (nI bx), .int (nI 1), .int (nI cd), .int (nI rd), .ref q1])), (q1, .inl (cB, 30, .inr (.inl (fun j => lN (g j)))))] H := hP
      have hD : va_D A [(h1, .inr (1, [.long (lN (p * q)), .long (lN (p * q * (p * q))), .long (lN (sp_f p q)), .long (lN (sp_cex p q)), .int (nI bx), .int (nI 1), .int (nI cd), .int (nI rd), .ref q1])), (q1, .inl (cB, 30, .inr (.inl (fun j => lN (g j)))))] := hD
      refine lv_aload_n hx hb d_M_close_36 rfl (lv_at hl 0 rfl) ?_
      refine lv_aload_n hx hb d_M_close_37 rfl (lv_at hl 0 rfl) ?_
      refine pu_l (va_runV (As := []) (rest := [.ref h1]) ⟨hx, hb, hml, hown, hts⟩ (c_M_product l dC dI h1 q1 cB p q bx 1 cd rd g hk (fun j hj0 => (hgj j hj0).1)) (cwV 0 hts (al_V (k_M_product) (aw_t338) (aw_t340) (aw_p21) (aw_t2)) rfl rfl rfl (by decide +kernel) ⟨Nat.le_of_ble_eq_true rfl, Nat.le_of_ble_eq_true rfl⟩) (pu_preV (q0 := 0) (ci := 1) hK hP rfl rfl) rfl rfl hl.1 rfl (lv_room (Nat.le_of_ble_eq_true rfl)) d_M_close_38 ⟨Nat.zero_le _, Nat.zero_le _⟩) hS (fun H locs hkp hS => ?_)
      have hP := hkp _ _ _ hP
      obtain ⟨hs1, hs2, hs3⟩ := fa_seal hk (fun j hj0 => (hgj j hj0).2)
      refine pu_l (va_runV (As := [.long (lN (sp_prod g 30 % (p * q * (p * q))))]) (rest := []) ⟨hx, hb, hml, hown, hts⟩ (c_M_messageIn l dC dI h1 q1 cB p q bx 1 cd rd g (sp_prod g 30 % (p * q * (p * q))) hk hs3 hs1 hs2) (cwV 1 hts (al_V (k_M_messageIn) (aw_t279) (aw_t281) (aw_p17) (aw_t2)) rfl rfl rfl (by decide +kernel) ⟨Nat.le_of_ble_eq_true rfl, Nat.le_of_ble_eq_true rfl⟩) (pu_preV (q0 := 0) (ci := 1) hK hP rfl rfl) rfl rfl hl.1 rfl (lv_room (Nat.le_of_ble_eq_true rfl)) d_M_close_41 ⟨Nat.zero_le _, Nat.zero_le _⟩) hS (fun H locs hkp hS => ?_)
      have hP := hkp _ _ _ hP
      rw [hAe] at hS
      exact mu_lret hx hb hr (by simp only [decide_eq_false hx0, sel_f]; exact hP) hS d_M_close_44 hlocks (by simp [an_close, hx0, hcl0])
    · skip
      rw [← nI_0] at hc11
      rw [nI_eq (a := cl) (b := 0) (by omega) (by omega)] at hc11
      have hc1 : cl = 1 := by omega
      refine lv_aload_n hx hb d_M_close_14 rfl (lv_at hl 0 rfl) ?_
      refine va_get (D := (dC, dI)) (ci := 1) (v := .int (nI bx)) (C := R_M) (T := F_M) (N := 9) hx hb hts f_M hown hK hP 0 rfl rfl 4 (by decide) (hts _ (al_m aw_t211)) (fun _ h9 => h9) rfl d_M_close_15 ?_
      refine lv_if_eq (tgt := 27) hx hb d_M_close_18 (by decide) (fun hc18 => ?_) (fun hc18 => ?_)
      · skip
        rw [← nI_0] at hc18
        rw [nI_eq (a := bx) (b := 0) (by omega) (by omega)] at hc18
        omega
      · skip
        rw [← nI_0] at hc18
        rw [nI_eq (a := bx) (b := 0) (by omega) (by omega)] at hc18
        refine lv_ldc2 (v := -3) hx hb hown (hts _ (al_m aw_t324)) d_M_close_21 ?_
        refine lv_goto (tgt := 30) hx hb d_M_close_24 (by decide) ?_
        rw [hAe] at hS
        exact mu_lret hx hb hr (by simp only [decide_eq_false hx0, sel_f]; rw [hc1] at hP; exact hP) hS d_M_close_30 hlocks (by simp [an_close, hx0, hc1])

set_option maxHeartbeats 4000000 in
set_option maxRecDepth 100000 in
theorem c_M_withdraw (l : Launch) (dC : Nat → ClassId) (dI : Nat → Nat → Nat) (h1 q1 : Nat) (cB : ClassId) (p q bx cl cd rd : Nat) (g : Nat → Nat) (x : Int32) (cx : Nat) (hj : Jv p q cx rd g) (hrd : rd < 2 ^ 31) (hbx : bx = 0 ↔ cx = 0) (hbx1 : bx ≤ 1) (hcl : cl ≤ 1) (hne : h1 ≠ q1) : Met l y_M_withdraw w_M_withdraw ({ frames := 0, cells := 0, slots := 0, locals := 0 }) (va_Pc [.ref h1, .int x] (fun U => va_P (dC, dI) classes [(h1, .inr (1, [.long (lN (p * q)), .long (lN (p * q * (p * q))), .long (lN (sp_f p q)), .long (lN (sp_cex p q)), .int (nI bx), .int (nI cl), .int (nI cd), .int (nI rd), .ref q1])), (q1, .inl (cB, 30, .inr (.inl (fun j => lN (g j)))))] U.heap ∧ va_K (dC, dI) classes [(cB, .long)] U)) (qmL (an_withdraw cx cl g x) (dC, dI) classes [(h1, .inr (1, [.long (lN (p * q)), .long (lN (p * q * (p * q))), .long (lN (sp_f p q)), .long (lN (sp_cex p q)), .int (nI bx), .int (nI cl), .int (nI cd), .int (nI rd), .ref q1])), (q1, .inl (cB, 30, .inr (.inl (fun j => lN ((nx_withdraw cx cl g x) j)))))] h1 q1) 0 0 (two h1 q1) := by
  refine Met.ofW (cc := b_M_withdraw) (maxL := 4) (ret := some .long) (by decide) rfl ?_
  intro pg ev s mi args below meth co s₁ B hml hv
  obtain ⟨rfl, hP, hK⟩ := hv
  have hx := B.exec
  have hb := B.bytes
  have hr := B.returns
  have hts := atoms_spec (ws := w_M_withdraw) B.pre
  have hown : s.vm.findClass R_M = some mi.cls := findClass_of_methodNamed B.named
  have hlocks := B.notSynchronized
  have hS : va_S (two h1 q1) s.heap s.heap [] := va_S.rf
  have hP : va_P (dC, dI) classes [(h1, .inr (1, [.long (lN (p * q)), .long (lN (p * q * (p * q))), .long (lN (sp_f p q)), .long (lN (sp_cex p q)), .int (nI bx), .int (nI cl), .int (nI cd), .int (nI rd), .ref q1])), (q1, .inl (cB, 30, .inr (.inl (fun j => lN (g j)))))] s.heap := hP
  obtain ⟨A, hAe⟩ : ∃ A : Nat → Prop, A = two h1 q1 := ⟨_, rfl⟩
  rw [← hAe] at hS
  have hD : va_D A [(h1, .inr (1, [.long (lN (p * q)), .long (lN (p * q * (p * q))), .long (lN (sp_f p q)), .long (lN (sp_cex p q)), .int (nI bx), .int (nI cl), .int (nI cd), .int (nI rd), .ref q1])), (q1, .inl (cB, 30, .inr (.inl (fun j => lN (g j)))))] := by rw [hAe]; exact mu_D hne
  have hl := lv_entry ([.ref h1, .int x]) (n := 4) (Nat.le_of_ble_eq_true rfl)
  rw [lg_entry_eq]
  generalize (lg_sl ([.ref h1, .int x]) ++ List.replicate (4 - (lg_sl ([.ref h1, .int x])).length) Slot.unset).toArray = ls at hl ⊢
  have hl : lv_has ls 4 [(0, .ref h1), (1, .int x)] := hl
  have hjn := jv_n hj
  have hcb := fa_cnt_le g 30
  refine lv_aload_n hx hb d_M_withdraw_0 rfl (lv_at hl 0 rfl) ?_
  refine va_get (D := (dC, dI)) (ci := 1) (v := .int (nI bx)) (C := R_M) (T := F_M) (N := 9) hx hb hts f_M hown hK hP 0 rfl rfl 4 (by decide) (hts _ (al_m aw_t211)) (fun _ h9 => h9) rfl d_M_withdraw_1 ?_
  refine lv_if_eq (tgt := 14) hx hb d_M_withdraw_4 (by decide) (fun hc4 => ?_) (fun hc4 => ?_)
  · skip
    rw [← nI_0] at hc4
    rw [nI_eq (a := bx) (b := 0) (by omega) (by omega)] at hc4
    have hx0 : cx = 0 := hbx.mp hc4
    refine lv_aload_n hx hb d_M_withdraw_14 rfl (lv_at hl 0 rfl) ?_
    refine va_get (D := (dC, dI)) (ci := 1) (v := .int (nI bx)) (C := R_M) (T := F_M) (N := 9) hx hb hts f_M hown hK hP 0 rfl rfl 4 (by decide) (hts _ (al_m aw_t211)) (fun _ h9 => h9) rfl d_M_withdraw_15 ?_
    refine lv_if_eq (tgt := 27) hx hb d_M_withdraw_18 (by decide) (fun hc18 => ?_) (fun hc18 => ?_)
    · skip
      rw [← nI_0] at hc18
      rw [nI_eq (a := bx) (b := 0) (by omega) (by omega)] at hc18
      refine lv_ldc2 (v := -2) hx hb hown (hts _ (al_m aw_t307)) d_M_withdraw_27 ?_
      rw [hAe] at hS
      exact mu_lret hx hb hr (by simp only [nx_withdraw, if_pos hx0]; exact hP) hS d_M_withdraw_30 hlocks (by simp [an_withdraw, hx0])
    · skip
      rw [← nI_0] at hc18
      rw [nI_eq (a := bx) (b := 0) (by omega) (by omega)] at hc18
      omega
  · skip
    rw [← nI_0] at hc4
    rw [nI_eq (a := bx) (b := 0) (by omega) (by omega)] at hc4
    have hx0 : cx ≠ 0 := fun hh => hc4 (hbx.mpr hh)
    obtain ⟨hk, hx1, hx6, hr2, hrp, hgj⟩ := jv_box hj hx0
    have hbg := ma_big hk
    have hp3 := hk.1.1
    have hq3 := hk.2.1.1
    have hp9 := hk.1.2.1
    have hq9 := hk.2.1.2.1
    have hkf := ma_keyf hk
    refine lv_aload_n hx hb d_M_withdraw_7 rfl (lv_at hl 0 rfl) ?_
    refine va_get (D := (dC, dI)) (ci := 1) (v := .int (nI cl)) (C := R_M) (T := F_M) (N := 9) hx hb hts f_M hown hK hP 0 rfl rfl 5 (by decide) (hts _ (al_m aw_t212)) (fun _ h9 => h9) rfl d_M_withdraw_8 ?_
    refine lv_if_eq (tgt := 31) hx hb d_M_withdraw_11 (by decide) (fun hc11 => ?_) (fun hc11 => ?_)
    · skip
      rw [← nI_0] at hc11
      rw [nI_eq (a := cl) (b := 0) (by omega) (by omega)] at hc11
      have hcl0 : cl ≠ 1 := by omega
      refine lv_iload_n hx hb d_M_withdraw_31 rfl (lv_at hl 1 rfl) ?_
      refine lv_if_lt (tgt := 41) hx hb d_M_withdraw_32 (by decide) (fun hc32 => ?_) (fun hc32 => ?_)
      · skip
        rw [← nI_0] at hc32
        rw [ix_lt (x := x) (n := 0) (by omega)] at hc32
        have hcb_ : sp_cand 30 x = false := by simp only [sp_cand, Bool.and_eq_false_iff, decide_eq_false_iff_not]; omega
        refine lv_ldc2 (v := -4) hx hb hown (hts _ (al_m aw_t270)) d_M_withdraw_41 ?_
        rw [hAe] at hS
        exact mu_lret hx hb hr (by simp only [nx_withdraw, if_neg hx0, if_neg hcl0, hcb_, Bool.false_eq_true, if_false]; exact hP) hS d_M_withdraw_44 hlocks (by simp [an_withdraw, hx0, hcl0, hcb_])
      · skip
        rw [← nI_0] at hc32
        rw [ix_lt (x := x) (n := 0) (by omega)] at hc32
        refine lv_iload_n hx hb d_M_withdraw_35 rfl (lv_at hl 1 rfl) ?_
        refine lv_bipush (v := nI 29) hx hb d_M_withdraw_36 (by decide) ?_
        refine lv_icmp_le (tgt := 45) hx hb d_M_withdraw_38 (by decide) (fun hc38 => ?_) (fun hc38 => ?_)
        · skip
          rw [ix_ge (x := x) (n := 29) (by omega)] at hc38
          have hct : sp_cand 30 x = true := by simp only [sp_cand, Bool.and_eq_true, decide_eq_true_eq]; omega
          obtain ⟨a, ha1, ha2, rfl⟩ := sp_cand_of hct
          have hga := (hgj a ha1).1
          refine lv_aload_n hx hb d_M_withdraw_45 rfl (lv_at hl 0 rfl) ?_
          refine va_get (D := (dC, dI)) (ci := 1) (v := .ref q1) (C := R_M) (T := F_M) (N := 9) hx hb hts f_M hown hK hP 0 rfl rfl 8 (by decide) (hts _ (al_m aw_t215)) (fun _ h9 => h9) rfl d_M_withdraw_46 ?_
          refine lv_iload_n hx hb d_M_withdraw_49 rfl (lv_at hl 1 rfl) ?_
          refine va_lald hx hb hK hP 1 0 rfl rfl (vp_in_nI (by omega) (by decide)) d_M_withdraw_50 ?_
          refine wk_l (y := lN (g a)) (by rw [nI_clamp (by omega)]) ?_
          refine lv_lstore_n (lv' := [(2, .long (lN (g a))), (0, .ref h1), (1, .int (nI a))]) hx hb d_M_withdraw_51 rfl hl (by decide) rfl (fun ls hl => ?_)
          refine lv_aload_n hx hb d_M_withdraw_52 rfl (lv_at hl 1 rfl) ?_
          refine va_get (D := (dC, dI)) (ci := 1) (v := .ref q1) (C := R_M) (T := F_M) (N := 9) hx hb hts f_M hown hK hP 0 rfl rfl 8 (by decide) (hts _ (al_m aw_t215)) (fun _ h9 => h9) rfl d_M_withdraw_53 ?_
          refine lv_iload_n hx hb d_M_withdraw_56 rfl (lv_at hl 2 rfl) ?_
          refine lv_lconst (v := lN 0) hx hb d_M_withdraw_57 rfl ?_
          refine va_last hx hb hK hP hD hS 1 0 rfl rfl (vp_in_nI (by omega) (by decide)) d_M_withdraw_58 (fun H locs hP hD hS => ?_)
          rw [nI_clamp (by omega), gu_eq] at hP hD
          have hP : va_P (dC, dI) classes [(h1, .inr (1, [.long (lN (p * q)), .long (lN (p * q * (p * q))), .long (lN (sp_f p q)), .long (lN (sp_cex p q)), .int (nI bx), .int (nI cl), .int (nI cd), .int (nI rd), .ref q1])), (q1, .inl (cB, 30, .inr (.inl (fun j => lN ((gu g a 0) j)))))] H := hP
          have hD : va_D A [(h1, .inr (1, [.long (lN (p * q)), .long (lN (p * q * (p * q))), .long (lN (sp_f p q)), .long (lN (sp_cex p q)), .int (nI bx), .int (nI cl), .int (nI cd), .int (nI rd), .ref q1])), (q1, .inl (cB, 30, .inr (.inl (fun j => lN ((gu g a 0) j)))))] := hD
          refine lv_lload_n hx hb d_M_withdraw_59 rfl (lv_at hl 0 rfl) ?_
          refine lv_lconst (v := lN 0) hx hb d_M_withdraw_60 rfl ?_
          refine W.lcmp hx hb d_M_withdraw_61 ?_
          refine lv_if_ne (tgt := 71) hx hb d_M_withdraw_62 (by decide) (fun hc62 => ?_) (fun hc62 => ?_)
          · skip
            rw [lg_cmp_eq] at hc62
            rw [pk_lEQ (a := g a) (b := 0) (by omega) (by omega)] at hc62
            refine lv_lload_n hx hb d_M_withdraw_71 rfl (lv_at hl 0 rfl) ?_
            rw [hAe] at hS
            exact mu_lret hx hb hr (by simp only [nx_withdraw, if_neg hx0, if_neg hcl0, hct, if_true, ix_nat ha2]; exact hP) hS d_M_withdraw_72 hlocks (by simp [an_withdraw, hx0, hcl0, hct, ix_nat ha2, hc62])
          · skip
            rw [lg_cmp_eq] at hc62
            rw [pk_lEQ (a := g a) (b := 0) (by omega) (by omega)] at hc62
            refine lv_ldc2 (v := -6) hx hb hown (hts _ (al_m aw_t325)) d_M_withdraw_65 ?_
            refine lv_goto (tgt := 72) hx hb d_M_withdraw_68 (by decide) ?_
            rw [hAe] at hS
            exact mu_lret hx hb hr (by simp only [nx_withdraw, if_neg hx0, if_neg hcl0, hct, if_true, ix_nat ha2]; exact hP) hS d_M_withdraw_72 hlocks (by simp [an_withdraw, hx0, hcl0, hct, ix_nat ha2, hc62])
        · skip
          rw [ix_ge (x := x) (n := 29) (by omega)] at hc38
          have hcb_ : sp_cand 30 x = false := by simp only [sp_cand, Bool.and_eq_false_iff, decide_eq_false_iff_not]; omega
          refine lv_ldc2 (v := -4) hx hb hown (hts _ (al_m aw_t270)) d_M_withdraw_41 ?_
          rw [hAe] at hS
          exact mu_lret hx hb hr (by simp only [nx_withdraw, if_neg hx0, if_neg hcl0, hcb_, Bool.false_eq_true, if_false]; exact hP) hS d_M_withdraw_44 hlocks (by simp [an_withdraw, hx0, hcl0, hcb_])
    · skip
      rw [← nI_0] at hc11
      rw [nI_eq (a := cl) (b := 0) (by omega) (by omega)] at hc11
      have hc1 : cl = 1 := by omega
      refine lv_aload_n hx hb d_M_withdraw_14 rfl (lv_at hl 0 rfl) ?_
      refine va_get (D := (dC, dI)) (ci := 1) (v := .int (nI bx)) (C := R_M) (T := F_M) (N := 9) hx hb hts f_M hown hK hP 0 rfl rfl 4 (by decide) (hts _ (al_m aw_t211)) (fun _ h9 => h9) rfl d_M_withdraw_15 ?_
      refine lv_if_eq (tgt := 27) hx hb d_M_withdraw_18 (by decide) (fun hc18 => ?_) (fun hc18 => ?_)
      · skip
        rw [← nI_0] at hc18
        rw [nI_eq (a := bx) (b := 0) (by omega) (by omega)] at hc18
        omega
      · skip
        rw [← nI_0] at hc18
        rw [nI_eq (a := bx) (b := 0) (by omega) (by omega)] at hc18
        refine lv_ldc2 (v := -3) hx hb hown (hts _ (al_m aw_t324)) d_M_withdraw_21 ?_
        refine lv_goto (tgt := 30) hx hb d_M_withdraw_24 (by decide) ?_
        rw [hAe] at hS
        exact mu_lret hx hb hr (by simp only [nx_withdraw, if_neg hx0, if_pos hc1]; exact hP) hS d_M_withdraw_30 hlocks (by simp [an_withdraw, hx0, hc1])

set_option maxHeartbeats 4000000 in
set_option maxRecDepth 100000 in
theorem c_M_cast (l : Launch) (dC : Nat → ClassId) (dI : Nat → Nat → Nat) (h1 q1 : Nat) (cB : ClassId) (p q bx cl cd rd : Nat) (g : Nat → Nat) (x : Int32) (y : Int64) (cx : Nat) (hj : Jv p q cx rd g) (hrd : rd < 2 ^ 31) (hbx : bx = 0 ↔ cx = 0) (hbx1 : bx ≤ 1) (hcl : cl ≤ 1) (hne : h1 ≠ q1) : Met l y_M_cast w_M_cast ({ frames := 2, cells := 0, slots := 0, locals := 51 }) (va_Pc [.ref h1, .int x, .long y] (fun U => va_P (dC, dI) classes [(h1, .inr (1, [.long (lN (p * q)), .long (lN (p * q * (p * q))), .long (lN (sp_f p q)), .long (lN (sp_cex p q)), .int (nI bx), .int (nI cl), .int (nI cd), .int (nI rd), .ref q1])), (q1, .inl (cB, 30, .inr (.inl (fun j => lN (g j)))))] U.heap ∧ va_K (dC, dI) classes [(cB, .long)] U)) (qmI (an_cast p q cx rd cl g x y) (dC, dI) classes [(h1, .inr (1, [.long (lN (p * q)), .long (lN (p * q * (p * q))), .long (lN (sp_f p q)), .long (lN (sp_cex p q)), .int (nI bx), .int (nI cl), .int (nI cd), .int (nI rd), .ref q1])), (q1, .inl (cB, 30, .inr (.inl (fun j => lN ((nx_cast p q cx rd cl g x y) j)))))] h1 q1) 0 0 (two h1 q1) := by
  refine Met.ofW (cc := b_M_cast) (maxL := 5) (ret := some .int) (by decide) rfl ?_
  intro pg ev s mi args below meth co s₁ B hml hv
  obtain ⟨rfl, hP, hK⟩ := hv
  have hx := B.exec
  have hb := B.bytes
  have hr := B.returns
  have hts := atoms_spec (ws := w_M_cast) B.pre
  have hown : s.vm.findClass R_M = some mi.cls := findClass_of_methodNamed B.named
  have hlocks := B.notSynchronized
  have hS : va_S (two h1 q1) s.heap s.heap [] := va_S.rf
  have hP : va_P (dC, dI) classes [(h1, .inr (1, [.long (lN (p * q)), .long (lN (p * q * (p * q))), .long (lN (sp_f p q)), .long (lN (sp_cex p q)), .int (nI bx), .int (nI cl), .int (nI cd), .int (nI rd), .ref q1])), (q1, .inl (cB, 30, .inr (.inl (fun j => lN (g j)))))] s.heap := hP
  obtain ⟨A, hAe⟩ : ∃ A : Nat → Prop, A = two h1 q1 := ⟨_, rfl⟩
  rw [← hAe] at hS
  have hD : va_D A [(h1, .inr (1, [.long (lN (p * q)), .long (lN (p * q * (p * q))), .long (lN (sp_f p q)), .long (lN (sp_cex p q)), .int (nI bx), .int (nI cl), .int (nI cd), .int (nI rd), .ref q1])), (q1, .inl (cB, 30, .inr (.inl (fun j => lN (g j)))))] := by rw [hAe]; exact mu_D hne
  have hl := lv_entry ([.ref h1, .int x, .long y]) (n := 5) (Nat.le_of_ble_eq_true rfl)
  rw [lg_entry_eq]
  generalize (lg_sl ([.ref h1, .int x, .long y]) ++ List.replicate (5 - (lg_sl ([.ref h1, .int x, .long y])).length) Slot.unset).toArray = ls at hl ⊢
  have hl : lv_has ls 5 [(0, .ref h1), (1, .int x), (2, .long y)] := hl
  have hjn := jv_n hj
  have hcb := fa_cnt_le g 30
  refine lv_aload_n hx hb d_M_cast_0 rfl (lv_at hl 0 rfl) ?_
  refine va_get (D := (dC, dI)) (ci := 1) (v := .int (nI bx)) (C := R_M) (T := F_M) (N := 9) hx hb hts f_M hown hK hP 0 rfl rfl 4 (by decide) (hts _ (al_m aw_t211)) (fun _ h9 => h9) rfl d_M_cast_1 ?_
  refine lv_if_eq (tgt := 14) hx hb d_M_cast_4 (by decide) (fun hc4 => ?_) (fun hc4 => ?_)
  · skip
    rw [← nI_0] at hc4
    rw [nI_eq (a := bx) (b := 0) (by omega) (by omega)] at hc4
    have hx0 : cx = 0 := hbx.mp hc4
    refine lv_aload_n hx hb d_M_cast_14 rfl (lv_at hl 0 rfl) ?_
    refine va_get (D := (dC, dI)) (ci := 1) (v := .int (nI bx)) (C := R_M) (T := F_M) (N := 9) hx hb hts f_M hown hK hP 0 rfl rfl 4 (by decide) (hts _ (al_m aw_t211)) (fun _ h9 => h9) rfl d_M_cast_15 ?_
    refine lv_if_eq (tgt := 26) hx hb d_M_cast_18 (by decide) (fun hc18 => ?_) (fun hc18 => ?_)
    · skip
      rw [← nI_0] at hc18
      rw [nI_eq (a := bx) (b := 0) (by omega) (by omega)] at hc18
      refine lv_bipush (v := -2) hx hb d_M_cast_26 (by decide) ?_
      rw [hAe] at hS
      exact mu_iret hx hb hr (by simp only [nx_cast, if_pos hx0]; exact hP) hS d_M_cast_28 hlocks (by simp [an_cast, hx0])
    · skip
      rw [← nI_0] at hc18
      rw [nI_eq (a := bx) (b := 0) (by omega) (by omega)] at hc18
      omega
  · skip
    rw [← nI_0] at hc4
    rw [nI_eq (a := bx) (b := 0) (by omega) (by omega)] at hc4
    have hx0 : cx ≠ 0 := fun hh => hc4 (hbx.mpr hh)
    obtain ⟨hk, hx1, hx6, hr2, hrp, hgj⟩ := jv_box hj hx0
    have hbg := ma_big hk
    have hp3 := hk.1.1
    have hq3 := hk.2.1.1
    have hp9 := hk.1.2.1
    have hq9 := hk.2.1.2.1
    have hkf := ma_keyf hk
    refine lv_aload_n hx hb d_M_cast_7 rfl (lv_at hl 0 rfl) ?_
    refine va_get (D := (dC, dI)) (ci := 1) (v := .int (nI cl)) (C := R_M) (T := F_M) (N := 9) hx hb hts f_M hown hK hP 0 rfl rfl 5 (by decide) (hts _ (al_m aw_t212)) (fun _ h9 => h9) rfl d_M_cast_8 ?_
    refine lv_if_eq (tgt := 29) hx hb d_M_cast_11 (by decide) (fun hc11 => ?_) (fun hc11 => ?_)
    · skip
      rw [← nI_0] at hc11
      rw [nI_eq (a := cl) (b := 0) (by omega) (by omega)] at hc11
      have hcl0 : cl ≠ 1 := by omega
      refine lv_iload_n hx hb d_M_cast_29 rfl (lv_at hl 1 rfl) ?_
      refine lv_if_lt (tgt := 47) hx hb d_M_cast_30 (by decide) (fun hc30 => ?_) (fun hc30 => ?_)
      · skip
        rw [← nI_0] at hc30
        rw [ix_lt (x := x) (n := 0) (by omega)] at hc30
        have hcb_ : sp_cand 30 x = false := by simp only [sp_cand, Bool.and_eq_false_iff, decide_eq_false_iff_not]; omega
        refine lv_bipush (v := -4) hx hb d_M_cast_47 (by decide) ?_
        rw [hAe] at hS
        exact mu_iret hx hb hr (by rw [show nx_cast p q cx rd cl g x y = g from cs_bad hx0 hcl0 (by simp [hcb_])]; exact hP) hS d_M_cast_49 hlocks ((ct_bad hx0 hcl0 (by simp [hcb_])).symm)
      · skip
        rw [← nI_0] at hc30
        rw [ix_lt (x := x) (n := 0) (by omega)] at hc30
        refine lv_iload_n hx hb d_M_cast_33 rfl (lv_at hl 1 rfl) ?_
        refine lv_bipush (v := nI 29) hx hb d_M_cast_34 (by decide) ?_
        refine lv_icmp_gt (tgt := 47) hx hb d_M_cast_36 (by decide) (fun hc36 => ?_) (fun hc36 => ?_)
        · skip
          rw [ix_gt (x := x) (n := 29) (by omega)] at hc36
          have hcb_ : sp_cand 30 x = false := by simp only [sp_cand, Bool.and_eq_false_iff, decide_eq_false_iff_not]; omega
          refine lv_bipush (v := -4) hx hb d_M_cast_47 (by decide) ?_
          rw [hAe] at hS
          exact mu_iret hx hb hr (by rw [show nx_cast p q cx rd cl g x y = g from cs_bad hx0 hcl0 (by simp [hcb_])]; exact hP) hS d_M_cast_49 hlocks ((ct_bad hx0 hcl0 (by simp [hcb_])).symm)
        · skip
          rw [ix_gt (x := x) (n := 29) (by omega)] at hc36
          have hct : sp_cand 30 x = true := by simp only [sp_cand, Bool.and_eq_true, decide_eq_true_eq]; omega
          refine lv_aload_n hx hb d_M_cast_39 rfl (lv_at hl 0 rfl) ?_
          refine lv_lload_n hx hb d_M_cast_40 rfl (lv_at hl 2 rfl) ?_
          refine pu_i (va_runV (As := [.long y]) (rest := []) ⟨hx, hb, hml, hown, hts⟩ (c_M_isSeal l dC dI h1 q1 cB p q bx cl cd rd g y hk) (cwV 1 hts (al_V (k_M_isSeal) (aw_t275) (aw_t277) (aw_p16) (aw_t2)) rfl rfl rfl (by decide +kernel) ⟨Nat.le_of_ble_eq_true rfl, Nat.le_of_ble_eq_true rfl⟩) (pu_preV (q0 := 0) (ci := 1) hK hP rfl rfl) rfl rfl hl.1 rfl (lv_room (Nat.le_of_ble_eq_true rfl)) d_M_cast_41 ⟨Nat.zero_le _, Nat.zero_le _⟩) hS (fun H locs hkp hS => ?_)
          have hP := hkp _ _ _ hP
          refine lv_if_ne (tgt := 50) hx hb d_M_cast_44 (by decide) (fun hc44 => ?_) (fun hc44 => ?_)
          · skip
            rw [bI_0] at hc44
            rw [Bool.not_eq_false] at hc44
            obtain ⟨a, ha1, ha2, rfl⟩ := sp_cand_of hct
            obtain ⟨b, hb1, hb2, hb3, hb4, hb5, rfl⟩ := sp_isS_of hc44
            have hga := (hgj a ha1).1
            refine lv_aload_n hx hb d_M_cast_50 rfl (lv_at hl 0 rfl) ?_
            refine va_get (D := (dC, dI)) (ci := 1) (v := .ref q1) (C := R_M) (T := F_M) (N := 9) hx hb hts f_M hown hK hP 0 rfl rfl 8 (by decide) (hts _ (al_m aw_t215)) (fun _ h9 => h9) rfl d_M_cast_51 ?_
            refine lv_iload_n hx hb d_M_cast_54 rfl (lv_at hl 1 rfl) ?_
            refine va_lald hx hb hK hP 1 0 rfl rfl (vp_in_nI (by omega) (by decide)) d_M_cast_55 ?_
            refine wk_l (y := lN (g a)) (by rw [nI_clamp (by omega)]) ?_
            refine lv_lconst (v := lN 0) hx hb d_M_cast_56 rfl ?_
            refine W.lcmp hx hb d_M_cast_57 ?_
            refine lv_if_ne (tgt := 65) hx hb d_M_cast_58 (by decide) (fun hc58 => ?_) (fun hc58 => ?_)
            · skip
              rw [lg_cmp_eq] at hc58
              rw [pk_lEQ (a := g a) (b := 0) (by omega) (by omega)] at hc58
              refine lv_iconst (v := nI 0) hx hb d_M_cast_65 (by decide) ?_
              refine lv_istore (lv' := [(4, .int (nI 0)), (0, .ref h1), (1, .int (nI a)), (2, .long (lN b))]) hx hb d_M_cast_66 hl (by decide) rfl (fun ls hl => ?_)
              refine lv_iload hx hb d_M_cast_68 (lv_at hl 0 rfl) ?_
              refine lv_if_eq (tgt := 89) hx hb d_M_cast_70 (by decide) (fun hc70 => ?_) (fun hc70 => ?_)
              · skip
                rw [← nI_0] at hc70
                rw [nI_eq (a := 0) (b := 0) (by omega) (by omega)] at hc70
                refine lv_aload_n hx hb d_M_cast_89 rfl (lv_at hl 1 rfl) ?_
                refine va_get (D := (dC, dI)) (ci := 1) (v := .ref q1) (C := R_M) (T := F_M) (N := 9) hx hb hts f_M hown hK hP 0 rfl rfl 8 (by decide) (hts _ (al_m aw_t215)) (fun _ h9 => h9) rfl d_M_cast_90 ?_
                refine lv_iload_n hx hb d_M_cast_93 rfl (lv_at hl 2 rfl) ?_
                refine lv_lload_n hx hb d_M_cast_94 rfl (lv_at hl 3 rfl) ?_
                refine va_last hx hb hK hP hD hS 1 0 rfl rfl (vp_in_nI (by omega) (by decide)) d_M_cast_95 (fun H locs hP hD hS => ?_)
                rw [nI_clamp (by omega), gu_eq] at hP hD
                have hP : va_P (dC, dI) classes [(h1, .inr (1, [.long (lN (p * q)), .long (lN (p * q * (p * q))), .long (lN (sp_f p q)), .long (lN (sp_cex p q)), .int (nI bx), .int (nI cl), .int (nI cd), .int (nI rd), .ref q1])), (q1, .inl (cB, 30, .inr (.inl (fun j => lN ((gu g a b) j)))))] H := hP
                have hD : va_D A [(h1, .inr (1, [.long (lN (p * q)), .long (lN (p * q * (p * q))), .long (lN (sp_f p q)), .long (lN (sp_cex p q)), .int (nI bx), .int (nI cl), .int (nI cd), .int (nI rd), .ref q1])), (q1, .inl (cB, 30, .inr (.inl (fun j => lN ((gu g a b) j)))))] := hD
                refine lv_iload hx hb d_M_cast_96 (lv_at hl 0 rfl) ?_
                refine lv_if_eq (tgt := 105) hx hb d_M_cast_98 (by decide) (fun hc98 => ?_) (fun hc98 => ?_)
                · skip
                  rw [← nI_0] at hc98
                  rw [nI_eq (a := 0) (b := 0) (by omega) (by omega)] at hc98
                  refine lv_iconst (v := nI 0) hx hb d_M_cast_105 (by decide) ?_
                  rw [hAe] at hS
                  exact mu_iret hx hb hr (by rw [cs_old hx0 hcl0 hct hc44 ha2 hb3 hc58]; exact hP) hS d_M_cast_106 hlocks ((ct_old hx0 hcl0 hct hc44 ha2 hc58).symm)
                · skip
                  rw [← nI_0] at hc98
                  rw [nI_eq (a := 0) (b := 0) (by omega) (by omega)] at hc98
                  omega
              · skip
                rw [← nI_0] at hc70
                rw [nI_eq (a := 0) (b := 0) (by omega) (by omega)] at hc70
                omega
            · skip
              rw [lg_cmp_eq] at hc58
              rw [pk_lEQ (a := g a) (b := 0) (by omega) (by omega)] at hc58
              refine lv_iconst (v := nI 1) hx hb d_M_cast_61 (by decide) ?_
              refine lv_goto (tgt := 66) hx hb d_M_cast_62 (by decide) ?_
              refine lv_istore (lv' := [(4, .int (nI 1)), (0, .ref h1), (1, .int (nI a)), (2, .long (lN b))]) hx hb d_M_cast_66 hl (by decide) rfl (fun ls hl => ?_)
              refine lv_iload hx hb d_M_cast_68 (lv_at hl 0 rfl) ?_
              refine lv_if_eq (tgt := 89) hx hb d_M_cast_70 (by decide) (fun hc70 => ?_) (fun hc70 => ?_)
              · skip
                rw [← nI_0] at hc70
                rw [nI_eq (a := 1) (b := 0) (by omega) (by omega)] at hc70
                omega
              · skip
                rw [← nI_0] at hc70
                rw [nI_eq (a := 1) (b := 0) (by omega) (by omega)] at hc70
                refine lv_aload_n hx hb d_M_cast_73 rfl (lv_at hl 1 rfl) ?_
                refine pu_i (va_runV (As := []) (rest := []) ⟨hx, hb, hml, hown, hts⟩ (c_M_count l dC dI h1 q1 cB p q bx cl cd rd g (fun j hj0 => Nat.lt_of_lt_of_le (hgj j hj0).1 (by omega))) (cwV 0 hts (al_V (k_M_count) (aw_t316) (aw_t318) (aw_p20) (aw_t2)) rfl rfl rfl (by decide +kernel) ⟨Nat.le_of_ble_eq_true rfl, Nat.le_of_ble_eq_true rfl⟩) (pu_preV (q0 := 0) (ci := 1) hK hP rfl rfl) rfl rfl hl.1 rfl (lv_room (Nat.le_of_ble_eq_true rfl)) d_M_cast_74 ⟨Nat.zero_le _, Nat.zero_le _⟩) hS (fun H locs hkp hS => ?_)
                have hP := hkp _ _ _ hP
                refine lv_aload_n hx hb d_M_cast_77 rfl (lv_at hl 1 rfl) ?_
                refine va_get (D := (dC, dI)) (ci := 1) (v := .int (nI rd)) (C := R_M) (T := F_M) (N := 9) hx hb hts f_M hown hK hP 0 rfl rfl 7 (by decide) (hts _ (al_m aw_t214)) (fun _ h9 => h9) rfl d_M_cast_78 ?_
                refine lv_iconst (v := nI 1) hx hb d_M_cast_81 (by decide) ?_
                refine lv_isub hx hb d_M_cast_82 ?_
                refine wk_i (y := nI (rd - 1)) (pk_sub (by omega)) ?_
                refine lv_icmp_lt (tgt := 89) hx hb d_M_cast_83 (by decide) (fun hc83 => ?_) (fun hc83 => ?_)
                · skip
                  rw [nI_ltI (a := sp_cnt g 30) (b := rd - 1) (by omega) (by omega)] at hc83
                  refine lv_aload_n hx hb d_M_cast_89 rfl (lv_at hl 1 rfl) ?_
                  refine va_get (D := (dC, dI)) (ci := 1) (v := .ref q1) (C := R_M) (T := F_M) (N := 9) hx hb hts f_M hown hK hP 0 rfl rfl 8 (by decide) (hts _ (al_m aw_t215)) (fun _ h9 => h9) rfl d_M_cast_90 ?_
                  refine lv_iload_n hx hb d_M_cast_93 rfl (lv_at hl 2 rfl) ?_
                  refine lv_lload_n hx hb d_M_cast_94 rfl (lv_at hl 3 rfl) ?_
                  refine va_last hx hb hK hP hD hS 1 0 rfl rfl (vp_in_nI (by omega) (by decide)) d_M_cast_95 (fun H locs hP hD hS => ?_)
                  rw [nI_clamp (by omega), gu_eq] at hP hD
                  have hP : va_P (dC, dI) classes [(h1, .inr (1, [.long (lN (p * q)), .long (lN (p * q * (p * q))), .long (lN (sp_f p q)), .long (lN (sp_cex p q)), .int (nI bx), .int (nI cl), .int (nI cd), .int (nI rd), .ref q1])), (q1, .inl (cB, 30, .inr (.inl (fun j => lN ((gu g a b) j)))))] H := hP
                  have hD : va_D A [(h1, .inr (1, [.long (lN (p * q)), .long (lN (p * q * (p * q))), .long (lN (sp_f p q)), .long (lN (sp_cex p q)), .int (nI bx), .int (nI cl), .int (nI cd), .int (nI rd), .ref q1])), (q1, .inl (cB, 30, .inr (.inl (fun j => lN ((gu g a b) j)))))] := hD
                  refine lv_iload hx hb d_M_cast_96 (lv_at hl 0 rfl) ?_
                  refine lv_if_eq (tgt := 105) hx hb d_M_cast_98 (by decide) (fun hc98 => ?_) (fun hc98 => ?_)
                  · skip
                    rw [← nI_0] at hc98
                    rw [nI_eq (a := 1) (b := 0) (by omega) (by omega)] at hc98
                    omega
                  · skip
                    rw [← nI_0] at hc98
                    rw [nI_eq (a := 1) (b := 0) (by omega) (by omega)] at hc98
                    refine lv_iconst (v := nI 1) hx hb d_M_cast_101 (by decide) ?_
                    refine lv_goto (tgt := 106) hx hb d_M_cast_102 (by decide) ?_
                    rw [hAe] at hS
                    exact mu_iret hx hb hr (by rw [cs_new hx0 hcl0 hct hc44 ha2 hb3 hc58 (by omega)]; exact hP) hS d_M_cast_106 hlocks ((ct_new hx0 hcl0 hct hc44 ha2 hc58 (by omega)).symm)
                · skip
                  rw [nI_ltI (a := sp_cnt g 30) (b := rd - 1) (by omega) (by omega)] at hc83
                  refine lv_bipush (v := -5) hx hb d_M_cast_86 (by decide) ?_
                  rw [hAe] at hS
                  exact mu_iret hx hb hr (by rw [cs_full hx0 hcl0 hct hc44 ha2 hc58 (by omega)]; exact hP) hS d_M_cast_88 hlocks ((ct_full hx0 hcl0 hct hc44 ha2 hc58 (by omega)).symm)
          · skip
            rw [bI_0] at hc44
            refine lv_bipush (v := -4) hx hb d_M_cast_47 (by decide) ?_
            rw [hAe] at hS
            exact mu_iret hx hb hr (by rw [show nx_cast p q cx rd cl g x y = g from cs_bad hx0 hcl0 (by simp [hct, hc44])]; exact hP) hS d_M_cast_49 hlocks ((ct_bad hx0 hcl0 (by simp [hct, hc44])).symm)
    · skip
      rw [← nI_0] at hc11
      rw [nI_eq (a := cl) (b := 0) (by omega) (by omega)] at hc11
      have hc1 : cl = 1 := by omega
      refine lv_aload_n hx hb d_M_cast_14 rfl (lv_at hl 0 rfl) ?_
      refine va_get (D := (dC, dI)) (ci := 1) (v := .int (nI bx)) (C := R_M) (T := F_M) (N := 9) hx hb hts f_M hown hK hP 0 rfl rfl 4 (by decide) (hts _ (al_m aw_t211)) (fun _ h9 => h9) rfl d_M_cast_15 ?_
      refine lv_if_eq (tgt := 26) hx hb d_M_cast_18 (by decide) (fun hc18 => ?_) (fun hc18 => ?_)
      · skip
        rw [← nI_0] at hc18
        rw [nI_eq (a := bx) (b := 0) (by omega) (by omega)] at hc18
        omega
      · skip
        rw [← nI_0] at hc18
        rw [nI_eq (a := bx) (b := 0) (by omega) (by omega)] at hc18
        refine lv_bipush (v := -3) hx hb d_M_cast_21 (by decide) ?_
        refine lv_goto (tgt := 28) hx hb d_M_cast_23 (by decide) ?_
        rw [hAe] at hS
        exact mu_iret hx hb hr (by simp only [nx_cast, if_neg hx0, if_pos hc1]; exact hP) hS d_M_cast_28 hlocks (by simp [an_cast, hx0, hc1])
end
section
def zg : Nat → Nat := fun _ => 0

abbrev at_X_init (dC : Nat → ClassId) (dI : Nat → Nat → Nat) (A : Nat → Prop) (h0 : Nat) (u : Nat × ClassId) (t : State) : Prop := match u with
  | (q, cA) => va_P (dC, dI) classes [(h0, .inr (0, [.int (nI 0), .int (nI 0), .int (nI 0), .long (lN 0), .long (lN 0), .long (lN 0), .long (lN 0), .int (nI 0), .int (nI 0), .int (nI 0), .long (lN 0), .int (nI 0), .ref q])), (q, .inl (cA, 30, .inr (.inl (fun j => lN (zg j)))))] t.heap ∧ va_K (dC, dI) classes [(cA, .long)] t ∧ va_D A [(h0, .inr (0, [.int (nI 0), .int (nI 0), .int (nI 0), .long (lN 0), .long (lN 0), .long (lN 0), .long (lN 0), .int (nI 0), .int (nI 0), .int (nI 0), .long (lN 0), .int (nI 0), .ref q])), (q, .inl (cA, 30, .inr (.inl (fun j => lN (zg j)))))]
theorem df_X : ∀ j, j < 13 → defaultValue (t_X j) = vp_V [.int (nI 0), .int (nI 0), .int (nI 0), .long (lN 0), .long (lN 0), .long (lN 0), .long (lN 0), .int (nI 0), .int (nI 0), .int (nI 0), .long (lN 0), .int (nI 0), .null] j := by
  intro j hj
  match j, hj with
  | 0, _ => rfl
  | 1, _ => rfl
  | 2, _ => rfl
  | 3, _ => rfl
  | 4, _ => rfl
  | 5, _ => rfl
  | 6, _ => rfl
  | 7, _ => rfl
  | 8, _ => rfl
  | 9, _ => rfl
  | 10, _ => rfl
  | 11, _ => rfl
  | 12, _ => rfl
  | n + 13, h => exact absurd h (by omega)
set_option maxHeartbeats 4000000 in
set_option maxRecDepth 100000 in
theorem c_X_init (l : Launch) (dC : Nat → ClassId) (dI : Nat → Nat → Nat) (h0 sz : Nat) : Met l y_X_init w_X_init ({ frames := 1, cells := 1, slots := 30, locals := 16 }) (va_Pc [.ref h0] (fun U => U.heap.size = sz ∧ va_P (dC, dI) classes [(h0, .inr (0, [.int (nI 0), .int (nI 0), .int (nI 0), .long (lN 0), .long (lN 0), .long (lN 0), .long (lN 0), .int (nI 0), .int (nI 0), .int (nI 0), .long (lN 0), .int (nI 0), .null]))] U.heap ∧ va_K (dC, dI) classes [] U ∧ va_D (fun _ => True) [(h0, .inr (0, [.int (nI 0), .int (nI 0), .int (nI 0), .long (lN 0), .long (lN 0), .long (lN 0), .long (lN 0), .int (nI 0), .int (nI 0), .int (nI 0), .long (lN 0), .int (nI 0), .null]))])) (va_Qv (fun (_ : Nat × ClassId) => True) (at_X_init dC dI (va_A [(h0, .inr (0, [.int (nI 0), .int (nI 0), .int (nI 0), .long (lN 0), .long (lN 0), .long (lN 0), .long (lN 0), .int (nI 0), .int (nI 0), .int (nI 0), .long (lN 0), .int (nI 0), .null]))] sz) h0) (va_A [(h0, .inr (0, [.int (nI 0), .int (nI 0), .int (nI 0), .long (lN 0), .long (lN 0), .long (lN 0), .long (lN 0), .int (nI 0), .int (nI 0), .int (nI 0), .long (lN 0), .int (nI 0), .null]))] sz)) 1 30 (va_A [(h0, .inr (0, [.int (nI 0), .int (nI 0), .int (nI 0), .long (lN 0), .long (lN 0), .long (lN 0), .long (lN 0), .int (nI 0), .int (nI 0), .int (nI 0), .long (lN 0), .int (nI 0), .null]))] sz) := by
  refine Met.ofW (cc := b_X_init) (maxL := 1) (ret := none) (by decide) rfl ?_
  intro pg ev s mi args below meth co s₁ B hml hv
  obtain ⟨rfl, hsz, hP, hK, hD0⟩ := hv
  have hx := B.exec
  have hb := B.bytes
  have hr := B.returns
  have hts := atoms_spec (ws := w_X_init) B.pre
  have hown : s.vm.findClass R_X = some mi.cls := findClass_of_methodNamed B.named
  have hlocks := B.notSynchronized
  have hin : meth.name = "<init>" := (name_of_methodNamed B.named B.method).1
  subst hsz
  have hD := hD0.self (sz := s.heap.size)
  generalize hAe : va_A [(h0, .inr (0, [.int (nI 0), .int (nI 0), .int (nI 0), .long (lN 0), .long (lN 0), .long (lN 0), .long (lN 0), .int (nI 0), .int (nI 0), .int (nI 0), .long (lN 0), .int (nI 0), .null]))] s.heap.size = A at hD ⊢
  have hA : ∀ q : Nat, s.heap.size ≤ q → A q := fun q h => by rw [← hAe]; exact Or.inr h
  have hS : va_S A s.heap s.heap [] := va_S.rf
  have hP : va_P (dC, dI) classes [(h0, .inr (0, [.int (nI 0), .int (nI 0), .int (nI 0), .long (lN 0), .long (lN 0), .long (lN 0), .long (lN 0), .int (nI 0), .int (nI 0), .int (nI 0), .long (lN 0), .int (nI 0), .null]))] s.heap := hP
  have hl := lv_entry ([.ref h0]) (n := 1) (Nat.le_of_ble_eq_true rfl)
  rw [lg_entry_eq]
  generalize (lg_sl ([.ref h0]) ++ List.replicate (1 - (lg_sl ([.ref h0])).length) Slot.unset).toArray = ls at hl ⊢
  have hl : lv_has ls 1 [(0, .ref h0)] := hl
  refine lv_aload_n hx hb d_X_init_0 rfl (lv_at hl 0 rfl) ?_
  refine W.objInit hx hb hown (hts _ (al_m aw_t10)) (hts _ (al_m aw_t11)) (hts _ (al_m k_Object_init)) rfl (by rw [hml]; exact hl.1) rfl d_X_init_1 (Nat.le_of_ble_eq_true rfl) (Nat.le_of_ble_eq_true rfl) ?_
  refine W.eq (g2 := F0 mi 4 ls []) rfl ?_
  refine lv_aload_n hx hb d_X_init_4 rfl (lv_at hl 0 rfl) ?_
  refine lv_bipush (v := nI 30) hx hb d_X_init_5 (by decide) ?_
  refine va_newa (a0 := (30, .inr (.inl (fun j => lN (zg j))))) (ty := .long) (N' := 30) hx hb (hts _ (al_m aw_t53)) rfl hK hP hD hS hA (fun cA => rfl) (by decide) (by decide) (by decide) (Nat.le_of_ble_eq_true rfl) (Nat.le_of_ble_eq_true rfl) d_X_init_7 (fun q cA H hK hP hD hS => ?_)
  have hP : va_P (dC, dI) classes [(h0, .inr (0, [.int (nI 0), .int (nI 0), .int (nI 0), .long (lN 0), .long (lN 0), .long (lN 0), .long (lN 0), .int (nI 0), .int (nI 0), .int (nI 0), .long (lN 0), .int (nI 0), .null])), (q, .inl (cA, 30, .inr (.inl (fun j => lN (zg j)))))] H := hP
  have hD : va_D A [(h0, .inr (0, [.int (nI 0), .int (nI 0), .int (nI 0), .long (lN 0), .long (lN 0), .long (lN 0), .long (lN 0), .int (nI 0), .int (nI 0), .int (nI 0), .long (lN 0), .int (nI 0), .null])), (q, .inl (cA, 30, .inr (.inl (fun j => lN (zg j)))))] := hD
  have hK : va_K (dC, dI) classes [(cA, .long)] s := hK
  refine va_putF (D := (dC, dI)) (ci := 0) (v := .ref q) (ty := .array .long) (C := R_X) (T := F_X) (N := 13) hx hb hts f_X t_X t_X_ok n_X hown hK hP hD hS 0 rfl rfl 12 (by decide) (hts _ (al_m aw_t25)) (fun _ h9 => h9) rfl hin rfl (by decide +kernel) rfl rfl (Nat.le_of_ble_eq_true rfl) d_X_init_9 (fun H locs hP hD hS => ?_)
  have hP : va_P (dC, dI) classes [(h0, .inr (0, [.int (nI 0), .int (nI 0), .int (nI 0), .long (lN 0), .long (lN 0), .long (lN 0), .long (lN 0), .int (nI 0), .int (nI 0), .int (nI 0), .long (lN 0), .int (nI 0), .ref q])), (q, .inl (cA, 30, .inr (.inl (fun j => lN (zg j)))))] H := hP
  have hD : va_D A [(h0, .inr (0, [.int (nI 0), .int (nI 0), .int (nI 0), .long (lN 0), .long (lN 0), .long (lN 0), .long (lN 0), .int (nI 0), .int (nI 0), .int (nI 0), .long (lN 0), .int (nI 0), .ref q])), (q, .inl (cA, 30, .inr (.inl (fun j => lN (zg j)))))] := hD
  exact W.vret hx hb hr (fun t ht hW => ⟨⟨(q, cA), rfl, trivial, by rw [ht]; exact hP, va_K.moved hW.alike hK, hD⟩, hS.F ht⟩) hS.2.2 d_X_init_12 hlocks

abbrev at_M_init (dC : Nat → ClassId) (dI : Nat → Nat → Nat) (A : Nat → Prop) (h1 : Nat) (u : Nat × ClassId) (t : State) : Prop := match u with
  | (q, cA) => va_P (dC, dI) classes [(h1, .inr (1, [.long (lN 0), .long (lN 0), .long (lN 0), .long (lN 0), .int (nI 0), .int (nI 0), .int (nI 0), .int (nI 0), .ref q])), (q, .inl (cA, 30, .inr (.inl (fun j => lN (zg j)))))] t.heap ∧ va_K (dC, dI) classes [(cA, .long)] t ∧ va_D A [(h1, .inr (1, [.long (lN 0), .long (lN 0), .long (lN 0), .long (lN 0), .int (nI 0), .int (nI 0), .int (nI 0), .int (nI 0), .ref q])), (q, .inl (cA, 30, .inr (.inl (fun j => lN (zg j)))))]
theorem df_M : ∀ j, j < 9 → defaultValue (t_M j) = vp_V [.long (lN 0), .long (lN 0), .long (lN 0), .long (lN 0), .int (nI 0), .int (nI 0), .int (nI 0), .int (nI 0), .null] j := by
  intro j hj
  match j, hj with
  | 0, _ => rfl
  | 1, _ => rfl
  | 2, _ => rfl
  | 3, _ => rfl
  | 4, _ => rfl
  | 5, _ => rfl
  | 6, _ => rfl
  | 7, _ => rfl
  | 8, _ => rfl
  | n + 9, h => exact absurd h (by omega)
set_option maxHeartbeats 4000000 in
set_option maxRecDepth 100000 in
theorem c_M_init (l : Launch) (dC : Nat → ClassId) (dI : Nat → Nat → Nat) (h1 sz : Nat) : Met l y_M_init w_M_init ({ frames := 1, cells := 1, slots := 30, locals := 16 }) (va_Pc [.ref h1] (fun U => U.heap.size = sz ∧ va_P (dC, dI) classes [(h1, .inr (1, [.long (lN 0), .long (lN 0), .long (lN 0), .long (lN 0), .int (nI 0), .int (nI 0), .int (nI 0), .int (nI 0), .null]))] U.heap ∧ va_K (dC, dI) classes [] U ∧ va_D (fun _ => True) [(h1, .inr (1, [.long (lN 0), .long (lN 0), .long (lN 0), .long (lN 0), .int (nI 0), .int (nI 0), .int (nI 0), .int (nI 0), .null]))])) (va_Qv (fun (_ : Nat × ClassId) => True) (at_M_init dC dI (va_A [(h1, .inr (1, [.long (lN 0), .long (lN 0), .long (lN 0), .long (lN 0), .int (nI 0), .int (nI 0), .int (nI 0), .int (nI 0), .null]))] sz) h1) (va_A [(h1, .inr (1, [.long (lN 0), .long (lN 0), .long (lN 0), .long (lN 0), .int (nI 0), .int (nI 0), .int (nI 0), .int (nI 0), .null]))] sz)) 1 30 (va_A [(h1, .inr (1, [.long (lN 0), .long (lN 0), .long (lN 0), .long (lN 0), .int (nI 0), .int (nI 0), .int (nI 0), .int (nI 0), .null]))] sz) := by
  refine Met.ofW (cc := b_M_init) (maxL := 1) (ret := none) (by decide) rfl ?_
  intro pg ev s mi args below meth co s₁ B hml hv
  obtain ⟨rfl, hsz, hP, hK, hD0⟩ := hv
  have hx := B.exec
  have hb := B.bytes
  have hr := B.returns
  have hts := atoms_spec (ws := w_M_init) B.pre
  have hown : s.vm.findClass R_M = some mi.cls := findClass_of_methodNamed B.named
  have hlocks := B.notSynchronized
  have hin : meth.name = "<init>" := (name_of_methodNamed B.named B.method).1
  subst hsz
  have hD := hD0.self (sz := s.heap.size)
  generalize hAe : va_A [(h1, .inr (1, [.long (lN 0), .long (lN 0), .long (lN 0), .long (lN 0), .int (nI 0), .int (nI 0), .int (nI 0), .int (nI 0), .null]))] s.heap.size = A at hD ⊢
  have hA : ∀ q : Nat, s.heap.size ≤ q → A q := fun q h => by rw [← hAe]; exact Or.inr h
  have hS : va_S A s.heap s.heap [] := va_S.rf
  have hP : va_P (dC, dI) classes [(h1, .inr (1, [.long (lN 0), .long (lN 0), .long (lN 0), .long (lN 0), .int (nI 0), .int (nI 0), .int (nI 0), .int (nI 0), .null]))] s.heap := hP
  have hl := lv_entry ([.ref h1]) (n := 1) (Nat.le_of_ble_eq_true rfl)
  rw [lg_entry_eq]
  generalize (lg_sl ([.ref h1]) ++ List.replicate (1 - (lg_sl ([.ref h1])).length) Slot.unset).toArray = ls at hl ⊢
  have hl : lv_has ls 1 [(0, .ref h1)] := hl
  refine lv_aload_n hx hb d_M_init_0 rfl (lv_at hl 0 rfl) ?_
  refine W.objInit hx hb hown (hts _ (al_m aw_t206)) (hts _ (al_m aw_t11)) (hts _ (al_m k_Object_init)) rfl (by rw [hml]; exact hl.1) rfl d_M_init_1 (Nat.le_of_ble_eq_true rfl) (Nat.le_of_ble_eq_true rfl) ?_
  refine W.eq (g2 := F0 mi 4 ls []) rfl ?_
  refine lv_aload_n hx hb d_M_init_4 rfl (lv_at hl 0 rfl) ?_
  refine lv_bipush (v := nI 30) hx hb d_M_init_5 (by decide) ?_
  refine va_newa (a0 := (30, .inr (.inl (fun j => lN (zg j))))) (ty := .long) (N' := 30) hx hb (hts _ (al_m aw_t53)) rfl hK hP hD hS hA (fun cA => rfl) (by decide) (by decide) (by decide) (Nat.le_of_ble_eq_true rfl) (Nat.le_of_ble_eq_true rfl) d_M_init_7 (fun q cA H hK hP hD hS => ?_)
  have hP : va_P (dC, dI) classes [(h1, .inr (1, [.long (lN 0), .long (lN 0), .long (lN 0), .long (lN 0), .int (nI 0), .int (nI 0), .int (nI 0), .int (nI 0), .null])), (q, .inl (cA, 30, .inr (.inl (fun j => lN (zg j)))))] H := hP
  have hD : va_D A [(h1, .inr (1, [.long (lN 0), .long (lN 0), .long (lN 0), .long (lN 0), .int (nI 0), .int (nI 0), .int (nI 0), .int (nI 0), .null])), (q, .inl (cA, 30, .inr (.inl (fun j => lN (zg j)))))] := hD
  have hK : va_K (dC, dI) classes [(cA, .long)] s := hK
  refine va_putF (D := (dC, dI)) (ci := 1) (v := .ref q) (ty := .array .long) (C := R_M) (T := F_M) (N := 9) hx hb hts f_M t_M t_M_ok n_M hown hK hP hD hS 0 rfl rfl 8 (by decide) (hts _ (al_m aw_t215)) (fun _ h9 => h9) rfl hin rfl (by decide +kernel) rfl rfl (Nat.le_of_ble_eq_true rfl) d_M_init_9 (fun H locs hP hD hS => ?_)
  have hP : va_P (dC, dI) classes [(h1, .inr (1, [.long (lN 0), .long (lN 0), .long (lN 0), .long (lN 0), .int (nI 0), .int (nI 0), .int (nI 0), .int (nI 0), .ref q])), (q, .inl (cA, 30, .inr (.inl (fun j => lN (zg j)))))] H := hP
  have hD : va_D A [(h1, .inr (1, [.long (lN 0), .long (lN 0), .long (lN 0), .long (lN 0), .int (nI 0), .int (nI 0), .int (nI 0), .int (nI 0), .ref q])), (q, .inl (cA, 30, .inr (.inl (fun j => lN (zg j)))))] := hD
  exact W.vret hx hb hr (fun t ht hW => ⟨⟨(q, cA), rfl, trivial, by rw [ht]; exact hP, va_K.moved hW.alike hK, hD⟩, hS.F ht⟩) hS.2.2 d_M_init_12 hlocks
end
section
/-! the law's own invariant -/
def LI (p q cx rd cl tt cd bx : Nat) (g : Nat → Nat) : Prop :=
  Jv p q cx rd g ∧ rd < 2 ^ 31 ∧ cl ≤ 1 ∧ (cl = 1 → cx ≠ 0 → tt = sp_msg p q (sp_prod g 30 % sq_ p q)) ∧ (bx = 0 ↔ cx = 0) ∧ bx ≤ 1 ∧ (cx ≠ 0 → cd = cx)
theorem li_0 : LI 0 0 0 0 0 0 0 0 zg :=
  ⟨Or.inl ⟨rfl, rfl, rfl⟩, by decide, by decide, fun h => absurd h (by decide), Iff.rfl, by decide, fun h => absurd rfl h⟩
section
variable {p q cx rd cl tt cd bx : Nat} {g : Nat → Nat}
theorem li_key (h : LI p q cx rd cl tt cd bx g) (x y : Int32) : LI (sel (sp_isK x y) x.toInt.toNat p) (sel (sp_isK x y) y.toInt.toNat q) (sel (sp_isK x y) 0 cx) rd cl tt cd (sel (sp_isK x y) 0 bx) g := by
  cases hK : sp_isK x y with
  | false => exact h
  | true =>
    obtain ⟨a, b, hk, ha, hb, rfl, rfl⟩ := sp_isK_of hK
    obtain ⟨h1, h2, h3, h4, h5, h6, h7⟩ := h
    rw [sel_t, sel_t, sel_t, sel_t, ix_nat ha, ix_nat hb]
    exact ⟨Or.inr ⟨hk, Or.inl rfl⟩, h2, h3, fun _ hz => absurd rfl hz, Iff.rfl, by omega, fun hz => absurd rfl hz⟩
theorem li_open (h : LI p q cx rd cl tt cd bx g) (x y : Int32) : LI p q (sel (sp_open p q x y) x.toInt.toNat cx) (sel (sp_open p q x y) y.toInt.toNat rd) (sel (sp_open p q x y) 0 cl) tt (sel (sp_open p q x y) x.toInt.toNat cd) (sel (sp_open p q x y) 1 bx) (selg (sp_open p q x y) (fz g 30) g) := by
  cases hO : sp_open p q x y with
  | false => exact h
  | true =>
    obtain ⟨h1, h2, h3, h4, h5, h6, h7⟩ := h
    simp only [sp_open, Bool.and_eq_true, decide_eq_true_eq] at hO
    have hk := jv_key h1 hO.1
    obtain ⟨a, b, ha, hb, ha6, hb2, rfl, rfl⟩ := sp_box_of hO.2
    have hbg := ma_big hk
    rw [sel_t, sel_t, sel_t, sel_t, sel_t, selg_t, ix_nat ha, ix_nat hb]
    refine ⟨Or.inr ⟨hk, Or.inr ⟨ha6.1, ha6.2, hb2.1, hb2.2, fun j hj => ?_⟩⟩, hb, by omega, fun hz => absurd hz (by decide), ⟨fun hz => absurd hz (by decide), fun hz => absurd hz (by omega)⟩, by omega, fun _ => rfl⟩
    have e : fz g 30 j = 0 := by unfold fz; rw [if_pos hj]
    rw [e]
    exact ⟨by omega, Or.inl rfl⟩
theorem li_cnt (x y : Int32) : sel (sp_open p q x y) 0 (sp_cnt g 30) = sp_cnt (selg (sp_open p q x y) (fz g 30) g) 30 := by
  cases hO : sp_open p q x y with
  | false => rfl
  | true =>
    rw [sel_t, selg_t]
    exact (fa_cnt0 30 (fun j hj => by unfold fz; rw [if_pos hj])).symm
theorem jv_gu (h : Jv p q cx rd g) (a b : Nat) (hc : cx ≠ 0) (hb : b < p * q * (p * q) ∧ (b = 0 ∨ (b % p ≠ 0 ∧ b % q ≠ 0))) : Jv p q cx rd (gu g a b) := by
  obtain ⟨hk, h1, h2, h3, h4, h5⟩ := jv_box h hc
  refine Or.inr ⟨hk, Or.inr ⟨h1, h2, h3, h4, fun j hj => ?_⟩⟩
  unfold gu
  split
  · exact hb
  · exact h5 j hj
theorem li_cast (h : LI p q cx rd cl tt cd bx g) (x : Int32) (y : Int64) : LI p q cx rd cl tt cd bx (nx_cast p q cx rd cl g x y) := by
  by_cases hx0 : cx = 0
  · simp only [nx_cast, if_pos hx0]
    exact h
  by_cases hc1 : cl = 1
  · simp only [nx_cast, if_neg hx0, if_pos hc1]
    exact h
  cases hcc : (sp_cand 30 x && sp_isS p q y) with
  | false => rw [cs_bad hx0 hc1 hcc]; exact h
  | true =>
    rw [Bool.and_eq_true] at hcc
    obtain ⟨a, ha1, ha2, rfl⟩ := sp_cand_of hcc.1
    obtain ⟨b, hb1, hb2, hb3, hb4, hb5, rfl⟩ := sp_isS_of hcc.2
    obtain ⟨h1, h2, h3, h4, h5, h6, h7⟩ := h
    have hj := jv_gu h1 a b hx0 ⟨hb2, Or.inr ⟨hb4, hb5⟩⟩
    by_cases hg : g a = 0
    · by_cases hf : rd - 1 ≤ sp_cnt g 30
      · rw [cs_full hx0 hc1 hcc.1 hcc.2 ha2 hg hf]
        exact ⟨h1, h2, h3, h4, h5, h6, h7⟩
      · rw [cs_new hx0 hc1 hcc.1 hcc.2 ha2 hb3 hg hf]
        exact ⟨hj, h2, h3, fun hz => absurd hz hc1, h5, h6, h7⟩
    · rw [cs_old hx0 hc1 hcc.1 hcc.2 ha2 hb3 hg]
      exact ⟨hj, h2, h3, fun hz => absurd hz hc1, h5, h6, h7⟩
theorem li_withdraw (h : LI p q cx rd cl tt cd bx g) (x : Int32) : LI p q cx rd cl tt cd bx (nx_withdraw cx cl g x) := by
  by_cases hx0 : cx = 0
  · simp only [nx_withdraw, if_pos hx0]
    exact h
  by_cases hc1 : cl = 1
  · simp only [nx_withdraw, if_neg hx0, if_pos hc1]
    exact h
  cases hcc : sp_cand 30 x with
  | false =>
    simp only [nx_withdraw, if_neg hx0, if_neg hc1, hcc, Bool.false_eq_true, if_false]
    exact h
  | true =>
    simp only [nx_withdraw, if_neg hx0, if_neg hc1, hcc, if_true]
    obtain ⟨h1, h2, h3, h4, h5, h6, h7⟩ := h
    obtain ⟨hk, -⟩ := jv_box h1 hx0
    have hbg := ma_big hk
    exact ⟨jv_gu h1 _ 0 hx0 ⟨by omega, Or.inl rfl⟩, h2, h3, fun hz => absurd hz hc1, h5, h6, h7⟩
theorem li_close (h : LI p q cx rd cl tt cd bx g) : LI p q cx rd (sel (decide (cx = 0)) cl 1) (sel (decide (cx = 0 ∨ cl = 1)) tt (sp_msg p q (sp_prod g 30 % sq_ p q))) cd bx g := by
  obtain ⟨h1, h2, h3, h4, h5, h6, h7⟩ := h
  by_cases hx0 : cx = 0
  · rw [decide_eq_true hx0, decide_eq_true (show cx = 0 ∨ cl = 1 from Or.inl hx0), sel_t, sel_t]
    exact ⟨h1, h2, h3, fun _ hz => absurd hx0 hz, h5, h6, h7⟩
  · rw [decide_eq_false hx0, sel_f]
    by_cases hc1 : cl = 1
    · rw [decide_eq_true (show cx = 0 ∨ cl = 1 from Or.inr hc1), sel_t]
      exact ⟨h1, h2, by omega, fun _ hz => h4 hc1 hz, h5, h6, h7⟩
    · rw [decide_eq_false (show ¬ (cx = 0 ∨ cl = 1) from fun z => z.elim hx0 hc1), sel_f]
      exact ⟨h1, h2, by omega, fun _ _ => rfl, h5, h6, h7⟩
end
end
section
/-! the law's own words -/
def lb (a b : Int32) : Int64 := (a.toInt64 <<< ((nI 32).toInt64 &&& 63)) ||| (b.toInt64 &&& lN 4294967295)
def lw_ap (z h0 q0 h1 q1 : Nat) : Prop := z ≤ h0 ∧ z ≤ q0 ∧ z ≤ h1 ∧ z ≤ q1 ∧ h0 ≠ q0 ∧ h0 ≠ h1 ∧ h0 ≠ q1 ∧ q0 ≠ h1 ∧ q0 ≠ q1 ∧ h1 ≠ q1
theorem mu_o2 {a b h q : Nat} {e1 e2 : va_E} (ha : a ≠ h ∧ a ≠ q) (hb : b ≠ h ∧ b ≠ q) : ∀ (k : Nat) (r : Nat × va_E), [(a, e1), (b, e2)][k]? = some r → r.1 ≠ h ∧ r.1 ≠ q := by
  intro k r hk
  match k with
  | 0 => cases hk; exact ha
  | 1 => cases hk; exact hb
  | k + 2 => cases hk
end
section
theorem d_L_law_0 : decode code 0 = .ok (.new 7, 3) := by decide +kernel
theorem d_L_law_3 : decode code 3 = .ok (.dup, 1) := by decide +kernel
theorem d_L_law_4 : decode code 4 = .ok (.invokespecial 9, 3) := by decide +kernel
theorem d_L_law_7 : decode code 7 = .ok (.astore_n 1, 1) := by decide +kernel
theorem d_L_law_8 : decode code 8 = .ok (.new 10, 3) := by decide +kernel
theorem d_L_law_11 : decode code 11 = .ok (.dup, 1) := by decide +kernel
theorem d_L_law_12 : decode code 12 = .ok (.invokespecial 12, 3) := by decide +kernel
theorem d_L_law_15 : decode code 15 = .ok (.astore_n 2, 1) := by decide +kernel
theorem d_L_law_16 : decode code 16 = .ok (.iconst 0, 1) := by decide +kernel
theorem d_L_law_17 : decode code 17 = .ok (.istore_n 3, 1) := by decide +kernel
theorem d_L_law_18 : decode code 18 = .ok (.iload_n 3, 1) := by decide +kernel
theorem d_L_law_19 : decode code 19 = .ok (.aload_n 0, 1) := by decide +kernel
theorem d_L_law_20 : decode code 20 = .ok (.arraylength, 1) := by decide +kernel
theorem d_L_law_21 : decode code 21 = .ok (.iconst 5, 1) := by decide +kernel
theorem d_L_law_22 : decode code 22 = .ok (.isub, 1) := by decide +kernel
theorem d_L_law_23 : decode code 23 = .ok (.if_icmp .gt 888, 3) := by decide +kernel
theorem d_L_law_26 : decode code 26 = .ok (.aload_n 0, 1) := by decide +kernel
theorem d_L_law_27 : decode code 27 = .ok (.iload_n 3, 1) := by decide +kernel
theorem d_L_law_28 : decode code 28 = .ok (.iaload, 1) := by decide +kernel
theorem d_L_law_29 : decode code 29 = .ok (.bipush 31, 2) := by decide +kernel
theorem d_L_law_31 : decode code 31 = .ok (.iand, 1) := by decide +kernel
theorem d_L_law_32 : decode code 32 = .ok (.tableswitch 873 0 17 #[88, 121, 134, 228, 282, 336, 430, 494, 527, 591, 654, 678, 702, 715, 729, 743, 766, 780], 88) := by decide +kernel
theorem d_L_law_120 : decode code 120 = .ok (.aload_n 1, 1) := by decide +kernel
theorem d_L_law_121 : decode code 121 = .ok (.aload_n 0, 1) := by decide +kernel
theorem d_L_law_122 : decode code 122 = .ok (.iload_n 3, 1) := by decide +kernel
theorem d_L_law_123 : decode code 123 = .ok (.iconst 1, 1) := by decide +kernel
theorem d_L_law_124 : decode code 124 = .ok (.iadd, 1) := by decide +kernel
theorem d_L_law_125 : decode code 125 = .ok (.iaload, 1) := by decide +kernel
theorem d_L_law_126 : decode code 126 = .ok (.aload_n 0, 1) := by decide +kernel
theorem d_L_law_127 : decode code 127 = .ok (.iload_n 3, 1) := by decide +kernel
theorem d_L_law_128 : decode code 128 = .ok (.iconst 2, 1) := by decide +kernel
theorem d_L_law_129 : decode code 129 = .ok (.iadd, 1) := by decide +kernel
theorem d_L_law_130 : decode code 130 = .ok (.iaload, 1) := by decide +kernel
theorem d_L_law_131 : decode code 131 = .ok (.invokevirtual 13, 3) := by decide +kernel
theorem d_L_law_134 : decode code 134 = .ok (.aload_n 2, 1) := by decide +kernel
theorem d_L_law_135 : decode code 135 = .ok (.aload_n 0, 1) := by decide +kernel
theorem d_L_law_136 : decode code 136 = .ok (.iload_n 3, 1) := by decide +kernel
theorem d_L_law_137 : decode code 137 = .ok (.iconst 1, 1) := by decide +kernel
theorem d_L_law_138 : decode code 138 = .ok (.iadd, 1) := by decide +kernel
theorem d_L_law_139 : decode code 139 = .ok (.iaload, 1) := by decide +kernel
theorem d_L_law_140 : decode code 140 = .ok (.aload_n 0, 1) := by decide +kernel
theorem d_L_law_141 : decode code 141 = .ok (.iload_n 3, 1) := by decide +kernel
theorem d_L_law_142 : decode code 142 = .ok (.iconst 2, 1) := by decide +kernel
theorem d_L_law_143 : decode code 143 = .ok (.iadd, 1) := by decide +kernel
theorem d_L_law_144 : decode code 144 = .ok (.iaload, 1) := by decide +kernel
theorem d_L_law_145 : decode code 145 = .ok (.invokevirtual 17, 3) := by decide +kernel
theorem d_L_law_148 : decode code 148 = .ok (.if_icmp .eq 757, 3) := by decide +kernel
theorem d_L_law_151 : decode code 151 = .ok (.iconst 0, 1) := by decide +kernel
theorem d_L_law_152 : decode code 152 = .ok (.ireturn, 1) := by decide +kernel
theorem d_L_law_153 : decode code 153 = .ok (.aload_n 1, 1) := by decide +kernel
theorem d_L_law_154 : decode code 154 = .ok (.invokevirtual 18, 3) := by decide +kernel
theorem d_L_law_157 : decode code 157 = .ok (.aload_n 2, 1) := by decide +kernel
theorem d_L_law_158 : decode code 158 = .ok (.invokevirtual 22, 3) := by decide +kernel
theorem d_L_law_161 : decode code 161 = .ok (.if_icmp .eq 744, 3) := by decide +kernel
theorem d_L_law_164 : decode code 164 = .ok (.iconst 0, 1) := by decide +kernel
theorem d_L_law_165 : decode code 165 = .ok (.ireturn, 1) := by decide +kernel
theorem d_L_law_166 : decode code 166 = .ok (.aload_n 1, 1) := by decide +kernel
theorem d_L_law_167 : decode code 167 = .ok (.aload_n 0, 1) := by decide +kernel
theorem d_L_law_168 : decode code 168 = .ok (.iload_n 3, 1) := by decide +kernel
theorem d_L_law_169 : decode code 169 = .ok (.iconst 1, 1) := by decide +kernel
theorem d_L_law_170 : decode code 170 = .ok (.iadd, 1) := by decide +kernel
theorem d_L_law_171 : decode code 171 = .ok (.iaload, 1) := by decide +kernel
theorem d_L_law_172 : decode code 172 = .ok (.i2l, 1) := by decide +kernel
theorem d_L_law_173 : decode code 173 = .ok (.bipush 32, 2) := by decide +kernel
theorem d_L_law_175 : decode code 175 = .ok (.lshl, 1) := by decide +kernel
theorem d_L_law_176 : decode code 176 = .ok (.aload_n 0, 1) := by decide +kernel
theorem d_L_law_177 : decode code 177 = .ok (.iload_n 3, 1) := by decide +kernel
theorem d_L_law_178 : decode code 178 = .ok (.iconst 2, 1) := by decide +kernel
theorem d_L_law_179 : decode code 179 = .ok (.iadd, 1) := by decide +kernel
theorem d_L_law_180 : decode code 180 = .ok (.iaload, 1) := by decide +kernel
theorem d_L_law_181 : decode code 181 = .ok (.i2l, 1) := by decide +kernel
theorem d_L_law_182 : decode code 182 = .ok (.ldc2_w 23, 3) := by decide +kernel
theorem d_L_law_185 : decode code 185 = .ok (.land, 1) := by decide +kernel
theorem d_L_law_186 : decode code 186 = .ok (.lor, 1) := by decide +kernel
theorem d_L_law_187 : decode code 187 = .ok (.aload_n 0, 1) := by decide +kernel
theorem d_L_law_188 : decode code 188 = .ok (.iload_n 3, 1) := by decide +kernel
theorem d_L_law_189 : decode code 189 = .ok (.iconst 3, 1) := by decide +kernel
theorem d_L_law_190 : decode code 190 = .ok (.iadd, 1) := by decide +kernel
theorem d_L_law_191 : decode code 191 = .ok (.iaload, 1) := by decide +kernel
theorem d_L_law_192 : decode code 192 = .ok (.i2l, 1) := by decide +kernel
end
section
theorem d_L_law_193 : decode code 193 = .ok (.bipush 32, 2) := by decide +kernel
theorem d_L_law_195 : decode code 195 = .ok (.lshl, 1) := by decide +kernel
theorem d_L_law_196 : decode code 196 = .ok (.aload_n 0, 1) := by decide +kernel
theorem d_L_law_197 : decode code 197 = .ok (.iload_n 3, 1) := by decide +kernel
theorem d_L_law_198 : decode code 198 = .ok (.iconst 4, 1) := by decide +kernel
theorem d_L_law_199 : decode code 199 = .ok (.iadd, 1) := by decide +kernel
theorem d_L_law_200 : decode code 200 = .ok (.iaload, 1) := by decide +kernel
theorem d_L_law_201 : decode code 201 = .ok (.i2l, 1) := by decide +kernel
theorem d_L_law_202 : decode code 202 = .ok (.ldc2_w 23, 3) := by decide +kernel
theorem d_L_law_205 : decode code 205 = .ok (.land, 1) := by decide +kernel
theorem d_L_law_206 : decode code 206 = .ok (.lor, 1) := by decide +kernel
theorem d_L_law_207 : decode code 207 = .ok (.invokevirtual 25, 3) := by decide +kernel
theorem d_L_law_210 : decode code 210 = .ok (.aload_n 2, 1) := by decide +kernel
theorem d_L_law_211 : decode code 211 = .ok (.aload_n 0, 1) := by decide +kernel
theorem d_L_law_212 : decode code 212 = .ok (.iload_n 3, 1) := by decide +kernel
theorem d_L_law_213 : decode code 213 = .ok (.iconst 1, 1) := by decide +kernel
theorem d_L_law_214 : decode code 214 = .ok (.iadd, 1) := by decide +kernel
theorem d_L_law_215 : decode code 215 = .ok (.iaload, 1) := by decide +kernel
theorem d_L_law_216 : decode code 216 = .ok (.i2l, 1) := by decide +kernel
theorem d_L_law_217 : decode code 217 = .ok (.bipush 32, 2) := by decide +kernel
theorem d_L_law_219 : decode code 219 = .ok (.lshl, 1) := by decide +kernel
theorem d_L_law_220 : decode code 220 = .ok (.aload_n 0, 1) := by decide +kernel
theorem d_L_law_221 : decode code 221 = .ok (.iload_n 3, 1) := by decide +kernel
theorem d_L_law_222 : decode code 222 = .ok (.iconst 2, 1) := by decide +kernel
theorem d_L_law_223 : decode code 223 = .ok (.iadd, 1) := by decide +kernel
theorem d_L_law_224 : decode code 224 = .ok (.iaload, 1) := by decide +kernel
theorem d_L_law_225 : decode code 225 = .ok (.i2l, 1) := by decide +kernel
theorem d_L_law_226 : decode code 226 = .ok (.ldc2_w 23, 3) := by decide +kernel
theorem d_L_law_229 : decode code 229 = .ok (.land, 1) := by decide +kernel
theorem d_L_law_230 : decode code 230 = .ok (.lor, 1) := by decide +kernel
theorem d_L_law_231 : decode code 231 = .ok (.aload_n 0, 1) := by decide +kernel
theorem d_L_law_232 : decode code 232 = .ok (.iload_n 3, 1) := by decide +kernel
theorem d_L_law_233 : decode code 233 = .ok (.iconst 3, 1) := by decide +kernel
theorem d_L_law_234 : decode code 234 = .ok (.iadd, 1) := by decide +kernel
theorem d_L_law_235 : decode code 235 = .ok (.iaload, 1) := by decide +kernel
theorem d_L_law_236 : decode code 236 = .ok (.i2l, 1) := by decide +kernel
theorem d_L_law_237 : decode code 237 = .ok (.bipush 32, 2) := by decide +kernel
theorem d_L_law_239 : decode code 239 = .ok (.lshl, 1) := by decide +kernel
theorem d_L_law_240 : decode code 240 = .ok (.aload_n 0, 1) := by decide +kernel
theorem d_L_law_241 : decode code 241 = .ok (.iload_n 3, 1) := by decide +kernel
theorem d_L_law_242 : decode code 242 = .ok (.iconst 4, 1) := by decide +kernel
theorem d_L_law_243 : decode code 243 = .ok (.iadd, 1) := by decide +kernel
theorem d_L_law_244 : decode code 244 = .ok (.iaload, 1) := by decide +kernel
theorem d_L_law_245 : decode code 245 = .ok (.i2l, 1) := by decide +kernel
theorem d_L_law_246 : decode code 246 = .ok (.ldc2_w 23, 3) := by decide +kernel
theorem d_L_law_249 : decode code 249 = .ok (.land, 1) := by decide +kernel
theorem d_L_law_250 : decode code 250 = .ok (.lor, 1) := by decide +kernel
theorem d_L_law_251 : decode code 251 = .ok (.invokevirtual 29, 3) := by decide +kernel
theorem d_L_law_254 : decode code 254 = .ok (.lcmp, 1) := by decide +kernel
theorem d_L_law_255 : decode code 255 = .ok (.ifCond .eq 650, 3) := by decide +kernel
theorem d_L_law_258 : decode code 258 = .ok (.iconst 0, 1) := by decide +kernel
theorem d_L_law_259 : decode code 259 = .ok (.ireturn, 1) := by decide +kernel
theorem d_L_law_260 : decode code 260 = .ok (.aload_n 1, 1) := by decide +kernel
theorem d_L_law_261 : decode code 261 = .ok (.aload_n 0, 1) := by decide +kernel
theorem d_L_law_262 : decode code 262 = .ok (.iload_n 3, 1) := by decide +kernel
theorem d_L_law_263 : decode code 263 = .ok (.iconst 1, 1) := by decide +kernel
theorem d_L_law_264 : decode code 264 = .ok (.iadd, 1) := by decide +kernel
theorem d_L_law_265 : decode code 265 = .ok (.iaload, 1) := by decide +kernel
theorem d_L_law_266 : decode code 266 = .ok (.i2l, 1) := by decide +kernel
theorem d_L_law_267 : decode code 267 = .ok (.bipush 32, 2) := by decide +kernel
theorem d_L_law_269 : decode code 269 = .ok (.lshl, 1) := by decide +kernel
theorem d_L_law_270 : decode code 270 = .ok (.aload_n 0, 1) := by decide +kernel
theorem d_L_law_271 : decode code 271 = .ok (.iload_n 3, 1) := by decide +kernel
theorem d_L_law_272 : decode code 272 = .ok (.iconst 2, 1) := by decide +kernel
theorem d_L_law_273 : decode code 273 = .ok (.iadd, 1) := by decide +kernel
theorem d_L_law_274 : decode code 274 = .ok (.iaload, 1) := by decide +kernel
theorem d_L_law_275 : decode code 275 = .ok (.i2l, 1) := by decide +kernel
theorem d_L_law_276 : decode code 276 = .ok (.ldc2_w 23, 3) := by decide +kernel
theorem d_L_law_279 : decode code 279 = .ok (.land, 1) := by decide +kernel
theorem d_L_law_280 : decode code 280 = .ok (.lor, 1) := by decide +kernel
theorem d_L_law_281 : decode code 281 = .ok (.invokevirtual 30, 3) := by decide +kernel
theorem d_L_law_284 : decode code 284 = .ok (.aload_n 2, 1) := by decide +kernel
theorem d_L_law_285 : decode code 285 = .ok (.aload_n 0, 1) := by decide +kernel
theorem d_L_law_286 : decode code 286 = .ok (.iload_n 3, 1) := by decide +kernel
theorem d_L_law_287 : decode code 287 = .ok (.iconst 1, 1) := by decide +kernel
theorem d_L_law_288 : decode code 288 = .ok (.iadd, 1) := by decide +kernel
theorem d_L_law_289 : decode code 289 = .ok (.iaload, 1) := by decide +kernel
theorem d_L_law_290 : decode code 290 = .ok (.i2l, 1) := by decide +kernel
theorem d_L_law_291 : decode code 291 = .ok (.bipush 32, 2) := by decide +kernel
theorem d_L_law_293 : decode code 293 = .ok (.lshl, 1) := by decide +kernel
end
section
theorem d_L_law_294 : decode code 294 = .ok (.aload_n 0, 1) := by decide +kernel
theorem d_L_law_295 : decode code 295 = .ok (.iload_n 3, 1) := by decide +kernel
theorem d_L_law_296 : decode code 296 = .ok (.iconst 2, 1) := by decide +kernel
theorem d_L_law_297 : decode code 297 = .ok (.iadd, 1) := by decide +kernel
theorem d_L_law_298 : decode code 298 = .ok (.iaload, 1) := by decide +kernel
theorem d_L_law_299 : decode code 299 = .ok (.i2l, 1) := by decide +kernel
theorem d_L_law_300 : decode code 300 = .ok (.ldc2_w 23, 3) := by decide +kernel
theorem d_L_law_303 : decode code 303 = .ok (.land, 1) := by decide +kernel
theorem d_L_law_304 : decode code 304 = .ok (.lor, 1) := by decide +kernel
theorem d_L_law_305 : decode code 305 = .ok (.invokevirtual 34, 3) := by decide +kernel
theorem d_L_law_308 : decode code 308 = .ok (.lcmp, 1) := by decide +kernel
theorem d_L_law_309 : decode code 309 = .ok (.ifCond .eq 596, 3) := by decide +kernel
theorem d_L_law_312 : decode code 312 = .ok (.iconst 0, 1) := by decide +kernel
theorem d_L_law_313 : decode code 313 = .ok (.ireturn, 1) := by decide +kernel
theorem d_L_law_314 : decode code 314 = .ok (.aload_n 1, 1) := by decide +kernel
theorem d_L_law_315 : decode code 315 = .ok (.aload_n 0, 1) := by decide +kernel
theorem d_L_law_316 : decode code 316 = .ok (.iload_n 3, 1) := by decide +kernel
theorem d_L_law_317 : decode code 317 = .ok (.iconst 1, 1) := by decide +kernel
theorem d_L_law_318 : decode code 318 = .ok (.iadd, 1) := by decide +kernel
theorem d_L_law_319 : decode code 319 = .ok (.iaload, 1) := by decide +kernel
theorem d_L_law_320 : decode code 320 = .ok (.i2l, 1) := by decide +kernel
theorem d_L_law_321 : decode code 321 = .ok (.bipush 32, 2) := by decide +kernel
theorem d_L_law_323 : decode code 323 = .ok (.lshl, 1) := by decide +kernel
theorem d_L_law_324 : decode code 324 = .ok (.aload_n 0, 1) := by decide +kernel
theorem d_L_law_325 : decode code 325 = .ok (.iload_n 3, 1) := by decide +kernel
theorem d_L_law_326 : decode code 326 = .ok (.iconst 2, 1) := by decide +kernel
theorem d_L_law_327 : decode code 327 = .ok (.iadd, 1) := by decide +kernel
theorem d_L_law_328 : decode code 328 = .ok (.iaload, 1) := by decide +kernel
theorem d_L_law_329 : decode code 329 = .ok (.i2l, 1) := by decide +kernel
theorem d_L_law_330 : decode code 330 = .ok (.ldc2_w 23, 3) := by decide +kernel
theorem d_L_law_333 : decode code 333 = .ok (.land, 1) := by decide +kernel
theorem d_L_law_334 : decode code 334 = .ok (.lor, 1) := by decide +kernel
theorem d_L_law_335 : decode code 335 = .ok (.invokevirtual 35, 3) := by decide +kernel
theorem d_L_law_338 : decode code 338 = .ok (.aload_n 2, 1) := by decide +kernel
theorem d_L_law_339 : decode code 339 = .ok (.aload_n 0, 1) := by decide +kernel
theorem d_L_law_340 : decode code 340 = .ok (.iload_n 3, 1) := by decide +kernel
theorem d_L_law_341 : decode code 341 = .ok (.iconst 1, 1) := by decide +kernel
theorem d_L_law_342 : decode code 342 = .ok (.iadd, 1) := by decide +kernel
theorem d_L_law_343 : decode code 343 = .ok (.iaload, 1) := by decide +kernel
theorem d_L_law_344 : decode code 344 = .ok (.i2l, 1) := by decide +kernel
theorem d_L_law_345 : decode code 345 = .ok (.bipush 32, 2) := by decide +kernel
theorem d_L_law_347 : decode code 347 = .ok (.lshl, 1) := by decide +kernel
theorem d_L_law_348 : decode code 348 = .ok (.aload_n 0, 1) := by decide +kernel
theorem d_L_law_349 : decode code 349 = .ok (.iload_n 3, 1) := by decide +kernel
theorem d_L_law_350 : decode code 350 = .ok (.iconst 2, 1) := by decide +kernel
theorem d_L_law_351 : decode code 351 = .ok (.iadd, 1) := by decide +kernel
theorem d_L_law_352 : decode code 352 = .ok (.iaload, 1) := by decide +kernel
theorem d_L_law_353 : decode code 353 = .ok (.i2l, 1) := by decide +kernel
theorem d_L_law_354 : decode code 354 = .ok (.ldc2_w 23, 3) := by decide +kernel
theorem d_L_law_357 : decode code 357 = .ok (.land, 1) := by decide +kernel
theorem d_L_law_358 : decode code 358 = .ok (.lor, 1) := by decide +kernel
theorem d_L_law_359 : decode code 359 = .ok (.invokevirtual 38, 3) := by decide +kernel
theorem d_L_law_362 : decode code 362 = .ok (.lcmp, 1) := by decide +kernel
theorem d_L_law_363 : decode code 363 = .ok (.ifCond .eq 542, 3) := by decide +kernel
theorem d_L_law_366 : decode code 366 = .ok (.iconst 0, 1) := by decide +kernel
theorem d_L_law_367 : decode code 367 = .ok (.ireturn, 1) := by decide +kernel
theorem d_L_law_368 : decode code 368 = .ok (.aload_n 1, 1) := by decide +kernel
theorem d_L_law_369 : decode code 369 = .ok (.aload_n 0, 1) := by decide +kernel
theorem d_L_law_370 : decode code 370 = .ok (.iload_n 3, 1) := by decide +kernel
theorem d_L_law_371 : decode code 371 = .ok (.iconst 1, 1) := by decide +kernel
theorem d_L_law_372 : decode code 372 = .ok (.iadd, 1) := by decide +kernel
theorem d_L_law_373 : decode code 373 = .ok (.iaload, 1) := by decide +kernel
theorem d_L_law_374 : decode code 374 = .ok (.i2l, 1) := by decide +kernel
theorem d_L_law_375 : decode code 375 = .ok (.bipush 32, 2) := by decide +kernel
theorem d_L_law_377 : decode code 377 = .ok (.lshl, 1) := by decide +kernel
theorem d_L_law_378 : decode code 378 = .ok (.aload_n 0, 1) := by decide +kernel
theorem d_L_law_379 : decode code 379 = .ok (.iload_n 3, 1) := by decide +kernel
theorem d_L_law_380 : decode code 380 = .ok (.iconst 2, 1) := by decide +kernel
theorem d_L_law_381 : decode code 381 = .ok (.iadd, 1) := by decide +kernel
theorem d_L_law_382 : decode code 382 = .ok (.iaload, 1) := by decide +kernel
theorem d_L_law_383 : decode code 383 = .ok (.i2l, 1) := by decide +kernel
theorem d_L_law_384 : decode code 384 = .ok (.ldc2_w 23, 3) := by decide +kernel
theorem d_L_law_387 : decode code 387 = .ok (.land, 1) := by decide +kernel
theorem d_L_law_388 : decode code 388 = .ok (.lor, 1) := by decide +kernel
theorem d_L_law_389 : decode code 389 = .ok (.aload_n 0, 1) := by decide +kernel
theorem d_L_law_390 : decode code 390 = .ok (.iload_n 3, 1) := by decide +kernel
theorem d_L_law_391 : decode code 391 = .ok (.iconst 3, 1) := by decide +kernel
theorem d_L_law_392 : decode code 392 = .ok (.iadd, 1) := by decide +kernel
theorem d_L_law_393 : decode code 393 = .ok (.iaload, 1) := by decide +kernel
theorem d_L_law_394 : decode code 394 = .ok (.i2l, 1) := by decide +kernel
end
section
theorem d_L_law_395 : decode code 395 = .ok (.bipush 32, 2) := by decide +kernel
theorem d_L_law_397 : decode code 397 = .ok (.lshl, 1) := by decide +kernel
theorem d_L_law_398 : decode code 398 = .ok (.aload_n 0, 1) := by decide +kernel
theorem d_L_law_399 : decode code 399 = .ok (.iload_n 3, 1) := by decide +kernel
theorem d_L_law_400 : decode code 400 = .ok (.iconst 4, 1) := by decide +kernel
theorem d_L_law_401 : decode code 401 = .ok (.iadd, 1) := by decide +kernel
theorem d_L_law_402 : decode code 402 = .ok (.iaload, 1) := by decide +kernel
theorem d_L_law_403 : decode code 403 = .ok (.i2l, 1) := by decide +kernel
theorem d_L_law_404 : decode code 404 = .ok (.ldc2_w 23, 3) := by decide +kernel
theorem d_L_law_407 : decode code 407 = .ok (.land, 1) := by decide +kernel
theorem d_L_law_408 : decode code 408 = .ok (.lor, 1) := by decide +kernel
theorem d_L_law_409 : decode code 409 = .ok (.invokevirtual 39, 3) := by decide +kernel
theorem d_L_law_412 : decode code 412 = .ok (.aload_n 2, 1) := by decide +kernel
theorem d_L_law_413 : decode code 413 = .ok (.aload_n 0, 1) := by decide +kernel
theorem d_L_law_414 : decode code 414 = .ok (.iload_n 3, 1) := by decide +kernel
theorem d_L_law_415 : decode code 415 = .ok (.iconst 1, 1) := by decide +kernel
theorem d_L_law_416 : decode code 416 = .ok (.iadd, 1) := by decide +kernel
theorem d_L_law_417 : decode code 417 = .ok (.iaload, 1) := by decide +kernel
theorem d_L_law_418 : decode code 418 = .ok (.i2l, 1) := by decide +kernel
theorem d_L_law_419 : decode code 419 = .ok (.bipush 32, 2) := by decide +kernel
theorem d_L_law_421 : decode code 421 = .ok (.lshl, 1) := by decide +kernel
theorem d_L_law_422 : decode code 422 = .ok (.aload_n 0, 1) := by decide +kernel
theorem d_L_law_423 : decode code 423 = .ok (.iload_n 3, 1) := by decide +kernel
theorem d_L_law_424 : decode code 424 = .ok (.iconst 2, 1) := by decide +kernel
theorem d_L_law_425 : decode code 425 = .ok (.iadd, 1) := by decide +kernel
theorem d_L_law_426 : decode code 426 = .ok (.iaload, 1) := by decide +kernel
theorem d_L_law_427 : decode code 427 = .ok (.i2l, 1) := by decide +kernel
theorem d_L_law_428 : decode code 428 = .ok (.ldc2_w 23, 3) := by decide +kernel
theorem d_L_law_431 : decode code 431 = .ok (.land, 1) := by decide +kernel
theorem d_L_law_432 : decode code 432 = .ok (.lor, 1) := by decide +kernel
theorem d_L_law_433 : decode code 433 = .ok (.aload_n 0, 1) := by decide +kernel
theorem d_L_law_434 : decode code 434 = .ok (.iload_n 3, 1) := by decide +kernel
theorem d_L_law_435 : decode code 435 = .ok (.iconst 3, 1) := by decide +kernel
theorem d_L_law_436 : decode code 436 = .ok (.iadd, 1) := by decide +kernel
theorem d_L_law_437 : decode code 437 = .ok (.iaload, 1) := by decide +kernel
theorem d_L_law_438 : decode code 438 = .ok (.i2l, 1) := by decide +kernel
theorem d_L_law_439 : decode code 439 = .ok (.bipush 32, 2) := by decide +kernel
theorem d_L_law_441 : decode code 441 = .ok (.lshl, 1) := by decide +kernel
theorem d_L_law_442 : decode code 442 = .ok (.aload_n 0, 1) := by decide +kernel
theorem d_L_law_443 : decode code 443 = .ok (.iload_n 3, 1) := by decide +kernel
theorem d_L_law_444 : decode code 444 = .ok (.iconst 4, 1) := by decide +kernel
theorem d_L_law_445 : decode code 445 = .ok (.iadd, 1) := by decide +kernel
theorem d_L_law_446 : decode code 446 = .ok (.iaload, 1) := by decide +kernel
theorem d_L_law_447 : decode code 447 = .ok (.i2l, 1) := by decide +kernel
theorem d_L_law_448 : decode code 448 = .ok (.ldc2_w 23, 3) := by decide +kernel
theorem d_L_law_451 : decode code 451 = .ok (.land, 1) := by decide +kernel
theorem d_L_law_452 : decode code 452 = .ok (.lor, 1) := by decide +kernel
theorem d_L_law_453 : decode code 453 = .ok (.invokevirtual 42, 3) := by decide +kernel
theorem d_L_law_456 : decode code 456 = .ok (.lcmp, 1) := by decide +kernel
theorem d_L_law_457 : decode code 457 = .ok (.ifCond .eq 448, 3) := by decide +kernel
theorem d_L_law_460 : decode code 460 = .ok (.iconst 0, 1) := by decide +kernel
theorem d_L_law_461 : decode code 461 = .ok (.ireturn, 1) := by decide +kernel
theorem d_L_law_462 : decode code 462 = .ok (.aload_n 1, 1) := by decide +kernel
theorem d_L_law_463 : decode code 463 = .ok (.aload_n 0, 1) := by decide +kernel
theorem d_L_law_464 : decode code 464 = .ok (.iload_n 3, 1) := by decide +kernel
theorem d_L_law_465 : decode code 465 = .ok (.iconst 1, 1) := by decide +kernel
theorem d_L_law_466 : decode code 466 = .ok (.iadd, 1) := by decide +kernel
theorem d_L_law_467 : decode code 467 = .ok (.iaload, 1) := by decide +kernel
theorem d_L_law_468 : decode code 468 = .ok (.i2l, 1) := by decide +kernel
theorem d_L_law_469 : decode code 469 = .ok (.bipush 32, 2) := by decide +kernel
theorem d_L_law_471 : decode code 471 = .ok (.lshl, 1) := by decide +kernel
theorem d_L_law_472 : decode code 472 = .ok (.aload_n 0, 1) := by decide +kernel
theorem d_L_law_473 : decode code 473 = .ok (.iload_n 3, 1) := by decide +kernel
theorem d_L_law_474 : decode code 474 = .ok (.iconst 2, 1) := by decide +kernel
theorem d_L_law_475 : decode code 475 = .ok (.iadd, 1) := by decide +kernel
theorem d_L_law_476 : decode code 476 = .ok (.iaload, 1) := by decide +kernel
theorem d_L_law_477 : decode code 477 = .ok (.i2l, 1) := by decide +kernel
theorem d_L_law_478 : decode code 478 = .ok (.ldc2_w 23, 3) := by decide +kernel
theorem d_L_law_481 : decode code 481 = .ok (.land, 1) := by decide +kernel
theorem d_L_law_482 : decode code 482 = .ok (.lor, 1) := by decide +kernel
theorem d_L_law_483 : decode code 483 = .ok (.aload_n 0, 1) := by decide +kernel
theorem d_L_law_484 : decode code 484 = .ok (.iload_n 3, 1) := by decide +kernel
theorem d_L_law_485 : decode code 485 = .ok (.iconst 3, 1) := by decide +kernel
theorem d_L_law_486 : decode code 486 = .ok (.iadd, 1) := by decide +kernel
theorem d_L_law_487 : decode code 487 = .ok (.iaload, 1) := by decide +kernel
theorem d_L_law_488 : decode code 488 = .ok (.invokevirtual 43, 3) := by decide +kernel
theorem d_L_law_491 : decode code 491 = .ok (.aload_n 2, 1) := by decide +kernel
theorem d_L_law_492 : decode code 492 = .ok (.aload_n 0, 1) := by decide +kernel
theorem d_L_law_493 : decode code 493 = .ok (.iload_n 3, 1) := by decide +kernel
theorem d_L_law_494 : decode code 494 = .ok (.iconst 1, 1) := by decide +kernel
end
section
theorem d_L_law_495 : decode code 495 = .ok (.iadd, 1) := by decide +kernel
theorem d_L_law_496 : decode code 496 = .ok (.iaload, 1) := by decide +kernel
theorem d_L_law_497 : decode code 497 = .ok (.i2l, 1) := by decide +kernel
theorem d_L_law_498 : decode code 498 = .ok (.bipush 32, 2) := by decide +kernel
theorem d_L_law_500 : decode code 500 = .ok (.lshl, 1) := by decide +kernel
theorem d_L_law_501 : decode code 501 = .ok (.aload_n 0, 1) := by decide +kernel
theorem d_L_law_502 : decode code 502 = .ok (.iload_n 3, 1) := by decide +kernel
theorem d_L_law_503 : decode code 503 = .ok (.iconst 2, 1) := by decide +kernel
theorem d_L_law_504 : decode code 504 = .ok (.iadd, 1) := by decide +kernel
theorem d_L_law_505 : decode code 505 = .ok (.iaload, 1) := by decide +kernel
theorem d_L_law_506 : decode code 506 = .ok (.i2l, 1) := by decide +kernel
theorem d_L_law_507 : decode code 507 = .ok (.ldc2_w 23, 3) := by decide +kernel
theorem d_L_law_510 : decode code 510 = .ok (.land, 1) := by decide +kernel
theorem d_L_law_511 : decode code 511 = .ok (.lor, 1) := by decide +kernel
theorem d_L_law_512 : decode code 512 = .ok (.aload_n 0, 1) := by decide +kernel
theorem d_L_law_513 : decode code 513 = .ok (.iload_n 3, 1) := by decide +kernel
theorem d_L_law_514 : decode code 514 = .ok (.iconst 3, 1) := by decide +kernel
theorem d_L_law_515 : decode code 515 = .ok (.iadd, 1) := by decide +kernel
theorem d_L_law_516 : decode code 516 = .ok (.iaload, 1) := by decide +kernel
theorem d_L_law_517 : decode code 517 = .ok (.invokevirtual 47, 3) := by decide +kernel
theorem d_L_law_520 : decode code 520 = .ok (.lcmp, 1) := by decide +kernel
theorem d_L_law_521 : decode code 521 = .ok (.ifCond .eq 384, 3) := by decide +kernel
theorem d_L_law_524 : decode code 524 = .ok (.iconst 0, 1) := by decide +kernel
theorem d_L_law_525 : decode code 525 = .ok (.ireturn, 1) := by decide +kernel
theorem d_L_law_526 : decode code 526 = .ok (.aload_n 1, 1) := by decide +kernel
theorem d_L_law_527 : decode code 527 = .ok (.aload_n 0, 1) := by decide +kernel
theorem d_L_law_528 : decode code 528 = .ok (.iload_n 3, 1) := by decide +kernel
theorem d_L_law_529 : decode code 529 = .ok (.iconst 1, 1) := by decide +kernel
theorem d_L_law_530 : decode code 530 = .ok (.iadd, 1) := by decide +kernel
theorem d_L_law_531 : decode code 531 = .ok (.iaload, 1) := by decide +kernel
theorem d_L_law_532 : decode code 532 = .ok (.aload_n 0, 1) := by decide +kernel
theorem d_L_law_533 : decode code 533 = .ok (.iload_n 3, 1) := by decide +kernel
theorem d_L_law_534 : decode code 534 = .ok (.iconst 2, 1) := by decide +kernel
theorem d_L_law_535 : decode code 535 = .ok (.iadd, 1) := by decide +kernel
theorem d_L_law_536 : decode code 536 = .ok (.iaload, 1) := by decide +kernel
theorem d_L_law_537 : decode code 537 = .ok (.invokevirtual 48, 3) := by decide +kernel
theorem d_L_law_540 : decode code 540 = .ok (.aload_n 2, 1) := by decide +kernel
theorem d_L_law_541 : decode code 541 = .ok (.aload_n 0, 1) := by decide +kernel
theorem d_L_law_542 : decode code 542 = .ok (.iload_n 3, 1) := by decide +kernel
theorem d_L_law_543 : decode code 543 = .ok (.iconst 1, 1) := by decide +kernel
theorem d_L_law_544 : decode code 544 = .ok (.iadd, 1) := by decide +kernel
theorem d_L_law_545 : decode code 545 = .ok (.iaload, 1) := by decide +kernel
theorem d_L_law_546 : decode code 546 = .ok (.aload_n 0, 1) := by decide +kernel
theorem d_L_law_547 : decode code 547 = .ok (.iload_n 3, 1) := by decide +kernel
theorem d_L_law_548 : decode code 548 = .ok (.iconst 2, 1) := by decide +kernel
theorem d_L_law_549 : decode code 549 = .ok (.iadd, 1) := by decide +kernel
theorem d_L_law_550 : decode code 550 = .ok (.iaload, 1) := by decide +kernel
theorem d_L_law_551 : decode code 551 = .ok (.invokevirtual 52, 3) := by decide +kernel
theorem d_L_law_554 : decode code 554 = .ok (.if_icmp .eq 351, 3) := by decide +kernel
theorem d_L_law_557 : decode code 557 = .ok (.iconst 0, 1) := by decide +kernel
theorem d_L_law_558 : decode code 558 = .ok (.ireturn, 1) := by decide +kernel
theorem d_L_law_559 : decode code 559 = .ok (.aload_n 1, 1) := by decide +kernel
theorem d_L_law_560 : decode code 560 = .ok (.aload_n 0, 1) := by decide +kernel
theorem d_L_law_561 : decode code 561 = .ok (.iload_n 3, 1) := by decide +kernel
theorem d_L_law_562 : decode code 562 = .ok (.iconst 1, 1) := by decide +kernel
theorem d_L_law_563 : decode code 563 = .ok (.iadd, 1) := by decide +kernel
theorem d_L_law_564 : decode code 564 = .ok (.iaload, 1) := by decide +kernel
theorem d_L_law_565 : decode code 565 = .ok (.aload_n 0, 1) := by decide +kernel
theorem d_L_law_566 : decode code 566 = .ok (.iload_n 3, 1) := by decide +kernel
theorem d_L_law_567 : decode code 567 = .ok (.iconst 2, 1) := by decide +kernel
theorem d_L_law_568 : decode code 568 = .ok (.iadd, 1) := by decide +kernel
theorem d_L_law_569 : decode code 569 = .ok (.iaload, 1) := by decide +kernel
theorem d_L_law_570 : decode code 570 = .ok (.i2l, 1) := by decide +kernel
theorem d_L_law_571 : decode code 571 = .ok (.bipush 32, 2) := by decide +kernel
theorem d_L_law_573 : decode code 573 = .ok (.lshl, 1) := by decide +kernel
theorem d_L_law_574 : decode code 574 = .ok (.aload_n 0, 1) := by decide +kernel
theorem d_L_law_575 : decode code 575 = .ok (.iload_n 3, 1) := by decide +kernel
theorem d_L_law_576 : decode code 576 = .ok (.iconst 3, 1) := by decide +kernel
theorem d_L_law_577 : decode code 577 = .ok (.iadd, 1) := by decide +kernel
theorem d_L_law_578 : decode code 578 = .ok (.iaload, 1) := by decide +kernel
theorem d_L_law_579 : decode code 579 = .ok (.i2l, 1) := by decide +kernel
theorem d_L_law_580 : decode code 580 = .ok (.ldc2_w 23, 3) := by decide +kernel
theorem d_L_law_583 : decode code 583 = .ok (.land, 1) := by decide +kernel
theorem d_L_law_584 : decode code 584 = .ok (.lor, 1) := by decide +kernel
theorem d_L_law_585 : decode code 585 = .ok (.invokevirtual 53, 3) := by decide +kernel
theorem d_L_law_588 : decode code 588 = .ok (.aload_n 2, 1) := by decide +kernel
theorem d_L_law_589 : decode code 589 = .ok (.aload_n 0, 1) := by decide +kernel
theorem d_L_law_590 : decode code 590 = .ok (.iload_n 3, 1) := by decide +kernel
theorem d_L_law_591 : decode code 591 = .ok (.iconst 1, 1) := by decide +kernel
theorem d_L_law_592 : decode code 592 = .ok (.iadd, 1) := by decide +kernel
end
section
theorem d_L_law_593 : decode code 593 = .ok (.iaload, 1) := by decide +kernel
theorem d_L_law_594 : decode code 594 = .ok (.aload_n 0, 1) := by decide +kernel
theorem d_L_law_595 : decode code 595 = .ok (.iload_n 3, 1) := by decide +kernel
theorem d_L_law_596 : decode code 596 = .ok (.iconst 2, 1) := by decide +kernel
theorem d_L_law_597 : decode code 597 = .ok (.iadd, 1) := by decide +kernel
theorem d_L_law_598 : decode code 598 = .ok (.iaload, 1) := by decide +kernel
theorem d_L_law_599 : decode code 599 = .ok (.i2l, 1) := by decide +kernel
theorem d_L_law_600 : decode code 600 = .ok (.bipush 32, 2) := by decide +kernel
theorem d_L_law_602 : decode code 602 = .ok (.lshl, 1) := by decide +kernel
theorem d_L_law_603 : decode code 603 = .ok (.aload_n 0, 1) := by decide +kernel
theorem d_L_law_604 : decode code 604 = .ok (.iload_n 3, 1) := by decide +kernel
theorem d_L_law_605 : decode code 605 = .ok (.iconst 3, 1) := by decide +kernel
theorem d_L_law_606 : decode code 606 = .ok (.iadd, 1) := by decide +kernel
theorem d_L_law_607 : decode code 607 = .ok (.iaload, 1) := by decide +kernel
theorem d_L_law_608 : decode code 608 = .ok (.i2l, 1) := by decide +kernel
theorem d_L_law_609 : decode code 609 = .ok (.ldc2_w 23, 3) := by decide +kernel
theorem d_L_law_612 : decode code 612 = .ok (.land, 1) := by decide +kernel
theorem d_L_law_613 : decode code 613 = .ok (.lor, 1) := by decide +kernel
theorem d_L_law_614 : decode code 614 = .ok (.invokevirtual 57, 3) := by decide +kernel
theorem d_L_law_617 : decode code 617 = .ok (.lcmp, 1) := by decide +kernel
theorem d_L_law_618 : decode code 618 = .ok (.ifCond .eq 287, 3) := by decide +kernel
theorem d_L_law_621 : decode code 621 = .ok (.iconst 0, 1) := by decide +kernel
theorem d_L_law_622 : decode code 622 = .ok (.ireturn, 1) := by decide +kernel
theorem d_L_law_623 : decode code 623 = .ok (.aload_n 1, 1) := by decide +kernel
theorem d_L_law_624 : decode code 624 = .ok (.aload_n 0, 1) := by decide +kernel
theorem d_L_law_625 : decode code 625 = .ok (.iload_n 3, 1) := by decide +kernel
theorem d_L_law_626 : decode code 626 = .ok (.iconst 1, 1) := by decide +kernel
theorem d_L_law_627 : decode code 627 = .ok (.iadd, 1) := by decide +kernel
theorem d_L_law_628 : decode code 628 = .ok (.iaload, 1) := by decide +kernel
theorem d_L_law_629 : decode code 629 = .ok (.aload_n 0, 1) := by decide +kernel
theorem d_L_law_630 : decode code 630 = .ok (.iload_n 3, 1) := by decide +kernel
theorem d_L_law_631 : decode code 631 = .ok (.iconst 2, 1) := by decide +kernel
theorem d_L_law_632 : decode code 632 = .ok (.iadd, 1) := by decide +kernel
theorem d_L_law_633 : decode code 633 = .ok (.iaload, 1) := by decide +kernel
theorem d_L_law_634 : decode code 634 = .ok (.i2l, 1) := by decide +kernel
theorem d_L_law_635 : decode code 635 = .ok (.bipush 32, 2) := by decide +kernel
theorem d_L_law_637 : decode code 637 = .ok (.lshl, 1) := by decide +kernel
theorem d_L_law_638 : decode code 638 = .ok (.aload_n 0, 1) := by decide +kernel
theorem d_L_law_639 : decode code 639 = .ok (.iload_n 3, 1) := by decide +kernel
theorem d_L_law_640 : decode code 640 = .ok (.iconst 3, 1) := by decide +kernel
theorem d_L_law_641 : decode code 641 = .ok (.iadd, 1) := by decide +kernel
theorem d_L_law_642 : decode code 642 = .ok (.iaload, 1) := by decide +kernel
theorem d_L_law_643 : decode code 643 = .ok (.i2l, 1) := by decide +kernel
theorem d_L_law_644 : decode code 644 = .ok (.ldc2_w 23, 3) := by decide +kernel
theorem d_L_law_647 : decode code 647 = .ok (.land, 1) := by decide +kernel
theorem d_L_law_648 : decode code 648 = .ok (.lor, 1) := by decide +kernel
theorem d_L_law_649 : decode code 649 = .ok (.invokevirtual 58, 3) := by decide +kernel
theorem d_L_law_652 : decode code 652 = .ok (.aload_n 2, 1) := by decide +kernel
theorem d_L_law_653 : decode code 653 = .ok (.aload_n 0, 1) := by decide +kernel
theorem d_L_law_654 : decode code 654 = .ok (.iload_n 3, 1) := by decide +kernel
theorem d_L_law_655 : decode code 655 = .ok (.iconst 1, 1) := by decide +kernel
theorem d_L_law_656 : decode code 656 = .ok (.iadd, 1) := by decide +kernel
theorem d_L_law_657 : decode code 657 = .ok (.iaload, 1) := by decide +kernel
theorem d_L_law_658 : decode code 658 = .ok (.aload_n 0, 1) := by decide +kernel
theorem d_L_law_659 : decode code 659 = .ok (.iload_n 3, 1) := by decide +kernel
theorem d_L_law_660 : decode code 660 = .ok (.iconst 2, 1) := by decide +kernel
theorem d_L_law_661 : decode code 661 = .ok (.iadd, 1) := by decide +kernel
theorem d_L_law_662 : decode code 662 = .ok (.iaload, 1) := by decide +kernel
theorem d_L_law_663 : decode code 663 = .ok (.i2l, 1) := by decide +kernel
theorem d_L_law_664 : decode code 664 = .ok (.bipush 32, 2) := by decide +kernel
theorem d_L_law_666 : decode code 666 = .ok (.lshl, 1) := by decide +kernel
theorem d_L_law_667 : decode code 667 = .ok (.aload_n 0, 1) := by decide +kernel
theorem d_L_law_668 : decode code 668 = .ok (.iload_n 3, 1) := by decide +kernel
theorem d_L_law_669 : decode code 669 = .ok (.iconst 3, 1) := by decide +kernel
theorem d_L_law_670 : decode code 670 = .ok (.iadd, 1) := by decide +kernel
theorem d_L_law_671 : decode code 671 = .ok (.iaload, 1) := by decide +kernel
theorem d_L_law_672 : decode code 672 = .ok (.i2l, 1) := by decide +kernel
theorem d_L_law_673 : decode code 673 = .ok (.ldc2_w 23, 3) := by decide +kernel
theorem d_L_law_676 : decode code 676 = .ok (.land, 1) := by decide +kernel
theorem d_L_law_677 : decode code 677 = .ok (.lor, 1) := by decide +kernel
theorem d_L_law_678 : decode code 678 = .ok (.invokevirtual 62, 3) := by decide +kernel
theorem d_L_law_681 : decode code 681 = .ok (.if_icmp .eq 224, 3) := by decide +kernel
theorem d_L_law_684 : decode code 684 = .ok (.iconst 0, 1) := by decide +kernel
theorem d_L_law_685 : decode code 685 = .ok (.ireturn, 1) := by decide +kernel
theorem d_L_law_686 : decode code 686 = .ok (.aload_n 1, 1) := by decide +kernel
theorem d_L_law_687 : decode code 687 = .ok (.aload_n 0, 1) := by decide +kernel
theorem d_L_law_688 : decode code 688 = .ok (.iload_n 3, 1) := by decide +kernel
theorem d_L_law_689 : decode code 689 = .ok (.iconst 1, 1) := by decide +kernel
theorem d_L_law_690 : decode code 690 = .ok (.iadd, 1) := by decide +kernel
theorem d_L_law_691 : decode code 691 = .ok (.iaload, 1) := by decide +kernel
end
section
theorem d_L_law_692 : decode code 692 = .ok (.invokevirtual 63, 3) := by decide +kernel
theorem d_L_law_695 : decode code 695 = .ok (.aload_n 2, 1) := by decide +kernel
theorem d_L_law_696 : decode code 696 = .ok (.aload_n 0, 1) := by decide +kernel
theorem d_L_law_697 : decode code 697 = .ok (.iload_n 3, 1) := by decide +kernel
theorem d_L_law_698 : decode code 698 = .ok (.iconst 1, 1) := by decide +kernel
theorem d_L_law_699 : decode code 699 = .ok (.iadd, 1) := by decide +kernel
theorem d_L_law_700 : decode code 700 = .ok (.iaload, 1) := by decide +kernel
theorem d_L_law_701 : decode code 701 = .ok (.invokevirtual 67, 3) := by decide +kernel
theorem d_L_law_704 : decode code 704 = .ok (.lcmp, 1) := by decide +kernel
theorem d_L_law_705 : decode code 705 = .ok (.ifCond .eq 200, 3) := by decide +kernel
theorem d_L_law_708 : decode code 708 = .ok (.iconst 0, 1) := by decide +kernel
theorem d_L_law_709 : decode code 709 = .ok (.ireturn, 1) := by decide +kernel
theorem d_L_law_710 : decode code 710 = .ok (.aload_n 1, 1) := by decide +kernel
theorem d_L_law_711 : decode code 711 = .ok (.aload_n 0, 1) := by decide +kernel
theorem d_L_law_712 : decode code 712 = .ok (.iload_n 3, 1) := by decide +kernel
theorem d_L_law_713 : decode code 713 = .ok (.iconst 1, 1) := by decide +kernel
theorem d_L_law_714 : decode code 714 = .ok (.iadd, 1) := by decide +kernel
theorem d_L_law_715 : decode code 715 = .ok (.iaload, 1) := by decide +kernel
theorem d_L_law_716 : decode code 716 = .ok (.invokevirtual 68, 3) := by decide +kernel
theorem d_L_law_719 : decode code 719 = .ok (.aload_n 2, 1) := by decide +kernel
theorem d_L_law_720 : decode code 720 = .ok (.aload_n 0, 1) := by decide +kernel
theorem d_L_law_721 : decode code 721 = .ok (.iload_n 3, 1) := by decide +kernel
theorem d_L_law_722 : decode code 722 = .ok (.iconst 1, 1) := by decide +kernel
theorem d_L_law_723 : decode code 723 = .ok (.iadd, 1) := by decide +kernel
theorem d_L_law_724 : decode code 724 = .ok (.iaload, 1) := by decide +kernel
theorem d_L_law_725 : decode code 725 = .ok (.invokevirtual 71, 3) := by decide +kernel
theorem d_L_law_728 : decode code 728 = .ok (.lcmp, 1) := by decide +kernel
theorem d_L_law_729 : decode code 729 = .ok (.ifCond .eq 176, 3) := by decide +kernel
theorem d_L_law_732 : decode code 732 = .ok (.iconst 0, 1) := by decide +kernel
theorem d_L_law_733 : decode code 733 = .ok (.ireturn, 1) := by decide +kernel
theorem d_L_law_734 : decode code 734 = .ok (.aload_n 1, 1) := by decide +kernel
theorem d_L_law_735 : decode code 735 = .ok (.invokevirtual 72, 3) := by decide +kernel
theorem d_L_law_738 : decode code 738 = .ok (.aload_n 2, 1) := by decide +kernel
theorem d_L_law_739 : decode code 739 = .ok (.invokevirtual 75, 3) := by decide +kernel
theorem d_L_law_742 : decode code 742 = .ok (.if_icmp .eq 163, 3) := by decide +kernel
theorem d_L_law_745 : decode code 745 = .ok (.iconst 0, 1) := by decide +kernel
theorem d_L_law_746 : decode code 746 = .ok (.ireturn, 1) := by decide +kernel
theorem d_L_law_747 : decode code 747 = .ok (.aload_n 1, 1) := by decide +kernel
theorem d_L_law_748 : decode code 748 = .ok (.invokevirtual 76, 3) := by decide +kernel
theorem d_L_law_751 : decode code 751 = .ok (.aload_n 2, 1) := by decide +kernel
theorem d_L_law_752 : decode code 752 = .ok (.invokevirtual 80, 3) := by decide +kernel
theorem d_L_law_755 : decode code 755 = .ok (.lcmp, 1) := by decide +kernel
theorem d_L_law_756 : decode code 756 = .ok (.ifCond .eq 149, 3) := by decide +kernel
theorem d_L_law_759 : decode code 759 = .ok (.iconst 0, 1) := by decide +kernel
theorem d_L_law_760 : decode code 760 = .ok (.ireturn, 1) := by decide +kernel
theorem d_L_law_761 : decode code 761 = .ok (.aload_n 1, 1) := by decide +kernel
theorem d_L_law_762 : decode code 762 = .ok (.invokevirtual 81, 3) := by decide +kernel
theorem d_L_law_765 : decode code 765 = .ok (.aload_n 2, 1) := by decide +kernel
theorem d_L_law_766 : decode code 766 = .ok (.invokevirtual 84, 3) := by decide +kernel
theorem d_L_law_769 : decode code 769 = .ok (.lcmp, 1) := by decide +kernel
theorem d_L_law_770 : decode code 770 = .ok (.ifCond .eq 135, 3) := by decide +kernel
theorem d_L_law_773 : decode code 773 = .ok (.iconst 0, 1) := by decide +kernel
theorem d_L_law_774 : decode code 774 = .ok (.ireturn, 1) := by decide +kernel
theorem d_L_law_775 : decode code 775 = .ok (.aload_n 1, 1) := by decide +kernel
theorem d_L_law_776 : decode code 776 = .ok (.aload_n 0, 1) := by decide +kernel
theorem d_L_law_777 : decode code 777 = .ok (.iload_n 3, 1) := by decide +kernel
theorem d_L_law_778 : decode code 778 = .ok (.iconst 1, 1) := by decide +kernel
theorem d_L_law_779 : decode code 779 = .ok (.iadd, 1) := by decide +kernel
theorem d_L_law_780 : decode code 780 = .ok (.iaload, 1) := by decide +kernel
theorem d_L_law_781 : decode code 781 = .ok (.invokevirtual 85, 3) := by decide +kernel
theorem d_L_law_784 : decode code 784 = .ok (.aload_n 2, 1) := by decide +kernel
theorem d_L_law_785 : decode code 785 = .ok (.aload_n 0, 1) := by decide +kernel
theorem d_L_law_786 : decode code 786 = .ok (.iload_n 3, 1) := by decide +kernel
theorem d_L_law_787 : decode code 787 = .ok (.iconst 1, 1) := by decide +kernel
theorem d_L_law_788 : decode code 788 = .ok (.iadd, 1) := by decide +kernel
theorem d_L_law_789 : decode code 789 = .ok (.iaload, 1) := by decide +kernel
theorem d_L_law_790 : decode code 790 = .ok (.invokevirtual 89, 3) := by decide +kernel
theorem d_L_law_793 : decode code 793 = .ok (.if_icmp .eq 112, 3) := by decide +kernel
theorem d_L_law_796 : decode code 796 = .ok (.iconst 0, 1) := by decide +kernel
theorem d_L_law_797 : decode code 797 = .ok (.ireturn, 1) := by decide +kernel
theorem d_L_law_798 : decode code 798 = .ok (.aload_n 1, 1) := by decide +kernel
theorem d_L_law_799 : decode code 799 = .ok (.invokevirtual 90, 3) := by decide +kernel
theorem d_L_law_802 : decode code 802 = .ok (.aload_n 2, 1) := by decide +kernel
theorem d_L_law_803 : decode code 803 = .ok (.invokevirtual 93, 3) := by decide +kernel
theorem d_L_law_806 : decode code 806 = .ok (.lcmp, 1) := by decide +kernel
theorem d_L_law_807 : decode code 807 = .ok (.ifCond .eq 98, 3) := by decide +kernel
theorem d_L_law_810 : decode code 810 = .ok (.iconst 0, 1) := by decide +kernel
theorem d_L_law_811 : decode code 811 = .ok (.ireturn, 1) := by decide +kernel
theorem d_L_law_812 : decode code 812 = .ok (.aload_n 1, 1) := by decide +kernel
theorem d_L_law_813 : decode code 813 = .ok (.aload_n 0, 1) := by decide +kernel
end
section
theorem d_L_law_814 : decode code 814 = .ok (.iload_n 3, 1) := by decide +kernel
theorem d_L_law_815 : decode code 815 = .ok (.iconst 1, 1) := by decide +kernel
theorem d_L_law_816 : decode code 816 = .ok (.iadd, 1) := by decide +kernel
theorem d_L_law_817 : decode code 817 = .ok (.iaload, 1) := by decide +kernel
theorem d_L_law_818 : decode code 818 = .ok (.i2l, 1) := by decide +kernel
theorem d_L_law_819 : decode code 819 = .ok (.bipush 32, 2) := by decide +kernel
theorem d_L_law_821 : decode code 821 = .ok (.lshl, 1) := by decide +kernel
theorem d_L_law_822 : decode code 822 = .ok (.aload_n 0, 1) := by decide +kernel
theorem d_L_law_823 : decode code 823 = .ok (.iload_n 3, 1) := by decide +kernel
theorem d_L_law_824 : decode code 824 = .ok (.iconst 2, 1) := by decide +kernel
theorem d_L_law_825 : decode code 825 = .ok (.iadd, 1) := by decide +kernel
theorem d_L_law_826 : decode code 826 = .ok (.iaload, 1) := by decide +kernel
theorem d_L_law_827 : decode code 827 = .ok (.i2l, 1) := by decide +kernel
theorem d_L_law_828 : decode code 828 = .ok (.ldc2_w 23, 3) := by decide +kernel
theorem d_L_law_831 : decode code 831 = .ok (.land, 1) := by decide +kernel
theorem d_L_law_832 : decode code 832 = .ok (.lor, 1) := by decide +kernel
theorem d_L_law_833 : decode code 833 = .ok (.aload_n 0, 1) := by decide +kernel
theorem d_L_law_834 : decode code 834 = .ok (.iload_n 3, 1) := by decide +kernel
theorem d_L_law_835 : decode code 835 = .ok (.iconst 3, 1) := by decide +kernel
theorem d_L_law_836 : decode code 836 = .ok (.iadd, 1) := by decide +kernel
theorem d_L_law_837 : decode code 837 = .ok (.iaload, 1) := by decide +kernel
theorem d_L_law_838 : decode code 838 = .ok (.i2l, 1) := by decide +kernel
theorem d_L_law_839 : decode code 839 = .ok (.bipush 32, 2) := by decide +kernel
theorem d_L_law_841 : decode code 841 = .ok (.lshl, 1) := by decide +kernel
theorem d_L_law_842 : decode code 842 = .ok (.aload_n 0, 1) := by decide +kernel
theorem d_L_law_843 : decode code 843 = .ok (.iload_n 3, 1) := by decide +kernel
theorem d_L_law_844 : decode code 844 = .ok (.iconst 4, 1) := by decide +kernel
theorem d_L_law_845 : decode code 845 = .ok (.iadd, 1) := by decide +kernel
theorem d_L_law_846 : decode code 846 = .ok (.iaload, 1) := by decide +kernel
theorem d_L_law_847 : decode code 847 = .ok (.i2l, 1) := by decide +kernel
theorem d_L_law_848 : decode code 848 = .ok (.ldc2_w 23, 3) := by decide +kernel
theorem d_L_law_851 : decode code 851 = .ok (.land, 1) := by decide +kernel
theorem d_L_law_852 : decode code 852 = .ok (.lor, 1) := by decide +kernel
theorem d_L_law_853 : decode code 853 = .ok (.invokevirtual 94, 3) := by decide +kernel
theorem d_L_law_856 : decode code 856 = .ok (.aload_n 2, 1) := by decide +kernel
theorem d_L_law_857 : decode code 857 = .ok (.aload_n 0, 1) := by decide +kernel
theorem d_L_law_858 : decode code 858 = .ok (.iload_n 3, 1) := by decide +kernel
theorem d_L_law_859 : decode code 859 = .ok (.iconst 1, 1) := by decide +kernel
theorem d_L_law_860 : decode code 860 = .ok (.iadd, 1) := by decide +kernel
theorem d_L_law_861 : decode code 861 = .ok (.iaload, 1) := by decide +kernel
theorem d_L_law_862 : decode code 862 = .ok (.i2l, 1) := by decide +kernel
theorem d_L_law_863 : decode code 863 = .ok (.bipush 32, 2) := by decide +kernel
theorem d_L_law_865 : decode code 865 = .ok (.lshl, 1) := by decide +kernel
theorem d_L_law_866 : decode code 866 = .ok (.aload_n 0, 1) := by decide +kernel
theorem d_L_law_867 : decode code 867 = .ok (.iload_n 3, 1) := by decide +kernel
theorem d_L_law_868 : decode code 868 = .ok (.iconst 2, 1) := by decide +kernel
theorem d_L_law_869 : decode code 869 = .ok (.iadd, 1) := by decide +kernel
theorem d_L_law_870 : decode code 870 = .ok (.iaload, 1) := by decide +kernel
theorem d_L_law_871 : decode code 871 = .ok (.i2l, 1) := by decide +kernel
theorem d_L_law_872 : decode code 872 = .ok (.ldc2_w 23, 3) := by decide +kernel
theorem d_L_law_875 : decode code 875 = .ok (.land, 1) := by decide +kernel
theorem d_L_law_876 : decode code 876 = .ok (.lor, 1) := by decide +kernel
theorem d_L_law_877 : decode code 877 = .ok (.aload_n 0, 1) := by decide +kernel
theorem d_L_law_878 : decode code 878 = .ok (.iload_n 3, 1) := by decide +kernel
theorem d_L_law_879 : decode code 879 = .ok (.iconst 3, 1) := by decide +kernel
theorem d_L_law_880 : decode code 880 = .ok (.iadd, 1) := by decide +kernel
theorem d_L_law_881 : decode code 881 = .ok (.iaload, 1) := by decide +kernel
theorem d_L_law_882 : decode code 882 = .ok (.i2l, 1) := by decide +kernel
theorem d_L_law_883 : decode code 883 = .ok (.bipush 32, 2) := by decide +kernel
theorem d_L_law_885 : decode code 885 = .ok (.lshl, 1) := by decide +kernel
theorem d_L_law_886 : decode code 886 = .ok (.aload_n 0, 1) := by decide +kernel
theorem d_L_law_887 : decode code 887 = .ok (.iload_n 3, 1) := by decide +kernel
theorem d_L_law_888 : decode code 888 = .ok (.iconst 4, 1) := by decide +kernel
theorem d_L_law_889 : decode code 889 = .ok (.iadd, 1) := by decide +kernel
theorem d_L_law_890 : decode code 890 = .ok (.iaload, 1) := by decide +kernel
theorem d_L_law_891 : decode code 891 = .ok (.i2l, 1) := by decide +kernel
theorem d_L_law_892 : decode code 892 = .ok (.ldc2_w 23, 3) := by decide +kernel
theorem d_L_law_895 : decode code 895 = .ok (.land, 1) := by decide +kernel
theorem d_L_law_896 : decode code 896 = .ok (.lor, 1) := by decide +kernel
theorem d_L_law_897 : decode code 897 = .ok (.invokevirtual 98, 3) := by decide +kernel
theorem d_L_law_900 : decode code 900 = .ok (.if_icmp .eq 5, 3) := by decide +kernel
theorem d_L_law_903 : decode code 903 = .ok (.iconst 0, 1) := by decide +kernel
theorem d_L_law_904 : decode code 904 = .ok (.ireturn, 1) := by decide +kernel
theorem d_L_law_905 : decode code 905 = .ok (.iinc 3 5, 3) := by decide +kernel
theorem d_L_law_908 : decode code 908 = .ok (.goto (-890), 3) := by decide +kernel
theorem d_L_law_911 : decode code 911 = .ok (.iconst 1, 1) := by decide +kernel
theorem d_L_law_912 : decode code 912 = .ok (.ireturn, 1) := by decide +kernel
end
section
set_option maxHeartbeats 4000000 in
set_option maxRecDepth 100000 in
theorem ls_0 {pg : Program} {l : Launch} {ev : Env} {s : State} {mi : MethodId} {below : List Frame} {meth : Method} {co : Code} {b L : Nat} {xs : Nat → Int32} {H : Heap} {locs : List Loc} {Q : State → Prop} {dC : Nat → ClassId} {dI : Nat → Nat → Nat} {h0 q0 h1 q1 : Nat} {cA cB : ClassId} {w0 : Cond} {i p q cx rd cl tt cd bx : Nat} {g : Nat → Nat} {ls : Array Slot} (hx : pg.tables.exec = Jvm.exec) (hb : co.code = code) (hml : co.maxLocals = 4) (hown : s.vm.findClass R_L = some mi.cls) (hts : ∀ w ∈ w0 :: al_w, w.before #[Value.ref b] s = true) (hX : va_X b L xs s s.heap) (hbl : b < s.heap.size) (hKX : va_K (dC, dI) classes [(cA, .long)] s) (hKM : va_K (dC, dI) classes [(cB, .long)] s) (hap : lw_ap s.heap.size h0 q0 h1 q1) (hL : L ≤ 2560) (hi : i + 5 ≤ L) (hI : LI p q cx rd cl tt cd bx g) (hl : lv_has ls 4 [(3, .int (nI i)), (2, .ref h1), (1, .ref h0), (0, .ref b)]) (hPX : va_P (dC, dI) classes [(h0, .inr (0, [.int (nI p), .int (nI q), .int (nI (p * q)), .long (lN (p * q * (p * q))), .long (lN (sp_f p q)), .long (lN (sp_inv p q)), .long (lN (sp_cex p q)), .int (nI cx), .int (nI rd), .int (nI cl), .long (lN tt), .int (nI (sp_cnt g 30)), .ref q0])), (q0, .inl (cA, 30, .inr (.inl (fun j => lN (g j)))))] H) (hPM : va_P (dC, dI) classes [(h1, .inr (1, [.long (lN (p * q)), .long (lN (p * q * (p * q))), .long (lN (sp_f p q)), .long (lN (sp_cex p q)), .int (nI bx), .int (nI cl), .int (nI cd), .int (nI rd), .ref q1])), (q1, .inl (cB, 30, .inr (.inl (fun j => lN (g j)))))] H) (hS : va_S (fun q => s.heap.size ≤ q) s.heap H locs) (kk : ∀ (p q cx rd cl tt cd bx : Nat) (g : Nat → Nat) (H : Heap) (locs : List Loc), va_P (dC, dI) classes [(h0, .inr (0, [.int (nI p), .int (nI q), .int (nI (p * q)), .long (lN (p * q * (p * q))), .long (lN (sp_f p q)), .long (lN (sp_inv p q)), .long (lN (sp_cex p q)), .int (nI cx), .int (nI rd), .int (nI cl), .long (lN tt), .int (nI (sp_cnt g 30)), .ref q0])), (q0, .inl (cA, 30, .inr (.inl (fun j => lN (g j)))))] H → va_P (dC, dI) classes [(h1, .inr (1, [.long (lN (p * q)), .long (lN (p * q * (p * q))), .long (lN (sp_f p q)), .long (lN (sp_cex p q)), .int (nI bx), .int (nI cl), .int (nI cd), .int (nI rd), .ref q1])), (q1, .inl (cB, 30, .inr (.inl (fun j => lN (g j)))))] H → va_S (fun q => s.heap.size ≤ q) s.heap H locs → LI p q cx rd cl tt cd bx g → W pg l ev room_1 s mi #[Value.ref b] below meth co H locs 4 82 Q (F0 mi 905 ls [])) : W pg l ev room_1 s mi #[Value.ref b] below meth co H locs 4 82 Q (F0 mi 120 ls []) := by
  refine lv_aload_n hx hb d_L_law_120 rfl (lv_at hl 2 rfl) ?_
  refine lv_aload_n hx hb d_L_law_121 rfl (lv_at hl 3 rfl) ?_
  refine lv_iload_n hx hb d_L_law_122 rfl (lv_at hl 0 rfl) ?_
  refine lv_iconst (v := nI 1) hx hb d_L_law_123 (by decide) ?_
  refine lv_iadd hx hb d_L_law_124 ?_
  refine wk_i (y := nI (i + 1)) (nI_add i 1) ?_
  refine va_sld hx hb hX hbl (Nat.not_le.mpr hbl) hS (vp_in_nI (by omega) (by omega)) d_L_law_125 ?_
  refine wk_i (y := xs (i + 1)) (by rw [nI_clamp (by omega)]) ?_
  refine lv_aload_n hx hb d_L_law_126 rfl (lv_at hl 3 rfl) ?_
  refine lv_iload_n hx hb d_L_law_127 rfl (lv_at hl 0 rfl) ?_
  refine lv_iconst (v := nI 2) hx hb d_L_law_128 (by decide) ?_
  refine lv_iadd hx hb d_L_law_129 ?_
  refine wk_i (y := nI (i + 2)) (nI_add i 2) ?_
  refine va_sld hx hb hX hbl (Nat.not_le.mpr hbl) hS (vp_in_nI (by omega) (by omega)) d_L_law_130 ?_
  refine wk_i (y := xs (i + 2)) (by rw [nI_clamp (by omega)]) ?_
  refine mu_i (wo := _) (va_runV (As := [.int (xs (i + 1)), .int (xs (i + 2))]) (rest := []) ⟨hx, hb, hml, hown, hts⟩ (c_X_key l dC dI h0 q0 cA p q cx rd cl tt (sp_cnt g 30) g (xs (i + 1)) (xs (i + 2)) hI.1 hap.2.2.2.2.1) (cwV 2 hts (al_V (k_X_key) (aw_t54) (aw_t55) (aw_t56) (aw_t1)) rfl rfl rfl (by decide +kernel) ⟨Nat.le_of_ble_eq_true rfl, Nat.le_of_ble_eq_true rfl⟩) (pu_preV (q0 := 0) (ci := 0) hKX hPX rfl rfl) rfl rfl hl.1 rfl (lv_room (Nat.le_of_ble_eq_true rfl)) d_L_law_131 ⟨Nat.le_of_ble_eq_true rfl, Nat.le_of_ble_eq_true rfl⟩) hS hap.1 hap.2.1 (mu_o2 ⟨Ne.symm hap.2.2.2.2.2.1, Ne.symm hap.2.2.2.2.2.2.2.1⟩ ⟨Ne.symm hap.2.2.2.2.2.2.1, Ne.symm hap.2.2.2.2.2.2.2.2.1⟩) hPM (fun H locs hPX hPM hS => ?_)
  refine lv_aload_n hx hb d_L_law_134 rfl (lv_at hl 1 rfl) ?_
  refine lv_aload_n hx hb d_L_law_135 rfl (lv_at hl 3 rfl) ?_
  refine lv_iload_n hx hb d_L_law_136 rfl (lv_at hl 0 rfl) ?_
  refine lv_iconst (v := nI 1) hx hb d_L_law_137 (by decide) ?_
  refine lv_iadd hx hb d_L_law_138 ?_
  refine wk_i (y := nI (i + 1)) (nI_add i 1) ?_
  refine va_sld hx hb hX hbl (Nat.not_le.mpr hbl) hS (vp_in_nI (by omega) (by omega)) d_L_law_139 ?_
  refine wk_i (y := xs (i + 1)) (by rw [nI_clamp (by omega)]) ?_
  refine lv_aload_n hx hb d_L_law_140 rfl (lv_at hl 3 rfl) ?_
  refine lv_iload_n hx hb d_L_law_141 rfl (lv_at hl 0 rfl) ?_
  refine lv_iconst (v := nI 2) hx hb d_L_law_142 (by decide) ?_
  refine lv_iadd hx hb d_L_law_143 ?_
  refine wk_i (y := nI (i + 2)) (nI_add i 2) ?_
  refine va_sld hx hb hX hbl (Nat.not_le.mpr hbl) hS (vp_in_nI (by omega) (by omega)) d_L_law_144 ?_
  refine wk_i (y := xs (i + 2)) (by rw [nI_clamp (by omega)]) ?_
  refine mu_i (wo := _) (va_runV (As := [.int (xs (i + 1)), .int (xs (i + 2))]) (rest := [.int (an_key (xs (i + 1)) (xs (i + 2)))]) ⟨hx, hb, hml, hown, hts⟩ (c_M_key l dC dI h1 q1 cB p q bx cl cd rd g (xs (i + 1)) (xs (i + 2)) hap.2.2.2.2.2.2.2.2.2) (cwV 2 hts (al_V (k_M_key) (aw_t235) (aw_t236) (aw_t237) (aw_t2)) rfl rfl rfl (by decide +kernel) ⟨Nat.le_of_ble_eq_true rfl, Nat.le_of_ble_eq_true rfl⟩) (pu_preV (q0 := 0) (ci := 1) hKM hPM rfl rfl) rfl rfl hl.1 rfl (lv_room (Nat.le_of_ble_eq_true rfl)) d_L_law_145 ⟨Nat.le_of_ble_eq_true rfl, Nat.le_of_ble_eq_true rfl⟩) hS hap.2.2.1 hap.2.2.2.1 (mu_o2 ⟨hap.2.2.2.2.2.1, hap.2.2.2.2.2.2.1⟩ ⟨hap.2.2.2.2.2.2.2.1, hap.2.2.2.2.2.2.2.2.1⟩) hPX (fun H locs hPM hPX hS => ?_)
  refine lv_icmp_eq (tgt := 905) hx hb d_L_law_148 (by decide) (fun hc148 => ?_) (fun hc148 => ?_)
  · skip
    exact kk (sel (sp_isK (xs (i + 1)) (xs (i + 2))) (xs (i + 1)).toInt.toNat p) (sel (sp_isK (xs (i + 1)) (xs (i + 2))) (xs (i + 2)).toInt.toNat q) (sel (sp_isK (xs (i + 1)) (xs (i + 2))) 0 cx) rd cl tt cd (sel (sp_isK (xs (i + 1)) (xs (i + 2))) 0 bx) g H locs hPX hPM hS (li_key hI _ _)
  · skip
    exact absurd rfl hc148

set_option maxHeartbeats 4000000 in
set_option maxRecDepth 100000 in
theorem ls_1 {pg : Program} {l : Launch} {ev : Env} {s : State} {mi : MethodId} {below : List Frame} {meth : Method} {co : Code} {b L : Nat} {xs : Nat → Int32} {H : Heap} {locs : List Loc} {Q : State → Prop} {dC : Nat → ClassId} {dI : Nat → Nat → Nat} {h0 q0 h1 q1 : Nat} {cA cB : ClassId} {w0 : Cond} {i p q cx rd cl tt cd bx : Nat} {g : Nat → Nat} {ls : Array Slot} (hx : pg.tables.exec = Jvm.exec) (hb : co.code = code) (hml : co.maxLocals = 4) (hown : s.vm.findClass R_L = some mi.cls) (hts : ∀ w ∈ w0 :: al_w, w.before #[Value.ref b] s = true) (hX : va_X b L xs s s.heap) (hbl : b < s.heap.size) (hKX : va_K (dC, dI) classes [(cA, .long)] s) (hKM : va_K (dC, dI) classes [(cB, .long)] s) (hap : lw_ap s.heap.size h0 q0 h1 q1) (hL : L ≤ 2560) (hi : i + 5 ≤ L) (hI : LI p q cx rd cl tt cd bx g) (hl : lv_has ls 4 [(3, .int (nI i)), (2, .ref h1), (1, .ref h0), (0, .ref b)]) (hPX : va_P (dC, dI) classes [(h0, .inr (0, [.int (nI p), .int (nI q), .int (nI (p * q)), .long (lN (p * q * (p * q))), .long (lN (sp_f p q)), .long (lN (sp_inv p q)), .long (lN (sp_cex p q)), .int (nI cx), .int (nI rd), .int (nI cl), .long (lN tt), .int (nI (sp_cnt g 30)), .ref q0])), (q0, .inl (cA, 30, .inr (.inl (fun j => lN (g j)))))] H) (hPM : va_P (dC, dI) classes [(h1, .inr (1, [.long (lN (p * q)), .long (lN (p * q * (p * q))), .long (lN (sp_f p q)), .long (lN (sp_cex p q)), .int (nI bx), .int (nI cl), .int (nI cd), .int (nI rd), .ref q1])), (q1, .inl (cB, 30, .inr (.inl (fun j => lN (g j)))))] H) (hS : va_S (fun q => s.heap.size ≤ q) s.heap H locs) (kk : ∀ (p q cx rd cl tt cd bx : Nat) (g : Nat → Nat) (H : Heap) (locs : List Loc), va_P (dC, dI) classes [(h0, .inr (0, [.int (nI p), .int (nI q), .int (nI (p * q)), .long (lN (p * q * (p * q))), .long (lN (sp_f p q)), .long (lN (sp_inv p q)), .long (lN (sp_cex p q)), .int (nI cx), .int (nI rd), .int (nI cl), .long (lN tt), .int (nI (sp_cnt g 30)), .ref q0])), (q0, .inl (cA, 30, .inr (.inl (fun j => lN (g j)))))] H → va_P (dC, dI) classes [(h1, .inr (1, [.long (lN (p * q)), .long (lN (p * q * (p * q))), .long (lN (sp_f p q)), .long (lN (sp_cex p q)), .int (nI bx), .int (nI cl), .int (nI cd), .int (nI rd), .ref q1])), (q1, .inl (cB, 30, .inr (.inl (fun j => lN (g j)))))] H → va_S (fun q => s.heap.size ≤ q) s.heap H locs → LI p q cx rd cl tt cd bx g → W pg l ev room_1 s mi #[Value.ref b] below meth co H locs 4 82 Q (F0 mi 905 ls [])) : W pg l ev room_1 s mi #[Value.ref b] below meth co H locs 4 82 Q (F0 mi 153 ls []) := by
  refine lv_aload_n hx hb d_L_law_153 rfl (lv_at hl 2 rfl) ?_
  refine pu_i (va_runV (As := []) (rest := []) ⟨hx, hb, hml, hown, hts⟩ (c_X_modulus l dC dI h0 q0 cA p q cx rd cl tt (sp_cnt g 30) g) (cwV 0 hts (al_V (k_X_modulus) (aw_t67) (aw_t68) (aw_t69) (aw_t1)) rfl rfl rfl (by decide +kernel) ⟨Nat.le_of_ble_eq_true rfl, Nat.le_of_ble_eq_true rfl⟩) (pu_preV (q0 := 0) (ci := 0) hKX hPX rfl rfl) rfl rfl hl.1 rfl (lv_room (Nat.le_of_ble_eq_true rfl)) d_L_law_154 ⟨Nat.le_of_ble_eq_true rfl, Nat.le_of_ble_eq_true rfl⟩) hS (fun H locs hkp hS => ?_)
  have hPX := hkp _ _ _ hPX
  have hPM := hkp _ _ _ hPM
  refine lv_aload_n hx hb d_L_law_157 rfl (lv_at hl 1 rfl) ?_
  refine pu_i (va_runV (As := []) (rest := [.int (nI (p * q))]) ⟨hx, hb, hml, hown, hts⟩ (c_M_modulus l dC dI h1 q1 cB p q bx cl cd rd g) (cwV 0 hts (al_V (k_M_modulus) (aw_t242) (aw_t243) (aw_t244) (aw_t2)) rfl rfl rfl (by decide +kernel) ⟨Nat.le_of_ble_eq_true rfl, Nat.le_of_ble_eq_true rfl⟩) (pu_preV (q0 := 0) (ci := 1) hKM hPM rfl rfl) rfl rfl hl.1 rfl (lv_room (Nat.le_of_ble_eq_true rfl)) d_L_law_158 ⟨Nat.le_of_ble_eq_true rfl, Nat.le_of_ble_eq_true rfl⟩) hS (fun H locs hkp hS => ?_)
  have hPX := hkp _ _ _ hPX
  have hPM := hkp _ _ _ hPM
  refine lv_icmp_eq (tgt := 905) hx hb d_L_law_161 (by decide) (fun hc161 => ?_) (fun hc161 => ?_)
  · skip
    exact kk p q cx rd cl tt cd bx g H locs hPX hPM hS (hI)
  · skip
    exact absurd rfl hc161

set_option maxHeartbeats 4000000 in
set_option maxRecDepth 100000 in
theorem ls_2 {pg : Program} {l : Launch} {ev : Env} {s : State} {mi : MethodId} {below : List Frame} {meth : Method} {co : Code} {b L : Nat} {xs : Nat → Int32} {H : Heap} {locs : List Loc} {Q : State → Prop} {dC : Nat → ClassId} {dI : Nat → Nat → Nat} {h0 q0 h1 q1 : Nat} {cA cB : ClassId} {w0 : Cond} {i p q cx rd cl tt cd bx : Nat} {g : Nat → Nat} {ls : Array Slot} (hx : pg.tables.exec = Jvm.exec) (hb : co.code = code) (hml : co.maxLocals = 4) (hown : s.vm.findClass R_L = some mi.cls) (hts : ∀ w ∈ w0 :: al_w, w.before #[Value.ref b] s = true) (hX : va_X b L xs s s.heap) (hbl : b < s.heap.size) (hKX : va_K (dC, dI) classes [(cA, .long)] s) (hKM : va_K (dC, dI) classes [(cB, .long)] s) (hap : lw_ap s.heap.size h0 q0 h1 q1) (hL : L ≤ 2560) (hi : i + 5 ≤ L) (hI : LI p q cx rd cl tt cd bx g) (hl : lv_has ls 4 [(3, .int (nI i)), (2, .ref h1), (1, .ref h0), (0, .ref b)]) (hPX : va_P (dC, dI) classes [(h0, .inr (0, [.int (nI p), .int (nI q), .int (nI (p * q)), .long (lN (p * q * (p * q))), .long (lN (sp_f p q)), .long (lN (sp_inv p q)), .long (lN (sp_cex p q)), .int (nI cx), .int (nI rd), .int (nI cl), .long (lN tt), .int (nI (sp_cnt g 30)), .ref q0])), (q0, .inl (cA, 30, .inr (.inl (fun j => lN (g j)))))] H) (hPM : va_P (dC, dI) classes [(h1, .inr (1, [.long (lN (p * q)), .long (lN (p * q * (p * q))), .long (lN (sp_f p q)), .long (lN (sp_cex p q)), .int (nI bx), .int (nI cl), .int (nI cd), .int (nI rd), .ref q1])), (q1, .inl (cB, 30, .inr (.inl (fun j => lN (g j)))))] H) (hS : va_S (fun q => s.heap.size ≤ q) s.heap H locs) (kk : ∀ (p q cx rd cl tt cd bx : Nat) (g : Nat → Nat) (H : Heap) (locs : List Loc), va_P (dC, dI) classes [(h0, .inr (0, [.int (nI p), .int (nI q), .int (nI (p * q)), .long (lN (p * q * (p * q))), .long (lN (sp_f p q)), .long (lN (sp_inv p q)), .long (lN (sp_cex p q)), .int (nI cx), .int (nI rd), .int (nI cl), .long (lN tt), .int (nI (sp_cnt g 30)), .ref q0])), (q0, .inl (cA, 30, .inr (.inl (fun j => lN (g j)))))] H → va_P (dC, dI) classes [(h1, .inr (1, [.long (lN (p * q)), .long (lN (p * q * (p * q))), .long (lN (sp_f p q)), .long (lN (sp_cex p q)), .int (nI bx), .int (nI cl), .int (nI cd), .int (nI rd), .ref q1])), (q1, .inl (cB, 30, .inr (.inl (fun j => lN (g j)))))] H → va_S (fun q => s.heap.size ≤ q) s.heap H locs → LI p q cx rd cl tt cd bx g → W pg l ev room_1 s mi #[Value.ref b] below meth co H locs 4 82 Q (F0 mi 905 ls [])) : W pg l ev room_1 s mi #[Value.ref b] below meth co H locs 4 82 Q (F0 mi 166 ls []) := by
  refine lv_aload_n hx hb d_L_law_166 rfl (lv_at hl 2 rfl) ?_
  refine lv_aload_n hx hb d_L_law_167 rfl (lv_at hl 3 rfl) ?_
  refine lv_iload_n hx hb d_L_law_168 rfl (lv_at hl 0 rfl) ?_
  refine lv_iconst (v := nI 1) hx hb d_L_law_169 (by decide) ?_
  refine lv_iadd hx hb d_L_law_170 ?_
  refine wk_i (y := nI (i + 1)) (nI_add i 1) ?_
  refine va_sld hx hb hX hbl (Nat.not_le.mpr hbl) hS (vp_in_nI (by omega) (by omega)) d_L_law_171 ?_
  refine wk_i (y := xs (i + 1)) (by rw [nI_clamp (by omega)]) ?_
  refine lv_i2l (v := Int32.toInt64 (xs (i + 1))) hx hb d_L_law_172 (rfl) ?_
  refine lv_bipush (v := nI 32) hx hb d_L_law_173 (by decide) ?_
  refine lv_lshl (v := (Int32.toInt64 (xs (i + 1))) <<< (Int32.toInt64 (nI 32) &&& 63)) hx hb d_L_law_175 (rfl) ?_
  refine lv_aload_n hx hb d_L_law_176 rfl (lv_at hl 3 rfl) ?_
  refine lv_iload_n hx hb d_L_law_177 rfl (lv_at hl 0 rfl) ?_
  refine lv_iconst (v := nI 2) hx hb d_L_law_178 (by decide) ?_
  refine lv_iadd hx hb d_L_law_179 ?_
  refine wk_i (y := nI (i + 2)) (nI_add i 2) ?_
  refine va_sld hx hb hX hbl (Nat.not_le.mpr hbl) hS (vp_in_nI (by omega) (by omega)) d_L_law_180 ?_
  refine wk_i (y := xs (i + 2)) (by rw [nI_clamp (by omega)]) ?_
  refine lv_i2l (v := Int32.toInt64 (xs (i + 2))) hx hb d_L_law_181 (rfl) ?_
  refine lv_ldc2 (v := lN 4294967295) hx hb hown (hts _ (al_m aw_t358)) d_L_law_182 ?_
  refine lv_land hx hb d_L_law_185 ?_
  refine lv_lor hx hb d_L_law_186 ?_
  refine wk_l (y := lb (xs (i + 1)) (xs (i + 2))) rfl ?_
  refine lv_aload_n hx hb d_L_law_187 rfl (lv_at hl 3 rfl) ?_
  refine lv_iload_n hx hb d_L_law_188 rfl (lv_at hl 0 rfl) ?_
  refine lv_iconst (v := nI 3) hx hb d_L_law_189 (by decide) ?_
  refine lv_iadd hx hb d_L_law_190 ?_
  refine wk_i (y := nI (i + 3)) (nI_add i 3) ?_
  refine va_sld hx hb hX hbl (Nat.not_le.mpr hbl) hS (vp_in_nI (by omega) (by omega)) d_L_law_191 ?_
  refine wk_i (y := xs (i + 3)) (by rw [nI_clamp (by omega)]) ?_
  refine lv_i2l (v := Int32.toInt64 (xs (i + 3))) hx hb d_L_law_192 (rfl) ?_
  refine lv_bipush (v := nI 32) hx hb d_L_law_193 (by decide) ?_
  refine lv_lshl (v := (Int32.toInt64 (xs (i + 3))) <<< (Int32.toInt64 (nI 32) &&& 63)) hx hb d_L_law_195 (rfl) ?_
  refine lv_aload_n hx hb d_L_law_196 rfl (lv_at hl 3 rfl) ?_
  refine lv_iload_n hx hb d_L_law_197 rfl (lv_at hl 0 rfl) ?_
  refine lv_iconst (v := nI 4) hx hb d_L_law_198 (by decide) ?_
  refine lv_iadd hx hb d_L_law_199 ?_
  refine wk_i (y := nI (i + 4)) (nI_add i 4) ?_
  refine va_sld hx hb hX hbl (Nat.not_le.mpr hbl) hS (vp_in_nI (by omega) (by omega)) d_L_law_200 ?_
  refine wk_i (y := xs (i + 4)) (by rw [nI_clamp (by omega)]) ?_
  refine lv_i2l (v := Int32.toInt64 (xs (i + 4))) hx hb d_L_law_201 (rfl) ?_
  refine lv_ldc2 (v := lN 4294967295) hx hb hown (hts _ (al_m aw_t358)) d_L_law_202 ?_
  refine lv_land hx hb d_L_law_205 ?_
  refine lv_lor hx hb d_L_law_206 ?_
  refine wk_l (y := lb (xs (i + 3)) (xs (i + 4))) rfl ?_
  refine pu_l (va_runV (As := [.long (lb (xs (i + 1)) (xs (i + 2))), .long (lb (xs (i + 3)) (xs (i + 4)))]) (rest := []) ⟨hx, hb, hml, hown, hts⟩ (c_X_seal l dC dI h0 q0 cA p q cx rd cl tt (sp_cnt g 30) g (lb (xs (i + 1)) (xs (i + 2))) (lb (xs (i + 3)) (xs (i + 4))) hI.1) (cwV 2 hts (al_V (k_X_seal) (aw_t71) (aw_t72) (aw_t73) (aw_t1)) rfl rfl rfl (by decide +kernel) ⟨Nat.le_of_ble_eq_true rfl, Nat.le_of_ble_eq_true rfl⟩) (pu_preV (q0 := 0) (ci := 0) hKX hPX rfl rfl) rfl rfl hl.1 rfl (lv_room (Nat.le_of_ble_eq_true rfl)) d_L_law_207 ⟨Nat.le_of_ble_eq_true rfl, Nat.le_of_ble_eq_true rfl⟩) hS (fun H locs hkp hS => ?_)
  have hPX := hkp _ _ _ hPX
  have hPM := hkp _ _ _ hPM
  refine lv_aload_n hx hb d_L_law_210 rfl (lv_at hl 1 rfl) ?_
  refine lv_aload_n hx hb d_L_law_211 rfl (lv_at hl 3 rfl) ?_
  refine lv_iload_n hx hb d_L_law_212 rfl (lv_at hl 0 rfl) ?_
  refine lv_iconst (v := nI 1) hx hb d_L_law_213 (by decide) ?_
  refine lv_iadd hx hb d_L_law_214 ?_
  refine wk_i (y := nI (i + 1)) (nI_add i 1) ?_
  refine va_sld hx hb hX hbl (Nat.not_le.mpr hbl) hS (vp_in_nI (by omega) (by omega)) d_L_law_215 ?_
  refine wk_i (y := xs (i + 1)) (by rw [nI_clamp (by omega)]) ?_
  refine lv_i2l (v := Int32.toInt64 (xs (i + 1))) hx hb d_L_law_216 (rfl) ?_
  refine lv_bipush (v := nI 32) hx hb d_L_law_217 (by decide) ?_
  refine lv_lshl (v := (Int32.toInt64 (xs (i + 1))) <<< (Int32.toInt64 (nI 32) &&& 63)) hx hb d_L_law_219 (rfl) ?_
  refine lv_aload_n hx hb d_L_law_220 rfl (lv_at hl 3 rfl) ?_
  refine lv_iload_n hx hb d_L_law_221 rfl (lv_at hl 0 rfl) ?_
  refine lv_iconst (v := nI 2) hx hb d_L_law_222 (by decide) ?_
  refine lv_iadd hx hb d_L_law_223 ?_
  refine wk_i (y := nI (i + 2)) (nI_add i 2) ?_
  refine va_sld hx hb hX hbl (Nat.not_le.mpr hbl) hS (vp_in_nI (by omega) (by omega)) d_L_law_224 ?_
  refine wk_i (y := xs (i + 2)) (by rw [nI_clamp (by omega)]) ?_
  refine lv_i2l (v := Int32.toInt64 (xs (i + 2))) hx hb d_L_law_225 (rfl) ?_
  refine lv_ldc2 (v := lN 4294967295) hx hb hown (hts _ (al_m aw_t358)) d_L_law_226 ?_
  refine lv_land hx hb d_L_law_229 ?_
  refine lv_lor hx hb d_L_law_230 ?_
  refine wk_l (y := lb (xs (i + 1)) (xs (i + 2))) rfl ?_
  refine lv_aload_n hx hb d_L_law_231 rfl (lv_at hl 3 rfl) ?_
  refine lv_iload_n hx hb d_L_law_232 rfl (lv_at hl 0 rfl) ?_
  refine lv_iconst (v := nI 3) hx hb d_L_law_233 (by decide) ?_
  refine lv_iadd hx hb d_L_law_234 ?_
  refine wk_i (y := nI (i + 3)) (nI_add i 3) ?_
  refine va_sld hx hb hX hbl (Nat.not_le.mpr hbl) hS (vp_in_nI (by omega) (by omega)) d_L_law_235 ?_
  refine wk_i (y := xs (i + 3)) (by rw [nI_clamp (by omega)]) ?_
  refine lv_i2l (v := Int32.toInt64 (xs (i + 3))) hx hb d_L_law_236 (rfl) ?_
  refine lv_bipush (v := nI 32) hx hb d_L_law_237 (by decide) ?_
  refine lv_lshl (v := (Int32.toInt64 (xs (i + 3))) <<< (Int32.toInt64 (nI 32) &&& 63)) hx hb d_L_law_239 (rfl) ?_
  refine lv_aload_n hx hb d_L_law_240 rfl (lv_at hl 3 rfl) ?_
  refine lv_iload_n hx hb d_L_law_241 rfl (lv_at hl 0 rfl) ?_
  refine lv_iconst (v := nI 4) hx hb d_L_law_242 (by decide) ?_
  refine lv_iadd hx hb d_L_law_243 ?_
  refine wk_i (y := nI (i + 4)) (nI_add i 4) ?_
  refine va_sld hx hb hX hbl (Nat.not_le.mpr hbl) hS (vp_in_nI (by omega) (by omega)) d_L_law_244 ?_
  refine wk_i (y := xs (i + 4)) (by rw [nI_clamp (by omega)]) ?_
  refine lv_i2l (v := Int32.toInt64 (xs (i + 4))) hx hb d_L_law_245 (rfl) ?_
  refine lv_ldc2 (v := lN 4294967295) hx hb hown (hts _ (al_m aw_t358)) d_L_law_246 ?_
  refine lv_land hx hb d_L_law_249 ?_
  refine lv_lor hx hb d_L_law_250 ?_
  refine wk_l (y := lb (xs (i + 3)) (xs (i + 4))) rfl ?_
  refine pu_l (va_runV (As := [.long (lb (xs (i + 1)) (xs (i + 2))), .long (lb (xs (i + 3)) (xs (i + 4)))]) (rest := [.long (an_seal p q (lb (xs (i + 1)) (xs (i + 2))) (lb (xs (i + 3)) (xs (i + 4))))]) ⟨hx, hb, hml, hown, hts⟩ (c_M_seal l dC dI h1 q1 cB p q bx cl cd rd g (lb (xs (i + 1)) (xs (i + 2))) (lb (xs (i + 3)) (xs (i + 4))) cx hI.1) (cwV 2 hts (al_V (k_M_seal) (aw_t246) (aw_t247) (aw_t248) (aw_t2)) rfl rfl rfl (by decide +kernel) ⟨Nat.le_of_ble_eq_true rfl, Nat.le_of_ble_eq_true rfl⟩) (pu_preV (q0 := 0) (ci := 1) hKM hPM rfl rfl) rfl rfl hl.1 rfl (lv_room (Nat.le_of_ble_eq_true rfl)) d_L_law_251 ⟨Nat.le_of_ble_eq_true rfl, Nat.le_of_ble_eq_true rfl⟩) hS (fun H locs hkp hS => ?_)
  have hPX := hkp _ _ _ hPX
  have hPM := hkp _ _ _ hPM
  refine W.lcmp hx hb d_L_law_254 ?_
  refine lv_if_eq (tgt := 905) hx hb d_L_law_255 (by decide) (fun hc255 => ?_) (fun hc255 => ?_)
  · skip
    rw [lg_cmp_eq] at hc255
    exact kk p q cx rd cl tt cd bx g H locs hPX hPM hS (hI)
  · skip
    rw [lg_cmp_eq] at hc255
    exact absurd rfl hc255

set_option maxHeartbeats 4000000 in
set_option maxRecDepth 100000 in
theorem ls_3 {pg : Program} {l : Launch} {ev : Env} {s : State} {mi : MethodId} {below : List Frame} {meth : Method} {co : Code} {b L : Nat} {xs : Nat → Int32} {H : Heap} {locs : List Loc} {Q : State → Prop} {dC : Nat → ClassId} {dI : Nat → Nat → Nat} {h0 q0 h1 q1 : Nat} {cA cB : ClassId} {w0 : Cond} {i p q cx rd cl tt cd bx : Nat} {g : Nat → Nat} {ls : Array Slot} (hx : pg.tables.exec = Jvm.exec) (hb : co.code = code) (hml : co.maxLocals = 4) (hown : s.vm.findClass R_L = some mi.cls) (hts : ∀ w ∈ w0 :: al_w, w.before #[Value.ref b] s = true) (hX : va_X b L xs s s.heap) (hbl : b < s.heap.size) (hKX : va_K (dC, dI) classes [(cA, .long)] s) (hKM : va_K (dC, dI) classes [(cB, .long)] s) (hap : lw_ap s.heap.size h0 q0 h1 q1) (hL : L ≤ 2560) (hi : i + 5 ≤ L) (hI : LI p q cx rd cl tt cd bx g) (hl : lv_has ls 4 [(3, .int (nI i)), (2, .ref h1), (1, .ref h0), (0, .ref b)]) (hPX : va_P (dC, dI) classes [(h0, .inr (0, [.int (nI p), .int (nI q), .int (nI (p * q)), .long (lN (p * q * (p * q))), .long (lN (sp_f p q)), .long (lN (sp_inv p q)), .long (lN (sp_cex p q)), .int (nI cx), .int (nI rd), .int (nI cl), .long (lN tt), .int (nI (sp_cnt g 30)), .ref q0])), (q0, .inl (cA, 30, .inr (.inl (fun j => lN (g j)))))] H) (hPM : va_P (dC, dI) classes [(h1, .inr (1, [.long (lN (p * q)), .long (lN (p * q * (p * q))), .long (lN (sp_f p q)), .long (lN (sp_cex p q)), .int (nI bx), .int (nI cl), .int (nI cd), .int (nI rd), .ref q1])), (q1, .inl (cB, 30, .inr (.inl (fun j => lN (g j)))))] H) (hS : va_S (fun q => s.heap.size ≤ q) s.heap H locs) (kk : ∀ (p q cx rd cl tt cd bx : Nat) (g : Nat → Nat) (H : Heap) (locs : List Loc), va_P (dC, dI) classes [(h0, .inr (0, [.int (nI p), .int (nI q), .int (nI (p * q)), .long (lN (p * q * (p * q))), .long (lN (sp_f p q)), .long (lN (sp_inv p q)), .long (lN (sp_cex p q)), .int (nI cx), .int (nI rd), .int (nI cl), .long (lN tt), .int (nI (sp_cnt g 30)), .ref q0])), (q0, .inl (cA, 30, .inr (.inl (fun j => lN (g j)))))] H → va_P (dC, dI) classes [(h1, .inr (1, [.long (lN (p * q)), .long (lN (p * q * (p * q))), .long (lN (sp_f p q)), .long (lN (sp_cex p q)), .int (nI bx), .int (nI cl), .int (nI cd), .int (nI rd), .ref q1])), (q1, .inl (cB, 30, .inr (.inl (fun j => lN (g j)))))] H → va_S (fun q => s.heap.size ≤ q) s.heap H locs → LI p q cx rd cl tt cd bx g → W pg l ev room_1 s mi #[Value.ref b] below meth co H locs 4 82 Q (F0 mi 905 ls [])) : W pg l ev room_1 s mi #[Value.ref b] below meth co H locs 4 82 Q (F0 mi 260 ls []) := by
  refine lv_aload_n hx hb d_L_law_260 rfl (lv_at hl 2 rfl) ?_
  refine lv_aload_n hx hb d_L_law_261 rfl (lv_at hl 3 rfl) ?_
  refine lv_iload_n hx hb d_L_law_262 rfl (lv_at hl 0 rfl) ?_
  refine lv_iconst (v := nI 1) hx hb d_L_law_263 (by decide) ?_
  refine lv_iadd hx hb d_L_law_264 ?_
  refine wk_i (y := nI (i + 1)) (nI_add i 1) ?_
  refine va_sld hx hb hX hbl (Nat.not_le.mpr hbl) hS (vp_in_nI (by omega) (by omega)) d_L_law_265 ?_
  refine wk_i (y := xs (i + 1)) (by rw [nI_clamp (by omega)]) ?_
  refine lv_i2l (v := Int32.toInt64 (xs (i + 1))) hx hb d_L_law_266 (rfl) ?_
  refine lv_bipush (v := nI 32) hx hb d_L_law_267 (by decide) ?_
  refine lv_lshl (v := (Int32.toInt64 (xs (i + 1))) <<< (Int32.toInt64 (nI 32) &&& 63)) hx hb d_L_law_269 (rfl) ?_
  refine lv_aload_n hx hb d_L_law_270 rfl (lv_at hl 3 rfl) ?_
  refine lv_iload_n hx hb d_L_law_271 rfl (lv_at hl 0 rfl) ?_
  refine lv_iconst (v := nI 2) hx hb d_L_law_272 (by decide) ?_
  refine lv_iadd hx hb d_L_law_273 ?_
  refine wk_i (y := nI (i + 2)) (nI_add i 2) ?_
  refine va_sld hx hb hX hbl (Nat.not_le.mpr hbl) hS (vp_in_nI (by omega) (by omega)) d_L_law_274 ?_
  refine wk_i (y := xs (i + 2)) (by rw [nI_clamp (by omega)]) ?_
  refine lv_i2l (v := Int32.toInt64 (xs (i + 2))) hx hb d_L_law_275 (rfl) ?_
  refine lv_ldc2 (v := lN 4294967295) hx hb hown (hts _ (al_m aw_t358)) d_L_law_276 ?_
  refine lv_land hx hb d_L_law_279 ?_
  refine lv_lor hx hb d_L_law_280 ?_
  refine wk_l (y := lb (xs (i + 1)) (xs (i + 2))) rfl ?_
  refine pu_l (va_runV (As := [.long (lb (xs (i + 1)) (xs (i + 2)))]) (rest := []) ⟨hx, hb, hml, hown, hts⟩ (c_X_message l dC dI h0 q0 cA p q cx rd cl tt (sp_cnt g 30) g (lb (xs (i + 1)) (xs (i + 2))) hI.1) (cwV 1 hts (al_V (k_X_message) (aw_t97) (aw_t98) (aw_t99) (aw_t1)) rfl rfl rfl (by decide +kernel) ⟨Nat.le_of_ble_eq_true rfl, Nat.le_of_ble_eq_true rfl⟩) (pu_preV (q0 := 0) (ci := 0) hKX hPX rfl rfl) rfl rfl hl.1 rfl (lv_room (Nat.le_of_ble_eq_true rfl)) d_L_law_281 ⟨Nat.le_of_ble_eq_true rfl, Nat.le_of_ble_eq_true rfl⟩) hS (fun H locs hkp hS => ?_)
  have hPX := hkp _ _ _ hPX
  have hPM := hkp _ _ _ hPM
  refine lv_aload_n hx hb d_L_law_284 rfl (lv_at hl 1 rfl) ?_
  refine lv_aload_n hx hb d_L_law_285 rfl (lv_at hl 3 rfl) ?_
  refine lv_iload_n hx hb d_L_law_286 rfl (lv_at hl 0 rfl) ?_
  refine lv_iconst (v := nI 1) hx hb d_L_law_287 (by decide) ?_
  refine lv_iadd hx hb d_L_law_288 ?_
  refine wk_i (y := nI (i + 1)) (nI_add i 1) ?_
  refine va_sld hx hb hX hbl (Nat.not_le.mpr hbl) hS (vp_in_nI (by omega) (by omega)) d_L_law_289 ?_
  refine wk_i (y := xs (i + 1)) (by rw [nI_clamp (by omega)]) ?_
  refine lv_i2l (v := Int32.toInt64 (xs (i + 1))) hx hb d_L_law_290 (rfl) ?_
  refine lv_bipush (v := nI 32) hx hb d_L_law_291 (by decide) ?_
  refine lv_lshl (v := (Int32.toInt64 (xs (i + 1))) <<< (Int32.toInt64 (nI 32) &&& 63)) hx hb d_L_law_293 (rfl) ?_
  refine lv_aload_n hx hb d_L_law_294 rfl (lv_at hl 3 rfl) ?_
  refine lv_iload_n hx hb d_L_law_295 rfl (lv_at hl 0 rfl) ?_
  refine lv_iconst (v := nI 2) hx hb d_L_law_296 (by decide) ?_
  refine lv_iadd hx hb d_L_law_297 ?_
  refine wk_i (y := nI (i + 2)) (nI_add i 2) ?_
  refine va_sld hx hb hX hbl (Nat.not_le.mpr hbl) hS (vp_in_nI (by omega) (by omega)) d_L_law_298 ?_
  refine wk_i (y := xs (i + 2)) (by rw [nI_clamp (by omega)]) ?_
  refine lv_i2l (v := Int32.toInt64 (xs (i + 2))) hx hb d_L_law_299 (rfl) ?_
  refine lv_ldc2 (v := lN 4294967295) hx hb hown (hts _ (al_m aw_t358)) d_L_law_300 ?_
  refine lv_land hx hb d_L_law_303 ?_
  refine lv_lor hx hb d_L_law_304 ?_
  refine wk_l (y := lb (xs (i + 1)) (xs (i + 2))) rfl ?_
  refine pu_l (va_runV (As := [.long (lb (xs (i + 1)) (xs (i + 2)))]) (rest := [.long (an_msg p q (lb (xs (i + 1)) (xs (i + 2))))]) ⟨hx, hb, hml, hown, hts⟩ (c_M_message l dC dI h1 q1 cB p q bx cl cd rd g (lb (xs (i + 1)) (xs (i + 2))) cx hI.1) (cwV 1 hts (al_V (k_M_message) (aw_t271) (aw_t272) (aw_t273) (aw_t2)) rfl rfl rfl (by decide +kernel) ⟨Nat.le_of_ble_eq_true rfl, Nat.le_of_ble_eq_true rfl⟩) (pu_preV (q0 := 0) (ci := 1) hKM hPM rfl rfl) rfl rfl hl.1 rfl (lv_room (Nat.le_of_ble_eq_true rfl)) d_L_law_305 ⟨Nat.le_of_ble_eq_true rfl, Nat.le_of_ble_eq_true rfl⟩) hS (fun H locs hkp hS => ?_)
  have hPX := hkp _ _ _ hPX
  have hPM := hkp _ _ _ hPM
  refine W.lcmp hx hb d_L_law_308 ?_
  refine lv_if_eq (tgt := 905) hx hb d_L_law_309 (by decide) (fun hc309 => ?_) (fun hc309 => ?_)
  · skip
    rw [lg_cmp_eq] at hc309
    exact kk p q cx rd cl tt cd bx g H locs hPX hPM hS (hI)
  · skip
    rw [lg_cmp_eq] at hc309
    exact absurd rfl hc309

set_option maxHeartbeats 4000000 in
set_option maxRecDepth 100000 in
theorem ls_4 {pg : Program} {l : Launch} {ev : Env} {s : State} {mi : MethodId} {below : List Frame} {meth : Method} {co : Code} {b L : Nat} {xs : Nat → Int32} {H : Heap} {locs : List Loc} {Q : State → Prop} {dC : Nat → ClassId} {dI : Nat → Nat → Nat} {h0 q0 h1 q1 : Nat} {cA cB : ClassId} {w0 : Cond} {i p q cx rd cl tt cd bx : Nat} {g : Nat → Nat} {ls : Array Slot} (hx : pg.tables.exec = Jvm.exec) (hb : co.code = code) (hml : co.maxLocals = 4) (hown : s.vm.findClass R_L = some mi.cls) (hts : ∀ w ∈ w0 :: al_w, w.before #[Value.ref b] s = true) (hX : va_X b L xs s s.heap) (hbl : b < s.heap.size) (hKX : va_K (dC, dI) classes [(cA, .long)] s) (hKM : va_K (dC, dI) classes [(cB, .long)] s) (hap : lw_ap s.heap.size h0 q0 h1 q1) (hL : L ≤ 2560) (hi : i + 5 ≤ L) (hI : LI p q cx rd cl tt cd bx g) (hl : lv_has ls 4 [(3, .int (nI i)), (2, .ref h1), (1, .ref h0), (0, .ref b)]) (hPX : va_P (dC, dI) classes [(h0, .inr (0, [.int (nI p), .int (nI q), .int (nI (p * q)), .long (lN (p * q * (p * q))), .long (lN (sp_f p q)), .long (lN (sp_inv p q)), .long (lN (sp_cex p q)), .int (nI cx), .int (nI rd), .int (nI cl), .long (lN tt), .int (nI (sp_cnt g 30)), .ref q0])), (q0, .inl (cA, 30, .inr (.inl (fun j => lN (g j)))))] H) (hPM : va_P (dC, dI) classes [(h1, .inr (1, [.long (lN (p * q)), .long (lN (p * q * (p * q))), .long (lN (sp_f p q)), .long (lN (sp_cex p q)), .int (nI bx), .int (nI cl), .int (nI cd), .int (nI rd), .ref q1])), (q1, .inl (cB, 30, .inr (.inl (fun j => lN (g j)))))] H) (hS : va_S (fun q => s.heap.size ≤ q) s.heap H locs) (kk : ∀ (p q cx rd cl tt cd bx : Nat) (g : Nat → Nat) (H : Heap) (locs : List Loc), va_P (dC, dI) classes [(h0, .inr (0, [.int (nI p), .int (nI q), .int (nI (p * q)), .long (lN (p * q * (p * q))), .long (lN (sp_f p q)), .long (lN (sp_inv p q)), .long (lN (sp_cex p q)), .int (nI cx), .int (nI rd), .int (nI cl), .long (lN tt), .int (nI (sp_cnt g 30)), .ref q0])), (q0, .inl (cA, 30, .inr (.inl (fun j => lN (g j)))))] H → va_P (dC, dI) classes [(h1, .inr (1, [.long (lN (p * q)), .long (lN (p * q * (p * q))), .long (lN (sp_f p q)), .long (lN (sp_cex p q)), .int (nI bx), .int (nI cl), .int (nI cd), .int (nI rd), .ref q1])), (q1, .inl (cB, 30, .inr (.inl (fun j => lN (g j)))))] H → va_S (fun q => s.heap.size ≤ q) s.heap H locs → LI p q cx rd cl tt cd bx g → W pg l ev room_1 s mi #[Value.ref b] below meth co H locs 4 82 Q (F0 mi 905 ls [])) : W pg l ev room_1 s mi #[Value.ref b] below meth co H locs 4 82 Q (F0 mi 314 ls []) := by
  refine lv_aload_n hx hb d_L_law_314 rfl (lv_at hl 2 rfl) ?_
  refine lv_aload_n hx hb d_L_law_315 rfl (lv_at hl 3 rfl) ?_
  refine lv_iload_n hx hb d_L_law_316 rfl (lv_at hl 0 rfl) ?_
  refine lv_iconst (v := nI 1) hx hb d_L_law_317 (by decide) ?_
  refine lv_iadd hx hb d_L_law_318 ?_
  refine wk_i (y := nI (i + 1)) (nI_add i 1) ?_
  refine va_sld hx hb hX hbl (Nat.not_le.mpr hbl) hS (vp_in_nI (by omega) (by omega)) d_L_law_319 ?_
  refine wk_i (y := xs (i + 1)) (by rw [nI_clamp (by omega)]) ?_
  refine lv_i2l (v := Int32.toInt64 (xs (i + 1))) hx hb d_L_law_320 (rfl) ?_
  refine lv_bipush (v := nI 32) hx hb d_L_law_321 (by decide) ?_
  refine lv_lshl (v := (Int32.toInt64 (xs (i + 1))) <<< (Int32.toInt64 (nI 32) &&& 63)) hx hb d_L_law_323 (rfl) ?_
  refine lv_aload_n hx hb d_L_law_324 rfl (lv_at hl 3 rfl) ?_
  refine lv_iload_n hx hb d_L_law_325 rfl (lv_at hl 0 rfl) ?_
  refine lv_iconst (v := nI 2) hx hb d_L_law_326 (by decide) ?_
  refine lv_iadd hx hb d_L_law_327 ?_
  refine wk_i (y := nI (i + 2)) (nI_add i 2) ?_
  refine va_sld hx hb hX hbl (Nat.not_le.mpr hbl) hS (vp_in_nI (by omega) (by omega)) d_L_law_328 ?_
  refine wk_i (y := xs (i + 2)) (by rw [nI_clamp (by omega)]) ?_
  refine lv_i2l (v := Int32.toInt64 (xs (i + 2))) hx hb d_L_law_329 (rfl) ?_
  refine lv_ldc2 (v := lN 4294967295) hx hb hown (hts _ (al_m aw_t358)) d_L_law_330 ?_
  refine lv_land hx hb d_L_law_333 ?_
  refine lv_lor hx hb d_L_law_334 ?_
  refine wk_l (y := lb (xs (i + 1)) (xs (i + 2))) rfl ?_
  refine pu_l (va_runV (As := [.long (lb (xs (i + 1)) (xs (i + 2)))]) (rest := []) ⟨hx, hb, hml, hown, hts⟩ (c_X_coin l dC dI h0 q0 cA p q cx rd cl tt (sp_cnt g 30) g (lb (xs (i + 1)) (xs (i + 2))) hI.1) (cwV 1 hts (al_V (k_X_coin) (aw_t109) (aw_t110) (aw_t111) (aw_t1)) rfl rfl rfl (by decide +kernel) ⟨Nat.le_of_ble_eq_true rfl, Nat.le_of_ble_eq_true rfl⟩) (pu_preV (q0 := 0) (ci := 0) hKX hPX rfl rfl) rfl rfl hl.1 rfl (lv_room (Nat.le_of_ble_eq_true rfl)) d_L_law_335 ⟨Nat.le_of_ble_eq_true rfl, Nat.le_of_ble_eq_true rfl⟩) hS (fun H locs hkp hS => ?_)
  have hPX := hkp _ _ _ hPX
  have hPM := hkp _ _ _ hPM
  refine lv_aload_n hx hb d_L_law_338 rfl (lv_at hl 1 rfl) ?_
  refine lv_aload_n hx hb d_L_law_339 rfl (lv_at hl 3 rfl) ?_
  refine lv_iload_n hx hb d_L_law_340 rfl (lv_at hl 0 rfl) ?_
  refine lv_iconst (v := nI 1) hx hb d_L_law_341 (by decide) ?_
  refine lv_iadd hx hb d_L_law_342 ?_
  refine wk_i (y := nI (i + 1)) (nI_add i 1) ?_
  refine va_sld hx hb hX hbl (Nat.not_le.mpr hbl) hS (vp_in_nI (by omega) (by omega)) d_L_law_343 ?_
  refine wk_i (y := xs (i + 1)) (by rw [nI_clamp (by omega)]) ?_
  refine lv_i2l (v := Int32.toInt64 (xs (i + 1))) hx hb d_L_law_344 (rfl) ?_
  refine lv_bipush (v := nI 32) hx hb d_L_law_345 (by decide) ?_
  refine lv_lshl (v := (Int32.toInt64 (xs (i + 1))) <<< (Int32.toInt64 (nI 32) &&& 63)) hx hb d_L_law_347 (rfl) ?_
  refine lv_aload_n hx hb d_L_law_348 rfl (lv_at hl 3 rfl) ?_
  refine lv_iload_n hx hb d_L_law_349 rfl (lv_at hl 0 rfl) ?_
  refine lv_iconst (v := nI 2) hx hb d_L_law_350 (by decide) ?_
  refine lv_iadd hx hb d_L_law_351 ?_
  refine wk_i (y := nI (i + 2)) (nI_add i 2) ?_
  refine va_sld hx hb hX hbl (Nat.not_le.mpr hbl) hS (vp_in_nI (by omega) (by omega)) d_L_law_352 ?_
  refine wk_i (y := xs (i + 2)) (by rw [nI_clamp (by omega)]) ?_
  refine lv_i2l (v := Int32.toInt64 (xs (i + 2))) hx hb d_L_law_353 (rfl) ?_
  refine lv_ldc2 (v := lN 4294967295) hx hb hown (hts _ (al_m aw_t358)) d_L_law_354 ?_
  refine lv_land hx hb d_L_law_357 ?_
  refine lv_lor hx hb d_L_law_358 ?_
  refine wk_l (y := lb (xs (i + 1)) (xs (i + 2))) rfl ?_
  refine pu_l (va_runV (As := [.long (lb (xs (i + 1)) (xs (i + 2)))]) (rest := [.long (an_coin p q (lb (xs (i + 1)) (xs (i + 2))))]) ⟨hx, hb, hml, hown, hts⟩ (c_M_coin l dC dI h1 q1 cB p q bx cl cd rd g (lb (xs (i + 1)) (xs (i + 2))) cx hI.1) (cwV 1 hts (al_V (k_M_coin) (aw_t287) (aw_t288) (aw_t289) (aw_t2)) rfl rfl rfl (by decide +kernel) ⟨Nat.le_of_ble_eq_true rfl, Nat.le_of_ble_eq_true rfl⟩) (pu_preV (q0 := 0) (ci := 1) hKM hPM rfl rfl) rfl rfl hl.1 rfl (lv_room (Nat.le_of_ble_eq_true rfl)) d_L_law_359 ⟨Nat.le_of_ble_eq_true rfl, Nat.le_of_ble_eq_true rfl⟩) hS (fun H locs hkp hS => ?_)
  have hPX := hkp _ _ _ hPX
  have hPM := hkp _ _ _ hPM
  refine W.lcmp hx hb d_L_law_362 ?_
  refine lv_if_eq (tgt := 905) hx hb d_L_law_363 (by decide) (fun hc363 => ?_) (fun hc363 => ?_)
  · skip
    rw [lg_cmp_eq] at hc363
    exact kk p q cx rd cl tt cd bx g H locs hPX hPM hS (hI)
  · skip
    rw [lg_cmp_eq] at hc363
    exact absurd rfl hc363

set_option maxHeartbeats 4000000 in
set_option maxRecDepth 100000 in
theorem ls_5 {pg : Program} {l : Launch} {ev : Env} {s : State} {mi : MethodId} {below : List Frame} {meth : Method} {co : Code} {b L : Nat} {xs : Nat → Int32} {H : Heap} {locs : List Loc} {Q : State → Prop} {dC : Nat → ClassId} {dI : Nat → Nat → Nat} {h0 q0 h1 q1 : Nat} {cA cB : ClassId} {w0 : Cond} {i p q cx rd cl tt cd bx : Nat} {g : Nat → Nat} {ls : Array Slot} (hx : pg.tables.exec = Jvm.exec) (hb : co.code = code) (hml : co.maxLocals = 4) (hown : s.vm.findClass R_L = some mi.cls) (hts : ∀ w ∈ w0 :: al_w, w.before #[Value.ref b] s = true) (hX : va_X b L xs s s.heap) (hbl : b < s.heap.size) (hKX : va_K (dC, dI) classes [(cA, .long)] s) (hKM : va_K (dC, dI) classes [(cB, .long)] s) (hap : lw_ap s.heap.size h0 q0 h1 q1) (hL : L ≤ 2560) (hi : i + 5 ≤ L) (hI : LI p q cx rd cl tt cd bx g) (hl : lv_has ls 4 [(3, .int (nI i)), (2, .ref h1), (1, .ref h0), (0, .ref b)]) (hPX : va_P (dC, dI) classes [(h0, .inr (0, [.int (nI p), .int (nI q), .int (nI (p * q)), .long (lN (p * q * (p * q))), .long (lN (sp_f p q)), .long (lN (sp_inv p q)), .long (lN (sp_cex p q)), .int (nI cx), .int (nI rd), .int (nI cl), .long (lN tt), .int (nI (sp_cnt g 30)), .ref q0])), (q0, .inl (cA, 30, .inr (.inl (fun j => lN (g j)))))] H) (hPM : va_P (dC, dI) classes [(h1, .inr (1, [.long (lN (p * q)), .long (lN (p * q * (p * q))), .long (lN (sp_f p q)), .long (lN (sp_cex p q)), .int (nI bx), .int (nI cl), .int (nI cd), .int (nI rd), .ref q1])), (q1, .inl (cB, 30, .inr (.inl (fun j => lN (g j)))))] H) (hS : va_S (fun q => s.heap.size ≤ q) s.heap H locs) (kk : ∀ (p q cx rd cl tt cd bx : Nat) (g : Nat → Nat) (H : Heap) (locs : List Loc), va_P (dC, dI) classes [(h0, .inr (0, [.int (nI p), .int (nI q), .int (nI (p * q)), .long (lN (p * q * (p * q))), .long (lN (sp_f p q)), .long (lN (sp_inv p q)), .long (lN (sp_cex p q)), .int (nI cx), .int (nI rd), .int (nI cl), .long (lN tt), .int (nI (sp_cnt g 30)), .ref q0])), (q0, .inl (cA, 30, .inr (.inl (fun j => lN (g j)))))] H → va_P (dC, dI) classes [(h1, .inr (1, [.long (lN (p * q)), .long (lN (p * q * (p * q))), .long (lN (sp_f p q)), .long (lN (sp_cex p q)), .int (nI bx), .int (nI cl), .int (nI cd), .int (nI rd), .ref q1])), (q1, .inl (cB, 30, .inr (.inl (fun j => lN (g j)))))] H → va_S (fun q => s.heap.size ≤ q) s.heap H locs → LI p q cx rd cl tt cd bx g → W pg l ev room_1 s mi #[Value.ref b] below meth co H locs 4 82 Q (F0 mi 905 ls [])) : W pg l ev room_1 s mi #[Value.ref b] below meth co H locs 4 82 Q (F0 mi 368 ls []) := by
  refine lv_aload_n hx hb d_L_law_368 rfl (lv_at hl 2 rfl) ?_
  refine lv_aload_n hx hb d_L_law_369 rfl (lv_at hl 3 rfl) ?_
  refine lv_iload_n hx hb d_L_law_370 rfl (lv_at hl 0 rfl) ?_
  refine lv_iconst (v := nI 1) hx hb d_L_law_371 (by decide) ?_
  refine lv_iadd hx hb d_L_law_372 ?_
  refine wk_i (y := nI (i + 1)) (nI_add i 1) ?_
  refine va_sld hx hb hX hbl (Nat.not_le.mpr hbl) hS (vp_in_nI (by omega) (by omega)) d_L_law_373 ?_
  refine wk_i (y := xs (i + 1)) (by rw [nI_clamp (by omega)]) ?_
  refine lv_i2l (v := Int32.toInt64 (xs (i + 1))) hx hb d_L_law_374 (rfl) ?_
  refine lv_bipush (v := nI 32) hx hb d_L_law_375 (by decide) ?_
  refine lv_lshl (v := (Int32.toInt64 (xs (i + 1))) <<< (Int32.toInt64 (nI 32) &&& 63)) hx hb d_L_law_377 (rfl) ?_
  refine lv_aload_n hx hb d_L_law_378 rfl (lv_at hl 3 rfl) ?_
  refine lv_iload_n hx hb d_L_law_379 rfl (lv_at hl 0 rfl) ?_
  refine lv_iconst (v := nI 2) hx hb d_L_law_380 (by decide) ?_
  refine lv_iadd hx hb d_L_law_381 ?_
  refine wk_i (y := nI (i + 2)) (nI_add i 2) ?_
  refine va_sld hx hb hX hbl (Nat.not_le.mpr hbl) hS (vp_in_nI (by omega) (by omega)) d_L_law_382 ?_
  refine wk_i (y := xs (i + 2)) (by rw [nI_clamp (by omega)]) ?_
  refine lv_i2l (v := Int32.toInt64 (xs (i + 2))) hx hb d_L_law_383 (rfl) ?_
  refine lv_ldc2 (v := lN 4294967295) hx hb hown (hts _ (al_m aw_t358)) d_L_law_384 ?_
  refine lv_land hx hb d_L_law_387 ?_
  refine lv_lor hx hb d_L_law_388 ?_
  refine wk_l (y := lb (xs (i + 1)) (xs (i + 2))) rfl ?_
  refine lv_aload_n hx hb d_L_law_389 rfl (lv_at hl 3 rfl) ?_
  refine lv_iload_n hx hb d_L_law_390 rfl (lv_at hl 0 rfl) ?_
  refine lv_iconst (v := nI 3) hx hb d_L_law_391 (by decide) ?_
  refine lv_iadd hx hb d_L_law_392 ?_
  refine wk_i (y := nI (i + 3)) (nI_add i 3) ?_
  refine va_sld hx hb hX hbl (Nat.not_le.mpr hbl) hS (vp_in_nI (by omega) (by omega)) d_L_law_393 ?_
  refine wk_i (y := xs (i + 3)) (by rw [nI_clamp (by omega)]) ?_
  refine lv_i2l (v := Int32.toInt64 (xs (i + 3))) hx hb d_L_law_394 (rfl) ?_
  refine lv_bipush (v := nI 32) hx hb d_L_law_395 (by decide) ?_
  refine lv_lshl (v := (Int32.toInt64 (xs (i + 3))) <<< (Int32.toInt64 (nI 32) &&& 63)) hx hb d_L_law_397 (rfl) ?_
  refine lv_aload_n hx hb d_L_law_398 rfl (lv_at hl 3 rfl) ?_
  refine lv_iload_n hx hb d_L_law_399 rfl (lv_at hl 0 rfl) ?_
  refine lv_iconst (v := nI 4) hx hb d_L_law_400 (by decide) ?_
  refine lv_iadd hx hb d_L_law_401 ?_
  refine wk_i (y := nI (i + 4)) (nI_add i 4) ?_
  refine va_sld hx hb hX hbl (Nat.not_le.mpr hbl) hS (vp_in_nI (by omega) (by omega)) d_L_law_402 ?_
  refine wk_i (y := xs (i + 4)) (by rw [nI_clamp (by omega)]) ?_
  refine lv_i2l (v := Int32.toInt64 (xs (i + 4))) hx hb d_L_law_403 (rfl) ?_
  refine lv_ldc2 (v := lN 4294967295) hx hb hown (hts _ (al_m aw_t358)) d_L_law_404 ?_
  refine lv_land hx hb d_L_law_407 ?_
  refine lv_lor hx hb d_L_law_408 ?_
  refine wk_l (y := lb (xs (i + 3)) (xs (i + 4))) rfl ?_
  refine pu_l (va_runV (As := [.long (lb (xs (i + 1)) (xs (i + 2))), .long (lb (xs (i + 3)) (xs (i + 4)))]) (rest := []) ⟨hx, hb, hml, hown, hts⟩ (c_X_join l dC dI h0 q0 cA p q cx rd cl tt (sp_cnt g 30) g (lb (xs (i + 1)) (xs (i + 2))) (lb (xs (i + 3)) (xs (i + 4))) hI.1) (cwV 2 hts (al_V (k_X_join) (aw_t117) (aw_t118) (aw_t119) (aw_t1)) rfl rfl rfl (by decide +kernel) ⟨Nat.le_of_ble_eq_true rfl, Nat.le_of_ble_eq_true rfl⟩) (pu_preV (q0 := 0) (ci := 0) hKX hPX rfl rfl) rfl rfl hl.1 rfl (lv_room (Nat.le_of_ble_eq_true rfl)) d_L_law_409 ⟨Nat.le_of_ble_eq_true rfl, Nat.le_of_ble_eq_true rfl⟩) hS (fun H locs hkp hS => ?_)
  have hPX := hkp _ _ _ hPX
  have hPM := hkp _ _ _ hPM
  refine lv_aload_n hx hb d_L_law_412 rfl (lv_at hl 1 rfl) ?_
  refine lv_aload_n hx hb d_L_law_413 rfl (lv_at hl 3 rfl) ?_
  refine lv_iload_n hx hb d_L_law_414 rfl (lv_at hl 0 rfl) ?_
  refine lv_iconst (v := nI 1) hx hb d_L_law_415 (by decide) ?_
  refine lv_iadd hx hb d_L_law_416 ?_
  refine wk_i (y := nI (i + 1)) (nI_add i 1) ?_
  refine va_sld hx hb hX hbl (Nat.not_le.mpr hbl) hS (vp_in_nI (by omega) (by omega)) d_L_law_417 ?_
  refine wk_i (y := xs (i + 1)) (by rw [nI_clamp (by omega)]) ?_
  refine lv_i2l (v := Int32.toInt64 (xs (i + 1))) hx hb d_L_law_418 (rfl) ?_
  refine lv_bipush (v := nI 32) hx hb d_L_law_419 (by decide) ?_
  refine lv_lshl (v := (Int32.toInt64 (xs (i + 1))) <<< (Int32.toInt64 (nI 32) &&& 63)) hx hb d_L_law_421 (rfl) ?_
  refine lv_aload_n hx hb d_L_law_422 rfl (lv_at hl 3 rfl) ?_
  refine lv_iload_n hx hb d_L_law_423 rfl (lv_at hl 0 rfl) ?_
  refine lv_iconst (v := nI 2) hx hb d_L_law_424 (by decide) ?_
  refine lv_iadd hx hb d_L_law_425 ?_
  refine wk_i (y := nI (i + 2)) (nI_add i 2) ?_
  refine va_sld hx hb hX hbl (Nat.not_le.mpr hbl) hS (vp_in_nI (by omega) (by omega)) d_L_law_426 ?_
  refine wk_i (y := xs (i + 2)) (by rw [nI_clamp (by omega)]) ?_
  refine lv_i2l (v := Int32.toInt64 (xs (i + 2))) hx hb d_L_law_427 (rfl) ?_
  refine lv_ldc2 (v := lN 4294967295) hx hb hown (hts _ (al_m aw_t358)) d_L_law_428 ?_
  refine lv_land hx hb d_L_law_431 ?_
  refine lv_lor hx hb d_L_law_432 ?_
  refine wk_l (y := lb (xs (i + 1)) (xs (i + 2))) rfl ?_
  refine lv_aload_n hx hb d_L_law_433 rfl (lv_at hl 3 rfl) ?_
  refine lv_iload_n hx hb d_L_law_434 rfl (lv_at hl 0 rfl) ?_
  refine lv_iconst (v := nI 3) hx hb d_L_law_435 (by decide) ?_
  refine lv_iadd hx hb d_L_law_436 ?_
  refine wk_i (y := nI (i + 3)) (nI_add i 3) ?_
  refine va_sld hx hb hX hbl (Nat.not_le.mpr hbl) hS (vp_in_nI (by omega) (by omega)) d_L_law_437 ?_
  refine wk_i (y := xs (i + 3)) (by rw [nI_clamp (by omega)]) ?_
  refine lv_i2l (v := Int32.toInt64 (xs (i + 3))) hx hb d_L_law_438 (rfl) ?_
  refine lv_bipush (v := nI 32) hx hb d_L_law_439 (by decide) ?_
  refine lv_lshl (v := (Int32.toInt64 (xs (i + 3))) <<< (Int32.toInt64 (nI 32) &&& 63)) hx hb d_L_law_441 (rfl) ?_
  refine lv_aload_n hx hb d_L_law_442 rfl (lv_at hl 3 rfl) ?_
  refine lv_iload_n hx hb d_L_law_443 rfl (lv_at hl 0 rfl) ?_
  refine lv_iconst (v := nI 4) hx hb d_L_law_444 (by decide) ?_
  refine lv_iadd hx hb d_L_law_445 ?_
  refine wk_i (y := nI (i + 4)) (nI_add i 4) ?_
  refine va_sld hx hb hX hbl (Nat.not_le.mpr hbl) hS (vp_in_nI (by omega) (by omega)) d_L_law_446 ?_
  refine wk_i (y := xs (i + 4)) (by rw [nI_clamp (by omega)]) ?_
  refine lv_i2l (v := Int32.toInt64 (xs (i + 4))) hx hb d_L_law_447 (rfl) ?_
  refine lv_ldc2 (v := lN 4294967295) hx hb hown (hts _ (al_m aw_t358)) d_L_law_448 ?_
  refine lv_land hx hb d_L_law_451 ?_
  refine lv_lor hx hb d_L_law_452 ?_
  refine wk_l (y := lb (xs (i + 3)) (xs (i + 4))) rfl ?_
  refine pu_l (va_runV (As := [.long (lb (xs (i + 1)) (xs (i + 2))), .long (lb (xs (i + 3)) (xs (i + 4)))]) (rest := [.long (an_join p q (lb (xs (i + 1)) (xs (i + 2))) (lb (xs (i + 3)) (xs (i + 4))))]) ⟨hx, hb, hml, hown, hts⟩ (c_M_join l dC dI h1 q1 cB p q bx cl cd rd g (lb (xs (i + 1)) (xs (i + 2))) (lb (xs (i + 3)) (xs (i + 4))) cx hI.1) (cwV 2 hts (al_V (k_M_join) (aw_t291) (aw_t292) (aw_t293) (aw_t2)) rfl rfl rfl (by decide +kernel) ⟨Nat.le_of_ble_eq_true rfl, Nat.le_of_ble_eq_true rfl⟩) (pu_preV (q0 := 0) (ci := 1) hKM hPM rfl rfl) rfl rfl hl.1 rfl (lv_room (Nat.le_of_ble_eq_true rfl)) d_L_law_453 ⟨Nat.le_of_ble_eq_true rfl, Nat.le_of_ble_eq_true rfl⟩) hS (fun H locs hkp hS => ?_)
  have hPX := hkp _ _ _ hPX
  have hPM := hkp _ _ _ hPM
  refine W.lcmp hx hb d_L_law_456 ?_
  refine lv_if_eq (tgt := 905) hx hb d_L_law_457 (by decide) (fun hc457 => ?_) (fun hc457 => ?_)
  · skip
    rw [lg_cmp_eq] at hc457
    exact kk p q cx rd cl tt cd bx g H locs hPX hPM hS (hI)
  · skip
    rw [lg_cmp_eq] at hc457
    exact absurd rfl hc457
end
section
set_option maxHeartbeats 4000000 in
set_option maxRecDepth 100000 in
theorem ls_6 {pg : Program} {l : Launch} {ev : Env} {s : State} {mi : MethodId} {below : List Frame} {meth : Method} {co : Code} {b L : Nat} {xs : Nat → Int32} {H : Heap} {locs : List Loc} {Q : State → Prop} {dC : Nat → ClassId} {dI : Nat → Nat → Nat} {h0 q0 h1 q1 : Nat} {cA cB : ClassId} {w0 : Cond} {i p q cx rd cl tt cd bx : Nat} {g : Nat → Nat} {ls : Array Slot} (hx : pg.tables.exec = Jvm.exec) (hb : co.code = code) (hml : co.maxLocals = 4) (hown : s.vm.findClass R_L = some mi.cls) (hts : ∀ w ∈ w0 :: al_w, w.before #[Value.ref b] s = true) (hX : va_X b L xs s s.heap) (hbl : b < s.heap.size) (hKX : va_K (dC, dI) classes [(cA, .long)] s) (hKM : va_K (dC, dI) classes [(cB, .long)] s) (hap : lw_ap s.heap.size h0 q0 h1 q1) (hL : L ≤ 2560) (hi : i + 5 ≤ L) (hI : LI p q cx rd cl tt cd bx g) (hl : lv_has ls 4 [(3, .int (nI i)), (2, .ref h1), (1, .ref h0), (0, .ref b)]) (hPX : va_P (dC, dI) classes [(h0, .inr (0, [.int (nI p), .int (nI q), .int (nI (p * q)), .long (lN (p * q * (p * q))), .long (lN (sp_f p q)), .long (lN (sp_inv p q)), .long (lN (sp_cex p q)), .int (nI cx), .int (nI rd), .int (nI cl), .long (lN tt), .int (nI (sp_cnt g 30)), .ref q0])), (q0, .inl (cA, 30, .inr (.inl (fun j => lN (g j)))))] H) (hPM : va_P (dC, dI) classes [(h1, .inr (1, [.long (lN (p * q)), .long (lN (p * q * (p * q))), .long (lN (sp_f p q)), .long (lN (sp_cex p q)), .int (nI bx), .int (nI cl), .int (nI cd), .int (nI rd), .ref q1])), (q1, .inl (cB, 30, .inr (.inl (fun j => lN (g j)))))] H) (hS : va_S (fun q => s.heap.size ≤ q) s.heap H locs) (kk : ∀ (p q cx rd cl tt cd bx : Nat) (g : Nat → Nat) (H : Heap) (locs : List Loc), va_P (dC, dI) classes [(h0, .inr (0, [.int (nI p), .int (nI q), .int (nI (p * q)), .long (lN (p * q * (p * q))), .long (lN (sp_f p q)), .long (lN (sp_inv p q)), .long (lN (sp_cex p q)), .int (nI cx), .int (nI rd), .int (nI cl), .long (lN tt), .int (nI (sp_cnt g 30)), .ref q0])), (q0, .inl (cA, 30, .inr (.inl (fun j => lN (g j)))))] H → va_P (dC, dI) classes [(h1, .inr (1, [.long (lN (p * q)), .long (lN (p * q * (p * q))), .long (lN (sp_f p q)), .long (lN (sp_cex p q)), .int (nI bx), .int (nI cl), .int (nI cd), .int (nI rd), .ref q1])), (q1, .inl (cB, 30, .inr (.inl (fun j => lN (g j)))))] H → va_S (fun q => s.heap.size ≤ q) s.heap H locs → LI p q cx rd cl tt cd bx g → W pg l ev room_1 s mi #[Value.ref b] below meth co H locs 4 82 Q (F0 mi 905 ls [])) : W pg l ev room_1 s mi #[Value.ref b] below meth co H locs 4 82 Q (F0 mi 462 ls []) := by
  refine lv_aload_n hx hb d_L_law_462 rfl (lv_at hl 2 rfl) ?_
  refine lv_aload_n hx hb d_L_law_463 rfl (lv_at hl 3 rfl) ?_
  refine lv_iload_n hx hb d_L_law_464 rfl (lv_at hl 0 rfl) ?_
  refine lv_iconst (v := nI 1) hx hb d_L_law_465 (by decide) ?_
  refine lv_iadd hx hb d_L_law_466 ?_
  refine wk_i (y := nI (i + 1)) (nI_add i 1) ?_
  refine va_sld hx hb hX hbl (Nat.not_le.mpr hbl) hS (vp_in_nI (by omega) (by omega)) d_L_law_467 ?_
  refine wk_i (y := xs (i + 1)) (by rw [nI_clamp (by omega)]) ?_
  refine lv_i2l (v := Int32.toInt64 (xs (i + 1))) hx hb d_L_law_468 (rfl) ?_
  refine lv_bipush (v := nI 32) hx hb d_L_law_469 (by decide) ?_
  refine lv_lshl (v := (Int32.toInt64 (xs (i + 1))) <<< (Int32.toInt64 (nI 32) &&& 63)) hx hb d_L_law_471 (rfl) ?_
  refine lv_aload_n hx hb d_L_law_472 rfl (lv_at hl 3 rfl) ?_
  refine lv_iload_n hx hb d_L_law_473 rfl (lv_at hl 0 rfl) ?_
  refine lv_iconst (v := nI 2) hx hb d_L_law_474 (by decide) ?_
  refine lv_iadd hx hb d_L_law_475 ?_
  refine wk_i (y := nI (i + 2)) (nI_add i 2) ?_
  refine va_sld hx hb hX hbl (Nat.not_le.mpr hbl) hS (vp_in_nI (by omega) (by omega)) d_L_law_476 ?_
  refine wk_i (y := xs (i + 2)) (by rw [nI_clamp (by omega)]) ?_
  refine lv_i2l (v := Int32.toInt64 (xs (i + 2))) hx hb d_L_law_477 (rfl) ?_
  refine lv_ldc2 (v := lN 4294967295) hx hb hown (hts _ (al_m aw_t358)) d_L_law_478 ?_
  refine lv_land hx hb d_L_law_481 ?_
  refine lv_lor hx hb d_L_law_482 ?_
  refine wk_l (y := lb (xs (i + 1)) (xs (i + 2))) rfl ?_
  refine lv_aload_n hx hb d_L_law_483 rfl (lv_at hl 3 rfl) ?_
  refine lv_iload_n hx hb d_L_law_484 rfl (lv_at hl 0 rfl) ?_
  refine lv_iconst (v := nI 3) hx hb d_L_law_485 (by decide) ?_
  refine lv_iadd hx hb d_L_law_486 ?_
  refine wk_i (y := nI (i + 3)) (nI_add i 3) ?_
  refine va_sld hx hb hX hbl (Nat.not_le.mpr hbl) hS (vp_in_nI (by omega) (by omega)) d_L_law_487 ?_
  refine wk_i (y := xs (i + 3)) (by rw [nI_clamp (by omega)]) ?_
  refine pu_l (va_runV (As := [.long (lb (xs (i + 1)) (xs (i + 2))), .int (xs (i + 3))]) (rest := []) ⟨hx, hb, hml, hown, hts⟩ (c_X_power l dC dI h0 q0 cA p q cx rd cl tt (sp_cnt g 30) g (lb (xs (i + 1)) (xs (i + 2))) (xs (i + 3)) hI.1) (cwV 2 hts (al_V (k_X_power) (aw_t121) (aw_t122) (aw_t123) (aw_t1)) rfl rfl rfl (by decide +kernel) ⟨Nat.le_of_ble_eq_true rfl, Nat.le_of_ble_eq_true rfl⟩) (pu_preV (q0 := 0) (ci := 0) hKX hPX rfl rfl) rfl rfl hl.1 rfl (lv_room (Nat.le_of_ble_eq_true rfl)) d_L_law_488 ⟨Nat.le_of_ble_eq_true rfl, Nat.le_of_ble_eq_true rfl⟩) hS (fun H locs hkp hS => ?_)
  have hPX := hkp _ _ _ hPX
  have hPM := hkp _ _ _ hPM
  refine lv_aload_n hx hb d_L_law_491 rfl (lv_at hl 1 rfl) ?_
  refine lv_aload_n hx hb d_L_law_492 rfl (lv_at hl 3 rfl) ?_
  refine lv_iload_n hx hb d_L_law_493 rfl (lv_at hl 0 rfl) ?_
  refine lv_iconst (v := nI 1) hx hb d_L_law_494 (by decide) ?_
  refine lv_iadd hx hb d_L_law_495 ?_
  refine wk_i (y := nI (i + 1)) (nI_add i 1) ?_
  refine va_sld hx hb hX hbl (Nat.not_le.mpr hbl) hS (vp_in_nI (by omega) (by omega)) d_L_law_496 ?_
  refine wk_i (y := xs (i + 1)) (by rw [nI_clamp (by omega)]) ?_
  refine lv_i2l (v := Int32.toInt64 (xs (i + 1))) hx hb d_L_law_497 (rfl) ?_
  refine lv_bipush (v := nI 32) hx hb d_L_law_498 (by decide) ?_
  refine lv_lshl (v := (Int32.toInt64 (xs (i + 1))) <<< (Int32.toInt64 (nI 32) &&& 63)) hx hb d_L_law_500 (rfl) ?_
  refine lv_aload_n hx hb d_L_law_501 rfl (lv_at hl 3 rfl) ?_
  refine lv_iload_n hx hb d_L_law_502 rfl (lv_at hl 0 rfl) ?_
  refine lv_iconst (v := nI 2) hx hb d_L_law_503 (by decide) ?_
  refine lv_iadd hx hb d_L_law_504 ?_
  refine wk_i (y := nI (i + 2)) (nI_add i 2) ?_
  refine va_sld hx hb hX hbl (Nat.not_le.mpr hbl) hS (vp_in_nI (by omega) (by omega)) d_L_law_505 ?_
  refine wk_i (y := xs (i + 2)) (by rw [nI_clamp (by omega)]) ?_
  refine lv_i2l (v := Int32.toInt64 (xs (i + 2))) hx hb d_L_law_506 (rfl) ?_
  refine lv_ldc2 (v := lN 4294967295) hx hb hown (hts _ (al_m aw_t358)) d_L_law_507 ?_
  refine lv_land hx hb d_L_law_510 ?_
  refine lv_lor hx hb d_L_law_511 ?_
  refine wk_l (y := lb (xs (i + 1)) (xs (i + 2))) rfl ?_
  refine lv_aload_n hx hb d_L_law_512 rfl (lv_at hl 3 rfl) ?_
  refine lv_iload_n hx hb d_L_law_513 rfl (lv_at hl 0 rfl) ?_
  refine lv_iconst (v := nI 3) hx hb d_L_law_514 (by decide) ?_
  refine lv_iadd hx hb d_L_law_515 ?_
  refine wk_i (y := nI (i + 3)) (nI_add i 3) ?_
  refine va_sld hx hb hX hbl (Nat.not_le.mpr hbl) hS (vp_in_nI (by omega) (by omega)) d_L_law_516 ?_
  refine wk_i (y := xs (i + 3)) (by rw [nI_clamp (by omega)]) ?_
  refine pu_l (va_runV (As := [.long (lb (xs (i + 1)) (xs (i + 2))), .int (xs (i + 3))]) (rest := [.long (an_power p q (lb (xs (i + 1)) (xs (i + 2))) (xs (i + 3)))]) ⟨hx, hb, hml, hown, hts⟩ (c_M_power l dC dI h1 q1 cB p q bx cl cd rd g (lb (xs (i + 1)) (xs (i + 2))) (xs (i + 3)) cx hI.1) (cwV 2 hts (al_V (k_M_power) (aw_t295) (aw_t296) (aw_t297) (aw_t2)) rfl rfl rfl (by decide +kernel) ⟨Nat.le_of_ble_eq_true rfl, Nat.le_of_ble_eq_true rfl⟩) (pu_preV (q0 := 0) (ci := 1) hKM hPM rfl rfl) rfl rfl hl.1 rfl (lv_room (Nat.le_of_ble_eq_true rfl)) d_L_law_517 ⟨Nat.le_of_ble_eq_true rfl, Nat.le_of_ble_eq_true rfl⟩) hS (fun H locs hkp hS => ?_)
  have hPX := hkp _ _ _ hPX
  have hPM := hkp _ _ _ hPM
  refine W.lcmp hx hb d_L_law_520 ?_
  refine lv_if_eq (tgt := 905) hx hb d_L_law_521 (by decide) (fun hc521 => ?_) (fun hc521 => ?_)
  · skip
    rw [lg_cmp_eq] at hc521
    exact kk p q cx rd cl tt cd bx g H locs hPX hPM hS (hI)
  · skip
    rw [lg_cmp_eq] at hc521
    exact absurd rfl hc521

set_option maxHeartbeats 4000000 in
set_option maxRecDepth 100000 in
theorem ls_7 {pg : Program} {l : Launch} {ev : Env} {s : State} {mi : MethodId} {below : List Frame} {meth : Method} {co : Code} {b L : Nat} {xs : Nat → Int32} {H : Heap} {locs : List Loc} {Q : State → Prop} {dC : Nat → ClassId} {dI : Nat → Nat → Nat} {h0 q0 h1 q1 : Nat} {cA cB : ClassId} {w0 : Cond} {i p q cx rd cl tt cd bx : Nat} {g : Nat → Nat} {ls : Array Slot} (hx : pg.tables.exec = Jvm.exec) (hb : co.code = code) (hml : co.maxLocals = 4) (hown : s.vm.findClass R_L = some mi.cls) (hts : ∀ w ∈ w0 :: al_w, w.before #[Value.ref b] s = true) (hX : va_X b L xs s s.heap) (hbl : b < s.heap.size) (hKX : va_K (dC, dI) classes [(cA, .long)] s) (hKM : va_K (dC, dI) classes [(cB, .long)] s) (hap : lw_ap s.heap.size h0 q0 h1 q1) (hL : L ≤ 2560) (hi : i + 5 ≤ L) (hI : LI p q cx rd cl tt cd bx g) (hl : lv_has ls 4 [(3, .int (nI i)), (2, .ref h1), (1, .ref h0), (0, .ref b)]) (hPX : va_P (dC, dI) classes [(h0, .inr (0, [.int (nI p), .int (nI q), .int (nI (p * q)), .long (lN (p * q * (p * q))), .long (lN (sp_f p q)), .long (lN (sp_inv p q)), .long (lN (sp_cex p q)), .int (nI cx), .int (nI rd), .int (nI cl), .long (lN tt), .int (nI (sp_cnt g 30)), .ref q0])), (q0, .inl (cA, 30, .inr (.inl (fun j => lN (g j)))))] H) (hPM : va_P (dC, dI) classes [(h1, .inr (1, [.long (lN (p * q)), .long (lN (p * q * (p * q))), .long (lN (sp_f p q)), .long (lN (sp_cex p q)), .int (nI bx), .int (nI cl), .int (nI cd), .int (nI rd), .ref q1])), (q1, .inl (cB, 30, .inr (.inl (fun j => lN (g j)))))] H) (hS : va_S (fun q => s.heap.size ≤ q) s.heap H locs) (kk : ∀ (p q cx rd cl tt cd bx : Nat) (g : Nat → Nat) (H : Heap) (locs : List Loc), va_P (dC, dI) classes [(h0, .inr (0, [.int (nI p), .int (nI q), .int (nI (p * q)), .long (lN (p * q * (p * q))), .long (lN (sp_f p q)), .long (lN (sp_inv p q)), .long (lN (sp_cex p q)), .int (nI cx), .int (nI rd), .int (nI cl), .long (lN tt), .int (nI (sp_cnt g 30)), .ref q0])), (q0, .inl (cA, 30, .inr (.inl (fun j => lN (g j)))))] H → va_P (dC, dI) classes [(h1, .inr (1, [.long (lN (p * q)), .long (lN (p * q * (p * q))), .long (lN (sp_f p q)), .long (lN (sp_cex p q)), .int (nI bx), .int (nI cl), .int (nI cd), .int (nI rd), .ref q1])), (q1, .inl (cB, 30, .inr (.inl (fun j => lN (g j)))))] H → va_S (fun q => s.heap.size ≤ q) s.heap H locs → LI p q cx rd cl tt cd bx g → W pg l ev room_1 s mi #[Value.ref b] below meth co H locs 4 82 Q (F0 mi 905 ls [])) : W pg l ev room_1 s mi #[Value.ref b] below meth co H locs 4 82 Q (F0 mi 526 ls []) := by
  refine lv_aload_n hx hb d_L_law_526 rfl (lv_at hl 2 rfl) ?_
  refine lv_aload_n hx hb d_L_law_527 rfl (lv_at hl 3 rfl) ?_
  refine lv_iload_n hx hb d_L_law_528 rfl (lv_at hl 0 rfl) ?_
  refine lv_iconst (v := nI 1) hx hb d_L_law_529 (by decide) ?_
  refine lv_iadd hx hb d_L_law_530 ?_
  refine wk_i (y := nI (i + 1)) (nI_add i 1) ?_
  refine va_sld hx hb hX hbl (Nat.not_le.mpr hbl) hS (vp_in_nI (by omega) (by omega)) d_L_law_531 ?_
  refine wk_i (y := xs (i + 1)) (by rw [nI_clamp (by omega)]) ?_
  refine lv_aload_n hx hb d_L_law_532 rfl (lv_at hl 3 rfl) ?_
  refine lv_iload_n hx hb d_L_law_533 rfl (lv_at hl 0 rfl) ?_
  refine lv_iconst (v := nI 2) hx hb d_L_law_534 (by decide) ?_
  refine lv_iadd hx hb d_L_law_535 ?_
  refine wk_i (y := nI (i + 2)) (nI_add i 2) ?_
  refine va_sld hx hb hX hbl (Nat.not_le.mpr hbl) hS (vp_in_nI (by omega) (by omega)) d_L_law_536 ?_
  refine wk_i (y := xs (i + 2)) (by rw [nI_clamp (by omega)]) ?_
  refine mu_i (wo := _) (va_runV (As := [.int (xs (i + 1)), .int (xs (i + 2))]) (rest := []) ⟨hx, hb, hml, hown, hts⟩ (c_X_open l dC dI h0 q0 cA p q cx rd cl tt (sp_cnt g 30) g (xs (i + 1)) (xs (i + 2)) hI.1 hap.2.2.2.2.1) (cwV 2 hts (al_V (k_X_open) (aw_t128) (aw_t129) (aw_t130) (aw_t1)) rfl rfl rfl (by decide +kernel) ⟨Nat.le_of_ble_eq_true rfl, Nat.le_of_ble_eq_true rfl⟩) (pu_preV (q0 := 0) (ci := 0) hKX hPX rfl rfl) rfl rfl hl.1 rfl (lv_room (Nat.le_of_ble_eq_true rfl)) d_L_law_537 ⟨Nat.le_of_ble_eq_true rfl, Nat.le_of_ble_eq_true rfl⟩) hS hap.1 hap.2.1 (mu_o2 ⟨Ne.symm hap.2.2.2.2.2.1, Ne.symm hap.2.2.2.2.2.2.2.1⟩ ⟨Ne.symm hap.2.2.2.2.2.2.1, Ne.symm hap.2.2.2.2.2.2.2.2.1⟩) hPM (fun H locs hPX hPM hS => ?_)
  refine lv_aload_n hx hb d_L_law_540 rfl (lv_at hl 1 rfl) ?_
  refine lv_aload_n hx hb d_L_law_541 rfl (lv_at hl 3 rfl) ?_
  refine lv_iload_n hx hb d_L_law_542 rfl (lv_at hl 0 rfl) ?_
  refine lv_iconst (v := nI 1) hx hb d_L_law_543 (by decide) ?_
  refine lv_iadd hx hb d_L_law_544 ?_
  refine wk_i (y := nI (i + 1)) (nI_add i 1) ?_
  refine va_sld hx hb hX hbl (Nat.not_le.mpr hbl) hS (vp_in_nI (by omega) (by omega)) d_L_law_545 ?_
  refine wk_i (y := xs (i + 1)) (by rw [nI_clamp (by omega)]) ?_
  refine lv_aload_n hx hb d_L_law_546 rfl (lv_at hl 3 rfl) ?_
  refine lv_iload_n hx hb d_L_law_547 rfl (lv_at hl 0 rfl) ?_
  refine lv_iconst (v := nI 2) hx hb d_L_law_548 (by decide) ?_
  refine lv_iadd hx hb d_L_law_549 ?_
  refine wk_i (y := nI (i + 2)) (nI_add i 2) ?_
  refine va_sld hx hb hX hbl (Nat.not_le.mpr hbl) hS (vp_in_nI (by omega) (by omega)) d_L_law_550 ?_
  refine wk_i (y := xs (i + 2)) (by rw [nI_clamp (by omega)]) ?_
  refine mu_i (wo := _) (va_runV (As := [.int (xs (i + 1)), .int (xs (i + 2))]) (rest := [.int (bI (sp_open p q (xs (i + 1)) (xs (i + 2))))]) ⟨hx, hb, hml, hown, hts⟩ (c_M_open l dC dI h1 q1 cB p q bx cl cd rd g (xs (i + 1)) (xs (i + 2)) cx hI.1 hap.2.2.2.2.2.2.2.2.2) (cwV 2 hts (al_V (k_M_open) (aw_t299) (aw_t300) (aw_t301) (aw_t2)) rfl rfl rfl (by decide +kernel) ⟨Nat.le_of_ble_eq_true rfl, Nat.le_of_ble_eq_true rfl⟩) (pu_preV (q0 := 0) (ci := 1) hKM hPM rfl rfl) rfl rfl hl.1 rfl (lv_room (Nat.le_of_ble_eq_true rfl)) d_L_law_551 ⟨Nat.le_of_ble_eq_true rfl, Nat.le_of_ble_eq_true rfl⟩) hS hap.2.2.1 hap.2.2.2.1 (mu_o2 ⟨hap.2.2.2.2.2.1, hap.2.2.2.2.2.2.1⟩ ⟨hap.2.2.2.2.2.2.2.1, hap.2.2.2.2.2.2.2.2.1⟩) hPX (fun H locs hPM hPX hS => ?_)
  rw [li_cnt] at hPX
  refine lv_icmp_eq (tgt := 905) hx hb d_L_law_554 (by decide) (fun hc554 => ?_) (fun hc554 => ?_)
  · skip
    exact kk p q (sel (sp_open p q (xs (i + 1)) (xs (i + 2))) (xs (i + 1)).toInt.toNat cx) (sel (sp_open p q (xs (i + 1)) (xs (i + 2))) (xs (i + 2)).toInt.toNat rd) (sel (sp_open p q (xs (i + 1)) (xs (i + 2))) 0 cl) tt (sel (sp_open p q (xs (i + 1)) (xs (i + 2))) (xs (i + 1)).toInt.toNat cd) (sel (sp_open p q (xs (i + 1)) (xs (i + 2))) 1 bx) (selg (sp_open p q (xs (i + 1)) (xs (i + 2))) (fz g 30) g) H locs hPX hPM hS (li_open hI _ _)
  · skip
    exact absurd rfl hc554

set_option maxHeartbeats 4000000 in
set_option maxRecDepth 100000 in
theorem ls_8 {pg : Program} {l : Launch} {ev : Env} {s : State} {mi : MethodId} {below : List Frame} {meth : Method} {co : Code} {b L : Nat} {xs : Nat → Int32} {H : Heap} {locs : List Loc} {Q : State → Prop} {dC : Nat → ClassId} {dI : Nat → Nat → Nat} {h0 q0 h1 q1 : Nat} {cA cB : ClassId} {w0 : Cond} {i p q cx rd cl tt cd bx : Nat} {g : Nat → Nat} {ls : Array Slot} (hx : pg.tables.exec = Jvm.exec) (hb : co.code = code) (hml : co.maxLocals = 4) (hown : s.vm.findClass R_L = some mi.cls) (hts : ∀ w ∈ w0 :: al_w, w.before #[Value.ref b] s = true) (hX : va_X b L xs s s.heap) (hbl : b < s.heap.size) (hKX : va_K (dC, dI) classes [(cA, .long)] s) (hKM : va_K (dC, dI) classes [(cB, .long)] s) (hap : lw_ap s.heap.size h0 q0 h1 q1) (hL : L ≤ 2560) (hi : i + 5 ≤ L) (hI : LI p q cx rd cl tt cd bx g) (hl : lv_has ls 4 [(3, .int (nI i)), (2, .ref h1), (1, .ref h0), (0, .ref b)]) (hPX : va_P (dC, dI) classes [(h0, .inr (0, [.int (nI p), .int (nI q), .int (nI (p * q)), .long (lN (p * q * (p * q))), .long (lN (sp_f p q)), .long (lN (sp_inv p q)), .long (lN (sp_cex p q)), .int (nI cx), .int (nI rd), .int (nI cl), .long (lN tt), .int (nI (sp_cnt g 30)), .ref q0])), (q0, .inl (cA, 30, .inr (.inl (fun j => lN (g j)))))] H) (hPM : va_P (dC, dI) classes [(h1, .inr (1, [.long (lN (p * q)), .long (lN (p * q * (p * q))), .long (lN (sp_f p q)), .long (lN (sp_cex p q)), .int (nI bx), .int (nI cl), .int (nI cd), .int (nI rd), .ref q1])), (q1, .inl (cB, 30, .inr (.inl (fun j => lN (g j)))))] H) (hS : va_S (fun q => s.heap.size ≤ q) s.heap H locs) (kk : ∀ (p q cx rd cl tt cd bx : Nat) (g : Nat → Nat) (H : Heap) (locs : List Loc), va_P (dC, dI) classes [(h0, .inr (0, [.int (nI p), .int (nI q), .int (nI (p * q)), .long (lN (p * q * (p * q))), .long (lN (sp_f p q)), .long (lN (sp_inv p q)), .long (lN (sp_cex p q)), .int (nI cx), .int (nI rd), .int (nI cl), .long (lN tt), .int (nI (sp_cnt g 30)), .ref q0])), (q0, .inl (cA, 30, .inr (.inl (fun j => lN (g j)))))] H → va_P (dC, dI) classes [(h1, .inr (1, [.long (lN (p * q)), .long (lN (p * q * (p * q))), .long (lN (sp_f p q)), .long (lN (sp_cex p q)), .int (nI bx), .int (nI cl), .int (nI cd), .int (nI rd), .ref q1])), (q1, .inl (cB, 30, .inr (.inl (fun j => lN (g j)))))] H → va_S (fun q => s.heap.size ≤ q) s.heap H locs → LI p q cx rd cl tt cd bx g → W pg l ev room_1 s mi #[Value.ref b] below meth co H locs 4 82 Q (F0 mi 905 ls [])) : W pg l ev room_1 s mi #[Value.ref b] below meth co H locs 4 82 Q (F0 mi 559 ls []) := by
  refine lv_aload_n hx hb d_L_law_559 rfl (lv_at hl 2 rfl) ?_
  refine lv_aload_n hx hb d_L_law_560 rfl (lv_at hl 3 rfl) ?_
  refine lv_iload_n hx hb d_L_law_561 rfl (lv_at hl 0 rfl) ?_
  refine lv_iconst (v := nI 1) hx hb d_L_law_562 (by decide) ?_
  refine lv_iadd hx hb d_L_law_563 ?_
  refine wk_i (y := nI (i + 1)) (nI_add i 1) ?_
  refine va_sld hx hb hX hbl (Nat.not_le.mpr hbl) hS (vp_in_nI (by omega) (by omega)) d_L_law_564 ?_
  refine wk_i (y := xs (i + 1)) (by rw [nI_clamp (by omega)]) ?_
  refine lv_aload_n hx hb d_L_law_565 rfl (lv_at hl 3 rfl) ?_
  refine lv_iload_n hx hb d_L_law_566 rfl (lv_at hl 0 rfl) ?_
  refine lv_iconst (v := nI 2) hx hb d_L_law_567 (by decide) ?_
  refine lv_iadd hx hb d_L_law_568 ?_
  refine wk_i (y := nI (i + 2)) (nI_add i 2) ?_
  refine va_sld hx hb hX hbl (Nat.not_le.mpr hbl) hS (vp_in_nI (by omega) (by omega)) d_L_law_569 ?_
  refine wk_i (y := xs (i + 2)) (by rw [nI_clamp (by omega)]) ?_
  refine lv_i2l (v := Int32.toInt64 (xs (i + 2))) hx hb d_L_law_570 (rfl) ?_
  refine lv_bipush (v := nI 32) hx hb d_L_law_571 (by decide) ?_
  refine lv_lshl (v := (Int32.toInt64 (xs (i + 2))) <<< (Int32.toInt64 (nI 32) &&& 63)) hx hb d_L_law_573 (rfl) ?_
  refine lv_aload_n hx hb d_L_law_574 rfl (lv_at hl 3 rfl) ?_
  refine lv_iload_n hx hb d_L_law_575 rfl (lv_at hl 0 rfl) ?_
  refine lv_iconst (v := nI 3) hx hb d_L_law_576 (by decide) ?_
  refine lv_iadd hx hb d_L_law_577 ?_
  refine wk_i (y := nI (i + 3)) (nI_add i 3) ?_
  refine va_sld hx hb hX hbl (Nat.not_le.mpr hbl) hS (vp_in_nI (by omega) (by omega)) d_L_law_578 ?_
  refine wk_i (y := xs (i + 3)) (by rw [nI_clamp (by omega)]) ?_
  refine lv_i2l (v := Int32.toInt64 (xs (i + 3))) hx hb d_L_law_579 (rfl) ?_
  refine lv_ldc2 (v := lN 4294967295) hx hb hown (hts _ (al_m aw_t358)) d_L_law_580 ?_
  refine lv_land hx hb d_L_law_583 ?_
  refine lv_lor hx hb d_L_law_584 ?_
  refine wk_l (y := lb (xs (i + 2)) (xs (i + 3))) rfl ?_
  refine pu_l (va_runV (As := [.int (xs (i + 1)), .long (lb (xs (i + 2)) (xs (i + 3)))]) (rest := []) ⟨hx, hb, hml, hown, hts⟩ (c_X_choice l dC dI h0 q0 cA p q cx rd cl tt (sp_cnt g 30) g (xs (i + 1)) (lb (xs (i + 2)) (xs (i + 3))) hI.1 hI.2.1) (cwV 2 hts (al_V (k_X_choice) (aw_t139) (aw_t140) (aw_t141) (aw_t1)) rfl rfl rfl (by decide +kernel) ⟨Nat.le_of_ble_eq_true rfl, Nat.le_of_ble_eq_true rfl⟩) (pu_preV (q0 := 0) (ci := 0) hKX hPX rfl rfl) rfl rfl hl.1 rfl (lv_room (Nat.le_of_ble_eq_true rfl)) d_L_law_585 ⟨Nat.le_of_ble_eq_true rfl, Nat.le_of_ble_eq_true rfl⟩) hS (fun H locs hkp hS => ?_)
  have hPX := hkp _ _ _ hPX
  have hPM := hkp _ _ _ hPM
  refine lv_aload_n hx hb d_L_law_588 rfl (lv_at hl 1 rfl) ?_
  refine lv_aload_n hx hb d_L_law_589 rfl (lv_at hl 3 rfl) ?_
  refine lv_iload_n hx hb d_L_law_590 rfl (lv_at hl 0 rfl) ?_
  refine lv_iconst (v := nI 1) hx hb d_L_law_591 (by decide) ?_
  refine lv_iadd hx hb d_L_law_592 ?_
  refine wk_i (y := nI (i + 1)) (nI_add i 1) ?_
  refine va_sld hx hb hX hbl (Nat.not_le.mpr hbl) hS (vp_in_nI (by omega) (by omega)) d_L_law_593 ?_
  refine wk_i (y := xs (i + 1)) (by rw [nI_clamp (by omega)]) ?_
  refine lv_aload_n hx hb d_L_law_594 rfl (lv_at hl 3 rfl) ?_
  refine lv_iload_n hx hb d_L_law_595 rfl (lv_at hl 0 rfl) ?_
  refine lv_iconst (v := nI 2) hx hb d_L_law_596 (by decide) ?_
  refine lv_iadd hx hb d_L_law_597 ?_
  refine wk_i (y := nI (i + 2)) (nI_add i 2) ?_
  refine va_sld hx hb hX hbl (Nat.not_le.mpr hbl) hS (vp_in_nI (by omega) (by omega)) d_L_law_598 ?_
  refine wk_i (y := xs (i + 2)) (by rw [nI_clamp (by omega)]) ?_
  refine lv_i2l (v := Int32.toInt64 (xs (i + 2))) hx hb d_L_law_599 (rfl) ?_
  refine lv_bipush (v := nI 32) hx hb d_L_law_600 (by decide) ?_
  refine lv_lshl (v := (Int32.toInt64 (xs (i + 2))) <<< (Int32.toInt64 (nI 32) &&& 63)) hx hb d_L_law_602 (rfl) ?_
  refine lv_aload_n hx hb d_L_law_603 rfl (lv_at hl 3 rfl) ?_
  refine lv_iload_n hx hb d_L_law_604 rfl (lv_at hl 0 rfl) ?_
  refine lv_iconst (v := nI 3) hx hb d_L_law_605 (by decide) ?_
  refine lv_iadd hx hb d_L_law_606 ?_
  refine wk_i (y := nI (i + 3)) (nI_add i 3) ?_
  refine va_sld hx hb hX hbl (Nat.not_le.mpr hbl) hS (vp_in_nI (by omega) (by omega)) d_L_law_607 ?_
  refine wk_i (y := xs (i + 3)) (by rw [nI_clamp (by omega)]) ?_
  refine lv_i2l (v := Int32.toInt64 (xs (i + 3))) hx hb d_L_law_608 (rfl) ?_
  refine lv_ldc2 (v := lN 4294967295) hx hb hown (hts _ (al_m aw_t358)) d_L_law_609 ?_
  refine lv_land hx hb d_L_law_612 ?_
  refine lv_lor hx hb d_L_law_613 ?_
  refine wk_l (y := lb (xs (i + 2)) (xs (i + 3))) rfl ?_
  refine pu_l (va_runV (As := [.int (xs (i + 1)), .long (lb (xs (i + 2)) (xs (i + 3)))]) (rest := [.long (an_choice p q cx rd (xs (i + 1)) (lb (xs (i + 2)) (xs (i + 3))))]) ⟨hx, hb, hml, hown, hts⟩ (c_M_choice l dC dI h1 q1 cB p q bx cl cd rd g (xs (i + 1)) (lb (xs (i + 2)) (xs (i + 3))) cx hI.1 hI.2.1 hI.2.2.2.2.1 hI.2.2.2.2.2.1 hI.2.2.2.2.2.2 hI.2.2.1) (cwV 2 hts (al_V (k_M_choice) (aw_t303) (aw_t304) (aw_t305) (aw_t2)) rfl rfl rfl (by decide +kernel) ⟨Nat.le_of_ble_eq_true rfl, Nat.le_of_ble_eq_true rfl⟩) (pu_preV (q0 := 0) (ci := 1) hKM hPM rfl rfl) rfl rfl hl.1 rfl (lv_room (Nat.le_of_ble_eq_true rfl)) d_L_law_614 ⟨Nat.le_of_ble_eq_true rfl, Nat.le_of_ble_eq_true rfl⟩) hS (fun H locs hkp hS => ?_)
  have hPX := hkp _ _ _ hPX
  have hPM := hkp _ _ _ hPM
  refine W.lcmp hx hb d_L_law_617 ?_
  refine lv_if_eq (tgt := 905) hx hb d_L_law_618 (by decide) (fun hc618 => ?_) (fun hc618 => ?_)
  · skip
    rw [lg_cmp_eq] at hc618
    exact kk p q cx rd cl tt cd bx g H locs hPX hPM hS (hI)
  · skip
    rw [lg_cmp_eq] at hc618
    exact absurd rfl hc618

set_option maxHeartbeats 4000000 in
set_option maxRecDepth 100000 in
theorem ls_9 {pg : Program} {l : Launch} {ev : Env} {s : State} {mi : MethodId} {below : List Frame} {meth : Method} {co : Code} {b L : Nat} {xs : Nat → Int32} {H : Heap} {locs : List Loc} {Q : State → Prop} {dC : Nat → ClassId} {dI : Nat → Nat → Nat} {h0 q0 h1 q1 : Nat} {cA cB : ClassId} {w0 : Cond} {i p q cx rd cl tt cd bx : Nat} {g : Nat → Nat} {ls : Array Slot} (hx : pg.tables.exec = Jvm.exec) (hb : co.code = code) (hml : co.maxLocals = 4) (hown : s.vm.findClass R_L = some mi.cls) (hts : ∀ w ∈ w0 :: al_w, w.before #[Value.ref b] s = true) (hX : va_X b L xs s s.heap) (hbl : b < s.heap.size) (hKX : va_K (dC, dI) classes [(cA, .long)] s) (hKM : va_K (dC, dI) classes [(cB, .long)] s) (hap : lw_ap s.heap.size h0 q0 h1 q1) (hL : L ≤ 2560) (hi : i + 5 ≤ L) (hI : LI p q cx rd cl tt cd bx g) (hl : lv_has ls 4 [(3, .int (nI i)), (2, .ref h1), (1, .ref h0), (0, .ref b)]) (hPX : va_P (dC, dI) classes [(h0, .inr (0, [.int (nI p), .int (nI q), .int (nI (p * q)), .long (lN (p * q * (p * q))), .long (lN (sp_f p q)), .long (lN (sp_inv p q)), .long (lN (sp_cex p q)), .int (nI cx), .int (nI rd), .int (nI cl), .long (lN tt), .int (nI (sp_cnt g 30)), .ref q0])), (q0, .inl (cA, 30, .inr (.inl (fun j => lN (g j)))))] H) (hPM : va_P (dC, dI) classes [(h1, .inr (1, [.long (lN (p * q)), .long (lN (p * q * (p * q))), .long (lN (sp_f p q)), .long (lN (sp_cex p q)), .int (nI bx), .int (nI cl), .int (nI cd), .int (nI rd), .ref q1])), (q1, .inl (cB, 30, .inr (.inl (fun j => lN (g j)))))] H) (hS : va_S (fun q => s.heap.size ≤ q) s.heap H locs) (kk : ∀ (p q cx rd cl tt cd bx : Nat) (g : Nat → Nat) (H : Heap) (locs : List Loc), va_P (dC, dI) classes [(h0, .inr (0, [.int (nI p), .int (nI q), .int (nI (p * q)), .long (lN (p * q * (p * q))), .long (lN (sp_f p q)), .long (lN (sp_inv p q)), .long (lN (sp_cex p q)), .int (nI cx), .int (nI rd), .int (nI cl), .long (lN tt), .int (nI (sp_cnt g 30)), .ref q0])), (q0, .inl (cA, 30, .inr (.inl (fun j => lN (g j)))))] H → va_P (dC, dI) classes [(h1, .inr (1, [.long (lN (p * q)), .long (lN (p * q * (p * q))), .long (lN (sp_f p q)), .long (lN (sp_cex p q)), .int (nI bx), .int (nI cl), .int (nI cd), .int (nI rd), .ref q1])), (q1, .inl (cB, 30, .inr (.inl (fun j => lN (g j)))))] H → va_S (fun q => s.heap.size ≤ q) s.heap H locs → LI p q cx rd cl tt cd bx g → W pg l ev room_1 s mi #[Value.ref b] below meth co H locs 4 82 Q (F0 mi 905 ls [])) : W pg l ev room_1 s mi #[Value.ref b] below meth co H locs 4 82 Q (F0 mi 623 ls []) := by
  refine lv_aload_n hx hb d_L_law_623 rfl (lv_at hl 2 rfl) ?_
  refine lv_aload_n hx hb d_L_law_624 rfl (lv_at hl 3 rfl) ?_
  refine lv_iload_n hx hb d_L_law_625 rfl (lv_at hl 0 rfl) ?_
  refine lv_iconst (v := nI 1) hx hb d_L_law_626 (by decide) ?_
  refine lv_iadd hx hb d_L_law_627 ?_
  refine wk_i (y := nI (i + 1)) (nI_add i 1) ?_
  refine va_sld hx hb hX hbl (Nat.not_le.mpr hbl) hS (vp_in_nI (by omega) (by omega)) d_L_law_628 ?_
  refine wk_i (y := xs (i + 1)) (by rw [nI_clamp (by omega)]) ?_
  refine lv_aload_n hx hb d_L_law_629 rfl (lv_at hl 3 rfl) ?_
  refine lv_iload_n hx hb d_L_law_630 rfl (lv_at hl 0 rfl) ?_
  refine lv_iconst (v := nI 2) hx hb d_L_law_631 (by decide) ?_
  refine lv_iadd hx hb d_L_law_632 ?_
  refine wk_i (y := nI (i + 2)) (nI_add i 2) ?_
  refine va_sld hx hb hX hbl (Nat.not_le.mpr hbl) hS (vp_in_nI (by omega) (by omega)) d_L_law_633 ?_
  refine wk_i (y := xs (i + 2)) (by rw [nI_clamp (by omega)]) ?_
  refine lv_i2l (v := Int32.toInt64 (xs (i + 2))) hx hb d_L_law_634 (rfl) ?_
  refine lv_bipush (v := nI 32) hx hb d_L_law_635 (by decide) ?_
  refine lv_lshl (v := (Int32.toInt64 (xs (i + 2))) <<< (Int32.toInt64 (nI 32) &&& 63)) hx hb d_L_law_637 (rfl) ?_
  refine lv_aload_n hx hb d_L_law_638 rfl (lv_at hl 3 rfl) ?_
  refine lv_iload_n hx hb d_L_law_639 rfl (lv_at hl 0 rfl) ?_
  refine lv_iconst (v := nI 3) hx hb d_L_law_640 (by decide) ?_
  refine lv_iadd hx hb d_L_law_641 ?_
  refine wk_i (y := nI (i + 3)) (nI_add i 3) ?_
  refine va_sld hx hb hX hbl (Nat.not_le.mpr hbl) hS (vp_in_nI (by omega) (by omega)) d_L_law_642 ?_
  refine wk_i (y := xs (i + 3)) (by rw [nI_clamp (by omega)]) ?_
  refine lv_i2l (v := Int32.toInt64 (xs (i + 3))) hx hb d_L_law_643 (rfl) ?_
  refine lv_ldc2 (v := lN 4294967295) hx hb hown (hts _ (al_m aw_t358)) d_L_law_644 ?_
  refine lv_land hx hb d_L_law_647 ?_
  refine lv_lor hx hb d_L_law_648 ?_
  refine wk_l (y := lb (xs (i + 2)) (xs (i + 3))) rfl ?_
  refine mu_i (wo := _) (va_runV (As := [.int (xs (i + 1)), .long (lb (xs (i + 2)) (xs (i + 3)))]) (rest := []) ⟨hx, hb, hml, hown, hts⟩ (c_X_cast l dC dI h0 q0 cA p q cx rd cl tt (sp_cnt g 30) g (xs (i + 1)) (lb (xs (i + 2)) (xs (i + 3))) hI.1 hI.2.1 hI.2.2.1 rfl hap.2.2.2.2.1) (cwV 2 hts (al_V (k_X_cast) (aw_t156) (aw_t157) (aw_t158) (aw_t1)) rfl rfl rfl (by decide +kernel) ⟨Nat.le_of_ble_eq_true rfl, Nat.le_of_ble_eq_true rfl⟩) (pu_preV (q0 := 0) (ci := 0) hKX hPX rfl rfl) rfl rfl hl.1 rfl (lv_room (Nat.le_of_ble_eq_true rfl)) d_L_law_649 ⟨Nat.le_of_ble_eq_true rfl, Nat.le_of_ble_eq_true rfl⟩) hS hap.1 hap.2.1 (mu_o2 ⟨Ne.symm hap.2.2.2.2.2.1, Ne.symm hap.2.2.2.2.2.2.2.1⟩ ⟨Ne.symm hap.2.2.2.2.2.2.1, Ne.symm hap.2.2.2.2.2.2.2.2.1⟩) hPM (fun H locs hPX hPM hS => ?_)
  refine lv_aload_n hx hb d_L_law_652 rfl (lv_at hl 1 rfl) ?_
  refine lv_aload_n hx hb d_L_law_653 rfl (lv_at hl 3 rfl) ?_
  refine lv_iload_n hx hb d_L_law_654 rfl (lv_at hl 0 rfl) ?_
  refine lv_iconst (v := nI 1) hx hb d_L_law_655 (by decide) ?_
  refine lv_iadd hx hb d_L_law_656 ?_
  refine wk_i (y := nI (i + 1)) (nI_add i 1) ?_
  refine va_sld hx hb hX hbl (Nat.not_le.mpr hbl) hS (vp_in_nI (by omega) (by omega)) d_L_law_657 ?_
  refine wk_i (y := xs (i + 1)) (by rw [nI_clamp (by omega)]) ?_
  refine lv_aload_n hx hb d_L_law_658 rfl (lv_at hl 3 rfl) ?_
  refine lv_iload_n hx hb d_L_law_659 rfl (lv_at hl 0 rfl) ?_
  refine lv_iconst (v := nI 2) hx hb d_L_law_660 (by decide) ?_
  refine lv_iadd hx hb d_L_law_661 ?_
  refine wk_i (y := nI (i + 2)) (nI_add i 2) ?_
  refine va_sld hx hb hX hbl (Nat.not_le.mpr hbl) hS (vp_in_nI (by omega) (by omega)) d_L_law_662 ?_
  refine wk_i (y := xs (i + 2)) (by rw [nI_clamp (by omega)]) ?_
  refine lv_i2l (v := Int32.toInt64 (xs (i + 2))) hx hb d_L_law_663 (rfl) ?_
  refine lv_bipush (v := nI 32) hx hb d_L_law_664 (by decide) ?_
  refine lv_lshl (v := (Int32.toInt64 (xs (i + 2))) <<< (Int32.toInt64 (nI 32) &&& 63)) hx hb d_L_law_666 (rfl) ?_
  refine lv_aload_n hx hb d_L_law_667 rfl (lv_at hl 3 rfl) ?_
  refine lv_iload_n hx hb d_L_law_668 rfl (lv_at hl 0 rfl) ?_
  refine lv_iconst (v := nI 3) hx hb d_L_law_669 (by decide) ?_
  refine lv_iadd hx hb d_L_law_670 ?_
  refine wk_i (y := nI (i + 3)) (nI_add i 3) ?_
  refine va_sld hx hb hX hbl (Nat.not_le.mpr hbl) hS (vp_in_nI (by omega) (by omega)) d_L_law_671 ?_
  refine wk_i (y := xs (i + 3)) (by rw [nI_clamp (by omega)]) ?_
  refine lv_i2l (v := Int32.toInt64 (xs (i + 3))) hx hb d_L_law_672 (rfl) ?_
  refine lv_ldc2 (v := lN 4294967295) hx hb hown (hts _ (al_m aw_t358)) d_L_law_673 ?_
  refine lv_land hx hb d_L_law_676 ?_
  refine lv_lor hx hb d_L_law_677 ?_
  refine wk_l (y := lb (xs (i + 2)) (xs (i + 3))) rfl ?_
  refine mu_i (wo := _) (va_runV (As := [.int (xs (i + 1)), .long (lb (xs (i + 2)) (xs (i + 3)))]) (rest := [.int (an_cast p q cx rd cl g (xs (i + 1)) (lb (xs (i + 2)) (xs (i + 3))))]) ⟨hx, hb, hml, hown, hts⟩ (c_M_cast l dC dI h1 q1 cB p q bx cl cd rd g (xs (i + 1)) (lb (xs (i + 2)) (xs (i + 3))) cx hI.1 hI.2.1 hI.2.2.2.2.1 hI.2.2.2.2.2.1 hI.2.2.1 hap.2.2.2.2.2.2.2.2.2) (cwV 2 hts (al_V (k_M_cast) (aw_t312) (aw_t313) (aw_t314) (aw_t2)) rfl rfl rfl (by decide +kernel) ⟨Nat.le_of_ble_eq_true rfl, Nat.le_of_ble_eq_true rfl⟩) (pu_preV (q0 := 0) (ci := 1) hKM hPM rfl rfl) rfl rfl hl.1 rfl (lv_room (Nat.le_of_ble_eq_true rfl)) d_L_law_678 ⟨Nat.le_of_ble_eq_true rfl, Nat.le_of_ble_eq_true rfl⟩) hS hap.2.2.1 hap.2.2.2.1 (mu_o2 ⟨hap.2.2.2.2.2.1, hap.2.2.2.2.2.2.1⟩ ⟨hap.2.2.2.2.2.2.2.1, hap.2.2.2.2.2.2.2.2.1⟩) hPX (fun H locs hPM hPX hS => ?_)
  refine lv_icmp_eq (tgt := 905) hx hb d_L_law_681 (by decide) (fun hc681 => ?_) (fun hc681 => ?_)
  · skip
    exact kk p q cx rd cl tt cd bx (nx_cast p q cx rd cl g (xs (i + 1)) (lb (xs (i + 2)) (xs (i + 3)))) H locs hPX hPM hS (li_cast hI _ _)
  · skip
    exact absurd rfl hc681

set_option maxHeartbeats 4000000 in
set_option maxRecDepth 100000 in
theorem ls_10 {pg : Program} {l : Launch} {ev : Env} {s : State} {mi : MethodId} {below : List Frame} {meth : Method} {co : Code} {b L : Nat} {xs : Nat → Int32} {H : Heap} {locs : List Loc} {Q : State → Prop} {dC : Nat → ClassId} {dI : Nat → Nat → Nat} {h0 q0 h1 q1 : Nat} {cA cB : ClassId} {w0 : Cond} {i p q cx rd cl tt cd bx : Nat} {g : Nat → Nat} {ls : Array Slot} (hx : pg.tables.exec = Jvm.exec) (hb : co.code = code) (hml : co.maxLocals = 4) (hown : s.vm.findClass R_L = some mi.cls) (hts : ∀ w ∈ w0 :: al_w, w.before #[Value.ref b] s = true) (hX : va_X b L xs s s.heap) (hbl : b < s.heap.size) (hKX : va_K (dC, dI) classes [(cA, .long)] s) (hKM : va_K (dC, dI) classes [(cB, .long)] s) (hap : lw_ap s.heap.size h0 q0 h1 q1) (hL : L ≤ 2560) (hi : i + 5 ≤ L) (hI : LI p q cx rd cl tt cd bx g) (hl : lv_has ls 4 [(3, .int (nI i)), (2, .ref h1), (1, .ref h0), (0, .ref b)]) (hPX : va_P (dC, dI) classes [(h0, .inr (0, [.int (nI p), .int (nI q), .int (nI (p * q)), .long (lN (p * q * (p * q))), .long (lN (sp_f p q)), .long (lN (sp_inv p q)), .long (lN (sp_cex p q)), .int (nI cx), .int (nI rd), .int (nI cl), .long (lN tt), .int (nI (sp_cnt g 30)), .ref q0])), (q0, .inl (cA, 30, .inr (.inl (fun j => lN (g j)))))] H) (hPM : va_P (dC, dI) classes [(h1, .inr (1, [.long (lN (p * q)), .long (lN (p * q * (p * q))), .long (lN (sp_f p q)), .long (lN (sp_cex p q)), .int (nI bx), .int (nI cl), .int (nI cd), .int (nI rd), .ref q1])), (q1, .inl (cB, 30, .inr (.inl (fun j => lN (g j)))))] H) (hS : va_S (fun q => s.heap.size ≤ q) s.heap H locs) (kk : ∀ (p q cx rd cl tt cd bx : Nat) (g : Nat → Nat) (H : Heap) (locs : List Loc), va_P (dC, dI) classes [(h0, .inr (0, [.int (nI p), .int (nI q), .int (nI (p * q)), .long (lN (p * q * (p * q))), .long (lN (sp_f p q)), .long (lN (sp_inv p q)), .long (lN (sp_cex p q)), .int (nI cx), .int (nI rd), .int (nI cl), .long (lN tt), .int (nI (sp_cnt g 30)), .ref q0])), (q0, .inl (cA, 30, .inr (.inl (fun j => lN (g j)))))] H → va_P (dC, dI) classes [(h1, .inr (1, [.long (lN (p * q)), .long (lN (p * q * (p * q))), .long (lN (sp_f p q)), .long (lN (sp_cex p q)), .int (nI bx), .int (nI cl), .int (nI cd), .int (nI rd), .ref q1])), (q1, .inl (cB, 30, .inr (.inl (fun j => lN (g j)))))] H → va_S (fun q => s.heap.size ≤ q) s.heap H locs → LI p q cx rd cl tt cd bx g → W pg l ev room_1 s mi #[Value.ref b] below meth co H locs 4 82 Q (F0 mi 905 ls [])) : W pg l ev room_1 s mi #[Value.ref b] below meth co H locs 4 82 Q (F0 mi 686 ls []) := by
  refine lv_aload_n hx hb d_L_law_686 rfl (lv_at hl 2 rfl) ?_
  refine lv_aload_n hx hb d_L_law_687 rfl (lv_at hl 3 rfl) ?_
  refine lv_iload_n hx hb d_L_law_688 rfl (lv_at hl 0 rfl) ?_
  refine lv_iconst (v := nI 1) hx hb d_L_law_689 (by decide) ?_
  refine lv_iadd hx hb d_L_law_690 ?_
  refine wk_i (y := nI (i + 1)) (nI_add i 1) ?_
  refine va_sld hx hb hX hbl (Nat.not_le.mpr hbl) hS (vp_in_nI (by omega) (by omega)) d_L_law_691 ?_
  refine wk_i (y := xs (i + 1)) (by rw [nI_clamp (by omega)]) ?_
  refine mu_l (wo := _) (va_runV (As := [.int (xs (i + 1))]) (rest := []) ⟨hx, hb, hml, hown, hts⟩ (c_X_withdraw l dC dI h0 q0 cA p q cx rd cl tt (sp_cnt g 30) g (xs (i + 1)) hI.1 hI.2.2.1 rfl hap.2.2.2.2.1) (cwV 1 hts (al_V (k_X_withdraw) (aw_t163) (aw_t164) (aw_t165) (aw_t1)) rfl rfl rfl (by decide +kernel) ⟨Nat.le_of_ble_eq_true rfl, Nat.le_of_ble_eq_true rfl⟩) (pu_preV (q0 := 0) (ci := 0) hKX hPX rfl rfl) rfl rfl hl.1 rfl (lv_room (Nat.le_of_ble_eq_true rfl)) d_L_law_692 ⟨Nat.le_of_ble_eq_true rfl, Nat.le_of_ble_eq_true rfl⟩) hS hap.1 hap.2.1 (mu_o2 ⟨Ne.symm hap.2.2.2.2.2.1, Ne.symm hap.2.2.2.2.2.2.2.1⟩ ⟨Ne.symm hap.2.2.2.2.2.2.1, Ne.symm hap.2.2.2.2.2.2.2.2.1⟩) hPM (fun H locs hPX hPM hS => ?_)
  refine lv_aload_n hx hb d_L_law_695 rfl (lv_at hl 1 rfl) ?_
  refine lv_aload_n hx hb d_L_law_696 rfl (lv_at hl 3 rfl) ?_
  refine lv_iload_n hx hb d_L_law_697 rfl (lv_at hl 0 rfl) ?_
  refine lv_iconst (v := nI 1) hx hb d_L_law_698 (by decide) ?_
  refine lv_iadd hx hb d_L_law_699 ?_
  refine wk_i (y := nI (i + 1)) (nI_add i 1) ?_
  refine va_sld hx hb hX hbl (Nat.not_le.mpr hbl) hS (vp_in_nI (by omega) (by omega)) d_L_law_700 ?_
  refine wk_i (y := xs (i + 1)) (by rw [nI_clamp (by omega)]) ?_
  refine mu_l (wo := _) (va_runV (As := [.int (xs (i + 1))]) (rest := [.long (an_withdraw cx cl g (xs (i + 1)))]) ⟨hx, hb, hml, hown, hts⟩ (c_M_withdraw l dC dI h1 q1 cB p q bx cl cd rd g (xs (i + 1)) cx hI.1 hI.2.1 hI.2.2.2.2.1 hI.2.2.2.2.2.1 hI.2.2.1 hap.2.2.2.2.2.2.2.2.2) (cwV 1 hts (al_V (k_M_withdraw) (aw_t320) (aw_t321) (aw_t322) (aw_t2)) rfl rfl rfl (by decide +kernel) ⟨Nat.le_of_ble_eq_true rfl, Nat.le_of_ble_eq_true rfl⟩) (pu_preV (q0 := 0) (ci := 1) hKM hPM rfl rfl) rfl rfl hl.1 rfl (lv_room (Nat.le_of_ble_eq_true rfl)) d_L_law_701 ⟨Nat.le_of_ble_eq_true rfl, Nat.le_of_ble_eq_true rfl⟩) hS hap.2.2.1 hap.2.2.2.1 (mu_o2 ⟨hap.2.2.2.2.2.1, hap.2.2.2.2.2.2.1⟩ ⟨hap.2.2.2.2.2.2.2.1, hap.2.2.2.2.2.2.2.2.1⟩) hPX (fun H locs hPM hPX hS => ?_)
  refine W.lcmp hx hb d_L_law_704 ?_
  refine lv_if_eq (tgt := 905) hx hb d_L_law_705 (by decide) (fun hc705 => ?_) (fun hc705 => ?_)
  · skip
    rw [lg_cmp_eq] at hc705
    exact kk p q cx rd cl tt cd bx (nx_withdraw cx cl g (xs (i + 1))) H locs hPX hPM hS (li_withdraw hI _)
  · skip
    rw [lg_cmp_eq] at hc705
    exact absurd rfl hc705

set_option maxHeartbeats 4000000 in
set_option maxRecDepth 100000 in
theorem ls_11 {pg : Program} {l : Launch} {ev : Env} {s : State} {mi : MethodId} {below : List Frame} {meth : Method} {co : Code} {b L : Nat} {xs : Nat → Int32} {H : Heap} {locs : List Loc} {Q : State → Prop} {dC : Nat → ClassId} {dI : Nat → Nat → Nat} {h0 q0 h1 q1 : Nat} {cA cB : ClassId} {w0 : Cond} {i p q cx rd cl tt cd bx : Nat} {g : Nat → Nat} {ls : Array Slot} (hx : pg.tables.exec = Jvm.exec) (hb : co.code = code) (hml : co.maxLocals = 4) (hown : s.vm.findClass R_L = some mi.cls) (hts : ∀ w ∈ w0 :: al_w, w.before #[Value.ref b] s = true) (hX : va_X b L xs s s.heap) (hbl : b < s.heap.size) (hKX : va_K (dC, dI) classes [(cA, .long)] s) (hKM : va_K (dC, dI) classes [(cB, .long)] s) (hap : lw_ap s.heap.size h0 q0 h1 q1) (hL : L ≤ 2560) (hi : i + 5 ≤ L) (hI : LI p q cx rd cl tt cd bx g) (hl : lv_has ls 4 [(3, .int (nI i)), (2, .ref h1), (1, .ref h0), (0, .ref b)]) (hPX : va_P (dC, dI) classes [(h0, .inr (0, [.int (nI p), .int (nI q), .int (nI (p * q)), .long (lN (p * q * (p * q))), .long (lN (sp_f p q)), .long (lN (sp_inv p q)), .long (lN (sp_cex p q)), .int (nI cx), .int (nI rd), .int (nI cl), .long (lN tt), .int (nI (sp_cnt g 30)), .ref q0])), (q0, .inl (cA, 30, .inr (.inl (fun j => lN (g j)))))] H) (hPM : va_P (dC, dI) classes [(h1, .inr (1, [.long (lN (p * q)), .long (lN (p * q * (p * q))), .long (lN (sp_f p q)), .long (lN (sp_cex p q)), .int (nI bx), .int (nI cl), .int (nI cd), .int (nI rd), .ref q1])), (q1, .inl (cB, 30, .inr (.inl (fun j => lN (g j)))))] H) (hS : va_S (fun q => s.heap.size ≤ q) s.heap H locs) (kk : ∀ (p q cx rd cl tt cd bx : Nat) (g : Nat → Nat) (H : Heap) (locs : List Loc), va_P (dC, dI) classes [(h0, .inr (0, [.int (nI p), .int (nI q), .int (nI (p * q)), .long (lN (p * q * (p * q))), .long (lN (sp_f p q)), .long (lN (sp_inv p q)), .long (lN (sp_cex p q)), .int (nI cx), .int (nI rd), .int (nI cl), .long (lN tt), .int (nI (sp_cnt g 30)), .ref q0])), (q0, .inl (cA, 30, .inr (.inl (fun j => lN (g j)))))] H → va_P (dC, dI) classes [(h1, .inr (1, [.long (lN (p * q)), .long (lN (p * q * (p * q))), .long (lN (sp_f p q)), .long (lN (sp_cex p q)), .int (nI bx), .int (nI cl), .int (nI cd), .int (nI rd), .ref q1])), (q1, .inl (cB, 30, .inr (.inl (fun j => lN (g j)))))] H → va_S (fun q => s.heap.size ≤ q) s.heap H locs → LI p q cx rd cl tt cd bx g → W pg l ev room_1 s mi #[Value.ref b] below meth co H locs 4 82 Q (F0 mi 905 ls [])) : W pg l ev room_1 s mi #[Value.ref b] below meth co H locs 4 82 Q (F0 mi 710 ls []) := by
  refine lv_aload_n hx hb d_L_law_710 rfl (lv_at hl 2 rfl) ?_
  refine lv_aload_n hx hb d_L_law_711 rfl (lv_at hl 3 rfl) ?_
  refine lv_iload_n hx hb d_L_law_712 rfl (lv_at hl 0 rfl) ?_
  refine lv_iconst (v := nI 1) hx hb d_L_law_713 (by decide) ?_
  refine lv_iadd hx hb d_L_law_714 ?_
  refine wk_i (y := nI (i + 1)) (nI_add i 1) ?_
  refine va_sld hx hb hX hbl (Nat.not_le.mpr hbl) hS (vp_in_nI (by omega) (by omega)) d_L_law_715 ?_
  refine wk_i (y := xs (i + 1)) (by rw [nI_clamp (by omega)]) ?_
  refine pu_l (va_runV (As := [.int (xs (i + 1))]) (rest := []) ⟨hx, hb, hml, hown, hts⟩ (c_X_ballot l dC dI h0 q0 cA p q cx rd cl tt (sp_cnt g 30) g (xs (i + 1)) hI.1 hI.2.1) (cwV 1 hts (al_V (k_X_ballot) (aw_t169) (aw_t170) (aw_t171) (aw_t1)) rfl rfl rfl (by decide +kernel) ⟨Nat.le_of_ble_eq_true rfl, Nat.le_of_ble_eq_true rfl⟩) (pu_preV (q0 := 0) (ci := 0) hKX hPX rfl rfl) rfl rfl hl.1 rfl (lv_room (Nat.le_of_ble_eq_true rfl)) d_L_law_716 ⟨Nat.le_of_ble_eq_true rfl, Nat.le_of_ble_eq_true rfl⟩) hS (fun H locs hkp hS => ?_)
  have hPX := hkp _ _ _ hPX
  have hPM := hkp _ _ _ hPM
  refine lv_aload_n hx hb d_L_law_719 rfl (lv_at hl 1 rfl) ?_
  refine lv_aload_n hx hb d_L_law_720 rfl (lv_at hl 3 rfl) ?_
  refine lv_iload_n hx hb d_L_law_721 rfl (lv_at hl 0 rfl) ?_
  refine lv_iconst (v := nI 1) hx hb d_L_law_722 (by decide) ?_
  refine lv_iadd hx hb d_L_law_723 ?_
  refine wk_i (y := nI (i + 1)) (nI_add i 1) ?_
  refine va_sld hx hb hX hbl (Nat.not_le.mpr hbl) hS (vp_in_nI (by omega) (by omega)) d_L_law_724 ?_
  refine wk_i (y := xs (i + 1)) (by rw [nI_clamp (by omega)]) ?_
  refine pu_l (va_runV (As := [.int (xs (i + 1))]) (rest := [.long (an_ballot cx g (xs (i + 1)))]) ⟨hx, hb, hml, hown, hts⟩ (c_M_ballot l dC dI h1 q1 cB p q bx cl cd rd g (xs (i + 1)) cx hI.1 hI.2.1 hI.2.2.2.2.1 hI.2.2.2.2.2.1 hI.2.2.2.2.2.2 hI.2.2.1) (cwV 1 hts (al_V (k_M_ballot) (aw_t326) (aw_t327) (aw_t328) (aw_t2)) rfl rfl rfl (by decide +kernel) ⟨Nat.le_of_ble_eq_true rfl, Nat.le_of_ble_eq_true rfl⟩) (pu_preV (q0 := 0) (ci := 1) hKM hPM rfl rfl) rfl rfl hl.1 rfl (lv_room (Nat.le_of_ble_eq_true rfl)) d_L_law_725 ⟨Nat.le_of_ble_eq_true rfl, Nat.le_of_ble_eq_true rfl⟩) hS (fun H locs hkp hS => ?_)
  have hPX := hkp _ _ _ hPX
  have hPM := hkp _ _ _ hPM
  refine W.lcmp hx hb d_L_law_728 ?_
  refine lv_if_eq (tgt := 905) hx hb d_L_law_729 (by decide) (fun hc729 => ?_) (fun hc729 => ?_)
  · skip
    rw [lg_cmp_eq] at hc729
    exact kk p q cx rd cl tt cd bx g H locs hPX hPM hS (hI)
  · skip
    rw [lg_cmp_eq] at hc729
    exact absurd rfl hc729
end
section
set_option maxHeartbeats 4000000 in
set_option maxRecDepth 100000 in
theorem ls_12 {pg : Program} {l : Launch} {ev : Env} {s : State} {mi : MethodId} {below : List Frame} {meth : Method} {co : Code} {b L : Nat} {xs : Nat → Int32} {H : Heap} {locs : List Loc} {Q : State → Prop} {dC : Nat → ClassId} {dI : Nat → Nat → Nat} {h0 q0 h1 q1 : Nat} {cA cB : ClassId} {w0 : Cond} {i p q cx rd cl tt cd bx : Nat} {g : Nat → Nat} {ls : Array Slot} (hx : pg.tables.exec = Jvm.exec) (hb : co.code = code) (hml : co.maxLocals = 4) (hown : s.vm.findClass R_L = some mi.cls) (hts : ∀ w ∈ w0 :: al_w, w.before #[Value.ref b] s = true) (hX : va_X b L xs s s.heap) (hbl : b < s.heap.size) (hKX : va_K (dC, dI) classes [(cA, .long)] s) (hKM : va_K (dC, dI) classes [(cB, .long)] s) (hap : lw_ap s.heap.size h0 q0 h1 q1) (hL : L ≤ 2560) (hi : i + 5 ≤ L) (hI : LI p q cx rd cl tt cd bx g) (hl : lv_has ls 4 [(3, .int (nI i)), (2, .ref h1), (1, .ref h0), (0, .ref b)]) (hPX : va_P (dC, dI) classes [(h0, .inr (0, [.int (nI p), .int (nI q), .int (nI (p * q)), .long (lN (p * q * (p * q))), .long (lN (sp_f p q)), .long (lN (sp_inv p q)), .long (lN (sp_cex p q)), .int (nI cx), .int (nI rd), .int (nI cl), .long (lN tt), .int (nI (sp_cnt g 30)), .ref q0])), (q0, .inl (cA, 30, .inr (.inl (fun j => lN (g j)))))] H) (hPM : va_P (dC, dI) classes [(h1, .inr (1, [.long (lN (p * q)), .long (lN (p * q * (p * q))), .long (lN (sp_f p q)), .long (lN (sp_cex p q)), .int (nI bx), .int (nI cl), .int (nI cd), .int (nI rd), .ref q1])), (q1, .inl (cB, 30, .inr (.inl (fun j => lN (g j)))))] H) (hS : va_S (fun q => s.heap.size ≤ q) s.heap H locs) (kk : ∀ (p q cx rd cl tt cd bx : Nat) (g : Nat → Nat) (H : Heap) (locs : List Loc), va_P (dC, dI) classes [(h0, .inr (0, [.int (nI p), .int (nI q), .int (nI (p * q)), .long (lN (p * q * (p * q))), .long (lN (sp_f p q)), .long (lN (sp_inv p q)), .long (lN (sp_cex p q)), .int (nI cx), .int (nI rd), .int (nI cl), .long (lN tt), .int (nI (sp_cnt g 30)), .ref q0])), (q0, .inl (cA, 30, .inr (.inl (fun j => lN (g j)))))] H → va_P (dC, dI) classes [(h1, .inr (1, [.long (lN (p * q)), .long (lN (p * q * (p * q))), .long (lN (sp_f p q)), .long (lN (sp_cex p q)), .int (nI bx), .int (nI cl), .int (nI cd), .int (nI rd), .ref q1])), (q1, .inl (cB, 30, .inr (.inl (fun j => lN (g j)))))] H → va_S (fun q => s.heap.size ≤ q) s.heap H locs → LI p q cx rd cl tt cd bx g → W pg l ev room_1 s mi #[Value.ref b] below meth co H locs 4 82 Q (F0 mi 905 ls [])) : W pg l ev room_1 s mi #[Value.ref b] below meth co H locs 4 82 Q (F0 mi 734 ls []) := by
  refine lv_aload_n hx hb d_L_law_734 rfl (lv_at hl 2 rfl) ?_
  refine pu_i (va_runV (As := []) (rest := []) ⟨hx, hb, hml, hown, hts⟩ (c_X_ballots l dC dI h0 q0 cA p q cx rd cl tt (sp_cnt g 30) g  hI.1 rfl) (cwV 0 hts (al_V (k_X_ballots) (aw_t173) (aw_t174) (aw_t175) (aw_t1)) rfl rfl rfl (by decide +kernel) ⟨Nat.le_of_ble_eq_true rfl, Nat.le_of_ble_eq_true rfl⟩) (pu_preV (q0 := 0) (ci := 0) hKX hPX rfl rfl) rfl rfl hl.1 rfl (lv_room (Nat.le_of_ble_eq_true rfl)) d_L_law_735 ⟨Nat.le_of_ble_eq_true rfl, Nat.le_of_ble_eq_true rfl⟩) hS (fun H locs hkp hS => ?_)
  have hPX := hkp _ _ _ hPX
  have hPM := hkp _ _ _ hPM
  refine lv_aload_n hx hb d_L_law_738 rfl (lv_at hl 1 rfl) ?_
  refine pu_i (va_runV (As := []) (rest := [.int (an_ballots cx g)]) ⟨hx, hb, hml, hown, hts⟩ (c_M_ballots l dC dI h1 q1 cB p q bx cl cd rd g  cx hI.1 hI.2.1 hI.2.2.2.2.1 hI.2.2.2.2.2.1 hI.2.2.2.2.2.2 hI.2.2.1) (cwV 0 hts (al_V (k_M_ballots) (aw_t330) (aw_t331) (aw_t332) (aw_t2)) rfl rfl rfl (by decide +kernel) ⟨Nat.le_of_ble_eq_true rfl, Nat.le_of_ble_eq_true rfl⟩) (pu_preV (q0 := 0) (ci := 1) hKM hPM rfl rfl) rfl rfl hl.1 rfl (lv_room (Nat.le_of_ble_eq_true rfl)) d_L_law_739 ⟨Nat.le_of_ble_eq_true rfl, Nat.le_of_ble_eq_true rfl⟩) hS (fun H locs hkp hS => ?_)
  have hPX := hkp _ _ _ hPX
  have hPM := hkp _ _ _ hPM
  refine lv_icmp_eq (tgt := 905) hx hb d_L_law_742 (by decide) (fun hc742 => ?_) (fun hc742 => ?_)
  · skip
    exact kk p q cx rd cl tt cd bx g H locs hPX hPM hS (hI)
  · skip
    exact absurd rfl hc742

set_option maxHeartbeats 4000000 in
set_option maxRecDepth 100000 in
theorem ls_13 {pg : Program} {l : Launch} {ev : Env} {s : State} {mi : MethodId} {below : List Frame} {meth : Method} {co : Code} {b L : Nat} {xs : Nat → Int32} {H : Heap} {locs : List Loc} {Q : State → Prop} {dC : Nat → ClassId} {dI : Nat → Nat → Nat} {h0 q0 h1 q1 : Nat} {cA cB : ClassId} {w0 : Cond} {i p q cx rd cl tt cd bx : Nat} {g : Nat → Nat} {ls : Array Slot} (hx : pg.tables.exec = Jvm.exec) (hb : co.code = code) (hml : co.maxLocals = 4) (hown : s.vm.findClass R_L = some mi.cls) (hts : ∀ w ∈ w0 :: al_w, w.before #[Value.ref b] s = true) (hX : va_X b L xs s s.heap) (hbl : b < s.heap.size) (hKX : va_K (dC, dI) classes [(cA, .long)] s) (hKM : va_K (dC, dI) classes [(cB, .long)] s) (hap : lw_ap s.heap.size h0 q0 h1 q1) (hL : L ≤ 2560) (hi : i + 5 ≤ L) (hI : LI p q cx rd cl tt cd bx g) (hl : lv_has ls 4 [(3, .int (nI i)), (2, .ref h1), (1, .ref h0), (0, .ref b)]) (hPX : va_P (dC, dI) classes [(h0, .inr (0, [.int (nI p), .int (nI q), .int (nI (p * q)), .long (lN (p * q * (p * q))), .long (lN (sp_f p q)), .long (lN (sp_inv p q)), .long (lN (sp_cex p q)), .int (nI cx), .int (nI rd), .int (nI cl), .long (lN tt), .int (nI (sp_cnt g 30)), .ref q0])), (q0, .inl (cA, 30, .inr (.inl (fun j => lN (g j)))))] H) (hPM : va_P (dC, dI) classes [(h1, .inr (1, [.long (lN (p * q)), .long (lN (p * q * (p * q))), .long (lN (sp_f p q)), .long (lN (sp_cex p q)), .int (nI bx), .int (nI cl), .int (nI cd), .int (nI rd), .ref q1])), (q1, .inl (cB, 30, .inr (.inl (fun j => lN (g j)))))] H) (hS : va_S (fun q => s.heap.size ≤ q) s.heap H locs) (kk : ∀ (p q cx rd cl tt cd bx : Nat) (g : Nat → Nat) (H : Heap) (locs : List Loc), va_P (dC, dI) classes [(h0, .inr (0, [.int (nI p), .int (nI q), .int (nI (p * q)), .long (lN (p * q * (p * q))), .long (lN (sp_f p q)), .long (lN (sp_inv p q)), .long (lN (sp_cex p q)), .int (nI cx), .int (nI rd), .int (nI cl), .long (lN tt), .int (nI (sp_cnt g 30)), .ref q0])), (q0, .inl (cA, 30, .inr (.inl (fun j => lN (g j)))))] H → va_P (dC, dI) classes [(h1, .inr (1, [.long (lN (p * q)), .long (lN (p * q * (p * q))), .long (lN (sp_f p q)), .long (lN (sp_cex p q)), .int (nI bx), .int (nI cl), .int (nI cd), .int (nI rd), .ref q1])), (q1, .inl (cB, 30, .inr (.inl (fun j => lN (g j)))))] H → va_S (fun q => s.heap.size ≤ q) s.heap H locs → LI p q cx rd cl tt cd bx g → W pg l ev room_1 s mi #[Value.ref b] below meth co H locs 4 82 Q (F0 mi 905 ls [])) : W pg l ev room_1 s mi #[Value.ref b] below meth co H locs 4 82 Q (F0 mi 747 ls []) := by
  refine lv_aload_n hx hb d_L_law_747 rfl (lv_at hl 2 rfl) ?_
  refine pu_l (va_runV (As := []) (rest := []) ⟨hx, hb, hml, hown, hts⟩ (c_X_sum l dC dI h0 q0 cA p q cx rd cl tt (sp_cnt g 30) g  hI.1 hI.2.1) (cwV 0 hts (al_V (k_X_sum) (aw_t177) (aw_t178) (aw_t179) (aw_t1)) rfl rfl rfl (by decide +kernel) ⟨Nat.le_of_ble_eq_true rfl, Nat.le_of_ble_eq_true rfl⟩) (pu_preV (q0 := 0) (ci := 0) hKX hPX rfl rfl) rfl rfl hl.1 rfl (lv_room (Nat.le_of_ble_eq_true rfl)) d_L_law_748 ⟨Nat.le_of_ble_eq_true rfl, Nat.le_of_ble_eq_true rfl⟩) hS (fun H locs hkp hS => ?_)
  have hPX := hkp _ _ _ hPX
  have hPM := hkp _ _ _ hPM
  refine lv_aload_n hx hb d_L_law_751 rfl (lv_at hl 1 rfl) ?_
  refine pu_l (va_runV (As := []) (rest := [.long (an_sum p q cx g)]) ⟨hx, hb, hml, hown, hts⟩ (c_M_sum l dC dI h1 q1 cB p q bx cl cd rd g  cx hI.1 hI.2.1 hI.2.2.2.2.1 hI.2.2.2.2.2.1 hI.2.2.2.2.2.2 hI.2.2.1) (cwV 0 hts (al_V (k_M_sum) (aw_t334) (aw_t335) (aw_t336) (aw_t2)) rfl rfl rfl (by decide +kernel) ⟨Nat.le_of_ble_eq_true rfl, Nat.le_of_ble_eq_true rfl⟩) (pu_preV (q0 := 0) (ci := 1) hKM hPM rfl rfl) rfl rfl hl.1 rfl (lv_room (Nat.le_of_ble_eq_true rfl)) d_L_law_752 ⟨Nat.le_of_ble_eq_true rfl, Nat.le_of_ble_eq_true rfl⟩) hS (fun H locs hkp hS => ?_)
  have hPX := hkp _ _ _ hPX
  have hPM := hkp _ _ _ hPM
  refine W.lcmp hx hb d_L_law_755 ?_
  refine lv_if_eq (tgt := 905) hx hb d_L_law_756 (by decide) (fun hc756 => ?_) (fun hc756 => ?_)
  · skip
    rw [lg_cmp_eq] at hc756
    exact kk p q cx rd cl tt cd bx g H locs hPX hPM hS (hI)
  · skip
    rw [lg_cmp_eq] at hc756
    exact absurd rfl hc756

set_option maxHeartbeats 4000000 in
set_option maxRecDepth 100000 in
theorem ls_14 {pg : Program} {l : Launch} {ev : Env} {s : State} {mi : MethodId} {below : List Frame} {meth : Method} {co : Code} {b L : Nat} {xs : Nat → Int32} {H : Heap} {locs : List Loc} {Q : State → Prop} {dC : Nat → ClassId} {dI : Nat → Nat → Nat} {h0 q0 h1 q1 : Nat} {cA cB : ClassId} {w0 : Cond} {i p q cx rd cl tt cd bx : Nat} {g : Nat → Nat} {ls : Array Slot} (hx : pg.tables.exec = Jvm.exec) (hb : co.code = code) (hml : co.maxLocals = 4) (hown : s.vm.findClass R_L = some mi.cls) (hts : ∀ w ∈ w0 :: al_w, w.before #[Value.ref b] s = true) (hX : va_X b L xs s s.heap) (hbl : b < s.heap.size) (hKX : va_K (dC, dI) classes [(cA, .long)] s) (hKM : va_K (dC, dI) classes [(cB, .long)] s) (hap : lw_ap s.heap.size h0 q0 h1 q1) (hL : L ≤ 2560) (hi : i + 5 ≤ L) (hI : LI p q cx rd cl tt cd bx g) (hl : lv_has ls 4 [(3, .int (nI i)), (2, .ref h1), (1, .ref h0), (0, .ref b)]) (hPX : va_P (dC, dI) classes [(h0, .inr (0, [.int (nI p), .int (nI q), .int (nI (p * q)), .long (lN (p * q * (p * q))), .long (lN (sp_f p q)), .long (lN (sp_inv p q)), .long (lN (sp_cex p q)), .int (nI cx), .int (nI rd), .int (nI cl), .long (lN tt), .int (nI (sp_cnt g 30)), .ref q0])), (q0, .inl (cA, 30, .inr (.inl (fun j => lN (g j)))))] H) (hPM : va_P (dC, dI) classes [(h1, .inr (1, [.long (lN (p * q)), .long (lN (p * q * (p * q))), .long (lN (sp_f p q)), .long (lN (sp_cex p q)), .int (nI bx), .int (nI cl), .int (nI cd), .int (nI rd), .ref q1])), (q1, .inl (cB, 30, .inr (.inl (fun j => lN (g j)))))] H) (hS : va_S (fun q => s.heap.size ≤ q) s.heap H locs) (kk : ∀ (p q cx rd cl tt cd bx : Nat) (g : Nat → Nat) (H : Heap) (locs : List Loc), va_P (dC, dI) classes [(h0, .inr (0, [.int (nI p), .int (nI q), .int (nI (p * q)), .long (lN (p * q * (p * q))), .long (lN (sp_f p q)), .long (lN (sp_inv p q)), .long (lN (sp_cex p q)), .int (nI cx), .int (nI rd), .int (nI cl), .long (lN tt), .int (nI (sp_cnt g 30)), .ref q0])), (q0, .inl (cA, 30, .inr (.inl (fun j => lN (g j)))))] H → va_P (dC, dI) classes [(h1, .inr (1, [.long (lN (p * q)), .long (lN (p * q * (p * q))), .long (lN (sp_f p q)), .long (lN (sp_cex p q)), .int (nI bx), .int (nI cl), .int (nI cd), .int (nI rd), .ref q1])), (q1, .inl (cB, 30, .inr (.inl (fun j => lN (g j)))))] H → va_S (fun q => s.heap.size ≤ q) s.heap H locs → LI p q cx rd cl tt cd bx g → W pg l ev room_1 s mi #[Value.ref b] below meth co H locs 4 82 Q (F0 mi 905 ls [])) : W pg l ev room_1 s mi #[Value.ref b] below meth co H locs 4 82 Q (F0 mi 761 ls []) := by
  refine lv_aload_n hx hb d_L_law_761 rfl (lv_at hl 2 rfl) ?_
  refine mu_l (wo := _) (va_runV (As := []) (rest := []) ⟨hx, hb, hml, hown, hts⟩ (c_X_close l dC dI h0 q0 cA p q cx rd cl tt (sp_cnt g 30) g  hI.1 hI.2.2.1 hap.2.2.2.2.1) (cwV 0 hts (al_V (k_X_close) (aw_t185) (aw_t186) (aw_t187) (aw_t1)) rfl rfl rfl (by decide +kernel) ⟨Nat.le_of_ble_eq_true rfl, Nat.le_of_ble_eq_true rfl⟩) (pu_preV (q0 := 0) (ci := 0) hKX hPX rfl rfl) rfl rfl hl.1 rfl (lv_room (Nat.le_of_ble_eq_true rfl)) d_L_law_762 ⟨Nat.le_of_ble_eq_true rfl, Nat.le_of_ble_eq_true rfl⟩) hS hap.1 hap.2.1 (mu_o2 ⟨Ne.symm hap.2.2.2.2.2.1, Ne.symm hap.2.2.2.2.2.2.2.1⟩ ⟨Ne.symm hap.2.2.2.2.2.2.1, Ne.symm hap.2.2.2.2.2.2.2.2.1⟩) hPM (fun H locs hPX hPM hS => ?_)
  refine lv_aload_n hx hb d_L_law_765 rfl (lv_at hl 1 rfl) ?_
  refine mu_l (wo := _) (va_runV (As := []) (rest := [.long (an_close p q cx cl g)]) ⟨hx, hb, hml, hown, hts⟩ (c_M_close l dC dI h1 q1 cB p q bx cl cd rd g  cx hI.1 hI.2.1 hI.2.2.2.2.1 hI.2.2.2.2.2.1 hI.2.2.1 hap.2.2.2.2.2.2.2.2.2) (cwV 0 hts (al_V (k_M_close) (aw_t342) (aw_t343) (aw_t344) (aw_t2)) rfl rfl rfl (by decide +kernel) ⟨Nat.le_of_ble_eq_true rfl, Nat.le_of_ble_eq_true rfl⟩) (pu_preV (q0 := 0) (ci := 1) hKM hPM rfl rfl) rfl rfl hl.1 rfl (lv_room (Nat.le_of_ble_eq_true rfl)) d_L_law_766 ⟨Nat.le_of_ble_eq_true rfl, Nat.le_of_ble_eq_true rfl⟩) hS hap.2.2.1 hap.2.2.2.1 (mu_o2 ⟨hap.2.2.2.2.2.1, hap.2.2.2.2.2.2.1⟩ ⟨hap.2.2.2.2.2.2.2.1, hap.2.2.2.2.2.2.2.2.1⟩) hPX (fun H locs hPM hPX hS => ?_)
  refine W.lcmp hx hb d_L_law_769 ?_
  refine lv_if_eq (tgt := 905) hx hb d_L_law_770 (by decide) (fun hc770 => ?_) (fun hc770 => ?_)
  · skip
    rw [lg_cmp_eq] at hc770
    exact kk p q cx rd (sel (decide (cx = 0)) cl 1) (sel (decide (cx = 0 ∨ cl = 1)) tt (sp_msg p q (sp_prod g 30 % sq_ p q))) cd bx g H locs hPX hPM hS (li_close hI)
  · skip
    rw [lg_cmp_eq] at hc770
    exact absurd rfl hc770

set_option maxHeartbeats 4000000 in
set_option maxRecDepth 100000 in
theorem ls_15 {pg : Program} {l : Launch} {ev : Env} {s : State} {mi : MethodId} {below : List Frame} {meth : Method} {co : Code} {b L : Nat} {xs : Nat → Int32} {H : Heap} {locs : List Loc} {Q : State → Prop} {dC : Nat → ClassId} {dI : Nat → Nat → Nat} {h0 q0 h1 q1 : Nat} {cA cB : ClassId} {w0 : Cond} {i p q cx rd cl tt cd bx : Nat} {g : Nat → Nat} {ls : Array Slot} (hx : pg.tables.exec = Jvm.exec) (hb : co.code = code) (hml : co.maxLocals = 4) (hown : s.vm.findClass R_L = some mi.cls) (hts : ∀ w ∈ w0 :: al_w, w.before #[Value.ref b] s = true) (hX : va_X b L xs s s.heap) (hbl : b < s.heap.size) (hKX : va_K (dC, dI) classes [(cA, .long)] s) (hKM : va_K (dC, dI) classes [(cB, .long)] s) (hap : lw_ap s.heap.size h0 q0 h1 q1) (hL : L ≤ 2560) (hi : i + 5 ≤ L) (hI : LI p q cx rd cl tt cd bx g) (hl : lv_has ls 4 [(3, .int (nI i)), (2, .ref h1), (1, .ref h0), (0, .ref b)]) (hPX : va_P (dC, dI) classes [(h0, .inr (0, [.int (nI p), .int (nI q), .int (nI (p * q)), .long (lN (p * q * (p * q))), .long (lN (sp_f p q)), .long (lN (sp_inv p q)), .long (lN (sp_cex p q)), .int (nI cx), .int (nI rd), .int (nI cl), .long (lN tt), .int (nI (sp_cnt g 30)), .ref q0])), (q0, .inl (cA, 30, .inr (.inl (fun j => lN (g j)))))] H) (hPM : va_P (dC, dI) classes [(h1, .inr (1, [.long (lN (p * q)), .long (lN (p * q * (p * q))), .long (lN (sp_f p q)), .long (lN (sp_cex p q)), .int (nI bx), .int (nI cl), .int (nI cd), .int (nI rd), .ref q1])), (q1, .inl (cB, 30, .inr (.inl (fun j => lN (g j)))))] H) (hS : va_S (fun q => s.heap.size ≤ q) s.heap H locs) (kk : ∀ (p q cx rd cl tt cd bx : Nat) (g : Nat → Nat) (H : Heap) (locs : List Loc), va_P (dC, dI) classes [(h0, .inr (0, [.int (nI p), .int (nI q), .int (nI (p * q)), .long (lN (p * q * (p * q))), .long (lN (sp_f p q)), .long (lN (sp_inv p q)), .long (lN (sp_cex p q)), .int (nI cx), .int (nI rd), .int (nI cl), .long (lN tt), .int (nI (sp_cnt g 30)), .ref q0])), (q0, .inl (cA, 30, .inr (.inl (fun j => lN (g j)))))] H → va_P (dC, dI) classes [(h1, .inr (1, [.long (lN (p * q)), .long (lN (p * q * (p * q))), .long (lN (sp_f p q)), .long (lN (sp_cex p q)), .int (nI bx), .int (nI cl), .int (nI cd), .int (nI rd), .ref q1])), (q1, .inl (cB, 30, .inr (.inl (fun j => lN (g j)))))] H → va_S (fun q => s.heap.size ≤ q) s.heap H locs → LI p q cx rd cl tt cd bx g → W pg l ev room_1 s mi #[Value.ref b] below meth co H locs 4 82 Q (F0 mi 905 ls [])) : W pg l ev room_1 s mi #[Value.ref b] below meth co H locs 4 82 Q (F0 mi 775 ls []) := by
  refine lv_aload_n hx hb d_L_law_775 rfl (lv_at hl 2 rfl) ?_
  refine lv_aload_n hx hb d_L_law_776 rfl (lv_at hl 3 rfl) ?_
  refine lv_iload_n hx hb d_L_law_777 rfl (lv_at hl 0 rfl) ?_
  refine lv_iconst (v := nI 1) hx hb d_L_law_778 (by decide) ?_
  refine lv_iadd hx hb d_L_law_779 ?_
  refine wk_i (y := nI (i + 1)) (nI_add i 1) ?_
  refine va_sld hx hb hX hbl (Nat.not_le.mpr hbl) hS (vp_in_nI (by omega) (by omega)) d_L_law_780 ?_
  refine wk_i (y := xs (i + 1)) (by rw [nI_clamp (by omega)]) ?_
  refine pu_i (va_runV (As := [.int (xs (i + 1))]) (rest := []) ⟨hx, hb, hml, hown, hts⟩ (c_X_votes l dC dI h0 q0 cA p q cx rd cl tt (sp_cnt g 30) g (xs (i + 1)) hI.1 hI.2.1 hI.2.2.1 hI.2.2.2.1) (cwV 1 hts (al_V (k_X_votes) (aw_t189) (aw_t190) (aw_t191) (aw_t1)) rfl rfl rfl (by decide +kernel) ⟨Nat.le_of_ble_eq_true rfl, Nat.le_of_ble_eq_true rfl⟩) (pu_preV (q0 := 0) (ci := 0) hKX hPX rfl rfl) rfl rfl hl.1 rfl (lv_room (Nat.le_of_ble_eq_true rfl)) d_L_law_781 ⟨Nat.le_of_ble_eq_true rfl, Nat.le_of_ble_eq_true rfl⟩) hS (fun H locs hkp hS => ?_)
  have hPX := hkp _ _ _ hPX
  have hPM := hkp _ _ _ hPM
  refine lv_aload_n hx hb d_L_law_784 rfl (lv_at hl 1 rfl) ?_
  refine lv_aload_n hx hb d_L_law_785 rfl (lv_at hl 3 rfl) ?_
  refine lv_iload_n hx hb d_L_law_786 rfl (lv_at hl 0 rfl) ?_
  refine lv_iconst (v := nI 1) hx hb d_L_law_787 (by decide) ?_
  refine lv_iadd hx hb d_L_law_788 ?_
  refine wk_i (y := nI (i + 1)) (nI_add i 1) ?_
  refine va_sld hx hb hX hbl (Nat.not_le.mpr hbl) hS (vp_in_nI (by omega) (by omega)) d_L_law_789 ?_
  refine wk_i (y := xs (i + 1)) (by rw [nI_clamp (by omega)]) ?_
  refine pu_i (va_runV (As := [.int (xs (i + 1))]) (rest := [.int (an_votes p q cx rd cl g (xs (i + 1)))]) ⟨hx, hb, hml, hown, hts⟩ (c_M_votes l dC dI h1 q1 cB p q bx cl cd rd g (xs (i + 1)) cx hI.1 hI.2.1 hI.2.2.2.2.1 hI.2.2.2.2.2.1 hI.2.2.2.2.2.2 hI.2.2.1) (cwV 1 hts (al_V (k_M_votes) (aw_t346) (aw_t347) (aw_t348) (aw_t2)) rfl rfl rfl (by decide +kernel) ⟨Nat.le_of_ble_eq_true rfl, Nat.le_of_ble_eq_true rfl⟩) (pu_preV (q0 := 0) (ci := 1) hKM hPM rfl rfl) rfl rfl hl.1 rfl (lv_room (Nat.le_of_ble_eq_true rfl)) d_L_law_790 ⟨Nat.le_of_ble_eq_true rfl, Nat.le_of_ble_eq_true rfl⟩) hS (fun H locs hkp hS => ?_)
  have hPX := hkp _ _ _ hPX
  have hPM := hkp _ _ _ hPM
  refine lv_icmp_eq (tgt := 905) hx hb d_L_law_793 (by decide) (fun hc793 => ?_) (fun hc793 => ?_)
  · skip
    exact kk p q cx rd cl tt cd bx g H locs hPX hPM hS (hI)
  · skip
    exact absurd rfl hc793

set_option maxHeartbeats 4000000 in
set_option maxRecDepth 100000 in
theorem ls_16 {pg : Program} {l : Launch} {ev : Env} {s : State} {mi : MethodId} {below : List Frame} {meth : Method} {co : Code} {b L : Nat} {xs : Nat → Int32} {H : Heap} {locs : List Loc} {Q : State → Prop} {dC : Nat → ClassId} {dI : Nat → Nat → Nat} {h0 q0 h1 q1 : Nat} {cA cB : ClassId} {w0 : Cond} {i p q cx rd cl tt cd bx : Nat} {g : Nat → Nat} {ls : Array Slot} (hx : pg.tables.exec = Jvm.exec) (hb : co.code = code) (hml : co.maxLocals = 4) (hown : s.vm.findClass R_L = some mi.cls) (hts : ∀ w ∈ w0 :: al_w, w.before #[Value.ref b] s = true) (hX : va_X b L xs s s.heap) (hbl : b < s.heap.size) (hKX : va_K (dC, dI) classes [(cA, .long)] s) (hKM : va_K (dC, dI) classes [(cB, .long)] s) (hap : lw_ap s.heap.size h0 q0 h1 q1) (hL : L ≤ 2560) (hi : i + 5 ≤ L) (hI : LI p q cx rd cl tt cd bx g) (hl : lv_has ls 4 [(3, .int (nI i)), (2, .ref h1), (1, .ref h0), (0, .ref b)]) (hPX : va_P (dC, dI) classes [(h0, .inr (0, [.int (nI p), .int (nI q), .int (nI (p * q)), .long (lN (p * q * (p * q))), .long (lN (sp_f p q)), .long (lN (sp_inv p q)), .long (lN (sp_cex p q)), .int (nI cx), .int (nI rd), .int (nI cl), .long (lN tt), .int (nI (sp_cnt g 30)), .ref q0])), (q0, .inl (cA, 30, .inr (.inl (fun j => lN (g j)))))] H) (hPM : va_P (dC, dI) classes [(h1, .inr (1, [.long (lN (p * q)), .long (lN (p * q * (p * q))), .long (lN (sp_f p q)), .long (lN (sp_cex p q)), .int (nI bx), .int (nI cl), .int (nI cd), .int (nI rd), .ref q1])), (q1, .inl (cB, 30, .inr (.inl (fun j => lN (g j)))))] H) (hS : va_S (fun q => s.heap.size ≤ q) s.heap H locs) (kk : ∀ (p q cx rd cl tt cd bx : Nat) (g : Nat → Nat) (H : Heap) (locs : List Loc), va_P (dC, dI) classes [(h0, .inr (0, [.int (nI p), .int (nI q), .int (nI (p * q)), .long (lN (p * q * (p * q))), .long (lN (sp_f p q)), .long (lN (sp_inv p q)), .long (lN (sp_cex p q)), .int (nI cx), .int (nI rd), .int (nI cl), .long (lN tt), .int (nI (sp_cnt g 30)), .ref q0])), (q0, .inl (cA, 30, .inr (.inl (fun j => lN (g j)))))] H → va_P (dC, dI) classes [(h1, .inr (1, [.long (lN (p * q)), .long (lN (p * q * (p * q))), .long (lN (sp_f p q)), .long (lN (sp_cex p q)), .int (nI bx), .int (nI cl), .int (nI cd), .int (nI rd), .ref q1])), (q1, .inl (cB, 30, .inr (.inl (fun j => lN (g j)))))] H → va_S (fun q => s.heap.size ≤ q) s.heap H locs → LI p q cx rd cl tt cd bx g → W pg l ev room_1 s mi #[Value.ref b] below meth co H locs 4 82 Q (F0 mi 905 ls [])) : W pg l ev room_1 s mi #[Value.ref b] below meth co H locs 4 82 Q (F0 mi 798 ls []) := by
  refine lv_aload_n hx hb d_L_law_798 rfl (lv_at hl 2 rfl) ?_
  refine pu_l (va_runV (As := []) (rest := []) ⟨hx, hb, hml, hown, hts⟩ (c_X_witness l dC dI h0 q0 cA p q cx rd cl tt (sp_cnt g 30) g  hI.1 hI.2.2.1) (cwV 0 hts (al_V (k_X_witness) (aw_t193) (aw_t194) (aw_t195) (aw_t1)) rfl rfl rfl (by decide +kernel) ⟨Nat.le_of_ble_eq_true rfl, Nat.le_of_ble_eq_true rfl⟩) (pu_preV (q0 := 0) (ci := 0) hKX hPX rfl rfl) rfl rfl hl.1 rfl (lv_room (Nat.le_of_ble_eq_true rfl)) d_L_law_799 ⟨Nat.le_of_ble_eq_true rfl, Nat.le_of_ble_eq_true rfl⟩) hS (fun H locs hkp hS => ?_)
  have hPX := hkp _ _ _ hPX
  have hPM := hkp _ _ _ hPM
  refine lv_aload_n hx hb d_L_law_802 rfl (lv_at hl 1 rfl) ?_
  refine pu_l (va_runV (As := []) (rest := [.long (an_witness p q cx cl g)]) ⟨hx, hb, hml, hown, hts⟩ (c_M_witness l dC dI h1 q1 cB p q bx cl cd rd g  cx hI.1 hI.2.1 hI.2.2.2.2.1 hI.2.2.2.2.2.1 hI.2.2.2.2.2.2 hI.2.2.1) (cwV 0 hts (al_V (k_M_witness) (aw_t350) (aw_t351) (aw_t352) (aw_t2)) rfl rfl rfl (by decide +kernel) ⟨Nat.le_of_ble_eq_true rfl, Nat.le_of_ble_eq_true rfl⟩) (pu_preV (q0 := 0) (ci := 1) hKM hPM rfl rfl) rfl rfl hl.1 rfl (lv_room (Nat.le_of_ble_eq_true rfl)) d_L_law_803 ⟨Nat.le_of_ble_eq_true rfl, Nat.le_of_ble_eq_true rfl⟩) hS (fun H locs hkp hS => ?_)
  have hPX := hkp _ _ _ hPX
  have hPM := hkp _ _ _ hPM
  refine W.lcmp hx hb d_L_law_806 ?_
  refine lv_if_eq (tgt := 905) hx hb d_L_law_807 (by decide) (fun hc807 => ?_) (fun hc807 => ?_)
  · skip
    rw [lg_cmp_eq] at hc807
    exact kk p q cx rd cl tt cd bx g H locs hPX hPM hS (hI)
  · skip
    rw [lg_cmp_eq] at hc807
    exact absurd rfl hc807

set_option maxHeartbeats 4000000 in
set_option maxRecDepth 100000 in
theorem ls_17 {pg : Program} {l : Launch} {ev : Env} {s : State} {mi : MethodId} {below : List Frame} {meth : Method} {co : Code} {b L : Nat} {xs : Nat → Int32} {H : Heap} {locs : List Loc} {Q : State → Prop} {dC : Nat → ClassId} {dI : Nat → Nat → Nat} {h0 q0 h1 q1 : Nat} {cA cB : ClassId} {w0 : Cond} {i p q cx rd cl tt cd bx : Nat} {g : Nat → Nat} {ls : Array Slot} (hx : pg.tables.exec = Jvm.exec) (hb : co.code = code) (hml : co.maxLocals = 4) (hown : s.vm.findClass R_L = some mi.cls) (hts : ∀ w ∈ w0 :: al_w, w.before #[Value.ref b] s = true) (hX : va_X b L xs s s.heap) (hbl : b < s.heap.size) (hKX : va_K (dC, dI) classes [(cA, .long)] s) (hKM : va_K (dC, dI) classes [(cB, .long)] s) (hap : lw_ap s.heap.size h0 q0 h1 q1) (hL : L ≤ 2560) (hi : i + 5 ≤ L) (hI : LI p q cx rd cl tt cd bx g) (hl : lv_has ls 4 [(3, .int (nI i)), (2, .ref h1), (1, .ref h0), (0, .ref b)]) (hPX : va_P (dC, dI) classes [(h0, .inr (0, [.int (nI p), .int (nI q), .int (nI (p * q)), .long (lN (p * q * (p * q))), .long (lN (sp_f p q)), .long (lN (sp_inv p q)), .long (lN (sp_cex p q)), .int (nI cx), .int (nI rd), .int (nI cl), .long (lN tt), .int (nI (sp_cnt g 30)), .ref q0])), (q0, .inl (cA, 30, .inr (.inl (fun j => lN (g j)))))] H) (hPM : va_P (dC, dI) classes [(h1, .inr (1, [.long (lN (p * q)), .long (lN (p * q * (p * q))), .long (lN (sp_f p q)), .long (lN (sp_cex p q)), .int (nI bx), .int (nI cl), .int (nI cd), .int (nI rd), .ref q1])), (q1, .inl (cB, 30, .inr (.inl (fun j => lN (g j)))))] H) (hS : va_S (fun q => s.heap.size ≤ q) s.heap H locs) (kk : ∀ (p q cx rd cl tt cd bx : Nat) (g : Nat → Nat) (H : Heap) (locs : List Loc), va_P (dC, dI) classes [(h0, .inr (0, [.int (nI p), .int (nI q), .int (nI (p * q)), .long (lN (p * q * (p * q))), .long (lN (sp_f p q)), .long (lN (sp_inv p q)), .long (lN (sp_cex p q)), .int (nI cx), .int (nI rd), .int (nI cl), .long (lN tt), .int (nI (sp_cnt g 30)), .ref q0])), (q0, .inl (cA, 30, .inr (.inl (fun j => lN (g j)))))] H → va_P (dC, dI) classes [(h1, .inr (1, [.long (lN (p * q)), .long (lN (p * q * (p * q))), .long (lN (sp_f p q)), .long (lN (sp_cex p q)), .int (nI bx), .int (nI cl), .int (nI cd), .int (nI rd), .ref q1])), (q1, .inl (cB, 30, .inr (.inl (fun j => lN (g j)))))] H → va_S (fun q => s.heap.size ≤ q) s.heap H locs → LI p q cx rd cl tt cd bx g → W pg l ev room_1 s mi #[Value.ref b] below meth co H locs 4 82 Q (F0 mi 905 ls [])) : W pg l ev room_1 s mi #[Value.ref b] below meth co H locs 4 82 Q (F0 mi 812 ls []) := by
  refine lv_aload_n hx hb d_L_law_812 rfl (lv_at hl 2 rfl) ?_
  refine lv_aload_n hx hb d_L_law_813 rfl (lv_at hl 3 rfl) ?_
  refine lv_iload_n hx hb d_L_law_814 rfl (lv_at hl 0 rfl) ?_
  refine lv_iconst (v := nI 1) hx hb d_L_law_815 (by decide) ?_
  refine lv_iadd hx hb d_L_law_816 ?_
  refine wk_i (y := nI (i + 1)) (nI_add i 1) ?_
  refine va_sld hx hb hX hbl (Nat.not_le.mpr hbl) hS (vp_in_nI (by omega) (by omega)) d_L_law_817 ?_
  refine wk_i (y := xs (i + 1)) (by rw [nI_clamp (by omega)]) ?_
  refine lv_i2l (v := Int32.toInt64 (xs (i + 1))) hx hb d_L_law_818 (rfl) ?_
  refine lv_bipush (v := nI 32) hx hb d_L_law_819 (by decide) ?_
  refine lv_lshl (v := (Int32.toInt64 (xs (i + 1))) <<< (Int32.toInt64 (nI 32) &&& 63)) hx hb d_L_law_821 (rfl) ?_
  refine lv_aload_n hx hb d_L_law_822 rfl (lv_at hl 3 rfl) ?_
  refine lv_iload_n hx hb d_L_law_823 rfl (lv_at hl 0 rfl) ?_
  refine lv_iconst (v := nI 2) hx hb d_L_law_824 (by decide) ?_
  refine lv_iadd hx hb d_L_law_825 ?_
  refine wk_i (y := nI (i + 2)) (nI_add i 2) ?_
  refine va_sld hx hb hX hbl (Nat.not_le.mpr hbl) hS (vp_in_nI (by omega) (by omega)) d_L_law_826 ?_
  refine wk_i (y := xs (i + 2)) (by rw [nI_clamp (by omega)]) ?_
  refine lv_i2l (v := Int32.toInt64 (xs (i + 2))) hx hb d_L_law_827 (rfl) ?_
  refine lv_ldc2 (v := lN 4294967295) hx hb hown (hts _ (al_m aw_t358)) d_L_law_828 ?_
  refine lv_land hx hb d_L_law_831 ?_
  refine lv_lor hx hb d_L_law_832 ?_
  refine wk_l (y := lb (xs (i + 1)) (xs (i + 2))) rfl ?_
  refine lv_aload_n hx hb d_L_law_833 rfl (lv_at hl 3 rfl) ?_
  refine lv_iload_n hx hb d_L_law_834 rfl (lv_at hl 0 rfl) ?_
  refine lv_iconst (v := nI 3) hx hb d_L_law_835 (by decide) ?_
  refine lv_iadd hx hb d_L_law_836 ?_
  refine wk_i (y := nI (i + 3)) (nI_add i 3) ?_
  refine va_sld hx hb hX hbl (Nat.not_le.mpr hbl) hS (vp_in_nI (by omega) (by omega)) d_L_law_837 ?_
  refine wk_i (y := xs (i + 3)) (by rw [nI_clamp (by omega)]) ?_
  refine lv_i2l (v := Int32.toInt64 (xs (i + 3))) hx hb d_L_law_838 (rfl) ?_
  refine lv_bipush (v := nI 32) hx hb d_L_law_839 (by decide) ?_
  refine lv_lshl (v := (Int32.toInt64 (xs (i + 3))) <<< (Int32.toInt64 (nI 32) &&& 63)) hx hb d_L_law_841 (rfl) ?_
  refine lv_aload_n hx hb d_L_law_842 rfl (lv_at hl 3 rfl) ?_
  refine lv_iload_n hx hb d_L_law_843 rfl (lv_at hl 0 rfl) ?_
  refine lv_iconst (v := nI 4) hx hb d_L_law_844 (by decide) ?_
  refine lv_iadd hx hb d_L_law_845 ?_
  refine wk_i (y := nI (i + 4)) (nI_add i 4) ?_
  refine va_sld hx hb hX hbl (Nat.not_le.mpr hbl) hS (vp_in_nI (by omega) (by omega)) d_L_law_846 ?_
  refine wk_i (y := xs (i + 4)) (by rw [nI_clamp (by omega)]) ?_
  refine lv_i2l (v := Int32.toInt64 (xs (i + 4))) hx hb d_L_law_847 (rfl) ?_
  refine lv_ldc2 (v := lN 4294967295) hx hb hown (hts _ (al_m aw_t358)) d_L_law_848 ?_
  refine lv_land hx hb d_L_law_851 ?_
  refine lv_lor hx hb d_L_law_852 ?_
  refine wk_l (y := lb (xs (i + 3)) (xs (i + 4))) rfl ?_
  refine pu_i (va_runV (As := [.long (lb (xs (i + 1)) (xs (i + 2))), .long (lb (xs (i + 3)) (xs (i + 4)))]) (rest := []) ⟨hx, hb, hml, hown, hts⟩ (c_X_check l dC dI h0 q0 cA p q cx rd cl tt (sp_cnt g 30) g (lb (xs (i + 1)) (xs (i + 2))) (lb (xs (i + 3)) (xs (i + 4))) hI.1 hI.2.1) (cwV 2 hts (al_V (k_X_check) (aw_t197) (aw_t198) (aw_t199) (aw_t1)) rfl rfl rfl (by decide +kernel) ⟨Nat.le_of_ble_eq_true rfl, Nat.le_of_ble_eq_true rfl⟩) (pu_preV (q0 := 0) (ci := 0) hKX hPX rfl rfl) rfl rfl hl.1 rfl (lv_room (Nat.le_of_ble_eq_true rfl)) d_L_law_853 ⟨Nat.le_of_ble_eq_true rfl, Nat.le_of_ble_eq_true rfl⟩) hS (fun H locs hkp hS => ?_)
  have hPX := hkp _ _ _ hPX
  have hPM := hkp _ _ _ hPM
  refine lv_aload_n hx hb d_L_law_856 rfl (lv_at hl 1 rfl) ?_
  refine lv_aload_n hx hb d_L_law_857 rfl (lv_at hl 3 rfl) ?_
  refine lv_iload_n hx hb d_L_law_858 rfl (lv_at hl 0 rfl) ?_
  refine lv_iconst (v := nI 1) hx hb d_L_law_859 (by decide) ?_
  refine lv_iadd hx hb d_L_law_860 ?_
  refine wk_i (y := nI (i + 1)) (nI_add i 1) ?_
  refine va_sld hx hb hX hbl (Nat.not_le.mpr hbl) hS (vp_in_nI (by omega) (by omega)) d_L_law_861 ?_
  refine wk_i (y := xs (i + 1)) (by rw [nI_clamp (by omega)]) ?_
  refine lv_i2l (v := Int32.toInt64 (xs (i + 1))) hx hb d_L_law_862 (rfl) ?_
  refine lv_bipush (v := nI 32) hx hb d_L_law_863 (by decide) ?_
  refine lv_lshl (v := (Int32.toInt64 (xs (i + 1))) <<< (Int32.toInt64 (nI 32) &&& 63)) hx hb d_L_law_865 (rfl) ?_
  refine lv_aload_n hx hb d_L_law_866 rfl (lv_at hl 3 rfl) ?_
  refine lv_iload_n hx hb d_L_law_867 rfl (lv_at hl 0 rfl) ?_
  refine lv_iconst (v := nI 2) hx hb d_L_law_868 (by decide) ?_
  refine lv_iadd hx hb d_L_law_869 ?_
  refine wk_i (y := nI (i + 2)) (nI_add i 2) ?_
  refine va_sld hx hb hX hbl (Nat.not_le.mpr hbl) hS (vp_in_nI (by omega) (by omega)) d_L_law_870 ?_
  refine wk_i (y := xs (i + 2)) (by rw [nI_clamp (by omega)]) ?_
  refine lv_i2l (v := Int32.toInt64 (xs (i + 2))) hx hb d_L_law_871 (rfl) ?_
  refine lv_ldc2 (v := lN 4294967295) hx hb hown (hts _ (al_m aw_t358)) d_L_law_872 ?_
  refine lv_land hx hb d_L_law_875 ?_
  refine lv_lor hx hb d_L_law_876 ?_
  refine wk_l (y := lb (xs (i + 1)) (xs (i + 2))) rfl ?_
  refine lv_aload_n hx hb d_L_law_877 rfl (lv_at hl 3 rfl) ?_
  refine lv_iload_n hx hb d_L_law_878 rfl (lv_at hl 0 rfl) ?_
  refine lv_iconst (v := nI 3) hx hb d_L_law_879 (by decide) ?_
  refine lv_iadd hx hb d_L_law_880 ?_
  refine wk_i (y := nI (i + 3)) (nI_add i 3) ?_
  refine va_sld hx hb hX hbl (Nat.not_le.mpr hbl) hS (vp_in_nI (by omega) (by omega)) d_L_law_881 ?_
  refine wk_i (y := xs (i + 3)) (by rw [nI_clamp (by omega)]) ?_
  refine lv_i2l (v := Int32.toInt64 (xs (i + 3))) hx hb d_L_law_882 (rfl) ?_
  refine lv_bipush (v := nI 32) hx hb d_L_law_883 (by decide) ?_
  refine lv_lshl (v := (Int32.toInt64 (xs (i + 3))) <<< (Int32.toInt64 (nI 32) &&& 63)) hx hb d_L_law_885 (rfl) ?_
  refine lv_aload_n hx hb d_L_law_886 rfl (lv_at hl 3 rfl) ?_
  refine lv_iload_n hx hb d_L_law_887 rfl (lv_at hl 0 rfl) ?_
  refine lv_iconst (v := nI 4) hx hb d_L_law_888 (by decide) ?_
  refine lv_iadd hx hb d_L_law_889 ?_
  refine wk_i (y := nI (i + 4)) (nI_add i 4) ?_
  refine va_sld hx hb hX hbl (Nat.not_le.mpr hbl) hS (vp_in_nI (by omega) (by omega)) d_L_law_890 ?_
  refine wk_i (y := xs (i + 4)) (by rw [nI_clamp (by omega)]) ?_
  refine lv_i2l (v := Int32.toInt64 (xs (i + 4))) hx hb d_L_law_891 (rfl) ?_
  refine lv_ldc2 (v := lN 4294967295) hx hb hown (hts _ (al_m aw_t358)) d_L_law_892 ?_
  refine lv_land hx hb d_L_law_895 ?_
  refine lv_lor hx hb d_L_law_896 ?_
  refine wk_l (y := lb (xs (i + 3)) (xs (i + 4))) rfl ?_
  refine pu_i (va_runV (As := [.long (lb (xs (i + 1)) (xs (i + 2))), .long (lb (xs (i + 3)) (xs (i + 4)))]) (rest := [.int (bI (an_check p q cx g (lb (xs (i + 1)) (xs (i + 2))) (lb (xs (i + 3)) (xs (i + 4)))))]) ⟨hx, hb, hml, hown, hts⟩ (c_M_check l dC dI h1 q1 cB p q bx cl cd rd g (lb (xs (i + 1)) (xs (i + 2))) (lb (xs (i + 3)) (xs (i + 4))) cx hI.1 hI.2.1 hI.2.2.2.2.1 hI.2.2.2.2.2.1 hI.2.2.2.2.2.2 hI.2.2.1) (cwV 2 hts (al_V (k_M_check) (aw_t354) (aw_t355) (aw_t356) (aw_t2)) rfl rfl rfl (by decide +kernel) ⟨Nat.le_of_ble_eq_true rfl, Nat.le_of_ble_eq_true rfl⟩) (pu_preV (q0 := 0) (ci := 1) hKM hPM rfl rfl) rfl rfl hl.1 rfl (lv_room (Nat.le_of_ble_eq_true rfl)) d_L_law_897 ⟨Nat.le_of_ble_eq_true rfl, Nat.le_of_ble_eq_true rfl⟩) hS (fun H locs hkp hS => ?_)
  have hPX := hkp _ _ _ hPX
  have hPM := hkp _ _ _ hPM
  refine lv_icmp_eq (tgt := 905) hx hb d_L_law_900 (by decide) (fun hc900 => ?_) (fun hc900 => ?_)
  · skip
    exact kk p q cx rd cl tt cd bx g H locs hPX hPM hS (hI)
  · skip
    exact absurd rfl hc900
end
section
theorem lw_le {L i : Nat} (hL : L ≤ 2560) (hi : i ≤ L) (h : ¬ Int32.ofNat L - nI 5 < nI i) : i + 5 ≤ L := by
  rw [Int32.lt_iff_toInt_lt, show (Int32.ofNat L - nI 5 : Int32) = nI L - nI 5 from rfl, pk_sub_toInt (by omega) (by omega), nI_toInt (by omega)] at h
  omega
set_option maxHeartbeats 4000000 in
set_option maxRecDepth 100000 in
theorem lw_lp {pg : Program} {l : Launch} {ev : Env} {s : State} {mi : MethodId} {below : List Frame} {meth : Method} {co : Code} {b L : Nat} {xs : Nat → Int32} {Q : State → Prop} {dC : Nat → ClassId} {dI : Nat → Nat → Nat} {h0 q0 h1 q1 : Nat} {cA cB : ClassId} {w0 : Cond} (hx : pg.tables.exec = Jvm.exec) (hb : co.code = code) (hml : co.maxLocals = 4) (hown : s.vm.findClass R_L = some mi.cls) (hts : ∀ w ∈ w0 :: al_w, w.before #[Value.ref b] s = true) (hX : va_X b L xs s s.heap) (hbl : b < s.heap.size) (hKX : va_K (dC, dI) classes [(cA, .long)] s) (hKM : va_K (dC, dI) classes [(cB, .long)] s) (hap : lw_ap s.heap.size h0 q0 h1 q1) (hL : L ≤ 2560) (kend : ∀ (H : Heap) (locs : List Loc) (ls : Array Slot), va_S (fun q => s.heap.size ≤ q) s.heap H locs → W pg l ev room_1 s mi #[Value.ref b] below meth co H locs 4 82 Q (F0 mi 911 ls [])) : ∀ (mz : Nat) (i p q cx rd cl tt cd bx : Nat) (g : Nat → Nat) (H : Heap) (locs : List Loc) (ls : Array Slot), lv_has ls 4 [(3, .int (nI i)), (2, .ref h1), (1, .ref h0), (0, .ref b)] → va_P (dC, dI) classes [(h0, .inr (0, [.int (nI p), .int (nI q), .int (nI (p * q)), .long (lN (p * q * (p * q))), .long (lN (sp_f p q)), .long (lN (sp_inv p q)), .long (lN (sp_cex p q)), .int (nI cx), .int (nI rd), .int (nI cl), .long (lN tt), .int (nI (sp_cnt g 30)), .ref q0])), (q0, .inl (cA, 30, .inr (.inl (fun j => lN (g j)))))] H → va_P (dC, dI) classes [(h1, .inr (1, [.long (lN (p * q)), .long (lN (p * q * (p * q))), .long (lN (sp_f p q)), .long (lN (sp_cex p q)), .int (nI bx), .int (nI cl), .int (nI cd), .int (nI rd), .ref q1])), (q1, .inl (cB, 30, .inr (.inl (fun j => lN (g j)))))] H → va_S (fun q => s.heap.size ≤ q) s.heap H locs → LI p q cx rd cl tt cd bx g → i ≤ L → L - i = mz → W pg l ev room_1 s mi #[Value.ref b] below meth co H locs 4 82 Q (F0 mi 18 ls []) := by
  intro mz
  induction mz using Nat.strongRecOn with
  | ind mz ih =>
    intro i p q cx rd cl tt cd bx g H locs ls hl hPX hPM hS hI hiL hk
    subst hk
    refine lv_iload_n hx hb d_L_law_18 rfl (lv_at hl 0 rfl) ?_
    refine lv_aload_n hx hb d_L_law_19 rfl (lv_at hl 3 rfl) ?_
    refine va_slen hx hb hX hbl (Nat.not_le.mpr hbl) hS d_L_law_20 ?_
    refine lv_iconst (v := nI 5) hx hb d_L_law_21 (by decide) ?_
    refine lv_isub hx hb d_L_law_22 ?_
    refine lv_icmp_gt (tgt := 911) hx hb d_L_law_23 (by decide) (fun hc => ?_) (fun hc => ?_)
    · exact kend H locs ls hS
    · have hi : i + 5 ≤ L := lw_le hL hiL hc
      refine lv_aload_n hx hb d_L_law_26 rfl (lv_at hl 3 rfl) ?_
      refine lv_iload_n hx hb d_L_law_27 rfl (lv_at hl 0 rfl) ?_
      refine va_sld hx hb hX hbl (Nat.not_le.mpr hbl) hS (vp_in_nI (by omega) (by omega)) d_L_law_28 ?_
      refine lv_bipush (v := nI 31) hx hb d_L_law_29 (by decide) ?_
      refine lv_iand hx hb d_L_law_31 ?_
      obtain ⟨j, hj, ej⟩ := pk_andE (xs (nI i).toNatClampNeg) (m := nI 31) 5 (by decide)
      refine wk_i (y := nI j) ej ?_
      have hnext : ∀ (p q cx rd cl tt cd bx : Nat) (g : Nat → Nat) (H : Heap) (locs : List Loc), va_P (dC, dI) classes [(h0, .inr (0, [.int (nI p), .int (nI q), .int (nI (p * q)), .long (lN (p * q * (p * q))), .long (lN (sp_f p q)), .long (lN (sp_inv p q)), .long (lN (sp_cex p q)), .int (nI cx), .int (nI rd), .int (nI cl), .long (lN tt), .int (nI (sp_cnt g 30)), .ref q0])), (q0, .inl (cA, 30, .inr (.inl (fun j => lN (g j)))))] H → va_P (dC, dI) classes [(h1, .inr (1, [.long (lN (p * q)), .long (lN (p * q * (p * q))), .long (lN (sp_f p q)), .long (lN (sp_cex p q)), .int (nI bx), .int (nI cl), .int (nI cd), .int (nI rd), .ref q1])), (q1, .inl (cB, 30, .inr (.inl (fun j => lN (g j)))))] H → va_S (fun q => s.heap.size ≤ q) s.heap H locs → LI p q cx rd cl tt cd bx g → W pg l ev room_1 s mi #[Value.ref b] below meth co H locs 4 82 Q (F0 mi 905 ls []) := by
        intro p q cx rd cl tt cd bx g H locs hPX hPM hS hI
        refine lv_iinc (k := 0) (v := nI (i + 5)) (lv' := [(3, .int (nI (i + 5))), (2, .ref h1), (1, .ref h0), (0, .ref b)]) hx hb d_L_law_905 hl rfl (ii_5 i) (by decide) rfl (fun ls hl => ?_)
        refine lv_goto (tgt := 18) hx hb d_L_law_908 (by decide) ?_
        exact ih _ (by omega) (i + 5) p q cx rd cl tt cd bx g H locs ls hl hPX hPM hS hI (by omega) rfl
      rcases (show j = 0 ∨ j = 1 ∨ j = 2 ∨ j = 3 ∨ j = 4 ∨ j = 5 ∨ j = 6 ∨ j = 7 ∨ j = 8 ∨ j = 9 ∨ j = 10 ∨ j = 11 ∨ j = 12 ∨ j = 13 ∨ j = 14 ∨ j = 15 ∨ j = 16 ∨ j = 17 ∨ 18 ≤ j by omega) with rfl | rfl | rfl | rfl | rfl | rfl | rfl | rfl | rfl | rfl | rfl | rfl | rfl | rfl | rfl | rfl | rfl | rfl | hj18
      · refine lv_tableIn (tgt := 120) (off := 88) hx hb d_L_law_32 (by decide) (by decide) (by decide) (by decide) ?_
        exact ls_0 hx hb hml hown hts hX hbl hKX hKM hap hL hi hI hl hPX hPM hS hnext
      · refine lv_tableIn (tgt := 153) (off := 121) hx hb d_L_law_32 (by decide) (by decide) (by decide) (by decide) ?_
        exact ls_1 hx hb hml hown hts hX hbl hKX hKM hap hL hi hI hl hPX hPM hS hnext
      · refine lv_tableIn (tgt := 166) (off := 134) hx hb d_L_law_32 (by decide) (by decide) (by decide) (by decide) ?_
        exact ls_2 hx hb hml hown hts hX hbl hKX hKM hap hL hi hI hl hPX hPM hS hnext
      · refine lv_tableIn (tgt := 260) (off := 228) hx hb d_L_law_32 (by decide) (by decide) (by decide) (by decide) ?_
        exact ls_3 hx hb hml hown hts hX hbl hKX hKM hap hL hi hI hl hPX hPM hS hnext
      · refine lv_tableIn (tgt := 314) (off := 282) hx hb d_L_law_32 (by decide) (by decide) (by decide) (by decide) ?_
        exact ls_4 hx hb hml hown hts hX hbl hKX hKM hap hL hi hI hl hPX hPM hS hnext
      · refine lv_tableIn (tgt := 368) (off := 336) hx hb d_L_law_32 (by decide) (by decide) (by decide) (by decide) ?_
        exact ls_5 hx hb hml hown hts hX hbl hKX hKM hap hL hi hI hl hPX hPM hS hnext
      · refine lv_tableIn (tgt := 462) (off := 430) hx hb d_L_law_32 (by decide) (by decide) (by decide) (by decide) ?_
        exact ls_6 hx hb hml hown hts hX hbl hKX hKM hap hL hi hI hl hPX hPM hS hnext
      · refine lv_tableIn (tgt := 526) (off := 494) hx hb d_L_law_32 (by decide) (by decide) (by decide) (by decide) ?_
        exact ls_7 hx hb hml hown hts hX hbl hKX hKM hap hL hi hI hl hPX hPM hS hnext
      · refine lv_tableIn (tgt := 559) (off := 527) hx hb d_L_law_32 (by decide) (by decide) (by decide) (by decide) ?_
        exact ls_8 hx hb hml hown hts hX hbl hKX hKM hap hL hi hI hl hPX hPM hS hnext
      · refine lv_tableIn (tgt := 623) (off := 591) hx hb d_L_law_32 (by decide) (by decide) (by decide) (by decide) ?_
        exact ls_9 hx hb hml hown hts hX hbl hKX hKM hap hL hi hI hl hPX hPM hS hnext
      · refine lv_tableIn (tgt := 686) (off := 654) hx hb d_L_law_32 (by decide) (by decide) (by decide) (by decide) ?_
        exact ls_10 hx hb hml hown hts hX hbl hKX hKM hap hL hi hI hl hPX hPM hS hnext
      · refine lv_tableIn (tgt := 710) (off := 678) hx hb d_L_law_32 (by decide) (by decide) (by decide) (by decide) ?_
        exact ls_11 hx hb hml hown hts hX hbl hKX hKM hap hL hi hI hl hPX hPM hS hnext
      · refine lv_tableIn (tgt := 734) (off := 702) hx hb d_L_law_32 (by decide) (by decide) (by decide) (by decide) ?_
        exact ls_12 hx hb hml hown hts hX hbl hKX hKM hap hL hi hI hl hPX hPM hS hnext
      · refine lv_tableIn (tgt := 747) (off := 715) hx hb d_L_law_32 (by decide) (by decide) (by decide) (by decide) ?_
        exact ls_13 hx hb hml hown hts hX hbl hKX hKM hap hL hi hI hl hPX hPM hS hnext
      · refine lv_tableIn (tgt := 761) (off := 729) hx hb d_L_law_32 (by decide) (by decide) (by decide) (by decide) ?_
        exact ls_14 hx hb hml hown hts hX hbl hKX hKM hap hL hi hI hl hPX hPM hS hnext
      · refine lv_tableIn (tgt := 775) (off := 743) hx hb d_L_law_32 (by decide) (by decide) (by decide) (by decide) ?_
        exact ls_15 hx hb hml hown hts hX hbl hKX hKM hap hL hi hI hl hPX hPM hS hnext
      · refine lv_tableIn (tgt := 798) (off := 766) hx hb d_L_law_32 (by decide) (by decide) (by decide) (by decide) ?_
        exact ls_16 hx hb hml hown hts hX hbl hKX hKM hap hL hi hI hl hPX hPM hS hnext
      · refine lv_tableIn (tgt := 812) (off := 780) hx hb d_L_law_32 (by decide) (by decide) (by decide) (by decide) ?_
        exact ls_17 hx hb hml hown hts hX hbl hKX hKM hap hL hi hI hl hPX hPM hS hnext
      · refine lv_tableOut (tgt := 905) hx hb d_L_law_32 (Or.inr (by rw [nI_toInt (by omega)]; omega)) (by decide) ?_
        exact hnext p q cx rd cl tt cd bx g H locs hPX hPM hS hI
end
section
/-! THE CLAIM OUT OF ONE WALK OF THE LAW'S BODY. Your part is whole_start (and what it stands on); all else here is the same for every law, but numbers. -/
def R_law : String := "SealedTallyLaw"
def lw_P (b : Addr) (xs : List Int32) (args : Array Value) (s : State) : Prop := args = #[.ref b] ∧ s.IntsAt b xs ∧ xs.length ≤ 2560 ∧ (Jvm.Cond.and given_1 narrow_1).before args s = true
def lw_Q (_ : Array Value) (s : State) (o : Outcome) (t : State) : Prop := o = .returned (some (.int 1)) ∧ Framed s o t [] 4 82
def lw_Z (below : List Frame) (a : Array Value) (s : State) : State → Prop := fun t => ∃ o, t.status = .running ∧ Ended t below o ∧ lw_Q a s o t
/-- the law's own end, with 1 on the stack, nothing written that was there before, its room as the claim has it -/
theorem lw_ret {p : Program} {l : Launch} {e : Env} {s : State} {m : MethodId} {below : List Frame} {meth : Method} {c : Code} {b : Nat} (hx : p.tables.exec = Jvm.exec) (hb : c.code = code) (hr : meth.sig.returnType = ret) (hlocks : meth.locks = false) {pc : Nat} {H : Heap} {ls : Array Slot} (hdg : decode code pc = .ok (.ireturn, 1)) : W p l e room_1 s m #[Value.ref b] below meth c H [] 4 82 (lw_Z below #[Value.ref b] s) (F0 m pc ls [.int 1]) := by
  intro T hT X
  obtain ⟨fs, hret, hrun, hended, hW, hframe⟩ := X.leave (v := some (.int 1)) (hlocks := hlocks) (fun h => by rw [hr] at h; cases h)
  have hmeth' : T.vm.method? m = some meth := X.method'
  refine ⟨T.setFrames fs, ?_, .returned (some (.int 1)), hrun, hended, rfl, ⟨_, rfl⟩, hW, hframe⟩
  jvm_step X.here [X.here.top, hx, hb, hdg, hmeth', hr, ret, narrow_b1]
  (try refine ⟨rfl, ?_⟩); (try refine ⟨rfl, ?_⟩)
  first | (intro acts; rw [hret _ acts rfl rfl rfl]) | rw [hret _ _ rfl rfl rfl]
  exact Steps.refl _
/-- what holds at the law's entry: the machine, the code, the tables' words (any of lw_tbl by 'hts w (by decide +kernel)'), the script of L ints xs at the cell b, what the Statement gives of the start (any of its parts by flat_of_before) -/
def lw_At (p : Program) (s : State) (m : MethodId) (meth : Method) (c : Code) (b L : Nat) (xs : Nat → Int32) : Prop :=
  p.tables.exec = Jvm.exec ∧ c.code = code ∧ meth.sig.returnType = ret ∧ c.maxLocals = 4 ∧ s.vm.findClass R_law = some m.cls ∧ (∀ w ∈ lw_tbl, w.before #[Value.ref b] s = true) ∧ va_X b L xs s s.heap ∧ b < s.heap.size ∧ meth.locks = false ∧ (Jvm.Cond.and given_1 narrow_1).before #[Value.ref b] s = true
theorem lw_K {s : State} {cX cM : ClassId} {iX iM : Nat → Nat} (hX : u_Kn s R_X F_X 13 cX iX) (hM : u_Kn s R_M F_M 9 cM iM) : va_K (fun k => if k = 0 then cX else cM, fun k => if k = 0 then iX else iM) classes [] s := by
  refine ⟨fun c q hq => ?_, fun k q hq => by cases hq⟩
  match c with
  | 0 => cases hq; exact hX
  | 1 => cases hq; exact hM
  | c + 2 => cases hq
theorem lw_x0 {h0 q0 : Nat} {cA : ClassId} : ([(h0, .inr (0, [.int (nI 0), .int (nI 0), .int (nI (0 * 0)), .long (lN (0 * 0 * (0 * 0))), .long (lN (sp_f 0 0)), .long (lN (sp_inv 0 0)), .long (lN (sp_cex 0 0)), .int (nI 0), .int (nI 0), .int (nI 0), .long (lN 0), .int (nI (sp_cnt zg 30)), .ref q0])), (q0, .inl (cA, 30, .inr (.inl (fun j => lN (zg j)))))] : va_W) = [(h0, .inr (0, [.int (nI 0), .int (nI 0), .int (nI 0), .long (lN 0), .long (lN 0), .long (lN 0), .long (lN 0), .int (nI 0), .int (nI 0), .int (nI 0), .long (lN 0), .int (nI 0), .ref q0])), (q0, .inl (cA, 30, .inr (.inl (fun j => lN (zg j)))))] := by
  have e1 : sp_cnt zg 30 = 0 := fa_cnt0 30 (fun _ _ => rfl)
  have e2 : sp_f 0 0 = 0 := rfl
  have e3 : sp_inv 0 0 = 0 := rfl
  have e4 : sp_cex 0 0 = 0 := by decide
  simp only [e1, e2, e3, e4, Nat.mul_zero]
theorem lw_m0 {h1 q1 : Nat} {cB : ClassId} : ([(h1, .inr (1, [.long (lN (0 * 0)), .long (lN (0 * 0 * (0 * 0))), .long (lN (sp_f 0 0)), .long (lN (sp_cex 0 0)), .int (nI 0), .int (nI 0), .int (nI 0), .int (nI 0), .ref q1])), (q1, .inl (cB, 30, .inr (.inl (fun j => lN (zg j)))))] : va_W) = [(h1, .inr (1, [.long (lN 0), .long (lN 0), .long (lN 0), .long (lN 0), .int (nI 0), .int (nI 0), .int (nI 0), .int (nI 0), .ref q1])), (q1, .inl (cB, 30, .inr (.inl (fun j => lN (zg j)))))] := by
  have e2 : sp_f 0 0 = 0 := rfl
  have e4 : sp_cex 0 0 = 0 := by decide
  simp only [e2, e4, Nat.mul_zero]
end
section
set_option maxHeartbeats 4000000 in
set_option maxRecDepth 100000 in
theorem whole_start {p : Program} {e : Env} {s : State} {m : MethodId} {below : List Frame} {meth : Method} {c : Code} (l : Launch) {b L : Nat} {xs : Nat → Int32} (hL : L ≤ 2560) (C0 : lw_At p s m meth c b L xs) : W p l e room_1 s m #[Value.ref b] below meth c s.heap [] 0 0 (lw_Z below #[Value.ref b] s) (entryFrame m ([Value.ref b] : List Value).toArray 4) := by
  obtain ⟨hx, hb, hr, hml, hown0, hts0, hX, hbl, hlocks, -⟩ := C0
  have hown : s.vm.findClass R_L = some m.cls := hown0
  have hts : ∀ w ∈ Cond.initialized R_X :: al_w, w.before #[Value.ref b] s = true := by
    intro w hw
    rcases List.mem_cons.mp hw with rfl | hw
    · exact hts0 _ (List.mem_filter.mp aw_t1).1
    · exact hts0 _ (List.mem_filter.mp hw).1
  obtain ⟨cX, iX, hnX⟩ := u_known hts f_X (hts _ (al_m aw_t6))
  obtain ⟨cM, iM, hnM⟩ := u_known hts f_M (hts _ (al_m aw_t202))
  obtain ⟨dC, dI, hK⟩ : ∃ (dC : Nat → ClassId) (dI : Nat → Nat → Nat), va_K (dC, dI) classes [] s := ⟨fun k => if k = 0 then cX else cM, fun k => if k = 0 then iX else iM, lw_K hnX hnM⟩
  obtain ⟨A, hAe⟩ : ∃ A : Nat → Prop, A = fun q => s.heap.size ≤ q := ⟨_, rfl⟩
  have hA : ∀ q : Nat, s.heap.size ≤ q → A q := fun q h => by rw [hAe]; exact h
  have hS : va_S A s.heap s.heap [] := va_S.rf
  have hP : va_P (dC, dI) classes [] s.heap := fun k q hq => by cases hq
  have hD : va_D A [] := ⟨fun i j p q hp => (by cases hp), fun k q hq => (by cases hq)⟩
  have hl := lv_entry ([.ref b]) (n := 4) (Nat.le_of_ble_eq_true rfl)
  rw [lg_entry_eq]
  generalize (lg_sl ([.ref b]) ++ List.replicate (4 - (lg_sl ([.ref b])).length) Slot.unset).toArray = ls at hl ⊢
  have hl : lv_has ls 4 [(0, .ref b)] := hl
  refine va_new (ci := 0) (fs := [.int (nI 0), .int (nI 0), .int (nI 0), .long (lN 0), .long (lN 0), .long (lN 0), .long (lN 0), .int (nI 0), .int (nI 0), .int (nI 0), .long (lN 0), .int (nI 0), .null]) (C := R_X) (T := F_X) (N := 13) hx hb hts f_X t_X t_X_ok hown (hts _ (al_m aw_t5)) (hts _ (al_m aw_t6)) (hts _ (al_m aw_t1)) hK hP hD hS hA rfl df_X (Nat.le_of_ble_eq_true rfl) (Nat.le_of_ble_eq_true rfl) d_L_law_0 (fun h0 H hP hD hS => ?_)
  have hP : va_P (dC, dI) classes [(h0, .inr (0, [.int (nI 0), .int (nI 0), .int (nI 0), .long (lN 0), .long (lN 0), .long (lN 0), .long (lN 0), .int (nI 0), .int (nI 0), .int (nI 0), .long (lN 0), .int (nI 0), .null]))] H := hP
  have hD : va_D A [(h0, .inr (0, [.int (nI 0), .int (nI 0), .int (nI 0), .long (lN 0), .long (lN 0), .long (lN 0), .long (lN 0), .int (nI 0), .int (nI 0), .int (nI 0), .long (lN 0), .int (nI 0), .null]))] := hD
  refine lv_dup hx hb d_L_law_3 rfl ?_
  have hPc := hP.sub (ws' := [(h0, .inr (0, [.int (nI 0), .int (nI 0), .int (nI 0), .long (lN 0), .long (lN 0), .long (lN 0), .long (lN 0), .int (nI 0), .int (nI 0), .int (nI 0), .long (lN 0), .int (nI 0), .null]))]) [0] rfl
  have hDc := hD.sub (ws' := [(h0, .inr (0, [.int (nI 0), .int (nI 0), .int (nI 0), .long (lN 0), .long (lN 0), .long (lN 0), .long (lN 0), .int (nI 0), .int (nI 0), .int (nI 0), .long (lN 0), .int (nI 0), .null]))]) [0] (by decide) rfl
  have hKc := hK.sub (tys' := []) [] rfl
  have hFc := va_free (wc := [(h0, .inr (0, [.int (nI 0), .int (nI 0), .int (nI 0), .long (lN 0), .long (lN 0), .long (lN 0), .long (lN 0), .int (nI 0), .int (nI 0), .int (nI 0), .long (lN 0), .int (nI 0), .null]))]) hD hS hA [0] rfl
  refine va_callv (va_runI (As := []) (rest := [.ref h0]) ⟨hx, hb, hml, hown, hts⟩ (c_X_init l dC dI h0 H.size) (cwI 0 hts (al_good k_X_init) rfl rfl rfl (hts _ (al_m aw_t1)) (hts _ (al_m aw_t7)) (hts _ (al_m aw_t8)) rfl (by decide +kernel) ⟨Nat.le_of_ble_eq_true rfl, Nat.le_of_ble_eq_true rfl⟩) ⟨fun a U g mk q => by obtain ⟨z0, z1, zP, zK, zD⟩ := q; exact ⟨z0, z1, zP, va_K.moved (u := U) (U := U.calling g mk a) (Vm.Alike.refl U.vm) zK, zD⟩, fun U hU hW => ⟨rfl, by rw [hU], by rw [hU]; exact hPc, va_K.moved hW.alike hKc, hDc.weaken (fun _ _ _ _ => trivial)⟩⟩ rfl rfl hl.1 rfl (lv_room (Nat.le_of_ble_eq_true rfl)) d_L_law_4 ⟨Nat.le_of_ble_eq_true rfl, Nat.le_of_ble_eq_true rfl⟩) hS (fun q _ h => hFc q h) hFc (fun u t H1 locs ht hvm hw hB hz1 hk1 hS => ?_)
  obtain ⟨q0, cA⟩ := u
  obtain ⟨hP1, hK1, hD1⟩ := hB
  rw [ht] at hP1
  have hKX := va_K.moved hvm.symm hK1
  obtain ⟨hP, hD⟩ := va_join (wr := []) (w1 := [(h0, .inr (0, [.int (nI 0), .int (nI 0), .int (nI 0), .long (lN 0), .long (lN 0), .long (lN 0), .long (lN 0), .int (nI 0), .int (nI 0), .int (nI 0), .long (lN 0), .int (nI 0), .ref q0])), (q0, .inl (cA, 30, .inr (.inl (fun j => lN (zg j)))))]) hP hD [0] [] rfl rfl (by decide) (by decide) hk1 hFc hP1 hD1
  have hP : va_P (dC, dI) classes [(h0, .inr (0, [.int (nI 0), .int (nI 0), .int (nI 0), .long (lN 0), .long (lN 0), .long (lN 0), .long (lN 0), .int (nI 0), .int (nI 0), .int (nI 0), .long (lN 0), .int (nI 0), .ref q0])), (q0, .inl (cA, 30, .inr (.inl (fun j => lN (zg j)))))] H1 := hP
  have hD : va_D A [(h0, .inr (0, [.int (nI 0), .int (nI 0), .int (nI 0), .long (lN 0), .long (lN 0), .long (lN 0), .long (lN 0), .int (nI 0), .int (nI 0), .int (nI 0), .long (lN 0), .int (nI 0), .ref q0])), (q0, .inl (cA, 30, .inr (.inl (fun j => lN (zg j)))))] := hD
  refine lv_astore_n (lv' := [(1, .ref h0), (0, .ref b)]) hx hb d_L_law_7 rfl hl (by decide) rfl (fun ls hl => ?_)
  refine va_new (ci := 1) (fs := [.long (lN 0), .long (lN 0), .long (lN 0), .long (lN 0), .int (nI 0), .int (nI 0), .int (nI 0), .int (nI 0), .null]) (C := R_M) (T := F_M) (N := 9) hx hb hts f_M t_M t_M_ok hown (hts _ (al_m aw_t201)) (hts _ (al_m aw_t202)) (hts _ (al_m aw_t2)) hK hP hD hS hA rfl df_M (Nat.le_of_ble_eq_true rfl) (Nat.le_of_ble_eq_true rfl) d_L_law_8 (fun h1 H hP hD hS => ?_)
  have hP : va_P (dC, dI) classes [(h0, .inr (0, [.int (nI 0), .int (nI 0), .int (nI 0), .long (lN 0), .long (lN 0), .long (lN 0), .long (lN 0), .int (nI 0), .int (nI 0), .int (nI 0), .long (lN 0), .int (nI 0), .ref q0])), (q0, .inl (cA, 30, .inr (.inl (fun j => lN (zg j))))), (h1, .inr (1, [.long (lN 0), .long (lN 0), .long (lN 0), .long (lN 0), .int (nI 0), .int (nI 0), .int (nI 0), .int (nI 0), .null]))] H := hP
  have hD : va_D A [(h0, .inr (0, [.int (nI 0), .int (nI 0), .int (nI 0), .long (lN 0), .long (lN 0), .long (lN 0), .long (lN 0), .int (nI 0), .int (nI 0), .int (nI 0), .long (lN 0), .int (nI 0), .ref q0])), (q0, .inl (cA, 30, .inr (.inl (fun j => lN (zg j))))), (h1, .inr (1, [.long (lN 0), .long (lN 0), .long (lN 0), .long (lN 0), .int (nI 0), .int (nI 0), .int (nI 0), .int (nI 0), .null]))] := hD
  refine lv_dup hx hb d_L_law_11 rfl ?_
  have hPc := hP.sub (ws' := [(h1, .inr (1, [.long (lN 0), .long (lN 0), .long (lN 0), .long (lN 0), .int (nI 0), .int (nI 0), .int (nI 0), .int (nI 0), .null]))]) [2] rfl
  have hDc := hD.sub (ws' := [(h1, .inr (1, [.long (lN 0), .long (lN 0), .long (lN 0), .long (lN 0), .int (nI 0), .int (nI 0), .int (nI 0), .int (nI 0), .null]))]) [2] (by decide) rfl
  have hKc := hK.sub (tys' := []) [] rfl
  have hFc := va_free (wc := [(h1, .inr (1, [.long (lN 0), .long (lN 0), .long (lN 0), .long (lN 0), .int (nI 0), .int (nI 0), .int (nI 0), .int (nI 0), .null]))]) hD hS hA [2] rfl
  refine va_callv (va_runI (As := []) (rest := [.ref h1]) ⟨hx, hb, hml, hown, hts⟩ (c_M_init l dC dI h1 H.size) (cwI 0 hts (al_good k_M_init) rfl rfl rfl (hts _ (al_m aw_t2)) (hts _ (al_m aw_t203)) (hts _ (al_m aw_t204)) rfl (by decide +kernel) ⟨Nat.le_of_ble_eq_true rfl, Nat.le_of_ble_eq_true rfl⟩) ⟨fun a U g mk q => by obtain ⟨z0, z1, zP, zK, zD⟩ := q; exact ⟨z0, z1, zP, va_K.moved (u := U) (U := U.calling g mk a) (Vm.Alike.refl U.vm) zK, zD⟩, fun U hU hW => ⟨rfl, by rw [hU], by rw [hU]; exact hPc, va_K.moved hW.alike hKc, hDc.weaken (fun _ _ _ _ => trivial)⟩⟩ rfl rfl hl.1 rfl (lv_room (Nat.le_of_ble_eq_true rfl)) d_L_law_12 ⟨Nat.le_of_ble_eq_true rfl, Nat.le_of_ble_eq_true rfl⟩) hS (fun q _ h => hFc q h) hFc (fun u t H1 locs ht hvm hw hB hz1 hk1 hS => ?_)
  obtain ⟨q1, cB⟩ := u
  obtain ⟨hP1, hK1, hD1⟩ := hB
  rw [ht] at hP1
  have hKM := va_K.moved hvm.symm hK1
  obtain ⟨hP, hD⟩ := va_join (wr := [(h0, .inr (0, [.int (nI 0), .int (nI 0), .int (nI 0), .long (lN 0), .long (lN 0), .long (lN 0), .long (lN 0), .int (nI 0), .int (nI 0), .int (nI 0), .long (lN 0), .int (nI 0), .ref q0])), (q0, .inl (cA, 30, .inr (.inl (fun j => lN (zg j)))))]) (w1 := [(h1, .inr (1, [.long (lN 0), .long (lN 0), .long (lN 0), .long (lN 0), .int (nI 0), .int (nI 0), .int (nI 0), .int (nI 0), .ref q1])), (q1, .inl (cB, 30, .inr (.inl (fun j => lN (zg j)))))]) hP hD [2] [0, 1] rfl rfl (by decide) (by decide) hk1 hFc hP1 hD1
  have hP : va_P (dC, dI) classes [(h0, .inr (0, [.int (nI 0), .int (nI 0), .int (nI 0), .long (lN 0), .long (lN 0), .long (lN 0), .long (lN 0), .int (nI 0), .int (nI 0), .int (nI 0), .long (lN 0), .int (nI 0), .ref q0])), (q0, .inl (cA, 30, .inr (.inl (fun j => lN (zg j))))), (h1, .inr (1, [.long (lN 0), .long (lN 0), .long (lN 0), .long (lN 0), .int (nI 0), .int (nI 0), .int (nI 0), .int (nI 0), .ref q1])), (q1, .inl (cB, 30, .inr (.inl (fun j => lN (zg j)))))] H1 := hP
  have hD : va_D A [(h0, .inr (0, [.int (nI 0), .int (nI 0), .int (nI 0), .long (lN 0), .long (lN 0), .long (lN 0), .long (lN 0), .int (nI 0), .int (nI 0), .int (nI 0), .long (lN 0), .int (nI 0), .ref q0])), (q0, .inl (cA, 30, .inr (.inl (fun j => lN (zg j))))), (h1, .inr (1, [.long (lN 0), .long (lN 0), .long (lN 0), .long (lN 0), .int (nI 0), .int (nI 0), .int (nI 0), .int (nI 0), .ref q1])), (q1, .inl (cB, 30, .inr (.inl (fun j => lN (zg j)))))] := hD
  refine lv_astore_n (lv' := [(2, .ref h1), (1, .ref h0), (0, .ref b)]) hx hb d_L_law_15 rfl hl (by decide) rfl (fun ls hl => ?_)
  refine lv_iconst (v := nI 0) hx hb d_L_law_16 (by decide) ?_
  refine lv_istore_n (lv' := [(3, .int (nI 0)), (2, .ref h1), (1, .ref h0), (0, .ref b)]) hx hb d_L_law_17 rfl hl (by decide) rfl (fun ls hl => ?_)
  refine W.widen (k := 4) (n := 82) (Nat.le_of_ble_eq_true rfl) (Nat.le_of_ble_eq_true rfl) ?_
  have hap : lw_ap s.heap.size h0 q0 h1 q1 := by
    rw [hAe] at hD
    exact ⟨hD.2 0 _ rfl, hD.2 1 _ rfl, hD.2 2 _ rfl, hD.2 3 _ rfl, fun h => absurd (hD.1 0 1 _ _ rfl rfl h) (by decide), fun h => absurd (hD.1 0 2 _ _ rfl rfl h) (by decide), fun h => absurd (hD.1 0 3 _ _ rfl rfl h) (by decide), fun h => absurd (hD.1 1 2 _ _ rfl rfl h) (by decide), fun h => absurd (hD.1 1 3 _ _ rfl rfl h) (by decide), fun h => absurd (hD.1 2 3 _ _ rfl rfl h) (by decide)⟩
  rw [hAe] at hS
  have hPX := hP.sub (ws' := [(h0, .inr (0, [.int (nI 0), .int (nI 0), .int (nI 0), .long (lN 0), .long (lN 0), .long (lN 0), .long (lN 0), .int (nI 0), .int (nI 0), .int (nI 0), .long (lN 0), .int (nI 0), .ref q0])), (q0, .inl (cA, 30, .inr (.inl (fun j => lN (zg j)))))]) [0, 1] rfl
  have hPM := hP.sub (ws' := [(h1, .inr (1, [.long (lN 0), .long (lN 0), .long (lN 0), .long (lN 0), .int (nI 0), .int (nI 0), .int (nI 0), .int (nI 0), .ref q1])), (q1, .inl (cB, 30, .inr (.inl (fun j => lN (zg j)))))]) [2, 3] rfl
  rw [← lw_x0] at hPX
  rw [← lw_m0] at hPM
  refine lw_lp hx hb hml hown hts hX hbl hKX hKM hap hL (fun H locs ls hS => ?_) _ 0 0 0 0 0 0 0 0 0 zg H1 _ ls hl hPX hPM hS li_0 (Nat.zero_le _) rfl
  refine lv_iconst (v := 1) hx hb d_L_law_911 (by decide) ?_
  refine va_forget (fun q hq => hS.2.2 q hq) ?_
  exact lw_ret hx hb hr hlocks d_L_law_912
end
section
set_option maxHeartbeats 4000000 in
theorem lw_walk (l : Launch) (b : Addr) (xs : List Int32) : MetFree l x (headSpec (Jvm.Cond.code x code maxLocals ret :: tables_1) room_1) (lw_P b xs) (fun _ _ _ _ _ => True) lw_Q := by
  refine MetFree.of_bodyS (code := code) (maxLocals := maxLocals) (ret := ret) (by decide) ?_ ?_
  · intro args s m h hn
    obtain ⟨meth, c, h1, h2, h3, h4, h5, h6, -, -⟩ := Cond.code_spec hn (atoms_spec (ws := Jvm.Cond.code x code maxLocals ret :: tables_1) h _ List.mem_cons_self)
    exact ⟨meth, c, h1, h2, h3, h4, h5, h6⟩
  · intro p e s m args below meth c s₁ B hml0 hP _
    obtain ⟨rfl, hx, hbd, hgv⟩ := hP
    obtain ⟨scr, harrAt, hlist, hof, hsmall⟩ := hx
    obtain ⟨hcb, hkn, -, -⟩ := State.arrayAt?_spec harrAt
    have hown : s.vm.findClass R_law = some m.cls := findClass_of_methodNamed B.named
    have hts0 : ∀ c ∈ (Jvm.Cond.code x code maxLocals ret :: tables_1), c.before #[Value.ref b] s = true := atoms_spec (ws := Jvm.Cond.code x code maxLocals ret :: tables_1) B.pre
    have hts : ∀ w ∈ lw_tbl, w.before #[Value.ref b] s = true := k2_hts_sels lw_privs (fun w hw => hts0 w (List.mem_cons_of_mem _ hw)) lw_privs_ok
    have hml : c.maxLocals = 4 := B.maxLocals_eq (hts0 _ List.mem_cons_self)
    have X₀ : Stand p l e room_1 s m #[Value.ref b] below meth c s₁ [] 0 0 := Stand.of_body B
    have hh0 : s₁.heap = s.heap := by rw [B.state]; rfl
    have hsz : scr.slots.size = xs.length := by rw [← Array.length_toList, hlist, List.length_map]
    have hval : ∀ j : Nat, j < xs.length → scr.slots[j]? = some (.int (xs.getD j 0)) := fun j hj => by
      rw [← Array.getElem?_toList, hlist]
      simp [hj]
    have hbl : b < s.heap.size := (Array.getElem?_eq_some_iff.mp hcb).1
    have hX : va_X b xs.length (fun j => xs.getD j 0) s s.heap := ⟨scr, hcb, hof, hkn, hsz, hval⟩
    have K : W p l e room_1 s m #[Value.ref b] below meth c s₁.heap [] 0 0 (lw_Z below #[Value.ref b] s) (entryFrame m ([Value.ref b] : List Value).toArray 4) := by
      rw [hh0]
      exact whole_start l hbd ⟨B.exec, B.bytes, B.returns, hml, hown, hts, hX, hbl, B.notSynchronized, hgv⟩
    obtain ⟨t, a1, o, b1, b2, b3⟩ := K s₁ rfl X₀
    exact ⟨t, o, a1, b1, b2, b3⟩
theorem lw_pre_spec {args : Array Value} {s : State} (h : (Jvm.Cond.and given_1 narrow_1).before args s = true) (hr : rest_1_c.before args s = true) : ∃ (b : Addr) (xs : List Int32), lw_P b xs args s := by
  have hs := flat_of_before _ h
  have hq := flat_of_before _ hr
  have hc : (Cond.count 1).before args s = true := hs _ (by decide +kernel)
  have harr : (Cond.arrayOf (.arg 0) .int).before args s = true := hs _ (by decide +kernel)
  have hle : (Cond.le (.length (.arg 0)) (.int 2560)).before args s = true := hs _ (by decide +kernel)
  have hlen : (Cond.isInt (.length (.arg 0))).before args s = true := hq _ (by decide +kernel)
  have hall : (Cond.all (.arg 0) (.isInt (.elem (.arg 0) (.index 0)))).before args s = true := hq _ (by decide +kernel)
  obtain ⟨b, xs, hb, hx⟩ := State.ints_of_pre rfl harr hlen hall
  have hsm : xs.length < 2 ^ 31 := hx.choose_spec.2.2.2
  have hev : (Term.length (.arg 0)).eval args s none [] s = some (.int xs.length.toInt32) := hx.length_eval hb
  have hv := Cond.le_ints hev (show (Term.int 2560).eval args s none [] s = some (.int 2560) from rfl)
  have hd : xs.length.toInt32 ≤ 2560 := by
    simpa [Cond.before, Cond.holds, hv] using hle
  have hN : xs.length ≤ 2560 := (Int32.ofNat_le_ofNat hsm (by decide)).mp (show Int32.ofNat xs.length ≤ Int32.ofNat 2560 from hd)
  exact ⟨b, xs, Cond.one_arg hc (show args[0]? = some (.ref b) from hb), hx, hN, h⟩
theorem lw_comes (l : Launch) : Comes l x (Jvm.Cond.code x code maxLocals ret :: tables_1) room_1 (fun tb e args s => Calls_1 tb e args s ∧ rest_1 tb e args s ∧ Pre_1 tb e args s)
    (fun _ _ args s o t => lw_Q args s o t) := by
  intro p e ha hc hk s m args below hf hfit hheap happ hpre
  obtain ⟨b, xs, hP⟩ := lw_pre_spec hpre.2.2 hpre.2.1
  obtain ⟨k, o, h1, h2, h3, hQ⟩ := lw_walk l b xs p e ha hc hk s m args below hf ((Spec.applies_iff_loose hf).mp happ).1 hP trivial
  exact ⟨k, o, h1, h2, h3, hQ⟩
theorem lw_frame {s t : State} {o : Outcome} {args : Array Value} (h : Framed s o t [] 4 82) :
    Framed s o t (fieldLocs frame_1_writes args s ++ arrayLocs frame_1_arrays args s ++ staticLocs frame_1_statics s) 4 82 := h
theorem lw_limb (L : Cond) (hL : ∀ (args : Array Value) (s t : State), L.after args s (.returned (some (.int 1))) t = true) :
    ArmFor flags0 classFile x code maxLocals ret World_1 tables_1 room_1 Calls_1 rest_1 Pre_1
      (fun tb e a s o t => postC L tb e a s o t ∧ Framed s o t (fieldLocs frame_1_writes a s ++ arrayLocs frame_1_arrays a s ++ staticLocs frame_1_statics s) 4 82) := by
  intro l _ _ _ p e ha hc hk s m args below hf hfit hheap happ hpre
  obtain ⟨k, o, h1, h2, h3, rfl, hF⟩ := lw_comes l p e ha hc hk s m args below hf hfit hheap happ hpre
  exact ⟨k, _, h1, h2, h3, hL args s _, lw_frame hF⟩
theorem i_vc : Claimed_1_1 ∧ Claimed_1_2 := ⟨lw_limb limb_1_1 (fun args s t => by simp [limb_1_1, Cond.after, Cond.holds, Cond.value]), lw_limb limb_1_2 (fun args s t => Cond.after_iff.mpr (by
  first | (rw [show limb_1_2 = Cond.eq .result (.int 1) from rfl, Cond.eq_ints (x := 1) (y := 1) rfl rfl]; simp; done) | (simp [limb_1_2, Cond.value, Term.eval]; done)))⟩
end
