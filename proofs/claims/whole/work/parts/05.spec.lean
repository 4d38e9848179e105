/-! any int, any long, against a number -/
theorem lx_lt {x : Int64} {n : Nat} (h : n < 2 ^ 63) : x < lN n ↔ x.toInt < (n : Int) := by rw [Int64.lt_iff_toInt_lt, pk_lT h]
theorem lx_le {x : Int64} {n : Nat} (h : n < 2 ^ 63) : lN n ≤ x ↔ (n : Int) ≤ x.toInt := by rw [Int64.le_iff_toInt_le, pk_lT h]
theorem lx_gt {x : Int64} {n : Nat} (h : n < 2 ^ 63) : lN n < x ↔ (n : Int) < x.toInt := by rw [Int64.lt_iff_toInt_lt, pk_lT h]
theorem lx_ge {x : Int64} {n : Nat} (h : n < 2 ^ 63) : x ≤ lN n ↔ x.toInt ≤ (n : Int) := by rw [Int64.le_iff_toInt_le, pk_lT h]
theorem lx_eq {x : Int64} {n : Nat} (h : n < 2 ^ 63) : x = lN n ↔ x.toInt = (n : Int) := by rw [← Int64.toInt_inj, pk_lT h]
theorem ix_lt {x : Int32} {n : Nat} (h : n < 2 ^ 31) : x < nI n ↔ x.toInt < (n : Int) := by rw [Int32.lt_iff_toInt_lt, nI_toInt h]
theorem ix_le {x : Int32} {n : Nat} (h : n < 2 ^ 31) : nI n ≤ x ↔ (n : Int) ≤ x.toInt := by rw [Int32.le_iff_toInt_le, nI_toInt h]
theorem ix_gt {x : Int32} {n : Nat} (h : n < 2 ^ 31) : nI n < x ↔ (n : Int) < x.toInt := by rw [Int32.lt_iff_toInt_lt, nI_toInt h]
theorem ix_ge {x : Int32} {n : Nat} (h : n < 2 ^ 31) : x ≤ nI n ↔ x.toInt ≤ (n : Int) := by rw [Int32.le_iff_toInt_le, nI_toInt h]
theorem ix_eq {x : Int32} {n : Nat} (h : n < 2 ^ 31) : x = nI n ↔ x.toInt = (n : Int) := by rw [← Int32.toInt_inj, nI_toInt h]
/-- a long that isn't below 0, an int that isn't below 0, by its number -/
theorem lx_of {x : Int64} (h : 0 ≤ x.toInt) : ∃ k : Nat, k < 2 ^ 63 ∧ x = lN k := pk_lOf (by rw [Int64.lt_iff_toInt_lt, Int64.toInt_zero]; omega)
theorem ix_of {x : Int32} (h : 0 ≤ x.toInt) : ∃ k : Nat, k < 2 ^ 31 ∧ x = nI k := nI_of (by rw [Int32.lt_iff_toInt_lt, Int32.toInt_zero]; omega)
theorem lx_nat {k : Nat} (h : k < 2 ^ 63) : (lN k).toInt.toNat = k := by rw [pk_lT h]; rfl
theorem ix_nat {k : Nat} (h : k < 2 ^ 31) : (nI k).toInt.toNat = k := by rw [nI_toInt h]; rfl
/-! the answers -/
abbrev sq_ (p q : Nat) : Nat := p * q * (p * q)
def an_seal (p q : Nat) (m r : Int64) : Int64 := if p = 0 then -1 else if (sp_isM p q m && sp_isC p q r) = true then lN (sp_seal p q m.toInt.toNat r.toInt.toNat) else -4
def an_msg (p q : Nat) (c : Int64) : Int64 := if p = 0 then -1 else if sp_isS p q c = true then lN (sp_msg p q c.toInt.toNat) else -4
def an_coin (p q : Nat) (c : Int64) : Int64 := if p = 0 then -1 else if sp_isS p q c = true then lN (sp_coin p q c.toInt.toNat) else -4
def an_join (p q : Nat) (c d : Int64) : Int64 := if p = 0 then -1 else if (sp_isS p q c && sp_isS p q d) = true then lN (c.toInt.toNat * d.toInt.toNat % sq_ p q) else -4
def an_power (p q : Nat) (c : Int64) (k : Int32) : Int64 := if p = 0 then -1 else if sp_isS p q c = true then lN (c.toInt.toNat ^ (k.toInt % ((p * q * sp_f p q : Nat) : Int)).toNat % sq_ p q) else -4
def an_choice (p q cx rd : Nat) (i : Int32) (r : Int64) : Int64 := if cx = 0 then -2 else if (sp_cand cx i && sp_isC p q r) = true then lN (sp_seal p q (rd ^ i.toInt.toNat) r.toInt.toNat) else -4
def an_ballot (cx : Nat) (g : Nat → Nat) (v : Int32) : Int64 := if cx = 0 then -2 else if sp_cand 30 v = true then (if g v.toInt.toNat = 0 then -6 else lN (g v.toInt.toNat)) else -4
def an_ballots (cx : Nat) (g : Nat → Nat) : Int32 := if cx = 0 then -2 else nI (sp_cnt g 30)
def an_sum (p q cx : Nat) (g : Nat → Nat) : Int64 := if cx = 0 then -2 else lN (sp_prod g 30 % sq_ p q)
def an_close (p q cx cl : Nat) (g : Nat → Nat) : Int64 := if cx = 0 then -2 else if cl = 1 then -3 else lN (sp_msg p q (sp_prod g 30 % sq_ p q))
def an_votes (p q cx rd cl : Nat) (g : Nat → Nat) (i : Int32) : Int32 := if cx = 0 then -2 else if sp_cand cx i = true then (if cl = 0 then -6 else nI (sp_msg p q (sp_prod g 30 % sq_ p q) / rd ^ i.toInt.toNat % rd)) else -4
def an_witness (p q cx cl : Nat) (g : Nat → Nat) : Int64 := if cx = 0 then -2 else if cl = 0 then -6 else lN (sp_coin p q (sp_prod g 30 % sq_ p q))
def an_check (p q cx : Nat) (g : Nat → Nat) (m r : Int64) : Bool := decide (cx ≠ 0) && (sp_isM p q m && (sp_isC p q r && decide (sp_seal p q m.toInt.toNat r.toInt.toNat = sp_prod g 30 % sq_ p q)))
/-- a ballot that is taken: 0 not at all, 1 the first one, 2 again -/
def sp_cast (p q rd : Nat) (g : Nat → Nat) (v : Int32) (c : Int64) : Nat := if (sp_cand 30 v && sp_isS p q c) = true then (if g v.toInt.toNat = 0 then (if rd - 1 ≤ sp_cnt g 30 then 3 else 1) else 2) else 0
def an_cast (p q cx rd cl : Nat) (g : Nat → Nat) (v : Int32) (c : Int64) : Int32 := if cx = 0 then -2 else if cl = 1 then -3 else if sp_cast p q rd g v c = 0 then -4 else if sp_cast p q rd g v c = 3 then -5 else if sp_cast p q rd g v c = 1 then 1 else 0
def nx_cast (p q cx rd cl : Nat) (g : Nat → Nat) (v : Int32) (c : Int64) : Nat → Nat := if cx = 0 then g else if cl = 1 then g else if sp_cast p q rd g v c = 0 then g else if sp_cast p q rd g v c = 3 then g else gu g v.toInt.toNat c.toInt.toNat
def an_withdraw (cx cl : Nat) (g : Nat → Nat) (v : Int32) : Int64 := if cx = 0 then -2 else if cl = 1 then -3 else if sp_cand 30 v = true then (if g v.toInt.toNat = 0 then -6 else lN (g v.toInt.toNat)) else -4
def nx_withdraw (cx cl : Nat) (g : Nat → Nat) (v : Int32) : Nat → Nat := if cx = 0 then g else if cl = 1 then g else if sp_cand 30 v = true then gu g v.toInt.toNat 0 else g
/-- a key, of any two ints -/
def sp_isK (a b : Int32) : Bool := sp_isP a && (sp_isP b && (decide (a.toInt ≠ b.toInt) && (decide ((b.toInt.toNat - 1) % a.toInt.toNat ≠ 0) && decide ((a.toInt.toNat - 1) % b.toInt.toNat ≠ 0))))
def an_key (a b : Int32) : Int32 := if sp_isK a b = true then nI (a.toInt.toNat * b.toInt.toNat) else -4
def sp_box (p q : Nat) (a b : Int32) : Bool := decide (1 ≤ a.toInt) && (decide (a.toInt ≤ 6) && (decide (2 ≤ b.toInt) && decide (b.toInt.toNat ^ a.toInt.toNat ≤ p * q)))
def sp_open (p q : Nat) (a b : Int32) : Bool := decide (p ≠ 0) && sp_box p q a b
/-! what they are under what is known -/
theorem sp_isM_of {p q : Nat} {x : Int64} (h : sp_isM p q x = true) : ∃ k : Nat, k < p * q ∧ k < 2 ^ 63 ∧ x = lN k := by
  simp only [sp_isM, Bool.and_eq_true, decide_eq_true_eq] at h
  obtain ⟨k, hk, rfl⟩ := lx_of h.1
  rw [pk_lT hk] at h
  exact ⟨k, by omega, hk, rfl⟩
theorem sp_isC_of {p q : Nat} {x : Int64} (h : sp_isC p q x = true) : ∃ k : Nat, 1 ≤ k ∧ k < p * q ∧ k < 2 ^ 63 ∧ k % p ≠ 0 ∧ k % q ≠ 0 ∧ x = lN k := by
  simp only [sp_isC, sp_un, Bool.and_eq_true, decide_eq_true_eq] at h
  obtain ⟨k, hk, rfl⟩ := lx_of (x := x) (by omega)
  rw [lx_nat hk, pk_lT hk] at h
  exact ⟨k, by omega, by omega, hk, h.2.2.1, h.2.2.2, rfl⟩
theorem sp_isS_of {p q : Nat} {x : Int64} (h : sp_isS p q x = true) : ∃ k : Nat, 1 ≤ k ∧ k < p * q * (p * q) ∧ k < 2 ^ 63 ∧ k % p ≠ 0 ∧ k % q ≠ 0 ∧ x = lN k := by
  simp only [sp_isS, sp_un, Bool.and_eq_true, decide_eq_true_eq] at h
  obtain ⟨k, hk, rfl⟩ := lx_of (x := x) (by omega)
  rw [lx_nat hk, pk_lT hk] at h
  exact ⟨k, by omega, by omega, hk, h.2.2.1, h.2.2.2, rfl⟩
theorem sp_cand_of {cx : Nat} {x : Int32} (h : sp_cand cx x = true) : ∃ k : Nat, k < cx ∧ k < 2 ^ 31 ∧ x = nI k := by
  simp only [sp_cand, Bool.and_eq_true, decide_eq_true_eq] at h
  obtain ⟨k, hk, rfl⟩ := ix_of h.1
  rw [nI_toInt hk] at h
  exact ⟨k, by omega, hk, rfl⟩
theorem sp_isP_of {x : Int32} (h : sp_isP x = true) : ∃ k : Nat, ma_P k ∧ k < 2 ^ 31 ∧ x = nI k := by
  simp only [sp_isP, Bool.and_eq_true, decide_eq_true_eq] at h
  obtain ⟨k, hk, rfl⟩ := ix_of (x := x) (by omega)
  rw [ix_nat hk, nI_toInt hk] at h
  refine ⟨k, ⟨by omega, by omega, fun d h2 h3 => ?_⟩, hk, rfl⟩
  have h4 := h.2.2
  simp only [ma_isP, Bool.and_eq_true, List.all_eq_true, List.mem_range, Bool.or_eq_true, decide_eq_true_eq] at h4
  rcases h4.2 d h3 with h5 | h5
  · omega
  · exact h5
theorem ip_n {n : Nat} (h3 : 3 ≤ n) (h : n ≤ 229) : sp_isP (nI n) = ma_isP n := by
  have hn : n < 2 ^ 31 := by omega
  unfold sp_isP
  rw [ix_nat hn, nI_toInt hn, decide_eq_true (by omega), decide_eq_true (by omega), Bool.true_and, Bool.true_and]
theorem ip_f {n d : Nat} (h2 : 2 ≤ d) (hd : d < n) (h : n % d = 0) : ma_isP n = false := by
  rw [Bool.eq_false_iff]
  intro ht
  simp only [ma_isP, Bool.and_eq_true, List.all_eq_true, List.mem_range, Bool.or_eq_true, decide_eq_true_eq] at ht
  rcases ht.2 d hd with h5 | h5
  · omega
  · exact h5 h
theorem dv_step {n d : Nat} (h : 1 ≤ d) : sp_dv n d = sp_dv n (d - 1) + (if n % d = 0 then 1 else 0) := by
  obtain ⟨e, rfl⟩ : ∃ e, d = e + 1 := ⟨d - 1, by omega⟩
  rfl
