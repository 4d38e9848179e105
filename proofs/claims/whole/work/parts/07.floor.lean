/-! remainders of any long, floorMod -/
theorem fm_rng {x : Int64} {d : Nat} (h0 : 0 < d) (hd : d < 2 ^ 62) : -(d : Int) < (x - x / lN d * lN d).toInt ∧ (x - x / lN d * lN d).toInt < d ∧ x.toInt % (d : Int) = if (x - x / lN d * lN d).toInt < 0 then (x - x / lN d * lN d).toInt + d else (x - x / lN d * lN d).toInt := by
  have e : (x - x / lN d * lN d).toInt = x.toInt.tmod (d : Int) := by rw [Jvm.Kit.i64_rem, pk_lT (by omega)]
  rw [e]
  obtain ⟨h1, h2⟩ := tmod_bounds (a := x.toInt) (M := (d : Int)) (by omega)
  refine ⟨h1, h2, ?_⟩
  have h3 := Int.mul_tdiv_add_tmod x.toInt (d : Int)
  have h4 : x.toInt % (d : Int) = x.toInt.tmod (d : Int) % (d : Int) := by
    conv => lhs; rw [← h3]
    rw [Int.mul_add_emod_self_left]
  rw [h4]
  split
  · rename_i hneg
    rw [← Int.add_emod_right]
    exact Int.emod_eq_of_lt (by omega) (by omega)
  · exact Int.emod_eq_of_lt (by omega) (by omega)
theorem fm_neg {x : Int64} {d : Nat} (h0 : 0 < d) (hd : d < 2 ^ 62) (h : (x - x / lN d * lN d).toInt < 0) : (x - x / lN d * lN d) + lN d = lN (x.toInt % (d : Int)).toNat := by
  obtain ⟨h1, h2, h3⟩ := fm_rng (x := x) h0 hd
  rw [if_pos h] at h3
  apply Int64.toInt_inj.mp
  rw [Int64.toInt_add, pk_lT (n := d) (by omega), pk_lT (by omega), h3]
  rw [Int.bmod_eq_of_le (by omega) (by omega)]
  omega
theorem fm_pos {x : Int64} {d : Nat} (h0 : 0 < d) (hd : d < 2 ^ 62) (h : ¬ (x - x / lN d * lN d).toInt < 0) : (x - x / lN d * lN d) = lN (x.toInt % (d : Int)).toNat := by
  obtain ⟨h1, h2, h3⟩ := fm_rng (x := x) h0 hd
  rw [if_neg h] at h3
  apply Int64.toInt_inj.mp
  rw [h3, pk_lT (by omega)]
  omega
theorem fm_xor {a : Int64} {d : Nat} (hd : d < 2 ^ 62) : (a ^^^ lN d).toInt < 0 ↔ a.toInt < 0 := by
  have h1 : (a ^^^ lN d).toBitVec.msb = (a.toBitVec.msb ^^ (lN d).toBitVec.msb) := by rw [Int64.toBitVec_xor, BitVec.msb_xor]
  have h2 : (lN d).toBitVec.msb = false := by
    rw [BitVec.msb_eq_toInt]
    have : (lN d).toBitVec.toInt = (d : Int) := pk_lT (by omega)
    rw [this]
    exact decide_eq_false (by omega)
  rw [h2, Bool.xor_false, BitVec.msb_eq_toInt, BitVec.msb_eq_toInt] at h1
  exact decide_eq_decide.mp h1
theorem fm_z {r : Int64} (h : r.toInt = ((0 : Nat) : Int)) : ¬ r.toInt < 0 := by omega
theorem fm_ge {x : Int64} {d : Nat} (h0 : 0 < d) (hd : d < 2 ^ 62) (h : ((0 : Nat) : Int) ≤ (x ^^^ lN d).toInt) : ¬ (x - x / lN d * lN d).toInt < 0 := by
  have h1 : ¬ x.toInt < 0 := fun z => by have := (fm_xor (a := x) hd).mpr z; omega
  have e : (x - x / lN d * lN d).toInt = x.toInt % ((lN d).toInt) := Jvm.Kit.i64_rem_nonneg (by omega)
  rw [e, pk_lT (by omega)]
  have := Int.emod_nonneg x.toInt (b := (d : Int)) (by omega)
  omega
theorem fm_sgn {x : Int64} {d : Nat} (h0 : 0 < d) (hd : d < 2 ^ 62) (h : ¬ ((0 : Nat) : Int) ≤ (x ^^^ lN d).toInt) (hz : ¬ (x - x / lN d * lN d).toInt = ((0 : Nat) : Int)) : (x - x / lN d * lN d).toInt < 0 := by
  have h1 : x.toInt < 0 := (fm_xor (a := x) hd).mp (by omega)
  have e : (x - x / lN d * lN d).toInt = x.toInt.tmod (d : Int) := by rw [Jvm.Kit.i64_rem, pk_lT (by omega)]
  rw [e] at hz ⊢
  have h2 : (-x.toInt).tmod (d : Int) = -(x.toInt.tmod (d : Int)) := Int.neg_tmod _ _
  have h3 : (-x.toInt).tmod (d : Int) = (-x.toInt) % (d : Int) := Int.tmod_eq_emod_of_nonneg (by omega)
  have h4 := Int.emod_nonneg (-x.toInt) (b := (d : Int)) (by omega)
  omega
