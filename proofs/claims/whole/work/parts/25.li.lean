/-! the law's own invariant -/
def LI (p q cx rd cl tt cd bx : Nat) (g : Nat → Nat) : Prop :=
  Jv p q cx rd g ∧ rd < 2 ^ 31 ∧ cl ≤ 1 ∧ (cl = 1 → cx ≠ 0 → tt = sp_msg p q (sp_prod g 30 % sq_ p q)) ∧ (bx = 0 ↔ cx = 0) ∧ bx ≤ 1 ∧ (cx ≠ 0 → cd = cx)
theorem li_0 : LI 0 0 0 0 0 0 0 0 zg :=
  ⟨Or.inl ⟨rfl, rfl, rfl⟩, by decide, by decide, fun h => absurd h (by decide), Iff.rfl, by decide, fun h => absurd rfl h⟩
section
variable {p q cx rd cl tt cd bx : Nat} {g : Nat → Nat}
theorem li_key (h : LI p q cx rd cl tt cd bx g) (x y : Int32) : LI (sel (sp_isK x y) x.toInt.toNat p) (sel (sp_isK x y) y.toInt.toNat q) (sel (sp_isK x y) 0 cx) rd cl tt cd (sel (sp_isK x y) 0 bx) g := by
  cases hK : sp_isK x y with
  | false => exact h
  | true =>
    obtain ⟨a, b, hk, ha, hb, rfl, rfl⟩ := sp_isK_of hK
    obtain ⟨h1, h2, h3, h4, h5, h6, h7⟩ := h
    rw [sel_t, sel_t, sel_t, sel_t, ix_nat ha, ix_nat hb]
    exact ⟨Or.inr ⟨hk, Or.inl rfl⟩, h2, h3, fun _ hz => absurd rfl hz, Iff.rfl, by omega, fun hz => absurd rfl hz⟩
theorem li_open (h : LI p q cx rd cl tt cd bx g) (x y : Int32) : LI p q (sel (sp_open p q x y) x.toInt.toNat cx) (sel (sp_open p q x y) y.toInt.toNat rd) (sel (sp_open p q x y) 0 cl) tt (sel (sp_open p q x y) x.toInt.toNat cd) (sel (sp_open p q x y) 1 bx) (selg (sp_open p q x y) (fz g 30) g) := by
  cases hO : sp_open p q x y with
  | false => exact h
  | true =>
    obtain ⟨h1, h2, h3, h4, h5, h6, h7⟩ := h
    simp only [sp_open, Bool.and_eq_true, decide_eq_true_eq] at hO
    have hk := jv_key h1 hO.1
    obtain ⟨a, b, ha, hb, ha6, hb2, rfl, rfl⟩ := sp_box_of hO.2
    have hbg := ma_big hk
    rw [sel_t, sel_t, sel_t, sel_t, sel_t, selg_t, ix_nat ha, ix_nat hb]
    refine ⟨Or.inr ⟨hk, Or.inr ⟨ha6.1, ha6.2, hb2.1, hb2.2, fun j hj => ?_⟩⟩, hb, by omega, fun hz => absurd hz (by decide), ⟨fun hz => absurd hz (by decide), fun hz => absurd hz (by omega)⟩, by omega, fun _ => rfl⟩
    have e : fz g 30 j = 0 := by unfold fz; rw [if_pos hj]
    rw [e]
    exact ⟨by omega, Or.inl rfl⟩
theorem li_cnt (x y : Int32) : sel (sp_open p q x y) 0 (sp_cnt g 30) = sp_cnt (selg (sp_open p q x y) (fz g 30) g) 30 := by
  cases hO : sp_open p q x y with
  | false => rfl
  | true =>
    rw [sel_t, selg_t]
    exact (fa_cnt0 30 (fun j hj => by unfold fz; rw [if_pos hj])).symm
theorem jv_gu (h : Jv p q cx rd g) (a b : Nat) (hc : cx ≠ 0) (hb : b < p * q * (p * q) ∧ (b = 0 ∨ (b % p ≠ 0 ∧ b % q ≠ 0))) : Jv p q cx rd (gu g a b) := by
  obtain ⟨hk, h1, h2, h3, h4, h5⟩ := jv_box h hc
  refine Or.inr ⟨hk, Or.inr ⟨h1, h2, h3, h4, fun j hj => ?_⟩⟩
  unfold gu
  split
  · exact hb
  · exact h5 j hj
theorem li_cast (h : LI p q cx rd cl tt cd bx g) (x : Int32) (y : Int64) : LI p q cx rd cl tt cd bx (nx_cast p q cx rd cl g x y) := by
  by_cases hx0 : cx = 0
  · simp only [nx_cast, if_pos hx0]
    exact h
  by_cases hc1 : cl = 1
  · simp only [nx_cast, if_neg hx0, if_pos hc1]
    exact h
  cases hcc : (sp_cand 30 x && sp_isS p q y) with
  | false => rw [cs_bad hx0 hc1 hcc]; exact h
  | true =>
    rw [Bool.and_eq_true] at hcc
    obtain ⟨a, ha1, ha2, rfl⟩ := sp_cand_of hcc.1
    obtain ⟨b, hb1, hb2, hb3, hb4, hb5, rfl⟩ := sp_isS_of hcc.2
    obtain ⟨h1, h2, h3, h4, h5, h6, h7⟩ := h
    have hj := jv_gu h1 a b hx0 ⟨hb2, Or.inr ⟨hb4, hb5⟩⟩
    by_cases hg : g a = 0
    · by_cases hf : rd - 1 ≤ sp_cnt g 30
      · rw [cs_full hx0 hc1 hcc.1 hcc.2 ha2 hg hf]
        exact ⟨h1, h2, h3, h4, h5, h6, h7⟩
      · rw [cs_new hx0 hc1 hcc.1 hcc.2 ha2 hb3 hg hf]
        exact ⟨hj, h2, h3, fun hz => absurd hz hc1, h5, h6, h7⟩
    · rw [cs_old hx0 hc1 hcc.1 hcc.2 ha2 hb3 hg]
      exact ⟨hj, h2, h3, fun hz => absurd hz hc1, h5, h6, h7⟩
theorem li_withdraw (h : LI p q cx rd cl tt cd bx g) (x : Int32) : LI p q cx rd cl tt cd bx (nx_withdraw cx cl g x) := by
  by_cases hx0 : cx = 0
  · simp only [nx_withdraw, if_pos hx0]
    exact h
  by_cases hc1 : cl = 1
  · simp only [nx_withdraw, if_neg hx0, if_pos hc1]
    exact h
  cases hcc : sp_cand 30 x with
  | false =>
    simp only [nx_withdraw, if_neg hx0, if_neg hc1, hcc, Bool.false_eq_true, if_false]
    exact h
  | true =>
    simp only [nx_withdraw, if_neg hx0, if_neg hc1, hcc, if_true]
    obtain ⟨h1, h2, h3, h4, h5, h6, h7⟩ := h
    obtain ⟨hk, -⟩ := jv_box h1 hx0
    have hbg := ma_big hk
    exact ⟨jv_gu h1 _ 0 hx0 ⟨by omega, Or.inl rfl⟩, h2, h3, fun hz => absurd hz hc1, h5, h6, h7⟩
theorem li_close (h : LI p q cx rd cl tt cd bx g) : LI p q cx rd (sel (decide (cx = 0)) cl 1) (sel (decide (cx = 0 ∨ cl = 1)) tt (sp_msg p q (sp_prod g 30 % sq_ p q))) cd bx g := by
  obtain ⟨h1, h2, h3, h4, h5, h6, h7⟩ := h
  by_cases hx0 : cx = 0
  · rw [decide_eq_true hx0, decide_eq_true (show cx = 0 ∨ cl = 1 from Or.inl hx0), sel_t, sel_t]
    exact ⟨h1, h2, h3, fun _ hz => absurd hx0 hz, h5, h6, h7⟩
  · rw [decide_eq_false hx0, sel_f]
    by_cases hc1 : cl = 1
    · rw [decide_eq_true (show cx = 0 ∨ cl = 1 from Or.inr hc1), sel_t]
      exact ⟨h1, h2, by omega, fun _ hz => h4 hc1 hz, h5, h6, h7⟩
    · rw [decide_eq_false (show ¬ (cx = 0 ∨ cl = 1) from fun z => z.elim hx0 hc1), sel_f]
      exact ⟨h1, h2, by omega, fun _ _ => rfl, h5, h6, h7⟩
end
