/-! arrays that are cleared, worlds of one array -/
def fz (g : Nat → Nat) (i : Nat) : Nat → Nat := fun j => if j < i then 0 else g j
theorem fz_0 {g : Nat → Nat} : fz g 0 = g := by
  funext j
  unfold fz
  rw [if_neg (by omega)]
theorem fz_s {g : Nat → Nat} {i : Nat} : gu (fz g i) i 0 = fz g (i + 1) := by
  funext j
  unfold gu fz
  by_cases h : j = i
  · rw [if_pos h, if_pos (by omega)]
  · rw [if_neg h]
    by_cases h2 : j < i
    · rw [if_pos h2, if_pos (by omega)]
    · rw [if_neg h2, if_neg (by omega)]
def selg (b : Bool) (u v : Nat → Nat) : Nat → Nat := if b = true then u else v
theorem selg_t {u v : Nat → Nat} : selg true u v = u := rfl
theorem selg_f {u v : Nat → Nat} : selg false u v = v := rfl
theorem mu_D1 {q : Nat} {e : va_E} : va_D (two q q) [(q, e)] := by
  refine ⟨fun i j p r hi hj hp => ?_, fun k r hk => ?_⟩
  · match i, j with
    | 0, 0 => rfl
    | i + 1, _ => cases hi
    | 0, j + 1 => cases hj
  · match k with
    | 0 => cases hk; exact Or.inl rfl
    | k + 1 => cases hk
theorem mu_o1 {h q : Nat} {e : va_E} (hne : h ≠ q) : ∀ (k : Nat) (r : Nat × va_E), [(h, e)][k]? = some r → r.1 ≠ q ∧ r.1 ≠ q := by
  intro k r hk
  match k with
  | 0 => cases hk; exact ⟨hne, hne⟩
  | k + 1 => cases hk
theorem mu_preS {s : State} {H : Heap} {As : List Value} {D : va_G} {cl : List vw_C} {tys : List (ClassId × FieldType)} {ws : va_W} (hK : va_K D cl tys s) (hP : va_P D cl ws H) : PreS s H (va_Pc As (fun U => va_P D cl ws U.heap ∧ va_K D cl tys U)) As :=
  ⟨fun a U g mk q => ⟨q.1, q.2.1, va_K.moved (u := U) (U := U.calling g mk a) (Vm.Alike.refl U.vm) q.2.2⟩, fun U hU hW => ⟨rfl, by rw [hU]; exact hP, va_K.moved hW.alike hK⟩⟩
/-! the room of a box, as the reference reckons it -/
theorem ro_1 {r n kb i : Nat} (hr : n < r) (hkb : 2 ≤ kb) (h4 : n < r → n < kb ^ i) : n < kb ^ (i + 1) :=
  Nat.lt_of_lt_of_le (h4 hr) (Nat.pow_le_pow_right (by omega) (by omega))
theorem ro_b {r n kb : Nat} (hr : r ≤ n) (hn : n ≤ 52441) (hkb : kb < 2 ^ 31) : r * kb < 2 ^ 48 := by
  have : r * kb ≤ 52441 * 2147483648 := Nat.mul_le_mul (by omega) (by omega)
  omega
theorem ro_x {r n kb i ka : Nat} (e : i = ka) (h3 : r ≤ n → r = kb ^ i) (h4 : n < r → n < kb ^ i) : r ≤ n ↔ kb ^ ka ≤ n := by
  subst e
  constructor
  · intro h
    rw [← h3 h]
    exact h
  · intro h
    by_cases c : r ≤ n
    · exact c
    · exact absurd (h4 (by omega)) (by omega)
theorem sp_box_of {p q : Nat} {x y : Int32} (h : sp_box p q x y = true) : ∃ a b : Nat, a < 2 ^ 31 ∧ b < 2 ^ 31 ∧ (1 ≤ a ∧ a ≤ 6) ∧ (2 ≤ b ∧ b ^ a ≤ p * q) ∧ x = nI a ∧ y = nI b := by
  simp only [sp_box, Bool.and_eq_true, decide_eq_true_eq] at h
  obtain ⟨a, ha, rfl⟩ := ix_of (x := x) (by omega)
  obtain ⟨b, hb, rfl⟩ := ix_of (x := y) (by omega)
  rw [ix_nat ha, ix_nat hb, nI_toInt ha, nI_toInt hb] at h
  exact ⟨a, b, ha, hb, ⟨by omega, by omega⟩, ⟨by omega, h.2.2.2⟩, rfl, rfl⟩
