/-! the law's own words -/
def lb (a b : Int32) : Int64 := (a.toInt64 <<< ((nI 32).toInt64 &&& 63)) ||| (b.toInt64 &&& lN 4294967295)
def lw_ap (z h0 q0 h1 q1 : Nat) : Prop := z ≤ h0 ∧ z ≤ q0 ∧ z ≤ h1 ∧ z ≤ q1 ∧ h0 ≠ q0 ∧ h0 ≠ h1 ∧ h0 ≠ q1 ∧ q0 ≠ h1 ∧ q0 ≠ q1 ∧ h1 ≠ q1
theorem mu_o2 {a b h q : Nat} {e1 e2 : va_E} (ha : a ≠ h ∧ a ≠ q) (hb : b ≠ h ∧ b ≠ q) : ∀ (k : Nat) (r : Nat × va_E), [(a, e1), (b, e2)][k]? = some r → r.1 ≠ h ∧ r.1 ≠ q := by
  intro k r hk
  match k with
  | 0 => cases hk; exact ha
  | 1 => cases hk; exact hb
  | k + 2 => cases hk
