/-! Euclid: 64 rounds are enough -/
def eu (_ : Nat) (z : Nat × Nat) : Nat × Nat := if z.2 = 0 then z else (z.2, z.1 % z.2)
theorem eu_gcd (z : Nat × Nat) : ∀ n, Nat.gcd (itr eu n z).1 (itr eu n z).2 = Nat.gcd z.1 z.2
  | 0 => by rw [itr_0]
  | n + 1 => by
    rw [itr_s, ← eu_gcd z n]
    generalize itr eu n z = w
    unfold eu
    by_cases h : w.2 = 0
    · rw [if_pos h]
    · rw [if_neg h]
      show Nat.gcd w.2 (w.1 % w.2) = _
      rw [Nat.gcd_comm, ← Nat.gcd_rec, Nat.gcd_comm]
theorem eu_half {B : Nat} {z : Nat × Nat} (hz : z.2 ≤ B) : ∀ k, (itr eu (2 * k) z).2 * 2 ^ k ≤ B
  | 0 => by rw [Nat.mul_zero, itr_0]; simpa using hz
  | k + 1 => by
    have ih := eu_half hz k
    rw [show 2 * (k + 1) = (2 * k + 1) + 1 by omega, itr_s, itr_s]
    generalize itr eu (2 * k) z = w at ih ⊢
    unfold eu
    by_cases h : w.2 = 0
    · rw [if_pos h, if_pos h, h]
      omega
    · rw [if_neg h]
      by_cases h2 : w.1 % w.2 = 0
      · rw [if_pos h2]
        show w.1 % w.2 * 2 ^ (k + 1) ≤ B
        rw [h2]
        omega
      · rw [if_neg h2]
        show w.2 % (w.1 % w.2) * 2 ^ (k + 1) ≤ B
        have a1 : w.1 % w.2 < w.2 := Nat.mod_lt _ (by omega)
        have a2 : w.2 % (w.1 % w.2) < w.1 % w.2 := Nat.mod_lt _ (by omega)
        have a3 : w.2 % (w.1 % w.2) + w.1 % w.2 ≤ w.2 := by
          have d1 := Nat.div_add_mod w.2 (w.1 % w.2)
          have d2 : 1 ≤ w.2 / (w.1 % w.2) := Nat.div_pos (by omega) (by omega)
          have d3 : w.1 % w.2 * 1 ≤ w.1 % w.2 * (w.2 / (w.1 % w.2)) := Nat.mul_le_mul_left _ d2
          omega
        have a4 : 2 * (w.2 % (w.1 % w.2)) ≤ w.2 := by omega
        calc w.2 % (w.1 % w.2) * 2 ^ (k + 1) = 2 * (w.2 % (w.1 % w.2)) * 2 ^ k := by rw [Nat.pow_succ, Nat.mul_comm (2 ^ k) 2, ← Nat.mul_assoc, Nat.mul_comm _ 2]
          _ ≤ w.2 * 2 ^ k := Nat.mul_le_mul_right _ a4
          _ ≤ B := ih
theorem eu_end {z : Nat × Nat} (hz : z.2 < 2 ^ 32) : (itr eu 64 z).2 = 0 := by
  have h := eu_half (B := 2 ^ 32 - 1) (z := z) (by omega) 32
  rw [show 2 * 32 = 64 by decide] at h
  rcases Nat.eq_zero_or_pos (itr eu 64 z).2 with e | e
  · exact e
  · have : 1 * 2 ^ 32 ≤ (itr eu 64 z).2 * 2 ^ 32 := Nat.mul_le_mul_right _ e
    omega
theorem eu_is {z : Nat × Nat} (hz : z.2 < 2 ^ 32) : (itr eu 64 z).1 = Nat.gcd z.1 z.2 := by
  have h := eu_gcd z 64
  rw [eu_end hz, Nat.gcd_zero_right] at h
  exact h
