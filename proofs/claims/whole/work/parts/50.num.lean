theorem mul32 {k p : Int32} {kn : Int} (hk : k.toInt = kn) (h : 0 ≤ kn ∧ kn ≤ 28) (hp : 0 ≤ p.toInt ∧ p.toInt ≤ 4000000) : (k * p).toInt = kn * p.toInt ∧ 0 ≤ kn * p.toInt ∧ kn * p.toInt ≤ 28 * 4000000 := by
  have a1 : 0 ≤ kn * p.toInt := Int.mul_nonneg h.1 hp.1
  have a2 : kn * p.toInt ≤ 28 * 4000000 := Int.mul_le_mul h.2 hp.2 hp.1 (by omega)
  refine ⟨?_, a1, a2⟩
  rw [Int32.toInt_mul, hk]
  apply Int.bmod_eq_of_le <;> omega
theorem mul64 {k : Int64} {p : Int32} {kn : Int} (hk : k.toInt = kn) (h : 0 ≤ kn ∧ kn ≤ 28) (hp : 0 ≤ p.toInt ∧ p.toInt ≤ 4000000) : (k * p.toInt64).toInt = kn * p.toInt ∧ 0 ≤ kn * p.toInt ∧ kn * p.toInt ≤ 28 * 4000000 := by
  have a1 : 0 ≤ kn * p.toInt := Int.mul_nonneg h.1 hp.1
  have a2 : kn * p.toInt ≤ 28 * 4000000 := Int.mul_le_mul h.2 hp.2 hp.1 (by omega)
  refine ⟨?_, a1, a2⟩
  rw [Int64.toInt_mul, hk, i64_int]
  apply Int.bmod_eq_of_le <;> omega
theorem nu_int {X Y : Mm} (h : Rmix X Y) : (f_X0_numberUpper X).toInt64 = f_X7_numberUpper Y ∧ 0 ≤ (f_X0_numberUpper X).toInt := by
  have hp := part_rng h (u := 0) (by decide)
  have a := mul32 (k := 10) (kn := 10) (p := f_X0_part X 0) (by decide) (by decide) hp
  have b := mul64 (k := 10) (kn := 10) (p := f_X0_part X 0) (by decide) (by decide) hp
  refine ⟨?_, by rw [f_X0_numberUpper, a.1]; exact a.2.1⟩
  apply Int64.toInt_inj.mp
  rw [i64_int, f_X0_numberUpper, f_X7_numberUpper, a.1, ← part_eq h (by decide), b.1]
theorem nl_int {X Y : Mm} (h : Rmix X Y) : (f_X0_numberLower X).toInt64 = f_X7_numberLower Y ∧ 0 ≤ (f_X0_numberLower X).toInt := by
  have p1 := part_rng h (u := 1) (by decide)
  have p2 := part_rng h (u := 2) (by decide)
  have p3 := part_rng h (u := 3) (by decide)
  have a1 := mul32 (k := 28) (kn := 28) (p := f_X0_part X 1) (by decide) (by decide) p1
  have a2 := mul32 (k := 12) (kn := 12) (p := f_X0_part X 2) (by decide) (by decide) p2
  have a3 := mul32 (k := 7) (kn := 7) (p := f_X0_part X 3) (by decide) (by decide) p3
  have b1 := mul64 (k := 28) (kn := 28) (p := f_X0_part X 1) (by decide) (by decide) p1
  have b2 := mul64 (k := 12) (kn := 12) (p := f_X0_part X 2) (by decide) (by decide) p2
  have b3 := mul64 (k := 7) (kn := 7) (p := f_X0_part X 3) (by decide) (by decide) p3
  have e1 : (28 * f_X0_part X 1 + 12 * f_X0_part X 2).toInt = 28 * (f_X0_part X 1).toInt + 12 * (f_X0_part X 2).toInt := by
    rw [Int32.toInt_add, a1.1, a2.1]
    apply Int.bmod_eq_of_le <;> omega
  have e2 : (f_X0_numberLower X).toInt = 28 * (f_X0_part X 1).toInt + 12 * (f_X0_part X 2).toInt + 7 * (f_X0_part X 3).toInt := by
    rw [f_X0_numberLower, Int32.toInt_add, e1, a3.1]
    apply Int.bmod_eq_of_le <;> omega
  refine ⟨?_, by rw [e2]; omega⟩
  apply Int64.toInt_inj.mp
  rw [i64_int, e2, f_X7_numberLower, ← part_eq h (by decide), ← part_eq h (by decide), ← part_eq h (by decide)]
  have f1 : (28 * (f_X0_part X 1).toInt64 + 12 * (f_X0_part X 2).toInt64).toInt = 28 * (f_X0_part X 1).toInt + 12 * (f_X0_part X 2).toInt := by
    rw [Int64.toInt_add, b1.1, b2.1]
    apply Int.bmod_eq_of_le <;> omega
  rw [Int64.toInt_add, f1, b3.1]
  symm
  apply Int.bmod_eq_of_le <;> omega
