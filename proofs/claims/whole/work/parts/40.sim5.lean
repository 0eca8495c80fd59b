/-! the heap: spread and stroke -/
theorem i_neg9 {l : Int32} (h : l = -9 ∨ 0 ≤ l.toInt) : l < 0 ↔ l = -9 := by
  constructor
  · intro hl
    rcases h with h | h
    · exact h
    · have := Int32.lt_iff_toInt_lt.mp hl
      rw [show (0 : Int32).toInt = 0 by decide] at this
      omega
  · intro e
    rw [e]
    decide
theorem sp_step {X Y : Mm} (h : Rheap X Y) {i : Nat} (hi : i < 10) {z : Int32 × Int32} (hz : z.1 = -9 ∨ 0 ≤ z.1.toInt) : b_X2_spreadNow_1 X i z = b_X7_spread_1 Y i z ∧ ((b_X2_spreadNow_1 X i z).1 = -9 ∨ 0 ≤ (b_X2_spreadNow_1 X i z).1.toInt) := by
  obtain ⟨h1, h2, h3, h4, h5, h6, h7, h8⟩ := h
  have hl := (h8 i hi).1
  have e9 := i_neg9 hz
  rw [h2] at hl
  simp only [b_X2_spreadNow_1, b_X7_spread_1, h3, h2]
  by_cases c : gI Y 49 i = 0
  · simp only [if_pos c]
    have g2 : (if z.2 < gI Y 48 i then gI Y 48 i else z.2) = (if gI Y 48 i ≤ z.2 then z.2 else gI Y 48 i) := by
      by_cases q : z.2 < gI Y 48 i
      · rw [if_pos q, if_neg (Int32.not_le.mpr q)]
      · rw [if_neg q, if_pos (Int32.not_lt.mp q)]
    have g1 : (if z.1 = (-9 : Int32) then gI Y 48 i else (if gI Y 48 i < z.1 then gI Y 48 i else z.1)) = (if z.1 < 0 then gI Y 48 i else (if z.1 ≤ gI Y 48 i then z.1 else gI Y 48 i)) := by
      by_cases q : z.1 = -9
      · rw [if_pos q, if_pos (e9.mpr q)]
      · rw [if_neg q, if_neg (fun w => q (e9.mp w))]
        by_cases q2 : gI Y 48 i < z.1
        · rw [if_pos q2, if_neg (Int32.not_le.mpr q2)]
        · rw [if_neg q2, if_pos (Int32.not_lt.mp q2)]
    refine ⟨by rw [g1, g2], ?_⟩
    show (if z.1 = (-9 : Int32) then gI Y 48 i else (if gI Y 48 i < z.1 then gI Y 48 i else z.1)) = -9 ∨ 0 ≤ (if z.1 = (-9 : Int32) then gI Y 48 i else (if gI Y 48 i < z.1 then gI Y 48 i else z.1)).toInt
    by_cases q : z.1 = -9
    · rw [if_pos q]
      exact Or.inr hl
    · rw [if_neg q]
      by_cases q2 : gI Y 48 i < z.1
      · rw [if_pos q2]
        exact Or.inr hl
      · rw [if_neg q2]
        exact hz
  · simp only [if_neg c]
    exact ⟨trivial, hz⟩
theorem sim_spread {X Y : Mm} (h : Rheap X Y) : f_X6_spread X = f_X7_spread Y := by
  have key := itr_rel (f := b_X2_spreadNow_1 X) (g := b_X7_spread_1 Y) (N := 10) (fun _ z w => z = w ∧ (z.1 = -9 ∨ 0 ≤ z.1.toInt)) (fun i z w hi hz => by
    obtain ⟨e, hz⟩ := hz
    subst e
    exact sp_step h hi hz) (z := ((-9 : Int32), (-9 : Int32))) (w := ((-9 : Int32), (-9 : Int32))) ⟨rfl, Or.inl rfl⟩ 10 (Nat.le_refl _)
  obtain ⟨e, hz⟩ := key
  rw [f_X6_spread, f_X2_spreadNow, f_X7_spread, l_X2_spreadNow_1, l_X7_spread_1, ← e]
  have e9 := i_neg9 hz
  by_cases q : (itr (b_X2_spreadNow_1 X) 10 ((-9 : Int32), (-9 : Int32))).1 = -9
  · rw [if_pos q, if_neg (Int32.not_le.mpr (e9.mpr q))]
  · rw [if_neg q, if_pos (Int32.not_lt.mp (fun w => q (e9.mp w)))]
/-- the same for what the stroke lays: long arithmetic without a wrap -/
theorem lime64 (c d : Int32) (p : Int32) (hp : 0 ≤ p.toInt ∧ p.toInt ≤ 9) : (c.toInt64 + d.toInt64 * p.toInt64).toInt = c.toInt + d.toInt * p.toInt := by
  have h1 := c.toInt_lt
  have h2 := c.le_toInt
  have h3 := d.toInt_lt
  have h4 := d.le_toInt
  have m1 : d.toInt * p.toInt ≤ 2 ^ 31 * 9 := by
    rcases Int.le_total 0 d.toInt with q | q
    · exact Int.mul_le_mul (by omega) hp.2 hp.1 (by omega)
    · have : d.toInt * p.toInt ≤ 0 := Int.mul_nonpos_of_nonpos_of_nonneg q hp.1
      omega
  have m2 : -(2 ^ 31 * 9) ≤ d.toInt * p.toInt := by
    rcases Int.le_total 0 d.toInt with q | q
    · have : 0 ≤ d.toInt * p.toInt := Int.mul_nonneg q hp.1
      omega
    · have : (-d.toInt) * p.toInt ≤ 2 ^ 31 * 9 := Int.mul_le_mul (by omega) hp.2 hp.1 (by omega)
      rw [Int.neg_mul] at this
      omega
  have e1 : (d.toInt64 * p.toInt64).toInt = d.toInt * p.toInt := by
    rw [Int64.toInt_mul, i64_int, i64_int]
    apply Int.bmod_eq_of_le <;> omega
  rw [Int64.toInt_add, i64_int, e1]
  apply Int.bmod_eq_of_le <;> omega
theorem lg_lt {x y : Int64} : lg_cmp x y < 0 ↔ x.toInt < y.toInt := by
  rw [← Int64.lt_iff_toInt_lt]
  unfold lg_cmp
  by_cases h : y < x
  · have : ¬ x < y := fun q => by
      rw [Int64.lt_iff_toInt_lt] at h q
      omega
    simp [h, this]
  · by_cases h2 : x = y
    · simp [h2]
    · have : x < y := by
        rw [Int64.lt_iff_toInt_lt] at h ⊢
        have : ¬ x.toInt = y.toInt := fun q => h2 (Int64.toInt_inj.mp q)
        omega
      simp [h, h2, this]
