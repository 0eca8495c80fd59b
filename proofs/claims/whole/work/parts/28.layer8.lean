theorem i64_int (x : Int32) : x.toInt64.toInt = x.toInt := Int32.toInt_toInt64 x
theorem add64 (x y : Int32) : (x.toInt64 + y.toInt64).toInt = x.toInt + y.toInt := by
  rw [Int64.toInt_add, i64_int, i64_int]
  have h1 := x.toInt_lt
  have h2 := x.le_toInt
  have h3 := y.toInt_lt
  have h4 := y.le_toInt
  apply Int.bmod_eq_of_le <;> omega
theorem lg_gt {x y : Int64} : 0 < lg_cmp x y ↔ y.toInt < x.toInt := by
  rw [← Int64.lt_iff_toInt_lt]
  unfold lg_cmp
  by_cases h : y < x
  · simp [h]
  · by_cases h2 : x = y
    · simp [h2]
    · simp [h, h2]
theorem lg_le {x y : Int64} : lg_cmp x y ≤ 0 ↔ x.toInt ≤ y.toInt := by
  have h := @lg_gt x y
  rw [← Int32.not_lt, h]
  omega
theorem cp_rng {i n : Int32} (hi : ¬ i < 0) (hn : 0 ≤ n) (h : (i.toInt64 + n.toInt64).toInt ≤ 24) : i.toNatClampNeg + n.toNatClampNeg ≤ 24 := by
  rw [add64] at h
  have b1 := Int32.le_iff_toInt_le.mp (Int32.not_lt.mp hi)
  have b2 := Int32.le_iff_toInt_le.mp hn
  have e0 : (0 : Int32).toInt = 0 := by decide
  rw [e0] at b1 b2
  show i.toInt.toNat + n.toInt.toNat ≤ 24
  omega
theorem cp_rng2 {i j n : Int32} (hi : ¬ i < 0) (hj : ¬ j < 0) (hn : 0 ≤ n) (h1 : ¬ 0 < lg_cmp (i.toInt64 + n.toInt64) 24) (h2 : lg_cmp (j.toInt64 + n.toInt64) 24 ≤ 0) : i.toNatClampNeg + n.toNatClampNeg ≤ 24 ∧ j.toNatClampNeg + n.toNatClampNeg ≤ 24 := by
  have e : (24 : Int64).toInt = 24 := by decide
  refine ⟨cp_rng hi hn ?_, cp_rng hj hn ?_⟩
  · rw [lg_gt, e] at h1
    omega
  · rw [lg_le, e] at h2
    exact h2
theorem ix3 {x y : Int32} {i : Nat} (hx : vp_in x 7) (hy : ¬ y < 0) (hi : y.toNatClampNeg + i < 24) : (((24 : Int32) * x + y) + nI i).toNatClampNeg = 24 * x.toNatClampNeg + (y.toNatClampNeg + i) ∧ vp_in (((24 : Int32) * x + y) + nI i) 168 := by
  have b1 := Int32.le_iff_toInt_le.mp (Int32.not_lt.mp hy)
  have e0 : (0 : Int32).toInt = 0 := by decide
  rw [e0] at b1
  have hc := clamp_int b1
  have hyv : vp_in y 24 := by rw [vp_in_iff]; omega
  have e1 : y + nI i = nI (y.toNatClampNeg + i) := by
    apply Int32.toInt_inj.mp
    rw [Int32.toInt_add, nI_int (by omega), nI_int (by omega)]
    rw [show y.toInt + (i : Int) = ((y.toNatClampNeg + i : Nat) : Int) by omega]
    apply Int.bmod_eq_of_le <;> omega
  have e2 : ((24 : Int32) * x + y) + nI i = (24 : Int32) * x + nI (y.toNatClampNeg + i) := by rw [Int32.add_assoc, e1]
  rw [e2]
  exact ⟨ix24 hx hi, iv24 hx hi⟩
theorem pb_in {z : Int32} {n : Nat} (h : z = -9 ∨ vp_in z n) (hz : ¬ z < 0) : vp_in z n := by
  rcases h with h | h
  · rw [h] at hz
    exact absurd (by decide) hz
  · exact h
theorem pb_in2 {z : Int32} {n : Nat} (h : z = -9 ∨ vp_in z n) (hz : 0 ≤ z) : vp_in z n := pb_in h (Int32.not_lt.mpr hz)
theorem bg_in {x : Int32} {i : Nat} (h : ∃ b, b ≤ i ∧ x = nI b) (hi : i < 500) : vp_in x 500 := by
  obtain ⟨b, hb, e⟩ := h
  rw [e]
  exact vp_in_nI (by omega) (by decide)
