/-! both sides' loops are Euclid's -/
theorem rem64 {x y : Int64} (hx : 0 ≤ x.toInt) (hy : 0 < y.toInt) : (x - x / y * y).toInt = x.toInt % y.toInt := by
  have hlx := x.toInt_lt
  have hly := y.toInt_lt
  have e1 : (x / y).toInt = x.toInt / y.toInt := by
    rw [Int64.toInt_div, Int.tdiv_eq_ediv_of_nonneg hx]
    have b1 : 0 ≤ x.toInt / y.toInt := Int.ediv_nonneg hx (by omega)
    have b2 : x.toInt / y.toInt ≤ x.toInt := Int.ediv_le_self _ hx
    apply Int.bmod_eq_of_le <;> omega
  have d := Int.mul_ediv_add_emod x.toInt y.toInt
  have m1 := Int.emod_nonneg x.toInt (show y.toInt ≠ 0 by omega)
  have m2 : 0 ≤ y.toInt * (x.toInt / y.toInt) := Int.mul_nonneg (by omega) (Int.ediv_nonneg hx (by omega))
  have e2 : (x / y * y).toInt = y.toInt * (x.toInt / y.toInt) := by
    rw [Int64.toInt_mul, e1, Int.mul_comm]
    apply Int.bmod_eq_of_le <;> omega
  rw [Int64.toInt_sub, e2]
  rw [show x.toInt - y.toInt * (x.toInt / y.toInt) = x.toInt % y.toInt by omega]
  have m3 := Int.emod_lt_of_pos x.toInt hy
  apply Int.bmod_eq_of_le <;> omega
theorem lg_eq0 {y : Int64} : lg_cmp y 0 = 0 ↔ y.toInt = 0 := by
  have a := @lg_gt y 0
  have b := @lg_lt y 0
  rw [show (0 : Int64).toInt = 0 by decide] at a b
  constructor
  · intro e
    rw [e] at a b
    have n1 : ¬ (0 : Int32) < 0 := by decide
    have q1 : ¬ 0 < y.toInt := fun q => n1 (a.mpr q)
    have q2 : ¬ y.toInt < 0 := fun q => n1 (b.mpr q)
    omega
  · intro e
    have y0 : y = 0 := Int64.toInt_inj.mp (by rw [e]; decide)
    rw [y0]
    decide
theorem dv_rel {x y : Int64} {m n : Nat} (hx : x.toInt = m) (hy : y.toInt = n) (k : Nat) : (itr b_X7_divisor_1 k (x, y)).1.toInt = (itr eu k (m, n)).1 ∧ (itr b_X7_divisor_1 k (x, y)).2.toInt = (itr eu k (m, n)).2 := by
  exact itr_rel (f := b_X7_divisor_1) (g := eu) (N := k) (fun _ z w => z.1.toInt = w.1 ∧ z.2.toInt = w.2) (fun i z w hi hz => by
    obtain ⟨h1, h2⟩ := hz
    rw [b_X7_divisor_1, eu]
    by_cases c : w.2 = 0
    · rw [if_pos c, if_pos (lg_eq0.mpr (by rw [h2, c]; rfl))]
      exact ⟨h1, h2⟩
    · rw [if_neg c, if_neg (fun q => c (by have := lg_eq0.mp q; omega))]
      refine ⟨h2, ?_⟩
      show (z.1 - z.1 / z.2 * z.2).toInt = ((w.1 % w.2 : Nat) : Int)
      rw [rem64 (by omega) (by omega), h1, h2]
      push_cast
      rfl) (z := (x, y)) (w := (m, n)) ⟨hx, hy⟩ k (Nat.le_refl _)
theorem dv_hx {x y : Int64} (hx : 0 ≤ x.toInt) (hy : 0 ≤ y.toInt ∧ y.toInt < 2 ^ 32) : (lg_cmp (itr b_X7_divisor_1 64 (x, y)).2 (0 : Int64)) = 0 := by
  have r := dv_rel (x := x) (y := y) (m := x.toInt.toNat) (n := y.toInt.toNat) (by omega) (by omega) 64
  rw [lg_eq0, r.2, eu_end (by show y.toInt.toNat < 2 ^ 32; omega)]
  rfl
theorem dv_gcd {x y : Int64} (hx : 0 ≤ x.toInt) (hy : 0 ≤ y.toInt ∧ y.toInt < 2 ^ 32) : (f_X7_divisor x y).toInt = Nat.gcd x.toInt.toNat y.toInt.toNat := by
  have r := dv_rel (x := x) (y := y) (m := x.toInt.toNat) (n := y.toInt.toNat) (by omega) (by omega) 64
  rw [f_X7_divisor, l_X7_divisor_1, r.1, eu_is (by show y.toInt.toNat < 2 ^ 32; omega)]
