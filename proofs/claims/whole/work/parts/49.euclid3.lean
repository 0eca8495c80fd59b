theorem rem32 {x y : Int32} (hx : 0 ≤ x.toInt) (hy : 0 < y.toInt) : (x - x / y * y).toInt = x.toInt % y.toInt := by
  rw [rem_toInt, Int.tmod_eq_emod_of_nonneg hx]
theorem cd_rel {a b : Int32} {m n : Nat} (ha : a.toInt = m) (hb : b.toInt = n) (k : Nat) : (itr b_X6_commonDivisor_1 k (a, b)).2.toInt = (itr eu k (n, m)).1 ∧ (itr b_X6_commonDivisor_1 k (a, b)).1.toInt = (itr eu k (n, m)).2 := by
  exact itr_rel (f := b_X6_commonDivisor_1) (g := eu) (N := k) (fun _ z w => z.2.toInt = w.1 ∧ z.1.toInt = w.2) (fun i z w hi hz => by
    obtain ⟨h1, h2⟩ := hz
    rw [b_X6_commonDivisor_1, eu]
    by_cases c : w.2 = 0
    · have z0 : z.1 = 0 := Int32.toInt_inj.mp (by rw [h2, c]; decide)
      rw [if_pos c, if_pos z0]
      exact ⟨h1, h2⟩
    · have z0 : ¬ z.1 = 0 := fun q => c (by rw [q, show (0 : Int32).toInt = 0 by decide] at h2; omega)
      rw [if_neg c, if_neg z0]
      refine ⟨h2, ?_⟩
      show (z.2 - z.2 / z.1 * z.1).toInt = ((w.1 % w.2 : Nat) : Int)
      rw [rem32 (by omega) (by omega), h1, h2]
      push_cast
      rfl) (z := (a, b)) (w := (n, m)) ⟨hb, ha⟩ k (Nat.le_refl _)
theorem cd_gcd {a b : Int32} (ha : 0 ≤ a.toInt) (hb : 0 < b.toInt) : (f_X6_commonDivisor a b).toInt = Nat.gcd a.toInt.toNat b.toInt.toNat := by
  have r := cd_rel (a := a) (b := b) (m := a.toInt.toNat) (n := b.toInt.toNat) (by omega) (by omega) 64
  have la := a.toInt_lt
  have g : (itr b_X6_commonDivisor_1 64 (a, b)).2.toInt = Nat.gcd a.toInt.toNat b.toInt.toNat := by
    rw [r.1, eu_is (by show a.toInt.toNat < 2 ^ 32; omega), Nat.gcd_comm]
  have gp : 0 < Nat.gcd a.toInt.toNat b.toInt.toNat := Nat.gcd_pos_of_pos_right _ (by omega)
  rw [f_X6_commonDivisor, l_X6_commonDivisor_1, if_neg (by rw [Int32.lt_iff_toInt_lt, g, show (1 : Int32).toInt = 1 by decide]; omega)]
  exact g
