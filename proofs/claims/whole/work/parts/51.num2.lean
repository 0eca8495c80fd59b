theorem div64 {x d : Int32} (hx : 0 ≤ x.toInt) (hd : 0 < d.toInt) : (x / d).toInt64 = x.toInt64 / d.toInt64 := by
  have hlx := x.toInt_lt
  have q0 : 0 ≤ x.toInt / d.toInt := Int.ediv_nonneg hx (by omega)
  have q1 : x.toInt / d.toInt ≤ x.toInt := Int.ediv_le_self _ hx
  apply Int64.toInt_inj.mp
  rw [i64_int, Int32.toInt_div, Int64.toInt_div, i64_int, i64_int, Int.tdiv_eq_ediv_of_nonneg hx]
  rw [Int.bmod_eq_of_le (by omega) (by omega), Int.bmod_eq_of_le (by omega) (by omega)]
theorem num_div {X Y : Mm} (h : Rmix X Y) (hl : ¬ f_X0_numberLower X = 0) : (f_X6_commonDivisor (f_X0_numberUpper X) (f_X0_numberLower X)).toInt64 = f_X7_divisor (f_X7_numberUpper Y) (f_X7_numberLower Y) ∧ 0 < (f_X6_commonDivisor (f_X0_numberUpper X) (f_X0_numberLower X)).toInt := by
  obtain ⟨u1, u2⟩ := nu_int h
  obtain ⟨l1, l2⟩ := nl_int h
  have lp : 0 < (f_X0_numberLower X).toInt := by
    have : ¬ (f_X0_numberLower X).toInt = 0 := fun e => hl (Int32.toInt_inj.mp (by rw [e]; decide))
    omega
  have g1 := cd_gcd (a := f_X0_numberUpper X) (b := f_X0_numberLower X) u2 lp
  have ll := (f_X0_numberLower X).toInt_lt
  have g2 := dv_gcd (x := f_X7_numberUpper Y) (y := f_X7_numberLower Y) (by rw [← u1, i64_int]; exact u2) (by rw [← l1, i64_int]; omega)
  rw [← u1, ← l1, i64_int, i64_int] at g2
  refine ⟨Int64.toInt_inj.mp (by rw [i64_int, g1, ← u1, ← l1, g2]), ?_⟩
  rw [g1]
  have := Nat.gcd_pos_of_pos_right (m := (f_X0_numberUpper X).toInt.toNat) (n := (f_X0_numberLower X).toInt.toNat) (by omega)
  omega
