theorem low0 {X Y : Mm} (h : Rmix X Y) : (lg_cmp (f_X7_numberLower Y) (0 : Int64)) = 0 ↔ f_X0_numberLower X = 0 := by
  rw [lg_eq0, ← (nl_int h).1, i64_int]
  constructor
  · intro e
    exact Int32.toInt_inj.mp (by rw [e]; decide)
  · intro e
    rw [e]
    decide
/-- what c_X7_number asks for -/
theorem number_hyps {X Y : Mm} (h : Rmix X Y) : (lg_cmp (itr b_X7_divisor_1 64 ((f_X7_numberUpper Y), (f_X7_numberLower Y))).2 (0 : Int64)) = 0 ∧ (¬ (lg_cmp (f_X7_numberLower Y) (0 : Int64)) = 0 → ¬ (f_X7_divisor (f_X7_numberUpper Y) (f_X7_numberLower Y)) = 0) := by
  obtain ⟨u1, u2⟩ := nu_int h
  obtain ⟨l1, l2⟩ := nl_int h
  have ll := (f_X0_numberLower X).toInt_lt
  refine ⟨dv_hx (by rw [← u1, i64_int]; exact u2) (by rw [← l1, i64_int]; omega), fun c e => ?_⟩
  obtain ⟨d1, d2⟩ := num_div h (fun q => c ((low0 h).mpr q))
  rw [e] at d1
  have d3 : (f_X6_commonDivisor (f_X0_numberUpper X) (f_X0_numberLower X)).toInt64.toInt = 0 := by rw [d1]; decide
  rw [i64_int] at d3
  omega
