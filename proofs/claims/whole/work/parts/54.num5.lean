theorem num_found {X Y : Mm} (hf : Rfound X Y) : Rfound (m_X6_number_1 X) (m_X7_number_1 Y) := by
  refine ⟨?_, fun q => ?_⟩
  · rw [m_X6_number_1, m_X7_number_1, gI_sJ, gI_sJ, gI_sJ, gI_sJ]
    exact hf.1
  · rw [m_X6_number_1, m_X7_number_1, gI_sJ, gI_sJ, gI_sJ, gI_sJ]
    exact hf.2 q
theorem num_eqX {X : Mm} (c : ¬ f_X0_numberLower X = 0) : f_X6_number X = ((1 : Int32), m_X6_number_1 X) := by
  rw [f_X6_number, if_neg c]
theorem num_eqY {Y : Mm} (c : ¬ lg_cmp (f_X7_numberLower Y) (0 : Int64) = 0) : f_X7_number Y = ((1 : Int32), m_X7_number_1 Y) := by
  rw [f_X7_number, if_neg c]
