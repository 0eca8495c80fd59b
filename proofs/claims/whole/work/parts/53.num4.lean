theorem num_told {X Y : Mm} (h : Rmix X Y) (ht : Rtold X Y) (c : ¬ f_X0_numberLower X = 0) : Rtold (m_X6_number_1 X) (m_X7_number_1 Y) := by
  obtain ⟨d1, d2⟩ := num_div h c
  obtain ⟨u1, u2⟩ := nu_int h
  obtain ⟨l1, l2⟩ := nl_int h
  have e1 := div64 u2 d2
  have e2 := div64 l2 d2
  rw [d1, u1] at e1
  rw [d1, l1] at e2
  refine ⟨?_, ?_, ?_⟩
  · rw [m_X6_number_1, m_X7_number_1, gJ_sJ, if_neg (by decide), gJ_sJ, if_pos ⟨rfl, rfl⟩, gJ_sJ, if_neg (by decide), gJ_sJ, if_pos ⟨rfl, rfl⟩]
    exact e1
  · rw [m_X6_number_1, m_X7_number_1, gJ_sJ, if_pos ⟨rfl, rfl⟩, gJ_sJ, if_pos ⟨rfl, rfl⟩]
    exact e2
  · rw [m_X6_number_1, m_X7_number_1, gJ_sJ, if_neg (by decide), gJ_sJ, if_neg (by decide), gJ_sJ, if_neg (by decide), gJ_sJ, if_neg (by decide)]
    exact ht.2.2
