theorem ans_told {X Y : Mm} (ht : Rtold X Y) (f : Int32) : Rtold (f_X1_answer X f).2 (f_X7_meets Y f).2 := by
  refine ⟨?_, ?_, ?_⟩
  · simpa [f_X1_answer, f_X7_meets, gJ_sI] using ht.1
  · simpa [f_X1_answer, f_X7_meets, gJ_sI] using ht.2.1
  · simpa [f_X1_answer, f_X7_meets, gJ_sI] using ht.2.2
theorem num_eqX0 {X : Mm} (c : f_X0_numberLower X = 0) : f_X6_number X = ((f_X1_answer X 4).1, (f_X1_answer X 4).2) := by
  rw [f_X6_number, if_pos c]
theorem num_eqY0 {Y : Mm} (c : lg_cmp (f_X7_numberLower Y) (0 : Int64) = 0) : f_X7_number Y = ((f_X7_meets Y 4).1, (f_X7_meets Y 4).2) := by
  rw [f_X7_number, if_pos c]
theorem sim_number {X Y : Mm} (h : Rmix X Y) (hf : Rfound X Y) (ht : Rtold X Y) : (f_X6_number X).1 = (f_X7_number Y).1 ∧ Rfound (f_X6_number X).2 (f_X7_number Y).2 ∧ Rtold (f_X6_number X).2 (f_X7_number Y).2 := by
  by_cases c : f_X0_numberLower X = 0
  · rw [num_eqX0 c, num_eqY0 ((low0 h).mpr c)]
    exact ⟨(sim_ans hf 4).1, (sim_ans hf 4).2, ans_told ht 4⟩
  · rw [num_eqX c, num_eqY (fun q => c ((low0 h).mp q))]
    exact ⟨rfl, num_found hf, num_told h ht c⟩
