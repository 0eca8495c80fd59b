theorem fr_f_X7_meets (M : Mm) (u1 : Int32) (k j : Nat) (h : k ≠ 45 ∧ ¬ (k = 44 ∧ j = 0)) : gI (f_X7_meets M u1).2 k j = gI M k j := by
  unfold f_X7_meets
  repeat' (first | with_reducible rfl | (rw [gI_off k j (by omega)]) | (rw [gI_sJ]) | (refine gI_iteK ?_ ?_) | (refine gI_iteP ?_ ?_) | dsimp only)
theorem fj_f_X7_meets (M : Mm) (u1 : Int32) (k j : Nat) (h : True) : gJ (f_X7_meets M u1).2 k j = gJ M k j := by
  unfold f_X7_meets
  repeat' (first | with_reducible rfl | (rw [gJ_off k j (by omega)]) | (rw [gJ_sI]) | (refine gJ_iteK ?_ ?_) | (refine gJ_iteP ?_ ?_) | dsimp only)
theorem fr_f_X7_tell (M : Mm) (u1 : Int64) (u2 : Int32) (k j : Nat) (h : True) : gI (f_X7_tell M u1 u2).2 k j = gI M k j := by
  unfold f_X7_tell
  repeat' (first | with_reducible rfl | (rw [gI_off k j (by omega)]) | (rw [gI_sJ]) | (refine gI_iteK ?_ ?_) | (refine gI_iteP ?_ ?_) | dsimp only)
theorem fj_f_X7_tell (M : Mm) (u1 : Int64) (u2 : Int32) (k j : Nat) (h : ¬ (k = 44 ∧ j = 2)) : gJ (f_X7_tell M u1 u2).2 k j = gJ M k j := by
  unfold f_X7_tell
  repeat' (first | with_reducible rfl | (rw [gJ_off k j (by omega)]) | (rw [gJ_sI]) | (refine gJ_iteK ?_ ?_) | (refine gJ_iteP ?_ ?_) | dsimp only)
theorem fr_m_X7_stroke_1 (u1 : Int32) (u2 : Int32) (u3 : Int32) (i1 : Nat) (z1 : Mm) (k j : Nat) (h : k ≠ 47 ∧ k ≠ 48) : gI (m_X7_stroke_1 u1 u2 u3 i1 z1) k j = gI z1 k j := by
  unfold m_X7_stroke_1
  repeat' (first | with_reducible rfl | (rw [gI_off k j (by omega)]) | (rw [gI_sJ]) | (refine gI_iteK ?_ ?_) | (refine gI_iteP ?_ ?_) | dsimp only)
theorem fj_m_X7_stroke_1 (u1 : Int32) (u2 : Int32) (u3 : Int32) (i1 : Nat) (z1 : Mm) (k j : Nat) (h : True) : gJ (m_X7_stroke_1 u1 u2 u3 i1 z1) k j = gJ z1 k j := by
  unfold m_X7_stroke_1
  repeat' (first | with_reducible rfl | (rw [gJ_off k j (by omega)]) | (rw [gJ_sI]) | (refine gJ_iteK ?_ ?_) | (refine gJ_iteP ?_ ?_) | dsimp only)
theorem fr_b_X7_stroke_1 (u1 : Int32) (u2 : Int32) (u3 : Int32) (i1 : Nat) (z1 : Mm) (k j : Nat) (h : k ≠ 47 ∧ k ≠ 48) : gI (b_X7_stroke_1 u1 u2 u3 i1 z1) k j = gI z1 k j := by
  unfold b_X7_stroke_1
  repeat' (first | with_reducible rfl | (rw [gI_off k j (by omega)]) | (rw [gI_sJ]) | (rw [fr_m_X7_stroke_1 _ _ _ _ _ k j (by omega)]) | (refine gI_iteK ?_ ?_) | (refine gI_iteP ?_ ?_) | dsimp only)
theorem fj_b_X7_stroke_1 (u1 : Int32) (u2 : Int32) (u3 : Int32) (i1 : Nat) (z1 : Mm) (k j : Nat) (h : True) : gJ (b_X7_stroke_1 u1 u2 u3 i1 z1) k j = gJ z1 k j := by
  unfold b_X7_stroke_1
  repeat' (first | with_reducible rfl | (rw [gJ_off k j (by omega)]) | (rw [gJ_sI]) | (rw [fj_m_X7_stroke_1 _ _ _ _ _ k j trivial]) | (refine gJ_iteK ?_ ?_) | (refine gJ_iteP ?_ ?_) | dsimp only)
theorem fr_m_X7_stroke_3 (M : Mm) (u1 : Int32) (u2 : Int32) (u3 : Int32) (k j : Nat) (h : k ≠ 46 ∧ k ≠ 47 ∧ k ≠ 48 ∧ ¬ (k = 44 ∧ j = 5)) : gI (m_X7_stroke_3 M u1 u2 u3) k j = gI M k j := by
  unfold m_X7_stroke_3
  repeat' (first | with_reducible rfl | (rw [gI_off k j (by omega)]) | (rw [gI_sJ]) | (rw [itr_keepI (fun i z => fr_b_X7_stroke_1 _ _ _ i z k j (by omega))]) | (rw [fr_b_X7_stroke_1 _ _ _ _ _ k j (by omega)]) | (refine gI_iteK ?_ ?_) | (refine gI_iteP ?_ ?_) | dsimp only)
theorem fj_m_X7_stroke_3 (M : Mm) (u1 : Int32) (u2 : Int32) (u3 : Int32) (k j : Nat) (h : True) : gJ (m_X7_stroke_3 M u1 u2 u3) k j = gJ M k j := by
  unfold m_X7_stroke_3
  repeat' (first | with_reducible rfl | (rw [gJ_off k j (by omega)]) | (rw [gJ_sI]) | (rw [itr_keepJ (fun i z => fj_b_X7_stroke_1 _ _ _ i z k j trivial)]) | (rw [fj_b_X7_stroke_1 _ _ _ _ _ k j trivial]) | (refine gJ_iteK ?_ ?_) | (refine gJ_iteP ?_ ?_) | dsimp only)
theorem fr_f_X7_stroke (M : Mm) (u1 : Int32) (u2 : Int32) (u3 : Int32) (k j : Nat) (h : k ≠ 46 ∧ k ≠ 47 ∧ k ≠ 48 ∧ ¬ (k = 44 ∧ j = 5)) : gI (f_X7_stroke M u1 u2 u3).2 k j = gI M k j := by
  unfold f_X7_stroke
  repeat' (first | with_reducible rfl | (rw [gI_off k j (by omega)]) | (rw [gI_sJ]) | (rw [fr_m_X7_stroke_3 _ _ _ _ k j (by omega)]) | (refine gI_iteK ?_ ?_) | (refine gI_iteP ?_ ?_) | dsimp only)
theorem fj_f_X7_stroke (M : Mm) (u1 : Int32) (u2 : Int32) (u3 : Int32) (k j : Nat) (h : True) : gJ (f_X7_stroke M u1 u2 u3).2 k j = gJ M k j := by
  unfold f_X7_stroke
  repeat' (first | with_reducible rfl | (rw [gJ_off k j (by omega)]) | (rw [gJ_sI]) | (rw [fj_m_X7_stroke_3 _ _ _ _ k j trivial]) | (refine gJ_iteK ?_ ?_) | (refine gJ_iteP ?_ ?_) | dsimp only)
theorem fr_m_X7_cut_1 (M : Mm) (u1 : Int32) (k j : Nat) (h : k ≠ 47 ∧ k ≠ 48 ∧ k ≠ 49) : gI (m_X7_cut_1 M u1) k j = gI M k j := by
  unfold m_X7_cut_1
  repeat' (first | with_reducible rfl | (rw [gI_off k j (by omega)]) | (rw [gI_sJ]) | (refine gI_iteK ?_ ?_) | (refine gI_iteP ?_ ?_) | dsimp only)
theorem fj_m_X7_cut_1 (M : Mm) (u1 : Int32) (k j : Nat) (h : ¬ (k = 44 ∧ j = 2)) : gJ (m_X7_cut_1 M u1) k j = gJ M k j := by
  unfold m_X7_cut_1
  repeat' (first | with_reducible rfl | (rw [gJ_off k j (by omega)]) | (rw [gJ_sI]) | (refine gJ_iteK ?_ ?_) | (refine gJ_iteP ?_ ?_) | dsimp only)
theorem fr_f_X7_cut (M : Mm) (u1 : Int32) (k j : Nat) (h : k ≠ 47 ∧ k ≠ 48 ∧ k ≠ 49) : gI (f_X7_cut M u1).2 k j = gI M k j := by
  unfold f_X7_cut
  repeat' (first | with_reducible rfl | (rw [gI_off k j (by omega)]) | (rw [gI_sJ]) | (rw [fr_m_X7_cut_1 _ _ k j (by omega)]) | (refine gI_iteK ?_ ?_) | (refine gI_iteP ?_ ?_) | dsimp only)
theorem fj_f_X7_cut (M : Mm) (u1 : Int32) (k j : Nat) (h : ¬ (k = 44 ∧ j = 2)) : gJ (f_X7_cut M u1).2 k j = gJ M k j := by
  unfold f_X7_cut
  repeat' (first | with_reducible rfl | (rw [gJ_off k j (by omega)]) | (rw [gJ_sI]) | (rw [fj_m_X7_cut_1 _ _ k j (by omega)]) | (refine gJ_iteK ?_ ?_) | (refine gJ_iteP ?_ ?_) | dsimp only)
theorem fr_b_X7_clear_1 (i1 : Nat) (z1 : Mm) (k j : Nat) (h : k ≠ 47 ∧ k ≠ 48 ∧ k ≠ 49) : gI (b_X7_clear_1 i1 z1) k j = gI z1 k j := by
  unfold b_X7_clear_1
  repeat' (first | with_reducible rfl | (rw [gI_off k j (by omega)]) | (rw [gI_sJ]) | (refine gI_iteK ?_ ?_) | (refine gI_iteP ?_ ?_) | dsimp only)
theorem fj_b_X7_clear_1 (i1 : Nat) (z1 : Mm) (k j : Nat) (h : True) : gJ (b_X7_clear_1 i1 z1) k j = gJ z1 k j := by
  unfold b_X7_clear_1
  repeat' (first | with_reducible rfl | (rw [gJ_off k j (by omega)]) | (rw [gJ_sI]) | (refine gJ_iteK ?_ ?_) | (refine gJ_iteP ?_ ?_) | dsimp only)
theorem fr_f_X7_clear (M : Mm) (k j : Nat) (h : k ≠ 47 ∧ k ≠ 48 ∧ k ≠ 49 ∧ ¬ (k = 44 ∧ j = 5)) : gI (f_X7_clear M).2 k j = gI M k j := by
  unfold f_X7_clear
  repeat' (first | with_reducible rfl | (rw [gI_off k j (by omega)]) | (rw [gI_sJ]) | (rw [itr_keepI (fun i z => fr_b_X7_clear_1 i z k j (by omega))]) | (rw [fr_b_X7_clear_1 _ _ k j (by omega)]) | (refine gI_iteK ?_ ?_) | (refine gI_iteP ?_ ?_) | dsimp only)
theorem fj_f_X7_clear (M : Mm) (k j : Nat) (h : True) : gJ (f_X7_clear M).2 k j = gJ M k j := by
  unfold f_X7_clear
  repeat' (first | with_reducible rfl | (rw [gJ_off k j (by omega)]) | (rw [gJ_sI]) | (rw [itr_keepJ (fun i z => fj_b_X7_clear_1 i z k j trivial)]) | (rw [fj_b_X7_clear_1 _ _ k j trivial]) | (refine gJ_iteK ?_ ?_) | (refine gJ_iteP ?_ ?_) | dsimp only)
theorem fr_m_X7_stock_1 (M : Mm) (u1 : Int32) (u2 : Int32) (u3 : Int32) (u4 : Int32) (k j : Nat) (h : k ≠ 50) : gI (m_X7_stock_1 M u1 u2 u3 u4) k j = gI M k j := by
  unfold m_X7_stock_1
  repeat' (first | with_reducible rfl | (rw [gI_off k j (by omega)]) | (rw [gI_sJ]) | (refine gI_iteK ?_ ?_) | (refine gI_iteP ?_ ?_) | dsimp only)
theorem fj_m_X7_stock_1 (M : Mm) (u1 : Int32) (u2 : Int32) (u3 : Int32) (u4 : Int32) (k j : Nat) (h : True) : gJ (m_X7_stock_1 M u1 u2 u3 u4) k j = gJ M k j := by
  unfold m_X7_stock_1
  repeat' (first | with_reducible rfl | (rw [gJ_off k j (by omega)]) | (rw [gJ_sI]) | (refine gJ_iteK ?_ ?_) | (refine gJ_iteP ?_ ?_) | dsimp only)
theorem fr_f_X7_stock (M : Mm) (u1 : Int32) (u2 : Int32) (u3 : Int32) (u4 : Int32) (k j : Nat) (h : k ≠ 50) : gI (f_X7_stock M u1 u2 u3 u4).2 k j = gI M k j := by
  unfold f_X7_stock
  repeat' (first | with_reducible rfl | (rw [gI_off k j (by omega)]) | (rw [gI_sJ]) | (rw [fr_m_X7_stock_1 _ _ _ _ _ k j (by omega)]) | (refine gI_iteK ?_ ?_) | (refine gI_iteP ?_ ?_) | dsimp only)
theorem fj_f_X7_stock (M : Mm) (u1 : Int32) (u2 : Int32) (u3 : Int32) (u4 : Int32) (k j : Nat) (h : True) : gJ (f_X7_stock M u1 u2 u3 u4).2 k j = gJ M k j := by
  unfold f_X7_stock
  repeat' (first | with_reducible rfl | (rw [gJ_off k j (by omega)]) | (rw [gJ_sI]) | (rw [fj_m_X7_stock_1 _ _ _ _ _ k j trivial]) | (refine gJ_iteK ?_ ?_) | (refine gJ_iteP ?_ ?_) | dsimp only)
theorem fr_f_X7_share (M : Mm) (u1 : Int32) (u2 : Int32) (u3 : Int32) (k j : Nat) (h : k ≠ 51) : gI (f_X7_share M u1 u2 u3).2 k j = gI M k j := by
  unfold f_X7_share
  repeat' (first | with_reducible rfl | (rw [gI_off k j (by omega)]) | (rw [gI_sJ]) | (refine gI_iteK ?_ ?_) | (refine gI_iteP ?_ ?_) | dsimp only)
theorem fj_f_X7_share (M : Mm) (u1 : Int32) (u2 : Int32) (u3 : Int32) (k j : Nat) (h : True) : gJ (f_X7_share M u1 u2 u3).2 k j = gJ M k j := by
  unfold f_X7_share
  repeat' (first | with_reducible rfl | (rw [gJ_off k j (by omega)]) | (rw [gJ_sI]) | (refine gJ_iteK ?_ ?_) | (refine gJ_iteP ?_ ?_) | dsimp only)
theorem fr_m_X7_number_1 (M : Mm) (k j : Nat) (h : True) : gI (m_X7_number_1 M) k j = gI M k j := by
  unfold m_X7_number_1
  repeat' (first | with_reducible rfl | (rw [gI_off k j (by omega)]) | (rw [gI_sJ]) | (refine gI_iteK ?_ ?_) | (refine gI_iteP ?_ ?_) | dsimp only)
theorem fj_m_X7_number_1 (M : Mm) (k j : Nat) (h : ¬ (k = 44 ∧ j = 3) ∧ ¬ (k = 44 ∧ j = 4)) : gJ (m_X7_number_1 M) k j = gJ M k j := by
  unfold m_X7_number_1
  repeat' (first | with_reducible rfl | (rw [gJ_off k j (by omega)]) | (rw [gJ_sI]) | (refine gJ_iteK ?_ ?_) | (refine gJ_iteP ?_ ?_) | dsimp only)
theorem fr_f_X7_number (M : Mm) (k j : Nat) (h : k ≠ 45 ∧ ¬ (k = 44 ∧ j = 0)) : gI (f_X7_number M).2 k j = gI M k j := by
  unfold f_X7_number
  repeat' (first | with_reducible rfl | (rw [gI_off k j (by omega)]) | (rw [gI_sJ]) | (rw [fr_f_X7_meets _ _ k j (by omega)]) | (rw [fr_m_X7_number_1 _ k j trivial]) | (refine gI_iteK ?_ ?_) | (refine gI_iteP ?_ ?_) | dsimp only)
theorem fj_f_X7_number (M : Mm) (k j : Nat) (h : ¬ (k = 44 ∧ j = 3) ∧ ¬ (k = 44 ∧ j = 4)) : gJ (f_X7_number M).2 k j = gJ M k j := by
  unfold f_X7_number
  repeat' (first | with_reducible rfl | (rw [gJ_off k j (by omega)]) | (rw [gJ_sI]) | (rw [fj_f_X7_meets _ _ k j trivial]) | (rw [fj_m_X7_number_1 _ k j (by omega)]) | (refine gJ_iteK ?_ ?_) | (refine gJ_iteP ?_ ?_) | dsimp only)
theorem fr_f_X7_aim (M : Mm) (u1 : Int32) (u2 : Int32) (k j : Nat) (h : ¬ (k = 44 ∧ j = 12) ∧ ¬ (k = 44 ∧ j = 13)) : gI (f_X7_aim M u1 u2).2 k j = gI M k j := by
  unfold f_X7_aim
  repeat' (first | with_reducible rfl | (rw [gI_off k j (by omega)]) | (rw [gI_sJ]) | (refine gI_iteK ?_ ?_) | (refine gI_iteP ?_ ?_) | dsimp only)
theorem fj_f_X7_aim (M : Mm) (u1 : Int32) (u2 : Int32) (k j : Nat) (h : True) : gJ (f_X7_aim M u1 u2).2 k j = gJ M k j := by
  unfold f_X7_aim
  repeat' (first | with_reducible rfl | (rw [gJ_off k j (by omega)]) | (rw [gJ_sI]) | (refine gJ_iteK ?_ ?_) | (refine gJ_iteP ?_ ?_) | dsimp only)
theorem fr_f_X7_rule (M : Mm) (u1 : Int32) (u2 : Int32) (k j : Nat) (h : ¬ (k = 44 ∧ j = 14) ∧ ¬ (k = 44 ∧ j = 15)) : gI (f_X7_rule M u1 u2).2 k j = gI M k j := by
  unfold f_X7_rule
  repeat' (first | with_reducible rfl | (rw [gI_off k j (by omega)]) | (rw [gI_sJ]) | (refine gI_iteK ?_ ?_) | (refine gI_iteP ?_ ?_) | dsimp only)
theorem fj_f_X7_rule (M : Mm) (u1 : Int32) (u2 : Int32) (k j : Nat) (h : True) : gJ (f_X7_rule M u1 u2).2 k j = gJ M k j := by
  unfold f_X7_rule
  repeat' (first | with_reducible rfl | (rw [gJ_off k j (by omega)]) | (rw [gJ_sI]) | (refine gJ_iteK ?_ ?_) | (refine gJ_iteP ?_ ?_) | dsimp only)
theorem fr_m_X7_steer_2 (M : Mm) (u1 : Int64) (u2 : Int64) (k j : Nat) (h : k ≠ 51) : gI (m_X7_steer_2 M u1 u2) k j = gI M k j := by
  unfold m_X7_steer_2
  repeat' (first | with_reducible rfl | (rw [gI_off k j (by omega)]) | (rw [gI_sJ]) | (refine gI_iteK ?_ ?_) | (refine gI_iteP ?_ ?_) | dsimp only)
theorem fj_m_X7_steer_2 (M : Mm) (u1 : Int64) (u2 : Int64) (k j : Nat) (h : True) : gJ (m_X7_steer_2 M u1 u2) k j = gJ M k j := by
  unfold m_X7_steer_2
  repeat' (first | with_reducible rfl | (rw [gJ_off k j (by omega)]) | (rw [gJ_sI]) | (refine gJ_iteK ?_ ?_) | (refine gJ_iteP ?_ ?_) | dsimp only)
theorem fr_m_X7_steer_3 (M : Mm) (u1 : Int64) (u2 : Int64) (k j : Nat) (h : k ≠ 51) : gI (m_X7_steer_3 M u1 u2) k j = gI M k j := by
  unfold m_X7_steer_3
  repeat' (first | with_reducible rfl | (rw [gI_off k j (by omega)]) | (rw [gI_sJ]) | (rw [fr_m_X7_steer_2 _ _ _ k j (by omega)]) | (refine gI_iteK ?_ ?_) | (refine gI_iteP ?_ ?_) | dsimp only)
theorem fj_m_X7_steer_3 (M : Mm) (u1 : Int64) (u2 : Int64) (k j : Nat) (h : True) : gJ (m_X7_steer_3 M u1 u2) k j = gJ M k j := by
  unfold m_X7_steer_3
  repeat' (first | with_reducible rfl | (rw [gJ_off k j (by omega)]) | (rw [gJ_sI]) | (rw [fj_m_X7_steer_2 _ _ _ k j trivial]) | (refine gJ_iteK ?_ ?_) | (refine gJ_iteP ?_ ?_) | dsimp only)
theorem fr_f_X7_steer (M : Mm) (u1 : Int64) (u2 : Int64) (k j : Nat) (h : k ≠ 51) : gI (f_X7_steer M u1 u2).2 k j = gI M k j := by
  unfold f_X7_steer
  repeat' (first | with_reducible rfl | (rw [gI_off k j (by omega)]) | (rw [gI_sJ]) | (rw [fr_m_X7_steer_3 _ _ _ k j (by omega)]) | (refine gI_iteK ?_ ?_) | (refine gI_iteP ?_ ?_) | dsimp only)
theorem fj_f_X7_steer (M : Mm) (u1 : Int64) (u2 : Int64) (k j : Nat) (h : True) : gJ (f_X7_steer M u1 u2).2 k j = gJ M k j := by
  unfold f_X7_steer
  repeat' (first | with_reducible rfl | (rw [gJ_off k j (by omega)]) | (rw [gJ_sI]) | (rw [fj_m_X7_steer_3 _ _ _ k j trivial]) | (refine gJ_iteK ?_ ?_) | (refine gJ_iteP ?_ ?_) | dsimp only)
theorem fr_m_X7_hour_1 (M : Mm) (u1 : Int32) (k j : Nat) (h : k ≠ 52) : gI (m_X7_hour_1 M u1) k j = gI M k j := by
  unfold m_X7_hour_1
  repeat' (first | with_reducible rfl | (rw [gI_off k j (by omega)]) | (rw [gI_sJ]) | (refine gI_iteK ?_ ?_) | (refine gI_iteP ?_ ?_) | dsimp only)
theorem fj_m_X7_hour_1 (M : Mm) (u1 : Int32) (k j : Nat) (h : k ≠ 53) : gJ (m_X7_hour_1 M u1) k j = gJ M k j := by
  unfold m_X7_hour_1
  repeat' (first | with_reducible rfl | (rw [gJ_off k j (by omega)]) | (rw [gJ_sI]) | (refine gJ_iteK ?_ ?_) | (refine gJ_iteP ?_ ?_) | dsimp only)
theorem fr_m_X7_hour_2 (M : Mm) (u1 : Int32) (k j : Nat) (h : k ≠ 52 ∧ k ≠ 55 ∧ ¬ (k = 44 ∧ j = 16)) : gI (m_X7_hour_2 M u1) k j = gI M k j := by
  unfold m_X7_hour_2
  repeat' (first | with_reducible rfl | (rw [gI_off k j (by omega)]) | (rw [gI_sJ]) | (rw [fr_m_X7_hour_1 _ _ k j (by omega)]) | (refine gI_iteK ?_ ?_) | (refine gI_iteP ?_ ?_) | dsimp only)
theorem fj_m_X7_hour_2 (M : Mm) (u1 : Int32) (k j : Nat) (h : k ≠ 53 ∧ k ≠ 54) : gJ (m_X7_hour_2 M u1) k j = gJ M k j := by
  unfold m_X7_hour_2
  repeat' (first | with_reducible rfl | (rw [gJ_off k j (by omega)]) | (rw [gJ_sI]) | (rw [fj_m_X7_hour_1 _ _ k j (by omega)]) | (refine gJ_iteK ?_ ?_) | (refine gJ_iteP ?_ ?_) | dsimp only)
theorem fr_m_X7_hour_3 (M : Mm) (i1 : Nat) (z1 : Mm) (k j : Nat) (h : k ≠ 55 ∧ ¬ (k = 44 ∧ j = 21)) : gI (m_X7_hour_3 M i1 z1) k j = gI z1 k j := by
  unfold m_X7_hour_3
  repeat' (first | with_reducible rfl | (rw [gI_off k j (by omega)]) | (rw [gI_sJ]) | (refine gI_iteK ?_ ?_) | (refine gI_iteP ?_ ?_) | dsimp only)
theorem fj_m_X7_hour_3 (M : Mm) (i1 : Nat) (z1 : Mm) (k j : Nat) (h : True) : gJ (m_X7_hour_3 M i1 z1) k j = gJ z1 k j := by
  unfold m_X7_hour_3
  repeat' (first | with_reducible rfl | (rw [gJ_off k j (by omega)]) | (rw [gJ_sI]) | (refine gJ_iteK ?_ ?_) | (refine gJ_iteP ?_ ?_) | dsimp only)
theorem fr_b_X7_hour_1 (M : Mm) (i1 : Nat) (z1 : Mm) (k j : Nat) (h : k ≠ 55 ∧ ¬ (k = 44 ∧ j = 21)) : gI (b_X7_hour_1 M i1 z1) k j = gI z1 k j := by
  unfold b_X7_hour_1
  repeat' (first | with_reducible rfl | (rw [gI_off k j (by omega)]) | (rw [gI_sJ]) | (rw [fr_m_X7_hour_3 _ _ _ k j (by omega)]) | (refine gI_iteK ?_ ?_) | (refine gI_iteP ?_ ?_) | dsimp only)
theorem fj_b_X7_hour_1 (M : Mm) (i1 : Nat) (z1 : Mm) (k j : Nat) (h : True) : gJ (b_X7_hour_1 M i1 z1) k j = gJ z1 k j := by
  unfold b_X7_hour_1
  repeat' (first | with_reducible rfl | (rw [gJ_off k j (by omega)]) | (rw [gJ_sI]) | (rw [fj_m_X7_hour_3 _ _ _ k j trivial]) | (refine gJ_iteK ?_ ?_) | (refine gJ_iteP ?_ ?_) | dsimp only)
theorem fr_l_X7_hour_1 (M : Mm) (z1 : Mm) (k j : Nat) (h : k ≠ 55 ∧ ¬ (k = 44 ∧ j = 21)) : gI (l_X7_hour_1 M z1) k j = gI z1 k j := by
  unfold l_X7_hour_1
  repeat' (first | with_reducible rfl | (rw [gI_off k j (by omega)]) | (rw [gI_sJ]) | (rw [itd_keepI (fun i z => fr_b_X7_hour_1 _ i z k j (by omega))]) | (rw [fr_b_X7_hour_1 _ _ _ k j (by omega)]) | (refine gI_iteK ?_ ?_) | (refine gI_iteP ?_ ?_) | dsimp only)
theorem fj_l_X7_hour_1 (M : Mm) (z1 : Mm) (k j : Nat) (h : True) : gJ (l_X7_hour_1 M z1) k j = gJ z1 k j := by
  unfold l_X7_hour_1
  repeat' (first | with_reducible rfl | (rw [gJ_off k j (by omega)]) | (rw [gJ_sI]) | (rw [itd_keepJ (fun i z => fj_b_X7_hour_1 _ i z k j trivial)]) | (rw [fj_b_X7_hour_1 _ _ _ k j trivial]) | (refine gJ_iteK ?_ ?_) | (refine gJ_iteP ?_ ?_) | dsimp only)
theorem fr_f_X7_hour (M : Mm) (u1 : Int32) (k j : Nat) (h : k ≠ 51 ∧ k ≠ 52 ∧ k ≠ 55 ∧ ¬ (k = 44 ∧ j = 16) ∧ ¬ (k = 44 ∧ j = 21)) : gI (f_X7_hour M u1).2 k j = gI M k j := by
  unfold f_X7_hour
  repeat' (first | with_reducible rfl | (rw [gI_off k j (by omega)]) | (rw [gI_sJ]) | (rw [fr_l_X7_hour_1 _ _ k j (by omega)]) | (rw [fr_m_X7_hour_2 _ _ k j (by omega)]) | (rw [fr_f_X7_steer _ _ _ k j (by omega)]) | (refine gI_iteK ?_ ?_) | (refine gI_iteP ?_ ?_) | dsimp only)
theorem fj_f_X7_hour (M : Mm) (u1 : Int32) (k j : Nat) (h : k ≠ 53 ∧ k ≠ 54) : gJ (f_X7_hour M u1).2 k j = gJ M k j := by
  unfold f_X7_hour
  repeat' (first | with_reducible rfl | (rw [gJ_off k j (by omega)]) | (rw [gJ_sI]) | (rw [fj_l_X7_hour_1 _ _ k j trivial]) | (rw [fj_m_X7_hour_2 _ _ k j (by omega)]) | (rw [fj_f_X7_steer _ _ _ k j trivial]) | (refine gJ_iteK ?_ ?_) | (refine gJ_iteP ?_ ?_) | dsimp only)
theorem fr_f_X7_taken (M : Mm) (u1 : Int32) (u2 : Int32) (k j : Nat) (h : k ≠ 57) : gI (f_X7_taken M u1 u2).2 k j = gI M k j := by
  unfold f_X7_taken
  repeat' (first | with_reducible rfl | (rw [gI_off k j (by omega)]) | (rw [gI_sJ]) | (refine gI_iteK ?_ ?_) | (refine gI_iteP ?_ ?_) | dsimp only)
theorem fj_f_X7_taken (M : Mm) (u1 : Int32) (u2 : Int32) (k j : Nat) (h : True) : gJ (f_X7_taken M u1 u2).2 k j = gJ M k j := by
  unfold f_X7_taken
  repeat' (first | with_reducible rfl | (rw [gJ_off k j (by omega)]) | (rw [gJ_sI]) | (refine gJ_iteK ?_ ?_) | (refine gJ_iteP ?_ ?_) | dsimp only)
theorem fr_m_X7_handOn_1 (u2 : Int32) (i1 : Nat) (z1 : Mm) (k j : Nat) (h : k ≠ 58 ∧ k ≠ 59) : gI (m_X7_handOn_1 u2 i1 z1) k j = gI z1 k j := by
  unfold m_X7_handOn_1
  repeat' (first | with_reducible rfl | (rw [gI_off k j (by omega)]) | (rw [gI_sJ]) | (refine gI_iteK ?_ ?_) | (refine gI_iteP ?_ ?_) | dsimp only)
theorem fj_m_X7_handOn_1 (u2 : Int32) (i1 : Nat) (z1 : Mm) (k j : Nat) (h : True) : gJ (m_X7_handOn_1 u2 i1 z1) k j = gJ z1 k j := by
  unfold m_X7_handOn_1
  repeat' (first | with_reducible rfl | (rw [gJ_off k j (by omega)]) | (rw [gJ_sI]) | (refine gJ_iteK ?_ ?_) | (refine gJ_iteP ?_ ?_) | dsimp only)
theorem fr_b_X7_handOn_1 (u2 : Int32) (i1 : Nat) (z1 : Mm) (k j : Nat) (h : k ≠ 58 ∧ k ≠ 59) : gI (b_X7_handOn_1 u2 i1 z1) k j = gI z1 k j := by
  unfold b_X7_handOn_1
  repeat' (first | with_reducible rfl | (rw [gI_off k j (by omega)]) | (rw [gI_sJ]) | (rw [fr_m_X7_handOn_1 _ _ _ k j (by omega)]) | (refine gI_iteK ?_ ?_) | (refine gI_iteP ?_ ?_) | dsimp only)
theorem fj_b_X7_handOn_1 (u2 : Int32) (i1 : Nat) (z1 : Mm) (k j : Nat) (h : True) : gJ (b_X7_handOn_1 u2 i1 z1) k j = gJ z1 k j := by
  unfold b_X7_handOn_1
  repeat' (first | with_reducible rfl | (rw [gJ_off k j (by omega)]) | (rw [gJ_sI]) | (rw [fj_m_X7_handOn_1 _ _ _ k j trivial]) | (refine gJ_iteK ?_ ?_) | (refine gJ_iteP ?_ ?_) | dsimp only)
theorem fr_m_X7_handOn_3 (i2 : Nat) (z2 : Mm) (k j : Nat) (h : k ≠ 56 ∧ k ≠ 57) : gI (m_X7_handOn_3 i2 z2) k j = gI z2 k j := by
  unfold m_X7_handOn_3
  repeat' (first | with_reducible rfl | (rw [gI_off k j (by omega)]) | (rw [gI_sJ]) | (refine gI_iteK ?_ ?_) | (refine gI_iteP ?_ ?_) | dsimp only)
theorem fj_m_X7_handOn_3 (i2 : Nat) (z2 : Mm) (k j : Nat) (h : True) : gJ (m_X7_handOn_3 i2 z2) k j = gJ z2 k j := by
  unfold m_X7_handOn_3
  repeat' (first | with_reducible rfl | (rw [gJ_off k j (by omega)]) | (rw [gJ_sI]) | (refine gJ_iteK ?_ ?_) | (refine gJ_iteP ?_ ?_) | dsimp only)
theorem fr_m_X7_handOn_4 (i2 : Nat) (z2 : Mm) (k j : Nat) (h : k ≠ 56 ∧ k ≠ 57) : gI (m_X7_handOn_4 i2 z2) k j = gI z2 k j := by
  unfold m_X7_handOn_4
  repeat' (first | with_reducible rfl | (rw [gI_off k j (by omega)]) | (rw [gI_sJ]) | (rw [fr_m_X7_handOn_3 _ _ k j (by omega)]) | (refine gI_iteK ?_ ?_) | (refine gI_iteP ?_ ?_) | dsimp only)
theorem fj_m_X7_handOn_4 (i2 : Nat) (z2 : Mm) (k j : Nat) (h : True) : gJ (m_X7_handOn_4 i2 z2) k j = gJ z2 k j := by
  unfold m_X7_handOn_4
  repeat' (first | with_reducible rfl | (rw [gJ_off k j (by omega)]) | (rw [gJ_sI]) | (rw [fj_m_X7_handOn_3 _ _ k j trivial]) | (refine gJ_iteK ?_ ?_) | (refine gJ_iteP ?_ ?_) | dsimp only)
theorem fr_b_X7_handOn_2 (i2 : Nat) (z2 : Mm) (k j : Nat) (h : k ≠ 56 ∧ k ≠ 57) : gI (b_X7_handOn_2 i2 z2) k j = gI z2 k j := by
  unfold b_X7_handOn_2
  repeat' (first | with_reducible rfl | (rw [gI_off k j (by omega)]) | (rw [gI_sJ]) | (rw [fr_m_X7_handOn_4 _ _ k j (by omega)]) | (refine gI_iteK ?_ ?_) | (refine gI_iteP ?_ ?_) | dsimp only)
theorem fj_b_X7_handOn_2 (i2 : Nat) (z2 : Mm) (k j : Nat) (h : True) : gJ (b_X7_handOn_2 i2 z2) k j = gJ z2 k j := by
  unfold b_X7_handOn_2
  repeat' (first | with_reducible rfl | (rw [gJ_off k j (by omega)]) | (rw [gJ_sI]) | (rw [fj_m_X7_handOn_4 _ _ k j trivial]) | (refine gJ_iteK ?_ ?_) | (refine gJ_iteP ?_ ?_) | dsimp only)
theorem fr_f_X7_handOn (M : Mm) (u1 : Int32) (u2 : Int32) (k j : Nat) (h : k ≠ 56 ∧ k ≠ 57 ∧ k ≠ 58 ∧ k ≠ 59) : gI (f_X7_handOn M u1 u2) k j = gI M k j := by
  unfold f_X7_handOn
  repeat' (first | with_reducible rfl | (rw [gI_off k j (by omega)]) | (rw [gI_sJ]) | (rw [itr_keepI (fun i z => fr_b_X7_handOn_2 i z k j (by omega))]) | (rw [fr_b_X7_handOn_2 _ _ k j (by omega)]) | (rw [itr_keepI (fun i z => fr_b_X7_handOn_1 _ i z k j (by omega))]) | (rw [fr_b_X7_handOn_1 _ _ _ k j (by omega)]) | (refine gI_iteK ?_ ?_) | (refine gI_iteP ?_ ?_) | dsimp only)
theorem fj_f_X7_handOn (M : Mm) (u1 : Int32) (u2 : Int32) (k j : Nat) (h : True) : gJ (f_X7_handOn M u1 u2) k j = gJ M k j := by
  unfold f_X7_handOn
  repeat' (first | with_reducible rfl | (rw [gJ_off k j (by omega)]) | (rw [gJ_sI]) | (rw [itr_keepJ (fun i z => fj_b_X7_handOn_2 i z k j trivial)]) | (rw [fj_b_X7_handOn_2 _ _ k j trivial]) | (rw [itr_keepJ (fun i z => fj_b_X7_handOn_1 _ i z k j trivial)]) | (rw [fj_b_X7_handOn_1 _ _ _ k j trivial]) | (refine gJ_iteK ?_ ?_) | (refine gJ_iteP ?_ ?_) | dsimp only)
theorem fr_m_X7_addLot_1 (M : Mm) (u1 : Int32) (k j : Nat) (h : k ≠ 62 ∧ k ≠ 63) : gI (m_X7_addLot_1 M u1) k j = gI M k j := by
  unfold m_X7_addLot_1
  repeat' (first | with_reducible rfl | (rw [gI_off k j (by omega)]) | (rw [gI_sJ]) | (refine gI_iteK ?_ ?_) | (refine gI_iteP ?_ ?_) | dsimp only)
theorem fj_m_X7_addLot_1 (M : Mm) (u1 : Int32) (k j : Nat) (h : True) : gJ (m_X7_addLot_1 M u1) k j = gJ M k j := by
  unfold m_X7_addLot_1
  repeat' (first | with_reducible rfl | (rw [gJ_off k j (by omega)]) | (rw [gJ_sI]) | (refine gJ_iteK ?_ ?_) | (refine gJ_iteP ?_ ?_) | dsimp only)
theorem fr_f_X7_addLot (M : Mm) (u1 : Int32) (u2 : Int32) (k j : Nat) (h : k ≠ 62 ∧ k ≠ 63 ∧ k ≠ 64 ∧ ¬ (k = 44 ∧ j = 31)) : gI (f_X7_addLot M u1 u2) k j = gI M k j := by
  unfold f_X7_addLot
  repeat' (first | with_reducible rfl | (rw [gI_off k j (by omega)]) | (rw [gI_sJ]) | (rw [fr_m_X7_addLot_1 _ _ k j (by omega)]) | (refine gI_iteK ?_ ?_) | (refine gI_iteP ?_ ?_) | dsimp only)
theorem fj_f_X7_addLot (M : Mm) (u1 : Int32) (u2 : Int32) (k j : Nat) (h : True) : gJ (f_X7_addLot M u1 u2) k j = gJ M k j := by
  unfold f_X7_addLot
  repeat' (first | with_reducible rfl | (rw [gJ_off k j (by omega)]) | (rw [gJ_sI]) | (rw [fj_m_X7_addLot_1 _ _ k j trivial]) | (refine gJ_iteK ?_ ?_) | (refine gJ_iteP ?_ ?_) | dsimp only)
theorem fr_f_X7_start (M : Mm) (k j : Nat) (h : ¬ (k = 44 ∧ j = 23) ∧ ¬ (k = 44 ∧ j = 30)) : gI (f_X7_start M).2 k j = gI M k j := by
  unfold f_X7_start
  repeat' (first | with_reducible rfl | (rw [gI_off k j (by omega)]) | (rw [gI_sJ]) | (refine gI_iteK ?_ ?_) | (refine gI_iteP ?_ ?_) | dsimp only)
theorem fj_f_X7_start (M : Mm) (k j : Nat) (h : True) : gJ (f_X7_start M).2 k j = gJ M k j := by
  unfold f_X7_start
  repeat' (first | with_reducible rfl | (rw [gJ_off k j (by omega)]) | (rw [gJ_sI]) | (refine gJ_iteK ?_ ?_) | (refine gJ_iteP ?_ ?_) | dsimp only)
theorem fr_f_X7_warmth (M : Mm) (u1 : Int32) (u2 : Int32) (k j : Nat) (h : k ≠ 45 ∧ ¬ (k = 44 ∧ j = 0)) : gI (f_X7_warmth M u1 u2).2 k j = gI M k j := by
  unfold f_X7_warmth
  repeat' (first | with_reducible rfl | (rw [gI_off k j (by omega)]) | (rw [gI_sJ]) | (rw [fr_f_X7_meets _ _ k j (by omega)]) | (refine gI_iteK ?_ ?_) | (refine gI_iteP ?_ ?_) | dsimp only)
theorem fj_f_X7_warmth (M : Mm) (u1 : Int32) (u2 : Int32) (k j : Nat) (h : True) : gJ (f_X7_warmth M u1 u2).2 k j = gJ M k j := by
  unfold f_X7_warmth
  repeat' (first | with_reducible rfl | (rw [gJ_off k j (by omega)]) | (rw [gJ_sI]) | (rw [fj_f_X7_meets _ _ k j trivial]) | (refine gJ_iteK ?_ ?_) | (refine gJ_iteP ?_ ?_) | dsimp only)
theorem fr_f_X7_sum (M : Mm) (u1 : Int32) (k j : Nat) (h : True) : gI (f_X7_sum M u1).2 k j = gI M k j := by
  unfold f_X7_sum
  repeat' (first | with_reducible rfl | (rw [gI_off k j (by omega)]) | (rw [gI_sJ]) | (rw [fr_f_X7_tell _ _ _ k j trivial]) | (refine gI_iteK ?_ ?_) | (refine gI_iteP ?_ ?_) | dsimp only)
theorem fj_f_X7_sum (M : Mm) (u1 : Int32) (k j : Nat) (h : ¬ (k = 44 ∧ j = 2)) : gJ (f_X7_sum M u1).2 k j = gJ M k j := by
  unfold f_X7_sum
  repeat' (first | with_reducible rfl | (rw [gJ_off k j (by omega)]) | (rw [gJ_sI]) | (rw [fj_f_X7_tell _ _ _ k j (by omega)]) | (refine gJ_iteK ?_ ?_) | (refine gJ_iteP ?_ ?_) | dsimp only)
theorem fr_b_X7_step_1 (i1 : Nat) (z1 : Int32 × Mm) (k j : Nat) (h : k ≠ 57) : gI (b_X7_step_1 i1 z1).2 k j = gI z1.2 k j := by
  unfold b_X7_step_1
  repeat' (first | with_reducible rfl | (rw [gI_off k j (by omega)]) | (rw [gI_sJ]) | (rw [fr_f_X7_taken _ _ _ k j (by omega)]) | (refine gI_iteK ?_ ?_) | (refine gI_iteP ?_ ?_) | dsimp only)
theorem fj_b_X7_step_1 (i1 : Nat) (z1 : Int32 × Mm) (k j : Nat) (h : True) : gJ (b_X7_step_1 i1 z1).2 k j = gJ z1.2 k j := by
  unfold b_X7_step_1
  repeat' (first | with_reducible rfl | (rw [gJ_off k j (by omega)]) | (rw [gJ_sI]) | (rw [fj_f_X7_taken _ _ _ k j trivial]) | (refine gJ_iteK ?_ ?_) | (refine gJ_iteP ?_ ?_) | dsimp only)
theorem fr_l_X7_step_1 (z1 : Int32 × Mm) (k j : Nat) (h : k ≠ 57) : gI (l_X7_step_1 z1).2 k j = gI z1.2 k j := by
  unfold l_X7_step_1
  repeat' (first | with_reducible rfl | (rw [gI_off k j (by omega)]) | (rw [gI_sJ]) | (rw [itd_keepIP (fun i z => fr_b_X7_step_1 i z k j (by omega))]) | (rw [fr_b_X7_step_1 _ _ k j (by omega)]) | (refine gI_iteK ?_ ?_) | (refine gI_iteP ?_ ?_) | dsimp only)
theorem fj_l_X7_step_1 (z1 : Int32 × Mm) (k j : Nat) (h : True) : gJ (l_X7_step_1 z1).2 k j = gJ z1.2 k j := by
  unfold l_X7_step_1
  repeat' (first | with_reducible rfl | (rw [gJ_off k j (by omega)]) | (rw [gJ_sI]) | (rw [itd_keepJP (fun i z => fj_b_X7_step_1 i z k j trivial)]) | (rw [fj_b_X7_step_1 _ _ k j trivial]) | (refine gJ_iteK ?_ ?_) | (refine gJ_iteP ?_ ?_) | dsimp only)
theorem fr_m_X7_step_2 (M : Mm) (u2 : Int32) (k j : Nat) (h : k ≠ 57) : gI (m_X7_step_2 M u2) k j = gI M k j := by
  unfold m_X7_step_2
  repeat' (first | with_reducible rfl | (rw [gI_off k j (by omega)]) | (rw [gI_sJ]) | (rw [fr_l_X7_step_1 _ k j (by omega)]) | (refine gI_iteK ?_ ?_) | (refine gI_iteP ?_ ?_) | dsimp only)
theorem fj_m_X7_step_2 (M : Mm) (u2 : Int32) (k j : Nat) (h : True) : gJ (m_X7_step_2 M u2) k j = gJ M k j := by
  unfold m_X7_step_2
  repeat' (first | with_reducible rfl | (rw [gJ_off k j (by omega)]) | (rw [gJ_sI]) | (rw [fj_l_X7_step_1 _ k j trivial]) | (refine gJ_iteK ?_ ?_) | (refine gJ_iteP ?_ ?_) | dsimp only)
theorem fr_m_X7_step_3 (M : Mm) (u1 : Int32) (u2 : Int32) (u3 : Int32) (k j : Nat) (h : k ≠ 56 ∧ k ≠ 57 ∧ k ≠ 58 ∧ k ≠ 59 ∧ k ≠ 60) : gI (m_X7_step_3 M u1 u2 u3) k j = gI M k j := by
  unfold m_X7_step_3
  repeat' (first | with_reducible rfl | (rw [gI_off k j (by omega)]) | (rw [gI_sJ]) | (rw [fr_f_X7_handOn _ _ _ k j (by omega)]) | (rw [fr_m_X7_step_2 _ _ k j (by omega)]) | (refine gI_iteK ?_ ?_) | (refine gI_iteP ?_ ?_) | dsimp only)
theorem fj_m_X7_step_3 (M : Mm) (u1 : Int32) (u2 : Int32) (u3 : Int32) (k j : Nat) (h : True) : gJ (m_X7_step_3 M u1 u2 u3) k j = gJ M k j := by
  unfold m_X7_step_3
  repeat' (first | with_reducible rfl | (rw [gJ_off k j (by omega)]) | (rw [gJ_sI]) | (rw [fj_f_X7_handOn _ _ _ k j trivial]) | (rw [fj_m_X7_step_2 _ _ k j trivial]) | (refine gJ_iteK ?_ ?_) | (refine gJ_iteP ?_ ?_) | dsimp only)
theorem fr_m_X7_step_4 (M : Mm) (u1 : Int32) (u2 : Int32) (u3 : Int32) (k j : Nat) (h : k ≠ 56 ∧ k ≠ 57 ∧ k ≠ 58 ∧ k ≠ 59 ∧ k ≠ 60) : gI (m_X7_step_4 M u1 u2 u3) k j = gI M k j := by
  unfold m_X7_step_4
  repeat' (first | with_reducible rfl | (rw [gI_off k j (by omega)]) | (rw [gI_sJ]) | (rw [fr_m_X7_step_3 _ _ _ _ k j (by omega)]) | (refine gI_iteK ?_ ?_) | (refine gI_iteP ?_ ?_) | dsimp only)
theorem fj_m_X7_step_4 (M : Mm) (u1 : Int32) (u2 : Int32) (u3 : Int32) (k j : Nat) (h : True) : gJ (m_X7_step_4 M u1 u2 u3) k j = gJ M k j := by
  unfold m_X7_step_4
  repeat' (first | with_reducible rfl | (rw [gJ_off k j (by omega)]) | (rw [gJ_sI]) | (rw [fj_m_X7_step_3 _ _ _ _ k j trivial]) | (refine gJ_iteK ?_ ?_) | (refine gJ_iteP ?_ ?_) | dsimp only)
theorem fr_m_X7_step_5 (M : Mm) (u1 : Int32) (u2 : Int32) (u3 : Int32) (k j : Nat) (h : k ≠ 56 ∧ k ≠ 57 ∧ k ≠ 58 ∧ k ≠ 59 ∧ k ≠ 60) : gI (m_X7_step_5 M u1 u2 u3) k j = gI M k j := by
  unfold m_X7_step_5
  repeat' (first | with_reducible rfl | (rw [gI_off k j (by omega)]) | (rw [gI_sJ]) | (rw [fr_m_X7_step_4 _ _ _ _ k j (by omega)]) | (refine gI_iteK ?_ ?_) | (refine gI_iteP ?_ ?_) | dsimp only)
theorem fj_m_X7_step_5 (M : Mm) (u1 : Int32) (u2 : Int32) (u3 : Int32) (k j : Nat) (h : True) : gJ (m_X7_step_5 M u1 u2 u3) k j = gJ M k j := by
  unfold m_X7_step_5
  repeat' (first | with_reducible rfl | (rw [gJ_off k j (by omega)]) | (rw [gJ_sI]) | (rw [fj_m_X7_step_4 _ _ _ _ k j trivial]) | (refine gJ_iteK ?_ ?_) | (refine gJ_iteP ?_ ?_) | dsimp only)
theorem fr_m_X7_step_6 (M : Mm) (u1 : Int32) (u2 : Int32) (u3 : Int32) (k j : Nat) (h : k ≠ 56 ∧ k ≠ 57 ∧ k ≠ 58 ∧ k ≠ 59 ∧ k ≠ 60) : gI (m_X7_step_6 M u1 u2 u3) k j = gI M k j := by
  unfold m_X7_step_6
  repeat' (first | with_reducible rfl | (rw [gI_off k j (by omega)]) | (rw [gI_sJ]) | (rw [fr_m_X7_step_5 _ _ _ _ k j (by omega)]) | (rw [fr_l_X7_step_1 _ k j (by omega)]) | (refine gI_iteK ?_ ?_) | (refine gI_iteP ?_ ?_) | dsimp only)
theorem fj_m_X7_step_6 (M : Mm) (u1 : Int32) (u2 : Int32) (u3 : Int32) (k j : Nat) (h : True) : gJ (m_X7_step_6 M u1 u2 u3) k j = gJ M k j := by
  unfold m_X7_step_6
  repeat' (first | with_reducible rfl | (rw [gJ_off k j (by omega)]) | (rw [gJ_sI]) | (rw [fj_m_X7_step_5 _ _ _ _ k j trivial]) | (rw [fj_l_X7_step_1 _ k j trivial]) | (refine gJ_iteK ?_ ?_) | (refine gJ_iteP ?_ ?_) | dsimp only)
theorem fr_m_X7_step_7 (M : Mm) (u1 : Int32) (u2 : Int32) (u3 : Int32) (k j : Nat) (h : k ≠ 56 ∧ k ≠ 57 ∧ k ≠ 58 ∧ k ≠ 59 ∧ k ≠ 60 ∧ k ≠ 62 ∧ k ≠ 63 ∧ k ≠ 64 ∧ ¬ (k = 44 ∧ j = 31)) : gI (m_X7_step_7 M u1 u2 u3) k j = gI M k j := by
  unfold m_X7_step_7
  repeat' (first | with_reducible rfl | (rw [gI_off k j (by omega)]) | (rw [gI_sJ]) | (rw [fr_m_X7_step_6 _ _ _ _ k j (by omega)]) | (rw [fr_f_X7_addLot _ _ _ k j (by omega)]) | (refine gI_iteK ?_ ?_) | (refine gI_iteP ?_ ?_) | dsimp only)
theorem fj_m_X7_step_7 (M : Mm) (u1 : Int32) (u2 : Int32) (u3 : Int32) (k j : Nat) (h : True) : gJ (m_X7_step_7 M u1 u2 u3) k j = gJ M k j := by
  unfold m_X7_step_7
  repeat' (first | with_reducible rfl | (rw [gJ_off k j (by omega)]) | (rw [gJ_sI]) | (rw [fj_m_X7_step_6 _ _ _ _ k j trivial]) | (rw [fj_f_X7_addLot _ _ _ k j trivial]) | (refine gJ_iteK ?_ ?_) | (refine gJ_iteP ?_ ?_) | dsimp only)
theorem fr_m_X7_step_8 (M : Mm) (u1 : Int32) (u2 : Int32) (u3 : Int32) (k j : Nat) (h : k ≠ 56 ∧ k ≠ 57 ∧ k ≠ 58 ∧ k ≠ 59 ∧ k ≠ 60 ∧ k ≠ 62 ∧ k ≠ 63 ∧ k ≠ 64 ∧ ¬ (k = 44 ∧ j = 31)) : gI (m_X7_step_8 M u1 u2 u3) k j = gI M k j := by
  unfold m_X7_step_8
  repeat' (first | with_reducible rfl | (rw [gI_off k j (by omega)]) | (rw [gI_sJ]) | (rw [fr_m_X7_step_7 _ _ _ _ k j (by omega)]) | (refine gI_iteK ?_ ?_) | (refine gI_iteP ?_ ?_) | dsimp only)
theorem fj_m_X7_step_8 (M : Mm) (u1 : Int32) (u2 : Int32) (u3 : Int32) (k j : Nat) (h : True) : gJ (m_X7_step_8 M u1 u2 u3) k j = gJ M k j := by
  unfold m_X7_step_8
  repeat' (first | with_reducible rfl | (rw [gJ_off k j (by omega)]) | (rw [gJ_sI]) | (rw [fj_m_X7_step_7 _ _ _ _ k j trivial]) | (refine gJ_iteK ?_ ?_) | (refine gJ_iteP ?_ ?_) | dsimp only)
theorem fr_m_X7_step_9 (M : Mm) (u1 : Int32) (u2 : Int32) (u3 : Int32) (k j : Nat) (h : k ≠ 56 ∧ k ≠ 57 ∧ k ≠ 58 ∧ k ≠ 59 ∧ k ≠ 60 ∧ k ≠ 62 ∧ k ≠ 63 ∧ k ≠ 64 ∧ ¬ (k = 44 ∧ j = 23) ∧ ¬ (k = 44 ∧ j = 31)) : gI (m_X7_step_9 M u1 u2 u3) k j = gI M k j := by
  unfold m_X7_step_9
  repeat' (first | with_reducible rfl | (rw [gI_off k j (by omega)]) | (rw [gI_sJ]) | (rw [fr_m_X7_step_8 _ _ _ _ k j (by omega)]) | (refine gI_iteK ?_ ?_) | (refine gI_iteP ?_ ?_) | dsimp only)
theorem fj_m_X7_step_9 (M : Mm) (u1 : Int32) (u2 : Int32) (u3 : Int32) (k j : Nat) (h : True) : gJ (m_X7_step_9 M u1 u2 u3) k j = gJ M k j := by
  unfold m_X7_step_9
  repeat' (first | with_reducible rfl | (rw [gJ_off k j (by omega)]) | (rw [gJ_sI]) | (rw [fj_m_X7_step_8 _ _ _ _ k j trivial]) | (refine gJ_iteK ?_ ?_) | (refine gJ_iteP ?_ ?_) | dsimp only)
theorem fr_m_X7_step_10 (M : Mm) (u1 : Int32) (u2 : Int32) (u3 : Int32) (k j : Nat) (h : k ≠ 56 ∧ k ≠ 57 ∧ k ≠ 58 ∧ k ≠ 59 ∧ k ≠ 60 ∧ k ≠ 62 ∧ k ≠ 63 ∧ k ≠ 64 ∧ ¬ (k = 44 ∧ j = 23) ∧ ¬ (k = 44 ∧ j = 30) ∧ ¬ (k = 44 ∧ j = 31)) : gI (m_X7_step_10 M u1 u2 u3) k j = gI M k j := by
  unfold m_X7_step_10
  repeat' (first | with_reducible rfl | (rw [gI_off k j (by omega)]) | (rw [gI_sJ]) | (rw [fr_m_X7_step_9 _ _ _ _ k j (by omega)]) | (rw [fr_m_X7_step_7 _ _ _ _ k j (by omega)]) | (refine gI_iteK ?_ ?_) | (refine gI_iteP ?_ ?_) | dsimp only)
theorem fj_m_X7_step_10 (M : Mm) (u1 : Int32) (u2 : Int32) (u3 : Int32) (k j : Nat) (h : True) : gJ (m_X7_step_10 M u1 u2 u3) k j = gJ M k j := by
  unfold m_X7_step_10
  repeat' (first | with_reducible rfl | (rw [gJ_off k j (by omega)]) | (rw [gJ_sI]) | (rw [fj_m_X7_step_9 _ _ _ _ k j trivial]) | (rw [fj_m_X7_step_7 _ _ _ _ k j trivial]) | (refine gJ_iteK ?_ ?_) | (refine gJ_iteP ?_ ?_) | dsimp only)
theorem fr_m_X7_step_11 (M : Mm) (u1 : Int32) (u2 : Int32) (u3 : Int32) (k j : Nat) (h : k ≠ 56 ∧ k ≠ 57 ∧ k ≠ 58 ∧ k ≠ 59 ∧ k ≠ 60 ∧ k ≠ 62 ∧ k ≠ 63 ∧ k ≠ 64 ∧ ¬ (k = 44 ∧ j = 23) ∧ ¬ (k = 44 ∧ j = 30) ∧ ¬ (k = 44 ∧ j = 31)) : gI (m_X7_step_11 M u1 u2 u3) k j = gI M k j := by
  unfold m_X7_step_11
  repeat' (first | with_reducible rfl | (rw [gI_off k j (by omega)]) | (rw [gI_sJ]) | (rw [fr_m_X7_step_10 _ _ _ _ k j (by omega)]) | (refine gI_iteK ?_ ?_) | (refine gI_iteP ?_ ?_) | dsimp only)
theorem fj_m_X7_step_11 (M : Mm) (u1 : Int32) (u2 : Int32) (u3 : Int32) (k j : Nat) (h : k ≠ 61) : gJ (m_X7_step_11 M u1 u2 u3) k j = gJ M k j := by
  unfold m_X7_step_11
  repeat' (first | with_reducible rfl | (rw [gJ_off k j (by omega)]) | (rw [gJ_sI]) | (rw [fj_m_X7_step_10 _ _ _ _ k j trivial]) | (refine gJ_iteK ?_ ?_) | (refine gJ_iteP ?_ ?_) | dsimp only)
theorem fr_m_X7_step_12 (M : Mm) (u1 : Int32) (u2 : Int32) (u3 : Int32) (k j : Nat) (h : k ≠ 56 ∧ k ≠ 57 ∧ k ≠ 58 ∧ k ≠ 59 ∧ k ≠ 60 ∧ k ≠ 62 ∧ k ≠ 63 ∧ k ≠ 64 ∧ ¬ (k = 44 ∧ j = 23) ∧ ¬ (k = 44 ∧ j = 30) ∧ ¬ (k = 44 ∧ j = 31)) : gI (m_X7_step_12 M u1 u2 u3) k j = gI M k j := by
  unfold m_X7_step_12
  repeat' (first | with_reducible rfl | (rw [gI_off k j (by omega)]) | (rw [gI_sJ]) | (rw [fr_m_X7_step_11 _ _ _ _ k j (by omega)]) | (refine gI_iteK ?_ ?_) | (refine gI_iteP ?_ ?_) | dsimp only)
theorem fj_m_X7_step_12 (M : Mm) (u1 : Int32) (u2 : Int32) (u3 : Int32) (k j : Nat) (h : k ≠ 61) : gJ (m_X7_step_12 M u1 u2 u3) k j = gJ M k j := by
  unfold m_X7_step_12
  repeat' (first | with_reducible rfl | (rw [gJ_off k j (by omega)]) | (rw [gJ_sI]) | (rw [fj_m_X7_step_11 _ _ _ _ k j (by omega)]) | (refine gJ_iteK ?_ ?_) | (refine gJ_iteP ?_ ?_) | dsimp only)
theorem fr_m_X7_step_13 (M : Mm) (u1 : Int32) (u2 : Int32) (u3 : Int32) (k j : Nat) (h : k ≠ 56 ∧ k ≠ 57 ∧ k ≠ 58 ∧ k ≠ 59 ∧ k ≠ 60 ∧ k ≠ 62 ∧ k ≠ 63 ∧ k ≠ 64 ∧ ¬ (k = 44 ∧ j = 23) ∧ ¬ (k = 44 ∧ j = 30) ∧ ¬ (k = 44 ∧ j = 31)) : gI (m_X7_step_13 M u1 u2 u3) k j = gI M k j := by
  unfold m_X7_step_13
  repeat' (first | with_reducible rfl | (rw [gI_off k j (by omega)]) | (rw [gI_sJ]) | (rw [fr_m_X7_step_12 _ _ _ _ k j (by omega)]) | (rw [fr_l_X7_step_1 _ k j (by omega)]) | (refine gI_iteK ?_ ?_) | (refine gI_iteP ?_ ?_) | dsimp only)
theorem fj_m_X7_step_13 (M : Mm) (u1 : Int32) (u2 : Int32) (u3 : Int32) (k j : Nat) (h : k ≠ 61) : gJ (m_X7_step_13 M u1 u2 u3) k j = gJ M k j := by
  unfold m_X7_step_13
  repeat' (first | with_reducible rfl | (rw [gJ_off k j (by omega)]) | (rw [gJ_sI]) | (rw [fj_m_X7_step_12 _ _ _ _ k j (by omega)]) | (rw [fj_l_X7_step_1 _ k j trivial]) | (refine gJ_iteK ?_ ?_) | (refine gJ_iteP ?_ ?_) | dsimp only)
theorem fr_f_X7_step (M : Mm) (u1 : Int32) (u2 : Int32) (u3 : Int32) (k j : Nat) (h : k ≠ 56 ∧ k ≠ 57 ∧ k ≠ 58 ∧ k ≠ 59 ∧ k ≠ 60 ∧ k ≠ 62 ∧ k ≠ 63 ∧ k ≠ 64 ∧ ¬ (k = 44 ∧ j = 22) ∧ ¬ (k = 44 ∧ j = 23) ∧ ¬ (k = 44 ∧ j = 30) ∧ ¬ (k = 44 ∧ j = 31)) : gI (f_X7_step M u1 u2 u3).2 k j = gI M k j := by
  unfold f_X7_step
  repeat' (first | with_reducible rfl | (rw [gI_off k j (by omega)]) | (rw [gI_sJ]) | (rw [fr_m_X7_step_13 _ _ _ _ k j (by omega)]) | (refine gI_iteK ?_ ?_) | (refine gI_iteP ?_ ?_) | dsimp only)
theorem fj_f_X7_step (M : Mm) (u1 : Int32) (u2 : Int32) (u3 : Int32) (k j : Nat) (h : k ≠ 61) : gJ (f_X7_step M u1 u2 u3).2 k j = gJ M k j := by
  unfold f_X7_step
  repeat' (first | with_reducible rfl | (rw [gJ_off k j (by omega)]) | (rw [gJ_sI]) | (rw [fj_m_X7_step_13 _ _ _ _ k j (by omega)]) | (refine gJ_iteK ?_ ?_) | (refine gJ_iteP ?_ ?_) | dsimp only)
theorem fr_b_X7_day_1 (u1 : Int32) (i1 : Nat) (z1 : Mm) (k j : Nat) (h : k ≠ 68) : gI (b_X7_day_1 u1 i1 z1) k j = gI z1 k j := by
  unfold b_X7_day_1
  repeat' (first | with_reducible rfl | (rw [gI_off k j (by omega)]) | (rw [gI_sJ]) | (refine gI_iteK ?_ ?_) | (refine gI_iteP ?_ ?_) | dsimp only)
theorem fj_b_X7_day_1 (u1 : Int32) (i1 : Nat) (z1 : Mm) (k j : Nat) (h : True) : gJ (b_X7_day_1 u1 i1 z1) k j = gJ z1 k j := by
  unfold b_X7_day_1
  repeat' (first | with_reducible rfl | (rw [gJ_off k j (by omega)]) | (rw [gJ_sI]) | (refine gJ_iteK ?_ ?_) | (refine gJ_iteP ?_ ?_) | dsimp only)
theorem fr_f_X7_day (M : Mm) (u1 : Int32) (k j : Nat) (h : k ≠ 67 ∧ k ≠ 68) : gI (f_X7_day M u1).2 k j = gI M k j := by
  unfold f_X7_day
  repeat' (first | with_reducible rfl | (rw [gI_off k j (by omega)]) | (rw [gI_sJ]) | (rw [itr_keepI (fun i z => fr_b_X7_day_1 _ i z k j (by omega))]) | (rw [fr_b_X7_day_1 _ _ _ k j (by omega)]) | (refine gI_iteK ?_ ?_) | (refine gI_iteP ?_ ?_) | dsimp only)
theorem fj_f_X7_day (M : Mm) (u1 : Int32) (k j : Nat) (h : True) : gJ (f_X7_day M u1).2 k j = gJ M k j := by
  unfold f_X7_day
  repeat' (first | with_reducible rfl | (rw [gJ_off k j (by omega)]) | (rw [gJ_sI]) | (rw [itr_keepJ (fun i z => fj_b_X7_day_1 _ i z k j trivial)]) | (rw [fj_b_X7_day_1 _ _ _ k j trivial]) | (refine gJ_iteK ?_ ?_) | (refine gJ_iteP ?_ ?_) | dsimp only)
theorem fr_f_X7_price (M : Mm) (u1 : Int32) (u2 : Int32) (u3 : Int32) (k j : Nat) (h : k ≠ 45 ∧ k ≠ 68 ∧ ¬ (k = 44 ∧ j = 0)) : gI (f_X7_price M u1 u2 u3).2 k j = gI M k j := by
  unfold f_X7_price
  repeat' (first | with_reducible rfl | (rw [gI_off k j (by omega)]) | (rw [gI_sJ]) | (rw [fr_f_X7_meets _ _ k j (by omega)]) | (refine gI_iteK ?_ ?_) | (refine gI_iteP ?_ ?_) | dsimp only)
theorem fj_f_X7_price (M : Mm) (u1 : Int32) (u2 : Int32) (u3 : Int32) (k j : Nat) (h : True) : gJ (f_X7_price M u1 u2 u3).2 k j = gJ M k j := by
  unfold f_X7_price
  repeat' (first | with_reducible rfl | (rw [gJ_off k j (by omega)]) | (rw [gJ_sI]) | (rw [fj_f_X7_meets _ _ k j trivial]) | (refine gJ_iteK ?_ ?_) | (refine gJ_iteP ?_ ?_) | dsimp only)
theorem fr_f_X7_tear (M : Mm) (u1 : Int32) (k j : Nat) (h : k ≠ 45 ∧ k ≠ 67 ∧ ¬ (k = 44 ∧ j = 0)) : gI (f_X7_tear M u1).2 k j = gI M k j := by
  unfold f_X7_tear
  repeat' (first | with_reducible rfl | (rw [gI_off k j (by omega)]) | (rw [gI_sJ]) | (rw [fr_f_X7_meets _ _ k j (by omega)]) | (refine gI_iteK ?_ ?_) | (refine gI_iteP ?_ ?_) | dsimp only)
theorem fj_f_X7_tear (M : Mm) (u1 : Int32) (k j : Nat) (h : True) : gJ (f_X7_tear M u1).2 k j = gJ M k j := by
  unfold f_X7_tear
  repeat' (first | with_reducible rfl | (rw [gJ_off k j (by omega)]) | (rw [gJ_sI]) | (rw [fj_f_X7_meets _ _ k j trivial]) | (refine gJ_iteK ?_ ?_) | (refine gJ_iteP ?_ ?_) | dsimp only)
theorem fr_f_X7_need (M : Mm) (u1 : Int32) (u2 : Int32) (k j : Nat) (h : k ≠ 69) : gI (f_X7_need M u1 u2).2 k j = gI M k j := by
  unfold f_X7_need
  repeat' (first | with_reducible rfl | (rw [gI_off k j (by omega)]) | (rw [gI_sJ]) | (refine gI_iteK ?_ ?_) | (refine gI_iteP ?_ ?_) | dsimp only)
theorem fj_f_X7_need (M : Mm) (u1 : Int32) (u2 : Int32) (k j : Nat) (h : True) : gJ (f_X7_need M u1 u2).2 k j = gJ M k j := by
  unfold f_X7_need
  repeat' (first | with_reducible rfl | (rw [gJ_off k j (by omega)]) | (rw [gJ_sI]) | (refine gJ_iteK ?_ ?_) | (refine gJ_iteP ?_ ?_) | dsimp only)
theorem fr_m_X7_bag_1 (u1 : Int32) (i1 : Nat) (z1 : Int32 × Mm) (k j : Nat) (h : k ≠ 64 ∧ k ≠ 65 ∧ k ≠ 66 ∧ ¬ (k = 44 ∧ j = 35)) : gI (m_X7_bag_1 u1 i1 z1) k j = gI z1.2 k j := by
  unfold m_X7_bag_1
  repeat' (first | with_reducible rfl | (rw [gI_off k j (by omega)]) | (rw [gI_sJ]) | (refine gI_iteK ?_ ?_) | (refine gI_iteP ?_ ?_) | dsimp only)
theorem fj_m_X7_bag_1 (u1 : Int32) (i1 : Nat) (z1 : Int32 × Mm) (k j : Nat) (h : True) : gJ (m_X7_bag_1 u1 i1 z1) k j = gJ z1.2 k j := by
  unfold m_X7_bag_1
  repeat' (first | with_reducible rfl | (rw [gJ_off k j (by omega)]) | (rw [gJ_sI]) | (refine gJ_iteK ?_ ?_) | (refine gJ_iteP ?_ ?_) | dsimp only)
theorem fr_b_X7_bag_1 (u1 : Int32) (i1 : Nat) (z1 : Int32 × Mm) (k j : Nat) (h : k ≠ 64 ∧ k ≠ 65 ∧ k ≠ 66 ∧ ¬ (k = 44 ∧ j = 35)) : gI (b_X7_bag_1 u1 i1 z1).2 k j = gI z1.2 k j := by
  unfold b_X7_bag_1
  repeat' (first | with_reducible rfl | (rw [gI_off k j (by omega)]) | (rw [gI_sJ]) | (rw [fr_m_X7_bag_1 _ _ _ k j (by omega)]) | (refine gI_iteK ?_ ?_) | (refine gI_iteP ?_ ?_) | dsimp only)
theorem fj_b_X7_bag_1 (u1 : Int32) (i1 : Nat) (z1 : Int32 × Mm) (k j : Nat) (h : True) : gJ (b_X7_bag_1 u1 i1 z1).2 k j = gJ z1.2 k j := by
  unfold b_X7_bag_1
  repeat' (first | with_reducible rfl | (rw [gJ_off k j (by omega)]) | (rw [gJ_sI]) | (rw [fj_m_X7_bag_1 _ _ _ k j trivial]) | (refine gJ_iteK ?_ ?_) | (refine gJ_iteP ?_ ?_) | dsimp only)
theorem fr_l_X7_bag_1 (u1 : Int32) (z1 : Int32 × Mm) (k j : Nat) (h : k ≠ 64 ∧ k ≠ 65 ∧ k ≠ 66 ∧ ¬ (k = 44 ∧ j = 35)) : gI (l_X7_bag_1 u1 z1).2 k j = gI z1.2 k j := by
  unfold l_X7_bag_1
  repeat' (first | with_reducible rfl | (rw [gI_off k j (by omega)]) | (rw [gI_sJ]) | (rw [itr_keepIP (fun i z => fr_b_X7_bag_1 _ i z k j (by omega))]) | (rw [fr_b_X7_bag_1 _ _ _ k j (by omega)]) | (refine gI_iteK ?_ ?_) | (refine gI_iteP ?_ ?_) | dsimp only)
theorem fj_l_X7_bag_1 (u1 : Int32) (z1 : Int32 × Mm) (k j : Nat) (h : True) : gJ (l_X7_bag_1 u1 z1).2 k j = gJ z1.2 k j := by
  unfold l_X7_bag_1
  repeat' (first | with_reducible rfl | (rw [gJ_off k j (by omega)]) | (rw [gJ_sI]) | (rw [itr_keepJP (fun i z => fj_b_X7_bag_1 _ i z k j trivial)]) | (rw [fj_b_X7_bag_1 _ _ _ k j trivial]) | (refine gJ_iteK ?_ ?_) | (refine gJ_iteP ?_ ?_) | dsimp only)
theorem fr_f_X7_bag (M : Mm) (u1 : Int32) (u2 : Int32) (k j : Nat) (h : k ≠ 64 ∧ k ≠ 65 ∧ k ≠ 66 ∧ ¬ (k = 44 ∧ j = 35)) : gI (f_X7_bag M u1 u2).2 k j = gI M k j := by
  have h2 : gI (l_X7_bag_1 u1 (u2, (sI M 44 35 (0 : Int32)))).2 k j = gI M k j := by
    rw [fr_l_X7_bag_1 _ _ k j (by omega)]
    exact gI_mk2 (gI_off k j (by omega))
  rw [f_X7_bag]
  exact gI_iteP (gI_mk2 rfl) (gI_iteP (gI_mk2 rfl) (gI_iteP (gI_mk2 h2) (gI_mk2 rfl)))
theorem fj_f_X7_bag (M : Mm) (u1 : Int32) (u2 : Int32) (k j : Nat) (h : True) : gJ (f_X7_bag M u1 u2).2 k j = gJ M k j := by
  have h2 : gJ (l_X7_bag_1 u1 (u2, (sI M 44 35 (0 : Int32)))).2 k j = gJ M k j := by
    rw [fj_l_X7_bag_1 _ _ k j trivial]
    exact gJ_mk2 (gJ_sI _ _ _ _ _ _)
  rw [f_X7_bag]
  exact gJ_iteP (gJ_mk2 rfl) (gJ_iteP (gJ_mk2 rfl) (gJ_iteP (gJ_mk2 h2) (gJ_mk2 rfl)))
theorem fr_b_X7_copy_1 (u1 : Int32) (u2 : Int32) (i1 : Nat) (z1 : Mm) (k j : Nat) (h : k ≠ 70) : gI (b_X7_copy_1 u1 u2 i1 z1) k j = gI z1 k j := by
  unfold b_X7_copy_1
  repeat' (first | with_reducible rfl | (rw [gI_off k j (by omega)]) | (rw [gI_sJ]) | (refine gI_iteK ?_ ?_) | (refine gI_iteP ?_ ?_) | dsimp only)
theorem fj_b_X7_copy_1 (u1 : Int32) (u2 : Int32) (i1 : Nat) (z1 : Mm) (k j : Nat) (h : True) : gJ (b_X7_copy_1 u1 u2 i1 z1) k j = gJ z1 k j := by
  unfold b_X7_copy_1
  repeat' (first | with_reducible rfl | (rw [gJ_off k j (by omega)]) | (rw [gJ_sI]) | (refine gJ_iteK ?_ ?_) | (refine gJ_iteP ?_ ?_) | dsimp only)
theorem fr_b_X7_copy_2 (u3 : Int32) (u4 : Int32) (i2 : Nat) (z2 : Mm) (k j : Nat) (h : k ≠ 68) : gI (b_X7_copy_2 u3 u4 i2 z2) k j = gI z2 k j := by
  unfold b_X7_copy_2
  repeat' (first | with_reducible rfl | (rw [gI_off k j (by omega)]) | (rw [gI_sJ]) | (refine gI_iteK ?_ ?_) | (refine gI_iteP ?_ ?_) | dsimp only)
theorem fj_b_X7_copy_2 (u3 : Int32) (u4 : Int32) (i2 : Nat) (z2 : Mm) (k j : Nat) (h : True) : gJ (b_X7_copy_2 u3 u4 i2 z2) k j = gJ z2 k j := by
  unfold b_X7_copy_2
  repeat' (first | with_reducible rfl | (rw [gJ_off k j (by omega)]) | (rw [gJ_sI]) | (refine gJ_iteK ?_ ?_) | (refine gJ_iteP ?_ ?_) | dsimp only)
theorem fr_f_X7_copy (M : Mm) (u1 : Int32) (u2 : Int32) (u3 : Int32) (u4 : Int32) (u5 : Int32) (k j : Nat) (h : k ≠ 45 ∧ k ≠ 68 ∧ k ≠ 70 ∧ ¬ (k = 44 ∧ j = 0)) : gI (f_X7_copy M u1 u2 u3 u4 u5).2 k j = gI M k j := by
  unfold f_X7_copy
  repeat' (first | with_reducible rfl | (rw [gI_off k j (by omega)]) | (rw [gI_sJ]) | (rw [fr_f_X7_meets _ _ k j (by omega)]) | (rw [itr_keepI (fun i z => fr_b_X7_copy_2 _ _ i z k j (by omega))]) | (rw [fr_b_X7_copy_2 _ _ _ _ k j (by omega)]) | (rw [itr_keepI (fun i z => fr_b_X7_copy_1 _ _ i z k j (by omega))]) | (rw [fr_b_X7_copy_1 _ _ _ _ k j (by omega)]) | (refine gI_iteK ?_ ?_) | (refine gI_iteP ?_ ?_) | dsimp only)
theorem fj_f_X7_copy (M : Mm) (u1 : Int32) (u2 : Int32) (u3 : Int32) (u4 : Int32) (u5 : Int32) (k j : Nat) (h : True) : gJ (f_X7_copy M u1 u2 u3 u4 u5).2 k j = gJ M k j := by
  unfold f_X7_copy
  repeat' (first | with_reducible rfl | (rw [gJ_off k j (by omega)]) | (rw [gJ_sI]) | (rw [fj_f_X7_meets _ _ k j trivial]) | (rw [itr_keepJ (fun i z => fj_b_X7_copy_2 _ _ i z k j trivial)]) | (rw [fj_b_X7_copy_2 _ _ _ _ k j trivial]) | (rw [itr_keepJ (fun i z => fj_b_X7_copy_1 _ _ i z k j trivial)]) | (rw [fj_b_X7_copy_1 _ _ _ _ k j trivial]) | (refine gJ_iteK ?_ ?_) | (refine gJ_iteP ?_ ?_) | dsimp only)
theorem fr_b_X7_plan_1 (i1 : Nat) (z1 : Mm) (k j : Nat) (h : k ≠ 71 ∧ k ≠ 72) : gI (b_X7_plan_1 i1 z1) k j = gI z1 k j := by
  unfold b_X7_plan_1
  repeat' (first | with_reducible rfl | (rw [gI_off k j (by omega)]) | (rw [gI_sJ]) | (refine gI_iteK ?_ ?_) | (refine gI_iteP ?_ ?_) | dsimp only)
theorem fj_b_X7_plan_1 (i1 : Nat) (z1 : Mm) (k j : Nat) (h : True) : gJ (b_X7_plan_1 i1 z1) k j = gJ z1 k j := by
  unfold b_X7_plan_1
  repeat' (first | with_reducible rfl | (rw [gJ_off k j (by omega)]) | (rw [gJ_sI]) | (refine gJ_iteK ?_ ?_) | (refine gJ_iteP ?_ ?_) | dsimp only)
theorem fr_l_X7_plan_1 (z1 : Mm) (k j : Nat) (h : k ≠ 71 ∧ k ≠ 72) : gI (l_X7_plan_1 z1) k j = gI z1 k j := by
  unfold l_X7_plan_1
  repeat' (first | with_reducible rfl | (rw [gI_off k j (by omega)]) | (rw [gI_sJ]) | (rw [itr_keepI (fun i z => fr_b_X7_plan_1 i z k j (by omega))]) | (rw [fr_b_X7_plan_1 _ _ k j (by omega)]) | (refine gI_iteK ?_ ?_) | (refine gI_iteP ?_ ?_) | dsimp only)
theorem fj_l_X7_plan_1 (z1 : Mm) (k j : Nat) (h : True) : gJ (l_X7_plan_1 z1) k j = gJ z1 k j := by
  unfold l_X7_plan_1
  repeat' (first | with_reducible rfl | (rw [gJ_off k j (by omega)]) | (rw [gJ_sI]) | (rw [itr_keepJ (fun i z => fj_b_X7_plan_1 i z k j trivial)]) | (rw [fj_b_X7_plan_1 _ _ k j trivial]) | (refine gJ_iteK ?_ ?_) | (refine gJ_iteP ?_ ?_) | dsimp only)
theorem fr_m_X7_plan_2 (u1 : Int32) (i2 : Nat) (i3 : Nat) (z3 : Mm) (k j : Nat) (h : k ≠ 71) : gI (m_X7_plan_2 u1 i2 i3 z3) k j = gI z3 k j := by
  unfold m_X7_plan_2
  repeat' (first | with_reducible rfl | (rw [gI_off k j (by omega)]) | (rw [gI_sJ]) | (refine gI_iteK ?_ ?_) | (refine gI_iteP ?_ ?_) | dsimp only)
theorem fj_m_X7_plan_2 (u1 : Int32) (i2 : Nat) (i3 : Nat) (z3 : Mm) (k j : Nat) (h : True) : gJ (m_X7_plan_2 u1 i2 i3 z3) k j = gJ z3 k j := by
  unfold m_X7_plan_2
  repeat' (first | with_reducible rfl | (rw [gJ_off k j (by omega)]) | (rw [gJ_sI]) | (refine gJ_iteK ?_ ?_) | (refine gJ_iteP ?_ ?_) | dsimp only)
theorem fr_m_X7_plan_3 (u1 : Int32) (i2 : Nat) (i3 : Nat) (z3 : Mm) (k j : Nat) (h : k ≠ 71) : gI (m_X7_plan_3 u1 i2 i3 z3) k j = gI z3 k j := by
  unfold m_X7_plan_3
  repeat' (first | with_reducible rfl | (rw [gI_off k j (by omega)]) | (rw [gI_sJ]) | (refine gI_iteK ?_ ?_) | (refine gI_iteP ?_ ?_) | dsimp only)
theorem fj_m_X7_plan_3 (u1 : Int32) (i2 : Nat) (i3 : Nat) (z3 : Mm) (k j : Nat) (h : True) : gJ (m_X7_plan_3 u1 i2 i3 z3) k j = gJ z3 k j := by
  unfold m_X7_plan_3
  repeat' (first | with_reducible rfl | (rw [gJ_off k j (by omega)]) | (rw [gJ_sI]) | (refine gJ_iteK ?_ ?_) | (refine gJ_iteP ?_ ?_) | dsimp only)
theorem fr_m_X7_plan_4 (u1 : Int32) (i2 : Nat) (i3 : Nat) (z3 : Mm) (k j : Nat) (h : k ≠ 71) : gI (m_X7_plan_4 u1 i2 i3 z3) k j = gI z3 k j := by
  unfold m_X7_plan_4
  repeat' (first | with_reducible rfl | (rw [gI_off k j (by omega)]) | (rw [gI_sJ]) | (refine gI_iteK ?_ ?_) | (refine gI_iteP ?_ ?_) | dsimp only)
theorem fj_m_X7_plan_4 (u1 : Int32) (i2 : Nat) (i3 : Nat) (z3 : Mm) (k j : Nat) (h : True) : gJ (m_X7_plan_4 u1 i2 i3 z3) k j = gJ z3 k j := by
  unfold m_X7_plan_4
  repeat' (first | with_reducible rfl | (rw [gJ_off k j (by omega)]) | (rw [gJ_sI]) | (refine gJ_iteK ?_ ?_) | (refine gJ_iteP ?_ ?_) | dsimp only)
theorem fr_m_X7_plan_5 (u1 : Int32) (i2 : Nat) (i3 : Nat) (z3 : Mm) (k j : Nat) (h : k ≠ 71 ∧ k ≠ 72) : gI (m_X7_plan_5 u1 i2 i3 z3) k j = gI z3 k j := by
  unfold m_X7_plan_5
  repeat' (first | with_reducible rfl | (rw [gI_off k j (by omega)]) | (rw [gI_sJ]) | (rw [fr_m_X7_plan_2 _ _ _ _ k j (by omega)]) | (rw [fr_m_X7_plan_3 _ _ _ _ k j (by omega)]) | (rw [fr_m_X7_plan_4 _ _ _ _ k j (by omega)]) | (refine gI_iteK ?_ ?_) | (refine gI_iteP ?_ ?_) | dsimp only)
theorem fj_m_X7_plan_5 (u1 : Int32) (i2 : Nat) (i3 : Nat) (z3 : Mm) (k j : Nat) (h : True) : gJ (m_X7_plan_5 u1 i2 i3 z3) k j = gJ z3 k j := by
  unfold m_X7_plan_5
  repeat' (first | with_reducible rfl | (rw [gJ_off k j (by omega)]) | (rw [gJ_sI]) | (rw [fj_m_X7_plan_2 _ _ _ _ k j trivial]) | (rw [fj_m_X7_plan_3 _ _ _ _ k j trivial]) | (rw [fj_m_X7_plan_4 _ _ _ _ k j trivial]) | (refine gJ_iteK ?_ ?_) | (refine gJ_iteP ?_ ?_) | dsimp only)
theorem fr_m_X7_plan_6 (u1 : Int32) (u2 : Int32) (i2 : Nat) (i3 : Nat) (z3 : Mm) (k j : Nat) (h : k ≠ 71 ∧ k ≠ 72) : gI (m_X7_plan_6 u1 u2 i2 i3 z3) k j = gI z3 k j := by
  unfold m_X7_plan_6
  repeat' (first | with_reducible rfl | (rw [gI_off k j (by omega)]) | (rw [gI_sJ]) | (rw [fr_m_X7_plan_5 _ _ _ _ k j (by omega)]) | (refine gI_iteK ?_ ?_) | (refine gI_iteP ?_ ?_) | dsimp only)
theorem fj_m_X7_plan_6 (u1 : Int32) (u2 : Int32) (i2 : Nat) (i3 : Nat) (z3 : Mm) (k j : Nat) (h : True) : gJ (m_X7_plan_6 u1 u2 i2 i3 z3) k j = gJ z3 k j := by
  unfold m_X7_plan_6
  repeat' (first | with_reducible rfl | (rw [gJ_off k j (by omega)]) | (rw [gJ_sI]) | (rw [fj_m_X7_plan_5 _ _ _ _ k j trivial]) | (refine gJ_iteK ?_ ?_) | (refine gJ_iteP ?_ ?_) | dsimp only)
theorem fr_b_X7_plan_3 (u1 : Int32) (u2 : Int32) (i2 : Nat) (i3 : Nat) (z3 : Mm) (k j : Nat) (h : k ≠ 71 ∧ k ≠ 72) : gI (b_X7_plan_3 u1 u2 i2 i3 z3) k j = gI z3 k j := by
  unfold b_X7_plan_3
  repeat' (first | with_reducible rfl | (rw [gI_off k j (by omega)]) | (rw [gI_sJ]) | (rw [fr_m_X7_plan_6 _ _ _ _ _ k j (by omega)]) | (refine gI_iteK ?_ ?_) | (refine gI_iteP ?_ ?_) | dsimp only)
theorem fj_b_X7_plan_3 (u1 : Int32) (u2 : Int32) (i2 : Nat) (i3 : Nat) (z3 : Mm) (k j : Nat) (h : True) : gJ (b_X7_plan_3 u1 u2 i2 i3 z3) k j = gJ z3 k j := by
  unfold b_X7_plan_3
  repeat' (first | with_reducible rfl | (rw [gJ_off k j (by omega)]) | (rw [gJ_sI]) | (rw [fj_m_X7_plan_6 _ _ _ _ _ k j trivial]) | (refine gJ_iteK ?_ ?_) | (refine gJ_iteP ?_ ?_) | dsimp only)
theorem fr_l_X7_plan_3 (u1 : Int32) (u2 : Int32) (i2 : Nat) (z3 : Mm) (k j : Nat) (h : k ≠ 71 ∧ k ≠ 72) : gI (l_X7_plan_3 u1 u2 i2 z3) k j = gI z3 k j := by
  unfold l_X7_plan_3
  repeat' (first | with_reducible rfl | (rw [gI_off k j (by omega)]) | (rw [gI_sJ]) | (rw [itd_keepI (fun i z => fr_b_X7_plan_3 _ _ _ i z k j (by omega))]) | (rw [fr_b_X7_plan_3 _ _ _ _ _ k j (by omega)]) | (refine gI_iteK ?_ ?_) | (refine gI_iteP ?_ ?_) | dsimp only)
theorem fj_l_X7_plan_3 (u1 : Int32) (u2 : Int32) (i2 : Nat) (z3 : Mm) (k j : Nat) (h : True) : gJ (l_X7_plan_3 u1 u2 i2 z3) k j = gJ z3 k j := by
  unfold l_X7_plan_3
  repeat' (first | with_reducible rfl | (rw [gJ_off k j (by omega)]) | (rw [gJ_sI]) | (rw [itd_keepJ (fun i z => fj_b_X7_plan_3 _ _ _ i z k j trivial)]) | (rw [fj_b_X7_plan_3 _ _ _ _ _ k j trivial]) | (refine gJ_iteK ?_ ?_) | (refine gJ_iteP ?_ ?_) | dsimp only)
theorem fr_b_X7_plan_2 (u1 : Int32) (u2 : Int32) (i2 : Nat) (z2 : Mm) (k j : Nat) (h : k ≠ 71 ∧ k ≠ 72) : gI (b_X7_plan_2 u1 u2 i2 z2) k j = gI z2 k j := by
  unfold b_X7_plan_2
  repeat' (first | with_reducible rfl | (rw [gI_off k j (by omega)]) | (rw [gI_sJ]) | (rw [fr_l_X7_plan_3 _ _ _ _ k j (by omega)]) | (refine gI_iteK ?_ ?_) | (refine gI_iteP ?_ ?_) | dsimp only)
theorem fj_b_X7_plan_2 (u1 : Int32) (u2 : Int32) (i2 : Nat) (z2 : Mm) (k j : Nat) (h : True) : gJ (b_X7_plan_2 u1 u2 i2 z2) k j = gJ z2 k j := by
  unfold b_X7_plan_2
  repeat' (first | with_reducible rfl | (rw [gJ_off k j (by omega)]) | (rw [gJ_sI]) | (rw [fj_l_X7_plan_3 _ _ _ _ k j trivial]) | (refine gJ_iteK ?_ ?_) | (refine gJ_iteP ?_ ?_) | dsimp only)
theorem fr_l_X7_plan_2 (u1 : Int32) (u2 : Int32) (z2 : Mm) (k j : Nat) (h : k ≠ 71 ∧ k ≠ 72) : gI (l_X7_plan_2 u1 u2 z2) k j = gI z2 k j := by
  unfold l_X7_plan_2
  repeat' (first | with_reducible rfl | (rw [gI_off k j (by omega)]) | (rw [gI_sJ]) | (rw [itr_keepI (fun i z => fr_b_X7_plan_2 _ _ i z k j (by omega))]) | (rw [fr_b_X7_plan_2 _ _ _ _ k j (by omega)]) | (refine gI_iteK ?_ ?_) | (refine gI_iteP ?_ ?_) | dsimp only)
theorem fj_l_X7_plan_2 (u1 : Int32) (u2 : Int32) (z2 : Mm) (k j : Nat) (h : True) : gJ (l_X7_plan_2 u1 u2 z2) k j = gJ z2 k j := by
  unfold l_X7_plan_2
  repeat' (first | with_reducible rfl | (rw [gJ_off k j (by omega)]) | (rw [gJ_sI]) | (rw [itr_keepJ (fun i z => fj_b_X7_plan_2 _ _ i z k j trivial)]) | (rw [fj_b_X7_plan_2 _ _ _ _ k j trivial]) | (refine gJ_iteK ?_ ?_) | (refine gJ_iteP ?_ ?_) | dsimp only)
theorem fr_f_X7_plan (M : Mm) (u1 : Int32) (u2 : Int32) (k j : Nat) (h : k ≠ 45 ∧ k ≠ 71 ∧ k ≠ 72 ∧ ¬ (k = 44 ∧ j = 0)) : gI (f_X7_plan M u1 u2).2 k j = gI M k j := by
  unfold f_X7_plan
  repeat' (first | with_reducible rfl | (rw [gI_off k j (by omega)]) | (rw [gI_sJ]) | (rw [fr_f_X7_meets _ _ k j (by omega)]) | (rw [fr_f_X7_tell _ _ _ k j trivial]) | (rw [fr_l_X7_plan_2 _ _ _ k j (by omega)]) | (rw [fr_l_X7_plan_1 _ k j (by omega)]) | (refine gI_iteK ?_ ?_) | (refine gI_iteP ?_ ?_) | dsimp only)
theorem fj_f_X7_plan (M : Mm) (u1 : Int32) (u2 : Int32) (k j : Nat) (h : ¬ (k = 44 ∧ j = 2)) : gJ (f_X7_plan M u1 u2).2 k j = gJ M k j := by
  unfold f_X7_plan
  repeat' (first | with_reducible rfl | (rw [gJ_off k j (by omega)]) | (rw [gJ_sI]) | (rw [fj_f_X7_meets _ _ k j trivial]) | (rw [fj_f_X7_tell _ _ _ k j (by omega)]) | (rw [fj_l_X7_plan_2 _ _ _ k j trivial]) | (rw [fj_l_X7_plan_1 _ k j trivial]) | (refine gJ_iteK ?_ ?_) | (refine gJ_iteP ?_ ?_) | dsimp only)
