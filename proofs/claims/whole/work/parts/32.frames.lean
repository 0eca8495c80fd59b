theorem p2 {α β : Type} (x : α) (y : β) : (x, y).2 = y := rfl
theorem p1 {α β : Type} (x : α) (y : β) : (x, y).1 = x := rfl
theorem snd_of {α β : Type} {p : α × β} {x : α} {y : β} (h : p = (x, y)) : p.2 = y := by rw [h]
theorem fst_of {α β : Type} {p : α × β} {x : α} {y : β} (h : p = (x, y)) : p.1 = x := by rw [h]
theorem gI_mk2 {σ : Type} {x : σ} {A : Mm} {k j : Nat} {v : Int32} (h : gI A k j = v) : gI (x, A).2 k j = v := h
theorem gJ_mk2 {σ : Type} {x : σ} {A : Mm} {k j : Nat} {v : Int64} (h : gJ A k j = v) : gJ (x, A).2 k j = v := h
theorem gI_mk2' {σ : Type} {x : σ} {A : Mm} {k j : Nat} {v : Int32} (h : gI A k j = v) : gI (x, A).2 k j = v := h
theorem gJ_mk2' {σ : Type} {x : σ} {A : Mm} {k j : Nat} {v : Int64} (h : gJ A k j = v) : gJ (x, A).2 k j = v := h
theorem gI_off (k j : Nat) {M : Mm} {L J : Nat} {v : Int32} (h : ¬ (k = L ∧ j = J)) : gI (sI M L J v) k j = gI M k j := by rw [gI_sI, if_neg h]
theorem gJ_off (k j : Nat) {M : Mm} {L J : Nat} {v : Int64} (h : ¬ (k = L ∧ j = J)) : gJ (sJ M L J v) k j = gJ M k j := by rw [gJ_sJ, if_neg h]
theorem itr_keepIP {σ : Type} {f : Nat → σ × Mm → σ × Mm} {k j : Nat} (h : ∀ i z, gI (f i z).2 k j = gI z.2 k j) : ∀ (n : Nat) (z : σ × Mm), gI (itr f n z).2 k j = gI z.2 k j
  | 0, _ => by rw [itr_0]
  | n + 1, z => by rw [itr_s, h, itr_keepIP h n z]
theorem itr_keepJP {σ : Type} {f : Nat → σ × Mm → σ × Mm} {k j : Nat} (h : ∀ i z, gJ (f i z).2 k j = gJ z.2 k j) : ∀ (n : Nat) (z : σ × Mm), gJ (itr f n z).2 k j = gJ z.2 k j
  | 0, _ => by rw [itr_0]
  | n + 1, z => by rw [itr_s, h, itr_keepJP h n z]
theorem itd_keepIP {σ : Type} {f : Nat → σ × Mm → σ × Mm} {k j : Nat} (h : ∀ i z, gI (f i z).2 k j = gI z.2 k j) : ∀ (n : Nat) (z : σ × Mm), gI (itd f n z).2 k j = gI z.2 k j
  | 0, _ => by rw [itd_0]
  | n + 1, z => by rw [itd_s, itd_keepIP h n, h]
theorem itd_keepJP {σ : Type} {f : Nat → σ × Mm → σ × Mm} {k j : Nat} (h : ∀ i z, gJ (f i z).2 k j = gJ z.2 k j) : ∀ (n : Nat) (z : σ × Mm), gJ (itd f n z).2 k j = gJ z.2 k j
  | 0, _ => by rw [itd_0]
  | n + 1, z => by rw [itd_s, itd_keepJP h n, h]
theorem itd_keepJ {f : Nat → Mm → Mm} {k j : Nat} (h : ∀ i z, gJ (f i z) k j = gJ z k j) : ∀ (n : Nat) (z : Mm), gJ (itd f n z) k j = gJ z k j
  | 0, _ => by rw [itd_0]
  | n + 1, z => by rw [itd_s, itd_keepJ h n, h]
theorem gI_iteK {c : Prop} [Decidable c] {A B : Mm} {k j : Nat} {x : Int32} (h1 : gI A k j = x) (h2 : gI B k j = x) : gI (if c then A else B) k j = x := by
  by_cases h : c
  · rw [if_pos h]; exact h1
  · rw [if_neg h]; exact h2
theorem gJ_iteK {c : Prop} [Decidable c] {A B : Mm} {k j : Nat} {x : Int64} (h1 : gJ A k j = x) (h2 : gJ B k j = x) : gJ (if c then A else B) k j = x := by
  by_cases h : c
  · rw [if_pos h]; exact h1
  · rw [if_neg h]; exact h2
theorem gI_iteP {σ : Type} {c : Prop} [Decidable c] {A B : σ × Mm} {k j : Nat} {x : Int32} (h1 : gI A.2 k j = x) (h2 : gI B.2 k j = x) : gI (if c then A else B).2 k j = x := by
  by_cases h : c
  · rw [if_pos h]; exact h1
  · rw [if_neg h]; exact h2
theorem gJ_iteP {σ : Type} {c : Prop} [Decidable c] {A B : σ × Mm} {k j : Nat} {x : Int64} (h1 : gJ A.2 k j = x) (h2 : gJ B.2 k j = x) : gJ (if c then A else B).2 k j = x := by
  by_cases h : c
  · rw [if_pos h]; exact h1
  · rw [if_neg h]; exact h2
theorem fr_f_X1_answer (M : Mm) (u1 : Int32) (k j : Nat) (h : k ≠ 43 ∧ ¬ (k = 6 ∧ j = 1)) : gI (f_X1_answer M u1).2 k j = gI M k j := by
  unfold f_X1_answer
  repeat' (first | with_reducible rfl | (rw [gI_off k j (by omega)]) | (rw [gI_sJ]) | (refine gI_iteK ?_ ?_) | (refine gI_iteP ?_ ?_) | dsimp only)
theorem fj_f_X1_answer (M : Mm) (u1 : Int32) (k j : Nat) (h : True) : gJ (f_X1_answer M u1).2 k j = gJ M k j := by
  unfold f_X1_answer
  repeat' (first | with_reducible rfl | (rw [gJ_off k j (by omega)]) | (rw [gJ_sI]) | (refine gJ_iteK ?_ ?_) | (refine gJ_iteP ?_ ?_) | dsimp only)
theorem fr_f_X2_take (M : Mm) (u1 : Int32) (k j : Nat) (h : k ≠ 7 ∧ k ≠ 8 ∧ k ≠ 9) : gI (f_X2_take M u1).2 k j = gI M k j := by
  unfold f_X2_take
  repeat' (first | with_reducible rfl | (rw [gI_off k j (by omega)]) | (rw [gI_sJ]) | (refine gI_iteK ?_ ?_) | (refine gI_iteP ?_ ?_) | dsimp only)
theorem fj_f_X2_take (M : Mm) (u1 : Int32) (k j : Nat) (h : True) : gJ (f_X2_take M u1).2 k j = gJ M k j := by
  unfold f_X2_take
  repeat' (first | with_reducible rfl | (rw [gJ_off k j (by omega)]) | (rw [gJ_sI]) | (refine gJ_iteK ?_ ?_) | (refine gJ_iteP ?_ ?_) | dsimp only)
theorem fr_m_X2_lay_1 (M : Mm) (u1 : Int32) (u2 : Int32) (u3 : Int32) (i1 : Nat) (z1 : Mm) (k j : Nat) (h : k ≠ 7 ∧ k ≠ 8) : gI (m_X2_lay_1 M u1 u2 u3 i1 z1) k j = gI z1 k j := by
  unfold m_X2_lay_1
  repeat' (first | with_reducible rfl | (rw [gI_off k j (by omega)]) | (rw [gI_sJ]) | (refine gI_iteK ?_ ?_) | (refine gI_iteP ?_ ?_) | dsimp only)
theorem fj_m_X2_lay_1 (M : Mm) (u1 : Int32) (u2 : Int32) (u3 : Int32) (i1 : Nat) (z1 : Mm) (k j : Nat) (h : True) : gJ (m_X2_lay_1 M u1 u2 u3 i1 z1) k j = gJ z1 k j := by
  unfold m_X2_lay_1
  repeat' (first | with_reducible rfl | (rw [gJ_off k j (by omega)]) | (rw [gJ_sI]) | (refine gJ_iteK ?_ ?_) | (refine gJ_iteP ?_ ?_) | dsimp only)
theorem fr_b_X2_lay_1 (M : Mm) (u1 : Int32) (u2 : Int32) (u3 : Int32) (i1 : Nat) (z1 : Mm) (k j : Nat) (h : k ≠ 7 ∧ k ≠ 8) : gI (b_X2_lay_1 M u1 u2 u3 i1 z1) k j = gI z1 k j := by
  unfold b_X2_lay_1
  repeat' (first | with_reducible rfl | (rw [gI_off k j (by omega)]) | (rw [gI_sJ]) | (rw [fr_m_X2_lay_1 _ _ _ _ _ _ k j (by omega)]) | (refine gI_iteK ?_ ?_) | (refine gI_iteP ?_ ?_) | dsimp only)
theorem fj_b_X2_lay_1 (M : Mm) (u1 : Int32) (u2 : Int32) (u3 : Int32) (i1 : Nat) (z1 : Mm) (k j : Nat) (h : True) : gJ (b_X2_lay_1 M u1 u2 u3 i1 z1) k j = gJ z1 k j := by
  unfold b_X2_lay_1
  repeat' (first | with_reducible rfl | (rw [gJ_off k j (by omega)]) | (rw [gJ_sI]) | (rw [fj_m_X2_lay_1 _ _ _ _ _ _ k j trivial]) | (refine gJ_iteK ?_ ?_) | (refine gJ_iteP ?_ ?_) | dsimp only)
theorem fr_m_X2_lay_3 (M : Mm) (u1 : Int32) (u2 : Int32) (u3 : Int32) (k j : Nat) (h : k ≠ 7 ∧ k ≠ 8 ∧ k ≠ 10 ∧ ¬ (k = 1 ∧ j = 4)) : gI (m_X2_lay_3 M u1 u2 u3) k j = gI M k j := by
  unfold m_X2_lay_3
  repeat' (first | with_reducible rfl | (rw [gI_off k j (by omega)]) | (rw [gI_sJ]) | (rw [itr_keepI (fun i z => fr_b_X2_lay_1 _ _ _ _ i z k j (by omega))]) | (rw [fr_b_X2_lay_1 _ _ _ _ _ _ k j (by omega)]) | (refine gI_iteK ?_ ?_) | (refine gI_iteP ?_ ?_) | dsimp only)
theorem fj_m_X2_lay_3 (M : Mm) (u1 : Int32) (u2 : Int32) (u3 : Int32) (k j : Nat) (h : True) : gJ (m_X2_lay_3 M u1 u2 u3) k j = gJ M k j := by
  unfold m_X2_lay_3
  repeat' (first | with_reducible rfl | (rw [gJ_off k j (by omega)]) | (rw [gJ_sI]) | (rw [itr_keepJ (fun i z => fj_b_X2_lay_1 _ _ _ _ i z k j trivial)]) | (rw [fj_b_X2_lay_1 _ _ _ _ _ _ k j trivial]) | (refine gJ_iteK ?_ ?_) | (refine gJ_iteP ?_ ?_) | dsimp only)
theorem fr_f_X2_lay (M : Mm) (u1 : Int32) (u2 : Int32) (u3 : Int32) (k j : Nat) (h : k ≠ 7 ∧ k ≠ 8 ∧ k ≠ 10 ∧ ¬ (k = 1 ∧ j = 4)) : gI (f_X2_lay M u1 u2 u3).2 k j = gI M k j := by
  unfold f_X2_lay
  repeat' (first | with_reducible rfl | (rw [gI_off k j (by omega)]) | (rw [gI_sJ]) | (rw [fr_m_X2_lay_3 _ _ _ _ k j (by omega)]) | (refine gI_iteK ?_ ?_) | (refine gI_iteP ?_ ?_) | dsimp only)
theorem fj_f_X2_lay (M : Mm) (u1 : Int32) (u2 : Int32) (u3 : Int32) (k j : Nat) (h : True) : gJ (f_X2_lay M u1 u2 u3).2 k j = gJ M k j := by
  unfold f_X2_lay
  repeat' (first | with_reducible rfl | (rw [gJ_off k j (by omega)]) | (rw [gJ_sI]) | (rw [fj_m_X2_lay_3 _ _ _ _ k j trivial]) | (refine gJ_iteK ?_ ?_) | (refine gJ_iteP ?_ ?_) | dsimp only)
theorem fr_b_X2_empty_1 (i1 : Nat) (z1 : Mm) (k j : Nat) (h : k ≠ 7 ∧ k ≠ 8 ∧ k ≠ 9) : gI (b_X2_empty_1 i1 z1) k j = gI z1 k j := by
  unfold b_X2_empty_1
  repeat' (first | with_reducible rfl | (rw [gI_off k j (by omega)]) | (rw [gI_sJ]) | (refine gI_iteK ?_ ?_) | (refine gI_iteP ?_ ?_) | dsimp only)
theorem fj_b_X2_empty_1 (i1 : Nat) (z1 : Mm) (k j : Nat) (h : True) : gJ (b_X2_empty_1 i1 z1) k j = gJ z1 k j := by
  unfold b_X2_empty_1
  repeat' (first | with_reducible rfl | (rw [gJ_off k j (by omega)]) | (rw [gJ_sI]) | (refine gJ_iteK ?_ ?_) | (refine gJ_iteP ?_ ?_) | dsimp only)
theorem fr_f_X2_empty (M : Mm) (k j : Nat) (h : k ≠ 7 ∧ k ≠ 8 ∧ k ≠ 9 ∧ ¬ (k = 1 ∧ j = 4)) : gI (f_X2_empty M).2 k j = gI M k j := by
  unfold f_X2_empty
  repeat' (first | with_reducible rfl | (rw [gI_off k j (by omega)]) | (rw [gI_sJ]) | (rw [itr_keepI (fun i z => fr_b_X2_empty_1 i z k j (by omega))]) | (rw [fr_b_X2_empty_1 _ _ k j (by omega)]) | (refine gI_iteK ?_ ?_) | (refine gI_iteP ?_ ?_) | dsimp only)
theorem fj_f_X2_empty (M : Mm) (k j : Nat) (h : True) : gJ (f_X2_empty M).2 k j = gJ M k j := by
  unfold f_X2_empty
  repeat' (first | with_reducible rfl | (rw [gJ_off k j (by omega)]) | (rw [gJ_sI]) | (rw [itr_keepJ (fun i z => fj_b_X2_empty_1 i z k j trivial)]) | (rw [fj_b_X2_empty_1 _ _ k j trivial]) | (refine gJ_iteK ?_ ?_) | (refine gJ_iteP ?_ ?_) | dsimp only)
theorem fr_f_X0_setShares (M : Mm) (u1 : Int32) (u2 : Int32) (u3 : Int32) (k j : Nat) (h : k ≠ 16) : gI (f_X0_setShares M u1 u2 u3) k j = gI M k j := by
  unfold f_X0_setShares
  repeat' (first | with_reducible rfl | (rw [gI_off k j (by omega)]) | (rw [gI_sJ]) | (refine gI_iteK ?_ ?_) | (refine gI_iteP ?_ ?_) | dsimp only)
theorem fj_f_X0_setShares (M : Mm) (u1 : Int32) (u2 : Int32) (u3 : Int32) (k j : Nat) (h : True) : gJ (f_X0_setShares M u1 u2 u3) k j = gJ M k j := by
  unfold f_X0_setShares
  repeat' (first | with_reducible rfl | (rw [gJ_off k j (by omega)]) | (rw [gJ_sI]) | (refine gJ_iteK ?_ ?_) | (refine gJ_iteP ?_ ?_) | dsimp only)
theorem fr_f_X0_setAim (M : Mm) (u1 : Int32) (u2 : Int32) (k j : Nat) (h : ¬ (k = 2 ∧ j = 8) ∧ ¬ (k = 2 ∧ j = 9)) : gI (f_X0_setAim M u1 u2) k j = gI M k j := by
  unfold f_X0_setAim
  repeat' (first | with_reducible rfl | (rw [gI_off k j (by omega)]) | (rw [gI_sJ]) | (refine gI_iteK ?_ ?_) | (refine gI_iteP ?_ ?_) | dsimp only)
theorem fj_f_X0_setAim (M : Mm) (u1 : Int32) (u2 : Int32) (k j : Nat) (h : True) : gJ (f_X0_setAim M u1 u2) k j = gJ M k j := by
  unfold f_X0_setAim
  repeat' (first | with_reducible rfl | (rw [gJ_off k j (by omega)]) | (rw [gJ_sI]) | (refine gJ_iteK ?_ ?_) | (refine gJ_iteP ?_ ?_) | dsimp only)
theorem fr_f_X0_setRule (M : Mm) (u1 : Int32) (u2 : Int32) (k j : Nat) (h : ¬ (k = 2 ∧ j = 10) ∧ ¬ (k = 2 ∧ j = 11)) : gI (f_X0_setRule M u1 u2) k j = gI M k j := by
  unfold f_X0_setRule
  repeat' (first | with_reducible rfl | (rw [gI_off k j (by omega)]) | (rw [gI_sJ]) | (refine gI_iteK ?_ ?_) | (refine gI_iteP ?_ ?_) | dsimp only)
theorem fj_f_X0_setRule (M : Mm) (u1 : Int32) (u2 : Int32) (k j : Nat) (h : True) : gJ (f_X0_setRule M u1 u2) k j = gJ M k j := by
  unfold f_X0_setRule
  repeat' (first | with_reducible rfl | (rw [gJ_off k j (by omega)]) | (rw [gJ_sI]) | (refine gJ_iteK ?_ ?_) | (refine gJ_iteP ?_ ?_) | dsimp only)
theorem fr_m_X0_takeSample_1 (M : Mm) (u1 : Int32) (k j : Nat) (h : k ≠ 17 ∧ k ≠ 18) : gI (m_X0_takeSample_1 M u1) k j = gI M k j := by
  unfold m_X0_takeSample_1
  repeat' (first | with_reducible rfl | (rw [gI_off k j (by omega)]) | (rw [gI_sJ]) | (refine gI_iteK ?_ ?_) | (refine gI_iteP ?_ ?_) | dsimp only)
theorem fj_m_X0_takeSample_1 (M : Mm) (u1 : Int32) (k j : Nat) (h : True) : gJ (m_X0_takeSample_1 M u1) k j = gJ M k j := by
  unfold m_X0_takeSample_1
  repeat' (first | with_reducible rfl | (rw [gJ_off k j (by omega)]) | (rw [gJ_sI]) | (refine gJ_iteK ?_ ?_) | (refine gJ_iteP ?_ ?_) | dsimp only)
theorem fr_f_X0_takeSample (M : Mm) (u1 : Int32) (k j : Nat) (h : k ≠ 17 ∧ k ≠ 18 ∧ k ≠ 19) : gI (f_X0_takeSample M u1) k j = gI M k j := by
  unfold f_X0_takeSample
  repeat' (first | with_reducible rfl | (rw [gI_off k j (by omega)]) | (rw [gI_sJ]) | (rw [fr_m_X0_takeSample_1 _ _ k j (by omega)]) | (refine gI_iteK ?_ ?_) | (refine gI_iteP ?_ ?_) | dsimp only)
theorem fj_f_X0_takeSample (M : Mm) (u1 : Int32) (k j : Nat) (h : True) : gJ (f_X0_takeSample M u1) k j = gJ M k j := by
  unfold f_X0_takeSample
  repeat' (first | with_reducible rfl | (rw [gJ_off k j (by omega)]) | (rw [gJ_sI]) | (rw [fj_m_X0_takeSample_1 _ _ k j trivial]) | (refine gJ_iteK ?_ ?_) | (refine gJ_iteP ?_ ?_) | dsimp only)
theorem fr_m_X0_shift_1 (M : Mm) (u1 : Int32) (k j : Nat) (h : k ≠ 16) : gI (m_X0_shift_1 M u1) k j = gI M k j := by
  unfold m_X0_shift_1
  repeat' (first | with_reducible rfl | (rw [gI_off k j (by omega)]) | (rw [gI_sJ]) | (refine gI_iteK ?_ ?_) | (refine gI_iteP ?_ ?_) | dsimp only)
theorem fj_m_X0_shift_1 (M : Mm) (u1 : Int32) (k j : Nat) (h : True) : gJ (m_X0_shift_1 M u1) k j = gJ M k j := by
  unfold m_X0_shift_1
  repeat' (first | with_reducible rfl | (rw [gJ_off k j (by omega)]) | (rw [gJ_sI]) | (refine gJ_iteK ?_ ?_) | (refine gJ_iteP ?_ ?_) | dsimp only)
theorem fr_m_X0_shift_2 (M : Mm) (u1 : Int32) (u2 : Int32) (k j : Nat) (h : k ≠ 16) : gI (m_X0_shift_2 M u1 u2) k j = gI M k j := by
  unfold m_X0_shift_2
  repeat' (first | with_reducible rfl | (rw [gI_off k j (by omega)]) | (rw [gI_sJ]) | (rw [fr_m_X0_shift_1 _ _ k j (by omega)]) | (refine gI_iteK ?_ ?_) | (refine gI_iteP ?_ ?_) | dsimp only)
theorem fj_m_X0_shift_2 (M : Mm) (u1 : Int32) (u2 : Int32) (k j : Nat) (h : True) : gJ (m_X0_shift_2 M u1 u2) k j = gJ M k j := by
  unfold m_X0_shift_2
  repeat' (first | with_reducible rfl | (rw [gJ_off k j (by omega)]) | (rw [gJ_sI]) | (rw [fj_m_X0_shift_1 _ _ k j trivial]) | (refine gJ_iteK ?_ ?_) | (refine gJ_iteP ?_ ?_) | dsimp only)
theorem fr_f_X0_shift (M : Mm) (u1 : Int32) (u2 : Int32) (k j : Nat) (h : k ≠ 16) : gI (f_X0_shift M u1 u2).2 k j = gI M k j := by
  unfold f_X0_shift
  repeat' (first | with_reducible rfl | (rw [gI_off k j (by omega)]) | (rw [gI_sJ]) | (rw [fr_m_X0_shift_2 _ _ _ k j (by omega)]) | (refine gI_iteK ?_ ?_) | (refine gI_iteP ?_ ?_) | dsimp only)
theorem fj_f_X0_shift (M : Mm) (u1 : Int32) (u2 : Int32) (k j : Nat) (h : True) : gJ (f_X0_shift M u1 u2).2 k j = gJ M k j := by
  unfold f_X0_shift
  repeat' (first | with_reducible rfl | (rw [gJ_off k j (by omega)]) | (rw [gJ_sI]) | (rw [fj_m_X0_shift_2 _ _ _ k j trivial]) | (refine gJ_iteK ?_ ?_) | (refine gJ_iteP ?_ ?_) | dsimp only)
theorem fr_f_X0_correct (M : Mm) (u1 : Int32) (k j : Nat) (h : k ≠ 16) : gI (f_X0_correct M u1).2 k j = gI M k j := by
  unfold f_X0_correct
  repeat' (first | with_reducible rfl | (rw [gI_off k j (by omega)]) | (rw [gI_sJ]) | (rw [fr_f_X0_shift _ _ _ k j (by omega)]) | (refine gI_iteK ?_ ?_) | (refine gI_iteP ?_ ?_) | dsimp only)
theorem fj_f_X0_correct (M : Mm) (u1 : Int32) (k j : Nat) (h : True) : gJ (f_X0_correct M u1).2 k j = gJ M k j := by
  unfold f_X0_correct
  repeat' (first | with_reducible rfl | (rw [gJ_off k j (by omega)]) | (rw [gJ_sI]) | (rw [fj_f_X0_shift _ _ _ k j trivial]) | (refine gJ_iteK ?_ ?_) | (refine gJ_iteP ?_ ?_) | dsimp only)
theorem fr_m_X0_readYoungest_1 (i1 : Nat) (z1 : Int32 × Mm) (k j : Nat) (h : k ≠ 17 ∧ ¬ (k = 2 ∧ j = 7)) : gI (m_X0_readYoungest_1 i1 z1) k j = gI z1.2 k j := by
  unfold m_X0_readYoungest_1
  repeat' (first | with_reducible rfl | (rw [gI_off k j (by omega)]) | (rw [gI_sJ]) | (refine gI_iteK ?_ ?_) | (refine gI_iteP ?_ ?_) | dsimp only)
theorem fj_m_X0_readYoungest_1 (i1 : Nat) (z1 : Int32 × Mm) (k j : Nat) (h : True) : gJ (m_X0_readYoungest_1 i1 z1) k j = gJ z1.2 k j := by
  unfold m_X0_readYoungest_1
  repeat' (first | with_reducible rfl | (rw [gJ_off k j (by omega)]) | (rw [gJ_sI]) | (refine gJ_iteK ?_ ?_) | (refine gJ_iteP ?_ ?_) | dsimp only)
theorem fr_b_X0_readYoungest_1 (i1 : Nat) (z1 : Int32 × Mm) (k j : Nat) (h : k ≠ 17 ∧ ¬ (k = 2 ∧ j = 7)) : gI (b_X0_readYoungest_1 i1 z1).2 k j = gI z1.2 k j := by
  unfold b_X0_readYoungest_1
  repeat' (first | with_reducible rfl | (rw [gI_off k j (by omega)]) | (rw [gI_sJ]) | (rw [fr_m_X0_readYoungest_1 _ _ k j (by omega)]) | (refine gI_iteK ?_ ?_) | (refine gI_iteP ?_ ?_) | dsimp only)
theorem fj_b_X0_readYoungest_1 (i1 : Nat) (z1 : Int32 × Mm) (k j : Nat) (h : True) : gJ (b_X0_readYoungest_1 i1 z1).2 k j = gJ z1.2 k j := by
  unfold b_X0_readYoungest_1
  repeat' (first | with_reducible rfl | (rw [gJ_off k j (by omega)]) | (rw [gJ_sI]) | (rw [fj_m_X0_readYoungest_1 _ _ k j trivial]) | (refine gJ_iteK ?_ ?_) | (refine gJ_iteP ?_ ?_) | dsimp only)
theorem fr_l_X0_readYoungest_1 (M : Mm) (z1 : Int32 × Mm) (k j : Nat) (h : k ≠ 17 ∧ ¬ (k = 2 ∧ j = 7)) : gI (l_X0_readYoungest_1 M z1).2 k j = gI z1.2 k j := by
  unfold l_X0_readYoungest_1
  repeat' (first | with_reducible rfl | (rw [gI_off k j (by omega)]) | (rw [gI_sJ]) | (rw [itr_keepIP (fun i z => fr_b_X0_readYoungest_1 i z k j (by omega))]) | (rw [fr_b_X0_readYoungest_1 _ _ k j (by omega)]) | (refine gI_iteK ?_ ?_) | (refine gI_iteP ?_ ?_) | dsimp only)
theorem fj_l_X0_readYoungest_1 (M : Mm) (z1 : Int32 × Mm) (k j : Nat) (h : True) : gJ (l_X0_readYoungest_1 M z1).2 k j = gJ z1.2 k j := by
  unfold l_X0_readYoungest_1
  repeat' (first | with_reducible rfl | (rw [gJ_off k j (by omega)]) | (rw [gJ_sI]) | (rw [itr_keepJP (fun i z => fj_b_X0_readYoungest_1 i z k j trivial)]) | (rw [fj_b_X0_readYoungest_1 _ _ k j trivial]) | (refine gJ_iteK ?_ ?_) | (refine gJ_iteP ?_ ?_) | dsimp only)
theorem fr_f_X0_readYoungest (M : Mm) (k j : Nat) (h : k ≠ 17 ∧ ¬ (k = 2 ∧ j = 7)) : gI (f_X0_readYoungest M).2 k j = gI M k j := by
  unfold f_X0_readYoungest
  repeat' (first | with_reducible rfl | (rw [gI_off k j (by omega)]) | (rw [gI_sJ]) | (rw [fr_l_X0_readYoungest_1 _ _ k j (by omega)]) | (refine gI_iteK ?_ ?_) | (refine gI_iteP ?_ ?_) | dsimp only)
theorem fj_f_X0_readYoungest (M : Mm) (k j : Nat) (h : True) : gJ (f_X0_readYoungest M).2 k j = gJ M k j := by
  unfold f_X0_readYoungest
  repeat' (first | with_reducible rfl | (rw [gJ_off k j (by omega)]) | (rw [gJ_sI]) | (rw [fj_l_X0_readYoungest_1 _ _ k j trivial]) | (refine gJ_iteK ?_ ?_) | (refine gJ_iteP ?_ ?_) | dsimp only)
theorem fr_m_X0_passHour_1 (M : Mm) (u1 : Int32) (k j : Nat) (h : k ≠ 17 ∧ k ≠ 18 ∧ k ≠ 19 ∧ ¬ (k = 2 ∧ j = 5) ∧ ¬ (k = 2 ∧ j = 6) ∧ ¬ (k = 2 ∧ j = 7)) : gI (m_X0_passHour_1 M u1) k j = gI M k j := by
  unfold m_X0_passHour_1
  repeat' (first | with_reducible rfl | (rw [gI_off k j (by omega)]) | (rw [gI_sJ]) | (rw [fr_f_X0_readYoungest _ k j (by omega)]) | (rw [fr_f_X0_takeSample _ _ k j (by omega)]) | (refine gI_iteK ?_ ?_) | (refine gI_iteP ?_ ?_) | dsimp only)
theorem fj_m_X0_passHour_1 (M : Mm) (u1 : Int32) (k j : Nat) (h : True) : gJ (m_X0_passHour_1 M u1) k j = gJ M k j := by
  unfold m_X0_passHour_1
  repeat' (first | with_reducible rfl | (rw [gJ_off k j (by omega)]) | (rw [gJ_sI]) | (rw [fj_f_X0_readYoungest _ k j trivial]) | (rw [fj_f_X0_takeSample _ _ k j trivial]) | (refine gJ_iteK ?_ ?_) | (refine gJ_iteP ?_ ?_) | dsimp only)
theorem fr_f_X0_passHour (M : Mm) (u1 : Int32) (k j : Nat) (h : k ≠ 16 ∧ k ≠ 17 ∧ k ≠ 18 ∧ k ≠ 19 ∧ ¬ (k = 2 ∧ j = 5) ∧ ¬ (k = 2 ∧ j = 6) ∧ ¬ (k = 2 ∧ j = 7)) : gI (f_X0_passHour M u1).2 k j = gI M k j := by
  unfold f_X0_passHour
  repeat' (first | with_reducible rfl | (rw [gI_off k j (by omega)]) | (rw [gI_sJ]) | (rw [fr_m_X0_passHour_1 _ _ k j (by omega)]) | (rw [fr_f_X0_correct _ _ k j (by omega)]) | (refine gI_iteK ?_ ?_) | (refine gI_iteP ?_ ?_) | dsimp only)
theorem fj_f_X0_passHour (M : Mm) (u1 : Int32) (k j : Nat) (h : True) : gJ (f_X0_passHour M u1).2 k j = gJ M k j := by
  unfold f_X0_passHour
  repeat' (first | with_reducible rfl | (rw [gJ_off k j (by omega)]) | (rw [gJ_sI]) | (rw [fj_m_X0_passHour_1 _ _ k j trivial]) | (rw [fj_f_X0_correct _ _ k j trivial]) | (refine gJ_iteK ?_ ?_) | (refine gJ_iteP ?_ ?_) | dsimp only)
theorem fr_f_X3_restart (M : Mm) (k j : Nat) (h : ¬ (k = 3 ∧ j = 7) ∧ ¬ (k = 3 ∧ j = 8)) : gI (f_X3_restart M).2 k j = gI M k j := by
  unfold f_X3_restart
  repeat' (first | with_reducible rfl | (rw [gI_off k j (by omega)]) | (rw [gI_sJ]) | (refine gI_iteK ?_ ?_) | (refine gI_iteP ?_ ?_) | dsimp only)
theorem fj_f_X3_restart (M : Mm) (k j : Nat) (h : True) : gJ (f_X3_restart M).2 k j = gJ M k j := by
  unfold f_X3_restart
  repeat' (first | with_reducible rfl | (rw [gJ_off k j (by omega)]) | (rw [gJ_sI]) | (refine gJ_iteK ?_ ?_) | (refine gJ_iteP ?_ ?_) | dsimp only)
theorem fr_b_X3_passGas_1 (i1 : Nat) (z1 : Int32 × Mm) (k j : Nat) (h : k ≠ 21) : gI (b_X3_passGas_1 i1 z1).2 k j = gI z1.2 k j := by
  unfold b_X3_passGas_1
  repeat' (first | with_reducible rfl | (rw [gI_off k j (by omega)]) | (rw [gI_sJ]) | (refine gI_iteK ?_ ?_) | (refine gI_iteP ?_ ?_) | dsimp only)
theorem fj_b_X3_passGas_1 (i1 : Nat) (z1 : Int32 × Mm) (k j : Nat) (h : True) : gJ (b_X3_passGas_1 i1 z1).2 k j = gJ z1.2 k j := by
  unfold b_X3_passGas_1
  repeat' (first | with_reducible rfl | (rw [gJ_off k j (by omega)]) | (rw [gJ_sI]) | (refine gJ_iteK ?_ ?_) | (refine gJ_iteP ?_ ?_) | dsimp only)
theorem fr_l_X3_passGas_1 (z1 : Int32 × Mm) (k j : Nat) (h : k ≠ 21) : gI (l_X3_passGas_1 z1).2 k j = gI z1.2 k j := by
  unfold l_X3_passGas_1
  repeat' (first | with_reducible rfl | (rw [gI_off k j (by omega)]) | (rw [gI_sJ]) | (rw [itr_keepIP (fun i z => fr_b_X3_passGas_1 i z k j (by omega))]) | (rw [fr_b_X3_passGas_1 _ _ k j (by omega)]) | (refine gI_iteK ?_ ?_) | (refine gI_iteP ?_ ?_) | dsimp only)
theorem fj_l_X3_passGas_1 (z1 : Int32 × Mm) (k j : Nat) (h : True) : gJ (l_X3_passGas_1 z1).2 k j = gJ z1.2 k j := by
  unfold l_X3_passGas_1
  repeat' (first | with_reducible rfl | (rw [gJ_off k j (by omega)]) | (rw [gJ_sI]) | (rw [itr_keepJP (fun i z => fj_b_X3_passGas_1 i z k j trivial)]) | (rw [fj_b_X3_passGas_1 _ _ k j trivial]) | (refine gJ_iteK ?_ ?_) | (refine gJ_iteP ?_ ?_) | dsimp only)
theorem fr_b_X3_passGas_2 (i2 : Nat) (z2 : Int32 × Mm) (k j : Nat) (h : k ≠ 21) : gI (b_X3_passGas_2 i2 z2).2 k j = gI z2.2 k j := by
  unfold b_X3_passGas_2
  repeat' (first | with_reducible rfl | (rw [gI_off k j (by omega)]) | (rw [gI_sJ]) | (refine gI_iteK ?_ ?_) | (refine gI_iteP ?_ ?_) | dsimp only)
theorem fj_b_X3_passGas_2 (i2 : Nat) (z2 : Int32 × Mm) (k j : Nat) (h : True) : gJ (b_X3_passGas_2 i2 z2).2 k j = gJ z2.2 k j := by
  unfold b_X3_passGas_2
  repeat' (first | with_reducible rfl | (rw [gJ_off k j (by omega)]) | (rw [gJ_sI]) | (refine gJ_iteK ?_ ?_) | (refine gJ_iteP ?_ ?_) | dsimp only)
theorem fr_l_X3_passGas_2 (z2 : Int32 × Mm) (k j : Nat) (h : k ≠ 21) : gI (l_X3_passGas_2 z2).2 k j = gI z2.2 k j := by
  unfold l_X3_passGas_2
  repeat' (first | with_reducible rfl | (rw [gI_off k j (by omega)]) | (rw [gI_sJ]) | (rw [itd_keepIP (fun i z => fr_b_X3_passGas_2 i z k j (by omega))]) | (rw [fr_b_X3_passGas_2 _ _ k j (by omega)]) | (refine gI_iteK ?_ ?_) | (refine gI_iteP ?_ ?_) | dsimp only)
theorem fj_l_X3_passGas_2 (z2 : Int32 × Mm) (k j : Nat) (h : True) : gJ (l_X3_passGas_2 z2).2 k j = gJ z2.2 k j := by
  unfold l_X3_passGas_2
  repeat' (first | with_reducible rfl | (rw [gJ_off k j (by omega)]) | (rw [gJ_sI]) | (rw [itd_keepJP (fun i z => fj_b_X3_passGas_2 i z k j trivial)]) | (rw [fj_b_X3_passGas_2 _ _ k j trivial]) | (refine gJ_iteK ?_ ?_) | (refine gJ_iteP ?_ ?_) | dsimp only)
theorem fr_f_X3_passGas (M : Mm) (u1 : Int32) (k j : Nat) (h : k ≠ 21) : gI (f_X3_passGas M u1).2 k j = gI M k j := by
  unfold f_X3_passGas
  repeat' (first | with_reducible rfl | (rw [gI_off k j (by omega)]) | (rw [gI_sJ]) | (rw [fr_l_X3_passGas_2 _ k j (by omega)]) | (rw [fr_l_X3_passGas_1 _ k j (by omega)]) | (refine gI_iteK ?_ ?_) | (refine gI_iteP ?_ ?_) | dsimp only)
theorem fj_f_X3_passGas (M : Mm) (u1 : Int32) (k j : Nat) (h : True) : gJ (f_X3_passGas M u1).2 k j = gJ M k j := by
  unfold f_X3_passGas
  repeat' (first | with_reducible rfl | (rw [gJ_off k j (by omega)]) | (rw [gJ_sI]) | (rw [fj_l_X3_passGas_2 _ k j trivial]) | (rw [fj_l_X3_passGas_1 _ k j trivial]) | (refine gJ_iteK ?_ ?_) | (refine gJ_iteP ?_ ?_) | dsimp only)
theorem fr_m_X3_handOn_1 (u1 : Int32) (i1 : Nat) (z1 : Mm) (k j : Nat) (h : k ≠ 22 ∧ k ≠ 23) : gI (m_X3_handOn_1 u1 i1 z1) k j = gI z1 k j := by
  unfold m_X3_handOn_1
  repeat' (first | with_reducible rfl | (rw [gI_off k j (by omega)]) | (rw [gI_sJ]) | (refine gI_iteK ?_ ?_) | (refine gI_iteP ?_ ?_) | dsimp only)
theorem fj_m_X3_handOn_1 (u1 : Int32) (i1 : Nat) (z1 : Mm) (k j : Nat) (h : True) : gJ (m_X3_handOn_1 u1 i1 z1) k j = gJ z1 k j := by
  unfold m_X3_handOn_1
  repeat' (first | with_reducible rfl | (rw [gJ_off k j (by omega)]) | (rw [gJ_sI]) | (refine gJ_iteK ?_ ?_) | (refine gJ_iteP ?_ ?_) | dsimp only)
theorem fr_b_X3_handOn_1 (u1 : Int32) (i1 : Nat) (z1 : Mm) (k j : Nat) (h : k ≠ 22 ∧ k ≠ 23) : gI (b_X3_handOn_1 u1 i1 z1) k j = gI z1 k j := by
  unfold b_X3_handOn_1
  repeat' (first | with_reducible rfl | (rw [gI_off k j (by omega)]) | (rw [gI_sJ]) | (rw [fr_m_X3_handOn_1 _ _ _ k j (by omega)]) | (refine gI_iteK ?_ ?_) | (refine gI_iteP ?_ ?_) | dsimp only)
theorem fj_b_X3_handOn_1 (u1 : Int32) (i1 : Nat) (z1 : Mm) (k j : Nat) (h : True) : gJ (b_X3_handOn_1 u1 i1 z1) k j = gJ z1 k j := by
  unfold b_X3_handOn_1
  repeat' (first | with_reducible rfl | (rw [gJ_off k j (by omega)]) | (rw [gJ_sI]) | (rw [fj_m_X3_handOn_1 _ _ _ k j trivial]) | (refine gJ_iteK ?_ ?_) | (refine gJ_iteP ?_ ?_) | dsimp only)
theorem fr_m_X3_handOn_3 (i2 : Nat) (z2 : Mm) (k j : Nat) (h : k ≠ 20 ∧ k ≠ 21) : gI (m_X3_handOn_3 i2 z2) k j = gI z2 k j := by
  unfold m_X3_handOn_3
  repeat' (first | with_reducible rfl | (rw [gI_off k j (by omega)]) | (rw [gI_sJ]) | (refine gI_iteK ?_ ?_) | (refine gI_iteP ?_ ?_) | dsimp only)
theorem fj_m_X3_handOn_3 (i2 : Nat) (z2 : Mm) (k j : Nat) (h : True) : gJ (m_X3_handOn_3 i2 z2) k j = gJ z2 k j := by
  unfold m_X3_handOn_3
  repeat' (first | with_reducible rfl | (rw [gJ_off k j (by omega)]) | (rw [gJ_sI]) | (refine gJ_iteK ?_ ?_) | (refine gJ_iteP ?_ ?_) | dsimp only)
theorem fr_m_X3_handOn_4 (i2 : Nat) (z2 : Mm) (k j : Nat) (h : k ≠ 20 ∧ k ≠ 21) : gI (m_X3_handOn_4 i2 z2) k j = gI z2 k j := by
  unfold m_X3_handOn_4
  repeat' (first | with_reducible rfl | (rw [gI_off k j (by omega)]) | (rw [gI_sJ]) | (rw [fr_m_X3_handOn_3 _ _ k j (by omega)]) | (refine gI_iteK ?_ ?_) | (refine gI_iteP ?_ ?_) | dsimp only)
theorem fj_m_X3_handOn_4 (i2 : Nat) (z2 : Mm) (k j : Nat) (h : True) : gJ (m_X3_handOn_4 i2 z2) k j = gJ z2 k j := by
  unfold m_X3_handOn_4
  repeat' (first | with_reducible rfl | (rw [gJ_off k j (by omega)]) | (rw [gJ_sI]) | (rw [fj_m_X3_handOn_3 _ _ k j trivial]) | (refine gJ_iteK ?_ ?_) | (refine gJ_iteP ?_ ?_) | dsimp only)
theorem fr_b_X3_handOn_2 (i2 : Nat) (z2 : Mm) (k j : Nat) (h : k ≠ 20 ∧ k ≠ 21) : gI (b_X3_handOn_2 i2 z2) k j = gI z2 k j := by
  unfold b_X3_handOn_2
  repeat' (first | with_reducible rfl | (rw [gI_off k j (by omega)]) | (rw [gI_sJ]) | (rw [fr_m_X3_handOn_4 _ _ k j (by omega)]) | (refine gI_iteK ?_ ?_) | (refine gI_iteP ?_ ?_) | dsimp only)
theorem fj_b_X3_handOn_2 (i2 : Nat) (z2 : Mm) (k j : Nat) (h : True) : gJ (b_X3_handOn_2 i2 z2) k j = gJ z2 k j := by
  unfold b_X3_handOn_2
  repeat' (first | with_reducible rfl | (rw [gJ_off k j (by omega)]) | (rw [gJ_sI]) | (rw [fj_m_X3_handOn_4 _ _ k j trivial]) | (refine gJ_iteK ?_ ?_) | (refine gJ_iteP ?_ ?_) | dsimp only)
theorem fr_f_X3_handOn (M : Mm) (u1 : Int32) (k j : Nat) (h : k ≠ 20 ∧ k ≠ 21 ∧ k ≠ 22 ∧ k ≠ 23) : gI (f_X3_handOn M u1) k j = gI M k j := by
  unfold f_X3_handOn
  repeat' (first | with_reducible rfl | (rw [gI_off k j (by omega)]) | (rw [gI_sJ]) | (rw [itr_keepI (fun i z => fr_b_X3_handOn_2 i z k j (by omega))]) | (rw [fr_b_X3_handOn_2 _ _ k j (by omega)]) | (rw [itr_keepI (fun i z => fr_b_X3_handOn_1 _ i z k j (by omega))]) | (rw [fr_b_X3_handOn_1 _ _ _ k j (by omega)]) | (refine gI_iteK ?_ ?_) | (refine gI_iteP ?_ ?_) | dsimp only)
theorem fj_f_X3_handOn (M : Mm) (u1 : Int32) (k j : Nat) (h : True) : gJ (f_X3_handOn M u1) k j = gJ M k j := by
  unfold f_X3_handOn
  repeat' (first | with_reducible rfl | (rw [gJ_off k j (by omega)]) | (rw [gJ_sI]) | (rw [itr_keepJ (fun i z => fj_b_X3_handOn_2 i z k j trivial)]) | (rw [fj_b_X3_handOn_2 _ _ k j trivial]) | (rw [itr_keepJ (fun i z => fj_b_X3_handOn_1 _ i z k j trivial)]) | (rw [fj_b_X3_handOn_1 _ _ _ k j trivial]) | (refine gJ_iteK ?_ ?_) | (refine gJ_iteP ?_ ?_) | dsimp only)
theorem fr_f_X3_tellOut (M : Mm) (k j : Nat) (h : k ≠ 24) : gI (f_X3_tellOut M) k j = gI M k j := by
  unfold f_X3_tellOut
  repeat' (first | with_reducible rfl | (rw [gI_off k j (by omega)]) | (rw [gI_sJ]) | (refine gI_iteK ?_ ?_) | (refine gI_iteP ?_ ?_) | dsimp only)
theorem fj_f_X3_tellOut (M : Mm) (k j : Nat) (h : True) : gJ (f_X3_tellOut M) k j = gJ M k j := by
  unfold f_X3_tellOut
  repeat' (first | with_reducible rfl | (rw [gJ_off k j (by omega)]) | (rw [gJ_sI]) | (refine gJ_iteK ?_ ?_) | (refine gJ_iteP ?_ ?_) | dsimp only)
theorem fr_f_X3_setCause (M : Mm) (u1 : Int32) (u2 : Int32) (k j : Nat) (h : k ≠ 24) : gI (f_X3_setCause M u1 u2) k j = gI M k j := by
  unfold f_X3_setCause
  repeat' (first | with_reducible rfl | (rw [gI_off k j (by omega)]) | (rw [gI_sJ]) | (refine gI_iteK ?_ ?_) | (refine gI_iteP ?_ ?_) | dsimp only)
theorem fj_f_X3_setCause (M : Mm) (u1 : Int32) (u2 : Int32) (k j : Nat) (h : True) : gJ (f_X3_setCause M u1 u2) k j = gJ M k j := by
  unfold f_X3_setCause
  repeat' (first | with_reducible rfl | (rw [gJ_off k j (by omega)]) | (rw [gJ_sI]) | (refine gJ_iteK ?_ ?_) | (refine gJ_iteP ?_ ?_) | dsimp only)
theorem fr_m_X3_findCause_1 (M : Mm) (u1 : Int32) (k j : Nat) (h : k ≠ 24) : gI (m_X3_findCause_1 M u1) k j = gI M k j := by
  unfold m_X3_findCause_1
  repeat' (first | with_reducible rfl | (rw [gI_off k j (by omega)]) | (rw [gI_sJ]) | (rw [fr_f_X3_setCause _ _ _ k j (by omega)]) | (refine gI_iteK ?_ ?_) | (refine gI_iteP ?_ ?_) | dsimp only)
theorem fj_m_X3_findCause_1 (M : Mm) (u1 : Int32) (k j : Nat) (h : True) : gJ (m_X3_findCause_1 M u1) k j = gJ M k j := by
  unfold m_X3_findCause_1
  repeat' (first | with_reducible rfl | (rw [gJ_off k j (by omega)]) | (rw [gJ_sI]) | (rw [fj_f_X3_setCause _ _ _ k j trivial]) | (refine gJ_iteK ?_ ?_) | (refine gJ_iteP ?_ ?_) | dsimp only)
theorem fr_f_X3_findCause (M : Mm) (u1 : Int32) (k j : Nat) (h : k ≠ 24 ∧ ¬ (k = 3 ∧ j = 8)) : gI (f_X3_findCause M u1) k j = gI M k j := by
  unfold f_X3_findCause
  repeat' (first | with_reducible rfl | (rw [gI_off k j (by omega)]) | (rw [gI_sJ]) | (rw [fr_m_X3_findCause_1 _ _ k j (by omega)]) | (refine gI_iteK ?_ ?_) | (refine gI_iteP ?_ ?_) | dsimp only)
theorem fj_f_X3_findCause (M : Mm) (u1 : Int32) (k j : Nat) (h : True) : gJ (f_X3_findCause M u1) k j = gJ M k j := by
  unfold f_X3_findCause
  repeat' (first | with_reducible rfl | (rw [gJ_off k j (by omega)]) | (rw [gJ_sI]) | (rw [fj_m_X3_findCause_1 _ _ k j trivial]) | (refine gJ_iteK ?_ ?_) | (refine gJ_iteP ?_ ?_) | dsimp only)
theorem fr_m_X3_addSums_1 (M : Mm) (u1 : Int32) (u2 : Int32) (k j : Nat) (h : True) : gI (m_X3_addSums_1 M u1 u2) k j = gI M k j := by
  unfold m_X3_addSums_1
  repeat' (first | with_reducible rfl | (rw [gI_off k j (by omega)]) | (rw [gI_sJ]) | (refine gI_iteK ?_ ?_) | (refine gI_iteP ?_ ?_) | dsimp only)
theorem fj_m_X3_addSums_1 (M : Mm) (u1 : Int32) (u2 : Int32) (k j : Nat) (h : k ≠ 25) : gJ (m_X3_addSums_1 M u1 u2) k j = gJ M k j := by
  unfold m_X3_addSums_1
  repeat' (first | with_reducible rfl | (rw [gJ_off k j (by omega)]) | (rw [gJ_sI]) | (refine gJ_iteK ?_ ?_) | (refine gJ_iteP ?_ ?_) | dsimp only)
theorem fr_f_X3_addSums (M : Mm) (u1 : Int32) (u2 : Int32) (k j : Nat) (h : True) : gI (f_X3_addSums M u1 u2) k j = gI M k j := by
  unfold f_X3_addSums
  repeat' (first | with_reducible rfl | (rw [gI_off k j (by omega)]) | (rw [gI_sJ]) | (rw [fr_m_X3_addSums_1 _ _ _ k j trivial]) | (refine gI_iteK ?_ ?_) | (refine gI_iteP ?_ ?_) | dsimp only)
theorem fj_f_X3_addSums (M : Mm) (u1 : Int32) (u2 : Int32) (k j : Nat) (h : k ≠ 25) : gJ (f_X3_addSums M u1 u2) k j = gJ M k j := by
  unfold f_X3_addSums
  repeat' (first | with_reducible rfl | (rw [gJ_off k j (by omega)]) | (rw [gJ_sI]) | (rw [fj_m_X3_addSums_1 _ _ _ k j (by omega)]) | (refine gJ_iteK ?_ ?_) | (refine gJ_iteP ?_ ?_) | dsimp only)
theorem fr_m_X3_burn_1 (M : Mm) (u2 : Int32) (u3 : Int32) (k j : Nat) (h : k ≠ 20 ∧ k ≠ 21 ∧ k ≠ 22 ∧ k ≠ 23 ∧ k ≠ 24) : gI (m_X3_burn_1 M u2 u3) k j = gI M k j := by
  unfold m_X3_burn_1
  repeat' (first | with_reducible rfl | (rw [gI_off k j (by omega)]) | (rw [gI_sJ]) | (rw [fr_f_X3_handOn _ _ k j (by omega)]) | (rw [fr_f_X3_passGas _ _ k j (by omega)]) | (refine gI_iteK ?_ ?_) | (refine gI_iteP ?_ ?_) | dsimp only)
theorem fj_m_X3_burn_1 (M : Mm) (u2 : Int32) (u3 : Int32) (k j : Nat) (h : True) : gJ (m_X3_burn_1 M u2 u3) k j = gJ M k j := by
  unfold m_X3_burn_1
  repeat' (first | with_reducible rfl | (rw [gJ_off k j (by omega)]) | (rw [gJ_sI]) | (rw [fj_f_X3_handOn _ _ k j trivial]) | (rw [fj_f_X3_passGas _ _ k j trivial]) | (refine gJ_iteK ?_ ?_) | (refine gJ_iteP ?_ ?_) | dsimp only)
theorem fr_m_X3_burn_2 (M : Mm) (u1 : Int32) (u2 : Int32) (u3 : Int32) (k j : Nat) (h : k ≠ 20 ∧ k ≠ 21 ∧ k ≠ 22 ∧ k ≠ 23 ∧ k ≠ 24 ∧ ¬ (k = 3 ∧ j = 8)) : gI (m_X3_burn_2 M u1 u2 u3) k j = gI M k j := by
  unfold m_X3_burn_2
  repeat' (first | with_reducible rfl | (rw [gI_off k j (by omega)]) | (rw [gI_sJ]) | (rw [fr_f_X3_addSums _ _ _ k j trivial]) | (rw [fr_f_X3_findCause _ _ k j (by omega)]) | (rw [fr_f_X3_tellOut _ k j (by omega)]) | (rw [fr_m_X3_burn_1 _ _ _ k j (by omega)]) | (refine gI_iteK ?_ ?_) | (refine gI_iteP ?_ ?_) | dsimp only)
theorem fj_m_X3_burn_2 (M : Mm) (u1 : Int32) (u2 : Int32) (u3 : Int32) (k j : Nat) (h : k ≠ 25) : gJ (m_X3_burn_2 M u1 u2 u3) k j = gJ M k j := by
  unfold m_X3_burn_2
  repeat' (first | with_reducible rfl | (rw [gJ_off k j (by omega)]) | (rw [gJ_sI]) | (rw [fj_f_X3_addSums _ _ _ k j (by omega)]) | (rw [fj_f_X3_findCause _ _ k j trivial]) | (rw [fj_f_X3_tellOut _ k j trivial]) | (rw [fj_m_X3_burn_1 _ _ _ k j trivial]) | (refine gJ_iteK ?_ ?_) | (refine gJ_iteP ?_ ?_) | dsimp only)
theorem fr_m_X3_burn_3 (M : Mm) (u1 : Int32) (u2 : Int32) (u3 : Int32) (k j : Nat) (h : k ≠ 20 ∧ k ≠ 21 ∧ k ≠ 22 ∧ k ≠ 23 ∧ k ≠ 24 ∧ ¬ (k = 3 ∧ j = 7) ∧ ¬ (k = 3 ∧ j = 8)) : gI (m_X3_burn_3 M u1 u2 u3) k j = gI M k j := by
  unfold m_X3_burn_3
  repeat' (first | with_reducible rfl | (rw [gI_off k j (by omega)]) | (rw [gI_sJ]) | (rw [fr_m_X3_burn_2 _ _ _ _ k j (by omega)]) | (refine gI_iteK ?_ ?_) | (refine gI_iteP ?_ ?_) | dsimp only)
theorem fj_m_X3_burn_3 (M : Mm) (u1 : Int32) (u2 : Int32) (u3 : Int32) (k j : Nat) (h : k ≠ 25) : gJ (m_X3_burn_3 M u1 u2 u3) k j = gJ M k j := by
  unfold m_X3_burn_3
  repeat' (first | with_reducible rfl | (rw [gJ_off k j (by omega)]) | (rw [gJ_sI]) | (rw [fj_m_X3_burn_2 _ _ _ _ k j (by omega)]) | (refine gJ_iteK ?_ ?_) | (refine gJ_iteP ?_ ?_) | dsimp only)
theorem fr_f_X3_burn (M : Mm) (u1 : Int32) (u2 : Int32) (u3 : Int32) (k j : Nat) (h : k ≠ 20 ∧ k ≠ 21 ∧ k ≠ 22 ∧ k ≠ 23 ∧ k ≠ 24 ∧ ¬ (k = 3 ∧ j = 6) ∧ ¬ (k = 3 ∧ j = 7) ∧ ¬ (k = 3 ∧ j = 8)) : gI (f_X3_burn M u1 u2 u3).2 k j = gI M k j := by
  unfold f_X3_burn
  repeat' (first | with_reducible rfl | (rw [gI_off k j (by omega)]) | (rw [gI_sJ]) | (rw [fr_m_X3_burn_3 _ _ _ _ k j (by omega)]) | (refine gI_iteK ?_ ?_) | (refine gI_iteP ?_ ?_) | dsimp only)
theorem fj_f_X3_burn (M : Mm) (u1 : Int32) (u2 : Int32) (u3 : Int32) (k j : Nat) (h : k ≠ 25) : gJ (f_X3_burn M u1 u2 u3).2 k j = gJ M k j := by
  unfold f_X3_burn
  repeat' (first | with_reducible rfl | (rw [gJ_off k j (by omega)]) | (rw [gJ_sI]) | (rw [fj_m_X3_burn_3 _ _ _ _ k j (by omega)]) | (refine gJ_iteK ?_ ?_) | (refine gJ_iteP ?_ ?_) | dsimp only)
theorem fr_m_X5_store_1 (M : Mm) (u1 : Int32) (u2 : Int32) (u3 : Int32) (k j : Nat) (h : k ≠ 26 ∧ k ≠ 27 ∧ k ≠ 28) : gI (m_X5_store_1 M u1 u2 u3) k j = gI M k j := by
  unfold m_X5_store_1
  repeat' (first | with_reducible rfl | (rw [gI_off k j (by omega)]) | (rw [gI_sJ]) | (refine gI_iteK ?_ ?_) | (refine gI_iteP ?_ ?_) | dsimp only)
theorem fj_m_X5_store_1 (M : Mm) (u1 : Int32) (u2 : Int32) (u3 : Int32) (k j : Nat) (h : True) : gJ (m_X5_store_1 M u1 u2 u3) k j = gJ M k j := by
  unfold m_X5_store_1
  repeat' (first | with_reducible rfl | (rw [gJ_off k j (by omega)]) | (rw [gJ_sI]) | (refine gJ_iteK ?_ ?_) | (refine gJ_iteP ?_ ?_) | dsimp only)
theorem fr_f_X5_store (M : Mm) (u1 : Int32) (u2 : Int32) (u3 : Int32) (k j : Nat) (h : k ≠ 26 ∧ k ≠ 27 ∧ k ≠ 28 ∧ k ≠ 29) : gI (f_X5_store M u1 u2 u3) k j = gI M k j := by
  unfold f_X5_store
  repeat' (first | with_reducible rfl | (rw [gI_off k j (by omega)]) | (rw [gI_sJ]) | (rw [fr_m_X5_store_1 _ _ _ _ k j (by omega)]) | (refine gI_iteK ?_ ?_) | (refine gI_iteP ?_ ?_) | dsimp only)
theorem fj_f_X5_store (M : Mm) (u1 : Int32) (u2 : Int32) (u3 : Int32) (k j : Nat) (h : True) : gJ (f_X5_store M u1 u2 u3) k j = gJ M k j := by
  unfold f_X5_store
  repeat' (first | with_reducible rfl | (rw [gJ_off k j (by omega)]) | (rw [gJ_sI]) | (rw [fj_m_X5_store_1 _ _ _ _ k j trivial]) | (refine gJ_iteK ?_ ?_) | (refine gJ_iteP ?_ ?_) | dsimp only)
theorem fr_m_X5_takeOf_1 (M : Mm) (u1 : Int32) (u2 : Int32) (k j : Nat) (h : k ≠ 27 ∧ k ≠ 28) : gI (m_X5_takeOf_1 M u1 u2) k j = gI M k j := by
  unfold m_X5_takeOf_1
  repeat' (first | with_reducible rfl | (rw [gI_off k j (by omega)]) | (rw [gI_sJ]) | (refine gI_iteK ?_ ?_) | (refine gI_iteP ?_ ?_) | dsimp only)
theorem fj_m_X5_takeOf_1 (M : Mm) (u1 : Int32) (u2 : Int32) (k j : Nat) (h : True) : gJ (m_X5_takeOf_1 M u1 u2) k j = gJ M k j := by
  unfold m_X5_takeOf_1
  repeat' (first | with_reducible rfl | (rw [gJ_off k j (by omega)]) | (rw [gJ_sI]) | (refine gJ_iteK ?_ ?_) | (refine gJ_iteP ?_ ?_) | dsimp only)
theorem fr_m_X5_takeOf_2 (M : Mm) (u1 : Int32) (u2 : Int32) (k j : Nat) (h : k ≠ 27 ∧ k ≠ 28 ∧ k ≠ 29) : gI (m_X5_takeOf_2 M u1 u2) k j = gI M k j := by
  unfold m_X5_takeOf_2
  repeat' (first | with_reducible rfl | (rw [gI_off k j (by omega)]) | (rw [gI_sJ]) | (rw [fr_m_X5_takeOf_1 _ _ _ k j (by omega)]) | (refine gI_iteK ?_ ?_) | (refine gI_iteP ?_ ?_) | dsimp only)
theorem fj_m_X5_takeOf_2 (M : Mm) (u1 : Int32) (u2 : Int32) (k j : Nat) (h : True) : gJ (m_X5_takeOf_2 M u1 u2) k j = gJ M k j := by
  unfold m_X5_takeOf_2
  repeat' (first | with_reducible rfl | (rw [gJ_off k j (by omega)]) | (rw [gJ_sI]) | (rw [fj_m_X5_takeOf_1 _ _ _ k j trivial]) | (refine gJ_iteK ?_ ?_) | (refine gJ_iteP ?_ ?_) | dsimp only)
theorem fr_m_X5_takeOf_3 (M : Mm) (u1 : Int32) (u2 : Int32) (k j : Nat) (h : k ≠ 27 ∧ k ≠ 28 ∧ k ≠ 29 ∧ k ≠ 30 ∧ k ≠ 31) : gI (m_X5_takeOf_3 M u1 u2) k j = gI M k j := by
  unfold m_X5_takeOf_3
  repeat' (first | with_reducible rfl | (rw [gI_off k j (by omega)]) | (rw [gI_sJ]) | (rw [fr_m_X5_takeOf_2 _ _ _ k j (by omega)]) | (refine gI_iteK ?_ ?_) | (refine gI_iteP ?_ ?_) | dsimp only)
theorem fj_m_X5_takeOf_3 (M : Mm) (u1 : Int32) (u2 : Int32) (k j : Nat) (h : True) : gJ (m_X5_takeOf_3 M u1 u2) k j = gJ M k j := by
  unfold m_X5_takeOf_3
  repeat' (first | with_reducible rfl | (rw [gJ_off k j (by omega)]) | (rw [gJ_sI]) | (rw [fj_m_X5_takeOf_2 _ _ _ k j trivial]) | (refine gJ_iteK ?_ ?_) | (refine gJ_iteP ?_ ?_) | dsimp only)
theorem fr_f_X5_takeOf (M : Mm) (u1 : Int32) (u2 : Int32) (k j : Nat) (h : k ≠ 27 ∧ k ≠ 28 ∧ k ≠ 29 ∧ k ≠ 30 ∧ k ≠ 31 ∧ ¬ (k = 4 ∧ j = 6)) : gI (f_X5_takeOf M u1 u2).2 k j = gI M k j := by
  unfold f_X5_takeOf
  repeat' (first | with_reducible rfl | (rw [gI_off k j (by omega)]) | (rw [gI_sJ]) | (rw [fr_m_X5_takeOf_3 _ _ _ k j (by omega)]) | (refine gI_iteK ?_ ?_) | (refine gI_iteP ?_ ?_) | dsimp only)
theorem fj_f_X5_takeOf (M : Mm) (u1 : Int32) (u2 : Int32) (k j : Nat) (h : True) : gJ (f_X5_takeOf M u1 u2).2 k j = gJ M k j := by
  unfold f_X5_takeOf
  repeat' (first | with_reducible rfl | (rw [gJ_off k j (by omega)]) | (rw [gJ_sI]) | (rw [fj_m_X5_takeOf_3 _ _ _ k j trivial]) | (refine gJ_iteK ?_ ?_) | (refine gJ_iteP ?_ ?_) | dsimp only)
theorem fr_b_X5_fill_1 (u1 : Int32) (i1 : Nat) (z1 : Int32 × Mm) (k j : Nat) (h : k ≠ 27 ∧ k ≠ 28 ∧ k ≠ 29 ∧ k ≠ 30 ∧ k ≠ 31 ∧ ¬ (k = 4 ∧ j = 6)) : gI (b_X5_fill_1 u1 i1 z1).2 k j = gI z1.2 k j := by
  unfold b_X5_fill_1
  repeat' (first | with_reducible rfl | (rw [gI_off k j (by omega)]) | (rw [gI_sJ]) | (rw [fr_f_X5_takeOf _ _ _ k j (by omega)]) | (refine gI_iteK ?_ ?_) | (refine gI_iteP ?_ ?_) | dsimp only)
theorem fj_b_X5_fill_1 (u1 : Int32) (i1 : Nat) (z1 : Int32 × Mm) (k j : Nat) (h : True) : gJ (b_X5_fill_1 u1 i1 z1).2 k j = gJ z1.2 k j := by
  unfold b_X5_fill_1
  repeat' (first | with_reducible rfl | (rw [gJ_off k j (by omega)]) | (rw [gJ_sI]) | (rw [fj_f_X5_takeOf _ _ _ k j trivial]) | (refine gJ_iteK ?_ ?_) | (refine gJ_iteP ?_ ?_) | dsimp only)
theorem fr_l_X5_fill_1 (u1 : Int32) (z1 : Int32 × Mm) (k j : Nat) (h : k ≠ 27 ∧ k ≠ 28 ∧ k ≠ 29 ∧ k ≠ 30 ∧ k ≠ 31 ∧ ¬ (k = 4 ∧ j = 6)) : gI (l_X5_fill_1 u1 z1).2 k j = gI z1.2 k j := by
  unfold l_X5_fill_1
  repeat' (first | with_reducible rfl | (rw [gI_off k j (by omega)]) | (rw [gI_sJ]) | (rw [itr_keepIP (fun i z => fr_b_X5_fill_1 _ i z k j (by omega))]) | (rw [fr_b_X5_fill_1 _ _ _ k j (by omega)]) | (refine gI_iteK ?_ ?_) | (refine gI_iteP ?_ ?_) | dsimp only)
theorem fj_l_X5_fill_1 (u1 : Int32) (z1 : Int32 × Mm) (k j : Nat) (h : True) : gJ (l_X5_fill_1 u1 z1).2 k j = gJ z1.2 k j := by
  unfold l_X5_fill_1
  repeat' (first | with_reducible rfl | (rw [gJ_off k j (by omega)]) | (rw [gJ_sI]) | (rw [itr_keepJP (fun i z => fj_b_X5_fill_1 _ i z k j trivial)]) | (rw [fj_b_X5_fill_1 _ _ _ k j trivial]) | (refine gJ_iteK ?_ ?_) | (refine gJ_iteP ?_ ?_) | dsimp only)
theorem fr_f_X5_fill (M : Mm) (u1 : Int32) (u2 : Int32) (k j : Nat) (h : k ≠ 27 ∧ k ≠ 28 ∧ k ≠ 29 ∧ k ≠ 30 ∧ k ≠ 31 ∧ ¬ (k = 4 ∧ j = 6)) : gI (f_X5_fill M u1 u2).2 k j = gI M k j := by
  have e := snd_of (f_X5_fill.eq_1 M u1 u2)
  rw [e, fr_l_X5_fill_1 _ _ k j (by omega)]
  exact gI_mk2' (gI_off k j (by omega))
theorem fj_f_X5_fill (M : Mm) (u1 : Int32) (u2 : Int32) (k j : Nat) (h : True) : gJ (f_X5_fill M u1 u2).2 k j = gJ M k j := by
  have e := snd_of (f_X5_fill.eq_1 M u1 u2)
  rw [e, fj_l_X5_fill_1 _ _ k j trivial]
  exact gJ_mk2' (gJ_sI _ _ _ _ _ _)
theorem fr_f_X4_drop (M : Mm) (u1 : Int32) (k j : Nat) (h : k ≠ 32 ∧ ¬ (k = 5 ∧ j = 4)) : gI (f_X4_drop M u1) k j = gI M k j := by
  unfold f_X4_drop
  repeat' (first | with_reducible rfl | (rw [gI_off k j (by omega)]) | (rw [gI_sJ]) | (refine gI_iteK ?_ ?_) | (refine gI_iteP ?_ ?_) | dsimp only)
theorem fj_f_X4_drop (M : Mm) (u1 : Int32) (k j : Nat) (h : True) : gJ (f_X4_drop M u1) k j = gJ M k j := by
  unfold f_X4_drop
  repeat' (first | with_reducible rfl | (rw [gJ_off k j (by omega)]) | (rw [gJ_sI]) | (refine gJ_iteK ?_ ?_) | (refine gJ_iteP ?_ ?_) | dsimp only)
theorem fr_f_X4_setNeed (M : Mm) (u1 : Int32) (u2 : Int32) (k j : Nat) (h : k ≠ 41) : gI (f_X4_setNeed M u1 u2).2 k j = gI M k j := by
  unfold f_X4_setNeed
  repeat' (first | with_reducible rfl | (rw [gI_off k j (by omega)]) | (rw [gI_sJ]) | (refine gI_iteK ?_ ?_) | (refine gI_iteP ?_ ?_) | dsimp only)
theorem fj_f_X4_setNeed (M : Mm) (u1 : Int32) (u2 : Int32) (k j : Nat) (h : True) : gJ (f_X4_setNeed M u1 u2).2 k j = gJ M k j := by
  unfold f_X4_setNeed
  repeat' (first | with_reducible rfl | (rw [gJ_off k j (by omega)]) | (rw [gJ_sI]) | (refine gJ_iteK ?_ ?_) | (refine gJ_iteP ?_ ?_) | dsimp only)
theorem fr_m_X4_cheapest_1 (u1 : Int32) (i1 : Nat) (z1 : Mm) (i2 : Nat) (z2 : Mm) (k j : Nat) (h : True) : gI (m_X4_cheapest_1 u1 i1 z1 i2 z2) k j = gI z2 k j := by
  unfold m_X4_cheapest_1
  repeat' (first | with_reducible rfl | (rw [gI_off k j (by omega)]) | (rw [gI_sJ]) | (refine gI_iteK ?_ ?_) | (refine gI_iteP ?_ ?_) | dsimp only)
theorem fj_m_X4_cheapest_1 (u1 : Int32) (i1 : Nat) (z1 : Mm) (i2 : Nat) (z2 : Mm) (k j : Nat) (h : k ≠ 42) : gJ (m_X4_cheapest_1 u1 i1 z1 i2 z2) k j = gJ z2 k j := by
  unfold m_X4_cheapest_1
  repeat' (first | with_reducible rfl | (rw [gJ_off k j (by omega)]) | (rw [gJ_sI]) | (refine gJ_iteK ?_ ?_) | (refine gJ_iteP ?_ ?_) | dsimp only)
theorem fr_m_X4_cheapest_2 (u1 : Int32) (u2 : Int32) (i1 : Nat) (z1 : Mm) (i2 : Nat) (z2 : Mm) (k j : Nat) (h : True) : gI (m_X4_cheapest_2 u1 u2 i1 z1 i2 z2) k j = gI z2 k j := by
  unfold m_X4_cheapest_2
  repeat' (first | with_reducible rfl | (rw [gI_off k j (by omega)]) | (rw [gI_sJ]) | (rw [fr_m_X4_cheapest_1 _ _ _ _ _ k j trivial]) | (refine gI_iteK ?_ ?_) | (refine gI_iteP ?_ ?_) | dsimp only)
theorem fj_m_X4_cheapest_2 (u1 : Int32) (u2 : Int32) (i1 : Nat) (z1 : Mm) (i2 : Nat) (z2 : Mm) (k j : Nat) (h : k ≠ 42) : gJ (m_X4_cheapest_2 u1 u2 i1 z1 i2 z2) k j = gJ z2 k j := by
  unfold m_X4_cheapest_2
  repeat' (first | with_reducible rfl | (rw [gJ_off k j (by omega)]) | (rw [gJ_sI]) | (rw [fj_m_X4_cheapest_1 _ _ _ _ _ k j (by omega)]) | (refine gJ_iteK ?_ ?_) | (refine gJ_iteP ?_ ?_) | dsimp only)
theorem fr_b_X4_cheapest_2 (u1 : Int32) (u2 : Int32) (i1 : Nat) (z1 : Mm) (i2 : Nat) (z2 : Mm) (k j : Nat) (h : True) : gI (b_X4_cheapest_2 u1 u2 i1 z1 i2 z2) k j = gI z2 k j := by
  unfold b_X4_cheapest_2
  repeat' (first | with_reducible rfl | (rw [gI_off k j (by omega)]) | (rw [gI_sJ]) | (rw [fr_m_X4_cheapest_2 _ _ _ _ _ _ k j trivial]) | (refine gI_iteK ?_ ?_) | (refine gI_iteP ?_ ?_) | dsimp only)
theorem fj_b_X4_cheapest_2 (u1 : Int32) (u2 : Int32) (i1 : Nat) (z1 : Mm) (i2 : Nat) (z2 : Mm) (k j : Nat) (h : k ≠ 42) : gJ (b_X4_cheapest_2 u1 u2 i1 z1 i2 z2) k j = gJ z2 k j := by
  unfold b_X4_cheapest_2
  repeat' (first | with_reducible rfl | (rw [gJ_off k j (by omega)]) | (rw [gJ_sI]) | (rw [fj_m_X4_cheapest_2 _ _ _ _ _ _ k j (by omega)]) | (refine gJ_iteK ?_ ?_) | (refine gJ_iteP ?_ ?_) | dsimp only)
theorem fr_b_X4_cheapest_1 (u1 : Int32) (u2 : Int32) (i1 : Nat) (z1 : Mm) (k j : Nat) (h : True) : gI (b_X4_cheapest_1 u1 u2 i1 z1) k j = gI z1 k j := by
  unfold b_X4_cheapest_1
  repeat' (first | with_reducible rfl | (rw [gI_off k j (by omega)]) | (rw [gI_sJ]) | (rw [itd_keepI (fun i z => fr_b_X4_cheapest_2 _ _ _ _ i z k j trivial)]) | (rw [fr_b_X4_cheapest_2 _ _ _ _ _ _ k j trivial]) | (refine gI_iteK ?_ ?_) | (refine gI_iteP ?_ ?_) | dsimp only)
theorem fj_b_X4_cheapest_1 (u1 : Int32) (u2 : Int32) (i1 : Nat) (z1 : Mm) (k j : Nat) (h : k ≠ 42) : gJ (b_X4_cheapest_1 u1 u2 i1 z1) k j = gJ z1 k j := by
  unfold b_X4_cheapest_1
  repeat' (first | with_reducible rfl | (rw [gJ_off k j (by omega)]) | (rw [gJ_sI]) | (rw [itd_keepJ (fun i z => fj_b_X4_cheapest_2 _ _ _ _ i z k j (by omega))]) | (rw [fj_b_X4_cheapest_2 _ _ _ _ _ _ k j (by omega)]) | (refine gJ_iteK ?_ ?_) | (refine gJ_iteP ?_ ?_) | dsimp only)
theorem fr_l_X4_cheapest_1 (u1 : Int32) (u2 : Int32) (z1 : Mm) (k j : Nat) (h : True) : gI (l_X4_cheapest_1 u1 u2 z1) k j = gI z1 k j := by
  unfold l_X4_cheapest_1
  repeat' (first | with_reducible rfl | (rw [gI_off k j (by omega)]) | (rw [gI_sJ]) | (rw [itr_keepI (fun i z => fr_b_X4_cheapest_1 _ _ i z k j trivial)]) | (rw [fr_b_X4_cheapest_1 _ _ _ _ k j trivial]) | (refine gI_iteK ?_ ?_) | (refine gI_iteP ?_ ?_) | dsimp only)
theorem fj_l_X4_cheapest_1 (u1 : Int32) (u2 : Int32) (z1 : Mm) (k j : Nat) (h : k ≠ 42) : gJ (l_X4_cheapest_1 u1 u2 z1) k j = gJ z1 k j := by
  unfold l_X4_cheapest_1
  repeat' (first | with_reducible rfl | (rw [gJ_off k j (by omega)]) | (rw [gJ_sI]) | (rw [itr_keepJ (fun i z => fj_b_X4_cheapest_1 _ _ i z k j (by omega))]) | (rw [fj_b_X4_cheapest_1 _ _ _ _ k j (by omega)]) | (refine gJ_iteK ?_ ?_) | (refine gJ_iteP ?_ ?_) | dsimp only)
theorem fr_f_X6_stroke (M : Mm) (u1 : Int32) (u2 : Int32) (u3 : Int32) (k j : Nat) (h : k ≠ 7 ∧ k ≠ 8 ∧ k ≠ 10 ∧ ¬ (k = 1 ∧ j = 4)) : gI (f_X6_stroke M u1 u2 u3).2 k j = gI M k j := by
  unfold f_X6_stroke
  repeat' (first | with_reducible rfl | (rw [gI_off k j (by omega)]) | (rw [gI_sJ]) | (rw [fr_f_X2_lay _ _ _ _ k j (by omega)]) | (refine gI_iteK ?_ ?_) | (refine gI_iteP ?_ ?_) | dsimp only)
theorem fj_f_X6_stroke (M : Mm) (u1 : Int32) (u2 : Int32) (u3 : Int32) (k j : Nat) (h : True) : gJ (f_X6_stroke M u1 u2 u3).2 k j = gJ M k j := by
  unfold f_X6_stroke
  repeat' (first | with_reducible rfl | (rw [gJ_off k j (by omega)]) | (rw [gJ_sI]) | (rw [fj_f_X2_lay _ _ _ _ k j trivial]) | (refine gJ_iteK ?_ ?_) | (refine gJ_iteP ?_ ?_) | dsimp only)
theorem fr_f_X6_cut (M : Mm) (u1 : Int32) (k j : Nat) (h : k ≠ 7 ∧ k ≠ 8 ∧ k ≠ 9) : gI (f_X6_cut M u1).2 k j = gI M k j := by
  unfold f_X6_cut
  repeat' (first | with_reducible rfl | (rw [gI_off k j (by omega)]) | (rw [gI_sJ]) | (rw [fr_f_X2_take _ _ k j (by omega)]) | (refine gI_iteK ?_ ?_) | (refine gI_iteP ?_ ?_) | dsimp only)
theorem fj_f_X6_cut (M : Mm) (u1 : Int32) (k j : Nat) (h : ¬ (k = 0 ∧ j = 8)) : gJ (f_X6_cut M u1).2 k j = gJ M k j := by
  unfold f_X6_cut
  repeat' (first | with_reducible rfl | (rw [gJ_off k j (by omega)]) | (rw [gJ_sI]) | (rw [fj_f_X2_take _ _ k j trivial]) | (refine gJ_iteK ?_ ?_) | (refine gJ_iteP ?_ ?_) | dsimp only)
theorem fr_f_X6_clear (M : Mm) (k j : Nat) (h : k ≠ 7 ∧ k ≠ 8 ∧ k ≠ 9 ∧ ¬ (k = 1 ∧ j = 4)) : gI (f_X6_clear M).2 k j = gI M k j := by
  unfold f_X6_clear
  repeat' (first | with_reducible rfl | (rw [gI_off k j (by omega)]) | (rw [gI_sJ]) | (rw [fr_f_X2_empty _ k j (by omega)]) | (refine gI_iteK ?_ ?_) | (refine gI_iteP ?_ ?_) | dsimp only)
theorem fj_f_X6_clear (M : Mm) (k j : Nat) (h : True) : gJ (f_X6_clear M).2 k j = gJ M k j := by
  unfold f_X6_clear
  repeat' (first | with_reducible rfl | (rw [gJ_off k j (by omega)]) | (rw [gJ_sI]) | (rw [fj_f_X2_empty _ k j trivial]) | (refine gJ_iteK ?_ ?_) | (refine gJ_iteP ?_ ?_) | dsimp only)
theorem fr_f_X6_share (M : Mm) (u1 : Int32) (u2 : Int32) (u3 : Int32) (k j : Nat) (h : k ≠ 16) : gI (f_X6_share M u1 u2 u3).2 k j = gI M k j := by
  unfold f_X6_share
  repeat' (first | with_reducible rfl | (rw [gI_off k j (by omega)]) | (rw [gI_sJ]) | (rw [fr_f_X0_setShares _ _ _ _ k j (by omega)]) | (refine gI_iteK ?_ ?_) | (refine gI_iteP ?_ ?_) | dsimp only)
theorem fj_f_X6_share (M : Mm) (u1 : Int32) (u2 : Int32) (u3 : Int32) (k j : Nat) (h : True) : gJ (f_X6_share M u1 u2 u3).2 k j = gJ M k j := by
  unfold f_X6_share
  repeat' (first | with_reducible rfl | (rw [gJ_off k j (by omega)]) | (rw [gJ_sI]) | (rw [fj_f_X0_setShares _ _ _ _ k j trivial]) | (refine gJ_iteK ?_ ?_) | (refine gJ_iteP ?_ ?_) | dsimp only)
theorem fr_m_X6_number_1 (M : Mm) (k j : Nat) (h : True) : gI (m_X6_number_1 M) k j = gI M k j := by
  unfold m_X6_number_1
  repeat' (first | with_reducible rfl | (rw [gI_off k j (by omega)]) | (rw [gI_sJ]) | (refine gI_iteK ?_ ?_) | (refine gI_iteP ?_ ?_) | dsimp only)
theorem fj_m_X6_number_1 (M : Mm) (k j : Nat) (h : ¬ (k = 0 ∧ j = 6) ∧ ¬ (k = 0 ∧ j = 7)) : gJ (m_X6_number_1 M) k j = gJ M k j := by
  unfold m_X6_number_1
  repeat' (first | with_reducible rfl | (rw [gJ_off k j (by omega)]) | (rw [gJ_sI]) | (refine gJ_iteK ?_ ?_) | (refine gJ_iteP ?_ ?_) | dsimp only)
theorem fr_f_X6_number (M : Mm) (k j : Nat) (h : k ≠ 43 ∧ ¬ (k = 6 ∧ j = 1)) : gI (f_X6_number M).2 k j = gI M k j := by
  unfold f_X6_number
  repeat' (first | with_reducible rfl | (rw [gI_off k j (by omega)]) | (rw [gI_sJ]) | (rw [fr_f_X1_answer _ _ k j (by omega)]) | (rw [fr_m_X6_number_1 _ k j trivial]) | (refine gI_iteK ?_ ?_) | (refine gI_iteP ?_ ?_) | dsimp only)
theorem fj_f_X6_number (M : Mm) (k j : Nat) (h : ¬ (k = 0 ∧ j = 6) ∧ ¬ (k = 0 ∧ j = 7)) : gJ (f_X6_number M).2 k j = gJ M k j := by
  unfold f_X6_number
  repeat' (first | with_reducible rfl | (rw [gJ_off k j (by omega)]) | (rw [gJ_sI]) | (rw [fj_f_X1_answer _ _ k j trivial]) | (rw [fj_m_X6_number_1 _ k j (by omega)]) | (refine gJ_iteK ?_ ?_) | (refine gJ_iteP ?_ ?_) | dsimp only)
theorem fr_f_X6_aim (M : Mm) (u1 : Int32) (u2 : Int32) (k j : Nat) (h : ¬ (k = 2 ∧ j = 8) ∧ ¬ (k = 2 ∧ j = 9)) : gI (f_X6_aim M u1 u2).2 k j = gI M k j := by
  unfold f_X6_aim
  repeat' (first | with_reducible rfl | (rw [gI_off k j (by omega)]) | (rw [gI_sJ]) | (rw [fr_f_X0_setAim _ _ _ k j (by omega)]) | (refine gI_iteK ?_ ?_) | (refine gI_iteP ?_ ?_) | dsimp only)
theorem fj_f_X6_aim (M : Mm) (u1 : Int32) (u2 : Int32) (k j : Nat) (h : True) : gJ (f_X6_aim M u1 u2).2 k j = gJ M k j := by
  unfold f_X6_aim
  repeat' (first | with_reducible rfl | (rw [gJ_off k j (by omega)]) | (rw [gJ_sI]) | (rw [fj_f_X0_setAim _ _ _ k j trivial]) | (refine gJ_iteK ?_ ?_) | (refine gJ_iteP ?_ ?_) | dsimp only)
theorem fr_f_X6_rule (M : Mm) (u1 : Int32) (u2 : Int32) (k j : Nat) (h : ¬ (k = 2 ∧ j = 10) ∧ ¬ (k = 2 ∧ j = 11)) : gI (f_X6_rule M u1 u2).2 k j = gI M k j := by
  unfold f_X6_rule
  repeat' (first | with_reducible rfl | (rw [gI_off k j (by omega)]) | (rw [gI_sJ]) | (rw [fr_f_X0_setRule _ _ _ k j (by omega)]) | (refine gI_iteK ?_ ?_) | (refine gI_iteP ?_ ?_) | dsimp only)
theorem fj_f_X6_rule (M : Mm) (u1 : Int32) (u2 : Int32) (k j : Nat) (h : True) : gJ (f_X6_rule M u1 u2).2 k j = gJ M k j := by
  unfold f_X6_rule
  repeat' (first | with_reducible rfl | (rw [gJ_off k j (by omega)]) | (rw [gJ_sI]) | (rw [fj_f_X0_setRule _ _ _ k j trivial]) | (refine gJ_iteK ?_ ?_) | (refine gJ_iteP ?_ ?_) | dsimp only)
theorem fr_f_X6_hour (M : Mm) (u1 : Int32) (k j : Nat) (h : k ≠ 16 ∧ k ≠ 17 ∧ k ≠ 18 ∧ k ≠ 19 ∧ ¬ (k = 2 ∧ j = 5) ∧ ¬ (k = 2 ∧ j = 6) ∧ ¬ (k = 2 ∧ j = 7)) : gI (f_X6_hour M u1).2 k j = gI M k j := by
  unfold f_X6_hour
  repeat' (first | with_reducible rfl | (rw [gI_off k j (by omega)]) | (rw [gI_sJ]) | (rw [fr_f_X0_passHour _ _ k j (by omega)]) | (refine gI_iteK ?_ ?_) | (refine gI_iteP ?_ ?_) | dsimp only)
theorem fj_f_X6_hour (M : Mm) (u1 : Int32) (k j : Nat) (h : True) : gJ (f_X6_hour M u1).2 k j = gJ M k j := by
  unfold f_X6_hour
  repeat' (first | with_reducible rfl | (rw [gJ_off k j (by omega)]) | (rw [gJ_sI]) | (rw [fj_f_X0_passHour _ _ k j trivial]) | (refine gJ_iteK ?_ ?_) | (refine gJ_iteP ?_ ?_) | dsimp only)
theorem fr_m_X6_step_1 (M : Mm) (u1 : Int32) (u2 : Int32) (u3 : Int32) (k j : Nat) (h : k ≠ 20 ∧ k ≠ 21 ∧ k ≠ 22 ∧ k ≠ 23 ∧ k ≠ 24 ∧ k ≠ 26 ∧ k ≠ 27 ∧ k ≠ 28 ∧ k ≠ 29 ∧ ¬ (k = 3 ∧ j = 6) ∧ ¬ (k = 3 ∧ j = 7) ∧ ¬ (k = 3 ∧ j = 8)) : gI (m_X6_step_1 M u1 u2 u3) k j = gI M k j := by
  unfold m_X6_step_1
  repeat' (first | with_reducible rfl | (rw [gI_off k j (by omega)]) | (rw [gI_sJ]) | (rw [fr_f_X3_burn _ _ _ _ k j (by omega)]) | (rw [fr_f_X5_store _ _ _ _ k j (by omega)]) | (refine gI_iteK ?_ ?_) | (refine gI_iteP ?_ ?_) | dsimp only)
theorem fj_m_X6_step_1 (M : Mm) (u1 : Int32) (u2 : Int32) (u3 : Int32) (k j : Nat) (h : k ≠ 25) : gJ (m_X6_step_1 M u1 u2 u3) k j = gJ M k j := by
  unfold m_X6_step_1
  repeat' (first | with_reducible rfl | (rw [gJ_off k j (by omega)]) | (rw [gJ_sI]) | (rw [fj_f_X3_burn _ _ _ _ k j (by omega)]) | (rw [fj_f_X5_store _ _ _ _ k j trivial]) | (refine gJ_iteK ?_ ?_) | (refine gJ_iteP ?_ ?_) | dsimp only)
theorem fr_f_X6_step (M : Mm) (u1 : Int32) (u2 : Int32) (u3 : Int32) (k j : Nat) (h : k ≠ 20 ∧ k ≠ 21 ∧ k ≠ 22 ∧ k ≠ 23 ∧ k ≠ 24 ∧ k ≠ 26 ∧ k ≠ 27 ∧ k ≠ 28 ∧ k ≠ 29 ∧ ¬ (k = 3 ∧ j = 6) ∧ ¬ (k = 3 ∧ j = 7) ∧ ¬ (k = 3 ∧ j = 8)) : gI (f_X6_step M u1 u2 u3).2 k j = gI M k j := by
  unfold f_X6_step
  repeat' (first | with_reducible rfl | (rw [gI_off k j (by omega)]) | (rw [gI_sJ]) | (rw [fr_f_X3_burn _ _ _ _ k j (by omega)]) | (rw [fr_m_X6_step_1 _ _ _ _ k j (by omega)]) | (refine gI_iteK ?_ ?_) | (refine gI_iteP ?_ ?_) | dsimp only)
theorem fj_f_X6_step (M : Mm) (u1 : Int32) (u2 : Int32) (u3 : Int32) (k j : Nat) (h : k ≠ 25) : gJ (f_X6_step M u1 u2 u3).2 k j = gJ M k j := by
  unfold f_X6_step
  repeat' (first | with_reducible rfl | (rw [gJ_off k j (by omega)]) | (rw [gJ_sI]) | (rw [fj_f_X3_burn _ _ _ _ k j (by omega)]) | (rw [fj_m_X6_step_1 _ _ _ _ k j (by omega)]) | (refine gJ_iteK ?_ ?_) | (refine gJ_iteP ?_ ?_) | dsimp only)
theorem fr_f_X6_start (M : Mm) (k j : Nat) (h : ¬ (k = 3 ∧ j = 7) ∧ ¬ (k = 3 ∧ j = 8)) : gI (f_X6_start M).2 k j = gI M k j := by
  unfold f_X6_start
  repeat' (first | with_reducible rfl | (rw [gI_off k j (by omega)]) | (rw [gI_sJ]) | (rw [fr_f_X3_restart _ k j (by omega)]) | (refine gI_iteK ?_ ?_) | (refine gI_iteP ?_ ?_) | dsimp only)
theorem fj_f_X6_start (M : Mm) (k j : Nat) (h : True) : gJ (f_X6_start M).2 k j = gJ M k j := by
  unfold f_X6_start
  repeat' (first | with_reducible rfl | (rw [gJ_off k j (by omega)]) | (rw [gJ_sI]) | (rw [fj_f_X3_restart _ k j trivial]) | (refine gJ_iteK ?_ ?_) | (refine gJ_iteP ?_ ?_) | dsimp only)
theorem fr_f_X6_warmth (M : Mm) (u1 : Int32) (u2 : Int32) (k j : Nat) (h : k ≠ 43 ∧ ¬ (k = 6 ∧ j = 1)) : gI (f_X6_warmth M u1 u2).2 k j = gI M k j := by
  unfold f_X6_warmth
  repeat' (first | with_reducible rfl | (rw [gI_off k j (by omega)]) | (rw [gI_sJ]) | (rw [fr_f_X1_answer _ _ k j (by omega)]) | (refine gI_iteK ?_ ?_) | (refine gI_iteP ?_ ?_) | dsimp only)
theorem fj_f_X6_warmth (M : Mm) (u1 : Int32) (u2 : Int32) (k j : Nat) (h : True) : gJ (f_X6_warmth M u1 u2).2 k j = gJ M k j := by
  unfold f_X6_warmth
  repeat' (first | with_reducible rfl | (rw [gJ_off k j (by omega)]) | (rw [gJ_sI]) | (rw [fj_f_X1_answer _ _ k j trivial]) | (refine gJ_iteK ?_ ?_) | (refine gJ_iteP ?_ ?_) | dsimp only)
theorem fr_f_X6_sum (M : Mm) (u1 : Int32) (k j : Nat) (h : True) : gI (f_X6_sum M u1).2 k j = gI M k j := by
  unfold f_X6_sum
  repeat' (first | with_reducible rfl | (rw [gI_off k j (by omega)]) | (rw [gI_sJ]) | (refine gI_iteK ?_ ?_) | (refine gI_iteP ?_ ?_) | dsimp only)
theorem fj_f_X6_sum (M : Mm) (u1 : Int32) (k j : Nat) (h : ¬ (k = 0 ∧ j = 8)) : gJ (f_X6_sum M u1).2 k j = gJ M k j := by
  unfold f_X6_sum
  repeat' (first | with_reducible rfl | (rw [gJ_off k j (by omega)]) | (rw [gJ_sI]) | (refine gJ_iteK ?_ ?_) | (refine gJ_iteP ?_ ?_) | dsimp only)
theorem fr_f_X6_bag (M : Mm) (u1 : Int32) (u2 : Int32) (k j : Nat) (h : k ≠ 27 ∧ k ≠ 28 ∧ k ≠ 29 ∧ k ≠ 30 ∧ k ≠ 31 ∧ ¬ (k = 4 ∧ j = 6)) : gI (f_X6_bag M u1 u2).2 k j = gI M k j := by
  have h2 := fr_f_X5_fill M u1 u2 k j h
  rw [f_X6_bag]
  exact gI_iteP (gI_mk2 rfl) (gI_iteP (gI_mk2 rfl) (gI_iteP (gI_mk2 h2) (gI_mk2 rfl)))
theorem fj_f_X6_bag (M : Mm) (u1 : Int32) (u2 : Int32) (k j : Nat) (h : True) : gJ (f_X6_bag M u1 u2).2 k j = gJ M k j := by
  have h2 := fj_f_X5_fill M u1 u2 k j h
  rw [f_X6_bag]
  exact gJ_iteP (gJ_mk2 rfl) (gJ_iteP (gJ_mk2 rfl) (gJ_iteP (gJ_mk2 h2) (gJ_mk2 rfl)))
theorem fr_f_X6_tear (M : Mm) (u1 : Int32) (k j : Nat) (h : k ≠ 32 ∧ k ≠ 43 ∧ ¬ (k = 5 ∧ j = 4) ∧ ¬ (k = 6 ∧ j = 1)) : gI (f_X6_tear M u1).2 k j = gI M k j := by
  unfold f_X6_tear
  repeat' (first | with_reducible rfl | (rw [gI_off k j (by omega)]) | (rw [gI_sJ]) | (rw [fr_f_X1_answer _ _ k j (by omega)]) | (rw [fr_f_X4_drop _ _ k j (by omega)]) | (refine gI_iteK ?_ ?_) | (refine gI_iteP ?_ ?_) | dsimp only)
theorem fj_f_X6_tear (M : Mm) (u1 : Int32) (k j : Nat) (h : True) : gJ (f_X6_tear M u1).2 k j = gJ M k j := by
  unfold f_X6_tear
  repeat' (first | with_reducible rfl | (rw [gJ_off k j (by omega)]) | (rw [gJ_sI]) | (rw [fj_f_X1_answer _ _ k j trivial]) | (rw [fj_f_X4_drop _ _ k j trivial]) | (refine gJ_iteK ?_ ?_) | (refine gJ_iteP ?_ ?_) | dsimp only)
theorem fr_f_X6_need (M : Mm) (u1 : Int32) (u2 : Int32) (k j : Nat) (h : k ≠ 41) : gI (f_X6_need M u1 u2).2 k j = gI M k j := by
  unfold f_X6_need
  repeat' (first | with_reducible rfl | (rw [gI_off k j (by omega)]) | (rw [gI_sJ]) | (rw [fr_f_X4_setNeed _ _ _ k j (by omega)]) | (refine gI_iteK ?_ ?_) | (refine gI_iteP ?_ ?_) | dsimp only)
theorem fj_f_X6_need (M : Mm) (u1 : Int32) (u2 : Int32) (k j : Nat) (h : True) : gJ (f_X6_need M u1 u2).2 k j = gJ M k j := by
  unfold f_X6_need
  repeat' (first | with_reducible rfl | (rw [gJ_off k j (by omega)]) | (rw [gJ_sI]) | (rw [fj_f_X4_setNeed _ _ _ k j trivial]) | (refine gJ_iteK ?_ ?_) | (refine gJ_iteP ?_ ?_) | dsimp only)
