theorem sim_stroke {X Y : Mm} (h : Rheap X Y) (t c d : Int32) : (f_X6_stroke X t c d).1 = (f_X7_stroke Y t c d).1 ∧ Rheap (f_X6_stroke X t c d).2 (f_X7_stroke Y t c d).2 := by
  have h0 := h
  rw [strokeC, strokeM]
  by_cases g : Gd t c d
  · rw [if_pos g, if_pos g]
    have hi0 : Ilay X Y 0 X Y := ⟨h.1, h.2.1, fun _ => rfl, fun _ => rfl, rfl, fun p hp => by rw [if_neg (by omega)]; have := h.2.2.2.2.2.2.2 p hp; omega⟩
    have key := itr_rel (f := b_X2_lay_1 X t c d) (g := b_X7_stroke_1 t c d) (N := 10) (Ilay X Y) (fun i z w hi hz => lay_step h0 g hi hz) hi0 10 (Nat.le_refl _)
    obtain ⟨h1, h2, h3, h4, h5, h6, h7, h8⟩ := h
    have kX : ∀ k j, k ≠ 7 → k ≠ 8 → gI (itr (b_X2_lay_1 X t c d) 10 X) k j = gI X k j := fun k j n7 n8 => itr_keepI (fun i z => fr_b_X2_lay_1 _ _ _ _ i z k j ⟨n7, n8⟩) 10 X
    have kY : ∀ k j, k ≠ 47 → k ≠ 48 → gI (itr (b_X7_stroke_1 t c d) 10 Y) k j = gI Y k j := fun k j n7 n8 => itr_keepI (fun i z => fr_b_X7_stroke_1 _ _ _ i z k j ⟨n7, n8⟩) 10 Y
    rw [f_X2_lay, m_X2_lay_3, m_X7_stroke_3]
    obtain ⟨a1, a2, a3, a4, a5, a6⟩ := key
    have s1 := kX 1 4 (by decide) (by decide)
    have s2 : ∀ i, gI (itr (b_X2_lay_1 X t c d) 10 X) 10 i = gI X 10 i := fun i => kX 10 i (by decide) (by decide)
    have s3 : ∀ i, gI (itr (b_X7_stroke_1 t c d) 10 Y) 46 i = gI Y 46 i := fun i => kY 46 i (by decide) (by decide)
    generalize itr (b_X2_lay_1 X t c d) 10 X = L at a1 a2 a3 a6 s1 s2 ⊢
    generalize itr (b_X7_stroke_1 t c d) 10 Y = L2 at a1 a2 a4 a5 s3 ⊢
    by_cases c3 : gI Y 44 5 = 30
    · have n : ¬ gI X 1 4 < 30 := by rw [h5, c3]; decide
      rw [if_neg n, if_pos c3]
      exact ⟨rfl, h0⟩
    · have l : gI X 1 4 < 30 := by
        rw [Int32.lt_iff_toInt_lt, show (30 : Int32).toInt = 30 by decide]
        have q : ¬ (gI X 1 4).toInt = 30 := fun e => c3 (by rw [← h5]; exact Int32.toInt_inj.mp (by rw [e]; decide))
        omega
      rw [if_pos l, if_neg c3]
      have l' := Int32.lt_iff_toInt_lt.mp l
      rw [show (30 : Int32).toInt = 30 by decide] at l'
      have e1 : (gI X 1 4 + 1).toInt = (gI X 1 4).toInt + 1 := by
        rw [Int32.toInt_add, show (1 : Int32).toInt = 1 by decide]
        apply Int.bmod_eq_of_le <;> omega
      have sy : gI L2 44 5 = gI X 1 4 := by rw [a5, h5]
      simp only [gI_sI, s1, sy]
      refine ⟨by simp, fun p => ?_, fun p => ?_, fun p => ?_, fun p => ?_, ?_, ?_, fun i => ?_, fun p hp => ?_⟩
      · simpa [gI_sI] using a1 p
      · simpa [gI_sI] using a2 p
      · have q : gI L 9 p = gI L2 49 p := by rw [a3, a4, h3]
        simpa [gI_sI] using q
      · have q : gI L 9 p = 0 ∨ gI L 9 p = 1 := by rw [a3]; exact h4 p
        simpa [gI_sI] using q
      · simp [gI_sI]
      · have q : 0 ≤ (gI X 1 4 + 1).toInt ∧ (gI X 1 4 + 1).toInt ≤ 30 := by rw [e1]; omega
        simpa [gI_sI] using q
      · by_cases e : i = (gI X 1 4).toNatClampNeg
        · simp [gI_sI, e]
        · have q : gI L 10 i = (if 0 ≤ gI L2 46 i then gI L2 46 i else 0 - gI L2 46 i) * 9 := by rw [s2, s3]; exact h7 i
          simpa [gI_sI, e] using q
      · have b := a6 p hp
        rw [if_pos hp] at b
        have q : 0 ≤ (gI L 8 p).toInt ∧ (gI L 8 p).toInt ≤ 1000 * (gI X 1 4 + 1).toInt := by rw [e1]; omega
        simpa [gI_sI] using q
  · rw [if_neg g, if_neg g]
    exact ⟨rfl, h0⟩
