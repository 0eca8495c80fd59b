/-! the kiln: causes -/
theorem cause_shape (P0 P1 P2 P3 Q0 Q1 Q2 Q3 : Prop) [Decidable P0] [Decidable P1] [Decidable P2] [Decidable P3] [Decidable Q0] [Decidable Q1] [Decidable Q2] [Decidable Q3] (t : Int32) :
    (if P0 then ((10 : Int32) + (0 : Int32)) else (if P1 then ((10 : Int32) + (1 : Int32)) else (if P2 then ((10 : Int32) + (2 : Int32)) else (if P3 then ((10 : Int32) + (3 : Int32)) else (if ¬ Q0 then ((20 : Int32) + (0 : Int32)) else (if ¬ Q1 then ((20 : Int32) + (1 : Int32)) else (if ¬ Q2 then ((20 : Int32) + (2 : Int32)) else (if ¬ Q3 then ((20 : Int32) + (3 : Int32)) else t)))))))) =
    (if (if P0 then (0 : Int32) else (if P1 then (1 : Int32) else (if P2 then (2 : Int32) else (if P3 then (3 : Int32) else (-9 : Int32))))) = (-9 : Int32) then (if (if Q0 then (if Q1 then (if Q2 then (if Q3 then (-9 : Int32) else (3 : Int32)) else (2 : Int32)) else (1 : Int32)) else (0 : Int32)) = (-9 : Int32) then t else (20 : Int32) + (if Q0 then (if Q1 then (if Q2 then (if Q3 then (-9 : Int32) else (3 : Int32)) else (2 : Int32)) else (1 : Int32)) else (0 : Int32))) else (10 : Int32) + (if P0 then (0 : Int32) else (if P1 then (1 : Int32) else (if P2 then (2 : Int32) else (if P3 then (3 : Int32) else (-9 : Int32)))))) := by
  by_cases p0 : P0
  · rw [if_pos p0, if_pos p0, if_neg (by decide)]
  by_cases p1 : P1
  · rw [if_neg p0, if_pos p1, if_neg p0, if_pos p1, if_neg (by decide)]
  by_cases p2 : P2
  · rw [if_neg p0, if_neg p1, if_pos p2, if_neg p0, if_neg p1, if_pos p2, if_neg (by decide)]
  by_cases p3 : P3
  · rw [if_neg p0, if_neg p1, if_neg p2, if_pos p3, if_neg p0, if_neg p1, if_neg p2, if_pos p3, if_neg (by decide)]
  rw [if_neg p0, if_neg p1, if_neg p2, if_neg p3, if_neg p0, if_neg p1, if_neg p2, if_neg p3, if_pos rfl]
  by_cases q0 : Q0
  · rw [if_neg (fun r => r q0), if_pos q0]
    by_cases q1 : Q1
    · rw [if_neg (fun r => r q1), if_pos q1]
      by_cases q2 : Q2
      · rw [if_neg (fun r => r q2), if_pos q2]
        by_cases q3 : Q3
        · rw [if_neg (fun r => r q3), if_pos q3, if_pos rfl]
        · rw [if_pos q3, if_neg q3, if_neg (by decide)]
      · rw [if_pos q2, if_neg q2, if_neg (by decide)]
    · rw [if_pos q1, if_neg q1, if_neg (by decide)]
  · rw [if_pos q0, if_neg q0, if_neg (by decide)]
theorem hot_vals (A : Mm) : f_X3_leastTooHot A = -9 ∨ f_X3_leastTooHot A = 0 ∨ f_X3_leastTooHot A = 1 ∨ f_X3_leastTooHot A = 2 ∨ f_X3_leastTooHot A = 3 := by
  rw [f_X3_leastTooHot]
  split
  · exact Or.inr (Or.inl rfl)
  split
  · exact Or.inr (Or.inr (Or.inl rfl))
  split
  · exact Or.inr (Or.inr (Or.inr (Or.inl rfl)))
  split
  · exact Or.inr (Or.inr (Or.inr (Or.inr rfl)))
  · exact Or.inl rfl
theorem much_vals (A : Mm) : f_X3_leastTooMuch A = -9 ∨ f_X3_leastTooMuch A = 0 ∨ f_X3_leastTooMuch A = 1 ∨ f_X3_leastTooMuch A = 2 ∨ f_X3_leastTooMuch A = 3 := by
  rw [f_X3_leastTooMuch]
  split
  · split
    · split
      · split
        · exact Or.inl rfl
        · exact Or.inr (Or.inr (Or.inr (Or.inr rfl)))
      · exact Or.inr (Or.inr (Or.inr (Or.inl rfl)))
    · exact Or.inr (Or.inr (Or.inl rfl))
  · exact Or.inr (Or.inl rfl)
def cTail (A : Mm) (u : Int32) : Int32 := (if (gI A 24 0) ≤ 0 then (if u ≤ 0 then (0 : Int32) else (if (gI A 20 2) = 0 then (42 : Int32) else (0 : Int32))) else (if (gI A 24 3) = 0 then (33 : Int32) else (if u ≤ 0 then (0 : Int32) else (if (gI A 20 2) = 0 then (42 : Int32) else (0 : Int32)))))
theorem cause_eq {A B : Mm} (u : Int32) (h20 : ∀ q, q < 4 → gI A 20 q = gI B 56 q) (h21 : ∀ q, q < 4 → gI A 21 q = gI B 57 q) (e0 : gI A 24 0 = gI B 60 0) (e3 : gI A 24 3 = gI B 60 3) : f_X7_causeOf B u = if f_X3_leastTooHot A = (-9 : Int32) then (if f_X3_leastTooMuch A = (-9 : Int32) then cTail A u else (20 : Int32) + f_X3_leastTooMuch A) else (10 : Int32) + f_X3_leastTooHot A := by
  rw [f_X7_causeOf, ← h20 0 (by omega), ← h20 1 (by omega), ← h20 2 (by omega), ← h20 3 (by omega), ← h21 0 (by omega), ← h21 1 (by omega), ← h21 2 (by omega), ← h21 3 (by omega), ← e0, ← e3, f_X3_leastTooHot, f_X3_leastTooMuch, cTail]
  exact cause_shape _ _ _ _ _ _ _ _ _
theorem sc4 (A : Mm) (x y : Int32) : gI (f_X3_setCause A x y) 24 4 = x := by rw [gI_setCause, if_neg (by decide), if_pos ⟨rfl, rfl⟩]
theorem sc5 (A : Mm) (x y : Int32) : gI (f_X3_setCause A x y) 24 5 = y := by rw [gI_setCause, if_pos ⟨rfl, rfl⟩]
theorem sc8 (A : Mm) (x y : Int32) : gI (f_X3_setCause A x y) 3 8 = gI A 3 8 := by rw [gI_setCause, if_neg (by decide), if_neg (by decide)]
/-- what a cause's number tells -/
def Cf (F : Mm) (s c : Int32) : Prop := gI F 24 4 = c / (10 : Int32) ∧ gI F 24 5 = (if c = 0 then (-9 : Int32) else (c - c / (10 : Int32) * (10 : Int32))) ∧ gI F 3 8 = (if f_X7_in (c / (10 : Int32)) (1 : Int32) (2 : Int32) = 0 then s else 1) ∧ (c ≤ 0 ↔ c / (10 : Int32) = 0)
theorem cause_cf {A : Mm} (u : Int32) : Cf (f_X3_findCause A u) (gI A 3 8) (if f_X3_leastTooHot A = (-9 : Int32) then (if f_X3_leastTooMuch A = (-9 : Int32) then cTail A u else (20 : Int32) + f_X3_leastTooMuch A) else (10 : Int32) + f_X3_leastTooHot A) := by
  have hv := hot_vals A
  have mv' := much_vals A
  rw [f_X3_findCause, m_X3_findCause_1, cTail]
  generalize f_X3_leastTooHot A = H at hv
  generalize f_X3_leastTooMuch A = K at mv'
  rcases hv with e | e | e | e | e
  · rw [if_pos e, if_pos e, if_pos e]
    rcases mv' with f | f | f | f | f
    · rw [if_pos f, if_pos f, if_pos f]
      by_cases c0 : gI A 24 0 ≤ 0
      · rw [if_pos c0, if_pos c0]
        by_cases c1 : u ≤ 0
        · rw [if_pos c1, if_pos c1]
          exact ⟨sc4 _ _ _, sc5 _ _ _, sc8 _ _ _, by decide⟩
        · rw [if_neg c1, if_neg c1]
          by_cases c2 : gI A 20 2 = 0
          · rw [if_pos c2, if_pos c2]
            exact ⟨sc4 _ _ _, sc5 _ _ _, sc8 _ _ _, by decide⟩
          · rw [if_neg c2, if_neg c2]
            exact ⟨sc4 _ _ _, sc5 _ _ _, sc8 _ _ _, by decide⟩
      · rw [if_neg c0, if_neg c0]
        by_cases c3 : gI A 24 3 = 0
        · rw [if_pos c3, if_pos c3]
          exact ⟨sc4 _ _ _, sc5 _ _ _, sc8 _ _ _, by decide⟩
        · rw [if_neg c3, if_neg c3]
          by_cases c1 : u ≤ 0
          · rw [if_pos c1, if_pos c1]
            exact ⟨sc4 _ _ _, sc5 _ _ _, sc8 _ _ _, by decide⟩
          · rw [if_neg c1, if_neg c1]
            by_cases c2 : gI A 20 2 = 0
            · rw [if_pos c2, if_pos c2]
              exact ⟨sc4 _ _ _, sc5 _ _ _, sc8 _ _ _, by decide⟩
            · rw [if_neg c2, if_neg c2]
              exact ⟨sc4 _ _ _, sc5 _ _ _, sc8 _ _ _, by decide⟩
    all_goals
      rw [f, if_neg (by decide), if_neg (by decide), if_neg (by decide)]
      exact ⟨by rw [gI_ne (by decide)]; exact sc4 _ _ _, by rw [gI_ne (by decide)]; exact sc5 _ _ _, by rw [gI_at]; exact (if_neg (by decide)).symm, by decide⟩
  all_goals
    rw [e, if_neg (by decide), if_neg (by decide), if_neg (by decide)]
    exact ⟨by rw [gI_ne (by decide)]; exact sc4 _ _ _, by rw [gI_ne (by decide)]; exact sc5 _ _ _, by rw [gI_at]; exact (if_neg (by decide)).symm, by decide⟩
/-! the kiln: what is told -/
theorem te0 (Z : Mm) : gI (f_X3_tellOut Z) 24 0 = gI Z 22 3 := by rw [f_X3_tellOut, gI_off 24 0 (by decide), gI_off 24 0 (by decide), gI_off 24 0 (by decide), gI_sI, if_pos ⟨rfl, rfl⟩]
theorem te1 (Z : Mm) : gI (f_X3_tellOut Z) 24 1 = gI Z 23 3 := by rw [f_X3_tellOut, gI_off 24 1 (by decide), gI_off 24 1 (by decide), gI_sI, if_pos ⟨rfl, rfl⟩, gI_ne (by decide)]
theorem te2 (Z : Mm) : gI (f_X3_tellOut Z) 24 2 = (if gI Z 22 3 = 0 then (0 : Int32) else gI Z 23 3 / gI Z 22 3) := by rw [f_X3_tellOut, gI_off 24 2 (by decide), gI_sI, if_pos ⟨rfl, rfl⟩]
theorem te3 (Z : Mm) : gI (f_X3_tellOut Z) 24 3 = (if (if gI Z 22 3 = 0 then (0 : Int32) else gI Z 23 3 / gI Z 22 3) < (60 : Int32) then (if (if gI Z 22 3 = 0 then (0 : Int32) else gI Z 23 3 / gI Z 22 3) < (30 : Int32) then (0 : Int32) else (1 : Int32)) else (2 : Int32)) := by rw [f_X3_tellOut, gI_sI, if_pos ⟨rfl, rfl⟩]
theorem te6 (Z : Mm) (j : Nat) (h : 4 ≤ j) : gI (f_X3_tellOut Z) 24 j = gI Z 24 j := by rw [f_X3_tellOut, gI_off 24 j (by omega), gI_off 24 j (by omega), gI_off 24 j (by omega), gI_off 24 j (by omega)]
theorem sums_1 (Z : Mm) (x y : Int32) : gJ (m_X3_addSums_1 Z x y) 25 0 = gJ Z 25 0 + x.toInt64 ∧ gJ (m_X3_addSums_1 Z x y) 25 1 = gJ Z 25 1 + y.toInt64 ∧ gJ (m_X3_addSums_1 Z x y) 25 2 = gJ Z 25 2 + (gI Z 24 0).toInt64 ∧ gJ (m_X3_addSums_1 Z x y) 25 3 = gJ Z 25 3 ∧ gJ (m_X3_addSums_1 Z x y) 25 4 = gJ Z 25 4 := by
  rw [m_X3_addSums_1]
  refine ⟨?_, ?_, ?_, ?_, ?_⟩
  · rw [gJ_off 25 0 (by decide), gJ_off 25 0 (by decide), gJ_at]
  · rw [gJ_off 25 1 (by decide), gJ_at, gJ_off 25 1 (by decide)]
  · rw [gJ_at, gJ_off 25 2 (by decide), gJ_off 25 2 (by decide), gI_sJ, gI_sJ]
  · rw [gJ_off 25 3 (by decide), gJ_off 25 3 (by decide), gJ_off 25 3 (by decide)]
  · rw [gJ_off 25 4 (by decide), gJ_off 25 4 (by decide), gJ_off 25 4 (by decide)]
theorem sums_c (Z : Mm) (x y : Int32) : gJ (f_X3_addSums Z x y) 25 0 = gJ Z 25 0 + x.toInt64 ∧ gJ (f_X3_addSums Z x y) 25 1 = gJ Z 25 1 + y.toInt64 ∧ gJ (f_X3_addSums Z x y) 25 2 = gJ Z 25 2 + (gI Z 24 0).toInt64 ∧ gJ (f_X3_addSums Z x y) 25 3 = gJ Z 25 3 + (gI Z 24 1).toInt64 ∧ gJ (f_X3_addSums Z x y) 25 4 = gJ Z 25 4 + (gI Z 24 6).toInt64 := by
  obtain ⟨s0, s1, s2, s3, s4⟩ := sums_1 Z x y
  have g1 : gI (m_X3_addSums_1 Z x y) 24 1 = gI Z 24 1 := fr_m_X3_addSums_1 Z x y 24 1 trivial
  have g6 : gI (m_X3_addSums_1 Z x y) 24 6 = gI Z 24 6 := fr_m_X3_addSums_1 Z x y 24 6 trivial
  rw [f_X3_addSums]
  generalize m_X3_addSums_1 Z x y = m at s0 s1 s2 s3 s4 g1 g6 ⊢
  refine ⟨?_, ?_, ?_, ?_, ?_⟩
  · rw [gJ_off 25 0 (by decide), gJ_off 25 0 (by decide), s0]
  · rw [gJ_off 25 1 (by decide), gJ_off 25 1 (by decide), s1]
  · rw [gJ_off 25 2 (by decide), gJ_off 25 2 (by decide), s2]
  · rw [gJ_off 25 3 (by decide), gJ_at, s3, g1]
  · rw [gJ_at, gJ_off 25 4 (by decide), gI_sJ, s4, g6]
