/-! stroke: what is refused -/
abbrev Gd (t c d : Int32) : Prop := (1 ≤ t.toInt ∧ t.toInt ≤ 1000) ∧ (0 ≤ c.toInt ∧ c.toInt ≤ t.toInt) ∧ (0 ≤ c.toInt + d.toInt * 9 ∧ c.toInt + d.toInt * 9 ≤ t.toInt)
abbrev Pb (t c d p : Int32) : Prop := (lg_cmp (c.toInt64 + (d.toInt64 * p.toInt64)) (0 : Int64) < 0) ∨ (¬ (lg_cmp (c.toInt64 + (d.toInt64 * p.toInt64)) (0 : Int64) < 0) ∧ ¬ (lg_cmp (c.toInt64 + (d.toInt64 * p.toInt64)) t.toInt64 ≤ 0))
theorem Pb_iff {t c d p : Int32} (hp : 0 ≤ p.toInt ∧ p.toInt ≤ 9) : Pb t c d p ↔ ¬ (0 ≤ c.toInt + d.toInt * p.toInt ∧ c.toInt + d.toInt * p.toInt ≤ t.toInt) := by
  unfold Pb
  rw [lg_lt, lg_le, lime64 c d p hp, i64_int, show (0 : Int64).toInt = 0 by decide]
  omega
theorem wi_zero {x l y : Int32} (h : ¬ (l.toInt ≤ x.toInt ∧ x.toInt ≤ y.toInt)) : f_X6_within x l y = 0 := by
  by_cases c : f_X6_within x l y = 0
  · exact c
  · exact absurd (rng_int c) h
theorem wi_one {x l y : Int32} (h : l.toInt ≤ x.toInt ∧ x.toInt ≤ y.toInt) : ¬ f_X6_within x l y = 0 := by
  rw [f_X6_within, if_neg (Int32.not_lt.mpr (Int32.le_iff_toInt_le.mpr h.1)), if_neg (Int32.not_lt.mpr (Int32.le_iff_toInt_le.mpr h.2))]
  decide
theorem strokeC (X : Mm) (t c d : Int32) : f_X6_stroke X t c d = if Gd t c d then (if gI X 1 4 < (30 : Int32) then ((f_X2_lay X t c d).1, (f_X2_lay X t c d).2) else ((-2 : Int32), X)) else ((-1 : Int32), X) := by
  have z1 : (1 : Int32).toInt = 1 := by decide
  have z2 : (1000 : Int32).toInt = 1000 := by decide
  have z0 : (0 : Int32).toInt = 0 := by decide
  have z9 : (9 : Int32).toInt = 9 := by decide
  have e9 : c.toInt64 + (9 : Int64) * d.toInt64 = c.toInt64 + d.toInt64 * (9 : Int32).toInt64 := by rw [Int64.mul_comm]; rfl
  have l9 := lime64 c d 9 (by decide)
  rw [z9] at l9
  rw [f_X6_stroke, e9]
  by_cases c1 : 1 ≤ t.toInt ∧ t.toInt ≤ 1000
  · rw [if_neg (wi_one (by rw [z1, z2]; exact c1))]
    by_cases c2 : 0 ≤ c.toInt ∧ c.toInt ≤ t.toInt
    · rw [if_neg (wi_one (by rw [z0]; exact c2))]
      by_cases c3 : 0 ≤ c.toInt + d.toInt * 9
      · rw [if_neg (by rw [lg_lt, l9, show (0 : Int64).toInt = 0 by decide]; omega)]
        by_cases c4 : c.toInt + d.toInt * 9 ≤ t.toInt
        · rw [if_pos (by rw [lg_le, l9, i64_int]; exact c4), if_pos (show Gd t c d from ⟨c1, c2, c3, c4⟩)]
          rfl
        · rw [if_neg (by rw [lg_le, l9, i64_int]; exact c4), if_neg (show ¬ Gd t c d from fun h => c4 h.2.2.2)]
      · rw [if_pos (by rw [lg_lt, l9, show (0 : Int64).toInt = 0 by decide]; omega), if_neg (show ¬ Gd t c d from fun h => c3 h.2.2.1)]
    · rw [if_pos (wi_zero (by rw [z0]; exact c2)), if_neg (show ¬ Gd t c d from fun h => c2 h.2.1)]
  · rw [if_pos (wi_zero (by rw [z1, z2]; exact c1)), if_neg (show ¬ Gd t c d from fun h => c1 h.1)]
theorem strokeM (Y : Mm) (t c d : Int32) : f_X7_stroke Y t c d = if Gd t c d then (if gI Y 44 5 = (30 : Int32) then ((-2 : Int32), Y) else ((gI (m_X7_stroke_3 Y t c d) 44 5), (m_X7_stroke_3 Y t c d))) else ((-1 : Int32), Y) := by
  have z1 : (1 : Int32).toInt = 1 := by decide
  have z2 : (1000 : Int32).toInt = 1000 := by decide
  have e : f_X7_stroke Y t c d = (if f_X6_within t 1 1000 = 0 then ((-1 : Int32), Y) else if Pb t c d 0 then ((-1 : Int32), Y) else if Pb t c d 1 then ((-1 : Int32), Y) else if Pb t c d 2 then ((-1 : Int32), Y) else if Pb t c d 3 then ((-1 : Int32), Y) else if Pb t c d 4 then ((-1 : Int32), Y) else if Pb t c d 5 then ((-1 : Int32), Y) else if Pb t c d 6 then ((-1 : Int32), Y) else if Pb t c d 7 then ((-1 : Int32), Y) else if Pb t c d 8 then ((-1 : Int32), Y) else if Pb t c d 9 then ((-1 : Int32), Y) else (if gI Y 44 5 = (30 : Int32) then ((-2 : Int32), Y) else ((gI (m_X7_stroke_3 Y t c d) 44 5), (m_X7_stroke_3 Y t c d)))) := by
    rw [f_X7_stroke, in_wi]
  rw [e]
  by_cases c1 : 1 ≤ t.toInt ∧ t.toInt ≤ 1000
  · rw [if_neg (wi_one (by rw [z1, z2]; exact c1))]
    have n0 : ((0 : Int32).toInt = 0) := by decide
    by_cases g : Gd t c d
    · have good : ∀ p : Int32, 0 ≤ p.toInt ∧ p.toInt ≤ 9 → ¬ Pb t c d p := by
        intro p hp
        rw [Pb_iff hp]
        obtain ⟨-, ⟨g1, g2⟩, g3, g4⟩ := g
        intro q
        apply q
        rcases Int.le_total 0 d.toInt with hd | hd
        · have a1 : 0 ≤ d.toInt * p.toInt := Int.mul_nonneg hd hp.1
          have a2 : d.toInt * p.toInt ≤ d.toInt * 9 := Int.mul_le_mul_of_nonneg_left hp.2 hd
          omega
        · have a1 : d.toInt * p.toInt ≤ 0 := Int.mul_nonpos_of_nonpos_of_nonneg hd hp.1
          have a2 : d.toInt * 9 ≤ d.toInt * p.toInt := Int.mul_le_mul_of_nonpos_left hd hp.2
          omega
      rw [if_neg (good 0 (by decide)), if_neg (good 1 (by decide)), if_neg (good 2 (by decide)), if_neg (good 3 (by decide)), if_neg (good 4 (by decide)), if_neg (good 5 (by decide)), if_neg (good 6 (by decide)), if_neg (good 7 (by decide)), if_neg (good 8 (by decide)), if_neg (good 9 (by decide)), if_pos g]
    · rw [if_neg g]
      by_cases c2 : 0 ≤ c.toInt ∧ c.toInt ≤ t.toInt
      · have b9 : Pb t c d 9 := by
          rw [Pb_iff (by decide), show (9 : Int32).toInt = 9 by decide]
          exact fun h => g ⟨c1, c2, h⟩
        rw [if_pos b9]
        simp only [ite_self]
      · have b0 : Pb t c d 0 := by
          rw [Pb_iff (by decide), n0]
          intro h
          apply c2
          omega
        rw [if_pos b0]
  · rw [if_pos (wi_zero (by rw [z1, z2]; exact c1)), if_neg (show ¬ Gd t c d from fun h => c1 h.1)]
