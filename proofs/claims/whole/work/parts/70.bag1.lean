/-! bags: one lot is taken -/
abbrev mn (M : Mm) (t : Nat) (u : Int32) : Int32 := if u < gI M 27 t then u else gI M 27 t
theorem tk1 (M : Mm) (x u : Int32) (k j : Nat) : gI (m_X5_takeOf_1 M x u) k j = if k = 28 ∧ j = (gI M 26 x.toNatClampNeg).toNatClampNeg then gI M 28 j - mn M x.toNatClampNeg u else (if k = 27 ∧ j = x.toNatClampNeg then gI M 27 j - mn M x.toNatClampNeg u else gI M k j) := by
  rw [m_X5_takeOf_1, gI_ne (k := 28) (k2 := 27) (by decide), gI_sI, gI_sI]
  by_cases e : k = 28 ∧ j = (gI M 26 x.toNatClampNeg).toNatClampNeg
  · rw [if_pos e, if_pos e, e.2]
  · rw [if_neg e, if_neg e]
    by_cases e2 : k = 27 ∧ j = x.toNatClampNeg
    · rw [if_pos e2, if_pos e2, e2.2]
    · rw [if_neg e2, if_neg e2]
theorem tk2 (M : Mm) (x u : Int32) (k j : Nat) : gI (m_X5_takeOf_2 M x u) k j = if k = 29 ∧ j = (gI M 26 x.toNatClampNeg).toNatClampNeg ∧ gI M 27 x.toNatClampNeg - mn M x.toNatClampNeg u = 0 then gI M 29 j - 1 else gI (m_X5_takeOf_1 M x u) k j := by
  have e27 : gI (m_X5_takeOf_1 M x u) 27 x.toNatClampNeg = gI M 27 x.toNatClampNeg - mn M x.toNatClampNeg u := by
    rw [tk1, if_neg (fun q => absurd q.1 (by decide)), if_pos ⟨rfl, rfl⟩]
  have e29 : ∀ q, gI (m_X5_takeOf_1 M x u) 29 q = gI M 29 q := fun q => fr_m_X5_takeOf_1 M x u 29 q (by decide)
  rw [m_X5_takeOf_2, e27]
  by_cases c : gI M 27 x.toNatClampNeg - mn M x.toNatClampNeg u = 0
  · rw [if_pos c, gI_sI, e29]
    by_cases e : k = 29 ∧ j = (gI M 26 x.toNatClampNeg).toNatClampNeg
    · rw [if_pos e, if_pos ⟨e.1, e.2, c⟩, e.2]
    · rw [if_neg e, if_neg (fun q => e ⟨q.1, q.2.1⟩)]
  · rw [if_neg c, if_neg (fun q => c q.2.2)]
theorem tk3 (M : Mm) (x u : Int32) (k j : Nat) : gI (f_X5_takeOf M x u).2 k j = if k = 4 ∧ j = 6 then gI M 4 6 + 1 else (if k = 31 ∧ j = (gI M 4 6).toNatClampNeg then mn M x.toNatClampNeg u else (if k = 30 ∧ j = (gI M 4 6).toNatClampNeg then x else gI (m_X5_takeOf_2 M x u) k j)) := by
  have e46 : gI (m_X5_takeOf_2 M x u) 4 6 = gI M 4 6 := fr_m_X5_takeOf_2 M x u 4 6 (by decide)
  have e3 : gI (m_X5_takeOf_3 M x u) 4 6 = gI M 4 6 := fr_m_X5_takeOf_3 M x u 4 6 (by decide)
  have es : (f_X5_takeOf M x u).2 = sI (m_X5_takeOf_3 M x u) 4 6 (gI (m_X5_takeOf_3 M x u) 4 6 + (1 : Int32)) := by rw [f_X5_takeOf]
  rw [es, e3, gI_sI, m_X5_takeOf_3, gI_ne (k := 4) (k2 := 30) (by decide), e46, gI_sI, gI_sI]
theorem tk_fst (M : Mm) (x u : Int32) : (f_X5_takeOf M x u).1 = mn M x.toNatClampNeg u := by rw [f_X5_takeOf]
/-- the model's round -/
theorem bg_eq {u : Int32} {k : Nat} {w : Int32 × Mm} (c0 : ¬ w.1 ≤ 0) (c1 : gI w.2 62 k = u) (c2 : ¬ gI w.2 64 k ≤ 0) : b_X7_bag_1 u k w = (w.1 - (if w.1 ≤ gI w.2 64 k then w.1 else gI w.2 64 k), sI (sI (sI (sI w.2 64 k (gI w.2 64 k - (if w.1 ≤ gI w.2 64 k then w.1 else gI w.2 64 k))) 65 (gI w.2 44 35).toNatClampNeg (gI w.2 63 k)) 66 (gI w.2 44 35).toNatClampNeg (if w.1 ≤ gI w.2 64 k then w.1 else gI w.2 64 k)) 44 35 (gI w.2 44 35 + 1)) := by
  rw [b_X7_bag_1, if_neg c0, m_X7_bag_1, if_pos c1, if_neg c2, if_pos c1, if_neg c2]
  generalize (if w.1 ≤ gI w.2 64 k then w.1 else gI w.2 64 k) = m
  rw [gI_ne (k := 44) (k2 := 66) (by decide), gI_ne (k := 44) (k2 := 65) (by decide), gI_ne (k := 44) (k2 := 64) (by decide), gI_ne (k := 63) (k2 := 64) (by decide)]
theorem bg_id {u : Int32} {k : Nat} {w : Int32 × Mm} (c : w.1 ≤ 0 ∨ ¬ gI w.2 62 k = u ∨ gI w.2 64 k ≤ 0) : b_X7_bag_1 u k w = w := by
  by_cases c0 : w.1 ≤ 0
  · rw [b_X7_bag_1, if_pos c0]
  rw [b_X7_bag_1, if_neg c0, m_X7_bag_1]
  by_cases c1 : gI w.2 62 k = u
  · have c2 : gI w.2 64 k ≤ 0 := by
      rcases c with q | q | q
      · exact absurd q c0
      · exact absurd c1 q
      · exact q
    rw [if_pos c1, if_pos c2, if_pos c1, if_pos c2]
  · rw [if_neg c1, if_neg c1]
theorem fl_eq {u : Int32} {t : Nat} {z : Int32 × Mm} (c0 : ¬ z.1 ≤ 0) (c1 : gI z.2 26 t = u) (c2 : ¬ gI z.2 27 t ≤ 0) : b_X5_fill_1 u t z = (z.1 - (f_X5_takeOf z.2 (nI t) z.1).1, (f_X5_takeOf z.2 (nI t) z.1).2) := by
  rw [b_X5_fill_1, if_neg c0, if_pos c1, if_neg c2, if_pos c1, if_neg c2]
theorem fl_id {u : Int32} {t : Nat} {z : Int32 × Mm} (c : z.1 ≤ 0 ∨ ¬ gI z.2 26 t = u ∨ gI z.2 27 t ≤ 0) : b_X5_fill_1 u t z = z := by
  by_cases c0 : z.1 ≤ 0
  · rw [b_X5_fill_1, if_pos c0]
  rw [b_X5_fill_1, if_neg c0]
  by_cases c1 : gI z.2 26 t = u
  · have c2 : gI z.2 27 t ≤ 0 := by
      rcases c with q | q | q
      · exact absurd q c0
      · exact absurd c1 q
      · exact q
    rw [if_pos c1, if_pos c2, if_pos c1, if_pos c2]
  · rw [if_neg c1, if_neg c1]
theorem mn_eq {x a : Int32} : (if x < a then x else a) = (if x ≤ a then x else a) := by
  by_cases c : x < a
  · rw [if_pos c, if_pos (Int32.le_of_lt c)]
  · rw [if_neg c]
    by_cases c2 : x ≤ a
    · rw [if_pos c2]
      exact Int32.le_antisymm (Int32.not_lt.mp c) c2
    · rw [if_neg c2]
theorem mn_rng {x a : Int32} (hx : 0 < x.toInt) (ha : 0 < a.toInt) : 0 < (if x < a then x else a).toInt ∧ (if x < a then x else a).toInt ≤ a.toInt ∧ (if x < a then x else a).toInt ≤ x.toInt := by
  by_cases c : x < a
  · rw [if_pos c]
    have := Int32.lt_iff_toInt_lt.mp c
    omega
  · rw [if_neg c]
    have := Int32.le_iff_toInt_le.mp (Int32.not_lt.mp c)
    omega
