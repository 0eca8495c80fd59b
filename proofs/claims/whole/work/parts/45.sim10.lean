theorem hh_iff {i n : Int32} (hn : 0 ≤ n) : ¬ f_X6_hasHours i n = 0 ↔ (0 ≤ i.toInt ∧ i.toInt + n.toInt ≤ 24) := by
  have hn' := Int32.le_iff_toInt_le.mp hn
  rw [show (0 : Int32).toInt = 0 by decide] at hn'
  constructor
  · intro h
    obtain ⟨a, b⟩ := hh_rng h (Int32.not_lt.mpr hn)
    have a' := Int32.le_iff_toInt_le.mp (Int32.not_lt.mp a)
    rw [show (0 : Int32).toInt = 0 by decide] at a'
    have b' : i.toInt.toNat + n.toInt.toNat ≤ 24 := b
    omega
  · intro h
    have w : ¬ f_X6_within i 0 24 = 0 := wi_one (by rw [show (0 : Int32).toInt = 0 by decide, show (24 : Int32).toInt = 24 by decide]; omega)
    have e2 : ((24 : Int32) - i).toInt = 24 - i.toInt := by
      rw [Int32.toInt_sub, show (24 : Int32).toInt = 24 by decide]
      apply Int.bmod_eq_of_le <;> omega
    rw [f_X6_hasHours, if_neg w, if_neg (by rw [Int32.lt_iff_toInt_lt, e2]; omega)]
    decide
abbrev MBy (i j n : Int32) : Prop := i < 0 ∨ j < 0 ∨ 0 < lg_cmp (i.toInt64 + n.toInt64) (24 : Int64) ∨ ¬ lg_cmp (j.toInt64 + n.toInt64) (24 : Int64) ≤ 0
theorem mby_iff {i j n : Int32} (hn : 0 ≤ n) : MBy i j n ↔ (f_X6_hasHours i n = 0 ∨ f_X6_hasHours j n = 0) := by
  have e1 := hh_iff (i := i) hn
  have e2 := hh_iff (i := j) hn
  unfold MBy
  rw [lg_gt, lg_le, add64, add64, show (24 : Int64).toInt = 24 by decide, Int32.lt_iff_toInt_lt, Int32.lt_iff_toInt_lt, show (0 : Int32).toInt = 0 by decide]
  by_cases c1 : f_X6_hasHours i n = 0
  · have : ¬ (0 ≤ i.toInt ∧ i.toInt + n.toInt ≤ 24) := fun q => e1.mpr q c1
    constructor
    · intro _
      exact Or.inl c1
    · intro _
      omega
  · have q1 := e1.mp c1
    by_cases c2 : f_X6_hasHours j n = 0
    · have : ¬ (0 ≤ j.toInt ∧ j.toInt + n.toInt ≤ 24) := fun q => e2.mpr q c2
      constructor
      · intro _
        exact Or.inr c2
      · intro _
        omega
    · have q2 := e2.mp c2
      constructor
      · intro _
        omega
      · intro q
        rcases q with q | q
        · exact absurd q c1
        · exact absurd q c2
theorem copyM (Y : Mm) (d i e j n : Int32) : f_X7_copy Y d i e j n = (if f_X6_within d 0 6 = 0 then ((-1 : Int32), Y) else (if f_X6_within e 0 6 = 0 then ((-1 : Int32), Y) else (if 0 ≤ n then (if gI Y 67 d.toNatClampNeg = 0 then f_X7_meets Y 1 else (if gI Y 67 e.toNatClampNeg = 0 then f_X7_meets Y 1 else (if MBy i j n then f_X7_meets Y 2 else ((1 : Int32), (itr (b_X7_copy_2 e j) n.toNatClampNeg (itr (b_X7_copy_1 d i) n.toNatClampNeg Y)))))) else f_X7_meets Y 5))) := by
  rw [f_X7_copy, ad_wi, ad_wi]
  by_cases c1 : f_X6_within d 0 6 = 0
  · rw [if_pos c1, if_pos c1]
  rw [if_neg c1, if_neg c1]
  by_cases c2 : f_X6_within e 0 6 = 0
  · rw [if_pos c2, if_pos c2]
  rw [if_neg c2, if_neg c2]
  by_cases c3 : 0 ≤ n
  · rw [if_pos c3, if_pos c3]
    by_cases c4 : gI Y 67 d.toNatClampNeg = 0
    · rw [if_pos c4, if_pos c4]
    rw [if_neg c4, if_neg c4]
    by_cases c5 : gI Y 67 e.toNatClampNeg = 0
    · rw [if_pos c5, if_pos c5]
    rw [if_neg c5, if_neg c5]
    by_cases c6 : i < 0
    · rw [if_pos c6, if_pos (Or.inl c6)]
    rw [if_neg c6]
    by_cases c7 : j < 0
    · rw [if_pos c7, if_pos (Or.inr (Or.inl c7))]
    rw [if_neg c7]
    by_cases c8 : 0 < lg_cmp (i.toInt64 + n.toInt64) (24 : Int64)
    · rw [if_pos c8, if_pos (Or.inr (Or.inr (Or.inl c8)))]
    rw [if_neg c8]
    by_cases c9 : lg_cmp (j.toInt64 + n.toInt64) (24 : Int64) ≤ 0
    · rw [if_pos c9, if_neg (show ¬ MBy i j n from fun q => by
        rcases q with q | q | q | q
        · exact c6 q
        · exact c7 q
        · exact c8 q
        · exact q c9)]
    · rw [if_neg c9, if_pos (Or.inr (Or.inr (Or.inr c9)))]
  · rw [if_neg c3, if_neg c3]
