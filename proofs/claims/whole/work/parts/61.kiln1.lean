/-! the kiln: gas -/
theorem gI_q {M : Mm} {k i q : Nat} {v : Int32} (e : q = i) : gI (sI M k i v) k q = v := by rw [gI_sI, if_pos ⟨rfl, e⟩]
theorem gI_qn {M : Mm} {k i q : Nat} {v : Int32} (e : ¬ q = i) : gI (sI M k i v) k q = gI M k q := by rw [gI_sI, if_neg (fun r => e r.2)]
theorem gI_row (M : Mm) (k i q : Nat) (v : Int32) : gI (sI M k i v) k q = if q = i then v else gI M k q := by
  by_cases e : q = i
  · rw [gI_q e, if_pos e]
  · rw [gI_qn e, if_neg e]
theorem pgb {i : Nat} {z : Int32 × Mm} (h : ¬ kinds i = 2) : b_X3_passGas_1 i z = z := by
  rw [b_X3_passGas_1, if_neg h, if_neg h]
theorem pg1 (M : Mm) (u : Int32) : l_X3_passGas_1 (u, M) = (u + gI M 21 3 / (10 : Int32), sI M 21 3 (gI M 21 3 - gI M 21 3 / (10 : Int32))) := by
  rw [l_X3_passGas_1, itr_s, itr_s, itr_s, itr_s, itr_0, pgb (i := 0) (by decide), pgb (i := 1) (by decide), pgb (i := 2) (by decide), b_X3_passGas_1, if_pos (by decide), if_pos (by decide)]
theorem kind1 {i : Nat} (h : i < 3) : kinds i = f_X7_kindOf (nI i) := by
  have : i = 0 ∨ i = 1 ∨ i = 2 := by omega
  rcases this with e | e | e <;> rw [e] <;> decide
theorem gas_rel {M N : Mm} (u : Int32) (h : ∀ q, q < 4 → gI M 21 q = gI N 57 q) : (f_X3_passGas M u).1 = (l_X7_step_1 ((u + gI N 57 3 / (10 : Int32)), (sI N 57 3 (gI N 57 3 - gI N 57 3 / (10 : Int32))))).1 ∧ ∀ q, q < 4 → gI (f_X3_passGas M u).2 21 q = gI (l_X7_step_1 ((u + gI N 57 3 / (10 : Int32)), (sI N 57 3 (gI N 57 3 - gI N 57 3 / (10 : Int32))))).2 57 q := by
  rw [f_X3_passGas, pg1, l_X7_step_1, l_X3_passGas_2, h 3 (by omega)]
  have key := itd_rel (f := b_X3_passGas_2) (g := b_X7_step_1) (fun i z w => i ≤ 3 ∧ z.1 = w.1 ∧ ∀ q, q < 4 → gI z.2 21 q = gI w.2 57 q) (fun i z w hz => by
    obtain ⟨a0, a1, a2⟩ := hz
    have ki := kind1 (i := i) (by omega)
    have ci : (nI i).toNatClampNeg = i := nI_clamp (by omega)
    rw [b_X3_passGas_2, b_X7_step_1, f_X7_taken, ki, ci, a1]
    refine ⟨by omega, rfl, fun q hq => ?_⟩
    show gI (sI z.2 21 i _) 21 q = gI (sI w.2 57 i _) 57 q
    by_cases e : q = i
    · rw [gI_q e, gI_q e, a2 i (by omega)]
    · rw [gI_qn e, gI_qn e, a2 q hq]) 3
    (u + gI N 57 3 / (10 : Int32), sI M 21 3 (gI N 57 3 - gI N 57 3 / (10 : Int32))) (u + gI N 57 3 / (10 : Int32), sI N 57 3 (gI N 57 3 - gI N 57 3 / (10 : Int32)))
    ⟨Nat.le_refl _, rfl, fun q hq => by
      show gI (sI M 21 3 _) 21 q = gI (sI N 57 3 _) 57 q
      by_cases e : q = 3
      · rw [gI_q e, gI_q e]
      · rw [gI_qn e, gI_qn e, h q hq]⟩
  exact key.2
/-! the kiln: handing on -/
theorem ho1_rel {M N : Mm} (u : Int32) (h20 : ∀ q, q < 4 → gI M 20 q = gI N 56 q) (h21 : ∀ q, q < 4 → gI M 21 q = gI N 57 q) : (∀ q, q < 4 → gI (itr (b_X3_handOn_1 u) 4 M) 20 q = gI (itr (b_X7_handOn_1 u) 4 N) 56 q) ∧ (∀ q, q < 4 → gI (itr (b_X3_handOn_1 u) 4 M) 21 q = gI (itr (b_X7_handOn_1 u) 4 N) 57 q) ∧ (∀ q, q < 4 → gI (itr (b_X3_handOn_1 u) 4 M) 22 q = gI (itr (b_X7_handOn_1 u) 4 N) 58 q) ∧ (∀ q, q < 4 → gI (itr (b_X3_handOn_1 u) 4 M) 23 q = gI (itr (b_X7_handOn_1 u) 4 N) 59 q) :=
  itr_rel (f := b_X3_handOn_1 u) (g := b_X7_handOn_1 u) (N := 4) (fun i z w => (∀ q, q < 4 → gI z 20 q = gI w 56 q) ∧ (∀ q, q < 4 → gI z 21 q = gI w 57 q) ∧ (∀ q, q < i → gI z 22 q = gI w 58 q) ∧ (∀ q, q < i → gI z 23 q = gI w 59 q)) (fun i z w hi hz => by
    obtain ⟨a1, a2, a3, a4⟩ := hz
    have e1 := a1 i hi
    have e2 := a2 i hi
    have s22 : ∀ v, gI (sI z 22 i v) 22 i = v := fun v => by rw [gI_sI, if_pos ⟨rfl, rfl⟩]
    have s58 : ∀ v, gI (sI w 58 i v) 58 i = v := fun v => by rw [gI_sI, if_pos ⟨rfl, rfl⟩]
    rw [b_X3_handOn_1, m_X3_handOn_1, b_X7_handOn_1, m_X7_handOn_1, s22, s58, gI_ne (k := 20) (by decide), gI_ne (k := 21) (by decide), gI_ne (k := 56) (by decide), gI_ne (k := 57) (by decide), e1, e2]
    refine ⟨fun q hq => ?_, fun q hq => ?_, fun q hq => ?_, fun q hq => ?_⟩
    · rw [gI_ne (by decide), gI_ne (by decide), gI_ne (by decide), gI_ne (by decide)]
      exact a1 q hq
    · rw [gI_ne (by decide), gI_ne (by decide), gI_ne (by decide), gI_ne (by decide)]
      exact a2 q hq
    · rw [gI_ne (k := 22) (k2 := 23) (by decide), gI_ne (k := 58) (k2 := 59) (by decide)]
      by_cases e : q = i
      · rw [gI_q e, gI_q e]
      · rw [gI_qn e, gI_qn e]
        exact a3 q (by omega)
    · by_cases e : q = i
      · rw [gI_q e, gI_q e]
      · rw [gI_qn e, gI_qn e, gI_ne (by decide), gI_ne (by decide)]
        exact a4 q (by omega)) ⟨h20, h21, fun q hq => absurd hq (by omega), fun q hq => absurd hq (by omega)⟩ 4 (Nat.le_refl _)
theorem i_swap (s a b : Int32) : s - a + b = s + b - a := by
  rw [Int32.sub_eq_add_neg, Int32.sub_eq_add_neg, Int32.add_assoc, Int32.add_assoc, Int32.add_comm (-a)]
/-- one row (stuff or heat) after a round of the class -/
theorem hoc3 (i : Nat) (z : Mm) (q : Nat) : gI (m_X3_handOn_3 i z) 20 q = (if q = i then gI z 20 i - gI z 22 i else gI z 20 q) ∧ gI (m_X3_handOn_3 i z) 21 q = (if q = i then gI z 21 i - gI z 23 i else gI z 21 q) := by
  rw [m_X3_handOn_3]
  constructor
  · rw [gI_ne (k := 20) (k2 := 21) (by decide), gI_row]
  · rw [gI_row, gI_ne (k := 21) (k2 := 20) (by decide), gI_ne (k := 21) (k2 := 20) (by decide), gI_ne (k := 23) (k2 := 20) (by decide)]
theorem ho2c (i : Nat) (hi : i < 4) (z : Mm) (q : Nat) : gI (b_X3_handOn_2 i z) 20 q = (if q = i then (if i = 0 then gI z 20 i - gI z 22 i else gI z 20 i - gI z 22 i + gI z 22 (i - 1)) else gI z 20 q) ∧ gI (b_X3_handOn_2 i z) 21 q = (if q = i then (if i = 0 then gI z 21 i - gI z 23 i else gI z 21 i - gI z 23 i + gI z 23 (i - 1)) else gI z 21 q) := by
  rw [b_X3_handOn_2, m_X3_handOn_4]
  have m20 := fun q => (hoc3 i z q).1
  have m21 := fun q => (hoc3 i z q).2
  by_cases e0 : i = 0
  · have c : nI i ≤ 0 := by rw [e0]; decide
    rw [if_pos c, if_pos e0, if_pos e0]
    exact ⟨m20 q, m21 q⟩
  · have c : ¬ nI i ≤ 0 := by
      rw [Int32.le_iff_toInt_le, nI_int (by omega), show (0 : Int32).toInt = 0 by decide]
      omega
    have m22 : ∀ q, gI (m_X3_handOn_3 i z) 22 q = gI z 22 q := fun q => fr_m_X3_handOn_3 i z 22 q (by decide)
    have m23 : ∀ q, gI (m_X3_handOn_3 i z) 23 q = gI z 23 q := fun q => fr_m_X3_handOn_3 i z 23 q (by decide)
    rw [if_neg c, if_neg e0, if_neg e0]
    generalize m_X3_handOn_3 i z = m at m20 m21 m22 m23
    constructor
    · rw [gI_ne (k := 20) (k2 := 21) (by decide)]
      by_cases e : q = i
      · rw [gI_q e, if_pos e, m20, m22, if_pos rfl]
      · rw [gI_qn e, if_neg e, m20, if_neg e]
    · by_cases e : q = i
      · rw [gI_q e, if_pos e, gI_ne (k := 21) (k2 := 20) (by decide), gI_ne (k := 23) (k2 := 20) (by decide), m21, m23, if_pos rfl]
      · rw [gI_qn e, if_neg e, gI_ne (k := 21) (k2 := 20) (by decide), m21, if_neg e]
theorem hom3 (i : Nat) (z : Mm) (q : Nat) : gI (m_X7_handOn_3 i z) 56 q = (if q = i then gI z 56 i - gI z 58 i else gI z 56 q) ∧ gI (m_X7_handOn_3 i z) 57 q = (if q = i then gI z 57 i - gI z 59 i else gI z 57 q) := by
  rw [m_X7_handOn_3]
  constructor
  · rw [gI_ne (k := 56) (k2 := 57) (by decide), gI_row]
  · rw [gI_row, gI_ne (k := 57) (k2 := 56) (by decide), gI_ne (k := 57) (k2 := 56) (by decide), gI_ne (k := 59) (k2 := 56) (by decide)]
theorem ho2m (i : Nat) (w : Mm) (q : Nat) : gI (b_X7_handOn_2 i w) 56 q = (if q = i + 1 then gI w 56 (i + 1) + gI w 58 i else if q = i then gI w 56 i - gI w 58 i else gI w 56 q) ∧ gI (b_X7_handOn_2 i w) 57 q = (if q = i + 1 then gI w 57 (i + 1) + gI w 59 i else if q = i then gI w 57 i - gI w 59 i else gI w 57 q) := by
  rw [b_X7_handOn_2, m_X7_handOn_4]
  have m20 := fun q => (hom3 i w q).1
  have m21 := fun q => (hom3 i w q).2
  have m22 : ∀ q, gI (m_X7_handOn_3 i w) 58 q = gI w 58 q := fun q => fr_m_X7_handOn_3 i w 58 q (by decide)
  have m23 : ∀ q, gI (m_X7_handOn_3 i w) 59 q = gI w 59 q := fun q => fr_m_X7_handOn_3 i w 59 q (by decide)
  generalize m_X7_handOn_3 i w = m at m20 m21 m22 m23
  constructor
  · rw [gI_ne (k := 56) (k2 := 57) (by decide)]
    by_cases e : q = i + 1
    · rw [gI_q e, if_pos e, m20, m22, if_neg (by omega)]
    · rw [gI_qn e, if_neg e, m20]
  · by_cases e : q = i + 1
    · rw [gI_q e, if_pos e, gI_ne (k := 57) (k2 := 56) (by decide), gI_ne (k := 59) (k2 := 56) (by decide), m21, m23, if_neg (by omega)]
    · rw [gI_qn e, if_neg e, gI_ne (k := 57) (k2 := 56) (by decide), m21]
