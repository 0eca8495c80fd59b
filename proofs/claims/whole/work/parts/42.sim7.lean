/-! stroke: what is laid -/
theorem par01 {s : Int32} (h : 0 ≤ s.toInt) : s - s / (2 : Int32) * (2 : Int32) = 0 ∨ s - s / (2 : Int32) * (2 : Int32) = 1 := by
  have e := rem_toInt s 2
  rw [show (2 : Int32).toInt = 2 by decide, Int.tmod_eq_emod_of_nonneg h] at e
  have b : s.toInt % 2 = 0 ∨ s.toInt % 2 = 1 := by omega
  rcases b with b | b
  · exact Or.inl (Int32.toInt_inj.mp (by rw [e, b]; decide))
  · exact Or.inr (Int32.toInt_inj.mp (by rw [e, b]; decide))
theorem fac_eq {s : Int32} (h : 0 ≤ s.toInt) {A B : Int32} : (if (if (s - s / (2 : Int32) * (2 : Int32)) = (1 : Int32) then (1 : Int32) else (0 : Int32)) = 0 then A else B) = (if (s - s / (2 : Int32) * (2 : Int32)) = 0 then A else B) := by
  rcases par01 h with e | e
  · rw [e]
    rfl
  · rw [e]
    rfl
theorem fac_rng {s : Int32} {i : Nat} (hi : i < 10) : ∃ n : Nat, n ≤ 9 ∧ (if (s - s / (2 : Int32) * (2 : Int32)) = 0 then nI i else (9 : Int32) - nI i) = nI n := by
  by_cases c : (s - s / (2 : Int32) * (2 : Int32)) = 0
  · exact ⟨i, by omega, by rw [if_pos c]⟩
  · refine ⟨9 - i, by omega, ?_⟩
    rw [if_neg c]
    apply Int32.toInt_inj.mp
    rw [Int32.toInt_sub, nI_int (by omega), nI_int (by omega), show (9 : Int32).toInt = 9 by decide]
    rw [show ((9 - i : Nat) : Int) = 9 - (i : Int) by omega]
    apply Int.bmod_eq_of_le <;> omega
theorem laid_int {t c d : Int32} (g : Gd t c d) {n : Nat} (hn : n ≤ 9) : 0 ≤ (c + d * nI n).toInt ∧ (c + d * nI n).toInt ≤ 1000 := by
  obtain ⟨⟨g1, g2⟩, ⟨g3, g4⟩, g5, g6⟩ := g
  have hd1 : d.toInt ≤ 111 := by omega
  have hd2 : -111 ≤ d.toInt := by omega
  have hp : (nI n).toInt = n := nI_int (by omega)
  have b : 0 ≤ c.toInt + d.toInt * n ∧ c.toInt + d.toInt * n ≤ 1000 := by
    rcases Int.le_total 0 d.toInt with hd | hd
    · have a1 : 0 ≤ d.toInt * n := Int.mul_nonneg hd (by omega)
      have a2 : d.toInt * n ≤ d.toInt * 9 := Int.mul_le_mul_of_nonneg_left (by omega) hd
      omega
    · have a1 : d.toInt * n ≤ 0 := Int.mul_nonpos_of_nonpos_of_nonneg hd (by omega)
      have a2 : d.toInt * 9 ≤ d.toInt * n := Int.mul_le_mul_of_nonpos_left hd (by omega)
      omega
  have e1 : (d * nI n).toInt = d.toInt * n := by
    rw [Int32.toInt_mul, hp]
    apply Int.bmod_eq_of_le <;> omega
  have e2 : (c + d * nI n).toInt = c.toInt + d.toInt * n := by
    rw [Int32.toInt_add, e1]
    apply Int.bmod_eq_of_le <;> omega
  rw [e2]
  exact b
def Ilay (X Y : Mm) (i : Nat) (z w : Mm) : Prop := (∀ p, gI z 7 p = gI w 47 p) ∧ (∀ p, gI z 8 p = gI w 48 p) ∧ (∀ p, gI z 9 p = gI X 9 p) ∧ (∀ p, gI w 49 p = gI Y 49 p) ∧ gI w 44 5 = gI Y 44 5 ∧ (∀ p, p < 10 → 0 ≤ (gI z 8 p).toInt ∧ (gI z 8 p).toInt ≤ 1000 * (gI X 1 4).toInt + (if p < i then 1000 else 0))
theorem lay_step {X Y : Mm} (h : Rheap X Y) {t c d : Int32} (g : Gd t c d) {i : Nat} (hi : i < 10) {z w : Mm} (hz : Ilay X Y i z w) : Ilay X Y (i + 1) (b_X2_lay_1 X t c d i z) (b_X7_stroke_1 t c d i w) := by
  obtain ⟨h1, h2, h3, h4, h5, h6, h7, h8⟩ := h
  obtain ⟨a1, a2, a3, a4, a5, a6⟩ := hz
  have e9 : gI z 9 i = gI w 49 i := by rw [a3, a4, h3]
  have ew : gI (sI w 47 i (gI w 47 i + t)) 44 5 = gI X 1 4 := by rw [gI_ne (by decide), a5, h5]
  rw [b_X2_lay_1, m_X2_lay_1, b_X7_stroke_1, m_X7_stroke_1, e9, ew, fac_eq h6.1]
  by_cases cc : gI w 49 i = 0
  · rw [if_pos cc, if_pos cc]
    obtain ⟨n, hn, en⟩ := fac_rng (s := gI X 1 4) hi
    rw [en]
    have lv := laid_int g hn
    generalize c + d * nI n = v at lv
    refine ⟨fun p => ?_, fun p => ?_, fun p => ?_, fun p => ?_, ?_, fun p hp => ?_⟩
    · simp [gI_sI, a1]
    · simp [gI_sI, a2]
    · simpa [gI_sI] using a3 p
    · simpa [gI_sI] using a4 p
    · simpa [gI_sI] using a5
    · have b := a6 p hp
      by_cases e : p = i
      · subst e
        have q : gI (sI (sI z 7 p (gI z 7 p + t)) 8 p (gI (sI z 7 p (gI z 7 p + t)) 8 p + v)) 8 p = gI z 8 p + v := by simp [gI_sI]
        rw [q, if_pos (by omega)]
        rw [if_neg (by omega)] at b
        have q2 : (gI z 8 p + v).toInt = (gI z 8 p).toInt + v.toInt := by
          rw [Int32.toInt_add]
          apply Int.bmod_eq_of_le <;> omega
        rw [q2]
        omega
      · have q : gI (sI (sI z 7 i (gI z 7 i + t)) 8 i (gI (sI z 7 i (gI z 7 i + t)) 8 i + v)) 8 p = gI z 8 p := by simp [gI_sI, e]
        rw [q]
        by_cases l : p < i
        · rw [if_pos l] at b
          rw [if_pos (by omega)]
          exact b
        · rw [if_neg l] at b
          rw [if_neg (by omega)]
          exact b
  · rw [if_neg cc, if_neg cc]
    refine ⟨a1, a2, a3, a4, a5, fun p hp => ?_⟩
    have b := a6 p hp
    by_cases l : p < i
    · rw [if_pos l] at b
      rw [if_pos (by omega)]
      exact b
    · rw [if_neg l] at b
      by_cases l2 : p < i + 1
      · rw [if_pos l2]
        omega
      · rw [if_neg l2]
        exact b
