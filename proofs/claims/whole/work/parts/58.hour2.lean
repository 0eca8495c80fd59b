abbrev mvM (B : Mm) (u : Nat) : Int32 := if gI B 44 15 ≤ gI B 51 u then gI B 44 15 else gI B 51 u
abbrev stM (B : Mm) (f t : Nat) : Mm := sI (sI B 51 f (gI B 51 f - mvM B f)) 51 t (gI (sI B 51 f (gI B 51 f - mvM B f)) 51 t + mvM B f)
theorem steer_lt {B : Mm} {up low : Int64} (c0 : ¬ lg_cmp low 0 = 0) (c : lg_cmp (up * (gI B 44 13).toInt64) ((gI B 44 12).toInt64 * low) < 0) : f_X7_steer B up low = ((if mvM B 1 = 0 then (1 : Int32) else 2), stM B 1 0) := by
  have c1 : ¬ lg_cmp (up * (gI B 44 13).toInt64) ((gI B 44 12).toInt64 * low) = 0 := fun e => by rw [e] at c; exact absurd c (by decide)
  have c2 : ¬ 0 ≤ lg_cmp (up * (gI B 44 13).toInt64) ((gI B 44 12).toInt64 * low) := Int32.not_le.mpr c
  have e1 : (if (if 0 ≤ (lg_cmp (up * ((gI B 44 13)).toInt64) (((gI B 44 12)).toInt64 * low)) then (0 : Int32) else (1 : Int32)) = 0 then (0 : Int32) else (1 : Int32)) = 1 := by
    rw [if_neg c2, if_neg (by decide)]
  have e2 : (if (if 0 ≤ (lg_cmp (up * ((gI B 44 13)).toInt64) (((gI B 44 12)).toInt64 * low)) then (0 : Int32) else (1 : Int32)) = 0 then (3 : Int32) else (2 : Int32)) = 2 := by
    rw [if_neg c2, if_neg (by decide)]
  have t1 : (1 : Int32).toNatClampNeg = 1 := by decide
  have t0 : ((1 : Int32) - 1).toNatClampNeg = 0 := by decide
  rw [f_X7_steer, if_neg c0, if_neg c1, m_X7_steer_3, m_X7_steer_2, v_X7_steer_1, e1, e2, t1, t0]
theorem steer_gt {B : Mm} {up low : Int64} (c0 : ¬ lg_cmp low 0 = 0) (c1 : ¬ lg_cmp (up * (gI B 44 13).toInt64) ((gI B 44 12).toInt64 * low) = 0) (c2 : 0 ≤ lg_cmp (up * (gI B 44 13).toInt64) ((gI B 44 12).toInt64 * low)) : f_X7_steer B up low = ((if mvM B 0 = 0 then (1 : Int32) else 3), stM B 0 1) := by
  have e1 : (if (if 0 ≤ (lg_cmp (up * ((gI B 44 13)).toInt64) (((gI B 44 12)).toInt64 * low)) then (0 : Int32) else (1 : Int32)) = 0 then (0 : Int32) else (1 : Int32)) = 0 := by
    rw [if_pos c2, if_pos rfl]
  have e2 : (if (if 0 ≤ (lg_cmp (up * ((gI B 44 13)).toInt64) (((gI B 44 12)).toInt64 * low)) then (0 : Int32) else (1 : Int32)) = 0 then (3 : Int32) else (2 : Int32)) = 3 := by
    rw [if_pos c2, if_pos rfl]
  have t0 : (0 : Int32).toNatClampNeg = 0 := by decide
  have t1 : ((1 : Int32) - 0).toNatClampNeg = 1 := by decide
  rw [f_X7_steer, if_neg c0, if_neg c1, m_X7_steer_3, m_X7_steer_2, v_X7_steer_1, e1, e2, t1, t0]
theorem mv_eq {A B : Mm} (h : Rmix A B) (u : Nat) : mv A u = mvM B u := by
  obtain ⟨-, h2, -, -, -, -, -, -, h9, -⟩ := h
  unfold mv mvM
  rw [h2, h9]
  by_cases c : gI B 51 u < gI B 44 15
  · rw [if_pos c, if_neg (Int32.not_le.mpr c)]
  · rw [if_neg c, if_pos (Int32.not_lt.mp c)]
theorem mv0 {A B : Mm} (h : Rmix A B) {u : Nat} (hu : u < 4) : mv A u ≤ 0 ↔ mvM B u = 0 := by
  rw [← mv_eq h]
  have r := mv_rng h hu
  rw [Int32.le_iff_toInt_le, show (0 : Int32).toInt = 0 by decide]
  constructor
  · intro q
    exact Int32.toInt_inj.mp (by rw [show (0 : Int32).toInt = 0 by decide]; omega)
  · intro q
    rw [q]; decide
theorem shift_mix {A B : Mm} (h : Rmix A B) (u v : Int32) {un vn : Nat} (hu : u.toNatClampNeg = un) (hv : v.toNatClampNeg = vn) (huv : (un = 0 ∧ vn = 1) ∨ (un = 1 ∧ vn = 0)) : Rmix (f_X0_shift A u v).2 (stM B un vn) := by
  have r := mv_rng h (u := un) (by omega)
  have e := mv_eq h un
  have hn : un ≠ vn := by omega
  have s16 := shift16 A u v (by rw [hu, hv]; exact hn)
  rw [hu, hv] at s16
  have s51 : ∀ s, gI (stM B un vn) 51 s = if s = vn then gI B 51 s + mvM B un else if s = un then gI B 51 s - mvM B un else gI B 51 s := by
    intro s
    unfold stM
    rw [gI_sI]
    by_cases e1 : s = vn
    · rw [if_pos ⟨rfl, e1⟩, if_pos e1, gI_sI, if_neg (fun q => hn q.2.symm), e1]
    · rw [if_neg (fun q => e1 q.2), if_neg e1, gI_sI]
      by_cases e2 : s = un
      · rw [if_pos ⟨rfl, e2⟩, if_pos e2, e2]
      · rw [if_neg (fun q => e2 q.2), if_neg e2]
  have h4 := h.2.2.2.1
  have h5 := h.2.2.2.2.1
  generalize mv A un = m at r e s16
  have b0 := h4 0 (by omega)
  have b1 := h4 1 (by omega)
  have su : 0 ≤ (gI A 16 un).toInt ∧ (gI A 16 un).toInt + (gI A 16 vn).toInt ≤ 1000 ∧ 0 ≤ (gI A 16 vn).toInt := by
    rcases huv with ⟨q1, q2⟩ | ⟨q1, q2⟩ <;> rw [q1, q2] <;> omega
  have ev : (gI A 16 vn + m).toInt = (gI A 16 vn).toInt + m.toInt := by
    rw [Int32.toInt_add]
    apply Int.bmod_eq_of_le <;> omega
  have eu : (gI A 16 un - m).toInt = (gI A 16 un).toInt - m.toInt := by
    rw [Int32.toInt_sub]
    apply Int.bmod_eq_of_le <;> omega
  refine mixC h (fun k j hk => fr_f_X0_shift A u v k j hk) (fun k j hk => ?_) (fun s => ?_) (fun s hs => ?_) ?_
  · unfold stM
    rw [gI_ne hk, gI_ne hk]
  · rw [s16, s51, ← e, h.2.1]
  · rw [s16]
    by_cases e1 : s = vn
    · rw [if_pos e1, e1, ev]; omega
    · rw [if_neg e1]
      by_cases e2 : s = un
      · rw [if_pos e2, e2, eu]; omega
      · rw [if_neg e2]; exact h4 s hs
  · have fv : (gI (f_X0_shift A u v).2 16 vn).toInt = (gI A 16 vn).toInt + m.toInt := by rw [s16, if_pos rfl, ev]
    have fu : (gI (f_X0_shift A u v).2 16 un).toInt = (gI A 16 un).toInt - m.toInt := by rw [s16, if_neg hn, if_pos rfl, eu]
    rcases huv with ⟨q1, q2⟩ | ⟨q1, q2⟩
    · rw [q1] at fu su
      rw [q2] at fv su
      rw [fu, fv]; omega
    · rw [q1] at fu su
      rw [q2] at fv su
      rw [fu, fv]; omega
theorem sim_correct {A B : Mm} (h : Rmix A B) (u : Int32) {up low : Int64} (h18 : (gI A 18 u.toNatClampNeg).toInt64 = up) (h19 : (gI A 19 u.toNatClampNeg).toInt64 = low) : (f_X0_correct A u).1 = (f_X7_steer B up low).1 ∧ Rmix (f_X0_correct A u).2 (f_X7_steer B up low).2 := by
  have h6 := h.2.2.2.2.2.1
  have h7 := h.2.2.2.2.2.2.1
  have z : gI A 19 u.toNatClampNeg = 0 ↔ lg_cmp low 0 = 0 := by
    rw [lg_eq0, ← h19, i64_int]
    constructor
    · intro e
      rw [e]; decide
    · intro e
      exact Int32.toInt_inj.mp (by rw [e]; decide)
  by_cases c0 : gI A 19 u.toNatClampNeg = 0
  · rw [f_X0_correct, if_pos c0, f_X7_steer, if_pos (z.mp c0)]
    exact ⟨rfl, h⟩
  have c0' : ¬ lg_cmp low 0 = 0 := fun q => c0 (z.mpr q)
  rw [f_X0_correct, if_neg c0, h18, h19, h6, h7, Int64.mul_comm low]
  by_cases c1 : 0 ≤ lg_cmp (up * (gI B 44 13).toInt64) ((gI B 44 12).toInt64 * low)
  · rw [if_pos c1]
    by_cases c2 : lg_cmp (up * (gI B 44 13).toInt64) ((gI B 44 12).toInt64 * low) ≤ 0
    · have e : lg_cmp (up * (gI B 44 13).toInt64) ((gI B 44 12).toInt64 * low) = 0 := Int32.le_antisymm c2 c1
      rw [if_pos c2, f_X7_steer, if_neg c0', if_pos e]
      exact ⟨rfl, h⟩
    · have e : ¬ lg_cmp (up * (gI B 44 13).toInt64) ((gI B 44 12).toInt64 * low) = 0 := fun q => c2 (by rw [q]; decide)
      rw [if_neg c2, steer_gt c0' e c1]
      have m := mv0 h (u := 0) (by omega)
      refine ⟨?_, shift_mix h 0 1 (by decide) (by decide) (Or.inl ⟨rfl, rfl⟩)⟩
      show (if (if mv A 0 ≤ 0 then (0 : Int32) else 1) = 0 then (1 : Int32) else 3) = (if mvM B 0 = 0 then (1 : Int32) else 3)
      by_cases q : mv A 0 ≤ 0
      · rw [if_pos q, if_pos (m.mp q), if_pos rfl]
      · rw [if_neg q, if_neg (fun r => q (m.mpr r)), if_neg (by decide)]
  · rw [if_neg c1, steer_lt c0' (Int32.not_le.mp c1)]
    have m := mv0 h (u := 1) (by omega)
    refine ⟨?_, shift_mix h 1 0 (by decide) (by decide) (Or.inr ⟨rfl, rfl⟩)⟩
    show (if (if mv A 1 ≤ 0 then (0 : Int32) else 1) = 0 then (1 : Int32) else 2) = (if mvM B 1 = 0 then (1 : Int32) else 2)
    by_cases q : mv A 1 ≤ 0
    · rw [if_pos q, if_pos (m.mp q), if_pos rfl]
    · rw [if_neg q, if_neg (fun r => q (m.mpr r)), if_neg (by decide)]
