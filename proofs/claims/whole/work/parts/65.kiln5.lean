theorem st10_60 (Y : Mm) (f fu sp : Int32) (j : Nat) (h : j ≤ 3) : gI (m_X7_step_10 Y f fu sp) 60 j = gI (m_X7_step_5 Y f fu sp) 60 j := by
  rw [m_X7_step_10, gI_ne (by decide), m_X7_step_9, gI_ne (by decide), (st8 Y f fu sp).2.2 60 j (by omega), st7 Y f fu sp 60 j (by omega), if_neg (by omega)]
theorem st11_J (Y : Mm) (f fu sp : Int32) : gJ (m_X7_step_11 Y f fu sp) 61 0 = gJ Y 61 0 + f.toInt64 ∧ gJ (m_X7_step_11 Y f fu sp) 61 1 = gJ Y 61 1 + (kD Y fu).toInt64 ∧ ∀ j, 2 ≤ j → gJ (m_X7_step_11 Y f fu sp) 61 j = gJ Y 61 j := by
  have e : ∀ j, gJ (m_X7_step_10 Y f fu sp) 61 j = gJ Y 61 j := fun j => fj_m_X7_step_10 Y f fu sp 61 j trivial
  rw [m_X7_step_11]
  refine ⟨?_, ?_, fun j hj => ?_⟩
  · rw [gJ_off 61 0 (by decide), gJ_at, e]
  · rw [gJ_at, gJ_off 61 1 (by decide), e]
    rfl
  · rw [gJ_off 61 j (by omega), gJ_off 61 j (by omega), e]
theorem kT_J (Y : Mm) (f fu sp : Int32) : gJ (kT Y f fu sp) 61 0 = gJ Y 61 0 + f.toInt64 ∧ gJ (kT Y f fu sp) 61 1 = gJ Y 61 1 + (kD Y fu).toInt64 ∧ gJ (kT Y f fu sp) 61 2 = gJ Y 61 2 + (gI (m_X7_step_5 Y f fu sp) 60 0).toInt64 ∧ gJ (kT Y f fu sp) 61 3 = gJ Y 61 3 + (gI (m_X7_step_5 Y f fu sp) 60 1).toInt64 ∧ gJ (kT Y f fu sp) 61 4 = gJ Y 61 4 + (kG Y fu).toInt64 := by
  obtain ⟨s0, s1, s2⟩ := st11_J Y f fu sp
  have g : ∀ j, j ≤ 3 → gI (m_X7_step_11 Y f fu sp) 60 j = gI (m_X7_step_5 Y f fu sp) 60 j := fun j h => by
    rw [m_X7_step_11, gI_sJ, gI_sJ, st10_60 _ _ _ _ j h]
  have g0 := g 0 (by omega)
  have g1 := g 1 (by omega)
  rw [kT, gJ_sI, gJ_sI, gJ_sI, gJ_sI, gJ_sI, m_X7_step_13, ← kG, m_X7_step_12]
  generalize m_X7_step_11 Y f fu sp = m at s0 s1 s2 g0 g1
  refine ⟨?_, ?_, ?_, ?_, ?_⟩
  · rw [gJ_off 61 0 (by decide), gJ_off 61 0 (by decide), gJ_off 61 0 (by decide), s0]
  · rw [gJ_off 61 1 (by decide), gJ_off 61 1 (by decide), gJ_off 61 1 (by decide), s1]
  · rw [gJ_off 61 2 (by decide), gJ_off 61 2 (by decide), gJ_at, s2 2 (by omega), g0]
  · rw [gJ_off 61 3 (by decide), gJ_at, gJ_off 61 3 (by decide), gI_sJ, s2 3 (by omega), g1]
  · rw [gJ_at, gJ_off 61 4 (by decide), gJ_off 61 4 (by decide), s2 4 (by omega)]
/-- the zones after the handing on -/
theorem zones {X Y : Mm} (h : Rkiln X Y) (f fu sp : Int32) : (∀ q, q < 4 → gI (kA X f fu sp) 20 q = gI (kB Y f fu sp) 56 q) ∧ (∀ q, q < 4 → gI (kA X f fu sp) 21 q = gI (kB Y f fu sp) 57 q) ∧ gI (kB Y f fu sp) 56 4 = gI (kA X f fu sp) 22 3 ∧ gI (kB Y f fu sp) 57 4 = gI (kA X f fu sp) 23 3 ∧ gI (kA X f fu sp) 24 6 = kG Y fu := by
  obtain ⟨h1, h2, h3, h4, h5, h6, h7, h8, h9, h10⟩ := h
  have gr := gas_rel (M := X) (N := Y) (if gI Y 44 23 = 0 then fu else (0 : Int32)) h2
  have e9 : (if gI X 3 8 = 0 then fu else (0 : Int32)) = (if gI Y 44 23 = 0 then fu else (0 : Int32)) := by rw [h9]
  have hr := hand_rel (M := sI (f_X3_passGas X (if gI Y 44 23 = 0 then fu else (0 : Int32))).2 24 6 (f_X3_passGas X (if gI Y 44 23 = 0 then fu else (0 : Int32))).1) (N := m_X7_step_2 Y fu) f sp (fun q hq => by
    rw [gI_ne (by decide), fr_f_X3_passGas X _ 20 q (by decide), fr_m_X7_step_2 Y fu 56 q (by decide)]
    exact h1 q hq) (fun q hq => by
    rw [gI_ne (by decide)]
    exact gr.2 q hq)
  have b1 : m_X3_burn_1 X fu sp = f_X3_handOn (sI (f_X3_passGas X (if gI Y 44 23 = 0 then fu else (0 : Int32))).2 24 6 (f_X3_passGas X (if gI Y 44 23 = 0 then fu else (0 : Int32))).1) sp := by
    rw [m_X3_burn_1, e9]
  rw [← b1] at hr
  obtain ⟨r1, r2, r3, r4⟩ := hr
  rw [kA, kB]
  refine ⟨fun q hq => ?_, fun q hq => ?_, ?_, ?_, ?_⟩
  · rw [← r1 q hq, gI_row]
  · rw [gI_ne (by decide)]
    exact r2 q hq
  · rw [gI_ne (by decide)]
    exact r3
  · rw [gI_ne (by decide)]
    exact r4
  · rw [gI_ne (by decide), b1, fr_f_X3_handOn _ _ 24 6 (by decide), gI_at]
    exact gr.1
theorem sim_burn {X Y : Mm} (h : Rkiln X Y) (hl : (gI X 3 6).toInt < 500) (f fu sp : Int32) : Rkiln (f_X3_burn X f fu sp).2 (kT Y f fu sp) := by
  obtain ⟨z1, z2, z3, z4, z5⟩ := zones h f fu sp
  obtain ⟨h1, h2, h3, h4, h5, h6, h7, h8, h9, h10⟩ := h
  obtain ⟨p1, p2, p3, p4, p5⟩ := st5 Y f fu sp
  have t0 := te0 (kA X f fu sp)
  have t1 := te1 (kA X f fu sp)
  have t2 := te2 (kA X f fu sp)
  have t3 := te3 (kA X f fu sp)
  rw [← z3] at t0 t2 t3
  rw [← z4] at t1 t2 t3
  rw [← p2] at t0
  rw [← p3] at t1
  rw [← p4] at t2
  rw [← p5] at t3
  have e9 : kC X fu = kD Y fu := by rw [kC, kD, h9]
  have cq : kQ Y f fu sp = _ := cause_eq (A := f_X3_tellOut (kA X f fu sp)) (B := m_X7_step_7 Y f fu sp) (kD Y fu) (fun q hq => by
      rw [fr_f_X3_tellOut _ 20 q (by decide), st7 Y f fu sp 56 q (by omega), if_neg (by omega), p1 56 q (by decide)]
      exact z1 q hq) (fun q hq => by
      rw [fr_f_X3_tellOut _ 21 q (by decide), st7 Y f fu sp 57 q (by omega), if_neg (by omega), p1 57 q (by decide)]
      exact z2 q hq) (by rw [st7 Y f fu sp 60 0 (by decide), if_neg (by decide)]; exact t0) (by rw [st7 Y f fu sp 60 3 (by decide), if_neg (by decide)]; exact t3)
  have cf := cause_cf (A := f_X3_tellOut (kA X f fu sp)) (kD Y fu)
  rw [← cq] at cf
  obtain ⟨c1, c2, c3, c4⟩ := cf
  have ekF : kF X f fu sp = f_X3_findCause (f_X3_tellOut (kA X f fu sp)) (kD Y fu) := by rw [kF, e9]
  rw [← ekF] at c1 c2 c3
  have F24 : ∀ j, j ≠ 4 → j ≠ 5 → gI (kF X f fu sp) 24 j = gI (f_X3_tellOut (kA X f fu sp)) 24 j := fun j q1 q2 => by
    rw [kF, gI_findCause _ _ _ _ (by omega) (by omega) (by omega)]
  have i36 : (gI X 3 6 + 1).toInt = (gI X 3 6).toInt + 1 := by
    rw [Int32.toInt_add, show (1 : Int32).toInt = 1 by decide]
    apply Int.bmod_eq_of_le <;> omega
  have m0 : ∀ j, j ≤ 3 → gI (kT Y f fu sp) 60 j = gI (m_X7_step_5 Y f fu sp) 60 j := fun j hj => by
    rw [kT_I _ _ _ _ 60 j (by omega), (st8 Y f fu sp).2.2 60 j (by omega), st7 Y f fu sp 60 j (by omega), if_neg (by omega)]
  have s37 : gI X 3 7 = -9 ↔ ¬ 0 ≤ gI Y 44 30 := by
    rw [← h7, ← i_neg9 h8, Int32.not_le]
  refine ⟨fun q hq => ?_, fun q hq => ?_, fun w hw => ?_, fun w hw => ?_, ?_, ?_, ?_, ?_, ?_, ?_⟩
  · rw [burn_I _ _ _ _ 20 q (by omega) (by omega), kF, gI_findCause _ _ _ _ (by omega) (by omega) (by omega), fr_f_X3_tellOut _ 20 q (by decide), z1 q hq, kT_I _ _ _ _ 56 q (by omega), (st8 Y f fu sp).2.2 56 q (by omega), st7 Y f fu sp 56 q (by omega), if_neg (by omega), p1 56 q (by decide)]
  · rw [burn_I _ _ _ _ 21 q (by omega) (by omega), kF, gI_findCause _ _ _ _ (by omega) (by omega) (by omega), fr_f_X3_tellOut _ 21 q (by decide), z2 q hq, kT_I _ _ _ _ 57 q (by omega), (st8 Y f fu sp).2.2 57 q (by omega), st7 Y f fu sp 57 q (by omega), if_neg (by omega), p1 57 q (by decide)]
  · rw [burn_I _ _ _ _ 24 w (by omega) (by omega)]
    by_cases w4 : w = 4
    · rw [w4, c1, kT_I _ _ _ _ 60 4 (by omega), (st8 Y f fu sp).1]
    by_cases w5 : w = 5
    · rw [w5, c2, kT_I _ _ _ _ 60 5 (by omega), (st8 Y f fu sp).2.1]
    rw [F24 w w4 w5]
    by_cases w6 : w = 6
    · rw [w6, te6 _ 6 (by omega), z5, kT_I _ _ _ _ 60 6 (by omega), (st8 Y f fu sp).2.2 60 6 (by omega), st7 Y f fu sp 60 6 (by omega), if_pos ⟨rfl, rfl⟩]
    rw [m0 w (by omega)]
    rcases (show w = 0 ∨ w = 1 ∨ w = 2 ∨ w = 3 by omega) with e | e | e | e
    · rw [e]; exact t0
    · rw [e]; exact t1
    · rw [e]; exact t2
    · rw [e]; exact t3
  · obtain ⟨s0, s1, s2, s3, s4⟩ := sums_c (kF X f fu sp) f (kC X fu)
    obtain ⟨r0, r1, r2, r3, r4⟩ := kT_J Y f fu sp
    rw [burn_J]
    rcases (show w = 0 ∨ w = 1 ∨ w = 2 ∨ w = 3 ∨ w = 4 by omega) with e | e | e | e | e
    · rw [e, s0, r0, kF_J, h4 0 (by omega)]
    · rw [e, s1, r1, kF_J, h4 1 (by omega), e9]
    · rw [e, s2, r2, kF_J, h4 2 (by omega), F24 0 (by decide) (by decide), t0]
    · rw [e, s3, r3, kF_J, h4 3 (by omega), F24 1 (by decide) (by decide), t1]
    · rw [e, s4, r4, kF_J, h4 4 (by omega), F24 6 (by decide) (by decide), te6 _ 6 (by omega), z5]
  · rw [burn_36, kT_22, h5]
  · rw [burn_36, i36]; omega
  · rw [burn_37, kT_30, c1]
    by_cases q : kQ Y f fu sp ≤ 0
    · rw [if_pos q, if_pos (c4.mp q), h7]
    · rw [if_neg q, if_neg (fun r => q (c4.mpr r))]
      by_cases q2 : 0 ≤ gI Y 44 30
      · rw [if_pos q2, if_neg (fun r => s37.mp r q2), h7]
      · rw [if_neg q2, if_pos (s37.mpr q2), h5]
  · rw [burn_37]
    by_cases q : gI (kF X f fu sp) 24 4 = 0
    · rw [if_pos q]; exact h8
    · rw [if_neg q]
      by_cases q2 : gI X 3 7 = -9
      · rw [if_pos q2]
        exact Or.inr h6.1
      · rw [if_neg q2]; exact h8
  · rw [burn_I _ _ _ _ 3 8 (by decide) (by decide), c3, kT_23, fr_f_X3_tellOut _ 3 8 (by decide), kA_I _ _ _ _ 3 8 (by decide), ← h9]
    rcases h10 with q | q
    · rw [q, if_pos (c := ((0 : Int32) = 0)) rfl]
    · rw [q, if_neg (c := ((1 : Int32) = 0)) (by decide)]
      by_cases r : f_X7_in (kQ Y f fu sp / (10 : Int32)) (1 : Int32) (2 : Int32) = 0
      · rw [if_pos r]
      · rw [if_neg r]
  · rw [burn_I _ _ _ _ 3 8 (by decide) (by decide), c3, fr_f_X3_tellOut _ 3 8 (by decide), kA_I _ _ _ _ 3 8 (by decide)]
    by_cases r : f_X7_in (kQ Y f fu sp / (10 : Int32)) (1 : Int32) (2 : Int32) = 0
    · rw [if_pos r]; exact h10
    · rw [if_neg r]; exact Or.inr rfl
