/-! the kiln: a step of the class, cell by cell -/
def kA (X : Mm) (f fu sp : Int32) : Mm := sI (m_X3_burn_1 X fu sp) 20 0 (gI (m_X3_burn_1 X fu sp) 20 0 + f)
def kC (X : Mm) (fu : Int32) : Int32 := if gI X 3 8 = 0 then fu else (0 : Int32)
def kF (X : Mm) (f fu sp : Int32) : Mm := f_X3_findCause (f_X3_tellOut (kA X f fu sp)) (kC X fu)
theorem burn2_eq (X : Mm) (f fu sp : Int32) : m_X3_burn_2 X f fu sp = f_X3_addSums (kF X f fu sp) f (kC X fu) := rfl
theorem burn_snd (X : Mm) (f fu sp : Int32) : (f_X3_burn X f fu sp).2 = sI (m_X3_burn_3 X f fu sp) 3 6 (gI (m_X3_burn_3 X f fu sp) 3 6 + (1 : Int32)) := by rw [f_X3_burn]
theorem burn_fst (X : Mm) (f fu sp : Int32) : (f_X3_burn X f fu sp).1 = gI (f_X3_burn X f fu sp).2 24 4 := by rw [f_X3_burn]
theorem burn_I (X : Mm) (f fu sp : Int32) (k j : Nat) (h6 : ¬ (k = 3 ∧ j = 6)) (h7 : ¬ (k = 3 ∧ j = 7)) : gI (f_X3_burn X f fu sp).2 k j = gI (kF X f fu sp) k j := by
  rw [burn_snd, gI_off k j h6, gI_burn3 _ _ _ _ _ _ h7, burn2_eq, gI_addSums]
theorem kA_I (X : Mm) (f fu sp : Int32) (k j : Nat) (h : k ≠ 20 ∧ k ≠ 21 ∧ k ≠ 22 ∧ k ≠ 23 ∧ k ≠ 24) : gI (kA X f fu sp) k j = gI X k j := by
  rw [kA, gI_ne h.1, fr_m_X3_burn_1 X fu sp k j h]
theorem burn_36 (X : Mm) (f fu sp : Int32) : gI (f_X3_burn X f fu sp).2 3 6 = gI X 3 6 + 1 := by
  rw [burn_snd, gI_at, gI_burn3 _ _ _ _ _ _ (by decide), burn2_eq, gI_addSums, kF, gI_findCause _ _ _ _ (by decide) (by decide) (by decide), fr_f_X3_tellOut _ 3 6 (by decide), kA_I _ _ _ _ 3 6 (by decide)]
theorem burn_37 (X : Mm) (f fu sp : Int32) : gI (f_X3_burn X f fu sp).2 3 7 = if gI (kF X f fu sp) 24 4 = 0 then gI X 3 7 else (if gI X 3 7 = (-9 : Int32) then gI X 3 6 else gI X 3 7) := by
  have e : ∀ j, j ≠ 8 → gI (m_X3_burn_2 X f fu sp) 3 j = gI X 3 j := fun j hj => by
    rw [burn2_eq, gI_addSums, kF, gI_findCause _ _ _ _ (by omega) (by omega) (by omega), fr_f_X3_tellOut _ 3 j (by decide), kA_I _ _ _ _ 3 j (by decide)]
  have e4 : gI (m_X3_burn_2 X f fu sp) 24 4 = gI (kF X f fu sp) 24 4 := by rw [burn2_eq, gI_addSums]
  rw [burn_snd, gI_off 3 7 (by decide), m_X3_burn_3, e4, e 7 (by decide), e 6 (by decide)]
  by_cases c : gI (kF X f fu sp) 24 4 = 0
  · rw [if_pos c, if_pos c, e 7 (by decide)]
  · rw [if_neg c, if_neg c]
    by_cases c2 : gI X 3 7 = -9
    · rw [if_pos c2, if_pos c2, gI_at]
    · rw [if_neg c2, if_neg c2, e 7 (by decide)]
theorem burn_J (X : Mm) (f fu sp : Int32) (j : Nat) : gJ (f_X3_burn X f fu sp).2 25 j = gJ (f_X3_addSums (kF X f fu sp) f (kC X fu)) 25 j := by
  rw [burn_snd, gJ_sI, m_X3_burn_3, ← burn2_eq]
  by_cases c : gI (m_X3_burn_2 X f fu sp) 24 4 = 0
  · rw [if_pos c]
  · rw [if_neg c]
    by_cases c2 : gI (m_X3_burn_2 X f fu sp) 3 7 = -9
    · rw [if_pos c2, gJ_sI]
    · rw [if_neg c2]
theorem kF_J (X : Mm) (f fu sp : Int32) (k j : Nat) : gJ (kF X f fu sp) k j = gJ X k j := by
  rw [kF, fj_f_X3_findCause _ _ k j trivial, fj_f_X3_tellOut _ k j trivial, kA, gJ_sI, fj_m_X3_burn_1 X fu sp k j trivial]
/-! a step of the model, cell by cell -/
def kB (Y : Mm) (f fu sp : Int32) : Mm := f_X7_handOn (m_X7_step_2 Y fu) f sp
def kG (Y : Mm) (fu : Int32) : Int32 := (l_X7_step_1 (((if (gI Y 44 23) = 0 then fu else (0 : Int32)) + ((gI Y 57 3) / (10 : Int32))), (sI Y 57 3 ((gI Y 57 3) - ((gI Y 57 3) / (10 : Int32)))))).1
def kD (Y : Mm) (fu : Int32) : Int32 := if gI Y 44 23 = 0 then fu else (0 : Int32)
def kQ (Y : Mm) (f fu sp : Int32) : Int32 := f_X7_causeOf (m_X7_step_7 Y f fu sp) (kD Y fu)
def kT (Y : Mm) (f fu sp : Int32) : Mm := sI (m_X7_step_13 Y f fu sp) 44 22 (gI (m_X7_step_13 Y f fu sp) 44 22 + (1 : Int32))
theorem st3 (Y : Mm) (f fu sp : Int32) : (∀ k j, k ≠ 60 → gI (m_X7_step_3 Y f fu sp) k j = gI (kB Y f fu sp) k j) ∧ gI (m_X7_step_3 Y f fu sp) 60 0 = gI (kB Y f fu sp) 56 4 ∧ gI (m_X7_step_3 Y f fu sp) 60 1 = gI (kB Y f fu sp) 57 4 := by
  rw [m_X7_step_3]
  rw [← kB]
  refine ⟨fun k j h => ?_, ?_, ?_⟩
  · rw [gI_ne h, gI_ne h]
  · rw [gI_off 60 0 (by decide), gI_at]
  · rw [gI_at, gI_ne (by decide)]
theorem st5 (Y : Mm) (f fu sp : Int32) : (∀ k j, k ≠ 60 → gI (m_X7_step_5 Y f fu sp) k j = gI (kB Y f fu sp) k j) ∧ gI (m_X7_step_5 Y f fu sp) 60 0 = gI (kB Y f fu sp) 56 4 ∧ gI (m_X7_step_5 Y f fu sp) 60 1 = gI (kB Y f fu sp) 57 4 ∧ gI (m_X7_step_5 Y f fu sp) 60 2 = (if gI (kB Y f fu sp) 56 4 = 0 then (0 : Int32) else gI (kB Y f fu sp) 57 4 / gI (kB Y f fu sp) 56 4) ∧ gI (m_X7_step_5 Y f fu sp) 60 3 = (if (if gI (kB Y f fu sp) 56 4 = 0 then (0 : Int32) else gI (kB Y f fu sp) 57 4 / gI (kB Y f fu sp) 56 4) < (60 : Int32) then (if (if gI (kB Y f fu sp) 56 4 = 0 then (0 : Int32) else gI (kB Y f fu sp) 57 4 / gI (kB Y f fu sp) 56 4) < (30 : Int32) then (0 : Int32) else (1 : Int32)) else (2 : Int32)) := by
  obtain ⟨a1, a2, a3⟩ := st3 Y f fu sp
  rw [m_X7_step_5, m_X7_step_4]
  generalize m_X7_step_3 Y f fu sp = m at a1 a2 a3
  rw [gI_at, a1 56 4 (by decide), a1 57 4 (by decide)]
  refine ⟨fun k j h => ?_, ?_, ?_, ?_, ?_⟩
  · rw [gI_ne h, gI_ne h, a1 k j h]
  · rw [gI_off 60 0 (by decide), gI_off 60 0 (by decide), a2]
  · rw [gI_off 60 1 (by decide), gI_off 60 1 (by decide), a3]
  · rw [gI_off 60 2 (by decide), gI_at]
  · rw [gI_at]
theorem st7 (Y : Mm) (f fu sp : Int32) (k j : Nat) (h : k ≠ 62 ∧ k ≠ 63 ∧ k ≠ 64 ∧ ¬ (k = 44 ∧ j = 31)) : gI (m_X7_step_7 Y f fu sp) k j = if k = 60 ∧ j = 6 then kG Y fu else gI (m_X7_step_5 Y f fu sp) k j := by
  have e : gI (m_X7_step_6 Y f fu sp) k j = if k = 60 ∧ j = 6 then kG Y fu else gI (m_X7_step_5 Y f fu sp) k j := by
    rw [m_X7_step_6, gI_sI]
    rfl
  rw [m_X7_step_7, gI_iteK (x := gI (m_X7_step_6 Y f fu sp) k j) rfl (fr_f_X7_addLot _ _ _ k j h), e]
theorem st8 (Y : Mm) (f fu sp : Int32) : gI (m_X7_step_8 Y f fu sp) 60 4 = kQ Y f fu sp / (10 : Int32) ∧ gI (m_X7_step_8 Y f fu sp) 60 5 = (if kQ Y f fu sp = 0 then (-9 : Int32) else (kQ Y f fu sp - kQ Y f fu sp / (10 : Int32) * (10 : Int32))) ∧ ∀ k j, ¬ (k = 60 ∧ (j = 4 ∨ j = 5)) → gI (m_X7_step_8 Y f fu sp) k j = gI (m_X7_step_7 Y f fu sp) k j := by
  rw [m_X7_step_8]
  refine ⟨?_, ?_, fun k j h => ?_⟩
  · rw [gI_off 60 4 (by decide), gI_at]
    rfl
  · rw [gI_at]
    rfl
  · rw [gI_off k j (by omega), gI_off k j (by omega)]
theorem kT_I (Y : Mm) (f fu sp : Int32) (k j : Nat) (h : ¬ (k = 44 ∧ (j = 22 ∨ j = 23 ∨ j = 30))) : gI (kT Y f fu sp) k j = gI (m_X7_step_8 Y f fu sp) k j := by
  rw [kT, gI_off k j (by omega), m_X7_step_13, gI_sJ, m_X7_step_12, gI_sJ, gI_sJ, m_X7_step_11, gI_sJ, gI_sJ, m_X7_step_10, gI_off k j (by omega), m_X7_step_9, gI_off k j (by omega)]
theorem st8_44 (Y : Mm) (f fu sp : Int32) (j : Nat) (h : j ≠ 31) : gI (m_X7_step_8 Y f fu sp) 44 j = gI Y 44 j := by
  rw [(st8 Y f fu sp).2.2 44 j (by omega), st7 Y f fu sp 44 j (by omega), if_neg (by omega), (st5 Y f fu sp).1 44 j (by decide), kB, fr_f_X7_handOn _ _ _ 44 j (by decide), fr_m_X7_step_2 Y fu 44 j (by decide)]
theorem kT_22 (Y : Mm) (f fu sp : Int32) : gI (kT Y f fu sp) 44 22 = gI Y 44 22 + 1 := by
  rw [kT, gI_at, m_X7_step_13, gI_sJ, m_X7_step_12, gI_sJ, gI_sJ, m_X7_step_11, gI_sJ, gI_sJ, m_X7_step_10, gI_off 44 22 (by decide), m_X7_step_9, gI_off 44 22 (by decide), st8_44 _ _ _ _ 22 (by decide)]
theorem kT_23 (Y : Mm) (f fu sp : Int32) : gI (kT Y f fu sp) 44 23 = if gI Y 44 23 = 0 then (if f_X7_in (kQ Y f fu sp / (10 : Int32)) (1 : Int32) (2 : Int32) = 0 then (0 : Int32) else (1 : Int32)) else (1 : Int32) := by
  rw [kT, gI_off 44 23 (by decide), m_X7_step_13, gI_sJ, m_X7_step_12, gI_sJ, gI_sJ, m_X7_step_11, gI_sJ, gI_sJ, m_X7_step_10, gI_off 44 23 (by decide), m_X7_step_9, gI_at, st8_44 _ _ _ _ 23 (by decide), (st8 Y f fu sp).1]
theorem kT_30 (Y : Mm) (f fu sp : Int32) : gI (kT Y f fu sp) 44 30 = if kQ Y f fu sp ≤ 0 then gI Y 44 30 else (if 0 ≤ gI Y 44 30 then gI Y 44 30 else gI Y 44 22) := by
  have e : ∀ j, j ≠ 23 → j ≠ 31 → gI (m_X7_step_9 Y f fu sp) 44 j = gI Y 44 j := fun j h h2 => by rw [m_X7_step_9, gI_off 44 j (by omega), st8_44 _ _ _ _ j h2]
  rw [kT, gI_off 44 30 (by decide), m_X7_step_13, gI_sJ, m_X7_step_12, gI_sJ, gI_sJ, m_X7_step_11, gI_sJ, gI_sJ, m_X7_step_10, gI_at, e 30 (by decide) (by decide), e 22 (by decide) (by decide)]
  rfl
