/-! step, held together -/
theorem grade_rng (X : Mm) (f fu sp : Int32) : 0 ≤ (gI (f_X3_burn X f fu sp).2 24 3).toInt ∧ (gI (f_X3_burn X f fu sp).2 24 3).toInt ≤ 2 := by
  rw [burn_I _ _ _ _ 24 3 (by decide) (by decide), kF, gI_findCause _ _ _ _ (by decide) (by decide) (by decide), te3]
  generalize (if gI (kA X f fu sp) 22 3 = 0 then (0 : Int32) else gI (kA X f fu sp) 23 3 / gI (kA X f fu sp) 22 3) = b
  by_cases c : b < 60
  · rw [if_pos c]
    by_cases c2 : b < 30
    · rw [if_pos c2]; decide
    · rw [if_neg c2]; decide
  · rw [if_neg c]; decide
theorem stepX {X : Mm} {f fu sp : Int32} (c1 : ¬ f_X6_within f 0 1000 = 0) (c2 : ¬ f_X6_within fu 0 100000 = 0) (c3 : ¬ f_X6_within sp 0 100 = 0) (c4 : gI X 3 6 < 500) : f_X6_step X f fu sp = ((f_X3_burn X f fu sp).1, m_X6_step_1 X f fu sp) := by
  rw [f_X6_step, if_neg c1, if_neg c2, if_neg c3, f_X3_steps, if_pos c4]
theorem stepY {Y : Mm} {f fu sp : Int32} (c1 : ¬ f_X6_within f 0 1000 = 0) (c2 : ¬ f_X6_within fu 0 100000 = 0) (c3 : ¬ f_X6_within sp 0 100 = 0) (c4 : ¬ gI Y 44 22 = 500) : f_X7_step Y f fu sp = (gI (kT Y f fu sp) 60 4, kT Y f fu sp) := by
  rw [f_X7_step, in_wi, in_wi, in_wi, if_neg c1, if_neg c2, if_neg c3, if_neg c4]
  rfl
theorem stepX1 (X : Mm) (f fu sp : Int32) : m_X6_step_1 X f fu sp = if gI (f_X3_burn X f fu sp).2 24 0 ≤ 0 then (f_X3_burn X f fu sp).2 else f_X5_store (f_X3_burn X f fu sp).2 (gI X 3 6) (gI (f_X3_burn X f fu sp).2 24 3) (gI (f_X3_burn X f fu sp).2 24 0) := by
  have t0 : (0 : Int32).toNatClampNeg = 0 := by decide
  have t3 : (3 : Int32).toNatClampNeg = 3 := by decide
  rw [m_X6_step_1, f_X3_latest, f_X3_latest, f_X3_steps, t0, t3]
theorem sim_step {X Y : Mm} (hk : Rkiln X Y) (hl : Rlots X Y) (hb : Rbag X Y) (hs : Rstf X) (f fu sp : Int32) : (f_X6_step X f fu sp).1 = (f_X7_step Y f fu sp).1 ∧ Rkiln (f_X6_step X f fu sp).2 (f_X7_step Y f fu sp).2 ∧ Rlots (f_X6_step X f fu sp).2 (f_X7_step Y f fu sp).2 ∧ Rbag (f_X6_step X f fu sp).2 (f_X7_step Y f fu sp).2 ∧ Rstf (f_X6_step X f fu sp).2 := by
  have hb' : Rbag (f_X6_step X f fu sp).2 (f_X7_step Y f fu sp).2 := bag_fr hb (fun k j q => fr_f_X6_step X f fu sp k j (by omega)) (fun k j q => fr_f_X7_step Y f fu sp k j (by omega))
  by_cases c1 : f_X6_within f 0 1000 = 0
  · have e1 : f_X6_step X f fu sp = ((-1 : Int32), X) := by rw [f_X6_step, if_pos c1]
    have e2 : f_X7_step Y f fu sp = ((-1 : Int32), Y) := by rw [f_X7_step, in_wi, if_pos c1]
    rw [e1, e2]
    exact ⟨rfl, hk, hl, hb, hs⟩
  by_cases c2 : f_X6_within fu 0 100000 = 0
  · have e1 : f_X6_step X f fu sp = ((-1 : Int32), X) := by rw [f_X6_step, if_neg c1, if_pos c2]
    have e2 : f_X7_step Y f fu sp = ((-1 : Int32), Y) := by rw [f_X7_step, in_wi, in_wi, if_neg c1, if_pos c2]
    rw [e1, e2]
    exact ⟨rfl, hk, hl, hb, hs⟩
  by_cases c3 : f_X6_within sp 0 100 = 0
  · have e1 : f_X6_step X f fu sp = ((-1 : Int32), X) := by rw [f_X6_step, if_neg c1, if_neg c2, if_pos c3]
    have e2 : f_X7_step Y f fu sp = ((-1 : Int32), Y) := by rw [f_X7_step, in_wi, in_wi, in_wi, if_neg c1, if_neg c2, if_pos c3]
    rw [e1, e2]
    exact ⟨rfl, hk, hl, hb, hs⟩
  have h5 := hk.2.2.2.2.1
  have h6 := hk.2.2.2.2.2.1
  by_cases c4 : gI Y 44 22 = 500
  · have e1 : f_X6_step X f fu sp = ((-2 : Int32), X) := by rw [f_X6_step, if_neg c1, if_neg c2, if_neg c3, f_X3_steps, h5, c4, if_neg (by decide)]
    have e2 : f_X7_step Y f fu sp = ((-2 : Int32), Y) := by rw [f_X7_step, in_wi, in_wi, in_wi, if_neg c1, if_neg c2, if_neg c3, if_pos c4]
    rw [e1, e2]
    exact ⟨rfl, hk, hl, hb, hs⟩
  have lt5 : (gI X 3 6).toInt < 500 := by
    have q : ¬ (gI X 3 6).toInt = 500 := fun e => c4 (by rw [← h5]; exact Int32.toInt_inj.mp (by rw [e]; decide))
    omega
  have c5 : gI X 3 6 < 500 := by rw [Int32.lt_iff_toInt_lt]; exact lt5
  rw [stepX c1 c2 c3 c5, stepY c1 c2 c3 c4] at hb' ⊢
  have rf := rng_int c1
  have rp := rng_int c3
  rw [show (0 : Int32).toInt = 0 by decide, show (1000 : Int32).toInt = 1000 by decide] at rf
  rw [show (0 : Int32).toInt = 0 by decide, show (100 : Int32).toInt = 100 by decide] at rp
  have kb := sim_burn hk lt5 f fu sp
  obtain ⟨st, tr⟩ := stf_burn hs ⟨h6.1, lt5⟩ fu rf rp
  have gr := grade_rng X f fu sp
  have e24 : gI (kT Y f fu sp) 60 4 = (f_X3_burn X f fu sp).1 := by rw [burn_fst]; exact (kb.2.2.1 4 (by omega)).symm
  have i36 := add1_int h6.1 (by omega)
  have e36 : (gI (f_X3_burn X f fu sp).2 3 6).toInt = (gI X 3 6).toInt + 1 := by rw [burn_36, i36]
  have ka : ∀ k j, 26 ≤ k → k ≤ 29 → gI (f_X3_burn X f fu sp).2 k j = gI X k j := fun k j q1 q2 => fr_f_X3_burn X f fu sp k j (by omega)
  have m6 : ∀ k j, ¬ (k = 60 ∧ j = 6) → gI (m_X7_step_6 Y f fu sp) k j = gI (m_X7_step_5 Y f fu sp) k j := fun k j q => by rw [m_X7_step_6, gI_off k j q]
  have kt60 : ∀ j, j ≤ 3 → gI (m_X7_step_6 Y f fu sp) 60 j = gI (f_X3_burn X f fu sp).2 24 j := fun j hj => by
    rw [kb.2.2.1 j (by omega), kT_I _ _ _ _ 60 j (by omega), (st8 Y f fu sp).2.2 60 j (by omega), st7 Y f fu sp 60 j (by omega), if_neg (by omega), m6 60 j (by omega)]
  have m6Y : ∀ k j, (62 ≤ k ∧ k ≤ 64) ∨ (k = 44) → gI (m_X7_step_6 Y f fu sp) k j = gI Y k j := fun k j q => fr_m_X7_step_6 Y f fu sp k j (by omega)
  have kTl : ∀ k j, (62 ≤ k ∧ k ≤ 64) ∨ (k = 44 ∧ j = 31) → gI (kT Y f fu sp) k j = gI (m_X7_step_7 Y f fu sp) k j := fun k j q => by
    rw [kT_I _ _ _ _ k j (by omega), (st8 Y f fu sp).2.2 k j (by omega)]
  have e7 : m_X7_step_7 Y f fu sp = if gI (f_X3_burn X f fu sp).2 24 0 ≤ 0 then m_X7_step_6 Y f fu sp else f_X7_addLot (m_X7_step_6 Y f fu sp) (gI (f_X3_burn X f fu sp).2 24 3) (gI (f_X3_burn X f fu sp).2 24 0) := by
    rw [m_X7_step_7, kt60 0 (by omega), kt60 3 (by omega)]
  have eX := stepX1 X f fu sp
  by_cases t0 : gI (f_X3_burn X f fu sp).2 24 0 ≤ 0
  · rw [if_pos t0] at e7 eX
    rw [eX] at hb' ⊢
    refine ⟨e24.symm, kb, ?_, hb', st⟩
    exact lots_mono hl ka (show (gI X 3 6).toInt ≤ (gI (f_X3_burn X f fu sp).2 3 6).toInt by omega) (fun k j q => by rw [kTl k j q, e7, m6Y k j (by omega)])
  · rw [if_neg t0] at e7 eX
    rw [eX] at hb' ⊢
    have tp : 0 < (gI (f_X3_burn X f fu sp).2 24 0).toInt := by
      rw [Int32.not_le, Int32.lt_iff_toInt_lt, show (0 : Int32).toInt = 0 by decide] at t0
      exact t0
    have fs : ∀ k j, k ≠ 26 ∧ k ≠ 27 ∧ k ≠ 28 ∧ k ≠ 29 → gI (f_X5_store (f_X3_burn X f fu sp).2 (gI X 3 6) (gI (f_X3_burn X f fu sp).2 24 3) (gI (f_X3_burn X f fu sp).2 24 0)) k j = gI (f_X3_burn X f fu sp).2 k j := fun k j q => fr_f_X5_store _ _ _ _ k j q
    refine ⟨e24.symm, ?_, ?_, hb', ?_⟩
    · exact kiln_fr kb (fun k j q => fs k j (by omega)) (fun k j q => fj_f_X5_store _ _ _ _ k j trivial) (fun _ _ _ => rfl) (fun _ _ _ => rfl)
    · have sl := store_lots (A := (f_X3_burn X f fu sp).2) (B := m_X7_step_6 Y f fu sp) hl (n := gI X 3 6) rfl h6.1 lt5 ka e36 (fun k j q => m6Y k j (by omega)) (by rw [m6Y 44 22 (by omega), h5]) gr ⟨tp, tr.2⟩
      exact lots_fr sl (fun _ _ _ => rfl) (fun k j q => by rw [kTl k j q, e7])
    · exact stf_fr st (fun k j q => fs k j (by omega))
