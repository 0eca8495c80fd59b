/-! hour, held together -/
abbrev hY1 (Y : Mm) (u : Int32) : Mm := sI (m_X7_hour_2 Y u) 44 21 (-9 : Int32)
theorem tk17 (X : Mm) (u : Int32) (h : Nat) : gI (f_X0_takeSample X u) 17 h = if h = (gI X 2 5).toNatClampNeg then (if u = 0 then gI X 2 5 + gI X 2 10 else (-1 : Int32)) else gI X 17 h := by
  rw [f_X0_takeSample, gI_ne (by decide), m_X0_takeSample_1, gI_ne (by decide), gI_sI]
  by_cases e : h = (gI X 2 5).toNatClampNeg
  · rw [if_pos ⟨rfl, e⟩, if_pos e]
  · rw [if_neg (fun q => e q.2), if_neg e]
theorem hy52 (Y : Mm) (u : Int32) (h : Nat) : gI (hY1 Y u) 52 h = if h = (gI Y 44 16).toNatClampNeg then (if u = 0 then gI Y 44 16 + gI Y 44 14 else (100000 : Int32)) else gI Y 52 h := by
  unfold hY1
  rw [gI_ne (by decide), m_X7_hour_2, gI_ne (by decide), gI_ne (by decide), gI_sJ, m_X7_hour_1, gI_sJ, gI_sI]
  by_cases e : h = (gI Y 44 16).toNatClampNeg
  · rw [if_pos ⟨rfl, e⟩, if_pos e]
  · rw [if_neg (fun q => e q.2), if_neg e]
theorem hy55 (Y : Mm) (u : Int32) (h : Nat) : gI (hY1 Y u) 55 h = if h = (gI Y 44 16).toNatClampNeg then (0 : Int32) else gI Y 55 h := by
  unfold hY1
  rw [gI_ne (by decide), m_X7_hour_2, gI_ne (by decide), gI_sI, gI_sJ, fr_m_X7_hour_1 Y u 55 h (by decide)]
  by_cases e : h = (gI Y 44 16).toNatClampNeg
  · rw [if_pos ⟨rfl, e⟩, if_pos e]
  · rw [if_neg (fun q => e q.2), if_neg e]
theorem hy16 (Y : Mm) (u : Int32) : gI (hY1 Y u) 44 16 = gI Y 44 16 + 1 := by
  unfold hY1
  rw [gI_off 44 16 (by decide), m_X7_hour_2, gI_sI, if_pos ⟨rfl, rfl⟩, gI_ne (by decide), gI_sJ, fr_m_X7_hour_1 Y u 44 16 (by decide)]
theorem hr_mix1 {X Y : Mm} (hm : Rmix X Y) {a b : Nat} {v w : Int32} : Rmix (sI X 17 a v) (sI Y 52 b w) :=
  mix_fr hm (fun k j q => gI_ne (by omega)) (fun k j q => gI_ne (by omega))
theorem hr_mix2 {X Y : Mm} (hm : Rmix X Y) (u : Int32) : Rmix (m_X0_takeSample_1 X u) (m_X7_hour_1 Y u) :=
  mix_fr hm (fun k j q => fr_m_X0_takeSample_1 X u k j (by omega)) (fun k j q => fr_m_X7_hour_1 Y u k j (by omega))
theorem hr_up {X Y : Mm} (hm : Rmix X Y) (h1 : gI X 2 5 = gI Y 44 16) (u : Int32) (h : Nat) (h4 : h < (gI X 2 5).toNatClampNeg → (gI X 18 h).toInt64 = gJ Y 53 h) (hh : h < (gI X 2 5).toNatClampNeg + 1) : (gI (f_X0_takeSample X u) 18 h).toInt64 = gJ (hY1 Y u) 53 h := by
  unfold hY1
  rw [f_X0_takeSample, gI_ne (by decide), gJ_sI, m_X7_hour_2, gJ_sI, gJ_sI, gJ_ne (by decide), m_X0_takeSample_1, m_X7_hour_1, gI_sI, gJ_sJ, gI_ne (by decide), gI_ne (by decide), gJ_sI, ← h1]
  by_cases e : h = (gI X 2 5).toNatClampNeg
  · rw [if_pos (show 18 = 18 ∧ h = (gI X 2 5).toNatClampNeg from ⟨rfl, e⟩), if_pos (show 53 = 53 ∧ h = (gI X 2 5).toNatClampNeg from ⟨rfl, e⟩)]
    exact (nu_int (hr_mix1 hm)).1
  · rw [if_neg (fun q => e q.2), if_neg (fun q => e q.2)]
    exact h4 (by omega)
theorem hr_lo {X Y : Mm} (hm : Rmix X Y) (h1 : gI X 2 5 = gI Y 44 16) (u : Int32) (h : Nat) (h4 : h < (gI X 2 5).toNatClampNeg → (gI X 19 h).toInt64 = gJ Y 54 h) (hh : h < (gI X 2 5).toNatClampNeg + 1) : (gI (f_X0_takeSample X u) 19 h).toInt64 = gJ (hY1 Y u) 54 h := by
  unfold hY1
  rw [f_X0_takeSample, gJ_sI, m_X7_hour_2, gJ_sI, gJ_sI, gI_sI, gJ_sJ, fr_m_X0_takeSample_1 X u 2 5 (by decide), fr_m_X0_takeSample_1 X u 19 h (by decide), fj_m_X7_hour_1 Y u 54 h (by decide), ← h1]
  by_cases e : h = (gI X 2 5).toNatClampNeg
  · rw [if_pos ⟨rfl, e⟩, if_pos ⟨rfl, e⟩]
    exact (nl_int (hr_mix2 hm u)).1
  · rw [if_neg (fun q => e q.2), if_neg (fun q => e q.2)]
    exact h4 (by omega)
theorem hr_comes {X Y : Mm} (hm : Rmix X Y) (h : Rhour X Y) (hl : (gI X 2 5).toInt < 200) (u : Int32) (t : Nat) (ht : t < (gI X 2 5).toNatClampNeg + 1) : Rcomes (gI (f_X0_takeSample X u) 17 t) (gI (hY1 Y u) 52 t) (gI (hY1 Y u) 55 t) := by
  obtain ⟨h1, h2, h3, h4, h5, h6⟩ := h
  have m8 := hm.2.2.2.2.2.2.2.1
  have m10 := hm.2.2.2.2.2.2.2.2.2.1
  rw [tk17, hy52, hy55, ← h1, ← m8]
  by_cases e : t = (gI X 2 5).toNatClampNeg
  · rw [if_pos e, if_pos e, if_pos e]
    by_cases q : u = 0
    · rw [if_pos q, if_pos q]
      have ea : (gI X 2 5 + gI X 2 10).toInt = (gI X 2 5).toInt + (gI X 2 10).toInt := by
        rw [Int32.toInt_add]
        apply Int.bmod_eq_of_le <;> omega
      exact Or.inr ⟨rfl, rfl, by omega, by omega⟩
    · rw [if_neg q, if_neg q]
      exact Or.inl ⟨rfl, Or.inr rfl⟩
  · rw [if_neg e, if_neg e, if_neg e]
    exact h5 t (by omega)
theorem due_of {X Y A W : Mm} {t : Nat} (hr : Rcomes (gI A 17 t) (gI W 52 t) (gI W 55 t)) (e : gI A 2 5 = gI Y 44 16) (hl : (gI A 2 5).toInt ≤ 200) : Due A t ↔ DueM Y W t := by
  unfold Due DueM
  rcases hr with ⟨r1, r2⟩ | ⟨r1, r2, r3, r4⟩
  · constructor
    · intro q
      exact absurd r1 q.1
    · intro q
      rcases r2 with r2 | r2
      · exact absurd q.2 r2
      · refine absurd ?_ q.1
        rw [r2, Int32.lt_iff_toInt_lt, ← e, show (100000 : Int32).toInt = 100000 by decide]
        omega
  · rw [r1, e]
    constructor
    · intro q
      exact ⟨q.2, r2⟩
    · intro q
      refine ⟨fun z => ?_, q.1⟩
      rw [z, show (-1 : Int32).toInt = -1 by decide] at r3
      omega
def hX2 (X : Mm) (u : Int32) : Mm := m_X0_passHour_1 X u
def hY2 (Y : Mm) (u : Int32) : Mm := itd (b_X7_hour_1 Y) ((gI Y 44 16).toNatClampNeg + 1) (hY1 Y u)
theorem hr_mid {X Y : Mm} (hm : Rmix X Y) (h : Rhour X Y) (hl : (gI X 2 5).toInt < 200) (u : Int32) : Rmix (hX2 X u) (hY2 Y u) ∧ Rhour (hX2 X u) (hY2 Y u) ∧ (gI (hX2 X u) 2 6 = -9 ∨ ∃ k, k < 200 ∧ k < (gI (hX2 X u) 2 5).toNatClampNeg ∧ gI (hX2 X u) 2 6 = nI k) := by
  have hc := fun t => hr_comes hm h hl u t
  have hu := fun t q => hr_up hm h.1 u t (fun r => (h.2.2.2.1 t r).1) q
  have hw := fun t q => hr_lo hm h.1 u t (fun r => (h.2.2.2.1 t r).2) q
  obtain ⟨h1, h2, h3, h4, h5, h6⟩ := h
  have e5 : gI (f_X0_takeSample X u) 2 5 = gI X 2 5 := fr_f_X0_takeSample X u 2 5 (by decide)
  have e7 : gI (f_X0_takeSample X u) 2 7 = gI X 2 7 := fr_f_X0_takeSample X u 2 7 (by decide)
  have hN : (gI X 2 5).toNatClampNeg + 1 ≤ 200 := by
    have : (gI X 2 5).toNatClampNeg = (gI X 2 5).toInt.toNat := rfl
    omega
  have h9 : gI (hY1 Y u) 44 21 = -9 := by
    unfold hY1
    rw [gI_sI, if_pos ⟨rfl, rfl⟩]
  have hD : ∀ t, t < (gI X 2 5).toNatClampNeg + 1 → (Due (f_X0_takeSample X u) t ↔ DueM Y (hY1 Y u) t) := fun t q => due_of (X := X) (hc t q) (by rw [e5]; exact h1) (by rw [e5]; omega)
  have h7 : gI (f_X0_takeSample X u) 2 7 = sm (fun t => if gI (hY1 Y u) 55 t = 2 then (1 : Int32) else 0) ((gI X 2 5).toNatClampNeg + 1) := by
    rw [e7, h6, passed_sm, sm_s, ← h1, hy55, ← h1, if_pos rfl, if_neg (by decide), Int32.add_zero]
    exact sm_congr _ (fun t q => by
      have v : gI (hY1 Y u) 55 t = gI Y 55 t := by rw [hy55, ← h1, if_neg (by omega)]
      rw [v])
  have key := hr_join (M := Y) (W := hY1 Y u) (A := f_X0_takeSample X u) (N := (gI X 2 5).toNatClampNeg + 1) (by omega) h9 hD h7
  have ra := ry_all (f_X0_takeSample X u) ((gI X 2 5).toNatClampNeg + 1) (by omega)
  have ha := hr_all Y (hY1 Y u) ((gI X 2 5).toNatClampNeg + 1) (by omega) h9
  have fX : ∀ k j, k ≠ 17 → ¬ (k = 2 ∧ j = 7) → gI (itr b_X0_readYoungest_1 ((gI X 2 5).toNatClampNeg + 1) ((-9 : Int32), f_X0_takeSample X u)).2 k j = gI (f_X0_takeSample X u) k j := fun k j q1 q2 => itr_keepIP (fun i z => fr_b_X0_readYoungest_1 i z k j ⟨q1, q2⟩) _ _
  have fY : ∀ k j, k ≠ 55 → ¬ (k = 44 ∧ j = 21) → gI (hY2 Y u) k j = gI (hY1 Y u) k j := fun k j q1 q2 => itd_keepI (fun i z => fr_b_X7_hour_1 Y i z k j ⟨q1, q2⟩) _ _
  have gY : ∀ k j, gJ (hY2 Y u) k j = gJ (hY1 Y u) k j := fun k j => itd_keepJ (fun i z => fj_b_X7_hour_1 Y i z k j trivial) _ _
  have eX2 : hX2 X u = sI (sI (itr b_X0_readYoungest_1 ((gI X 2 5).toNatClampNeg + 1) ((-9 : Int32), f_X0_takeSample X u)).2 2 6 (itr b_X0_readYoungest_1 ((gI X 2 5).toNatClampNeg + 1) ((-9 : Int32), f_X0_takeSample X u)).1) 2 5 (gI X 2 5 + 1) := by
    rw [hX2, m_X0_passHour_1, gI_off 2 5 (by decide), fr_f_X0_readYoungest _ 2 5 (by decide), e5, f_X0_readYoungest, l_X0_readYoungest_1, e5]
  have eY2 : itd (b_X7_hour_1 Y) ((gI X 2 5).toNatClampNeg + 1) (hY1 Y u) = hY2 Y u := by rw [hY2, h1]
  rw [eY2] at key ha
  generalize itr b_X0_readYoungest_1 ((gI X 2 5).toNatClampNeg + 1) ((-9 : Int32), f_X0_takeSample X u) = z at key ra fX eX2
  obtain ⟨k1, k2⟩ := key
  obtain ⟨r1, r2, r3, r4⟩ := ra
  obtain ⟨-, b1, b2, b3⟩ := ha
  have gX : ∀ k j, ¬ (k = 2 ∧ (j = 5 ∨ j = 6)) → gI (hX2 X u) k j = gI z.2 k j := fun k j q => by rw [eX2, gI_off k j (by omega), gI_off k j (by omega)]
  have g5 : gI (hX2 X u) 2 5 = gI X 2 5 + 1 := by rw [eX2, gI_sI, if_pos ⟨rfl, rfl⟩]
  have g6 : gI (hX2 X u) 2 6 = z.1 := by rw [eX2, gI_off 2 6 (by decide), gI_sI, if_pos ⟨rfl, rfl⟩]
  have i5 : (gI X 2 5 + 1).toInt = (gI X 2 5).toInt + 1 := by
    rw [Int32.toInt_add, show (1 : Int32).toInt = 1 by decide]
    apply Int.bmod_eq_of_le <;> omega
  have n5 : (gI X 2 5 + 1).toNatClampNeg = (gI X 2 5).toNatClampNeg + 1 := by
    have a1 : (gI X 2 5).toNatClampNeg = (gI X 2 5).toInt.toNat := rfl
    have a2 : (gI X 2 5 + 1).toNatClampNeg = (gI X 2 5 + 1).toInt.toNat := rfl
    omega
  have y16 : gI (hY2 Y u) 44 16 = gI Y 44 16 + 1 := by rw [fY 44 16 (by decide) (by decide), hy16]
  refine ⟨?_, ⟨?_, ?_, ?_, fun t ht => ?_, fun t ht => ?_, ?_⟩, ?_⟩
  · refine mix_fr hm (fun k j q => ?_) (fun k j q => ?_)
    · rw [gX k j (by omega), fX k j (by omega) (by omega), fr_f_X0_takeSample X u k j (by omega)]
    · rw [fY k j (by omega) (by omega)]
      unfold hY1
      rw [gI_off k j (by omega), fr_m_X7_hour_2 Y u k j (by omega)]
  · rw [g5, y16, h1]
  · rw [g5, i5]; omega
  · rw [g6]; exact k1
  · rw [g5, n5] at ht
    rw [gX 18 t (by omega), fX 18 t (by omega) (by omega), gX 19 t (by omega), fX 19 t (by omega) (by omega), gY, gY]
    exact ⟨hu t ht, hw t ht⟩
  · rw [g5, n5] at ht
    rw [gX 17 t (by omega), r2, fY 52 t (by omega) (by omega), b2]
    by_cases d : Due (f_X0_takeSample X u) t
    · rw [if_pos ⟨ht, d⟩, if_pos ⟨by omega, ht, (hD t ht).mp d⟩]
      refine Or.inl ⟨rfl, Or.inl ?_⟩
      by_cases q : nI t = gI (hY2 Y u) 44 21
      · rw [if_pos q]; decide
      · rw [if_neg q]; decide
    · rw [if_neg (fun q => d q.2), if_neg (fun q => d ((hD t ht).mpr q.2.2))]
      exact hc t ht
  · rw [gX 2 7 (by omega), k2, passed_sm, y16, ← h1, n5]
  · rw [g6, g5, n5]
    rcases r1 with ⟨p1, p2⟩ | ⟨k, p1, p2, p3, p4, p5⟩
    · exact Or.inl p1
    · exact Or.inr ⟨k, by omega, p2, p5⟩
theorem sim_hour {X Y : Mm} (hm : Rmix X Y) (h : Rhour X Y) (u : Int32) : (f_X6_hour X u).1 = (f_X7_hour Y u).1 ∧ Rmix (f_X6_hour X u).2 (f_X7_hour Y u).2 ∧ Rhour (f_X6_hour X u).2 (f_X7_hour Y u).2 := by
  by_cases c : gI Y 44 16 = 200
  · have e1 : f_X6_hour X u = ((-2 : Int32), X) := by
      rw [f_X6_hour, f_X0_hours, h.1, c, if_neg (by decide)]
    have e2 : f_X7_hour Y u = ((-2 : Int32), Y) := by rw [f_X7_hour, if_pos c]
    rw [e1, e2]
    exact ⟨rfl, hm, h⟩
  have hl : (gI X 2 5).toInt < 200 := by
    have q : ¬ (gI X 2 5).toInt = 200 := fun e => c (by rw [← h.1]; exact Int32.toInt_inj.mp (by rw [e]; decide))
    have := h.2.1.2
    omega
  obtain ⟨m1, m2, m3⟩ := hr_mid hm h hl u
  have e1 : f_X6_hour X u = ((if gI (hX2 X u) 2 6 = (-9 : Int32) then (0 : Int32) else (f_X0_correct (hX2 X u) (gI (hX2 X u) 2 6)).1), (if gI (hX2 X u) 2 6 = (-9 : Int32) then hX2 X u else (f_X0_correct (hX2 X u) (gI (hX2 X u) 2 6)).2)) := by
    rw [f_X6_hour, f_X0_hours, if_pos (by rw [Int32.lt_iff_toInt_lt]; exact hl), f_X0_passHour]
    rfl
  have e2 : f_X7_hour Y u = ((if 0 ≤ gI (hY2 Y u) 44 21 then (f_X7_steer (hY2 Y u) (gJ (hY2 Y u) 53 (gI (hY2 Y u) 44 21).toNatClampNeg) (gJ (hY2 Y u) 54 (gI (hY2 Y u) 44 21).toNatClampNeg)).1 else (0 : Int32)), (if 0 ≤ gI (hY2 Y u) 44 21 then (f_X7_steer (hY2 Y u) (gJ (hY2 Y u) 53 (gI (hY2 Y u) 44 21).toNatClampNeg) (gJ (hY2 Y u) 54 (gI (hY2 Y u) 44 21).toNatClampNeg)).2 else hY2 Y u)) := by
    rw [f_X7_hour, if_neg c, l_X7_hour_1]
    rfl
  rw [e1, e2]
  generalize hX2 X u = A at m1 m2 m3
  generalize hY2 Y u = B at m1 m2
  have e6 := m2.2.2.1
  rcases m3 with q | ⟨k, q1, q2, q3⟩
  · rw [if_pos q, if_pos q, ← e6, q, if_neg (by decide), if_neg (by decide)]
    exact ⟨rfl, m1, m2⟩
  · have n9 : ¬ gI A 2 6 = -9 := by rw [q3]; exact nI_nn9 (by omega)
    have p0 : (0 : Int32) ≤ gI A 2 6 := by rw [q3]; exact nI_ge0 (by omega)
    rw [if_neg n9, if_neg n9, ← e6, if_pos p0, if_pos p0]
    have ek : (gI A 2 6).toNatClampNeg = k := by rw [q3]; exact nI_clamp (by omega)
    have s := m2.2.2.2.1 k q2
    have sc := sim_correct m1 (gI A 2 6) (up := gJ B 53 (gI A 2 6).toNatClampNeg) (low := gJ B 54 (gI A 2 6).toNatClampNeg) (by rw [ek]; exact s.1) (by rw [ek]; exact s.2)
    exact ⟨sc.1, sc.2, hour_fr m2 (fun k j q => fr_f_X0_correct _ _ k j (by omega)) (fun k j q => fr_f_X7_steer _ _ _ k j (by omega)) (fun k j q => fj_f_X7_steer _ _ _ k j trivial)⟩
