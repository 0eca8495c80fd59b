/-! small writes -/
theorem sim_ans {X Y : Mm} (h : Rfound X Y) (f : Int32) : (f_X1_answer X f).1 = (f_X7_meets Y f).1 ∧ Rfound (f_X1_answer X f).2 (f_X7_meets Y f).2 := by
  obtain ⟨h1, h2⟩ := h
  refine ⟨rfl, ?_, fun g => ?_⟩
  · simp [f_X1_answer, f_X7_meets, gI_sI]
  · by_cases e : g = f.toNatClampNeg
    · simp [f_X1_answer, f_X7_meets, gI_sI, e, h2]
    · simp [f_X1_answer, f_X7_meets, gI_sI, e, h2]
theorem sim_cut {X Y : Mm} (h : Rheap X Y) (ht : Rtold X Y) (p : Int32) : (f_X6_cut X p).1 = (f_X7_cut Y p).1 ∧ Rheap (f_X6_cut X p).2 (f_X7_cut Y p).2 ∧ Rtold (f_X6_cut X p).2 (f_X7_cut Y p).2 := by
  have h0 := h
  obtain ⟨h1, h2, h3, h4, h5, h6, h7, h8⟩ := h
  rw [f_X6_cut, f_X7_cut, in_wi]
  by_cases c : f_X6_within p 0 9 = 0
  · rw [if_pos c, if_pos c]
    exact ⟨rfl, h0, ht⟩
  · rw [if_neg c, if_neg c]
    have e3 : f_X2_isCut X p = gI Y 49 p.toNatClampNeg := h3 _
    rw [e3]
    by_cases c2 : gI Y 49 p.toNatClampNeg = 0
    · rw [if_pos c2, if_pos c2]
      refine ⟨?_, ⟨fun q => ?_, fun q => ?_, fun q => ?_, fun q => ?_, ?_, ?_, fun i => ?_, fun q hq => ?_⟩, ?_, ?_, ?_⟩
      · simp [f_X2_take, gI_sJ, h1]
      · simp [f_X2_take, m_X7_cut_1, gI_sI, gI_sJ, h1]
      · simp [f_X2_take, m_X7_cut_1, gI_sI, gI_sJ, h2]
      · simp [f_X2_take, m_X7_cut_1, gI_sI, gI_sJ, h3]
      · by_cases e : q = p.toNatClampNeg
        · exact Or.inr (by simp [f_X2_take, gI_sI, gI_sJ, e])
        · simp [f_X2_take, gI_sI, gI_sJ, e, h4]
      · simp [f_X2_take, m_X7_cut_1, gI_sI, gI_sJ, h5]
      · simpa [f_X2_take, gI_sI, gI_sJ] using h6
      · simpa [f_X2_take, m_X7_cut_1, gI_sI, gI_sJ] using h7 i
      · by_cases e : q = p.toNatClampNeg
        · have z : gI (f_X2_take (sJ X 0 8 (f_X2_limeOn X p).toInt64) p).2 8 q = 0 := by simp [f_X2_take, gI_sI, gI_sJ, e]
          have z2 : gI (f_X2_take (sJ X 0 8 (f_X2_limeOn X p).toInt64) p).2 1 4 = gI X 1 4 := by simp [f_X2_take, gI_sI, gI_sJ]
          show 0 ≤ (gI (f_X2_take (sJ X 0 8 (f_X2_limeOn X p).toInt64) p).2 8 q).toInt ∧ (gI (f_X2_take (sJ X 0 8 (f_X2_limeOn X p).toInt64) p).2 8 q).toInt ≤ 1000 * (gI (f_X2_take (sJ X 0 8 (f_X2_limeOn X p).toInt64) p).2 1 4).toInt
          rw [z, z2]
          have e0 : (0 : Int32).toInt = 0 := by decide
          rw [e0]
          omega
        · simpa [f_X2_take, gI_sI, gI_sJ, e] using h8 q hq
      · simp [f_X2_take, m_X7_cut_1, gJ_sI, gJ_sJ, ht.1]
      · simp [f_X2_take, m_X7_cut_1, gJ_sI, gJ_sJ, ht.2.1]
      · simp [f_X2_take, m_X7_cut_1, gJ_sI, gJ_sJ, f_X2_limeOn, h2]
    · rw [if_neg c2, if_neg c2]
      exact ⟨rfl, h0, ht⟩
theorem sim_sum {X Y : Mm} (h : Rkiln X Y) (ht : Rtold X Y) (w : Int32) : (f_X6_sum X w).1 = (f_X7_sum Y w).1 ∧ Rtold (f_X6_sum X w).2 (f_X7_sum Y w).2 := by
  rw [f_X6_sum, f_X7_sum, in_wi]
  by_cases c : f_X6_within w 0 4 = 0
  · rw [if_pos c, if_pos c, if_pos c]
    exact ⟨rfl, ht⟩
  · rw [if_neg c, if_neg c, if_neg c]
    have e := h.2.2.2.1 _ (wi_lt c (by decide) : w.toNatClampNeg < 5)
    refine ⟨rfl, ?_, ?_, ?_⟩
    · simp [f_X7_tell, gJ_sJ, ht.1]
    · simp [f_X7_tell, gJ_sJ, ht.2.1]
    · simp [f_X7_tell, gJ_sJ, f_X3_inAll, e]
theorem sim_start {X Y : Mm} (h : Rkiln X Y) : (f_X6_start X).1 = (f_X7_start Y).1 ∧ Rkiln (f_X6_start X).2 (f_X7_start Y).2 := by
  have h0 := h
  obtain ⟨h1, h2, h3, h4, h5, h6, h7, h8, h9, h10⟩ := h
  rw [f_X6_start, f_X3_restart, f_X7_start, h9]
  by_cases c : gI Y 44 23 = 0
  · rw [if_pos c, if_pos c]
    exact ⟨rfl, h0⟩
  · rw [if_neg c, if_neg c]
    refine ⟨rfl, fun z hz => ?_, fun z hz => ?_, fun w hw => ?_, fun w hw => ?_, ?_, ?_, ?_, ?_, ?_, ?_⟩
    · simpa [gI_sI] using h1 z hz
    · simpa [gI_sI] using h2 z hz
    · simpa [gI_sI] using h3 w hw
    · simpa [gJ_sI] using h4 w hw
    · simpa [gI_sI] using h5
    · simpa [gI_sI] using h6
    · simp [gI_sI]
    · exact Or.inl (by simp [gI_sI])
    · simp [gI_sI]
    · exact Or.inl (by simp [gI_sI])
theorem sim_clear {X Y : Mm} (h : Rheap X Y) : (f_X6_clear X).1 = (f_X7_clear Y).1 ∧ Rheap (f_X6_clear X).2 (f_X7_clear Y).2 := by
  obtain ⟨h1, h2, h3, h4, h5, h6, h7, h8⟩ := h
  have key := itr_rel (f := b_X2_empty_1) (g := b_X7_clear_1) (N := 10) (fun i z w => (∀ p, gI z 7 p = gI w 47 p) ∧ (∀ p, gI z 8 p = gI w 48 p) ∧ (∀ p, gI z 9 p = gI w 49 p) ∧ (∀ p, gI z 9 p = 0 ∨ gI z 9 p = 1) ∧ (∀ p, p < i → gI z 8 p = 0))
    (fun i z w hi hz => by
      obtain ⟨a1, a2, a3, a4, a5⟩ := hz
      refine ⟨fun p => ?_, fun p => ?_, fun p => ?_, fun p => ?_, fun p hp => ?_⟩
      · simp [b_X2_empty_1, b_X7_clear_1, gI_sI, a1]
      · simp [b_X2_empty_1, b_X7_clear_1, gI_sI, a2]
      · simp [b_X2_empty_1, b_X7_clear_1, gI_sI, a3]
      · by_cases e : p = i
        · exact Or.inl (by simp [b_X2_empty_1, gI_sI, e])
        · simp [b_X2_empty_1, gI_sI, e, a4]
      · by_cases e : p = i
        · simp [b_X2_empty_1, gI_sI, e]
        · simp [b_X2_empty_1, gI_sI, e, a5 p (by omega)])
    (z := X) (w := sI Y 44 5 (0 : Int32)) ⟨fun p => by simp [gI_sI, h1], fun p => by simp [gI_sI, h2], fun p => by simp [gI_sI, h3], h4, fun p hp => absurd hp (by omega)⟩ 10 (Nat.le_refl _)
  obtain ⟨a1, a2, a3, a4, a5⟩ := key
  have k10 : ∀ i, gI (itr b_X2_empty_1 10 X) 10 i = gI X 10 i := fun i => itr_keepI (fun i z => by simp [b_X2_empty_1, gI_sI]) 10 X
  have k46 : ∀ i, gI (itr b_X7_clear_1 10 (sI Y 44 5 (0 : Int32))) 46 i = gI Y 46 i := fun i => by
    rw [itr_keepI (fun i z => by simp [b_X7_clear_1, gI_sI])]
    simp [gI_sI]
  have k44 : gI (itr b_X7_clear_1 10 (sI Y 44 5 (0 : Int32))) 44 5 = 0 := by
    rw [itr_keepI (fun i z => by simp [b_X7_clear_1, gI_sI])]
    simp [gI_sI]
  rw [f_X6_clear, f_X2_empty, f_X7_clear]
  refine ⟨h5, fun p => ?_, fun p => ?_, fun p => ?_, fun p => ?_, ?_, ?_, fun i => ?_, fun p hp => ?_⟩
  · simp [gI_sI, a1]
  · simp [gI_sI, a2]
  · simp [gI_sI, a3]
  · simpa [gI_sI] using a4 p
  · simp [gI_sI, k44]
  · simp [gI_sI]
  · simp [gI_sI, k10, k46, h7]
  · simp [gI_sI, a5 p hp]
theorem sim_aim {X Y : Mm} (h : Rmix X Y) (x y : Int32) : (f_X6_aim X x y).1 = (f_X7_aim Y x y).1 ∧ Rmix (f_X6_aim X x y).2 (f_X7_aim Y x y).2 := by
  have h0 := h
  obtain ⟨h1, h2, h3, h4, h5, h6, h7, h8, h9, h10, h11⟩ := h
  rw [f_X6_aim, f_X7_aim, in_wi, in_wi]
  by_cases c : f_X6_within x 1 1000 = 0
  · rw [if_pos c, if_pos c]
    exact ⟨rfl, h0⟩
  · rw [if_neg c, if_neg c]
    by_cases c2 : f_X6_within y 1 1000 = 0
    · rw [if_pos c2, if_pos c2]
      exact ⟨rfl, h0⟩
    · rw [if_neg c2, if_neg c2]
      have n12 : ∀ s : Nat, ¬ 12 + s = 2 := fun s => by omega
      refine ⟨rfl, fun s k hs hk => ?_, fun s => ?_, fun s k hs hk => ?_, fun s hs => ?_, ?_, ?_, ?_, ?_, ?_, ?_, ?_⟩
      · simpa [f_X0_setAim, gI_sI, n12] using h1 s k hs hk
      · simpa [f_X0_setAim, gI_sI] using h2 s
      · simpa [f_X0_setAim, gI_sI, n12] using h3 s k hs hk
      · simpa [f_X0_setAim, gI_sI] using h4 s hs
      · simpa [f_X0_setAim, gI_sI] using h5
      · simp [f_X0_setAim, gI_sI]
      · simp [f_X0_setAim, gI_sI]
      · simpa [f_X0_setAim, gI_sI] using h8
      · simpa [f_X0_setAim, gI_sI] using h9
      · simpa [f_X0_setAim, gI_sI] using h10
      · simpa [f_X0_setAim, gI_sI] using h11
theorem rng_int {x l y : Int32} (h : ¬ f_X6_within x l y = 0) : l.toInt ≤ x.toInt ∧ x.toInt ≤ y.toInt := ⟨Int32.le_iff_toInt_le.mp (wi_rng h).1, Int32.le_iff_toInt_le.mp (wi_rng h).2⟩
theorem sim_rule {X Y : Mm} (h : Rmix X Y) (x y : Int32) : (f_X6_rule X x y).1 = (f_X7_rule Y x y).1 ∧ Rmix (f_X6_rule X x y).2 (f_X7_rule Y x y).2 := by
  have h0 := h
  obtain ⟨h1, h2, h3, h4, h5, h6, h7, h8, h9, h10, h11⟩ := h
  rw [f_X6_rule, f_X7_rule, in_wi, in_wi]
  by_cases c : f_X6_within x 0 5 = 0
  · rw [if_pos c, if_pos c]
    exact ⟨rfl, h0⟩
  · rw [if_neg c, if_neg c]
    by_cases c2 : f_X6_within y 0 100 = 0
    · rw [if_pos c2, if_pos c2]
      exact ⟨rfl, h0⟩
    · rw [if_neg c2, if_neg c2]
      have n12 : ∀ s : Nat, ¬ 12 + s = 2 := fun s => by omega
      have r1 := rng_int c
      have r2 := rng_int c2
      rw [show (0 : Int32).toInt = 0 by decide] at r1 r2
      rw [show (5 : Int32).toInt = 5 by decide] at r1
      rw [show (100 : Int32).toInt = 100 by decide] at r2
      refine ⟨rfl, fun s k hs hk => ?_, fun s => ?_, fun s k hs hk => ?_, fun s hs => ?_, ?_, ?_, ?_, ?_, ?_, ?_, ?_⟩
      · simpa [f_X0_setRule, gI_sI, n12] using h1 s k hs hk
      · simpa [f_X0_setRule, gI_sI] using h2 s
      · simpa [f_X0_setRule, gI_sI, n12] using h3 s k hs hk
      · simpa [f_X0_setRule, gI_sI] using h4 s hs
      · simpa [f_X0_setRule, gI_sI] using h5
      · simpa [f_X0_setRule, gI_sI] using h6
      · simpa [f_X0_setRule, gI_sI] using h7
      · simp [f_X0_setRule, gI_sI]
      · simp [f_X0_setRule, gI_sI]
      · simpa [f_X0_setRule, gI_sI] using r1
      · simpa [f_X0_setRule, gI_sI] using r2
