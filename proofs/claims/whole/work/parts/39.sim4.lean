/-! prices and days -/
theorem plan_found {X Y : Mm} (h : Rplan X Y) (f : Int32) : Rplan (f_X1_answer X f).2 (f_X7_meets Y f).2 := by
  obtain ⟨h1, h2, h3, h4, h5, h6, h7⟩ := h
  have n34 : ∀ q : Nat, ¬ 34 + q = 6 := fun q => by omega
  have n43 : ∀ q : Nat, q < 7 → ¬ 34 + q = 43 := fun q hq => by omega
  refine ⟨fun q => ?_, fun q => ?_, fun q u hq hu => ?_, fun q u hq hu => ?_, fun u => ?_, fun u hu => ?_, ?_⟩
  · simpa [f_X1_answer, f_X7_meets, gI_sI] using h1 q
  · simpa [f_X1_answer, gI_sI] using h2 q
  · simpa [f_X1_answer, f_X7_meets, gI_sI, n34 q, n43 q hq] using h3 q u hq hu
  · simpa [f_X1_answer, gI_sI, n34 q, n43 q hq] using h4 q u hq hu
  · simpa [f_X1_answer, f_X7_meets, gI_sI] using h5 u
  · simpa [f_X1_answer, gI_sI] using h6 u hu
  · show gI (f_X1_answer X f).2 5 4 = f_X7_counts (f_X7_meets Y f).2 3
    rw [counts3_congr (Y := Y) (fun q => by simp [f_X7_meets, gI_sI]), ← h7]
    simp [f_X1_answer, gI_sI]
theorem sim_price {X Y : Mm} (h : Rplan X Y) (hf : Rfound X Y) (d t v : Int32) : (f_X6_price X d t v).1 = (f_X7_price Y d t v).1 ∧ Rplan (f_X6_price X d t v).2 (f_X7_price Y d t v).2 ∧ Rfound (f_X6_price X d t v).2 (f_X7_price Y d t v).2 := by
  have h0 := h
  obtain ⟨h1, h2, h3, h4, h5, h6, h7⟩ := h
  rw [f_X6_price, f_X7_price, ad_wi, in_wi, in_wi]
  by_cases c : f_X6_within d 0 6 = 0
  · rw [if_pos c, if_pos c]
    exact ⟨rfl, h0, hf⟩
  rw [if_neg c, if_neg c]
  by_cases cv : f_X6_within v 0 1000 = 0
  · rw [if_pos cv, if_pos cv]
    exact ⟨rfl, h0, hf⟩
  rw [if_neg cv, if_neg cv]
  have e1 : f_X4_has X d = gI Y 67 d.toNatClampNeg := h1 _
  rw [e1]
  by_cases c2 : gI Y 67 d.toNatClampNeg = 0
  · rw [if_pos c2, if_pos c2]
    exact ⟨(sim_ans hf 1).1, plan_found h0 1, (sim_ans hf 1).2⟩
  rw [if_neg c2, if_neg c2]
  by_cases ch : f_X6_within t 0 23 = 0
  · rw [if_pos ch, if_pos ch]
    exact ⟨(sim_ans hf 2).1, plan_found h0 2, (sim_ans hf 2).2⟩
  rw [if_neg ch, if_neg ch]
  have hd : d.toNatClampNeg < 7 := wi_lt c (by decide)
  have ht : t.toNatClampNeg < 24 := wi_lt ch (by decide)
  have rv := rng_int cv
  rw [show (0 : Int32).toInt = 0 by decide, show (1000 : Int32).toInt = 1000 by decide] at rv
  rw [f_X4_set]
  generalize d.toNatClampNeg = q0 at hd ⊢
  generalize t.toNatClampNeg = u0 at ht ⊢
  have n32 : ¬ 32 = 34 + q0 := by omega
  have n41 : ¬ 41 = 34 + q0 := by omega
  have n5 : ¬ 5 = 34 + q0 := by omega
  have n6 : ¬ 6 = 34 + q0 := by omega
  have n43 : ¬ 43 = 34 + q0 := by omega
  refine ⟨h3 _ _ hd ht, ⟨fun q => ?_, fun q => ?_, fun q u hq hu => ?_, fun q u hq hu => ?_, fun u => ?_, fun u hu => ?_, ?_⟩, ?_, fun u => ?_⟩
  · simpa [gI_sI, n32] using h1 q
  · simpa [gI_sI, n32] using h2 q
  · by_cases e : q = q0 ∧ u = u0
    · simp [gI_sI, e.1, e.2]
    · have e3 : ¬ (34 + q = 34 + q0 ∧ u = u0) := fun z => e ⟨by omega, z.2⟩
      have e4 : ¬ (24 * q + u = 24 * q0 + u0) := fun z => e (by omega)
      show gI (sI X (34 + q0) u0 v) (34 + q) u = gI (sI Y 68 (24 * q0 + u0) v) 68 (24 * q + u)
      rw [gI_sI, gI_sI, if_neg e3, if_neg (fun z => e4 z.2)]
      exact h3 q u hq hu
  · by_cases e : q = q0 ∧ u = u0
    · simpa [gI_sI, e.1, e.2] using rv
    · have e3 : ¬ (34 + q = 34 + q0 ∧ u = u0) := fun z => e ⟨by omega, z.2⟩
      show 0 ≤ (gI (sI X (34 + q0) u0 v) (34 + q) u).toInt ∧ (gI (sI X (34 + q0) u0 v) (34 + q) u).toInt ≤ 1000
      rw [gI_sI, if_neg e3]
      exact h4 q u hq hu
  · simpa [gI_sI, n41] using h5 u
  · simpa [gI_sI, n41] using h6 u hu
  · show gI (sI X (34 + q0) u0 v) 5 4 = f_X7_counts (sI Y 68 (24 * q0 + u0) v) 3
    rw [counts3_congr (Y := Y) (fun q => by simp [gI_sI]), ← h7, gI_sI, if_neg (fun z => n5 z.1)]
  · simpa [gI_sI, n6] using hf.1
  · simpa [gI_sI, n43] using hf.2 u
theorem day7_at (d : Int32) (Z : Mm) (q u : Nat) (hu : u < 24) : ∀ n, n ≤ 24 → gI (itr (b_X7_day_1 d) n Z) 68 (24 * q + u) = if q = d.toNatClampNeg ∧ u < n then 0 else gI Z 68 (24 * q + u) := by
  intro n
  induction n with
  | zero => intro _; rw [itr_0, if_neg (fun z => absurd z.2 (by omega))]
  | succ n ih =>
    intro hn
    rw [itr_s, b_X7_day_1, gI_sI, ih (by omega)]
    by_cases e : 24 * q + u = 24 * d.toNatClampNeg + n
    · rw [if_pos ⟨rfl, e⟩, if_pos ⟨by omega, by omega⟩]
    · rw [if_neg (fun z => e z.2)]
      by_cases e2 : q = d.toNatClampNeg ∧ u < n
      · rw [if_pos e2, if_pos ⟨e2.1, by omega⟩]
      · rw [if_neg e2, if_neg (fun z => e2 ⟨z.1, by have := z.2; have := z.1; omega⟩)]
theorem sim_day {X Y : Mm} (h : Rplan X Y) (d : Int32) : (f_X6_day X d).1 = (f_X7_day Y d).1 ∧ Rplan (f_X6_day X d).2 (f_X7_day Y d).2 := by
  have h0 := h
  obtain ⟨h1, h2, h3, h4, h5, h6, h7⟩ := h
  rw [f_X6_day, f_X7_day, ad_wi]
  by_cases c : f_X6_within d 0 6 = 0
  · rw [if_pos c, if_pos c]
    exact ⟨rfl, h0⟩
  rw [if_neg c, if_neg c]
  have hd : d.toNatClampNeg < 7 := wi_lt c (by decide)
  -- the class's memory
  have fX : ∀ k j, ¬ (k = 5 ∧ j = 4) → gI (f_X4_layRow X d).2 k j = gI (sI (f_J7_fill_53178 X (34 + d.toNatClampNeg) 24 (0 : Int32)) 32 d.toNatClampNeg (1 : Int32)) k j := by
    intro k j hk
    show gI (m_X4_layRow_1 X d) k j = _
    rw [m_X4_layRow_1]
    refine gI_iteK ?_ rfl
    rw [gI_off k j hk]
  have k67 : ∀ q, gI (itr (b_X7_day_1 d) 24 (sI Y 67 d.toNatClampNeg (1 : Int32))) 67 q = gI (sI Y 67 d.toNatClampNeg (1 : Int32)) 67 q := fun q => itr_keepI (fun i z => by simp [b_X7_day_1, gI_sI]) 24 _
  have k69 : ∀ q, gI (itr (b_X7_day_1 d) 24 (sI Y 67 d.toNatClampNeg (1 : Int32))) 69 q = gI Y 69 q := fun q => by
    rw [itr_keepI (fun i z => by simp [b_X7_day_1, gI_sI])]
    simp [gI_sI]
  have row : ∀ q u, q < 7 → u < 24 → gI (f_X4_layRow X d).2 (34 + q) u = if q = d.toNatClampNeg then 0 else gI X (34 + q) u := by
    intro q u hq hu
    rw [fX _ _ (by omega), gI_sI, if_neg (by omega)]
    by_cases e : q = d.toNatClampNeg
    · rw [if_pos e, e, fillI_at, if_pos hu]
    · rw [if_neg e, fr_fillI _ _ _ _ _ _ (by omega)]
  refine ⟨?_, fun q => ?_, fun q => ?_, fun q u hq hu => ?_, fun q u hq hu => ?_, fun u => ?_, fun u hu => ?_, ?_⟩
  · show (if gI X 32 d.toNatClampNeg = 0 then (0 : Int32) else 1) = _
    rw [h1]
  · show gI (f_X4_layRow X d).2 32 q = gI (itr (b_X7_day_1 d) 24 (sI Y 67 d.toNatClampNeg (1 : Int32))) 67 q
    rw [fX _ _ (by omega), k67, gI_sI, gI_sI, fr_fillI _ _ _ _ _ _ (by omega), h1]
    simp
  · show gI (f_X4_layRow X d).2 32 q = 0 ∨ gI (f_X4_layRow X d).2 32 q = 1
    rw [fX _ _ (by omega), gI_sI, fr_fillI _ _ _ _ _ _ (by omega)]
    by_cases e : q = d.toNatClampNeg
    · rw [if_pos ⟨rfl, e⟩]
      exact Or.inr rfl
    · rw [if_neg (fun z => e z.2)]
      exact h2 q
  · show gI (f_X4_layRow X d).2 (34 + q) u = gI (itr (b_X7_day_1 d) 24 (sI Y 67 d.toNatClampNeg (1 : Int32))) 68 (24 * q + u)
    rw [row q u hq hu, day7_at d _ q u hu 24 (Nat.le_refl _)]
    by_cases e : q = d.toNatClampNeg
    · rw [if_pos e, if_pos ⟨e, hu⟩]
    · rw [if_neg e, if_neg (fun z => e z.1), gI_sI, if_neg (by omega), h3 q u hq hu]
  · show 0 ≤ (gI (f_X4_layRow X d).2 (34 + q) u).toInt ∧ (gI (f_X4_layRow X d).2 (34 + q) u).toInt ≤ 1000
    rw [row q u hq hu]
    by_cases e : q = d.toNatClampNeg
    · rw [if_pos e]
      decide
    · rw [if_neg e]
      exact h4 q u hq hu
  · show gI (f_X4_layRow X d).2 41 u = gI (itr (b_X7_day_1 d) 24 (sI Y 67 d.toNatClampNeg (1 : Int32))) 69 u
    rw [fX _ _ (by omega), k69, gI_sI, if_neg (by omega), fr_fillI _ _ _ _ _ _ (by omega), h5]
  · show 0 ≤ (gI (f_X4_layRow X d).2 41 u).toInt ∧ (gI (f_X4_layRow X d).2 41 u).toInt ≤ 10000
    rw [fX _ _ (by omega), gI_sI, if_neg (by omega), fr_fillI _ _ _ _ _ _ (by omega)]
    exact h6 u hu
  · show gI (m_X4_layRow_1 X d) 5 4 = f_X7_counts (itr (b_X7_day_1 d) 24 (sI Y 67 d.toNatClampNeg (1 : Int32))) 3
    rw [counts3_congr (Y := sI Y 67 d.toNatClampNeg (1 : Int32)) k67, m_X4_layRow_1]
    by_cases e : gI X 32 d.toNatClampNeg = 0
    · rw [if_pos e, gI_sI, if_pos ⟨rfl, rfl⟩, gI_sI, if_neg (by omega), fr_fillI _ _ _ _ _ _ (by omega), h7]
      rw [h1] at e
      rw [counts3, counts3, sum_upd (g := fun i => if gI Y 67 i = 0 then (0 : Int32) else (1 : Int32)) (g2 := fun i => if gI (sI Y 67 d.toNatClampNeg (1 : Int32)) 67 i = 0 then (0 : Int32) else (1 : Int32)) (d := d.toNatClampNeg) (e := 1) (fun i hi => by simp [gI_sI, hi]) (by simp [gI_sI, e]) 7, if_pos hd]
    · rw [if_neg e, gI_sI, if_neg (by omega), fr_fillI _ _ _ _ _ _ (by omega), h7]
      rw [h1] at e
      rw [counts3, counts3, sum_upd (g := fun i => if gI Y 67 i = 0 then (0 : Int32) else (1 : Int32)) (g2 := fun i => if gI (sI Y 67 d.toNatClampNeg (1 : Int32)) 67 i = 0 then (0 : Int32) else (1 : Int32)) (d := d.toNatClampNeg) (e := 0) (fun i hi => by simp [gI_sI, hi]) (by simp [gI_sI, e]) 7]
      simp
