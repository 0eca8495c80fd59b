theorem sim_copy {X Y : Mm} (h : Rplan X Y) (hf : Rfound X Y) (d i e j n : Int32) : (f_X6_copy X d i e j n).1 = (f_X7_copy Y d i e j n).1 ∧ Rplan (f_X6_copy X d i e j n).2 (f_X7_copy Y d i e j n).2 ∧ Rfound (f_X6_copy X d i e j n).2 (f_X7_copy Y d i e j n).2 := by
  have h0 := h
  obtain ⟨h1, h2, h3, h4, h5, h6, h7⟩ := h
  rw [f_X6_copy, copyM]
  have ed : f_X4_has X d = gI Y 67 d.toNatClampNeg := h1 _
  have ee : f_X4_has X e = gI Y 67 e.toNatClampNeg := h1 _
  rw [ed, ee]
  by_cases c1 : f_X6_within d 0 6 = 0
  · rw [if_pos c1, if_pos c1]
    exact ⟨rfl, h0, hf⟩
  rw [if_neg c1, if_neg c1]
  by_cases c2 : f_X6_within e 0 6 = 0
  · rw [if_pos c2, if_pos c2]
    exact ⟨rfl, h0, hf⟩
  rw [if_neg c2, if_neg c2]
  by_cases c3 : 0 ≤ n
  · rw [if_pos c3, if_pos c3]
    by_cases c4 : gI Y 67 d.toNatClampNeg = 0
    · rw [if_pos c4, if_pos c4]
      exact ⟨(sim_ans hf 1).1, plan_found h0 1, (sim_ans hf 1).2⟩
    rw [if_neg c4, if_neg c4]
    by_cases c5 : gI Y 67 e.toNatClampNeg = 0
    · rw [if_pos c5, if_pos c5]
      exact ⟨(sim_ans hf 1).1, plan_found h0 1, (sim_ans hf 1).2⟩
    rw [if_neg c5, if_neg c5]
    by_cases c6 : f_X6_hasHours i n = 0
    · rw [if_pos c6, if_pos ((mby_iff c3).mpr (Or.inl c6))]
      exact ⟨(sim_ans hf 2).1, plan_found h0 2, (sim_ans hf 2).2⟩
    rw [if_neg c6]
    by_cases c7 : f_X6_hasHours j n = 0
    · rw [if_pos c7, if_pos ((mby_iff c3).mpr (Or.inr c7))]
      exact ⟨(sim_ans hf 2).1, plan_found h0 2, (sim_ans hf 2).2⟩
    rw [if_neg c7, if_neg (fun q => ((mby_iff c3).mp q).elim c6 c7)]
    have hd : d.toNatClampNeg < 7 := wi_lt c1 (by decide)
    have he : e.toNatClampNeg < 7 := wi_lt c2 (by decide)
    have ri := (hh_rng c6 (Int32.not_lt.mpr c3)).2
    have rj := (hh_rng c7 (Int32.not_lt.mpr c3)).2
    have k67 : ∀ q, gI (itr (b_X7_copy_2 e j) n.toNatClampNeg (itr (b_X7_copy_1 d i) n.toNatClampNeg Y)) 67 q = gI Y 67 q := fun q => by
      rw [itr_keepI (fun i z => by simp [b_X7_copy_2, gI_sI]), itr_keepI (fun i z => by simp [b_X7_copy_1, gI_sI])]
    have k69 : ∀ q, gI (itr (b_X7_copy_2 e j) n.toNatClampNeg (itr (b_X7_copy_1 d i) n.toNatClampNeg Y)) 69 q = gI Y 69 q := fun q => by
      rw [itr_keepI (fun i z => by simp [b_X7_copy_2, gI_sI]), itr_keepI (fun i z => by simp [b_X7_copy_1, gI_sI])]
    have k44 : gI (itr (b_X7_copy_2 e j) n.toNatClampNeg (itr (b_X7_copy_1 d i) n.toNatClampNeg Y)) 44 0 = gI Y 44 0 := by
      rw [itr_keepI (fun i z => by simp [b_X7_copy_2, gI_sI]), itr_keepI (fun i z => by simp [b_X7_copy_1, gI_sI])]
    have k45 : ∀ q, gI (itr (b_X7_copy_2 e j) n.toNatClampNeg (itr (b_X7_copy_1 d i) n.toNatClampNeg Y)) 45 q = gI Y 45 q := fun q => by
      rw [itr_keepI (fun i z => by simp [b_X7_copy_2, gI_sI]), itr_keepI (fun i z => by simp [b_X7_copy_1, gI_sI])]
    have k68 : ∀ q, gI (itr (b_X7_copy_1 d i) n.toNatClampNeg Y) 68 q = gI Y 68 q := fun q => itr_keepI (fun i z => by simp [b_X7_copy_1, gI_sI]) _ Y
    have mX : ∀ q u, gI (f_X4_move X d i e j n) (34 + q) u = if q = e.toNatClampNeg then (if j.toNatClampNeg ≤ u ∧ u < j.toNatClampNeg + n.toNatClampNeg then gI X (34 + d.toNatClampNeg) (i.toNatClampNeg + (u - j.toNatClampNeg)) else gI X (34 + q) u) else gI X (34 + q) u := by
      intro q u
      rw [f_X4_move, gI_sA]
      by_cases qe : q = e.toNatClampNeg
      · rw [if_pos (by omega), if_pos qe, va_cpy, qe]
      · rw [if_neg (by omega), if_neg qe]
    have mo : ∀ k q, (k < 34 ∨ 40 < k) → gI (f_X4_move X d i e j n) k q = gI X k q := by
      intro k q hk
      rw [f_X4_move, gI_sA, if_neg (by omega)]
    refine ⟨rfl, ⟨fun q => ?_, fun q => ?_, fun q u hq hu => ?_, fun q u hq hu => ?_, fun u => ?_, fun u hu => ?_, ?_⟩, ?_, fun u => ?_⟩
    · show gI (f_X4_move X d i e j n) 32 q = _
      rw [mo 32 q (by omega)]
      exact (h1 q).trans (k67 q).symm
    · show gI (f_X4_move X d i e j n) 32 q = 0 ∨ gI (f_X4_move X d i e j n) 32 q = 1
      rw [mo 32 q (by omega)]
      exact h2 q
    · show gI (f_X4_move X d i e j n) (34 + q) u = gI (itr (b_X7_copy_2 e j) n.toNatClampNeg (itr (b_X7_copy_1 d i) n.toNatClampNeg Y)) 68 (24 * q + u)
      rw [mX, cp2_at, k68]
      by_cases qe : q = e.toNatClampNeg
      · rw [if_pos qe]
        by_cases r : j.toNatClampNeg ≤ u ∧ u < j.toNatClampNeg + n.toNatClampNeg
        · rw [if_pos r, if_pos (by omega), cp1_at, if_pos (by omega), h3 _ _ hd (by omega)]
          congr 1
          omega
        · rw [if_neg r, if_neg (by omega), h3 q u hq hu]
      · rw [if_neg qe, if_neg (by omega), h3 q u hq hu]
    · show 0 ≤ (gI (f_X4_move X d i e j n) (34 + q) u).toInt ∧ (gI (f_X4_move X d i e j n) (34 + q) u).toInt ≤ 1000
      rw [mX]
      by_cases qe : q = e.toNatClampNeg
      · rw [if_pos qe]
        by_cases r : j.toNatClampNeg ≤ u ∧ u < j.toNatClampNeg + n.toNatClampNeg
        · rw [if_pos r]
          exact h4 _ _ hd (by omega)
        · rw [if_neg r]
          exact h4 q u hq hu
      · rw [if_neg qe]
        exact h4 q u hq hu
    · show gI (f_X4_move X d i e j n) 41 u = _
      rw [mo 41 u (by omega)]
      exact (h5 u).trans (k69 u).symm
    · show 0 ≤ (gI (f_X4_move X d i e j n) 41 u).toInt ∧ (gI (f_X4_move X d i e j n) 41 u).toInt ≤ 10000
      rw [mo 41 u (by omega)]
      exact h6 u hu
    · show gI (f_X4_move X d i e j n) 5 4 = f_X7_counts (itr (b_X7_copy_2 e j) n.toNatClampNeg (itr (b_X7_copy_1 d i) n.toNatClampNeg Y)) 3
      rw [mo 5 4 (by omega), counts3_congr (Y := Y) k67]
      exact h7
    · show gI (f_X4_move X d i e j n) 6 1 = _
      rw [mo 6 1 (by omega)]
      exact hf.1.trans k44.symm
    · show gI (f_X4_move X d i e j n) 43 u = _
      rw [mo 43 u (by omega)]
      exact (hf.2 u).trans (k45 u).symm
  · rw [if_neg c3, if_neg c3]
    exact ⟨(sim_ans hf 5).1, plan_found h0 5, (sim_ans hf 5).2⟩
