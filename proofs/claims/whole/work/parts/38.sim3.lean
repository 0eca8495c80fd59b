/-! stocks, days, counts -/
theorem sum_upd {g g2 : Nat → Int32} {d : Nat} {e : Int32} (h1 : ∀ i, i ≠ d → g2 i = g i) (h2 : g2 d = g d + e) : ∀ n : Nat, itr (fun i (z : Int32) => z + g2 i) n 0 = itr (fun i (z : Int32) => z + g i) n 0 + (if d < n then e else 0)
  | 0 => by rw [itr_0, itr_0]; simp
  | n + 1 => by
    rw [itr_s, itr_s, sum_upd h1 h2 n]
    by_cases hd : n = d
    · subst hd
      rw [if_neg (by omega), if_pos (by omega), h2, Int32.add_zero, Int32.add_assoc]
    · rw [h1 n hd]
      by_cases hl : d < n
      · rw [if_pos hl, if_pos (by omega), Int32.add_assoc, Int32.add_comm e, ← Int32.add_assoc]
      · rw [if_neg hl, if_neg (by omega), Int32.add_zero, Int32.add_zero]
theorem counts3 (Y : Mm) : f_X7_counts Y (3 : Int32) = itr (fun i (z : Int32) => z + (if gI Y 67 i = 0 then (0 : Int32) else (1 : Int32))) 7 0 := by
  rw [f_X7_counts, if_neg (by decide), if_neg (by decide), if_neg (by decide), if_pos rfl]
  rfl
theorem counts3_congr {Y Y2 : Mm} (h : ∀ d, gI Y2 67 d = gI Y 67 d) : f_X7_counts Y2 (3 : Int32) = f_X7_counts Y (3 : Int32) := by
  rw [counts3, counts3]
  simp only [h]
theorem sim_count {X Y : Mm} (hh : Rheap X Y) (hm : Rhour X Y) (hk : Rkiln X Y) (hp : Rplan X Y) (w : Int32) : f_X6_count X w = f_X7_count Y w := by
  rw [f_X6_count, f_X7_count, in_wi]
  have e0 : f_X2_strokes X = gI Y 44 5 := hh.2.2.2.2.1
  have e1 : f_X0_hours X = gI Y 44 16 := hm.1
  have e2 : f_X3_steps X = gI Y 44 22 := hk.2.2.2.2.1
  have e3 : f_X4_rows X = f_X7_counts Y 3 := hp.2.2.2.2.2.2
  have e4 : f_X3_isStopped X = gI Y 44 23 := hk.2.2.2.2.2.2.2.2.1
  rw [e0, e1, e2, e3, e4]
  by_cases c0 : w = 0
  · subst c0
    rw [if_pos rfl, if_neg (by decide), f_X7_counts, if_pos rfl]
  rw [if_neg c0]
  by_cases c1 : w = 1
  · subst c1
    rw [if_pos rfl, if_neg (by decide), f_X7_counts, if_neg (by decide), if_pos rfl]
  rw [if_neg c1]
  by_cases c2 : w = 2
  · subst c2
    rw [if_pos rfl, if_neg (by decide), f_X7_counts, if_neg (by decide), if_neg (by decide), if_pos rfl]
  rw [if_neg c2]
  by_cases c3 : w = 3
  · subst c3
    rw [if_pos rfl, if_neg (by decide)]
  rw [if_neg c3]
  by_cases c4 : w = 4
  · subst c4
    have e5 : f_X7_counts Y 4 = if gI Y 44 23 = 0 then (0 : Int32) else (1 : Int32) := by
      rw [f_X7_counts, if_neg (by decide : ¬ (4 : Int32) = 0), if_neg (by decide : ¬ (4 : Int32) = 1), if_neg (by decide : ¬ (4 : Int32) = 2), if_neg (by decide : ¬ (4 : Int32) = 3)]
    rw [if_pos rfl, if_neg (by decide : ¬ f_X6_within 4 0 4 = 0), e5]
  rw [if_neg c4]
  have e : f_X6_within w 0 4 = 0 := by
    by_cases c : f_X6_within w 0 4 = 0
    · exact c
    · have r := rng_int c
      rw [show (0 : Int32).toInt = 0 by decide, show (4 : Int32).toInt = 4 by decide] at r
      rcases ts_out5 c0 c1 c2 c3 c4 with q | q <;> omega
  rw [if_pos e]
theorem sim_stock {X Y : Mm} (h : Rmix X Y) (s x y z : Int32) : (f_X6_stock X s x y z).1 = (f_X7_stock Y s x y z).1 ∧ Rmix (f_X6_stock X s x y z).2 (f_X7_stock Y s x y z).2 := by
  have h0 := h
  obtain ⟨h1, h2, h3, h4, h5, h6, h7, h8, h9, h10, h11⟩ := h
  rw [f_X6_stock, f_X7_stock, ap_fw, in_wi]
  by_cases c0 : f_X6_within s 0 3 = 0
  · rw [if_pos c0, if_pos c0]
    exact ⟨rfl, h0⟩
  rw [if_neg c0, if_neg c0]
  by_cases c : f_X6_fitWhole x y z = 0
  · rw [if_pos c, if_pos c]
    exact ⟨rfl, h0⟩
  rw [if_neg c, if_neg c]
  obtain ⟨r1, r2, r3, r4⟩ := fw_rng c
  have r5 := rest_int c
  have hs : s.toNatClampNeg < 4 := wi_lt c0 (by decide)
  rw [f_X0_setParts, m_X7_stock_1]
  generalize s.toNatClampNeg = t at hs ⊢
  have eX : ∀ u k, u < 4 → k < 4 → gI (sI (sI (sI (sI X (12 + t) 0 x) (12 + t) 1 y) (12 + t) 2 z) (12 + t) 3 (((1000 : Int32) - x) - y - z)) (12 + u) k = if u = t then (if k = 0 then x else if k = 1 then y else if k = 2 then z else ((1000 : Int32) - x) - y - z) else gI X (12 + u) k := by
    intro u k hu hk
    by_cases e : u = t
    · subst e
      rcases (show k = 0 ∨ k = 1 ∨ k = 2 ∨ k = 3 by omega) with q | q | q | q <;> subst q <;> simp [gI_sI]
    · have n : ¬ 12 + u = 12 + t := by omega
      simp [gI_sI, n, e]
  have eY : ∀ u k, u < 4 → k < 4 → gI (sI (sI (sI (sI Y 50 (4 * t) x) 50 (4 * t + 1) y) 50 (4 * t + 2) z) 50 (4 * t + 3) (((1000 : Int32) - x) - y - z)) 50 (4 * u + k) = if u = t then (if k = 0 then x else if k = 1 then y else if k = 2 then z else ((1000 : Int32) - x) - y - z) else gI Y 50 (4 * u + k) := by
    intro u k hu hk
    by_cases e : u = t
    · subst e
      rcases (show k = 0 ∨ k = 1 ∨ k = 2 ∨ k = 3 by omega) with q | q | q | q <;> subst q <;> simp [gI_sI]
    · have n0 : ¬ 4 * u + k = 4 * t := by omega
      have n1 : ¬ 4 * u + k = 4 * t + 1 := by omega
      have n2 : ¬ 4 * u + k = 4 * t + 2 := by omega
      have n3 : ¬ 4 * u + k = 4 * t + 3 := by omega
      simp [gI_sI, n0, n1, n2, n3, e]
  have n2 : ¬ 2 = 12 + t := by omega
  have n16 : ¬ 16 = 12 + t := by omega
  refine ⟨rfl, fun u k hu hk => ?_, fun u => ?_, fun u k hu hk => ?_, fun u hu => ?_, ?_, ?_, ?_, ?_, ?_, ?_, ?_⟩
  · show gI (sI (sI (sI (sI X (12 + t) 0 x) (12 + t) 1 y) (12 + t) 2 z) (12 + t) 3 (((1000 : Int32) - x) - y - z)) (12 + u) k = _
    rw [eX u k hu hk]
    refine Eq.trans ?_ (eY u k hu hk).symm
    by_cases e : u = t
    · rw [if_pos e, if_pos e]
    · rw [if_neg e, if_neg e, h1 u k hu hk]
  · simpa [gI_sI, n16] using h2 u
  · show 0 ≤ (gI (sI (sI (sI (sI X (12 + t) 0 x) (12 + t) 1 y) (12 + t) 2 z) (12 + t) 3 (((1000 : Int32) - x) - y - z)) (12 + u) k).toInt ∧ (gI (sI (sI (sI (sI X (12 + t) 0 x) (12 + t) 1 y) (12 + t) 2 z) (12 + t) 3 (((1000 : Int32) - x) - y - z)) (12 + u) k).toInt ≤ 1000
    rw [eX u k hu hk]
    by_cases e : u = t
    · rw [if_pos e]
      by_cases k0 : k = 0
      · rw [if_pos k0]; exact r1
      rw [if_neg k0]
      by_cases k1 : k = 1
      · rw [if_pos k1]; exact r2
      rw [if_neg k1]
      by_cases k2 : k = 2
      · rw [if_pos k2]; exact r3
      rw [if_neg k2, r5]
      omega
    · rw [if_neg e]
      exact h3 u k hu hk
  · simpa [gI_sI, n16] using h4 u hu
  · simpa [gI_sI, n16] using h5
  · simpa [gI_sI, n2] using h6
  · simpa [gI_sI, n2] using h7
  · simpa [gI_sI, n2] using h8
  · simpa [gI_sI, n2] using h9
  · simpa [gI_sI, n2] using h10
  · simpa [gI_sI, n2] using h11
/-- Rplan but for the days that are there -/
theorem sim_tear {X Y : Mm} (h : Rplan X Y) (hf : Rfound X Y) (d : Int32) : (f_X6_tear X d).1 = (f_X7_tear Y d).1 ∧ Rplan (f_X6_tear X d).2 (f_X7_tear Y d).2 ∧ Rfound (f_X6_tear X d).2 (f_X7_tear Y d).2 := by
  have h0 := h
  obtain ⟨h1, h2, h3, h4, h5, h6, h7⟩ := h
  rw [f_X6_tear, f_X7_tear, ad_wi]
  by_cases c : f_X6_within d 0 6 = 0
  · rw [if_pos c, if_pos c]
    exact ⟨rfl, h0, hf⟩
  rw [if_neg c, if_neg c]
  have e1 : f_X4_has X d = gI Y 67 d.toNatClampNeg := h1 _
  rw [e1]
  have n34 : ∀ q : Nat, ¬ 34 + q = 6 ∧ ¬ 34 + q = 32 ∧ ¬ 34 + q = 5 := fun q => by omega
  have n43 : ∀ q : Nat, q < 7 → ¬ 34 + q = 43 := fun q hq => by omega
  by_cases c2 : gI Y 67 d.toNatClampNeg = 0
  · rw [if_pos c2, if_pos c2]
    obtain ⟨a1, a2⟩ := sim_ans hf 1
    refine ⟨a1, ⟨fun q => ?_, fun q => ?_, fun q u hq hu => ?_, fun q u hq hu => ?_, fun u => ?_, fun u hu => ?_, ?_⟩, a2⟩
    · simpa [f_X1_answer, f_X7_meets, gI_sI] using h1 q
    · simpa [f_X1_answer, gI_sI] using h2 q
    · simpa [f_X1_answer, f_X7_meets, gI_sI, n34 q, n43 q hq] using h3 q u hq hu
    · simpa [f_X1_answer, gI_sI, n34 q, n43 q hq] using h4 q u hq hu
    · simpa [f_X1_answer, f_X7_meets, gI_sI] using h5 u
    · simpa [f_X1_answer, gI_sI] using h6 u hu
    · show gI (f_X1_answer X 1).2 5 4 = f_X7_counts (f_X7_meets Y 1).2 3
      rw [counts3_congr (Y := Y) (fun q => by simp [f_X7_meets, gI_sI]), ← h7]
      simp [f_X1_answer, gI_sI]
  · rw [if_neg c2, if_neg c2]
    have hd : d.toNatClampNeg < 7 := wi_lt c (by decide)
    refine ⟨rfl, ⟨fun q => ?_, fun q => ?_, fun q u hq hu => ?_, fun q u hq hu => ?_, fun u => ?_, fun u hu => ?_, ?_⟩, ?_, fun u => ?_⟩
    · simp [f_X4_drop, gI_sI, h1]
    · by_cases e : q = d.toNatClampNeg
      · exact Or.inl (by simp [f_X4_drop, gI_sI, e])
      · simpa [f_X4_drop, gI_sI, e] using h2 q
    · simpa [f_X4_drop, gI_sI, n34 q] using h3 q u hq hu
    · simpa [f_X4_drop, gI_sI, n34 q] using h4 q u hq hu
    · simpa [f_X4_drop, gI_sI] using h5 u
    · simpa [f_X4_drop, gI_sI] using h6 u hu
    · show gI (f_X4_drop X d) 5 4 = f_X7_counts (sI Y 67 d.toNatClampNeg (0 : Int32)) 3
      have q1 : gI (f_X4_drop X d) 5 4 = gI X 5 4 - 1 := by simp [f_X4_drop, gI_sI]
      rw [q1, h7, counts3, counts3, sum_upd (g := fun i => if gI Y 67 i = 0 then (0 : Int32) else (1 : Int32)) (g2 := fun i => if gI (sI Y 67 d.toNatClampNeg (0 : Int32)) 67 i = 0 then (0 : Int32) else (1 : Int32)) (d := d.toNatClampNeg) (e := -1) (fun i hi => by simp [gI_sI, hi]) (by simp [gI_sI, c2]) 7, if_pos hd, Int32.sub_eq_add_neg]
    · simpa [f_X4_drop, gI_sI] using hf.1
    · simpa [f_X4_drop, gI_sI] using hf.2 u
