theorem sim_warmth {X Y : Mm} (h : Rkiln X Y) (hf : Rfound X Y) (z k : Int32) : (f_X6_warmth X z k).1 = (f_X7_warmth Y z k).1 ∧ Rfound (f_X6_warmth X z k).2 (f_X7_warmth Y z k).2 := by
  obtain ⟨h1, h2, -⟩ := h
  rw [f_X6_warmth, f_X7_warmth, in_wi, in_wi]
  by_cases c : f_X6_within z 0 3 = 0
  · rw [if_pos c, if_pos c]
    exact ⟨rfl, hf⟩
  rw [if_neg c, if_neg c]
  by_cases c2 : f_X6_within k 0 2 = 0
  · rw [if_pos c2, if_pos c2]
    exact ⟨rfl, hf⟩
  rw [if_neg c2, if_neg c2, kinds_eq (wi_in c (by decide))]
  have e1 : f_X3_stuffIn X z = gI Y 56 z.toNatClampNeg := h1 _ (wi_lt c (by decide))
  have e2 : f_X3_heatIn X z = gI Y 57 z.toNatClampNeg := h2 _ (wi_lt c (by decide))
  rw [e1, e2]
  by_cases k0 : k = 0
  · rw [if_pos k0, if_pos k0]
    by_cases s0 : gI Y 56 z.toNatClampNeg = 0
    · simp only [if_pos s0]
      exact sim_ans hf 4
    · simp only [if_neg s0]
      exact ⟨trivial, hf⟩
  · rw [if_neg k0, if_neg k0]
    by_cases kk : k = f_X7_kindOf z
    · rw [if_pos kk, if_pos kk]
      by_cases s0 : gI Y 56 z.toNatClampNeg = 0
      · simp only [if_pos s0]
        exact sim_ans hf 4
      · simp only [if_neg s0]
        exact ⟨trivial, hf⟩
    · rw [if_neg kk, if_neg kk]
      exact sim_ans hf 3
/-- model's two loops of copy -/
theorem cp1_at (x y : Int32) (Z : Mm) (k : Nat) : ∀ n, gI (itr (b_X7_copy_1 x y) n Z) 70 k = if k < n then gI Z 68 (24 * x.toNatClampNeg + (y.toNatClampNeg + k)) else gI Z 70 k := by
  intro n
  induction n with
  | zero => rw [itr_0, if_neg (by omega)]
  | succ n ih =>
    have e68 : ∀ j, gI (itr (b_X7_copy_1 x y) n Z) 68 j = gI Z 68 j := fun j => itr_keepI (fun i z => by simp [b_X7_copy_1, gI_sI]) n Z
    rw [itr_s, b_X7_copy_1, gI_sI]
    by_cases e : k = n
    · subst e
      rw [if_pos ⟨rfl, rfl⟩, if_pos (by omega), e68]
    · rw [if_neg (fun z => e z.2), ih]
      by_cases l : k < n
      · rw [if_pos l, if_pos (by omega)]
      · rw [if_neg l, if_neg (by omega)]
theorem cp2_at (x y : Int32) (Z : Mm) (j : Nat) : ∀ n, gI (itr (b_X7_copy_2 x y) n Z) 68 j = if 24 * x.toNatClampNeg + y.toNatClampNeg ≤ j ∧ j < 24 * x.toNatClampNeg + y.toNatClampNeg + n then gI Z 70 (j - (24 * x.toNatClampNeg + y.toNatClampNeg)) else gI Z 68 j := by
  intro n
  induction n with
  | zero => rw [itr_0, if_neg (by omega)]
  | succ n ih =>
    have e70 : ∀ j, gI (itr (b_X7_copy_2 x y) n Z) 70 j = gI Z 70 j := fun j => itr_keepI (fun i z => by simp [b_X7_copy_2, gI_sI]) n Z
    rw [itr_s, b_X7_copy_2, gI_sI]
    by_cases e : j = 24 * x.toNatClampNeg + (y.toNatClampNeg + n)
    · rw [if_pos ⟨rfl, e⟩, if_pos (by omega), e70]
      congr 1
      omega
    · rw [if_neg (fun z => e z.2), ih]
      by_cases l : 24 * x.toNatClampNeg + y.toNatClampNeg ≤ j ∧ j < 24 * x.toNatClampNeg + y.toNatClampNeg + n
      · rw [if_pos l, if_pos (by omega)]
      · rw [if_neg l, if_neg (by omega)]
