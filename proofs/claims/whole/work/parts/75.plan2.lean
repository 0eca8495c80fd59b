/-! the plan: the rounds -/
theorem nI_le0 {k : Nat} (hk : k < 2 ^ 31) : nI k ≤ 0 ↔ k = 0 := by
  rw [Int32.le_iff_toInt_le, nI_int hk, show (0 : Int32).toInt = 0 by decide]
  omega
theorem nI_eq0 {k : Nat} (hk : k < 2 ^ 31) : nI k = 0 ↔ k = 0 := by
  constructor
  · intro e
    exact (nI_le0 hk).mp (by rw [e]; decide)
  · intro e
    rw [e]; decide
abbrev gng (z : Mm) (d : Int32) (h : Nat) : Int64 := ((((gI z (34 + d.toNatClampNeg) h)).toInt64 <<< (((24 : Int32)).toInt64 &&& 63)) + ((1 : Int64) <<< (((nI h)).toInt64 &&& 63)))
theorem ch1 (d : Int32) (h : Nat) (z1 : Mm) {k : Nat} (hk : k < 2 ^ 31) (z : Mm) (q : Nat) : gJ (m_X4_cheapest_1 d h z1 k z) 42 q = if q = k ∧ k ≠ 0 then (if lg_cmp (gJ z 42 (k - 1)) NP = 0 then gJ z 42 k else (if gJ z 42 (k - 1) + gng z1 d h < gJ z 42 k then gJ z 42 (k - 1) + gng z1 d h else gJ z 42 k)) else gJ z 42 q := by
  rw [m_X4_cheapest_1]
  by_cases k0 : k = 0
  · rw [if_pos ((nI_le0 hk).mpr k0), if_neg (fun e => e.2 k0)]
  · rw [if_neg (fun e => k0 ((nI_le0 hk).mp e))]
    by_cases c : lg_cmp (gJ z 42 (k - 1)) NP = 0
    · rw [if_pos c, if_pos c]
      by_cases e : q = k
      · rw [if_pos ⟨e, k0⟩, e]
      · rw [if_neg (fun r => e r.1)]
    · rw [if_neg c, if_neg c, gJ_sJ]
      by_cases e : q = k
      · rw [if_pos (show 42 = 42 ∧ q = k from ⟨rfl, e⟩), if_pos (show q = k ∧ k ≠ 0 from ⟨e, k0⟩)]
      · rw [if_neg (fun r => e r.2), if_neg (fun r => e r.1)]
theorem ch1_I (d : Int32) (h : Nat) (z1 : Mm) (k : Nat) (z : Mm) (a b : Nat) : gI (m_X4_cheapest_1 d h z1 k z) a b = gI z a b := by
  rw [m_X4_cheapest_1]
  exact gI_iteK rfl (gI_iteK rfl (gI_sJ ..))
theorem ch2 (d r : Int32) (h : Nat) (z1 : Mm) {k : Nat} (hk : k < 2 ^ 31) (z : Mm) (q : Nat) : gJ (b_X4_cheapest_2 d r h z1 k z) 42 q = if q = k then (if gI z 41 h ≤ nI k * r then gJ (m_X4_cheapest_1 d h z1 k z) 42 k else NP) else gJ z 42 q := by
  rw [b_X4_cheapest_2, m_X4_cheapest_2, ch1_I]
  by_cases c : gI z 41 h ≤ nI k * r
  · rw [if_pos c, if_pos c]
    by_cases e : q = k
    · rw [if_pos e, e]
    · rw [if_neg e, ch1 d h z1 hk, if_neg (fun r => e r.1)]
  · rw [if_neg c, if_neg c, gJ_sJ]
    by_cases e : q = k
    · rw [if_pos (show 42 = 42 ∧ q = k from ⟨rfl, e⟩), if_pos e]
    · rw [if_neg (fun r => e r.2), if_neg e, ch1 d h z1 hk, if_neg (fun r => e r.1)]
theorem ch2_I (d r : Int32) (h : Nat) (z1 : Mm) (k : Nat) (z : Mm) (a b : Nat) : gI (b_X4_cheapest_2 d r h z1 k z) a b = gI z a b := by
  rw [b_X4_cheapest_2, m_X4_cheapest_2]
  exact gI_iteK (ch1_I ..) ((gI_sJ ..).trans (ch1_I ..))
theorem ch2_J (d r : Int32) (h : Nat) (z1 : Mm) (k : Nat) (z : Mm) (a b : Nat) (ha : a ≠ 42) : gJ (b_X4_cheapest_2 d r h z1 k z) a b = gJ z a b := by
  have e1 : gJ (m_X4_cheapest_1 d h z1 k z) a b = gJ z a b := by
    rw [m_X4_cheapest_1]
    exact gJ_iteK rfl (gJ_iteK rfl (gJ_ne ha))
  rw [b_X4_cheapest_2, m_X4_cheapest_2]
  exact gJ_iteK e1 ((gJ_ne ha).trans e1)
/-- the model's round -/
theorem pm5 (d : Int32) (h k : Nat) (hk : k < 2 ^ 31) (k0 : k ≠ 0) (w : Mm) {tk : Prop} [Decidable tk] (ht : tk ↔ TK (gI w 71 k) (gI w 72 k) (gI w 71 (k - 1)) (gI w 72 (k - 1)) (gI w 68 (24 * d.toNatClampNeg + h)) ((1 : Int32) <<< (nI h &&& 31))) : m_X7_plan_5 d h k w = if tk then sI (sI w 71 k (more (gI w 71 (k - 1)) (gI w 68 (24 * d.toNatClampNeg + h)))) 72 k (gI w 72 (k - 1) ||| ((1 : Int32) <<< (nI h &&& 31))) else w := by
  have n0 : ¬ nI k = 0 := fun e => k0 ((nI_eq0 hk).mp e)
  have em : (if (nI k) = 0 then (-9 : Int32) else (if 0 ≤ (gI w 71 (k - 1)) then ((gI w 71 (k - 1)) + (gI w 68 (24 * d.toNatClampNeg + h))) else (-9 : Int32))) = more (gI w 71 (k - 1)) (gI w 68 (24 * d.toNatClampNeg + h)) := by rw [if_neg n0]
  have e2 : m_X7_plan_2 d h k w = sI w 71 k (more (gI w 71 (k - 1)) (gI w 68 (24 * d.toNatClampNeg + h))) := by rw [m_X7_plan_2, em]
  have e3 : m_X7_plan_3 d h k w = sI w 71 k (more (gI w 71 (k - 1)) (gI w 68 (24 * d.toNatClampNeg + h))) := by rw [m_X7_plan_3, em]
  have e4 : m_X7_plan_4 d h k w = sI w 71 k (more (gI w 71 (k - 1)) (gI w 68 (24 * d.toNatClampNeg + h))) := by rw [m_X7_plan_4, em]
  rw [m_X7_plan_5, em, e2, e3, e4, gI_ne (k := 72) (k2 := 71) (by decide)]
  unfold TK at ht
  generalize more (gI w 71 (k - 1)) (gI w 68 (24 * d.toNatClampNeg + h)) = m at ht ⊢
  generalize gI w 72 (k - 1) ||| ((1 : Int32) <<< (nI h &&& 31)) = rb at ht ⊢
  by_cases c1 : m < 0
  · rw [if_pos c1, if_neg (fun t => (ht.mp t).1 c1)]
  rw [if_neg c1]
  by_cases c2 : gI w 71 k < 0
  · rw [if_pos c2, if_pos (ht.mpr ⟨c1, Or.inl c2⟩)]
  rw [if_neg c2]
  by_cases c3 : m < gI w 71 k
  · rw [if_pos c3, if_pos (ht.mpr ⟨c1, Or.inr (Or.inl c3)⟩)]
  rw [if_neg c3]
  by_cases c4 : m = gI w 71 k
  · rw [if_pos c4]
    by_cases c5 : gI w 72 k ≤ rb
    · rw [if_pos c5, if_neg (fun t => by
        rcases (ht.mp t).2 with q | q | q
        · exact c2 q
        · exact c3 q
        · exact q.2 c5)]
    · rw [if_neg c5, if_pos (ht.mpr ⟨c1, Or.inr (Or.inr ⟨c4, c5⟩)⟩)]
  · rw [if_neg c4, if_neg (fun t => by
      rcases (ht.mp t).2 with q | q | q
      · exact c2 q
      · exact c3 q
      · exact c4 q.1)]
theorem pm50 (d : Int32) (h : Nat) (w : Mm) : m_X7_plan_5 d h 0 w = w := by
  rw [m_X7_plan_5, if_pos (by rw [if_pos (show nI 0 = 0 by decide)]; decide)]
theorem pm6 (d r : Int32) (h k : Nat) (w : Mm) (q : Nat) : gI (b_X7_plan_3 d r h k w) 71 q = (if q = k then (if gI w 69 h ≤ r * nI k then gI (m_X7_plan_5 d h k w) 71 k else (-9 : Int32)) else gI (m_X7_plan_5 d h k w) 71 q) ∧ gI (b_X7_plan_3 d r h k w) 72 q = gI (m_X7_plan_5 d h k w) 72 q := by
  rw [b_X7_plan_3, m_X7_plan_6, fr_m_X7_plan_5 d h k w 69 h (by decide)]
  exact ⟨gI_row .., gI_ne (by decide)⟩
/-- one cell of both -/
theorem cells {z w z1 : Mm} {d r : Int32} {h k p : Nat} (hh : h < 24) (hk : k ≤ 24) (hp : p ≤ 1000) (ep : gI w 68 (24 * d.toNatClampNeg + h) = nI p) (eg : gI z1 (34 + d.toNatClampNeg) h = nI p) (en : gI z 41 h = gI w 69 h) (e0 : Ec h (gJ z 42 k) (gI w 71 k) (gI w 72 k)) (e1 : k ≠ 0 → Ec h (gJ z 42 (k - 1)) (gI w 71 (k - 1)) (gI w 72 (k - 1))) :
    Ec (h + 1) (gJ (b_X4_cheapest_2 d r h z1 k z) 42 k) (gI (b_X7_plan_3 d r h k w) 71 k) (gI (b_X7_plan_3 d r h k w) 72 k) ∧ (∀ q, q ≠ k → gJ (b_X4_cheapest_2 d r h z1 k z) 42 q = gJ z 42 q) ∧ (∀ q, q ≠ k → gI (b_X7_plan_3 d r h k w) 71 q = gI w 71 q) ∧ (∀ q, q ≠ k → gI (b_X7_plan_3 d r h k w) 72 q = gI w 72 q) := by
  have eng : gng z1 d h = lN (p * 16777216 + 2 ^ h) := by
    unfold gng
    rw [eg]
    exact going_eq hh hp
  have key : Ec (h + 1) (gJ (m_X4_cheapest_1 d h z1 k z) 42 k) (gI (m_X7_plan_5 d h k w) 71 k) (gI (m_X7_plan_5 d h k w) 72 k) ∧ (∀ q, q ≠ k → gI (m_X7_plan_5 d h k w) 71 q = gI w 71 q) ∧ (∀ q, q ≠ k → gI (m_X7_plan_5 d h k w) 72 q = gI w 72 q) := by
    by_cases k0 : k = 0
    · subst k0
      rw [ch1 d h z1 (by decide), if_neg (fun e => e.2 rfl), pm50]
      exact ⟨Ec_up e0, fun _ _ => rfl, fun _ _ => rfl⟩
    · rw [ch1 d h z1 (by omega), if_pos ⟨rfl, k0⟩, eng]
      have cs := cell_step hh hp e0 (e1 k0)
      rw [← ep] at cs
      have hdec : Decidable (TK (gI w 71 k) (gI w 72 k) (gI w 71 (k - 1)) (gI w 72 (k - 1)) (gI w 68 (24 * d.toNatClampNeg + h)) ((1 : Int32) <<< (nI h &&& 31))) := Classical.propDecidable _
      rw [pm5 d h k (by omega) k0 w Iff.rfl]
      by_cases t : TK (gI w 71 k) (gI w 72 k) (gI w 71 (k - 1)) (gI w 72 (k - 1)) (gI w 68 (24 * d.toNatClampNeg + h)) ((1 : Int32) <<< (nI h &&& 31))
      · rw [if_pos t]
        refine ⟨?_, fun q hq => ?_, fun q hq => ?_⟩
        · rw [gI_ne (k := 71) (k2 := 72) (by decide), gI_at, gI_at]
          exact cs.1 t
        · rw [gI_ne (k := 71) (k2 := 72) (by decide), gI_qn hq]
        · rw [gI_qn hq, gI_ne (by decide)]
      · rw [if_neg t]
        exact ⟨cs.2 t, fun _ _ => rfl, fun _ _ => rfl⟩
  refine ⟨?_, fun q hq => ?_, fun q hq => ?_, fun q hq => ?_⟩
  · rw [ch2 d r h z1 (by omega), if_pos rfl, (pm6 d r h k w k).1, if_pos rfl, (pm6 d r h k w k).2, en, Int32.mul_comm r]
    by_cases c : gI w 69 h ≤ nI k * r
    · rw [if_pos c, if_pos c]
      exact key.1
    · rw [if_neg c, if_neg c]
      exact Or.inl ⟨rfl, rfl⟩
  · rw [ch2 d r h z1 (by omega), if_neg hq]
  · rw [(pm6 d r h k w q).1, if_neg hq]
    exact key.2.1 q hq
  · rw [(pm6 d r h k w q).2]
    exact key.2.2 q hq
