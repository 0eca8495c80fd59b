/-! silos: a lot is stored -/
theorem so26 (A : Mm) (n g t : Int32) (q : Nat) : gI (f_X5_store A n g t) 26 q = if q = n.toNatClampNeg then g else gI A 26 q := by
  rw [f_X5_store, gI_ne (by decide), m_X5_store_1, gI_ne (by decide), gI_ne (by decide), gI_row]
theorem so27 (A : Mm) (n g t : Int32) (q : Nat) : gI (f_X5_store A n g t) 27 q = if q = n.toNatClampNeg then t else gI A 27 q := by
  rw [f_X5_store, gI_ne (by decide), m_X5_store_1, gI_ne (by decide), gI_row, gI_ne (by decide)]
theorem so28 (A : Mm) (n g t : Int32) (q : Nat) : gI (f_X5_store A n g t) 28 q = if q = g.toNatClampNeg then gI A 28 g.toNatClampNeg + t else gI A 28 q := by
  rw [f_X5_store, gI_ne (by decide), m_X5_store_1, gI_row, gI_ne (by decide), gI_ne (by decide), gI_ne (by decide), gI_ne (by decide)]
theorem so29 (A : Mm) (n g t : Int32) (q : Nat) : gI (f_X5_store A n g t) 29 q = if q = g.toNatClampNeg then gI A 29 g.toNatClampNeg + 1 else gI A 29 q := by
  have e : ∀ j, gI (m_X5_store_1 A n g t) 29 j = gI A 29 j := fun j => fr_m_X5_store_1 A n g t 29 j (by decide)
  rw [f_X5_store, gI_row, e, e]
theorem al62 (B : Mm) (g t : Int32) (q : Nat) : gI (f_X7_addLot B g t) 62 q = if q = nl B then g else gI B 62 q := by
  rw [f_X7_addLot, gI_ne (by decide), gI_ne (by decide), m_X7_addLot_1, gI_ne (by decide), gI_row]
theorem al63 (B : Mm) (g t : Int32) (q : Nat) : gI (f_X7_addLot B g t) 63 q = if q = nl B then gI B 44 22 else gI B 63 q := by
  rw [f_X7_addLot, gI_ne (by decide), gI_ne (by decide), m_X7_addLot_1, gI_ne (k := 44) (by decide), gI_ne (k := 44) (by decide), gI_row, gI_ne (by decide)]
theorem al64 (B : Mm) (g t : Int32) (q : Nat) : gI (f_X7_addLot B g t) 64 q = if q = nl B then t else gI B 64 q := by
  rw [f_X7_addLot, gI_ne (by decide), fr_m_X7_addLot_1 B g 44 31 (by decide), gI_row, fr_m_X7_addLot_1 B g 64 q (by decide)]
theorem al31 (B : Mm) (g t : Int32) : gI (f_X7_addLot B g t) 44 31 = gI B 44 31 + 1 := by
  rw [f_X7_addLot, gI_at, gI_ne (by decide), fr_m_X7_addLot_1 B g 44 31 (by decide)]
theorem add1_int {x : Int32} (h0 : 0 ≤ x.toInt) (h : x.toInt ≤ 1000000) : (x + 1).toInt = x.toInt + 1 := by
  rw [Int32.toInt_add, show (1 : Int32).toInt = 1 by decide]
  apply Int.bmod_eq_of_le <;> omega
theorem store_lots {X Y A B : Mm} (h : Rlots X Y) {n g t : Int32} (hn : gI X 3 6 = n) (hn0 : 0 ≤ n.toInt) (hn5 : n.toInt < 500) (ka : ∀ k j, 26 ≤ k → k ≤ 29 → gI A k j = gI X k j) (e36 : (gI A 3 6).toInt = n.toInt + 1) (kb : ∀ k j, (62 ≤ k ∧ k ≤ 64) ∨ (k = 44 ∧ j = 31) → gI B k j = gI Y k j) (e22 : gI B 44 22 = n) (hg : 0 ≤ g.toInt ∧ g.toInt ≤ 2) (ht : 0 < t.toInt ∧ t.toInt ≤ 500000) : Rlots (f_X5_store A n g t) (f_X7_addLot B g t) := by
  obtain ⟨h1, h2, h3, h4, h5, h6, h7⟩ := h
  rw [hn] at h1 h2
  have eL : nl B = nl Y := by unfold nl; rw [kb 44 31 (by omega)]
  have e31 : gI (f_X7_addLot B g t) 44 31 = gI Y 44 31 + 1 := by rw [al31, kb 44 31 (by omega)]
  have i31 := add1_int h1.1 (by omega)
  have nL : nl (f_X7_addLot B g t) = nl Y + 1 := by
    unfold nl
    rw [e31, clamp_eq, clamp_eq, i31]
    omega
  have x36 : gI (f_X5_store A n g t) 3 6 = gI A 3 6 := fr_f_X5_store A n g t 3 6 (by decide)
  have t0 : ¬ t = 0 := fun e => by rw [e, show (0 : Int32).toInt = 0 by decide] at ht; omega
  have gn : ∀ s, s < 3 → (g = nI s ↔ s = g.toNatClampNeg) := fun s hs => by
    constructor
    · intro e
      rw [e, nI_clamp (by omega)]
    · intro e
      rw [e]
      exact (nI_of_clamp (by rw [Int32.le_iff_toInt_le]; exact hg.1)).symm
  have lo : ∀ s v k, k < nl Y → lotv (f_X7_addLot B g t) s v k = lotv Y s v k := fun s v k hk => by
    have v62 : gI (f_X7_addLot B g t) 62 k = gI Y 62 k := by rw [al62, eL, if_neg (by omega), kb 62 k (by omega)]
    have v64 : gI (f_X7_addLot B g t) 64 k = gI Y 64 k := by rw [al64, eL, if_neg (by omega), kb 64 k (by omega)]
    unfold lotv
    rw [v62, v64]
  have hi : ∀ s v, lotv (f_X7_addLot B g t) s v (nl Y) = if g = s then (if v = 0 then t else (1 : Int32)) else (0 : Int32) := fun s v => by
    have v62 : gI (f_X7_addLot B g t) 62 (nl Y) = g := by rw [al62, eL, if_pos rfl]
    have v64 : gI (f_X7_addLot B g t) 64 (nl Y) = t := by rw [al64, eL, if_pos rfl]
    unfold lotv
    rw [v62, v64, if_neg t0]
  have is : ∀ s v, f_X7_inSilo (f_X7_addLot B g t) s v = f_X7_inSilo Y s v + (if g = s then (if v = 0 then t else (1 : Int32)) else (0 : Int32)) := fun s v => by
    rw [inSilo_sm, inSilo_sm, nL, sm_s, hi, sm_congr _ (fun i hh => lo s v i hh)]
  have cn : ∀ k, k < nl Y → ¬ (gI Y 63 k).toNatClampNeg = n.toNatClampNeg := fun k hk e => by
    have := clamp_inj (h2 k hk).1 hn0 e
    have := (h2 k hk).2
    omega
  refine ⟨?_, fun k hk => ?_, fun k l hk hl => ?_, fun k hk => ?_, fun q => ?_, fun k hk => ?_, fun s hs => ?_⟩
  · rw [x36, e31, e36, i31]; omega
  · rw [nL] at hk
    rw [x36, e36, al63, eL]
    by_cases e : k = nl Y
    · rw [if_pos e, e22]; omega
    · rw [if_neg e, kb 63 k (by omega)]
      have := h2 k (by omega)
      omega
  · rw [nL] at hl
    rw [al63, al63, eL, if_neg (by omega), kb 63 k (by omega)]
    by_cases e : l = nl Y
    · rw [if_pos e, e22]
      exact (h2 k (by omega)).2
    · rw [if_neg e, kb 63 l (by omega)]
      exact h3 k l hk (by omega)
  · rw [nL] at hk
    rw [al63, al62, al64, eL]
    by_cases e : k = nl Y
    · rw [if_pos e, if_pos e, if_pos e, e22, so26, so27, if_pos rfl, if_pos rfl]
      exact ⟨rfl, rfl⟩
    · have hk' : k < nl Y := by omega
      rw [if_neg e, if_neg e, if_neg e, kb 63 k (by omega), kb 62 k (by omega), kb 64 k (by omega), so26, so27, if_neg (cn k hk'), if_neg (cn k hk'), ka _ _ (by omega) (by omega), ka _ _ (by omega) (by omega)]
      exact h4 k hk'
  · rw [so27]
    by_cases e : q = n.toNatClampNeg
    · refine Or.inl ⟨nl Y, by omega, ?_⟩
      rw [al63, eL, if_pos rfl, e22, e]
    · rw [if_neg e, ka _ _ (by omega) (by omega)]
      rcases h5 q with ⟨k, q1, q2⟩ | z
      · refine Or.inl ⟨k, by omega, ?_⟩
        rw [al63, eL, if_neg (by omega), kb 63 k (by omega)]
        exact q2
      · exact Or.inr z
  · rw [nL] at hk
    rw [al64, al62, eL]
    by_cases e : k = nl Y
    · rw [if_pos e, if_pos e]
      omega
    · rw [if_neg e, if_neg e, kb 62 k (by omega), kb 64 k (by omega)]
      exact h6 k (by omega)
  · obtain ⟨a1, a2⟩ := h7 s hs
    rw [is, is, so28, so29, ka _ _ (by omega) (by omega), ka _ _ (by omega) (by omega), ka _ _ (by omega) (by omega), ka _ _ (by omega) (by omega), if_pos (c := ((0 : Int32) = 0)) rfl, if_neg (c := ((1 : Int32) = 0)) (by decide), ← a1, ← a2]
    by_cases e : s = g.toNatClampNeg
    · rw [if_pos e, if_pos e, if_pos ((gn s hs).mpr e), if_pos ((gn s hs).mpr e), ← e]
      exact ⟨rfl, rfl⟩
    · rw [if_neg e, if_neg e, if_neg (fun r => e ((gn s hs).mp r)), if_neg (fun r => e ((gn s hs).mp r)), Int32.add_zero, Int32.add_zero]
      exact ⟨rfl, rfl⟩
theorem lots_mono {A B A' B' : Mm} (h : Rlots A B) (ka : ∀ k j, 26 ≤ k → k ≤ 29 → gI A' k j = gI A k j) (e36 : (gI A 3 6).toInt ≤ (gI A' 3 6).toInt) (kb : ∀ k j, (62 ≤ k ∧ k ≤ 64) ∨ (k = 44 ∧ j = 31) → gI B' k j = gI B k j) : Rlots A' B' := by
  have h0 : Rlots (sI A' 3 6 (gI A 3 6)) B' := lots_fr h (fun k j q => by
    rcases q with q | q
    · rw [gI_ne (by omega)]; exact ka k j q.1 q.2
    · rw [q.1, q.2, gI_at]) kb
  obtain ⟨h1, h2, h3, h4, h5, h6, h7⟩ := h0
  rw [gI_at] at h1 h2
  refine ⟨by omega, fun k hk => ?_, h3, fun k hk => ?_, fun t => ?_, h6, fun s hs => ?_⟩
  · have := h2 k hk
    omega
  · have := h4 k hk
    rw [gI_ne (by decide), gI_ne (by decide)] at this
    exact this
  · have := h5 t
    rw [gI_ne (by decide)] at this
    exact this
  · have := h7 s hs
    rw [gI_ne (by decide), gI_ne (by decide)] at this
    exact this
