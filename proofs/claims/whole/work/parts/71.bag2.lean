/-! bags: class and model take the same -/
theorem sub_add_sub (x a m : Int32) : x - a + (a - m) = x - m := by
  rw [Int32.sub_eq_add_neg, Int32.sub_eq_add_neg, Int32.sub_eq_add_neg, Int32.add_assoc, ← Int32.add_assoc (-a), Int32.add_left_neg, Int32.zero_add]
theorem sub_one_one (x : Int32) : x - 1 + 1 = x := by
  rw [Int32.sub_eq_add_neg, Int32.add_assoc, Int32.add_left_neg, Int32.add_zero]
abbrev bgM (N : Mm) (k : Nat) (m : Int32) : Mm := sI (sI (sI (sI N 64 k (gI N 64 k - m)) 65 (gI N 44 35).toNatClampNeg (gI N 63 k)) 66 (gI N 44 35).toNatClampNeg m) 44 35 (gI N 44 35 + 1)
theorem bg64 (N : Mm) (k : Nat) (m : Int32) (q : Nat) : gI (bgM N k m) 64 q = if q = k then gI N 64 k - m else gI N 64 q := by
  unfold bgM
  rw [gI_ne (by decide), gI_ne (by decide), gI_ne (by decide), gI_row]
theorem bg65 (N : Mm) (k : Nat) (m : Int32) (q : Nat) : gI (bgM N k m) 65 q = if q = (gI N 44 35).toNatClampNeg then gI N 63 k else gI N 65 q := by
  unfold bgM
  rw [gI_ne (by decide), gI_ne (by decide), gI_row, gI_ne (by decide)]
theorem bg66 (N : Mm) (k : Nat) (m : Int32) (q : Nat) : gI (bgM N k m) 66 q = if q = (gI N 44 35).toNatClampNeg then m else gI N 66 q := by
  unfold bgM
  rw [gI_ne (by decide), gI_row, gI_ne (by decide), gI_ne (by decide)]
theorem bg35 (N : Mm) (k : Nat) (m : Int32) : gI (bgM N k m) 44 35 = gI N 44 35 + 1 := by
  unfold bgM
  rw [gI_at]
theorem bgO (N : Mm) (k : Nat) (m : Int32) (a b : Nat) (h : a ≠ 64 ∧ a ≠ 65 ∧ a ≠ 66 ∧ ¬ (a = 44 ∧ b = 35)) : gI (bgM N k m) a b = gI N a b := by
  unfold bgM
  rw [gI_off a b h.2.2.2, gI_ne h.2.2.1, gI_ne h.2.1, gI_ne h.1]
theorem take_bag {M N : Mm} (h : Rlots M N) (hb : Rbag M N) {k : Nat} (hk : k < nl N) (l5 : (gI N 44 35).toInt < 500) {t : Nat} (et : (gI N 63 k).toNatClampNeg = t) {u : Int32} : Rbag (f_X5_takeOf M (nI t) u).2 (bgM N k (mn M t u)) := by
  obtain ⟨h1, h2, h3, h4, h5, h6, h7⟩ := h
  obtain ⟨b1, b2, b3⟩ := hb
  have a := h2 k hk
  have ex : nI t = gI N 63 k := by rw [← et]; exact nI_of_clamp (by rw [Int32.le_iff_toInt_le]; exact a.1)
  have ct : (nI t).toNatClampNeg = t := by rw [ex, et]
  have i46 := add1_int b2.1 (by omega)
  have e46 : gI (f_X5_takeOf M (nI t) u).2 4 6 = gI M 4 6 + 1 := by rw [tk3, if_pos ⟨rfl, rfl⟩]
  have n46 : (gI M 4 6 + 1).toNatClampNeg = (gI M 4 6).toNatClampNeg + 1 := by rw [clamp_eq, clamp_eq, i46]; omega
  rw [← b1] at l5
  refine ⟨by rw [e46, bg35, b1], by rw [e46, i46]; omega, fun i hi => ?_⟩
  rw [e46, n46] at hi
  have v30 : gI (f_X5_takeOf M (nI t) u).2 30 i = if i = (gI M 4 6).toNatClampNeg then nI t else gI M 30 i := by
    rw [tk3, if_neg (fun q => absurd q.1 (by decide)), if_neg (fun q => absurd q.1 (by decide)), fr_m_X5_takeOf_2 M (nI t) u 30 i (by decide)]
    by_cases e : i = (gI M 4 6).toNatClampNeg
    · rw [if_pos ⟨rfl, e⟩, if_pos e]
    · rw [if_neg (fun q => e q.2), if_neg e]
  have v31 : gI (f_X5_takeOf M (nI t) u).2 31 i = if i = (gI M 4 6).toNatClampNeg then mn M t u else gI M 31 i := by
    rw [tk3, if_neg (fun q => absurd q.1 (by decide)), ct, fr_m_X5_takeOf_2 M (nI t) u 31 i (by decide)]
    by_cases e : i = (gI M 4 6).toNatClampNeg
    · rw [if_pos (show 31 = 31 ∧ i = (gI M 4 6).toNatClampNeg from ⟨rfl, e⟩), if_pos e]
    · rw [if_neg (fun q => e q.2), if_neg (fun q => e q.2), if_neg e]
  rw [v30, v31, bg65, bg66, ← b1, ex]
  by_cases e : i = (gI M 4 6).toNatClampNeg
  · rw [if_pos e, if_pos e, if_pos e, if_pos e]
    exact ⟨rfl, rfl⟩
  · rw [if_neg e, if_neg e, if_neg e, if_neg e]
    exact b3 i (by omega)
theorem take_lots {M N : Mm} (h : Rlots M N) {k : Nat} (hk : k < nl N) {t : Nat} (et : (gI N 63 k).toNatClampNeg = t) {u : Int32} (hu : 0 < u.toInt) (hv : 0 < (gI N 64 k).toInt) : Rlots (f_X5_takeOf M (nI t) u).2 (bgM N k (mn M t u)) := by
  obtain ⟨h1, h2, h3, h4, h5, h6, h7⟩ := h
  have a := h2 k hk
  have ex : nI t = gI N 63 k := by rw [← et]; exact nI_of_clamp (by rw [Int32.le_iff_toInt_le]; exact a.1)
  have ct : (nI t).toNatClampNeg = t := by rw [ex, et]
  obtain ⟨c1, c2⟩ := h4 k hk
  rw [et] at c1 c2
  have r6 := h6 k hk
  have mr := mn_rng (x := u) (a := gI M 27 t) hu (by rw [c2]; exact hv)
  have sub : (gI N 64 k - mn M t u).toInt = (gI N 64 k).toInt - (mn M t u).toInt := by
    rw [Int32.toInt_sub]
    rw [c2] at mr
    unfold mn
    rw [c2]
    apply Int.bmod_eq_of_le <;> omega
  have mr2 : 0 < (mn M t u).toInt ∧ (mn M t u).toInt ≤ (gI N 64 k).toInt := by
    rw [← c2]
    exact ⟨mr.1, mr.2.1⟩
  have v26 : ∀ q, gI (f_X5_takeOf M (nI t) u).2 26 q = gI M 26 q := fun q => fr_f_X5_takeOf M (nI t) u 26 q (by omega)
  have v36 : gI (f_X5_takeOf M (nI t) u).2 3 6 = gI M 3 6 := fr_f_X5_takeOf M (nI t) u 3 6 (by omega)
  have v27 : ∀ q, gI (f_X5_takeOf M (nI t) u).2 27 q = if q = t then gI N 64 k - mn M t u else gI M 27 q := fun q => by
    rw [tk3, if_neg (fun r => absurd r.1 (by decide)), if_neg (fun r => absurd r.1 (by decide)), if_neg (fun r => absurd r.1 (by decide)), tk2, if_neg (fun r => absurd r.1 (by decide)), tk1, if_neg (fun r => absurd r.1 (by decide)), ct]
    by_cases e : q = t
    · rw [if_pos ⟨rfl, e⟩, if_pos e, e, c2]
    · rw [if_neg (fun r => e r.2), if_neg e]
  have v28 : ∀ q, gI (f_X5_takeOf M (nI t) u).2 28 q = if q = (gI N 62 k).toNatClampNeg then gI M 28 q - mn M t u else gI M 28 q := fun q => by
    rw [tk3, if_neg (fun r => absurd r.1 (by decide)), if_neg (fun r => absurd r.1 (by decide)), if_neg (fun r => absurd r.1 (by decide)), tk2, if_neg (fun r => absurd r.1 (by decide)), tk1, ct, c1]
    by_cases e : q = (gI N 62 k).toNatClampNeg
    · rw [if_pos ⟨rfl, e⟩, if_pos e]
    · rw [if_neg (fun r => e r.2), if_neg (fun r => absurd r.1 (by decide)), if_neg e]
  have v29 : ∀ q, gI (f_X5_takeOf M (nI t) u).2 29 q = if q = (gI N 62 k).toNatClampNeg ∧ gI N 64 k - mn M t u = 0 then gI M 29 q - 1 else gI M 29 q := fun q => by
    rw [tk3, if_neg (fun r => absurd r.1 (by decide)), if_neg (fun r => absurd r.1 (by decide)), if_neg (fun r => absurd r.1 (by decide)), tk2, ct, c1, c2, tk1, if_neg (c := (29 = 28 ∧ _)) (fun r => absurd r.1 (by decide)), if_neg (c := (29 = 27 ∧ _)) (fun r => absurd r.1 (by decide))]
    by_cases e : q = (gI N 62 k).toNatClampNeg ∧ gI N 64 k - mn M t u = 0
    · rw [if_pos ⟨rfl, e⟩, if_pos e]
    · rw [if_neg (fun r => e r.2), if_neg e]
  have e31 : gI (bgM N k (mn M t u)) 44 31 = gI N 44 31 := bgO _ _ _ 44 31 (by decide)
  have eL : nl (bgM N k (mn M t u)) = nl N := by unfold nl; rw [e31]
  have e63 : ∀ q, gI (bgM N k (mn M t u)) 63 q = gI N 63 q := fun q => bgO _ _ _ 63 q (by omega)
  have e62 : ∀ q, gI (bgM N k (mn M t u)) 62 q = gI N 62 q := fun q => bgO _ _ _ 62 q (by omega)
  have dn : ∀ q, q < nl N → q ≠ k → ¬ (gI N 63 q).toNatClampNeg = t := fun q hq hn e => by
    have := clamp_inj (h2 q hq).1 a.1 (by rw [e, et])
    rcases Nat.lt_or_gt_of_ne hn with l | l
    · have := h3 q k l hk
      omega
    · have := h3 k q l hq
      omega
  have n0 : ¬ gI N 64 k = 0 := fun e => by rw [e, show (0 : Int32).toInt = 0 by decide] at hv; omega
  refine ⟨by rw [v36, e31]; exact h1, fun q hq => ?_, fun q l hq hl => ?_, fun q hq => ?_, fun q => ?_, fun q hq => ?_, fun s hs => ?_⟩
  · rw [eL] at hq
    rw [v36, e63]; exact h2 q hq
  · rw [eL] at hl
    rw [e63, e63]; exact h3 q l hq hl
  · rw [eL] at hq
    rw [e63, e62, bg64, v26, v27]
    by_cases e : q = k
    · rw [e, et, if_pos rfl, if_pos rfl]
      exact ⟨c1, rfl⟩
    · rw [if_neg (dn q hq e), if_neg e]
      exact h4 q hq
  · rw [v27, eL]
    by_cases e : q = t
    · exact Or.inl ⟨k, hk, by rw [e63, et, e]⟩
    · rw [if_neg e]
      rcases h5 q with ⟨l, q1, q2⟩ | z
      · exact Or.inl ⟨l, q1, by rw [e63]; exact q2⟩
      · exact Or.inr z
  · rw [eL] at hq
    rw [bg64, e62]
    by_cases e : q = k
    · rw [if_pos e, sub, e]
      omega
    · rw [if_neg e]
      exact h6 q hq
  · obtain ⟨a1, a2⟩ := h7 s hs
    have up : ∀ v, f_X7_inSilo (bgM N k (mn M t u)) (nI s) v = f_X7_inSilo N (nI s) v - lotv N (nI s) v k + lotv (bgM N k (mn M t u)) (nI s) v k := fun v => by
      rw [inSilo_sm, inSilo_sm, eL]
      refine sm_upd _ hk (fun i hi hn => ?_)
      have w64 : gI (bgM N k (mn M t u)) 64 i = gI N 64 i := by rw [bg64, if_neg hn]
      unfold lotv
      rw [e62, w64]
    have w64 : gI (bgM N k (mn M t u)) 64 k = gI N 64 k - mn M t u := by rw [bg64, if_pos rfl]
    have gs : gI N 62 k = nI s ↔ s = (gI N 62 k).toNatClampNeg := by
      constructor
      · intro e
        rw [e, nI_clamp (by omega)]
      · intro e
        rw [e]
        exact (nI_of_clamp (by rw [Int32.le_iff_toInt_le]; exact r6.2.1)).symm
    rw [up, up, v28, v29, ← a1, ← a2]
    by_cases e : s = (gI N 62 k).toNatClampNeg
    · have g := gs.mpr e
      have p0 : lotv N (nI s) 0 k = gI N 64 k := by
        unfold lotv
        rw [if_pos g, if_neg n0, if_pos rfl]
      have p1 : lotv N (nI s) 1 k = 1 := by
        unfold lotv
        rw [if_pos g, if_neg n0, if_neg (by decide)]
      have p2 : lotv (bgM N k (mn M t u)) (nI s) 0 k = gI N 64 k - mn M t u := by
        unfold lotv
        rw [e62, w64, if_pos g, if_pos rfl]
        by_cases z : gI N 64 k - mn M t u = 0
        · rw [if_pos z, z]
        · rw [if_neg z]
      have p3 : lotv (bgM N k (mn M t u)) (nI s) 1 k = if gI N 64 k - mn M t u = 0 then (0 : Int32) else 1 := by
        unfold lotv
        rw [e62, w64, if_pos g, if_neg (c := ((1 : Int32) = 0)) (by decide)]
      rw [p0, p1, p2, p3, if_pos e, sub_add_sub]
      refine ⟨rfl, ?_⟩
      by_cases z : gI N 64 k - mn M t u = 0
      · rw [if_pos ⟨e, z⟩, if_pos z, Int32.add_zero]
      · rw [if_neg (fun r => z r.2), if_neg z, sub_one_one]
    · have g : ¬ gI N 62 k = nI s := fun r => e (gs.mp r)
      have p0 : ∀ v, lotv N (nI s) v k = 0 := fun v => by
        unfold lotv
        rw [if_neg g]
      have p2 : ∀ v, lotv (bgM N k (mn M t u)) (nI s) v k = 0 := fun v => by
        unfold lotv
        rw [e62, if_neg g]
      rw [p0, p0, p2, p2, if_neg e, if_neg (fun r => e r.1), Int32.sub_zero, Int32.add_zero, Int32.sub_zero, Int32.add_zero]
      exact ⟨rfl, rfl⟩
