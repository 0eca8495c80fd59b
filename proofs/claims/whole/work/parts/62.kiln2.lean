def HRow (i : Nat) (zs ws g : Nat → Int32) : Prop := (∀ q, q < 4 → q ≠ i → zs q = ws q) ∧ (i < 4 → ws i = if i = 0 then zs i else zs i + g (i - 1)) ∧ (ws 4 = if i = 4 then g 3 else 0)
theorem hrow_step {i : Nat} (hi : i < 4) {zs ws g zs' ws' : Nat → Int32} (h : HRow i zs ws g) (e1 : ∀ q, zs' q = if q = i then (if i = 0 then zs i - g i else zs i - g i + g (i - 1)) else zs q) (e2 : ∀ q, ws' q = if q = i + 1 then ws (i + 1) + g i else if q = i then ws i - g i else ws q) : HRow (i + 1) zs' ws' g := by
  obtain ⟨a1, a2, a3⟩ := h
  have b2 := a2 hi
  refine ⟨fun q hq n => ?_, fun l => ?_, ?_⟩
  · rw [e1, e2, if_neg n]
    by_cases e : q = i
    · rw [if_pos e, if_pos e, b2]
      by_cases z : i = 0
      · rw [if_pos z, if_pos z]
      · rw [if_neg z, if_neg z, i_swap]
    · rw [if_neg e, if_neg e]
      exact a1 q hq e
  · rw [e1, e2, if_pos rfl, if_neg (by omega), if_neg (by omega), a1 (i + 1) l (by omega)]
    rfl
  · rw [e2]
    by_cases e : i = 3
    · rw [if_pos (by omega), if_pos (by omega)]
      rw [if_neg (by omega)] at a3
      rw [e, a3, Int32.zero_add]
    · rw [if_neg (by omega), if_neg (by omega), if_neg (by omega)]
      rw [if_neg (by omega)] at a3
      exact a3
theorem hand_rel {M N : Mm} (feed u : Int32) (h20 : ∀ q, q < 4 → gI M 20 q = gI N 56 q) (h21 : ∀ q, q < 4 → gI M 21 q = gI N 57 q) : (∀ q, q < 4 → (if q = 0 then gI (f_X3_handOn M u) 20 0 + feed else gI (f_X3_handOn M u) 20 q) = gI (f_X7_handOn N feed u) 56 q) ∧ (∀ q, q < 4 → gI (f_X3_handOn M u) 21 q = gI (f_X7_handOn N feed u) 57 q) ∧ gI (f_X7_handOn N feed u) 56 4 = gI (f_X3_handOn M u) 22 3 ∧ gI (f_X7_handOn N feed u) 57 4 = gI (f_X3_handOn M u) 23 3 := by
  obtain ⟨p1, p2, p3, p4⟩ := ho1_rel u h20 h21
  rw [f_X3_handOn, f_X7_handOn]
  generalize itr (b_X3_handOn_1 u) 4 M = A at p1 p2 p3 p4
  generalize itr (b_X7_handOn_1 u) 4 N = B at p1 p2 p3 p4
  have key := itr_rel (f := b_X3_handOn_2) (g := b_X7_handOn_2) (N := 4) (fun i z w => HRow i (gI z 20) (gI w 56) (gI A 22) ∧ HRow i (gI z 21) (gI w 57) (gI A 23) ∧ (∀ q, gI z 22 q = gI A 22 q) ∧ (∀ q, gI z 23 q = gI A 23 q) ∧ (∀ q, gI w 58 q = gI B 58 q) ∧ (∀ q, gI w 59 q = gI B 59 q)) (fun i z w hi hz => by
    obtain ⟨a1, a2, a3, a4, a5, a6⟩ := hz
    refine ⟨hrow_step hi a1 (fun q => ?_) (fun q => ?_), hrow_step hi a2 (fun q => ?_) (fun q => ?_), fun q => ?_, fun q => ?_, fun q => ?_, fun q => ?_⟩
    · rw [(ho2c i hi z q).1, a3, a3]
    · rw [(ho2m i w q).1, a5, ← p3 i hi]
    · rw [(ho2c i hi z q).2, a4, a4]
    · rw [(ho2m i w q).2, a6, ← p4 i hi]
    · rw [fr_b_X3_handOn_2 i z 22 q (by decide)]; exact a3 q
    · rw [fr_b_X3_handOn_2 i z 23 q (by decide)]; exact a4 q
    · rw [fr_b_X7_handOn_2 i w 58 q (by decide)]; exact a5 q
    · rw [fr_b_X7_handOn_2 i w 59 q (by decide)]; exact a6 q)
    (z := A) (w := sI (sI B 56 4 (0 : Int32)) 57 4 (0 : Int32)) ⟨⟨fun q hq n => by
        rw [gI_ne (by decide), gI_off 56 q (by omega)]; exact p1 q hq, fun _ => by
        rw [if_pos rfl, gI_ne (by decide), gI_off 56 0 (by decide)]; exact (p1 0 (by omega)).symm, by
        rw [if_neg (by decide), gI_ne (by decide), gI_sI, if_pos ⟨rfl, rfl⟩]⟩, ⟨fun q hq n => by
        rw [gI_off 57 q (by omega), gI_ne (by decide)]; exact p2 q hq, fun _ => by
        rw [if_pos rfl, gI_off 57 0 (by decide), gI_ne (by decide)]; exact (p2 0 (by omega)).symm, by
        rw [if_neg (by decide), gI_sI, if_pos ⟨rfl, rfl⟩]⟩, fun _ => rfl, fun _ => rfl, fun q => by rw [gI_ne (by decide), gI_ne (by decide)], fun q => by rw [gI_ne (by decide), gI_ne (by decide)]⟩ 4 (Nat.le_refl _)
  generalize itr b_X3_handOn_2 4 A = z at key
  generalize itr b_X7_handOn_2 4 (sI (sI B 56 4 (0 : Int32)) 57 4 (0 : Int32)) = w at key
  obtain ⟨⟨a1, a2, a3⟩, ⟨b1, b2, b3⟩, c1, c2, -, -⟩ := key
  rw [if_pos rfl] at a3 b3
  refine ⟨fun q hq => ?_, fun q hq => ?_, ?_, ?_⟩
  · rw [gI_sI]
    by_cases e : q = 0
    · rw [if_pos e, if_pos ⟨rfl, e⟩, a1 0 (by omega) (by omega)]
    · rw [if_neg e, if_neg (fun r => e r.2)]
      exact a1 q hq (by omega)
  · rw [gI_ne (by decide)]
    exact b1 q hq (by omega)
  · rw [gI_off 56 4 (by decide), c1]; exact a3
  · rw [gI_ne (by decide), c2]; exact b3
