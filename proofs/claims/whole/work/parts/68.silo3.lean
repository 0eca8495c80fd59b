/-! the stuff in the kiln stays within what was fed -/
theorem ho1_val (M : Mm) (u : Int32) : (∀ q, q < 4 → gI (itr (b_X3_handOn_1 u) 4 M) 22 q = ((gI M 20 q).toInt64 * u.toInt64 / (100 : Int64)).toInt32) ∧ ∀ q, gI (itr (b_X3_handOn_1 u) 4 M) 20 q = gI M 20 q := by
  refine ⟨?_, fun q => itr_keepI (fun i z => fr_b_X3_handOn_1 u i z 20 q (by decide)) 4 M⟩
  have key := itr_inv (f := b_X3_handOn_1 u) (N := 4) (fun i z => (∀ q, gI z 20 q = gI M 20 q) ∧ ∀ q, q < i → gI z 22 q = ((gI M 20 q).toInt64 * u.toInt64 / (100 : Int64)).toInt32) (fun i z hi hz => by
    obtain ⟨a1, a2⟩ := hz
    refine ⟨fun q => by rw [fr_b_X3_handOn_1 u i z 20 q (by decide)]; exact a1 q, fun q hq => ?_⟩
    rw [b_X3_handOn_1, m_X3_handOn_1, gI_ne (k := 22) (k2 := 23) (by decide)]
    by_cases e : q = i
    · rw [gI_q e, a1, e]
    · rw [gI_qn e]
      exact a2 q (by omega)) (z := M) ⟨fun _ => rfl, fun q hq => absurd hq (by omega)⟩ 4 (Nat.le_refl _)
  exact key.2
theorem ho2_val (A : Mm) : (∀ q, q < 4 → gI (itr b_X3_handOn_2 4 A) 20 q = if q = 0 then gI A 20 q - gI A 22 q else gI A 20 q - gI A 22 q + gI A 22 (q - 1)) ∧ ∀ q, gI (itr b_X3_handOn_2 4 A) 22 q = gI A 22 q := by
  refine ⟨?_, fun q => itr_keepI (fun i z => fr_b_X3_handOn_2 i z 22 q (by decide)) 4 A⟩
  have key := itr_inv (f := b_X3_handOn_2) (N := 4) (fun i z => (∀ q, gI z 22 q = gI A 22 q) ∧ (∀ q, q < 4 → i ≤ q → gI z 20 q = gI A 20 q) ∧ ∀ q, q < i → gI z 20 q = if q = 0 then gI A 20 q - gI A 22 q else gI A 20 q - gI A 22 q + gI A 22 (q - 1)) (fun i z hi hz => by
    obtain ⟨a1, a2, a3⟩ := hz
    refine ⟨fun q => by rw [fr_b_X3_handOn_2 i z 22 q (by decide)]; exact a1 q, fun q h4 hq => ?_, fun q hq => ?_⟩
    · rw [(ho2c i hi z q).1, if_neg (by omega)]
      exact a2 q h4 (by omega)
    · rw [(ho2c i hi z q).1]
      by_cases e : q = i
      · rw [if_pos e, a1, a1, a2 i hi (Nat.le_refl _), e]
      · rw [if_neg e]
        exact a3 q (by omega)) (z := A) ⟨fun _ => rfl, fun _ _ _ => rfl, fun q hq => absurd hq (by omega)⟩ 4 (Nat.le_refl _)
  exact key.2.2
theorem handed_rng {s u : Int32} (hs : 0 ≤ s.toInt ∧ s.toInt ≤ 500000) (hu : 0 ≤ u.toInt ∧ u.toInt ≤ 100) : 0 ≤ ((s.toInt64 * u.toInt64 / (100 : Int64)).toInt32).toInt ∧ ((s.toInt64 * u.toInt64 / (100 : Int64)).toInt32).toInt ≤ s.toInt := by
  have m0 : 0 ≤ s.toInt * u.toInt := Int.mul_nonneg hs.1 hu.1
  have m1 : s.toInt * u.toInt ≤ s.toInt * 100 := Int.mul_le_mul_of_nonneg_left hu.2 hs.1
  have e1 : (s.toInt64 * u.toInt64).toInt = s.toInt * u.toInt := by
    rw [Int64.toInt_mul, i64_int, i64_int]
    apply Int.bmod_eq_of_le <;> omega
  have e2 : (s.toInt64 * u.toInt64 / (100 : Int64)).toInt = s.toInt * u.toInt / 100 := by
    rw [Int64.toInt_div, e1, show (100 : Int64).toInt = 100 by decide, Int.tdiv_eq_ediv_of_nonneg m0]
    apply Int.bmod_eq_of_le <;> omega
  have e3 : ((s.toInt64 * u.toInt64 / (100 : Int64)).toInt32).toInt = s.toInt * u.toInt / 100 := by
    rw [Int64.toInt_toInt32, e2]
    apply Int.bmod_eq_of_le <;> omega
  rw [e3]
  omega
theorem stf_burn {X : Mm} (h : Rstf X) (hs : 0 ≤ (gI X 3 6).toInt ∧ (gI X 3 6).toInt < 500) {f sp : Int32} (fu : Int32) (hf : 0 ≤ f.toInt ∧ f.toInt ≤ 1000) (hp : 0 ≤ sp.toInt ∧ sp.toInt ≤ 100) : Rstf (f_X3_burn X f fu sp).2 ∧ 0 ≤ (gI (f_X3_burn X f fu sp).2 24 0).toInt ∧ (gI (f_X3_burn X f fu sp).2 24 0).toInt ≤ 500000 := by
  obtain ⟨h1, h2⟩ := h
  have b0 := h1 0 (by omega)
  have b1 := h1 1 (by omega)
  have b2 := h1 2 (by omega)
  have b3 := h1 3 (by omega)
  have r0 := handed_rng (s := gI X 20 0) (u := sp) (by omega) hp
  have r1 := handed_rng (s := gI X 20 1) (u := sp) (by omega) hp
  have r2 := handed_rng (s := gI X 20 2) (u := sp) (by omega) hp
  have r3 := handed_rng (s := gI X 20 3) (u := sp) (by omega) hp
  have eB : m_X3_burn_1 X fu sp = f_X3_handOn (sI (f_X3_passGas X (kC X fu)).2 24 6 (f_X3_passGas X (kC X fu)).1) sp := rfl
  have eM : ∀ q, gI (sI (f_X3_passGas X (kC X fu)).2 24 6 (f_X3_passGas X (kC X fu)).1) 20 q = gI X 20 q := fun q => by
    rw [gI_ne (by decide), fr_f_X3_passGas X _ 20 q (by decide)]
  rw [f_X3_handOn] at eB
  generalize sI (f_X3_passGas X (kC X fu)).2 24 6 (f_X3_passGas X (kC X fu)).1 = W at eB eM
  obtain ⟨v1, v2⟩ := ho1_val W sp
  generalize itr (b_X3_handOn_1 sp) 4 W = A at eB v1 v2
  obtain ⟨w1, w2⟩ := ho2_val A
  rw [← eB] at w1 w2
  have d22 : ∀ q, q < 4 → gI (m_X3_burn_1 X fu sp) 22 q = ((gI X 20 q).toInt64 * sp.toInt64 / (100 : Int64)).toInt32 := fun q hq => by rw [w2, v1 q hq, eM]
  have a22 : ∀ q, q < 4 → gI A 22 q = ((gI X 20 q).toInt64 * sp.toInt64 / (100 : Int64)).toInt32 := fun q hq => by rw [v1 q hq, eM]
  have a20 : ∀ q, gI A 20 q = gI X 20 q := fun q => by rw [v2, eM]
  have c0 := w1 0 (by omega)
  have c1 := w1 1 (by omega)
  have c2 := w1 2 (by omega)
  have c3 := w1 3 (by omega)
  rw [if_pos rfl, a20, a22 0 (by omega)] at c0
  rw [if_neg (by decide), a20, a22 1 (by omega), a22 (1 - 1) (by omega)] at c1
  rw [if_neg (by decide), a20, a22 2 (by omega), a22 (2 - 1) (by omega)] at c2
  rw [if_neg (by decide), a20, a22 3 (by omega), a22 (3 - 1) (by omega)] at c3
  have k0 : gI (f_X3_burn X f fu sp).2 20 0 = gI (m_X3_burn_1 X fu sp) 20 0 + f := by
    rw [burn_I _ _ _ _ 20 0 (by decide) (by decide), kF, gI_findCause _ _ _ _ (by decide) (by decide) (by decide), fr_f_X3_tellOut _ 20 0 (by decide), kA, gI_at]
  have kq : ∀ q, q ≠ 0 → gI (f_X3_burn X f fu sp).2 20 q = gI (m_X3_burn_1 X fu sp) 20 q := fun q hq => by
    rw [burn_I _ _ _ _ 20 q (by omega) (by omega), kF, gI_findCause _ _ _ _ (by omega) (by omega) (by omega), fr_f_X3_tellOut _ 20 q (by decide), kA, gI_qn hq]
  have kt : gI (f_X3_burn X f fu sp).2 24 0 = ((gI X 20 3).toInt64 * sp.toInt64 / (100 : Int64)).toInt32 := by
    rw [burn_I _ _ _ _ 24 0 (by decide) (by decide), kF, gI_findCause _ _ _ _ (by decide) (by decide) (by decide), te0, kA, gI_ne (by decide), d22 3 (by omega)]
  have e36 := burn_36 X f fu sp
  have i36 := add1_int hs.1 (by omega)
  rw [← e36] at i36
  have q1 := kq 1 (by decide)
  have q2 := kq 2 (by decide)
  have q3 := kq 3 (by decide)
  rw [c0] at k0
  rw [c1] at q1
  rw [c2] at q2
  rw [c3] at q3
  generalize ((gI X 20 0).toInt64 * sp.toInt64 / (100 : Int64)).toInt32 = g0 at r0 k0 q1
  generalize ((gI X 20 1).toInt64 * sp.toInt64 / (100 : Int64)).toInt32 = g1 at r1 q1 q2
  generalize ((gI X 20 2).toInt64 * sp.toInt64 / (100 : Int64)).toInt32 = g2 at r2 q2 q3
  generalize ((gI X 20 3).toInt64 * sp.toInt64 / (100 : Int64)).toInt32 = g3 at r3 q3 kt
  have sub : ∀ x y : Int32, 0 ≤ y.toInt → y.toInt ≤ x.toInt → (x - y).toInt = x.toInt - y.toInt := fun x y h1 h2 => by
    have := x.toInt_lt
    rw [Int32.toInt_sub]
    apply Int.bmod_eq_of_le <;> omega
  have add : ∀ x y : Int32, 0 ≤ x.toInt → x.toInt ≤ 1000000 → 0 ≤ y.toInt → y.toInt ≤ 1000000 → (x + y).toInt = x.toInt + y.toInt := fun x y h1 h2 h3 h4 => by
    rw [Int32.toInt_add]
    apply Int.bmod_eq_of_le <;> omega
  have s0 := sub (gI X 20 0) g0 r0.1 r0.2
  have s1 := sub (gI X 20 1) g1 r1.1 r1.2
  have s2 := sub (gI X 20 2) g2 r2.1 r2.2
  have s3 := sub (gI X 20 3) g3 r3.1 r3.2
  have n0 := add (gI X 20 0 - g0) f (by omega) (by omega) (by omega) (by omega)
  have n1 := add (gI X 20 1 - g1) g0 (by omega) (by omega) (by omega) (by omega)
  have n2 := add (gI X 20 2 - g2) g1 (by omega) (by omega) (by omega) (by omega)
  have n3 := add (gI X 20 3 - g3) g2 (by omega) (by omega) (by omega) (by omega)
  rw [← k0] at n0
  rw [← q1] at n1
  rw [← q2] at n2
  rw [← q3] at n3
  refine ⟨⟨fun z hz => ?_, ?_⟩, ?_⟩
  · rcases (show z = 0 ∨ z = 1 ∨ z = 2 ∨ z = 3 by omega) with e | e | e | e <;> rw [e]
    · rw [n0]; omega
    · rw [n1]; omega
    · rw [n2]; omega
    · rw [n3]; omega
  · rw [n0, n1, n2, n3, i36]; omega
  · rw [kt]; omega
