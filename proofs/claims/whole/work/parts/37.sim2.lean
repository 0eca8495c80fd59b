/-! the mix: parts and shares -/
theorem fw_rng {x y z : Int32} (h : ¬ f_X6_fitWhole x y z = 0) : (0 ≤ x.toInt ∧ x.toInt ≤ 1000) ∧ (0 ≤ y.toInt ∧ y.toInt ≤ 1000) ∧ (0 ≤ z.toInt ∧ z.toInt ≤ 1000) ∧ x.toInt + y.toInt + z.toInt ≤ 1000 := by
  have z0 : (0 : Int32).toInt = 0 := by decide
  have z1 : (1000 : Int32).toInt = 1000 := by decide
  rw [f_X6_fitWhole] at h
  by_cases c1 : f_X6_within x 0 1000 = 0
  · rw [if_pos c1] at h
    exact absurd rfl h
  rw [if_neg c1] at h
  by_cases c2 : f_X6_within y 0 1000 = 0
  · rw [if_pos c2] at h
    exact absurd rfl h
  rw [if_neg c2] at h
  by_cases c3 : f_X6_within z 0 1000 = 0
  · rw [if_pos c3] at h
    exact absurd rfl h
  rw [if_neg c3] at h
  by_cases c4 : (1000 : Int32) < x + y + z
  · rw [if_pos c4] at h
    exact absurd rfl h
  have r1 := rng_int c1
  have r2 := rng_int c2
  have r3 := rng_int c3
  rw [z0, z1] at r1 r2 r3
  have r4 := Int32.le_iff_toInt_le.mp (Int32.not_lt.mp c4)
  have e1 : (x + y).toInt = x.toInt + y.toInt := by
    rw [Int32.toInt_add]
    apply Int.bmod_eq_of_le <;> omega
  have e2 : (x + y + z).toInt = x.toInt + y.toInt + z.toInt := by
    rw [Int32.toInt_add, e1]
    apply Int.bmod_eq_of_le <;> omega
  rw [e2, z1] at r4
  exact ⟨r1, r2, r3, r4⟩
theorem rest_int {x y z : Int32} (h : ¬ f_X6_fitWhole x y z = 0) : (((1000 : Int32) - x) - y - z).toInt = 1000 - x.toInt - y.toInt - z.toInt := by
  obtain ⟨r1, r2, r3, r4⟩ := fw_rng h
  have z1 : (1000 : Int32).toInt = 1000 := by decide
  have e1 : ((1000 : Int32) - x).toInt = 1000 - x.toInt := by
    rw [Int32.toInt_sub, z1]
    apply Int.bmod_eq_of_le <;> omega
  have e2 : ((1000 : Int32) - x - y).toInt = 1000 - x.toInt - y.toInt := by
    rw [Int32.toInt_sub, e1]
    apply Int.bmod_eq_of_le <;> omega
  rw [Int32.toInt_sub, e2]
  apply Int.bmod_eq_of_le <;> omega
theorem sim_share {X Y : Mm} (h : Rmix X Y) (x y z : Int32) : (f_X6_share X x y z).1 = (f_X7_share Y x y z).1 ∧ Rmix (f_X6_share X x y z).2 (f_X7_share Y x y z).2 := by
  have h0 := h
  obtain ⟨h1, h2, h3, h4, h5, h6, h7, h8, h9, h10, h11⟩ := h
  rw [f_X6_share, f_X7_share, ap_fw]
  by_cases c : f_X6_fitWhole x y z = 0
  · rw [if_pos c, if_pos c]
    exact ⟨rfl, h0⟩
  · rw [if_neg c, if_neg c]
    obtain ⟨r1, r2, r3, r4⟩ := fw_rng c
    have r5 := rest_int c
    have n12 : ∀ s : Nat, s < 4 → ¬ 12 + s = 16 := fun s hs => by omega
    refine ⟨rfl, fun s k hs hk => ?_, fun s => ?_, fun s k hs hk => ?_, fun s hs => ?_, ?_, ?_, ?_, ?_, ?_, ?_, ?_⟩
    · simpa [f_X0_setShares, gI_sI, n12 s hs] using h1 s k hs hk
    · simp [f_X0_setShares, gI_sI, h2]
    · simpa [f_X0_setShares, gI_sI, n12 s hs] using h3 s k hs hk
    · rcases (show s = 0 ∨ s = 1 ∨ s = 2 ∨ s = 3 by omega) with e | e | e | e
      · subst e
        simpa [f_X0_setShares, gI_sI] using r1
      · subst e
        simpa [f_X0_setShares, gI_sI] using r2
      · subst e
        simpa [f_X0_setShares, gI_sI] using r3
      · subst e
        have q : gI (f_X0_setShares X x y z) 16 3 = ((1000 : Int32) - x) - y - z := by simp [f_X0_setShares, gI_sI]
        show 0 ≤ (gI (f_X0_setShares X x y z) 16 3).toInt ∧ (gI (f_X0_setShares X x y z) 16 3).toInt ≤ 1000
        rw [q, r5]
        omega
    · have q0 : gI (f_X0_setShares X x y z) 16 0 = x := by simp [f_X0_setShares, gI_sI]
      have q1 : gI (f_X0_setShares X x y z) 16 1 = y := by simp [f_X0_setShares, gI_sI]
      show (gI (f_X0_setShares X x y z) 16 0).toInt + (gI (f_X0_setShares X x y z) 16 1).toInt ≤ 1000
      rw [q0, q1]
      omega
    · simpa [f_X0_setShares, gI_sI] using h6
    · simpa [f_X0_setShares, gI_sI] using h7
    · simpa [f_X0_setShares, gI_sI] using h8
    · simpa [f_X0_setShares, gI_sI] using h9
    · simpa [f_X0_setShares, gI_sI] using h10
    · simpa [f_X0_setShares, gI_sI] using h11
theorem part_eq {X Y : Mm} (h : Rmix X Y) {u : Int32} (hu : u.toNatClampNeg < 4) : f_X0_part X u = f_X7_mixed Y u := by
  rw [f_X0_part, f_X7_mixed]
  exact itr_rel (f := b_X0_part_1 X u) (g := b_X7_mixed_1 Y u) (N := 4) (fun _ z w => z = w) (fun i z w hi e => by
    simp only [b_X0_part_1, b_X7_mixed_1, e, h.2.1, h.1 i _ hi hu]) rfl 4 (Nat.le_refl _)
theorem sim_mix {X Y : Mm} (h : Rmix X Y) (u : Int32) : f_X6_mix X u = f_X7_mix Y u := by
  rw [f_X6_mix, f_X7_mix, in_wi]
  by_cases c : f_X6_within u 0 3 = 0
  · rw [if_pos c, if_pos c]
  · rw [if_neg c, if_neg c, part_eq h (wi_lt c (by decide))]
theorem part_rng {X Y : Mm} (h : Rmix X Y) {u : Int32} (hu : u.toNatClampNeg < 4) : 0 ≤ (f_X0_part X u).toInt ∧ (f_X0_part X u).toInt ≤ 4000000 := by
  rw [f_X0_part]
  have key := itr_inv (f := b_X0_part_1 X u) (N := 4) (fun i z => 0 ≤ z.toInt ∧ z.toInt ≤ 1000000 * (i : Int)) (fun i z hi hz => by
    obtain ⟨-, -, h3, h4, -⟩ := h
    have a := h4 i hi
    have b := h3 i _ hi hu
    have m1 : 0 ≤ (gI X 16 i).toInt * (gI X (12 + i) u.toNatClampNeg).toInt := Int.mul_nonneg a.1 b.1
    have m2 : (gI X 16 i).toInt * (gI X (12 + i) u.toNatClampNeg).toInt ≤ 1000 * 1000 := Int.mul_le_mul a.2 b.2 b.1 (by omega)
    have e1 : (gI X 16 i * gI X (12 + i) u.toNatClampNeg).toInt = (gI X 16 i).toInt * (gI X (12 + i) u.toNatClampNeg).toInt := by
      rw [Int32.toInt_mul]
      apply Int.bmod_eq_of_le <;> omega
    have e2 : (b_X0_part_1 X u i z).toInt = z.toInt + (gI X 16 i).toInt * (gI X (12 + i) u.toNatClampNeg).toInt := by
      rw [b_X0_part_1, Int32.toInt_add, e1]
      apply Int.bmod_eq_of_le <;> omega
    rw [e2]
    constructor
    · omega
    · push_cast
      omega) (z := 0) (by decide) 4 (Nat.le_refl _)
  exact key
theorem sim_need {X Y : Mm} (h : Rplan X Y) (t n : Int32) : (f_X6_need X t n).1 = (f_X7_need Y t n).1 ∧ Rplan (f_X6_need X t n).2 (f_X7_need Y t n).2 := by
  have h0 := h
  obtain ⟨h1, h2, h3, h4, h5, h6, h7⟩ := h
  rw [f_X6_need, f_X7_need, in_wi, in_wi]
  by_cases c : f_X6_within t 0 23 = 0
  · rw [if_pos c, if_pos c]
    exact ⟨rfl, h0⟩
  rw [if_neg c, if_neg c]
  by_cases c2 : f_X6_within n 0 10000 = 0
  · rw [if_pos c2, if_pos c2]
    exact ⟨rfl, h0⟩
  rw [if_neg c2, if_neg c2]
  have r2 := rng_int c2
  rw [show (0 : Int32).toInt = 0 by decide, show (10000 : Int32).toInt = 10000 by decide] at r2
  have n34 : ∀ d : Nat, d < 7 → ¬ 34 + d = 41 := fun d hd => by omega
  refine ⟨by simp [f_X4_setNeed, h5], fun d => ?_, fun d => ?_, fun d q hd hq => ?_, fun d q hd hq => ?_, fun q => ?_, fun q hq => ?_, ?_⟩
  · simpa [f_X4_setNeed, gI_sI] using h1 d
  · simpa [f_X4_setNeed, gI_sI] using h2 d
  · simpa [f_X4_setNeed, gI_sI, n34 d hd] using h3 d q hd hq
  · simpa [f_X4_setNeed, gI_sI, n34 d hd] using h4 d q hd hq
  · simp [f_X4_setNeed, gI_sI, h5]
  · by_cases e : q = t.toNatClampNeg
    · simpa [f_X4_setNeed, gI_sI, e] using r2
    · simpa [f_X4_setNeed, gI_sI, e] using h6 q hq
  · have e1 : f_X7_counts (sI Y 69 t.toNatClampNeg n) 3 = f_X7_counts Y 3 := by
      have e2 : b_X7_counts_1 (sI Y 69 t.toNatClampNeg n) = b_X7_counts_1 Y := by
        funext i z
        simp [b_X7_counts_1, gI_sI]
      simp only [f_X7_counts, e2, gI_sI]
      simp
    show gI (f_X4_setNeed X t n).2 5 4 = f_X7_counts (sI Y 69 t.toNatClampNeg n) 3
    rw [e1, ← h7]
    simp [f_X4_setNeed, gI_sI]
