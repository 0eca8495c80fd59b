/-! sums -/
def sm (f : Nat → Int32) (n : Nat) : Int32 := itr (fun i z => z + f i) n 0
theorem sm_0 (f : Nat → Int32) : sm f 0 = 0 := itr_0 _ _
theorem sm_s (f : Nat → Int32) (n : Nat) : sm f (n + 1) = sm f n + f n := itr_s _ _ _
theorem sm_congr {f g : Nat → Int32} : ∀ n, (∀ i, i < n → f i = g i) → sm f n = sm g n
  | 0, _ => by rw [sm_0, sm_0]
  | n + 1, h => by rw [sm_s, sm_s, h n (by omega), sm_congr n (fun i hi => h i (by omega))]
theorem sm_add (f g : Nat → Int32) : ∀ n, sm (fun i => f i + g i) n = sm f n + sm g n
  | 0 => by rw [sm_0, sm_0, sm_0]; decide
  | n + 1 => by
    rw [sm_s, sm_s, sm_s, sm_add f g n]
    ac_rfl
theorem sm_zero (n : Nat) : sm (fun _ => 0) n = 0 := by
  induction n with
  | zero => exact sm_0 _
  | succ n ih => rw [sm_s, ih]; decide
theorem sm_one {k : Nat} : ∀ n, sm (fun i => if i = k then (1 : Int32) else 0) n = if k < n then 1 else 0
  | 0 => by rw [sm_0, if_neg (by omega)]
  | n + 1 => by
    rw [sm_s, sm_one n]
    by_cases e : n = k
    · rw [if_neg (by omega), if_pos e, if_pos (by omega)]; decide
    · rw [if_neg e]
      by_cases l : k < n
      · rw [if_pos l, if_pos (by omega)]; decide
      · rw [if_neg l, if_neg (by omega)]; decide
theorem passed_sm (M : Mm) : f_X7_passed M = sm (fun h => if gI M 55 h = 2 then (1 : Int32) else 0) (gI M 44 16).toNatClampNeg := rfl
/-! the steering -/
theorem mixC {A B A' B' : Mm} (h : Rmix A B) (ka : ∀ k j, k ≠ 16 → gI A' k j = gI A k j) (kb : ∀ k j, k ≠ 51 → gI B' k j = gI B k j) (h2 : ∀ s, gI A' 16 s = gI B' 51 s) (h4 : ∀ s, s < 4 → 0 ≤ (gI A' 16 s).toInt ∧ (gI A' 16 s).toInt ≤ 1000) (h5 : (gI A' 16 0).toInt + (gI A' 16 1).toInt ≤ 1000) : Rmix A' B' := by
  obtain ⟨a1, -, a3, -, -, a6, a7, a8, a9, a10, a11⟩ := h
  refine ⟨fun s k hs hk => ?_, h2, fun s k hs hk => ?_, h4, h5, ?_, ?_, ?_, ?_, ?_, ?_⟩
  · rw [ka _ _ (by omega), kb _ _ (by decide)]; exact a1 s k hs hk
  · rw [ka _ _ (by omega)]; exact a3 s k hs hk
  · rw [ka _ _ (by decide), kb _ _ (by decide)]; exact a6
  · rw [ka _ _ (by decide), kb _ _ (by decide)]; exact a7
  · rw [ka _ _ (by decide), kb _ _ (by decide)]; exact a8
  · rw [ka _ _ (by decide), kb _ _ (by decide)]; exact a9
  · rw [ka _ _ (by decide)]; exact a10
  · rw [ka _ _ (by decide)]; exact a11
abbrev mv (A : Mm) (u : Nat) : Int32 := if gI A 16 u < gI A 2 11 then gI A 16 u else gI A 2 11
theorem mv_rng {A B : Mm} (h : Rmix A B) {u : Nat} (hu : u < 4) : 0 ≤ (mv A u).toInt ∧ (mv A u).toInt ≤ (gI A 16 u).toInt := by
  obtain ⟨-, -, -, h4, -, -, -, -, -, -, h11⟩ := h
  have b := h4 u hu
  unfold mv
  by_cases c : gI A 16 u < gI A 2 11
  · rw [if_pos c]; omega
  · rw [if_neg c]
    have := Int32.le_iff_toInt_le.mp (Int32.not_lt.mp c)
    omega
theorem shift16 (A : Mm) (u v : Int32) (hn : u.toNatClampNeg ≠ v.toNatClampNeg) (s : Nat) : gI (f_X0_shift A u v).2 16 s = if s = v.toNatClampNeg then gI A 16 s + mv A u.toNatClampNeg else if s = u.toNatClampNeg then gI A 16 s - mv A u.toNatClampNeg else gI A 16 s := by
  show gI (m_X0_shift_2 A u v) 16 s = _
  rw [m_X0_shift_2, m_X0_shift_1, gI_sI]
  by_cases e : s = v.toNatClampNeg
  · rw [if_pos ⟨rfl, e⟩, if_pos e, gI_sI, if_neg (fun q => hn q.2.symm), e]
  · rw [if_neg (fun q => e q.2), if_neg e, gI_sI]
    by_cases e2 : s = u.toNatClampNeg
    · rw [if_pos ⟨rfl, e2⟩, if_pos e2, e2]
    · rw [if_neg (fun q => e2 q.2), if_neg e2]
