/-! the start: the memory, and that both sides agree in it -/
def M0 : Mm := (fun k j => if k = 2 then (if j = 6 then -9 else if j = 8 then 3 else if j = 9 then 1 else if j = 10 then 1 else if j = 11 then 10 else 0) else if k = 3 then (if j = 7 then -9 else 0) else if k = 44 then (if j = 12 then 3 else if j = 13 then 1 else if j = 14 then 1 else if j = 15 then 10 else if j = 21 then -9 else if j = 30 then -9 else 0) else if k = 12 then flF 4 250 (fun _ => 0) j else if k = 13 then flF 4 250 (fun _ => 0) j else if k = 14 then flF 4 250 (fun _ => 0) j else if k = 15 then flF 4 250 (fun _ => 0) j else if k = 16 then flF 4 250 (fun _ => 0) j else if k = 50 then flF 16 250 (fun _ => 0) j else if k = 51 then flF 4 250 (fun _ => 0) j else 0,
  fun k j => if k = 0 then (if j = 7 then 1 else 0) else if k = 44 then (if j = 4 then 1 else 0) else 0)
theorem fl_in {i j : Nat} {v : Int32} {f : Nat → Int32} (h : j < i) : flF i v f j = v := by rw [flF, if_pos h]
theorem RX_0 : RX M0 M0 := by
  have e12 : ∀ s k, s < 4 → k < 4 → gI M0 (12 + s) k = 250 := fun s k hs hk => by
    rcases (show s = 0 ∨ s = 1 ∨ s = 2 ∨ s = 3 by omega) with e | e | e | e <;> subst e <;> exact (show flF 4 250 (fun _ => 0) k = 250 from fl_in hk)
  have e50 : ∀ k, k < 16 → gI M0 50 k = 250 := fun k hk => (show flF 16 250 (fun _ => 0) k = 250 from fl_in hk)
  have e16 : ∀ k, k < 4 → gI M0 16 k = 250 := fun k hk => (show flF 4 250 (fun _ => 0) k = 250 from fl_in hk)
  have n0 : ∀ {h : Nat}, ¬ h < (gI M0 2 5).toNatClampNeg := fun {h} q => absurd q (Nat.not_lt_zero h)
  have l0 : ∀ {h : Nat}, ¬ h < nl M0 := fun {h} q => absurd q (Nat.not_lt_zero h)
  have b0 : ∀ {h : Nat}, ¬ h < (gI M0 4 6).toNatClampNeg := fun {h} q => absurd q (Nat.not_lt_zero h)
  refine ⟨⟨fun _ => rfl, fun _ => rfl, fun _ => rfl, fun _ => Or.inl rfl, rfl, by decide, fun i => ?_, fun p hp => ?_⟩, ⟨rfl, rfl, rfl⟩, ⟨rfl, fun _ => rfl⟩, ⟨fun s k hs hk => ?_, fun _ => rfl, fun s k hs hk => ?_, fun s hs => ?_, ?_, rfl, rfl, rfl, rfl, by decide, by decide⟩, ⟨rfl, by decide, rfl, fun h hh => absurd hh n0, fun h hh => absurd hh n0, ?_⟩, ⟨fun _ _ => rfl, fun _ _ => rfl, fun _ _ => rfl, fun _ _ => rfl, rfl, by decide, rfl, Or.inl rfl, rfl, Or.inl rfl⟩, ⟨fun _ => rfl, fun _ => Or.inl rfl, fun d h hd hh => ?_, fun d h hd hh => ?_, fun _ => rfl, fun h hh => ?_, ?_⟩, ⟨by decide, fun k hk => absurd hk l0, fun k l _ hl => absurd hl l0, fun k hk => absurd hk l0, fun t => Or.inr rfl, fun k hk => absurd hk l0, fun s hs => ?_⟩, ⟨rfl, by decide, fun i hi => absurd hi b0⟩, ⟨fun z hz => ?_, ?_⟩⟩
  · show (0 : Int32) = (if (0 : Int32) ≤ 0 then (0 : Int32) else 0 - 0) * 9
    decide
  · show 0 ≤ (0 : Int32).toInt ∧ (0 : Int32).toInt ≤ 1000 * (0 : Int32).toInt
    decide
  · rw [e12 s k hs hk, e50 _ (by omega)]
  · rw [e12 s k hs hk]; decide
  · rw [e16 s hs]; decide
  · rw [e16 0 (by decide), e16 1 (by decide)]; decide
  · rw [passed_sm]
    exact (sm_0 _).symm
  · rcases (show d = 0 ∨ d = 1 ∨ d = 2 ∨ d = 3 ∨ d = 4 ∨ d = 5 ∨ d = 6 by omega) with e | e | e | e | e | e | e <;> subst e <;> rfl
  · rcases (show d = 0 ∨ d = 1 ∨ d = 2 ∨ d = 3 ∨ d = 4 ∨ d = 5 ∨ d = 6 by omega) with e | e | e | e | e | e | e <;> subst e <;> exact (show 0 ≤ (0 : Int32).toInt ∧ (0 : Int32).toInt ≤ 1000 by decide)
  · exact (show 0 ≤ (0 : Int32).toInt ∧ (0 : Int32).toInt ≤ 10000 by decide)
  · rw [f_X7_counts, if_neg (by decide), if_neg (by decide), if_neg (by decide), if_pos rfl]
    refine (itr_id 7 (fun i _ z => ?_) 0).symm
    rw [b_X7_counts_1, if_pos (show gI M0 67 i = 0 from rfl), Int32.add_zero]
  · rw [inSilo_sm, inSilo_sm]
    exact ⟨(sm_0 _).symm, (sm_0 _).symm⟩
  · exact (show 0 ≤ (0 : Int32).toInt by decide)
  · exact (show (0 : Int32).toInt + (0 : Int32).toInt + (0 : Int32).toInt + (0 : Int32).toInt ≤ 1000 * (0 : Int32).toInt by decide)
def aL (q6 : Nat) (r6 : Nat → Nat) (q7 : Nat) (r7 : Nat → Nat) : Nat → Nat := fun k => [q6, r6 0, r6 5, r6 15, r6 22, r6 29, r6 41, r6 1, r6 2, r6 3, r6 4, r6 6, r6 11, r6 12, r6 13, r6 14, r6 10, r6 7, r6 8, r6 9, r6 16, r6 17, r6 18, r6 19, r6 20, r6 21, r6 23, r6 24, r6 25, r6 26, r6 27, r6 28, r6 30, r6 31, r6 32, r6 33, r6 34, r6 35, r6 36, r6 37, r6 38, r6 39, r6 40, r6 42, q7, r7 0, r7 1, r7 2, r7 3, r7 4, r7 5, r7 6, r7 7, r7 8, r7 9, r7 10, r7 11, r7 12, r7 13, r7 14, r7 15, r7 16, r7 17, r7 18, r7 19, r7 20, r7 21, r7 22, r7 23, r7 24, r7 25, r7 26, r7 27].getD k 0
def piL : List Nat := [0, 1, 6, 16, 23, 30, 42, 2, 3, 4, 5, 7, 12, 13, 14, 15, 11, 8, 9, 10, 17, 18, 19, 20, 21, 22, 24, 25, 26, 27, 28, 29, 31, 32, 33, 34, 35, 36, 37, 38, 39, 40, 41, 43, 44, 45, 46, 47, 48, 49, 50, 51, 52, 53, 54, 55, 56, 57, 58, 59, 60, 61, 62, 63, 64, 65, 66, 67, 68, 69, 70, 71, 72]
theorem wd_all {D : va_G} {ct : Nat → ClassId} {a : Nat → Nat} {M : Mm} {H : Heap} (h : ∀ k x, SH[k]? = some x → va_at D vwCl (a k, ce ct a M k x) H) : va_P D vwCl (wd ct a M) H := fun k q hk => by
  simp only [wd, List.getElem?_mapIdx] at hk
  cases hx : SH[k]? with
  | none => rw [hx] at hk; cases hk
  | some x => rw [hx] at hk; cases hk; exact h k x hx
theorem aL_rows11 (q6 : Nat) (r6 : Nat → Nat) (q7 : Nat) (r7 : Nat → Nat) : (fun i => if i < 4 then some (r6 (11 + i)) else none) = (fun i => if i < 4 then some (aL q6 r6 q7 r7 (12 + i)) else none) := by
  funext i
  by_cases h : i < 4
  · rcases (show i = 0 ∨ i = 1 ∨ i = 2 ∨ i = 3 by omega) with rfl | rfl | rfl | rfl <;> rfl
  · rw [if_neg h, if_neg h]
theorem aL_rows33 (q6 : Nat) (r6 : Nat → Nat) (q7 : Nat) (r7 : Nat → Nat) : (fun i => if i < 7 then some (r6 (32 + i)) else none) = (fun i => if i < 7 then some (aL q6 r6 q7 r7 (34 + i)) else none) := by
  funext i
  by_cases h : i < 7
  · rcases (show i = 0 ∨ i = 1 ∨ i = 2 ∨ i = 3 ∨ i = 4 ∨ i = 5 ∨ i = 6 by omega) with rfl | rfl | rfl | rfl | rfl | rfl | rfl <;> rfl
  · rw [if_neg h, if_neg h]
