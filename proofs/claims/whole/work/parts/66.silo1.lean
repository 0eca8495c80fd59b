/-! silos: the relation -/
abbrev nl (Y : Mm) : Nat := (gI Y 44 31).toNatClampNeg
def Rlots (X Y : Mm) : Prop := (0 ≤ (gI Y 44 31).toInt ∧ (gI Y 44 31).toInt ≤ (gI X 3 6).toInt) ∧
  (∀ k, k < nl Y → 0 ≤ (gI Y 63 k).toInt ∧ (gI Y 63 k).toInt < (gI X 3 6).toInt) ∧
  (∀ k l, k < l → l < nl Y → (gI Y 63 k).toInt < (gI Y 63 l).toInt) ∧
  (∀ k, k < nl Y → gI X 26 (gI Y 63 k).toNatClampNeg = gI Y 62 k ∧ gI X 27 (gI Y 63 k).toNatClampNeg = gI Y 64 k) ∧
  (∀ t, (∃ k, k < nl Y ∧ (gI Y 63 k).toNatClampNeg = t) ∨ gI X 27 t = 0) ∧
  (∀ k, k < nl Y → (0 ≤ (gI Y 64 k).toInt ∧ (gI Y 64 k).toInt ≤ 500000) ∧ 0 ≤ (gI Y 62 k).toInt ∧ (gI Y 62 k).toInt ≤ 2) ∧
  (∀ s, s < 3 → gI X 28 s = f_X7_inSilo Y (nI s) 0 ∧ gI X 29 s = f_X7_inSilo Y (nI s) 1)
def Rbag (X Y : Mm) : Prop := gI X 4 6 = gI Y 44 35 ∧ (0 ≤ (gI X 4 6).toInt ∧ (gI X 4 6).toInt ≤ 500) ∧ ∀ i, i < (gI X 4 6).toNatClampNeg → gI X 30 i = gI Y 65 i ∧ gI X 31 i = gI Y 66 i
def Rstf (X : Mm) : Prop := (∀ z, z < 4 → 0 ≤ (gI X 20 z).toInt) ∧ (gI X 20 0).toInt + (gI X 20 1).toInt + (gI X 20 2).toInt + (gI X 20 3).toInt ≤ 1000 * (gI X 3 6).toInt
abbrev lotv (M : Mm) (u v : Int32) (i : Nat) : Int32 := if gI M 62 i = u then (if gI M 64 i = 0 then (0 : Int32) else (if v = 0 then gI M 64 i else (1 : Int32))) else (0 : Int32)
theorem inSilo_sm (M : Mm) (u v : Int32) : f_X7_inSilo M u v = sm (lotv M u v) (nl M) := rfl
theorem sm_upd {f g : Nat → Int32} {l : Nat} : ∀ n, l < n → (∀ i, i < n → i ≠ l → f i = g i) → sm f n = sm g n - g l + f l
  | 0, h, _ => absurd h (by omega)
  | n + 1, h, hh => by
    rw [sm_s, sm_s]
    by_cases e : l = n
    · subst e
      rw [sm_congr l (fun i hi => hh i (by omega) (by omega)), Int32.sub_eq_add_neg, Int32.add_assoc, Int32.add_assoc, ← Int32.add_assoc (g l), ← Int32.sub_eq_add_neg, Int32.sub_self, Int32.zero_add]
    · rw [sm_upd n (by omega) (fun i hi hl => hh i (by omega) hl), hh n (by omega) (fun q => e q.symm)]
      simp only [Int32.sub_eq_add_neg]
      ac_rfl
theorem clamp_eq (x : Int32) : x.toNatClampNeg = x.toInt.toNat := rfl
theorem clamp_inj {x y : Int32} (hx : 0 ≤ x.toInt) (hy : 0 ≤ y.toInt) (h : x.toNatClampNeg = y.toNatClampNeg) : x.toInt = y.toInt := by
  rw [clamp_eq, clamp_eq] at h
  omega
theorem lots_fr {A B A' B' : Mm} (h : Rlots A B) (ka : ∀ k j, (26 ≤ k ∧ k ≤ 29) ∨ (k = 3 ∧ j = 6) → gI A' k j = gI A k j) (kb : ∀ k j, (62 ≤ k ∧ k ≤ 64) ∨ (k = 44 ∧ j = 31) → gI B' k j = gI B k j) : Rlots A' B' := by
  obtain ⟨h1, h2, h3, h4, h5, h6, h7⟩ := h
  have e1 : gI A' 3 6 = gI A 3 6 := ka _ _ (by omega)
  have e2 : gI B' 44 31 = gI B 44 31 := kb _ _ (by omega)
  have e3 : nl B' = nl B := by unfold nl; rw [e2]
  have ei : ∀ s v, f_X7_inSilo B' s v = f_X7_inSilo B s v := fun s v => by
    rw [inSilo_sm, inSilo_sm, e3]
    exact sm_congr _ (fun i hi => by unfold lotv; rw [kb 62 i (by omega), kb 64 i (by omega)])
  refine ⟨by rw [e1, e2]; exact h1, fun k hk => ?_, fun k l hk hl => ?_, fun k hk => ?_, fun t => ?_, fun k hk => ?_, fun s hs => ?_⟩
  · rw [e3] at hk
    rw [e1, kb 63 k (by omega)]; exact h2 k hk
  · rw [e3] at hl
    rw [kb 63 k (by omega), kb 63 l (by omega)]; exact h3 k l hk hl
  · rw [e3] at hk
    rw [kb 63 k (by omega), kb 62 k (by omega), kb 64 k (by omega), ka _ _ (by omega), ka _ _ (by omega)]; exact h4 k hk
  · rw [ka _ _ (by omega)]
    rcases h5 t with ⟨k, q1, q2⟩ | q
    · exact Or.inl ⟨k, by rw [e3]; exact q1, by rw [kb 63 k (by omega)]; exact q2⟩
    · exact Or.inr q
  · rw [e3] at hk
    rw [kb 64 k (by omega), kb 62 k (by omega)]; exact h6 k hk
  · rw [ka _ _ (by omega), ka _ _ (by omega), ei, ei]; exact h7 s hs
theorem bag_fr {A B A' B' : Mm} (h : Rbag A B) (ka : ∀ k j, k = 30 ∨ k = 31 ∨ (k = 4 ∧ j = 6) → gI A' k j = gI A k j) (kb : ∀ k j, k = 65 ∨ k = 66 ∨ (k = 44 ∧ j = 35) → gI B' k j = gI B k j) : Rbag A' B' := by
  obtain ⟨h1, h2, h3⟩ := h
  have e1 : gI A' 4 6 = gI A 4 6 := ka _ _ (by omega)
  refine ⟨by rw [e1, kb _ _ (by omega)]; exact h1, by rw [e1]; exact h2, fun i hi => ?_⟩
  rw [e1] at hi
  rw [ka _ _ (by omega), ka _ _ (by omega), kb _ _ (by omega), kb _ _ (by omega)]
  exact h3 i hi
theorem stf_fr {A A' : Mm} (h : Rstf A) (ka : ∀ k j, k = 20 ∨ (k = 3 ∧ j = 6) → gI A' k j = gI A k j) : Rstf A' := by
  obtain ⟨h1, h2⟩ := h
  refine ⟨fun z hz => by rw [ka _ _ (by omega)]; exact h1 z hz, ?_⟩
  rw [ka _ _ (by omega), ka _ _ (by omega), ka _ _ (by omega), ka _ _ (by omega), ka _ _ (by omega)]
  exact h2
/-! silos: reads -/
theorem w3 {s : Int32} (h : ¬ f_X6_within s 0 2 = 0) : s.toNatClampNeg < 3 ∧ nI s.toNatClampNeg = s := ⟨wi_lt h (by decide), nI_of_clamp (wi_rng h).1⟩
theorem sim_silo {X Y : Mm} (h : Rlots X Y) (s w : Int32) : f_X6_silo X s w = f_X7_silo Y s w := by
  rw [f_X6_silo, f_X7_silo, in_wi, in_wi]
  by_cases c : f_X6_within s 0 2 = 0
  · rw [if_pos c, if_pos c]
  rw [if_neg c, if_neg c]
  by_cases c2 : f_X6_within w 0 1 = 0
  · rw [if_pos c2, if_pos c2]
  rw [if_neg c2, if_neg c2, f_X5_tonsIn, f_X5_lotsIn]
  obtain ⟨n3, e3⟩ := w3 c
  obtain ⟨a1, a2⟩ := h.2.2.2.2.2.2 _ n3
  rw [e3] at a1 a2
  rw [a1, a2]
  have r := rng_int c2
  rw [show (0 : Int32).toInt = 0 by decide, show (1 : Int32).toInt = 1 by decide] at r
  by_cases e : w = 0
  · rw [if_pos e, if_neg (by rw [e]; decide)]
  · have e1 : w = 1 := by
      have n0 : ¬ w.toInt = 0 := lv_neT e (by decide)
      exact Int32.toInt_inj.mp (by rw [show (1 : Int32).toInt = 1 by decide]; omega)
    rw [if_neg e, if_pos e1]
theorem sim_lot {X Y : Mm} (h : Rbag X Y) (i w : Int32) : f_X6_lot X i w = f_X7_lot Y i w := by
  obtain ⟨h1, h2, h3⟩ := h
  rw [f_X6_lot, f_X7_lot, in_wi, in_wi, f_X5_lotsInBag, ← h1]
  by_cases c2 : f_X6_within w 0 1 = 0
  · rw [if_pos c2, if_pos c2]
  rw [if_neg c2, if_neg c2]
  by_cases c : f_X6_within i 0 (gI X 4 6 - 1) = 0
  · rw [if_pos c, if_pos c]
  rw [if_neg c, if_neg c, f_X5_stepInBag, f_X5_tonsInBag]
  have r := rng_int c
  have e : (gI X 4 6 - 1).toInt = (gI X 4 6).toInt - 1 := by
    rw [Int32.toInt_sub, show (1 : Int32).toInt = 1 by decide]
    apply Int.bmod_eq_of_le <;> omega
  rw [e, show (0 : Int32).toInt = 0 by decide] at r
  obtain ⟨b1, b2⟩ := h3 i.toNatClampNeg (by rw [clamp_eq, clamp_eq]; omega)
  rw [b1, b2]
