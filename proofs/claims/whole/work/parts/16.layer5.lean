theorem vin_nle {x y : Int32} {n : Nat} (h0 : 0 ≤ x) (h1 : ¬ y ≤ x) (hn : y.toInt ≤ n) : vp_in x n := by
  rw [vp_in_iff]
  have a1 := Int32.le_iff_toInt_le.mp h0
  have a2 : ¬ y.toInt ≤ x.toInt := fun q => h1 (Int32.le_iff_toInt_le.mpr q)
  have e0 : (0 : Int32).toInt = 0 := by decide
  rw [e0] at a1
  omega
theorem vin_l {x y : Int32} {n : Nat} (h0 : 0 ≤ x) (h1 : x < y) (hn : y.toInt ≤ n) : vp_in x n := vin_nle h0 (Int32.not_le.mpr h1) hn
theorem wi_rng {x l y : Int32} (h : ¬ f_X6_within x l y = 0) : l ≤ x ∧ x ≤ y := by
  unfold f_X6_within at h
  by_cases h1 : x < l
  · rw [if_pos h1] at h
    exact absurd rfl h
  · rw [if_neg h1] at h
    by_cases h2 : y < x
    · rw [if_pos h2] at h
      exact absurd rfl h
    · exact ⟨Int32.not_lt.mp h1, Int32.not_lt.mp h2⟩
theorem wi_in {x y : Int32} {n : Nat} (h : ¬ f_X6_within x 0 y = 0) (hn : y.toInt < n) : vp_in x n := vin2 (wi_rng h).1 (wi_rng h).2 hn
theorem wi_in' {x s : Int32} {n : Nat} (h : ¬ f_X6_within x 0 (s - 1) = 0) (h0 : 0 ≤ s) (hs : s ≤ Int32.ofNat n) (hn : n < 2 ^ 31) : vp_in x n := by
  obtain ⟨a1, a2⟩ := wi_rng h
  have b1 := Int32.le_iff_toInt_le.mp a1
  have b2 := Int32.le_iff_toInt_le.mp a2
  have b3 := Int32.le_iff_toInt_le.mp h0
  have b4 := Int32.le_iff_toInt_le.mp hs
  have e0 : (0 : Int32).toInt = 0 := by decide
  have e1 : (Int32.ofNat n).toInt = n := nI_toInt hn
  rw [e0] at b1 b3
  rw [e1] at b4
  rw [vp_in_iff]
  by_cases hz : s = 0
  · subst hz
    have : ((0 : Int32) - 1).toInt = -1 := by decide
    omega
  · have e2 : (s - 1).toInt = s.toInt - 1 := by
      rw [Int32.toInt_sub]
      have hs0 : s.toInt ≠ 0 := fun q => hz (Int32.toInt_inj.mp (by rw [q]; decide))
      have : (1 : Int32).toInt = 1 := by decide
      rw [this]
      have hlt := s.toInt_lt
      apply Int.bmod_eq_of_le <;> omega
    omega
theorem wi_in1 {x y : Int32} {n : Nat} (h : ¬ f_X6_within x 1 y = 0) (hn : y.toInt < n) : vp_in x n := vin2 (Int32.le_trans (by decide) (wi_rng h).1) (wi_rng h).2 hn
theorem cd_ne (a b : Int32) : ¬ f_X6_commonDivisor a b = 0 := by
  unfold f_X6_commonDivisor
  split
  · decide
  · rename_i h
    intro e
    rw [e] at h
    exact h (by decide)
theorem gI_addSums (M : Mm) (x y : Int32) (k j : Nat) : gI (f_X3_addSums M x y) k j = gI M k j := by
  simp only [f_X3_addSums, m_X3_addSums_1, gI_sJ]
theorem gI_setCause (M : Mm) (x y : Int32) (k j : Nat) : gI (f_X3_setCause M x y) k j = if k = 24 ∧ j = 5 then y else if k = 24 ∧ j = 4 then x else gI M k j := by
  simp only [f_X3_setCause, gI_sI]
theorem gI_findCause1 (M : Mm) (q : Int32) (k j : Nat) (h : ¬ (k = 24 ∧ j = 5)) (h' : ¬ (k = 24 ∧ j = 4)) : gI (m_X3_findCause_1 M q) k j = gI M k j := by
  unfold m_X3_findCause_1
  repeat' split
  all_goals rw [gI_setCause, if_neg h, if_neg h']
theorem gI_findCause (M : Mm) (q : Int32) (k j : Nat) (h : ¬ (k = 24 ∧ j = 5)) (h' : ¬ (k = 24 ∧ j = 4)) (h2 : ¬ (k = 3 ∧ j = 8)) : gI (f_X3_findCause M q) k j = gI M k j := by
  unfold f_X3_findCause
  repeat' split
  · rw [gI_findCause1 M q k j h h']
  · rw [gI_sI, if_neg h2, gI_findCause1 M q k j h h']
  · rw [gI_sI, if_neg h2, gI_findCause1 M q k j h h']
theorem gI_burn3 (M : Mm) (x y z : Int32) (k j : Nat) (h : ¬ (k = 3 ∧ j = 7)) : gI (m_X3_burn_3 M x y z) k j = gI (m_X3_burn_2 M x y z) k j := by
  unfold m_X3_burn_3
  repeat' split
  · rfl
  · rw [gI_sI, if_neg h]
  · rfl
theorem burn_grade (M : Mm) (x y z : Int32) : vp_in (gI (f_X3_burn M x y z).2 24 3) 3 := by
  have e1 : gI (f_X3_burn M x y z).2 24 3 = gI (m_X3_burn_2 M x y z) 24 3 := by
    unfold f_X3_burn
    rw [gI_sI, if_neg (by decide), gI_burn3 _ _ _ _ _ _ (by decide)]
  rw [e1]
  unfold m_X3_burn_2
  rw [gI_addSums, gI_findCause _ _ _ _ (by decide) (by decide) (by decide)]
  generalize sI (m_X3_burn_1 M y z) 20 0 (gI (m_X3_burn_1 M y z) 20 0 + x) = M1
  unfold f_X3_tellOut
  rw [gI_sI, if_pos ⟨rfl, rfl⟩]
  generalize (if (gI M1 22 3) = 0 then (0 : Int32) else ((gI M1 23 3) / (gI M1 22 3))) = w
  by_cases h1 : w < 60
  · rw [if_pos h1]
    by_cases h2 : w < 30
    · rw [if_pos h2]
      unfold vp_in; decide
    · rw [if_neg h2]
      unfold vp_in; decide
  · rw [if_neg h1]
    unfold vp_in; decide
theorem hh_rng {i n : Int32} (h : ¬ f_X6_hasHours i n = 0) (hn : ¬ n < 0) : ¬ i < 0 ∧ i.toNatClampNeg + n.toNatClampNeg ≤ 24 := by
  unfold f_X6_hasHours at h
  by_cases h1 : f_X6_within i 0 24 = 0
  · rw [if_pos h1] at h
    exact absurd rfl h
  · rw [if_neg h1] at h
    obtain ⟨a1, a2⟩ := wi_rng h1
    by_cases h2 : (24 : Int32) - i < n
    · rw [if_pos h2] at h
      exact absurd rfl h
    · refine ⟨Int32.not_lt.mpr a1, ?_⟩
      have b1 := Int32.le_iff_toInt_le.mp a1
      have b2 := Int32.le_iff_toInt_le.mp a2
      have b3 := Int32.le_iff_toInt_le.mp (Int32.not_lt.mp h2)
      have b4 := Int32.le_iff_toInt_le.mp (Int32.not_lt.mp hn)
      have e0 : (0 : Int32).toInt = 0 := by decide
      have e24 : (24 : Int32).toInt = 24 := by decide
      rw [e0] at b1 b4
      rw [e24] at b2
      have e2 : ((24 : Int32) - i).toInt = 24 - i.toInt := by
        rw [Int32.toInt_sub, e24]
        apply Int.bmod_eq_of_le <;> omega
      rw [e2] at b3
      show i.toInt.toNat + n.toInt.toNat ≤ 24
      omega
theorem ts_out5 {x : Int32} (h0 : ¬ x = 0) (h1 : ¬ x = 1) (h2 : ¬ x = 2) (h3 : ¬ x = 3) (h4 : ¬ x = 4) : x.toInt < 0 ∨ 4 < x.toInt := by
  have a0 : ¬ x.toInt = 0 := lv_neT h0 (by decide)
  have a1 : ¬ x.toInt = 1 := lv_neT h1 (by decide)
  have a2 : ¬ x.toInt = 2 := lv_neT h2 (by decide)
  have a3 : ¬ x.toInt = 3 := lv_neT h3 (by decide)
  have a4 : ¬ x.toInt = 4 := lv_neT h4 (by decide)
  omega
section LY8
variable {p : Program} {l : Launch} {e : Env} {R : Room} {s : State} {m : MethodId} {args : Array Value} {below : List Frame} {meth : Method} {c : Code} {cells slots : Nat} {Q : State → Prop} {D : va_G} {A : Nat → Prop} {ct : Nat → ClassId} {a : Nat → Nat} {nL : Nat} {M : Mm} {pc : Nat} {lv : List (Option Value)} {st : List Value} {cc : ByteArray} {own : String} {ret : Option FieldType}
theorem q_tsIn {x v : Int32} {dflt lo hi off : Int} {offs : Array Int} {len tgt : Nat} (C : Cx p s m args meth c cc nL own ret D A ct a) (hd : decode cc pc = .ok (.tableswitch dflt lo hi offs, len)) (hx : x = v) (h1 : ¬ v.toInt < lo) (h2 : ¬ hi < v.toInt) (ho : offs[(v.toInt - lo).toNat]? = some off) (ht : (pc : Int) + off = (tgt : Int)) (k : KW p l e R s m args below meth c cells slots Q D A ct a nL M tgt lv st) : KW p l e R s m args below meth c cells slots Q D A ct a nL M pc lv (.int x :: st) := fun H locs ls hP hS hl => by
  subst hx
  exact lv_tableIn C.1.1 C.1.2.1 hd h1 h2 ho ht (k H locs ls hP hS hl)
theorem q_tsOut {x : Int32} {dflt lo hi : Int} {offs : Array Int} {len tgt : Nat} (C : Cx p s m args meth c cc nL own ret D A ct a) (hd : decode cc pc = .ok (.tableswitch dflt lo hi offs, len)) (h : x.toInt < lo ∨ hi < x.toInt) (ht : (pc : Int) + dflt = (tgt : Int)) (k : KW p l e R s m args below meth c cells slots Q D A ct a nL M tgt lv st) : KW p l e R s m args below meth c cells slots Q D A ct a nL M pc lv (.int x :: st) := fun H locs ls hP hS hl =>
  lv_tableOut C.1.1 C.1.2.1 hd h ht (k H locs ls hP hS hl)
end LY8
