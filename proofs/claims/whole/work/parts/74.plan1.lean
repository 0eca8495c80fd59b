/-! the plan: one cell -/
abbrev NP : Int64 := (1152921504606846976 : Int64)
theorem lA (a b : Nat) : lN a + lN b = lN (a + b) := (Int64.ofNat_add a b).symm
theorem nA (a b : Nat) : nI a + nI b = nI (a + b) := (Int32.ofNat_add a b).symm
theorem lNlt63 {a b : Nat} (ha : a < 2 ^ 63) (hb : b < 2 ^ 63) : lN a < lN b ↔ a < b := by
  rw [Int64.lt_iff_toInt_lt, pf_lI ha, pf_lI hb]
  omega
theorem nI_lt' {a b : Nat} (ha : a < 2 ^ 31) (hb : b < 2 ^ 31) : nI a < nI b ↔ a < b := by
  rw [Int32.lt_iff_toInt_lt, nI_int ha, nI_int hb]
  omega
theorem nI_le' {a b : Nat} (ha : a < 2 ^ 31) (hb : b < 2 ^ 31) : nI a ≤ nI b ↔ a ≤ b := by
  rw [Int32.le_iff_toInt_le, nI_int ha, nI_int hb]
  omega
theorem NP_eq : NP = lN (2 ^ 60) := by decide +kernel
theorem or_bit {r h : Nat} (hh : h < 24) (hr : r < 2 ^ h) : nI r ||| ((1 : Int32) <<< (nI h &&& 31)) = nI (r + 2 ^ h) := by
  apply Int32.toBitVec_inj.mp
  have p : 2 ^ h < 2 ^ 24 := wb_lt2 hh
  rw [Int32.toBitVec_or, nf_sh h (by omega)]
  show BitVec.ofNat 32 r ||| BitVec.twoPow 32 h = BitVec.ofNat 32 (r + 2 ^ h)
  apply BitVec.eq_of_toNat_eq
  rw [BitVec.toNat_or, BitVec.toNat_twoPow, BitVec.toNat_ofNat, BitVec.toNat_ofNat, Nat.mod_eq_of_lt (show r < 2 ^ 32 by omega), Nat.mod_eq_of_lt (show 2 ^ h < 2 ^ 32 by omega), Nat.mod_eq_of_lt (show r + 2 ^ h < 2 ^ 32 by omega)]
  have e := Nat.two_pow_add_eq_or_of_lt hr 1
  rw [Nat.mul_one] at e
  rw [Nat.or_comm, ← e, Nat.add_comm]
theorem going_eq {p h : Nat} (hh : h < 24) (hp : p ≤ 1000) : ((nI p).toInt64 <<< (((24 : Int32)).toInt64 &&& 63)) + ((1 : Int64) <<< (((nI h)).toInt64 &&& 63)) = lN (p * 16777216 + 2 ^ h) := by
  have e1 : (nI p).toInt64 = lN p := by
    apply Int64.toInt_inj.mp
    rw [i64_int, nI_int (by omega), pf_lI (by omega)]
  have e2 : (nI p).toInt64 <<< (((24 : Int32)).toInt64 &&& 63) = lN (p * 2 ^ 24) := by
    rw [e1]
    exact wb_shl p (k := 24) (by decide)
  have e3 : (1 : Int64) <<< (((nI h)).toInt64 &&& 63) = lN (1 * 2 ^ h) := wb_shl 1 (k := h) (by omega)
  rw [e2, e3, lA, Nat.one_mul]
def Ec (n : Nat) (b : Int64) (c r : Int32) : Prop := (b = NP ∧ c = -9) ∨ ∃ cn rn : Nat, cn ≤ 1000 * n ∧ rn < 2 ^ n ∧ b = lN (cn * 16777216 + rn) ∧ c = nI cn ∧ r = nI rn
theorem Ec_up {n : Nat} {b : Int64} {c r : Int32} (h : Ec n b c r) : Ec (n + 1) b c r := by
  rcases h with h | ⟨cn, rn, h1, h2, h3⟩
  · exact Or.inl h
  · refine Or.inr ⟨cn, rn, by omega, ?_, h3⟩
    have := wb_lt2 (show n < n + 1 by omega)
    omega
abbrev more (c1 p : Int32) : Int32 := if 0 ≤ c1 then c1 + p else (-9 : Int32)
def TK (c0 r0 c1 r1 p bit : Int32) : Prop := ¬ more c1 p < 0 ∧ (c0 < 0 ∨ more c1 p < c0 ∨ (more c1 p = c0 ∧ ¬ r0 ≤ (r1 ||| bit)))
theorem NP_no {a : Nat} (h : a < 2 ^ 60) : ¬ lN a = NP := fun e => by
  have := congrArg Int64.toInt e
  rw [NP_eq, pf_lI (by omega), pf_lI (by decide)] at this
  omega
theorem lgNP {b : Int64} : lg_cmp b NP = 0 ↔ b = NP := by
  constructor
  · intro h
    have a1 := lg_le.mp (show lg_cmp b NP ≤ 0 by rw [h]; decide)
    have a2 : ¬ lg_cmp b NP < 0 := by rw [h]; decide
    rw [lg_lt] at a2
    exact Int64.toInt_inj.mp (by omega)
  · intro h
    rw [h]
    decide
theorem cell_step {h : Nat} (hh : h < 24) {b0 b1 : Int64} {c0 r0 c1 r1 : Int32} {p : Nat} (hp : p ≤ 1000) (e0 : Ec h b0 c0 r0) (e1 : Ec h b1 c1 r1) :
    (TK c0 r0 c1 r1 (nI p) ((1 : Int32) <<< (nI h &&& 31)) → Ec (h + 1) (if lg_cmp b1 NP = 0 then b0 else (if b1 + lN (p * 16777216 + 2 ^ h) < b0 then b1 + lN (p * 16777216 + 2 ^ h) else b0)) (more c1 (nI p)) (r1 ||| ((1 : Int32) <<< (nI h &&& 31)))) ∧
    (¬ TK c0 r0 c1 r1 (nI p) ((1 : Int32) <<< (nI h &&& 31)) → Ec (h + 1) (if lg_cmp b1 NP = 0 then b0 else (if b1 + lN (p * 16777216 + 2 ^ h) < b0 then b1 + lN (p * 16777216 + 2 ^ h) else b0)) c0 r0) := by
  have p24 : 2 ^ h < 2 ^ 24 := wb_lt2 hh
  have p24' : 2 ^ (h + 1) ≤ 2 ^ 24 := Nat.pow_le_pow_right (by decide) hh
  have ps : 2 ^ (h + 1) = 2 ^ h + 2 ^ h := by rw [Nat.pow_succ]; omega
  rcases e1 with ⟨q1, q2⟩ | ⟨cn, rn, q1, q2, q3, q4, q5⟩
  · have m : more c1 (nI p) = -9 := by
      unfold more
      rw [q2, if_neg (by decide)]
    constructor
    · intro t
      exact absurd (show more c1 (nI p) < 0 by rw [m]; decide) t.1
    · intro t
      rw [if_pos (lgNP.mpr q1)]
      exact Ec_up e0
  · have n1 : ¬ lg_cmp b1 NP = 0 := fun e => by
      have e := lgNP.mp e
      rw [q3] at e
      exact NP_no (by omega) e
    have m : more c1 (nI p) = nI (cn + p) := by
      unfold more
      rw [q4, if_pos (nI_ge0 (by omega)), nA]
    have ob : r1 ||| ((1 : Int32) <<< (nI h &&& 31)) = nI (rn + 2 ^ h) := by rw [q5]; exact or_bit hh q2
    have sb : b1 + lN (p * 16777216 + 2 ^ h) = lN ((cn + p) * 16777216 + (rn + 2 ^ h)) := by
      rw [q3, lA]
      exact congrArg lN (by omega)
    have mp : ¬ more c1 (nI p) < 0 := by
      rw [m]
      exact Int32.not_lt.mpr (nI_ge0 (by omega))
    rw [if_neg n1, sb, m, ob]
    have sm' : Ec (h + 1) (lN ((cn + p) * 16777216 + (rn + 2 ^ h))) (nI (cn + p)) (nI (rn + 2 ^ h)) := Or.inr ⟨cn + p, rn + 2 ^ h, by omega, by omega, rfl, rfl, rfl⟩
    rcases e0 with ⟨z1, z2⟩ | ⟨c2, r2, z1, z2, z3, z4, z5⟩
    · have lt : lN ((cn + p) * 16777216 + (rn + 2 ^ h)) < b0 := by
        rw [z1, NP_eq, lNlt63 (by omega) (by decide)]
        omega
      rw [if_pos lt]
      refine ⟨fun _ => sm', fun t => absurd ⟨mp, Or.inl (by rw [z2]; decide)⟩ t⟩
    · have cmp : lN ((cn + p) * 16777216 + (rn + 2 ^ h)) < b0 ↔ (cn + p) * 16777216 + (rn + 2 ^ h) < c2 * 16777216 + r2 := by
        rw [z3, lNlt63 (by omega) (by omega)]
      have nc : ¬ c0 < 0 := by rw [z4]; exact Int32.not_lt.mpr (nI_ge0 (by omega))
      have l1 : nI (cn + p) < c0 ↔ cn + p < c2 := by rw [z4, nI_lt' (by omega) (by omega)]
      have l2 : nI (cn + p) = c0 ↔ cn + p = c2 := by
        rw [z4]
        exact ⟨fun e => nI_inj (by omega) (by omega) e, fun e => by rw [e]⟩
      have l3 : r0 ≤ nI (rn + 2 ^ h) ↔ r2 ≤ rn + 2 ^ h := by rw [z5, nI_le' (by omega) (by omega)]
      have tk : TK c0 r0 c1 r1 (nI p) ((1 : Int32) <<< (nI h &&& 31)) ↔ (cn + p) * 16777216 + (rn + 2 ^ h) < c2 * 16777216 + r2 := by
        unfold TK
        rw [m, ob, l1, l2, l3]
        constructor
        · intro t
          rcases t.2 with t | t | t
          · exact absurd t nc
          · omega
          · omega
        · intro t
          refine ⟨by rw [← m]; exact mp, Or.inr ?_⟩
          omega
      constructor
      · intro t
        rw [if_pos (cmp.mpr (tk.mp t))]
        exact sm'
      · intro t
        rw [if_neg (fun q => t (tk.mpr (cmp.mp q)))]
        exact Ec_up (Or.inr ⟨c2, r2, z1, z2, z3, z4, z5⟩)
