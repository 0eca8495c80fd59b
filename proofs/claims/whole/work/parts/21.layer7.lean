theorem wi7_rng {x l y : Int32} (h : ¬ f_X7_in x l y = 0) : l ≤ x ∧ x ≤ y := wi_rng h
theorem wi7_in {x y : Int32} {n : Nat} (h : ¬ f_X7_in x 0 y = 0) (hn : y.toInt < n) : vp_in x n := wi_in h hn
theorem wi7_in1 {x y : Int32} {n : Nat} (h : ¬ f_X7_in x 1 y = 0) (hn : y.toInt < n) : vp_in x n := wi_in1 h hn
theorem wi7_in' {x s : Int32} {n : Nat} (h : ¬ f_X7_in x 0 (s - 1) = 0) (h0 : 0 ≤ s) (hs : s ≤ Int32.ofNat n) (hn : n < 2 ^ 31) : vp_in x n := wi_in' h h0 hs hn
theorem vp_bnd {x : Int32} {n : Nat} (h : vp_in x n) : 0 ≤ x.toInt ∧ x.toInt < n := vp_in_iff.mp h
theorem clamp_int {x : Int32} (h : 0 ≤ x.toInt) : (x.toNatClampNeg : Int) = x.toInt := by
  show ((x.toInt.toNat : Nat) : Int) = x.toInt
  omega
theorem idx_mul {c x y : Int32} {a b : Nat} {cn : Nat} (hc : c.toInt = cn) (hx : vp_in x a) (hy : 0 ≤ y.toInt) (hyb : y.toInt < b) (hb : cn * a + b < 2 ^ 31) (hcb : b ≤ cn) : (c * x + y).toNatClampNeg = cn * x.toNatClampNeg + y.toNatClampNeg ∧ vp_in (c * x + y) (cn * a) := by
  obtain ⟨h1, h2⟩ := vp_bnd hx
  have hm : 0 ≤ (cn : Int) * x.toInt := Int.mul_nonneg (by omega) h1
  have hm2 : (cn : Int) * x.toInt ≤ cn * (a - 1) := Int.mul_le_mul_of_nonneg_left (by omega) (by omega)
  have hm3 : (cn : Int) * (a - 1) = cn * a - cn := by rw [Int.mul_sub, Int.mul_one]
  have hb' : (cn : Int) * a + b < 2 ^ 31 := by exact_mod_cast hb
  have e1 : (c * x).toInt = cn * x.toInt := by
    rw [Int32.toInt_mul, hc]
    apply Int.bmod_eq_of_le <;> omega
  have e2 : (c * x + y).toInt = cn * x.toInt + y.toInt := by
    rw [Int32.toInt_add, e1]
    apply Int.bmod_eq_of_le <;> omega
  have hcx := clamp_int h1
  have hcy := clamp_int hy
  refine ⟨?_, ?_⟩
  · have h3 : ((c * x + y).toNatClampNeg : Int) = (c * x + y).toInt := clamp_int (by rw [e2]; omega)
    have : ((c * x + y).toNatClampNeg : Int) = ((cn * x.toNatClampNeg + y.toNatClampNeg : Nat) : Int) := by
      rw [h3, e2]
      push_cast
      rw [hcx, hcy]
    exact_mod_cast this
  · rw [vp_in_iff, e2]
    have : ((cn * a : Nat) : Int) = cn * a := by push_cast; rfl
    rw [this]
    omega
theorem in4 {x : Int32} (h : vp_in x 4) : x = 0 ∨ x = 1 ∨ x = 2 ∨ x = 3 := by
  obtain ⟨h1, h2⟩ := vp_bnd h
  have e : x.toInt = 0 ∨ x.toInt = 1 ∨ x.toInt = 2 ∨ x.toInt = 3 := by omega
  rcases e with e | e | e | e
  · exact Or.inl (Int32.toInt_inj.mp (by rw [e]; decide))
  · exact Or.inr (Or.inl (Int32.toInt_inj.mp (by rw [e]; decide)))
  · exact Or.inr (Or.inr (Or.inl (Int32.toInt_inj.mp (by rw [e]; decide))))
  · exact Or.inr (Or.inr (Or.inr (Int32.toInt_inj.mp (by rw [e]; decide))))
theorem nI_int {i : Nat} (h : i < 2 ^ 31) : (nI i).toInt = i := nI_toInt h
theorem ix24 {x : Int32} {i : Nat} (hx : vp_in x 7) (hi : i < 24) : ((24 : Int32) * x + nI i).toNatClampNeg = 24 * x.toNatClampNeg + i := by
  have h := (idx_mul (c := 24) (cn := 24) (y := nI i) (b := 24) (by decide) hx (by rw [nI_int (by omega)]; omega) (by rw [nI_int (by omega)]; omega) (by decide) (by decide)).1
  rw [h, nI_clamp (by omega)]
theorem iv24 {x : Int32} {i : Nat} (hx : vp_in x 7) (hi : i < 24) : vp_in ((24 : Int32) * x + nI i) 168 :=
  (idx_mul (c := 24) (cn := 24) (y := nI i) (b := 24) (by decide) hx (by rw [nI_int (by omega)]; omega) (by rw [nI_int (by omega)]; omega) (by decide) (by decide)).2
theorem ix24y {x y : Int32} (hx : vp_in x 7) (hy : vp_in y 24) : ((24 : Int32) * x + y).toNatClampNeg = 24 * x.toNatClampNeg + y.toNatClampNeg :=
  (idx_mul (c := 24) (cn := 24) (y := y) (b := 24) (by decide) hx (vp_bnd hy).1 (vp_bnd hy).2 (by decide) (by decide)).1
theorem iv24y {x y : Int32} (hx : vp_in x 7) (hy : vp_in y 24) : vp_in ((24 : Int32) * x + y) 168 :=
  (idx_mul (c := 24) (cn := 24) (y := y) (b := 24) (by decide) hx (vp_bnd hy).1 (vp_bnd hy).2 (by decide) (by decide)).2
theorem ix4y {x y : Int32} (hx : vp_in x 4) (hy : vp_in y 4) : ((4 : Int32) * x + y).toNatClampNeg = 4 * x.toNatClampNeg + y.toNatClampNeg :=
  (idx_mul (c := 4) (cn := 4) (y := y) (b := 4) (by decide) hx (vp_bnd hy).1 (vp_bnd hy).2 (by decide) (by decide)).1
theorem iv4y {x y : Int32} (hx : vp_in x 4) (hy : vp_in y 4) : vp_in ((4 : Int32) * x + y) 16 :=
  (idx_mul (c := 4) (cn := 4) (y := y) (b := 4) (by decide) hx (vp_bnd hy).1 (vp_bnd hy).2 (by decide) (by decide)).2
theorem ix4i {i : Nat} {y : Int32} (hi : i < 4) (hy : vp_in y 4) : ((4 : Int32) * nI i + y).toNatClampNeg = 4 * i + y.toNatClampNeg := by
  rw [ix4y (vp_in_nI hi (by decide)) hy, nI_clamp (by omega)]
theorem ix4i0 {x : Int32} (hx : vp_in x 4) : ((4 : Int32) * x).toNatClampNeg = 4 * x.toNatClampNeg := by
  rcases in4 hx with h | h | h | h <;> rw [h] <;> decide
theorem iv4i0 {x : Int32} (hx : vp_in x 4) : vp_in ((4 : Int32) * x) 16 := by
  rcases in4 hx with h | h | h | h <;> rw [h] <;> (unfold vp_in; decide)
theorem nI_clampQ {i : Nat} (h : ¬ nI i = 0) (hi : i < 2 ^ 31) : (nI i - 1).toNatClampNeg = i - 1 := by
  have : 0 < i := by
    cases i with
    | zero => exact absurd (by decide) h
    | succ n => omega
  rw [nI_sub1 this, nI_clamp (by omega)]
theorem vinQ {i n : Nat} (h : ¬ nI i = 0) (hi : i ≤ n) (hn : n < 2 ^ 31) : vp_in (nI i - 1) n := by
  have : 0 < i := by
    cases i with
    | zero => exact absurd (by decide) h
    | succ n => omega
  rw [nI_sub1 this]
  exact vp_in_nI (by omega) hn
theorem pl_k {i : Nat} {X : Int32} (h : ¬ (if nI i = 0 then (-9 : Int32) else X) < 0) : ¬ nI i = 0 := fun e => h (by rw [if_pos e]; decide)
theorem lgne {x : Int64} (h : ¬ lg_cmp x 0 = 0) : ¬ x = 0 := fun e => h (by rw [e]; decide)
theorem st_in {c : Prop} [Decidable c] : vp_in (if c then (0 : Int32) else (1 : Int32)) 4 := by
  split <;> (unfold vp_in; decide)
theorem st_in' {c : Prop} [Decidable c] : vp_in ((1 : Int32) - (if c then (0 : Int32) else (1 : Int32))) 4 := by
  split <;> (unfold vp_in; decide)
