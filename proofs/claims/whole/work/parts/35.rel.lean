/-! THE RELATION: the class's cells of X against the model's cells of Y -/
def Rheap (X Y : Mm) : Prop := (∀ p, gI X 7 p = gI Y 47 p) ∧ (∀ p, gI X 8 p = gI Y 48 p) ∧ (∀ p, gI X 9 p = gI Y 49 p) ∧ (∀ p, gI X 9 p = 0 ∨ gI X 9 p = 1) ∧ gI X 1 4 = gI Y 44 5 ∧ (0 ≤ (gI X 1 4).toInt ∧ (gI X 1 4).toInt ≤ 30) ∧ (∀ i, gI X 10 i = (if 0 ≤ gI Y 46 i then gI Y 46 i else 0 - gI Y 46 i) * 9) ∧ (∀ p, p < 10 → 0 ≤ (gI X 8 p).toInt ∧ (gI X 8 p).toInt ≤ 1000 * (gI X 1 4).toInt)
def Rtold (X Y : Mm) : Prop := gJ X 0 6 = gJ Y 44 3 ∧ gJ X 0 7 = gJ Y 44 4 ∧ gJ X 0 8 = gJ Y 44 2
def Rfound (X Y : Mm) : Prop := gI X 6 1 = gI Y 44 0 ∧ ∀ f, gI X 43 f = gI Y 45 f
def Rmix (X Y : Mm) : Prop := (∀ s k, s < 4 → k < 4 → gI X (12 + s) k = gI Y 50 (4 * s + k)) ∧ (∀ s, gI X 16 s = gI Y 51 s) ∧ (∀ s k, s < 4 → k < 4 → 0 ≤ (gI X (12 + s) k).toInt ∧ (gI X (12 + s) k).toInt ≤ 1000) ∧ (∀ s, s < 4 → 0 ≤ (gI X 16 s).toInt ∧ (gI X 16 s).toInt ≤ 1000) ∧ (gI X 16 0).toInt + (gI X 16 1).toInt ≤ 1000 ∧ gI X 2 8 = gI Y 44 12 ∧ gI X 2 9 = gI Y 44 13 ∧ gI X 2 10 = gI Y 44 14 ∧ gI X 2 11 = gI Y 44 15 ∧ (0 ≤ (gI X 2 10).toInt ∧ (gI X 2 10).toInt ≤ 5) ∧ (0 ≤ (gI X 2 11).toInt ∧ (gI X 2 11).toInt ≤ 100)
def Rcomes (x c w : Int32) : Prop := (x = -1 ∧ (¬ w = 0 ∨ c = 100000)) ∨ (x = c ∧ w = 0 ∧ 0 ≤ c.toInt ∧ c.toInt ≤ 205)
def Rhour (X Y : Mm) : Prop := gI X 2 5 = gI Y 44 16 ∧ (0 ≤ (gI X 2 5).toInt ∧ (gI X 2 5).toInt ≤ 200) ∧ gI X 2 6 = gI Y 44 21 ∧ (∀ h, h < (gI X 2 5).toNatClampNeg → (gI X 18 h).toInt64 = gJ Y 53 h ∧ (gI X 19 h).toInt64 = gJ Y 54 h) ∧ (∀ h, h < (gI X 2 5).toNatClampNeg → Rcomes (gI X 17 h) (gI Y 52 h) (gI Y 55 h)) ∧ gI X 2 7 = f_X7_passed Y
def Rkiln (X Y : Mm) : Prop := (∀ z, z < 4 → gI X 20 z = gI Y 56 z) ∧ (∀ z, z < 4 → gI X 21 z = gI Y 57 z) ∧ (∀ w, w < 7 → gI X 24 w = gI Y 60 w) ∧ (∀ w, w < 5 → gJ X 25 w = gJ Y 61 w) ∧ gI X 3 6 = gI Y 44 22 ∧ (0 ≤ (gI X 3 6).toInt ∧ (gI X 3 6).toInt ≤ 500) ∧ gI X 3 7 = gI Y 44 30 ∧ (gI X 3 7 = -9 ∨ 0 ≤ (gI X 3 7).toInt) ∧ gI X 3 8 = gI Y 44 23 ∧ (gI X 3 8 = 0 ∨ gI X 3 8 = 1)
def Rplan (X Y : Mm) : Prop := (∀ d, gI X 32 d = gI Y 67 d) ∧ (∀ d, gI X 32 d = 0 ∨ gI X 32 d = 1) ∧ (∀ d h, d < 7 → h < 24 → gI X (34 + d) h = gI Y 68 (24 * d + h)) ∧ (∀ d h, d < 7 → h < 24 → 0 ≤ (gI X (34 + d) h).toInt ∧ (gI X (34 + d) h).toInt ≤ 1000) ∧ (∀ h, gI X 41 h = gI Y 69 h) ∧ (∀ h, h < 24 → 0 ≤ (gI X 41 h).toInt ∧ (gI X 41 h).toInt ≤ 10000) ∧ gI X 5 4 = f_X7_counts Y (3 : Int32)
/-! the two sides' tests of a range are one function -/
theorem in_wi (x y z : Int32) : f_X7_in x y z = f_X6_within x y z := (congrArg id (show f_X7_in x y z = f_X6_within x y z from rfl) : _)
theorem ap_fw (x y z : Int32) : f_X7_areParts x y z = f_X6_fitWhole x y z := (congrArg id (show f_X7_areParts x y z = f_X6_fitWhole x y z from rfl) : _)
theorem ad_wi (x : Int32) : f_X7_isADay x = f_X6_within x 0 6 := (congrArg id (show f_X7_isADay x = f_X6_within x 0 6 from rfl) : _)
theorem wi_lt {x y : Int32} {n : Nat} (h : ¬ f_X6_within x 0 y = 0) (hn : y.toInt < n) : x.toNatClampNeg < n := vin_lt (wi_in h hn)
/-! reads -/
theorem sim_place {X Y : Mm} (h : Rheap X Y) (p w : Int32) : f_X6_place X p w = f_X7_place Y p w := by
  simp only [f_X6_place, f_X7_place, in_wi, f_X2_tonsOn, f_X2_limeOn, h.1, h.2.1]
theorem sim_shareOf {X Y : Mm} (h : Rmix X Y) (p : Int32) : f_X6_shareOf X p = f_X7_shareOf Y p := by
  simp only [f_X6_shareOf, f_X7_shareOf, in_wi, f_X0_sharesOf, h.2.1]
theorem sim_read {X Y : Mm} (h : Rhour X Y) : f_X6_read X = f_X7_read Y := h.2.2.1
theorem sim_passed {X Y : Mm} (h : Rhour X Y) : f_X6_passed X = f_X7_passed Y := h.2.2.2.2.2
theorem sim_first {X Y : Mm} (h : Rkiln X Y) : f_X6_first X = f_X7_first Y := h.2.2.2.2.2.2.1
theorem sim_upper {X Y : Mm} (h : Rtold X Y) : f_X6_upper X = f_X7_upper Y := h.1
theorem sim_lower {X Y : Mm} (h : Rtold X Y) : f_X6_lower X = f_X7_lower Y := h.2.1
theorem sim_asked {X Y : Mm} (h : Rtold X Y) : f_X6_asked X = f_X7_asked Y := h.2.2
theorem sim_finding {X Y : Mm} (h : Rfound X Y) : f_X6_finding X = f_X7_finding Y := h.1
theorem sim_findings {X Y : Mm} (h : Rfound X Y) (f : Int32) : f_X6_findings X f = f_X7_findings Y f := by
  simp only [f_X6_findings, f_X7_findings, in_wi, f_X1_times, h.2]
theorem sim_strokeSpread {X Y : Mm} (h : Rheap X Y) (i : Int32) : f_X6_strokeSpread X i = f_X7_strokeSpread Y i := by
  obtain ⟨-, -, -, -, h5, -, h7, -⟩ := h
  simp only [f_X6_strokeSpread, f_X7_strokeSpread, in_wi, f_X2_strokes, f_X2_spreadLaid, h5, h7, Int32.zero_sub]
  rw [Int32.mul_comm]
theorem sim_out {X Y : Mm} (h : Rkiln X Y) (w : Int32) : f_X6_out X w = f_X7_out Y w := by
  obtain ⟨-, -, h3, -, h5, -⟩ := h
  simp only [f_X6_out, f_X7_out, in_wi, f_X3_steps, f_X3_latest, h5]
  by_cases c : f_X6_within w 0 6 = 0
  · rw [if_pos c, if_pos c]
  · rw [if_neg c, if_neg c, h3 _ (wi_lt c (by decide))]
theorem kinds_eq {x : Int32} (h : vp_in x 4) : f_X3_kindOf x = f_X7_kindOf x := by
  rcases in4 h with e | e | e | e <;> rw [e] <;> decide
theorem sim_zone {X Y : Mm} (h : Rkiln X Y) (z w : Int32) : f_X6_zone X z w = f_X7_zone Y z w := by
  obtain ⟨h1, h2, -⟩ := h
  simp only [f_X6_zone, f_X7_zone, in_wi, f_X3_stuffIn, f_X3_heatIn]
  by_cases c : f_X6_within z 0 3 = 0
  · rw [if_pos c, if_pos c]
  · rw [if_neg c, if_neg c]
    by_cases c2 : f_X6_within w 0 2 = 0
    · rw [if_pos c2, if_pos c2]
    · rw [if_neg c2, if_neg c2, h1 _ (wi_lt c (by decide)), h2 _ (wi_lt c (by decide)), kinds_eq (wi_in c (by decide))]
      obtain ⟨a1, a2⟩ := wi_rng c2
      by_cases e2 : w = 2
      · subst e2
        rw [if_pos rfl, if_neg (by decide), if_neg (by decide)]
      · rw [if_neg e2]
        by_cases e0 : w = 0
        · rw [if_pos e0, if_pos e0]
        · rw [if_neg e0, if_neg e0]
          have e1 : w = 1 := by
            have b1 := Int32.le_iff_toInt_le.mp a1
            have b2 := Int32.le_iff_toInt_le.mp a2
            have n0 : ¬ w.toInt = 0 := lv_neT e0 (by decide)
            have n2 : ¬ w.toInt = 2 := lv_neT e2 (by decide)
            have z0 : (0 : Int32).toInt = 0 := by decide
            have z2 : (2 : Int32).toInt = 2 := by decide
            rw [z0] at b1
            rw [z2] at b2
            exact Int32.toInt_inj.mp (by rw [show (1 : Int32).toInt = 1 by decide]; omega)
          rw [if_pos e1]
