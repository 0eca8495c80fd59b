/-! the plan: the loops -/
def Ip (X Y : Mm) (h k : Nat) (z w : Mm) : Prop := k ≤ h + 2 ∧ (∀ q, q < 25 → Ec (if k ≤ q then h + 1 else h) (gJ z 42 q) (gI w 71 q) (gI w 72 q)) ∧ (∀ a b, gI z a b = gI X a b) ∧ (∀ a b, a ≠ 71 → a ≠ 72 → gI w a b = gI Y a b)
theorem ip_step {X Y z1 : Mm} {d r : Int32} {h k p : Nat} (hh : h < 24) (hp : p ≤ 1000) (ep : gI Y 68 (24 * d.toNatClampNeg + h) = nI p) (eg : gI z1 (34 + d.toNatClampNeg) h = nI p) (en : gI X 41 h = gI Y 69 h) {z w : Mm} (hz : Ip X Y h (k + 1) z w) : Ip X Y h k (b_X4_cheapest_2 d r h z1 k z) (b_X7_plan_3 d r h k w) := by
  obtain ⟨a0, a1, a2, a3⟩ := hz
  have e0 := a1 k (by omega)
  rw [if_neg (by omega)] at e0
  have e1 : k ≠ 0 → Ec h (gJ z 42 (k - 1)) (gI w 71 (k - 1)) (gI w 72 (k - 1)) := fun k0 => by
    have e := a1 (k - 1) (by omega)
    rw [if_neg (by omega)] at e
    exact e
  obtain ⟨c1, c2, c3, c4⟩ := cells (z1 := z1) (d := d) (r := r) hh (show k ≤ 24 by omega) hp (by rw [a3 68 _ (by decide) (by decide)]; exact ep) eg (by rw [a2, a3 69 _ (by decide) (by decide)]; exact en) e0 e1
  refine ⟨by omega, fun q hq => ?_, fun a b => ?_, fun a b q1 q2 => ?_⟩
  · by_cases e : q = k
    · rw [e, if_pos (Nat.le_refl _)]
      exact c1
    · rw [c2 q e, c3 q e, c4 q e]
      have v := a1 q hq
      by_cases l : k ≤ q
      · rw [if_pos l]
        rw [if_pos (by omega)] at v
        exact v
      · rw [if_neg l]
        rw [if_neg (by omega)] at v
        exact v
  · rw [ch2_I]
    exact a2 a b
  · rw [fr_b_X7_plan_3 d r h k w a b ⟨q1, q2⟩]
    exact a3 a b q1 q2
theorem ip_hour {X Y : Mm} {d r : Int32} {h p : Nat} (hh : h < 24) (hp : p ≤ 1000) (ep : gI Y 68 (24 * d.toNatClampNeg + h) = nI p) (eg : gI X (34 + d.toNatClampNeg) h = nI p) (en : gI X 41 h = gI Y 69 h) {z w : Mm} (e0 : ∀ q, q < 25 → Ec h (gJ z 42 q) (gI w 71 q) (gI w 72 q)) (a2 : ∀ a b, gI z a b = gI X a b) (a3 : ∀ a b, a ≠ 71 → a ≠ 72 → gI w a b = gI Y a b) : (∀ q, q < 25 → Ec (h + 1) (gJ (b_X4_cheapest_1 d r h z) 42 q) (gI (b_X7_plan_2 d r h w) 71 q) (gI (b_X7_plan_2 d r h w) 72 q)) ∧ (∀ a b, gI (b_X4_cheapest_1 d r h z) a b = gI X a b) ∧ (∀ a b, a ≠ 71 → a ≠ 72 → gI (b_X7_plan_2 d r h w) a b = gI Y a b) := by
  have key := itd_rel (f := b_X4_cheapest_2 d r h z) (g := b_X7_plan_3 d r h) (Ip X Y h) (fun k z' w' hz => ip_step (z1 := z) hh hp ep (by rw [a2]; exact eg) en hz) (h + 2) z w ⟨Nat.le_refl _, fun q hq => by
    by_cases l : h + 2 ≤ q
    · rw [if_pos l]; exact Ec_up (e0 q hq)
    · rw [if_neg l]; exact e0 q hq, a2, a3⟩
  rw [b_X4_cheapest_1, b_X7_plan_2, l_X7_plan_3]
  generalize itd (b_X4_cheapest_2 d r h z) (h + 2) z = A at key
  generalize itd (b_X7_plan_3 d r h) (h + 2) w = B at key
  obtain ⟨-, k1, k2, k3⟩ := key
  exact ⟨fun q hq => by
    have v := k1 q hq
    rw [if_pos (by omega)] at v
    exact v, k2, k3⟩
def cZ (X : Mm) (d r : Int32) : Mm := l_X4_cheapest_1 d r (sJ (f_J7_fill_d0a16 X 42 25 (1152921504606846976 : Int64)) 42 0 (0 : Int64))
def cW (Y : Mm) (d r : Int32) : Mm := l_X7_plan_2 d r (l_X7_plan_1 Y)
theorem pl1 (Y : Mm) : ∀ n, n ≤ 25 → ∀ q, gI (itr b_X7_plan_1 n Y) 71 q = (if q < n then (if q = 0 then (0 : Int32) else (-9 : Int32)) else gI Y 71 q) ∧ gI (itr b_X7_plan_1 n Y) 72 q = (if q < n then (0 : Int32) else gI Y 72 q) := by
  intro n
  induction n with
  | zero => exact fun _ q => by rw [itr_0, if_neg (by omega), if_neg (by omega)]; exact ⟨rfl, rfl⟩
  | succ n ih =>
    intro hn q
    rw [itr_s, b_X7_plan_1]
    obtain ⟨i1, i2⟩ := ih (by omega) q
    by_cases e : q = n
    · rw [gI_ne (k := 71) (k2 := 72) (by decide), gI_q e, gI_q e, if_pos (show q < n + 1 by omega), if_pos (show q < n + 1 by omega)]
      refine ⟨?_, rfl⟩
      have zz := nI_eq0 (k := n) (by omega)
      by_cases z : q = 0
      · rw [if_pos (zz.mpr (by omega)), if_pos z]
      · rw [if_neg z, if_neg (fun r => z (by have := zz.mp r; omega))]
    · rw [gI_ne (k := 71) (k2 := 72) (by decide), gI_qn e, gI_qn e, gI_ne (k := 72) (k2 := 71) (by decide), i1, i2]
      by_cases l : q < n
      · rw [if_pos l, if_pos l, if_pos (show q < n + 1 by omega), if_pos (show q < n + 1 by omega)]
        exact ⟨rfl, rfl⟩
      · rw [if_neg l, if_neg l, if_neg (show ¬ q < n + 1 by omega), if_neg (show ¬ q < n + 1 by omega)]
        exact ⟨rfl, rfl⟩
theorem ip_all {X Y : Mm} (h : Rplan X Y) {d : Int32} (hd : d.toNatClampNeg < 7) (r : Int32) : (∀ q, q < 25 → Ec 24 (gJ (cZ X d r) 42 q) (gI (cW Y d r) 71 q) (gI (cW Y d r) 72 q)) ∧ (∀ a b, gI (cZ X d r) a b = gI X a b) ∧ (∀ a b, a ≠ 71 → a ≠ 72 → gI (cW Y d r) a b = gI Y a b) := by
  obtain ⟨h1, h2, h3, h4, h5, h6, h7⟩ := h
  have key := itr_rel (f := b_X4_cheapest_1 d r) (g := b_X7_plan_2 d r) (N := 24) (fun i z w => (∀ q, q < 25 → Ec i (gJ z 42 q) (gI w 71 q) (gI w 72 q)) ∧ (∀ a b, gI z a b = gI X a b) ∧ (∀ a b, a ≠ 71 → a ≠ 72 → gI w a b = gI Y a b)) (fun i z w hi hz => by
    obtain ⟨a1, a2, a3⟩ := hz
    have b4 := h4 d.toNatClampNeg i hd hi
    have ep : gI X (34 + d.toNatClampNeg) i = nI (gI X (34 + d.toNatClampNeg) i).toNatClampNeg := (nI_of_clamp (by rw [Int32.le_iff_toInt_le]; exact b4.1)).symm
    exact ip_hour (p := (gI X (34 + d.toNatClampNeg) i).toNatClampNeg) hi (by rw [clamp_eq]; omega) (by rw [← h3 d.toNatClampNeg i hd hi]; exact ep) ep (h5 i) a1 a2 a3)
    (z := sJ (f_J7_fill_d0a16 X 42 25 (1152921504606846976 : Int64)) 42 0 (0 : Int64)) (w := itr b_X7_plan_1 25 Y) ⟨fun q hq => by
      obtain ⟨p1, p2⟩ := pl1 Y 25 (Nat.le_refl _) q
      rw [if_pos hq] at p1 p2
      rw [p1, p2]
      by_cases e : q = 0
      · rw [e, gJ_at, if_pos rfl]
        exact Or.inr ⟨0, 0, by omega, by decide, by decide, by decide, by decide⟩
      · rw [gJ_off 42 q (fun r => e r.2), fillJ_at, if_pos hq, if_neg e]
        exact Or.inl ⟨rfl, rfl⟩, fun a b => by rw [gI_sJ, fr_fillJ], fun a b q1 q2 => itr_keepI (fun i z => fr_b_X7_plan_1 i z a b ⟨q1, q2⟩) 25 Y⟩ 24 (Nat.le_refl _)
  exact key
/-! the plan: the least price -/
theorem price_lN {a : Nat} (h : a < 2 ^ 62) : f_X4_priceOf (lN a) = lN (a / 16777216) := by
  rw [f_X4_priceOf]
  exact pf_shr (d := 24) (by decide) h
theorem bits_lN {a : Nat} (h : a < 2 ^ 62) : f_X4_bitsOf (lN a) = nI (a % 16777216) := by
  rw [f_X4_bitsOf]
  have e : lN a &&& (16777215 : Int64) = lN (a % 2 ^ 24) := wb_mask (k := 24) (by omega) (by decide)
  rw [e]
  exact lN_i _
def bW (W : Mm) (i : Nat) (z : Int32) : Int32 := if gI W 71 i < 0 then z else (if z < 0 then nI i else (if gI W 71 z.toNatClampNeg ≤ gI W 71 i then z else nI i))
def Il (Z W : Mm) (a : Int64) (b : Int32) : Prop := (a = NP ∧ b = -9) ∨ ∃ m cn rn : Nat, m < 25 ∧ b = nI m ∧ cn ≤ 24000 ∧ rn < 16777216 ∧ a = lN (cn * 16777216 + rn) ∧ gI W 71 m = nI cn ∧ gI W 72 m = nI rn
theorem il_all {Z W : Mm} (hE : ∀ q, q < 25 → Ec 24 (gJ Z 42 q) (gI W 71 q) (gI W 72 q)) : Il Z W (itr (b_X4_leastPrice_1 Z) 25 NP) (itr (bW W) 25 (-9)) :=
  itr_rel (f := b_X4_leastPrice_1 Z) (g := bW W) (N := 25) (fun _ => Il Z W) (fun i a b hi hz => by
    have pNP : f_X4_priceOf NP = lN (2 ^ 36) := by
      rw [NP_eq, price_lN (by decide)]
    rw [b_X4_leastPrice_1, bW]
    rcases hE i hi with ⟨e1, e2⟩ | ⟨cn, rn, q1, q2, q3, q4, q5⟩
    · rw [e1, e2, if_pos (show (-9 : Int32) < 0 by decide), pNP]
      have c : 0 ≤ lg_cmp (lN (2 ^ 36)) (f_X4_priceOf a) := by
        rw [← Int32.not_lt, lg_lt]
        rcases hz with ⟨z1, z2⟩ | ⟨m, c2, r2, z1, z2, z3, z4, z5, z6, z7⟩
        · rw [z1, pNP]; omega
        · rw [z5, price_lN (by omega), pf_lI (by decide), pf_lI (by omega)]
          omega
      rw [if_pos c]
      exact hz
    · have pi : f_X4_priceOf (gJ Z 42 i) = lN cn := by
        rw [q3, price_lN (by omega)]
        exact congrArg lN (by omega)
      have ni : ¬ gI W 71 i < 0 := by rw [q4]; exact Int32.not_lt.mpr (nI_ge0 (by omega))
      have take : Il Z W (gJ Z 42 i) (nI i) := Or.inr ⟨i, cn, rn, hi, rfl, by omega, by omega, q3, q4, q5⟩
      rw [if_neg ni, pi]
      rcases hz with ⟨z1, z2⟩ | ⟨m, c2, r2, z1, z2, z3, z4, z5, z6, z7⟩
      · have c : ¬ 0 ≤ lg_cmp (lN cn) (f_X4_priceOf a) := by
          rw [Int32.not_le, lg_lt, z1, pNP, pf_lI (by omega), pf_lI (by decide)]
          omega
        rw [if_neg c, if_pos (show b < 0 by rw [z2]; decide)]
        exact take
      · have pa : f_X4_priceOf a = lN c2 := by
          rw [z5, price_lN (by omega)]
          exact congrArg lN (by omega)
        have nb : ¬ b < 0 := by rw [z2]; exact Int32.not_lt.mpr (nI_ge0 (by omega))
        have cb : b.toNatClampNeg = m := by rw [z2]; exact nI_clamp (by omega)
        have l : (0 ≤ lg_cmp (lN cn) (lN c2)) ↔ c2 ≤ cn := by
          rw [← Int32.not_lt, lg_lt, pf_lI (by omega), pf_lI (by omega)]
          omega
        have l2 : nI c2 ≤ nI cn ↔ c2 ≤ cn := nI_le' (by omega) (by omega)
        rw [pa, if_neg nb, cb, z6, q4]
        by_cases g : c2 ≤ cn
        · rw [if_pos (l.mpr g), if_pos (l2.mpr g)]
          exact Or.inr ⟨m, c2, r2, z1, z2, z3, z4, z5, z6, z7⟩
        · rw [if_neg (fun q => g (l.mp q)), if_neg (fun q => g (l2.mp q))]
          exact take) (z := NP) (w := (-9 : Int32)) (Or.inl ⟨rfl, rfl⟩) 25 (Nat.le_refl _)
