/-! plan, held together -/
theorem cheap_eq (X : Mm) (d r : Int32) : f_X4_cheapest X d r = (itr (b_X4_leastPrice_1 (cZ X d r)) 25 NP, cZ X d r) := by
  rw [f_X4_cheapest, ← cZ, f_X4_leastPrice]
theorem planX {X : Mm} {d r : Int32} (c1 : ¬ f_X6_within d 0 6 = 0) (c2 : ¬ f_X6_within r 1 1000 = 0) (c3 : ¬ gI X 32 d.toNatClampNeg = 0) {a : Int64} {Z : Mm} (e : f_X4_cheapest X d r = (a, Z)) : f_X6_plan X d r = if lg_cmp a NP = 0 then ((-9 : Int32), Z) else (f_X4_bitsOf a, sJ Z 0 8 (f_X4_priceOf a)) := by
  rw [f_X6_plan, if_neg c1, if_neg c2, f_X4_has, if_neg c3, e]
theorem p4_eq (Y : Mm) (d r : Int32) : l_X7_plan_4 Y d r (-9) = itr (bW (cW Y d r)) 25 (-9) := by
  have e : b_X7_plan_4 Y d r = bW (cW Y d r) := by
    funext i z
    rw [b_X7_plan_4, bW, cW]
  rw [l_X7_plan_4, e]
theorem planY {Y : Mm} {d r : Int32} (c1 : ¬ f_X6_within d 0 6 = 0) (c2 : ¬ f_X6_within r 1 1000 = 0) (c3 : ¬ gI Y 67 d.toNatClampNeg = 0) {W : Mm} {B : Int32} (hW : l_X7_plan_2 d r (l_X7_plan_1 Y) = W) (hB : l_X7_plan_4 Y d r (-9) = B) : f_X7_plan Y d r = ((if 0 ≤ B then gI W 72 B.toNatClampNeg else (-9 : Int32)), (if 0 ≤ B then sJ W 44 2 (gI W 71 B.toNatClampNeg).toInt64 else W)) := by
  rw [f_X7_plan, ad_wi, in_wi, if_neg c1, if_neg c2, if_neg c3, hW, hB, f_X7_tell]
theorem cZ_J (X : Mm) (d r : Int32) (a b : Nat) (ha : a ≠ 42) : gJ (cZ X d r) a b = gJ X a b := by
  rw [cZ, l_X4_cheapest_1, itr_keepJ (fun i z => by
    rw [b_X4_cheapest_1]
    exact itd_keepJ (fun k w => ch2_J d r i z k w a b ha) _ z), gJ_ne ha, fj_fillJ _ _ _ _ _ _ ha]
theorem cW_J (Y : Mm) (d r : Int32) (a b : Nat) : gJ (cW Y d r) a b = gJ Y a b := by
  rw [cW, fj_l_X7_plan_2 d r _ a b trivial, fj_l_X7_plan_1 Y a b trivial]
theorem sim_plan {X Y : Mm} (h : Rplan X Y) (hf : Rfound X Y) (ht : Rtold X Y) (d r : Int32) : (f_X6_plan X d r).1 = (f_X7_plan Y d r).1 ∧ Rplan (f_X6_plan X d r).2 (f_X7_plan Y d r).2 ∧ Rfound (f_X6_plan X d r).2 (f_X7_plan Y d r).2 ∧ Rtold (f_X6_plan X d r).2 (f_X7_plan Y d r).2 := by
  by_cases c1 : f_X6_within d 0 6 = 0
  · have e1 : f_X6_plan X d r = ((-1 : Int32), X) := by rw [f_X6_plan, if_pos c1]
    have e2 : f_X7_plan Y d r = ((-1 : Int32), Y) := by rw [f_X7_plan, ad_wi, if_pos c1]
    rw [e1, e2]
    exact ⟨rfl, h, hf, ht⟩
  by_cases c2 : f_X6_within r 1 1000 = 0
  · have e1 : f_X6_plan X d r = ((-1 : Int32), X) := by rw [f_X6_plan, if_neg c1, if_pos c2]
    have e2 : f_X7_plan Y d r = ((-1 : Int32), Y) := by rw [f_X7_plan, ad_wi, in_wi, if_neg c1, if_pos c2]
    rw [e1, e2]
    exact ⟨rfl, h, hf, ht⟩
  by_cases c3 : gI Y 67 d.toNatClampNeg = 0
  · have e1 : f_X6_plan X d r = ((f_X1_answer X 1).1, (f_X1_answer X 1).2) := by rw [f_X6_plan, if_neg c1, if_neg c2, f_X4_has, h.1, if_pos c3]
    have e2 : f_X7_plan Y d r = ((f_X7_meets Y 1).1, (f_X7_meets Y 1).2) := by rw [f_X7_plan, ad_wi, in_wi, if_neg c1, if_neg c2, if_pos c3]
    rw [e1, e2]
    exact ⟨(sim_ans hf 1).1, plan_found h 1, (sim_ans hf 1).2, ans_told ht 1⟩
  have hd : d.toNatClampNeg < 7 := wi_lt c1 (by decide)
  obtain ⟨a1, a2, a3⟩ := ip_all h hd r
  have il := il_all a1
  have zj := cZ_J X d r
  have wj := cW_J Y d r
  have eX := planX c1 c2 (by rw [h.1]; exact c3) (cheap_eq X d r)
  have eY := planY c1 c2 c3 (W := cW Y d r) rfl (p4_eq Y d r)
  generalize itr (b_X4_leastPrice_1 (cZ X d r)) 25 NP = A at il eX
  generalize itr (bW (cW Y d r)) 25 (-9) = B at il eY
  generalize cZ X d r = Z at a1 a2 zj il eX
  generalize cW Y d r = W at a1 a3 wj il eY
  rcases il with ⟨z1, z2⟩ | ⟨m, cn, rn, z1, z2, z3, z4, z5, z6, z7⟩
  · rw [if_pos (lgNP.mpr z1)] at eX
    rw [if_neg (by rw [z2]; decide), if_neg (by rw [z2]; decide)] at eY
    rw [eX, eY]
    refine ⟨rfl, plan_fr h (fun k j _ => a2 k j) (fun k j q => a3 k j (by omega) (by omega)), found_fr hf (fun k j _ => a2 k j) (fun k j q => a3 k j (by omega) (by omega)), told_fr ht (fun k j q => zj k j (by omega)) (fun k j q => wj k j)⟩
  · have n1 : ¬ lg_cmp A NP = 0 := fun e => by
      have e := lgNP.mp e
      rw [z5] at e
      exact NP_no (by omega) e
    have p0 : (0 : Int32) ≤ B := by rw [z2]; exact nI_ge0 (by omega)
    have cb : B.toNatClampNeg = m := by rw [z2]; exact nI_clamp (by omega)
    have eb : f_X4_bitsOf A = nI rn := by
      rw [z5, bits_lN (by omega)]
      exact congrArg nI (by omega)
    have epr : f_X4_priceOf A = (nI cn).toInt64 := by
      rw [z5, price_lN (by omega)]
      apply Int64.toInt_inj.mp
      rw [pf_lI (by omega), i64_int, nI_int (by omega)]
      omega
    rw [if_neg n1, eb, epr] at eX
    rw [if_pos p0, if_pos p0, cb, z6, z7] at eY
    rw [eX, eY]
    refine ⟨rfl, plan_fr h (fun k j _ => (gI_sJ ..).trans (a2 k j)) (fun k j q => (gI_sJ ..).trans (a3 k j (by omega) (by omega))), found_fr hf (fun k j _ => (gI_sJ ..).trans (a2 k j)) (fun k j q => (gI_sJ ..).trans (a3 k j (by omega) (by omega))), ?_, ?_, ?_⟩
    · show gJ (sJ Z 0 8 _) 0 6 = gJ (sJ W 44 2 _) 44 3
      rw [gJ_off 0 6 (by decide), gJ_off 44 3 (by decide), zj 0 6 (by decide), wj]
      exact ht.1
    · show gJ (sJ Z 0 8 _) 0 7 = gJ (sJ W 44 2 _) 44 4
      rw [gJ_off 0 7 (by decide), gJ_off 44 4 (by decide), zj 0 7 (by decide), wj]
      exact ht.2.1
    · show gJ (sJ Z 0 8 _) 0 8 = gJ (sJ W 44 2 _) 44 2
      rw [gJ_at, gJ_at]
