/-! the law: what each call's contract asks, out of the relation -/
theorem le0 {x : Int32} (h : 0 ≤ x.toInt) : 0 ≤ x := by rw [Int32.le_iff_toInt_le]; exact h
theorem leN {x y : Int32} (h : x.toInt ≤ y.toInt) : x ≤ y := by rw [Int32.le_iff_toInt_le]; exact h
theorem clampN {x : Int32} {n : Nat} (h : x.toInt ≤ n) : x.toNatClampNeg ≤ n := by rw [clamp_eq]; omega
theorem vinT {x : Int32} {n : Nat} (h0 : 0 ≤ x.toInt) (h : x.toInt < n) : vp_in x n := vin_of (le0 h0) (by rw [clamp_eq]; omega)
theorem lots_c {X Y : Mm} (h : RX X Y) : 0 ≤ gI Y 44 31 ∧ (gI Y 44 31).toNatClampNeg ≤ 500 := by
  have a := h.2.2.2.2.2.2.2.1.1
  have b := h.2.2.2.2.2.1.2.2.2.2.2.1
  exact ⟨le0 a.1, clampN (by omega)⟩
theorem bag_hx {X Y : Mm} (h : RX X Y) (u n : Int32) : ¬ f_X7_in u (0 : Int32) (2 : Int32) = 0 → n ≤ f_X7_inSilo Y u (0 : Int32) → (itr (b_X7_bag_1 u) 500 (n, (sI Y 44 35 (0 : Int32)))).1 ≤ 0 := fun _ hi => by
  by_cases c : 0 ≤ n.toInt
  · exact bag_hyp h.2.2.2.2.2.2.2.1 h.2.2.2.2.2.1.2.2.2.2.2.1.2 c hi
  · have n0 : n ≤ 0 := leN (by rw [show (0 : Int32).toInt = 0 by decide]; omega)
    have e := bag_stay (u := u) (w := (n, sI Y 44 35 (0 : Int32))) (k := 0) (by rw [itr_0]; exact n0) 500
    rw [Nat.zero_add, itr_0] at e
    rw [e]
    exact n0
theorem lg_self (x : Int64) : lg_cmp x x = 0 := by
  have a1 := (lg_le (x := x) (y := x)).mpr (Int.le_refl _)
  have a2 : ¬ lg_cmp x x < 0 := by rw [lg_lt]; omega
  exact Int32.le_antisymm a1 (Int32.not_lt.mp a2)
theorem k6_stroke {M : Mm} (h : RX M M) (u1 u2 u3 : Int32) : MI yX6_stroke cX6_stroke 6 (some .int) 2 48 (fun a => [.ref (a 0), .int u1, .int u2, .int u3]) M (f_X6_stroke M u1 u2 u3).1 (f_X6_stroke M u1 u2 u3).2 := c_X6_stroke M u1 u2 u3 (le0 h.1.2.2.2.2.2.1.1)
theorem k7_stroke {M M1 : Mm} (g : RX M M1) (u1 u2 u3 : Int32) : MI yX7_stroke cX7_stroke 7 (some .int) 1 22 (fun a => [.ref (a 44), .int u1, .int u2, .int u3]) M1 (f_X7_stroke M1 u1 u2 u3).1 (f_X7_stroke M1 u1 u2 u3).2 := c_X7_stroke M1 u1 u2 u3 (fun q => vinT (by rw [← g.1.2.2.2.2.1]; exact g.1.2.2.2.2.2.1.1) (by have a := g.1.2.2.2.2.2.1; rw [g.1.2.2.2.2.1] at a; have b : ¬ (gI M1 44 5).toInt = 30 := fun e => q (Int32.toInt_inj.mp (by rw [e]; decide)); omega))
theorem gx_stroke {M : Mm} (h : RX M M) (u1 u2 u3 : Int32) : RX M (f_X6_stroke M u1 u2 u3).2 := RX_right h (fun k j q => fr_f_X6_stroke M u1 u2 u3 k j (by first | trivial | omega)) (fun k j q => fj_f_X6_stroke M u1 u2 u3 k j (by first | trivial | omega))
theorem k6_cut {M : Mm} (h : RX M M) (u1 : Int32) : MI yX6_cut cX6_cut 2 (some .int) 1 22 (fun a => [.ref (a 0), .int u1]) M (f_X6_cut M u1).1 (f_X6_cut M u1).2 := c_X6_cut M u1 (fun j => bz_01 (h.1.2.2.2.1 j))
theorem k7_cut {M M1 : Mm} (g : RX M M1) (u1 : Int32) : MI yX7_cut cX7_cut 3 (some .int) 1 22 (fun a => [.ref (a 44), .int u1]) M1 (f_X7_cut M1 u1).1 (f_X7_cut M1 u1).2 := c_X7_cut M1 u1 
theorem gx_cut {M : Mm} (h : RX M M) (u1 : Int32) : RX M (f_X6_cut M u1).2 := RX_right h (fun k j q => fr_f_X6_cut M u1 k j (by first | trivial | omega)) (fun k j q => fj_f_X6_cut M u1 k j (by first | trivial | omega))
theorem k6_place {M : Mm} (h : RX M M) (u1 u2 : Int32) : MI yX6_place cX6_place 3 (some .int) 1 22 (fun a => [.ref (a 0), .int u1, .int u2]) M (f_X6_place M u1 u2) M := c_X6_place M u1 u2 
theorem k7_place {M M1 : Mm} (g : RX M M1) (u1 u2 : Int32) : MI yX7_place cX7_place 3 (some .int) 1 22 (fun a => [.ref (a 44), .int u1, .int u2]) M1 (f_X7_place M1 u1 u2) M1 := c_X7_place M1 u1 u2 
theorem k6_spread {M : Mm} (h : RX M M) : MI yX6_spread cX6_spread 1 (some .int) 2 46 (fun a => [.ref (a 0)]) M (f_X6_spread M) M := c_X6_spread M 
theorem k7_spread {M M1 : Mm} (g : RX M M1) : MI yX7_spread cX7_spread 4 (some .int) 0 0 (fun a => [.ref (a 44)]) M1 (f_X7_spread M1) M1 := c_X7_spread M1 
theorem k6_strokeSpread {M : Mm} (h : RX M M) (u1 : Int32) : MI yX6_strokeSpread cX6_strokeSpread 2 (some .int) 1 22 (fun a => [.ref (a 0), .int u1]) M (f_X6_strokeSpread M u1) M := c_X6_strokeSpread M u1 (le0 h.1.2.2.2.2.2.1.1) (leN h.1.2.2.2.2.2.1.2)
theorem k7_strokeSpread {M M1 : Mm} (g : RX M M1) (u1 : Int32) : MI yX7_strokeSpread cX7_strokeSpread 2 (some .int) 1 22 (fun a => [.ref (a 44), .int u1]) M1 (f_X7_strokeSpread M1 u1) M1 := c_X7_strokeSpread M1 u1 (by rw [← g.1.2.2.2.2.1]; exact le0 g.1.2.2.2.2.2.1.1) (by rw [← g.1.2.2.2.2.1]; exact leN g.1.2.2.2.2.2.1.2)
theorem k6_clear {M : Mm} (h : RX M M) : MI yX6_clear cX6_clear 1 (some .int) 1 22 (fun a => [.ref (a 0)]) M (f_X6_clear M).1 (f_X6_clear M).2 := c_X6_clear M 
theorem k7_clear {M M1 : Mm} (g : RX M M1) : MI yX7_clear cX7_clear 3 (some .int) 0 0 (fun a => [.ref (a 44)]) M1 (f_X7_clear M1).1 (f_X7_clear M1).2 := c_X7_clear M1 
theorem gx_clear {M : Mm} (h : RX M M) : RX M (f_X6_clear M).2 := RX_right h (fun k j q => fr_f_X6_clear M k j (by first | trivial | omega)) (fun k j q => fj_f_X6_clear M k j (by first | trivial | omega))
theorem k6_stock {M : Mm} (h : RX M M) (u1 u2 u3 u4 : Int32) : MI yX6_stock cX6_stock 5 (some .int) 2 44 (fun a => [.ref (a 0), .int u1, .int u2, .int u3, .int u4]) M (f_X6_stock M u1 u2 u3 u4).1 (f_X6_stock M u1 u2 u3 u4).2 := c_X6_stock M u1 u2 u3 u4 
theorem k7_stock {M M1 : Mm} (g : RX M M1) (u1 u2 u3 u4 : Int32) : MI yX7_stock cX7_stock 5 (some .int) 2 44 (fun a => [.ref (a 44), .int u1, .int u2, .int u3, .int u4]) M1 (f_X7_stock M1 u1 u2 u3 u4).1 (f_X7_stock M1 u1 u2 u3 u4).2 := c_X7_stock M1 u1 u2 u3 u4 
theorem gx_stock {M : Mm} (h : RX M M) (u1 u2 u3 u4 : Int32) : RX M (f_X6_stock M u1 u2 u3 u4).2 := RX_right h (fun k j q => fr_f_X6_stock M u1 u2 u3 u4 k j (by first | trivial | omega)) (fun k j q => fj_f_X6_stock M u1 u2 u3 u4 k j (by first | trivial | omega))
theorem k6_share {M : Mm} (h : RX M M) (u1 u2 u3 : Int32) : MI yX6_share cX6_share 4 (some .int) 2 44 (fun a => [.ref (a 0), .int u1, .int u2, .int u3]) M (f_X6_share M u1 u2 u3).1 (f_X6_share M u1 u2 u3).2 := c_X6_share M u1 u2 u3 
theorem k7_share {M M1 : Mm} (g : RX M M1) (u1 u2 u3 : Int32) : MI yX7_share cX7_share 4 (some .int) 2 44 (fun a => [.ref (a 44), .int u1, .int u2, .int u3]) M1 (f_X7_share M1 u1 u2 u3).1 (f_X7_share M1 u1 u2 u3).2 := c_X7_share M1 u1 u2 u3 
theorem gx_share {M : Mm} (h : RX M M) (u1 u2 u3 : Int32) : RX M (f_X6_share M u1 u2 u3).2 := RX_right h (fun k j q => fr_f_X6_share M u1 u2 u3 k j (by first | trivial | omega)) (fun k j q => fj_f_X6_share M u1 u2 u3 k j (by first | trivial | omega))
theorem k6_shareOf {M : Mm} (h : RX M M) (u1 : Int32) : MI yX6_shareOf cX6_shareOf 2 (some .int) 1 22 (fun a => [.ref (a 0), .int u1]) M (f_X6_shareOf M u1) M := c_X6_shareOf M u1 
theorem k7_shareOf {M M1 : Mm} (g : RX M M1) (u1 : Int32) : MI yX7_shareOf cX7_shareOf 2 (some .int) 1 22 (fun a => [.ref (a 44), .int u1]) M1 (f_X7_shareOf M1 u1) M1 := c_X7_shareOf M1 u1 
theorem k6_mix {M : Mm} (h : RX M M) (u1 : Int32) : MI yX6_mix cX6_mix 2 (some .int) 1 23 (fun a => [.ref (a 0), .int u1]) M (f_X6_mix M u1) M := c_X6_mix M u1 
theorem k7_mix {M M1 : Mm} (g : RX M M1) (u1 : Int32) : MI yX7_mix cX7_mix 2 (some .int) 1 23 (fun a => [.ref (a 44), .int u1]) M1 (f_X7_mix M1 u1) M1 := c_X7_mix M1 u1 
theorem k6_number {M : Mm} (h : RX M M) : MI yX6_number cX6_number 4 (some .int) 2 48 (fun a => [.ref (a 0)]) M (f_X6_number M).1 (f_X6_number M).2 := c_X6_number M 
theorem k7_number {M M1 : Mm} (g : RX M M1) : MI yX7_number cX7_number 5 (some .int) 2 43 (fun a => [.ref (a 44)]) M1 (f_X7_number M1).1 (f_X7_number M1).2 := c_X7_number M1 (number_hyps g.2.2.2.1).1 (number_hyps g.2.2.2.1).2
theorem gx_number {M : Mm} (h : RX M M) : RX M (f_X6_number M).2 := RX_right h (fun k j q => fr_f_X6_number M k j (by first | trivial | omega)) (fun k j q => fj_f_X6_number M k j (by first | trivial | omega))
theorem k6_aim {M : Mm} (h : RX M M) (u1 u2 : Int32) : MI yX6_aim cX6_aim 3 (some .int) 1 22 (fun a => [.ref (a 0), .int u1, .int u2]) M (f_X6_aim M u1 u2).1 (f_X6_aim M u1 u2).2 := c_X6_aim M u1 u2 
theorem k7_aim {M M1 : Mm} (g : RX M M1) (u1 u2 : Int32) : MI yX7_aim cX7_aim 3 (some .int) 1 22 (fun a => [.ref (a 44), .int u1, .int u2]) M1 (f_X7_aim M1 u1 u2).1 (f_X7_aim M1 u1 u2).2 := c_X7_aim M1 u1 u2 
theorem gx_aim {M : Mm} (h : RX M M) (u1 u2 : Int32) : RX M (f_X6_aim M u1 u2).2 := RX_right h (fun k j q => fr_f_X6_aim M u1 u2 k j (by first | trivial | omega)) (fun k j q => fj_f_X6_aim M u1 u2 k j (by first | trivial | omega))
theorem k6_rule {M : Mm} (h : RX M M) (u1 u2 : Int32) : MI yX6_rule cX6_rule 3 (some .int) 1 22 (fun a => [.ref (a 0), .int u1, .int u2]) M (f_X6_rule M u1 u2).1 (f_X6_rule M u1 u2).2 := c_X6_rule M u1 u2 
theorem k7_rule {M M1 : Mm} (g : RX M M1) (u1 u2 : Int32) : MI yX7_rule cX7_rule 3 (some .int) 1 22 (fun a => [.ref (a 44), .int u1, .int u2]) M1 (f_X7_rule M1 u1 u2).1 (f_X7_rule M1 u1 u2).2 := c_X7_rule M1 u1 u2 
theorem gx_rule {M : Mm} (h : RX M M) (u1 u2 : Int32) : RX M (f_X6_rule M u1 u2).2 := RX_right h (fun k j q => fr_f_X6_rule M u1 u2 k j (by first | trivial | omega)) (fun k j q => fj_f_X6_rule M u1 u2 k j (by first | trivial | omega))
theorem k6_hour {M : Mm} (h : RX M M) (u1 : Int32) : MI yX6_hour cX6_hour 2 (some .int) 4 92 (fun a => [.ref (a 0), .int u1]) M (f_X6_hour M u1).1 (f_X6_hour M u1).2 := c_X6_hour M u1 (le0 h.2.2.2.2.1.2.1.1)
theorem k7_hour {M M1 : Mm} (g : RX M M1) (u1 : Int32) : MI yX7_hour cX7_hour 4 (some .int) 2 43 (fun a => [.ref (a 44), .int u1]) M1 (f_X7_hour M1 u1).1 (f_X7_hour M1 u1).2 := c_X7_hour M1 u1 (by rw [← g.2.2.2.2.1.1]; exact le0 g.2.2.2.2.1.2.1.1) (fun q => by have a := g.2.2.2.2.1.2.1; rw [g.2.2.2.2.1.1] at a; have b : ¬ (gI M1 44 16).toInt = 200 := fun e => q (Int32.toInt_inj.mp (by rw [e]; decide)); rw [clamp_eq]; omega)
theorem gx_hour {M : Mm} (h : RX M M) (u1 : Int32) : RX M (f_X6_hour M u1).2 := RX_right h (fun k j q => fr_f_X6_hour M u1 k j (by first | trivial | omega)) (fun k j q => fj_f_X6_hour M u1 k j (by first | trivial | omega))
theorem k6_read {M : Mm} (h : RX M M) : MI yX6_read cX6_read 1 (some .int) 1 20 (fun a => [.ref (a 0)]) M (f_X6_read M) M := c_X6_read M 
theorem k7_read {M M1 : Mm} (g : RX M M1) : MI yX7_read cX7_read 1 (some .int) 0 0 (fun a => [.ref (a 44)]) M1 (f_X7_read M1) M1 := c_X7_read M1 
theorem k6_passed {M : Mm} (h : RX M M) : MI yX6_passed cX6_passed 1 (some .int) 1 20 (fun a => [.ref (a 0)]) M (f_X6_passed M) M := c_X6_passed M 
theorem k7_passed {M M1 : Mm} (g : RX M M1) : MI yX7_passed cX7_passed 3 (some .int) 0 0 (fun a => [.ref (a 44)]) M1 (f_X7_passed M1) M1 := c_X7_passed M1 (by rw [← g.2.2.2.2.1.1]; exact le0 g.2.2.2.2.1.2.1.1) (by rw [← g.2.2.2.2.1.1]; exact clampN g.2.2.2.2.1.2.1.2)
theorem k6_step {M : Mm} (h : RX M M) (u1 u2 u3 : Int32) : MI yX6_step cX6_step 7 (some .int) 3 69 (fun a => [.ref (a 0), .int u1, .int u2, .int u3]) M (f_X6_step M u1 u2 u3).1 (f_X6_step M u1 u2 u3).2 := c_X6_step M u1 u2 u3 (le0 h.2.2.2.2.2.1.2.2.2.2.2.1.1)
theorem k7_step {M M1 : Mm} (g : RX M M1) (u1 u2 u3 : Int32) : MI yX7_step cX7_step 8 (some .int) 2 43 (fun a => [.ref (a 44), .int u1, .int u2, .int u3]) M1 (f_X7_step M1 u1 u2 u3).1 (f_X7_step M1 u1 u2 u3).2 := c_X7_step M1 u1 u2 u3 (fun q => by have a := g.2.2.2.2.2.2.2.1.1; have b := g.2.2.2.2.2.1.2.2.2.2.2.1; have e5 := g.2.2.2.2.2.1.2.2.2.2.1; rw [e5] at a b; have b3 : ¬ (gI M1 44 22).toInt = 500 := fun e => q (Int32.toInt_inj.mp (by rw [e]; decide)); exact vinT a.1 (by omega))
theorem gx_step {M : Mm} (h : RX M M) (u1 u2 u3 : Int32) : RX M (f_X6_step M u1 u2 u3).2 := RX_right h (fun k j q => fr_f_X6_step M u1 u2 u3 k j (by first | trivial | omega)) (fun k j q => fj_f_X6_step M u1 u2 u3 k j (by first | trivial | omega))
theorem k6_start {M : Mm} (h : RX M M) : MI yX6_start cX6_start 1 (some .int) 1 20 (fun a => [.ref (a 0)]) M (f_X6_start M).1 (f_X6_start M).2 := c_X6_start M 
theorem k7_start {M M1 : Mm} (g : RX M M1) : MI yX7_start cX7_start 1 (some .int) 0 0 (fun a => [.ref (a 44)]) M1 (f_X7_start M1).1 (f_X7_start M1).2 := c_X7_start M1 
theorem gx_start {M : Mm} (h : RX M M) : RX M (f_X6_start M).2 := RX_right h (fun k j q => fr_f_X6_start M k j (by first | trivial | omega)) (fun k j q => fj_f_X6_start M k j (by first | trivial | omega))
theorem k6_zone {M : Mm} (h : RX M M) (u1 u2 : Int32) : MI yX6_zone cX6_zone 3 (some .int) 1 22 (fun a => [.ref (a 0), .int u1, .int u2]) M (f_X6_zone M u1 u2) M := c_X6_zone M u1 u2 
theorem k7_zone {M M1 : Mm} (g : RX M M1) (u1 u2 : Int32) : MI yX7_zone cX7_zone 3 (some .int) 1 22 (fun a => [.ref (a 44), .int u1, .int u2]) M1 (f_X7_zone M1 u1 u2) M1 := c_X7_zone M1 u1 u2 
theorem k6_warmth {M : Mm} (h : RX M M) (u1 u2 : Int32) : MI yX6_warmth cX6_warmth 4 (some .int) 1 22 (fun a => [.ref (a 0), .int u1, .int u2]) M (f_X6_warmth M u1 u2).1 (f_X6_warmth M u1 u2).2 := c_X6_warmth M u1 u2 
theorem k7_warmth {M M1 : Mm} (g : RX M M1) (u1 u2 : Int32) : MI yX7_warmth cX7_warmth 3 (some .int) 1 22 (fun a => [.ref (a 44), .int u1, .int u2]) M1 (f_X7_warmth M1 u1 u2).1 (f_X7_warmth M1 u1 u2).2 := c_X7_warmth M1 u1 u2 
theorem gx_warmth {M : Mm} (h : RX M M) (u1 u2 : Int32) : RX M (f_X6_warmth M u1 u2).2 := RX_right h (fun k j q => fr_f_X6_warmth M u1 u2 k j (by first | trivial | omega)) (fun k j q => fj_f_X6_warmth M u1 u2 k j (by first | trivial | omega))
theorem k6_out {M : Mm} (h : RX M M) (u1 : Int32) : MI yX6_out cX6_out 2 (some .int) 1 22 (fun a => [.ref (a 0), .int u1]) M (f_X6_out M u1) M := c_X6_out M u1 
theorem k7_out {M M1 : Mm} (g : RX M M1) (u1 : Int32) : MI yX7_out cX7_out 2 (some .int) 1 22 (fun a => [.ref (a 44), .int u1]) M1 (f_X7_out M1 u1) M1 := c_X7_out M1 u1 
theorem k6_sum {M : Mm} (h : RX M M) (u1 : Int32) : MI yX6_sum cX6_sum 2 (some .int) 1 22 (fun a => [.ref (a 0), .int u1]) M (f_X6_sum M u1).1 (f_X6_sum M u1).2 := c_X6_sum M u1 
theorem k7_sum {M M1 : Mm} (g : RX M M1) (u1 : Int32) : MI yX7_sum cX7_sum 2 (some .int) 1 23 (fun a => [.ref (a 44), .int u1]) M1 (f_X7_sum M1 u1).1 (f_X7_sum M1 u1).2 := c_X7_sum M1 u1 
theorem gx_sum {M : Mm} (h : RX M M) (u1 : Int32) : RX M (f_X6_sum M u1).2 := RX_right h (fun k j q => fr_f_X6_sum M u1 k j (by first | trivial | omega)) (fun k j q => fj_f_X6_sum M u1 k j (by first | trivial | omega))
theorem k6_first {M : Mm} (h : RX M M) : MI yX6_first cX6_first 1 (some .int) 1 20 (fun a => [.ref (a 0)]) M (f_X6_first M) M := c_X6_first M 
theorem k7_first {M M1 : Mm} (g : RX M M1) : MI yX7_first cX7_first 1 (some .int) 0 0 (fun a => [.ref (a 44)]) M1 (f_X7_first M1) M1 := c_X7_first M1 
theorem k6_silo {M : Mm} (h : RX M M) (u1 u2 : Int32) : MI yX6_silo cX6_silo 3 (some .int) 1 22 (fun a => [.ref (a 0), .int u1, .int u2]) M (f_X6_silo M u1 u2) M := c_X6_silo M u1 u2 
theorem k7_silo {M M1 : Mm} (g : RX M M1) (u1 u2 : Int32) : MI yX7_silo cX7_silo 3 (some .int) 1 24 (fun a => [.ref (a 44), .int u1, .int u2]) M1 (f_X7_silo M1 u1 u2) M1 := c_X7_silo M1 u1 u2 (lots_c g).1 (lots_c g).2
theorem k6_bag {M : Mm} (h : RX M M) (u1 u2 : Int32) : MI yX6_bag cX6_bag 3 (some .int) 3 71 (fun a => [.ref (a 0), .int u1, .int u2]) M (f_X6_bag M u1 u2).1 (f_X6_bag M u1 u2).2 := c_X6_bag M u1 u2 
theorem k7_bag {M M1 : Mm} (g : RX M M1) (u1 u2 : Int32) : MI yX7_bag cX7_bag 6 (some .int) 1 24 (fun a => [.ref (a 44), .int u1, .int u2]) M1 (f_X7_bag M1 u1 u2).1 (f_X7_bag M1 u1 u2).2 := c_X7_bag M1 u1 u2 (lots_c g).1 (lots_c g).2 (bag_hx g u1 u2)
theorem gx_bag {M : Mm} (h : RX M M) (u1 u2 : Int32) : RX M (f_X6_bag M u1 u2).2 := RX_right h (fun k j q => fr_f_X6_bag M u1 u2 k j (by first | trivial | omega)) (fun k j q => fj_f_X6_bag M u1 u2 k j (by first | trivial | omega))
theorem k6_lot {M : Mm} (h : RX M M) (u1 u2 : Int32) : MI yX6_lot cX6_lot 3 (some .int) 1 22 (fun a => [.ref (a 0), .int u1, .int u2]) M (f_X6_lot M u1 u2) M := c_X6_lot M u1 u2 (le0 h.2.2.2.2.2.2.2.2.1.2.1.1) (leN h.2.2.2.2.2.2.2.2.1.2.1.2)
theorem k7_lot {M M1 : Mm} (g : RX M M1) (u1 u2 : Int32) : MI yX7_lot cX7_lot 3 (some .int) 1 22 (fun a => [.ref (a 44), .int u1, .int u2]) M1 (f_X7_lot M1 u1 u2) M1 := c_X7_lot M1 u1 u2 (by rw [← g.2.2.2.2.2.2.2.2.1.1]; exact le0 g.2.2.2.2.2.2.2.2.1.2.1.1) (by rw [← g.2.2.2.2.2.2.2.2.1.1]; exact leN g.2.2.2.2.2.2.2.2.1.2.1.2)
theorem k6_day {M : Mm} (h : RX M M) (u1 : Int32) : MI yX6_day cX6_day 2 (some .int) 2 45 (fun a => [.ref (a 0), .int u1]) M (f_X6_day M u1).1 (f_X6_day M u1).2 := c_X6_day M u1 
theorem k7_day {M M1 : Mm} (g : RX M M1) (u1 : Int32) : MI yX7_day cX7_day 4 (some .int) 2 42 (fun a => [.ref (a 44), .int u1]) M1 (f_X7_day M1 u1).1 (f_X7_day M1 u1).2 := c_X7_day M1 u1 
theorem gx_day {M : Mm} (h : RX M M) (u1 : Int32) : RX M (f_X6_day M u1).2 := RX_right h (fun k j q => fr_f_X6_day M u1 k j (by first | trivial | omega)) (fun k j q => fj_f_X6_day M u1 k j (by first | trivial | omega))
theorem k6_price {M : Mm} (h : RX M M) (u1 u2 u3 : Int32) : MI yX6_price cX6_price 4 (some .int) 1 24 (fun a => [.ref (a 0), .int u1, .int u2, .int u3]) M (f_X6_price M u1 u2 u3).1 (f_X6_price M u1 u2 u3).2 := c_X6_price M u1 u2 u3 (fun j => bz_01 (h.2.2.2.2.2.2.1.2.1 j))
theorem k7_price {M M1 : Mm} (g : RX M M1) (u1 u2 u3 : Int32) : MI yX7_price cX7_price 5 (some .int) 2 42 (fun a => [.ref (a 44), .int u1, .int u2, .int u3]) M1 (f_X7_price M1 u1 u2 u3).1 (f_X7_price M1 u1 u2 u3).2 := c_X7_price M1 u1 u2 u3 
theorem gx_price {M : Mm} (h : RX M M) (u1 u2 u3 : Int32) : RX M (f_X6_price M u1 u2 u3).2 := RX_right h (fun k j q => fr_f_X6_price M u1 u2 u3 k j (by first | trivial | omega)) (fun k j q => fj_f_X6_price M u1 u2 u3 k j (by first | trivial | omega))
theorem k6_tear {M : Mm} (h : RX M M) (u1 : Int32) : MI yX6_tear cX6_tear 2 (some .int) 1 22 (fun a => [.ref (a 0), .int u1]) M (f_X6_tear M u1).1 (f_X6_tear M u1).2 := c_X6_tear M u1 (fun j => bz_01 (h.2.2.2.2.2.2.1.2.1 j))
theorem k7_tear {M M1 : Mm} (g : RX M M1) (u1 : Int32) : MI yX7_tear cX7_tear 2 (some .int) 2 42 (fun a => [.ref (a 44), .int u1]) M1 (f_X7_tear M1 u1).1 (f_X7_tear M1 u1).2 := c_X7_tear M1 u1 
theorem gx_tear {M : Mm} (h : RX M M) (u1 : Int32) : RX M (f_X6_tear M u1).2 := RX_right h (fun k j q => fr_f_X6_tear M u1 k j (by first | trivial | omega)) (fun k j q => fj_f_X6_tear M u1 k j (by first | trivial | omega))
theorem k6_copy {M : Mm} (h : RX M M) (u1 u2 u3 u4 u5 : Int32) : MI yX6_copy cX6_copy 6 (some .int) 2 65 (fun a => [.ref (a 0), .int u1, .int u2, .int u3, .int u4, .int u5]) M (f_X6_copy M u1 u2 u3 u4 u5).1 (f_X6_copy M u1 u2 u3 u4 u5).2 := c_X6_copy M u1 u2 u3 u4 u5 (fun j => bz_01 (h.2.2.2.2.2.2.1.2.1 j))
theorem k7_copy {M M1 : Mm} (g : RX M M1) (u1 u2 u3 u4 u5 : Int32) : MI yX7_copy cX7_copy 7 (some .int) 2 42 (fun a => [.ref (a 44), .int u1, .int u2, .int u3, .int u4, .int u5]) M1 (f_X7_copy M1 u1 u2 u3 u4 u5).1 (f_X7_copy M1 u1 u2 u3 u4 u5).2 := c_X7_copy M1 u1 u2 u3 u4 u5 
theorem gx_copy {M : Mm} (h : RX M M) (u1 u2 u3 u4 u5 : Int32) : RX M (f_X6_copy M u1 u2 u3 u4 u5).2 := RX_right h (fun k j q => fr_f_X6_copy M u1 u2 u3 u4 u5 k j (by first | trivial | omega)) (fun k j q => fj_f_X6_copy M u1 u2 u3 u4 u5 k j (by first | trivial | omega))
theorem k6_need {M : Mm} (h : RX M M) (u1 u2 : Int32) : MI yX6_need cX6_need 3 (some .int) 1 23 (fun a => [.ref (a 0), .int u1, .int u2]) M (f_X6_need M u1 u2).1 (f_X6_need M u1 u2).2 := c_X6_need M u1 u2 
theorem k7_need {M M1 : Mm} (g : RX M M1) (u1 u2 : Int32) : MI yX7_need cX7_need 4 (some .int) 1 22 (fun a => [.ref (a 44), .int u1, .int u2]) M1 (f_X7_need M1 u1 u2).1 (f_X7_need M1 u1 u2).2 := c_X7_need M1 u1 u2 
theorem gx_need {M : Mm} (h : RX M M) (u1 u2 : Int32) : RX M (f_X6_need M u1 u2).2 := RX_right h (fun k j q => fr_f_X6_need M u1 u2 k j (by first | trivial | omega)) (fun k j q => fj_f_X6_need M u1 u2 k j (by first | trivial | omega))
theorem k6_plan {M : Mm} (h : RX M M) (u1 u2 : Int32) : MI yX6_plan cX6_plan 5 (some .int) 3 70 (fun a => [.ref (a 0), .int u1, .int u2]) M (f_X6_plan M u1 u2).1 (f_X6_plan M u1 u2).2 := c_X6_plan M u1 u2 (fun j => bz_01 (h.2.2.2.2.2.2.1.2.1 j))
theorem k7_plan {M M1 : Mm} (g : RX M M1) (u1 u2 : Int32) : MI yX7_plan cX7_plan 6 (some .int) 2 42 (fun a => [.ref (a 44), .int u1, .int u2]) M1 (f_X7_plan M1 u1 u2).1 (f_X7_plan M1 u1 u2).2 := c_X7_plan M1 u1 u2 
theorem gx_plan {M : Mm} (h : RX M M) (u1 u2 : Int32) : RX M (f_X6_plan M u1 u2).2 := RX_right h (fun k j q => fr_f_X6_plan M u1 u2 k j (by first | trivial | omega)) (fun k j q => fj_f_X6_plan M u1 u2 k j (by first | trivial | omega))
theorem k6_upper {M : Mm} (h : RX M M) : MJ yX6_upper cX6_upper 1 (some .long) 0 0 (fun a => [.ref (a 0)]) M (f_X6_upper M) M := c_X6_upper M 
theorem k7_upper {M M1 : Mm} (g : RX M M1) : MJ yX7_upper cX7_upper 1 (some .long) 0 0 (fun a => [.ref (a 44)]) M1 (f_X7_upper M1) M1 := c_X7_upper M1 
theorem k6_lower {M : Mm} (h : RX M M) : MJ yX6_lower cX6_lower 1 (some .long) 0 0 (fun a => [.ref (a 0)]) M (f_X6_lower M) M := c_X6_lower M 
theorem k7_lower {M M1 : Mm} (g : RX M M1) : MJ yX7_lower cX7_lower 1 (some .long) 0 0 (fun a => [.ref (a 44)]) M1 (f_X7_lower M1) M1 := c_X7_lower M1 
theorem k6_asked {M : Mm} (h : RX M M) : MJ yX6_asked cX6_asked 1 (some .long) 0 0 (fun a => [.ref (a 0)]) M (f_X6_asked M) M := c_X6_asked M 
theorem k7_asked {M M1 : Mm} (g : RX M M1) : MJ yX7_asked cX7_asked 1 (some .long) 0 0 (fun a => [.ref (a 44)]) M1 (f_X7_asked M1) M1 := c_X7_asked M1 
theorem k6_count {M : Mm} (h : RX M M) (u1 : Int32) : MI yX6_count cX6_count 2 (some .int) 1 20 (fun a => [.ref (a 0), .int u1]) M (f_X6_count M u1) M := c_X6_count M u1 (bz_01 h.2.2.2.2.2.1.2.2.2.2.2.2.2.2.2)
theorem k7_count {M M1 : Mm} (g : RX M M1) (u1 : Int32) : MI yX7_count cX7_count 2 (some .int) 1 23 (fun a => [.ref (a 44), .int u1]) M1 (f_X7_count M1 u1) M1 := c_X7_count M1 u1 
theorem k6_finding {M : Mm} (h : RX M M) : MI yX6_finding cX6_finding 1 (some .int) 1 20 (fun a => [.ref (a 0)]) M (f_X6_finding M) M := c_X6_finding M 
theorem k7_finding {M M1 : Mm} (g : RX M M1) : MI yX7_finding cX7_finding 1 (some .int) 0 0 (fun a => [.ref (a 44)]) M1 (f_X7_finding M1) M1 := c_X7_finding M1 
theorem k6_findings {M : Mm} (h : RX M M) (u1 : Int32) : MI yX6_findings cX6_findings 2 (some .int) 1 22 (fun a => [.ref (a 0), .int u1]) M (f_X6_findings M u1) M := c_X6_findings M u1 
theorem k7_findings {M M1 : Mm} (g : RX M M1) (u1 : Int32) : MI yX7_findings cX7_findings 2 (some .int) 1 22 (fun a => [.ref (a 44), .int u1]) M1 (f_X7_findings M1 u1) M1 := c_X7_findings M1 u1 
theorem k6_digest {M : Mm} (h : RX M M) : MJ yX6_digest cX6_digest 4 (some .long) 3 76 (fun a => [.ref (a 0)]) M (f_X6_digest M) M := c_X6_digest M (bz_01 h.2.2.2.2.2.1.2.2.2.2.2.2.2.2.2)
theorem k7_digest {M M1 : Mm} (g : RX M M1) : MJ yX7_digest cX7_digest 5 (some .long) 1 24 (fun a => [.ref (a 44)]) M1 (f_X7_digest M1) M1 := c_X7_digest M1 (lots_c g).1 (lots_c g).2
