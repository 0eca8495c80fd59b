def f_X6_silo (M : Mm) (u1 : Int32) (u2 : Int32) : Int32 := (if (f_X6_within u1 (0 : Int32) (2 : Int32)) = 0 then (-1 : Int32) else (if (f_X6_within u2 (0 : Int32) (1 : Int32)) = 0 then (-1 : Int32) else (if u2 = 0 then (f_X5_tonsIn M u1) else (f_X5_lotsIn M u1))))
set_option maxHeartbeats 4000000 in
set_option maxRecDepth 100000 in
theorem c_X6_silo (M : Mm) (u1 : Int32) (u2 : Int32)  : MI yX6_silo cX6_silo 3 (some .int) 1 22 (fun a => [.ref (a 0), .int u1, .int u2]) M (f_X6_silo M u1 u2) M := by
  refine MI.intro (lv0 := fun a => [some (.ref (a 0)), some (.int u1), some (.int u2)]) (by decide) (fun a => ⟨(Nat.le_of_ble_eq_true rfl), rfl⟩) ?_
  intro p9 l9 e9 s9 m9 g9 b9 h9 c9 D9 A9 ct a C
  have C : Cx p9 s9 m9 g9 h9 c9 cX6_silo 3 RX6 (some .int) D9 A9 ct a := C
  refine q_iload1 C dX6_silo_0 ?_
  refine q_iconst (v := 0) C dX6_silo_1 (by decide) ?_
  refine q_iconst (v := 2) C dX6_silo_2 (by decide) ?_
  refine qc_SI C (c_X6_within _ _ _ _) cw_X6_63 rfl rfl (Nat.le_of_ble_eq_true rfl) ⟨(Nat.le_of_ble_eq_true rfl), (Nat.le_of_ble_eq_true rfl)⟩ ⟨Nat.zero_le _, Nat.zero_le _⟩ dX6_silo_3 ?_
  refine q_if_eq (tgt := 18) C dX6_silo_6 (by decide) (fun c1 => ?_) (fun c1 => ?_)
  · refine q_iconst (v := -1) C dX6_silo_18 (by decide) ?_
    exact q_iret C (by first | rfl | (rw [f_X6_silo, if_pos c1]; done) | (rw [f_X6_silo, if_pos c1]; rfl) | (simp only [f_X6_silo, if_pos c1]; done)) rfl dX6_silo_19
  · refine q_iload2 C dX6_silo_9 ?_
    refine q_iconst (v := 0) C dX6_silo_10 (by decide) ?_
    refine q_iconst (v := 1) C dX6_silo_11 (by decide) ?_
    refine qc_SI C (c_X6_within _ _ _ _) cw_X6_63 rfl rfl (Nat.le_of_ble_eq_true rfl) ⟨(Nat.le_of_ble_eq_true rfl), (Nat.le_of_ble_eq_true rfl)⟩ ⟨Nat.zero_le _, Nat.zero_le _⟩ dX6_silo_12 ?_
    refine q_if_ne (tgt := 20) C dX6_silo_15 (by decide) (fun c2 => ?_) (fun c2 => ?_)
    · refine q_iload2 C dX6_silo_20 ?_
      refine q_cut M 43 [none, none, none] [.int (if u2 = 0 then (f_X5_tonsIn M u1) else (f_X5_lotsIn M u1))] (fun hJ => ?_) ?_
      · refine q_if_ne (tgt := 35) C dX6_silo_21 (by decide) (fun c3 => ?_) (fun c3 => ?_)
        · refine q_aload0 C dX6_silo_35 ?_
          refine g_X6_33 C dX6_silo_36 ?_
          refine q_iload1 C dX6_silo_39 ?_
          refine qc_VI C (c_X5_lotsIn _ _ (wi_in (by assumption) (by decide))) cw_X6_183 rfl rfl rfl rfl (Nat.le_of_ble_eq_true rfl) ⟨(Nat.le_of_ble_eq_true rfl), (Nat.le_of_ble_eq_true rfl)⟩ ⟨Nat.zero_le _, Nat.zero_le _⟩ dX6_silo_40 ?_
          refine q_drop [none, none, none] (by repeat' (first | exact trivial | rfl | constructor)) ?_
          (try simp only [if_neg c3] at hJ); exact hJ
        · refine q_aload0 C dX6_silo_24 ?_
          refine g_X6_33 C dX6_silo_25 ?_
          refine q_iload1 C dX6_silo_28 ?_
          refine qc_VI C (c_X5_tonsIn _ _ (wi_in (by assumption) (by decide))) cw_X6_180 rfl rfl rfl rfl (Nat.le_of_ble_eq_true rfl) ⟨(Nat.le_of_ble_eq_true rfl), (Nat.le_of_ble_eq_true rfl)⟩ ⟨Nat.zero_le _, Nat.zero_le _⟩ dX6_silo_29 ?_
          refine q_goto (tgt := 43) C dX6_silo_32 (by decide) ?_
          refine q_drop [none, none, none] (by repeat' (first | exact trivial | rfl | constructor)) ?_
          (try simp only [if_pos c3] at hJ); exact hJ
      exact q_iret C (by first | rfl | (rw [f_X6_silo, if_neg c1, if_neg c2]; done) | (rw [f_X6_silo, if_neg c1, if_neg c2]; rfl) | (simp only [f_X6_silo, if_neg c1, if_neg c2]; done)) rfl dX6_silo_43
    · refine q_iconst (v := -1) C dX6_silo_18 (by decide) ?_
      exact q_iret C (by first | rfl | (rw [f_X6_silo, if_neg c1, if_pos c2]; done) | (rw [f_X6_silo, if_neg c1, if_pos c2]; rfl) | (simp only [f_X6_silo, if_neg c1, if_pos c2]; done)) rfl dX6_silo_19
def f_X6_bag (M : Mm) (u1 : Int32) (u2 : Int32) : Int32 × Mm := (if (f_X6_within u1 (0 : Int32) (2 : Int32)) = 0 then ((-1 : Int32), M) else (if (f_X6_within u2 (1 : Int32) (10000 : Int32)) = 0 then ((-1 : Int32), M) else (if u2 ≤ (f_X5_tonsIn M u1) then ((f_X5_fill M u1 u2).1, (f_X5_fill M u1 u2).2) else ((-4 : Int32), M))))
set_option maxHeartbeats 4000000 in
set_option maxRecDepth 100000 in
theorem c_X6_bag (M : Mm) (u1 : Int32) (u2 : Int32)  : MI yX6_bag cX6_bag 3 (some .int) 3 71 (fun a => [.ref (a 0), .int u1, .int u2]) M (f_X6_bag M u1 u2).1 (f_X6_bag M u1 u2).2 := by
  refine MI.intro (lv0 := fun a => [some (.ref (a 0)), some (.int u1), some (.int u2)]) (by decide) (fun a => ⟨(Nat.le_of_ble_eq_true rfl), rfl⟩) ?_
  intro p9 l9 e9 s9 m9 g9 b9 h9 c9 D9 A9 ct a C
  have C : Cx p9 s9 m9 g9 h9 c9 cX6_bag 3 RX6 (some .int) D9 A9 ct a := C
  refine q_iload1 C dX6_bag_0 ?_
  refine q_iconst (v := 0) C dX6_bag_1 (by decide) ?_
  refine q_iconst (v := 2) C dX6_bag_2 (by decide) ?_
  refine qc_SI C (c_X6_within _ _ _ _) cw_X6_63 rfl rfl (Nat.le_of_ble_eq_true rfl) ⟨(Nat.le_of_ble_eq_true rfl), (Nat.le_of_ble_eq_true rfl)⟩ ⟨Nat.zero_le _, Nat.zero_le _⟩ dX6_bag_3 ?_
  refine q_if_eq (tgt := 20) C dX6_bag_6 (by decide) (fun c1 => ?_) (fun c1 => ?_)
  · refine q_iconst (v := -1) C dX6_bag_20 (by decide) ?_
    exact q_iret C (by first | rfl | (rw [f_X6_bag, if_pos c1]; done) | (rw [f_X6_bag, if_pos c1]; rfl) | (simp only [f_X6_bag, if_pos c1]; done)) (by first | rfl | (rw [f_X6_bag, if_pos c1]; done) | (rw [f_X6_bag, if_pos c1]; rfl) | (simp only [f_X6_bag, if_pos c1]; done)) dX6_bag_21
  · refine q_iload2 C dX6_bag_9 ?_
    refine q_iconst (v := 1) C dX6_bag_10 (by decide) ?_
    refine q_sipush (v := 10000) C dX6_bag_11 (by decide) ?_
    refine qc_SI C (c_X6_within _ _ _ _) cw_X6_63 rfl rfl (Nat.le_of_ble_eq_true rfl) ⟨(Nat.le_of_ble_eq_true rfl), (Nat.le_of_ble_eq_true rfl)⟩ ⟨Nat.zero_le _, Nat.zero_le _⟩ dX6_bag_14 ?_
    refine q_if_ne (tgt := 22) C dX6_bag_17 (by decide) (fun c2 => ?_) (fun c2 => ?_)
    · refine q_aload0 C dX6_bag_22 ?_
      refine g_X6_33 C dX6_bag_23 ?_
      refine q_iload1 C dX6_bag_26 ?_
      refine qc_VI C (c_X5_tonsIn _ _ (wi_in (by assumption) (by decide))) cw_X6_180 rfl rfl rfl rfl (Nat.le_of_ble_eq_true rfl) ⟨(Nat.le_of_ble_eq_true rfl), (Nat.le_of_ble_eq_true rfl)⟩ ⟨Nat.zero_le _, Nat.zero_le _⟩ dX6_bag_27 ?_
      refine q_iload2 C dX6_bag_30 ?_
      refine q_icmp_ge (tgt := 37) C dX6_bag_31 (by decide) (fun c3 => ?_) (fun c3 => ?_)
      · refine q_aload0 C dX6_bag_37 ?_
        refine g_X6_33 C dX6_bag_38 ?_
        refine q_iload1 C dX6_bag_41 ?_
        refine q_iload2 C dX6_bag_42 ?_
        refine qc_VI C (c_X5_fill _ _ _ (wi_in (by assumption) (by decide))) cw_X6_186 rfl rfl rfl rfl (Nat.le_of_ble_eq_true rfl) ⟨(Nat.le_of_ble_eq_true rfl), (Nat.le_of_ble_eq_true rfl)⟩ ⟨Nat.zero_le _, Nat.zero_le _⟩ dX6_bag_43 ?_
        exact q_iret C (by first | rfl | (rw [f_X6_bag, if_neg c1, if_neg c2, if_pos c3]; done) | (rw [f_X6_bag, if_neg c1, if_neg c2, if_pos c3]; rfl) | (simp only [f_X6_bag, if_neg c1, if_neg c2, if_pos c3]; done)) (by first | rfl | (rw [f_X6_bag, if_neg c1, if_neg c2, if_pos c3]; done) | (rw [f_X6_bag, if_neg c1, if_neg c2, if_pos c3]; rfl) | (simp only [f_X6_bag, if_neg c1, if_neg c2, if_pos c3]; done)) dX6_bag_46
      · refine q_bipush (v := -4) C dX6_bag_34 (by decide) ?_
        exact q_iret C (by first | rfl | (rw [f_X6_bag, if_neg c1, if_neg c2, if_neg c3]; done) | (rw [f_X6_bag, if_neg c1, if_neg c2, if_neg c3]; rfl) | (simp only [f_X6_bag, if_neg c1, if_neg c2, if_neg c3]; done)) (by first | rfl | (rw [f_X6_bag, if_neg c1, if_neg c2, if_neg c3]; done) | (rw [f_X6_bag, if_neg c1, if_neg c2, if_neg c3]; rfl) | (simp only [f_X6_bag, if_neg c1, if_neg c2, if_neg c3]; done)) dX6_bag_36
    · refine q_iconst (v := -1) C dX6_bag_20 (by decide) ?_
      exact q_iret C (by first | rfl | (rw [f_X6_bag, if_neg c1, if_pos c2]; done) | (rw [f_X6_bag, if_neg c1, if_pos c2]; rfl) | (simp only [f_X6_bag, if_neg c1, if_pos c2]; done)) (by first | rfl | (rw [f_X6_bag, if_neg c1, if_pos c2]; done) | (rw [f_X6_bag, if_neg c1, if_pos c2]; rfl) | (simp only [f_X6_bag, if_neg c1, if_pos c2]; done)) dX6_bag_21
def f_X6_lot (M : Mm) (u1 : Int32) (u2 : Int32) : Int32 := (if (f_X6_within u2 (0 : Int32) (1 : Int32)) = 0 then (-1 : Int32) else (if (f_X6_within u1 (0 : Int32) ((f_X5_lotsInBag M) - (1 : Int32))) = 0 then (-9 : Int32) else (if u2 = 0 then (f_X5_stepInBag M u1) else (f_X5_tonsInBag M u1))))
set_option maxHeartbeats 4000000 in
set_option maxRecDepth 100000 in
theorem c_X6_lot (M : Mm) (u1 : Int32) (u2 : Int32) (hb0 : 0 ≤ gI M 4 6) (hb1 : gI M 4 6 ≤ 500) : MI yX6_lot cX6_lot 3 (some .int) 1 22 (fun a => [.ref (a 0), .int u1, .int u2]) M (f_X6_lot M u1 u2) M := by
  refine MI.intro (lv0 := fun a => [some (.ref (a 0)), some (.int u1), some (.int u2)]) (by decide) (fun a => ⟨(Nat.le_of_ble_eq_true rfl), rfl⟩) ?_
  intro p9 l9 e9 s9 m9 g9 b9 h9 c9 D9 A9 ct a C
  have C : Cx p9 s9 m9 g9 h9 c9 cX6_lot 3 RX6 (some .int) D9 A9 ct a := C
  refine q_iload2 C dX6_lot_0 ?_
  refine q_iconst (v := 0) C dX6_lot_1 (by decide) ?_
  refine q_iconst (v := 1) C dX6_lot_2 (by decide) ?_
  refine qc_SI C (c_X6_within _ _ _ _) cw_X6_63 rfl rfl (Nat.le_of_ble_eq_true rfl) ⟨(Nat.le_of_ble_eq_true rfl), (Nat.le_of_ble_eq_true rfl)⟩ ⟨Nat.zero_le _, Nat.zero_le _⟩ dX6_lot_3 ?_
  refine q_if_ne (tgt := 11) C dX6_lot_6 (by decide) (fun c1 => ?_) (fun c1 => ?_)
  · refine q_iload1 C dX6_lot_11 ?_
    refine q_iconst (v := 0) C dX6_lot_12 (by decide) ?_
    refine q_aload0 C dX6_lot_13 ?_
    refine g_X6_33 C dX6_lot_14 ?_
    refine qc_VI C (c_X5_lotsInBag _ ) cw_X6_189 rfl rfl rfl rfl (Nat.le_of_ble_eq_true rfl) ⟨(Nat.le_of_ble_eq_true rfl), (Nat.le_of_ble_eq_true rfl)⟩ ⟨Nat.zero_le _, Nat.zero_le _⟩ dX6_lot_17 ?_
    refine q_iconst (v := 1) C dX6_lot_20 (by decide) ?_
    refine q_isub C dX6_lot_21 ?_
    refine qc_SI C (c_X6_within _ _ _ _) cw_X6_63 rfl rfl (Nat.le_of_ble_eq_true rfl) ⟨(Nat.le_of_ble_eq_true rfl), (Nat.le_of_ble_eq_true rfl)⟩ ⟨Nat.zero_le _, Nat.zero_le _⟩ dX6_lot_22 ?_
    refine q_if_ne (tgt := 31) C dX6_lot_25 (by decide) (fun c2 => ?_) (fun c2 => ?_)
    · refine q_iload2 C dX6_lot_31 ?_
      refine q_cut M 54 [none, none, none] [.int (if u2 = 0 then (f_X5_stepInBag M u1) else (f_X5_tonsInBag M u1))] (fun hJ => ?_) ?_
      · refine q_if_ne (tgt := 46) C dX6_lot_32 (by decide) (fun c3 => ?_) (fun c3 => ?_)
        · refine q_aload0 C dX6_lot_46 ?_
          refine g_X6_33 C dX6_lot_47 ?_
          refine q_iload1 C dX6_lot_50 ?_
          refine qc_VI C (c_X5_tonsInBag _ _ (wi_in' (by assumption) hb0 hb1 (by decide))) cw_X6_195 rfl rfl rfl rfl (Nat.le_of_ble_eq_true rfl) ⟨(Nat.le_of_ble_eq_true rfl), (Nat.le_of_ble_eq_true rfl)⟩ ⟨Nat.zero_le _, Nat.zero_le _⟩ dX6_lot_51 ?_
          refine q_drop [none, none, none] (by repeat' (first | exact trivial | rfl | constructor)) ?_
          (try simp only [if_neg c3] at hJ); exact hJ
        · refine q_aload0 C dX6_lot_35 ?_
          refine g_X6_33 C dX6_lot_36 ?_
          refine q_iload1 C dX6_lot_39 ?_
          refine qc_VI C (c_X5_stepInBag _ _ (wi_in' (by assumption) hb0 hb1 (by decide))) cw_X6_192 rfl rfl rfl rfl (Nat.le_of_ble_eq_true rfl) ⟨(Nat.le_of_ble_eq_true rfl), (Nat.le_of_ble_eq_true rfl)⟩ ⟨Nat.zero_le _, Nat.zero_le _⟩ dX6_lot_40 ?_
          refine q_goto (tgt := 54) C dX6_lot_43 (by decide) ?_
          refine q_drop [none, none, none] (by repeat' (first | exact trivial | rfl | constructor)) ?_
          (try simp only [if_pos c3] at hJ); exact hJ
      exact q_iret C (by first | rfl | (rw [f_X6_lot, if_neg c1, if_neg c2]; done) | (rw [f_X6_lot, if_neg c1, if_neg c2]; rfl) | (simp only [f_X6_lot, if_neg c1, if_neg c2]; done)) rfl dX6_lot_54
    · refine q_bipush (v := -9) C dX6_lot_28 (by decide) ?_
      exact q_iret C (by first | rfl | (rw [f_X6_lot, if_neg c1, if_pos c2]; done) | (rw [f_X6_lot, if_neg c1, if_pos c2]; rfl) | (simp only [f_X6_lot, if_neg c1, if_pos c2]; done)) rfl dX6_lot_30
  · refine q_iconst (v := -1) C dX6_lot_9 (by decide) ?_
    exact q_iret C (by first | rfl | (rw [f_X6_lot, if_pos c1]; done) | (rw [f_X6_lot, if_pos c1]; rfl) | (simp only [f_X6_lot, if_pos c1]; done)) rfl dX6_lot_10
def f_X6_day (M : Mm) (u1 : Int32) : Int32 × Mm := (if (f_X6_within u1 (0 : Int32) (6 : Int32)) = 0 then ((-1 : Int32), M) else ((f_X4_layRow M u1).1, (f_X4_layRow M u1).2))
set_option maxHeartbeats 4000000 in
set_option maxRecDepth 100000 in
theorem c_X6_day (M : Mm) (u1 : Int32)  : MI yX6_day cX6_day 2 (some .int) 2 45 (fun a => [.ref (a 0), .int u1]) M (f_X6_day M u1).1 (f_X6_day M u1).2 := by
  refine MI.intro (lv0 := fun a => [some (.ref (a 0)), some (.int u1)]) (by decide) (fun a => ⟨(Nat.le_of_ble_eq_true rfl), rfl⟩) ?_
  intro p9 l9 e9 s9 m9 g9 b9 h9 c9 D9 A9 ct a C
  have C : Cx p9 s9 m9 g9 h9 c9 cX6_day 2 RX6 (some .int) D9 A9 ct a := C
  refine q_iload1 C dX6_day_0 ?_
  refine q_iconst (v := 0) C dX6_day_1 (by decide) ?_
  refine q_bipush (v := 6) C dX6_day_2 (by decide) ?_
  refine qc_SI C (c_X6_within _ _ _ _) cw_X6_63 rfl rfl (Nat.le_of_ble_eq_true rfl) ⟨(Nat.le_of_ble_eq_true rfl), (Nat.le_of_ble_eq_true rfl)⟩ ⟨Nat.zero_le _, Nat.zero_le _⟩ dX6_day_4 ?_
  refine q_if_ne (tgt := 12) C dX6_day_7 (by decide) (fun c1 => ?_) (fun c1 => ?_)
  · refine q_aload0 C dX6_day_12 ?_
    refine g_X6_40 C dX6_day_13 ?_
    refine q_iload1 C dX6_day_16 ?_
    refine qc_VI C (c_X4_layRow _ _ (wi_in (by assumption) (by decide))) cw_X6_198 rfl rfl rfl rfl (Nat.le_of_ble_eq_true rfl) ⟨(Nat.le_of_ble_eq_true rfl), (Nat.le_of_ble_eq_true rfl)⟩ ⟨Nat.zero_le _, Nat.zero_le _⟩ dX6_day_17 ?_
    exact q_iret C (by first | rfl | (rw [f_X6_day, if_neg c1]; done) | (rw [f_X6_day, if_neg c1]; rfl) | (simp only [f_X6_day, if_neg c1]; done)) (by first | rfl | (rw [f_X6_day, if_neg c1]; done) | (rw [f_X6_day, if_neg c1]; rfl) | (simp only [f_X6_day, if_neg c1]; done)) dX6_day_20
  · refine q_iconst (v := -1) C dX6_day_10 (by decide) ?_
    exact q_iret C (by first | rfl | (rw [f_X6_day, if_pos c1]; done) | (rw [f_X6_day, if_pos c1]; rfl) | (simp only [f_X6_day, if_pos c1]; done)) (by first | rfl | (rw [f_X6_day, if_pos c1]; done) | (rw [f_X6_day, if_pos c1]; rfl) | (simp only [f_X6_day, if_pos c1]; done)) dX6_day_11
def f_X6_price (M : Mm) (u1 : Int32) (u2 : Int32) (u3 : Int32) : Int32 × Mm := (if (f_X6_within u1 (0 : Int32) (6 : Int32)) = 0 then ((-1 : Int32), M) else (if (f_X6_within u3 (0 : Int32) (1000 : Int32)) = 0 then ((-1 : Int32), M) else (if (f_X4_has M u1) = 0 then ((f_X1_answer M (1 : Int32)).1, (f_X1_answer M (1 : Int32)).2) else (if (f_X6_within u2 (0 : Int32) (23 : Int32)) = 0 then ((f_X1_answer M (2 : Int32)).1, (f_X1_answer M (2 : Int32)).2) else ((f_X4_set M u1 u2 u3).1, (f_X4_set M u1 u2 u3).2)))))
set_option maxHeartbeats 4000000 in
set_option maxRecDepth 100000 in
theorem c_X6_price (M : Mm) (u1 : Int32) (u2 : Int32) (u3 : Int32) (hz : ∀ j, bz (gI M 32 j)) : MI yX6_price cX6_price 4 (some .int) 1 24 (fun a => [.ref (a 0), .int u1, .int u2, .int u3]) M (f_X6_price M u1 u2 u3).1 (f_X6_price M u1 u2 u3).2 := by
  refine MI.intro (lv0 := fun a => [some (.ref (a 0)), some (.int u1), some (.int u2), some (.int u3)]) (by decide) (fun a => ⟨(Nat.le_of_ble_eq_true rfl), rfl⟩) ?_
  intro p9 l9 e9 s9 m9 g9 b9 h9 c9 D9 A9 ct a C
  have C : Cx p9 s9 m9 g9 h9 c9 cX6_price 4 RX6 (some .int) D9 A9 ct a := C
  refine q_iload1 C dX6_price_0 ?_
  refine q_iconst (v := 0) C dX6_price_1 (by decide) ?_
  refine q_bipush (v := 6) C dX6_price_2 (by decide) ?_
  refine qc_SI C (c_X6_within _ _ _ _) cw_X6_63 rfl rfl (Nat.le_of_ble_eq_true rfl) ⟨(Nat.le_of_ble_eq_true rfl), (Nat.le_of_ble_eq_true rfl)⟩ ⟨Nat.zero_le _, Nat.zero_le _⟩ dX6_price_4 ?_
  refine q_if_eq (tgt := 21) C dX6_price_7 (by decide) (fun c1 => ?_) (fun c1 => ?_)
  · refine q_iconst (v := -1) C dX6_price_21 (by decide) ?_
    exact q_iret C (by first | rfl | (rw [f_X6_price, if_pos c1]; done) | (rw [f_X6_price, if_pos c1]; rfl) | (simp only [f_X6_price, if_pos c1]; done)) (by first | rfl | (rw [f_X6_price, if_pos c1]; done) | (rw [f_X6_price, if_pos c1]; rfl) | (simp only [f_X6_price, if_pos c1]; done)) dX6_price_22
  · refine q_iload3 C dX6_price_10 ?_
    refine q_iconst (v := 0) C dX6_price_11 (by decide) ?_
    refine q_sipush (v := 1000) C dX6_price_12 (by decide) ?_
    refine qc_SI C (c_X6_within _ _ _ _) cw_X6_63 rfl rfl (Nat.le_of_ble_eq_true rfl) ⟨(Nat.le_of_ble_eq_true rfl), (Nat.le_of_ble_eq_true rfl)⟩ ⟨Nat.zero_le _, Nat.zero_le _⟩ dX6_price_15 ?_
    refine q_if_ne (tgt := 23) C dX6_price_18 (by decide) (fun c2 => ?_) (fun c2 => ?_)
    · refine q_aload0 C dX6_price_23 ?_
      refine g_X6_40 C dX6_price_24 ?_
      refine q_iload1 C dX6_price_27 ?_
      refine qc_VI C (c_X4_has _ _ (wi_in (by assumption) (by decide)) (hz _)) cw_X6_201 rfl rfl rfl rfl (Nat.le_of_ble_eq_true rfl) ⟨(Nat.le_of_ble_eq_true rfl), (Nat.le_of_ble_eq_true rfl)⟩ ⟨Nat.zero_le _, Nat.zero_le _⟩ dX6_price_28 ?_
      refine q_if_ne (tgt := 43) C dX6_price_31 (by decide) (fun c3 => ?_) (fun c3 => ?_)
      · refine q_iload2 C dX6_price_43 ?_
        refine q_iconst (v := 0) C dX6_price_44 (by decide) ?_
        refine q_bipush (v := 23) C dX6_price_45 (by decide) ?_
        refine qc_SI C (c_X6_within _ _ _ _) cw_X6_63 rfl rfl (Nat.le_of_ble_eq_true rfl) ⟨(Nat.le_of_ble_eq_true rfl), (Nat.le_of_ble_eq_true rfl)⟩ ⟨Nat.zero_le _, Nat.zero_le _⟩ dX6_price_47 ?_
        refine q_if_ne (tgt := 62) C dX6_price_50 (by decide) (fun c4 => ?_) (fun c4 => ?_)
        · refine q_aload0 C dX6_price_62 ?_
          refine g_X6_40 C dX6_price_63 ?_
          refine q_iload1 C dX6_price_66 ?_
          refine q_iload2 C dX6_price_67 ?_
          refine q_iload3 C dX6_price_68 ?_
          refine qc_VI C (c_X4_set _ _ _ _ (wi_in (by assumption) (by decide)) (wi_in (by assumption) (by decide))) cw_X6_204 rfl rfl rfl rfl (Nat.le_of_ble_eq_true rfl) ⟨(Nat.le_of_ble_eq_true rfl), (Nat.le_of_ble_eq_true rfl)⟩ ⟨Nat.zero_le _, Nat.zero_le _⟩ dX6_price_69 ?_
          exact q_iret C (by first | rfl | (rw [f_X6_price, if_neg c1, if_neg c2, if_neg c3, if_neg c4]; done) | (rw [f_X6_price, if_neg c1, if_neg c2, if_neg c3, if_neg c4]; rfl) | (simp only [f_X6_price, if_neg c1, if_neg c2, if_neg c3, if_neg c4]; done)) (by first | rfl | (rw [f_X6_price, if_neg c1, if_neg c2, if_neg c3, if_neg c4]; done) | (rw [f_X6_price, if_neg c1, if_neg c2, if_neg c3, if_neg c4]; rfl) | (simp only [f_X6_price, if_neg c1, if_neg c2, if_neg c3, if_neg c4]; done)) dX6_price_72
        · refine q_aload0 C dX6_price_53 ?_
          refine g_X6_47 C dX6_price_54 ?_
          refine q_iconst (v := 2) C dX6_price_57 (by decide) ?_
          refine qc_VI C (c_X1_answer _ _ (by first | assumption | exact vp_in_nI (by omega) (by decide) | omega | (unfold vp_in; decide) | decide)) cw_X6_121 rfl rfl rfl rfl (Nat.le_of_ble_eq_true rfl) ⟨(Nat.le_of_ble_eq_true rfl), (Nat.le_of_ble_eq_true rfl)⟩ ⟨Nat.zero_le _, Nat.zero_le _⟩ dX6_price_58 ?_
          exact q_iret C (by first | rfl | (rw [f_X6_price, if_neg c1, if_neg c2, if_neg c3, if_pos c4]; done) | (rw [f_X6_price, if_neg c1, if_neg c2, if_neg c3, if_pos c4]; rfl) | (simp only [f_X6_price, if_neg c1, if_neg c2, if_neg c3, if_pos c4]; done)) (by first | rfl | (rw [f_X6_price, if_neg c1, if_neg c2, if_neg c3, if_pos c4]; done) | (rw [f_X6_price, if_neg c1, if_neg c2, if_neg c3, if_pos c4]; rfl) | (simp only [f_X6_price, if_neg c1, if_neg c2, if_neg c3, if_pos c4]; done)) dX6_price_61
      · refine q_aload0 C dX6_price_34 ?_
        refine g_X6_47 C dX6_price_35 ?_
        refine q_iconst (v := 1) C dX6_price_38 (by decide) ?_
        refine qc_VI C (c_X1_answer _ _ (by first | assumption | exact vp_in_nI (by omega) (by decide) | omega | (unfold vp_in; decide) | decide)) cw_X6_121 rfl rfl rfl rfl (Nat.le_of_ble_eq_true rfl) ⟨(Nat.le_of_ble_eq_true rfl), (Nat.le_of_ble_eq_true rfl)⟩ ⟨Nat.zero_le _, Nat.zero_le _⟩ dX6_price_39 ?_
        exact q_iret C (by first | rfl | (rw [f_X6_price, if_neg c1, if_neg c2, if_pos c3]; done) | (rw [f_X6_price, if_neg c1, if_neg c2, if_pos c3]; rfl) | (simp only [f_X6_price, if_neg c1, if_neg c2, if_pos c3]; done)) (by first | rfl | (rw [f_X6_price, if_neg c1, if_neg c2, if_pos c3]; done) | (rw [f_X6_price, if_neg c1, if_neg c2, if_pos c3]; rfl) | (simp only [f_X6_price, if_neg c1, if_neg c2, if_pos c3]; done)) dX6_price_42
    · refine q_iconst (v := -1) C dX6_price_21 (by decide) ?_
      exact q_iret C (by first | rfl | (rw [f_X6_price, if_neg c1, if_pos c2]; done) | (rw [f_X6_price, if_neg c1, if_pos c2]; rfl) | (simp only [f_X6_price, if_neg c1, if_pos c2]; done)) (by first | rfl | (rw [f_X6_price, if_neg c1, if_pos c2]; done) | (rw [f_X6_price, if_neg c1, if_pos c2]; rfl) | (simp only [f_X6_price, if_neg c1, if_pos c2]; done)) dX6_price_22
def f_X6_tear (M : Mm) (u1 : Int32) : Int32 × Mm := (if (f_X6_within u1 (0 : Int32) (6 : Int32)) = 0 then ((-1 : Int32), M) else (if (f_X4_has M u1) = 0 then ((f_X1_answer M (1 : Int32)).1, (f_X1_answer M (1 : Int32)).2) else ((1 : Int32), (f_X4_drop M u1))))
set_option maxHeartbeats 4000000 in
set_option maxRecDepth 100000 in
theorem c_X6_tear (M : Mm) (u1 : Int32) (hz : ∀ j, bz (gI M 32 j)) : MI yX6_tear cX6_tear 2 (some .int) 1 22 (fun a => [.ref (a 0), .int u1]) M (f_X6_tear M u1).1 (f_X6_tear M u1).2 := by
  refine MI.intro (lv0 := fun a => [some (.ref (a 0)), some (.int u1)]) (by decide) (fun a => ⟨(Nat.le_of_ble_eq_true rfl), rfl⟩) ?_
  intro p9 l9 e9 s9 m9 g9 b9 h9 c9 D9 A9 ct a C
  have C : Cx p9 s9 m9 g9 h9 c9 cX6_tear 2 RX6 (some .int) D9 A9 ct a := C
  refine q_iload1 C dX6_tear_0 ?_
  refine q_iconst (v := 0) C dX6_tear_1 (by decide) ?_
  refine q_bipush (v := 6) C dX6_tear_2 (by decide) ?_
  refine qc_SI C (c_X6_within _ _ _ _) cw_X6_63 rfl rfl (Nat.le_of_ble_eq_true rfl) ⟨(Nat.le_of_ble_eq_true rfl), (Nat.le_of_ble_eq_true rfl)⟩ ⟨Nat.zero_le _, Nat.zero_le _⟩ dX6_tear_4 ?_
  refine q_if_ne (tgt := 12) C dX6_tear_7 (by decide) (fun c1 => ?_) (fun c1 => ?_)
  · refine q_aload0 C dX6_tear_12 ?_
    refine g_X6_40 C dX6_tear_13 ?_
    refine q_iload1 C dX6_tear_16 ?_
    refine qc_VI C (c_X4_has _ _ (wi_in (by assumption) (by decide)) (hz _)) cw_X6_201 rfl rfl rfl rfl (Nat.le_of_ble_eq_true rfl) ⟨(Nat.le_of_ble_eq_true rfl), (Nat.le_of_ble_eq_true rfl)⟩ ⟨Nat.zero_le _, Nat.zero_le _⟩ dX6_tear_17 ?_
    refine q_if_ne (tgt := 32) C dX6_tear_20 (by decide) (fun c2 => ?_) (fun c2 => ?_)
    · refine q_aload0 C dX6_tear_32 ?_
      refine g_X6_40 C dX6_tear_33 ?_
      refine q_iload1 C dX6_tear_36 ?_
      refine qc_VV C (c_X4_drop _ _ (wi_in (by assumption) (by decide))) cw_X6_207 rfl rfl rfl rfl (Nat.le_of_ble_eq_true rfl) ⟨(Nat.le_of_ble_eq_true rfl), (Nat.le_of_ble_eq_true rfl)⟩ ⟨Nat.zero_le _, Nat.zero_le _⟩ dX6_tear_37 ?_
      refine q_iconst (v := 1) C dX6_tear_40 (by decide) ?_
      exact q_iret C (by first | rfl | (rw [f_X6_tear, if_neg c1, if_neg c2]; done) | (rw [f_X6_tear, if_neg c1, if_neg c2]; rfl) | (simp only [f_X6_tear, if_neg c1, if_neg c2]; done)) (by first | rfl | (rw [f_X6_tear, if_neg c1, if_neg c2]; done) | (rw [f_X6_tear, if_neg c1, if_neg c2]; rfl) | (simp only [f_X6_tear, if_neg c1, if_neg c2]; done)) dX6_tear_41
    · refine q_aload0 C dX6_tear_23 ?_
      refine g_X6_47 C dX6_tear_24 ?_
      refine q_iconst (v := 1) C dX6_tear_27 (by decide) ?_
      refine qc_VI C (c_X1_answer _ _ (by first | assumption | exact vp_in_nI (by omega) (by decide) | omega | (unfold vp_in; decide) | decide)) cw_X6_121 rfl rfl rfl rfl (Nat.le_of_ble_eq_true rfl) ⟨(Nat.le_of_ble_eq_true rfl), (Nat.le_of_ble_eq_true rfl)⟩ ⟨Nat.zero_le _, Nat.zero_le _⟩ dX6_tear_28 ?_
      exact q_iret C (by first | rfl | (rw [f_X6_tear, if_neg c1, if_pos c2]; done) | (rw [f_X6_tear, if_neg c1, if_pos c2]; rfl) | (simp only [f_X6_tear, if_neg c1, if_pos c2]; done)) (by first | rfl | (rw [f_X6_tear, if_neg c1, if_pos c2]; done) | (rw [f_X6_tear, if_neg c1, if_pos c2]; rfl) | (simp only [f_X6_tear, if_neg c1, if_pos c2]; done)) dX6_tear_31
  · refine q_iconst (v := -1) C dX6_tear_10 (by decide) ?_
    exact q_iret C (by first | rfl | (rw [f_X6_tear, if_pos c1]; done) | (rw [f_X6_tear, if_pos c1]; rfl) | (simp only [f_X6_tear, if_pos c1]; done)) (by first | rfl | (rw [f_X6_tear, if_pos c1]; done) | (rw [f_X6_tear, if_pos c1]; rfl) | (simp only [f_X6_tear, if_pos c1]; done)) dX6_tear_11
def f_X6_copy (M : Mm) (u1 : Int32) (u2 : Int32) (u3 : Int32) (u4 : Int32) (u5 : Int32) : Int32 × Mm := (if (f_X6_within u1 (0 : Int32) (6 : Int32)) = 0 then ((-1 : Int32), M) else (if (f_X6_within u3 (0 : Int32) (6 : Int32)) = 0 then ((-1 : Int32), M) else (if 0 ≤ u5 then (if (f_X4_has M u1) = 0 then ((f_X1_answer M (1 : Int32)).1, (f_X1_answer M (1 : Int32)).2) else (if (f_X4_has M u3) = 0 then ((f_X1_answer M (1 : Int32)).1, (f_X1_answer M (1 : Int32)).2) else (if (f_X6_hasHours u2 u5) = 0 then ((f_X1_answer M (2 : Int32)).1, (f_X1_answer M (2 : Int32)).2) else (if (f_X6_hasHours u4 u5) = 0 then ((f_X1_answer M (2 : Int32)).1, (f_X1_answer M (2 : Int32)).2) else ((1 : Int32), (f_X4_move M u1 u2 u3 u4 u5)))))) else ((f_X1_answer M (5 : Int32)).1, (f_X1_answer M (5 : Int32)).2))))
set_option maxHeartbeats 4000000 in
set_option maxRecDepth 100000 in
theorem c_X6_copy (M : Mm) (u1 : Int32) (u2 : Int32) (u3 : Int32) (u4 : Int32) (u5 : Int32) (hz : ∀ j, bz (gI M 32 j)) : MI yX6_copy cX6_copy 6 (some .int) 2 65 (fun a => [.ref (a 0), .int u1, .int u2, .int u3, .int u4, .int u5]) M (f_X6_copy M u1 u2 u3 u4 u5).1 (f_X6_copy M u1 u2 u3 u4 u5).2 := by
  refine MI.intro (lv0 := fun a => [some (.ref (a 0)), some (.int u1), some (.int u2), some (.int u3), some (.int u4), some (.int u5)]) (by decide) (fun a => ⟨(Nat.le_of_ble_eq_true rfl), rfl⟩) ?_
  intro p9 l9 e9 s9 m9 g9 b9 h9 c9 D9 A9 ct a C
  have C : Cx p9 s9 m9 g9 h9 c9 cX6_copy 6 RX6 (some .int) D9 A9 ct a := C
  refine q_iload1 C dX6_copy_0 ?_
  refine q_iconst (v := 0) C dX6_copy_1 (by decide) ?_
  refine q_bipush (v := 6) C dX6_copy_2 (by decide) ?_
  refine qc_SI C (c_X6_within _ _ _ _) cw_X6_63 rfl rfl (Nat.le_of_ble_eq_true rfl) ⟨(Nat.le_of_ble_eq_true rfl), (Nat.le_of_ble_eq_true rfl)⟩ ⟨Nat.zero_le _, Nat.zero_le _⟩ dX6_copy_4 ?_
  refine q_if_eq (tgt := 20) C dX6_copy_7 (by decide) (fun c1 => ?_) (fun c1 => ?_)
  · refine q_iconst (v := -1) C dX6_copy_20 (by decide) ?_
    exact q_iret C (by first | rfl | (rw [f_X6_copy, if_pos c1]; done) | (rw [f_X6_copy, if_pos c1]; rfl) | (simp only [f_X6_copy, if_pos c1]; done)) (by first | rfl | (rw [f_X6_copy, if_pos c1]; done) | (rw [f_X6_copy, if_pos c1]; rfl) | (simp only [f_X6_copy, if_pos c1]; done)) dX6_copy_21
  · refine q_iload3 C dX6_copy_10 ?_
    refine q_iconst (v := 0) C dX6_copy_11 (by decide) ?_
    refine q_bipush (v := 6) C dX6_copy_12 (by decide) ?_
    refine qc_SI C (c_X6_within _ _ _ _) cw_X6_63 rfl rfl (Nat.le_of_ble_eq_true rfl) ⟨(Nat.le_of_ble_eq_true rfl), (Nat.le_of_ble_eq_true rfl)⟩ ⟨Nat.zero_le _, Nat.zero_le _⟩ dX6_copy_14 ?_
    refine q_if_ne (tgt := 22) C dX6_copy_17 (by decide) (fun c2 => ?_) (fun c2 => ?_)
    · refine q_iload5 C dX6_copy_22 ?_
      refine q_if_ge (tgt := 36) C dX6_copy_24 (by decide) (fun c3 => ?_) (fun c3 => ?_)
      · refine q_aload0 C dX6_copy_36 ?_
        refine g_X6_40 C dX6_copy_37 ?_
        refine q_iload1 C dX6_copy_40 ?_
        refine qc_VI C (c_X4_has _ _ (wi_in (by assumption) (by decide)) (hz _)) cw_X6_201 rfl rfl rfl rfl (Nat.le_of_ble_eq_true rfl) ⟨(Nat.le_of_ble_eq_true rfl), (Nat.le_of_ble_eq_true rfl)⟩ ⟨Nat.zero_le _, Nat.zero_le _⟩ dX6_copy_41 ?_
        refine q_if_eq (tgt := 58) C dX6_copy_44 (by decide) (fun c4 => ?_) (fun c4 => ?_)
        · refine q_aload0 C dX6_copy_58 ?_
          refine g_X6_47 C dX6_copy_59 ?_
          refine q_iconst (v := 1) C dX6_copy_62 (by decide) ?_
          refine qc_VI C (c_X1_answer _ _ (by first | assumption | exact vp_in_nI (by omega) (by decide) | omega | (unfold vp_in; decide) | decide)) cw_X6_121 rfl rfl rfl rfl (Nat.le_of_ble_eq_true rfl) ⟨(Nat.le_of_ble_eq_true rfl), (Nat.le_of_ble_eq_true rfl)⟩ ⟨Nat.zero_le _, Nat.zero_le _⟩ dX6_copy_63 ?_
          exact q_iret C (by first | rfl | (rw [f_X6_copy, if_neg c1, if_neg c2, if_pos c3, if_pos c4]; done) | (rw [f_X6_copy, if_neg c1, if_neg c2, if_pos c3, if_pos c4]; rfl) | (simp only [f_X6_copy, if_neg c1, if_neg c2, if_pos c3, if_pos c4]; done)) (by first | rfl | (rw [f_X6_copy, if_neg c1, if_neg c2, if_pos c3, if_pos c4]; done) | (rw [f_X6_copy, if_neg c1, if_neg c2, if_pos c3, if_pos c4]; rfl) | (simp only [f_X6_copy, if_neg c1, if_neg c2, if_pos c3, if_pos c4]; done)) dX6_copy_66
        · refine q_aload0 C dX6_copy_47 ?_
          refine g_X6_40 C dX6_copy_48 ?_
          refine q_iload3 C dX6_copy_51 ?_
          refine qc_VI C (c_X4_has _ _ (wi_in (by assumption) (by decide)) (hz _)) cw_X6_201 rfl rfl rfl rfl (Nat.le_of_ble_eq_true rfl) ⟨(Nat.le_of_ble_eq_true rfl), (Nat.le_of_ble_eq_true rfl)⟩ ⟨Nat.zero_le _, Nat.zero_le _⟩ dX6_copy_52 ?_
          refine q_if_ne (tgt := 67) C dX6_copy_55 (by decide) (fun c5 => ?_) (fun c5 => ?_)
          · refine q_iload2 C dX6_copy_67 ?_
            refine q_iload5 C dX6_copy_68 ?_
            refine qc_SI C (c_X6_hasHours _ _ _) cw_X6_211 rfl rfl (Nat.le_of_ble_eq_true rfl) ⟨(Nat.le_of_ble_eq_true rfl), (Nat.le_of_ble_eq_true rfl)⟩ ⟨Nat.zero_le _, Nat.zero_le _⟩ dX6_copy_70 ?_
            refine q_if_eq (tgt := 86) C dX6_copy_73 (by decide) (fun c6 => ?_) (fun c6 => ?_)
            · refine q_aload0 C dX6_copy_86 ?_
              refine g_X6_47 C dX6_copy_87 ?_
              refine q_iconst (v := 2) C dX6_copy_90 (by decide) ?_
              refine qc_VI C (c_X1_answer _ _ (by first | assumption | exact vp_in_nI (by omega) (by decide) | omega | (unfold vp_in; decide) | decide)) cw_X6_121 rfl rfl rfl rfl (Nat.le_of_ble_eq_true rfl) ⟨(Nat.le_of_ble_eq_true rfl), (Nat.le_of_ble_eq_true rfl)⟩ ⟨Nat.zero_le _, Nat.zero_le _⟩ dX6_copy_91 ?_
              exact q_iret C (by first | rfl | (rw [f_X6_copy, if_neg c1, if_neg c2, if_pos c3, if_neg c4, if_neg c5, if_pos c6]; done) | (rw [f_X6_copy, if_neg c1, if_neg c2, if_pos c3, if_neg c4, if_neg c5, if_pos c6]; rfl) | (simp only [f_X6_copy, if_neg c1, if_neg c2, if_pos c3, if_neg c4, if_neg c5, if_pos c6]; done)) (by first | rfl | (rw [f_X6_copy, if_neg c1, if_neg c2, if_pos c3, if_neg c4, if_neg c5, if_pos c6]; done) | (rw [f_X6_copy, if_neg c1, if_neg c2, if_pos c3, if_neg c4, if_neg c5, if_pos c6]; rfl) | (simp only [f_X6_copy, if_neg c1, if_neg c2, if_pos c3, if_neg c4, if_neg c5, if_pos c6]; done)) dX6_copy_94
            · refine q_iload4 C dX6_copy_76 ?_
              refine q_iload5 C dX6_copy_78 ?_
              refine qc_SI C (c_X6_hasHours _ _ _) cw_X6_211 rfl rfl (Nat.le_of_ble_eq_true rfl) ⟨(Nat.le_of_ble_eq_true rfl), (Nat.le_of_ble_eq_true rfl)⟩ ⟨Nat.zero_le _, Nat.zero_le _⟩ dX6_copy_80 ?_
              refine q_if_ne (tgt := 95) C dX6_copy_83 (by decide) (fun c7 => ?_) (fun c7 => ?_)
              · refine q_aload0 C dX6_copy_95 ?_
                refine g_X6_40 C dX6_copy_96 ?_
                refine q_iload1 C dX6_copy_99 ?_
                refine q_iload2 C dX6_copy_100 ?_
                refine q_iload3 C dX6_copy_101 ?_
                refine q_iload4 C dX6_copy_102 ?_
                refine q_iload5 C dX6_copy_104 ?_
                refine qc_VV C (c_X4_move _ _ _ _ _ _ (wi_in (by assumption) (by decide)) (wi_in (by assumption) (by decide)) (hh_rng (by assumption) (Int32.not_lt.mpr (by assumption))).1 (hh_rng (by assumption) (Int32.not_lt.mpr (by assumption))).1 (Int32.not_lt.mpr (by assumption)) (hh_rng (by assumption) (Int32.not_lt.mpr (by assumption))).2 (hh_rng (by assumption) (Int32.not_lt.mpr (by assumption))).2) cw_X6_215 rfl rfl rfl rfl (Nat.le_of_ble_eq_true rfl) ⟨(Nat.le_of_ble_eq_true rfl), (Nat.le_of_ble_eq_true rfl)⟩ ⟨Nat.zero_le _, Nat.zero_le _⟩ dX6_copy_106 ?_
                refine q_iconst (v := 1) C dX6_copy_109 (by decide) ?_
                exact q_iret C (by first | rfl | (rw [f_X6_copy, if_neg c1, if_neg c2, if_pos c3, if_neg c4, if_neg c5, if_neg c6, if_neg c7]; done) | (rw [f_X6_copy, if_neg c1, if_neg c2, if_pos c3, if_neg c4, if_neg c5, if_neg c6, if_neg c7]; rfl) | (simp only [f_X6_copy, if_neg c1, if_neg c2, if_pos c3, if_neg c4, if_neg c5, if_neg c6, if_neg c7]; done)) (by first | rfl | (rw [f_X6_copy, if_neg c1, if_neg c2, if_pos c3, if_neg c4, if_neg c5, if_neg c6, if_neg c7]; done) | (rw [f_X6_copy, if_neg c1, if_neg c2, if_pos c3, if_neg c4, if_neg c5, if_neg c6, if_neg c7]; rfl) | (simp only [f_X6_copy, if_neg c1, if_neg c2, if_pos c3, if_neg c4, if_neg c5, if_neg c6, if_neg c7]; done)) dX6_copy_110
              · refine q_aload0 C dX6_copy_86 ?_
                refine g_X6_47 C dX6_copy_87 ?_
                refine q_iconst (v := 2) C dX6_copy_90 (by decide) ?_
                refine qc_VI C (c_X1_answer _ _ (by first | assumption | exact vp_in_nI (by omega) (by decide) | omega | (unfold vp_in; decide) | decide)) cw_X6_121 rfl rfl rfl rfl (Nat.le_of_ble_eq_true rfl) ⟨(Nat.le_of_ble_eq_true rfl), (Nat.le_of_ble_eq_true rfl)⟩ ⟨Nat.zero_le _, Nat.zero_le _⟩ dX6_copy_91 ?_
                exact q_iret C (by first | rfl | (rw [f_X6_copy, if_neg c1, if_neg c2, if_pos c3, if_neg c4, if_neg c5, if_neg c6, if_pos c7]; done) | (rw [f_X6_copy, if_neg c1, if_neg c2, if_pos c3, if_neg c4, if_neg c5, if_neg c6, if_pos c7]; rfl) | (simp only [f_X6_copy, if_neg c1, if_neg c2, if_pos c3, if_neg c4, if_neg c5, if_neg c6, if_pos c7]; done)) (by first | rfl | (rw [f_X6_copy, if_neg c1, if_neg c2, if_pos c3, if_neg c4, if_neg c5, if_neg c6, if_pos c7]; done) | (rw [f_X6_copy, if_neg c1, if_neg c2, if_pos c3, if_neg c4, if_neg c5, if_neg c6, if_pos c7]; rfl) | (simp only [f_X6_copy, if_neg c1, if_neg c2, if_pos c3, if_neg c4, if_neg c5, if_neg c6, if_pos c7]; done)) dX6_copy_94
          · refine q_aload0 C dX6_copy_58 ?_
            refine g_X6_47 C dX6_copy_59 ?_
            refine q_iconst (v := 1) C dX6_copy_62 (by decide) ?_
            refine qc_VI C (c_X1_answer _ _ (by first | assumption | exact vp_in_nI (by omega) (by decide) | omega | (unfold vp_in; decide) | decide)) cw_X6_121 rfl rfl rfl rfl (Nat.le_of_ble_eq_true rfl) ⟨(Nat.le_of_ble_eq_true rfl), (Nat.le_of_ble_eq_true rfl)⟩ ⟨Nat.zero_le _, Nat.zero_le _⟩ dX6_copy_63 ?_
            exact q_iret C (by first | rfl | (rw [f_X6_copy, if_neg c1, if_neg c2, if_pos c3, if_neg c4, if_pos c5]; done) | (rw [f_X6_copy, if_neg c1, if_neg c2, if_pos c3, if_neg c4, if_pos c5]; rfl) | (simp only [f_X6_copy, if_neg c1, if_neg c2, if_pos c3, if_neg c4, if_pos c5]; done)) (by first | rfl | (rw [f_X6_copy, if_neg c1, if_neg c2, if_pos c3, if_neg c4, if_pos c5]; done) | (rw [f_X6_copy, if_neg c1, if_neg c2, if_pos c3, if_neg c4, if_pos c5]; rfl) | (simp only [f_X6_copy, if_neg c1, if_neg c2, if_pos c3, if_neg c4, if_pos c5]; done)) dX6_copy_66
      · refine q_aload0 C dX6_copy_27 ?_
        refine g_X6_47 C dX6_copy_28 ?_
        refine q_iconst (v := 5) C dX6_copy_31 (by decide) ?_
        refine qc_VI C (c_X1_answer _ _ (by first | assumption | exact vp_in_nI (by omega) (by decide) | omega | (unfold vp_in; decide) | decide)) cw_X6_121 rfl rfl rfl rfl (Nat.le_of_ble_eq_true rfl) ⟨(Nat.le_of_ble_eq_true rfl), (Nat.le_of_ble_eq_true rfl)⟩ ⟨Nat.zero_le _, Nat.zero_le _⟩ dX6_copy_32 ?_
        exact q_iret C (by first | rfl | (rw [f_X6_copy, if_neg c1, if_neg c2, if_neg c3]; done) | (rw [f_X6_copy, if_neg c1, if_neg c2, if_neg c3]; rfl) | (simp only [f_X6_copy, if_neg c1, if_neg c2, if_neg c3]; done)) (by first | rfl | (rw [f_X6_copy, if_neg c1, if_neg c2, if_neg c3]; done) | (rw [f_X6_copy, if_neg c1, if_neg c2, if_neg c3]; rfl) | (simp only [f_X6_copy, if_neg c1, if_neg c2, if_neg c3]; done)) dX6_copy_35
    · refine q_iconst (v := -1) C dX6_copy_20 (by decide) ?_
      exact q_iret C (by first | rfl | (rw [f_X6_copy, if_neg c1, if_pos c2]; done) | (rw [f_X6_copy, if_neg c1, if_pos c2]; rfl) | (simp only [f_X6_copy, if_neg c1, if_pos c2]; done)) (by first | rfl | (rw [f_X6_copy, if_neg c1, if_pos c2]; done) | (rw [f_X6_copy, if_neg c1, if_pos c2]; rfl) | (simp only [f_X6_copy, if_neg c1, if_pos c2]; done)) dX6_copy_21
def f_X6_need (M : Mm) (u1 : Int32) (u2 : Int32) : Int32 × Mm := (if (f_X6_within u1 (0 : Int32) (23 : Int32)) = 0 then ((-1 : Int32), M) else (if (f_X6_within u2 (0 : Int32) (10000 : Int32)) = 0 then ((-1 : Int32), M) else ((f_X4_setNeed M u1 u2).1, (f_X4_setNeed M u1 u2).2)))
set_option maxHeartbeats 4000000 in
set_option maxRecDepth 100000 in
theorem c_X6_need (M : Mm) (u1 : Int32) (u2 : Int32)  : MI yX6_need cX6_need 3 (some .int) 1 23 (fun a => [.ref (a 0), .int u1, .int u2]) M (f_X6_need M u1 u2).1 (f_X6_need M u1 u2).2 := by
  refine MI.intro (lv0 := fun a => [some (.ref (a 0)), some (.int u1), some (.int u2)]) (by decide) (fun a => ⟨(Nat.le_of_ble_eq_true rfl), rfl⟩) ?_
  intro p9 l9 e9 s9 m9 g9 b9 h9 c9 D9 A9 ct a C
  have C : Cx p9 s9 m9 g9 h9 c9 cX6_need 3 RX6 (some .int) D9 A9 ct a := C
  refine q_iload1 C dX6_need_0 ?_
  refine q_iconst (v := 0) C dX6_need_1 (by decide) ?_
  refine q_bipush (v := 23) C dX6_need_2 (by decide) ?_
  refine qc_SI C (c_X6_within _ _ _ _) cw_X6_63 rfl rfl (Nat.le_of_ble_eq_true rfl) ⟨(Nat.le_of_ble_eq_true rfl), (Nat.le_of_ble_eq_true rfl)⟩ ⟨Nat.zero_le _, Nat.zero_le _⟩ dX6_need_4 ?_
  refine q_if_eq (tgt := 21) C dX6_need_7 (by decide) (fun c1 => ?_) (fun c1 => ?_)
  · refine q_iconst (v := -1) C dX6_need_21 (by decide) ?_
    exact q_iret C (by first | rfl | (rw [f_X6_need, if_pos c1]; done) | (rw [f_X6_need, if_pos c1]; rfl) | (simp only [f_X6_need, if_pos c1]; done)) (by first | rfl | (rw [f_X6_need, if_pos c1]; done) | (rw [f_X6_need, if_pos c1]; rfl) | (simp only [f_X6_need, if_pos c1]; done)) dX6_need_22
  · refine q_iload2 C dX6_need_10 ?_
    refine q_iconst (v := 0) C dX6_need_11 (by decide) ?_
    refine q_sipush (v := 10000) C dX6_need_12 (by decide) ?_
    refine qc_SI C (c_X6_within _ _ _ _) cw_X6_63 rfl rfl (Nat.le_of_ble_eq_true rfl) ⟨(Nat.le_of_ble_eq_true rfl), (Nat.le_of_ble_eq_true rfl)⟩ ⟨Nat.zero_le _, Nat.zero_le _⟩ dX6_need_15 ?_
    refine q_if_ne (tgt := 23) C dX6_need_18 (by decide) (fun c2 => ?_) (fun c2 => ?_)
    · refine q_aload0 C dX6_need_23 ?_
      refine g_X6_40 C dX6_need_24 ?_
      refine q_iload1 C dX6_need_27 ?_
      refine q_iload2 C dX6_need_28 ?_
      refine qc_VI C (c_X4_setNeed _ _ _ (wi_in (by assumption) (by decide))) cw_X6_219 rfl rfl rfl rfl (Nat.le_of_ble_eq_true rfl) ⟨(Nat.le_of_ble_eq_true rfl), (Nat.le_of_ble_eq_true rfl)⟩ ⟨Nat.zero_le _, Nat.zero_le _⟩ dX6_need_29 ?_
      exact q_iret C (by first | rfl | (rw [f_X6_need, if_neg c1, if_neg c2]; done) | (rw [f_X6_need, if_neg c1, if_neg c2]; rfl) | (simp only [f_X6_need, if_neg c1, if_neg c2]; done)) (by first | rfl | (rw [f_X6_need, if_neg c1, if_neg c2]; done) | (rw [f_X6_need, if_neg c1, if_neg c2]; rfl) | (simp only [f_X6_need, if_neg c1, if_neg c2]; done)) dX6_need_32
    · refine q_iconst (v := -1) C dX6_need_21 (by decide) ?_
      exact q_iret C (by first | rfl | (rw [f_X6_need, if_neg c1, if_pos c2]; done) | (rw [f_X6_need, if_neg c1, if_pos c2]; rfl) | (simp only [f_X6_need, if_neg c1, if_pos c2]; done)) (by first | rfl | (rw [f_X6_need, if_neg c1, if_pos c2]; done) | (rw [f_X6_need, if_neg c1, if_pos c2]; rfl) | (simp only [f_X6_need, if_neg c1, if_pos c2]; done)) dX6_need_22
def f_X6_plan (M : Mm) (u1 : Int32) (u2 : Int32) : Int32 × Mm := (if (f_X6_within u1 (0 : Int32) (6 : Int32)) = 0 then ((-1 : Int32), M) else (if (f_X6_within u2 (1 : Int32) (1000 : Int32)) = 0 then ((-1 : Int32), M) else (if (f_X4_has M u1) = 0 then ((f_X1_answer M (1 : Int32)).1, (f_X1_answer M (1 : Int32)).2) else (if (lg_cmp (f_X4_cheapest M u1 u2).1 (1152921504606846976 : Int64)) = 0 then ((-9 : Int32), (f_X4_cheapest M u1 u2).2) else ((f_X4_bitsOf (f_X4_cheapest M u1 u2).1), (sJ (f_X4_cheapest M u1 u2).2 0 8 (f_X4_priceOf (f_X4_cheapest M u1 u2).1)))))))
set_option maxHeartbeats 4000000 in
set_option maxRecDepth 100000 in
theorem c_X6_plan (M : Mm) (u1 : Int32) (u2 : Int32) (hz : ∀ j, bz (gI M 32 j)) : MI yX6_plan cX6_plan 5 (some .int) 3 70 (fun a => [.ref (a 0), .int u1, .int u2]) M (f_X6_plan M u1 u2).1 (f_X6_plan M u1 u2).2 := by
  refine MI.intro (lv0 := fun a => [some (.ref (a 0)), some (.int u1), some (.int u2), none, none]) (by decide) (fun a => ⟨(Nat.le_of_ble_eq_true rfl), rfl⟩) ?_
  intro p9 l9 e9 s9 m9 g9 b9 h9 c9 D9 A9 ct a C
  have C : Cx p9 s9 m9 g9 h9 c9 cX6_plan 5 RX6 (some .int) D9 A9 ct a := C
  refine q_iload1 C dX6_plan_0 ?_
  refine q_iconst (v := 0) C dX6_plan_1 (by decide) ?_
  refine q_bipush (v := 6) C dX6_plan_2 (by decide) ?_
  refine qc_SI C (c_X6_within _ _ _ _) cw_X6_63 rfl rfl (Nat.le_of_ble_eq_true rfl) ⟨(Nat.le_of_ble_eq_true rfl), (Nat.le_of_ble_eq_true rfl)⟩ ⟨Nat.zero_le _, Nat.zero_le _⟩ dX6_plan_4 ?_
  refine q_if_eq (tgt := 21) C dX6_plan_7 (by decide) (fun c1 => ?_) (fun c1 => ?_)
  · refine q_iconst (v := -1) C dX6_plan_21 (by decide) ?_
    exact q_iret C (by first | rfl | (rw [f_X6_plan, if_pos c1]; done) | (rw [f_X6_plan, if_pos c1]; rfl) | (simp only [f_X6_plan, if_pos c1]; done)) (by first | rfl | (rw [f_X6_plan, if_pos c1]; done) | (rw [f_X6_plan, if_pos c1]; rfl) | (simp only [f_X6_plan, if_pos c1]; done)) dX6_plan_22
  · refine q_iload2 C dX6_plan_10 ?_
    refine q_iconst (v := 1) C dX6_plan_11 (by decide) ?_
    refine q_sipush (v := 1000) C dX6_plan_12 (by decide) ?_
    refine qc_SI C (c_X6_within _ _ _ _) cw_X6_63 rfl rfl (Nat.le_of_ble_eq_true rfl) ⟨(Nat.le_of_ble_eq_true rfl), (Nat.le_of_ble_eq_true rfl)⟩ ⟨Nat.zero_le _, Nat.zero_le _⟩ dX6_plan_15 ?_
    refine q_if_ne (tgt := 23) C dX6_plan_18 (by decide) (fun c2 => ?_) (fun c2 => ?_)
    · refine q_aload0 C dX6_plan_23 ?_
      refine g_X6_40 C dX6_plan_24 ?_
      refine q_iload1 C dX6_plan_27 ?_
      refine qc_VI C (c_X4_has _ _ (wi_in (by assumption) (by decide)) (hz _)) cw_X6_201 rfl rfl rfl rfl (Nat.le_of_ble_eq_true rfl) ⟨(Nat.le_of_ble_eq_true rfl), (Nat.le_of_ble_eq_true rfl)⟩ ⟨Nat.zero_le _, Nat.zero_le _⟩ dX6_plan_28 ?_
      refine q_if_ne (tgt := 43) C dX6_plan_31 (by decide) (fun c3 => ?_) (fun c3 => ?_)
      · refine q_aload0 C dX6_plan_43 ?_
        refine g_X6_40 C dX6_plan_44 ?_
        refine q_iload1 C dX6_plan_47 ?_
        refine q_iload2 C dX6_plan_48 ?_
        refine qc_VJ C (c_X4_cheapest _ _ _ (wi_in (by assumption) (by decide))) cw_X6_222 rfl rfl rfl rfl (Nat.le_of_ble_eq_true rfl) ⟨(Nat.le_of_ble_eq_true rfl), (Nat.le_of_ble_eq_true rfl)⟩ ⟨Nat.zero_le _, Nat.zero_le _⟩ dX6_plan_49 ?_
        refine q_lstore3 C dX6_plan_52 (by decide) (by intro w h0 h; first | exact absurd rfl h0 | (cases h <;> rfl)) ?_
        refine q_lload3 C dX6_plan_53 ?_
        refine q_ldc2 C dX6_plan_54 wk_X6_226 ?_
        refine q_lcmp C dX6_plan_57 ?_
        refine q_if_ne (tgt := 64) C dX6_plan_58 (by decide) (fun c4 => ?_) (fun c4 => ?_)
        · refine q_aload0 C dX6_plan_64 ?_
          refine q_lload3 C dX6_plan_65 ?_
          refine qc_SJ C (c_X4_priceOf _ _) cw_X6_228 rfl rfl (Nat.le_of_ble_eq_true rfl) ⟨(Nat.le_of_ble_eq_true rfl), (Nat.le_of_ble_eq_true rfl)⟩ ⟨Nat.zero_le _, Nat.zero_le _⟩ dX6_plan_66 ?_
          refine p_X6_58 C  dX6_plan_69 ?_
          refine q_lload3 C dX6_plan_72 ?_
          refine qc_SI C (c_X4_bitsOf _ _) cw_X6_232 rfl rfl (Nat.le_of_ble_eq_true rfl) ⟨(Nat.le_of_ble_eq_true rfl), (Nat.le_of_ble_eq_true rfl)⟩ ⟨Nat.zero_le _, Nat.zero_le _⟩ dX6_plan_73 ?_
          exact q_iret C (by first | rfl | (rw [f_X6_plan, if_neg c1, if_neg c2, if_neg c3, if_neg c4]; done) | (rw [f_X6_plan, if_neg c1, if_neg c2, if_neg c3, if_neg c4]; rfl) | (simp only [f_X6_plan, if_neg c1, if_neg c2, if_neg c3, if_neg c4]; done)) (by first | rfl | (rw [f_X6_plan, if_neg c1, if_neg c2, if_neg c3, if_neg c4]; done) | (rw [f_X6_plan, if_neg c1, if_neg c2, if_neg c3, if_neg c4]; rfl) | (simp only [f_X6_plan, if_neg c1, if_neg c2, if_neg c3, if_neg c4]; done)) dX6_plan_76
        · refine q_bipush (v := -9) C dX6_plan_61 (by decide) ?_
          exact q_iret C (by first | rfl | (rw [f_X6_plan, if_neg c1, if_neg c2, if_neg c3, if_pos c4]; done) | (rw [f_X6_plan, if_neg c1, if_neg c2, if_neg c3, if_pos c4]; rfl) | (simp only [f_X6_plan, if_neg c1, if_neg c2, if_neg c3, if_pos c4]; done)) (by first | rfl | (rw [f_X6_plan, if_neg c1, if_neg c2, if_neg c3, if_pos c4]; done) | (rw [f_X6_plan, if_neg c1, if_neg c2, if_neg c3, if_pos c4]; rfl) | (simp only [f_X6_plan, if_neg c1, if_neg c2, if_neg c3, if_pos c4]; done)) dX6_plan_63
      · refine q_aload0 C dX6_plan_34 ?_
        refine g_X6_47 C dX6_plan_35 ?_
        refine q_iconst (v := 1) C dX6_plan_38 (by decide) ?_
        refine qc_VI C (c_X1_answer _ _ (by first | assumption | exact vp_in_nI (by omega) (by decide) | omega | (unfold vp_in; decide) | decide)) cw_X6_121 rfl rfl rfl rfl (Nat.le_of_ble_eq_true rfl) ⟨(Nat.le_of_ble_eq_true rfl), (Nat.le_of_ble_eq_true rfl)⟩ ⟨Nat.zero_le _, Nat.zero_le _⟩ dX6_plan_39 ?_
        exact q_iret C (by first | rfl | (rw [f_X6_plan, if_neg c1, if_neg c2, if_pos c3]; done) | (rw [f_X6_plan, if_neg c1, if_neg c2, if_pos c3]; rfl) | (simp only [f_X6_plan, if_neg c1, if_neg c2, if_pos c3]; done)) (by first | rfl | (rw [f_X6_plan, if_neg c1, if_neg c2, if_pos c3]; done) | (rw [f_X6_plan, if_neg c1, if_neg c2, if_pos c3]; rfl) | (simp only [f_X6_plan, if_neg c1, if_neg c2, if_pos c3]; done)) dX6_plan_42
    · refine q_iconst (v := -1) C dX6_plan_21 (by decide) ?_
      exact q_iret C (by first | rfl | (rw [f_X6_plan, if_neg c1, if_pos c2]; done) | (rw [f_X6_plan, if_neg c1, if_pos c2]; rfl) | (simp only [f_X6_plan, if_neg c1, if_pos c2]; done)) (by first | rfl | (rw [f_X6_plan, if_neg c1, if_pos c2]; done) | (rw [f_X6_plan, if_neg c1, if_pos c2]; rfl) | (simp only [f_X6_plan, if_neg c1, if_pos c2]; done)) dX6_plan_22
def f_X6_upper (M : Mm)  : Int64 := (gJ M 0 6)
set_option maxHeartbeats 4000000 in
set_option maxRecDepth 100000 in
theorem c_X6_upper (M : Mm)   : MJ yX6_upper cX6_upper 1 (some .long) 0 0 (fun a => [.ref (a 0)]) M (f_X6_upper M) M := by
  refine MJ.intro (lv0 := fun a => [some (.ref (a 0))]) (by decide) (fun a => ⟨(Nat.le_of_ble_eq_true rfl), rfl⟩) ?_
  intro p9 l9 e9 s9 m9 g9 b9 h9 c9 D9 A9 ct a C
  have C : Cx p9 s9 m9 g9 h9 c9 cX6_upper 1 RX6 (some .long) D9 A9 ct a := C
  refine q_aload0 C dX6_upper_0 ?_
  refine g_X6_51 C dX6_upper_1 ?_
  exact q_lret C (by first | (rw [f_X6_upper]; done) | rfl) rfl dX6_upper_4
def f_X6_lower (M : Mm)  : Int64 := (gJ M 0 7)
set_option maxHeartbeats 4000000 in
set_option maxRecDepth 100000 in
theorem c_X6_lower (M : Mm)   : MJ yX6_lower cX6_lower 1 (some .long) 0 0 (fun a => [.ref (a 0)]) M (f_X6_lower M) M := by
  refine MJ.intro (lv0 := fun a => [some (.ref (a 0))]) (by decide) (fun a => ⟨(Nat.le_of_ble_eq_true rfl), rfl⟩) ?_
  intro p9 l9 e9 s9 m9 g9 b9 h9 c9 D9 A9 ct a C
  have C : Cx p9 s9 m9 g9 h9 c9 cX6_lower 1 RX6 (some .long) D9 A9 ct a := C
  refine q_aload0 C dX6_lower_0 ?_
  refine g_X6_55 C dX6_lower_1 ?_
  exact q_lret C (by first | (rw [f_X6_lower]; done) | rfl) rfl dX6_lower_4
def f_X6_asked (M : Mm)  : Int64 := (gJ M 0 8)
set_option maxHeartbeats 4000000 in
set_option maxRecDepth 100000 in
theorem c_X6_asked (M : Mm)   : MJ yX6_asked cX6_asked 1 (some .long) 0 0 (fun a => [.ref (a 0)]) M (f_X6_asked M) M := by
  refine MJ.intro (lv0 := fun a => [some (.ref (a 0))]) (by decide) (fun a => ⟨(Nat.le_of_ble_eq_true rfl), rfl⟩) ?_
  intro p9 l9 e9 s9 m9 g9 b9 h9 c9 D9 A9 ct a C
  have C : Cx p9 s9 m9 g9 h9 c9 cX6_asked 1 RX6 (some .long) D9 A9 ct a := C
  refine q_aload0 C dX6_asked_0 ?_
  refine g_X6_58 C dX6_asked_1 ?_
  exact q_lret C (by first | (rw [f_X6_asked]; done) | rfl) rfl dX6_asked_4
def f_X6_count (M : Mm) (u1 : Int32) : Int32 := (if u1 = (0 : Int32) then (f_X2_strokes M) else (if u1 = (1 : Int32) then (f_X0_hours M) else (if u1 = (2 : Int32) then (f_X3_steps M) else (if u1 = (3 : Int32) then (f_X4_rows M) else (if u1 = (4 : Int32) then (if (f_X3_isStopped M) = 0 then (0 : Int32) else (1 : Int32)) else (-1 : Int32))))))
set_option maxHeartbeats 4000000 in
set_option maxRecDepth 100000 in
theorem c_X6_count (M : Mm) (u1 : Int32) (hz : bz (gI M 3 8)) : MI yX6_count cX6_count 2 (some .int) 1 20 (fun a => [.ref (a 0), .int u1]) M (f_X6_count M u1) M := by
  refine MI.intro (lv0 := fun a => [some (.ref (a 0)), some (.int u1)]) (by decide) (fun a => ⟨(Nat.le_of_ble_eq_true rfl), rfl⟩) ?_
  intro p9 l9 e9 s9 m9 g9 b9 h9 c9 D9 A9 ct a C
  have C : Cx p9 s9 m9 g9 h9 c9 cX6_count 2 RX6 (some .int) D9 A9 ct a := C
  refine q_iload1 C dX6_count_0 ?_
  refine q_by (u1 = (0 : Int32)) (fun c1 => ?_) (fun c1 => ?_)
  · refine q_tsIn (v := 0) (off := 35) (tgt := 36) C dX6_count_1 c1 (by decide) (by decide) (by decide) (by decide) ?_
    refine q_aload0 C dX6_count_36 ?_
    refine g_X6_10 C dX6_count_37 ?_
    refine qc_VI C (c_X2_strokes _ ) cw_X6_67 rfl rfl rfl rfl (Nat.le_of_ble_eq_true rfl) ⟨(Nat.le_of_ble_eq_true rfl), (Nat.le_of_ble_eq_true rfl)⟩ ⟨Nat.zero_le _, Nat.zero_le _⟩ dX6_count_40 ?_
    exact q_iret C (by first | rfl | (rw [f_X6_count, if_pos c1]; done) | (rw [f_X6_count, if_pos c1]; rfl) | (simp only [f_X6_count, if_pos c1]; done)) rfl dX6_count_43
  · refine q_by (u1 = (1 : Int32)) (fun c2 => ?_) (fun c2 => ?_)
    · refine q_tsIn (v := 1) (off := 43) (tgt := 44) C dX6_count_1 c2 (by decide) (by decide) (by decide) (by decide) ?_
      refine q_aload0 C dX6_count_44 ?_
      refine g_X6_19 C dX6_count_45 ?_
      refine qc_VI C (c_X0_hours _ ) cw_X6_135 rfl rfl rfl rfl (Nat.le_of_ble_eq_true rfl) ⟨(Nat.le_of_ble_eq_true rfl), (Nat.le_of_ble_eq_true rfl)⟩ ⟨Nat.zero_le _, Nat.zero_le _⟩ dX6_count_48 ?_
      exact q_iret C (by first | rfl | (rw [f_X6_count, if_neg c1, if_pos c2]; done) | (rw [f_X6_count, if_neg c1, if_pos c2]; rfl) | (simp only [f_X6_count, if_neg c1, if_pos c2]; done)) rfl dX6_count_51
    · refine q_by (u1 = (2 : Int32)) (fun c3 => ?_) (fun c3 => ?_)
      · refine q_tsIn (v := 2) (off := 51) (tgt := 52) C dX6_count_1 c3 (by decide) (by decide) (by decide) (by decide) ?_
        refine q_aload0 C dX6_count_52 ?_
        refine g_X6_26 C dX6_count_53 ?_
        refine qc_VI C (c_X3_steps _ ) cw_X6_149 rfl rfl rfl rfl (Nat.le_of_ble_eq_true rfl) ⟨(Nat.le_of_ble_eq_true rfl), (Nat.le_of_ble_eq_true rfl)⟩ ⟨Nat.zero_le _, Nat.zero_le _⟩ dX6_count_56 ?_
        exact q_iret C (by first | rfl | (rw [f_X6_count, if_neg c1, if_neg c2, if_pos c3]; done) | (rw [f_X6_count, if_neg c1, if_neg c2, if_pos c3]; rfl) | (simp only [f_X6_count, if_neg c1, if_neg c2, if_pos c3]; done)) rfl dX6_count_59
      · refine q_by (u1 = (3 : Int32)) (fun c4 => ?_) (fun c4 => ?_)
        · refine q_tsIn (v := 3) (off := 59) (tgt := 60) C dX6_count_1 c4 (by decide) (by decide) (by decide) (by decide) ?_
          refine q_aload0 C dX6_count_60 ?_
          refine g_X6_40 C dX6_count_61 ?_
          refine qc_VI C (c_X4_rows _ ) cw_X6_236 rfl rfl rfl rfl (Nat.le_of_ble_eq_true rfl) ⟨(Nat.le_of_ble_eq_true rfl), (Nat.le_of_ble_eq_true rfl)⟩ ⟨Nat.zero_le _, Nat.zero_le _⟩ dX6_count_64 ?_
          exact q_iret C (by first | rfl | (rw [f_X6_count, if_neg c1, if_neg c2, if_neg c3, if_pos c4]; done) | (rw [f_X6_count, if_neg c1, if_neg c2, if_neg c3, if_pos c4]; rfl) | (simp only [f_X6_count, if_neg c1, if_neg c2, if_neg c3, if_pos c4]; done)) rfl dX6_count_67
        · refine q_by (u1 = (4 : Int32)) (fun c5 => ?_) (fun c5 => ?_)
          · refine q_tsIn (v := 4) (off := 67) (tgt := 68) C dX6_count_1 c5 (by decide) (by decide) (by decide) (by decide) ?_
            refine q_aload0 C dX6_count_68 ?_
            refine g_X6_26 C dX6_count_69 ?_
            refine qc_VI C (c_X3_isStopped _ (by first | assumption | exact vp_in_nI (by omega) (by decide) | omega | (unfold vp_in; decide) | decide)) cw_X6_239 rfl rfl rfl rfl (Nat.le_of_ble_eq_true rfl) ⟨(Nat.le_of_ble_eq_true rfl), (Nat.le_of_ble_eq_true rfl)⟩ ⟨Nat.zero_le _, Nat.zero_le _⟩ dX6_count_72 ?_
            refine q_cut M 83 [none, none] [.int (if (f_X3_isStopped M) = 0 then (0 : Int32) else (1 : Int32))] (fun hJ => ?_) ?_
            · refine q_if_eq (tgt := 82) C dX6_count_75 (by decide) (fun c6 => ?_) (fun c6 => ?_)
              · refine q_iconst (v := 0) C dX6_count_82 (by decide) ?_
                refine q_drop [none, none] (by repeat' (first | exact trivial | rfl | constructor)) ?_
                (try simp only [if_pos c6] at hJ); exact hJ
              · refine q_iconst (v := 1) C dX6_count_78 (by decide) ?_
                refine q_goto (tgt := 83) C dX6_count_79 (by decide) ?_
                refine q_drop [none, none] (by repeat' (first | exact trivial | rfl | constructor)) ?_
                (try simp only [if_neg c6] at hJ); exact hJ
            exact q_iret C (by first | rfl | (rw [f_X6_count, if_neg c1, if_neg c2, if_neg c3, if_neg c4, if_pos c5]; done) | (rw [f_X6_count, if_neg c1, if_neg c2, if_neg c3, if_neg c4, if_pos c5]; rfl) | (simp only [f_X6_count, if_neg c1, if_neg c2, if_neg c3, if_neg c4, if_pos c5]; done)) rfl dX6_count_83
          · refine q_tsOut (tgt := 84) C dX6_count_1 (ts_out5 c1 c2 c3 c4 c5) (by decide) ?_
            refine q_iconst (v := -1) C dX6_count_84 (by decide) ?_
            exact q_iret C (by first | rfl | (rw [f_X6_count, if_neg c1, if_neg c2, if_neg c3, if_neg c4, if_neg c5]; done) | (rw [f_X6_count, if_neg c1, if_neg c2, if_neg c3, if_neg c4, if_neg c5]; rfl) | (simp only [f_X6_count, if_neg c1, if_neg c2, if_neg c3, if_neg c4, if_neg c5]; done)) rfl dX6_count_85
def f_X6_finding (M : Mm)  : Int32 := (f_X1_latest M)
set_option maxHeartbeats 4000000 in
set_option maxRecDepth 100000 in
theorem c_X6_finding (M : Mm)   : MI yX6_finding cX6_finding 1 (some .int) 1 20 (fun a => [.ref (a 0)]) M (f_X6_finding M) M := by
  refine MI.intro (lv0 := fun a => [some (.ref (a 0))]) (by decide) (fun a => ⟨(Nat.le_of_ble_eq_true rfl), rfl⟩) ?_
  intro p9 l9 e9 s9 m9 g9 b9 h9 c9 D9 A9 ct a C
  have C : Cx p9 s9 m9 g9 h9 c9 cX6_finding 1 RX6 (some .int) D9 A9 ct a := C
  refine q_aload0 C dX6_finding_0 ?_
  refine g_X6_47 C dX6_finding_1 ?_
  refine qc_VI C (c_X1_latest _ ) cw_X6_243 rfl rfl rfl rfl (Nat.le_of_ble_eq_true rfl) ⟨(Nat.le_of_ble_eq_true rfl), (Nat.le_of_ble_eq_true rfl)⟩ ⟨Nat.zero_le _, Nat.zero_le _⟩ dX6_finding_4 ?_
  exact q_iret C (by first | (rw [f_X6_finding]; done) | rfl) rfl dX6_finding_7
def f_X6_findings (M : Mm) (u1 : Int32) : Int32 := (if (f_X6_within u1 (1 : Int32) (5 : Int32)) = 0 then (-1 : Int32) else (f_X1_times M u1))
set_option maxHeartbeats 4000000 in
set_option maxRecDepth 100000 in
theorem c_X6_findings (M : Mm) (u1 : Int32)  : MI yX6_findings cX6_findings 2 (some .int) 1 22 (fun a => [.ref (a 0), .int u1]) M (f_X6_findings M u1) M := by
  refine MI.intro (lv0 := fun a => [some (.ref (a 0)), some (.int u1)]) (by decide) (fun a => ⟨(Nat.le_of_ble_eq_true rfl), rfl⟩) ?_
  intro p9 l9 e9 s9 m9 g9 b9 h9 c9 D9 A9 ct a C
  have C : Cx p9 s9 m9 g9 h9 c9 cX6_findings 2 RX6 (some .int) D9 A9 ct a := C
  refine q_iload1 C dX6_findings_0 ?_
  refine q_iconst (v := 1) C dX6_findings_1 (by decide) ?_
  refine q_iconst (v := 5) C dX6_findings_2 (by decide) ?_
  refine qc_SI C (c_X6_within _ _ _ _) cw_X6_63 rfl rfl (Nat.le_of_ble_eq_true rfl) ⟨(Nat.le_of_ble_eq_true rfl), (Nat.le_of_ble_eq_true rfl)⟩ ⟨Nat.zero_le _, Nat.zero_le _⟩ dX6_findings_3 ?_
  refine q_if_ne (tgt := 11) C dX6_findings_6 (by decide) (fun c1 => ?_) (fun c1 => ?_)
  · refine q_aload0 C dX6_findings_11 ?_
    refine g_X6_47 C dX6_findings_12 ?_
    refine q_iload1 C dX6_findings_15 ?_
    refine qc_VI C (c_X1_times _ _ (wi_in1 (by assumption) (by decide))) cw_X6_245 rfl rfl rfl rfl (Nat.le_of_ble_eq_true rfl) ⟨(Nat.le_of_ble_eq_true rfl), (Nat.le_of_ble_eq_true rfl)⟩ ⟨Nat.zero_le _, Nat.zero_le _⟩ dX6_findings_16 ?_
    exact q_iret C (by first | rfl | (rw [f_X6_findings, if_neg c1]; done) | (rw [f_X6_findings, if_neg c1]; rfl) | (simp only [f_X6_findings, if_neg c1]; done)) rfl dX6_findings_19
  · refine q_iconst (v := -1) C dX6_findings_9 (by decide) ?_
    exact q_iret C (by first | rfl | (rw [f_X6_findings, if_pos c1]; done) | (rw [f_X6_findings, if_pos c1]; rfl) | (simp only [f_X6_findings, if_pos c1]; done)) rfl dX6_findings_10
def b_X6_digest_1 (M : Mm) (i1 : Nat) (z1 : Int64) : Int64 := (f_X6_fold z1 ((f_X6_count M (nI i1))).toInt64)
def l_X6_digest_1 (M : Mm) (z1 : Int64) : Int64 := itr (b_X6_digest_1 M) 5 z1
def f_X6_digest (M : Mm)  : Int64 := (l_X6_digest_1 M (f_X4_foldInto M (f_X5_foldInto M (f_X3_foldInto M (f_X0_foldInto M (f_X2_foldInto M (17 : Int64)))))))
set_option maxHeartbeats 4000000 in
set_option maxRecDepth 100000 in
theorem c_X6_digest (M : Mm)  (hz : bz (gI M 3 8)) : MJ yX6_digest cX6_digest 4 (some .long) 3 76 (fun a => [.ref (a 0)]) M (f_X6_digest M) M := by
  refine MJ.intro (lv0 := fun a => [some (.ref (a 0)), none, none, none]) (by decide) (fun a => ⟨(Nat.le_of_ble_eq_true rfl), rfl⟩) ?_
  intro p9 l9 e9 s9 m9 g9 b9 h9 c9 D9 A9 ct a C
  have C : Cx p9 s9 m9 g9 h9 c9 cX6_digest 4 RX6 (some .long) D9 A9 ct a := C
  refine q_aload0 C dX6_digest_0 ?_
  refine g_X6_10 C dX6_digest_1 ?_
  refine q_ldc2 C dX6_digest_4 wk_X6_248 ?_
  refine qc_VJ C (c_X2_foldInto _ _) cw_X6_250 rfl rfl rfl rfl (Nat.le_of_ble_eq_true rfl) ⟨(Nat.le_of_ble_eq_true rfl), (Nat.le_of_ble_eq_true rfl)⟩ ⟨Nat.zero_le _, Nat.zero_le _⟩ dX6_digest_7 ?_
  refine q_lstore1 C dX6_digest_10 (by decide) (by intro w h0 h; first | exact absurd rfl h0 | (cases h <;> rfl)) ?_
  refine q_aload0 C dX6_digest_11 ?_
  refine g_X6_19 C dX6_digest_12 ?_
  refine q_lload1 C dX6_digest_15 ?_
  refine qc_VJ C (c_X0_foldInto _ _) cw_X6_253 rfl rfl rfl rfl (Nat.le_of_ble_eq_true rfl) ⟨(Nat.le_of_ble_eq_true rfl), (Nat.le_of_ble_eq_true rfl)⟩ ⟨Nat.zero_le _, Nat.zero_le _⟩ dX6_digest_16 ?_
  refine q_lstore1 C dX6_digest_19 (by decide) (by intro w h0 h; first | exact absurd rfl h0 | (cases h <;> rfl)) ?_
  refine q_aload0 C dX6_digest_20 ?_
  refine g_X6_26 C dX6_digest_21 ?_
  refine q_lload1 C dX6_digest_24 ?_
  refine qc_VJ C (c_X3_foldInto _ _) cw_X6_254 rfl rfl rfl rfl (Nat.le_of_ble_eq_true rfl) ⟨(Nat.le_of_ble_eq_true rfl), (Nat.le_of_ble_eq_true rfl)⟩ ⟨Nat.zero_le _, Nat.zero_le _⟩ dX6_digest_25 ?_
  refine q_lstore1 C dX6_digest_28 (by decide) (by intro w h0 h; first | exact absurd rfl h0 | (cases h <;> rfl)) ?_
  refine q_aload0 C dX6_digest_29 ?_
  refine g_X6_33 C dX6_digest_30 ?_
  refine q_lload1 C dX6_digest_33 ?_
  refine qc_VJ C (c_X5_foldInto _ _) cw_X6_255 rfl rfl rfl rfl (Nat.le_of_ble_eq_true rfl) ⟨(Nat.le_of_ble_eq_true rfl), (Nat.le_of_ble_eq_true rfl)⟩ ⟨Nat.zero_le _, Nat.zero_le _⟩ dX6_digest_34 ?_
  refine q_lstore1 C dX6_digest_37 (by decide) (by intro w h0 h; first | exact absurd rfl h0 | (cases h <;> rfl)) ?_
  refine q_aload0 C dX6_digest_38 ?_
  refine g_X6_40 C dX6_digest_39 ?_
  refine q_lload1 C dX6_digest_42 ?_
  refine qc_VJ C (c_X4_foldInto _ _) cw_X6_256 rfl rfl rfl rfl (Nat.le_of_ble_eq_true rfl) ⟨(Nat.le_of_ble_eq_true rfl), (Nat.le_of_ble_eq_true rfl)⟩ ⟨Nat.zero_le _, Nat.zero_le _⟩ dX6_digest_43 ?_
  refine q_lstore1 C dX6_digest_46 (by decide) (by intro w h0 h; first | exact absurd rfl h0 | (cases h <;> rfl)) ?_
  refine q_iconst (v := 0) C dX6_digest_47 (by decide) ?_
  refine q_istore3 C dX6_digest_48 (by decide) (by intro w h0 h; first | exact absurd rfl h0 | (cases h <;> rfl)) ?_
  refine q_loop 5 (b_X6_digest_1 M) (fun zz => M) (fun xx zz => [some (.ref (a 0)), some (.long zz), none, some (.int xx)]) (f_X4_foldInto M (f_X5_foldInto M (f_X3_foldInto M (f_X0_foldInto M (f_X2_foldInto M (17 : Int64))))))  (fun i1 z1 hi1 ih1 => ?_) ?_
  · refine q_iload3 C dX6_digest_49 ?_
    refine q_iconst (v := 5) C dX6_digest_50 (by decide) ?_
    refine q_icmp_ge (tgt := 71) C dX6_digest_51 (by decide) (fun c1 => absurd c1 (nI_ge (b := 5) (by omega) (by omega))) (fun c1 => ?_)
    refine q_lload1 C dX6_digest_54 ?_
    refine q_aload0 C dX6_digest_55 ?_
    refine q_iload3 C dX6_digest_56 ?_
    refine qc_VI C (c_X6_count _ _ (by first | assumption | exact vp_in_nI (by omega) (by decide) | omega | (unfold vp_in; decide) | decide)) cw_X6_257 rfl rfl rfl rfl (Nat.le_of_ble_eq_true rfl) ⟨(Nat.le_of_ble_eq_true rfl), (Nat.le_of_ble_eq_true rfl)⟩ ⟨Nat.zero_le _, Nat.zero_le _⟩ dX6_digest_57 ?_
    refine q_i2l C dX6_digest_60 ?_
    refine qc_SJ C (c_X6_fold _ _ _) cw_X6_260 rfl rfl (Nat.le_of_ble_eq_true rfl) ⟨(Nat.le_of_ble_eq_true rfl), (Nat.le_of_ble_eq_true rfl)⟩ ⟨Nat.zero_le _, Nat.zero_le _⟩ dX6_digest_61 ?_
    refine q_lstore1 C dX6_digest_64 (by decide) (by intro w h0 h; first | exact absurd rfl h0 | (cases h <;> rfl)) ?_
    refine q_iinc3 (dv := 1) C dX6_digest_65 (by decide) (by decide) (by intro w h0 h; first | exact absurd rfl h0 | (cases h <;> rfl)) ?_
    refine q_goto (tgt := 49) C dX6_digest_68 (by decide) ?_
    exact ih1
  refine q_cut M 49 [some (.ref (a 0)), some (.long (l_X6_digest_1 M (f_X4_foldInto M (f_X5_foldInto M (f_X3_foldInto M (f_X0_foldInto M (f_X2_foldInto M (17 : Int64)))))))), none, some (.int (nI 5))] [] (fun hJ => hJ) ?_
  refine q_iload3 C dX6_digest_49 ?_
  refine q_iconst (v := 5) C dX6_digest_50 (by decide) ?_
  refine q_icmp_ge (tgt := 71) C dX6_digest_51 (by decide) (fun c2 => ?_) (fun c2 => absurd (Int32.le_refl _) c2)
  refine q_lload1 C dX6_digest_71 ?_
  exact q_lret C (by first | (rw [f_X6_digest]; done) | rfl) rfl dX6_digest_72
