def b_X7_inSilo_1 (M : Mm) (u1 : Int32) (u2 : Int32) (i1 : Nat) (z1 : Int32) : Int32 := (z1 + (if (gI M 62 i1) = u1 then (if (gI M 64 i1) = 0 then (0 : Int32) else (if u2 = 0 then (gI M 64 i1) else (1 : Int32))) else (0 : Int32)))
def f_X7_inSilo (M : Mm) (u1 : Int32) (u2 : Int32) : Int32 := (itr (b_X7_inSilo_1 M u1 u2) (gI M 44 31).toNatClampNeg (0 : Int32))
set_option maxHeartbeats 4000000 in
set_option maxRecDepth 100000 in
theorem c_X7_inSilo (M : Mm) (u1 : Int32) (u2 : Int32) (h0 : 0 ≤ gI M 44 31) (hb : (gI M 44 31).toNatClampNeg ≤ 500) : MI yX7_inSilo cX7_inSilo 5 (some .int) 0 0 (fun a => [.ref (a 44), .int u1, .int u2]) M (f_X7_inSilo M u1 u2) M := by
  refine MI.intro (lv0 := fun a => [some (.ref (a 44)), some (.int u1), some (.int u2), none, none]) (by decide) (fun a => ⟨(Nat.le_of_ble_eq_true rfl), rfl⟩) ?_
  intro p9 l9 e9 s9 m9 g9 b9 h9 c9 D9 A9 ct a C
  have C : Cx p9 s9 m9 g9 h9 c9 cX7_inSilo 5 RX7 (some .int) D9 A9 ct a := C
  refine q_iconst (v := 0) C dX7_inSilo_0 (by decide) ?_
  refine q_istore3 C dX7_inSilo_1 (by decide) (by intro w h0 h; first | exact absurd rfl h0 | (cases h <;> rfl)) ?_
  refine q_iconst (v := 0) C dX7_inSilo_2 (by decide) ?_
  refine q_istore4 C dX7_inSilo_3 (by decide) (by intro w h0 h; first | exact absurd rfl h0 | (cases h <;> rfl)) ?_
  refine q_loop (gI M 44 31).toNatClampNeg (b_X7_inSilo_1 M u1 u2) (fun zz => M) (fun xx zz => [some (.ref (a 44)), some (.int u1), some (.int u2), some (.int zz), some (.int xx)]) (0 : Int32)  (fun i1 z1 hi1 ih1 => ?_) ?_
  · refine q_iload4 C dX7_inSilo_5 ?_
    refine q_aload0 C dX7_inSilo_7 ?_
    refine g_X7_204 C dX7_inSilo_8 ?_
    refine q_icmp_ge (tgt := 63) C dX7_inSilo_11 (by decide) (fun c1 => absurd c1 (nge_clamp h0 hi1)) (fun c1 => ?_)
    refine q_iload3 C dX7_inSilo_14 ?_
    refine q_aload0 C dX7_inSilo_15 ?_
    refine g_X7_86 C dX7_inSilo_16 ?_
    refine q_iload4 C dX7_inSilo_19 ?_
    refine q_ialdX (j := i1) C rfl (nI_clamp (by omega)) (vp_in_nI (by omega) (by first | decide | omega)) dX7_inSilo_21 ?_
    refine q_iload1 C dX7_inSilo_22 ?_
    refine q_cut M 55 [some (.ref (a 44)), some (.int u1), some (.int u2), none, some (.int (nI i1))] [.int (if (gI M 62 i1) = u1 then (if (gI M 64 i1) = 0 then (0 : Int32) else (if u2 = 0 then (gI M 64 i1) else (1 : Int32))) else (0 : Int32)), .int z1] (fun hJ => ?_) ?_
    · refine q_icmp_ne (tgt := 36) C dX7_inSilo_23 (by decide) (fun c2 => ?_) (fun c2 => ?_)
      · refine q_iconst (v := 0) C dX7_inSilo_36 (by decide) ?_
        refine q_goto (tgt := 55) C dX7_inSilo_37 (by decide) ?_
        refine q_drop [some (.ref (a 44)), some (.int u1), some (.int u2), none, some (.int (nI i1))] (by repeat' (first | exact trivial | rfl | constructor)) ?_
        (try simp only [if_neg c2] at hJ); exact hJ
      · refine q_aload0 C dX7_inSilo_26 ?_
        refine g_X7_92 C dX7_inSilo_27 ?_
        refine q_iload4 C dX7_inSilo_30 ?_
        refine q_ialdX (j := i1) C rfl (nI_clamp (by omega)) (vp_in_nI (by omega) (by first | decide | omega)) dX7_inSilo_32 ?_
        refine q_if_ne (tgt := 40) C dX7_inSilo_33 (by decide) (fun c3 => ?_) (fun c3 => ?_)
        · refine q_iload2 C dX7_inSilo_40 ?_
          refine q_if_eq (tgt := 48) C dX7_inSilo_41 (by decide) (fun c4 => ?_) (fun c4 => ?_)
          · refine q_aload0 C dX7_inSilo_48 ?_
            refine g_X7_92 C dX7_inSilo_49 ?_
            refine q_iload4 C dX7_inSilo_52 ?_
            refine q_ialdX (j := i1) C rfl (nI_clamp (by omega)) (vp_in_nI (by omega) (by first | decide | omega)) dX7_inSilo_54 ?_
            refine q_drop [some (.ref (a 44)), some (.int u1), some (.int u2), none, some (.int (nI i1))] (by repeat' (first | exact trivial | rfl | constructor)) ?_
            (try simp only [if_pos c2, if_neg c3, if_pos c4] at hJ); exact hJ
          · refine q_iconst (v := 1) C dX7_inSilo_44 (by decide) ?_
            refine q_goto (tgt := 55) C dX7_inSilo_45 (by decide) ?_
            refine q_drop [some (.ref (a 44)), some (.int u1), some (.int u2), none, some (.int (nI i1))] (by repeat' (first | exact trivial | rfl | constructor)) ?_
            (try simp only [if_pos c2, if_neg c3, if_neg c4] at hJ); exact hJ
        · refine q_iconst (v := 0) C dX7_inSilo_36 (by decide) ?_
          refine q_goto (tgt := 55) C dX7_inSilo_37 (by decide) ?_
          refine q_drop [some (.ref (a 44)), some (.int u1), some (.int u2), none, some (.int (nI i1))] (by repeat' (first | exact trivial | rfl | constructor)) ?_
          (try simp only [if_pos c2, if_pos c3] at hJ); exact hJ
    refine q_iadd C dX7_inSilo_55 ?_
    refine q_istore3 C dX7_inSilo_56 (by decide) (by intro w h0 h; first | exact absurd rfl h0 | (cases h <;> rfl)) ?_
    refine q_iinc4 (dv := 1) C dX7_inSilo_57 (by decide) (by decide) (by intro w h0 h; first | exact absurd rfl h0 | (cases h <;> rfl)) ?_
    refine q_goto (tgt := 5) C dX7_inSilo_60 (by decide) ?_
    exact ih1
  refine q_iload4 C dX7_inSilo_5 ?_
  refine q_aload0 C dX7_inSilo_7 ?_
  refine g_X7_204 C dX7_inSilo_8 ?_
  refine q_icmp_ge (tgt := 63) C dX7_inSilo_11 (by decide) (fun c5 => ?_) (fun c5 => absurd (ge_clamp h0) c5)
  refine q_iload3 C dX7_inSilo_63 ?_
  exact q_iret C (by first | (rw [f_X7_inSilo]; done) | rfl) rfl dX7_inSilo_64
def f_X7_silo (M : Mm) (u1 : Int32) (u2 : Int32) : Int32 := (if (f_X7_in u1 (0 : Int32) (2 : Int32)) = 0 then (-1 : Int32) else (if (f_X7_in u2 (0 : Int32) (1 : Int32)) = 0 then (-1 : Int32) else (f_X7_inSilo M u1 (if u2 = (1 : Int32) then (1 : Int32) else (0 : Int32)))))
set_option maxHeartbeats 4000000 in
set_option maxRecDepth 100000 in
theorem c_X7_silo (M : Mm) (u1 : Int32) (u2 : Int32) (h0 : 0 ≤ gI M 44 31) (hb : (gI M 44 31).toNatClampNeg ≤ 500) : MI yX7_silo cX7_silo 3 (some .int) 1 24 (fun a => [.ref (a 44), .int u1, .int u2]) M (f_X7_silo M u1 u2) M := by
  refine MI.intro (lv0 := fun a => [some (.ref (a 44)), some (.int u1), some (.int u2)]) (by decide) (fun a => ⟨(Nat.le_of_ble_eq_true rfl), rfl⟩) ?_
  intro p9 l9 e9 s9 m9 g9 b9 h9 c9 D9 A9 ct a C
  have C : Cx p9 s9 m9 g9 h9 c9 cX7_silo 3 RX7 (some .int) D9 A9 ct a := C
  refine q_iload1 C dX7_silo_0 ?_
  refine q_iconst (v := 0) C dX7_silo_1 (by decide) ?_
  refine q_iconst (v := 2) C dX7_silo_2 (by decide) ?_
  refine qc_SI C (c_X7_in _ _ _ _) cw_X7_125 rfl rfl (Nat.le_of_ble_eq_true rfl) ⟨(Nat.le_of_ble_eq_true rfl), (Nat.le_of_ble_eq_true rfl)⟩ ⟨Nat.zero_le _, Nat.zero_le _⟩ dX7_silo_3 ?_
  refine q_cut M 37 [none, none, none] [.int (if (f_X7_in u1 (0 : Int32) (2 : Int32)) = 0 then (-1 : Int32) else (if (f_X7_in u2 (0 : Int32) (1 : Int32)) = 0 then (-1 : Int32) else (f_X7_inSilo M u1 (if u2 = (1 : Int32) then (1 : Int32) else (0 : Int32)))))] (fun hJ => ?_) ?_
  · refine q_if_eq (tgt := 18) C dX7_silo_6 (by decide) (fun c1 => ?_) (fun c1 => ?_)
    · refine q_iconst (v := -1) C dX7_silo_18 (by decide) ?_
      refine q_goto (tgt := 37) C dX7_silo_19 (by decide) ?_
      refine q_drop [none, none, none] (by repeat' (first | exact trivial | rfl | constructor)) ?_
      (try simp only [if_pos c1] at hJ); exact hJ
    · refine q_iload2 C dX7_silo_9 ?_
      refine q_iconst (v := 0) C dX7_silo_10 (by decide) ?_
      refine q_iconst (v := 1) C dX7_silo_11 (by decide) ?_
      refine qc_SI C (c_X7_in _ _ _ _) cw_X7_125 rfl rfl (Nat.le_of_ble_eq_true rfl) ⟨(Nat.le_of_ble_eq_true rfl), (Nat.le_of_ble_eq_true rfl)⟩ ⟨Nat.zero_le _, Nat.zero_le _⟩ dX7_silo_12 ?_
      refine q_if_ne (tgt := 22) C dX7_silo_15 (by decide) (fun c2 => ?_) (fun c2 => ?_)
      · refine q_aload0 C dX7_silo_22 ?_
        refine q_iload1 C dX7_silo_23 ?_
        refine q_iload2 C dX7_silo_24 ?_
        refine q_iconst (v := 1) C dX7_silo_25 (by decide) ?_
        refine q_cut M 34 [none, none, none] [.int (if u2 = (1 : Int32) then (1 : Int32) else (0 : Int32)), .int u1, .ref (a 44)] (fun hJ => ?_) ?_
        · refine q_icmp_ne (tgt := 33) C dX7_silo_26 (by decide) (fun c3 => ?_) (fun c3 => ?_)
          · refine q_iconst (v := 0) C dX7_silo_33 (by decide) ?_
            refine q_drop [none, none, none] (by repeat' (first | exact trivial | rfl | constructor)) ?_
            (try simp only [if_neg c3] at hJ); exact hJ
          · refine q_iconst (v := 1) C dX7_silo_29 (by decide) ?_
            refine q_goto (tgt := 34) C dX7_silo_30 (by decide) ?_
            refine q_drop [none, none, none] (by repeat' (first | exact trivial | rfl | constructor)) ?_
            (try simp only [if_pos c3] at hJ); exact hJ
        refine qc_VI C (c_X7_inSilo _ _ _ (by first | assumption | exact vp_in_nI (by omega) (by decide) | omega | (unfold vp_in; decide) | decide) (by first | assumption | exact vp_in_nI (by omega) (by decide) | omega | (unfold vp_in; decide) | decide)) cw_X7_207 rfl rfl rfl rfl (Nat.le_of_ble_eq_true rfl) ⟨(Nat.le_of_ble_eq_true rfl), (Nat.le_of_ble_eq_true rfl)⟩ ⟨Nat.zero_le _, Nat.zero_le _⟩ dX7_silo_34 ?_
        (try simp only [if_neg c1, if_neg c2] at hJ); exact hJ
      · refine q_iconst (v := -1) C dX7_silo_18 (by decide) ?_
        refine q_goto (tgt := 37) C dX7_silo_19 (by decide) ?_
        refine q_drop [none, none, none] (by repeat' (first | exact trivial | rfl | constructor)) ?_
        (try simp only [if_neg c1, if_pos c2] at hJ); exact hJ
  exact q_iret C (by first | (rw [f_X7_silo]; done) | rfl) rfl dX7_silo_37
def f_X7_lot (M : Mm) (u1 : Int32) (u2 : Int32) : Int32 := (if (f_X7_in u2 (0 : Int32) (1 : Int32)) = 0 then (-1 : Int32) else (if (f_X7_in u1 (0 : Int32) ((gI M 44 35) - (1 : Int32))) = 0 then (-9 : Int32) else (if u2 = 0 then (gI M 65 (u1).toNatClampNeg) else (gI M 66 (u1).toNatClampNeg))))
set_option maxHeartbeats 4000000 in
set_option maxRecDepth 100000 in
theorem c_X7_lot (M : Mm) (u1 : Int32) (u2 : Int32) (h0 : 0 ≤ gI M 44 35) (h1 : gI M 44 35 ≤ 500) : MI yX7_lot cX7_lot 3 (some .int) 1 22 (fun a => [.ref (a 44), .int u1, .int u2]) M (f_X7_lot M u1 u2) M := by
  refine MI.intro (lv0 := fun a => [some (.ref (a 44)), some (.int u1), some (.int u2)]) (by decide) (fun a => ⟨(Nat.le_of_ble_eq_true rfl), rfl⟩) ?_
  intro p9 l9 e9 s9 m9 g9 b9 h9 c9 D9 A9 ct a C
  have C : Cx p9 s9 m9 g9 h9 c9 cX7_lot 3 RX7 (some .int) D9 A9 ct a := C
  refine q_iload2 C dX7_lot_0 ?_
  refine q_iconst (v := 0) C dX7_lot_1 (by decide) ?_
  refine q_iconst (v := 1) C dX7_lot_2 (by decide) ?_
  refine qc_SI C (c_X7_in _ _ _ _) cw_X7_125 rfl rfl (Nat.le_of_ble_eq_true rfl) ⟨(Nat.le_of_ble_eq_true rfl), (Nat.le_of_ble_eq_true rfl)⟩ ⟨Nat.zero_le _, Nat.zero_le _⟩ dX7_lot_3 ?_
  refine q_cut M 51 [none, none, none] [.int (if (f_X7_in u2 (0 : Int32) (1 : Int32)) = 0 then (-1 : Int32) else (if (f_X7_in u1 (0 : Int32) ((gI M 44 35) - (1 : Int32))) = 0 then (-9 : Int32) else (if u2 = 0 then (gI M 65 (u1).toNatClampNeg) else (gI M 66 (u1).toNatClampNeg))))] (fun hJ => ?_) ?_
  · refine q_if_ne (tgt := 13) C dX7_lot_6 (by decide) (fun c1 => ?_) (fun c1 => ?_)
    · refine q_iload1 C dX7_lot_13 ?_
      refine q_iconst (v := 0) C dX7_lot_14 (by decide) ?_
      refine q_aload0 C dX7_lot_15 ?_
      refine g_X7_211 C dX7_lot_16 ?_
      refine q_iconst (v := 1) C dX7_lot_19 (by decide) ?_
      refine q_isub C dX7_lot_20 ?_
      refine qc_SI C (c_X7_in _ _ _ _) cw_X7_125 rfl rfl (Nat.le_of_ble_eq_true rfl) ⟨(Nat.le_of_ble_eq_true rfl), (Nat.le_of_ble_eq_true rfl)⟩ ⟨Nat.zero_le _, Nat.zero_le _⟩ dX7_lot_21 ?_
      refine q_if_ne (tgt := 32) C dX7_lot_24 (by decide) (fun c2 => ?_) (fun c2 => ?_)
      · refine q_iload2 C dX7_lot_32 ?_
        refine q_if_ne (tgt := 45) C dX7_lot_33 (by decide) (fun c3 => ?_) (fun c3 => ?_)
        · refine q_aload0 C dX7_lot_45 ?_
          refine g_X7_98 C dX7_lot_46 ?_
          refine q_iload1 C dX7_lot_49 ?_
          refine q_ialdX (j := (u1).toNatClampNeg) C rfl rfl (wi7_in' (by assumption) h0 h1 (by decide)) dX7_lot_50 ?_
          refine q_drop [none, none, none] (by repeat' (first | exact trivial | rfl | constructor)) ?_
          (try simp only [if_neg c1, if_neg c2, if_neg c3] at hJ); exact hJ
        · refine q_aload0 C dX7_lot_36 ?_
          refine g_X7_95 C dX7_lot_37 ?_
          refine q_iload1 C dX7_lot_40 ?_
          refine q_ialdX (j := (u1).toNatClampNeg) C rfl rfl (wi7_in' (by assumption) h0 h1 (by decide)) dX7_lot_41 ?_
          refine q_goto (tgt := 51) C dX7_lot_42 (by decide) ?_
          refine q_drop [none, none, none] (by repeat' (first | exact trivial | rfl | constructor)) ?_
          (try simp only [if_neg c1, if_neg c2, if_pos c3] at hJ); exact hJ
      · refine q_bipush (v := -9) C dX7_lot_27 (by decide) ?_
        refine q_goto (tgt := 51) C dX7_lot_29 (by decide) ?_
        refine q_drop [none, none, none] (by repeat' (first | exact trivial | rfl | constructor)) ?_
        (try simp only [if_neg c1, if_pos c2] at hJ); exact hJ
    · refine q_iconst (v := -1) C dX7_lot_9 (by decide) ?_
      refine q_goto (tgt := 51) C dX7_lot_10 (by decide) ?_
      refine q_drop [none, none, none] (by repeat' (first | exact trivial | rfl | constructor)) ?_
      (try simp only [if_pos c1] at hJ); exact hJ
  exact q_iret C (by first | (rw [f_X7_lot]; done) | rfl) rfl dX7_lot_51
def f_X7_isADay (u1 : Int32) : Int32 := (f_X7_in u1 (0 : Int32) (6 : Int32))
set_option maxHeartbeats 4000000 in
set_option maxRecDepth 100000 in
theorem c_X7_isADay (M : Mm) (u1 : Int32)  : MI yX7_isADay cX7_isADay 1 (some .boolean) 1 22 (fun a => [.int u1]) M (f_X7_isADay u1) M := by
  refine MI.intro (lv0 := fun a => [some (.int u1)]) (by decide) (fun a => ⟨(Nat.le_of_ble_eq_true rfl), rfl⟩) ?_
  intro p9 l9 e9 s9 m9 g9 b9 h9 c9 D9 A9 ct a C
  have C : Cx p9 s9 m9 g9 h9 c9 cX7_isADay 1 RX7 (some .boolean) D9 A9 ct a := C
  refine q_iload0 C dX7_isADay_0 ?_
  refine q_iconst (v := 0) C dX7_isADay_1 (by decide) ?_
  refine q_bipush (v := 6) C dX7_isADay_2 (by decide) ?_
  refine qc_SI C (c_X7_in _ _ _ _) cw_X7_125 rfl rfl (Nat.le_of_ble_eq_true rfl) ⟨(Nat.le_of_ble_eq_true rfl), (Nat.le_of_ble_eq_true rfl)⟩ ⟨Nat.zero_le _, Nat.zero_le _⟩ dX7_isADay_4 ?_
  exact q_zret C (by repeat' first | exact bz_0 | exact bz_1 | assumption | apply bz_if) (by first | (rw [f_X7_isADay]; done) | rfl) rfl dX7_isADay_7
theorem day7 {x : Int32} (h : ¬ f_X7_isADay x = 0) : vp_in x 7 := wi7_in (y := 6) h (by decide)
def b_X7_day_1 (u1 : Int32) (i1 : Nat) (z1 : Mm) : Mm := (sI z1 68 (24 * (u1).toNatClampNeg + i1) (0 : Int32))
def f_X7_day (M : Mm) (u1 : Int32) : Int32 × Mm := (if (f_X7_isADay u1) = 0 then ((-1 : Int32), M) else ((if (gI M 67 (u1).toNatClampNeg) = 0 then (0 : Int32) else (1 : Int32)), (itr (b_X7_day_1 u1) 24 (sI M 67 (u1).toNatClampNeg (1 : Int32)))))
set_option maxHeartbeats 4000000 in
set_option maxRecDepth 100000 in
theorem c_X7_day (M : Mm) (u1 : Int32)  : MI yX7_day cX7_day 4 (some .int) 2 42 (fun a => [.ref (a 44), .int u1]) M (f_X7_day M u1).1 (f_X7_day M u1).2 := by
  refine MI.intro (lv0 := fun a => [some (.ref (a 44)), some (.int u1), none, none]) (by decide) (fun a => ⟨(Nat.le_of_ble_eq_true rfl), rfl⟩) ?_
  intro p9 l9 e9 s9 m9 g9 b9 h9 c9 D9 A9 ct a C
  have C : Cx p9 s9 m9 g9 h9 c9 cX7_day 4 RX7 (some .int) D9 A9 ct a := C
  refine q_iload1 C dX7_day_0 ?_
  refine qc_SI C (c_X7_isADay _ _) cw_X7_214 rfl rfl (Nat.le_of_ble_eq_true rfl) ⟨(Nat.le_of_ble_eq_true rfl), (Nat.le_of_ble_eq_true rfl)⟩ ⟨Nat.zero_le _, Nat.zero_le _⟩ dX7_day_1 ?_
  refine q_if_ne (tgt := 9) C dX7_day_4 (by decide) (fun c1 => ?_) (fun c1 => ?_)
  · refine q_aload0 C dX7_day_9 ?_
    refine g_X7_101 C dX7_day_10 ?_
    refine q_iload1 C dX7_day_13 ?_
    refine q_zaldX (j := (u1).toNatClampNeg) C rfl rfl (by first | assumption | exact day7 (by assumption) | exact wi7_in (by assumption) (by decide) | (simp only [gI_sI, gI_sJ, gI_ite]; simp; assumption) | (simp [gI_sI, gI_sJ, gI_ite]; assumption)) dX7_day_14 ?_
    refine q_cut M 23 [some (.ref (a 44)), some (.int u1), none, none] [.int (if (gI M 67 (u1).toNatClampNeg) = 0 then (0 : Int32) else (1 : Int32))] (fun hJ => ?_) ?_
    · refine q_if_eq (tgt := 22) C dX7_day_15 (by decide) (fun c2 => ?_) (fun c2 => ?_)
      · refine q_iconst (v := 0) C dX7_day_22 (by decide) ?_
        (try simp only [if_pos c2] at hJ); exact hJ
      · refine q_iconst (v := 1) C dX7_day_18 (by decide) ?_
        refine q_goto (tgt := 23) C dX7_day_19 (by decide) ?_
        (try simp only [if_neg c2] at hJ); exact hJ
    refine q_istore2 C dX7_day_23 (by decide) (by intro w h0 h; first | exact absurd rfl h0 | (cases h <;> rfl)) ?_
    refine q_aload0 C dX7_day_24 ?_
    refine g_X7_101 C dX7_day_25 ?_
    refine q_iload1 C dX7_day_28 ?_
    refine q_iconst (v := 1) C dX7_day_29 (by decide) ?_
    refine q_zastX (j := (u1).toNatClampNeg) C rfl rfl (by first | assumption | exact day7 (by assumption) | exact wi7_in (by assumption) (by decide) | (simp only [gI_sI, gI_sJ, gI_ite]; simp; assumption) | (simp [gI_sI, gI_sJ, gI_ite]; assumption)) (by repeat' first | exact bz_0 | exact bz_1 | assumption | apply bz_if) dX7_day_30 ?_
    refine q_iconst (v := 0) C dX7_day_31 (by decide) ?_
    refine q_istore3 C dX7_day_32 (by decide) (by intro w h0 h; first | exact absurd rfl h0 | (cases h <;> rfl)) ?_
    refine q_loop 24 (b_X7_day_1 u1) (fun zz => zz) (fun xx zz => [some (.ref (a 44)), some (.int u1), some (.int (if (gI M 67 (u1).toNatClampNeg) = 0 then (0 : Int32) else (1 : Int32))), some (.int xx)]) (sI M 67 (u1).toNatClampNeg (1 : Int32))  (fun i1 z1 hi1 ih1 => ?_) ?_
    · refine q_iload3 C dX7_day_33 ?_
      refine q_bipush (v := 24) C dX7_day_34 (by decide) ?_
      refine q_icmp_ge (tgt := 57) C dX7_day_36 (by decide) (fun c3 => absurd c3 (nI_ge (b := 24) (by omega) (by omega))) (fun c3 => ?_)
      refine q_aload0 C dX7_day_39 ?_
      refine g_X7_104 C dX7_day_40 ?_
      refine q_bipush (v := 24) C dX7_day_43 (by decide) ?_
      refine q_iload1 C dX7_day_45 ?_
      refine q_imul C dX7_day_46 ?_
      refine q_iload3 C dX7_day_47 ?_
      refine q_iadd C dX7_day_48 ?_
      refine q_iconst (v := 0) C dX7_day_49 (by decide) ?_
      refine q_iastX (j := (24 * (u1).toNatClampNeg + i1)) C rfl (ix24 (day7 (by assumption)) (by omega)) (iv24 (day7 (by assumption)) (by omega)) dX7_day_50 ?_
      refine q_iinc3 (dv := 1) C dX7_day_51 (by decide) (by decide) (by intro w h0 h; first | exact absurd rfl h0 | (cases h <;> rfl)) ?_
      refine q_goto (tgt := 33) C dX7_day_54 (by decide) ?_
      exact ih1
    refine q_iload3 C dX7_day_33 ?_
    refine q_bipush (v := 24) C dX7_day_34 (by decide) ?_
    refine q_icmp_ge (tgt := 57) C dX7_day_36 (by decide) (fun c4 => ?_) (fun c4 => absurd (Int32.le_refl _) c4)
    refine q_iload2 C dX7_day_57 ?_
    exact q_iret C (by first | rfl | (rw [f_X7_day, if_neg c1]; done) | (rw [f_X7_day, if_neg c1]; rfl) | (simp only [f_X7_day, if_neg c1]; done)) (by first | rfl | (rw [f_X7_day, if_neg c1]; done) | (rw [f_X7_day, if_neg c1]; rfl) | (simp only [f_X7_day, if_neg c1]; done)) dX7_day_58
  · refine q_iconst (v := -1) C dX7_day_7 (by decide) ?_
    exact q_iret C (by first | rfl | (rw [f_X7_day, if_pos c1]; done) | (rw [f_X7_day, if_pos c1]; rfl) | (simp only [f_X7_day, if_pos c1]; done)) (by first | rfl | (rw [f_X7_day, if_pos c1]; done) | (rw [f_X7_day, if_pos c1]; rfl) | (simp only [f_X7_day, if_pos c1]; done)) dX7_day_8
def f_X7_price (M : Mm) (u1 : Int32) (u2 : Int32) (u3 : Int32) : Int32 × Mm := (if (f_X7_isADay u1) = 0 then ((-1 : Int32), M) else (if (f_X7_in u3 (0 : Int32) (1000 : Int32)) = 0 then ((-1 : Int32), M) else (if (gI M 67 (u1).toNatClampNeg) = 0 then ((f_X7_meets M (1 : Int32)).1, (f_X7_meets M (1 : Int32)).2) else (if (f_X7_in u2 (0 : Int32) (23 : Int32)) = 0 then ((f_X7_meets M (2 : Int32)).1, (f_X7_meets M (2 : Int32)).2) else ((gI M 68 (24 * (u1).toNatClampNeg + (u2).toNatClampNeg)), (sI M 68 (24 * (u1).toNatClampNeg + (u2).toNatClampNeg) u3))))))
set_option maxHeartbeats 4000000 in
set_option maxRecDepth 100000 in
theorem c_X7_price (M : Mm) (u1 : Int32) (u2 : Int32) (u3 : Int32)  : MI yX7_price cX7_price 5 (some .int) 2 42 (fun a => [.ref (a 44), .int u1, .int u2, .int u3]) M (f_X7_price M u1 u2 u3).1 (f_X7_price M u1 u2 u3).2 := by
  refine MI.intro (lv0 := fun a => [some (.ref (a 44)), some (.int u1), some (.int u2), some (.int u3), none]) (by decide) (fun a => ⟨(Nat.le_of_ble_eq_true rfl), rfl⟩) ?_
  intro p9 l9 e9 s9 m9 g9 b9 h9 c9 D9 A9 ct a C
  have C : Cx p9 s9 m9 g9 h9 c9 cX7_price 5 RX7 (some .int) D9 A9 ct a := C
  refine q_iload1 C dX7_price_0 ?_
  refine qc_SI C (c_X7_isADay _ _) cw_X7_214 rfl rfl (Nat.le_of_ble_eq_true rfl) ⟨(Nat.le_of_ble_eq_true rfl), (Nat.le_of_ble_eq_true rfl)⟩ ⟨Nat.zero_le _, Nat.zero_le _⟩ dX7_price_1 ?_
  refine q_if_eq (tgt := 18) C dX7_price_4 (by decide) (fun c1 => ?_) (fun c1 => ?_)
  · refine q_iconst (v := -1) C dX7_price_18 (by decide) ?_
    exact q_iret C (by first | rfl | (rw [f_X7_price, if_pos c1]; done) | (rw [f_X7_price, if_pos c1]; rfl) | (simp only [f_X7_price, if_pos c1]; done)) (by first | rfl | (rw [f_X7_price, if_pos c1]; done) | (rw [f_X7_price, if_pos c1]; rfl) | (simp only [f_X7_price, if_pos c1]; done)) dX7_price_19
  · refine q_iload3 C dX7_price_7 ?_
    refine q_iconst (v := 0) C dX7_price_8 (by decide) ?_
    refine q_sipush (v := 1000) C dX7_price_9 (by decide) ?_
    refine qc_SI C (c_X7_in _ _ _ _) cw_X7_125 rfl rfl (Nat.le_of_ble_eq_true rfl) ⟨(Nat.le_of_ble_eq_true rfl), (Nat.le_of_ble_eq_true rfl)⟩ ⟨Nat.zero_le _, Nat.zero_le _⟩ dX7_price_12 ?_
    refine q_if_ne (tgt := 20) C dX7_price_15 (by decide) (fun c2 => ?_) (fun c2 => ?_)
    · refine q_aload0 C dX7_price_20 ?_
      refine g_X7_101 C dX7_price_21 ?_
      refine q_iload1 C dX7_price_24 ?_
      refine q_zaldX (j := (u1).toNatClampNeg) C rfl rfl (by first | assumption | exact day7 (by assumption) | exact wi7_in (by assumption) (by decide) | (simp only [gI_sI, gI_sJ, gI_ite]; simp; assumption) | (simp [gI_sI, gI_sJ, gI_ite]; assumption)) dX7_price_25 ?_
      refine q_if_ne (tgt := 35) C dX7_price_26 (by decide) (fun c3 => ?_) (fun c3 => ?_)
      · refine q_iload2 C dX7_price_35 ?_
        refine q_iconst (v := 0) C dX7_price_36 (by decide) ?_
        refine q_bipush (v := 23) C dX7_price_37 (by decide) ?_
        refine qc_SI C (c_X7_in _ _ _ _) cw_X7_125 rfl rfl (Nat.le_of_ble_eq_true rfl) ⟨(Nat.le_of_ble_eq_true rfl), (Nat.le_of_ble_eq_true rfl)⟩ ⟨Nat.zero_le _, Nat.zero_le _⟩ dX7_price_39 ?_
        refine q_if_ne (tgt := 51) C dX7_price_42 (by decide) (fun c4 => ?_) (fun c4 => ?_)
        · refine q_aload0 C dX7_price_51 ?_
          refine g_X7_104 C dX7_price_52 ?_
          refine q_bipush (v := 24) C dX7_price_55 (by decide) ?_
          refine q_iload1 C dX7_price_57 ?_
          refine q_imul C dX7_price_58 ?_
          refine q_iload2 C dX7_price_59 ?_
          refine q_iadd C dX7_price_60 ?_
          refine q_ialdX (j := (24 * (u1).toNatClampNeg + (u2).toNatClampNeg)) C rfl (ix24y (day7 (by assumption)) (wi7_in (by assumption) (by decide))) (iv24y (day7 (by assumption)) (wi7_in (by assumption) (by decide))) dX7_price_61 ?_
          refine q_istore4 C dX7_price_62 (by decide) (by intro w h0 h; first | exact absurd rfl h0 | (cases h <;> rfl)) ?_
          refine q_aload0 C dX7_price_64 ?_
          refine g_X7_104 C dX7_price_65 ?_
          refine q_bipush (v := 24) C dX7_price_68 (by decide) ?_
          refine q_iload1 C dX7_price_70 ?_
          refine q_imul C dX7_price_71 ?_
          refine q_iload2 C dX7_price_72 ?_
          refine q_iadd C dX7_price_73 ?_
          refine q_iload3 C dX7_price_74 ?_
          refine q_iastX (j := (24 * (u1).toNatClampNeg + (u2).toNatClampNeg)) C rfl (ix24y (day7 (by assumption)) (wi7_in (by assumption) (by decide))) (iv24y (day7 (by assumption)) (wi7_in (by assumption) (by decide))) dX7_price_75 ?_
          refine q_iload4 C dX7_price_76 ?_
          exact q_iret C (by first | rfl | (rw [f_X7_price, if_neg c1, if_neg c2, if_neg c3, if_neg c4]; done) | (rw [f_X7_price, if_neg c1, if_neg c2, if_neg c3, if_neg c4]; rfl) | (simp only [f_X7_price, if_neg c1, if_neg c2, if_neg c3, if_neg c4]; done)) (by first | rfl | (rw [f_X7_price, if_neg c1, if_neg c2, if_neg c3, if_neg c4]; done) | (rw [f_X7_price, if_neg c1, if_neg c2, if_neg c3, if_neg c4]; rfl) | (simp only [f_X7_price, if_neg c1, if_neg c2, if_neg c3, if_neg c4]; done)) dX7_price_78
        · refine q_aload0 C dX7_price_45 ?_
          refine q_iconst (v := 2) C dX7_price_46 (by decide) ?_
          refine qc_VI C (c_X7_meets _ _ (by first | assumption | exact vp_in_nI (by omega) (by decide) | omega | (unfold vp_in; decide) | decide)) cw_X7_151 rfl rfl rfl rfl (Nat.le_of_ble_eq_true rfl) ⟨(Nat.le_of_ble_eq_true rfl), (Nat.le_of_ble_eq_true rfl)⟩ ⟨Nat.zero_le _, Nat.zero_le _⟩ dX7_price_47 ?_
          exact q_iret C (by first | rfl | (rw [f_X7_price, if_neg c1, if_neg c2, if_neg c3, if_pos c4]; done) | (rw [f_X7_price, if_neg c1, if_neg c2, if_neg c3, if_pos c4]; rfl) | (simp only [f_X7_price, if_neg c1, if_neg c2, if_neg c3, if_pos c4]; done)) (by first | rfl | (rw [f_X7_price, if_neg c1, if_neg c2, if_neg c3, if_pos c4]; done) | (rw [f_X7_price, if_neg c1, if_neg c2, if_neg c3, if_pos c4]; rfl) | (simp only [f_X7_price, if_neg c1, if_neg c2, if_neg c3, if_pos c4]; done)) dX7_price_50
      · refine q_aload0 C dX7_price_29 ?_
        refine q_iconst (v := 1) C dX7_price_30 (by decide) ?_
        refine qc_VI C (c_X7_meets _ _ (by first | assumption | exact vp_in_nI (by omega) (by decide) | omega | (unfold vp_in; decide) | decide)) cw_X7_151 rfl rfl rfl rfl (Nat.le_of_ble_eq_true rfl) ⟨(Nat.le_of_ble_eq_true rfl), (Nat.le_of_ble_eq_true rfl)⟩ ⟨Nat.zero_le _, Nat.zero_le _⟩ dX7_price_31 ?_
        exact q_iret C (by first | rfl | (rw [f_X7_price, if_neg c1, if_neg c2, if_pos c3]; done) | (rw [f_X7_price, if_neg c1, if_neg c2, if_pos c3]; rfl) | (simp only [f_X7_price, if_neg c1, if_neg c2, if_pos c3]; done)) (by first | rfl | (rw [f_X7_price, if_neg c1, if_neg c2, if_pos c3]; done) | (rw [f_X7_price, if_neg c1, if_neg c2, if_pos c3]; rfl) | (simp only [f_X7_price, if_neg c1, if_neg c2, if_pos c3]; done)) dX7_price_34
    · refine q_iconst (v := -1) C dX7_price_18 (by decide) ?_
      exact q_iret C (by first | rfl | (rw [f_X7_price, if_neg c1, if_pos c2]; done) | (rw [f_X7_price, if_neg c1, if_pos c2]; rfl) | (simp only [f_X7_price, if_neg c1, if_pos c2]; done)) (by first | rfl | (rw [f_X7_price, if_neg c1, if_pos c2]; done) | (rw [f_X7_price, if_neg c1, if_pos c2]; rfl) | (simp only [f_X7_price, if_neg c1, if_pos c2]; done)) dX7_price_19
def f_X7_tear (M : Mm) (u1 : Int32) : Int32 × Mm := (if (f_X7_isADay u1) = 0 then ((-1 : Int32), M) else (if (gI M 67 (u1).toNatClampNeg) = 0 then ((f_X7_meets M (1 : Int32)).1, (f_X7_meets M (1 : Int32)).2) else ((1 : Int32), (sI M 67 (u1).toNatClampNeg (0 : Int32)))))
set_option maxHeartbeats 4000000 in
set_option maxRecDepth 100000 in
theorem c_X7_tear (M : Mm) (u1 : Int32)  : MI yX7_tear cX7_tear 2 (some .int) 2 42 (fun a => [.ref (a 44), .int u1]) M (f_X7_tear M u1).1 (f_X7_tear M u1).2 := by
  refine MI.intro (lv0 := fun a => [some (.ref (a 44)), some (.int u1)]) (by decide) (fun a => ⟨(Nat.le_of_ble_eq_true rfl), rfl⟩) ?_
  intro p9 l9 e9 s9 m9 g9 b9 h9 c9 D9 A9 ct a C
  have C : Cx p9 s9 m9 g9 h9 c9 cX7_tear 2 RX7 (some .int) D9 A9 ct a := C
  refine q_iload1 C dX7_tear_0 ?_
  refine qc_SI C (c_X7_isADay _ _) cw_X7_214 rfl rfl (Nat.le_of_ble_eq_true rfl) ⟨(Nat.le_of_ble_eq_true rfl), (Nat.le_of_ble_eq_true rfl)⟩ ⟨Nat.zero_le _, Nat.zero_le _⟩ dX7_tear_1 ?_
  refine q_if_ne (tgt := 9) C dX7_tear_4 (by decide) (fun c1 => ?_) (fun c1 => ?_)
  · refine q_aload0 C dX7_tear_9 ?_
    refine g_X7_101 C dX7_tear_10 ?_
    refine q_iload1 C dX7_tear_13 ?_
    refine q_zaldX (j := (u1).toNatClampNeg) C rfl rfl (by first | assumption | exact day7 (by assumption) | exact wi7_in (by assumption) (by decide) | (simp only [gI_sI, gI_sJ, gI_ite]; simp; assumption) | (simp [gI_sI, gI_sJ, gI_ite]; assumption)) dX7_tear_14 ?_
    refine q_if_ne (tgt := 24) C dX7_tear_15 (by decide) (fun c2 => ?_) (fun c2 => ?_)
    · refine q_aload0 C dX7_tear_24 ?_
      refine g_X7_101 C dX7_tear_25 ?_
      refine q_iload1 C dX7_tear_28 ?_
      refine q_iconst (v := 0) C dX7_tear_29 (by decide) ?_
      refine q_zastX (j := (u1).toNatClampNeg) C rfl rfl (by first | assumption | exact day7 (by assumption) | exact wi7_in (by assumption) (by decide) | (simp only [gI_sI, gI_sJ, gI_ite]; simp; assumption) | (simp [gI_sI, gI_sJ, gI_ite]; assumption)) (by repeat' first | exact bz_0 | exact bz_1 | assumption | apply bz_if) dX7_tear_30 ?_
      refine q_iconst (v := 1) C dX7_tear_31 (by decide) ?_
      exact q_iret C (by first | rfl | (rw [f_X7_tear, if_neg c1, if_neg c2]; done) | (rw [f_X7_tear, if_neg c1, if_neg c2]; rfl) | (simp only [f_X7_tear, if_neg c1, if_neg c2]; done)) (by first | rfl | (rw [f_X7_tear, if_neg c1, if_neg c2]; done) | (rw [f_X7_tear, if_neg c1, if_neg c2]; rfl) | (simp only [f_X7_tear, if_neg c1, if_neg c2]; done)) dX7_tear_32
    · refine q_aload0 C dX7_tear_18 ?_
      refine q_iconst (v := 1) C dX7_tear_19 (by decide) ?_
      refine qc_VI C (c_X7_meets _ _ (by first | assumption | exact vp_in_nI (by omega) (by decide) | omega | (unfold vp_in; decide) | decide)) cw_X7_151 rfl rfl rfl rfl (Nat.le_of_ble_eq_true rfl) ⟨(Nat.le_of_ble_eq_true rfl), (Nat.le_of_ble_eq_true rfl)⟩ ⟨Nat.zero_le _, Nat.zero_le _⟩ dX7_tear_20 ?_
      exact q_iret C (by first | rfl | (rw [f_X7_tear, if_neg c1, if_pos c2]; done) | (rw [f_X7_tear, if_neg c1, if_pos c2]; rfl) | (simp only [f_X7_tear, if_neg c1, if_pos c2]; done)) (by first | rfl | (rw [f_X7_tear, if_neg c1, if_pos c2]; done) | (rw [f_X7_tear, if_neg c1, if_pos c2]; rfl) | (simp only [f_X7_tear, if_neg c1, if_pos c2]; done)) dX7_tear_23
  · refine q_iconst (v := -1) C dX7_tear_7 (by decide) ?_
    exact q_iret C (by first | rfl | (rw [f_X7_tear, if_pos c1]; done) | (rw [f_X7_tear, if_pos c1]; rfl) | (simp only [f_X7_tear, if_pos c1]; done)) (by first | rfl | (rw [f_X7_tear, if_pos c1]; done) | (rw [f_X7_tear, if_pos c1]; rfl) | (simp only [f_X7_tear, if_pos c1]; done)) dX7_tear_8
def f_X7_need (M : Mm) (u1 : Int32) (u2 : Int32) : Int32 × Mm := (if (f_X7_in u1 (0 : Int32) (23 : Int32)) = 0 then ((-1 : Int32), M) else (if (f_X7_in u2 (0 : Int32) (10000 : Int32)) = 0 then ((-1 : Int32), M) else ((gI M 69 (u1).toNatClampNeg), (sI M 69 (u1).toNatClampNeg u2))))
set_option maxHeartbeats 4000000 in
set_option maxRecDepth 100000 in
theorem c_X7_need (M : Mm) (u1 : Int32) (u2 : Int32)  : MI yX7_need cX7_need 4 (some .int) 1 22 (fun a => [.ref (a 44), .int u1, .int u2]) M (f_X7_need M u1 u2).1 (f_X7_need M u1 u2).2 := by
  refine MI.intro (lv0 := fun a => [some (.ref (a 44)), some (.int u1), some (.int u2), none]) (by decide) (fun a => ⟨(Nat.le_of_ble_eq_true rfl), rfl⟩) ?_
  intro p9 l9 e9 s9 m9 g9 b9 h9 c9 D9 A9 ct a C
  have C : Cx p9 s9 m9 g9 h9 c9 cX7_need 4 RX7 (some .int) D9 A9 ct a := C
  refine q_iload1 C dX7_need_0 ?_
  refine q_iconst (v := 0) C dX7_need_1 (by decide) ?_
  refine q_bipush (v := 23) C dX7_need_2 (by decide) ?_
  refine qc_SI C (c_X7_in _ _ _ _) cw_X7_125 rfl rfl (Nat.le_of_ble_eq_true rfl) ⟨(Nat.le_of_ble_eq_true rfl), (Nat.le_of_ble_eq_true rfl)⟩ ⟨Nat.zero_le _, Nat.zero_le _⟩ dX7_need_4 ?_
  refine q_if_eq (tgt := 21) C dX7_need_7 (by decide) (fun c1 => ?_) (fun c1 => ?_)
  · refine q_iconst (v := -1) C dX7_need_21 (by decide) ?_
    exact q_iret C (by first | rfl | (rw [f_X7_need, if_pos c1]; done) | (rw [f_X7_need, if_pos c1]; rfl) | (simp only [f_X7_need, if_pos c1]; done)) (by first | rfl | (rw [f_X7_need, if_pos c1]; done) | (rw [f_X7_need, if_pos c1]; rfl) | (simp only [f_X7_need, if_pos c1]; done)) dX7_need_22
  · refine q_iload2 C dX7_need_10 ?_
    refine q_iconst (v := 0) C dX7_need_11 (by decide) ?_
    refine q_sipush (v := 10000) C dX7_need_12 (by decide) ?_
    refine qc_SI C (c_X7_in _ _ _ _) cw_X7_125 rfl rfl (Nat.le_of_ble_eq_true rfl) ⟨(Nat.le_of_ble_eq_true rfl), (Nat.le_of_ble_eq_true rfl)⟩ ⟨Nat.zero_le _, Nat.zero_le _⟩ dX7_need_15 ?_
    refine q_if_ne (tgt := 23) C dX7_need_18 (by decide) (fun c2 => ?_) (fun c2 => ?_)
    · refine q_aload0 C dX7_need_23 ?_
      refine g_X7_107 C dX7_need_24 ?_
      refine q_iload1 C dX7_need_27 ?_
      refine q_ialdX (j := (u1).toNatClampNeg) C rfl rfl (by first | assumption | exact day7 (by assumption) | exact wi7_in (by assumption) (by decide) | (simp only [gI_sI, gI_sJ, gI_ite]; simp; assumption) | (simp [gI_sI, gI_sJ, gI_ite]; assumption)) dX7_need_28 ?_
      refine q_istore3 C dX7_need_29 (by decide) (by intro w h0 h; first | exact absurd rfl h0 | (cases h <;> rfl)) ?_
      refine q_aload0 C dX7_need_30 ?_
      refine g_X7_107 C dX7_need_31 ?_
      refine q_iload1 C dX7_need_34 ?_
      refine q_iload2 C dX7_need_35 ?_
      refine q_iastX (j := (u1).toNatClampNeg) C rfl rfl (by first | assumption | exact day7 (by assumption) | exact wi7_in (by assumption) (by decide) | (simp only [gI_sI, gI_sJ, gI_ite]; simp; assumption) | (simp [gI_sI, gI_sJ, gI_ite]; assumption)) dX7_need_36 ?_
      refine q_iload3 C dX7_need_37 ?_
      exact q_iret C (by first | rfl | (rw [f_X7_need, if_neg c1, if_neg c2]; done) | (rw [f_X7_need, if_neg c1, if_neg c2]; rfl) | (simp only [f_X7_need, if_neg c1, if_neg c2]; done)) (by first | rfl | (rw [f_X7_need, if_neg c1, if_neg c2]; done) | (rw [f_X7_need, if_neg c1, if_neg c2]; rfl) | (simp only [f_X7_need, if_neg c1, if_neg c2]; done)) dX7_need_38
    · refine q_iconst (v := -1) C dX7_need_21 (by decide) ?_
      exact q_iret C (by first | rfl | (rw [f_X7_need, if_neg c1, if_pos c2]; done) | (rw [f_X7_need, if_neg c1, if_pos c2]; rfl) | (simp only [f_X7_need, if_neg c1, if_pos c2]; done)) (by first | rfl | (rw [f_X7_need, if_neg c1, if_pos c2]; done) | (rw [f_X7_need, if_neg c1, if_pos c2]; rfl) | (simp only [f_X7_need, if_neg c1, if_pos c2]; done)) dX7_need_22
def f_X7_upper (M : Mm)  : Int64 := (gJ M 44 3)
set_option maxHeartbeats 4000000 in
set_option maxRecDepth 100000 in
theorem c_X7_upper (M : Mm)   : MJ yX7_upper cX7_upper 1 (some .long) 0 0 (fun a => [.ref (a 44)]) M (f_X7_upper M) M := by
  refine MJ.intro (lv0 := fun a => [some (.ref (a 44))]) (by decide) (fun a => ⟨(Nat.le_of_ble_eq_true rfl), rfl⟩) ?_
  intro p9 l9 e9 s9 m9 g9 b9 h9 c9 D9 A9 ct a C
  have C : Cx p9 s9 m9 g9 h9 c9 cX7_upper 1 RX7 (some .long) D9 A9 ct a := C
  refine q_aload0 C dX7_upper_0 ?_
  refine g_X7_161 C dX7_upper_1 ?_
  exact q_lret C (by first | (rw [f_X7_upper]; done) | rfl) rfl dX7_upper_4
def f_X7_lower (M : Mm)  : Int64 := (gJ M 44 4)
set_option maxHeartbeats 4000000 in
set_option maxRecDepth 100000 in
theorem c_X7_lower (M : Mm)   : MJ yX7_lower cX7_lower 1 (some .long) 0 0 (fun a => [.ref (a 44)]) M (f_X7_lower M) M := by
  refine MJ.intro (lv0 := fun a => [some (.ref (a 44))]) (by decide) (fun a => ⟨(Nat.le_of_ble_eq_true rfl), rfl⟩) ?_
  intro p9 l9 e9 s9 m9 g9 b9 h9 c9 D9 A9 ct a C
  have C : Cx p9 s9 m9 g9 h9 c9 cX7_lower 1 RX7 (some .long) D9 A9 ct a := C
  refine q_aload0 C dX7_lower_0 ?_
  refine g_X7_13 C dX7_lower_1 ?_
  exact q_lret C (by first | (rw [f_X7_lower]; done) | rfl) rfl dX7_lower_4
def f_X7_asked (M : Mm)  : Int64 := (gJ M 44 2)
set_option maxHeartbeats 4000000 in
set_option maxRecDepth 100000 in
theorem c_X7_asked (M : Mm)   : MJ yX7_asked cX7_asked 1 (some .long) 0 0 (fun a => [.ref (a 44)]) M (f_X7_asked M) M := by
  refine MJ.intro (lv0 := fun a => [some (.ref (a 44))]) (by decide) (fun a => ⟨(Nat.le_of_ble_eq_true rfl), rfl⟩) ?_
  intro p9 l9 e9 s9 m9 g9 b9 h9 c9 D9 A9 ct a C
  have C : Cx p9 s9 m9 g9 h9 c9 cX7_asked 1 RX7 (some .long) D9 A9 ct a := C
  refine q_aload0 C dX7_asked_0 ?_
  refine g_X7_122 C dX7_asked_1 ?_
  exact q_lret C (by first | (rw [f_X7_asked]; done) | rfl) rfl dX7_asked_4
def b_X7_counts_1 (M : Mm) (i1 : Nat) (z1 : Int32) : Int32 := (z1 + (if (gI M 67 i1) = 0 then (0 : Int32) else (1 : Int32)))
def f_X7_counts (M : Mm) (u1 : Int32) : Int32 := (if u1 = 0 then (gI M 44 5) else (if u1 = (1 : Int32) then (gI M 44 16) else (if u1 = (2 : Int32) then (gI M 44 22) else (if u1 = (3 : Int32) then (itr (b_X7_counts_1 M) 7 (0 : Int32)) else (if (gI M 44 23) = 0 then (0 : Int32) else (1 : Int32))))))
set_option maxHeartbeats 4000000 in
set_option maxRecDepth 100000 in
theorem c_X7_counts (M : Mm) (u1 : Int32)  : MI yX7_counts cX7_counts 4 (some .int) 0 0 (fun a => [.ref (a 44), .int u1]) M (f_X7_counts M u1) M := by
  refine MI.intro (lv0 := fun a => [some (.ref (a 44)), some (.int u1), none, none]) (by decide) (fun a => ⟨(Nat.le_of_ble_eq_true rfl), rfl⟩) ?_
  intro p9 l9 e9 s9 m9 g9 b9 h9 c9 D9 A9 ct a C
  have C : Cx p9 s9 m9 g9 h9 c9 cX7_counts 4 RX7 (some .int) D9 A9 ct a := C
  refine q_iconst (v := 0) C dX7_counts_0 (by decide) ?_
  refine q_istore2 C dX7_counts_1 (by decide) (by intro w h0 h; first | exact absurd rfl h0 | (cases h <;> rfl)) ?_
  refine q_iconst (v := 0) C dX7_counts_2 (by decide) ?_
  refine q_istore3 C dX7_counts_3 (by decide) (by intro w h0 h; first | exact absurd rfl h0 | (cases h <;> rfl)) ?_
  refine q_loop 7 (b_X7_counts_1 M) (fun zz => M) (fun xx zz => [some (.ref (a 44)), some (.int u1), some (.int zz), some (.int xx)]) (0 : Int32)  (fun i1 z1 hi1 ih1 => ?_) ?_
  · refine q_iload3 C dX7_counts_4 ?_
    refine q_bipush (v := 7) C dX7_counts_5 (by decide) ?_
    refine q_icmp_ge (tgt := 33) C dX7_counts_7 (by decide) (fun c1 => absurd c1 (nI_ge (b := 7) (by omega) (by omega))) (fun c1 => ?_)
    refine q_iload2 C dX7_counts_10 ?_
    refine q_aload0 C dX7_counts_11 ?_
    refine g_X7_101 C dX7_counts_12 ?_
    refine q_iload3 C dX7_counts_15 ?_
    refine q_zaldX (j := i1) C rfl (nI_clamp (by omega)) (vp_in_nI (by omega) (by first | decide | omega)) dX7_counts_16 ?_
    refine q_cut M 25 [some (.ref (a 44)), some (.int u1), none, some (.int (nI i1))] [.int (if (gI M 67 i1) = 0 then (0 : Int32) else (1 : Int32)), .int z1] (fun hJ => ?_) ?_
    · refine q_if_eq (tgt := 24) C dX7_counts_17 (by decide) (fun c2 => ?_) (fun c2 => ?_)
      · refine q_iconst (v := 0) C dX7_counts_24 (by decide) ?_
        refine q_drop [some (.ref (a 44)), some (.int u1), none, some (.int (nI i1))] (by repeat' (first | exact trivial | rfl | constructor)) ?_
        (try simp only [if_pos c2] at hJ); exact hJ
      · refine q_iconst (v := 1) C dX7_counts_20 (by decide) ?_
        refine q_goto (tgt := 25) C dX7_counts_21 (by decide) ?_
        refine q_drop [some (.ref (a 44)), some (.int u1), none, some (.int (nI i1))] (by repeat' (first | exact trivial | rfl | constructor)) ?_
        (try simp only [if_neg c2] at hJ); exact hJ
    refine q_iadd C dX7_counts_25 ?_
    refine q_istore2 C dX7_counts_26 (by decide) (by intro w h0 h; first | exact absurd rfl h0 | (cases h <;> rfl)) ?_
    refine q_iinc3 (dv := 1) C dX7_counts_27 (by decide) (by decide) (by intro w h0 h; first | exact absurd rfl h0 | (cases h <;> rfl)) ?_
    refine q_goto (tgt := 4) C dX7_counts_30 (by decide) ?_
    exact ih1
  refine q_iload3 C dX7_counts_4 ?_
  refine q_bipush (v := 7) C dX7_counts_5 (by decide) ?_
  refine q_icmp_ge (tgt := 33) C dX7_counts_7 (by decide) (fun c3 => ?_) (fun c3 => absurd (Int32.le_refl _) c3)
  refine q_iload1 C dX7_counts_33 ?_
  refine q_cut M 89 [none, none, none, none] [.int (if u1 = 0 then (gI M 44 5) else (if u1 = (1 : Int32) then (gI M 44 16) else (if u1 = (2 : Int32) then (gI M 44 22) else (if u1 = (3 : Int32) then (itr (b_X7_counts_1 M) 7 (0 : Int32)) else (if (gI M 44 23) = 0 then (0 : Int32) else (1 : Int32))))))] (fun hJ => ?_) ?_
  · refine q_if_ne (tgt := 44) C dX7_counts_34 (by decide) (fun c4 => ?_) (fun c4 => ?_)
    · refine q_iload1 C dX7_counts_44 ?_
      refine q_iconst (v := 1) C dX7_counts_45 (by decide) ?_
      refine q_icmp_ne (tgt := 56) C dX7_counts_46 (by decide) (fun c5 => ?_) (fun c5 => ?_)
      · refine q_iload1 C dX7_counts_56 ?_
        refine q_iconst (v := 2) C dX7_counts_57 (by decide) ?_
        refine q_icmp_ne (tgt := 68) C dX7_counts_58 (by decide) (fun c6 => ?_) (fun c6 => ?_)
        · refine q_iload1 C dX7_counts_68 ?_
          refine q_iconst (v := 3) C dX7_counts_69 (by decide) ?_
          refine q_icmp_ne (tgt := 77) C dX7_counts_70 (by decide) (fun c7 => ?_) (fun c7 => ?_)
          · refine q_aload0 C dX7_counts_77 ?_
            refine g_X7_182 C dX7_counts_78 ?_
            refine q_if_eq (tgt := 88) C dX7_counts_81 (by decide) (fun c8 => ?_) (fun c8 => ?_)
            · refine q_iconst (v := 0) C dX7_counts_88 (by decide) ?_
              refine q_drop [none, none, none, none] (by repeat' (first | exact trivial | rfl | constructor)) ?_
              (try simp only [if_neg c4, if_neg c5, if_neg c6, if_neg c7, if_pos c8] at hJ); exact hJ
            · refine q_iconst (v := 1) C dX7_counts_84 (by decide) ?_
              refine q_goto (tgt := 89) C dX7_counts_85 (by decide) ?_
              refine q_drop [none, none, none, none] (by repeat' (first | exact trivial | rfl | constructor)) ?_
              (try simp only [if_neg c4, if_neg c5, if_neg c6, if_neg c7, if_neg c8] at hJ); exact hJ
          · refine q_iload2 C dX7_counts_73 ?_
            refine q_goto (tgt := 89) C dX7_counts_74 (by decide) ?_
            refine q_drop [none, none, none, none] (by repeat' (first | exact trivial | rfl | constructor)) ?_
            (try simp only [if_neg c4, if_neg c5, if_neg c6, if_pos c7] at hJ); exact hJ
        · refine q_aload0 C dX7_counts_61 ?_
          refine g_X7_179 C dX7_counts_62 ?_
          refine q_goto (tgt := 89) C dX7_counts_65 (by decide) ?_
          refine q_drop [none, none, none, none] (by repeat' (first | exact trivial | rfl | constructor)) ?_
          (try simp only [if_neg c4, if_neg c5, if_pos c6] at hJ); exact hJ
      · refine q_aload0 C dX7_counts_49 ?_
        refine g_X7_164 C dX7_counts_50 ?_
        refine q_goto (tgt := 89) C dX7_counts_53 (by decide) ?_
        refine q_drop [none, none, none, none] (by repeat' (first | exact trivial | rfl | constructor)) ?_
        (try simp only [if_neg c4, if_pos c5] at hJ); exact hJ
    · refine q_aload0 C dX7_counts_37 ?_
      refine g_X7_129 C dX7_counts_38 ?_
      refine q_goto (tgt := 89) C dX7_counts_41 (by decide) ?_
      refine q_drop [none, none, none, none] (by repeat' (first | exact trivial | rfl | constructor)) ?_
      (try simp only [if_pos c4] at hJ); exact hJ
  exact q_iret C (by first | (rw [f_X7_counts]; done) | rfl) rfl dX7_counts_89
def f_X7_count (M : Mm) (u1 : Int32) : Int32 := (if (f_X7_in u1 (0 : Int32) (4 : Int32)) = 0 then (-1 : Int32) else (f_X7_counts M u1))
set_option maxHeartbeats 4000000 in
set_option maxRecDepth 100000 in
theorem c_X7_count (M : Mm) (u1 : Int32)  : MI yX7_count cX7_count 2 (some .int) 1 23 (fun a => [.ref (a 44), .int u1]) M (f_X7_count M u1) M := by
  refine MI.intro (lv0 := fun a => [some (.ref (a 44)), some (.int u1)]) (by decide) (fun a => ⟨(Nat.le_of_ble_eq_true rfl), rfl⟩) ?_
  intro p9 l9 e9 s9 m9 g9 b9 h9 c9 D9 A9 ct a C
  have C : Cx p9 s9 m9 g9 h9 c9 cX7_count 2 RX7 (some .int) D9 A9 ct a := C
  refine q_iload1 C dX7_count_0 ?_
  refine q_iconst (v := 0) C dX7_count_1 (by decide) ?_
  refine q_iconst (v := 4) C dX7_count_2 (by decide) ?_
  refine qc_SI C (c_X7_in _ _ _ _) cw_X7_125 rfl rfl (Nat.le_of_ble_eq_true rfl) ⟨(Nat.le_of_ble_eq_true rfl), (Nat.le_of_ble_eq_true rfl)⟩ ⟨Nat.zero_le _, Nat.zero_le _⟩ dX7_count_3 ?_
  refine q_cut M 18 [none, none] [.int (if (f_X7_in u1 (0 : Int32) (4 : Int32)) = 0 then (-1 : Int32) else (f_X7_counts M u1))] (fun hJ => ?_) ?_
  · refine q_if_eq (tgt := 17) C dX7_count_6 (by decide) (fun c1 => ?_) (fun c1 => ?_)
    · refine q_iconst (v := -1) C dX7_count_17 (by decide) ?_
      refine q_drop [none, none] (by repeat' (first | exact trivial | rfl | constructor)) ?_
      (try simp only [if_pos c1] at hJ); exact hJ
    · refine q_aload0 C dX7_count_9 ?_
      refine q_iload1 C dX7_count_10 ?_
      refine qc_VI C (c_X7_counts _ _) cw_X7_220 rfl rfl rfl rfl (Nat.le_of_ble_eq_true rfl) ⟨(Nat.le_of_ble_eq_true rfl), (Nat.le_of_ble_eq_true rfl)⟩ ⟨Nat.zero_le _, Nat.zero_le _⟩ dX7_count_11 ?_
      refine q_goto (tgt := 18) C dX7_count_14 (by decide) ?_
      refine q_drop [none, none] (by repeat' (first | exact trivial | rfl | constructor)) ?_
      (try simp only [if_neg c1] at hJ); exact hJ
  exact q_iret C (by first | (rw [f_X7_count]; done) | rfl) rfl dX7_count_18
def f_X7_finding (M : Mm)  : Int32 := (gI M 44 0)
set_option maxHeartbeats 4000000 in
set_option maxRecDepth 100000 in
theorem c_X7_finding (M : Mm)   : MI yX7_finding cX7_finding 1 (some .int) 0 0 (fun a => [.ref (a 44)]) M (f_X7_finding M) M := by
  refine MI.intro (lv0 := fun a => [some (.ref (a 44))]) (by decide) (fun a => ⟨(Nat.le_of_ble_eq_true rfl), rfl⟩) ?_
  intro p9 l9 e9 s9 m9 g9 b9 h9 c9 D9 A9 ct a C
  have C : Cx p9 s9 m9 g9 h9 c9 cX7_finding 1 RX7 (some .int) D9 A9 ct a := C
  refine q_aload0 C dX7_finding_0 ?_
  refine g_X7_119 C dX7_finding_1 ?_
  exact q_iret C (by first | (rw [f_X7_finding]; done) | rfl) rfl dX7_finding_4
def f_X7_findings (M : Mm) (u1 : Int32) : Int32 := (if (f_X7_in u1 (1 : Int32) (5 : Int32)) = 0 then (-1 : Int32) else (gI M 45 (u1).toNatClampNeg))
set_option maxHeartbeats 4000000 in
set_option maxRecDepth 100000 in
theorem c_X7_findings (M : Mm) (u1 : Int32)  : MI yX7_findings cX7_findings 2 (some .int) 1 22 (fun a => [.ref (a 44), .int u1]) M (f_X7_findings M u1) M := by
  refine MI.intro (lv0 := fun a => [some (.ref (a 44)), some (.int u1)]) (by decide) (fun a => ⟨(Nat.le_of_ble_eq_true rfl), rfl⟩) ?_
  intro p9 l9 e9 s9 m9 g9 b9 h9 c9 D9 A9 ct a C
  have C : Cx p9 s9 m9 g9 h9 c9 cX7_findings 2 RX7 (some .int) D9 A9 ct a := C
  refine q_iload1 C dX7_findings_0 ?_
  refine q_iconst (v := 1) C dX7_findings_1 (by decide) ?_
  refine q_iconst (v := 5) C dX7_findings_2 (by decide) ?_
  refine qc_SI C (c_X7_in _ _ _ _) cw_X7_125 rfl rfl (Nat.le_of_ble_eq_true rfl) ⟨(Nat.le_of_ble_eq_true rfl), (Nat.le_of_ble_eq_true rfl)⟩ ⟨Nat.zero_le _, Nat.zero_le _⟩ dX7_findings_3 ?_
  refine q_cut M 19 [none, none] [.int (if (f_X7_in u1 (1 : Int32) (5 : Int32)) = 0 then (-1 : Int32) else (gI M 45 (u1).toNatClampNeg))] (fun hJ => ?_) ?_
  · refine q_if_eq (tgt := 18) C dX7_findings_6 (by decide) (fun c1 => ?_) (fun c1 => ?_)
    · refine q_iconst (v := -1) C dX7_findings_18 (by decide) ?_
      refine q_drop [none, none] (by repeat' (first | exact trivial | rfl | constructor)) ?_
      (try simp only [if_pos c1] at hJ); exact hJ
    · refine q_aload0 C dX7_findings_9 ?_
      refine g_X7_7 C dX7_findings_10 ?_
      refine q_iload1 C dX7_findings_13 ?_
      refine q_ialdX (j := (u1).toNatClampNeg) C rfl rfl (wi7_in1 (by assumption) (by decide)) dX7_findings_14 ?_
      refine q_goto (tgt := 19) C dX7_findings_15 (by decide) ?_
      refine q_drop [none, none] (by repeat' (first | exact trivial | rfl | constructor)) ?_
      (try simp only [if_neg c1] at hJ); exact hJ
  exact q_iret C (by first | (rw [f_X7_findings]; done) | rfl) rfl dX7_findings_19
