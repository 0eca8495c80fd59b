def b_J7_fill_53178_1 (u1 : Nat) (u2 : Int32) (i1 : Nat) (z1 : Mm) : Mm := (sI z1 u1 i1 u2)
def f_J7_fill_53178 (M : Mm) (u1 nu1 : Nat) (u2 : Int32) : Mm := (itr (b_J7_fill_53178_1 u1 u2) nu1 M)
set_option maxHeartbeats 4000000 in
set_option maxRecDepth 100000 in
theorem c_J7_fill_53178 (M : Mm) (u1 nu1 : Nat) (u2 : Int32) (hs_u1 : SH[u1]? = some (.inr (0, nu1, 0))) (hn : nu1 < 2147483648) : MV yJ7_fill_53178 cJ7_fill_53178 4 none 0 0 (fun a => [.ref (a u1), .int u2]) M (f_J7_fill_53178 M u1 nu1 u2) := by
  refine MV.intro (lv0 := fun a => [some (.ref (a u1)), some (.int u2), none, none]) (by decide) (fun a => ⟨(Nat.le_of_ble_eq_true rfl), rfl⟩) ?_
  intro p9 l9 e9 s9 m9 g9 b9 h9 c9 D9 A9 ct a C
  have C : Cx p9 s9 m9 g9 h9 c9 cJ7_fill_53178 4 RJ7 none D9 A9 ct a := C
  refine q_iconst (v := 0) C dJ7_fill_53178_0 (by decide) ?_
  refine q_istore2 C dJ7_fill_53178_1 (by decide) (by intro w h0 h; first | exact absurd rfl h0 | (cases h <;> rfl)) ?_
  refine q_aload0 C dJ7_fill_53178_2 ?_
  refine q_alen (v := nI nu1) C hs_u1 (by decide) rfl dJ7_fill_53178_3 ?_
  refine q_istore3 C dJ7_fill_53178_4 (by decide) (by intro w h0 h; first | exact absurd rfl h0 | (cases h <;> rfl)) ?_
  refine q_loop nu1 (b_J7_fill_53178_1 u1 u2) (fun zz => zz) (fun xx zz => [some (.ref (a u1)), some (.int u2), some (.int xx), some (.int (nI nu1))]) M  (fun i1 z1 hi1 ih1 => ?_) ?_
  · refine q_iload2 C dJ7_fill_53178_5 ?_
    refine q_iload3 C dJ7_fill_53178_6 ?_
    refine q_icmp_ge (tgt := 20) C dJ7_fill_53178_7 (by decide) (fun c1 => absurd c1 (nI_ge (b := nu1) (by omega) (by omega))) (fun c1 => ?_)
    refine q_aload0 C dJ7_fill_53178_10 ?_
    refine q_iload2 C dJ7_fill_53178_11 ?_
    refine q_iload1 C dJ7_fill_53178_12 ?_
    refine q_iastX (j := i1) C hs_u1 (nI_clamp (by omega)) (vp_in_nI (by omega) (by first | decide | omega)) dJ7_fill_53178_13 ?_
    refine q_iinc2 (dv := 1) C dJ7_fill_53178_14 (by decide) (by decide) (by intro w h0 h; first | exact absurd rfl h0 | (cases h <;> rfl)) ?_
    refine q_goto (tgt := 5) C dJ7_fill_53178_17 (by decide) ?_
    exact ih1
  refine q_iload2 C dJ7_fill_53178_5 ?_
  refine q_iload3 C dJ7_fill_53178_6 ?_
  refine q_icmp_ge (tgt := 20) C dJ7_fill_53178_7 (by decide) (fun c2 => ?_) (fun c2 => absurd (Int32.le_refl _) c2)
  exact q_vret C (by first | (rw [f_J7_fill_53178]; done) | rfl) dJ7_fill_53178_20
def f_X0_hours (M : Mm)  : Int32 := (gI M 2 5)
set_option maxHeartbeats 4000000 in
set_option maxRecDepth 100000 in
theorem c_X0_hours (M : Mm)   : MI yX0_hours cX0_hours 1 (some .int) 0 0 (fun a => [.ref (a 2)]) M (f_X0_hours M) M := by
  refine MI.intro (lv0 := fun a => [some (.ref (a 2))]) (by decide) (fun a => ⟨(Nat.le_of_ble_eq_true rfl), rfl⟩) ?_
  intro p9 l9 e9 s9 m9 g9 b9 h9 c9 D9 A9 ct a C
  have C : Cx p9 s9 m9 g9 h9 c9 cX0_hours 1 RX0 (some .int) D9 A9 ct a := C
  refine q_aload0 C dX0_hours_0 ?_
  refine g_X0_29 C dX0_hours_1 ?_
  exact q_iret C (by first | (rw [f_X0_hours]; done) | rfl) rfl dX0_hours_4
def f_X0_latestRead (M : Mm)  : Int32 := (gI M 2 6)
set_option maxHeartbeats 4000000 in
set_option maxRecDepth 100000 in
theorem c_X0_latestRead (M : Mm)   : MI yX0_latestRead cX0_latestRead 1 (some .int) 0 0 (fun a => [.ref (a 2)]) M (f_X0_latestRead M) M := by
  refine MI.intro (lv0 := fun a => [some (.ref (a 2))]) (by decide) (fun a => ⟨(Nat.le_of_ble_eq_true rfl), rfl⟩) ?_
  intro p9 l9 e9 s9 m9 g9 b9 h9 c9 D9 A9 ct a C
  have C : Cx p9 s9 m9 g9 h9 c9 cX0_latestRead 1 RX0 (some .int) D9 A9 ct a := C
  refine q_aload0 C dX0_latestRead_0 ?_
  refine g_X0_33 C dX0_latestRead_1 ?_
  exact q_iret C (by first | (rw [f_X0_latestRead]; done) | rfl) rfl dX0_latestRead_4
def f_X0_passedOver (M : Mm)  : Int32 := (gI M 2 7)
set_option maxHeartbeats 4000000 in
set_option maxRecDepth 100000 in
theorem c_X0_passedOver (M : Mm)   : MI yX0_passedOver cX0_passedOver 1 (some .int) 0 0 (fun a => [.ref (a 2)]) M (f_X0_passedOver M) M := by
  refine MI.intro (lv0 := fun a => [some (.ref (a 2))]) (by decide) (fun a => ⟨(Nat.le_of_ble_eq_true rfl), rfl⟩) ?_
  intro p9 l9 e9 s9 m9 g9 b9 h9 c9 D9 A9 ct a C
  have C : Cx p9 s9 m9 g9 h9 c9 cX0_passedOver 1 RX0 (some .int) D9 A9 ct a := C
  refine q_aload0 C dX0_passedOver_0 ?_
  refine g_X0_36 C dX0_passedOver_1 ?_
  exact q_iret C (by first | (rw [f_X0_passedOver]; done) | rfl) rfl dX0_passedOver_4
def f_X0_sharesOf (M : Mm) (u1 : Int32) : Int32 := (gI M 16 (u1).toNatClampNeg)
set_option maxHeartbeats 4000000 in
set_option maxRecDepth 100000 in
theorem c_X0_sharesOf (M : Mm) (u1 : Int32) (h1 : vp_in u1 4) : MI yX0_sharesOf cX0_sharesOf 2 (some .int) 0 0 (fun a => [.ref (a 2), .int u1]) M (f_X0_sharesOf M u1) M := by
  refine MI.intro (lv0 := fun a => [some (.ref (a 2)), some (.int u1)]) (by decide) (fun a => ⟨(Nat.le_of_ble_eq_true rfl), rfl⟩) ?_
  intro p9 l9 e9 s9 m9 g9 b9 h9 c9 D9 A9 ct a C
  have C : Cx p9 s9 m9 g9 h9 c9 cX0_sharesOf 2 RX0 (some .int) D9 A9 ct a := C
  refine q_aload0 C dX0_sharesOf_0 ?_
  refine g_X0_16 C dX0_sharesOf_1 ?_
  refine q_iload1 C dX0_sharesOf_4 ?_
  refine q_ialdX (j := (u1).toNatClampNeg) C rfl rfl (by first | assumption | (simp only [gI_sI, gI_sJ, gI_ite]; simp; assumption) | (simp [gI_sI, gI_sJ, gI_ite]; assumption)) dX0_sharesOf_5 ?_
  exact q_iret C (by first | (rw [f_X0_sharesOf]; done) | rfl) rfl dX0_sharesOf_6
def f_X0_setParts (M : Mm) (u1 : Int32) (u2 : Int32) (u3 : Int32) (u4 : Int32) : Mm := (sI (sI (sI (sI M (12 + (u1).toNatClampNeg) 0 u2) (12 + (u1).toNatClampNeg) 1 u3) (12 + (u1).toNatClampNeg) 2 u4) (12 + (u1).toNatClampNeg) 3 ((((1000 : Int32) - u2) - u3) - u4))
set_option maxHeartbeats 4000000 in
set_option maxRecDepth 100000 in
theorem c_X0_setParts (M : Mm) (u1 : Int32) (u2 : Int32) (u3 : Int32) (u4 : Int32) (h1 : vp_in u1 4) : MV yX0_setParts cX0_setParts 5 none 0 0 (fun a => [.ref (a 2), .int u1, .int u2, .int u3, .int u4]) M (f_X0_setParts M u1 u2 u3 u4) := by
  refine MV.intro (lv0 := fun a => [some (.ref (a 2)), some (.int u1), some (.int u2), some (.int u3), some (.int u4)]) (by decide) (fun a => ⟨(Nat.le_of_ble_eq_true rfl), rfl⟩) ?_
  intro p9 l9 e9 s9 m9 g9 b9 h9 c9 D9 A9 ct a C
  have C : Cx p9 s9 m9 g9 h9 c9 cX0_setParts 5 RX0 none D9 A9 ct a := C
  refine q_aload0 C dX0_setParts_0 ?_
  refine g_X0_11 C dX0_setParts_1 ?_
  refine q_iload1 C dX0_setParts_4 ?_
  refine q_aaldX (j := (u1).toNatClampNeg) C rfl rfl (by first | assumption | (simp only [gI_sI, gI_sJ, gI_ite]; simp; assumption) | (simp [gI_sI, gI_sJ, gI_ite]; assumption)) dX0_setParts_5 ?_
  refine q_iconst (v := 0) C dX0_setParts_6 (by decide) ?_
  refine q_iload2 C dX0_setParts_7 ?_
  refine q_iastX (j := 0) C (sh_12 (by first | omega | exact vin_lt (by assumption))) (by decide) (by unfold vp_in; decide) dX0_setParts_8 ?_
  refine q_aload0 C dX0_setParts_9 ?_
  refine g_X0_11 C dX0_setParts_10 ?_
  refine q_iload1 C dX0_setParts_13 ?_
  refine q_aaldX (j := (u1).toNatClampNeg) C rfl rfl (by first | assumption | (simp only [gI_sI, gI_sJ, gI_ite]; simp; assumption) | (simp [gI_sI, gI_sJ, gI_ite]; assumption)) dX0_setParts_14 ?_
  refine q_iconst (v := 1) C dX0_setParts_15 (by decide) ?_
  refine q_iload3 C dX0_setParts_16 ?_
  refine q_iastX (j := 1) C (sh_12 (by first | omega | exact vin_lt (by assumption))) (by decide) (by unfold vp_in; decide) dX0_setParts_17 ?_
  refine q_aload0 C dX0_setParts_18 ?_
  refine g_X0_11 C dX0_setParts_19 ?_
  refine q_iload1 C dX0_setParts_22 ?_
  refine q_aaldX (j := (u1).toNatClampNeg) C rfl rfl (by first | assumption | (simp only [gI_sI, gI_sJ, gI_ite]; simp; assumption) | (simp [gI_sI, gI_sJ, gI_ite]; assumption)) dX0_setParts_23 ?_
  refine q_iconst (v := 2) C dX0_setParts_24 (by decide) ?_
  refine q_iload4 C dX0_setParts_25 ?_
  refine q_iastX (j := 2) C (sh_12 (by first | omega | exact vin_lt (by assumption))) (by decide) (by unfold vp_in; decide) dX0_setParts_27 ?_
  refine q_aload0 C dX0_setParts_28 ?_
  refine g_X0_11 C dX0_setParts_29 ?_
  refine q_iload1 C dX0_setParts_32 ?_
  refine q_aaldX (j := (u1).toNatClampNeg) C rfl rfl (by first | assumption | (simp only [gI_sI, gI_sJ, gI_ite]; simp; assumption) | (simp [gI_sI, gI_sJ, gI_ite]; assumption)) dX0_setParts_33 ?_
  refine q_iconst (v := 3) C dX0_setParts_34 (by decide) ?_
  refine q_sipush (v := 1000) C dX0_setParts_35 (by decide) ?_
  refine q_iload2 C dX0_setParts_38 ?_
  refine q_isub C dX0_setParts_39 ?_
  refine q_iload3 C dX0_setParts_40 ?_
  refine q_isub C dX0_setParts_41 ?_
  refine q_iload4 C dX0_setParts_42 ?_
  refine q_isub C dX0_setParts_44 ?_
  refine q_iastX (j := 3) C (sh_12 (by first | omega | exact vin_lt (by assumption))) (by decide) (by unfold vp_in; decide) dX0_setParts_45 ?_
  exact q_vret C (by first | (rw [f_X0_setParts]; done) | rfl) dX0_setParts_46
def f_X0_setShares (M : Mm) (u1 : Int32) (u2 : Int32) (u3 : Int32) : Mm := (sI (sI (sI (sI M 16 0 u1) 16 1 u2) 16 2 u3) 16 3 ((((1000 : Int32) - u1) - u2) - u3))
set_option maxHeartbeats 4000000 in
set_option maxRecDepth 100000 in
theorem c_X0_setShares (M : Mm) (u1 : Int32) (u2 : Int32) (u3 : Int32)  : MV yX0_setShares cX0_setShares 4 none 0 0 (fun a => [.ref (a 2), .int u1, .int u2, .int u3]) M (f_X0_setShares M u1 u2 u3) := by
  refine MV.intro (lv0 := fun a => [some (.ref (a 2)), some (.int u1), some (.int u2), some (.int u3)]) (by decide) (fun a => ⟨(Nat.le_of_ble_eq_true rfl), rfl⟩) ?_
  intro p9 l9 e9 s9 m9 g9 b9 h9 c9 D9 A9 ct a C
  have C : Cx p9 s9 m9 g9 h9 c9 cX0_setShares 4 RX0 none D9 A9 ct a := C
  refine q_aload0 C dX0_setShares_0 ?_
  refine g_X0_16 C dX0_setShares_1 ?_
  refine q_iconst (v := 0) C dX0_setShares_4 (by decide) ?_
  refine q_iload1 C dX0_setShares_5 ?_
  refine q_iastX (j := 0) C rfl (by decide) (by unfold vp_in; decide) dX0_setShares_6 ?_
  refine q_aload0 C dX0_setShares_7 ?_
  refine g_X0_16 C dX0_setShares_8 ?_
  refine q_iconst (v := 1) C dX0_setShares_11 (by decide) ?_
  refine q_iload2 C dX0_setShares_12 ?_
  refine q_iastX (j := 1) C rfl (by decide) (by unfold vp_in; decide) dX0_setShares_13 ?_
  refine q_aload0 C dX0_setShares_14 ?_
  refine g_X0_16 C dX0_setShares_15 ?_
  refine q_iconst (v := 2) C dX0_setShares_18 (by decide) ?_
  refine q_iload3 C dX0_setShares_19 ?_
  refine q_iastX (j := 2) C rfl (by decide) (by unfold vp_in; decide) dX0_setShares_20 ?_
  refine q_aload0 C dX0_setShares_21 ?_
  refine g_X0_16 C dX0_setShares_22 ?_
  refine q_iconst (v := 3) C dX0_setShares_25 (by decide) ?_
  refine q_sipush (v := 1000) C dX0_setShares_26 (by decide) ?_
  refine q_iload1 C dX0_setShares_29 ?_
  refine q_isub C dX0_setShares_30 ?_
  refine q_iload2 C dX0_setShares_31 ?_
  refine q_isub C dX0_setShares_32 ?_
  refine q_iload3 C dX0_setShares_33 ?_
  refine q_isub C dX0_setShares_34 ?_
  refine q_iastX (j := 3) C rfl (by decide) (by unfold vp_in; decide) dX0_setShares_35 ?_
  exact q_vret C (by first | (rw [f_X0_setShares]; done) | rfl) dX0_setShares_36
def f_X0_setAim (M : Mm) (u1 : Int32) (u2 : Int32) : Mm := (sI (sI M 2 8 u1) 2 9 u2)
set_option maxHeartbeats 4000000 in
set_option maxRecDepth 100000 in
theorem c_X0_setAim (M : Mm) (u1 : Int32) (u2 : Int32)  : MV yX0_setAim cX0_setAim 3 none 0 0 (fun a => [.ref (a 2), .int u1, .int u2]) M (f_X0_setAim M u1 u2) := by
  refine MV.intro (lv0 := fun a => [some (.ref (a 2)), some (.int u1), some (.int u2)]) (by decide) (fun a => ⟨(Nat.le_of_ble_eq_true rfl), rfl⟩) ?_
  intro p9 l9 e9 s9 m9 g9 b9 h9 c9 D9 A9 ct a C
  have C : Cx p9 s9 m9 g9 h9 c9 cX0_setAim 3 RX0 none D9 A9 ct a := C
  refine q_aload0 C dX0_setAim_0 ?_
  refine q_iload1 C dX0_setAim_1 ?_
  refine p_X0_39 C  dX0_setAim_2 ?_
  refine q_aload0 C dX0_setAim_5 ?_
  refine q_iload2 C dX0_setAim_6 ?_
  refine p_X0_42 C  dX0_setAim_7 ?_
  exact q_vret C (by first | (rw [f_X0_setAim]; done) | rfl) dX0_setAim_10
def f_X0_setRule (M : Mm) (u1 : Int32) (u2 : Int32) : Mm := (sI (sI M 2 10 u1) 2 11 u2)
set_option maxHeartbeats 4000000 in
set_option maxRecDepth 100000 in
theorem c_X0_setRule (M : Mm) (u1 : Int32) (u2 : Int32)  : MV yX0_setRule cX0_setRule 3 none 0 0 (fun a => [.ref (a 2), .int u1, .int u2]) M (f_X0_setRule M u1 u2) := by
  refine MV.intro (lv0 := fun a => [some (.ref (a 2)), some (.int u1), some (.int u2)]) (by decide) (fun a => ⟨(Nat.le_of_ble_eq_true rfl), rfl⟩) ?_
  intro p9 l9 e9 s9 m9 g9 b9 h9 c9 D9 A9 ct a C
  have C : Cx p9 s9 m9 g9 h9 c9 cX0_setRule 3 RX0 none D9 A9 ct a := C
  refine q_aload0 C dX0_setRule_0 ?_
  refine q_iload1 C dX0_setRule_1 ?_
  refine p_X0_45 C  dX0_setRule_2 ?_
  refine q_aload0 C dX0_setRule_5 ?_
  refine q_iload2 C dX0_setRule_6 ?_
  refine p_X0_48 C  dX0_setRule_7 ?_
  exact q_vret C (by first | (rw [f_X0_setRule]; done) | rfl) dX0_setRule_10
def b_X0_part_1 (M : Mm) (u1 : Int32) (i1 : Nat) (z1 : Int32) : Int32 := (z1 + ((gI M 16 i1) * (gI M (12 + i1) (u1).toNatClampNeg)))
def f_X0_part (M : Mm) (u1 : Int32) : Int32 := (itr (b_X0_part_1 M u1) 4 (0 : Int32))
set_option maxHeartbeats 4000000 in
set_option maxRecDepth 100000 in
theorem c_X0_part (M : Mm) (u1 : Int32) (h1 : vp_in u1 4) : MI yX0_part cX0_part 4 (some .int) 0 0 (fun a => [.ref (a 2), .int u1]) M (f_X0_part M u1) M := by
  refine MI.intro (lv0 := fun a => [some (.ref (a 2)), some (.int u1), none, none]) (by decide) (fun a => ⟨(Nat.le_of_ble_eq_true rfl), rfl⟩) ?_
  intro p9 l9 e9 s9 m9 g9 b9 h9 c9 D9 A9 ct a C
  have C : Cx p9 s9 m9 g9 h9 c9 cX0_part 4 RX0 (some .int) D9 A9 ct a := C
  refine q_iconst (v := 0) C dX0_part_0 (by decide) ?_
  refine q_istore2 C dX0_part_1 (by decide) (by intro w h0 h; first | exact absurd rfl h0 | (cases h <;> rfl)) ?_
  refine q_iconst (v := 0) C dX0_part_2 (by decide) ?_
  refine q_istore3 C dX0_part_3 (by decide) (by intro w h0 h; first | exact absurd rfl h0 | (cases h <;> rfl)) ?_
  refine q_loop 4 (b_X0_part_1 M u1) (fun zz => M) (fun xx zz => [some (.ref (a 2)), some (.int u1), some (.int zz), some (.int xx)]) (0 : Int32)  (fun i1 z1 hi1 ih1 => ?_) ?_
  · refine q_iload3 C dX0_part_4 ?_
    refine q_iconst (v := 4) C dX0_part_5 (by decide) ?_
    refine q_icmp_ge (tgt := 33) C dX0_part_6 (by decide) (fun c1 => absurd c1 (nI_ge (b := 4) (by omega) (by omega))) (fun c1 => ?_)
    refine q_iload2 C dX0_part_9 ?_
    refine q_aload0 C dX0_part_10 ?_
    refine g_X0_16 C dX0_part_11 ?_
    refine q_iload3 C dX0_part_14 ?_
    refine q_ialdX (j := i1) C rfl (nI_clamp (by omega)) (vp_in_nI (by omega) (by first | decide | omega)) dX0_part_15 ?_
    refine q_aload0 C dX0_part_16 ?_
    refine g_X0_11 C dX0_part_17 ?_
    refine q_iload3 C dX0_part_20 ?_
    refine q_aaldX (j := i1) C rfl (nI_clamp (by omega)) (vp_in_nI (by omega) (by first | decide | omega)) dX0_part_21 ?_
    refine q_iload1 C dX0_part_22 ?_
    refine q_ialdX (j := (u1).toNatClampNeg) C (sh_12 (by first | omega | exact vin_lt (by assumption))) rfl (by first | assumption | (simp only [gI_sI, gI_sJ, gI_ite]; simp; assumption) | (simp [gI_sI, gI_sJ, gI_ite]; assumption)) dX0_part_23 ?_
    refine q_imul C dX0_part_24 ?_
    refine q_iadd C dX0_part_25 ?_
    refine q_istore2 C dX0_part_26 (by decide) (by intro w h0 h; first | exact absurd rfl h0 | (cases h <;> rfl)) ?_
    refine q_iinc3 (dv := 1) C dX0_part_27 (by decide) (by decide) (by intro w h0 h; first | exact absurd rfl h0 | (cases h <;> rfl)) ?_
    refine q_goto (tgt := 4) C dX0_part_30 (by decide) ?_
    exact ih1
  refine q_iload3 C dX0_part_4 ?_
  refine q_iconst (v := 4) C dX0_part_5 (by decide) ?_
  refine q_icmp_ge (tgt := 33) C dX0_part_6 (by decide) (fun c2 => ?_) (fun c2 => absurd (Int32.le_refl _) c2)
  refine q_iload2 C dX0_part_33 ?_
  exact q_iret C (by first | (rw [f_X0_part]; done) | rfl) rfl dX0_part_34
def f_X0_numberUpper (M : Mm)  : Int32 := ((10 : Int32) * (f_X0_part M (0 : Int32)))
set_option maxHeartbeats 4000000 in
set_option maxRecDepth 100000 in
theorem c_X0_numberUpper (M : Mm)   : MI yX0_numberUpper cX0_numberUpper 1 (some .int) 1 23 (fun a => [.ref (a 2)]) M (f_X0_numberUpper M) M := by
  refine MI.intro (lv0 := fun a => [some (.ref (a 2))]) (by decide) (fun a => ⟨(Nat.le_of_ble_eq_true rfl), rfl⟩) ?_
  intro p9 l9 e9 s9 m9 g9 b9 h9 c9 D9 A9 ct a C
  have C : Cx p9 s9 m9 g9 h9 c9 cX0_numberUpper 1 RX0 (some .int) D9 A9 ct a := C
  refine q_bipush (v := 10) C dX0_numberUpper_0 (by decide) ?_
  refine q_aload0 C dX0_numberUpper_2 ?_
  refine q_iconst (v := 0) C dX0_numberUpper_3 (by decide) ?_
  refine qc_VI C (c_X0_part _ _ (by first | assumption | exact vp_in_nI (by omega) (by decide) | omega | (unfold vp_in; decide) | decide)) cw_X0_57 rfl rfl rfl rfl (Nat.le_of_ble_eq_true rfl) ⟨(Nat.le_of_ble_eq_true rfl), (Nat.le_of_ble_eq_true rfl)⟩ ⟨Nat.zero_le _, Nat.zero_le _⟩ dX0_numberUpper_4 ?_
  refine q_imul C dX0_numberUpper_7 ?_
  exact q_iret C (by first | (rw [f_X0_numberUpper]; done) | rfl) rfl dX0_numberUpper_8
def f_X0_numberLower (M : Mm)  : Int32 := ((((28 : Int32) * (f_X0_part M (1 : Int32))) + ((12 : Int32) * (f_X0_part M (2 : Int32)))) + ((7 : Int32) * (f_X0_part M (3 : Int32))))
set_option maxHeartbeats 4000000 in
set_option maxRecDepth 100000 in
theorem c_X0_numberLower (M : Mm)   : MI yX0_numberLower cX0_numberLower 1 (some .int) 1 23 (fun a => [.ref (a 2)]) M (f_X0_numberLower M) M := by
  refine MI.intro (lv0 := fun a => [some (.ref (a 2))]) (by decide) (fun a => ⟨(Nat.le_of_ble_eq_true rfl), rfl⟩) ?_
  intro p9 l9 e9 s9 m9 g9 b9 h9 c9 D9 A9 ct a C
  have C : Cx p9 s9 m9 g9 h9 c9 cX0_numberLower 1 RX0 (some .int) D9 A9 ct a := C
  refine q_bipush (v := 28) C dX0_numberLower_0 (by decide) ?_
  refine q_aload0 C dX0_numberLower_2 ?_
  refine q_iconst (v := 1) C dX0_numberLower_3 (by decide) ?_
  refine qc_VI C (c_X0_part _ _ (by first | assumption | exact vp_in_nI (by omega) (by decide) | omega | (unfold vp_in; decide) | decide)) cw_X0_57 rfl rfl rfl rfl (Nat.le_of_ble_eq_true rfl) ⟨(Nat.le_of_ble_eq_true rfl), (Nat.le_of_ble_eq_true rfl)⟩ ⟨Nat.zero_le _, Nat.zero_le _⟩ dX0_numberLower_4 ?_
  refine q_imul C dX0_numberLower_7 ?_
  refine q_bipush (v := 12) C dX0_numberLower_8 (by decide) ?_
  refine q_aload0 C dX0_numberLower_10 ?_
  refine q_iconst (v := 2) C dX0_numberLower_11 (by decide) ?_
  refine qc_VI C (c_X0_part _ _ (by first | assumption | exact vp_in_nI (by omega) (by decide) | omega | (unfold vp_in; decide) | decide)) cw_X0_57 rfl rfl rfl rfl (Nat.le_of_ble_eq_true rfl) ⟨(Nat.le_of_ble_eq_true rfl), (Nat.le_of_ble_eq_true rfl)⟩ ⟨Nat.zero_le _, Nat.zero_le _⟩ dX0_numberLower_12 ?_
  refine q_imul C dX0_numberLower_15 ?_
  refine q_iadd C dX0_numberLower_16 ?_
  refine q_bipush (v := 7) C dX0_numberLower_17 (by decide) ?_
  refine q_aload0 C dX0_numberLower_19 ?_
  refine q_iconst (v := 3) C dX0_numberLower_20 (by decide) ?_
  refine qc_VI C (c_X0_part _ _ (by first | assumption | exact vp_in_nI (by omega) (by decide) | omega | (unfold vp_in; decide) | decide)) cw_X0_57 rfl rfl rfl rfl (Nat.le_of_ble_eq_true rfl) ⟨(Nat.le_of_ble_eq_true rfl), (Nat.le_of_ble_eq_true rfl)⟩ ⟨Nat.zero_le _, Nat.zero_le _⟩ dX0_numberLower_21 ?_
  refine q_imul C dX0_numberLower_24 ?_
  refine q_iadd C dX0_numberLower_25 ?_
  exact q_iret C (by first | (rw [f_X0_numberLower]; done) | rfl) rfl dX0_numberLower_26
def m_X0_takeSample_1 (M : Mm) (u1 : Int32) : Mm := (sI (sI M 17 ((gI M 2 5)).toNatClampNeg (if u1 = 0 then ((gI M 2 5) + (gI M 2 10)) else (-1 : Int32))) 18 ((gI (sI M 17 ((gI M 2 5)).toNatClampNeg (if u1 = 0 then ((gI M 2 5) + (gI M 2 10)) else (-1 : Int32))) 2 5)).toNatClampNeg (f_X0_numberUpper (sI M 17 ((gI M 2 5)).toNatClampNeg (if u1 = 0 then ((gI M 2 5) + (gI M 2 10)) else (-1 : Int32)))))
def f_X0_takeSample (M : Mm) (u1 : Int32) : Mm := (sI (m_X0_takeSample_1 M u1) 19 ((gI (m_X0_takeSample_1 M u1) 2 5)).toNatClampNeg (f_X0_numberLower (m_X0_takeSample_1 M u1)))
set_option maxHeartbeats 4000000 in
set_option maxRecDepth 100000 in
theorem c_X0_takeSample (M : Mm) (u1 : Int32) (hs : vp_in (gI M 2 5) 200) : MV yX0_takeSample cX0_takeSample 2 none 2 43 (fun a => [.ref (a 2), .int u1]) M (f_X0_takeSample M u1) := by
  refine MV.intro (lv0 := fun a => [some (.ref (a 2)), some (.int u1)]) (by decide) (fun a => ⟨(Nat.le_of_ble_eq_true rfl), rfl⟩) ?_
  intro p9 l9 e9 s9 m9 g9 b9 h9 c9 D9 A9 ct a C
  have C : Cx p9 s9 m9 g9 h9 c9 cX0_takeSample 2 RX0 none D9 A9 ct a := C
  refine q_aload0 C dX0_takeSample_0 ?_
  refine g_X0_20 C dX0_takeSample_1 ?_
  refine q_aload0 C dX0_takeSample_4 ?_
  refine g_X0_29 C dX0_takeSample_5 ?_
  refine q_iload1 C dX0_takeSample_8 ?_
  refine q_cut M 25 [some (.ref (a 2)), none] [.int (if u1 = 0 then ((gI M 2 5) + (gI M 2 10)) else (-1 : Int32)), .int (gI M 2 5), .ref (a 17)] (fun hJ => ?_) ?_
  · refine q_if_eq (tgt := 16) C dX0_takeSample_9 (by decide) (fun c1 => ?_) (fun c1 => ?_)
    · refine q_aload0 C dX0_takeSample_16 ?_
      refine g_X0_29 C dX0_takeSample_17 ?_
      refine q_aload0 C dX0_takeSample_20 ?_
      refine g_X0_45 C dX0_takeSample_21 ?_
      refine q_iadd C dX0_takeSample_24 ?_
      refine q_drop [some (.ref (a 2)), none] (by repeat' (first | exact trivial | rfl | constructor)) ?_
      (try simp only [if_pos c1] at hJ); exact hJ
    · refine q_iconst (v := -1) C dX0_takeSample_12 (by decide) ?_
      refine q_goto (tgt := 25) C dX0_takeSample_13 (by decide) ?_
      refine q_drop [some (.ref (a 2)), none] (by repeat' (first | exact trivial | rfl | constructor)) ?_
      (try simp only [if_neg c1] at hJ); exact hJ
  refine q_iastX (j := ((gI M 2 5)).toNatClampNeg) C rfl rfl (by first | assumption | (simp only [gI_sI, gI_sJ, gI_ite]; simp; assumption) | (simp [gI_sI, gI_sJ, gI_ite]; assumption)) dX0_takeSample_25 ?_
  refine q_aload0 C dX0_takeSample_26 ?_
  refine g_X0_23 C dX0_takeSample_27 ?_
  refine q_aload0 C dX0_takeSample_30 ?_
  refine g_X0_29 C dX0_takeSample_31 ?_
  refine q_aload0 C dX0_takeSample_34 ?_
  refine qc_VI C (c_X0_numberUpper _ ) cw_X0_72 rfl rfl rfl rfl (Nat.le_of_ble_eq_true rfl) ⟨(Nat.le_of_ble_eq_true rfl), (Nat.le_of_ble_eq_true rfl)⟩ ⟨Nat.zero_le _, Nat.zero_le _⟩ dX0_takeSample_35 ?_
  refine q_iastX (j := ((gI (sI M 17 ((gI M 2 5)).toNatClampNeg (if u1 = 0 then ((gI M 2 5) + (gI M 2 10)) else (-1 : Int32))) 2 5)).toNatClampNeg) C rfl rfl (by first | assumption | (simp only [gI_sI, gI_sJ, gI_ite]; simp; assumption) | (simp [gI_sI, gI_sJ, gI_ite]; assumption)) dX0_takeSample_38 ?_
  refine q_cut (m_X0_takeSample_1 M u1) 39 [some (.ref (a 2)), none] [] (fun hJ => hJ) ?_
  refine q_aload0 C dX0_takeSample_39 ?_
  refine g_X0_26 C dX0_takeSample_40 ?_
  refine q_aload0 C dX0_takeSample_43 ?_
  refine g_X0_29 C dX0_takeSample_44 ?_
  refine q_aload0 C dX0_takeSample_47 ?_
  refine qc_VI C (c_X0_numberLower _ ) cw_X0_75 rfl rfl rfl rfl (Nat.le_of_ble_eq_true rfl) ⟨(Nat.le_of_ble_eq_true rfl), (Nat.le_of_ble_eq_true rfl)⟩ ⟨Nat.zero_le _, Nat.zero_le _⟩ dX0_takeSample_48 ?_
  refine q_iastX (j := ((gI (m_X0_takeSample_1 M u1) 2 5)).toNatClampNeg) C rfl rfl (by first | assumption | (simp only [m_X0_takeSample_1, gI_sI, gI_sJ, gI_ite]; simp; assumption) | (simp [m_X0_takeSample_1, gI_sI, gI_sJ, gI_ite]; assumption)) dX0_takeSample_51 ?_
  exact q_vret C (by first | (rw [f_X0_takeSample]; done) | rfl) dX0_takeSample_52
def m_X0_shift_1 (M : Mm) (u1 : Int32) : Mm := (sI M 16 (u1).toNatClampNeg ((gI M 16 (u1).toNatClampNeg) - (if (gI M 16 (u1).toNatClampNeg) < (gI M 2 11) then (gI M 16 (u1).toNatClampNeg) else (gI M 2 11))))
def m_X0_shift_2 (M : Mm) (u1 : Int32) (u2 : Int32) : Mm := (sI (m_X0_shift_1 M u1) 16 (u2).toNatClampNeg ((gI (m_X0_shift_1 M u1) 16 (u2).toNatClampNeg) + (if (gI M 16 (u1).toNatClampNeg) < (gI M 2 11) then (gI M 16 (u1).toNatClampNeg) else (gI M 2 11))))
def f_X0_shift (M : Mm) (u1 : Int32) (u2 : Int32) : Int32 × Mm := ((if (if (gI M 16 (u1).toNatClampNeg) < (gI M 2 11) then (gI M 16 (u1).toNatClampNeg) else (gI M 2 11)) ≤ 0 then (0 : Int32) else (1 : Int32)), (m_X0_shift_2 M u1 u2))
set_option maxHeartbeats 4000000 in
set_option maxRecDepth 100000 in
theorem c_X0_shift (M : Mm) (u1 : Int32) (u2 : Int32) (h1 : vp_in u1 4) (h2 : vp_in u2 4) : MI yX0_shift cX0_shift 4 (some .boolean) 1 23 (fun a => [.ref (a 2), .int u1, .int u2]) M (f_X0_shift M u1 u2).1 (f_X0_shift M u1 u2).2 := by
  refine MI.intro (lv0 := fun a => [some (.ref (a 2)), some (.int u1), some (.int u2), none]) (by decide) (fun a => ⟨(Nat.le_of_ble_eq_true rfl), rfl⟩) ?_
  intro p9 l9 e9 s9 m9 g9 b9 h9 c9 D9 A9 ct a C
  have C : Cx p9 s9 m9 g9 h9 c9 cX0_shift 4 RX0 (some .boolean) D9 A9 ct a := C
  refine q_aload0 C dX0_shift_0 ?_
  refine g_X0_48 C dX0_shift_1 ?_
  refine q_aload0 C dX0_shift_4 ?_
  refine g_X0_16 C dX0_shift_5 ?_
  refine q_iload1 C dX0_shift_8 ?_
  refine q_ialdX (j := (u1).toNatClampNeg) C rfl rfl (by first | assumption | (simp only [gI_sI, gI_sJ, gI_ite]; simp; assumption) | (simp [gI_sI, gI_sJ, gI_ite]; assumption)) dX0_shift_9 ?_
  refine qc_mmin C wm_X0_82 ws_min.1 ws_min.2.1 ws_min.2.2 ⟨(Nat.le_of_ble_eq_true rfl), (Nat.le_of_ble_eq_true rfl)⟩ ⟨Nat.zero_le _, Nat.zero_le _⟩ dX0_shift_10 ?_
  refine q_istore3 C dX0_shift_13 (by decide) (by intro w h0 h; first | exact absurd rfl h0 | (cases h <;> rfl)) ?_
  refine q_aload0 C dX0_shift_14 ?_
  refine g_X0_16 C dX0_shift_15 ?_
  refine q_iload1 C dX0_shift_18 ?_
  refine q_dup2 C dX0_shift_19 rfl rfl ?_
  refine q_ialdX (j := (u1).toNatClampNeg) C rfl rfl (by first | assumption | (simp only [gI_sI, gI_sJ, gI_ite]; simp; assumption) | (simp [gI_sI, gI_sJ, gI_ite]; assumption)) dX0_shift_20 ?_
  refine q_iload3 C dX0_shift_21 ?_
  refine q_isub C dX0_shift_22 ?_
  refine q_iastX (j := (u1).toNatClampNeg) C rfl rfl (by first | assumption | (simp only [gI_sI, gI_sJ, gI_ite]; simp; assumption) | (simp [gI_sI, gI_sJ, gI_ite]; assumption)) dX0_shift_23 ?_
  refine q_cut (m_X0_shift_1 M u1) 24 [some (.ref (a 2)), some (.int u1), some (.int u2), some (.int (if (gI M 16 (u1).toNatClampNeg) < (gI M 2 11) then (gI M 16 (u1).toNatClampNeg) else (gI M 2 11)))] [] (fun hJ => hJ) ?_
  refine q_aload0 C dX0_shift_24 ?_
  refine g_X0_16 C dX0_shift_25 ?_
  refine q_iload2 C dX0_shift_28 ?_
  refine q_dup2 C dX0_shift_29 rfl rfl ?_
  refine q_ialdX (j := (u2).toNatClampNeg) C rfl rfl (by first | assumption | (simp only [m_X0_shift_1, gI_sI, gI_sJ, gI_ite]; simp; assumption) | (simp [m_X0_shift_1, gI_sI, gI_sJ, gI_ite]; assumption)) dX0_shift_30 ?_
  refine q_iload3 C dX0_shift_31 ?_
  refine q_iadd C dX0_shift_32 ?_
  refine q_iastX (j := (u2).toNatClampNeg) C rfl rfl (by first | assumption | (simp only [m_X0_shift_1, gI_sI, gI_sJ, gI_ite]; simp; assumption) | (simp [m_X0_shift_1, gI_sI, gI_sJ, gI_ite]; assumption)) dX0_shift_33 ?_
  refine q_cut (m_X0_shift_2 M u1 u2) 34 [some (.ref (a 2)), some (.int u1), some (.int u2), some (.int (if (gI M 16 (u1).toNatClampNeg) < (gI M 2 11) then (gI M 16 (u1).toNatClampNeg) else (gI M 2 11)))] [] (fun hJ => hJ) ?_
  refine q_iload3 C dX0_shift_34 ?_
  refine q_cut (m_X0_shift_2 M u1 u2) 43 [none, none, none, none] [.int (if (if (gI M 16 (u1).toNatClampNeg) < (gI M 2 11) then (gI M 16 (u1).toNatClampNeg) else (gI M 2 11)) ≤ 0 then (0 : Int32) else (1 : Int32))] (fun hJ => ?_) ?_
  · refine q_if_le (tgt := 42) C dX0_shift_35 (by decide) (fun c1 => ?_) (fun c1 => ?_)
    · refine q_iconst (v := 0) C dX0_shift_42 (by decide) ?_
      refine q_drop [none, none, none, none] (by repeat' (first | exact trivial | rfl | constructor)) ?_
      (try simp only [if_pos c1] at hJ); exact hJ
    · refine q_iconst (v := 1) C dX0_shift_38 (by decide) ?_
      refine q_goto (tgt := 43) C dX0_shift_39 (by decide) ?_
      refine q_drop [none, none, none, none] (by repeat' (first | exact trivial | rfl | constructor)) ?_
      (try simp only [if_neg c1] at hJ); exact hJ
  exact q_zret C (by repeat' first | exact bz_0 | exact bz_1 | assumption | apply bz_if) (by first | (rw [f_X0_shift]; done) | rfl) (by first | (rw [f_X0_shift]; done) | rfl) dX0_shift_43
def f_X0_correct (M : Mm) (u1 : Int32) : Int32 × Mm := (if (gI M 19 (u1).toNatClampNeg) = 0 then ((1 : Int32), M) else (if 0 ≤ (lg_cmp (((gI M 18 (u1).toNatClampNeg)).toInt64 * ((gI M 2 9)).toInt64) (((gI M 19 (u1).toNatClampNeg)).toInt64 * ((gI M 2 8)).toInt64)) then (if (lg_cmp (((gI M 18 (u1).toNatClampNeg)).toInt64 * ((gI M 2 9)).toInt64) (((gI M 19 (u1).toNatClampNeg)).toInt64 * ((gI M 2 8)).toInt64)) ≤ 0 then ((1 : Int32), M) else ((if (f_X0_shift M (0 : Int32) (1 : Int32)).1 = 0 then (1 : Int32) else (3 : Int32)), (f_X0_shift M (0 : Int32) (1 : Int32)).2)) else ((if (f_X0_shift M (1 : Int32) (0 : Int32)).1 = 0 then (1 : Int32) else (2 : Int32)), (f_X0_shift M (1 : Int32) (0 : Int32)).2)))
set_option maxHeartbeats 4000000 in
set_option maxRecDepth 100000 in
theorem c_X0_correct (M : Mm) (u1 : Int32) (h1 : vp_in u1 200) : MI yX0_correct cX0_correct 6 (some .int) 2 46 (fun a => [.ref (a 2), .int u1]) M (f_X0_correct M u1).1 (f_X0_correct M u1).2 := by
  refine MI.intro (lv0 := fun a => [some (.ref (a 2)), some (.int u1), none, none, none, none]) (by decide) (fun a => ⟨(Nat.le_of_ble_eq_true rfl), rfl⟩) ?_
  intro p9 l9 e9 s9 m9 g9 b9 h9 c9 D9 A9 ct a C
  have C : Cx p9 s9 m9 g9 h9 c9 cX0_correct 6 RX0 (some .int) D9 A9 ct a := C
  refine q_aload0 C dX0_correct_0 ?_
  refine g_X0_26 C dX0_correct_1 ?_
  refine q_iload1 C dX0_correct_4 ?_
  refine q_ialdX (j := (u1).toNatClampNeg) C rfl rfl (by first | assumption | (simp only [gI_sI, gI_sJ, gI_ite]; simp; assumption) | (simp [gI_sI, gI_sJ, gI_ite]; assumption)) dX0_correct_5 ?_
  refine q_if_ne (tgt := 11) C dX0_correct_6 (by decide) (fun c1 => ?_) (fun c1 => ?_)
  · refine q_aload0 C dX0_correct_11 ?_
    refine g_X0_23 C dX0_correct_12 ?_
    refine q_iload1 C dX0_correct_15 ?_
    refine q_ialdX (j := (u1).toNatClampNeg) C rfl rfl (by first | assumption | (simp only [gI_sI, gI_sJ, gI_ite]; simp; assumption) | (simp [gI_sI, gI_sJ, gI_ite]; assumption)) dX0_correct_16 ?_
    refine q_i2l C dX0_correct_17 ?_
    refine q_aload0 C dX0_correct_18 ?_
    refine g_X0_42 C dX0_correct_19 ?_
    refine q_i2l C dX0_correct_22 ?_
    refine q_lmul C dX0_correct_23 ?_
    refine q_lstore2 C dX0_correct_24 (by decide) (by intro w h0 h; first | exact absurd rfl h0 | (cases h <;> rfl)) ?_
    refine q_aload0 C dX0_correct_25 ?_
    refine g_X0_26 C dX0_correct_26 ?_
    refine q_iload1 C dX0_correct_29 ?_
    refine q_ialdX (j := (u1).toNatClampNeg) C rfl rfl (by first | assumption | (simp only [gI_sI, gI_sJ, gI_ite]; simp; assumption) | (simp [gI_sI, gI_sJ, gI_ite]; assumption)) dX0_correct_30 ?_
    refine q_i2l C dX0_correct_31 ?_
    refine q_aload0 C dX0_correct_32 ?_
    refine g_X0_39 C dX0_correct_33 ?_
    refine q_i2l C dX0_correct_36 ?_
    refine q_lmul C dX0_correct_37 ?_
    refine q_lstore4 C dX0_correct_38 (by decide) (by intro w h0 h; first | exact absurd rfl h0 | (cases h <;> rfl)) ?_
    refine q_lload2 C dX0_correct_40 ?_
    refine q_lload4 C dX0_correct_41 ?_
    refine q_lcmp C dX0_correct_43 ?_
    refine q_if_ge (tgt := 62) C dX0_correct_44 (by decide) (fun c2 => ?_) (fun c2 => ?_)
    · refine q_lload2 C dX0_correct_62 ?_
      refine q_lload4 C dX0_correct_63 ?_
      refine q_lcmp C dX0_correct_65 ?_
      refine q_if_le (tgt := 84) C dX0_correct_66 (by decide) (fun c3 => ?_) (fun c3 => ?_)
      · refine q_iconst (v := 1) C dX0_correct_84 (by decide) ?_
        exact q_iret C (by first | rfl | (rw [f_X0_correct, if_neg c1, if_pos c2, if_pos c3]; done) | (rw [f_X0_correct, if_neg c1, if_pos c2, if_pos c3]; rfl) | (simp only [f_X0_correct, if_neg c1, if_pos c2, if_pos c3]; done)) (by first | rfl | (rw [f_X0_correct, if_neg c1, if_pos c2, if_pos c3]; done) | (rw [f_X0_correct, if_neg c1, if_pos c2, if_pos c3]; rfl) | (simp only [f_X0_correct, if_neg c1, if_pos c2, if_pos c3]; done)) dX0_correct_85
      · refine q_aload0 C dX0_correct_69 ?_
        refine q_iconst (v := 0) C dX0_correct_70 (by decide) ?_
        refine q_iconst (v := 1) C dX0_correct_71 (by decide) ?_
        refine qc_VI C (c_X0_shift _ _ _ (by first | assumption | exact vp_in_nI (by omega) (by decide) | omega | (unfold vp_in; decide) | decide) (by first | assumption | exact vp_in_nI (by omega) (by decide) | omega | (unfold vp_in; decide) | decide)) cw_X0_78 rfl rfl rfl rfl (Nat.le_of_ble_eq_true rfl) ⟨(Nat.le_of_ble_eq_true rfl), (Nat.le_of_ble_eq_true rfl)⟩ ⟨Nat.zero_le _, Nat.zero_le _⟩ dX0_correct_72 ?_
        refine q_cut (f_X0_shift M (0 : Int32) (1 : Int32)).2 83 [none, none, none, none, none, none] [.int (if (f_X0_shift M (0 : Int32) (1 : Int32)).1 = 0 then (1 : Int32) else (3 : Int32))] (fun hJ => ?_) ?_
        · refine q_if_eq (tgt := 82) C dX0_correct_75 (by decide) (fun c4 => ?_) (fun c4 => ?_)
          · refine q_iconst (v := 1) C dX0_correct_82 (by decide) ?_
            refine q_drop [none, none, none, none, none, none] (by repeat' (first | exact trivial | rfl | constructor)) ?_
            (try simp only [if_pos c4] at hJ); exact hJ
          · refine q_iconst (v := 3) C dX0_correct_78 (by decide) ?_
            refine q_goto (tgt := 83) C dX0_correct_79 (by decide) ?_
            refine q_drop [none, none, none, none, none, none] (by repeat' (first | exact trivial | rfl | constructor)) ?_
            (try simp only [if_neg c4] at hJ); exact hJ
        exact q_iret C (by first | rfl | (rw [f_X0_correct, if_neg c1, if_pos c2, if_neg c3]; done) | (rw [f_X0_correct, if_neg c1, if_pos c2, if_neg c3]; rfl) | (simp only [f_X0_correct, if_neg c1, if_pos c2, if_neg c3]; done)) (by first | rfl | (rw [f_X0_correct, if_neg c1, if_pos c2, if_neg c3]; done) | (rw [f_X0_correct, if_neg c1, if_pos c2, if_neg c3]; rfl) | (simp only [f_X0_correct, if_neg c1, if_pos c2, if_neg c3]; done)) dX0_correct_83
    · refine q_aload0 C dX0_correct_47 ?_
      refine q_iconst (v := 1) C dX0_correct_48 (by decide) ?_
      refine q_iconst (v := 0) C dX0_correct_49 (by decide) ?_
      refine qc_VI C (c_X0_shift _ _ _ (by first | assumption | exact vp_in_nI (by omega) (by decide) | omega | (unfold vp_in; decide) | decide) (by first | assumption | exact vp_in_nI (by omega) (by decide) | omega | (unfold vp_in; decide) | decide)) cw_X0_78 rfl rfl rfl rfl (Nat.le_of_ble_eq_true rfl) ⟨(Nat.le_of_ble_eq_true rfl), (Nat.le_of_ble_eq_true rfl)⟩ ⟨Nat.zero_le _, Nat.zero_le _⟩ dX0_correct_50 ?_
      refine q_cut (f_X0_shift M (1 : Int32) (0 : Int32)).2 61 [none, none, none, none, none, none] [.int (if (f_X0_shift M (1 : Int32) (0 : Int32)).1 = 0 then (1 : Int32) else (2 : Int32))] (fun hJ => ?_) ?_
      · refine q_if_eq (tgt := 60) C dX0_correct_53 (by decide) (fun c5 => ?_) (fun c5 => ?_)
        · refine q_iconst (v := 1) C dX0_correct_60 (by decide) ?_
          refine q_drop [none, none, none, none, none, none] (by repeat' (first | exact trivial | rfl | constructor)) ?_
          (try simp only [if_pos c5] at hJ); exact hJ
        · refine q_iconst (v := 2) C dX0_correct_56 (by decide) ?_
          refine q_goto (tgt := 61) C dX0_correct_57 (by decide) ?_
          refine q_drop [none, none, none, none, none, none] (by repeat' (first | exact trivial | rfl | constructor)) ?_
          (try simp only [if_neg c5] at hJ); exact hJ
      exact q_iret C (by first | rfl | (rw [f_X0_correct, if_neg c1, if_neg c2]; done) | (rw [f_X0_correct, if_neg c1, if_neg c2]; rfl) | (simp only [f_X0_correct, if_neg c1, if_neg c2]; done)) (by first | rfl | (rw [f_X0_correct, if_neg c1, if_neg c2]; done) | (rw [f_X0_correct, if_neg c1, if_neg c2]; rfl) | (simp only [f_X0_correct, if_neg c1, if_neg c2]; done)) dX0_correct_61
  · refine q_iconst (v := 1) C dX0_correct_9 (by decide) ?_
    exact q_iret C (by first | rfl | (rw [f_X0_correct, if_pos c1]; done) | (rw [f_X0_correct, if_pos c1]; rfl) | (simp only [f_X0_correct, if_pos c1]; done)) (by first | rfl | (rw [f_X0_correct, if_pos c1]; done) | (rw [f_X0_correct, if_pos c1]; rfl) | (simp only [f_X0_correct, if_pos c1]; done)) dX0_correct_10
def b_X0_foldInto_2 (M : Mm) (i1 : Nat) (i2 : Nat) (z2 : Int64) : Int64 := (f_X6_fold z2 ((gI M (12 + i1) i2)).toInt64)
def b_X0_foldInto_1 (M : Mm) (i1 : Nat) (z1 : Int64) : Int64 := (f_X6_fold (itr (b_X0_foldInto_2 M i1) 4 z1) ((gI M 16 i1)).toInt64)
def f_X0_foldInto (M : Mm) (u1 : Int64) : Int64 := (itr (b_X0_foldInto_1 M) 4 u1)
set_option maxHeartbeats 4000000 in
set_option maxRecDepth 100000 in
theorem c_X0_foldInto (M : Mm) (u1 : Int64)  : MJ yX0_foldInto cX0_foldInto 7 (some .long) 1 23 (fun a => [.ref (a 2), .long u1]) M (f_X0_foldInto M u1) M := by
  refine MJ.intro (lv0 := fun a => [some (.ref (a 2)), some (.long u1), none, none, none, none, none]) (by decide) (fun a => ⟨(Nat.le_of_ble_eq_true rfl), rfl⟩) ?_
  intro p9 l9 e9 s9 m9 g9 b9 h9 c9 D9 A9 ct a C
  have C : Cx p9 s9 m9 g9 h9 c9 cX0_foldInto 7 RX0 (some .long) D9 A9 ct a := C
  refine q_lload1 C dX0_foldInto_0 ?_
  refine q_lstore3 C dX0_foldInto_1 (by decide) (by intro w h0 h; first | exact absurd rfl h0 | (cases h <;> rfl)) ?_
  refine q_iconst (v := 0) C dX0_foldInto_2 (by decide) ?_
  refine q_istore5 C dX0_foldInto_3 (by decide) (by intro w h0 h; first | exact absurd rfl h0 | (cases h <;> rfl)) ?_
  refine q_drop [some (.ref (a 2)), none, none, some (.long u1), none, some (.int (0 : Int32)), none] (by repeat' (first | exact trivial | rfl | constructor)) ?_
  refine q_loop 4 (b_X0_foldInto_1 M) (fun zz => M) (fun xx zz => [some (.ref (a 2)), none, none, some (.long zz), none, some (.int xx), none]) u1  (fun i1 z1 hi1 ih1 => ?_) ?_
  · refine q_iload5 C dX0_foldInto_5 ?_
    refine q_iconst (v := 4) C dX0_foldInto_7 (by decide) ?_
    refine q_icmp_ge (tgt := 61) C dX0_foldInto_8 (by decide) (fun c1 => absurd c1 (nI_ge (b := 4) (by omega) (by omega))) (fun c1 => ?_)
    refine q_iconst (v := 0) C dX0_foldInto_11 (by decide) ?_
    refine q_istore6 C dX0_foldInto_12 (by decide) (by intro w h0 h; first | exact absurd rfl h0 | (cases h <;> rfl)) ?_
    refine q_loop 4 (b_X0_foldInto_2 M i1) (fun zz => M) (fun xx zz => [some (.ref (a 2)), none, none, some (.long zz), none, some (.int (nI i1)), some (.int xx)]) z1  (fun i2 z2 hi2 ih2 => ?_) ?_
    · refine q_iload6 C dX0_foldInto_14 ?_
      refine q_iconst (v := 4) C dX0_foldInto_16 (by decide) ?_
      refine q_icmp_ge (tgt := 42) C dX0_foldInto_17 (by decide) (fun c2 => absurd c2 (nI_ge (b := 4) (by omega) (by omega))) (fun c2 => ?_)
      refine q_lload3 C dX0_foldInto_20 ?_
      refine q_aload0 C dX0_foldInto_21 ?_
      refine g_X0_11 C dX0_foldInto_22 ?_
      refine q_iload5 C dX0_foldInto_25 ?_
      refine q_aaldX (j := i1) C rfl (nI_clamp (by omega)) (vp_in_nI (by omega) (by first | decide | omega)) dX0_foldInto_27 ?_
      refine q_iload6 C dX0_foldInto_28 ?_
      refine q_ialdX (j := i2) C (sh_12 (by first | omega | exact vin_lt (by assumption))) (nI_clamp (by omega)) (vp_in_nI (by omega) (by first | decide | omega)) dX0_foldInto_30 ?_
      refine q_i2l C dX0_foldInto_31 ?_
      refine qc_NJ C (c_X6_fold _ _ _) nl_X0 ws_fold.1 ws_fold.2.1 ws_fold.2.2 hdy_fold rfl rfl (Nat.le_of_ble_eq_true rfl) ⟨(Nat.le_of_ble_eq_true rfl), (Nat.le_of_ble_eq_true rfl)⟩ ⟨Nat.zero_le _, Nat.zero_le _⟩ dX0_foldInto_32 ?_
      refine q_lstore3 C dX0_foldInto_35 (by decide) (by intro w h0 h; first | exact absurd rfl h0 | (cases h <;> rfl)) ?_
      refine q_iinc6 (dv := 1) C dX0_foldInto_36 (by decide) (by decide) (by intro w h0 h; first | exact absurd rfl h0 | (cases h <;> rfl)) ?_
      refine q_goto (tgt := 14) C dX0_foldInto_39 (by decide) ?_
      exact ih2
    refine q_iload6 C dX0_foldInto_14 ?_
    refine q_iconst (v := 4) C dX0_foldInto_16 (by decide) ?_
    refine q_icmp_ge (tgt := 42) C dX0_foldInto_17 (by decide) (fun c3 => ?_) (fun c3 => absurd (Int32.le_refl _) c3)
    refine q_lload3 C dX0_foldInto_42 ?_
    refine q_aload0 C dX0_foldInto_43 ?_
    refine g_X0_16 C dX0_foldInto_44 ?_
    refine q_iload5 C dX0_foldInto_47 ?_
    refine q_ialdX (j := i1) C rfl (nI_clamp (by omega)) (vp_in_nI (by omega) (by first | decide | omega)) dX0_foldInto_49 ?_
    refine q_i2l C dX0_foldInto_50 ?_
    refine qc_NJ C (c_X6_fold _ _ _) nl_X0 ws_fold.1 ws_fold.2.1 ws_fold.2.2 hdy_fold rfl rfl (Nat.le_of_ble_eq_true rfl) ⟨(Nat.le_of_ble_eq_true rfl), (Nat.le_of_ble_eq_true rfl)⟩ ⟨Nat.zero_le _, Nat.zero_le _⟩ dX0_foldInto_51 ?_
    refine q_lstore3 C dX0_foldInto_54 (by decide) (by intro w h0 h; first | exact absurd rfl h0 | (cases h <;> rfl)) ?_
    refine q_iinc5 (dv := 1) C dX0_foldInto_55 (by decide) (by decide) (by intro w h0 h; first | exact absurd rfl h0 | (cases h <;> rfl)) ?_
    refine q_goto (tgt := 5) C dX0_foldInto_58 (by decide) ?_
    refine q_drop [some (.ref (a 2)), none, none, some (.long (f_X6_fold (itr (b_X0_foldInto_2 M i1) 4 z1) ((gI M 16 i1)).toInt64)), none, some (.int ((nI i1) + 1)), none] (by repeat' (first | exact trivial | rfl | constructor)) ?_
    exact ih1
  refine q_iload5 C dX0_foldInto_5 ?_
  refine q_iconst (v := 4) C dX0_foldInto_7 (by decide) ?_
  refine q_icmp_ge (tgt := 61) C dX0_foldInto_8 (by decide) (fun c4 => ?_) (fun c4 => absurd (Int32.le_refl _) c4)
  refine q_lload3 C dX0_foldInto_61 ?_
  exact q_lret C (by first | (rw [f_X0_foldInto]; done) | rfl) rfl dX0_foldInto_62
