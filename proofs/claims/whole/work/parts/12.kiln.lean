def f_X3_steps (M : Mm)  : Int32 := (gI M 3 6)
set_option maxHeartbeats 4000000 in
set_option maxRecDepth 100000 in
theorem c_X3_steps (M : Mm)   : MI yX3_steps cX3_steps 1 (some .int) 0 0 (fun a => [.ref (a 3)]) M (f_X3_steps M) M := by
  refine MI.intro (lv0 := fun a => [some (.ref (a 3))]) (by decide) (fun a => ⟨(Nat.le_of_ble_eq_true rfl), rfl⟩) ?_
  intro p9 l9 e9 s9 m9 g9 b9 h9 c9 D9 A9 ct a C
  have C : Cx p9 s9 m9 g9 h9 c9 cX3_steps 1 RX3 (some .int) D9 A9 ct a := C
  refine q_aload0 C dX3_steps_0 ?_
  refine g_X3_31 C dX3_steps_1 ?_
  exact q_iret C (by first | (rw [f_X3_steps]; done) | rfl) rfl dX3_steps_4
def f_X3_isStopped (M : Mm)  : Int32 := (gI M 3 8)
set_option maxHeartbeats 4000000 in
set_option maxRecDepth 100000 in
theorem c_X3_isStopped (M : Mm)  (hz : bz (gI M 3 8)) : MI yX3_isStopped cX3_isStopped 1 (some .boolean) 0 0 (fun a => [.ref (a 3)]) M (f_X3_isStopped M) M := by
  refine MI.intro (lv0 := fun a => [some (.ref (a 3))]) (by decide) (fun a => ⟨(Nat.le_of_ble_eq_true rfl), rfl⟩) ?_
  intro p9 l9 e9 s9 m9 g9 b9 h9 c9 D9 A9 ct a C
  have C : Cx p9 s9 m9 g9 h9 c9 cX3_isStopped 1 RX3 (some .boolean) D9 A9 ct a := C
  refine q_aload0 C dX3_isStopped_0 ?_
  refine g_X3_38 C dX3_isStopped_1 ?_
  exact q_zret C (by repeat' first | exact bz_0 | exact bz_1 | assumption | apply bz_if) (by first | (rw [f_X3_isStopped]; done) | rfl) rfl dX3_isStopped_4
def f_X3_firstCaused (M : Mm)  : Int32 := (gI M 3 7)
set_option maxHeartbeats 4000000 in
set_option maxRecDepth 100000 in
theorem c_X3_firstCaused (M : Mm)   : MI yX3_firstCaused cX3_firstCaused 1 (some .int) 0 0 (fun a => [.ref (a 3)]) M (f_X3_firstCaused M) M := by
  refine MI.intro (lv0 := fun a => [some (.ref (a 3))]) (by decide) (fun a => ⟨(Nat.le_of_ble_eq_true rfl), rfl⟩) ?_
  intro p9 l9 e9 s9 m9 g9 b9 h9 c9 D9 A9 ct a C
  have C : Cx p9 s9 m9 g9 h9 c9 cX3_firstCaused 1 RX3 (some .int) D9 A9 ct a := C
  refine q_aload0 C dX3_firstCaused_0 ?_
  refine g_X3_35 C dX3_firstCaused_1 ?_
  exact q_iret C (by first | (rw [f_X3_firstCaused]; done) | rfl) rfl dX3_firstCaused_4
def f_X3_kindOf (u1 : Int32) : Int32 := (kinds (u1).toNatClampNeg)
set_option maxHeartbeats 4000000 in
set_option maxRecDepth 100000 in
theorem c_X3_kindOf (M : Mm) (u1 : Int32) (h1 : vp_in u1 4) : MI yX3_kindOf cX3_kindOf 2 (some .int) 0 0 (fun a => [.ref (a 3), .int u1]) M (f_X3_kindOf u1) M := by
  refine MI.intro (lv0 := fun a => [some (.ref (a 3)), some (.int u1)]) (by decide) (fun a => ⟨(Nat.le_of_ble_eq_true rfl), rfl⟩) ?_
  intro p9 l9 e9 s9 m9 g9 b9 h9 c9 D9 A9 ct a C
  have C : Cx p9 s9 m9 g9 h9 c9 cX3_kindOf 2 RX3 (some .int) D9 A9 ct a := C
  refine q_getK C wf_X3_42 dX3_kindOf_0 (fun t9 ht9 => ?_)
  refine q_iload1 C dX3_kindOf_3 ?_
  refine q_kaldX (j := (u1).toNatClampNeg) C ht9 rfl (by first | assumption | (simp only [gI_sI, gI_sJ, gI_ite]; simp; assumption) | (simp [gI_sI, gI_sJ, gI_ite]; assumption)) dX3_kindOf_4 ?_
  exact q_iret C (by first | (rw [f_X3_kindOf]; done) | rfl) rfl dX3_kindOf_5
def f_X3_stuffIn (M : Mm) (u1 : Int32) : Int32 := (gI M 20 (u1).toNatClampNeg)
set_option maxHeartbeats 4000000 in
set_option maxRecDepth 100000 in
theorem c_X3_stuffIn (M : Mm) (u1 : Int32) (h1 : vp_in u1 4) : MI yX3_stuffIn cX3_stuffIn 2 (some .int) 0 0 (fun a => [.ref (a 3), .int u1]) M (f_X3_stuffIn M u1) M := by
  refine MI.intro (lv0 := fun a => [some (.ref (a 3)), some (.int u1)]) (by decide) (fun a => ⟨(Nat.le_of_ble_eq_true rfl), rfl⟩) ?_
  intro p9 l9 e9 s9 m9 g9 b9 h9 c9 D9 A9 ct a C
  have C : Cx p9 s9 m9 g9 h9 c9 cX3_stuffIn 2 RX3 (some .int) D9 A9 ct a := C
  refine q_aload0 C dX3_stuffIn_0 ?_
  refine g_X3_9 C dX3_stuffIn_1 ?_
  refine q_iload1 C dX3_stuffIn_4 ?_
  refine q_ialdX (j := (u1).toNatClampNeg) C rfl rfl (by first | assumption | (simp only [gI_sI, gI_sJ, gI_ite]; simp; assumption) | (simp [gI_sI, gI_sJ, gI_ite]; assumption)) dX3_stuffIn_5 ?_
  exact q_iret C (by first | (rw [f_X3_stuffIn]; done) | rfl) rfl dX3_stuffIn_6
def f_X3_heatIn (M : Mm) (u1 : Int32) : Int32 := (gI M 21 (u1).toNatClampNeg)
set_option maxHeartbeats 4000000 in
set_option maxRecDepth 100000 in
theorem c_X3_heatIn (M : Mm) (u1 : Int32) (h1 : vp_in u1 4) : MI yX3_heatIn cX3_heatIn 2 (some .int) 0 0 (fun a => [.ref (a 3), .int u1]) M (f_X3_heatIn M u1) M := by
  refine MI.intro (lv0 := fun a => [some (.ref (a 3)), some (.int u1)]) (by decide) (fun a => ⟨(Nat.le_of_ble_eq_true rfl), rfl⟩) ?_
  intro p9 l9 e9 s9 m9 g9 b9 h9 c9 D9 A9 ct a C
  have C : Cx p9 s9 m9 g9 h9 c9 cX3_heatIn 2 RX3 (some .int) D9 A9 ct a := C
  refine q_aload0 C dX3_heatIn_0 ?_
  refine g_X3_15 C dX3_heatIn_1 ?_
  refine q_iload1 C dX3_heatIn_4 ?_
  refine q_ialdX (j := (u1).toNatClampNeg) C rfl rfl (by first | assumption | (simp only [gI_sI, gI_sJ, gI_ite]; simp; assumption) | (simp [gI_sI, gI_sJ, gI_ite]; assumption)) dX3_heatIn_5 ?_
  exact q_iret C (by first | (rw [f_X3_heatIn]; done) | rfl) rfl dX3_heatIn_6
def f_X3_latest (M : Mm) (u1 : Int32) : Int32 := (gI M 24 (u1).toNatClampNeg)
set_option maxHeartbeats 4000000 in
set_option maxRecDepth 100000 in
theorem c_X3_latest (M : Mm) (u1 : Int32) (h1 : vp_in u1 7) : MI yX3_latest cX3_latest 2 (some .int) 0 0 (fun a => [.ref (a 3), .int u1]) M (f_X3_latest M u1) M := by
  refine MI.intro (lv0 := fun a => [some (.ref (a 3)), some (.int u1)]) (by decide) (fun a => ⟨(Nat.le_of_ble_eq_true rfl), rfl⟩) ?_
  intro p9 l9 e9 s9 m9 g9 b9 h9 c9 D9 A9 ct a C
  have C : Cx p9 s9 m9 g9 h9 c9 cX3_latest 2 RX3 (some .int) D9 A9 ct a := C
  refine q_aload0 C dX3_latest_0 ?_
  refine g_X3_24 C dX3_latest_1 ?_
  refine q_iload1 C dX3_latest_4 ?_
  refine q_ialdX (j := (u1).toNatClampNeg) C rfl rfl (by first | assumption | (simp only [gI_sI, gI_sJ, gI_ite]; simp; assumption) | (simp [gI_sI, gI_sJ, gI_ite]; assumption)) dX3_latest_5 ?_
  exact q_iret C (by first | (rw [f_X3_latest]; done) | rfl) rfl dX3_latest_6
def f_X3_inAll (M : Mm) (u1 : Int32) : Int64 := (gJ M 25 (u1).toNatClampNeg)
set_option maxHeartbeats 4000000 in
set_option maxRecDepth 100000 in
theorem c_X3_inAll (M : Mm) (u1 : Int32) (h1 : vp_in u1 5) : MJ yX3_inAll cX3_inAll 2 (some .long) 0 0 (fun a => [.ref (a 3), .int u1]) M (f_X3_inAll M u1) M := by
  refine MJ.intro (lv0 := fun a => [some (.ref (a 3)), some (.int u1)]) (by decide) (fun a => ⟨(Nat.le_of_ble_eq_true rfl), rfl⟩) ?_
  intro p9 l9 e9 s9 m9 g9 b9 h9 c9 D9 A9 ct a C
  have C : Cx p9 s9 m9 g9 h9 c9 cX3_inAll 2 RX3 (some .long) D9 A9 ct a := C
  refine q_aload0 C dX3_inAll_0 ?_
  refine g_X3_27 C dX3_inAll_1 ?_
  refine q_iload1 C dX3_inAll_4 ?_
  refine q_laldX (j := (u1).toNatClampNeg) C rfl rfl (by first | assumption | (simp only [gI_sI, gI_sJ, gI_ite]; simp; assumption) | (simp [gI_sI, gI_sJ, gI_ite]; assumption)) dX3_inAll_5 ?_
  exact q_lret C (by first | (rw [f_X3_inAll]; done) | rfl) rfl dX3_inAll_6
def f_X3_restart (M : Mm)  : Int32 × Mm := (if (gI M 3 8) = 0 then ((0 : Int32), M) else ((1 : Int32), (sI (sI M 3 8 (0 : Int32)) 3 7 (-9 : Int32))))
set_option maxHeartbeats 4000000 in
set_option maxRecDepth 100000 in
theorem c_X3_restart (M : Mm)   : MI yX3_restart cX3_restart 1 (some .int) 0 0 (fun a => [.ref (a 3)]) M (f_X3_restart M).1 (f_X3_restart M).2 := by
  refine MI.intro (lv0 := fun a => [some (.ref (a 3))]) (by decide) (fun a => ⟨(Nat.le_of_ble_eq_true rfl), rfl⟩) ?_
  intro p9 l9 e9 s9 m9 g9 b9 h9 c9 D9 A9 ct a C
  have C : Cx p9 s9 m9 g9 h9 c9 cX3_restart 1 RX3 (some .int) D9 A9 ct a := C
  refine q_aload0 C dX3_restart_0 ?_
  refine g_X3_38 C dX3_restart_1 ?_
  refine q_if_ne (tgt := 9) C dX3_restart_4 (by decide) (fun c1 => ?_) (fun c1 => ?_)
  · refine q_aload0 C dX3_restart_9 ?_
    refine q_iconst (v := 0) C dX3_restart_10 (by decide) ?_
    refine p_X3_38 C (by repeat' first | exact bz_0 | exact bz_1 | assumption | apply bz_if) (by repeat' first | exact bzf_0 | exact bzf_1 | assumption | apply bzf_if) dX3_restart_11 ?_
    refine q_aload0 C dX3_restart_14 ?_
    refine q_bipush (v := -9) C dX3_restart_15 (by decide) ?_
    refine p_X3_35 C  dX3_restart_17 ?_
    refine q_iconst (v := 1) C dX3_restart_20 (by decide) ?_
    exact q_iret C (by first | rfl | (rw [f_X3_restart, if_neg c1]; done) | (rw [f_X3_restart, if_neg c1]; rfl) | (simp only [f_X3_restart, if_neg c1]; done)) (by first | rfl | (rw [f_X3_restart, if_neg c1]; done) | (rw [f_X3_restart, if_neg c1]; rfl) | (simp only [f_X3_restart, if_neg c1]; done)) dX3_restart_21
  · refine q_iconst (v := 0) C dX3_restart_7 (by decide) ?_
    exact q_iret C (by first | rfl | (rw [f_X3_restart, if_pos c1]; done) | (rw [f_X3_restart, if_pos c1]; rfl) | (simp only [f_X3_restart, if_pos c1]; done)) (by first | rfl | (rw [f_X3_restart, if_pos c1]; done) | (rw [f_X3_restart, if_pos c1]; rfl) | (simp only [f_X3_restart, if_pos c1]; done)) dX3_restart_8
def b_X3_passGas_1  (i1 : Nat) (z1 : Int32 × Mm) : Int32 × Mm := ((if (kinds i1) = (2 : Int32) then (z1.1 + ((gI z1.2 21 i1) / (10 : Int32))) else z1.1), (if (kinds i1) = (2 : Int32) then (sI z1.2 21 i1 ((gI z1.2 21 i1) - ((gI z1.2 21 i1) / (10 : Int32)))) else z1.2))
def l_X3_passGas_1  (z1 : Int32 × Mm) : Int32 × Mm := itr b_X3_passGas_1 4 z1
def b_X3_passGas_2  (i2 : Nat) (z2 : Int32 × Mm) : Int32 × Mm := ((z2.1 - (if (kinds i2) = (1 : Int32) then (z2.1 / (2 : Int32)) else (z2.1 / (4 : Int32)))), (sI z2.2 21 i2 ((gI z2.2 21 i2) + (if (kinds i2) = (1 : Int32) then (z2.1 / (2 : Int32)) else (z2.1 / (4 : Int32))))))
def l_X3_passGas_2  (z2 : Int32 × Mm) : Int32 × Mm := itd b_X3_passGas_2 3 z2
def f_X3_passGas (M : Mm) (u1 : Int32) : Int32 × Mm := ((l_X3_passGas_2 ((l_X3_passGas_1 (u1, M)).1, (l_X3_passGas_1 (u1, M)).2)).1, (l_X3_passGas_2 ((l_X3_passGas_1 (u1, M)).1, (l_X3_passGas_1 (u1, M)).2)).2)
set_option maxHeartbeats 4000000 in
set_option maxRecDepth 100000 in
theorem c_X3_passGas (M : Mm) (u1 : Int32)  : MI yX3_passGas cX3_passGas 5 (some .int) 0 0 (fun a => [.ref (a 3), .int u1]) M (f_X3_passGas M u1).1 (f_X3_passGas M u1).2 := by
  refine MI.intro (lv0 := fun a => [some (.ref (a 3)), some (.int u1), none, none, none]) (by decide) (fun a => ⟨(Nat.le_of_ble_eq_true rfl), rfl⟩) ?_
  intro p9 l9 e9 s9 m9 g9 b9 h9 c9 D9 A9 ct a C
  have C : Cx p9 s9 m9 g9 h9 c9 cX3_passGas 5 RX3 (some .int) D9 A9 ct a := C
  refine q_iload1 C dX3_passGas_0 ?_
  refine q_istore2 C dX3_passGas_1 (by decide) (by intro w h0 h; first | exact absurd rfl h0 | (cases h <;> rfl)) ?_
  refine q_iconst (v := 0) C dX3_passGas_2 (by decide) ?_
  refine q_istore3 C dX3_passGas_3 (by decide) (by intro w h0 h; first | exact absurd rfl h0 | (cases h <;> rfl)) ?_
  refine q_drop [some (.ref (a 3)), none, some (.int u1), some (.int (0 : Int32)), none] (by repeat' (first | exact trivial | rfl | constructor)) ?_
  refine q_loop 4 b_X3_passGas_1 (fun zz => zz.2) (fun xx zz => [some (.ref (a 3)), none, some (.int zz.1), some (.int xx), none]) (u1, M)  (fun i1 z1 hi1 ih1 => ?_) ?_
  · refine q_iload3 C dX3_passGas_4 ?_
    refine q_iconst (v := 4) C dX3_passGas_5 (by decide) ?_
    refine q_icmp_ge (tgt := 51) C dX3_passGas_6 (by decide) (fun c1 => absurd c1 (nI_ge (b := 4) (by omega) (by omega))) (fun c1 => ?_)
    refine q_getK C wf_X3_42 dX3_passGas_9 (fun t9 ht9 => ?_)
    refine q_iload3 C dX3_passGas_12 ?_
    refine q_kaldX (j := i1) C ht9 (nI_clamp (by omega)) (vp_in_nI (by omega) (by first | decide | omega)) dX3_passGas_13 ?_
    refine q_iconst (v := 2) C dX3_passGas_14 (by decide) ?_
    refine q_cut (if (kinds i1) = (2 : Int32) then (sI z1.2 21 i1 ((gI z1.2 21 i1) - ((gI z1.2 21 i1) / (10 : Int32)))) else z1.2) 45 [some (.ref (a 3)), none, some (.int (if (kinds i1) = (2 : Int32) then (z1.1 + ((gI z1.2 21 i1) / (10 : Int32))) else z1.1)), some (.int (nI i1)), none] [] (fun hJ => ?_) ?_
    · refine q_icmp_ne (tgt := 45) C dX3_passGas_15 (by decide) (fun c2 => ?_) (fun c2 => ?_)
      · (try simp only [if_neg c2] at hJ); exact hJ
      · refine q_aload0 C dX3_passGas_18 ?_
        refine g_X3_15 C dX3_passGas_19 ?_
        refine q_iload3 C dX3_passGas_22 ?_
        refine q_ialdX (j := i1) C rfl (nI_clamp (by omega)) (vp_in_nI (by omega) (by first | decide | omega)) dX3_passGas_23 ?_
        refine q_bipush (v := 10) C dX3_passGas_24 (by decide) ?_
        refine q_idiv C dX3_passGas_26 (by first | decide | assumption | (apply i64ne; assumption)) ?_
        refine q_istore4 C dX3_passGas_27 (by decide) (by intro w h0 h; first | exact absurd rfl h0 | (cases h <;> rfl)) ?_
        refine q_aload0 C dX3_passGas_29 ?_
        refine g_X3_15 C dX3_passGas_30 ?_
        refine q_iload3 C dX3_passGas_33 ?_
        refine q_dup2 C dX3_passGas_34 rfl rfl ?_
        refine q_ialdX (j := i1) C rfl (nI_clamp (by omega)) (vp_in_nI (by omega) (by first | decide | omega)) dX3_passGas_35 ?_
        refine q_iload4 C dX3_passGas_36 ?_
        refine q_isub C dX3_passGas_38 ?_
        refine q_iastX (j := i1) C rfl (nI_clamp (by omega)) (vp_in_nI (by omega) (by first | decide | omega)) dX3_passGas_39 ?_
        refine q_iload2 C dX3_passGas_40 ?_
        refine q_iload4 C dX3_passGas_41 ?_
        refine q_iadd C dX3_passGas_43 ?_
        refine q_istore2 C dX3_passGas_44 (by decide) (by intro w h0 h; first | exact absurd rfl h0 | (cases h <;> rfl)) ?_
        refine q_drop [some (.ref (a 3)), none, some (.int (z1.1 + ((gI z1.2 21 i1) / (10 : Int32)))), some (.int (nI i1)), none] (by repeat' (first | exact trivial | rfl | constructor)) ?_
        (try simp only [if_pos c2] at hJ); exact hJ
    refine q_iinc3 (dv := 1) C dX3_passGas_45 (by decide) (by decide) (by intro w h0 h; first | exact absurd rfl h0 | (cases h <;> rfl)) ?_
    refine q_goto (tgt := 4) C dX3_passGas_48 (by decide) ?_
    exact ih1
  refine q_cut (l_X3_passGas_1 (u1, M)).2 4 [some (.ref (a 3)), none, some (.int (l_X3_passGas_1 (u1, M)).1), some (.int (nI 4)), none] [] (fun hJ => hJ) ?_
  refine q_iload3 C dX3_passGas_4 ?_
  refine q_iconst (v := 4) C dX3_passGas_5 (by decide) ?_
  refine q_icmp_ge (tgt := 51) C dX3_passGas_6 (by decide) (fun c3 => ?_) (fun c3 => absurd (Int32.le_refl _) c3)
  refine q_iconst (v := 2) C dX3_passGas_51 (by decide) ?_
  refine q_istore3 C dX3_passGas_52 (by decide) (by intro w h0 h; first | exact absurd rfl h0 | (cases h <;> rfl)) ?_
  refine q_loopD 3 b_X3_passGas_2 (fun zz => zz.2) (fun xx zz => [some (.ref (a 3)), none, some (.int zz.1), some (.int xx), none]) ((l_X3_passGas_1 (u1, M)).1, (l_X3_passGas_1 (u1, M)).2) (by decide) (fun i2 z2 hi2 ih2 => ?_) ?_
  · refine q_iload3 C dX3_passGas_53 ?_
    refine q_if_lt (tgt := 99) C dX3_passGas_54 (by decide) (fun c4 => absurd c4 (nI_pos (by omega))) (fun c4 => ?_)
    refine q_getK C wf_X3_42 dX3_passGas_57 (fun t9 ht9 => ?_)
    refine q_iload3 C dX3_passGas_60 ?_
    refine q_kaldX (j := i2) C ht9 (nI_clamp (by omega)) (vp_in_nI (by omega) (by first | decide | omega)) dX3_passGas_61 ?_
    refine q_iconst (v := 1) C dX3_passGas_62 (by decide) ?_
    refine q_cut z2.2 75 [some (.ref (a 3)), none, some (.int z2.1), some (.int (nI i2)), none] [.int (if (kinds i2) = (1 : Int32) then (z2.1 / (2 : Int32)) else (z2.1 / (4 : Int32)))] (fun hJ => ?_) ?_
    · refine q_icmp_ne (tgt := 72) C dX3_passGas_63 (by decide) (fun c5 => ?_) (fun c5 => ?_)
      · refine q_iload2 C dX3_passGas_72 ?_
        refine q_iconst (v := 4) C dX3_passGas_73 (by decide) ?_
        refine q_idiv C dX3_passGas_74 (by first | decide | assumption | (apply i64ne; assumption)) ?_
        (try simp only [if_neg c5] at hJ); exact hJ
      · refine q_iload2 C dX3_passGas_66 ?_
        refine q_iconst (v := 2) C dX3_passGas_67 (by decide) ?_
        refine q_idiv C dX3_passGas_68 (by first | decide | assumption | (apply i64ne; assumption)) ?_
        refine q_goto (tgt := 75) C dX3_passGas_69 (by decide) ?_
        (try simp only [if_pos c5] at hJ); exact hJ
    refine q_istore4 C dX3_passGas_75 (by decide) (by intro w h0 h; first | exact absurd rfl h0 | (cases h <;> rfl)) ?_
    refine q_aload0 C dX3_passGas_77 ?_
    refine g_X3_15 C dX3_passGas_78 ?_
    refine q_iload3 C dX3_passGas_81 ?_
    refine q_dup2 C dX3_passGas_82 rfl rfl ?_
    refine q_ialdX (j := i2) C rfl (nI_clamp (by omega)) (vp_in_nI (by omega) (by first | decide | omega)) dX3_passGas_83 ?_
    refine q_iload4 C dX3_passGas_84 ?_
    refine q_iadd C dX3_passGas_86 ?_
    refine q_iastX (j := i2) C rfl (nI_clamp (by omega)) (vp_in_nI (by omega) (by first | decide | omega)) dX3_passGas_87 ?_
    refine q_iload2 C dX3_passGas_88 ?_
    refine q_iload4 C dX3_passGas_89 ?_
    refine q_isub C dX3_passGas_91 ?_
    refine q_istore2 C dX3_passGas_92 (by decide) (by intro w h0 h; first | exact absurd rfl h0 | (cases h <;> rfl)) ?_
    refine q_iinc3 (dv := -1) C dX3_passGas_93 (by decide) (by decide) (by intro w h0 h; first | exact absurd rfl h0 | (cases h <;> rfl)) ?_
    refine q_goto (tgt := 53) C dX3_passGas_96 (by decide) ?_
    refine q_drop [some (.ref (a 3)), none, some (.int (z2.1 - (if (kinds i2) = (1 : Int32) then (z2.1 / (2 : Int32)) else (z2.1 / (4 : Int32))))), some (.int ((nI i2) + (-1))), none] (by repeat' (first | exact trivial | rfl | constructor)) ?_
    exact ih2
  refine q_cut (l_X3_passGas_2 ((l_X3_passGas_1 (u1, M)).1, (l_X3_passGas_1 (u1, M)).2)).2 53 [some (.ref (a 3)), none, some (.int (l_X3_passGas_2 ((l_X3_passGas_1 (u1, M)).1, (l_X3_passGas_1 (u1, M)).2)).1), some (.int (-1 : Int32)), none] [] (fun hJ => hJ) ?_
  refine q_iload3 C dX3_passGas_53 ?_
  refine q_if_lt (tgt := 99) C dX3_passGas_54 (by decide) (fun c6 => ?_) (fun c6 => absurd (by decide) c6)
  refine q_iload2 C dX3_passGas_99 ?_
  exact q_iret C (by first | (rw [f_X3_passGas]; done) | rfl) (by first | (rw [f_X3_passGas]; done) | rfl) dX3_passGas_100
def m_X3_handOn_1 (u1 : Int32) (i1 : Nat) (z1 : Mm) : Mm := (sI (sI z1 22 i1 (((((gI z1 20 i1)).toInt64 * (u1).toInt64) / (100 : Int64))).toInt32) 23 i1 (if (gI (sI z1 22 i1 (((((gI z1 20 i1)).toInt64 * (u1).toInt64) / (100 : Int64))).toInt32) 20 i1) = 0 then (0 : Int32) else (((((gI (sI z1 22 i1 (((((gI z1 20 i1)).toInt64 * (u1).toInt64) / (100 : Int64))).toInt32) 21 i1)).toInt64 * ((gI (sI z1 22 i1 (((((gI z1 20 i1)).toInt64 * (u1).toInt64) / (100 : Int64))).toInt32) 22 i1)).toInt64) / ((gI (sI z1 22 i1 (((((gI z1 20 i1)).toInt64 * (u1).toInt64) / (100 : Int64))).toInt32) 20 i1)).toInt64)).toInt32))
def b_X3_handOn_1 (u1 : Int32) (i1 : Nat) (z1 : Mm) : Mm := (m_X3_handOn_1 u1 i1 z1)
def m_X3_handOn_3 (i2 : Nat) (z2 : Mm) : Mm := (sI (sI z2 20 i2 ((gI z2 20 i2) - (gI z2 22 i2))) 21 i2 ((gI (sI z2 20 i2 ((gI z2 20 i2) - (gI z2 22 i2))) 21 i2) - (gI (sI z2 20 i2 ((gI z2 20 i2) - (gI z2 22 i2))) 23 i2)))
def m_X3_handOn_4 (i2 : Nat) (z2 : Mm) : Mm := (if (nI i2) ≤ 0 then (m_X3_handOn_3 i2 z2) else (sI (sI (m_X3_handOn_3 i2 z2) 20 i2 ((gI (m_X3_handOn_3 i2 z2) 20 i2) + (gI (m_X3_handOn_3 i2 z2) 22 (i2 - 1)))) 21 i2 ((gI (sI (m_X3_handOn_3 i2 z2) 20 i2 ((gI (m_X3_handOn_3 i2 z2) 20 i2) + (gI (m_X3_handOn_3 i2 z2) 22 (i2 - 1)))) 21 i2) + (gI (sI (m_X3_handOn_3 i2 z2) 20 i2 ((gI (m_X3_handOn_3 i2 z2) 20 i2) + (gI (m_X3_handOn_3 i2 z2) 22 (i2 - 1)))) 23 (i2 - 1)))))
def b_X3_handOn_2  (i2 : Nat) (z2 : Mm) : Mm := (m_X3_handOn_4 i2 z2)
def f_X3_handOn (M : Mm) (u1 : Int32) : Mm := (itr b_X3_handOn_2 4 (itr (b_X3_handOn_1 u1) 4 M))
set_option maxHeartbeats 4000000 in
set_option maxRecDepth 100000 in
theorem c_X3_handOn (M : Mm) (u1 : Int32)  : MV yX3_handOn cX3_handOn 3 none 0 0 (fun a => [.ref (a 3), .int u1]) M (f_X3_handOn M u1) := by
  refine MV.intro (lv0 := fun a => [some (.ref (a 3)), some (.int u1), none]) (by decide) (fun a => ⟨(Nat.le_of_ble_eq_true rfl), rfl⟩) ?_
  intro p9 l9 e9 s9 m9 g9 b9 h9 c9 D9 A9 ct a C
  have C : Cx p9 s9 m9 g9 h9 c9 cX3_handOn 3 RX3 none D9 A9 ct a := C
  refine q_iconst (v := 0) C dX3_handOn_0 (by decide) ?_
  refine q_istore2 C dX3_handOn_1 (by decide) (by intro w h0 h; first | exact absurd rfl h0 | (cases h <;> rfl)) ?_
  refine q_loop 4 (b_X3_handOn_1 u1) (fun zz => zz) (fun xx zz => [some (.ref (a 3)), some (.int u1), some (.int xx)]) M  (fun i1 z1 hi1 ih1 => ?_) ?_
  · refine q_iload2 C dX3_handOn_2 ?_
    refine q_iconst (v := 4) C dX3_handOn_3 (by decide) ?_
    refine q_icmp_ge (tgt := 77) C dX3_handOn_4 (by decide) (fun c1 => absurd c1 (nI_ge (b := 4) (by omega) (by omega))) (fun c1 => ?_)
    refine q_aload0 C dX3_handOn_7 ?_
    refine g_X3_18 C dX3_handOn_8 ?_
    refine q_iload2 C dX3_handOn_11 ?_
    refine q_aload0 C dX3_handOn_12 ?_
    refine g_X3_9 C dX3_handOn_13 ?_
    refine q_iload2 C dX3_handOn_16 ?_
    refine q_ialdX (j := i1) C rfl (nI_clamp (by omega)) (vp_in_nI (by omega) (by first | decide | omega)) dX3_handOn_17 ?_
    refine q_i2l C dX3_handOn_18 ?_
    refine q_iload1 C dX3_handOn_19 ?_
    refine q_i2l C dX3_handOn_20 ?_
    refine q_lmul C dX3_handOn_21 ?_
    refine q_ldc2 C dX3_handOn_22 wk_X3_63 ?_
    refine q_ldiv C dX3_handOn_25 (by first | decide | assumption | (apply i64ne; assumption)) ?_
    refine q_l2i C dX3_handOn_26 ?_
    refine q_iastX (j := i1) C rfl (nI_clamp (by omega)) (vp_in_nI (by omega) (by first | decide | omega)) dX3_handOn_27 ?_
    refine q_aload0 C dX3_handOn_28 ?_
    refine g_X3_21 C dX3_handOn_29 ?_
    refine q_iload2 C dX3_handOn_32 ?_
    refine q_aload0 C dX3_handOn_33 ?_
    refine g_X3_9 C dX3_handOn_34 ?_
    refine q_iload2 C dX3_handOn_37 ?_
    refine q_ialdX (j := i1) C rfl (nI_clamp (by omega)) (vp_in_nI (by omega) (by first | decide | omega)) dX3_handOn_38 ?_
    refine q_cut (sI z1 22 i1 (((((gI z1 20 i1)).toInt64 * (u1).toInt64) / (100 : Int64))).toInt32) 70 [some (.ref (a 3)), some (.int u1), some (.int (nI i1))] [.int (if (gI (sI z1 22 i1 (((((gI z1 20 i1)).toInt64 * (u1).toInt64) / (100 : Int64))).toInt32) 20 i1) = 0 then (0 : Int32) else (((((gI (sI z1 22 i1 (((((gI z1 20 i1)).toInt64 * (u1).toInt64) / (100 : Int64))).toInt32) 21 i1)).toInt64 * ((gI (sI z1 22 i1 (((((gI z1 20 i1)).toInt64 * (u1).toInt64) / (100 : Int64))).toInt32) 22 i1)).toInt64) / ((gI (sI z1 22 i1 (((((gI z1 20 i1)).toInt64 * (u1).toInt64) / (100 : Int64))).toInt32) 20 i1)).toInt64)).toInt32), .int (nI i1), .ref (a 23)] (fun hJ => ?_) ?_
    · refine q_if_ne (tgt := 46) C dX3_handOn_39 (by decide) (fun c2 => ?_) (fun c2 => ?_)
      · refine q_aload0 C dX3_handOn_46 ?_
        refine g_X3_15 C dX3_handOn_47 ?_
        refine q_iload2 C dX3_handOn_50 ?_
        refine q_ialdX (j := i1) C rfl (nI_clamp (by omega)) (vp_in_nI (by omega) (by first | decide | omega)) dX3_handOn_51 ?_
        refine q_i2l C dX3_handOn_52 ?_
        refine q_aload0 C dX3_handOn_53 ?_
        refine g_X3_18 C dX3_handOn_54 ?_
        refine q_iload2 C dX3_handOn_57 ?_
        refine q_ialdX (j := i1) C rfl (nI_clamp (by omega)) (vp_in_nI (by omega) (by first | decide | omega)) dX3_handOn_58 ?_
        refine q_i2l C dX3_handOn_59 ?_
        refine q_lmul C dX3_handOn_60 ?_
        refine q_aload0 C dX3_handOn_61 ?_
        refine g_X3_9 C dX3_handOn_62 ?_
        refine q_iload2 C dX3_handOn_65 ?_
        refine q_ialdX (j := i1) C rfl (nI_clamp (by omega)) (vp_in_nI (by omega) (by first | decide | omega)) dX3_handOn_66 ?_
        refine q_i2l C dX3_handOn_67 ?_
        refine q_ldiv C dX3_handOn_68 (by first | decide | assumption | (apply i64ne; assumption)) ?_
        refine q_l2i C dX3_handOn_69 ?_
        (try simp only [if_neg c2] at hJ); exact hJ
      · refine q_iconst (v := 0) C dX3_handOn_42 (by decide) ?_
        refine q_goto (tgt := 70) C dX3_handOn_43 (by decide) ?_
        (try simp only [if_pos c2] at hJ); exact hJ
    refine q_iastX (j := i1) C rfl (nI_clamp (by omega)) (vp_in_nI (by omega) (by first | decide | omega)) dX3_handOn_70 ?_
    refine q_cut (m_X3_handOn_1 u1 i1 z1) 71 [some (.ref (a 3)), some (.int u1), some (.int (nI i1))] [] (fun hJ => hJ) ?_
    refine q_iinc2 (dv := 1) C dX3_handOn_71 (by decide) (by decide) (by intro w h0 h; first | exact absurd rfl h0 | (cases h <;> rfl)) ?_
    refine q_goto (tgt := 2) C dX3_handOn_74 (by decide) ?_
    exact ih1
  refine q_iload2 C dX3_handOn_2 ?_
  refine q_iconst (v := 4) C dX3_handOn_3 (by decide) ?_
  refine q_icmp_ge (tgt := 77) C dX3_handOn_4 (by decide) (fun c3 => ?_) (fun c3 => absurd (Int32.le_refl _) c3)
  refine q_iconst (v := 0) C dX3_handOn_77 (by decide) ?_
  refine q_istore2 C dX3_handOn_78 (by decide) (by intro w h0 h; first | exact absurd rfl h0 | (cases h <;> rfl)) ?_
  refine q_drop [some (.ref (a 3)), none, some (.int (0 : Int32))] (by repeat' (first | exact trivial | rfl | constructor)) ?_
  refine q_loop 4 b_X3_handOn_2 (fun zz => zz) (fun xx zz => [some (.ref (a 3)), none, some (.int xx)]) (itr (b_X3_handOn_1 u1) 4 M)  (fun i2 z2 hi2 ih2 => ?_) ?_
  · refine q_iload2 C dX3_handOn_79 ?_
    refine q_iconst (v := 4) C dX3_handOn_80 (by decide) ?_
    refine q_icmp_ge (tgt := 158) C dX3_handOn_81 (by decide) (fun c4 => absurd c4 (nI_ge (b := 4) (by omega) (by omega))) (fun c4 => ?_)
    refine q_aload0 C dX3_handOn_84 ?_
    refine g_X3_9 C dX3_handOn_85 ?_
    refine q_iload2 C dX3_handOn_88 ?_
    refine q_dup2 C dX3_handOn_89 rfl rfl ?_
    refine q_ialdX (j := i2) C rfl (nI_clamp (by omega)) (vp_in_nI (by omega) (by first | decide | omega)) dX3_handOn_90 ?_
    refine q_aload0 C dX3_handOn_91 ?_
    refine g_X3_18 C dX3_handOn_92 ?_
    refine q_iload2 C dX3_handOn_95 ?_
    refine q_ialdX (j := i2) C rfl (nI_clamp (by omega)) (vp_in_nI (by omega) (by first | decide | omega)) dX3_handOn_96 ?_
    refine q_isub C dX3_handOn_97 ?_
    refine q_iastX (j := i2) C rfl (nI_clamp (by omega)) (vp_in_nI (by omega) (by first | decide | omega)) dX3_handOn_98 ?_
    refine q_aload0 C dX3_handOn_99 ?_
    refine g_X3_15 C dX3_handOn_100 ?_
    refine q_iload2 C dX3_handOn_103 ?_
    refine q_dup2 C dX3_handOn_104 rfl rfl ?_
    refine q_ialdX (j := i2) C rfl (nI_clamp (by omega)) (vp_in_nI (by omega) (by first | decide | omega)) dX3_handOn_105 ?_
    refine q_aload0 C dX3_handOn_106 ?_
    refine g_X3_21 C dX3_handOn_107 ?_
    refine q_iload2 C dX3_handOn_110 ?_
    refine q_ialdX (j := i2) C rfl (nI_clamp (by omega)) (vp_in_nI (by omega) (by first | decide | omega)) dX3_handOn_111 ?_
    refine q_isub C dX3_handOn_112 ?_
    refine q_iastX (j := i2) C rfl (nI_clamp (by omega)) (vp_in_nI (by omega) (by first | decide | omega)) dX3_handOn_113 ?_
    refine q_cut (m_X3_handOn_3 i2 z2) 114 [some (.ref (a 3)), none, some (.int (nI i2))] [] (fun hJ => hJ) ?_
    refine q_iload2 C dX3_handOn_114 ?_
    refine q_cut (if (nI i2) ≤ 0 then (m_X3_handOn_3 i2 z2) else (sI (sI (m_X3_handOn_3 i2 z2) 20 i2 ((gI (m_X3_handOn_3 i2 z2) 20 i2) + (gI (m_X3_handOn_3 i2 z2) 22 (i2 - 1)))) 21 i2 ((gI (sI (m_X3_handOn_3 i2 z2) 20 i2 ((gI (m_X3_handOn_3 i2 z2) 20 i2) + (gI (m_X3_handOn_3 i2 z2) 22 (i2 - 1)))) 21 i2) + (gI (sI (m_X3_handOn_3 i2 z2) 20 i2 ((gI (m_X3_handOn_3 i2 z2) 20 i2) + (gI (m_X3_handOn_3 i2 z2) 22 (i2 - 1)))) 23 (i2 - 1))))) 152 [some (.ref (a 3)), none, some (.int (nI i2))] [] (fun hJ => ?_) ?_
    · refine q_if_le (tgt := 152) C dX3_handOn_115 (by decide) (fun c5 => ?_) (fun c5 => ?_)
      · (try simp only [if_pos c5] at hJ); exact hJ
      · refine q_aload0 C dX3_handOn_118 ?_
        refine g_X3_9 C dX3_handOn_119 ?_
        refine q_iload2 C dX3_handOn_122 ?_
        refine q_dup2 C dX3_handOn_123 rfl rfl ?_
        refine q_ialdX (j := i2) C rfl (nI_clamp (by omega)) (vp_in_nI (by omega) (by first | decide | omega)) dX3_handOn_124 ?_
        refine q_aload0 C dX3_handOn_125 ?_
        refine g_X3_18 C dX3_handOn_126 ?_
        refine q_iload2 C dX3_handOn_129 ?_
        refine q_iconst (v := 1) C dX3_handOn_130 (by decide) ?_
        refine q_isub C dX3_handOn_131 ?_
        refine q_ialdX (j := (i2 - 1)) C rfl (nI_clampP (by assumption) (by omega)) (vinP (by assumption) (by omega) (by decide)) dX3_handOn_132 ?_
        refine q_iadd C dX3_handOn_133 ?_
        refine q_iastX (j := i2) C rfl (nI_clamp (by omega)) (vp_in_nI (by omega) (by first | decide | omega)) dX3_handOn_134 ?_
        refine q_aload0 C dX3_handOn_135 ?_
        refine g_X3_15 C dX3_handOn_136 ?_
        refine q_iload2 C dX3_handOn_139 ?_
        refine q_dup2 C dX3_handOn_140 rfl rfl ?_
        refine q_ialdX (j := i2) C rfl (nI_clamp (by omega)) (vp_in_nI (by omega) (by first | decide | omega)) dX3_handOn_141 ?_
        refine q_aload0 C dX3_handOn_142 ?_
        refine g_X3_21 C dX3_handOn_143 ?_
        refine q_iload2 C dX3_handOn_146 ?_
        refine q_iconst (v := 1) C dX3_handOn_147 (by decide) ?_
        refine q_isub C dX3_handOn_148 ?_
        refine q_ialdX (j := (i2 - 1)) C rfl (nI_clampP (by assumption) (by omega)) (vinP (by assumption) (by omega) (by decide)) dX3_handOn_149 ?_
        refine q_iadd C dX3_handOn_150 ?_
        refine q_iastX (j := i2) C rfl (nI_clamp (by omega)) (vp_in_nI (by omega) (by first | decide | omega)) dX3_handOn_151 ?_
        (try simp only [if_neg c5] at hJ); exact hJ
    refine q_cut (m_X3_handOn_4 i2 z2) 152 [some (.ref (a 3)), none, some (.int (nI i2))] [] (fun hJ => hJ) ?_
    refine q_iinc2 (dv := 1) C dX3_handOn_152 (by decide) (by decide) (by intro w h0 h; first | exact absurd rfl h0 | (cases h <;> rfl)) ?_
    refine q_goto (tgt := 79) C dX3_handOn_155 (by decide) ?_
    exact ih2
  refine q_iload2 C dX3_handOn_79 ?_
  refine q_iconst (v := 4) C dX3_handOn_80 (by decide) ?_
  refine q_icmp_ge (tgt := 158) C dX3_handOn_81 (by decide) (fun c6 => ?_) (fun c6 => absurd (Int32.le_refl _) c6)
  exact q_vret C (by first | (rw [f_X3_handOn]; done) | rfl) dX3_handOn_158
def f_X3_tellOut (M : Mm)  : Mm := (sI (sI (sI (sI M 24 0 (gI M 22 3)) 24 1 (gI (sI M 24 0 (gI M 22 3)) 23 3)) 24 2 (if (gI M 22 3) = 0 then (0 : Int32) else ((gI M 23 3) / (gI M 22 3)))) 24 3 (if (if (gI M 22 3) = 0 then (0 : Int32) else ((gI M 23 3) / (gI M 22 3))) < (60 : Int32) then (if (if (gI M 22 3) = 0 then (0 : Int32) else ((gI M 23 3) / (gI M 22 3))) < (30 : Int32) then (0 : Int32) else (1 : Int32)) else (2 : Int32)))
set_option maxHeartbeats 4000000 in
set_option maxRecDepth 100000 in
theorem c_X3_tellOut (M : Mm)   : MV yX3_tellOut cX3_tellOut 3 none 0 0 (fun a => [.ref (a 3)]) M (f_X3_tellOut M) := by
  refine MV.intro (lv0 := fun a => [some (.ref (a 3)), none, none]) (by decide) (fun a => ⟨(Nat.le_of_ble_eq_true rfl), rfl⟩) ?_
  intro p9 l9 e9 s9 m9 g9 b9 h9 c9 D9 A9 ct a C
  have C : Cx p9 s9 m9 g9 h9 c9 cX3_tellOut 3 RX3 none D9 A9 ct a := C
  refine q_aload0 C dX3_tellOut_0 ?_
  refine g_X3_18 C dX3_tellOut_1 ?_
  refine q_iconst (v := 3) C dX3_tellOut_4 (by decide) ?_
  refine q_ialdX (j := 3) C rfl (by decide) (by unfold vp_in; decide) dX3_tellOut_5 ?_
  refine q_istore1 C dX3_tellOut_6 (by decide) (by intro w h0 h; first | exact absurd rfl h0 | (cases h <;> rfl)) ?_
  refine q_iload1 C dX3_tellOut_7 ?_
  refine q_cut M 23 [some (.ref (a 3)), some (.int (gI M 22 3)), none] [.int (if (gI M 22 3) = 0 then (0 : Int32) else ((gI M 23 3) / (gI M 22 3)))] (fun hJ => ?_) ?_
  · refine q_if_ne (tgt := 15) C dX3_tellOut_8 (by decide) (fun c1 => ?_) (fun c1 => ?_)
    · refine q_aload0 C dX3_tellOut_15 ?_
      refine g_X3_21 C dX3_tellOut_16 ?_
      refine q_iconst (v := 3) C dX3_tellOut_19 (by decide) ?_
      refine q_ialdX (j := 3) C rfl (by decide) (by unfold vp_in; decide) dX3_tellOut_20 ?_
      refine q_iload1 C dX3_tellOut_21 ?_
      refine q_idiv C dX3_tellOut_22 (by first | decide | assumption | (apply i64ne; assumption)) ?_
      (try simp only [if_neg c1] at hJ); exact hJ
    · refine q_iconst (v := 0) C dX3_tellOut_11 (by decide) ?_
      refine q_goto (tgt := 23) C dX3_tellOut_12 (by decide) ?_
      (try simp only [if_pos c1] at hJ); exact hJ
  refine q_istore2 C dX3_tellOut_23 (by decide) (by intro w h0 h; first | exact absurd rfl h0 | (cases h <;> rfl)) ?_
  refine q_aload0 C dX3_tellOut_24 ?_
  refine g_X3_24 C dX3_tellOut_25 ?_
  refine q_iconst (v := 0) C dX3_tellOut_28 (by decide) ?_
  refine q_iload1 C dX3_tellOut_29 ?_
  refine q_iastX (j := 0) C rfl (by decide) (by unfold vp_in; decide) dX3_tellOut_30 ?_
  refine q_aload0 C dX3_tellOut_31 ?_
  refine g_X3_24 C dX3_tellOut_32 ?_
  refine q_iconst (v := 1) C dX3_tellOut_35 (by decide) ?_
  refine q_aload0 C dX3_tellOut_36 ?_
  refine g_X3_21 C dX3_tellOut_37 ?_
  refine q_iconst (v := 3) C dX3_tellOut_40 (by decide) ?_
  refine q_ialdX (j := 3) C rfl (by decide) (by unfold vp_in; decide) dX3_tellOut_41 ?_
  refine q_iastX (j := 1) C rfl (by decide) (by unfold vp_in; decide) dX3_tellOut_42 ?_
  refine q_aload0 C dX3_tellOut_43 ?_
  refine g_X3_24 C dX3_tellOut_44 ?_
  refine q_iconst (v := 2) C dX3_tellOut_47 (by decide) ?_
  refine q_iload2 C dX3_tellOut_48 ?_
  refine q_iastX (j := 2) C rfl (by decide) (by unfold vp_in; decide) dX3_tellOut_49 ?_
  refine q_aload0 C dX3_tellOut_50 ?_
  refine g_X3_24 C dX3_tellOut_51 ?_
  refine q_iconst (v := 3) C dX3_tellOut_54 (by decide) ?_
  refine q_iload2 C dX3_tellOut_55 ?_
  refine q_bipush (v := 60) C dX3_tellOut_56 (by decide) ?_
  refine q_cut (sI (sI (sI M 24 0 (gI M 22 3)) 24 1 (gI (sI M 24 0 (gI M 22 3)) 23 3)) 24 2 (if (gI M 22 3) = 0 then (0 : Int32) else ((gI M 23 3) / (gI M 22 3)))) 76 [none, none, none] [.int (if (if (gI M 22 3) = 0 then (0 : Int32) else ((gI M 23 3) / (gI M 22 3))) < (60 : Int32) then (if (if (gI M 22 3) = 0 then (0 : Int32) else ((gI M 23 3) / (gI M 22 3))) < (30 : Int32) then (0 : Int32) else (1 : Int32)) else (2 : Int32)), .int (3 : Int32), .ref (a 24)] (fun hJ => ?_) ?_
  · refine q_icmp_lt (tgt := 65) C dX3_tellOut_58 (by decide) (fun c2 => ?_) (fun c2 => ?_)
    · refine q_iload2 C dX3_tellOut_65 ?_
      refine q_bipush (v := 30) C dX3_tellOut_66 (by decide) ?_
      refine q_icmp_lt (tgt := 75) C dX3_tellOut_68 (by decide) (fun c3 => ?_) (fun c3 => ?_)
      · refine q_iconst (v := 0) C dX3_tellOut_75 (by decide) ?_
        refine q_drop [none, none, none] (by repeat' (first | exact trivial | rfl | constructor)) ?_
        (try simp only [if_pos c2, if_pos c3] at hJ); exact hJ
      · refine q_iconst (v := 1) C dX3_tellOut_71 (by decide) ?_
        refine q_goto (tgt := 76) C dX3_tellOut_72 (by decide) ?_
        refine q_drop [none, none, none] (by repeat' (first | exact trivial | rfl | constructor)) ?_
        (try simp only [if_pos c2, if_neg c3] at hJ); exact hJ
    · refine q_iconst (v := 2) C dX3_tellOut_61 (by decide) ?_
      refine q_goto (tgt := 76) C dX3_tellOut_62 (by decide) ?_
      refine q_drop [none, none, none] (by repeat' (first | exact trivial | rfl | constructor)) ?_
      (try simp only [if_neg c2] at hJ); exact hJ
  refine q_iastX (j := 3) C rfl (by decide) (by unfold vp_in; decide) dX3_tellOut_76 ?_
  exact q_vret C (by first | (rw [f_X3_tellOut]; done) | rfl) dX3_tellOut_77
def f_X3_setCause (M : Mm) (u1 : Int32) (u2 : Int32) : Mm := (sI (sI M 24 4 u1) 24 5 u2)
set_option maxHeartbeats 4000000 in
set_option maxRecDepth 100000 in
theorem c_X3_setCause (M : Mm) (u1 : Int32) (u2 : Int32)  : MV yX3_setCause cX3_setCause 3 none 0 0 (fun a => [.ref (a 3), .int u1, .int u2]) M (f_X3_setCause M u1 u2) := by
  refine MV.intro (lv0 := fun a => [some (.ref (a 3)), some (.int u1), some (.int u2)]) (by decide) (fun a => ⟨(Nat.le_of_ble_eq_true rfl), rfl⟩) ?_
  intro p9 l9 e9 s9 m9 g9 b9 h9 c9 D9 A9 ct a C
  have C : Cx p9 s9 m9 g9 h9 c9 cX3_setCause 3 RX3 none D9 A9 ct a := C
  refine q_aload0 C dX3_setCause_0 ?_
  refine g_X3_24 C dX3_setCause_1 ?_
  refine q_iconst (v := 4) C dX3_setCause_4 (by decide) ?_
  refine q_iload1 C dX3_setCause_5 ?_
  refine q_iastX (j := 4) C rfl (by decide) (by unfold vp_in; decide) dX3_setCause_6 ?_
  refine q_aload0 C dX3_setCause_7 ?_
  refine g_X3_24 C dX3_setCause_8 ?_
  refine q_iconst (v := 5) C dX3_setCause_11 (by decide) ?_
  refine q_iload2 C dX3_setCause_12 ?_
  refine q_iastX (j := 5) C rfl (by decide) (by unfold vp_in; decide) dX3_setCause_13 ?_
  exact q_vret C (by first | (rw [f_X3_setCause]; done) | rfl) dX3_setCause_14
def f_X3_leastTooHot (M : Mm)  : Int32 := (if (¬ ((gI M 20 0) ≤ 0) ∧ ¬ ((lg_cmp ((gI M 21 0)).toInt64 ((200 : Int64) * ((gI M 20 0)).toInt64)) ≤ 0)) then (0 : Int32) else (if (¬ ((gI M 20 1) ≤ 0) ∧ ¬ ((lg_cmp ((gI M 21 1)).toInt64 ((200 : Int64) * ((gI M 20 1)).toInt64)) ≤ 0)) then (1 : Int32) else (if (¬ ((gI M 20 2) ≤ 0) ∧ ¬ ((lg_cmp ((gI M 21 2)).toInt64 ((200 : Int64) * ((gI M 20 2)).toInt64)) ≤ 0)) then (2 : Int32) else (if (¬ ((gI M 20 3) ≤ 0) ∧ ¬ ((lg_cmp ((gI M 21 3)).toInt64 ((200 : Int64) * ((gI M 20 3)).toInt64)) ≤ 0)) then (3 : Int32) else (-9 : Int32)))))
set_option maxHeartbeats 4000000 in
set_option maxRecDepth 100000 in
theorem c_X3_leastTooHot (M : Mm)   : MI yX3_leastTooHot cX3_leastTooHot 2 (some .int) 0 0 (fun a => [.ref (a 3)]) M (f_X3_leastTooHot M) M := by
  refine MI.intro (lv0 := fun a => [some (.ref (a 3)), none]) (by decide) (fun a => ⟨(Nat.le_of_ble_eq_true rfl), rfl⟩) ?_
  intro p9 l9 e9 s9 m9 g9 b9 h9 c9 D9 A9 ct a C
  have C : Cx p9 s9 m9 g9 h9 c9 cX3_leastTooHot 2 RX3 (some .int) D9 A9 ct a := C
  refine q_iconst (v := 0) C dX3_leastTooHot_0 (by decide) ?_
  refine q_istore1 C dX3_leastTooHot_1 (by decide) (by intro w h0 h; first | exact absurd rfl h0 | (cases h <;> rfl)) ?_
  refine q_iload1 C dX3_leastTooHot_2 ?_
  refine q_iconst (v := 4) C dX3_leastTooHot_3 (by decide) ?_
  refine q_icmp_ge (tgt := 46) C dX3_leastTooHot_4 (by decide) (fun c1 => absurd c1 (by decide)) (fun c1 => ?_)
  refine q_aload0 C dX3_leastTooHot_7 ?_
  refine g_X3_9 C dX3_leastTooHot_8 ?_
  refine q_iload1 C dX3_leastTooHot_11 ?_
  refine q_ialdX (j := 0) C rfl (by decide) (by unfold vp_in; decide) dX3_leastTooHot_12 ?_
  refine q_by ((¬ ((gI M 20 0) ≤ 0) ∧ ¬ ((lg_cmp ((gI M 21 0)).toInt64 ((200 : Int64) * ((gI M 20 0)).toInt64)) ≤ 0))) (fun c4 => ?_) (fun c4 => ?_)
  · refine q_if_le (tgt := 40) C dX3_leastTooHot_13 (by decide) (fun c2 => ?_) (fun c2 => ?_)
    · exact absurd c4 (fun h => absurd c2 h.1)
    · refine q_aload0 C dX3_leastTooHot_16 ?_
      refine g_X3_15 C dX3_leastTooHot_17 ?_
      refine q_iload1 C dX3_leastTooHot_20 ?_
      refine q_ialdX (j := 0) C rfl (by decide) (by unfold vp_in; decide) dX3_leastTooHot_21 ?_
      refine q_i2l C dX3_leastTooHot_22 ?_
      refine q_ldc2 C dX3_leastTooHot_23 wk_X3_75 ?_
      refine q_aload0 C dX3_leastTooHot_26 ?_
      refine g_X3_9 C dX3_leastTooHot_27 ?_
      refine q_iload1 C dX3_leastTooHot_30 ?_
      refine q_ialdX (j := 0) C rfl (by decide) (by unfold vp_in; decide) dX3_leastTooHot_31 ?_
      refine q_i2l C dX3_leastTooHot_32 ?_
      refine q_lmul C dX3_leastTooHot_33 ?_
      refine q_lcmp C dX3_leastTooHot_34 ?_
      refine q_if_le (tgt := 40) C dX3_leastTooHot_35 (by decide) (fun c3 => ?_) (fun c3 => ?_)
      · exact absurd c4 (fun h => absurd c3 h.2)
      · refine q_iload1 C dX3_leastTooHot_38 ?_
        exact q_iret C (by first | rfl | (rw [f_X3_leastTooHot, if_pos c4]; done) | (rw [f_X3_leastTooHot, if_pos c4]; rfl) | (simp only [f_X3_leastTooHot, if_pos c4]; done)) rfl dX3_leastTooHot_39
  refine q_cut M 40 [some (.ref (a 3)), some (.int (0 : Int32))] [] (fun hJ => ?_) ?_
  · refine q_if_le (tgt := 40) C dX3_leastTooHot_13 (by decide) (fun c2 => ?_) (fun c2 => ?_)
    · exact hJ
    · refine q_aload0 C dX3_leastTooHot_16 ?_
      refine g_X3_15 C dX3_leastTooHot_17 ?_
      refine q_iload1 C dX3_leastTooHot_20 ?_
      refine q_ialdX (j := 0) C rfl (by decide) (by unfold vp_in; decide) dX3_leastTooHot_21 ?_
      refine q_i2l C dX3_leastTooHot_22 ?_
      refine q_ldc2 C dX3_leastTooHot_23 wk_X3_75 ?_
      refine q_aload0 C dX3_leastTooHot_26 ?_
      refine g_X3_9 C dX3_leastTooHot_27 ?_
      refine q_iload1 C dX3_leastTooHot_30 ?_
      refine q_ialdX (j := 0) C rfl (by decide) (by unfold vp_in; decide) dX3_leastTooHot_31 ?_
      refine q_i2l C dX3_leastTooHot_32 ?_
      refine q_lmul C dX3_leastTooHot_33 ?_
      refine q_lcmp C dX3_leastTooHot_34 ?_
      refine q_if_le (tgt := 40) C dX3_leastTooHot_35 (by decide) (fun c3 => ?_) (fun c3 => ?_)
      · exact hJ
      · refine q_iload1 C dX3_leastTooHot_38 ?_
        exact absurd ⟨c2, c3⟩ c4
  refine q_iinc1 (dv := 1) C dX3_leastTooHot_40 (by decide) (by decide) (by intro w h0 h; first | exact absurd rfl h0 | (cases h <;> rfl)) ?_
  refine q_cut M 43 [some (.ref (a 3)), some (.int (1 : Int32))] [] (fun hJ => by rw [show ((0 : Int32) + 1) = (1 : Int32) from by decide]; exact hJ) ?_
  refine q_goto (tgt := 2) C dX3_leastTooHot_43 (by decide) ?_
  refine q_iload1 C dX3_leastTooHot_2 ?_
  refine q_iconst (v := 4) C dX3_leastTooHot_3 (by decide) ?_
  refine q_icmp_ge (tgt := 46) C dX3_leastTooHot_4 (by decide) (fun c5 => absurd c5 (by decide)) (fun c5 => ?_)
  refine q_aload0 C dX3_leastTooHot_7 ?_
  refine g_X3_9 C dX3_leastTooHot_8 ?_
  refine q_iload1 C dX3_leastTooHot_11 ?_
  refine q_ialdX (j := 1) C rfl (by decide) (by unfold vp_in; decide) dX3_leastTooHot_12 ?_
  refine q_by ((¬ ((gI M 20 1) ≤ 0) ∧ ¬ ((lg_cmp ((gI M 21 1)).toInt64 ((200 : Int64) * ((gI M 20 1)).toInt64)) ≤ 0))) (fun c8 => ?_) (fun c8 => ?_)
  · refine q_if_le (tgt := 40) C dX3_leastTooHot_13 (by decide) (fun c6 => ?_) (fun c6 => ?_)
    · exact absurd c8 (fun h => absurd c6 h.1)
    · refine q_aload0 C dX3_leastTooHot_16 ?_
      refine g_X3_15 C dX3_leastTooHot_17 ?_
      refine q_iload1 C dX3_leastTooHot_20 ?_
      refine q_ialdX (j := 1) C rfl (by decide) (by unfold vp_in; decide) dX3_leastTooHot_21 ?_
      refine q_i2l C dX3_leastTooHot_22 ?_
      refine q_ldc2 C dX3_leastTooHot_23 wk_X3_75 ?_
      refine q_aload0 C dX3_leastTooHot_26 ?_
      refine g_X3_9 C dX3_leastTooHot_27 ?_
      refine q_iload1 C dX3_leastTooHot_30 ?_
      refine q_ialdX (j := 1) C rfl (by decide) (by unfold vp_in; decide) dX3_leastTooHot_31 ?_
      refine q_i2l C dX3_leastTooHot_32 ?_
      refine q_lmul C dX3_leastTooHot_33 ?_
      refine q_lcmp C dX3_leastTooHot_34 ?_
      refine q_if_le (tgt := 40) C dX3_leastTooHot_35 (by decide) (fun c7 => ?_) (fun c7 => ?_)
      · exact absurd c8 (fun h => absurd c7 h.2)
      · refine q_iload1 C dX3_leastTooHot_38 ?_
        exact q_iret C (by first | rfl | (rw [f_X3_leastTooHot, if_neg c4, if_pos c8]; done) | (rw [f_X3_leastTooHot, if_neg c4, if_pos c8]; rfl) | (simp only [f_X3_leastTooHot, if_neg c4, if_pos c8]; done)) rfl dX3_leastTooHot_39
  refine q_cut M 40 [some (.ref (a 3)), some (.int (1 : Int32))] [] (fun hJ => ?_) ?_
  · refine q_if_le (tgt := 40) C dX3_leastTooHot_13 (by decide) (fun c6 => ?_) (fun c6 => ?_)
    · exact hJ
    · refine q_aload0 C dX3_leastTooHot_16 ?_
      refine g_X3_15 C dX3_leastTooHot_17 ?_
      refine q_iload1 C dX3_leastTooHot_20 ?_
      refine q_ialdX (j := 1) C rfl (by decide) (by unfold vp_in; decide) dX3_leastTooHot_21 ?_
      refine q_i2l C dX3_leastTooHot_22 ?_
      refine q_ldc2 C dX3_leastTooHot_23 wk_X3_75 ?_
      refine q_aload0 C dX3_leastTooHot_26 ?_
      refine g_X3_9 C dX3_leastTooHot_27 ?_
      refine q_iload1 C dX3_leastTooHot_30 ?_
      refine q_ialdX (j := 1) C rfl (by decide) (by unfold vp_in; decide) dX3_leastTooHot_31 ?_
      refine q_i2l C dX3_leastTooHot_32 ?_
      refine q_lmul C dX3_leastTooHot_33 ?_
      refine q_lcmp C dX3_leastTooHot_34 ?_
      refine q_if_le (tgt := 40) C dX3_leastTooHot_35 (by decide) (fun c7 => ?_) (fun c7 => ?_)
      · exact hJ
      · refine q_iload1 C dX3_leastTooHot_38 ?_
        exact absurd ⟨c6, c7⟩ c8
  refine q_iinc1 (dv := 1) C dX3_leastTooHot_40 (by decide) (by decide) (by intro w h0 h; first | exact absurd rfl h0 | (cases h <;> rfl)) ?_
  refine q_cut M 43 [some (.ref (a 3)), some (.int (2 : Int32))] [] (fun hJ => by rw [show ((1 : Int32) + 1) = (2 : Int32) from by decide]; exact hJ) ?_
  refine q_goto (tgt := 2) C dX3_leastTooHot_43 (by decide) ?_
  refine q_iload1 C dX3_leastTooHot_2 ?_
  refine q_iconst (v := 4) C dX3_leastTooHot_3 (by decide) ?_
  refine q_icmp_ge (tgt := 46) C dX3_leastTooHot_4 (by decide) (fun c9 => absurd c9 (by decide)) (fun c9 => ?_)
  refine q_aload0 C dX3_leastTooHot_7 ?_
  refine g_X3_9 C dX3_leastTooHot_8 ?_
  refine q_iload1 C dX3_leastTooHot_11 ?_
  refine q_ialdX (j := 2) C rfl (by decide) (by unfold vp_in; decide) dX3_leastTooHot_12 ?_
  refine q_by ((¬ ((gI M 20 2) ≤ 0) ∧ ¬ ((lg_cmp ((gI M 21 2)).toInt64 ((200 : Int64) * ((gI M 20 2)).toInt64)) ≤ 0))) (fun c12 => ?_) (fun c12 => ?_)
  · refine q_if_le (tgt := 40) C dX3_leastTooHot_13 (by decide) (fun c10 => ?_) (fun c10 => ?_)
    · exact absurd c12 (fun h => absurd c10 h.1)
    · refine q_aload0 C dX3_leastTooHot_16 ?_
      refine g_X3_15 C dX3_leastTooHot_17 ?_
      refine q_iload1 C dX3_leastTooHot_20 ?_
      refine q_ialdX (j := 2) C rfl (by decide) (by unfold vp_in; decide) dX3_leastTooHot_21 ?_
      refine q_i2l C dX3_leastTooHot_22 ?_
      refine q_ldc2 C dX3_leastTooHot_23 wk_X3_75 ?_
      refine q_aload0 C dX3_leastTooHot_26 ?_
      refine g_X3_9 C dX3_leastTooHot_27 ?_
      refine q_iload1 C dX3_leastTooHot_30 ?_
      refine q_ialdX (j := 2) C rfl (by decide) (by unfold vp_in; decide) dX3_leastTooHot_31 ?_
      refine q_i2l C dX3_leastTooHot_32 ?_
      refine q_lmul C dX3_leastTooHot_33 ?_
      refine q_lcmp C dX3_leastTooHot_34 ?_
      refine q_if_le (tgt := 40) C dX3_leastTooHot_35 (by decide) (fun c11 => ?_) (fun c11 => ?_)
      · exact absurd c12 (fun h => absurd c11 h.2)
      · refine q_iload1 C dX3_leastTooHot_38 ?_
        exact q_iret C (by first | rfl | (rw [f_X3_leastTooHot, if_neg c4, if_neg c8, if_pos c12]; done) | (rw [f_X3_leastTooHot, if_neg c4, if_neg c8, if_pos c12]; rfl) | (simp only [f_X3_leastTooHot, if_neg c4, if_neg c8, if_pos c12]; done)) rfl dX3_leastTooHot_39
  refine q_cut M 40 [some (.ref (a 3)), some (.int (2 : Int32))] [] (fun hJ => ?_) ?_
  · refine q_if_le (tgt := 40) C dX3_leastTooHot_13 (by decide) (fun c10 => ?_) (fun c10 => ?_)
    · exact hJ
    · refine q_aload0 C dX3_leastTooHot_16 ?_
      refine g_X3_15 C dX3_leastTooHot_17 ?_
      refine q_iload1 C dX3_leastTooHot_20 ?_
      refine q_ialdX (j := 2) C rfl (by decide) (by unfold vp_in; decide) dX3_leastTooHot_21 ?_
      refine q_i2l C dX3_leastTooHot_22 ?_
      refine q_ldc2 C dX3_leastTooHot_23 wk_X3_75 ?_
      refine q_aload0 C dX3_leastTooHot_26 ?_
      refine g_X3_9 C dX3_leastTooHot_27 ?_
      refine q_iload1 C dX3_leastTooHot_30 ?_
      refine q_ialdX (j := 2) C rfl (by decide) (by unfold vp_in; decide) dX3_leastTooHot_31 ?_
      refine q_i2l C dX3_leastTooHot_32 ?_
      refine q_lmul C dX3_leastTooHot_33 ?_
      refine q_lcmp C dX3_leastTooHot_34 ?_
      refine q_if_le (tgt := 40) C dX3_leastTooHot_35 (by decide) (fun c11 => ?_) (fun c11 => ?_)
      · exact hJ
      · refine q_iload1 C dX3_leastTooHot_38 ?_
        exact absurd ⟨c10, c11⟩ c12
  refine q_iinc1 (dv := 1) C dX3_leastTooHot_40 (by decide) (by decide) (by intro w h0 h; first | exact absurd rfl h0 | (cases h <;> rfl)) ?_
  refine q_cut M 43 [some (.ref (a 3)), some (.int (3 : Int32))] [] (fun hJ => by rw [show ((2 : Int32) + 1) = (3 : Int32) from by decide]; exact hJ) ?_
  refine q_goto (tgt := 2) C dX3_leastTooHot_43 (by decide) ?_
  refine q_iload1 C dX3_leastTooHot_2 ?_
  refine q_iconst (v := 4) C dX3_leastTooHot_3 (by decide) ?_
  refine q_icmp_ge (tgt := 46) C dX3_leastTooHot_4 (by decide) (fun c13 => absurd c13 (by decide)) (fun c13 => ?_)
  refine q_aload0 C dX3_leastTooHot_7 ?_
  refine g_X3_9 C dX3_leastTooHot_8 ?_
  refine q_iload1 C dX3_leastTooHot_11 ?_
  refine q_ialdX (j := 3) C rfl (by decide) (by unfold vp_in; decide) dX3_leastTooHot_12 ?_
  refine q_by ((¬ ((gI M 20 3) ≤ 0) ∧ ¬ ((lg_cmp ((gI M 21 3)).toInt64 ((200 : Int64) * ((gI M 20 3)).toInt64)) ≤ 0))) (fun c16 => ?_) (fun c16 => ?_)
  · refine q_if_le (tgt := 40) C dX3_leastTooHot_13 (by decide) (fun c14 => ?_) (fun c14 => ?_)
    · exact absurd c16 (fun h => absurd c14 h.1)
    · refine q_aload0 C dX3_leastTooHot_16 ?_
      refine g_X3_15 C dX3_leastTooHot_17 ?_
      refine q_iload1 C dX3_leastTooHot_20 ?_
      refine q_ialdX (j := 3) C rfl (by decide) (by unfold vp_in; decide) dX3_leastTooHot_21 ?_
      refine q_i2l C dX3_leastTooHot_22 ?_
      refine q_ldc2 C dX3_leastTooHot_23 wk_X3_75 ?_
      refine q_aload0 C dX3_leastTooHot_26 ?_
      refine g_X3_9 C dX3_leastTooHot_27 ?_
      refine q_iload1 C dX3_leastTooHot_30 ?_
      refine q_ialdX (j := 3) C rfl (by decide) (by unfold vp_in; decide) dX3_leastTooHot_31 ?_
      refine q_i2l C dX3_leastTooHot_32 ?_
      refine q_lmul C dX3_leastTooHot_33 ?_
      refine q_lcmp C dX3_leastTooHot_34 ?_
      refine q_if_le (tgt := 40) C dX3_leastTooHot_35 (by decide) (fun c15 => ?_) (fun c15 => ?_)
      · exact absurd c16 (fun h => absurd c15 h.2)
      · refine q_iload1 C dX3_leastTooHot_38 ?_
        exact q_iret C (by first | rfl | (rw [f_X3_leastTooHot, if_neg c4, if_neg c8, if_neg c12, if_pos c16]; done) | (rw [f_X3_leastTooHot, if_neg c4, if_neg c8, if_neg c12, if_pos c16]; rfl) | (simp only [f_X3_leastTooHot, if_neg c4, if_neg c8, if_neg c12, if_pos c16]; done)) rfl dX3_leastTooHot_39
  refine q_cut M 40 [some (.ref (a 3)), some (.int (3 : Int32))] [] (fun hJ => ?_) ?_
  · refine q_if_le (tgt := 40) C dX3_leastTooHot_13 (by decide) (fun c14 => ?_) (fun c14 => ?_)
    · exact hJ
    · refine q_aload0 C dX3_leastTooHot_16 ?_
      refine g_X3_15 C dX3_leastTooHot_17 ?_
      refine q_iload1 C dX3_leastTooHot_20 ?_
      refine q_ialdX (j := 3) C rfl (by decide) (by unfold vp_in; decide) dX3_leastTooHot_21 ?_
      refine q_i2l C dX3_leastTooHot_22 ?_
      refine q_ldc2 C dX3_leastTooHot_23 wk_X3_75 ?_
      refine q_aload0 C dX3_leastTooHot_26 ?_
      refine g_X3_9 C dX3_leastTooHot_27 ?_
      refine q_iload1 C dX3_leastTooHot_30 ?_
      refine q_ialdX (j := 3) C rfl (by decide) (by unfold vp_in; decide) dX3_leastTooHot_31 ?_
      refine q_i2l C dX3_leastTooHot_32 ?_
      refine q_lmul C dX3_leastTooHot_33 ?_
      refine q_lcmp C dX3_leastTooHot_34 ?_
      refine q_if_le (tgt := 40) C dX3_leastTooHot_35 (by decide) (fun c15 => ?_) (fun c15 => ?_)
      · exact hJ
      · refine q_iload1 C dX3_leastTooHot_38 ?_
        exact absurd ⟨c14, c15⟩ c16
  refine q_iinc1 (dv := 1) C dX3_leastTooHot_40 (by decide) (by decide) (by intro w h0 h; first | exact absurd rfl h0 | (cases h <;> rfl)) ?_
  refine q_cut M 43 [some (.ref (a 3)), some (.int (4 : Int32))] [] (fun hJ => by rw [show ((3 : Int32) + 1) = (4 : Int32) from by decide]; exact hJ) ?_
  refine q_goto (tgt := 2) C dX3_leastTooHot_43 (by decide) ?_
  refine q_iload1 C dX3_leastTooHot_2 ?_
  refine q_iconst (v := 4) C dX3_leastTooHot_3 (by decide) ?_
  refine q_icmp_ge (tgt := 46) C dX3_leastTooHot_4 (by decide) (fun c17 => ?_) (fun c17 => absurd (by decide) c17)
  refine q_bipush (v := -9) C dX3_leastTooHot_46 (by decide) ?_
  exact q_iret C (by first | rfl | (rw [f_X3_leastTooHot, if_neg c4, if_neg c8, if_neg c12, if_neg c16]; done) | (rw [f_X3_leastTooHot, if_neg c4, if_neg c8, if_neg c12, if_neg c16]; rfl) | (simp only [f_X3_leastTooHot, if_neg c4, if_neg c8, if_neg c12, if_neg c16]; done)) rfl dX3_leastTooHot_48
def f_X3_leastTooMuch (M : Mm)  : Int32 := (if (gI M 20 0) ≤ (2000 : Int32) then (if (gI M 20 1) ≤ (2000 : Int32) then (if (gI M 20 2) ≤ (2000 : Int32) then (if (gI M 20 3) ≤ (2000 : Int32) then (-9 : Int32) else (3 : Int32)) else (2 : Int32)) else (1 : Int32)) else (0 : Int32))
set_option maxHeartbeats 4000000 in
set_option maxRecDepth 100000 in
theorem c_X3_leastTooMuch (M : Mm)   : MI yX3_leastTooMuch cX3_leastTooMuch 2 (some .int) 0 0 (fun a => [.ref (a 3)]) M (f_X3_leastTooMuch M) M := by
  refine MI.intro (lv0 := fun a => [some (.ref (a 3)), none]) (by decide) (fun a => ⟨(Nat.le_of_ble_eq_true rfl), rfl⟩) ?_
  intro p9 l9 e9 s9 m9 g9 b9 h9 c9 D9 A9 ct a C
  have C : Cx p9 s9 m9 g9 h9 c9 cX3_leastTooMuch 2 RX3 (some .int) D9 A9 ct a := C
  refine q_iconst (v := 0) C dX3_leastTooMuch_0 (by decide) ?_
  refine q_istore1 C dX3_leastTooMuch_1 (by decide) (by intro w h0 h; first | exact absurd rfl h0 | (cases h <;> rfl)) ?_
  refine q_iload1 C dX3_leastTooMuch_2 ?_
  refine q_iconst (v := 4) C dX3_leastTooMuch_3 (by decide) ?_
  refine q_icmp_ge (tgt := 27) C dX3_leastTooMuch_4 (by decide) (fun c1 => absurd c1 (by decide)) (fun c1 => ?_)
  refine q_aload0 C dX3_leastTooMuch_7 ?_
  refine g_X3_9 C dX3_leastTooMuch_8 ?_
  refine q_iload1 C dX3_leastTooMuch_11 ?_
  refine q_ialdX (j := 0) C rfl (by decide) (by unfold vp_in; decide) dX3_leastTooMuch_12 ?_
  refine q_sipush (v := 2000) C dX3_leastTooMuch_13 (by decide) ?_
  refine q_icmp_le (tgt := 21) C dX3_leastTooMuch_16 (by decide) (fun c2 => ?_) (fun c2 => ?_)
  · refine q_iinc1 (dv := 1) C dX3_leastTooMuch_21 (by decide) (by decide) (by intro w h0 h; first | exact absurd rfl h0 | (cases h <;> rfl)) ?_
    refine q_cut M 24 [some (.ref (a 3)), some (.int (1 : Int32))] [] (fun hJ => by rw [show ((0 : Int32) + 1) = (1 : Int32) from by decide]; exact hJ) ?_
    refine q_goto (tgt := 2) C dX3_leastTooMuch_24 (by decide) ?_
    refine q_iload1 C dX3_leastTooMuch_2 ?_
    refine q_iconst (v := 4) C dX3_leastTooMuch_3 (by decide) ?_
    refine q_icmp_ge (tgt := 27) C dX3_leastTooMuch_4 (by decide) (fun c3 => absurd c3 (by decide)) (fun c3 => ?_)
    refine q_aload0 C dX3_leastTooMuch_7 ?_
    refine g_X3_9 C dX3_leastTooMuch_8 ?_
    refine q_iload1 C dX3_leastTooMuch_11 ?_
    refine q_ialdX (j := 1) C rfl (by decide) (by unfold vp_in; decide) dX3_leastTooMuch_12 ?_
    refine q_sipush (v := 2000) C dX3_leastTooMuch_13 (by decide) ?_
    refine q_icmp_le (tgt := 21) C dX3_leastTooMuch_16 (by decide) (fun c4 => ?_) (fun c4 => ?_)
    · refine q_iinc1 (dv := 1) C dX3_leastTooMuch_21 (by decide) (by decide) (by intro w h0 h; first | exact absurd rfl h0 | (cases h <;> rfl)) ?_
      refine q_cut M 24 [some (.ref (a 3)), some (.int (2 : Int32))] [] (fun hJ => by rw [show ((1 : Int32) + 1) = (2 : Int32) from by decide]; exact hJ) ?_
      refine q_goto (tgt := 2) C dX3_leastTooMuch_24 (by decide) ?_
      refine q_iload1 C dX3_leastTooMuch_2 ?_
      refine q_iconst (v := 4) C dX3_leastTooMuch_3 (by decide) ?_
      refine q_icmp_ge (tgt := 27) C dX3_leastTooMuch_4 (by decide) (fun c5 => absurd c5 (by decide)) (fun c5 => ?_)
      refine q_aload0 C dX3_leastTooMuch_7 ?_
      refine g_X3_9 C dX3_leastTooMuch_8 ?_
      refine q_iload1 C dX3_leastTooMuch_11 ?_
      refine q_ialdX (j := 2) C rfl (by decide) (by unfold vp_in; decide) dX3_leastTooMuch_12 ?_
      refine q_sipush (v := 2000) C dX3_leastTooMuch_13 (by decide) ?_
      refine q_icmp_le (tgt := 21) C dX3_leastTooMuch_16 (by decide) (fun c6 => ?_) (fun c6 => ?_)
      · refine q_iinc1 (dv := 1) C dX3_leastTooMuch_21 (by decide) (by decide) (by intro w h0 h; first | exact absurd rfl h0 | (cases h <;> rfl)) ?_
        refine q_cut M 24 [some (.ref (a 3)), some (.int (3 : Int32))] [] (fun hJ => by rw [show ((2 : Int32) + 1) = (3 : Int32) from by decide]; exact hJ) ?_
        refine q_goto (tgt := 2) C dX3_leastTooMuch_24 (by decide) ?_
        refine q_iload1 C dX3_leastTooMuch_2 ?_
        refine q_iconst (v := 4) C dX3_leastTooMuch_3 (by decide) ?_
        refine q_icmp_ge (tgt := 27) C dX3_leastTooMuch_4 (by decide) (fun c7 => absurd c7 (by decide)) (fun c7 => ?_)
        refine q_aload0 C dX3_leastTooMuch_7 ?_
        refine g_X3_9 C dX3_leastTooMuch_8 ?_
        refine q_iload1 C dX3_leastTooMuch_11 ?_
        refine q_ialdX (j := 3) C rfl (by decide) (by unfold vp_in; decide) dX3_leastTooMuch_12 ?_
        refine q_sipush (v := 2000) C dX3_leastTooMuch_13 (by decide) ?_
        refine q_icmp_le (tgt := 21) C dX3_leastTooMuch_16 (by decide) (fun c8 => ?_) (fun c8 => ?_)
        · refine q_iinc1 (dv := 1) C dX3_leastTooMuch_21 (by decide) (by decide) (by intro w h0 h; first | exact absurd rfl h0 | (cases h <;> rfl)) ?_
          refine q_cut M 24 [some (.ref (a 3)), some (.int (4 : Int32))] [] (fun hJ => by rw [show ((3 : Int32) + 1) = (4 : Int32) from by decide]; exact hJ) ?_
          refine q_goto (tgt := 2) C dX3_leastTooMuch_24 (by decide) ?_
          refine q_iload1 C dX3_leastTooMuch_2 ?_
          refine q_iconst (v := 4) C dX3_leastTooMuch_3 (by decide) ?_
          refine q_icmp_ge (tgt := 27) C dX3_leastTooMuch_4 (by decide) (fun c9 => ?_) (fun c9 => absurd (by decide) c9)
          refine q_bipush (v := -9) C dX3_leastTooMuch_27 (by decide) ?_
          exact q_iret C (by first | rfl | (rw [f_X3_leastTooMuch, if_pos c2, if_pos c4, if_pos c6, if_pos c8]; done) | (rw [f_X3_leastTooMuch, if_pos c2, if_pos c4, if_pos c6, if_pos c8]; rfl) | (simp only [f_X3_leastTooMuch, if_pos c2, if_pos c4, if_pos c6, if_pos c8]; done)) rfl dX3_leastTooMuch_29
        · refine q_iload1 C dX3_leastTooMuch_19 ?_
          exact q_iret C (by first | rfl | (rw [f_X3_leastTooMuch, if_pos c2, if_pos c4, if_pos c6, if_neg c8]; done) | (rw [f_X3_leastTooMuch, if_pos c2, if_pos c4, if_pos c6, if_neg c8]; rfl) | (simp only [f_X3_leastTooMuch, if_pos c2, if_pos c4, if_pos c6, if_neg c8]; done)) rfl dX3_leastTooMuch_20
      · refine q_iload1 C dX3_leastTooMuch_19 ?_
        exact q_iret C (by first | rfl | (rw [f_X3_leastTooMuch, if_pos c2, if_pos c4, if_neg c6]; done) | (rw [f_X3_leastTooMuch, if_pos c2, if_pos c4, if_neg c6]; rfl) | (simp only [f_X3_leastTooMuch, if_pos c2, if_pos c4, if_neg c6]; done)) rfl dX3_leastTooMuch_20
    · refine q_iload1 C dX3_leastTooMuch_19 ?_
      exact q_iret C (by first | rfl | (rw [f_X3_leastTooMuch, if_pos c2, if_neg c4]; done) | (rw [f_X3_leastTooMuch, if_pos c2, if_neg c4]; rfl) | (simp only [f_X3_leastTooMuch, if_pos c2, if_neg c4]; done)) rfl dX3_leastTooMuch_20
  · refine q_iload1 C dX3_leastTooMuch_19 ?_
    exact q_iret C (by first | rfl | (rw [f_X3_leastTooMuch, if_neg c2]; done) | (rw [f_X3_leastTooMuch, if_neg c2]; rfl) | (simp only [f_X3_leastTooMuch, if_neg c2]; done)) rfl dX3_leastTooMuch_20
def m_X3_findCause_1 (M : Mm) (u1 : Int32) : Mm := (if (f_X3_leastTooHot M) = (-9 : Int32) then (if (f_X3_leastTooMuch M) = (-9 : Int32) then (if (gI M 24 0) ≤ 0 then (if u1 ≤ 0 then (f_X3_setCause M (0 : Int32) (-9 : Int32)) else (if (gI M 20 2) = 0 then (f_X3_setCause M (4 : Int32) (2 : Int32)) else (f_X3_setCause M (0 : Int32) (-9 : Int32)))) else (if (gI M 24 3) = 0 then (f_X3_setCause M (3 : Int32) (3 : Int32)) else (if u1 ≤ 0 then (f_X3_setCause M (0 : Int32) (-9 : Int32)) else (if (gI M 20 2) = 0 then (f_X3_setCause M (4 : Int32) (2 : Int32)) else (f_X3_setCause M (0 : Int32) (-9 : Int32)))))) else (f_X3_setCause M (2 : Int32) (f_X3_leastTooMuch M))) else (f_X3_setCause M (1 : Int32) (f_X3_leastTooHot M)))
def f_X3_findCause (M : Mm) (u1 : Int32) : Mm := (if (f_X3_leastTooHot M) = (-9 : Int32) then (if (f_X3_leastTooMuch M) = (-9 : Int32) then (m_X3_findCause_1 M u1) else (sI (m_X3_findCause_1 M u1) 3 8 (1 : Int32))) else (sI (m_X3_findCause_1 M u1) 3 8 (1 : Int32)))
set_option maxHeartbeats 4000000 in
set_option maxRecDepth 100000 in
theorem c_X3_findCause (M : Mm) (u1 : Int32)  : MV yX3_findCause cX3_findCause 4 none 1 22 (fun a => [.ref (a 3), .int u1]) M (f_X3_findCause M u1) := by
  refine MV.intro (lv0 := fun a => [some (.ref (a 3)), some (.int u1), none, none]) (by decide) (fun a => ⟨(Nat.le_of_ble_eq_true rfl), rfl⟩) ?_
  intro p9 l9 e9 s9 m9 g9 b9 h9 c9 D9 A9 ct a C
  have C : Cx p9 s9 m9 g9 h9 c9 cX3_findCause 4 RX3 none D9 A9 ct a := C
  refine q_aload0 C dX3_findCause_0 ?_
  refine qc_VI C (c_X3_leastTooHot _ ) cw_X3_65 rfl rfl rfl rfl (Nat.le_of_ble_eq_true rfl) ⟨(Nat.le_of_ble_eq_true rfl), (Nat.le_of_ble_eq_true rfl)⟩ ⟨Nat.zero_le _, Nat.zero_le _⟩ dX3_findCause_1 ?_
  refine q_istore2 C dX3_findCause_4 (by decide) (by intro w h0 h; first | exact absurd rfl h0 | (cases h <;> rfl)) ?_
  refine q_aload0 C dX3_findCause_5 ?_
  refine qc_VI C (c_X3_leastTooMuch _ ) cw_X3_69 rfl rfl rfl rfl (Nat.le_of_ble_eq_true rfl) ⟨(Nat.le_of_ble_eq_true rfl), (Nat.le_of_ble_eq_true rfl)⟩ ⟨Nat.zero_le _, Nat.zero_le _⟩ dX3_findCause_6 ?_
  refine q_istore3 C dX3_findCause_9 (by decide) (by intro w h0 h; first | exact absurd rfl h0 | (cases h <;> rfl)) ?_
  refine q_iload2 C dX3_findCause_10 ?_
  refine q_bipush (v := -9) C dX3_findCause_11 (by decide) ?_
  refine q_cut (if (f_X3_leastTooHot M) = (-9 : Int32) then (if (f_X3_leastTooMuch M) = (-9 : Int32) then (if (gI M 24 0) ≤ 0 then (if u1 ≤ 0 then (f_X3_setCause M (0 : Int32) (-9 : Int32)) else (if (gI M 20 2) = 0 then (f_X3_setCause M (4 : Int32) (2 : Int32)) else (f_X3_setCause M (0 : Int32) (-9 : Int32)))) else (if (gI M 24 3) = 0 then (f_X3_setCause M (3 : Int32) (3 : Int32)) else (if u1 ≤ 0 then (f_X3_setCause M (0 : Int32) (-9 : Int32)) else (if (gI M 20 2) = 0 then (f_X3_setCause M (4 : Int32) (2 : Int32)) else (f_X3_setCause M (0 : Int32) (-9 : Int32)))))) else (f_X3_setCause M (2 : Int32) (f_X3_leastTooMuch M))) else (f_X3_setCause M (1 : Int32) (f_X3_leastTooHot M))) 96 [some (.ref (a 3)), none, some (.int (f_X3_leastTooHot M)), some (.int (f_X3_leastTooMuch M))] [] (fun hJ => ?_) ?_
  · refine q_icmp_eq (tgt := 25) C dX3_findCause_13 (by decide) (fun c1 => ?_) (fun c1 => ?_)
    · refine q_iload3 C dX3_findCause_25 ?_
      refine q_bipush (v := -9) C dX3_findCause_26 (by decide) ?_
      refine q_icmp_eq (tgt := 40) C dX3_findCause_28 (by decide) (fun c2 => ?_) (fun c2 => ?_)
      · refine q_aload0 C dX3_findCause_40 ?_
        refine g_X3_24 C dX3_findCause_41 ?_
        refine q_iconst (v := 0) C dX3_findCause_44 (by decide) ?_
        refine q_ialdX (j := 0) C rfl (by decide) (by unfold vp_in; decide) dX3_findCause_45 ?_
        refine q_if_le (tgt := 67) C dX3_findCause_46 (by decide) (fun c3 => ?_) (fun c3 => ?_)
        · refine q_iload1 C dX3_findCause_67 ?_
          refine q_if_le (tgt := 89) C dX3_findCause_68 (by decide) (fun c4 => ?_) (fun c4 => ?_)
          · refine q_aload0 C dX3_findCause_89 ?_
            refine q_iconst (v := 0) C dX3_findCause_90 (by decide) ?_
            refine q_bipush (v := -9) C dX3_findCause_91 (by decide) ?_
            refine qc_VV C (c_X3_setCause _ _ _) cw_X3_72 rfl rfl rfl rfl (Nat.le_of_ble_eq_true rfl) ⟨(Nat.le_of_ble_eq_true rfl), (Nat.le_of_ble_eq_true rfl)⟩ ⟨Nat.zero_le _, Nat.zero_le _⟩ dX3_findCause_93 ?_
            refine q_drop [some (.ref (a 3)), none, some (.int (f_X3_leastTooHot M)), some (.int (f_X3_leastTooMuch M))] (by repeat' (first | exact trivial | rfl | constructor)) ?_
            (try simp only [if_pos c1, if_pos c2, if_pos c3, if_pos c4] at hJ); exact hJ
          · refine q_aload0 C dX3_findCause_71 ?_
            refine g_X3_9 C dX3_findCause_72 ?_
            refine q_iconst (v := 2) C dX3_findCause_75 (by decide) ?_
            refine q_ialdX (j := 2) C rfl (by decide) (by unfold vp_in; decide) dX3_findCause_76 ?_
            refine q_if_ne (tgt := 89) C dX3_findCause_77 (by decide) (fun c5 => ?_) (fun c5 => ?_)
            · refine q_aload0 C dX3_findCause_89 ?_
              refine q_iconst (v := 0) C dX3_findCause_90 (by decide) ?_
              refine q_bipush (v := -9) C dX3_findCause_91 (by decide) ?_
              refine qc_VV C (c_X3_setCause _ _ _) cw_X3_72 rfl rfl rfl rfl (Nat.le_of_ble_eq_true rfl) ⟨(Nat.le_of_ble_eq_true rfl), (Nat.le_of_ble_eq_true rfl)⟩ ⟨Nat.zero_le _, Nat.zero_le _⟩ dX3_findCause_93 ?_
              refine q_drop [some (.ref (a 3)), none, some (.int (f_X3_leastTooHot M)), some (.int (f_X3_leastTooMuch M))] (by repeat' (first | exact trivial | rfl | constructor)) ?_
              (try simp only [if_pos c1, if_pos c2, if_pos c3, if_neg c4, if_neg c5] at hJ); exact hJ
            · refine q_aload0 C dX3_findCause_80 ?_
              refine q_iconst (v := 4) C dX3_findCause_81 (by decide) ?_
              refine q_iconst (v := 2) C dX3_findCause_82 (by decide) ?_
              refine qc_VV C (c_X3_setCause _ _ _) cw_X3_72 rfl rfl rfl rfl (Nat.le_of_ble_eq_true rfl) ⟨(Nat.le_of_ble_eq_true rfl), (Nat.le_of_ble_eq_true rfl)⟩ ⟨Nat.zero_le _, Nat.zero_le _⟩ dX3_findCause_83 ?_
              refine q_goto (tgt := 96) C dX3_findCause_86 (by decide) ?_
              refine q_drop [some (.ref (a 3)), none, some (.int (f_X3_leastTooHot M)), some (.int (f_X3_leastTooMuch M))] (by repeat' (first | exact trivial | rfl | constructor)) ?_
              (try simp only [if_pos c1, if_pos c2, if_pos c3, if_neg c4, if_pos c5] at hJ); exact hJ
        · refine q_aload0 C dX3_findCause_49 ?_
          refine g_X3_24 C dX3_findCause_50 ?_
          refine q_iconst (v := 3) C dX3_findCause_53 (by decide) ?_
          refine q_ialdX (j := 3) C rfl (by decide) (by unfold vp_in; decide) dX3_findCause_54 ?_
          refine q_if_ne (tgt := 67) C dX3_findCause_55 (by decide) (fun c6 => ?_) (fun c6 => ?_)
          · refine q_iload1 C dX3_findCause_67 ?_
            refine q_if_le (tgt := 89) C dX3_findCause_68 (by decide) (fun c7 => ?_) (fun c7 => ?_)
            · refine q_aload0 C dX3_findCause_89 ?_
              refine q_iconst (v := 0) C dX3_findCause_90 (by decide) ?_
              refine q_bipush (v := -9) C dX3_findCause_91 (by decide) ?_
              refine qc_VV C (c_X3_setCause _ _ _) cw_X3_72 rfl rfl rfl rfl (Nat.le_of_ble_eq_true rfl) ⟨(Nat.le_of_ble_eq_true rfl), (Nat.le_of_ble_eq_true rfl)⟩ ⟨Nat.zero_le _, Nat.zero_le _⟩ dX3_findCause_93 ?_
              refine q_drop [some (.ref (a 3)), none, some (.int (f_X3_leastTooHot M)), some (.int (f_X3_leastTooMuch M))] (by repeat' (first | exact trivial | rfl | constructor)) ?_
              (try simp only [if_pos c1, if_pos c2, if_neg c3, if_neg c6, if_pos c7] at hJ); exact hJ
            · refine q_aload0 C dX3_findCause_71 ?_
              refine g_X3_9 C dX3_findCause_72 ?_
              refine q_iconst (v := 2) C dX3_findCause_75 (by decide) ?_
              refine q_ialdX (j := 2) C rfl (by decide) (by unfold vp_in; decide) dX3_findCause_76 ?_
              refine q_if_ne (tgt := 89) C dX3_findCause_77 (by decide) (fun c8 => ?_) (fun c8 => ?_)
              · refine q_aload0 C dX3_findCause_89 ?_
                refine q_iconst (v := 0) C dX3_findCause_90 (by decide) ?_
                refine q_bipush (v := -9) C dX3_findCause_91 (by decide) ?_
                refine qc_VV C (c_X3_setCause _ _ _) cw_X3_72 rfl rfl rfl rfl (Nat.le_of_ble_eq_true rfl) ⟨(Nat.le_of_ble_eq_true rfl), (Nat.le_of_ble_eq_true rfl)⟩ ⟨Nat.zero_le _, Nat.zero_le _⟩ dX3_findCause_93 ?_
                refine q_drop [some (.ref (a 3)), none, some (.int (f_X3_leastTooHot M)), some (.int (f_X3_leastTooMuch M))] (by repeat' (first | exact trivial | rfl | constructor)) ?_
                (try simp only [if_pos c1, if_pos c2, if_neg c3, if_neg c6, if_neg c7, if_neg c8] at hJ); exact hJ
              · refine q_aload0 C dX3_findCause_80 ?_
                refine q_iconst (v := 4) C dX3_findCause_81 (by decide) ?_
                refine q_iconst (v := 2) C dX3_findCause_82 (by decide) ?_
                refine qc_VV C (c_X3_setCause _ _ _) cw_X3_72 rfl rfl rfl rfl (Nat.le_of_ble_eq_true rfl) ⟨(Nat.le_of_ble_eq_true rfl), (Nat.le_of_ble_eq_true rfl)⟩ ⟨Nat.zero_le _, Nat.zero_le _⟩ dX3_findCause_83 ?_
                refine q_goto (tgt := 96) C dX3_findCause_86 (by decide) ?_
                refine q_drop [some (.ref (a 3)), none, some (.int (f_X3_leastTooHot M)), some (.int (f_X3_leastTooMuch M))] (by repeat' (first | exact trivial | rfl | constructor)) ?_
                (try simp only [if_pos c1, if_pos c2, if_neg c3, if_neg c6, if_neg c7, if_pos c8] at hJ); exact hJ
          · refine q_aload0 C dX3_findCause_58 ?_
            refine q_iconst (v := 3) C dX3_findCause_59 (by decide) ?_
            refine q_iconst (v := 3) C dX3_findCause_60 (by decide) ?_
            refine qc_VV C (c_X3_setCause _ _ _) cw_X3_72 rfl rfl rfl rfl (Nat.le_of_ble_eq_true rfl) ⟨(Nat.le_of_ble_eq_true rfl), (Nat.le_of_ble_eq_true rfl)⟩ ⟨Nat.zero_le _, Nat.zero_le _⟩ dX3_findCause_61 ?_
            refine q_goto (tgt := 96) C dX3_findCause_64 (by decide) ?_
            refine q_drop [some (.ref (a 3)), none, some (.int (f_X3_leastTooHot M)), some (.int (f_X3_leastTooMuch M))] (by repeat' (first | exact trivial | rfl | constructor)) ?_
            (try simp only [if_pos c1, if_pos c2, if_neg c3, if_pos c6] at hJ); exact hJ
      · refine q_aload0 C dX3_findCause_31 ?_
        refine q_iconst (v := 2) C dX3_findCause_32 (by decide) ?_
        refine q_iload3 C dX3_findCause_33 ?_
        refine qc_VV C (c_X3_setCause _ _ _) cw_X3_72 rfl rfl rfl rfl (Nat.le_of_ble_eq_true rfl) ⟨(Nat.le_of_ble_eq_true rfl), (Nat.le_of_ble_eq_true rfl)⟩ ⟨Nat.zero_le _, Nat.zero_le _⟩ dX3_findCause_34 ?_
        refine q_goto (tgt := 96) C dX3_findCause_37 (by decide) ?_
        refine q_drop [some (.ref (a 3)), none, some (.int (f_X3_leastTooHot M)), some (.int (f_X3_leastTooMuch M))] (by repeat' (first | exact trivial | rfl | constructor)) ?_
        (try simp only [if_pos c1, if_neg c2] at hJ); exact hJ
    · refine q_aload0 C dX3_findCause_16 ?_
      refine q_iconst (v := 1) C dX3_findCause_17 (by decide) ?_
      refine q_iload2 C dX3_findCause_18 ?_
      refine qc_VV C (c_X3_setCause _ _ _) cw_X3_72 rfl rfl rfl rfl (Nat.le_of_ble_eq_true rfl) ⟨(Nat.le_of_ble_eq_true rfl), (Nat.le_of_ble_eq_true rfl)⟩ ⟨Nat.zero_le _, Nat.zero_le _⟩ dX3_findCause_19 ?_
      refine q_goto (tgt := 96) C dX3_findCause_22 (by decide) ?_
      refine q_drop [some (.ref (a 3)), none, some (.int (f_X3_leastTooHot M)), some (.int (f_X3_leastTooMuch M))] (by repeat' (first | exact trivial | rfl | constructor)) ?_
      (try simp only [if_neg c1] at hJ); exact hJ
  refine q_cut (m_X3_findCause_1 M u1) 96 [some (.ref (a 3)), none, some (.int (f_X3_leastTooHot M)), some (.int (f_X3_leastTooMuch M))] [] (fun hJ => hJ) ?_
  refine q_iload2 C dX3_findCause_96 ?_
  refine q_bipush (v := -9) C dX3_findCause_97 (by decide) ?_
  refine q_cut (if (f_X3_leastTooHot M) = (-9 : Int32) then (if (f_X3_leastTooMuch M) = (-9 : Int32) then (m_X3_findCause_1 M u1) else (sI (m_X3_findCause_1 M u1) 3 8 (1 : Int32))) else (sI (m_X3_findCause_1 M u1) 3 8 (1 : Int32))) 113 [none, none, none, none] [] (fun hJ => ?_) ?_
  · refine q_icmp_ne (tgt := 108) C dX3_findCause_99 (by decide) (fun c9 => ?_) (fun c9 => ?_)
    · refine q_aload0 C dX3_findCause_108 ?_
      refine q_iconst (v := 1) C dX3_findCause_109 (by decide) ?_
      refine p_X3_38 C (by repeat' first | exact bz_0 | exact bz_1 | assumption | apply bz_if) (by repeat' first | exact bzf_0 | exact bzf_1 | assumption | apply bzf_if) dX3_findCause_110 ?_
      refine q_drop [none, none, none, none] (by repeat' (first | exact trivial | rfl | constructor)) ?_
      (try simp only [if_neg c9] at hJ); exact hJ
    · refine q_iload3 C dX3_findCause_102 ?_
      refine q_bipush (v := -9) C dX3_findCause_103 (by decide) ?_
      refine q_icmp_eq (tgt := 113) C dX3_findCause_105 (by decide) (fun c10 => ?_) (fun c10 => ?_)
      · refine q_drop [none, none, none, none] (by repeat' (first | exact trivial | rfl | constructor)) ?_
        (try simp only [if_pos c9, if_pos c10] at hJ); exact hJ
      · refine q_aload0 C dX3_findCause_108 ?_
        refine q_iconst (v := 1) C dX3_findCause_109 (by decide) ?_
        refine p_X3_38 C (by repeat' first | exact bz_0 | exact bz_1 | assumption | apply bz_if) (by repeat' first | exact bzf_0 | exact bzf_1 | assumption | apply bzf_if) dX3_findCause_110 ?_
        refine q_drop [none, none, none, none] (by repeat' (first | exact trivial | rfl | constructor)) ?_
        (try simp only [if_pos c9, if_neg c10] at hJ); exact hJ
  exact q_vret C (by first | (rw [f_X3_findCause]; done) | rfl) dX3_findCause_113
def m_X3_addSums_1 (M : Mm) (u1 : Int32) (u2 : Int32) : Mm := (sJ (sJ (sJ M 25 0 ((gJ M 25 0) + (u1).toInt64)) 25 1 ((gJ (sJ M 25 0 ((gJ M 25 0) + (u1).toInt64)) 25 1) + (u2).toInt64)) 25 2 ((gJ (sJ (sJ M 25 0 ((gJ M 25 0) + (u1).toInt64)) 25 1 ((gJ (sJ M 25 0 ((gJ M 25 0) + (u1).toInt64)) 25 1) + (u2).toInt64)) 25 2) + ((gI (sJ (sJ M 25 0 ((gJ M 25 0) + (u1).toInt64)) 25 1 ((gJ (sJ M 25 0 ((gJ M 25 0) + (u1).toInt64)) 25 1) + (u2).toInt64)) 24 0)).toInt64))
def f_X3_addSums (M : Mm) (u1 : Int32) (u2 : Int32) : Mm := (sJ (sJ (m_X3_addSums_1 M u1 u2) 25 3 ((gJ (m_X3_addSums_1 M u1 u2) 25 3) + ((gI (m_X3_addSums_1 M u1 u2) 24 1)).toInt64)) 25 4 ((gJ (sJ (m_X3_addSums_1 M u1 u2) 25 3 ((gJ (m_X3_addSums_1 M u1 u2) 25 3) + ((gI (m_X3_addSums_1 M u1 u2) 24 1)).toInt64)) 25 4) + ((gI (sJ (m_X3_addSums_1 M u1 u2) 25 3 ((gJ (m_X3_addSums_1 M u1 u2) 25 3) + ((gI (m_X3_addSums_1 M u1 u2) 24 1)).toInt64)) 24 6)).toInt64))
set_option maxHeartbeats 4000000 in
set_option maxRecDepth 100000 in
theorem c_X3_addSums (M : Mm) (u1 : Int32) (u2 : Int32)  : MV yX3_addSums cX3_addSums 3 none 0 0 (fun a => [.ref (a 3), .int u1, .int u2]) M (f_X3_addSums M u1 u2) := by
  refine MV.intro (lv0 := fun a => [some (.ref (a 3)), some (.int u1), some (.int u2)]) (by decide) (fun a => ⟨(Nat.le_of_ble_eq_true rfl), rfl⟩) ?_
  intro p9 l9 e9 s9 m9 g9 b9 h9 c9 D9 A9 ct a C
  have C : Cx p9 s9 m9 g9 h9 c9 cX3_addSums 3 RX3 none D9 A9 ct a := C
  refine q_aload0 C dX3_addSums_0 ?_
  refine g_X3_27 C dX3_addSums_1 ?_
  refine q_iconst (v := 0) C dX3_addSums_4 (by decide) ?_
  refine q_dup2 C dX3_addSums_5 rfl rfl ?_
  refine q_laldX (j := 0) C rfl (by decide) (by unfold vp_in; decide) dX3_addSums_6 ?_
  refine q_iload1 C dX3_addSums_7 ?_
  refine q_i2l C dX3_addSums_8 ?_
  refine q_ladd C dX3_addSums_9 ?_
  refine q_lastX (j := 0) C rfl (by decide) (by unfold vp_in; decide) dX3_addSums_10 ?_
  refine q_aload0 C dX3_addSums_11 ?_
  refine g_X3_27 C dX3_addSums_12 ?_
  refine q_iconst (v := 1) C dX3_addSums_15 (by decide) ?_
  refine q_dup2 C dX3_addSums_16 rfl rfl ?_
  refine q_laldX (j := 1) C rfl (by decide) (by unfold vp_in; decide) dX3_addSums_17 ?_
  refine q_iload2 C dX3_addSums_18 ?_
  refine q_i2l C dX3_addSums_19 ?_
  refine q_ladd C dX3_addSums_20 ?_
  refine q_lastX (j := 1) C rfl (by decide) (by unfold vp_in; decide) dX3_addSums_21 ?_
  refine q_aload0 C dX3_addSums_22 ?_
  refine g_X3_27 C dX3_addSums_23 ?_
  refine q_iconst (v := 2) C dX3_addSums_26 (by decide) ?_
  refine q_dup2 C dX3_addSums_27 rfl rfl ?_
  refine q_laldX (j := 2) C rfl (by decide) (by unfold vp_in; decide) dX3_addSums_28 ?_
  refine q_aload0 C dX3_addSums_29 ?_
  refine g_X3_24 C dX3_addSums_30 ?_
  refine q_iconst (v := 0) C dX3_addSums_33 (by decide) ?_
  refine q_ialdX (j := 0) C rfl (by decide) (by unfold vp_in; decide) dX3_addSums_34 ?_
  refine q_i2l C dX3_addSums_35 ?_
  refine q_ladd C dX3_addSums_36 ?_
  refine q_lastX (j := 2) C rfl (by decide) (by unfold vp_in; decide) dX3_addSums_37 ?_
  refine q_cut (m_X3_addSums_1 M u1 u2) 38 [some (.ref (a 3)), some (.int u1), some (.int u2)] [] (fun hJ => hJ) ?_
  refine q_aload0 C dX3_addSums_38 ?_
  refine g_X3_27 C dX3_addSums_39 ?_
  refine q_iconst (v := 3) C dX3_addSums_42 (by decide) ?_
  refine q_dup2 C dX3_addSums_43 rfl rfl ?_
  refine q_laldX (j := 3) C rfl (by decide) (by unfold vp_in; decide) dX3_addSums_44 ?_
  refine q_aload0 C dX3_addSums_45 ?_
  refine g_X3_24 C dX3_addSums_46 ?_
  refine q_iconst (v := 1) C dX3_addSums_49 (by decide) ?_
  refine q_ialdX (j := 1) C rfl (by decide) (by unfold vp_in; decide) dX3_addSums_50 ?_
  refine q_i2l C dX3_addSums_51 ?_
  refine q_ladd C dX3_addSums_52 ?_
  refine q_lastX (j := 3) C rfl (by decide) (by unfold vp_in; decide) dX3_addSums_53 ?_
  refine q_aload0 C dX3_addSums_54 ?_
  refine g_X3_27 C dX3_addSums_55 ?_
  refine q_iconst (v := 4) C dX3_addSums_58 (by decide) ?_
  refine q_dup2 C dX3_addSums_59 rfl rfl ?_
  refine q_laldX (j := 4) C rfl (by decide) (by unfold vp_in; decide) dX3_addSums_60 ?_
  refine q_aload0 C dX3_addSums_61 ?_
  refine g_X3_24 C dX3_addSums_62 ?_
  refine q_bipush (v := 6) C dX3_addSums_65 (by decide) ?_
  refine q_ialdX (j := 6) C rfl (by decide) (by unfold vp_in; decide) dX3_addSums_67 ?_
  refine q_i2l C dX3_addSums_68 ?_
  refine q_ladd C dX3_addSums_69 ?_
  refine q_lastX (j := 4) C rfl (by decide) (by unfold vp_in; decide) dX3_addSums_70 ?_
  exact q_vret C (by first | (rw [f_X3_addSums]; done) | rfl) dX3_addSums_71
def m_X3_burn_1 (M : Mm) (u2 : Int32) (u3 : Int32) : Mm := (f_X3_handOn (sI (f_X3_passGas M (if (gI M 3 8) = 0 then u2 else (0 : Int32))).2 24 6 (f_X3_passGas M (if (gI M 3 8) = 0 then u2 else (0 : Int32))).1) u3)
def m_X3_burn_2 (M : Mm) (u1 : Int32) (u2 : Int32) (u3 : Int32) : Mm := (f_X3_addSums (f_X3_findCause (f_X3_tellOut (sI (m_X3_burn_1 M u2 u3) 20 0 ((gI (m_X3_burn_1 M u2 u3) 20 0) + u1))) (if (gI M 3 8) = 0 then u2 else (0 : Int32))) u1 (if (gI M 3 8) = 0 then u2 else (0 : Int32)))
def m_X3_burn_3 (M : Mm) (u1 : Int32) (u2 : Int32) (u3 : Int32) : Mm := (if (gI (m_X3_burn_2 M u1 u2 u3) 24 4) = 0 then (m_X3_burn_2 M u1 u2 u3) else (if (gI (m_X3_burn_2 M u1 u2 u3) 3 7) = (-9 : Int32) then (sI (m_X3_burn_2 M u1 u2 u3) 3 7 (gI (m_X3_burn_2 M u1 u2 u3) 3 6)) else (m_X3_burn_2 M u1 u2 u3)))
def f_X3_burn (M : Mm) (u1 : Int32) (u2 : Int32) (u3 : Int32) : Int32 × Mm := ((gI (sI (m_X3_burn_3 M u1 u2 u3) 3 6 ((gI (m_X3_burn_3 M u1 u2 u3) 3 6) + (1 : Int32))) 24 4), (sI (m_X3_burn_3 M u1 u2 u3) 3 6 ((gI (m_X3_burn_3 M u1 u2 u3) 3 6) + (1 : Int32))))
set_option maxHeartbeats 4000000 in
set_option maxRecDepth 100000 in
theorem c_X3_burn (M : Mm) (u1 : Int32) (u2 : Int32) (u3 : Int32)  : MI yX3_burn cX3_burn 5 (some .int) 2 45 (fun a => [.ref (a 3), .int u1, .int u2, .int u3]) M (f_X3_burn M u1 u2 u3).1 (f_X3_burn M u1 u2 u3).2 := by
  refine MI.intro (lv0 := fun a => [some (.ref (a 3)), some (.int u1), some (.int u2), some (.int u3), none]) (by decide) (fun a => ⟨(Nat.le_of_ble_eq_true rfl), rfl⟩) ?_
  intro p9 l9 e9 s9 m9 g9 b9 h9 c9 D9 A9 ct a C
  have C : Cx p9 s9 m9 g9 h9 c9 cX3_burn 5 RX3 (some .int) D9 A9 ct a := C
  refine q_aload0 C dX3_burn_0 ?_
  refine g_X3_38 C dX3_burn_1 ?_
  refine q_cut M 12 [some (.ref (a 3)), some (.int u1), none, some (.int u3), none] [.int (if (gI M 3 8) = 0 then u2 else (0 : Int32))] (fun hJ => ?_) ?_
  · refine q_if_eq (tgt := 11) C dX3_burn_4 (by decide) (fun c1 => ?_) (fun c1 => ?_)
    · refine q_iload2 C dX3_burn_11 ?_
      refine q_drop [some (.ref (a 3)), some (.int u1), none, some (.int u3), none] (by repeat' (first | exact trivial | rfl | constructor)) ?_
      (try simp only [if_pos c1] at hJ); exact hJ
    · refine q_iconst (v := 0) C dX3_burn_7 (by decide) ?_
      refine q_goto (tgt := 12) C dX3_burn_8 (by decide) ?_
      refine q_drop [some (.ref (a 3)), some (.int u1), none, some (.int u3), none] (by repeat' (first | exact trivial | rfl | constructor)) ?_
      (try simp only [if_neg c1] at hJ); exact hJ
  refine q_istore4 C dX3_burn_12 (by decide) (by intro w h0 h; first | exact absurd rfl h0 | (cases h <;> rfl)) ?_
  refine q_aload0 C dX3_burn_14 ?_
  refine g_X3_24 C dX3_burn_15 ?_
  refine q_bipush (v := 6) C dX3_burn_18 (by decide) ?_
  refine q_aload0 C dX3_burn_20 ?_
  refine q_iload4 C dX3_burn_21 ?_
  refine qc_VI C (c_X3_passGas _ _) cw_X3_45 rfl rfl rfl rfl (Nat.le_of_ble_eq_true rfl) ⟨(Nat.le_of_ble_eq_true rfl), (Nat.le_of_ble_eq_true rfl)⟩ ⟨Nat.zero_le _, Nat.zero_le _⟩ dX3_burn_23 ?_
  refine q_iastX (j := 6) C rfl (by decide) (by unfold vp_in; decide) dX3_burn_26 ?_
  refine q_aload0 C dX3_burn_27 ?_
  refine q_iload3 C dX3_burn_28 ?_
  refine qc_VV C (c_X3_handOn _ _) cw_X3_49 rfl rfl rfl rfl (Nat.le_of_ble_eq_true rfl) ⟨(Nat.le_of_ble_eq_true rfl), (Nat.le_of_ble_eq_true rfl)⟩ ⟨Nat.zero_le _, Nat.zero_le _⟩ dX3_burn_29 ?_
  refine q_cut (m_X3_burn_1 M u2 u3) 32 [some (.ref (a 3)), some (.int u1), none, some (.int u3), some (.int (if (gI M 3 8) = 0 then u2 else (0 : Int32)))] [] (fun hJ => hJ) ?_
  refine q_aload0 C dX3_burn_32 ?_
  refine g_X3_9 C dX3_burn_33 ?_
  refine q_iconst (v := 0) C dX3_burn_36 (by decide) ?_
  refine q_dup2 C dX3_burn_37 rfl rfl ?_
  refine q_ialdX (j := 0) C rfl (by decide) (by unfold vp_in; decide) dX3_burn_38 ?_
  refine q_iload1 C dX3_burn_39 ?_
  refine q_iadd C dX3_burn_40 ?_
  refine q_iastX (j := 0) C rfl (by decide) (by unfold vp_in; decide) dX3_burn_41 ?_
  refine q_aload0 C dX3_burn_42 ?_
  refine qc_VV C (c_X3_tellOut _ ) cw_X3_53 rfl rfl rfl rfl (Nat.le_of_ble_eq_true rfl) ⟨(Nat.le_of_ble_eq_true rfl), (Nat.le_of_ble_eq_true rfl)⟩ ⟨Nat.zero_le _, Nat.zero_le _⟩ dX3_burn_43 ?_
  refine q_aload0 C dX3_burn_46 ?_
  refine q_iload4 C dX3_burn_47 ?_
  refine qc_VV C (c_X3_findCause _ _) cw_X3_56 rfl rfl rfl rfl (Nat.le_of_ble_eq_true rfl) ⟨(Nat.le_of_ble_eq_true rfl), (Nat.le_of_ble_eq_true rfl)⟩ ⟨Nat.zero_le _, Nat.zero_le _⟩ dX3_burn_49 ?_
  refine q_aload0 C dX3_burn_52 ?_
  refine q_iload1 C dX3_burn_53 ?_
  refine q_iload4 C dX3_burn_54 ?_
  refine qc_VV C (c_X3_addSums _ _ _) cw_X3_59 rfl rfl rfl rfl (Nat.le_of_ble_eq_true rfl) ⟨(Nat.le_of_ble_eq_true rfl), (Nat.le_of_ble_eq_true rfl)⟩ ⟨Nat.zero_le _, Nat.zero_le _⟩ dX3_burn_56 ?_
  refine q_cut (m_X3_burn_2 M u1 u2 u3) 59 [some (.ref (a 3)), some (.int u1), none, some (.int u3), some (.int (if (gI M 3 8) = 0 then u2 else (0 : Int32)))] [] (fun hJ => hJ) ?_
  refine q_aload0 C dX3_burn_59 ?_
  refine g_X3_24 C dX3_burn_60 ?_
  refine q_iconst (v := 4) C dX3_burn_63 (by decide) ?_
  refine q_ialdX (j := 4) C rfl (by decide) (by unfold vp_in; decide) dX3_burn_64 ?_
  refine q_cut (if (gI (m_X3_burn_2 M u1 u2 u3) 24 4) = 0 then (m_X3_burn_2 M u1 u2 u3) else (if (gI (m_X3_burn_2 M u1 u2 u3) 3 7) = (-9 : Int32) then (sI (m_X3_burn_2 M u1 u2 u3) 3 7 (gI (m_X3_burn_2 M u1 u2 u3) 3 6)) else (m_X3_burn_2 M u1 u2 u3))) 85 [some (.ref (a 3)), none, none, none, none] [] (fun hJ => ?_) ?_
  · refine q_if_eq (tgt := 85) C dX3_burn_65 (by decide) (fun c2 => ?_) (fun c2 => ?_)
    · refine q_drop [some (.ref (a 3)), none, none, none, none] (by repeat' (first | exact trivial | rfl | constructor)) ?_
      (try simp only [if_pos c2] at hJ); exact hJ
    · refine q_aload0 C dX3_burn_68 ?_
      refine g_X3_35 C dX3_burn_69 ?_
      refine q_bipush (v := -9) C dX3_burn_72 (by decide) ?_
      refine q_icmp_ne (tgt := 85) C dX3_burn_74 (by decide) (fun c3 => ?_) (fun c3 => ?_)
      · refine q_drop [some (.ref (a 3)), none, none, none, none] (by repeat' (first | exact trivial | rfl | constructor)) ?_
        (try simp only [if_neg c2, if_neg c3] at hJ); exact hJ
      · refine q_aload0 C dX3_burn_77 ?_
        refine q_aload0 C dX3_burn_78 ?_
        refine g_X3_31 C dX3_burn_79 ?_
        refine p_X3_35 C  dX3_burn_82 ?_
        refine q_drop [some (.ref (a 3)), none, none, none, none] (by repeat' (first | exact trivial | rfl | constructor)) ?_
        (try simp only [if_neg c2, if_pos c3] at hJ); exact hJ
  refine q_cut (m_X3_burn_3 M u1 u2 u3) 85 [some (.ref (a 3)), none, none, none, none] [] (fun hJ => hJ) ?_
  refine q_aload0 C dX3_burn_85 ?_
  refine q_dup C dX3_burn_86 rfl ?_
  refine g_X3_31 C dX3_burn_87 ?_
  refine q_iconst (v := 1) C dX3_burn_90 (by decide) ?_
  refine q_iadd C dX3_burn_91 ?_
  refine p_X3_31 C  dX3_burn_92 ?_
  refine q_aload0 C dX3_burn_95 ?_
  refine g_X3_24 C dX3_burn_96 ?_
  refine q_iconst (v := 4) C dX3_burn_99 (by decide) ?_
  refine q_ialdX (j := 4) C rfl (by decide) (by unfold vp_in; decide) dX3_burn_100 ?_
  exact q_iret C (by first | (rw [f_X3_burn]; done) | rfl) (by first | (rw [f_X3_burn]; done) | rfl) dX3_burn_101
def b_X3_foldInto_1 (M : Mm) (i1 : Nat) (z1 : Int64) : Int64 := (f_X6_fold (f_X6_fold z1 ((gI M 20 i1)).toInt64) ((gI M 21 i1)).toInt64)
def f_X3_foldInto (M : Mm) (u1 : Int64) : Int64 := (itr (b_X3_foldInto_1 M) 4 u1)
set_option maxHeartbeats 4000000 in
set_option maxRecDepth 100000 in
theorem c_X3_foldInto (M : Mm) (u1 : Int64)  : MJ yX3_foldInto cX3_foldInto 6 (some .long) 1 23 (fun a => [.ref (a 3), .long u1]) M (f_X3_foldInto M u1) M := by
  refine MJ.intro (lv0 := fun a => [some (.ref (a 3)), some (.long u1), none, none, none, none]) (by decide) (fun a => ⟨(Nat.le_of_ble_eq_true rfl), rfl⟩) ?_
  intro p9 l9 e9 s9 m9 g9 b9 h9 c9 D9 A9 ct a C
  have C : Cx p9 s9 m9 g9 h9 c9 cX3_foldInto 6 RX3 (some .long) D9 A9 ct a := C
  refine q_lload1 C dX3_foldInto_0 ?_
  refine q_lstore3 C dX3_foldInto_1 (by decide) (by intro w h0 h; first | exact absurd rfl h0 | (cases h <;> rfl)) ?_
  refine q_iconst (v := 0) C dX3_foldInto_2 (by decide) ?_
  refine q_istore5 C dX3_foldInto_3 (by decide) (by intro w h0 h; first | exact absurd rfl h0 | (cases h <;> rfl)) ?_
  refine q_drop [some (.ref (a 3)), none, none, some (.long u1), none, some (.int (0 : Int32))] (by repeat' (first | exact trivial | rfl | constructor)) ?_
  refine q_loop 4 (b_X3_foldInto_1 M) (fun zz => M) (fun xx zz => [some (.ref (a 3)), none, none, some (.long zz), none, some (.int xx)]) u1  (fun i1 z1 hi1 ih1 => ?_) ?_
  · refine q_iload5 C dX3_foldInto_5 ?_
    refine q_iconst (v := 4) C dX3_foldInto_7 (by decide) ?_
    refine q_icmp_ge (tgt := 43) C dX3_foldInto_8 (by decide) (fun c1 => absurd c1 (nI_ge (b := 4) (by omega) (by omega))) (fun c1 => ?_)
    refine q_lload3 C dX3_foldInto_11 ?_
    refine q_aload0 C dX3_foldInto_12 ?_
    refine g_X3_9 C dX3_foldInto_13 ?_
    refine q_iload5 C dX3_foldInto_16 ?_
    refine q_ialdX (j := i1) C rfl (nI_clamp (by omega)) (vp_in_nI (by omega) (by first | decide | omega)) dX3_foldInto_18 ?_
    refine q_i2l C dX3_foldInto_19 ?_
    refine qc_NJ C (c_X6_fold _ _ _) nl_X3 ws_fold.1 ws_fold.2.1 ws_fold.2.2 hdy_fold rfl rfl (Nat.le_of_ble_eq_true rfl) ⟨(Nat.le_of_ble_eq_true rfl), (Nat.le_of_ble_eq_true rfl)⟩ ⟨Nat.zero_le _, Nat.zero_le _⟩ dX3_foldInto_20 ?_
    refine q_lstore3 C dX3_foldInto_23 (by decide) (by intro w h0 h; first | exact absurd rfl h0 | (cases h <;> rfl)) ?_
    refine q_lload3 C dX3_foldInto_24 ?_
    refine q_aload0 C dX3_foldInto_25 ?_
    refine g_X3_15 C dX3_foldInto_26 ?_
    refine q_iload5 C dX3_foldInto_29 ?_
    refine q_ialdX (j := i1) C rfl (nI_clamp (by omega)) (vp_in_nI (by omega) (by first | decide | omega)) dX3_foldInto_31 ?_
    refine q_i2l C dX3_foldInto_32 ?_
    refine qc_NJ C (c_X6_fold _ _ _) nl_X3 ws_fold.1 ws_fold.2.1 ws_fold.2.2 hdy_fold rfl rfl (Nat.le_of_ble_eq_true rfl) ⟨(Nat.le_of_ble_eq_true rfl), (Nat.le_of_ble_eq_true rfl)⟩ ⟨Nat.zero_le _, Nat.zero_le _⟩ dX3_foldInto_33 ?_
    refine q_lstore3 C dX3_foldInto_36 (by decide) (by intro w h0 h; first | exact absurd rfl h0 | (cases h <;> rfl)) ?_
    refine q_iinc5 (dv := 1) C dX3_foldInto_37 (by decide) (by decide) (by intro w h0 h; first | exact absurd rfl h0 | (cases h <;> rfl)) ?_
    refine q_goto (tgt := 5) C dX3_foldInto_40 (by decide) ?_
    exact ih1
  refine q_iload5 C dX3_foldInto_5 ?_
  refine q_iconst (v := 4) C dX3_foldInto_7 (by decide) ?_
  refine q_icmp_ge (tgt := 43) C dX3_foldInto_8 (by decide) (fun c2 => ?_) (fun c2 => absurd (Int32.le_refl _) c2)
  refine q_lload3 C dX3_foldInto_43 ?_
  exact q_lret C (by first | (rw [f_X3_foldInto]; done) | rfl) rfl dX3_foldInto_44
