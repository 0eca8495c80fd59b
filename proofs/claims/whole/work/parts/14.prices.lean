def b_J7_fill_d0a16_1 (u1 : Nat) (u2 : Int64) (i1 : Nat) (z1 : Mm) : Mm := (sJ z1 u1 i1 u2)
def f_J7_fill_d0a16 (M : Mm) (u1 nu1 : Nat) (u2 : Int64) : Mm := (itr (b_J7_fill_d0a16_1 u1 u2) nu1 M)
set_option maxHeartbeats 4000000 in
set_option maxRecDepth 100000 in
theorem c_J7_fill_d0a16 (M : Mm) (u1 nu1 : Nat) (u2 : Int64) (hs_u1 : SH[u1]? = some (.inr (1, nu1, 0))) (hn : nu1 < 2147483648) : MV yJ7_fill_d0a16 cJ7_fill_d0a16 5 none 0 0 (fun a => [.ref (a u1), .long u2]) M (f_J7_fill_d0a16 M u1 nu1 u2) := by
  refine MV.intro (lv0 := fun a => [some (.ref (a u1)), some (.long u2), none, none, none]) (by decide) (fun a => ⟨(Nat.le_of_ble_eq_true rfl), rfl⟩) ?_
  intro p9 l9 e9 s9 m9 g9 b9 h9 c9 D9 A9 ct a C
  have C : Cx p9 s9 m9 g9 h9 c9 cJ7_fill_d0a16 5 RJ7 none D9 A9 ct a := C
  refine q_iconst (v := 0) C dJ7_fill_d0a16_0 (by decide) ?_
  refine q_istore3 C dJ7_fill_d0a16_1 (by decide) (by intro w h0 h; first | exact absurd rfl h0 | (cases h <;> rfl)) ?_
  refine q_aload0 C dJ7_fill_d0a16_2 ?_
  refine q_alen (v := nI nu1) C hs_u1 (by decide) rfl dJ7_fill_d0a16_3 ?_
  refine q_istore4 C dJ7_fill_d0a16_4 (by decide) (by intro w h0 h; first | exact absurd rfl h0 | (cases h <;> rfl)) ?_
  refine q_loop nu1 (b_J7_fill_d0a16_1 u1 u2) (fun zz => zz) (fun xx zz => [some (.ref (a u1)), some (.long u2), none, some (.int xx), some (.int (nI nu1))]) M  (fun i1 z1 hi1 ih1 => ?_) ?_
  · refine q_iload3 C dJ7_fill_d0a16_6 ?_
    refine q_iload4 C dJ7_fill_d0a16_7 ?_
    refine q_icmp_ge (tgt := 22) C dJ7_fill_d0a16_9 (by decide) (fun c1 => absurd c1 (nI_ge (b := nu1) (by omega) (by omega))) (fun c1 => ?_)
    refine q_aload0 C dJ7_fill_d0a16_12 ?_
    refine q_iload3 C dJ7_fill_d0a16_13 ?_
    refine q_lload1 C dJ7_fill_d0a16_14 ?_
    refine q_lastX (j := i1) C hs_u1 (nI_clamp (by omega)) (vp_in_nI (by omega) (by first | decide | omega)) dJ7_fill_d0a16_15 ?_
    refine q_iinc3 (dv := 1) C dJ7_fill_d0a16_16 (by decide) (by decide) (by intro w h0 h; first | exact absurd rfl h0 | (cases h <;> rfl)) ?_
    refine q_goto (tgt := 6) C dJ7_fill_d0a16_19 (by decide) ?_
    exact ih1
  refine q_iload3 C dJ7_fill_d0a16_6 ?_
  refine q_iload4 C dJ7_fill_d0a16_7 ?_
  refine q_icmp_ge (tgt := 22) C dJ7_fill_d0a16_9 (by decide) (fun c2 => ?_) (fun c2 => absurd (Int32.le_refl _) c2)
  exact q_vret C (by first | (rw [f_J7_fill_d0a16]; done) | rfl) dJ7_fill_d0a16_22
def f_X4_rows (M : Mm)  : Int32 := (gI M 5 4)
set_option maxHeartbeats 4000000 in
set_option maxRecDepth 100000 in
theorem c_X4_rows (M : Mm)   : MI yX4_rows cX4_rows 1 (some .int) 0 0 (fun a => [.ref (a 5)]) M (f_X4_rows M) M := by
  refine MI.intro (lv0 := fun a => [some (.ref (a 5))]) (by decide) (fun a => ⟨(Nat.le_of_ble_eq_true rfl), rfl⟩) ?_
  intro p9 l9 e9 s9 m9 g9 b9 h9 c9 D9 A9 ct a C
  have C : Cx p9 s9 m9 g9 h9 c9 cX4_rows 1 RX4 (some .int) D9 A9 ct a := C
  refine q_aload0 C dX4_rows_0 ?_
  refine g_X4_28 C dX4_rows_1 ?_
  exact q_iret C (by first | (rw [f_X4_rows]; done) | rfl) rfl dX4_rows_4
def f_X4_has (M : Mm) (u1 : Int32) : Int32 := (gI M 32 (u1).toNatClampNeg)
set_option maxHeartbeats 4000000 in
set_option maxRecDepth 100000 in
theorem c_X4_has (M : Mm) (u1 : Int32) (h1 : vp_in u1 7) (hz : bz (gI M 32 u1.toNatClampNeg)) : MI yX4_has cX4_has 2 (some .boolean) 0 0 (fun a => [.ref (a 5), .int u1]) M (f_X4_has M u1) M := by
  refine MI.intro (lv0 := fun a => [some (.ref (a 5)), some (.int u1)]) (by decide) (fun a => ⟨(Nat.le_of_ble_eq_true rfl), rfl⟩) ?_
  intro p9 l9 e9 s9 m9 g9 b9 h9 c9 D9 A9 ct a C
  have C : Cx p9 s9 m9 g9 h9 c9 cX4_has 2 RX4 (some .boolean) D9 A9 ct a := C
  refine q_aload0 C dX4_has_0 ?_
  refine g_X4_9 C dX4_has_1 ?_
  refine q_iload1 C dX4_has_4 ?_
  refine q_zaldX (j := (u1).toNatClampNeg) C rfl rfl (by first | assumption | (simp only [gI_sI, gI_sJ, gI_ite]; simp; assumption) | (simp [gI_sI, gI_sJ, gI_ite]; assumption)) dX4_has_5 ?_
  exact q_zret C (by repeat' first | exact bz_0 | exact bz_1 | assumption | apply bz_if) (by first | (rw [f_X4_has]; done) | rfl) rfl dX4_has_6
def m_X4_layRow_1 (M : Mm) (u1 : Int32) : Mm := (if (gI M 32 (u1).toNatClampNeg) = 0 then (sI (sI (f_J7_fill_53178 M (34 + (u1).toNatClampNeg) 24 (0 : Int32)) 32 (u1).toNatClampNeg (1 : Int32)) 5 4 ((gI (sI (f_J7_fill_53178 M (34 + (u1).toNatClampNeg) 24 (0 : Int32)) 32 (u1).toNatClampNeg (1 : Int32)) 5 4) + (1 : Int32))) else (sI (f_J7_fill_53178 M (34 + (u1).toNatClampNeg) 24 (0 : Int32)) 32 (u1).toNatClampNeg (1 : Int32)))
def f_X4_layRow (M : Mm) (u1 : Int32) : Int32 × Mm := ((if (gI M 32 (u1).toNatClampNeg) = 0 then (0 : Int32) else (1 : Int32)), (m_X4_layRow_1 M u1))
set_option maxHeartbeats 4000000 in
set_option maxRecDepth 100000 in
theorem c_X4_layRow (M : Mm) (u1 : Int32) (h1 : vp_in u1 7) : MI yX4_layRow cX4_layRow 3 (some .int) 1 23 (fun a => [.ref (a 5), .int u1]) M (f_X4_layRow M u1).1 (f_X4_layRow M u1).2 := by
  refine MI.intro (lv0 := fun a => [some (.ref (a 5)), some (.int u1), none]) (by decide) (fun a => ⟨(Nat.le_of_ble_eq_true rfl), rfl⟩) ?_
  intro p9 l9 e9 s9 m9 g9 b9 h9 c9 D9 A9 ct a C
  have C : Cx p9 s9 m9 g9 h9 c9 cX4_layRow 3 RX4 (some .int) D9 A9 ct a := C
  refine q_aload0 C dX4_layRow_0 ?_
  refine g_X4_9 C dX4_layRow_1 ?_
  refine q_iload1 C dX4_layRow_4 ?_
  refine q_zaldX (j := (u1).toNatClampNeg) C rfl rfl (by first | assumption | (simp only [gI_sI, gI_sJ, gI_ite]; simp; assumption) | (simp [gI_sI, gI_sJ, gI_ite]; assumption)) dX4_layRow_5 ?_
  refine q_istore2 C dX4_layRow_6 (by decide) (by intro w h0 h; first | exact absurd rfl h0 | (cases h <;> rfl)) ?_
  refine q_aload0 C dX4_layRow_7 ?_
  refine g_X4_17 C dX4_layRow_8 ?_
  refine q_iload1 C dX4_layRow_11 ?_
  refine q_aaldX (j := (u1).toNatClampNeg) C rfl rfl (by first | assumption | (simp only [gI_sI, gI_sJ, gI_ite]; simp; assumption) | (simp [gI_sI, gI_sJ, gI_ite]; assumption)) dX4_layRow_12 ?_
  refine q_iconst (v := 0) C dX4_layRow_13 (by decide) ?_
  refine qc_SV C (c_J7_fill_53178 _ _ _ _ (sh_34 (by first | omega | exact vin_lt (by assumption))) (by first | assumption | exact vp_in_nI (by omega) (by decide) | omega | (unfold vp_in; decide) | decide)) cw_X4_32 rfl rfl (Nat.le_of_ble_eq_true rfl) ⟨(Nat.le_of_ble_eq_true rfl), (Nat.le_of_ble_eq_true rfl)⟩ ⟨Nat.zero_le _, Nat.zero_le _⟩ dX4_layRow_14 ?_
  refine q_aload0 C dX4_layRow_17 ?_
  refine g_X4_9 C dX4_layRow_18 ?_
  refine q_iload1 C dX4_layRow_21 ?_
  refine q_iconst (v := 1) C dX4_layRow_22 (by decide) ?_
  refine q_zastX (j := (u1).toNatClampNeg) C rfl rfl (by first | assumption | (simp only [gI_sI, gI_sJ, gI_ite]; simp; assumption) | (simp [gI_sI, gI_sJ, gI_ite]; assumption)) (by repeat' first | exact bz_0 | exact bz_1 | assumption | apply bz_if) dX4_layRow_23 ?_
  refine q_iload2 C dX4_layRow_24 ?_
  refine q_cut (if (gI M 32 (u1).toNatClampNeg) = 0 then (sI (sI (f_J7_fill_53178 M (34 + (u1).toNatClampNeg) 24 (0 : Int32)) 32 (u1).toNatClampNeg (1 : Int32)) 5 4 ((gI (sI (f_J7_fill_53178 M (34 + (u1).toNatClampNeg) 24 (0 : Int32)) 32 (u1).toNatClampNeg (1 : Int32)) 5 4) + (1 : Int32))) else (sI (f_J7_fill_53178 M (34 + (u1).toNatClampNeg) 24 (0 : Int32)) 32 (u1).toNatClampNeg (1 : Int32))) 38 [none, none, some (.int (gI M 32 (u1).toNatClampNeg))] [] (fun hJ => ?_) ?_
  · refine q_if_ne (tgt := 38) C dX4_layRow_25 (by decide) (fun c1 => ?_) (fun c1 => ?_)
    · refine q_drop [none, none, some (.int (gI M 32 (u1).toNatClampNeg))] (by repeat' (first | exact trivial | rfl | constructor)) ?_
      (try simp only [if_neg c1] at hJ); exact hJ
    · refine q_aload0 C dX4_layRow_28 ?_
      refine q_dup C dX4_layRow_29 rfl ?_
      refine g_X4_28 C dX4_layRow_30 ?_
      refine q_iconst (v := 1) C dX4_layRow_33 (by decide) ?_
      refine q_iadd C dX4_layRow_34 ?_
      refine p_X4_28 C  dX4_layRow_35 ?_
      refine q_drop [none, none, some (.int (gI M 32 (u1).toNatClampNeg))] (by repeat' (first | exact trivial | rfl | constructor)) ?_
      (try simp only [if_pos c1] at hJ); exact hJ
  refine q_cut (m_X4_layRow_1 M u1) 38 [none, none, some (.int (gI M 32 (u1).toNatClampNeg))] [] (fun hJ => hJ) ?_
  refine q_iload2 C dX4_layRow_38 ?_
  refine q_cut (m_X4_layRow_1 M u1) 47 [none, none, none] [.int (if (gI M 32 (u1).toNatClampNeg) = 0 then (0 : Int32) else (1 : Int32))] (fun hJ => ?_) ?_
  · refine q_if_eq (tgt := 46) C dX4_layRow_39 (by decide) (fun c2 => ?_) (fun c2 => ?_)
    · refine q_iconst (v := 0) C dX4_layRow_46 (by decide) ?_
      refine q_drop [none, none, none] (by repeat' (first | exact trivial | rfl | constructor)) ?_
      (try simp only [if_pos c2] at hJ); exact hJ
    · refine q_iconst (v := 1) C dX4_layRow_42 (by decide) ?_
      refine q_goto (tgt := 47) C dX4_layRow_43 (by decide) ?_
      refine q_drop [none, none, none] (by repeat' (first | exact trivial | rfl | constructor)) ?_
      (try simp only [if_neg c2] at hJ); exact hJ
  exact q_iret C (by first | (rw [f_X4_layRow]; done) | rfl) (by first | (rw [f_X4_layRow]; done) | rfl) dX4_layRow_47
def f_X4_drop (M : Mm) (u1 : Int32) : Mm := (sI (sI M 32 (u1).toNatClampNeg (0 : Int32)) 5 4 ((gI (sI M 32 (u1).toNatClampNeg (0 : Int32)) 5 4) - (1 : Int32)))
set_option maxHeartbeats 4000000 in
set_option maxRecDepth 100000 in
theorem c_X4_drop (M : Mm) (u1 : Int32) (h1 : vp_in u1 7) : MV yX4_drop cX4_drop 2 none 0 0 (fun a => [.ref (a 5), .int u1]) M (f_X4_drop M u1) := by
  refine MV.intro (lv0 := fun a => [some (.ref (a 5)), some (.int u1)]) (by decide) (fun a => ⟨(Nat.le_of_ble_eq_true rfl), rfl⟩) ?_
  intro p9 l9 e9 s9 m9 g9 b9 h9 c9 D9 A9 ct a C
  have C : Cx p9 s9 m9 g9 h9 c9 cX4_drop 2 RX4 none D9 A9 ct a := C
  refine q_aload0 C dX4_drop_0 ?_
  refine g_X4_9 C dX4_drop_1 ?_
  refine q_iload1 C dX4_drop_4 ?_
  refine q_iconst (v := 0) C dX4_drop_5 (by decide) ?_
  refine q_zastX (j := (u1).toNatClampNeg) C rfl rfl (by first | assumption | (simp only [gI_sI, gI_sJ, gI_ite]; simp; assumption) | (simp [gI_sI, gI_sJ, gI_ite]; assumption)) (by repeat' first | exact bz_0 | exact bz_1 | assumption | apply bz_if) dX4_drop_6 ?_
  refine q_aload0 C dX4_drop_7 ?_
  refine q_dup C dX4_drop_8 rfl ?_
  refine g_X4_28 C dX4_drop_9 ?_
  refine q_iconst (v := 1) C dX4_drop_12 (by decide) ?_
  refine q_isub C dX4_drop_13 ?_
  refine p_X4_28 C  dX4_drop_14 ?_
  exact q_vret C (by first | (rw [f_X4_drop]; done) | rfl) dX4_drop_17
def f_X4_set (M : Mm) (u1 : Int32) (u2 : Int32) (u3 : Int32) : Int32 × Mm := ((gI M (34 + (u1).toNatClampNeg) (u2).toNatClampNeg), (sI M (34 + (u1).toNatClampNeg) (u2).toNatClampNeg u3))
set_option maxHeartbeats 4000000 in
set_option maxRecDepth 100000 in
theorem c_X4_set (M : Mm) (u1 : Int32) (u2 : Int32) (u3 : Int32) (h1 : vp_in u1 7) (h2 : vp_in u2 24) : MI yX4_set cX4_set 5 (some .int) 0 0 (fun a => [.ref (a 5), .int u1, .int u2, .int u3]) M (f_X4_set M u1 u2 u3).1 (f_X4_set M u1 u2 u3).2 := by
  refine MI.intro (lv0 := fun a => [some (.ref (a 5)), some (.int u1), some (.int u2), some (.int u3), none]) (by decide) (fun a => ⟨(Nat.le_of_ble_eq_true rfl), rfl⟩) ?_
  intro p9 l9 e9 s9 m9 g9 b9 h9 c9 D9 A9 ct a C
  have C : Cx p9 s9 m9 g9 h9 c9 cX4_set 5 RX4 (some .int) D9 A9 ct a := C
  refine q_aload0 C dX4_set_0 ?_
  refine g_X4_17 C dX4_set_1 ?_
  refine q_iload1 C dX4_set_4 ?_
  refine q_aaldX (j := (u1).toNatClampNeg) C rfl rfl (by first | assumption | (simp only [gI_sI, gI_sJ, gI_ite]; simp; assumption) | (simp [gI_sI, gI_sJ, gI_ite]; assumption)) dX4_set_5 ?_
  refine q_iload2 C dX4_set_6 ?_
  refine q_ialdX (j := (u2).toNatClampNeg) C (sh_34 (by first | omega | exact vin_lt (by assumption))) rfl (by first | assumption | (simp only [gI_sI, gI_sJ, gI_ite]; simp; assumption) | (simp [gI_sI, gI_sJ, gI_ite]; assumption)) dX4_set_7 ?_
  refine q_istore4 C dX4_set_8 (by decide) (by intro w h0 h; first | exact absurd rfl h0 | (cases h <;> rfl)) ?_
  refine q_aload0 C dX4_set_10 ?_
  refine g_X4_17 C dX4_set_11 ?_
  refine q_iload1 C dX4_set_14 ?_
  refine q_aaldX (j := (u1).toNatClampNeg) C rfl rfl (by first | assumption | (simp only [gI_sI, gI_sJ, gI_ite]; simp; assumption) | (simp [gI_sI, gI_sJ, gI_ite]; assumption)) dX4_set_15 ?_
  refine q_iload2 C dX4_set_16 ?_
  refine q_iload3 C dX4_set_17 ?_
  refine q_iastX (j := (u2).toNatClampNeg) C (sh_34 (by first | omega | exact vin_lt (by assumption))) rfl (by first | assumption | (simp only [gI_sI, gI_sJ, gI_ite]; simp; assumption) | (simp [gI_sI, gI_sJ, gI_ite]; assumption)) dX4_set_18 ?_
  refine q_iload4 C dX4_set_19 ?_
  exact q_iret C (by first | (rw [f_X4_set]; done) | rfl) (by first | (rw [f_X4_set]; done) | rfl) dX4_set_21
def f_X4_move (M : Mm) (u1 : Int32) (u2 : Int32) (u3 : Int32) (u4 : Int32) (u5 : Int32) : Mm := (sA M (34 + (u3).toNatClampNeg) (va_cpy (gI M (34 + (u1).toNatClampNeg)) (gI M (34 + (u3).toNatClampNeg)) (u2).toNatClampNeg (u4).toNatClampNeg (u5).toNatClampNeg))
set_option maxHeartbeats 4000000 in
set_option maxRecDepth 100000 in
theorem c_X4_move (M : Mm) (u1 : Int32) (u2 : Int32) (u3 : Int32) (u4 : Int32) (u5 : Int32) (h1 : vp_in u1 7) (h3 : vp_in u3 7) (k1 : ¬ u2 < 0) (k2 : ¬ u4 < 0) (k3 : ¬ u5 < 0) (k4 : u2.toNatClampNeg + u5.toNatClampNeg ≤ 24) (k5 : u4.toNatClampNeg + u5.toNatClampNeg ≤ 24) : MV yX4_move cX4_move 6 none 1 40 (fun a => [.ref (a 5), .int u1, .int u2, .int u3, .int u4, .int u5]) M (f_X4_move M u1 u2 u3 u4 u5) := by
  refine MV.intro (lv0 := fun a => [some (.ref (a 5)), some (.int u1), some (.int u2), some (.int u3), some (.int u4), some (.int u5)]) (by decide) (fun a => ⟨(Nat.le_of_ble_eq_true rfl), rfl⟩) ?_
  intro p9 l9 e9 s9 m9 g9 b9 h9 c9 D9 A9 ct a C
  have C : Cx p9 s9 m9 g9 h9 c9 cX4_move 6 RX4 none D9 A9 ct a := C
  refine q_aload0 C dX4_move_0 ?_
  refine g_X4_17 C dX4_move_1 ?_
  refine q_iload1 C dX4_move_4 ?_
  refine q_aaldX (j := (u1).toNatClampNeg) C rfl rfl (by first | assumption | (simp only [gI_sI, gI_sJ, gI_ite]; simp; assumption) | (simp [gI_sI, gI_sJ, gI_ite]; assumption)) dX4_move_5 ?_
  refine q_iload2 C dX4_move_6 ?_
  refine q_aload0 C dX4_move_7 ?_
  refine g_X4_17 C dX4_move_8 ?_
  refine q_iload3 C dX4_move_11 ?_
  refine q_aaldX (j := (u3).toNatClampNeg) C rfl rfl (by first | assumption | (simp only [gI_sI, gI_sJ, gI_ite]; simp; assumption) | (simp [gI_sI, gI_sJ, gI_ite]; assumption)) dX4_move_12 ?_
  refine q_iload4 C dX4_move_13 ?_
  refine q_iload5 C dX4_move_15 ?_
  refine qc_copy C (sh_34 (by first | omega | exact vin_lt (by assumption))) (sh_34 (by first | omega | exact vin_lt (by assumption))) wm_X4_38 wcopyL (C.1.2.2.2.2 _ wcopy.1) wcopy.2.1 wcopy.2.2 k1 k2 k3 k4 k5 ⟨(Nat.le_of_ble_eq_true rfl), (Nat.le_of_ble_eq_true rfl)⟩ dX4_move_17 ?_
  exact q_vret C (by first | (rw [f_X4_move]; done) | rfl) dX4_move_20
def f_X4_setNeed (M : Mm) (u1 : Int32) (u2 : Int32) : Int32 × Mm := ((gI M 41 (u1).toNatClampNeg), (sI M 41 (u1).toNatClampNeg u2))
set_option maxHeartbeats 4000000 in
set_option maxRecDepth 100000 in
theorem c_X4_setNeed (M : Mm) (u1 : Int32) (u2 : Int32) (h1 : vp_in u1 24) : MI yX4_setNeed cX4_setNeed 4 (some .int) 0 0 (fun a => [.ref (a 5), .int u1, .int u2]) M (f_X4_setNeed M u1 u2).1 (f_X4_setNeed M u1 u2).2 := by
  refine MI.intro (lv0 := fun a => [some (.ref (a 5)), some (.int u1), some (.int u2), none]) (by decide) (fun a => ⟨(Nat.le_of_ble_eq_true rfl), rfl⟩) ?_
  intro p9 l9 e9 s9 m9 g9 b9 h9 c9 D9 A9 ct a C
  have C : Cx p9 s9 m9 g9 h9 c9 cX4_setNeed 4 RX4 (some .int) D9 A9 ct a := C
  refine q_aload0 C dX4_setNeed_0 ?_
  refine g_X4_20 C dX4_setNeed_1 ?_
  refine q_iload1 C dX4_setNeed_4 ?_
  refine q_ialdX (j := (u1).toNatClampNeg) C rfl rfl (by first | assumption | (simp only [gI_sI, gI_sJ, gI_ite]; simp; assumption) | (simp [gI_sI, gI_sJ, gI_ite]; assumption)) dX4_setNeed_5 ?_
  refine q_istore3 C dX4_setNeed_6 (by decide) (by intro w h0 h; first | exact absurd rfl h0 | (cases h <;> rfl)) ?_
  refine q_aload0 C dX4_setNeed_7 ?_
  refine g_X4_20 C dX4_setNeed_8 ?_
  refine q_iload1 C dX4_setNeed_11 ?_
  refine q_iload2 C dX4_setNeed_12 ?_
  refine q_iastX (j := (u1).toNatClampNeg) C rfl rfl (by first | assumption | (simp only [gI_sI, gI_sJ, gI_ite]; simp; assumption) | (simp [gI_sI, gI_sJ, gI_ite]; assumption)) dX4_setNeed_13 ?_
  refine q_iload3 C dX4_setNeed_14 ?_
  exact q_iret C (by first | (rw [f_X4_setNeed]; done) | rfl) (by first | (rw [f_X4_setNeed]; done) | rfl) dX4_setNeed_15
def f_X4_priceOf (u1 : Int64) : Int64 := (u1 >>> (((24 : Int32)).toInt64 &&& 63))
set_option maxHeartbeats 4000000 in
set_option maxRecDepth 100000 in
theorem c_X4_priceOf (M : Mm) (u1 : Int64)  : MJ yX4_priceOf cX4_priceOf 2 (some .long) 0 0 (fun a => [.long u1]) M (f_X4_priceOf u1) M := by
  refine MJ.intro (lv0 := fun a => [some (.long u1), none]) (by decide) (fun a => ⟨(Nat.le_of_ble_eq_true rfl), rfl⟩) ?_
  intro p9 l9 e9 s9 m9 g9 b9 h9 c9 D9 A9 ct a C
  have C : Cx p9 s9 m9 g9 h9 c9 cX4_priceOf 2 RX4 (some .long) D9 A9 ct a := C
  refine q_lload0 C dX4_priceOf_0 ?_
  refine q_bipush (v := 24) C dX4_priceOf_1 (by decide) ?_
  refine q_lshr C dX4_priceOf_3 ?_
  exact q_lret C (by first | (rw [f_X4_priceOf]; done) | rfl) rfl dX4_priceOf_4
def f_X4_bitsOf (u1 : Int64) : Int32 := ((u1 &&& (16777215 : Int64))).toInt32
set_option maxHeartbeats 4000000 in
set_option maxRecDepth 100000 in
theorem c_X4_bitsOf (M : Mm) (u1 : Int64)  : MI yX4_bitsOf cX4_bitsOf 2 (some .int) 0 0 (fun a => [.long u1]) M (f_X4_bitsOf u1) M := by
  refine MI.intro (lv0 := fun a => [some (.long u1), none]) (by decide) (fun a => ⟨(Nat.le_of_ble_eq_true rfl), rfl⟩) ?_
  intro p9 l9 e9 s9 m9 g9 b9 h9 c9 D9 A9 ct a C
  have C : Cx p9 s9 m9 g9 h9 c9 cX4_bitsOf 2 RX4 (some .int) D9 A9 ct a := C
  refine q_lload0 C dX4_bitsOf_0 ?_
  refine q_ldc2 C dX4_bitsOf_1 wk_X4_63 ?_
  refine q_land C dX4_bitsOf_4 ?_
  refine q_l2i C dX4_bitsOf_5 ?_
  exact q_iret C (by first | (rw [f_X4_bitsOf]; done) | rfl) rfl dX4_bitsOf_6
def b_X4_leastPrice_1 (M : Mm) (i1 : Nat) (z1 : Int64) : Int64 := (if 0 ≤ (lg_cmp (f_X4_priceOf (gJ M 42 i1)) (f_X4_priceOf z1)) then z1 else (gJ M 42 i1))
def f_X4_leastPrice (M : Mm)  : Int64 := (itr (b_X4_leastPrice_1 M) 25 (1152921504606846976 : Int64))
set_option maxHeartbeats 4000000 in
set_option maxRecDepth 100000 in
theorem c_X4_leastPrice (M : Mm)   : MJ yX4_leastPrice cX4_leastPrice 4 (some .long) 1 21 (fun a => [.ref (a 5)]) M (f_X4_leastPrice M) M := by
  refine MJ.intro (lv0 := fun a => [some (.ref (a 5)), none, none, none]) (by decide) (fun a => ⟨(Nat.le_of_ble_eq_true rfl), rfl⟩) ?_
  intro p9 l9 e9 s9 m9 g9 b9 h9 c9 D9 A9 ct a C
  have C : Cx p9 s9 m9 g9 h9 c9 cX4_leastPrice 4 RX4 (some .long) D9 A9 ct a := C
  refine q_ldc2 C dX4_leastPrice_0 wk_X4_44 ?_
  refine q_lstore1 C dX4_leastPrice_3 (by decide) (by intro w h0 h; first | exact absurd rfl h0 | (cases h <;> rfl)) ?_
  refine q_iconst (v := 0) C dX4_leastPrice_4 (by decide) ?_
  refine q_istore3 C dX4_leastPrice_5 (by decide) (by intro w h0 h; first | exact absurd rfl h0 | (cases h <;> rfl)) ?_
  refine q_loop 25 (b_X4_leastPrice_1 M) (fun zz => M) (fun xx zz => [some (.ref (a 5)), some (.long zz), none, some (.int xx)]) (1152921504606846976 : Int64)  (fun i1 z1 hi1 ih1 => ?_) ?_
  · refine q_iload3 C dX4_leastPrice_6 ?_
    refine q_bipush (v := 24) C dX4_leastPrice_7 (by decide) ?_
    refine q_icmp_gt (tgt := 42) C dX4_leastPrice_9 (by decide) (fun c1 => absurd c1 (nI_nlt (a := 24) (by omega) (by decide))) (fun c1 => ?_)
    refine q_aload0 C dX4_leastPrice_12 ?_
    refine g_X4_24 C dX4_leastPrice_13 ?_
    refine q_iload3 C dX4_leastPrice_16 ?_
    refine q_laldX (j := i1) C rfl (nI_clamp (by omega)) (vp_in_nI (by omega) (by first | decide | omega)) dX4_leastPrice_17 ?_
    refine qc_SJ C (c_X4_priceOf _ _) cw_X4_59 rfl rfl (Nat.le_of_ble_eq_true rfl) ⟨(Nat.le_of_ble_eq_true rfl), (Nat.le_of_ble_eq_true rfl)⟩ ⟨Nat.zero_le _, Nat.zero_le _⟩ dX4_leastPrice_18 ?_
    refine q_lload1 C dX4_leastPrice_21 ?_
    refine qc_SJ C (c_X4_priceOf _ _) cw_X4_59 rfl rfl (Nat.le_of_ble_eq_true rfl) ⟨(Nat.le_of_ble_eq_true rfl), (Nat.le_of_ble_eq_true rfl)⟩ ⟨Nat.zero_le _, Nat.zero_le _⟩ dX4_leastPrice_22 ?_
    refine q_lcmp C dX4_leastPrice_25 ?_
    refine q_cut M 36 [some (.ref (a 5)), some (.long (if 0 ≤ (lg_cmp (f_X4_priceOf (gJ M 42 i1)) (f_X4_priceOf z1)) then z1 else (gJ M 42 i1))), none, some (.int (nI i1))] [] (fun hJ => ?_) ?_
    · refine q_if_ge (tgt := 36) C dX4_leastPrice_26 (by decide) (fun c2 => ?_) (fun c2 => ?_)
      · (try simp only [if_pos c2] at hJ); exact hJ
      · refine q_aload0 C dX4_leastPrice_29 ?_
        refine g_X4_24 C dX4_leastPrice_30 ?_
        refine q_iload3 C dX4_leastPrice_33 ?_
        refine q_laldX (j := i1) C rfl (nI_clamp (by omega)) (vp_in_nI (by omega) (by first | decide | omega)) dX4_leastPrice_34 ?_
        refine q_lstore1 C dX4_leastPrice_35 (by decide) (by intro w h0 h; first | exact absurd rfl h0 | (cases h <;> rfl)) ?_
        (try simp only [if_neg c2] at hJ); exact hJ
    refine q_iinc3 (dv := 1) C dX4_leastPrice_36 (by decide) (by decide) (by intro w h0 h; first | exact absurd rfl h0 | (cases h <;> rfl)) ?_
    refine q_goto (tgt := 6) C dX4_leastPrice_39 (by decide) ?_
    exact ih1
  refine q_iload3 C dX4_leastPrice_6 ?_
  refine q_bipush (v := 24) C dX4_leastPrice_7 (by decide) ?_
  refine q_icmp_gt (tgt := 42) C dX4_leastPrice_9 (by decide) (fun c3 => ?_) (fun c3 => absurd (by decide) c3)
  refine q_lload1 C dX4_leastPrice_42 ?_
  exact q_lret C (by first | (rw [f_X4_leastPrice]; done) | rfl) rfl dX4_leastPrice_43
def m_X4_cheapest_1 (u1 : Int32) (i1 : Nat) (z1 : Mm) (i2 : Nat) (z2 : Mm) : Mm := (if (nI i2) ≤ 0 then z2 else (if (lg_cmp (gJ z2 42 (i2 - 1)) (1152921504606846976 : Int64)) = 0 then z2 else (sJ z2 42 i2 (if ((gJ z2 42 (i2 - 1)) + ((((gI z1 (34 + (u1).toNatClampNeg) i1)).toInt64 <<< (((24 : Int32)).toInt64 &&& 63)) + ((1 : Int64) <<< (((nI i1)).toInt64 &&& 63)))) < (gJ z2 42 i2) then ((gJ z2 42 (i2 - 1)) + ((((gI z1 (34 + (u1).toNatClampNeg) i1)).toInt64 <<< (((24 : Int32)).toInt64 &&& 63)) + ((1 : Int64) <<< (((nI i1)).toInt64 &&& 63)))) else (gJ z2 42 i2)))))
def m_X4_cheapest_2 (u1 : Int32) (u2 : Int32) (i1 : Nat) (z1 : Mm) (i2 : Nat) (z2 : Mm) : Mm := (if (gI (m_X4_cheapest_1 u1 i1 z1 i2 z2) 41 i1) ≤ ((nI i2) * u2) then (m_X4_cheapest_1 u1 i1 z1 i2 z2) else (sJ (m_X4_cheapest_1 u1 i1 z1 i2 z2) 42 i2 (1152921504606846976 : Int64)))
def b_X4_cheapest_2 (u1 : Int32) (u2 : Int32) (i1 : Nat) (z1 : Mm) (i2 : Nat) (z2 : Mm) : Mm := (m_X4_cheapest_2 u1 u2 i1 z1 i2 z2)
def b_X4_cheapest_1 (u1 : Int32) (u2 : Int32) (i1 : Nat) (z1 : Mm) : Mm := (itd (b_X4_cheapest_2 u1 u2 i1 z1) (i1 + 2) z1)
def l_X4_cheapest_1 (u1 : Int32) (u2 : Int32) (z1 : Mm) : Mm := itr (b_X4_cheapest_1 u1 u2) 24 z1
def f_X4_cheapest (M : Mm) (u1 : Int32) (u2 : Int32) : Int64 × Mm := ((f_X4_leastPrice (l_X4_cheapest_1 u1 u2 (sJ (f_J7_fill_d0a16 M 42 25 (1152921504606846976 : Int64)) 42 0 (0 : Int64)))), (l_X4_cheapest_1 u1 u2 (sJ (f_J7_fill_d0a16 M 42 25 (1152921504606846976 : Int64)) 42 0 (0 : Int64))))
set_option maxHeartbeats 4000000 in
set_option maxRecDepth 100000 in
theorem c_X4_cheapest (M : Mm) (u1 : Int32) (u2 : Int32) (h1 : vp_in u1 7) : MJ yX4_cheapest cX4_cheapest 7 (some .long) 2 44 (fun a => [.ref (a 5), .int u1, .int u2]) M (f_X4_cheapest M u1 u2).1 (f_X4_cheapest M u1 u2).2 := by
  refine MJ.intro (lv0 := fun a => [some (.ref (a 5)), some (.int u1), some (.int u2), none, none, none, none]) (by decide) (fun a => ⟨(Nat.le_of_ble_eq_true rfl), rfl⟩) ?_
  intro p9 l9 e9 s9 m9 g9 b9 h9 c9 D9 A9 ct a C
  have C : Cx p9 s9 m9 g9 h9 c9 cX4_cheapest 7 RX4 (some .long) D9 A9 ct a := C
  refine q_aload0 C dX4_cheapest_0 ?_
  refine g_X4_24 C dX4_cheapest_1 ?_
  refine q_ldc2 C dX4_cheapest_4 wk_X4_44 ?_
  refine qc_SV C (c_J7_fill_d0a16 _ _ _ _ rfl (by first | assumption | exact vp_in_nI (by omega) (by decide) | omega | (unfold vp_in; decide) | decide)) cw_X4_46 rfl rfl (Nat.le_of_ble_eq_true rfl) ⟨(Nat.le_of_ble_eq_true rfl), (Nat.le_of_ble_eq_true rfl)⟩ ⟨Nat.zero_le _, Nat.zero_le _⟩ dX4_cheapest_7 ?_
  refine q_aload0 C dX4_cheapest_10 ?_
  refine g_X4_24 C dX4_cheapest_11 ?_
  refine q_iconst (v := 0) C dX4_cheapest_14 (by decide) ?_
  refine q_lconst (v := 0) C dX4_cheapest_15 (by decide) ?_
  refine q_lastX (j := 0) C rfl (by decide) (by unfold vp_in; decide) dX4_cheapest_16 ?_
  refine q_iconst (v := 0) C dX4_cheapest_17 (by decide) ?_
  refine q_istore3 C dX4_cheapest_18 (by decide) (by intro w h0 h; first | exact absurd rfl h0 | (cases h <;> rfl)) ?_
  refine q_loop 24 (b_X4_cheapest_1 u1 u2) (fun zz => zz) (fun xx zz => [some (.ref (a 5)), some (.int u1), some (.int u2), some (.int xx), none, none, none]) (sJ (f_J7_fill_d0a16 M 42 25 (1152921504606846976 : Int64)) 42 0 (0 : Int64))  (fun i1 z1 hi1 ih1 => ?_) ?_
  · refine q_iload3 C dX4_cheapest_19 ?_
    refine q_bipush (v := 24) C dX4_cheapest_20 (by decide) ?_
    refine q_icmp_ge (tgt := 138) C dX4_cheapest_22 (by decide) (fun c1 => absurd c1 (nI_ge (b := 24) (by omega) (by omega))) (fun c1 => ?_)
    refine q_aload0 C dX4_cheapest_25 ?_
    refine g_X4_17 C dX4_cheapest_26 ?_
    refine q_iload1 C dX4_cheapest_29 ?_
    refine q_aaldX (j := (u1).toNatClampNeg) C rfl rfl (by first | assumption | (simp only [gI_sI, gI_sJ, gI_ite]; simp; assumption) | (simp [gI_sI, gI_sJ, gI_ite]; assumption)) dX4_cheapest_30 ?_
    refine q_iload3 C dX4_cheapest_31 ?_
    refine q_ialdX (j := i1) C (sh_34 (by first | omega | exact vin_lt (by assumption))) (nI_clamp (by omega)) (vp_in_nI (by omega) (by first | decide | omega)) dX4_cheapest_32 ?_
    refine q_i2l C dX4_cheapest_33 ?_
    refine q_bipush (v := 24) C dX4_cheapest_34 (by decide) ?_
    refine q_lshl C dX4_cheapest_36 ?_
    refine q_lconst (v := 1) C dX4_cheapest_37 (by decide) ?_
    refine q_iload3 C dX4_cheapest_38 ?_
    refine q_lshl C dX4_cheapest_39 ?_
    refine q_ladd C dX4_cheapest_40 ?_
    refine q_lstore4 C dX4_cheapest_41 (by decide) (by intro w h0 h; first | exact absurd rfl h0 | (cases h <;> rfl)) ?_
    refine q_iload3 C dX4_cheapest_43 ?_
    refine q_iconst (v := 1) C dX4_cheapest_44 (by decide) ?_
    refine q_iadd C dX4_cheapest_45 ?_
    refine q_istore6 C dX4_cheapest_46 (by decide) (by intro w h0 h; first | exact absurd rfl h0 | (cases h <;> rfl)) ?_
    refine q_loopD (i1 + 2) (b_X4_cheapest_2 u1 u2 i1 z1) (fun zz => zz) (fun xx zz => [some (.ref (a 5)), some (.int u1), some (.int u2), some (.int (nI i1)), some (.long ((((gI z1 (34 + (u1).toNatClampNeg) i1)).toInt64 <<< (((24 : Int32)).toInt64 &&& 63)) + ((1 : Int64) <<< (((nI i1)).toInt64 &&& 63)))), none, some (.int xx)]) z1 (nI_hx i1) (fun i2 z2 hi2 ih2 => ?_) ?_
    · refine q_iload6 C dX4_cheapest_48 ?_
      refine q_if_lt (tgt := 132) C dX4_cheapest_50 (by decide) (fun c2 => absurd c2 (nI_pos (by omega))) (fun c2 => ?_)
      refine q_iload6 C dX4_cheapest_53 ?_
      refine q_cut (if (nI i2) ≤ 0 then z2 else (if (lg_cmp (gJ z2 42 (i2 - 1)) (1152921504606846976 : Int64)) = 0 then z2 else (sJ z2 42 i2 (if ((gJ z2 42 (i2 - 1)) + ((((gI z1 (34 + (u1).toNatClampNeg) i1)).toInt64 <<< (((24 : Int32)).toInt64 &&& 63)) + ((1 : Int64) <<< (((nI i1)).toInt64 &&& 63)))) < (gJ z2 42 i2) then ((gJ z2 42 (i2 - 1)) + ((((gI z1 (34 + (u1).toNatClampNeg) i1)).toInt64 <<< (((24 : Int32)).toInt64 &&& 63)) + ((1 : Int64) <<< (((nI i1)).toInt64 &&& 63)))) else (gJ z2 42 i2))))) 103 [some (.ref (a 5)), some (.int u1), some (.int u2), some (.int (nI i1)), some (.long ((((gI z1 (34 + (u1).toNatClampNeg) i1)).toInt64 <<< (((24 : Int32)).toInt64 &&& 63)) + ((1 : Int64) <<< (((nI i1)).toInt64 &&& 63)))), none, some (.int (nI i2))] [] (fun hJ => ?_) ?_
      · refine q_if_le (tgt := 103) C dX4_cheapest_55 (by decide) (fun c3 => ?_) (fun c3 => ?_)
        · (try simp only [if_pos c3] at hJ); exact hJ
        · refine q_aload0 C dX4_cheapest_58 ?_
          refine g_X4_24 C dX4_cheapest_59 ?_
          refine q_iload6 C dX4_cheapest_62 ?_
          refine q_iconst (v := 1) C dX4_cheapest_64 (by decide) ?_
          refine q_isub C dX4_cheapest_65 ?_
          refine q_laldX (j := (i2 - 1)) C rfl (nI_clampP (by assumption) (by omega)) (vinP (by assumption) (by omega) (by decide)) dX4_cheapest_66 ?_
          refine q_ldc2 C dX4_cheapest_67 wk_X4_44 ?_
          refine q_lcmp C dX4_cheapest_70 ?_
          refine q_if_eq (tgt := 103) C dX4_cheapest_71 (by decide) (fun c4 => ?_) (fun c4 => ?_)
          · (try simp only [if_neg c3, if_pos c4] at hJ); exact hJ
          · refine q_aload0 C dX4_cheapest_74 ?_
            refine g_X4_24 C dX4_cheapest_75 ?_
            refine q_iload6 C dX4_cheapest_78 ?_
            refine q_aload0 C dX4_cheapest_80 ?_
            refine g_X4_24 C dX4_cheapest_81 ?_
            refine q_iload6 C dX4_cheapest_84 ?_
            refine q_laldX (j := i2) C rfl (nI_clamp (by omega)) (vp_in_nI (by omega) (by first | decide | omega)) dX4_cheapest_86 ?_
            refine q_aload0 C dX4_cheapest_87 ?_
            refine g_X4_24 C dX4_cheapest_88 ?_
            refine q_iload6 C dX4_cheapest_91 ?_
            refine q_iconst (v := 1) C dX4_cheapest_93 (by decide) ?_
            refine q_isub C dX4_cheapest_94 ?_
            refine q_laldX (j := (i2 - 1)) C rfl (nI_clampP (by assumption) (by omega)) (vinP (by assumption) (by omega) (by decide)) dX4_cheapest_95 ?_
            refine q_lload4 C dX4_cheapest_96 ?_
            refine q_ladd C dX4_cheapest_98 ?_
            refine qc_mminL C wm_X4_49 ws_minL.1 ws_minL.2.1 ws_minL.2.2 ⟨(Nat.le_of_ble_eq_true rfl), (Nat.le_of_ble_eq_true rfl)⟩ ⟨Nat.zero_le _, Nat.zero_le _⟩ dX4_cheapest_99 ?_
            refine q_lastX (j := i2) C rfl (nI_clamp (by omega)) (vp_in_nI (by omega) (by first | decide | omega)) dX4_cheapest_102 ?_
            (try simp only [if_neg c3, if_neg c4] at hJ); exact hJ
      refine q_cut (m_X4_cheapest_1 u1 i1 z1 i2 z2) 103 [some (.ref (a 5)), some (.int u1), some (.int u2), some (.int (nI i1)), some (.long ((((gI z1 (34 + (u1).toNatClampNeg) i1)).toInt64 <<< (((24 : Int32)).toInt64 &&& 63)) + ((1 : Int64) <<< (((nI i1)).toInt64 &&& 63)))), none, some (.int (nI i2))] [] (fun hJ => hJ) ?_
      refine q_iload6 C dX4_cheapest_103 ?_
      refine q_iload2 C dX4_cheapest_105 ?_
      refine q_imul C dX4_cheapest_106 ?_
      refine q_aload0 C dX4_cheapest_107 ?_
      refine g_X4_20 C dX4_cheapest_108 ?_
      refine q_iload3 C dX4_cheapest_111 ?_
      refine q_ialdX (j := i1) C rfl (nI_clamp (by omega)) (vp_in_nI (by omega) (by first | decide | omega)) dX4_cheapest_112 ?_
      refine q_cut (if (gI (m_X4_cheapest_1 u1 i1 z1 i2 z2) 41 i1) ≤ ((nI i2) * u2) then (m_X4_cheapest_1 u1 i1 z1 i2 z2) else (sJ (m_X4_cheapest_1 u1 i1 z1 i2 z2) 42 i2 (1152921504606846976 : Int64))) 126 [some (.ref (a 5)), some (.int u1), some (.int u2), some (.int (nI i1)), some (.long ((((gI z1 (34 + (u1).toNatClampNeg) i1)).toInt64 <<< (((24 : Int32)).toInt64 &&& 63)) + ((1 : Int64) <<< (((nI i1)).toInt64 &&& 63)))), none, some (.int (nI i2))] [] (fun hJ => ?_) ?_
      · refine q_icmp_ge (tgt := 126) C dX4_cheapest_113 (by decide) (fun c5 => ?_) (fun c5 => ?_)
        · (try simp only [if_pos c5] at hJ); exact hJ
        · refine q_aload0 C dX4_cheapest_116 ?_
          refine g_X4_24 C dX4_cheapest_117 ?_
          refine q_iload6 C dX4_cheapest_120 ?_
          refine q_ldc2 C dX4_cheapest_122 wk_X4_44 ?_
          refine q_lastX (j := i2) C rfl (nI_clamp (by omega)) (vp_in_nI (by omega) (by first | decide | omega)) dX4_cheapest_125 ?_
          (try simp only [if_neg c5] at hJ); exact hJ
      refine q_cut (m_X4_cheapest_2 u1 u2 i1 z1 i2 z2) 126 [some (.ref (a 5)), some (.int u1), some (.int u2), some (.int (nI i1)), some (.long ((((gI z1 (34 + (u1).toNatClampNeg) i1)).toInt64 <<< (((24 : Int32)).toInt64 &&& 63)) + ((1 : Int64) <<< (((nI i1)).toInt64 &&& 63)))), none, some (.int (nI i2))] [] (fun hJ => hJ) ?_
      refine q_iinc6 (dv := -1) C dX4_cheapest_126 (by decide) (by decide) (by intro w h0 h; first | exact absurd rfl h0 | (cases h <;> rfl)) ?_
      refine q_goto (tgt := 48) C dX4_cheapest_129 (by decide) ?_
      exact ih2
    refine q_iload6 C dX4_cheapest_48 ?_
    refine q_if_lt (tgt := 132) C dX4_cheapest_50 (by decide) (fun c6 => ?_) (fun c6 => absurd (by decide) c6)
    refine q_iinc3 (dv := 1) C dX4_cheapest_132 (by decide) (by decide) (by intro w h0 h; first | exact absurd rfl h0 | (cases h <;> rfl)) ?_
    refine q_goto (tgt := 19) C dX4_cheapest_135 (by decide) ?_
    refine q_drop [some (.ref (a 5)), some (.int u1), some (.int u2), some (.int ((nI i1) + 1)), none, none, none] (by repeat' (first | exact trivial | rfl | constructor)) ?_
    exact ih1
  refine q_cut (l_X4_cheapest_1 u1 u2 (sJ (f_J7_fill_d0a16 M 42 25 (1152921504606846976 : Int64)) 42 0 (0 : Int64))) 19 [some (.ref (a 5)), some (.int u1), some (.int u2), some (.int (nI 24)), none, none, none] [] (fun hJ => hJ) ?_
  refine q_iload3 C dX4_cheapest_19 ?_
  refine q_bipush (v := 24) C dX4_cheapest_20 (by decide) ?_
  refine q_icmp_ge (tgt := 138) C dX4_cheapest_22 (by decide) (fun c7 => ?_) (fun c7 => absurd (Int32.le_refl _) c7)
  refine q_aload0 C dX4_cheapest_138 ?_
  refine qc_VJ C (c_X4_leastPrice _ ) cw_X4_55 rfl rfl rfl rfl (Nat.le_of_ble_eq_true rfl) ⟨(Nat.le_of_ble_eq_true rfl), (Nat.le_of_ble_eq_true rfl)⟩ ⟨Nat.zero_le _, Nat.zero_le _⟩ dX4_cheapest_139 ?_
  exact q_lret C (by first | (rw [f_X4_cheapest]; done) | rfl) (by first | (rw [f_X4_cheapest]; done) | rfl) dX4_cheapest_142
def b_X4_foldRow_1 (M : Mm) (u2 : Nat) (i1 : Nat) (z1 : Int64) : Int64 := (f_X6_fold z1 ((gI M u2 i1)).toInt64)
def f_X4_foldRow (M : Mm) (u1 : Int64) (u2 nu2 : Nat) : Int64 := (itr (b_X4_foldRow_1 M u2) nu2 u1)
set_option maxHeartbeats 4000000 in
set_option maxRecDepth 100000 in
theorem c_X4_foldRow (M : Mm) (u1 : Int64) (u2 nu2 : Nat) (hs_u2 : SH[u2]? = some (.inr (0, nu2, 0))) (hn : nu2 < 2147483648) : MJ yX4_foldRow cX4_foldRow 9 (some .long) 1 23 (fun a => [.long u1, .ref (a u2)]) M (f_X4_foldRow M u1 u2 nu2) M := by
  refine MJ.intro (lv0 := fun a => [some (.long u1), none, some (.ref (a u2)), none, none, none, none, none, none]) (by decide) (fun a => ⟨(Nat.le_of_ble_eq_true rfl), rfl⟩) ?_
  intro p9 l9 e9 s9 m9 g9 b9 h9 c9 D9 A9 ct a C
  have C : Cx p9 s9 m9 g9 h9 c9 cX4_foldRow 9 RX4 (some .long) D9 A9 ct a := C
  refine q_lload0 C dX4_foldRow_0 ?_
  refine q_lstore3 C dX4_foldRow_1 (by decide) (by intro w h0 h; first | exact absurd rfl h0 | (cases h <;> rfl)) ?_
  refine q_aload2 C dX4_foldRow_2 ?_
  refine q_astore5 C dX4_foldRow_3 (by decide) (by intro w h0 h; first | exact absurd rfl h0 | (cases h <;> rfl)) ?_
  refine q_aload5 C dX4_foldRow_5 ?_
  refine q_alen (v := nI nu2) C hs_u2 (by decide) rfl dX4_foldRow_7 ?_
  refine q_istore6 C dX4_foldRow_8 (by decide) (by intro w h0 h; first | exact absurd rfl h0 | (cases h <;> rfl)) ?_
  refine q_iconst (v := 0) C dX4_foldRow_10 (by decide) ?_
  refine q_istore7 C dX4_foldRow_11 (by decide) (by intro w h0 h; first | exact absurd rfl h0 | (cases h <;> rfl)) ?_
  refine q_drop [none, none, none, some (.long u1), none, some (.ref (a u2)), some (.int (nI nu2)), some (.int (0 : Int32)), none] (by repeat' (first | exact trivial | rfl | constructor)) ?_
  refine q_loop nu2 (b_X4_foldRow_1 M u2) (fun zz => M) (fun xx zz => [none, none, none, some (.long zz), none, some (.ref (a u2)), some (.int (nI nu2)), some (.int xx), none]) u1  (fun i1 z1 hi1 ih1 => ?_) ?_
  · refine q_iload7 C dX4_foldRow_13 ?_
    refine q_iload6 C dX4_foldRow_15 ?_
    refine q_icmp_ge (tgt := 41) C dX4_foldRow_17 (by decide) (fun c1 => absurd c1 (nI_ge (b := nu2) (by omega) (by omega))) (fun c1 => ?_)
    refine q_aload5 C dX4_foldRow_20 ?_
    refine q_iload7 C dX4_foldRow_22 ?_
    refine q_ialdX (j := i1) C hs_u2 (nI_clamp (by omega)) (vp_in_nI (by omega) (by first | decide | omega)) dX4_foldRow_24 ?_
    refine q_istore8 C dX4_foldRow_25 (by decide) (by intro w h0 h; first | exact absurd rfl h0 | (cases h <;> rfl)) ?_
    refine q_lload3 C dX4_foldRow_27 ?_
    refine q_iload8 C dX4_foldRow_28 ?_
    refine q_i2l C dX4_foldRow_30 ?_
    refine qc_NJ C (c_X6_fold _ _ _) nl_X4 ws_fold.1 ws_fold.2.1 ws_fold.2.2 hdy_fold rfl rfl (Nat.le_of_ble_eq_true rfl) ⟨(Nat.le_of_ble_eq_true rfl), (Nat.le_of_ble_eq_true rfl)⟩ ⟨Nat.zero_le _, Nat.zero_le _⟩ dX4_foldRow_31 ?_
    refine q_lstore3 C dX4_foldRow_34 (by decide) (by intro w h0 h; first | exact absurd rfl h0 | (cases h <;> rfl)) ?_
    refine q_iinc7 (dv := 1) C dX4_foldRow_35 (by decide) (by decide) (by intro w h0 h; first | exact absurd rfl h0 | (cases h <;> rfl)) ?_
    refine q_goto (tgt := 13) C dX4_foldRow_38 (by decide) ?_
    refine q_drop [none, none, none, some (.long (f_X6_fold z1 ((gI M u2 i1)).toInt64)), none, some (.ref (a u2)), some (.int (nI nu2)), some (.int ((nI i1) + 1)), none] (by repeat' (first | exact trivial | rfl | constructor)) ?_
    exact ih1
  refine q_iload7 C dX4_foldRow_13 ?_
  refine q_iload6 C dX4_foldRow_15 ?_
  refine q_icmp_ge (tgt := 41) C dX4_foldRow_17 (by decide) (fun c2 => ?_) (fun c2 => absurd (Int32.le_refl _) c2)
  refine q_lload3 C dX4_foldRow_41 ?_
  exact q_lret C (by first | (rw [f_X4_foldRow]; done) | rfl) rfl dX4_foldRow_42
def b_X4_foldInto_1 (M : Mm) (i1 : Nat) (z1 : Int64) : Int64 := (if (gI M 32 i1) = 0 then (f_X6_fold z1 (-1 : Int64)) else (f_X4_foldRow M z1 (34 + i1) 24))
def f_X4_foldInto (M : Mm) (u1 : Int64) : Int64 := (f_X4_foldRow M (itr (b_X4_foldInto_1 M) 7 u1) 41 24)
set_option maxHeartbeats 4000000 in
set_option maxRecDepth 100000 in
theorem c_X4_foldInto (M : Mm) (u1 : Int64)  : MJ yX4_foldInto cX4_foldInto 6 (some .long) 2 51 (fun a => [.ref (a 5), .long u1]) M (f_X4_foldInto M u1) M := by
  refine MJ.intro (lv0 := fun a => [some (.ref (a 5)), some (.long u1), none, none, none, none]) (by decide) (fun a => ⟨(Nat.le_of_ble_eq_true rfl), rfl⟩) ?_
  intro p9 l9 e9 s9 m9 g9 b9 h9 c9 D9 A9 ct a C
  have C : Cx p9 s9 m9 g9 h9 c9 cX4_foldInto 6 RX4 (some .long) D9 A9 ct a := C
  refine q_lload1 C dX4_foldInto_0 ?_
  refine q_lstore3 C dX4_foldInto_1 (by decide) (by intro w h0 h; first | exact absurd rfl h0 | (cases h <;> rfl)) ?_
  refine q_iconst (v := 0) C dX4_foldInto_2 (by decide) ?_
  refine q_istore5 C dX4_foldInto_3 (by decide) (by intro w h0 h; first | exact absurd rfl h0 | (cases h <;> rfl)) ?_
  refine q_drop [some (.ref (a 5)), none, none, some (.long u1), none, some (.int (0 : Int32))] (by repeat' (first | exact trivial | rfl | constructor)) ?_
  refine q_loop 7 (b_X4_foldInto_1 M) (fun zz => M) (fun xx zz => [some (.ref (a 5)), none, none, some (.long zz), none, some (.int xx)]) u1  (fun i1 z1 hi1 ih1 => ?_) ?_
  · refine q_iload5 C dX4_foldInto_5 ?_
    refine q_bipush (v := 7) C dX4_foldInto_7 (by decide) ?_
    refine q_icmp_ge (tgt := 50) C dX4_foldInto_9 (by decide) (fun c1 => absurd c1 (nI_ge (b := 7) (by omega) (by omega))) (fun c1 => ?_)
    refine q_aload0 C dX4_foldInto_12 ?_
    refine g_X4_9 C dX4_foldInto_13 ?_
    refine q_iload5 C dX4_foldInto_16 ?_
    refine q_zaldX (j := i1) C rfl (nI_clamp (by omega)) (vp_in_nI (by omega) (by first | decide | omega)) dX4_foldInto_18 ?_
    refine q_cut M 43 [some (.ref (a 5)), none, none, none, none, some (.int (nI i1))] [.long (if (gI M 32 i1) = 0 then (f_X6_fold z1 (-1 : Int64)) else (f_X4_foldRow M z1 (34 + i1) 24))] (fun hJ => ?_) ?_
    · refine q_if_eq (tgt := 36) C dX4_foldInto_19 (by decide) (fun c2 => ?_) (fun c2 => ?_)
      · refine q_lload3 C dX4_foldInto_36 ?_
        refine q_ldc2 C dX4_foldInto_37 wk_X4_69 ?_
        refine qc_NJ C (c_X6_fold _ _ _) nl_X4 ws_fold.1 ws_fold.2.1 ws_fold.2.2 hdy_fold rfl rfl (Nat.le_of_ble_eq_true rfl) ⟨(Nat.le_of_ble_eq_true rfl), (Nat.le_of_ble_eq_true rfl)⟩ ⟨Nat.zero_le _, Nat.zero_le _⟩ dX4_foldInto_40 ?_
        refine q_drop [some (.ref (a 5)), none, none, none, none, some (.int (nI i1))] (by repeat' (first | exact trivial | rfl | constructor)) ?_
        (try simp only [if_pos c2] at hJ); exact hJ
      · refine q_lload3 C dX4_foldInto_22 ?_
        refine q_aload0 C dX4_foldInto_23 ?_
        refine g_X4_17 C dX4_foldInto_24 ?_
        refine q_iload5 C dX4_foldInto_27 ?_
        refine q_aaldX (j := i1) C rfl (nI_clamp (by omega)) (vp_in_nI (by omega) (by first | decide | omega)) dX4_foldInto_29 ?_
        refine qc_SJ C (c_X4_foldRow _ _ _ _ (sh_34 (by first | omega | exact vin_lt (by assumption))) (by first | assumption | exact vp_in_nI (by omega) (by decide) | omega | (unfold vp_in; decide) | decide)) cw_X4_65 rfl rfl (Nat.le_of_ble_eq_true rfl) ⟨(Nat.le_of_ble_eq_true rfl), (Nat.le_of_ble_eq_true rfl)⟩ ⟨Nat.zero_le _, Nat.zero_le _⟩ dX4_foldInto_30 ?_
        refine q_goto (tgt := 43) C dX4_foldInto_33 (by decide) ?_
        refine q_drop [some (.ref (a 5)), none, none, none, none, some (.int (nI i1))] (by repeat' (first | exact trivial | rfl | constructor)) ?_
        (try simp only [if_neg c2] at hJ); exact hJ
    refine q_lstore3 C dX4_foldInto_43 (by decide) (by intro w h0 h; first | exact absurd rfl h0 | (cases h <;> rfl)) ?_
    refine q_iinc5 (dv := 1) C dX4_foldInto_44 (by decide) (by decide) (by intro w h0 h; first | exact absurd rfl h0 | (cases h <;> rfl)) ?_
    refine q_goto (tgt := 5) C dX4_foldInto_47 (by decide) ?_
    exact ih1
  refine q_iload5 C dX4_foldInto_5 ?_
  refine q_bipush (v := 7) C dX4_foldInto_7 (by decide) ?_
  refine q_icmp_ge (tgt := 50) C dX4_foldInto_9 (by decide) (fun c3 => ?_) (fun c3 => absurd (Int32.le_refl _) c3)
  refine q_lload3 C dX4_foldInto_50 ?_
  refine q_aload0 C dX4_foldInto_51 ?_
  refine g_X4_20 C dX4_foldInto_52 ?_
  refine qc_SJ C (c_X4_foldRow _ _ _ _ rfl (by first | assumption | exact vp_in_nI (by omega) (by decide) | omega | (unfold vp_in; decide) | decide)) cw_X4_65 rfl rfl (Nat.le_of_ble_eq_true rfl) ⟨(Nat.le_of_ble_eq_true rfl), (Nat.le_of_ble_eq_true rfl)⟩ ⟨Nat.zero_le _, Nat.zero_le _⟩ dX4_foldInto_55 ?_
  exact q_lret C (by first | (rw [f_X4_foldInto]; done) | rfl) rfl dX4_foldInto_58
