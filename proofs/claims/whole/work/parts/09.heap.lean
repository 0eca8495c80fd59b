def f_X2_strokes (M : Mm)  : Int32 := (gI M 1 4)
set_option maxHeartbeats 4000000 in
set_option maxRecDepth 100000 in
theorem c_X2_strokes (M : Mm)   : MI yX2_strokes cX2_strokes 1 (some .int) 0 0 (fun a => [.ref (a 1)]) M (f_X2_strokes M) M := by
  refine MI.intro (lv0 := fun a => [some (.ref (a 1))]) (by decide) (fun a => ⟨(Nat.le_of_ble_eq_true rfl), rfl⟩) ?_
  intro p9 l9 e9 s9 m9 g9 b9 h9 c9 D9 A9 ct a C
  have C : Cx p9 s9 m9 g9 h9 c9 cX2_strokes 1 RX2 (some .int) D9 A9 ct a := C
  refine q_aload0 C dX2_strokes_0 ?_
  refine g_X2_25 C dX2_strokes_1 ?_
  exact q_iret C (by first | (rw [f_X2_strokes]; done) | rfl) rfl dX2_strokes_4
def f_X2_isCut (M : Mm) (u1 : Int32) : Int32 := (gI M 9 (u1).toNatClampNeg)
set_option maxHeartbeats 4000000 in
set_option maxRecDepth 100000 in
theorem c_X2_isCut (M : Mm) (u1 : Int32) (h1 : vp_in u1 10) (hz : bz (gI M 9 u1.toNatClampNeg)) : MI yX2_isCut cX2_isCut 2 (some .boolean) 0 0 (fun a => [.ref (a 1), .int u1]) M (f_X2_isCut M u1) M := by
  refine MI.intro (lv0 := fun a => [some (.ref (a 1)), some (.int u1)]) (by decide) (fun a => ⟨(Nat.le_of_ble_eq_true rfl), rfl⟩) ?_
  intro p9 l9 e9 s9 m9 g9 b9 h9 c9 D9 A9 ct a C
  have C : Cx p9 s9 m9 g9 h9 c9 cX2_isCut 2 RX2 (some .boolean) D9 A9 ct a := C
  refine q_aload0 C dX2_isCut_0 ?_
  refine g_X2_18 C dX2_isCut_1 ?_
  refine q_iload1 C dX2_isCut_4 ?_
  refine q_zaldX (j := (u1).toNatClampNeg) C rfl rfl (by first | assumption | (simp only [gI_sI, gI_sJ, gI_ite]; simp; assumption) | (simp [gI_sI, gI_sJ, gI_ite]; assumption)) dX2_isCut_5 ?_
  exact q_zret C (by repeat' first | exact bz_0 | exact bz_1 | assumption | apply bz_if) (by first | (rw [f_X2_isCut]; done) | rfl) rfl dX2_isCut_6
def f_X2_tonsOn (M : Mm) (u1 : Int32) : Int32 := (gI M 7 (u1).toNatClampNeg)
set_option maxHeartbeats 4000000 in
set_option maxRecDepth 100000 in
theorem c_X2_tonsOn (M : Mm) (u1 : Int32) (h1 : vp_in u1 10) : MI yX2_tonsOn cX2_tonsOn 2 (some .int) 0 0 (fun a => [.ref (a 1), .int u1]) M (f_X2_tonsOn M u1) M := by
  refine MI.intro (lv0 := fun a => [some (.ref (a 1)), some (.int u1)]) (by decide) (fun a => ⟨(Nat.le_of_ble_eq_true rfl), rfl⟩) ?_
  intro p9 l9 e9 s9 m9 g9 b9 h9 c9 D9 A9 ct a C
  have C : Cx p9 s9 m9 g9 h9 c9 cX2_tonsOn 2 RX2 (some .int) D9 A9 ct a := C
  refine q_aload0 C dX2_tonsOn_0 ?_
  refine g_X2_9 C dX2_tonsOn_1 ?_
  refine q_iload1 C dX2_tonsOn_4 ?_
  refine q_ialdX (j := (u1).toNatClampNeg) C rfl rfl (by first | assumption | (simp only [gI_sI, gI_sJ, gI_ite]; simp; assumption) | (simp [gI_sI, gI_sJ, gI_ite]; assumption)) dX2_tonsOn_5 ?_
  exact q_iret C (by first | (rw [f_X2_tonsOn]; done) | rfl) rfl dX2_tonsOn_6
def f_X2_limeOn (M : Mm) (u1 : Int32) : Int32 := (gI M 8 (u1).toNatClampNeg)
set_option maxHeartbeats 4000000 in
set_option maxRecDepth 100000 in
theorem c_X2_limeOn (M : Mm) (u1 : Int32) (h1 : vp_in u1 10) : MI yX2_limeOn cX2_limeOn 2 (some .int) 0 0 (fun a => [.ref (a 1), .int u1]) M (f_X2_limeOn M u1) M := by
  refine MI.intro (lv0 := fun a => [some (.ref (a 1)), some (.int u1)]) (by decide) (fun a => ⟨(Nat.le_of_ble_eq_true rfl), rfl⟩) ?_
  intro p9 l9 e9 s9 m9 g9 b9 h9 c9 D9 A9 ct a C
  have C : Cx p9 s9 m9 g9 h9 c9 cX2_limeOn 2 RX2 (some .int) D9 A9 ct a := C
  refine q_aload0 C dX2_limeOn_0 ?_
  refine g_X2_15 C dX2_limeOn_1 ?_
  refine q_iload1 C dX2_limeOn_4 ?_
  refine q_ialdX (j := (u1).toNatClampNeg) C rfl rfl (by first | assumption | (simp only [gI_sI, gI_sJ, gI_ite]; simp; assumption) | (simp [gI_sI, gI_sJ, gI_ite]; assumption)) dX2_limeOn_5 ?_
  exact q_iret C (by first | (rw [f_X2_limeOn]; done) | rfl) rfl dX2_limeOn_6
def f_X2_spreadLaid (M : Mm) (u1 : Int32) : Int32 := (gI M 10 (u1).toNatClampNeg)
set_option maxHeartbeats 4000000 in
set_option maxRecDepth 100000 in
theorem c_X2_spreadLaid (M : Mm) (u1 : Int32) (h1 : vp_in u1 30) : MI yX2_spreadLaid cX2_spreadLaid 2 (some .int) 0 0 (fun a => [.ref (a 1), .int u1]) M (f_X2_spreadLaid M u1) M := by
  refine MI.intro (lv0 := fun a => [some (.ref (a 1)), some (.int u1)]) (by decide) (fun a => ⟨(Nat.le_of_ble_eq_true rfl), rfl⟩) ?_
  intro p9 l9 e9 s9 m9 g9 b9 h9 c9 D9 A9 ct a C
  have C : Cx p9 s9 m9 g9 h9 c9 cX2_spreadLaid 2 RX2 (some .int) D9 A9 ct a := C
  refine q_aload0 C dX2_spreadLaid_0 ?_
  refine g_X2_22 C dX2_spreadLaid_1 ?_
  refine q_iload1 C dX2_spreadLaid_4 ?_
  refine q_ialdX (j := (u1).toNatClampNeg) C rfl rfl (by first | assumption | (simp only [gI_sI, gI_sJ, gI_ite]; simp; assumption) | (simp [gI_sI, gI_sJ, gI_ite]; assumption)) dX2_spreadLaid_5 ?_
  exact q_iret C (by first | (rw [f_X2_spreadLaid]; done) | rfl) rfl dX2_spreadLaid_6
def f_X2_take (M : Mm) (u1 : Int32) : Int32 × Mm := ((gI M 7 (u1).toNatClampNeg), (sI (sI (sI M 7 (u1).toNatClampNeg (0 : Int32)) 8 (u1).toNatClampNeg (0 : Int32)) 9 (u1).toNatClampNeg (1 : Int32)))
set_option maxHeartbeats 4000000 in
set_option maxRecDepth 100000 in
theorem c_X2_take (M : Mm) (u1 : Int32) (h1 : vp_in u1 10) : MI yX2_take cX2_take 3 (some .int) 0 0 (fun a => [.ref (a 1), .int u1]) M (f_X2_take M u1).1 (f_X2_take M u1).2 := by
  refine MI.intro (lv0 := fun a => [some (.ref (a 1)), some (.int u1), none]) (by decide) (fun a => ⟨(Nat.le_of_ble_eq_true rfl), rfl⟩) ?_
  intro p9 l9 e9 s9 m9 g9 b9 h9 c9 D9 A9 ct a C
  have C : Cx p9 s9 m9 g9 h9 c9 cX2_take 3 RX2 (some .int) D9 A9 ct a := C
  refine q_aload0 C dX2_take_0 ?_
  refine g_X2_9 C dX2_take_1 ?_
  refine q_iload1 C dX2_take_4 ?_
  refine q_ialdX (j := (u1).toNatClampNeg) C rfl rfl (by first | assumption | (simp only [gI_sI, gI_sJ, gI_ite]; simp; assumption) | (simp [gI_sI, gI_sJ, gI_ite]; assumption)) dX2_take_5 ?_
  refine q_istore2 C dX2_take_6 (by decide) (by intro w h0 h; first | exact absurd rfl h0 | (cases h <;> rfl)) ?_
  refine q_aload0 C dX2_take_7 ?_
  refine g_X2_9 C dX2_take_8 ?_
  refine q_iload1 C dX2_take_11 ?_
  refine q_iconst (v := 0) C dX2_take_12 (by decide) ?_
  refine q_iastX (j := (u1).toNatClampNeg) C rfl rfl (by first | assumption | (simp only [gI_sI, gI_sJ, gI_ite]; simp; assumption) | (simp [gI_sI, gI_sJ, gI_ite]; assumption)) dX2_take_13 ?_
  refine q_aload0 C dX2_take_14 ?_
  refine g_X2_15 C dX2_take_15 ?_
  refine q_iload1 C dX2_take_18 ?_
  refine q_iconst (v := 0) C dX2_take_19 (by decide) ?_
  refine q_iastX (j := (u1).toNatClampNeg) C rfl rfl (by first | assumption | (simp only [gI_sI, gI_sJ, gI_ite]; simp; assumption) | (simp [gI_sI, gI_sJ, gI_ite]; assumption)) dX2_take_20 ?_
  refine q_aload0 C dX2_take_21 ?_
  refine g_X2_18 C dX2_take_22 ?_
  refine q_iload1 C dX2_take_25 ?_
  refine q_iconst (v := 1) C dX2_take_26 (by decide) ?_
  refine q_zastX (j := (u1).toNatClampNeg) C rfl rfl (by first | assumption | (simp only [gI_sI, gI_sJ, gI_ite]; simp; assumption) | (simp [gI_sI, gI_sJ, gI_ite]; assumption)) (by repeat' first | exact bz_0 | exact bz_1 | assumption | apply bz_if) dX2_take_27 ?_
  refine q_iload2 C dX2_take_28 ?_
  exact q_iret C (by first | (rw [f_X2_take]; done) | rfl) (by first | (rw [f_X2_take]; done) | rfl) dX2_take_29
def m_X2_lay_1 (M : Mm) (u1 : Int32) (u2 : Int32) (u3 : Int32) (i1 : Nat) (z1 : Mm) : Mm := (if (gI z1 9 i1) = 0 then (sI (sI z1 7 i1 ((gI z1 7 i1) + u1)) 8 i1 ((gI (sI z1 7 i1 ((gI z1 7 i1) + u1)) 8 i1) + (u2 + (u3 * (if (if ((gI M 1 4) - (gI M 1 4) / (2 : Int32) * (2 : Int32)) = (1 : Int32) then (1 : Int32) else (0 : Int32)) = 0 then (nI i1) else ((9 : Int32) - (nI i1))))))) else z1)
def b_X2_lay_1 (M : Mm) (u1 : Int32) (u2 : Int32) (u3 : Int32) (i1 : Nat) (z1 : Mm) : Mm := (m_X2_lay_1 M u1 u2 u3 i1 z1)
def m_X2_lay_3 (M : Mm) (u1 : Int32) (u2 : Int32) (u3 : Int32) : Mm := (sI (sI (itr (b_X2_lay_1 M u1 u2 u3) 10 M) 10 ((gI (itr (b_X2_lay_1 M u1 u2 u3) 10 M) 1 4)).toNatClampNeg ((if 0 ≤ u3 then u3 else 0 - u3) * (9 : Int32))) 1 4 ((gI (sI (itr (b_X2_lay_1 M u1 u2 u3) 10 M) 10 ((gI (itr (b_X2_lay_1 M u1 u2 u3) 10 M) 1 4)).toNatClampNeg ((if 0 ≤ u3 then u3 else 0 - u3) * (9 : Int32))) 1 4) + (1 : Int32)))
def f_X2_lay (M : Mm) (u1 : Int32) (u2 : Int32) (u3 : Int32) : Int32 × Mm := ((gI (m_X2_lay_3 M u1 u2 u3) 1 4), (m_X2_lay_3 M u1 u2 u3))
set_option maxHeartbeats 4000000 in
set_option maxRecDepth 100000 in
theorem c_X2_lay (M : Mm) (u1 : Int32) (u2 : Int32) (u3 : Int32) (hs : vp_in (gI M 1 4) 30) : MI yX2_lay cX2_lay 6 (some .int) 1 23 (fun a => [.ref (a 1), .int u1, .int u2, .int u3]) M (f_X2_lay M u1 u2 u3).1 (f_X2_lay M u1 u2 u3).2 := by
  refine MI.intro (lv0 := fun a => [some (.ref (a 1)), some (.int u1), some (.int u2), some (.int u3), none, none]) (by decide) (fun a => ⟨(Nat.le_of_ble_eq_true rfl), rfl⟩) ?_
  intro p9 l9 e9 s9 m9 g9 b9 h9 c9 D9 A9 ct a C
  have C : Cx p9 s9 m9 g9 h9 c9 cX2_lay 6 RX2 (some .int) D9 A9 ct a := C
  refine q_aload0 C dX2_lay_0 ?_
  refine g_X2_25 C dX2_lay_1 ?_
  refine q_iconst (v := 2) C dX2_lay_4 (by decide) ?_
  refine q_irem C dX2_lay_5 (by first | decide | assumption | (apply i64ne; assumption)) ?_
  refine q_iconst (v := 1) C dX2_lay_6 (by decide) ?_
  refine q_cut M 15 [some (.ref (a 1)), some (.int u1), some (.int u2), some (.int u3), none, none] [.int (if ((gI M 1 4) - (gI M 1 4) / (2 : Int32) * (2 : Int32)) = (1 : Int32) then (1 : Int32) else (0 : Int32))] (fun hJ => ?_) ?_
  · refine q_icmp_ne (tgt := 14) C dX2_lay_7 (by decide) (fun c1 => ?_) (fun c1 => ?_)
    · refine q_iconst (v := 0) C dX2_lay_14 (by decide) ?_
      (try simp only [if_neg c1] at hJ); exact hJ
    · refine q_iconst (v := 1) C dX2_lay_10 (by decide) ?_
      refine q_goto (tgt := 15) C dX2_lay_11 (by decide) ?_
      (try simp only [if_pos c1] at hJ); exact hJ
  refine q_istore4 C dX2_lay_15 (by decide) (by intro w h0 h; first | exact absurd rfl h0 | (cases h <;> rfl)) ?_
  refine q_iconst (v := 0) C dX2_lay_17 (by decide) ?_
  refine q_istore5 C dX2_lay_18 (by decide) (by intro w h0 h; first | exact absurd rfl h0 | (cases h <;> rfl)) ?_
  refine q_loop 10 (b_X2_lay_1 M u1 u2 u3) (fun zz => zz) (fun xx zz => [some (.ref (a 1)), some (.int u1), some (.int u2), some (.int u3), some (.int (if ((gI M 1 4) - (gI M 1 4) / (2 : Int32) * (2 : Int32)) = (1 : Int32) then (1 : Int32) else (0 : Int32))), some (.int xx)]) M  (fun i1 z1 hi1 ih1 => ?_) ?_
  · refine q_iload5 C dX2_lay_20 ?_
    refine q_bipush (v := 10) C dX2_lay_22 (by decide) ?_
    refine q_icmp_ge (tgt := 83) C dX2_lay_24 (by decide) (fun c2 => absurd c2 (nI_ge (b := 10) (by omega) (by omega))) (fun c2 => ?_)
    refine q_aload0 C dX2_lay_27 ?_
    refine g_X2_18 C dX2_lay_28 ?_
    refine q_iload5 C dX2_lay_31 ?_
    refine q_zaldX (j := i1) C rfl (nI_clamp (by omega)) (vp_in_nI (by omega) (by first | decide | omega)) dX2_lay_33 ?_
    refine q_cut (if (gI z1 9 i1) = 0 then (sI (sI z1 7 i1 ((gI z1 7 i1) + u1)) 8 i1 ((gI (sI z1 7 i1 ((gI z1 7 i1) + u1)) 8 i1) + (u2 + (u3 * (if (if ((gI M 1 4) - (gI M 1 4) / (2 : Int32) * (2 : Int32)) = (1 : Int32) then (1 : Int32) else (0 : Int32)) = 0 then (nI i1) else ((9 : Int32) - (nI i1))))))) else z1) 77 [some (.ref (a 1)), some (.int u1), some (.int u2), some (.int u3), some (.int (if ((gI M 1 4) - (gI M 1 4) / (2 : Int32) * (2 : Int32)) = (1 : Int32) then (1 : Int32) else (0 : Int32))), some (.int (nI i1))] [] (fun hJ => ?_) ?_
    · refine q_if_ne (tgt := 77) C dX2_lay_34 (by decide) (fun c3 => ?_) (fun c3 => ?_)
      · (try simp only [if_neg c3] at hJ); exact hJ
      · refine q_aload0 C dX2_lay_37 ?_
        refine g_X2_9 C dX2_lay_38 ?_
        refine q_iload5 C dX2_lay_41 ?_
        refine q_dup2 C dX2_lay_43 rfl rfl ?_
        refine q_ialdX (j := i1) C rfl (nI_clamp (by omega)) (vp_in_nI (by omega) (by first | decide | omega)) dX2_lay_44 ?_
        refine q_iload1 C dX2_lay_45 ?_
        refine q_iadd C dX2_lay_46 ?_
        refine q_iastX (j := i1) C rfl (nI_clamp (by omega)) (vp_in_nI (by omega) (by first | decide | omega)) dX2_lay_47 ?_
        refine q_aload0 C dX2_lay_48 ?_
        refine g_X2_15 C dX2_lay_49 ?_
        refine q_iload5 C dX2_lay_52 ?_
        refine q_dup2 C dX2_lay_54 rfl rfl ?_
        refine q_ialdX (j := i1) C rfl (nI_clamp (by omega)) (vp_in_nI (by omega) (by first | decide | omega)) dX2_lay_55 ?_
        refine q_iload2 C dX2_lay_56 ?_
        refine q_iload3 C dX2_lay_57 ?_
        refine q_iload4 C dX2_lay_58 ?_
        refine q_cut (sI z1 7 i1 ((gI z1 7 i1) + u1)) 73 [some (.ref (a 1)), some (.int u1), some (.int u2), some (.int u3), some (.int (if ((gI M 1 4) - (gI M 1 4) / (2 : Int32) * (2 : Int32)) = (1 : Int32) then (1 : Int32) else (0 : Int32))), some (.int (nI i1))] [.int (if (if ((gI M 1 4) - (gI M 1 4) / (2 : Int32) * (2 : Int32)) = (1 : Int32) then (1 : Int32) else (0 : Int32)) = 0 then (nI i1) else ((9 : Int32) - (nI i1))), .int u3, .int u2, .int (gI (sI z1 7 i1 ((gI z1 7 i1) + u1)) 8 i1), .int (nI i1), .ref (a 8)] (fun hJ => ?_) ?_
        · refine q_if_eq (tgt := 71) C dX2_lay_60 (by decide) (fun c4 => ?_) (fun c4 => ?_)
          · refine q_iload5 C dX2_lay_71 ?_
            (try simp only [if_pos c4] at hJ); exact hJ
          · refine q_bipush (v := 9) C dX2_lay_63 (by decide) ?_
            refine q_iload5 C dX2_lay_65 ?_
            refine q_isub C dX2_lay_67 ?_
            refine q_goto (tgt := 73) C dX2_lay_68 (by decide) ?_
            (try simp only [if_neg c4] at hJ); exact hJ
        refine q_imul C dX2_lay_73 ?_
        refine q_iadd C dX2_lay_74 ?_
        refine q_iadd C dX2_lay_75 ?_
        refine q_iastX (j := i1) C rfl (nI_clamp (by omega)) (vp_in_nI (by omega) (by first | decide | omega)) dX2_lay_76 ?_
        (try simp only [if_pos c3] at hJ); exact hJ
    refine q_cut (m_X2_lay_1 M u1 u2 u3 i1 z1) 77 [some (.ref (a 1)), some (.int u1), some (.int u2), some (.int u3), some (.int (if ((gI M 1 4) - (gI M 1 4) / (2 : Int32) * (2 : Int32)) = (1 : Int32) then (1 : Int32) else (0 : Int32))), some (.int (nI i1))] [] (fun hJ => hJ) ?_
    refine q_iinc5 (dv := 1) C dX2_lay_77 (by decide) (by decide) (by intro w h0 h; first | exact absurd rfl h0 | (cases h <;> rfl)) ?_
    refine q_goto (tgt := 20) C dX2_lay_80 (by decide) ?_
    exact ih1
  refine q_iload5 C dX2_lay_20 ?_
  refine q_bipush (v := 10) C dX2_lay_22 (by decide) ?_
  refine q_icmp_ge (tgt := 83) C dX2_lay_24 (by decide) (fun c5 => ?_) (fun c5 => absurd (Int32.le_refl _) c5)
  refine q_aload0 C dX2_lay_83 ?_
  refine g_X2_22 C dX2_lay_84 ?_
  refine q_aload0 C dX2_lay_87 ?_
  refine g_X2_25 C dX2_lay_88 ?_
  refine q_iload3 C dX2_lay_91 ?_
  refine qc_mabs C wm_X2_29 ws_abs.1 ws_abs.2.1 ws_abs.2.2 ⟨(Nat.le_of_ble_eq_true rfl), (Nat.le_of_ble_eq_true rfl)⟩ ⟨Nat.zero_le _, Nat.zero_le _⟩ dX2_lay_92 ?_
  refine q_bipush (v := 9) C dX2_lay_95 (by decide) ?_
  refine q_imul C dX2_lay_97 ?_
  refine q_iastX (j := ((gI (itr (b_X2_lay_1 M u1 u2 u3) 10 M) 1 4)).toNatClampNeg) C rfl rfl (by rw [itr_keepI (fun i z => by simp [b_X2_lay_1, m_X2_lay_1, gI_ite, gI_sI])]; exact hs) dX2_lay_98 ?_
  refine q_aload0 C dX2_lay_99 ?_
  refine q_dup C dX2_lay_100 rfl ?_
  refine g_X2_25 C dX2_lay_101 ?_
  refine q_iconst (v := 1) C dX2_lay_104 (by decide) ?_
  refine q_iadd C dX2_lay_105 ?_
  refine p_X2_25 C  dX2_lay_106 ?_
  refine q_cut (m_X2_lay_3 M u1 u2 u3) 109 [some (.ref (a 1)), some (.int u1), some (.int u2), some (.int u3), some (.int (if ((gI M 1 4) - (gI M 1 4) / (2 : Int32) * (2 : Int32)) = (1 : Int32) then (1 : Int32) else (0 : Int32))), some (.int (nI 10))] [] (fun hJ => hJ) ?_
  refine q_aload0 C dX2_lay_109 ?_
  refine g_X2_25 C dX2_lay_110 ?_
  exact q_iret C (by first | (rw [f_X2_lay]; done) | rfl) (by first | (rw [f_X2_lay]; done) | rfl) dX2_lay_113
def b_X2_spreadNow_1 (M : Mm) (i1 : Nat) (z1 : Int32 × Int32) : Int32 × Int32 := ((if (gI M 9 i1) = 0 then (if z1.1 = (-9 : Int32) then (gI M 8 i1) else (if (gI M 8 i1) < z1.1 then (gI M 8 i1) else z1.1)) else z1.1), (if (gI M 9 i1) = 0 then (if z1.2 < (gI M 8 i1) then (gI M 8 i1) else z1.2) else z1.2))
def l_X2_spreadNow_1 (M : Mm) (z1 : Int32 × Int32) : Int32 × Int32 := itr (b_X2_spreadNow_1 M) 10 z1
def f_X2_spreadNow (M : Mm)  : Int32 := (if (l_X2_spreadNow_1 M ((-9 : Int32), (-9 : Int32))).1 = (-9 : Int32) then (-9 : Int32) else ((l_X2_spreadNow_1 M ((-9 : Int32), (-9 : Int32))).2 - (l_X2_spreadNow_1 M ((-9 : Int32), (-9 : Int32))).1))
set_option maxHeartbeats 4000000 in
set_option maxRecDepth 100000 in
theorem c_X2_spreadNow (M : Mm)   : MI yX2_spreadNow cX2_spreadNow 4 (some .int) 1 23 (fun a => [.ref (a 1)]) M (f_X2_spreadNow M) M := by
  refine MI.intro (lv0 := fun a => [some (.ref (a 1)), none, none, none]) (by decide) (fun a => ⟨(Nat.le_of_ble_eq_true rfl), rfl⟩) ?_
  intro p9 l9 e9 s9 m9 g9 b9 h9 c9 D9 A9 ct a C
  have C : Cx p9 s9 m9 g9 h9 c9 cX2_spreadNow 4 RX2 (some .int) D9 A9 ct a := C
  refine q_bipush (v := -9) C dX2_spreadNow_0 (by decide) ?_
  refine q_istore1 C dX2_spreadNow_2 (by decide) (by intro w h0 h; first | exact absurd rfl h0 | (cases h <;> rfl)) ?_
  refine q_bipush (v := -9) C dX2_spreadNow_3 (by decide) ?_
  refine q_istore2 C dX2_spreadNow_5 (by decide) (by intro w h0 h; first | exact absurd rfl h0 | (cases h <;> rfl)) ?_
  refine q_iconst (v := 0) C dX2_spreadNow_6 (by decide) ?_
  refine q_istore3 C dX2_spreadNow_7 (by decide) (by intro w h0 h; first | exact absurd rfl h0 | (cases h <;> rfl)) ?_
  refine q_loop 10 (b_X2_spreadNow_1 M) (fun zz => M) (fun xx zz => [some (.ref (a 1)), some (.int zz.1), some (.int zz.2), some (.int xx)]) ((-9 : Int32), (-9 : Int32))  (fun i1 z1 hi1 ih1 => ?_) ?_
  · refine q_iload3 C dX2_spreadNow_8 ?_
    refine q_bipush (v := 10) C dX2_spreadNow_9 (by decide) ?_
    refine q_icmp_ge (tgt := 66) C dX2_spreadNow_11 (by decide) (fun c1 => absurd c1 (nI_ge (b := 10) (by omega) (by omega))) (fun c1 => ?_)
    refine q_aload0 C dX2_spreadNow_14 ?_
    refine g_X2_18 C dX2_spreadNow_15 ?_
    refine q_iload3 C dX2_spreadNow_18 ?_
    refine q_zaldX (j := i1) C rfl (nI_clamp (by omega)) (vp_in_nI (by omega) (by first | decide | omega)) dX2_spreadNow_19 ?_
    refine q_cut M 60 [some (.ref (a 1)), some (.int (if (gI M 9 i1) = 0 then (if z1.1 = (-9 : Int32) then (gI M 8 i1) else (if (gI M 8 i1) < z1.1 then (gI M 8 i1) else z1.1)) else z1.1)), some (.int (if (gI M 9 i1) = 0 then (if z1.2 < (gI M 8 i1) then (gI M 8 i1) else z1.2) else z1.2)), some (.int (nI i1))] [] (fun hJ => ?_) ?_
    · refine q_if_ne (tgt := 60) C dX2_spreadNow_20 (by decide) (fun c2 => ?_) (fun c2 => ?_)
      · (try simp only [if_neg c2] at hJ); exact hJ
      · refine q_iload1 C dX2_spreadNow_23 ?_
        refine q_bipush (v := -9) C dX2_spreadNow_24 (by decide) ?_
        refine q_cut M 48 [some (.ref (a 1)), none, some (.int z1.2), some (.int (nI i1))] [.int (if z1.1 = (-9 : Int32) then (gI M 8 i1) else (if (gI M 8 i1) < z1.1 then (gI M 8 i1) else z1.1))] (fun hJ => ?_) ?_
        · refine q_icmp_ne (tgt := 38) C dX2_spreadNow_26 (by decide) (fun c3 => ?_) (fun c3 => ?_)
          · refine q_iload1 C dX2_spreadNow_38 ?_
            refine q_aload0 C dX2_spreadNow_39 ?_
            refine g_X2_15 C dX2_spreadNow_40 ?_
            refine q_iload3 C dX2_spreadNow_43 ?_
            refine q_ialdX (j := i1) C rfl (nI_clamp (by omega)) (vp_in_nI (by omega) (by first | decide | omega)) dX2_spreadNow_44 ?_
            refine qc_mmin C wm_X2_35 ws_min.1 ws_min.2.1 ws_min.2.2 ⟨(Nat.le_of_ble_eq_true rfl), (Nat.le_of_ble_eq_true rfl)⟩ ⟨Nat.zero_le _, Nat.zero_le _⟩ dX2_spreadNow_45 ?_
            refine q_drop [some (.ref (a 1)), none, some (.int z1.2), some (.int (nI i1))] (by repeat' (first | exact trivial | rfl | constructor)) ?_
            (try simp only [if_neg c3] at hJ); exact hJ
          · refine q_aload0 C dX2_spreadNow_29 ?_
            refine g_X2_15 C dX2_spreadNow_30 ?_
            refine q_iload3 C dX2_spreadNow_33 ?_
            refine q_ialdX (j := i1) C rfl (nI_clamp (by omega)) (vp_in_nI (by omega) (by first | decide | omega)) dX2_spreadNow_34 ?_
            refine q_goto (tgt := 48) C dX2_spreadNow_35 (by decide) ?_
            refine q_drop [some (.ref (a 1)), none, some (.int z1.2), some (.int (nI i1))] (by repeat' (first | exact trivial | rfl | constructor)) ?_
            (try simp only [if_pos c3] at hJ); exact hJ
        refine q_istore1 C dX2_spreadNow_48 (by decide) (by intro w h0 h; first | exact absurd rfl h0 | (cases h <;> rfl)) ?_
        refine q_iload2 C dX2_spreadNow_49 ?_
        refine q_aload0 C dX2_spreadNow_50 ?_
        refine g_X2_15 C dX2_spreadNow_51 ?_
        refine q_iload3 C dX2_spreadNow_54 ?_
        refine q_ialdX (j := i1) C rfl (nI_clamp (by omega)) (vp_in_nI (by omega) (by first | decide | omega)) dX2_spreadNow_55 ?_
        refine qc_mmax C wm_X2_39 ws_max.1 ws_max.2.1 ws_max.2.2 ⟨(Nat.le_of_ble_eq_true rfl), (Nat.le_of_ble_eq_true rfl)⟩ ⟨Nat.zero_le _, Nat.zero_le _⟩ dX2_spreadNow_56 ?_
        refine q_istore2 C dX2_spreadNow_59 (by decide) (by intro w h0 h; first | exact absurd rfl h0 | (cases h <;> rfl)) ?_
        (try simp only [if_pos c2] at hJ); exact hJ
    refine q_iinc3 (dv := 1) C dX2_spreadNow_60 (by decide) (by decide) (by intro w h0 h; first | exact absurd rfl h0 | (cases h <;> rfl)) ?_
    refine q_goto (tgt := 8) C dX2_spreadNow_63 (by decide) ?_
    exact ih1
  refine q_cut M 8 [some (.ref (a 1)), some (.int (l_X2_spreadNow_1 M ((-9 : Int32), (-9 : Int32))).1), some (.int (l_X2_spreadNow_1 M ((-9 : Int32), (-9 : Int32))).2), some (.int (nI 10))] [] (fun hJ => hJ) ?_
  refine q_iload3 C dX2_spreadNow_8 ?_
  refine q_bipush (v := 10) C dX2_spreadNow_9 (by decide) ?_
  refine q_icmp_ge (tgt := 66) C dX2_spreadNow_11 (by decide) (fun c4 => ?_) (fun c4 => absurd (Int32.le_refl _) c4)
  refine q_iload1 C dX2_spreadNow_66 ?_
  refine q_bipush (v := -9) C dX2_spreadNow_67 (by decide) ?_
  refine q_cut M 80 [none, none, none, none] [.int (if (l_X2_spreadNow_1 M ((-9 : Int32), (-9 : Int32))).1 = (-9 : Int32) then (-9 : Int32) else ((l_X2_spreadNow_1 M ((-9 : Int32), (-9 : Int32))).2 - (l_X2_spreadNow_1 M ((-9 : Int32), (-9 : Int32))).1))] (fun hJ => ?_) ?_
  · refine q_icmp_ne (tgt := 77) C dX2_spreadNow_69 (by decide) (fun c5 => ?_) (fun c5 => ?_)
    · refine q_iload2 C dX2_spreadNow_77 ?_
      refine q_iload1 C dX2_spreadNow_78 ?_
      refine q_isub C dX2_spreadNow_79 ?_
      refine q_drop [none, none, none, none] (by repeat' (first | exact trivial | rfl | constructor)) ?_
      (try simp only [if_neg c5] at hJ); exact hJ
    · refine q_bipush (v := -9) C dX2_spreadNow_72 (by decide) ?_
      refine q_goto (tgt := 80) C dX2_spreadNow_74 (by decide) ?_
      refine q_drop [none, none, none, none] (by repeat' (first | exact trivial | rfl | constructor)) ?_
      (try simp only [if_pos c5] at hJ); exact hJ
  exact q_iret C (by first | (rw [f_X2_spreadNow]; done) | rfl) rfl dX2_spreadNow_80
def b_X2_empty_1  (i1 : Nat) (z1 : Mm) : Mm := (sI (sI (sI z1 7 i1 (0 : Int32)) 8 i1 (0 : Int32)) 9 i1 (0 : Int32))
def f_X2_empty (M : Mm)  : Int32 × Mm := ((gI M 1 4), (sI (itr b_X2_empty_1 10 M) 1 4 (0 : Int32)))
set_option maxHeartbeats 4000000 in
set_option maxRecDepth 100000 in
theorem c_X2_empty (M : Mm)   : MI yX2_empty cX2_empty 3 (some .int) 0 0 (fun a => [.ref (a 1)]) M (f_X2_empty M).1 (f_X2_empty M).2 := by
  refine MI.intro (lv0 := fun a => [some (.ref (a 1)), none, none]) (by decide) (fun a => ⟨(Nat.le_of_ble_eq_true rfl), rfl⟩) ?_
  intro p9 l9 e9 s9 m9 g9 b9 h9 c9 D9 A9 ct a C
  have C : Cx p9 s9 m9 g9 h9 c9 cX2_empty 3 RX2 (some .int) D9 A9 ct a := C
  refine q_aload0 C dX2_empty_0 ?_
  refine g_X2_25 C dX2_empty_1 ?_
  refine q_istore1 C dX2_empty_4 (by decide) (by intro w h0 h; first | exact absurd rfl h0 | (cases h <;> rfl)) ?_
  refine q_iconst (v := 0) C dX2_empty_5 (by decide) ?_
  refine q_istore2 C dX2_empty_6 (by decide) (by intro w h0 h; first | exact absurd rfl h0 | (cases h <;> rfl)) ?_
  refine q_loop 10 b_X2_empty_1 (fun zz => zz) (fun xx zz => [some (.ref (a 1)), some (.int (gI M 1 4)), some (.int xx)]) M  (fun i1 z1 hi1 ih1 => ?_) ?_
  · refine q_iload2 C dX2_empty_7 ?_
    refine q_bipush (v := 10) C dX2_empty_8 (by decide) ?_
    refine q_icmp_ge (tgt := 40) C dX2_empty_10 (by decide) (fun c1 => absurd c1 (nI_ge (b := 10) (by omega) (by omega))) (fun c1 => ?_)
    refine q_aload0 C dX2_empty_13 ?_
    refine g_X2_9 C dX2_empty_14 ?_
    refine q_iload2 C dX2_empty_17 ?_
    refine q_iconst (v := 0) C dX2_empty_18 (by decide) ?_
    refine q_iastX (j := i1) C rfl (nI_clamp (by omega)) (vp_in_nI (by omega) (by first | decide | omega)) dX2_empty_19 ?_
    refine q_aload0 C dX2_empty_20 ?_
    refine g_X2_15 C dX2_empty_21 ?_
    refine q_iload2 C dX2_empty_24 ?_
    refine q_iconst (v := 0) C dX2_empty_25 (by decide) ?_
    refine q_iastX (j := i1) C rfl (nI_clamp (by omega)) (vp_in_nI (by omega) (by first | decide | omega)) dX2_empty_26 ?_
    refine q_aload0 C dX2_empty_27 ?_
    refine g_X2_18 C dX2_empty_28 ?_
    refine q_iload2 C dX2_empty_31 ?_
    refine q_iconst (v := 0) C dX2_empty_32 (by decide) ?_
    refine q_zastX (j := i1) C rfl (nI_clamp (by omega)) (vp_in_nI (by omega) (by first | decide | omega)) (by repeat' first | exact bz_0 | exact bz_1 | assumption | apply bz_if) dX2_empty_33 ?_
    refine q_iinc2 (dv := 1) C dX2_empty_34 (by decide) (by decide) (by intro w h0 h; first | exact absurd rfl h0 | (cases h <;> rfl)) ?_
    refine q_goto (tgt := 7) C dX2_empty_37 (by decide) ?_
    exact ih1
  refine q_iload2 C dX2_empty_7 ?_
  refine q_bipush (v := 10) C dX2_empty_8 (by decide) ?_
  refine q_icmp_ge (tgt := 40) C dX2_empty_10 (by decide) (fun c2 => ?_) (fun c2 => absurd (Int32.le_refl _) c2)
  refine q_aload0 C dX2_empty_40 ?_
  refine q_iconst (v := 0) C dX2_empty_41 (by decide) ?_
  refine p_X2_25 C  dX2_empty_42 ?_
  refine q_iload1 C dX2_empty_45 ?_
  exact q_iret C (by first | (rw [f_X2_empty]; done) | rfl) (by first | (rw [f_X2_empty]; done) | rfl) dX2_empty_46
def b_X2_foldInto_1 (M : Mm) (i1 : Nat) (z1 : Int64) : Int64 := (f_X6_fold (f_X6_fold (f_X6_fold z1 ((gI M 7 i1)).toInt64) ((gI M 8 i1)).toInt64) (if (gI M 9 i1) = 0 then (0 : Int64) else (1 : Int64)))
def f_X2_foldInto (M : Mm) (u1 : Int64) : Int64 := (itr (b_X2_foldInto_1 M) 10 u1)
set_option maxHeartbeats 4000000 in
set_option maxRecDepth 100000 in
theorem c_X2_foldInto (M : Mm) (u1 : Int64)  : MJ yX2_foldInto cX2_foldInto 6 (some .long) 1 23 (fun a => [.ref (a 1), .long u1]) M (f_X2_foldInto M u1) M := by
  refine MJ.intro (lv0 := fun a => [some (.ref (a 1)), some (.long u1), none, none, none, none]) (by decide) (fun a => ⟨(Nat.le_of_ble_eq_true rfl), rfl⟩) ?_
  intro p9 l9 e9 s9 m9 g9 b9 h9 c9 D9 A9 ct a C
  have C : Cx p9 s9 m9 g9 h9 c9 cX2_foldInto 6 RX2 (some .long) D9 A9 ct a := C
  refine q_lload1 C dX2_foldInto_0 ?_
  refine q_lstore3 C dX2_foldInto_1 (by decide) (by intro w h0 h; first | exact absurd rfl h0 | (cases h <;> rfl)) ?_
  refine q_iconst (v := 0) C dX2_foldInto_2 (by decide) ?_
  refine q_istore5 C dX2_foldInto_3 (by decide) (by intro w h0 h; first | exact absurd rfl h0 | (cases h <;> rfl)) ?_
  refine q_drop [some (.ref (a 1)), none, none, some (.long u1), none, some (.int (0 : Int32))] (by repeat' (first | exact trivial | rfl | constructor)) ?_
  refine q_loop 10 (b_X2_foldInto_1 M) (fun zz => M) (fun xx zz => [some (.ref (a 1)), none, none, some (.long zz), none, some (.int xx)]) u1  (fun i1 z1 hi1 ih1 => ?_) ?_
  · refine q_iload5 C dX2_foldInto_5 ?_
    refine q_bipush (v := 10) C dX2_foldInto_7 (by decide) ?_
    refine q_icmp_ge (tgt := 64) C dX2_foldInto_9 (by decide) (fun c1 => absurd c1 (nI_ge (b := 10) (by omega) (by omega))) (fun c1 => ?_)
    refine q_lload3 C dX2_foldInto_12 ?_
    refine q_aload0 C dX2_foldInto_13 ?_
    refine g_X2_9 C dX2_foldInto_14 ?_
    refine q_iload5 C dX2_foldInto_17 ?_
    refine q_ialdX (j := i1) C rfl (nI_clamp (by omega)) (vp_in_nI (by omega) (by first | decide | omega)) dX2_foldInto_19 ?_
    refine q_i2l C dX2_foldInto_20 ?_
    refine qc_NJ C (c_X6_fold _ _ _) nl_X2 ws_fold.1 ws_fold.2.1 ws_fold.2.2 hdy_fold rfl rfl (Nat.le_of_ble_eq_true rfl) ⟨(Nat.le_of_ble_eq_true rfl), (Nat.le_of_ble_eq_true rfl)⟩ ⟨Nat.zero_le _, Nat.zero_le _⟩ dX2_foldInto_21 ?_
    refine q_lstore3 C dX2_foldInto_24 (by decide) (by intro w h0 h; first | exact absurd rfl h0 | (cases h <;> rfl)) ?_
    refine q_lload3 C dX2_foldInto_25 ?_
    refine q_aload0 C dX2_foldInto_26 ?_
    refine g_X2_15 C dX2_foldInto_27 ?_
    refine q_iload5 C dX2_foldInto_30 ?_
    refine q_ialdX (j := i1) C rfl (nI_clamp (by omega)) (vp_in_nI (by omega) (by first | decide | omega)) dX2_foldInto_32 ?_
    refine q_i2l C dX2_foldInto_33 ?_
    refine qc_NJ C (c_X6_fold _ _ _) nl_X2 ws_fold.1 ws_fold.2.1 ws_fold.2.2 hdy_fold rfl rfl (Nat.le_of_ble_eq_true rfl) ⟨(Nat.le_of_ble_eq_true rfl), (Nat.le_of_ble_eq_true rfl)⟩ ⟨Nat.zero_le _, Nat.zero_le _⟩ dX2_foldInto_34 ?_
    refine q_lstore3 C dX2_foldInto_37 (by decide) (by intro w h0 h; first | exact absurd rfl h0 | (cases h <;> rfl)) ?_
    refine q_lload3 C dX2_foldInto_38 ?_
    refine q_aload0 C dX2_foldInto_39 ?_
    refine g_X2_18 C dX2_foldInto_40 ?_
    refine q_iload5 C dX2_foldInto_43 ?_
    refine q_zaldX (j := i1) C rfl (nI_clamp (by omega)) (vp_in_nI (by omega) (by first | decide | omega)) dX2_foldInto_45 ?_
    refine q_cut M 54 [some (.ref (a 1)), none, none, none, none, some (.int (nI i1))] [.long (if (gI M 9 i1) = 0 then (0 : Int64) else (1 : Int64)), .long (f_X6_fold (f_X6_fold z1 ((gI M 7 i1)).toInt64) ((gI M 8 i1)).toInt64)] (fun hJ => ?_) ?_
    · refine q_if_eq (tgt := 53) C dX2_foldInto_46 (by decide) (fun c2 => ?_) (fun c2 => ?_)
      · refine q_lconst (v := 0) C dX2_foldInto_53 (by decide) ?_
        refine q_drop [some (.ref (a 1)), none, none, none, none, some (.int (nI i1))] (by repeat' (first | exact trivial | rfl | constructor)) ?_
        (try simp only [if_pos c2] at hJ); exact hJ
      · refine q_lconst (v := 1) C dX2_foldInto_49 (by decide) ?_
        refine q_goto (tgt := 54) C dX2_foldInto_50 (by decide) ?_
        refine q_drop [some (.ref (a 1)), none, none, none, none, some (.int (nI i1))] (by repeat' (first | exact trivial | rfl | constructor)) ?_
        (try simp only [if_neg c2] at hJ); exact hJ
    refine qc_NJ C (c_X6_fold _ _ _) nl_X2 ws_fold.1 ws_fold.2.1 ws_fold.2.2 hdy_fold rfl rfl (Nat.le_of_ble_eq_true rfl) ⟨(Nat.le_of_ble_eq_true rfl), (Nat.le_of_ble_eq_true rfl)⟩ ⟨Nat.zero_le _, Nat.zero_le _⟩ dX2_foldInto_54 ?_
    refine q_lstore3 C dX2_foldInto_57 (by decide) (by intro w h0 h; first | exact absurd rfl h0 | (cases h <;> rfl)) ?_
    refine q_iinc5 (dv := 1) C dX2_foldInto_58 (by decide) (by decide) (by intro w h0 h; first | exact absurd rfl h0 | (cases h <;> rfl)) ?_
    refine q_goto (tgt := 5) C dX2_foldInto_61 (by decide) ?_
    exact ih1
  refine q_iload5 C dX2_foldInto_5 ?_
  refine q_bipush (v := 10) C dX2_foldInto_7 (by decide) ?_
  refine q_icmp_ge (tgt := 64) C dX2_foldInto_9 (by decide) (fun c3 => ?_) (fun c3 => absurd (Int32.le_refl _) c3)
  refine q_lload3 C dX2_foldInto_64 ?_
  exact q_lret C (by first | (rw [f_X2_foldInto]; done) | rfl) rfl dX2_foldInto_65
