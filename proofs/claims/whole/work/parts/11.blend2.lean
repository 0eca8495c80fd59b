def m_X0_readYoungest_1 (i1 : Nat) (z1 : Int32 × Mm) : Mm := (if (gI z1.2 17 i1) = (-1 : Int32) then z1.2 else (if (gI z1.2 2 5) < (gI z1.2 17 i1) then z1.2 else (sI (if z1.1 = (-9 : Int32) then z1.2 else (sI z1.2 2 7 ((gI z1.2 2 7) + (1 : Int32)))) 17 i1 (-1 : Int32))))
def b_X0_readYoungest_1  (i1 : Nat) (z1 : Int32 × Mm) : Int32 × Mm := ((if (gI z1.2 17 i1) = (-1 : Int32) then z1.1 else (if (gI z1.2 2 5) < (gI z1.2 17 i1) then z1.1 else (nI i1))), (m_X0_readYoungest_1 i1 z1))
def l_X0_readYoungest_1 (M : Mm) (z1 : Int32 × Mm) : Int32 × Mm := itr b_X0_readYoungest_1 ((gI M 2 5).toNatClampNeg + 1) z1
def f_X0_readYoungest (M : Mm)  : Int32 × Mm := ((l_X0_readYoungest_1 M ((-9 : Int32), M)).1, (l_X0_readYoungest_1 M ((-9 : Int32), M)).2)
set_option maxHeartbeats 4000000 in
set_option maxRecDepth 100000 in
theorem c_X0_readYoungest (M : Mm)  (h0 : 0 ≤ gI M 2 5) (hb : (gI M 2 5).toNatClampNeg < 200) : MI yX0_readYoungest cX0_readYoungest 3 (some .int) 0 0 (fun a => [.ref (a 2)]) M (f_X0_readYoungest M).1 (f_X0_readYoungest M).2 := by
  refine MI.intro (lv0 := fun a => [some (.ref (a 2)), none, none]) (by decide) (fun a => ⟨(Nat.le_of_ble_eq_true rfl), rfl⟩) ?_
  intro p9 l9 e9 s9 m9 g9 b9 h9 c9 D9 A9 ct a C
  have C : Cx p9 s9 m9 g9 h9 c9 cX0_readYoungest 3 RX0 (some .int) D9 A9 ct a := C
  refine q_bipush (v := -9) C dX0_readYoungest_0 (by decide) ?_
  refine q_istore1 C dX0_readYoungest_2 (by decide) (by intro w h0 h; first | exact absurd rfl h0 | (cases h <;> rfl)) ?_
  refine q_iconst (v := 0) C dX0_readYoungest_3 (by decide) ?_
  refine q_istore2 C dX0_readYoungest_4 (by decide) (by intro w h0 h; first | exact absurd rfl h0 | (cases h <;> rfl)) ?_
  refine q_loopI (fun i1 z1 => gI z1.2 2 5 = gI M 2 5) ((gI M 2 5).toNatClampNeg + 1) b_X0_readYoungest_1 (fun zz => zz.2) (fun xx zz => [some (.ref (a 2)), some (.int zz.1), some (.int xx)]) ((-9 : Int32), M) rfl (fun i z hi h => by simp only [b_X0_readYoungest_1, m_X0_readYoungest_1, gI_ite, gI_sI]; simp [h]) (fun i1 z1 hi1 hv1 ih1 => ?_) (fun hv1 => ?_)
  · refine q_iload2 C dX0_readYoungest_5 ?_
    refine q_aload0 C dX0_readYoungest_6 ?_
    refine g_X0_29 C dX0_readYoungest_7 ?_
    refine q_icmp_gt (tgt := 67) C dX0_readYoungest_10 (by decide) (fun c1 => absurd c1 (by rw [hv1]; exact nlt_clamp h0 hi1)) (fun c1 => ?_)
    refine q_aload0 C dX0_readYoungest_13 ?_
    refine g_X0_20 C dX0_readYoungest_14 ?_
    refine q_iload2 C dX0_readYoungest_17 ?_
    refine q_ialdX (j := i1) C rfl (nI_clamp (by omega)) (vp_in_nI (by omega) (by first | decide | omega)) dX0_readYoungest_18 ?_
    refine q_iconst (v := -1) C dX0_readYoungest_19 (by decide) ?_
    refine q_cut (if (gI z1.2 17 i1) = (-1 : Int32) then z1.2 else (if (gI z1.2 2 5) < (gI z1.2 17 i1) then z1.2 else (sI (if z1.1 = (-9 : Int32) then z1.2 else (sI z1.2 2 7 ((gI z1.2 2 7) + (1 : Int32)))) 17 i1 (-1 : Int32)))) 61 [some (.ref (a 2)), some (.int (if (gI z1.2 17 i1) = (-1 : Int32) then z1.1 else (if (gI z1.2 2 5) < (gI z1.2 17 i1) then z1.1 else (nI i1)))), some (.int (nI i1))] [] (fun hJ => ?_) ?_
    · refine q_icmp_eq (tgt := 61) C dX0_readYoungest_20 (by decide) (fun c2 => ?_) (fun c2 => ?_)
      · (try simp only [if_pos c2] at hJ); exact hJ
      · refine q_aload0 C dX0_readYoungest_23 ?_
        refine g_X0_20 C dX0_readYoungest_24 ?_
        refine q_iload2 C dX0_readYoungest_27 ?_
        refine q_ialdX (j := i1) C rfl (nI_clamp (by omega)) (vp_in_nI (by omega) (by first | decide | omega)) dX0_readYoungest_28 ?_
        refine q_aload0 C dX0_readYoungest_29 ?_
        refine g_X0_29 C dX0_readYoungest_30 ?_
        refine q_icmp_gt (tgt := 61) C dX0_readYoungest_33 (by decide) (fun c3 => ?_) (fun c3 => ?_)
        · (try simp only [if_neg c2, if_pos c3] at hJ); exact hJ
        · refine q_iload1 C dX0_readYoungest_36 ?_
          refine q_bipush (v := -9) C dX0_readYoungest_37 (by decide) ?_
          refine q_cut (if z1.1 = (-9 : Int32) then z1.2 else (sI z1.2 2 7 ((gI z1.2 2 7) + (1 : Int32)))) 52 [some (.ref (a 2)), none, some (.int (nI i1))] [] (fun hJ => ?_) ?_
          · refine q_icmp_eq (tgt := 52) C dX0_readYoungest_39 (by decide) (fun c4 => ?_) (fun c4 => ?_)
            · refine q_drop [some (.ref (a 2)), none, some (.int (nI i1))] (by repeat' (first | exact trivial | rfl | constructor)) ?_
              (try simp only [if_pos c4] at hJ); exact hJ
            · refine q_aload0 C dX0_readYoungest_42 ?_
              refine q_dup C dX0_readYoungest_43 rfl ?_
              refine g_X0_36 C dX0_readYoungest_44 ?_
              refine q_iconst (v := 1) C dX0_readYoungest_47 (by decide) ?_
              refine q_iadd C dX0_readYoungest_48 ?_
              refine p_X0_36 C  dX0_readYoungest_49 ?_
              refine q_drop [some (.ref (a 2)), none, some (.int (nI i1))] (by repeat' (first | exact trivial | rfl | constructor)) ?_
              (try simp only [if_neg c4] at hJ); exact hJ
          refine q_iload2 C dX0_readYoungest_52 ?_
          refine q_istore1 C dX0_readYoungest_53 (by decide) (by intro w h0 h; first | exact absurd rfl h0 | (cases h <;> rfl)) ?_
          refine q_aload0 C dX0_readYoungest_54 ?_
          refine g_X0_20 C dX0_readYoungest_55 ?_
          refine q_iload2 C dX0_readYoungest_58 ?_
          refine q_iconst (v := -1) C dX0_readYoungest_59 (by decide) ?_
          refine q_iastX (j := i1) C rfl (nI_clamp (by omega)) (vp_in_nI (by omega) (by first | decide | omega)) dX0_readYoungest_60 ?_
          (try simp only [if_neg c2, if_neg c3] at hJ); exact hJ
    refine q_cut (m_X0_readYoungest_1 i1 z1) 61 [some (.ref (a 2)), some (.int (if (gI z1.2 17 i1) = (-1 : Int32) then z1.1 else (if (gI z1.2 2 5) < (gI z1.2 17 i1) then z1.1 else (nI i1)))), some (.int (nI i1))] [] (fun hJ => hJ) ?_
    refine q_iinc2 (dv := 1) C dX0_readYoungest_61 (by decide) (by decide) (by intro w h0 h; first | exact absurd rfl h0 | (cases h <;> rfl)) ?_
    refine q_goto (tgt := 5) C dX0_readYoungest_64 (by decide) ?_
    exact ih1
  refine q_cut (l_X0_readYoungest_1 M ((-9 : Int32), M)).2 5 [some (.ref (a 2)), some (.int (l_X0_readYoungest_1 M ((-9 : Int32), M)).1), some (.int (nI ((gI M 2 5).toNatClampNeg + 1)))] [] (fun hJ => hJ) ?_
  refine q_iload2 C dX0_readYoungest_5 ?_
  refine q_aload0 C dX0_readYoungest_6 ?_
  refine g_X0_29 C dX0_readYoungest_7 ?_
  refine q_icmp_gt (tgt := 67) C dX0_readYoungest_10 (by decide) (fun c5 => ?_) (fun c5 => absurd (by first | (rw [hv1]; exact lt_clamp h0 (by omega)) | exact (by have e9 := hv1; rw [show (l_X0_readYoungest_1 M ((-9 : Int32), M)) = itr b_X0_readYoungest_1 ((gI M 2 5).toNatClampNeg + 1) ((-9 : Int32), M) from rfl, e9]; exact lt_clamp h0 (by omega))) c5)
  refine q_iload1 C dX0_readYoungest_67 ?_
  exact q_iret C (by first | (rw [f_X0_readYoungest]; done) | rfl) (by first | (rw [f_X0_readYoungest]; done) | rfl) dX0_readYoungest_68
theorem ry_range (M : Mm) (hb : (gI M 2 5).toNatClampNeg < 200) : (f_X0_readYoungest M).1 = -9 ∨ vp_in (f_X0_readYoungest M).1 200 := by
  have h := itr_inv (f := b_X0_readYoungest_1) (N := 200) (I := fun _ z => z.1 = -9 ∨ vp_in z.1 200) (fun i z hi h => by
    have hv : vp_in (nI i) 200 := vp_in_nI hi (by decide)
    simp only [b_X0_readYoungest_1]
    repeat' split
    all_goals first | exact h | exact Or.inr hv) (z := (-9, M)) (Or.inl rfl) ((gI M 2 5).toNatClampNeg + 1) (by omega)
  exact h
theorem ry_keep (M : Mm) : gI (f_X0_readYoungest M).2 2 5 = gI M 2 5 := by
  have h := itr_inv (f := b_X0_readYoungest_1) (N := (gI M 2 5).toNatClampNeg + 1) (I := fun _ z => gI z.2 2 5 = gI M 2 5) (fun i z hi h => by
    simp only [b_X0_readYoungest_1, m_X0_readYoungest_1, gI_ite, gI_sI]
    simp [h]) (z := (-9, M)) rfl _ (Nat.le_refl _)
  exact h
theorem ts_keep (M : Mm) (u : Int32) : gI (f_X0_takeSample M u) 2 5 = gI M 2 5 := by simp [f_X0_takeSample, m_X0_takeSample_1, gI_sI]
def m_X0_passHour_1 (M : Mm) (u1 : Int32) : Mm := (sI (sI (f_X0_readYoungest (f_X0_takeSample M u1)).2 2 6 (f_X0_readYoungest (f_X0_takeSample M u1)).1) 2 5 ((gI (sI (f_X0_readYoungest (f_X0_takeSample M u1)).2 2 6 (f_X0_readYoungest (f_X0_takeSample M u1)).1) 2 5) + (1 : Int32)))
def f_X0_passHour (M : Mm) (u1 : Int32) : Int32 × Mm := ((if (gI (m_X0_passHour_1 M u1) 2 6) = (-9 : Int32) then (0 : Int32) else (f_X0_correct (m_X0_passHour_1 M u1) (gI (m_X0_passHour_1 M u1) 2 6)).1), (if (gI (m_X0_passHour_1 M u1) 2 6) = (-9 : Int32) then (m_X0_passHour_1 M u1) else (f_X0_correct (m_X0_passHour_1 M u1) (gI (m_X0_passHour_1 M u1) 2 6)).2))
theorem ph_read (M : Mm) (u1 : Int32) (hb : (gI M 2 5).toNatClampNeg < 200) : gI (m_X0_passHour_1 M u1) 2 6 = -9 ∨ vp_in (gI (m_X0_passHour_1 M u1) 2 6) 200 := by
  have e : gI (m_X0_passHour_1 M u1) 2 6 = (f_X0_readYoungest (f_X0_takeSample M u1)).1 := by simp [m_X0_passHour_1, gI_sI]
  rw [e]
  exact ry_range (f_X0_takeSample M u1) (by rw [ts_keep]; exact hb)
set_option maxHeartbeats 4000000 in
set_option maxRecDepth 100000 in
theorem c_X0_passHour (M : Mm) (u1 : Int32) (h0 : 0 ≤ gI M 2 5) (hb : (gI M 2 5).toNatClampNeg < 200) : MI yX0_passHour cX0_passHour 2 (some .int) 3 71 (fun a => [.ref (a 2), .int u1]) M (f_X0_passHour M u1).1 (f_X0_passHour M u1).2 := by
  refine MI.intro (lv0 := fun a => [some (.ref (a 2)), some (.int u1)]) (by decide) (fun a => ⟨(Nat.le_of_ble_eq_true rfl), rfl⟩) ?_
  intro p9 l9 e9 s9 m9 g9 b9 h9 c9 D9 A9 ct a C
  have C : Cx p9 s9 m9 g9 h9 c9 cX0_passHour 2 RX0 (some .int) D9 A9 ct a := C
  refine q_aload0 C dX0_passHour_0 ?_
  refine q_iload1 C dX0_passHour_1 ?_
  refine qc_VV C (c_X0_takeSample _ _ (vin_of h0 hb)) cw_X0_61 rfl rfl rfl rfl (Nat.le_of_ble_eq_true rfl) ⟨(Nat.le_of_ble_eq_true rfl), (Nat.le_of_ble_eq_true rfl)⟩ ⟨Nat.zero_le _, Nat.zero_le _⟩ dX0_passHour_2 ?_
  refine q_aload0 C dX0_passHour_5 ?_
  refine q_aload0 C dX0_passHour_6 ?_
  refine qc_VI C (c_X0_readYoungest _ (by rw [ts_keep]; exact h0) (by rw [ts_keep]; exact hb)) cw_X0_65 rfl rfl rfl rfl (Nat.le_of_ble_eq_true rfl) ⟨(Nat.le_of_ble_eq_true rfl), (Nat.le_of_ble_eq_true rfl)⟩ ⟨Nat.zero_le _, Nat.zero_le _⟩ dX0_passHour_7 ?_
  refine p_X0_33 C  dX0_passHour_10 ?_
  refine q_aload0 C dX0_passHour_13 ?_
  refine q_dup C dX0_passHour_14 rfl ?_
  refine g_X0_29 C dX0_passHour_15 ?_
  refine q_iconst (v := 1) C dX0_passHour_18 (by decide) ?_
  refine q_iadd C dX0_passHour_19 ?_
  refine p_X0_29 C  dX0_passHour_20 ?_
  refine q_cut (m_X0_passHour_1 M u1) 23 [some (.ref (a 2)), some (.int u1)] [] (fun hJ => hJ) ?_
  refine q_aload0 C dX0_passHour_23 ?_
  refine g_X0_33 C dX0_passHour_24 ?_
  refine q_bipush (v := -9) C dX0_passHour_27 (by decide) ?_
  refine q_cut (if (gI (m_X0_passHour_1 M u1) 2 6) = (-9 : Int32) then (m_X0_passHour_1 M u1) else (f_X0_correct (m_X0_passHour_1 M u1) (gI (m_X0_passHour_1 M u1) 2 6)).2) 44 [none, none] [.int (if (gI (m_X0_passHour_1 M u1) 2 6) = (-9 : Int32) then (0 : Int32) else (f_X0_correct (m_X0_passHour_1 M u1) (gI (m_X0_passHour_1 M u1) 2 6)).1)] (fun hJ => ?_) ?_
  · refine q_icmp_ne (tgt := 36) C dX0_passHour_29 (by decide) (fun c1 => ?_) (fun c1 => ?_)
    · refine q_aload0 C dX0_passHour_36 ?_
      refine q_aload0 C dX0_passHour_37 ?_
      refine g_X0_33 C dX0_passHour_38 ?_
      refine qc_VI C (c_X0_correct _ _ (by rcases ph_read M u1 hb with h | h <;> first | contradiction | exact h)) cw_X0_69 rfl rfl rfl rfl (Nat.le_of_ble_eq_true rfl) ⟨(Nat.le_of_ble_eq_true rfl), (Nat.le_of_ble_eq_true rfl)⟩ ⟨Nat.zero_le _, Nat.zero_le _⟩ dX0_passHour_41 ?_
      refine q_drop [none, none] (by repeat' (first | exact trivial | rfl | constructor)) ?_
      (try simp only [if_neg c1] at hJ); exact hJ
    · refine q_iconst (v := 0) C dX0_passHour_32 (by decide) ?_
      refine q_goto (tgt := 44) C dX0_passHour_33 (by decide) ?_
      refine q_drop [none, none] (by repeat' (first | exact trivial | rfl | constructor)) ?_
      (try simp only [if_pos c1] at hJ); exact hJ
  exact q_iret C (by first | (rw [f_X0_passHour]; done) | rfl) (by first | (rw [f_X0_passHour]; done) | rfl) dX0_passHour_44
