def m_X7_hour_1 (M : Mm) (u1 : Int32) : Mm := (sJ (sI M 52 ((gI M 44 16)).toNatClampNeg (if u1 = 0 then ((gI M 44 16) + (gI M 44 14)) else (100000 : Int32))) 53 ((gI M 44 16)).toNatClampNeg (f_X7_numberUpper (sI M 52 ((gI M 44 16)).toNatClampNeg (if u1 = 0 then ((gI M 44 16) + (gI M 44 14)) else (100000 : Int32)))))
def m_X7_hour_2 (M : Mm) (u1 : Int32) : Mm := (sI (sI (sJ (m_X7_hour_1 M u1) 54 ((gI M 44 16)).toNatClampNeg (f_X7_numberLower (m_X7_hour_1 M u1))) 55 ((gI M 44 16)).toNatClampNeg (0 : Int32)) 44 16 ((gI (sI (sJ (m_X7_hour_1 M u1) 54 ((gI M 44 16)).toNatClampNeg (f_X7_numberLower (m_X7_hour_1 M u1))) 55 ((gI M 44 16)).toNatClampNeg (0 : Int32)) 44 16) + (1 : Int32)))
def m_X7_hour_3 (M : Mm) (i1 : Nat) (z1 : Mm) : Mm := (if (gI M 44 16) < (gI z1 52 i1) then z1 else (if (gI z1 55 i1) = 0 then (sI (sI z1 55 i1 (if 0 ≤ (gI z1 44 21) then (2 : Int32) else (1 : Int32))) 44 21 (if 0 ≤ (gI (sI z1 55 i1 (if 0 ≤ (gI z1 44 21) then (2 : Int32) else (1 : Int32))) 44 21) then (gI (sI z1 55 i1 (if 0 ≤ (gI z1 44 21) then (2 : Int32) else (1 : Int32))) 44 21) else (nI i1))) else z1))
def b_X7_hour_1 (M : Mm) (i1 : Nat) (z1 : Mm) : Mm := (m_X7_hour_3 M i1 z1)
def l_X7_hour_1 (M : Mm) (z1 : Mm) : Mm := itd (b_X7_hour_1 M) ((gI M 44 16).toNatClampNeg + 1) z1
def f_X7_hour (M : Mm) (u1 : Int32) : Int32 × Mm := (if (gI M 44 16) = (200 : Int32) then ((-2 : Int32), M) else ((if 0 ≤ (gI (l_X7_hour_1 M (sI (m_X7_hour_2 M u1) 44 21 (-9 : Int32))) 44 21) then (f_X7_steer (l_X7_hour_1 M (sI (m_X7_hour_2 M u1) 44 21 (-9 : Int32))) (gJ (l_X7_hour_1 M (sI (m_X7_hour_2 M u1) 44 21 (-9 : Int32))) 53 ((gI (l_X7_hour_1 M (sI (m_X7_hour_2 M u1) 44 21 (-9 : Int32))) 44 21)).toNatClampNeg) (gJ (l_X7_hour_1 M (sI (m_X7_hour_2 M u1) 44 21 (-9 : Int32))) 54 ((gI (l_X7_hour_1 M (sI (m_X7_hour_2 M u1) 44 21 (-9 : Int32))) 44 21)).toNatClampNeg)).1 else (0 : Int32)), (if 0 ≤ (gI (l_X7_hour_1 M (sI (m_X7_hour_2 M u1) 44 21 (-9 : Int32))) 44 21) then (f_X7_steer (l_X7_hour_1 M (sI (m_X7_hour_2 M u1) 44 21 (-9 : Int32))) (gJ (l_X7_hour_1 M (sI (m_X7_hour_2 M u1) 44 21 (-9 : Int32))) 53 ((gI (l_X7_hour_1 M (sI (m_X7_hour_2 M u1) 44 21 (-9 : Int32))) 44 21)).toNatClampNeg) (gJ (l_X7_hour_1 M (sI (m_X7_hour_2 M u1) 44 21 (-9 : Int32))) 54 ((gI (l_X7_hour_1 M (sI (m_X7_hour_2 M u1) 44 21 (-9 : Int32))) 44 21)).toNatClampNeg)).2 else (l_X7_hour_1 M (sI (m_X7_hour_2 M u1) 44 21 (-9 : Int32))))))
theorem hr_inv (M0 : Mm) (n : Nat) (hn : n ≤ 200) (M : Mm) (h : gI M 44 21 = -9 ∨ vp_in (gI M 44 21) 200) : gI (itd (b_X7_hour_1 M0) n M) 44 21 = -9 ∨ vp_in (gI (itd (b_X7_hour_1 M0) n M) 44 21) 200 := by
  have key := itd_inv (f := b_X7_hour_1 M0) (fun i z => i ≤ 200 ∧ (gI z 44 21 = -9 ∨ vp_in (gI z 44 21) 200)) (fun i z h => by
    refine ⟨by omega, ?_⟩
    have hv : vp_in (nI i) 200 := vp_in_nI (by omega) (by decide)
    have e : gI (b_X7_hour_1 M0 i z) 44 21 = if gI M0 44 16 < gI z 52 i then gI z 44 21 else if gI z 55 i = 0 then (if 0 ≤ gI z 44 21 then gI z 44 21 else nI i) else gI z 44 21 := by
      simp only [b_X7_hour_1, m_X7_hour_3, gI_ite, gI_sI]
      simp
    rw [e]
    repeat' split
    all_goals first | exact h.2 | exact Or.inr hv) n M ⟨hn, h⟩
  exact key.2
theorem hr_vin (M : Mm) (u1 : Int32) (hb : (gI M 44 16).toNatClampNeg < 200) (h : 0 ≤ gI (l_X7_hour_1 M (sI (m_X7_hour_2 M u1) 44 21 (-9 : Int32))) 44 21) : vp_in (gI (l_X7_hour_1 M (sI (m_X7_hour_2 M u1) 44 21 (-9 : Int32))) 44 21) 200 := by
  rcases hr_inv M ((gI M 44 16).toNatClampNeg + 1) (by omega) (sI (m_X7_hour_2 M u1) 44 21 (-9 : Int32)) (Or.inl (by simp [gI_sI])) with e | e
  · have e' : gI (l_X7_hour_1 M (sI (m_X7_hour_2 M u1) 44 21 (-9 : Int32))) 44 21 = -9 := e
    rw [e'] at h
    exact absurd h (by decide)
  · exact e
set_option maxHeartbeats 4000000 in
set_option maxRecDepth 100000 in
theorem c_X7_hour (M : Mm) (u1 : Int32) (h0 : 0 ≤ gI M 44 16) (hb : ¬ gI M 44 16 = 200 → (gI M 44 16).toNatClampNeg < 200) : MI yX7_hour cX7_hour 4 (some .int) 2 43 (fun a => [.ref (a 44), .int u1]) M (f_X7_hour M u1).1 (f_X7_hour M u1).2 := by
  refine MI.intro (lv0 := fun a => [some (.ref (a 44)), some (.int u1), none, none]) (by decide) (fun a => ⟨(Nat.le_of_ble_eq_true rfl), rfl⟩) ?_
  intro p9 l9 e9 s9 m9 g9 b9 h9 c9 D9 A9 ct a C
  have C : Cx p9 s9 m9 g9 h9 c9 cX7_hour 4 RX7 (some .int) D9 A9 ct a := C
  refine q_aload0 C dX7_hour_0 ?_
  refine g_X7_164 C dX7_hour_1 ?_
  refine q_sipush (v := 200) C dX7_hour_4 (by decide) ?_
  refine q_icmp_ne (tgt := 13) C dX7_hour_7 (by decide) (fun c1 => ?_) (fun c1 => ?_)
  · have hb2 := hb (by assumption)
    refine q_aload0 C dX7_hour_13 ?_
    refine g_X7_164 C dX7_hour_14 ?_
    refine q_istore2 C dX7_hour_17 (by decide) (by intro w h0 h; first | exact absurd rfl h0 | (cases h <;> rfl)) ?_
    refine q_aload0 C dX7_hour_18 ?_
    refine g_X7_49 C dX7_hour_19 ?_
    refine q_iload2 C dX7_hour_22 ?_
    refine q_iload1 C dX7_hour_23 ?_
    refine q_cut M 38 [some (.ref (a 44)), none, some (.int (gI M 44 16)), none] [.int (if u1 = 0 then ((gI M 44 16) + (gI M 44 14)) else (100000 : Int32)), .int (gI M 44 16), .ref (a 52)] (fun hJ => ?_) ?_
    · refine q_if_eq (tgt := 32) C dX7_hour_24 (by decide) (fun c2 => ?_) (fun c2 => ?_)
      · refine q_iload2 C dX7_hour_32 ?_
        refine q_aload0 C dX7_hour_33 ?_
        refine g_X7_43 C dX7_hour_34 ?_
        refine q_iadd C dX7_hour_37 ?_
        refine q_drop [some (.ref (a 44)), none, some (.int (gI M 44 16)), none] (by repeat' (first | exact trivial | rfl | constructor)) ?_
        (try simp only [if_pos c2] at hJ); exact hJ
      · refine q_ldc C dX7_hour_27 wk_X7_167 ?_
        refine q_goto (tgt := 38) C dX7_hour_29 (by decide) ?_
        refine q_drop [some (.ref (a 44)), none, some (.int (gI M 44 16)), none] (by repeat' (first | exact trivial | rfl | constructor)) ?_
        (try simp only [if_neg c2] at hJ); exact hJ
    refine q_iastX (j := ((gI M 44 16)).toNatClampNeg) C rfl rfl (vin_of h0 hb2) dX7_hour_38 ?_
    refine q_aload0 C dX7_hour_39 ?_
    refine g_X7_52 C dX7_hour_40 ?_
    refine q_iload2 C dX7_hour_43 ?_
    refine q_aload0 C dX7_hour_44 ?_
    refine qc_VJ C (c_X7_numberUpper _ ) cw_X7_154 rfl rfl rfl rfl (Nat.le_of_ble_eq_true rfl) ⟨(Nat.le_of_ble_eq_true rfl), (Nat.le_of_ble_eq_true rfl)⟩ ⟨Nat.zero_le _, Nat.zero_le _⟩ dX7_hour_45 ?_
    refine q_lastX (j := ((gI M 44 16)).toNatClampNeg) C rfl rfl (vin_of h0 hb2) dX7_hour_48 ?_
    refine q_cut (m_X7_hour_1 M u1) 49 [some (.ref (a 44)), none, some (.int (gI M 44 16)), none] [] (fun hJ => hJ) ?_
    refine q_aload0 C dX7_hour_49 ?_
    refine g_X7_56 C dX7_hour_50 ?_
    refine q_iload2 C dX7_hour_53 ?_
    refine q_aload0 C dX7_hour_54 ?_
    refine qc_VJ C (c_X7_numberLower _ ) cw_X7_147 rfl rfl rfl rfl (Nat.le_of_ble_eq_true rfl) ⟨(Nat.le_of_ble_eq_true rfl), (Nat.le_of_ble_eq_true rfl)⟩ ⟨Nat.zero_le _, Nat.zero_le _⟩ dX7_hour_55 ?_
    refine q_lastX (j := ((gI M 44 16)).toNatClampNeg) C rfl rfl (vin_of h0 hb2) dX7_hour_58 ?_
    refine q_aload0 C dX7_hour_59 ?_
    refine g_X7_59 C dX7_hour_60 ?_
    refine q_iload2 C dX7_hour_63 ?_
    refine q_iconst (v := 0) C dX7_hour_64 (by decide) ?_
    refine q_iastX (j := ((gI M 44 16)).toNatClampNeg) C rfl rfl (vin_of h0 hb2) dX7_hour_65 ?_
    refine q_aload0 C dX7_hour_66 ?_
    refine q_dup C dX7_hour_67 rfl ?_
    refine g_X7_164 C dX7_hour_68 ?_
    refine q_iconst (v := 1) C dX7_hour_71 (by decide) ?_
    refine q_iadd C dX7_hour_72 ?_
    refine p_X7_164 C  dX7_hour_73 ?_
    refine q_cut (m_X7_hour_2 M u1) 76 [some (.ref (a 44)), none, some (.int (gI M 44 16)), none] [] (fun hJ => hJ) ?_
    refine q_aload0 C dX7_hour_76 ?_
    refine q_bipush (v := -9) C dX7_hour_77 (by decide) ?_
    refine p_X7_62 C  dX7_hour_79 ?_
    refine q_iload2 C dX7_hour_82 ?_
    refine q_istore3 C dX7_hour_83 (by decide) (by intro w h0 h; first | exact absurd rfl h0 | (cases h <;> rfl)) ?_
    refine q_loopD ((gI M 44 16).toNatClampNeg + 1) (b_X7_hour_1 M) (fun zz => zz) (fun xx zz => [some (.ref (a 44)), none, some (.int (gI M 44 16)), some (.int xx)]) (sI (m_X7_hour_2 M u1) 44 21 (-9 : Int32)) (nI_hx2 h0) (fun i1 z1 hi1 ih1 => ?_) ?_
    · refine q_iload3 C dX7_hour_84 ?_
      refine q_if_lt (tgt := 150) C dX7_hour_85 (by decide) (fun c3 => absurd c3 (nI_pos (by omega))) (fun c3 => ?_)
      refine q_aload0 C dX7_hour_88 ?_
      refine g_X7_49 C dX7_hour_89 ?_
      refine q_iload3 C dX7_hour_92 ?_
      refine q_ialdX (j := i1) C rfl (nI_clamp (by omega)) (vp_in_nI (by omega) (by first | decide | omega)) dX7_hour_93 ?_
      refine q_iload2 C dX7_hour_94 ?_
      refine q_cut (if (gI M 44 16) < (gI z1 52 i1) then z1 else (if (gI z1 55 i1) = 0 then (sI (sI z1 55 i1 (if 0 ≤ (gI z1 44 21) then (2 : Int32) else (1 : Int32))) 44 21 (if 0 ≤ (gI (sI z1 55 i1 (if 0 ≤ (gI z1 44 21) then (2 : Int32) else (1 : Int32))) 44 21) then (gI (sI z1 55 i1 (if 0 ≤ (gI z1 44 21) then (2 : Int32) else (1 : Int32))) 44 21) else (nI i1))) else z1)) 144 [some (.ref (a 44)), none, some (.int (gI M 44 16)), some (.int (nI i1))] [] (fun hJ => ?_) ?_
      · refine q_icmp_gt (tgt := 144) C dX7_hour_95 (by decide) (fun c4 => ?_) (fun c4 => ?_)
        · (try simp only [if_pos c4] at hJ); exact hJ
        · refine q_aload0 C dX7_hour_98 ?_
          refine g_X7_59 C dX7_hour_99 ?_
          refine q_iload3 C dX7_hour_102 ?_
          refine q_ialdX (j := i1) C rfl (nI_clamp (by omega)) (vp_in_nI (by omega) (by first | decide | omega)) dX7_hour_103 ?_
          refine q_if_ne (tgt := 144) C dX7_hour_104 (by decide) (fun c5 => ?_) (fun c5 => ?_)
          · (try simp only [if_neg c4, if_neg c5] at hJ); exact hJ
          · refine q_aload0 C dX7_hour_107 ?_
            refine g_X7_59 C dX7_hour_108 ?_
            refine q_iload3 C dX7_hour_111 ?_
            refine q_aload0 C dX7_hour_112 ?_
            refine g_X7_62 C dX7_hour_113 ?_
            refine q_cut z1 124 [some (.ref (a 44)), none, some (.int (gI M 44 16)), some (.int (nI i1))] [.int (if 0 ≤ (gI z1 44 21) then (2 : Int32) else (1 : Int32)), .int (nI i1), .ref (a 55)] (fun hJ => ?_) ?_
            · refine q_if_ge (tgt := 123) C dX7_hour_116 (by decide) (fun c6 => ?_) (fun c6 => ?_)
              · refine q_iconst (v := 2) C dX7_hour_123 (by decide) ?_
                (try simp only [if_pos c6] at hJ); exact hJ
              · refine q_iconst (v := 1) C dX7_hour_119 (by decide) ?_
                refine q_goto (tgt := 124) C dX7_hour_120 (by decide) ?_
                (try simp only [if_neg c6] at hJ); exact hJ
            refine q_iastX (j := i1) C rfl (nI_clamp (by omega)) (vp_in_nI (by omega) (by first | decide | omega)) dX7_hour_124 ?_
            refine q_aload0 C dX7_hour_125 ?_
            refine q_aload0 C dX7_hour_126 ?_
            refine g_X7_62 C dX7_hour_127 ?_
            refine q_cut (sI z1 55 i1 (if 0 ≤ (gI z1 44 21) then (2 : Int32) else (1 : Int32))) 141 [some (.ref (a 44)), none, some (.int (gI M 44 16)), some (.int (nI i1))] [.int (if 0 ≤ (gI (sI z1 55 i1 (if 0 ≤ (gI z1 44 21) then (2 : Int32) else (1 : Int32))) 44 21) then (gI (sI z1 55 i1 (if 0 ≤ (gI z1 44 21) then (2 : Int32) else (1 : Int32))) 44 21) else (nI i1)), .ref (a 44)] (fun hJ => ?_) ?_
            · refine q_if_ge (tgt := 137) C dX7_hour_130 (by decide) (fun c7 => ?_) (fun c7 => ?_)
              · refine q_aload0 C dX7_hour_137 ?_
                refine g_X7_62 C dX7_hour_138 ?_
                (try simp only [if_pos c7] at hJ); exact hJ
              · refine q_iload3 C dX7_hour_133 ?_
                refine q_goto (tgt := 141) C dX7_hour_134 (by decide) ?_
                (try simp only [if_neg c7] at hJ); exact hJ
            refine p_X7_62 C  dX7_hour_141 ?_
            (try simp only [if_neg c4, if_pos c5] at hJ); exact hJ
      refine q_cut (m_X7_hour_3 M i1 z1) 144 [some (.ref (a 44)), none, some (.int (gI M 44 16)), some (.int (nI i1))] [] (fun hJ => hJ) ?_
      refine q_iinc3 (dv := -1) C dX7_hour_144 (by decide) (by decide) (by intro w h0 h; first | exact absurd rfl h0 | (cases h <;> rfl)) ?_
      refine q_goto (tgt := 84) C dX7_hour_147 (by decide) ?_
      exact ih1
    refine q_cut (l_X7_hour_1 M (sI (m_X7_hour_2 M u1) 44 21 (-9 : Int32))) 84 [some (.ref (a 44)), none, some (.int (gI M 44 16)), some (.int (-1 : Int32))] [] (fun hJ => hJ) ?_
    refine q_iload3 C dX7_hour_84 ?_
    refine q_if_lt (tgt := 150) C dX7_hour_85 (by decide) (fun c8 => ?_) (fun c8 => absurd (by decide) c8)
    refine q_aload0 C dX7_hour_150 ?_
    refine g_X7_62 C dX7_hour_151 ?_
    refine q_cut (if 0 ≤ (gI (l_X7_hour_1 M (sI (m_X7_hour_2 M u1) 44 21 (-9 : Int32))) 44 21) then (f_X7_steer (l_X7_hour_1 M (sI (m_X7_hour_2 M u1) 44 21 (-9 : Int32))) (gJ (l_X7_hour_1 M (sI (m_X7_hour_2 M u1) 44 21 (-9 : Int32))) 53 ((gI (l_X7_hour_1 M (sI (m_X7_hour_2 M u1) 44 21 (-9 : Int32))) 44 21)).toNatClampNeg) (gJ (l_X7_hour_1 M (sI (m_X7_hour_2 M u1) 44 21 (-9 : Int32))) 54 ((gI (l_X7_hour_1 M (sI (m_X7_hour_2 M u1) 44 21 (-9 : Int32))) 44 21)).toNatClampNeg)).2 else (l_X7_hour_1 M (sI (m_X7_hour_2 M u1) 44 21 (-9 : Int32)))) 183 [none, none, none, none] [.int (if 0 ≤ (gI (l_X7_hour_1 M (sI (m_X7_hour_2 M u1) 44 21 (-9 : Int32))) 44 21) then (f_X7_steer (l_X7_hour_1 M (sI (m_X7_hour_2 M u1) 44 21 (-9 : Int32))) (gJ (l_X7_hour_1 M (sI (m_X7_hour_2 M u1) 44 21 (-9 : Int32))) 53 ((gI (l_X7_hour_1 M (sI (m_X7_hour_2 M u1) 44 21 (-9 : Int32))) 44 21)).toNatClampNeg) (gJ (l_X7_hour_1 M (sI (m_X7_hour_2 M u1) 44 21 (-9 : Int32))) 54 ((gI (l_X7_hour_1 M (sI (m_X7_hour_2 M u1) 44 21 (-9 : Int32))) 44 21)).toNatClampNeg)).1 else (0 : Int32))] (fun hJ => ?_) ?_
    · refine q_if_ge (tgt := 161) C dX7_hour_154 (by decide) (fun c9 => ?_) (fun c9 => ?_)
      · refine q_aload0 C dX7_hour_161 ?_
        refine q_aload0 C dX7_hour_162 ?_
        refine g_X7_52 C dX7_hour_163 ?_
        refine q_aload0 C dX7_hour_166 ?_
        refine g_X7_62 C dX7_hour_167 ?_
        refine q_laldX (j := ((gI (l_X7_hour_1 M (sI (m_X7_hour_2 M u1) 44 21 (-9 : Int32))) 44 21)).toNatClampNeg) C rfl rfl (hr_vin M u1 (by omega) (by assumption)) dX7_hour_170 ?_
        refine q_aload0 C dX7_hour_171 ?_
        refine g_X7_56 C dX7_hour_172 ?_
        refine q_aload0 C dX7_hour_175 ?_
        refine g_X7_62 C dX7_hour_176 ?_
        refine q_laldX (j := ((gI (l_X7_hour_1 M (sI (m_X7_hour_2 M u1) 44 21 (-9 : Int32))) 44 21)).toNatClampNeg) C rfl rfl (hr_vin M u1 (by omega) (by assumption)) dX7_hour_179 ?_
        refine qc_VI C (c_X7_steer _ _ _) cw_X7_168 rfl rfl rfl rfl (Nat.le_of_ble_eq_true rfl) ⟨(Nat.le_of_ble_eq_true rfl), (Nat.le_of_ble_eq_true rfl)⟩ ⟨Nat.zero_le _, Nat.zero_le _⟩ dX7_hour_180 ?_
        refine q_drop [none, none, none, none] (by repeat' (first | exact trivial | rfl | constructor)) ?_
        (try simp only [if_pos c9] at hJ); exact hJ
      · refine q_iconst (v := 0) C dX7_hour_157 (by decide) ?_
        refine q_goto (tgt := 183) C dX7_hour_158 (by decide) ?_
        refine q_drop [none, none, none, none] (by repeat' (first | exact trivial | rfl | constructor)) ?_
        (try simp only [if_neg c9] at hJ); exact hJ
    exact q_iret C (by first | rfl | (rw [f_X7_hour, if_neg c1]; done) | (rw [f_X7_hour, if_neg c1]; rfl) | (simp only [f_X7_hour, if_neg c1]; done)) (by first | rfl | (rw [f_X7_hour, if_neg c1]; done) | (rw [f_X7_hour, if_neg c1]; rfl) | (simp only [f_X7_hour, if_neg c1]; done)) dX7_hour_183
  · refine q_bipush (v := -2) C dX7_hour_10 (by decide) ?_
    exact q_iret C (by first | rfl | (rw [f_X7_hour, if_pos c1]; done) | (rw [f_X7_hour, if_pos c1]; rfl) | (simp only [f_X7_hour, if_pos c1]; done)) (by first | rfl | (rw [f_X7_hour, if_pos c1]; done) | (rw [f_X7_hour, if_pos c1]; rfl) | (simp only [f_X7_hour, if_pos c1]; done)) dX7_hour_12
