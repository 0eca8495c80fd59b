def f_X7_kindOf (u1 : Int32) : Int32 := (if (2 : Int32) ≤ u1 then (u1 - (1 : Int32)) else (0 : Int32))
set_option maxHeartbeats 4000000 in
set_option maxRecDepth 100000 in
theorem c_X7_kindOf (M : Mm) (u1 : Int32)  : MI yX7_kindOf cX7_kindOf 1 (some .int) 0 0 (fun a => [.int u1]) M (f_X7_kindOf u1) M := by
  refine MI.intro (lv0 := fun a => [some (.int u1)]) (by decide) (fun a => ⟨(Nat.le_of_ble_eq_true rfl), rfl⟩) ?_
  intro p9 l9 e9 s9 m9 g9 b9 h9 c9 D9 A9 ct a C
  have C : Cx p9 s9 m9 g9 h9 c9 cX7_kindOf 1 RX7 (some .int) D9 A9 ct a := C
  refine q_iload0 C dX7_kindOf_0 ?_
  refine q_iconst (v := 2) C dX7_kindOf_1 (by decide) ?_
  refine q_cut M 12 [none] [.int (if (2 : Int32) ≤ u1 then (u1 - (1 : Int32)) else (0 : Int32))] (fun hJ => ?_) ?_
  · refine q_icmp_ge (tgt := 9) C dX7_kindOf_2 (by decide) (fun c1 => ?_) (fun c1 => ?_)
    · refine q_iload0 C dX7_kindOf_9 ?_
      refine q_iconst (v := 1) C dX7_kindOf_10 (by decide) ?_
      refine q_isub C dX7_kindOf_11 ?_
      refine q_drop [none] (by repeat' (first | exact trivial | rfl | constructor)) ?_
      (try simp only [if_pos c1] at hJ); exact hJ
    · refine q_iconst (v := 0) C dX7_kindOf_5 (by decide) ?_
      refine q_goto (tgt := 12) C dX7_kindOf_6 (by decide) ?_
      refine q_drop [none] (by repeat' (first | exact trivial | rfl | constructor)) ?_
      (try simp only [if_neg c1] at hJ); exact hJ
  exact q_iret C (by first | (rw [f_X7_kindOf]; done) | rfl) rfl dX7_kindOf_12
def f_X7_taken (M : Mm) (u1 : Int32) (u2 : Int32) : Int32 × Mm := ((u2 - (if (f_X7_kindOf u1) = (1 : Int32) then (u2 / (2 : Int32)) else (u2 / (4 : Int32)))), (sI M 57 (u1).toNatClampNeg ((gI M 57 (u1).toNatClampNeg) + (if (f_X7_kindOf u1) = (1 : Int32) then (u2 / (2 : Int32)) else (u2 / (4 : Int32))))))
set_option maxHeartbeats 4000000 in
set_option maxRecDepth 100000 in
theorem c_X7_taken (M : Mm) (u1 : Int32) (u2 : Int32) (h1 : vp_in u1 5) : MI yX7_taken cX7_taken 4 (some .int) 1 20 (fun a => [.ref (a 44), .int u1, .int u2]) M (f_X7_taken M u1 u2).1 (f_X7_taken M u1 u2).2 := by
  refine MI.intro (lv0 := fun a => [some (.ref (a 44)), some (.int u1), some (.int u2), none]) (by decide) (fun a => ⟨(Nat.le_of_ble_eq_true rfl), rfl⟩) ?_
  intro p9 l9 e9 s9 m9 g9 b9 h9 c9 D9 A9 ct a C
  have C : Cx p9 s9 m9 g9 h9 c9 cX7_taken 4 RX7 (some .int) D9 A9 ct a := C
  refine q_iload1 C dX7_taken_0 ?_
  refine qc_SI C (c_X7_kindOf _ _) cw_X7_172 rfl rfl (Nat.le_of_ble_eq_true rfl) ⟨(Nat.le_of_ble_eq_true rfl), (Nat.le_of_ble_eq_true rfl)⟩ ⟨Nat.zero_le _, Nat.zero_le _⟩ dX7_taken_1 ?_
  refine q_iconst (v := 1) C dX7_taken_4 (by decide) ?_
  refine q_cut M 17 [some (.ref (a 44)), some (.int u1), some (.int u2), none] [.int (if (f_X7_kindOf u1) = (1 : Int32) then (u2 / (2 : Int32)) else (u2 / (4 : Int32)))] (fun hJ => ?_) ?_
  · refine q_icmp_ne (tgt := 14) C dX7_taken_5 (by decide) (fun c1 => ?_) (fun c1 => ?_)
    · refine q_iload2 C dX7_taken_14 ?_
      refine q_iconst (v := 4) C dX7_taken_15 (by decide) ?_
      refine q_idiv C dX7_taken_16 (by first | decide | assumption | (apply i64ne; assumption)) ?_
      (try simp only [if_neg c1] at hJ); exact hJ
    · refine q_iload2 C dX7_taken_8 ?_
      refine q_iconst (v := 2) C dX7_taken_9 (by decide) ?_
      refine q_idiv C dX7_taken_10 (by first | decide | assumption | (apply i64ne; assumption)) ?_
      refine q_goto (tgt := 17) C dX7_taken_11 (by decide) ?_
      (try simp only [if_pos c1] at hJ); exact hJ
  refine q_istore3 C dX7_taken_17 (by decide) (by intro w h0 h; first | exact absurd rfl h0 | (cases h <;> rfl)) ?_
  refine q_aload0 C dX7_taken_18 ?_
  refine g_X7_68 C dX7_taken_19 ?_
  refine q_iload1 C dX7_taken_22 ?_
  refine q_dup2 C dX7_taken_23 rfl rfl ?_
  refine q_ialdX (j := (u1).toNatClampNeg) C rfl rfl (by first | assumption | exact wi7_in (by assumption) (by decide) | (simp only [gI_sI, gI_sJ, gI_ite]; simp; assumption) | (simp [gI_sI, gI_sJ, gI_ite]; assumption)) dX7_taken_24 ?_
  refine q_iload3 C dX7_taken_25 ?_
  refine q_iadd C dX7_taken_26 ?_
  refine q_iastX (j := (u1).toNatClampNeg) C rfl rfl (by first | assumption | exact wi7_in (by assumption) (by decide) | (simp only [gI_sI, gI_sJ, gI_ite]; simp; assumption) | (simp [gI_sI, gI_sJ, gI_ite]; assumption)) dX7_taken_27 ?_
  refine q_iload2 C dX7_taken_28 ?_
  refine q_iload3 C dX7_taken_29 ?_
  refine q_isub C dX7_taken_30 ?_
  exact q_iret C (by first | (rw [f_X7_taken]; done) | rfl) (by first | (rw [f_X7_taken]; done) | rfl) dX7_taken_31
def m_X7_handOn_1 (u2 : Int32) (i1 : Nat) (z1 : Mm) : Mm := (sI (sI z1 58 i1 (((((gI z1 56 i1)).toInt64 * (u2).toInt64) / (100 : Int64))).toInt32) 59 i1 (if (gI (sI z1 58 i1 (((((gI z1 56 i1)).toInt64 * (u2).toInt64) / (100 : Int64))).toInt32) 56 i1) = 0 then (0 : Int32) else (((((gI (sI z1 58 i1 (((((gI z1 56 i1)).toInt64 * (u2).toInt64) / (100 : Int64))).toInt32) 57 i1)).toInt64 * ((gI (sI z1 58 i1 (((((gI z1 56 i1)).toInt64 * (u2).toInt64) / (100 : Int64))).toInt32) 58 i1)).toInt64) / ((gI (sI z1 58 i1 (((((gI z1 56 i1)).toInt64 * (u2).toInt64) / (100 : Int64))).toInt32) 56 i1)).toInt64)).toInt32))
def b_X7_handOn_1 (u2 : Int32) (i1 : Nat) (z1 : Mm) : Mm := (m_X7_handOn_1 u2 i1 z1)
def m_X7_handOn_3 (i2 : Nat) (z2 : Mm) : Mm := (sI (sI z2 56 i2 ((gI z2 56 i2) - (gI z2 58 i2))) 57 i2 ((gI (sI z2 56 i2 ((gI z2 56 i2) - (gI z2 58 i2))) 57 i2) - (gI (sI z2 56 i2 ((gI z2 56 i2) - (gI z2 58 i2))) 59 i2)))
def m_X7_handOn_4 (i2 : Nat) (z2 : Mm) : Mm := (sI (sI (m_X7_handOn_3 i2 z2) 56 (i2 + 1) ((gI (m_X7_handOn_3 i2 z2) 56 (i2 + 1)) + (gI (m_X7_handOn_3 i2 z2) 58 i2))) 57 (i2 + 1) ((gI (sI (m_X7_handOn_3 i2 z2) 56 (i2 + 1) ((gI (m_X7_handOn_3 i2 z2) 56 (i2 + 1)) + (gI (m_X7_handOn_3 i2 z2) 58 i2))) 57 (i2 + 1)) + (gI (sI (m_X7_handOn_3 i2 z2) 56 (i2 + 1) ((gI (m_X7_handOn_3 i2 z2) 56 (i2 + 1)) + (gI (m_X7_handOn_3 i2 z2) 58 i2))) 59 i2)))
def b_X7_handOn_2  (i2 : Nat) (z2 : Mm) : Mm := (m_X7_handOn_4 i2 z2)
def f_X7_handOn (M : Mm) (u1 : Int32) (u2 : Int32) : Mm := (sI (itr b_X7_handOn_2 4 (sI (sI (itr (b_X7_handOn_1 u2) 4 M) 56 4 (0 : Int32)) 57 4 (0 : Int32))) 56 0 ((gI (itr b_X7_handOn_2 4 (sI (sI (itr (b_X7_handOn_1 u2) 4 M) 56 4 (0 : Int32)) 57 4 (0 : Int32))) 56 0) + u1))
set_option maxHeartbeats 4000000 in
set_option maxRecDepth 100000 in
theorem c_X7_handOn (M : Mm) (u1 : Int32) (u2 : Int32)  : MV yX7_handOn cX7_handOn 4 none 0 0 (fun a => [.ref (a 44), .int u1, .int u2]) M (f_X7_handOn M u1 u2) := by
  refine MV.intro (lv0 := fun a => [some (.ref (a 44)), some (.int u1), some (.int u2), none]) (by decide) (fun a => ⟨(Nat.le_of_ble_eq_true rfl), rfl⟩) ?_
  intro p9 l9 e9 s9 m9 g9 b9 h9 c9 D9 A9 ct a C
  have C : Cx p9 s9 m9 g9 h9 c9 cX7_handOn 4 RX7 none D9 A9 ct a := C
  refine q_iconst (v := 0) C dX7_handOn_0 (by decide) ?_
  refine q_istore3 C dX7_handOn_1 (by decide) (by intro w h0 h; first | exact absurd rfl h0 | (cases h <;> rfl)) ?_
  refine q_loop 4 (b_X7_handOn_1 u2) (fun zz => zz) (fun xx zz => [some (.ref (a 44)), some (.int u1), some (.int u2), some (.int xx)]) M  (fun i1 z1 hi1 ih1 => ?_) ?_
  · refine q_iload3 C dX7_handOn_2 ?_
    refine q_iconst (v := 4) C dX7_handOn_3 (by decide) ?_
    refine q_icmp_ge (tgt := 77) C dX7_handOn_4 (by decide) (fun c1 => absurd c1 (nI_ge (b := 4) (by omega) (by omega))) (fun c1 => ?_)
    refine q_aload0 C dX7_handOn_7 ?_
    refine g_X7_71 C dX7_handOn_8 ?_
    refine q_iload3 C dX7_handOn_11 ?_
    refine q_aload0 C dX7_handOn_12 ?_
    refine g_X7_65 C dX7_handOn_13 ?_
    refine q_iload3 C dX7_handOn_16 ?_
    refine q_ialdX (j := i1) C rfl (nI_clamp (by omega)) (vp_in_nI (by omega) (by first | decide | omega)) dX7_handOn_17 ?_
    refine q_i2l C dX7_handOn_18 ?_
    refine q_iload2 C dX7_handOn_19 ?_
    refine q_i2l C dX7_handOn_20 ?_
    refine q_lmul C dX7_handOn_21 ?_
    refine q_ldc2 C dX7_handOn_22 wk_X7_175 ?_
    refine q_ldiv C dX7_handOn_25 (by first | decide | assumption | (apply i64ne; assumption)) ?_
    refine q_l2i C dX7_handOn_26 ?_
    refine q_iastX (j := i1) C rfl (nI_clamp (by omega)) (vp_in_nI (by omega) (by first | decide | omega)) dX7_handOn_27 ?_
    refine q_aload0 C dX7_handOn_28 ?_
    refine g_X7_74 C dX7_handOn_29 ?_
    refine q_iload3 C dX7_handOn_32 ?_
    refine q_aload0 C dX7_handOn_33 ?_
    refine g_X7_65 C dX7_handOn_34 ?_
    refine q_iload3 C dX7_handOn_37 ?_
    refine q_ialdX (j := i1) C rfl (nI_clamp (by omega)) (vp_in_nI (by omega) (by first | decide | omega)) dX7_handOn_38 ?_
    refine q_cut (sI z1 58 i1 (((((gI z1 56 i1)).toInt64 * (u2).toInt64) / (100 : Int64))).toInt32) 70 [some (.ref (a 44)), some (.int u1), some (.int u2), some (.int (nI i1))] [.int (if (gI (sI z1 58 i1 (((((gI z1 56 i1)).toInt64 * (u2).toInt64) / (100 : Int64))).toInt32) 56 i1) = 0 then (0 : Int32) else (((((gI (sI z1 58 i1 (((((gI z1 56 i1)).toInt64 * (u2).toInt64) / (100 : Int64))).toInt32) 57 i1)).toInt64 * ((gI (sI z1 58 i1 (((((gI z1 56 i1)).toInt64 * (u2).toInt64) / (100 : Int64))).toInt32) 58 i1)).toInt64) / ((gI (sI z1 58 i1 (((((gI z1 56 i1)).toInt64 * (u2).toInt64) / (100 : Int64))).toInt32) 56 i1)).toInt64)).toInt32), .int (nI i1), .ref (a 59)] (fun hJ => ?_) ?_
    · refine q_if_ne (tgt := 46) C dX7_handOn_39 (by decide) (fun c2 => ?_) (fun c2 => ?_)
      · refine q_aload0 C dX7_handOn_46 ?_
        refine g_X7_68 C dX7_handOn_47 ?_
        refine q_iload3 C dX7_handOn_50 ?_
        refine q_ialdX (j := i1) C rfl (nI_clamp (by omega)) (vp_in_nI (by omega) (by first | decide | omega)) dX7_handOn_51 ?_
        refine q_i2l C dX7_handOn_52 ?_
        refine q_aload0 C dX7_handOn_53 ?_
        refine g_X7_71 C dX7_handOn_54 ?_
        refine q_iload3 C dX7_handOn_57 ?_
        refine q_ialdX (j := i1) C rfl (nI_clamp (by omega)) (vp_in_nI (by omega) (by first | decide | omega)) dX7_handOn_58 ?_
        refine q_i2l C dX7_handOn_59 ?_
        refine q_lmul C dX7_handOn_60 ?_
        refine q_aload0 C dX7_handOn_61 ?_
        refine g_X7_65 C dX7_handOn_62 ?_
        refine q_iload3 C dX7_handOn_65 ?_
        refine q_ialdX (j := i1) C rfl (nI_clamp (by omega)) (vp_in_nI (by omega) (by first | decide | omega)) dX7_handOn_66 ?_
        refine q_i2l C dX7_handOn_67 ?_
        refine q_ldiv C dX7_handOn_68 (by first | decide | assumption | (apply i64ne; assumption)) ?_
        refine q_l2i C dX7_handOn_69 ?_
        (try simp only [if_neg c2] at hJ); exact hJ
      · refine q_iconst (v := 0) C dX7_handOn_42 (by decide) ?_
        refine q_goto (tgt := 70) C dX7_handOn_43 (by decide) ?_
        (try simp only [if_pos c2] at hJ); exact hJ
    refine q_iastX (j := i1) C rfl (nI_clamp (by omega)) (vp_in_nI (by omega) (by first | decide | omega)) dX7_handOn_70 ?_
    refine q_cut (m_X7_handOn_1 u2 i1 z1) 71 [some (.ref (a 44)), some (.int u1), some (.int u2), some (.int (nI i1))] [] (fun hJ => hJ) ?_
    refine q_iinc3 (dv := 1) C dX7_handOn_71 (by decide) (by decide) (by intro w h0 h; first | exact absurd rfl h0 | (cases h <;> rfl)) ?_
    refine q_goto (tgt := 2) C dX7_handOn_74 (by decide) ?_
    exact ih1
  refine q_iload3 C dX7_handOn_2 ?_
  refine q_iconst (v := 4) C dX7_handOn_3 (by decide) ?_
  refine q_icmp_ge (tgt := 77) C dX7_handOn_4 (by decide) (fun c3 => ?_) (fun c3 => absurd (Int32.le_refl _) c3)
  refine q_aload0 C dX7_handOn_77 ?_
  refine g_X7_65 C dX7_handOn_78 ?_
  refine q_iconst (v := 4) C dX7_handOn_81 (by decide) ?_
  refine q_iconst (v := 0) C dX7_handOn_82 (by decide) ?_
  refine q_iastX (j := 4) C rfl (by decide) (by unfold vp_in; decide) dX7_handOn_83 ?_
  refine q_aload0 C dX7_handOn_84 ?_
  refine g_X7_68 C dX7_handOn_85 ?_
  refine q_iconst (v := 4) C dX7_handOn_88 (by decide) ?_
  refine q_iconst (v := 0) C dX7_handOn_89 (by decide) ?_
  refine q_iastX (j := 4) C rfl (by decide) (by unfold vp_in; decide) dX7_handOn_90 ?_
  refine q_iconst (v := 0) C dX7_handOn_91 (by decide) ?_
  refine q_istore3 C dX7_handOn_92 (by decide) (by intro w h0 h; first | exact absurd rfl h0 | (cases h <;> rfl)) ?_
  refine q_drop [some (.ref (a 44)), some (.int u1), none, some (.int (0 : Int32))] (by repeat' (first | exact trivial | rfl | constructor)) ?_
  refine q_loop 4 b_X7_handOn_2 (fun zz => zz) (fun xx zz => [some (.ref (a 44)), some (.int u1), none, some (.int xx)]) (sI (sI (itr (b_X7_handOn_1 u2) 4 M) 56 4 (0 : Int32)) 57 4 (0 : Int32))  (fun i2 z2 hi2 ih2 => ?_) ?_
  · refine q_iload3 C dX7_handOn_93 ?_
    refine q_iconst (v := 4) C dX7_handOn_94 (by decide) ?_
    refine q_icmp_ge (tgt := 168) C dX7_handOn_95 (by decide) (fun c4 => absurd c4 (nI_ge (b := 4) (by omega) (by omega))) (fun c4 => ?_)
    refine q_aload0 C dX7_handOn_98 ?_
    refine g_X7_65 C dX7_handOn_99 ?_
    refine q_iload3 C dX7_handOn_102 ?_
    refine q_dup2 C dX7_handOn_103 rfl rfl ?_
    refine q_ialdX (j := i2) C rfl (nI_clamp (by omega)) (vp_in_nI (by omega) (by first | decide | omega)) dX7_handOn_104 ?_
    refine q_aload0 C dX7_handOn_105 ?_
    refine g_X7_71 C dX7_handOn_106 ?_
    refine q_iload3 C dX7_handOn_109 ?_
    refine q_ialdX (j := i2) C rfl (nI_clamp (by omega)) (vp_in_nI (by omega) (by first | decide | omega)) dX7_handOn_110 ?_
    refine q_isub C dX7_handOn_111 ?_
    refine q_iastX (j := i2) C rfl (nI_clamp (by omega)) (vp_in_nI (by omega) (by first | decide | omega)) dX7_handOn_112 ?_
    refine q_aload0 C dX7_handOn_113 ?_
    refine g_X7_68 C dX7_handOn_114 ?_
    refine q_iload3 C dX7_handOn_117 ?_
    refine q_dup2 C dX7_handOn_118 rfl rfl ?_
    refine q_ialdX (j := i2) C rfl (nI_clamp (by omega)) (vp_in_nI (by omega) (by first | decide | omega)) dX7_handOn_119 ?_
    refine q_aload0 C dX7_handOn_120 ?_
    refine g_X7_74 C dX7_handOn_121 ?_
    refine q_iload3 C dX7_handOn_124 ?_
    refine q_ialdX (j := i2) C rfl (nI_clamp (by omega)) (vp_in_nI (by omega) (by first | decide | omega)) dX7_handOn_125 ?_
    refine q_isub C dX7_handOn_126 ?_
    refine q_iastX (j := i2) C rfl (nI_clamp (by omega)) (vp_in_nI (by omega) (by first | decide | omega)) dX7_handOn_127 ?_
    refine q_cut (m_X7_handOn_3 i2 z2) 128 [some (.ref (a 44)), some (.int u1), none, some (.int (nI i2))] [] (fun hJ => hJ) ?_
    refine q_aload0 C dX7_handOn_128 ?_
    refine g_X7_65 C dX7_handOn_129 ?_
    refine q_iload3 C dX7_handOn_132 ?_
    refine q_iconst (v := 1) C dX7_handOn_133 (by decide) ?_
    refine q_iadd C dX7_handOn_134 ?_
    refine q_dup2 C dX7_handOn_135 rfl rfl ?_
    refine q_ialdX (j := (i2 + 1)) C rfl (by rw [← nI_succ]; exact nI_clamp (by omega)) (by rw [← nI_succ]; exact vp_in_nI (by omega) (by decide)) dX7_handOn_136 ?_
    refine q_aload0 C dX7_handOn_137 ?_
    refine g_X7_71 C dX7_handOn_138 ?_
    refine q_iload3 C dX7_handOn_141 ?_
    refine q_ialdX (j := i2) C rfl (nI_clamp (by omega)) (vp_in_nI (by omega) (by first | decide | omega)) dX7_handOn_142 ?_
    refine q_iadd C dX7_handOn_143 ?_
    refine q_iastX (j := (i2 + 1)) C rfl (by rw [← nI_succ]; exact nI_clamp (by omega)) (by rw [← nI_succ]; exact vp_in_nI (by omega) (by decide)) dX7_handOn_144 ?_
    refine q_aload0 C dX7_handOn_145 ?_
    refine g_X7_68 C dX7_handOn_146 ?_
    refine q_iload3 C dX7_handOn_149 ?_
    refine q_iconst (v := 1) C dX7_handOn_150 (by decide) ?_
    refine q_iadd C dX7_handOn_151 ?_
    refine q_dup2 C dX7_handOn_152 rfl rfl ?_
    refine q_ialdX (j := (i2 + 1)) C rfl (by rw [← nI_succ]; exact nI_clamp (by omega)) (by rw [← nI_succ]; exact vp_in_nI (by omega) (by decide)) dX7_handOn_153 ?_
    refine q_aload0 C dX7_handOn_154 ?_
    refine g_X7_74 C dX7_handOn_155 ?_
    refine q_iload3 C dX7_handOn_158 ?_
    refine q_ialdX (j := i2) C rfl (nI_clamp (by omega)) (vp_in_nI (by omega) (by first | decide | omega)) dX7_handOn_159 ?_
    refine q_iadd C dX7_handOn_160 ?_
    refine q_iastX (j := (i2 + 1)) C rfl (by rw [← nI_succ]; exact nI_clamp (by omega)) (by rw [← nI_succ]; exact vp_in_nI (by omega) (by decide)) dX7_handOn_161 ?_
    refine q_cut (m_X7_handOn_4 i2 z2) 162 [some (.ref (a 44)), some (.int u1), none, some (.int (nI i2))] [] (fun hJ => hJ) ?_
    refine q_iinc3 (dv := 1) C dX7_handOn_162 (by decide) (by decide) (by intro w h0 h; first | exact absurd rfl h0 | (cases h <;> rfl)) ?_
    refine q_goto (tgt := 93) C dX7_handOn_165 (by decide) ?_
    exact ih2
  refine q_iload3 C dX7_handOn_93 ?_
  refine q_iconst (v := 4) C dX7_handOn_94 (by decide) ?_
  refine q_icmp_ge (tgt := 168) C dX7_handOn_95 (by decide) (fun c5 => ?_) (fun c5 => absurd (Int32.le_refl _) c5)
  refine q_aload0 C dX7_handOn_168 ?_
  refine g_X7_65 C dX7_handOn_169 ?_
  refine q_iconst (v := 0) C dX7_handOn_172 (by decide) ?_
  refine q_dup2 C dX7_handOn_173 rfl rfl ?_
  refine q_ialdX (j := 0) C rfl (by decide) (by unfold vp_in; decide) dX7_handOn_174 ?_
  refine q_iload1 C dX7_handOn_175 ?_
  refine q_iadd C dX7_handOn_176 ?_
  refine q_iastX (j := 0) C rfl (by decide) (by unfold vp_in; decide) dX7_handOn_177 ?_
  exact q_vret C (by first | (rw [f_X7_handOn]; done) | rfl) dX7_handOn_178
def f_X7_causeOf (M : Mm) (u1 : Int32) : Int32 := (if (¬ ((gI M 56 0) ≤ 0) ∧ ¬ ((lg_cmp ((gI M 57 0)).toInt64 ((200 : Int64) * ((gI M 56 0)).toInt64)) ≤ 0)) then ((10 : Int32) + (0 : Int32)) else (if (¬ ((gI M 56 1) ≤ 0) ∧ ¬ ((lg_cmp ((gI M 57 1)).toInt64 ((200 : Int64) * ((gI M 56 1)).toInt64)) ≤ 0)) then ((10 : Int32) + (1 : Int32)) else (if (¬ ((gI M 56 2) ≤ 0) ∧ ¬ ((lg_cmp ((gI M 57 2)).toInt64 ((200 : Int64) * ((gI M 56 2)).toInt64)) ≤ 0)) then ((10 : Int32) + (2 : Int32)) else (if (¬ ((gI M 56 3) ≤ 0) ∧ ¬ ((lg_cmp ((gI M 57 3)).toInt64 ((200 : Int64) * ((gI M 56 3)).toInt64)) ≤ 0)) then ((10 : Int32) + (3 : Int32)) else (if (¬ ((gI M 56 0) ≤ (2000 : Int32))) then ((20 : Int32) + (0 : Int32)) else (if (¬ ((gI M 56 1) ≤ (2000 : Int32))) then ((20 : Int32) + (1 : Int32)) else (if (¬ ((gI M 56 2) ≤ (2000 : Int32))) then ((20 : Int32) + (2 : Int32)) else (if (¬ ((gI M 56 3) ≤ (2000 : Int32))) then ((20 : Int32) + (3 : Int32)) else (if (gI M 60 0) ≤ 0 then (if u1 ≤ 0 then (0 : Int32) else (if (gI M 56 2) = 0 then (42 : Int32) else (0 : Int32))) else (if (gI M 60 3) = 0 then (33 : Int32) else (if u1 ≤ 0 then (0 : Int32) else (if (gI M 56 2) = 0 then (42 : Int32) else (0 : Int32)))))))))))))
set_option maxHeartbeats 4000000 in
set_option maxRecDepth 100000 in
theorem c_X7_causeOf (M : Mm) (u1 : Int32)  : MI yX7_causeOf cX7_causeOf 3 (some .int) 0 0 (fun a => [.ref (a 44), .int u1]) M (f_X7_causeOf M u1) M := by
  refine MI.intro (lv0 := fun a => [some (.ref (a 44)), some (.int u1), none]) (by decide) (fun a => ⟨(Nat.le_of_ble_eq_true rfl), rfl⟩) ?_
  intro p9 l9 e9 s9 m9 g9 b9 h9 c9 D9 A9 ct a C
  have C : Cx p9 s9 m9 g9 h9 c9 cX7_causeOf 3 RX7 (some .int) D9 A9 ct a := C
  refine q_iconst (v := 0) C dX7_causeOf_0 (by decide) ?_
  refine q_istore2 C dX7_causeOf_1 (by decide) (by intro w h0 h; first | exact absurd rfl h0 | (cases h <;> rfl)) ?_
  refine q_iload2 C dX7_causeOf_2 ?_
  refine q_iconst (v := 4) C dX7_causeOf_3 (by decide) ?_
  refine q_icmp_ge (tgt := 49) C dX7_causeOf_4 (by decide) (fun c1 => absurd c1 (by decide)) (fun c1 => ?_)
  refine q_aload0 C dX7_causeOf_7 ?_
  refine g_X7_65 C dX7_causeOf_8 ?_
  refine q_iload2 C dX7_causeOf_11 ?_
  refine q_ialdX (j := 0) C rfl (by decide) (by unfold vp_in; decide) dX7_causeOf_12 ?_
  refine q_by ((¬ ((gI M 56 0) ≤ 0) ∧ ¬ ((lg_cmp ((gI M 57 0)).toInt64 ((200 : Int64) * ((gI M 56 0)).toInt64)) ≤ 0))) (fun c4 => ?_) (fun c4 => ?_)
  · refine q_if_le (tgt := 43) C dX7_causeOf_13 (by decide) (fun c2 => ?_) (fun c2 => ?_)
    · exact absurd c4 (fun h => absurd c2 h.1)
    · refine q_aload0 C dX7_causeOf_16 ?_
      refine g_X7_68 C dX7_causeOf_17 ?_
      refine q_iload2 C dX7_causeOf_20 ?_
      refine q_ialdX (j := 0) C rfl (by decide) (by unfold vp_in; decide) dX7_causeOf_21 ?_
      refine q_i2l C dX7_causeOf_22 ?_
      refine q_ldc2 C dX7_causeOf_23 wk_X7_177 ?_
      refine q_aload0 C dX7_causeOf_26 ?_
      refine g_X7_65 C dX7_causeOf_27 ?_
      refine q_iload2 C dX7_causeOf_30 ?_
      refine q_ialdX (j := 0) C rfl (by decide) (by unfold vp_in; decide) dX7_causeOf_31 ?_
      refine q_i2l C dX7_causeOf_32 ?_
      refine q_lmul C dX7_causeOf_33 ?_
      refine q_lcmp C dX7_causeOf_34 ?_
      refine q_if_le (tgt := 43) C dX7_causeOf_35 (by decide) (fun c3 => ?_) (fun c3 => ?_)
      · exact absurd c4 (fun h => absurd c3 h.2)
      · refine q_bipush (v := 10) C dX7_causeOf_38 (by decide) ?_
        refine q_iload2 C dX7_causeOf_40 ?_
        refine q_iadd C dX7_causeOf_41 ?_
        exact q_iret C (by first | rfl | (rw [f_X7_causeOf, if_pos c4]; done) | (rw [f_X7_causeOf, if_pos c4]; rfl) | (simp only [f_X7_causeOf, if_pos c4]; done)) rfl dX7_causeOf_42
  refine q_cut M 43 [some (.ref (a 44)), some (.int u1), some (.int (0 : Int32))] [] (fun hJ => ?_) ?_
  · refine q_if_le (tgt := 43) C dX7_causeOf_13 (by decide) (fun c2 => ?_) (fun c2 => ?_)
    · exact hJ
    · refine q_aload0 C dX7_causeOf_16 ?_
      refine g_X7_68 C dX7_causeOf_17 ?_
      refine q_iload2 C dX7_causeOf_20 ?_
      refine q_ialdX (j := 0) C rfl (by decide) (by unfold vp_in; decide) dX7_causeOf_21 ?_
      refine q_i2l C dX7_causeOf_22 ?_
      refine q_ldc2 C dX7_causeOf_23 wk_X7_177 ?_
      refine q_aload0 C dX7_causeOf_26 ?_
      refine g_X7_65 C dX7_causeOf_27 ?_
      refine q_iload2 C dX7_causeOf_30 ?_
      refine q_ialdX (j := 0) C rfl (by decide) (by unfold vp_in; decide) dX7_causeOf_31 ?_
      refine q_i2l C dX7_causeOf_32 ?_
      refine q_lmul C dX7_causeOf_33 ?_
      refine q_lcmp C dX7_causeOf_34 ?_
      refine q_if_le (tgt := 43) C dX7_causeOf_35 (by decide) (fun c3 => ?_) (fun c3 => ?_)
      · exact hJ
      · refine q_bipush (v := 10) C dX7_causeOf_38 (by decide) ?_
        refine q_iload2 C dX7_causeOf_40 ?_
        refine q_iadd C dX7_causeOf_41 ?_
        exact absurd ⟨c2, c3⟩ c4
  refine q_iinc2 (dv := 1) C dX7_causeOf_43 (by decide) (by decide) (by intro w h0 h; first | exact absurd rfl h0 | (cases h <;> rfl)) ?_
  refine q_cut M 46 [some (.ref (a 44)), some (.int u1), some (.int (1 : Int32))] [] (fun hJ => by rw [show ((0 : Int32) + 1) = (1 : Int32) from by decide]; exact hJ) ?_
  refine q_goto (tgt := 2) C dX7_causeOf_46 (by decide) ?_
  refine q_iload2 C dX7_causeOf_2 ?_
  refine q_iconst (v := 4) C dX7_causeOf_3 (by decide) ?_
  refine q_icmp_ge (tgt := 49) C dX7_causeOf_4 (by decide) (fun c5 => absurd c5 (by decide)) (fun c5 => ?_)
  refine q_aload0 C dX7_causeOf_7 ?_
  refine g_X7_65 C dX7_causeOf_8 ?_
  refine q_iload2 C dX7_causeOf_11 ?_
  refine q_ialdX (j := 1) C rfl (by decide) (by unfold vp_in; decide) dX7_causeOf_12 ?_
  refine q_by ((¬ ((gI M 56 1) ≤ 0) ∧ ¬ ((lg_cmp ((gI M 57 1)).toInt64 ((200 : Int64) * ((gI M 56 1)).toInt64)) ≤ 0))) (fun c8 => ?_) (fun c8 => ?_)
  · refine q_if_le (tgt := 43) C dX7_causeOf_13 (by decide) (fun c6 => ?_) (fun c6 => ?_)
    · exact absurd c8 (fun h => absurd c6 h.1)
    · refine q_aload0 C dX7_causeOf_16 ?_
      refine g_X7_68 C dX7_causeOf_17 ?_
      refine q_iload2 C dX7_causeOf_20 ?_
      refine q_ialdX (j := 1) C rfl (by decide) (by unfold vp_in; decide) dX7_causeOf_21 ?_
      refine q_i2l C dX7_causeOf_22 ?_
      refine q_ldc2 C dX7_causeOf_23 wk_X7_177 ?_
      refine q_aload0 C dX7_causeOf_26 ?_
      refine g_X7_65 C dX7_causeOf_27 ?_
      refine q_iload2 C dX7_causeOf_30 ?_
      refine q_ialdX (j := 1) C rfl (by decide) (by unfold vp_in; decide) dX7_causeOf_31 ?_
      refine q_i2l C dX7_causeOf_32 ?_
      refine q_lmul C dX7_causeOf_33 ?_
      refine q_lcmp C dX7_causeOf_34 ?_
      refine q_if_le (tgt := 43) C dX7_causeOf_35 (by decide) (fun c7 => ?_) (fun c7 => ?_)
      · exact absurd c8 (fun h => absurd c7 h.2)
      · refine q_bipush (v := 10) C dX7_causeOf_38 (by decide) ?_
        refine q_iload2 C dX7_causeOf_40 ?_
        refine q_iadd C dX7_causeOf_41 ?_
        exact q_iret C (by first | rfl | (rw [f_X7_causeOf, if_neg c4, if_pos c8]; done) | (rw [f_X7_causeOf, if_neg c4, if_pos c8]; rfl) | (simp only [f_X7_causeOf, if_neg c4, if_pos c8]; done)) rfl dX7_causeOf_42
  refine q_cut M 43 [some (.ref (a 44)), some (.int u1), some (.int (1 : Int32))] [] (fun hJ => ?_) ?_
  · refine q_if_le (tgt := 43) C dX7_causeOf_13 (by decide) (fun c6 => ?_) (fun c6 => ?_)
    · exact hJ
    · refine q_aload0 C dX7_causeOf_16 ?_
      refine g_X7_68 C dX7_causeOf_17 ?_
      refine q_iload2 C dX7_causeOf_20 ?_
      refine q_ialdX (j := 1) C rfl (by decide) (by unfold vp_in; decide) dX7_causeOf_21 ?_
      refine q_i2l C dX7_causeOf_22 ?_
      refine q_ldc2 C dX7_causeOf_23 wk_X7_177 ?_
      refine q_aload0 C dX7_causeOf_26 ?_
      refine g_X7_65 C dX7_causeOf_27 ?_
      refine q_iload2 C dX7_causeOf_30 ?_
      refine q_ialdX (j := 1) C rfl (by decide) (by unfold vp_in; decide) dX7_causeOf_31 ?_
      refine q_i2l C dX7_causeOf_32 ?_
      refine q_lmul C dX7_causeOf_33 ?_
      refine q_lcmp C dX7_causeOf_34 ?_
      refine q_if_le (tgt := 43) C dX7_causeOf_35 (by decide) (fun c7 => ?_) (fun c7 => ?_)
      · exact hJ
      · refine q_bipush (v := 10) C dX7_causeOf_38 (by decide) ?_
        refine q_iload2 C dX7_causeOf_40 ?_
        refine q_iadd C dX7_causeOf_41 ?_
        exact absurd ⟨c6, c7⟩ c8
  refine q_iinc2 (dv := 1) C dX7_causeOf_43 (by decide) (by decide) (by intro w h0 h; first | exact absurd rfl h0 | (cases h <;> rfl)) ?_
  refine q_cut M 46 [some (.ref (a 44)), some (.int u1), some (.int (2 : Int32))] [] (fun hJ => by rw [show ((1 : Int32) + 1) = (2 : Int32) from by decide]; exact hJ) ?_
  refine q_goto (tgt := 2) C dX7_causeOf_46 (by decide) ?_
  refine q_iload2 C dX7_causeOf_2 ?_
  refine q_iconst (v := 4) C dX7_causeOf_3 (by decide) ?_
  refine q_icmp_ge (tgt := 49) C dX7_causeOf_4 (by decide) (fun c9 => absurd c9 (by decide)) (fun c9 => ?_)
  refine q_aload0 C dX7_causeOf_7 ?_
  refine g_X7_65 C dX7_causeOf_8 ?_
  refine q_iload2 C dX7_causeOf_11 ?_
  refine q_ialdX (j := 2) C rfl (by decide) (by unfold vp_in; decide) dX7_causeOf_12 ?_
  refine q_by ((¬ ((gI M 56 2) ≤ 0) ∧ ¬ ((lg_cmp ((gI M 57 2)).toInt64 ((200 : Int64) * ((gI M 56 2)).toInt64)) ≤ 0))) (fun c12 => ?_) (fun c12 => ?_)
  · refine q_if_le (tgt := 43) C dX7_causeOf_13 (by decide) (fun c10 => ?_) (fun c10 => ?_)
    · exact absurd c12 (fun h => absurd c10 h.1)
    · refine q_aload0 C dX7_causeOf_16 ?_
      refine g_X7_68 C dX7_causeOf_17 ?_
      refine q_iload2 C dX7_causeOf_20 ?_
      refine q_ialdX (j := 2) C rfl (by decide) (by unfold vp_in; decide) dX7_causeOf_21 ?_
      refine q_i2l C dX7_causeOf_22 ?_
      refine q_ldc2 C dX7_causeOf_23 wk_X7_177 ?_
      refine q_aload0 C dX7_causeOf_26 ?_
      refine g_X7_65 C dX7_causeOf_27 ?_
      refine q_iload2 C dX7_causeOf_30 ?_
      refine q_ialdX (j := 2) C rfl (by decide) (by unfold vp_in; decide) dX7_causeOf_31 ?_
      refine q_i2l C dX7_causeOf_32 ?_
      refine q_lmul C dX7_causeOf_33 ?_
      refine q_lcmp C dX7_causeOf_34 ?_
      refine q_if_le (tgt := 43) C dX7_causeOf_35 (by decide) (fun c11 => ?_) (fun c11 => ?_)
      · exact absurd c12 (fun h => absurd c11 h.2)
      · refine q_bipush (v := 10) C dX7_causeOf_38 (by decide) ?_
        refine q_iload2 C dX7_causeOf_40 ?_
        refine q_iadd C dX7_causeOf_41 ?_
        exact q_iret C (by first | rfl | (rw [f_X7_causeOf, if_neg c4, if_neg c8, if_pos c12]; done) | (rw [f_X7_causeOf, if_neg c4, if_neg c8, if_pos c12]; rfl) | (simp only [f_X7_causeOf, if_neg c4, if_neg c8, if_pos c12]; done)) rfl dX7_causeOf_42
  refine q_cut M 43 [some (.ref (a 44)), some (.int u1), some (.int (2 : Int32))] [] (fun hJ => ?_) ?_
  · refine q_if_le (tgt := 43) C dX7_causeOf_13 (by decide) (fun c10 => ?_) (fun c10 => ?_)
    · exact hJ
    · refine q_aload0 C dX7_causeOf_16 ?_
      refine g_X7_68 C dX7_causeOf_17 ?_
      refine q_iload2 C dX7_causeOf_20 ?_
      refine q_ialdX (j := 2) C rfl (by decide) (by unfold vp_in; decide) dX7_causeOf_21 ?_
      refine q_i2l C dX7_causeOf_22 ?_
      refine q_ldc2 C dX7_causeOf_23 wk_X7_177 ?_
      refine q_aload0 C dX7_causeOf_26 ?_
      refine g_X7_65 C dX7_causeOf_27 ?_
      refine q_iload2 C dX7_causeOf_30 ?_
      refine q_ialdX (j := 2) C rfl (by decide) (by unfold vp_in; decide) dX7_causeOf_31 ?_
      refine q_i2l C dX7_causeOf_32 ?_
      refine q_lmul C dX7_causeOf_33 ?_
      refine q_lcmp C dX7_causeOf_34 ?_
      refine q_if_le (tgt := 43) C dX7_causeOf_35 (by decide) (fun c11 => ?_) (fun c11 => ?_)
      · exact hJ
      · refine q_bipush (v := 10) C dX7_causeOf_38 (by decide) ?_
        refine q_iload2 C dX7_causeOf_40 ?_
        refine q_iadd C dX7_causeOf_41 ?_
        exact absurd ⟨c10, c11⟩ c12
  refine q_iinc2 (dv := 1) C dX7_causeOf_43 (by decide) (by decide) (by intro w h0 h; first | exact absurd rfl h0 | (cases h <;> rfl)) ?_
  refine q_cut M 46 [some (.ref (a 44)), some (.int u1), some (.int (3 : Int32))] [] (fun hJ => by rw [show ((2 : Int32) + 1) = (3 : Int32) from by decide]; exact hJ) ?_
  refine q_goto (tgt := 2) C dX7_causeOf_46 (by decide) ?_
  refine q_iload2 C dX7_causeOf_2 ?_
  refine q_iconst (v := 4) C dX7_causeOf_3 (by decide) ?_
  refine q_icmp_ge (tgt := 49) C dX7_causeOf_4 (by decide) (fun c13 => absurd c13 (by decide)) (fun c13 => ?_)
  refine q_aload0 C dX7_causeOf_7 ?_
  refine g_X7_65 C dX7_causeOf_8 ?_
  refine q_iload2 C dX7_causeOf_11 ?_
  refine q_ialdX (j := 3) C rfl (by decide) (by unfold vp_in; decide) dX7_causeOf_12 ?_
  refine q_by ((¬ ((gI M 56 3) ≤ 0) ∧ ¬ ((lg_cmp ((gI M 57 3)).toInt64 ((200 : Int64) * ((gI M 56 3)).toInt64)) ≤ 0))) (fun c16 => ?_) (fun c16 => ?_)
  · refine q_if_le (tgt := 43) C dX7_causeOf_13 (by decide) (fun c14 => ?_) (fun c14 => ?_)
    · exact absurd c16 (fun h => absurd c14 h.1)
    · refine q_aload0 C dX7_causeOf_16 ?_
      refine g_X7_68 C dX7_causeOf_17 ?_
      refine q_iload2 C dX7_causeOf_20 ?_
      refine q_ialdX (j := 3) C rfl (by decide) (by unfold vp_in; decide) dX7_causeOf_21 ?_
      refine q_i2l C dX7_causeOf_22 ?_
      refine q_ldc2 C dX7_causeOf_23 wk_X7_177 ?_
      refine q_aload0 C dX7_causeOf_26 ?_
      refine g_X7_65 C dX7_causeOf_27 ?_
      refine q_iload2 C dX7_causeOf_30 ?_
      refine q_ialdX (j := 3) C rfl (by decide) (by unfold vp_in; decide) dX7_causeOf_31 ?_
      refine q_i2l C dX7_causeOf_32 ?_
      refine q_lmul C dX7_causeOf_33 ?_
      refine q_lcmp C dX7_causeOf_34 ?_
      refine q_if_le (tgt := 43) C dX7_causeOf_35 (by decide) (fun c15 => ?_) (fun c15 => ?_)
      · exact absurd c16 (fun h => absurd c15 h.2)
      · refine q_bipush (v := 10) C dX7_causeOf_38 (by decide) ?_
        refine q_iload2 C dX7_causeOf_40 ?_
        refine q_iadd C dX7_causeOf_41 ?_
        exact q_iret C (by first | rfl | (rw [f_X7_causeOf, if_neg c4, if_neg c8, if_neg c12, if_pos c16]; done) | (rw [f_X7_causeOf, if_neg c4, if_neg c8, if_neg c12, if_pos c16]; rfl) | (simp only [f_X7_causeOf, if_neg c4, if_neg c8, if_neg c12, if_pos c16]; done)) rfl dX7_causeOf_42
  refine q_cut M 43 [some (.ref (a 44)), some (.int u1), some (.int (3 : Int32))] [] (fun hJ => ?_) ?_
  · refine q_if_le (tgt := 43) C dX7_causeOf_13 (by decide) (fun c14 => ?_) (fun c14 => ?_)
    · exact hJ
    · refine q_aload0 C dX7_causeOf_16 ?_
      refine g_X7_68 C dX7_causeOf_17 ?_
      refine q_iload2 C dX7_causeOf_20 ?_
      refine q_ialdX (j := 3) C rfl (by decide) (by unfold vp_in; decide) dX7_causeOf_21 ?_
      refine q_i2l C dX7_causeOf_22 ?_
      refine q_ldc2 C dX7_causeOf_23 wk_X7_177 ?_
      refine q_aload0 C dX7_causeOf_26 ?_
      refine g_X7_65 C dX7_causeOf_27 ?_
      refine q_iload2 C dX7_causeOf_30 ?_
      refine q_ialdX (j := 3) C rfl (by decide) (by unfold vp_in; decide) dX7_causeOf_31 ?_
      refine q_i2l C dX7_causeOf_32 ?_
      refine q_lmul C dX7_causeOf_33 ?_
      refine q_lcmp C dX7_causeOf_34 ?_
      refine q_if_le (tgt := 43) C dX7_causeOf_35 (by decide) (fun c15 => ?_) (fun c15 => ?_)
      · exact hJ
      · refine q_bipush (v := 10) C dX7_causeOf_38 (by decide) ?_
        refine q_iload2 C dX7_causeOf_40 ?_
        refine q_iadd C dX7_causeOf_41 ?_
        exact absurd ⟨c14, c15⟩ c16
  refine q_iinc2 (dv := 1) C dX7_causeOf_43 (by decide) (by decide) (by intro w h0 h; first | exact absurd rfl h0 | (cases h <;> rfl)) ?_
  refine q_cut M 46 [some (.ref (a 44)), some (.int u1), some (.int (4 : Int32))] [] (fun hJ => by rw [show ((3 : Int32) + 1) = (4 : Int32) from by decide]; exact hJ) ?_
  refine q_goto (tgt := 2) C dX7_causeOf_46 (by decide) ?_
  refine q_iload2 C dX7_causeOf_2 ?_
  refine q_iconst (v := 4) C dX7_causeOf_3 (by decide) ?_
  refine q_icmp_ge (tgt := 49) C dX7_causeOf_4 (by decide) (fun c17 => ?_) (fun c17 => absurd (by decide) c17)
  refine q_iconst (v := 0) C dX7_causeOf_49 (by decide) ?_
  refine q_istore2 C dX7_causeOf_50 (by decide) (by intro w h0 h; first | exact absurd rfl h0 | (cases h <;> rfl)) ?_
  refine q_iload2 C dX7_causeOf_51 ?_
  refine q_iconst (v := 4) C dX7_causeOf_52 (by decide) ?_
  refine q_icmp_ge (tgt := 79) C dX7_causeOf_53 (by decide) (fun c18 => absurd c18 (by decide)) (fun c18 => ?_)
  refine q_aload0 C dX7_causeOf_56 ?_
  refine g_X7_65 C dX7_causeOf_57 ?_
  refine q_iload2 C dX7_causeOf_60 ?_
  refine q_ialdX (j := 0) C rfl (by decide) (by unfold vp_in; decide) dX7_causeOf_61 ?_
  refine q_sipush (v := 2000) C dX7_causeOf_62 (by decide) ?_
  refine q_by ((¬ ((gI M 56 0) ≤ (2000 : Int32)))) (fun c20 => ?_) (fun c20 => ?_)
  · refine q_icmp_le (tgt := 73) C dX7_causeOf_65 (by decide) (fun c19 => ?_) (fun c19 => ?_)
    · exact absurd c20 (fun h => absurd c19 h)
    · refine q_bipush (v := 20) C dX7_causeOf_68 (by decide) ?_
      refine q_iload2 C dX7_causeOf_70 ?_
      refine q_iadd C dX7_causeOf_71 ?_
      exact q_iret C (by first | rfl | (rw [f_X7_causeOf, if_neg c4, if_neg c8, if_neg c12, if_neg c16, if_pos c20]; done) | (rw [f_X7_causeOf, if_neg c4, if_neg c8, if_neg c12, if_neg c16, if_pos c20]; rfl) | (simp only [f_X7_causeOf, if_neg c4, if_neg c8, if_neg c12, if_neg c16, if_pos c20]; done)) rfl dX7_causeOf_72
  refine q_cut M 73 [some (.ref (a 44)), some (.int u1), some (.int (0 : Int32))] [] (fun hJ => ?_) ?_
  · refine q_icmp_le (tgt := 73) C dX7_causeOf_65 (by decide) (fun c19 => ?_) (fun c19 => ?_)
    · exact hJ
    · refine q_bipush (v := 20) C dX7_causeOf_68 (by decide) ?_
      refine q_iload2 C dX7_causeOf_70 ?_
      refine q_iadd C dX7_causeOf_71 ?_
      exact absurd c19 c20
  refine q_iinc2 (dv := 1) C dX7_causeOf_73 (by decide) (by decide) (by intro w h0 h; first | exact absurd rfl h0 | (cases h <;> rfl)) ?_
  refine q_cut M 76 [some (.ref (a 44)), some (.int u1), some (.int (1 : Int32))] [] (fun hJ => by rw [show ((0 : Int32) + 1) = (1 : Int32) from by decide]; exact hJ) ?_
  refine q_goto (tgt := 51) C dX7_causeOf_76 (by decide) ?_
  refine q_iload2 C dX7_causeOf_51 ?_
  refine q_iconst (v := 4) C dX7_causeOf_52 (by decide) ?_
  refine q_icmp_ge (tgt := 79) C dX7_causeOf_53 (by decide) (fun c21 => absurd c21 (by decide)) (fun c21 => ?_)
  refine q_aload0 C dX7_causeOf_56 ?_
  refine g_X7_65 C dX7_causeOf_57 ?_
  refine q_iload2 C dX7_causeOf_60 ?_
  refine q_ialdX (j := 1) C rfl (by decide) (by unfold vp_in; decide) dX7_causeOf_61 ?_
  refine q_sipush (v := 2000) C dX7_causeOf_62 (by decide) ?_
  refine q_by ((¬ ((gI M 56 1) ≤ (2000 : Int32)))) (fun c23 => ?_) (fun c23 => ?_)
  · refine q_icmp_le (tgt := 73) C dX7_causeOf_65 (by decide) (fun c22 => ?_) (fun c22 => ?_)
    · exact absurd c23 (fun h => absurd c22 h)
    · refine q_bipush (v := 20) C dX7_causeOf_68 (by decide) ?_
      refine q_iload2 C dX7_causeOf_70 ?_
      refine q_iadd C dX7_causeOf_71 ?_
      exact q_iret C (by first | rfl | (rw [f_X7_causeOf, if_neg c4, if_neg c8, if_neg c12, if_neg c16, if_neg c20, if_pos c23]; done) | (rw [f_X7_causeOf, if_neg c4, if_neg c8, if_neg c12, if_neg c16, if_neg c20, if_pos c23]; rfl) | (simp only [f_X7_causeOf, if_neg c4, if_neg c8, if_neg c12, if_neg c16, if_neg c20, if_pos c23]; done)) rfl dX7_causeOf_72
  refine q_cut M 73 [some (.ref (a 44)), some (.int u1), some (.int (1 : Int32))] [] (fun hJ => ?_) ?_
  · refine q_icmp_le (tgt := 73) C dX7_causeOf_65 (by decide) (fun c22 => ?_) (fun c22 => ?_)
    · exact hJ
    · refine q_bipush (v := 20) C dX7_causeOf_68 (by decide) ?_
      refine q_iload2 C dX7_causeOf_70 ?_
      refine q_iadd C dX7_causeOf_71 ?_
      exact absurd c22 c23
  refine q_iinc2 (dv := 1) C dX7_causeOf_73 (by decide) (by decide) (by intro w h0 h; first | exact absurd rfl h0 | (cases h <;> rfl)) ?_
  refine q_cut M 76 [some (.ref (a 44)), some (.int u1), some (.int (2 : Int32))] [] (fun hJ => by rw [show ((1 : Int32) + 1) = (2 : Int32) from by decide]; exact hJ) ?_
  refine q_goto (tgt := 51) C dX7_causeOf_76 (by decide) ?_
  refine q_iload2 C dX7_causeOf_51 ?_
  refine q_iconst (v := 4) C dX7_causeOf_52 (by decide) ?_
  refine q_icmp_ge (tgt := 79) C dX7_causeOf_53 (by decide) (fun c24 => absurd c24 (by decide)) (fun c24 => ?_)
  refine q_aload0 C dX7_causeOf_56 ?_
  refine g_X7_65 C dX7_causeOf_57 ?_
  refine q_iload2 C dX7_causeOf_60 ?_
  refine q_ialdX (j := 2) C rfl (by decide) (by unfold vp_in; decide) dX7_causeOf_61 ?_
  refine q_sipush (v := 2000) C dX7_causeOf_62 (by decide) ?_
  refine q_by ((¬ ((gI M 56 2) ≤ (2000 : Int32)))) (fun c26 => ?_) (fun c26 => ?_)
  · refine q_icmp_le (tgt := 73) C dX7_causeOf_65 (by decide) (fun c25 => ?_) (fun c25 => ?_)
    · exact absurd c26 (fun h => absurd c25 h)
    · refine q_bipush (v := 20) C dX7_causeOf_68 (by decide) ?_
      refine q_iload2 C dX7_causeOf_70 ?_
      refine q_iadd C dX7_causeOf_71 ?_
      exact q_iret C (by first | rfl | (rw [f_X7_causeOf, if_neg c4, if_neg c8, if_neg c12, if_neg c16, if_neg c20, if_neg c23, if_pos c26]; done) | (rw [f_X7_causeOf, if_neg c4, if_neg c8, if_neg c12, if_neg c16, if_neg c20, if_neg c23, if_pos c26]; rfl) | (simp only [f_X7_causeOf, if_neg c4, if_neg c8, if_neg c12, if_neg c16, if_neg c20, if_neg c23, if_pos c26]; done)) rfl dX7_causeOf_72
  refine q_cut M 73 [some (.ref (a 44)), some (.int u1), some (.int (2 : Int32))] [] (fun hJ => ?_) ?_
  · refine q_icmp_le (tgt := 73) C dX7_causeOf_65 (by decide) (fun c25 => ?_) (fun c25 => ?_)
    · exact hJ
    · refine q_bipush (v := 20) C dX7_causeOf_68 (by decide) ?_
      refine q_iload2 C dX7_causeOf_70 ?_
      refine q_iadd C dX7_causeOf_71 ?_
      exact absurd c25 c26
  refine q_iinc2 (dv := 1) C dX7_causeOf_73 (by decide) (by decide) (by intro w h0 h; first | exact absurd rfl h0 | (cases h <;> rfl)) ?_
  refine q_cut M 76 [some (.ref (a 44)), some (.int u1), some (.int (3 : Int32))] [] (fun hJ => by rw [show ((2 : Int32) + 1) = (3 : Int32) from by decide]; exact hJ) ?_
  refine q_goto (tgt := 51) C dX7_causeOf_76 (by decide) ?_
  refine q_iload2 C dX7_causeOf_51 ?_
  refine q_iconst (v := 4) C dX7_causeOf_52 (by decide) ?_
  refine q_icmp_ge (tgt := 79) C dX7_causeOf_53 (by decide) (fun c27 => absurd c27 (by decide)) (fun c27 => ?_)
  refine q_aload0 C dX7_causeOf_56 ?_
  refine g_X7_65 C dX7_causeOf_57 ?_
  refine q_iload2 C dX7_causeOf_60 ?_
  refine q_ialdX (j := 3) C rfl (by decide) (by unfold vp_in; decide) dX7_causeOf_61 ?_
  refine q_sipush (v := 2000) C dX7_causeOf_62 (by decide) ?_
  refine q_by ((¬ ((gI M 56 3) ≤ (2000 : Int32)))) (fun c29 => ?_) (fun c29 => ?_)
  · refine q_icmp_le (tgt := 73) C dX7_causeOf_65 (by decide) (fun c28 => ?_) (fun c28 => ?_)
    · exact absurd c29 (fun h => absurd c28 h)
    · refine q_bipush (v := 20) C dX7_causeOf_68 (by decide) ?_
      refine q_iload2 C dX7_causeOf_70 ?_
      refine q_iadd C dX7_causeOf_71 ?_
      exact q_iret C (by first | rfl | (rw [f_X7_causeOf, if_neg c4, if_neg c8, if_neg c12, if_neg c16, if_neg c20, if_neg c23, if_neg c26, if_pos c29]; done) | (rw [f_X7_causeOf, if_neg c4, if_neg c8, if_neg c12, if_neg c16, if_neg c20, if_neg c23, if_neg c26, if_pos c29]; rfl) | (simp only [f_X7_causeOf, if_neg c4, if_neg c8, if_neg c12, if_neg c16, if_neg c20, if_neg c23, if_neg c26, if_pos c29]; done)) rfl dX7_causeOf_72
  refine q_cut M 73 [some (.ref (a 44)), some (.int u1), some (.int (3 : Int32))] [] (fun hJ => ?_) ?_
  · refine q_icmp_le (tgt := 73) C dX7_causeOf_65 (by decide) (fun c28 => ?_) (fun c28 => ?_)
    · exact hJ
    · refine q_bipush (v := 20) C dX7_causeOf_68 (by decide) ?_
      refine q_iload2 C dX7_causeOf_70 ?_
      refine q_iadd C dX7_causeOf_71 ?_
      exact absurd c28 c29
  refine q_iinc2 (dv := 1) C dX7_causeOf_73 (by decide) (by decide) (by intro w h0 h; first | exact absurd rfl h0 | (cases h <;> rfl)) ?_
  refine q_cut M 76 [some (.ref (a 44)), some (.int u1), some (.int (4 : Int32))] [] (fun hJ => by rw [show ((3 : Int32) + 1) = (4 : Int32) from by decide]; exact hJ) ?_
  refine q_goto (tgt := 51) C dX7_causeOf_76 (by decide) ?_
  refine q_iload2 C dX7_causeOf_51 ?_
  refine q_iconst (v := 4) C dX7_causeOf_52 (by decide) ?_
  refine q_icmp_ge (tgt := 79) C dX7_causeOf_53 (by decide) (fun c30 => ?_) (fun c30 => absurd (by decide) c30)
  refine q_aload0 C dX7_causeOf_79 ?_
  refine g_X7_77 C dX7_causeOf_80 ?_
  refine q_iconst (v := 0) C dX7_causeOf_83 (by decide) ?_
  refine q_ialdX (j := 0) C rfl (by decide) (by unfold vp_in; decide) dX7_causeOf_84 ?_
  refine q_if_le (tgt := 100) C dX7_causeOf_85 (by decide) (fun c31 => ?_) (fun c31 => ?_)
  · refine q_iload1 C dX7_causeOf_100 ?_
    refine q_cut M 119 [none, none, none] [.int (if u1 ≤ 0 then (0 : Int32) else (if (gI M 56 2) = 0 then (42 : Int32) else (0 : Int32)))] (fun hJ => ?_) ?_
    · refine q_if_le (tgt := 118) C dX7_causeOf_101 (by decide) (fun c32 => ?_) (fun c32 => ?_)
      · refine q_iconst (v := 0) C dX7_causeOf_118 (by decide) ?_
        refine q_drop [none, none, none] (by repeat' (first | exact trivial | rfl | constructor)) ?_
        (try simp only [if_pos c32] at hJ); exact hJ
      · refine q_aload0 C dX7_causeOf_104 ?_
        refine g_X7_65 C dX7_causeOf_105 ?_
        refine q_iconst (v := 2) C dX7_causeOf_108 (by decide) ?_
        refine q_ialdX (j := 2) C rfl (by decide) (by unfold vp_in; decide) dX7_causeOf_109 ?_
        refine q_if_ne (tgt := 118) C dX7_causeOf_110 (by decide) (fun c33 => ?_) (fun c33 => ?_)
        · refine q_iconst (v := 0) C dX7_causeOf_118 (by decide) ?_
          refine q_drop [none, none, none] (by repeat' (first | exact trivial | rfl | constructor)) ?_
          (try simp only [if_neg c32, if_neg c33] at hJ); exact hJ
        · refine q_bipush (v := 42) C dX7_causeOf_113 (by decide) ?_
          refine q_goto (tgt := 119) C dX7_causeOf_115 (by decide) ?_
          refine q_drop [none, none, none] (by repeat' (first | exact trivial | rfl | constructor)) ?_
          (try simp only [if_neg c32, if_pos c33] at hJ); exact hJ
    exact q_iret C (by first | rfl | (rw [f_X7_causeOf, if_neg c4, if_neg c8, if_neg c12, if_neg c16, if_neg c20, if_neg c23, if_neg c26, if_neg c29, if_pos c31]; done) | (rw [f_X7_causeOf, if_neg c4, if_neg c8, if_neg c12, if_neg c16, if_neg c20, if_neg c23, if_neg c26, if_neg c29, if_pos c31]; rfl) | (simp only [f_X7_causeOf, if_neg c4, if_neg c8, if_neg c12, if_neg c16, if_neg c20, if_neg c23, if_neg c26, if_neg c29, if_pos c31]; done)) rfl dX7_causeOf_119
  · refine q_aload0 C dX7_causeOf_88 ?_
    refine g_X7_77 C dX7_causeOf_89 ?_
    refine q_iconst (v := 3) C dX7_causeOf_92 (by decide) ?_
    refine q_ialdX (j := 3) C rfl (by decide) (by unfold vp_in; decide) dX7_causeOf_93 ?_
    refine q_if_ne (tgt := 100) C dX7_causeOf_94 (by decide) (fun c34 => ?_) (fun c34 => ?_)
    · refine q_iload1 C dX7_causeOf_100 ?_
      refine q_cut M 119 [none, none, none] [.int (if u1 ≤ 0 then (0 : Int32) else (if (gI M 56 2) = 0 then (42 : Int32) else (0 : Int32)))] (fun hJ => ?_) ?_
      · refine q_if_le (tgt := 118) C dX7_causeOf_101 (by decide) (fun c35 => ?_) (fun c35 => ?_)
        · refine q_iconst (v := 0) C dX7_causeOf_118 (by decide) ?_
          refine q_drop [none, none, none] (by repeat' (first | exact trivial | rfl | constructor)) ?_
          (try simp only [if_pos c35] at hJ); exact hJ
        · refine q_aload0 C dX7_causeOf_104 ?_
          refine g_X7_65 C dX7_causeOf_105 ?_
          refine q_iconst (v := 2) C dX7_causeOf_108 (by decide) ?_
          refine q_ialdX (j := 2) C rfl (by decide) (by unfold vp_in; decide) dX7_causeOf_109 ?_
          refine q_if_ne (tgt := 118) C dX7_causeOf_110 (by decide) (fun c36 => ?_) (fun c36 => ?_)
          · refine q_iconst (v := 0) C dX7_causeOf_118 (by decide) ?_
            refine q_drop [none, none, none] (by repeat' (first | exact trivial | rfl | constructor)) ?_
            (try simp only [if_neg c35, if_neg c36] at hJ); exact hJ
          · refine q_bipush (v := 42) C dX7_causeOf_113 (by decide) ?_
            refine q_goto (tgt := 119) C dX7_causeOf_115 (by decide) ?_
            refine q_drop [none, none, none] (by repeat' (first | exact trivial | rfl | constructor)) ?_
            (try simp only [if_neg c35, if_pos c36] at hJ); exact hJ
      exact q_iret C (by first | rfl | (rw [f_X7_causeOf, if_neg c4, if_neg c8, if_neg c12, if_neg c16, if_neg c20, if_neg c23, if_neg c26, if_neg c29, if_neg c31, if_neg c34]; done) | (rw [f_X7_causeOf, if_neg c4, if_neg c8, if_neg c12, if_neg c16, if_neg c20, if_neg c23, if_neg c26, if_neg c29, if_neg c31, if_neg c34]; rfl) | (simp only [f_X7_causeOf, if_neg c4, if_neg c8, if_neg c12, if_neg c16, if_neg c20, if_neg c23, if_neg c26, if_neg c29, if_neg c31, if_neg c34]; done)) rfl dX7_causeOf_119
    · refine q_bipush (v := 33) C dX7_causeOf_97 (by decide) ?_
      exact q_iret C (by first | rfl | (rw [f_X7_causeOf, if_neg c4, if_neg c8, if_neg c12, if_neg c16, if_neg c20, if_neg c23, if_neg c26, if_neg c29, if_neg c31, if_pos c34]; done) | (rw [f_X7_causeOf, if_neg c4, if_neg c8, if_neg c12, if_neg c16, if_neg c20, if_neg c23, if_neg c26, if_neg c29, if_neg c31, if_pos c34]; rfl) | (simp only [f_X7_causeOf, if_neg c4, if_neg c8, if_neg c12, if_neg c16, if_neg c20, if_neg c23, if_neg c26, if_neg c29, if_neg c31, if_pos c34]; done)) rfl dX7_causeOf_99
def m_X7_addLot_1 (M : Mm) (u1 : Int32) : Mm := (sI (sI M 62 ((gI M 44 31)).toNatClampNeg u1) 63 ((gI (sI M 62 ((gI M 44 31)).toNatClampNeg u1) 44 31)).toNatClampNeg (gI (sI M 62 ((gI M 44 31)).toNatClampNeg u1) 44 22))
def f_X7_addLot (M : Mm) (u1 : Int32) (u2 : Int32) : Mm := (sI (sI (m_X7_addLot_1 M u1) 64 ((gI (m_X7_addLot_1 M u1) 44 31)).toNatClampNeg u2) 44 31 ((gI (sI (m_X7_addLot_1 M u1) 64 ((gI (m_X7_addLot_1 M u1) 44 31)).toNatClampNeg u2) 44 31) + (1 : Int32)))
set_option maxHeartbeats 4000000 in
set_option maxRecDepth 100000 in
theorem c_X7_addLot (M : Mm) (u1 : Int32) (u2 : Int32) (h1 : vp_in (gI M 44 31) 500) : MV yX7_addLot cX7_addLot 3 none 0 0 (fun a => [.ref (a 44), .int u1, .int u2]) M (f_X7_addLot M u1 u2) := by
  refine MV.intro (lv0 := fun a => [some (.ref (a 44)), some (.int u1), some (.int u2)]) (by decide) (fun a => ⟨(Nat.le_of_ble_eq_true rfl), rfl⟩) ?_
  intro p9 l9 e9 s9 m9 g9 b9 h9 c9 D9 A9 ct a C
  have C : Cx p9 s9 m9 g9 h9 c9 cX7_addLot 3 RX7 none D9 A9 ct a := C
  refine q_aload0 C dX7_addLot_0 ?_
  refine g_X7_86 C dX7_addLot_1 ?_
  refine q_aload0 C dX7_addLot_4 ?_
  refine g_X7_204 C dX7_addLot_5 ?_
  refine q_iload1 C dX7_addLot_8 ?_
  refine q_iastX (j := ((gI M 44 31)).toNatClampNeg) C rfl rfl (by first | assumption | exact wi7_in (by assumption) (by decide) | (simp only [gI_sI, gI_sJ, gI_ite]; simp; assumption) | (simp [gI_sI, gI_sJ, gI_ite]; assumption)) dX7_addLot_9 ?_
  refine q_aload0 C dX7_addLot_10 ?_
  refine g_X7_89 C dX7_addLot_11 ?_
  refine q_aload0 C dX7_addLot_14 ?_
  refine g_X7_204 C dX7_addLot_15 ?_
  refine q_aload0 C dX7_addLot_18 ?_
  refine g_X7_179 C dX7_addLot_19 ?_
  refine q_iastX (j := ((gI (sI M 62 ((gI M 44 31)).toNatClampNeg u1) 44 31)).toNatClampNeg) C rfl rfl (by first | assumption | exact wi7_in (by assumption) (by decide) | (simp only [gI_sI, gI_sJ, gI_ite]; simp; assumption) | (simp [gI_sI, gI_sJ, gI_ite]; assumption)) dX7_addLot_22 ?_
  refine q_cut (m_X7_addLot_1 M u1) 23 [some (.ref (a 44)), some (.int u1), some (.int u2)] [] (fun hJ => hJ) ?_
  refine q_aload0 C dX7_addLot_23 ?_
  refine g_X7_92 C dX7_addLot_24 ?_
  refine q_aload0 C dX7_addLot_27 ?_
  refine g_X7_204 C dX7_addLot_28 ?_
  refine q_iload2 C dX7_addLot_31 ?_
  refine q_iastX (j := ((gI (m_X7_addLot_1 M u1) 44 31)).toNatClampNeg) C rfl rfl (by first | assumption | exact wi7_in (by assumption) (by decide) | (simp only [m_X7_addLot_1, gI_sI, gI_sJ, gI_ite]; simp; assumption) | (simp [m_X7_addLot_1, gI_sI, gI_sJ, gI_ite]; assumption)) dX7_addLot_32 ?_
  refine q_aload0 C dX7_addLot_33 ?_
  refine q_dup C dX7_addLot_34 rfl ?_
  refine g_X7_204 C dX7_addLot_35 ?_
  refine q_iconst (v := 1) C dX7_addLot_38 (by decide) ?_
  refine q_iadd C dX7_addLot_39 ?_
  refine p_X7_204 C  dX7_addLot_40 ?_
  exact q_vret C (by first | (rw [f_X7_addLot]; done) | rfl) dX7_addLot_43
def f_X7_start (M : Mm)  : Int32 × Mm := (if (gI M 44 23) = 0 then ((0 : Int32), M) else ((1 : Int32), (sI (sI M 44 23 (0 : Int32)) 44 30 (-9 : Int32))))
set_option maxHeartbeats 4000000 in
set_option maxRecDepth 100000 in
theorem c_X7_start (M : Mm)   : MI yX7_start cX7_start 1 (some .int) 0 0 (fun a => [.ref (a 44)]) M (f_X7_start M).1 (f_X7_start M).2 := by
  refine MI.intro (lv0 := fun a => [some (.ref (a 44))]) (by decide) (fun a => ⟨(Nat.le_of_ble_eq_true rfl), rfl⟩) ?_
  intro p9 l9 e9 s9 m9 g9 b9 h9 c9 D9 A9 ct a C
  have C : Cx p9 s9 m9 g9 h9 c9 cX7_start 1 RX7 (some .int) D9 A9 ct a := C
  refine q_aload0 C dX7_start_0 ?_
  refine g_X7_182 C dX7_start_1 ?_
  refine q_if_ne (tgt := 9) C dX7_start_4 (by decide) (fun c1 => ?_) (fun c1 => ?_)
  · refine q_aload0 C dX7_start_9 ?_
    refine q_iconst (v := 0) C dX7_start_10 (by decide) ?_
    refine p_X7_182 C (by repeat' first | exact bz_0 | exact bz_1 | assumption | apply bz_if) (by repeat' first | exact bzf_0 | exact bzf_1 | assumption | apply bzf_if) dX7_start_11 ?_
    refine q_aload0 C dX7_start_14 ?_
    refine q_bipush (v := -9) C dX7_start_15 (by decide) ?_
    refine p_X7_83 C  dX7_start_17 ?_
    refine q_iconst (v := 1) C dX7_start_20 (by decide) ?_
    exact q_iret C (by first | rfl | (rw [f_X7_start, if_neg c1]; done) | (rw [f_X7_start, if_neg c1]; rfl) | (simp only [f_X7_start, if_neg c1]; done)) (by first | rfl | (rw [f_X7_start, if_neg c1]; done) | (rw [f_X7_start, if_neg c1]; rfl) | (simp only [f_X7_start, if_neg c1]; done)) dX7_start_21
  · refine q_iconst (v := 0) C dX7_start_7 (by decide) ?_
    exact q_iret C (by first | rfl | (rw [f_X7_start, if_pos c1]; done) | (rw [f_X7_start, if_pos c1]; rfl) | (simp only [f_X7_start, if_pos c1]; done)) (by first | rfl | (rw [f_X7_start, if_pos c1]; done) | (rw [f_X7_start, if_pos c1]; rfl) | (simp only [f_X7_start, if_pos c1]; done)) dX7_start_8
def f_X7_zone (M : Mm) (u1 : Int32) (u2 : Int32) : Int32 := (if (f_X7_in u1 (0 : Int32) (3 : Int32)) = 0 then (-1 : Int32) else (if (f_X7_in u2 (0 : Int32) (2 : Int32)) = 0 then (-1 : Int32) else (if u2 = 0 then (gI M 56 (u1).toNatClampNeg) else (if u2 = (1 : Int32) then (gI M 57 (u1).toNatClampNeg) else (f_X7_kindOf u1)))))
set_option maxHeartbeats 4000000 in
set_option maxRecDepth 100000 in
theorem c_X7_zone (M : Mm) (u1 : Int32) (u2 : Int32)  : MI yX7_zone cX7_zone 3 (some .int) 1 22 (fun a => [.ref (a 44), .int u1, .int u2]) M (f_X7_zone M u1 u2) M := by
  refine MI.intro (lv0 := fun a => [some (.ref (a 44)), some (.int u1), some (.int u2)]) (by decide) (fun a => ⟨(Nat.le_of_ble_eq_true rfl), rfl⟩) ?_
  intro p9 l9 e9 s9 m9 g9 b9 h9 c9 D9 A9 ct a C
  have C : Cx p9 s9 m9 g9 h9 c9 cX7_zone 3 RX7 (some .int) D9 A9 ct a := C
  refine q_iload1 C dX7_zone_0 ?_
  refine q_iconst (v := 0) C dX7_zone_1 (by decide) ?_
  refine q_iconst (v := 3) C dX7_zone_2 (by decide) ?_
  refine qc_SI C (c_X7_in _ _ _ _) cw_X7_125 rfl rfl (Nat.le_of_ble_eq_true rfl) ⟨(Nat.le_of_ble_eq_true rfl), (Nat.le_of_ble_eq_true rfl)⟩ ⟨Nat.zero_le _, Nat.zero_le _⟩ dX7_zone_3 ?_
  refine q_cut M 53 [none, none, none] [.int (if (f_X7_in u1 (0 : Int32) (3 : Int32)) = 0 then (-1 : Int32) else (if (f_X7_in u2 (0 : Int32) (2 : Int32)) = 0 then (-1 : Int32) else (if u2 = 0 then (gI M 56 (u1).toNatClampNeg) else (if u2 = (1 : Int32) then (gI M 57 (u1).toNatClampNeg) else (f_X7_kindOf u1)))))] (fun hJ => ?_) ?_
  · refine q_if_eq (tgt := 18) C dX7_zone_6 (by decide) (fun c1 => ?_) (fun c1 => ?_)
    · refine q_iconst (v := -1) C dX7_zone_18 (by decide) ?_
      refine q_goto (tgt := 53) C dX7_zone_19 (by decide) ?_
      refine q_drop [none, none, none] (by repeat' (first | exact trivial | rfl | constructor)) ?_
      (try simp only [if_pos c1] at hJ); exact hJ
    · refine q_iload2 C dX7_zone_9 ?_
      refine q_iconst (v := 0) C dX7_zone_10 (by decide) ?_
      refine q_iconst (v := 2) C dX7_zone_11 (by decide) ?_
      refine qc_SI C (c_X7_in _ _ _ _) cw_X7_125 rfl rfl (Nat.le_of_ble_eq_true rfl) ⟨(Nat.le_of_ble_eq_true rfl), (Nat.le_of_ble_eq_true rfl)⟩ ⟨Nat.zero_le _, Nat.zero_le _⟩ dX7_zone_12 ?_
      refine q_if_ne (tgt := 22) C dX7_zone_15 (by decide) (fun c2 => ?_) (fun c2 => ?_)
      · refine q_iload2 C dX7_zone_22 ?_
        refine q_if_ne (tgt := 35) C dX7_zone_23 (by decide) (fun c3 => ?_) (fun c3 => ?_)
        · refine q_iload2 C dX7_zone_35 ?_
          refine q_iconst (v := 1) C dX7_zone_36 (by decide) ?_
          refine q_icmp_ne (tgt := 49) C dX7_zone_37 (by decide) (fun c4 => ?_) (fun c4 => ?_)
          · refine q_iload1 C dX7_zone_49 ?_
            refine qc_SI C (c_X7_kindOf _ _) cw_X7_172 rfl rfl (Nat.le_of_ble_eq_true rfl) ⟨(Nat.le_of_ble_eq_true rfl), (Nat.le_of_ble_eq_true rfl)⟩ ⟨Nat.zero_le _, Nat.zero_le _⟩ dX7_zone_50 ?_
            refine q_drop [none, none, none] (by repeat' (first | exact trivial | rfl | constructor)) ?_
            (try simp only [if_neg c1, if_neg c2, if_neg c3, if_neg c4] at hJ); exact hJ
          · refine q_aload0 C dX7_zone_40 ?_
            refine g_X7_68 C dX7_zone_41 ?_
            refine q_iload1 C dX7_zone_44 ?_
            refine q_ialdX (j := (u1).toNatClampNeg) C rfl rfl (by first | assumption | exact wi7_in (by assumption) (by decide) | (simp only [gI_sI, gI_sJ, gI_ite]; simp; assumption) | (simp [gI_sI, gI_sJ, gI_ite]; assumption)) dX7_zone_45 ?_
            refine q_goto (tgt := 53) C dX7_zone_46 (by decide) ?_
            refine q_drop [none, none, none] (by repeat' (first | exact trivial | rfl | constructor)) ?_
            (try simp only [if_neg c1, if_neg c2, if_neg c3, if_pos c4] at hJ); exact hJ
        · refine q_aload0 C dX7_zone_26 ?_
          refine g_X7_65 C dX7_zone_27 ?_
          refine q_iload1 C dX7_zone_30 ?_
          refine q_ialdX (j := (u1).toNatClampNeg) C rfl rfl (by first | assumption | exact wi7_in (by assumption) (by decide) | (simp only [gI_sI, gI_sJ, gI_ite]; simp; assumption) | (simp [gI_sI, gI_sJ, gI_ite]; assumption)) dX7_zone_31 ?_
          refine q_goto (tgt := 53) C dX7_zone_32 (by decide) ?_
          refine q_drop [none, none, none] (by repeat' (first | exact trivial | rfl | constructor)) ?_
          (try simp only [if_neg c1, if_neg c2, if_pos c3] at hJ); exact hJ
      · refine q_iconst (v := -1) C dX7_zone_18 (by decide) ?_
        refine q_goto (tgt := 53) C dX7_zone_19 (by decide) ?_
        refine q_drop [none, none, none] (by repeat' (first | exact trivial | rfl | constructor)) ?_
        (try simp only [if_neg c1, if_pos c2] at hJ); exact hJ
  exact q_iret C (by first | (rw [f_X7_zone]; done) | rfl) rfl dX7_zone_53
def f_X7_warmth (M : Mm) (u1 : Int32) (u2 : Int32) : Int32 × Mm := (if (f_X7_in u1 (0 : Int32) (3 : Int32)) = 0 then ((-1 : Int32), M) else (if (f_X7_in u2 (0 : Int32) (2 : Int32)) = 0 then ((-1 : Int32), M) else (if u2 = 0 then ((if (gI M 56 (u1).toNatClampNeg) = 0 then (f_X7_meets M (4 : Int32)).1 else ((gI M 57 (u1).toNatClampNeg) / (gI M 56 (u1).toNatClampNeg))), (if (gI M 56 (u1).toNatClampNeg) = 0 then (f_X7_meets M (4 : Int32)).2 else M)) else (if u2 = (f_X7_kindOf u1) then ((if (gI M 56 (u1).toNatClampNeg) = 0 then (f_X7_meets M (4 : Int32)).1 else ((gI M 57 (u1).toNatClampNeg) / (gI M 56 (u1).toNatClampNeg))), (if (gI M 56 (u1).toNatClampNeg) = 0 then (f_X7_meets M (4 : Int32)).2 else M)) else ((f_X7_meets M (3 : Int32)).1, (f_X7_meets M (3 : Int32)).2)))))
set_option maxHeartbeats 4000000 in
set_option maxRecDepth 100000 in
theorem c_X7_warmth (M : Mm) (u1 : Int32) (u2 : Int32)  : MI yX7_warmth cX7_warmth 3 (some .int) 1 22 (fun a => [.ref (a 44), .int u1, .int u2]) M (f_X7_warmth M u1 u2).1 (f_X7_warmth M u1 u2).2 := by
  refine MI.intro (lv0 := fun a => [some (.ref (a 44)), some (.int u1), some (.int u2)]) (by decide) (fun a => ⟨(Nat.le_of_ble_eq_true rfl), rfl⟩) ?_
  intro p9 l9 e9 s9 m9 g9 b9 h9 c9 D9 A9 ct a C
  have C : Cx p9 s9 m9 g9 h9 c9 cX7_warmth 3 RX7 (some .int) D9 A9 ct a := C
  refine q_iload1 C dX7_warmth_0 ?_
  refine q_iconst (v := 0) C dX7_warmth_1 (by decide) ?_
  refine q_iconst (v := 3) C dX7_warmth_2 (by decide) ?_
  refine qc_SI C (c_X7_in _ _ _ _) cw_X7_125 rfl rfl (Nat.le_of_ble_eq_true rfl) ⟨(Nat.le_of_ble_eq_true rfl), (Nat.le_of_ble_eq_true rfl)⟩ ⟨Nat.zero_le _, Nat.zero_le _⟩ dX7_warmth_3 ?_
  refine q_if_eq (tgt := 18) C dX7_warmth_6 (by decide) (fun c1 => ?_) (fun c1 => ?_)
  · refine q_iconst (v := -1) C dX7_warmth_18 (by decide) ?_
    exact q_iret C (by first | rfl | (rw [f_X7_warmth, if_pos c1]; done) | (rw [f_X7_warmth, if_pos c1]; rfl) | (simp only [f_X7_warmth, if_pos c1]; done)) (by first | rfl | (rw [f_X7_warmth, if_pos c1]; done) | (rw [f_X7_warmth, if_pos c1]; rfl) | (simp only [f_X7_warmth, if_pos c1]; done)) dX7_warmth_19
  · refine q_iload2 C dX7_warmth_9 ?_
    refine q_iconst (v := 0) C dX7_warmth_10 (by decide) ?_
    refine q_iconst (v := 2) C dX7_warmth_11 (by decide) ?_
    refine qc_SI C (c_X7_in _ _ _ _) cw_X7_125 rfl rfl (Nat.le_of_ble_eq_true rfl) ⟨(Nat.le_of_ble_eq_true rfl), (Nat.le_of_ble_eq_true rfl)⟩ ⟨Nat.zero_le _, Nat.zero_le _⟩ dX7_warmth_12 ?_
    refine q_if_ne (tgt := 20) C dX7_warmth_15 (by decide) (fun c2 => ?_) (fun c2 => ?_)
    · refine q_iload2 C dX7_warmth_20 ?_
      refine q_if_eq (tgt := 38) C dX7_warmth_21 (by decide) (fun c3 => ?_) (fun c3 => ?_)
      · refine q_aload0 C dX7_warmth_38 ?_
        refine g_X7_65 C dX7_warmth_39 ?_
        refine q_iload1 C dX7_warmth_42 ?_
        refine q_ialdX (j := (u1).toNatClampNeg) C rfl rfl (by first | assumption | exact wi7_in (by assumption) (by decide) | (simp only [gI_sI, gI_sJ, gI_ite]; simp; assumption) | (simp [gI_sI, gI_sJ, gI_ite]; assumption)) dX7_warmth_43 ?_
        refine q_cut (if (gI M 56 (u1).toNatClampNeg) = 0 then (f_X7_meets M (4 : Int32)).2 else M) 68 [none, none, none] [.int (if (gI M 56 (u1).toNatClampNeg) = 0 then (f_X7_meets M (4 : Int32)).1 else ((gI M 57 (u1).toNatClampNeg) / (gI M 56 (u1).toNatClampNeg)))] (fun hJ => ?_) ?_
        · refine q_if_ne (tgt := 55) C dX7_warmth_44 (by decide) (fun c4 => ?_) (fun c4 => ?_)
          · refine q_aload0 C dX7_warmth_55 ?_
            refine g_X7_68 C dX7_warmth_56 ?_
            refine q_iload1 C dX7_warmth_59 ?_
            refine q_ialdX (j := (u1).toNatClampNeg) C rfl rfl (by first | assumption | exact wi7_in (by assumption) (by decide) | (simp only [gI_sI, gI_sJ, gI_ite]; simp; assumption) | (simp [gI_sI, gI_sJ, gI_ite]; assumption)) dX7_warmth_60 ?_
            refine q_aload0 C dX7_warmth_61 ?_
            refine g_X7_65 C dX7_warmth_62 ?_
            refine q_iload1 C dX7_warmth_65 ?_
            refine q_ialdX (j := (u1).toNatClampNeg) C rfl rfl (by first | assumption | exact wi7_in (by assumption) (by decide) | (simp only [gI_sI, gI_sJ, gI_ite]; simp; assumption) | (simp [gI_sI, gI_sJ, gI_ite]; assumption)) dX7_warmth_66 ?_
            refine q_idiv C dX7_warmth_67 (by first | decide | assumption | (apply i64ne; assumption)) ?_
            refine q_drop [none, none, none] (by repeat' (first | exact trivial | rfl | constructor)) ?_
            (try simp only [if_neg c4] at hJ); exact hJ
          · refine q_aload0 C dX7_warmth_47 ?_
            refine q_iconst (v := 4) C dX7_warmth_48 (by decide) ?_
            refine qc_VI C (c_X7_meets _ _ (by first | assumption | exact vp_in_nI (by omega) (by decide) | omega | (unfold vp_in; decide) | decide)) cw_X7_151 rfl rfl rfl rfl (Nat.le_of_ble_eq_true rfl) ⟨(Nat.le_of_ble_eq_true rfl), (Nat.le_of_ble_eq_true rfl)⟩ ⟨Nat.zero_le _, Nat.zero_le _⟩ dX7_warmth_49 ?_
            refine q_goto (tgt := 68) C dX7_warmth_52 (by decide) ?_
            refine q_drop [none, none, none] (by repeat' (first | exact trivial | rfl | constructor)) ?_
            (try simp only [if_pos c4] at hJ); exact hJ
        exact q_iret C (by first | rfl | (rw [f_X7_warmth, if_neg c1, if_neg c2, if_pos c3]; done) | (rw [f_X7_warmth, if_neg c1, if_neg c2, if_pos c3]; rfl) | (simp only [f_X7_warmth, if_neg c1, if_neg c2, if_pos c3]; done)) (by first | rfl | (rw [f_X7_warmth, if_neg c1, if_neg c2, if_pos c3]; done) | (rw [f_X7_warmth, if_neg c1, if_neg c2, if_pos c3]; rfl) | (simp only [f_X7_warmth, if_neg c1, if_neg c2, if_pos c3]; done)) dX7_warmth_68
      · refine q_iload2 C dX7_warmth_24 ?_
        refine q_iload1 C dX7_warmth_25 ?_
        refine qc_SI C (c_X7_kindOf _ _) cw_X7_172 rfl rfl (Nat.le_of_ble_eq_true rfl) ⟨(Nat.le_of_ble_eq_true rfl), (Nat.le_of_ble_eq_true rfl)⟩ ⟨Nat.zero_le _, Nat.zero_le _⟩ dX7_warmth_26 ?_
        refine q_icmp_eq (tgt := 38) C dX7_warmth_29 (by decide) (fun c5 => ?_) (fun c5 => ?_)
        · refine q_aload0 C dX7_warmth_38 ?_
          refine g_X7_65 C dX7_warmth_39 ?_
          refine q_iload1 C dX7_warmth_42 ?_
          refine q_ialdX (j := (u1).toNatClampNeg) C rfl rfl (by first | assumption | exact wi7_in (by assumption) (by decide) | (simp only [gI_sI, gI_sJ, gI_ite]; simp; assumption) | (simp [gI_sI, gI_sJ, gI_ite]; assumption)) dX7_warmth_43 ?_
          refine q_cut (if (gI M 56 (u1).toNatClampNeg) = 0 then (f_X7_meets M (4 : Int32)).2 else M) 68 [none, none, none] [.int (if (gI M 56 (u1).toNatClampNeg) = 0 then (f_X7_meets M (4 : Int32)).1 else ((gI M 57 (u1).toNatClampNeg) / (gI M 56 (u1).toNatClampNeg)))] (fun hJ => ?_) ?_
          · refine q_if_ne (tgt := 55) C dX7_warmth_44 (by decide) (fun c6 => ?_) (fun c6 => ?_)
            · refine q_aload0 C dX7_warmth_55 ?_
              refine g_X7_68 C dX7_warmth_56 ?_
              refine q_iload1 C dX7_warmth_59 ?_
              refine q_ialdX (j := (u1).toNatClampNeg) C rfl rfl (by first | assumption | exact wi7_in (by assumption) (by decide) | (simp only [gI_sI, gI_sJ, gI_ite]; simp; assumption) | (simp [gI_sI, gI_sJ, gI_ite]; assumption)) dX7_warmth_60 ?_
              refine q_aload0 C dX7_warmth_61 ?_
              refine g_X7_65 C dX7_warmth_62 ?_
              refine q_iload1 C dX7_warmth_65 ?_
              refine q_ialdX (j := (u1).toNatClampNeg) C rfl rfl (by first | assumption | exact wi7_in (by assumption) (by decide) | (simp only [gI_sI, gI_sJ, gI_ite]; simp; assumption) | (simp [gI_sI, gI_sJ, gI_ite]; assumption)) dX7_warmth_66 ?_
              refine q_idiv C dX7_warmth_67 (by first | decide | assumption | (apply i64ne; assumption)) ?_
              refine q_drop [none, none, none] (by repeat' (first | exact trivial | rfl | constructor)) ?_
              (try simp only [if_neg c6] at hJ); exact hJ
            · refine q_aload0 C dX7_warmth_47 ?_
              refine q_iconst (v := 4) C dX7_warmth_48 (by decide) ?_
              refine qc_VI C (c_X7_meets _ _ (by first | assumption | exact vp_in_nI (by omega) (by decide) | omega | (unfold vp_in; decide) | decide)) cw_X7_151 rfl rfl rfl rfl (Nat.le_of_ble_eq_true rfl) ⟨(Nat.le_of_ble_eq_true rfl), (Nat.le_of_ble_eq_true rfl)⟩ ⟨Nat.zero_le _, Nat.zero_le _⟩ dX7_warmth_49 ?_
              refine q_goto (tgt := 68) C dX7_warmth_52 (by decide) ?_
              refine q_drop [none, none, none] (by repeat' (first | exact trivial | rfl | constructor)) ?_
              (try simp only [if_pos c6] at hJ); exact hJ
          exact q_iret C (by first | rfl | (rw [f_X7_warmth, if_neg c1, if_neg c2, if_neg c3, if_pos c5]; done) | (rw [f_X7_warmth, if_neg c1, if_neg c2, if_neg c3, if_pos c5]; rfl) | (simp only [f_X7_warmth, if_neg c1, if_neg c2, if_neg c3, if_pos c5]; done)) (by first | rfl | (rw [f_X7_warmth, if_neg c1, if_neg c2, if_neg c3, if_pos c5]; done) | (rw [f_X7_warmth, if_neg c1, if_neg c2, if_neg c3, if_pos c5]; rfl) | (simp only [f_X7_warmth, if_neg c1, if_neg c2, if_neg c3, if_pos c5]; done)) dX7_warmth_68
        · refine q_aload0 C dX7_warmth_32 ?_
          refine q_iconst (v := 3) C dX7_warmth_33 (by decide) ?_
          refine qc_VI C (c_X7_meets _ _ (by first | assumption | exact vp_in_nI (by omega) (by decide) | omega | (unfold vp_in; decide) | decide)) cw_X7_151 rfl rfl rfl rfl (Nat.le_of_ble_eq_true rfl) ⟨(Nat.le_of_ble_eq_true rfl), (Nat.le_of_ble_eq_true rfl)⟩ ⟨Nat.zero_le _, Nat.zero_le _⟩ dX7_warmth_34 ?_
          exact q_iret C (by first | rfl | (rw [f_X7_warmth, if_neg c1, if_neg c2, if_neg c3, if_neg c5]; done) | (rw [f_X7_warmth, if_neg c1, if_neg c2, if_neg c3, if_neg c5]; rfl) | (simp only [f_X7_warmth, if_neg c1, if_neg c2, if_neg c3, if_neg c5]; done)) (by first | rfl | (rw [f_X7_warmth, if_neg c1, if_neg c2, if_neg c3, if_neg c5]; done) | (rw [f_X7_warmth, if_neg c1, if_neg c2, if_neg c3, if_neg c5]; rfl) | (simp only [f_X7_warmth, if_neg c1, if_neg c2, if_neg c3, if_neg c5]; done)) dX7_warmth_37
    · refine q_iconst (v := -1) C dX7_warmth_18 (by decide) ?_
      exact q_iret C (by first | rfl | (rw [f_X7_warmth, if_neg c1, if_pos c2]; done) | (rw [f_X7_warmth, if_neg c1, if_pos c2]; rfl) | (simp only [f_X7_warmth, if_neg c1, if_pos c2]; done)) (by first | rfl | (rw [f_X7_warmth, if_neg c1, if_pos c2]; done) | (rw [f_X7_warmth, if_neg c1, if_pos c2]; rfl) | (simp only [f_X7_warmth, if_neg c1, if_pos c2]; done)) dX7_warmth_19
def f_X7_out (M : Mm) (u1 : Int32) : Int32 := (if (f_X7_in u1 (0 : Int32) (6 : Int32)) = 0 then (-1 : Int32) else (if (gI M 44 22) = 0 then (-9 : Int32) else (gI M 60 (u1).toNatClampNeg)))
set_option maxHeartbeats 4000000 in
set_option maxRecDepth 100000 in
theorem c_X7_out (M : Mm) (u1 : Int32)  : MI yX7_out cX7_out 2 (some .int) 1 22 (fun a => [.ref (a 44), .int u1]) M (f_X7_out M u1) M := by
  refine MI.intro (lv0 := fun a => [some (.ref (a 44)), some (.int u1)]) (by decide) (fun a => ⟨(Nat.le_of_ble_eq_true rfl), rfl⟩) ?_
  intro p9 l9 e9 s9 m9 g9 b9 h9 c9 D9 A9 ct a C
  have C : Cx p9 s9 m9 g9 h9 c9 cX7_out 2 RX7 (some .int) D9 A9 ct a := C
  refine q_iload1 C dX7_out_0 ?_
  refine q_iconst (v := 0) C dX7_out_1 (by decide) ?_
  refine q_bipush (v := 6) C dX7_out_2 (by decide) ?_
  refine qc_SI C (c_X7_in _ _ _ _) cw_X7_125 rfl rfl (Nat.le_of_ble_eq_true rfl) ⟨(Nat.le_of_ble_eq_true rfl), (Nat.le_of_ble_eq_true rfl)⟩ ⟨Nat.zero_le _, Nat.zero_le _⟩ dX7_out_4 ?_
  refine q_cut M 32 [none, none] [.int (if (f_X7_in u1 (0 : Int32) (6 : Int32)) = 0 then (-1 : Int32) else (if (gI M 44 22) = 0 then (-9 : Int32) else (gI M 60 (u1).toNatClampNeg)))] (fun hJ => ?_) ?_
  · refine q_if_ne (tgt := 14) C dX7_out_7 (by decide) (fun c1 => ?_) (fun c1 => ?_)
    · refine q_aload0 C dX7_out_14 ?_
      refine g_X7_179 C dX7_out_15 ?_
      refine q_if_ne (tgt := 26) C dX7_out_18 (by decide) (fun c2 => ?_) (fun c2 => ?_)
      · refine q_aload0 C dX7_out_26 ?_
        refine g_X7_77 C dX7_out_27 ?_
        refine q_iload1 C dX7_out_30 ?_
        refine q_ialdX (j := (u1).toNatClampNeg) C rfl rfl (by first | assumption | exact wi7_in (by assumption) (by decide) | (simp only [gI_sI, gI_sJ, gI_ite]; simp; assumption) | (simp [gI_sI, gI_sJ, gI_ite]; assumption)) dX7_out_31 ?_
        refine q_drop [none, none] (by repeat' (first | exact trivial | rfl | constructor)) ?_
        (try simp only [if_neg c1, if_neg c2] at hJ); exact hJ
      · refine q_bipush (v := -9) C dX7_out_21 (by decide) ?_
        refine q_goto (tgt := 32) C dX7_out_23 (by decide) ?_
        refine q_drop [none, none] (by repeat' (first | exact trivial | rfl | constructor)) ?_
        (try simp only [if_neg c1, if_pos c2] at hJ); exact hJ
    · refine q_iconst (v := -1) C dX7_out_10 (by decide) ?_
      refine q_goto (tgt := 32) C dX7_out_11 (by decide) ?_
      refine q_drop [none, none] (by repeat' (first | exact trivial | rfl | constructor)) ?_
      (try simp only [if_pos c1] at hJ); exact hJ
  exact q_iret C (by first | (rw [f_X7_out]; done) | rfl) rfl dX7_out_32
def f_X7_sum (M : Mm) (u1 : Int32) : Int32 × Mm := ((if (f_X7_in u1 (0 : Int32) (4 : Int32)) = 0 then (-1 : Int32) else (f_X7_tell M (gJ M 61 (u1).toNatClampNeg) (1 : Int32)).1), (if (f_X7_in u1 (0 : Int32) (4 : Int32)) = 0 then M else (f_X7_tell M (gJ M 61 (u1).toNatClampNeg) (1 : Int32)).2))
set_option maxHeartbeats 4000000 in
set_option maxRecDepth 100000 in
theorem c_X7_sum (M : Mm) (u1 : Int32)  : MI yX7_sum cX7_sum 2 (some .int) 1 23 (fun a => [.ref (a 44), .int u1]) M (f_X7_sum M u1).1 (f_X7_sum M u1).2 := by
  refine MI.intro (lv0 := fun a => [some (.ref (a 44)), some (.int u1)]) (by decide) (fun a => ⟨(Nat.le_of_ble_eq_true rfl), rfl⟩) ?_
  intro p9 l9 e9 s9 m9 g9 b9 h9 c9 D9 A9 ct a C
  have C : Cx p9 s9 m9 g9 h9 c9 cX7_sum 2 RX7 (some .int) D9 A9 ct a := C
  refine q_iload1 C dX7_sum_0 ?_
  refine q_iconst (v := 0) C dX7_sum_1 (by decide) ?_
  refine q_iconst (v := 4) C dX7_sum_2 (by decide) ?_
  refine qc_SI C (c_X7_in _ _ _ _) cw_X7_125 rfl rfl (Nat.le_of_ble_eq_true rfl) ⟨(Nat.le_of_ble_eq_true rfl), (Nat.le_of_ble_eq_true rfl)⟩ ⟨Nat.zero_le _, Nat.zero_le _⟩ dX7_sum_3 ?_
  refine q_cut (if (f_X7_in u1 (0 : Int32) (4 : Int32)) = 0 then M else (f_X7_tell M (gJ M 61 (u1).toNatClampNeg) (1 : Int32)).2) 24 [none, none] [.int (if (f_X7_in u1 (0 : Int32) (4 : Int32)) = 0 then (-1 : Int32) else (f_X7_tell M (gJ M 61 (u1).toNatClampNeg) (1 : Int32)).1)] (fun hJ => ?_) ?_
  · refine q_if_eq (tgt := 23) C dX7_sum_6 (by decide) (fun c1 => ?_) (fun c1 => ?_)
    · refine q_iconst (v := -1) C dX7_sum_23 (by decide) ?_
      refine q_drop [none, none] (by repeat' (first | exact trivial | rfl | constructor)) ?_
      (try simp only [if_pos c1] at hJ); exact hJ
    · refine q_aload0 C dX7_sum_9 ?_
      refine q_aload0 C dX7_sum_10 ?_
      refine g_X7_80 C dX7_sum_11 ?_
      refine q_iload1 C dX7_sum_14 ?_
      refine q_laldX (j := (u1).toNatClampNeg) C rfl rfl (by first | assumption | exact wi7_in (by assumption) (by decide) | (simp only [gI_sI, gI_sJ, gI_ite]; simp; assumption) | (simp [gI_sI, gI_sJ, gI_ite]; assumption)) dX7_sum_15 ?_
      refine q_iconst (v := 1) C dX7_sum_16 (by decide) ?_
      refine qc_VI C (c_X7_tell _ _ _) cw_X7_200 rfl rfl rfl rfl (Nat.le_of_ble_eq_true rfl) ⟨(Nat.le_of_ble_eq_true rfl), (Nat.le_of_ble_eq_true rfl)⟩ ⟨Nat.zero_le _, Nat.zero_le _⟩ dX7_sum_17 ?_
      refine q_goto (tgt := 24) C dX7_sum_20 (by decide) ?_
      refine q_drop [none, none] (by repeat' (first | exact trivial | rfl | constructor)) ?_
      (try simp only [if_neg c1] at hJ); exact hJ
  exact q_iret C (by first | (rw [f_X7_sum]; done) | rfl) (by first | (rw [f_X7_sum]; done) | rfl) dX7_sum_24
def f_X7_first (M : Mm)  : Int32 := (gI M 44 30)
set_option maxHeartbeats 4000000 in
set_option maxRecDepth 100000 in
theorem c_X7_first (M : Mm)   : MI yX7_first cX7_first 1 (some .int) 0 0 (fun a => [.ref (a 44)]) M (f_X7_first M) M := by
  refine MI.intro (lv0 := fun a => [some (.ref (a 44))]) (by decide) (fun a => ⟨(Nat.le_of_ble_eq_true rfl), rfl⟩) ?_
  intro p9 l9 e9 s9 m9 g9 b9 h9 c9 D9 A9 ct a C
  have C : Cx p9 s9 m9 g9 h9 c9 cX7_first 1 RX7 (some .int) D9 A9 ct a := C
  refine q_aload0 C dX7_first_0 ?_
  refine g_X7_83 C dX7_first_1 ?_
  exact q_iret C (by first | (rw [f_X7_first]; done) | rfl) rfl dX7_first_4
