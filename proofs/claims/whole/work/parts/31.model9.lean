def b_X7_digest_1 (M : Mm) (i1 : Nat) (z1 : Int64) : Int64 := (((31 : Int64) * (((31 : Int64) * (((31 : Int64) * z1) + ((gI M 47 i1)).toInt64)) + ((gI M 48 i1)).toInt64)) + ((if (gI M 49 i1) = 0 then (0 : Int32) else (1 : Int32))).toInt64)
def b_X7_digest_3 (M : Mm) (i2 : Nat) (i3 : Nat) (z3 : Int64) : Int64 := (((31 : Int64) * z3) + ((gI M 50 (4 * i2 + i3))).toInt64)
def b_X7_digest_2 (M : Mm) (i2 : Nat) (z2 : Int64) : Int64 := (((31 : Int64) * (itr (b_X7_digest_3 M i2) 4 z2)) + ((gI M 51 i2)).toInt64)
def b_X7_digest_4 (M : Mm) (i4 : Nat) (z4 : Int64) : Int64 := (((31 : Int64) * (((31 : Int64) * z4) + ((gI M 56 i4)).toInt64)) + ((gI M 57 i4)).toInt64)
def b_X7_digest_5 (M : Mm) (i5 : Nat) (z5 : Int64) : Int64 := (((31 : Int64) * (((31 : Int64) * z5) + ((f_X7_inSilo M (nI i5) (0 : Int32))).toInt64)) + ((f_X7_inSilo M (nI i5) (1 : Int32))).toInt64)
def l_X7_digest_5 (M : Mm) (z5 : Int64) : Int64 := itr (b_X7_digest_5 M) 3 z5
def b_X7_digest_7 (M : Mm) (i6 : Nat) (i7 : Nat) (z7 : Int64) : Int64 := (if (gI M 67 i6) = 0 then z7 else (((31 : Int64) * z7) + ((gI M 68 (24 * i6 + i7))).toInt64))
def b_X7_digest_6 (M : Mm) (i6 : Nat) (z6 : Int64) : Int64 := (itr (b_X7_digest_7 M i6) 24 (if (gI M 67 i6) = 0 then (((31 : Int64) * z6) - (1 : Int64)) else z6))
def l_X7_digest_6 (M : Mm) (z6 : Int64) : Int64 := itr (b_X7_digest_6 M) 7 z6
def b_X7_digest_8 (M : Mm) (i8 : Nat) (z8 : Int64) : Int64 := (((31 : Int64) * z8) + ((gI M 69 i8)).toInt64)
def l_X7_digest_8 (M : Mm) (z8 : Int64) : Int64 := itr (b_X7_digest_8 M) 24 z8
def b_X7_digest_9 (M : Mm) (i9 : Nat) (z9 : Int64) : Int64 := (((31 : Int64) * z9) + ((f_X7_counts M (nI i9))).toInt64)
def l_X7_digest_9 (M : Mm) (z9 : Int64) : Int64 := itr (b_X7_digest_9 M) 5 z9
def f_X7_digest (M : Mm)  : Int64 := (l_X7_digest_9 M (l_X7_digest_8 M (l_X7_digest_6 M (l_X7_digest_5 M (itr (b_X7_digest_4 M) 4 (itr (b_X7_digest_2 M) 4 (itr (b_X7_digest_1 M) 10 (17 : Int64))))))))
set_option maxHeartbeats 4000000 in
set_option maxRecDepth 100000 in
theorem c_X7_digest (M : Mm)  (h0 : 0 ≤ gI M 44 31) (hb : (gI M 44 31).toNatClampNeg ≤ 500) : MJ yX7_digest cX7_digest 5 (some .long) 1 24 (fun a => [.ref (a 44)]) M (f_X7_digest M) M := by
  refine MJ.intro (lv0 := fun a => [some (.ref (a 44)), none, none, none, none]) (by decide) (fun a => ⟨(Nat.le_of_ble_eq_true rfl), rfl⟩) ?_
  intro p9 l9 e9 s9 m9 g9 b9 h9 c9 D9 A9 ct a C
  have C : Cx p9 s9 m9 g9 h9 c9 cX7_digest 5 RX7 (some .long) D9 A9 ct a := C
  refine q_ldc2 C dX7_digest_0 wk_X7_223 ?_
  refine q_lstore1 C dX7_digest_3 (by decide) (by intro w h0 h; first | exact absurd rfl h0 | (cases h <;> rfl)) ?_
  refine q_iconst (v := 0) C dX7_digest_4 (by decide) ?_
  refine q_istore3 C dX7_digest_5 (by decide) (by intro w h0 h; first | exact absurd rfl h0 | (cases h <;> rfl)) ?_
  refine q_loop 10 (b_X7_digest_1 M) (fun zz => M) (fun xx zz => [some (.ref (a 44)), some (.long zz), none, some (.int xx), none]) (17 : Int64)  (fun i1 z1 hi1 ih1 => ?_) ?_
  · refine q_iload3 C dX7_digest_6 ?_
    refine q_bipush (v := 10) C dX7_digest_7 (by decide) ?_
    refine q_icmp_ge (tgt := 64) C dX7_digest_9 (by decide) (fun c1 => absurd c1 (nI_ge (b := 10) (by omega) (by omega))) (fun c1 => ?_)
    refine q_ldc2 C dX7_digest_12 wk_X7_225 ?_
    refine q_ldc2 C dX7_digest_15 wk_X7_225 ?_
    refine q_ldc2 C dX7_digest_18 wk_X7_225 ?_
    refine q_lload1 C dX7_digest_21 ?_
    refine q_lmul C dX7_digest_22 ?_
    refine q_aload0 C dX7_digest_23 ?_
    refine g_X7_20 C dX7_digest_24 ?_
    refine q_iload3 C dX7_digest_27 ?_
    refine q_ialdX (j := i1) C rfl (nI_clamp (by omega)) (vp_in_nI (by omega) (by first | decide | omega)) dX7_digest_28 ?_
    refine q_i2l C dX7_digest_29 ?_
    refine q_ladd C dX7_digest_30 ?_
    refine q_lmul C dX7_digest_31 ?_
    refine q_aload0 C dX7_digest_32 ?_
    refine g_X7_23 C dX7_digest_33 ?_
    refine q_iload3 C dX7_digest_36 ?_
    refine q_ialdX (j := i1) C rfl (nI_clamp (by omega)) (vp_in_nI (by omega) (by first | decide | omega)) dX7_digest_37 ?_
    refine q_i2l C dX7_digest_38 ?_
    refine q_ladd C dX7_digest_39 ?_
    refine q_lmul C dX7_digest_40 ?_
    refine q_aload0 C dX7_digest_41 ?_
    refine g_X7_26 C dX7_digest_42 ?_
    refine q_iload3 C dX7_digest_45 ?_
    refine q_zaldX (j := i1) C rfl (nI_clamp (by omega)) (vp_in_nI (by omega) (by first | decide | omega)) dX7_digest_46 ?_
    refine q_cut M 55 [some (.ref (a 44)), none, none, some (.int (nI i1)), none] [.int (if (gI M 49 i1) = 0 then (0 : Int32) else (1 : Int32)), .long ((31 : Int64) * (((31 : Int64) * (((31 : Int64) * z1) + ((gI M 47 i1)).toInt64)) + ((gI M 48 i1)).toInt64))] (fun hJ => ?_) ?_
    · refine q_if_eq (tgt := 54) C dX7_digest_47 (by decide) (fun c2 => ?_) (fun c2 => ?_)
      · refine q_iconst (v := 0) C dX7_digest_54 (by decide) ?_
        refine q_drop [some (.ref (a 44)), none, none, some (.int (nI i1)), none] (by repeat' (first | exact trivial | rfl | constructor)) ?_
        (try simp only [if_pos c2] at hJ); exact hJ
      · refine q_iconst (v := 1) C dX7_digest_50 (by decide) ?_
        refine q_goto (tgt := 55) C dX7_digest_51 (by decide) ?_
        refine q_drop [some (.ref (a 44)), none, none, some (.int (nI i1)), none] (by repeat' (first | exact trivial | rfl | constructor)) ?_
        (try simp only [if_neg c2] at hJ); exact hJ
    refine q_i2l C dX7_digest_55 ?_
    refine q_ladd C dX7_digest_56 ?_
    refine q_lstore1 C dX7_digest_57 (by decide) (by intro w h0 h; first | exact absurd rfl h0 | (cases h <;> rfl)) ?_
    refine q_iinc3 (dv := 1) C dX7_digest_58 (by decide) (by decide) (by intro w h0 h; first | exact absurd rfl h0 | (cases h <;> rfl)) ?_
    refine q_goto (tgt := 6) C dX7_digest_61 (by decide) ?_
    exact ih1
  refine q_iload3 C dX7_digest_6 ?_
  refine q_bipush (v := 10) C dX7_digest_7 (by decide) ?_
  refine q_icmp_ge (tgt := 64) C dX7_digest_9 (by decide) (fun c3 => ?_) (fun c3 => absurd (Int32.le_refl _) c3)
  refine q_iconst (v := 0) C dX7_digest_64 (by decide) ?_
  refine q_istore3 C dX7_digest_65 (by decide) (by intro w h0 h; first | exact absurd rfl h0 | (cases h <;> rfl)) ?_
  refine q_loop 4 (b_X7_digest_2 M) (fun zz => M) (fun xx zz => [some (.ref (a 44)), some (.long zz), none, some (.int xx), none]) (itr (b_X7_digest_1 M) 10 (17 : Int64))  (fun i2 z2 hi2 ih2 => ?_) ?_
  · refine q_iload3 C dX7_digest_66 ?_
    refine q_iconst (v := 4) C dX7_digest_67 (by decide) ?_
    refine q_icmp_ge (tgt := 125) C dX7_digest_68 (by decide) (fun c4 => absurd c4 (nI_ge (b := 4) (by omega) (by omega))) (fun c4 => ?_)
    refine q_iconst (v := 0) C dX7_digest_71 (by decide) ?_
    refine q_istore4 C dX7_digest_72 (by decide) (by intro w h0 h; first | exact absurd rfl h0 | (cases h <;> rfl)) ?_
    refine q_loop 4 (b_X7_digest_3 M i2) (fun zz => M) (fun xx zz => [some (.ref (a 44)), some (.long zz), none, some (.int (nI i2)), some (.int xx)]) z2  (fun i3 z3 hi3 ih3 => ?_) ?_
    · refine q_iload4 C dX7_digest_74 ?_
      refine q_iconst (v := 4) C dX7_digest_76 (by decide) ?_
      refine q_icmp_ge (tgt := 105) C dX7_digest_77 (by decide) (fun c5 => absurd c5 (nI_ge (b := 4) (by omega) (by omega))) (fun c5 => ?_)
      refine q_ldc2 C dX7_digest_80 wk_X7_225 ?_
      refine q_lload1 C dX7_digest_83 ?_
      refine q_lmul C dX7_digest_84 ?_
      refine q_aload0 C dX7_digest_85 ?_
      refine g_X7_30 C dX7_digest_86 ?_
      refine q_iconst (v := 4) C dX7_digest_89 (by decide) ?_
      refine q_iload3 C dX7_digest_90 ?_
      refine q_imul C dX7_digest_91 ?_
      refine q_iload4 C dX7_digest_92 ?_
      refine q_iadd C dX7_digest_94 ?_
      refine q_ialdX (j := (4 * i2 + i3)) C rfl (by rw [ix4i (by omega) (vp_in_nI (by omega) (by decide)), nI_clamp (by omega)]) (iv4y (vp_in_nI (by omega) (by decide)) (vp_in_nI (by omega) (by decide))) dX7_digest_95 ?_
      refine q_i2l C dX7_digest_96 ?_
      refine q_ladd C dX7_digest_97 ?_
      refine q_lstore1 C dX7_digest_98 (by decide) (by intro w h0 h; first | exact absurd rfl h0 | (cases h <;> rfl)) ?_
      refine q_iinc4 (dv := 1) C dX7_digest_99 (by decide) (by decide) (by intro w h0 h; first | exact absurd rfl h0 | (cases h <;> rfl)) ?_
      refine q_goto (tgt := 74) C dX7_digest_102 (by decide) ?_
      exact ih3
    refine q_iload4 C dX7_digest_74 ?_
    refine q_iconst (v := 4) C dX7_digest_76 (by decide) ?_
    refine q_icmp_ge (tgt := 105) C dX7_digest_77 (by decide) (fun c6 => ?_) (fun c6 => absurd (Int32.le_refl _) c6)
    refine q_ldc2 C dX7_digest_105 wk_X7_225 ?_
    refine q_lload1 C dX7_digest_108 ?_
    refine q_lmul C dX7_digest_109 ?_
    refine q_aload0 C dX7_digest_110 ?_
    refine g_X7_33 C dX7_digest_111 ?_
    refine q_iload3 C dX7_digest_114 ?_
    refine q_ialdX (j := i2) C rfl (nI_clamp (by omega)) (vp_in_nI (by omega) (by first | decide | omega)) dX7_digest_115 ?_
    refine q_i2l C dX7_digest_116 ?_
    refine q_ladd C dX7_digest_117 ?_
    refine q_lstore1 C dX7_digest_118 (by decide) (by intro w h0 h; first | exact absurd rfl h0 | (cases h <;> rfl)) ?_
    refine q_iinc3 (dv := 1) C dX7_digest_119 (by decide) (by decide) (by intro w h0 h; first | exact absurd rfl h0 | (cases h <;> rfl)) ?_
    refine q_goto (tgt := 66) C dX7_digest_122 (by decide) ?_
    refine q_drop [some (.ref (a 44)), some (.long (((31 : Int64) * (itr (b_X7_digest_3 M i2) 4 z2)) + ((gI M 51 i2)).toInt64)), none, some (.int ((nI i2) + 1)), none] (by repeat' (first | exact trivial | rfl | constructor)) ?_
    exact ih2
  refine q_iload3 C dX7_digest_66 ?_
  refine q_iconst (v := 4) C dX7_digest_67 (by decide) ?_
  refine q_icmp_ge (tgt := 125) C dX7_digest_68 (by decide) (fun c7 => ?_) (fun c7 => absurd (Int32.le_refl _) c7)
  refine q_iconst (v := 0) C dX7_digest_125 (by decide) ?_
  refine q_istore3 C dX7_digest_126 (by decide) (by intro w h0 h; first | exact absurd rfl h0 | (cases h <;> rfl)) ?_
  refine q_loop 4 (b_X7_digest_4 M) (fun zz => M) (fun xx zz => [some (.ref (a 44)), some (.long zz), none, some (.int xx), none]) (itr (b_X7_digest_2 M) 4 (itr (b_X7_digest_1 M) 10 (17 : Int64)))  (fun i4 z4 hi4 ih4 => ?_) ?_
  · refine q_iload3 C dX7_digest_127 ?_
    refine q_iconst (v := 4) C dX7_digest_128 (by decide) ?_
    refine q_icmp_ge (tgt := 164) C dX7_digest_129 (by decide) (fun c8 => absurd c8 (nI_ge (b := 4) (by omega) (by omega))) (fun c8 => ?_)
    refine q_ldc2 C dX7_digest_132 wk_X7_225 ?_
    refine q_ldc2 C dX7_digest_135 wk_X7_225 ?_
    refine q_lload1 C dX7_digest_138 ?_
    refine q_lmul C dX7_digest_139 ?_
    refine q_aload0 C dX7_digest_140 ?_
    refine g_X7_65 C dX7_digest_141 ?_
    refine q_iload3 C dX7_digest_144 ?_
    refine q_ialdX (j := i4) C rfl (nI_clamp (by omega)) (vp_in_nI (by omega) (by first | decide | omega)) dX7_digest_145 ?_
    refine q_i2l C dX7_digest_146 ?_
    refine q_ladd C dX7_digest_147 ?_
    refine q_lmul C dX7_digest_148 ?_
    refine q_aload0 C dX7_digest_149 ?_
    refine g_X7_68 C dX7_digest_150 ?_
    refine q_iload3 C dX7_digest_153 ?_
    refine q_ialdX (j := i4) C rfl (nI_clamp (by omega)) (vp_in_nI (by omega) (by first | decide | omega)) dX7_digest_154 ?_
    refine q_i2l C dX7_digest_155 ?_
    refine q_ladd C dX7_digest_156 ?_
    refine q_lstore1 C dX7_digest_157 (by decide) (by intro w h0 h; first | exact absurd rfl h0 | (cases h <;> rfl)) ?_
    refine q_iinc3 (dv := 1) C dX7_digest_158 (by decide) (by decide) (by intro w h0 h; first | exact absurd rfl h0 | (cases h <;> rfl)) ?_
    refine q_goto (tgt := 127) C dX7_digest_161 (by decide) ?_
    exact ih4
  refine q_iload3 C dX7_digest_127 ?_
  refine q_iconst (v := 4) C dX7_digest_128 (by decide) ?_
  refine q_icmp_ge (tgt := 164) C dX7_digest_129 (by decide) (fun c9 => ?_) (fun c9 => absurd (Int32.le_refl _) c9)
  refine q_iconst (v := 0) C dX7_digest_164 (by decide) ?_
  refine q_istore3 C dX7_digest_165 (by decide) (by intro w h0 h; first | exact absurd rfl h0 | (cases h <;> rfl)) ?_
  refine q_loop 3 (b_X7_digest_5 M) (fun zz => M) (fun xx zz => [some (.ref (a 44)), some (.long zz), none, some (.int xx), none]) (itr (b_X7_digest_4 M) 4 (itr (b_X7_digest_2 M) 4 (itr (b_X7_digest_1 M) 10 (17 : Int64))))  (fun i5 z5 hi5 ih5 => ?_) ?_
  · refine q_iload3 C dX7_digest_166 ?_
    refine q_iconst (v := 3) C dX7_digest_167 (by decide) ?_
    refine q_icmp_ge (tgt := 203) C dX7_digest_168 (by decide) (fun c10 => absurd c10 (nI_ge (b := 3) (by omega) (by omega))) (fun c10 => ?_)
    refine q_ldc2 C dX7_digest_171 wk_X7_225 ?_
    refine q_ldc2 C dX7_digest_174 wk_X7_225 ?_
    refine q_lload1 C dX7_digest_177 ?_
    refine q_lmul C dX7_digest_178 ?_
    refine q_aload0 C dX7_digest_179 ?_
    refine q_iload3 C dX7_digest_180 ?_
    refine q_iconst (v := 0) C dX7_digest_181 (by decide) ?_
    refine qc_VI C (c_X7_inSilo _ _ _ (by first | assumption | exact vp_in_nI (by omega) (by decide) | omega | (unfold vp_in; decide) | decide) (by first | assumption | exact vp_in_nI (by omega) (by decide) | omega | (unfold vp_in; decide) | decide)) cw_X7_207 rfl rfl rfl rfl (Nat.le_of_ble_eq_true rfl) ⟨(Nat.le_of_ble_eq_true rfl), (Nat.le_of_ble_eq_true rfl)⟩ ⟨Nat.zero_le _, Nat.zero_le _⟩ dX7_digest_182 ?_
    refine q_i2l C dX7_digest_185 ?_
    refine q_ladd C dX7_digest_186 ?_
    refine q_lmul C dX7_digest_187 ?_
    refine q_aload0 C dX7_digest_188 ?_
    refine q_iload3 C dX7_digest_189 ?_
    refine q_iconst (v := 1) C dX7_digest_190 (by decide) ?_
    refine qc_VI C (c_X7_inSilo _ _ _ (by first | assumption | exact vp_in_nI (by omega) (by decide) | omega | (unfold vp_in; decide) | decide) (by first | assumption | exact vp_in_nI (by omega) (by decide) | omega | (unfold vp_in; decide) | decide)) cw_X7_207 rfl rfl rfl rfl (Nat.le_of_ble_eq_true rfl) ⟨(Nat.le_of_ble_eq_true rfl), (Nat.le_of_ble_eq_true rfl)⟩ ⟨Nat.zero_le _, Nat.zero_le _⟩ dX7_digest_191 ?_
    refine q_i2l C dX7_digest_194 ?_
    refine q_ladd C dX7_digest_195 ?_
    refine q_lstore1 C dX7_digest_196 (by decide) (by intro w h0 h; first | exact absurd rfl h0 | (cases h <;> rfl)) ?_
    refine q_iinc3 (dv := 1) C dX7_digest_197 (by decide) (by decide) (by intro w h0 h; first | exact absurd rfl h0 | (cases h <;> rfl)) ?_
    refine q_goto (tgt := 166) C dX7_digest_200 (by decide) ?_
    exact ih5
  refine q_cut M 166 [some (.ref (a 44)), some (.long (l_X7_digest_5 M (itr (b_X7_digest_4 M) 4 (itr (b_X7_digest_2 M) 4 (itr (b_X7_digest_1 M) 10 (17 : Int64)))))), none, some (.int (nI 3)), none] [] (fun hJ => hJ) ?_
  refine q_iload3 C dX7_digest_166 ?_
  refine q_iconst (v := 3) C dX7_digest_167 (by decide) ?_
  refine q_icmp_ge (tgt := 203) C dX7_digest_168 (by decide) (fun c11 => ?_) (fun c11 => absurd (Int32.le_refl _) c11)
  refine q_iconst (v := 0) C dX7_digest_203 (by decide) ?_
  refine q_istore3 C dX7_digest_204 (by decide) (by intro w h0 h; first | exact absurd rfl h0 | (cases h <;> rfl)) ?_
  refine q_loop 7 (b_X7_digest_6 M) (fun zz => M) (fun xx zz => [some (.ref (a 44)), some (.long zz), none, some (.int xx), none]) (l_X7_digest_5 M (itr (b_X7_digest_4 M) 4 (itr (b_X7_digest_2 M) 4 (itr (b_X7_digest_1 M) 10 (17 : Int64)))))  (fun i6 z6 hi6 ih6 => ?_) ?_
  · refine q_iload3 C dX7_digest_205 ?_
    refine q_bipush (v := 7) C dX7_digest_206 (by decide) ?_
    refine q_icmp_ge (tgt := 279) C dX7_digest_208 (by decide) (fun c12 => absurd c12 (nI_ge (b := 7) (by omega) (by omega))) (fun c12 => ?_)
    refine q_aload0 C dX7_digest_211 ?_
    refine g_X7_101 C dX7_digest_212 ?_
    refine q_iload3 C dX7_digest_215 ?_
    refine q_zaldX (j := i6) C rfl (nI_clamp (by omega)) (vp_in_nI (by omega) (by first | decide | omega)) dX7_digest_216 ?_
    refine q_cut M 228 [some (.ref (a 44)), some (.long (if (gI M 67 i6) = 0 then (((31 : Int64) * z6) - (1 : Int64)) else z6)), none, some (.int (nI i6)), none] [] (fun hJ => ?_) ?_
    · refine q_if_ne (tgt := 228) C dX7_digest_217 (by decide) (fun c13 => ?_) (fun c13 => ?_)
      · (try simp only [if_neg c13] at hJ); exact hJ
      · refine q_ldc2 C dX7_digest_220 wk_X7_225 ?_
        refine q_lload1 C dX7_digest_223 ?_
        refine q_lmul C dX7_digest_224 ?_
        refine q_lconst (v := 1) C dX7_digest_225 (by decide) ?_
        refine q_lsub C dX7_digest_226 ?_
        refine q_lstore1 C dX7_digest_227 (by decide) (by intro w h0 h; first | exact absurd rfl h0 | (cases h <;> rfl)) ?_
        (try simp only [if_pos c13] at hJ); exact hJ
    refine q_iconst (v := 0) C dX7_digest_228 (by decide) ?_
    refine q_istore4 C dX7_digest_229 (by decide) (by intro w h0 h; first | exact absurd rfl h0 | (cases h <;> rfl)) ?_
    refine q_loopE 24 (b_X7_digest_7 M i6) (fun zz => M) (fun xx zz => [some (.ref (a 44)), some (.long zz), none, some (.int (nI i6)), some (.int xx)]) (if (gI M 67 i6) = 0 then (((31 : Int64) * z6) - (1 : Int64)) else z6) 273 (fun z7 => (gI M 67 i6) = 0) (fun i z h => by simp only [b_X7_digest_7, if_pos h]) (fun i7 z7 hi7 hE7 ih7 => ?_) (fun hF => ?_) (fun x9 => ?_)
    · refine q_iload4 C dX7_digest_231 ?_
      refine q_bipush (v := 24) C dX7_digest_233 (by decide) ?_
      refine q_icmp_ge (tgt := 273) C dX7_digest_235 (by decide) (fun c14 => absurd c14 (nI_ge (b := 24) (by omega) (by omega))) (fun c14 => ?_)
      refine q_aload0 C dX7_digest_238 ?_
      refine g_X7_101 C dX7_digest_239 ?_
      refine q_iload3 C dX7_digest_242 ?_
      refine q_zaldX (j := i6) C rfl (nI_clamp (by omega)) (vp_in_nI (by omega) (by first | decide | omega)) dX7_digest_243 ?_
      refine q_if_eq (tgt := 273) C dX7_digest_244 (by decide) (fun c15 => ?_) (fun c15 => ?_)
      · exact hE7 c15 _
      · refine q_ldc2 C dX7_digest_247 wk_X7_225 ?_
        refine q_lload1 C dX7_digest_250 ?_
        refine q_lmul C dX7_digest_251 ?_
        refine q_aload0 C dX7_digest_252 ?_
        refine g_X7_104 C dX7_digest_253 ?_
        refine q_bipush (v := 24) C dX7_digest_256 (by decide) ?_
        refine q_iload3 C dX7_digest_258 ?_
        refine q_imul C dX7_digest_259 ?_
        refine q_iload4 C dX7_digest_260 ?_
        refine q_iadd C dX7_digest_262 ?_
        refine q_ialdX (j := (24 * i6 + i7)) C rfl (by rw [ix24 (vp_in_nI (by omega) (by decide)) (by omega), nI_clamp (by omega)]) (iv24 (vp_in_nI (by omega) (by decide)) (by omega)) dX7_digest_263 ?_
        refine q_i2l C dX7_digest_264 ?_
        refine q_ladd C dX7_digest_265 ?_
        refine q_lstore1 C dX7_digest_266 (by decide) (by intro w h0 h; first | exact absurd rfl h0 | (cases h <;> rfl)) ?_
        refine q_iinc4 (dv := 1) C dX7_digest_267 (by decide) (by decide) (by intro w h0 h; first | exact absurd rfl h0 | (cases h <;> rfl)) ?_
        refine q_goto (tgt := 231) C dX7_digest_270 (by decide) ?_
        (have ih8 := ih7 c15); (simp only [b_X7_digest_7, if_neg c15] at ih8); exact ih8
    · refine q_iload4 C dX7_digest_231 ?_
      refine q_bipush (v := 24) C dX7_digest_233 (by decide) ?_
      refine q_icmp_ge (tgt := 273) C dX7_digest_235 (by decide) (fun c16 => ?_) (fun c16 => absurd (Int32.le_refl _) c16)
      exact hF _
    refine q_iinc3 (dv := 1) C dX7_digest_273 (by decide) (by decide) (by intro w h0 h; first | exact absurd rfl h0 | (cases h <;> rfl)) ?_
    refine q_goto (tgt := 205) C dX7_digest_276 (by decide) ?_
    refine q_drop [some (.ref (a 44)), some (.long (itr (b_X7_digest_7 M i6) 24 (if (gI M 67 i6) = 0 then (((31 : Int64) * z6) - (1 : Int64)) else z6))), none, some (.int ((nI i6) + 1)), none] (by repeat' (first | exact trivial | rfl | constructor)) ?_
    exact ih6
  refine q_cut M 205 [some (.ref (a 44)), some (.long (l_X7_digest_6 M (l_X7_digest_5 M (itr (b_X7_digest_4 M) 4 (itr (b_X7_digest_2 M) 4 (itr (b_X7_digest_1 M) 10 (17 : Int64))))))), none, some (.int (nI 7)), none] [] (fun hJ => hJ) ?_
  refine q_iload3 C dX7_digest_205 ?_
  refine q_bipush (v := 7) C dX7_digest_206 (by decide) ?_
  refine q_icmp_ge (tgt := 279) C dX7_digest_208 (by decide) (fun c17 => ?_) (fun c17 => absurd (Int32.le_refl _) c17)
  refine q_iconst (v := 0) C dX7_digest_279 (by decide) ?_
  refine q_istore3 C dX7_digest_280 (by decide) (by intro w h0 h; first | exact absurd rfl h0 | (cases h <;> rfl)) ?_
  refine q_loop 24 (b_X7_digest_8 M) (fun zz => M) (fun xx zz => [some (.ref (a 44)), some (.long zz), none, some (.int xx), none]) (l_X7_digest_6 M (l_X7_digest_5 M (itr (b_X7_digest_4 M) 4 (itr (b_X7_digest_2 M) 4 (itr (b_X7_digest_1 M) 10 (17 : Int64))))))  (fun i8 z8 hi8 ih8 => ?_) ?_
  · refine q_iload3 C dX7_digest_281 ?_
    refine q_bipush (v := 24) C dX7_digest_282 (by decide) ?_
    refine q_icmp_ge (tgt := 307) C dX7_digest_284 (by decide) (fun c18 => absurd c18 (nI_ge (b := 24) (by omega) (by omega))) (fun c18 => ?_)
    refine q_ldc2 C dX7_digest_287 wk_X7_225 ?_
    refine q_lload1 C dX7_digest_290 ?_
    refine q_lmul C dX7_digest_291 ?_
    refine q_aload0 C dX7_digest_292 ?_
    refine g_X7_107 C dX7_digest_293 ?_
    refine q_iload3 C dX7_digest_296 ?_
    refine q_ialdX (j := i8) C rfl (nI_clamp (by omega)) (vp_in_nI (by omega) (by first | decide | omega)) dX7_digest_297 ?_
    refine q_i2l C dX7_digest_298 ?_
    refine q_ladd C dX7_digest_299 ?_
    refine q_lstore1 C dX7_digest_300 (by decide) (by intro w h0 h; first | exact absurd rfl h0 | (cases h <;> rfl)) ?_
    refine q_iinc3 (dv := 1) C dX7_digest_301 (by decide) (by decide) (by intro w h0 h; first | exact absurd rfl h0 | (cases h <;> rfl)) ?_
    refine q_goto (tgt := 281) C dX7_digest_304 (by decide) ?_
    exact ih8
  refine q_cut M 281 [some (.ref (a 44)), some (.long (l_X7_digest_8 M (l_X7_digest_6 M (l_X7_digest_5 M (itr (b_X7_digest_4 M) 4 (itr (b_X7_digest_2 M) 4 (itr (b_X7_digest_1 M) 10 (17 : Int64)))))))), none, some (.int (nI 24)), none] [] (fun hJ => hJ) ?_
  refine q_iload3 C dX7_digest_281 ?_
  refine q_bipush (v := 24) C dX7_digest_282 (by decide) ?_
  refine q_icmp_ge (tgt := 307) C dX7_digest_284 (by decide) (fun c19 => ?_) (fun c19 => absurd (Int32.le_refl _) c19)
  refine q_iconst (v := 0) C dX7_digest_307 (by decide) ?_
  refine q_istore3 C dX7_digest_308 (by decide) (by intro w h0 h; first | exact absurd rfl h0 | (cases h <;> rfl)) ?_
  refine q_loop 5 (b_X7_digest_9 M) (fun zz => M) (fun xx zz => [some (.ref (a 44)), some (.long zz), none, some (.int xx), none]) (l_X7_digest_8 M (l_X7_digest_6 M (l_X7_digest_5 M (itr (b_X7_digest_4 M) 4 (itr (b_X7_digest_2 M) 4 (itr (b_X7_digest_1 M) 10 (17 : Int64)))))))  (fun i9 z9 hi9 ih9 => ?_) ?_
  · refine q_iload3 C dX7_digest_309 ?_
    refine q_iconst (v := 4) C dX7_digest_310 (by decide) ?_
    refine q_icmp_gt (tgt := 333) C dX7_digest_311 (by decide) (fun c20 => absurd c20 (nI_nlt (a := 4) (by omega) (by decide))) (fun c20 => ?_)
    refine q_ldc2 C dX7_digest_314 wk_X7_225 ?_
    refine q_lload1 C dX7_digest_317 ?_
    refine q_lmul C dX7_digest_318 ?_
    refine q_aload0 C dX7_digest_319 ?_
    refine q_iload3 C dX7_digest_320 ?_
    refine qc_VI C (c_X7_counts _ _) cw_X7_220 rfl rfl rfl rfl (Nat.le_of_ble_eq_true rfl) ⟨(Nat.le_of_ble_eq_true rfl), (Nat.le_of_ble_eq_true rfl)⟩ ⟨Nat.zero_le _, Nat.zero_le _⟩ dX7_digest_321 ?_
    refine q_i2l C dX7_digest_324 ?_
    refine q_ladd C dX7_digest_325 ?_
    refine q_lstore1 C dX7_digest_326 (by decide) (by intro w h0 h; first | exact absurd rfl h0 | (cases h <;> rfl)) ?_
    refine q_iinc3 (dv := 1) C dX7_digest_327 (by decide) (by decide) (by intro w h0 h; first | exact absurd rfl h0 | (cases h <;> rfl)) ?_
    refine q_goto (tgt := 309) C dX7_digest_330 (by decide) ?_
    exact ih9
  refine q_cut M 309 [some (.ref (a 44)), some (.long (l_X7_digest_9 M (l_X7_digest_8 M (l_X7_digest_6 M (l_X7_digest_5 M (itr (b_X7_digest_4 M) 4 (itr (b_X7_digest_2 M) 4 (itr (b_X7_digest_1 M) 10 (17 : Int64))))))))), none, some (.int (nI 5)), none] [] (fun hJ => hJ) ?_
  refine q_iload3 C dX7_digest_309 ?_
  refine q_iconst (v := 4) C dX7_digest_310 (by decide) ?_
  refine q_icmp_gt (tgt := 333) C dX7_digest_311 (by decide) (fun c21 => ?_) (fun c21 => absurd (by decide) c21)
  refine q_lload1 C dX7_digest_333 ?_
  exact q_lret C (by first | (rw [f_X7_digest]; done) | rfl) rfl dX7_digest_334
