def b_X7_plan_1  (i1 : Nat) (z1 : Mm) : Mm := (sI (sI z1 71 i1 (if (nI i1) = 0 then (0 : Int32) else (-9 : Int32))) 72 i1 (0 : Int32))
def l_X7_plan_1  (z1 : Mm) : Mm := itr b_X7_plan_1 25 z1
def m_X7_plan_2 (u1 : Int32) (i2 : Nat) (i3 : Nat) (z3 : Mm) : Mm := (sI z3 71 i3 (if (nI i3) = 0 then (-9 : Int32) else (if 0 ≤ (gI z3 71 (i3 - 1)) then ((gI z3 71 (i3 - 1)) + (gI z3 68 (24 * (u1).toNatClampNeg + i2))) else (-9 : Int32))))
def m_X7_plan_3 (u1 : Int32) (i2 : Nat) (i3 : Nat) (z3 : Mm) : Mm := (sI z3 71 i3 (if (nI i3) = 0 then (-9 : Int32) else (if 0 ≤ (gI z3 71 (i3 - 1)) then ((gI z3 71 (i3 - 1)) + (gI z3 68 (24 * (u1).toNatClampNeg + i2))) else (-9 : Int32))))
def m_X7_plan_4 (u1 : Int32) (i2 : Nat) (i3 : Nat) (z3 : Mm) : Mm := (sI z3 71 i3 (if (nI i3) = 0 then (-9 : Int32) else (if 0 ≤ (gI z3 71 (i3 - 1)) then ((gI z3 71 (i3 - 1)) + (gI z3 68 (24 * (u1).toNatClampNeg + i2))) else (-9 : Int32))))
def m_X7_plan_5 (u1 : Int32) (i2 : Nat) (i3 : Nat) (z3 : Mm) : Mm := (if (if (nI i3) = 0 then (-9 : Int32) else (if 0 ≤ (gI z3 71 (i3 - 1)) then ((gI z3 71 (i3 - 1)) + (gI z3 68 (24 * (u1).toNatClampNeg + i2))) else (-9 : Int32))) < 0 then z3 else (if (gI z3 71 i3) < 0 then (sI (m_X7_plan_2 u1 i2 i3 z3) 72 i3 ((gI (m_X7_plan_2 u1 i2 i3 z3) 72 (i3 - 1)) ||| ((1 : Int32) <<< ((nI i2) &&& 31)))) else (if (if (nI i3) = 0 then (-9 : Int32) else (if 0 ≤ (gI z3 71 (i3 - 1)) then ((gI z3 71 (i3 - 1)) + (gI z3 68 (24 * (u1).toNatClampNeg + i2))) else (-9 : Int32))) < (gI z3 71 i3) then (sI (m_X7_plan_3 u1 i2 i3 z3) 72 i3 ((gI (m_X7_plan_3 u1 i2 i3 z3) 72 (i3 - 1)) ||| ((1 : Int32) <<< ((nI i2) &&& 31)))) else (if (if (nI i3) = 0 then (-9 : Int32) else (if 0 ≤ (gI z3 71 (i3 - 1)) then ((gI z3 71 (i3 - 1)) + (gI z3 68 (24 * (u1).toNatClampNeg + i2))) else (-9 : Int32))) = (gI z3 71 i3) then (if (gI z3 72 i3) ≤ ((gI z3 72 (i3 - 1)) ||| ((1 : Int32) <<< ((nI i2) &&& 31))) then z3 else (sI (m_X7_plan_4 u1 i2 i3 z3) 72 i3 ((gI (m_X7_plan_4 u1 i2 i3 z3) 72 (i3 - 1)) ||| ((1 : Int32) <<< ((nI i2) &&& 31))))) else z3))))
def m_X7_plan_6 (u1 : Int32) (u2 : Int32) (i2 : Nat) (i3 : Nat) (z3 : Mm) : Mm := (sI (m_X7_plan_5 u1 i2 i3 z3) 71 i3 (if (gI (m_X7_plan_5 u1 i2 i3 z3) 69 i2) ≤ (u2 * (nI i3)) then (gI (m_X7_plan_5 u1 i2 i3 z3) 71 i3) else (-9 : Int32)))
def b_X7_plan_3 (u1 : Int32) (u2 : Int32) (i2 : Nat) (i3 : Nat) (z3 : Mm) : Mm := (m_X7_plan_6 u1 u2 i2 i3 z3)
def l_X7_plan_3 (u1 : Int32) (u2 : Int32) (i2 : Nat) (z3 : Mm) : Mm := itd (b_X7_plan_3 u1 u2 i2) (i2 + 2) z3
def b_X7_plan_2 (u1 : Int32) (u2 : Int32) (i2 : Nat) (z2 : Mm) : Mm := (l_X7_plan_3 u1 u2 i2 z2)
def l_X7_plan_2 (u1 : Int32) (u2 : Int32) (z2 : Mm) : Mm := itr (b_X7_plan_2 u1 u2) 24 z2
def b_X7_plan_4 (M : Mm) (u1 : Int32) (u2 : Int32) (i4 : Nat) (z4 : Int32) : Int32 := (if (gI (l_X7_plan_2 u1 u2 (l_X7_plan_1 M)) 71 i4) < 0 then z4 else (if z4 < 0 then (nI i4) else (if (gI (l_X7_plan_2 u1 u2 (l_X7_plan_1 M)) 71 (z4).toNatClampNeg) ≤ (gI (l_X7_plan_2 u1 u2 (l_X7_plan_1 M)) 71 i4) then z4 else (nI i4))))
def l_X7_plan_4 (M : Mm) (u1 : Int32) (u2 : Int32) (z4 : Int32) : Int32 := itr (b_X7_plan_4 M u1 u2) 25 z4
def f_X7_plan (M : Mm) (u1 : Int32) (u2 : Int32) : Int32 × Mm := (if (f_X7_isADay u1) = 0 then ((-1 : Int32), M) else (if (f_X7_in u2 (1 : Int32) (1000 : Int32)) = 0 then ((-1 : Int32), M) else (if (gI M 67 (u1).toNatClampNeg) = 0 then ((f_X7_meets M (1 : Int32)).1, (f_X7_meets M (1 : Int32)).2) else ((if 0 ≤ (l_X7_plan_4 M u1 u2 (-9 : Int32)) then (f_X7_tell (l_X7_plan_2 u1 u2 (l_X7_plan_1 M)) ((gI (l_X7_plan_2 u1 u2 (l_X7_plan_1 M)) 71 ((l_X7_plan_4 M u1 u2 (-9 : Int32))).toNatClampNeg)).toInt64 (gI (l_X7_plan_2 u1 u2 (l_X7_plan_1 M)) 72 ((l_X7_plan_4 M u1 u2 (-9 : Int32))).toNatClampNeg)).1 else (-9 : Int32)), (if 0 ≤ (l_X7_plan_4 M u1 u2 (-9 : Int32)) then (f_X7_tell (l_X7_plan_2 u1 u2 (l_X7_plan_1 M)) ((gI (l_X7_plan_2 u1 u2 (l_X7_plan_1 M)) 71 ((l_X7_plan_4 M u1 u2 (-9 : Int32))).toNatClampNeg)).toInt64 (gI (l_X7_plan_2 u1 u2 (l_X7_plan_1 M)) 72 ((l_X7_plan_4 M u1 u2 (-9 : Int32))).toNatClampNeg)).2 else (l_X7_plan_2 u1 u2 (l_X7_plan_1 M)))))))
theorem pl_inv {M : Mm} {u1 u2 : Int32} (i : Nat) (z : Int32) (hi : i < 25) (h : z = -9 ∨ vp_in z 26) : b_X7_plan_4 M u1 u2 i z = -9 ∨ vp_in (b_X7_plan_4 M u1 u2 i z) 26 := by
  have hv : vp_in (nI i) 26 := vp_in_nI (by omega) (by decide)
  unfold b_X7_plan_4
  repeat' split
  all_goals first | exact h | exact Or.inr hv
set_option maxHeartbeats 4000000 in
set_option maxRecDepth 100000 in
theorem c_X7_plan (M : Mm) (u1 : Int32) (u2 : Int32)  : MI yX7_plan cX7_plan 6 (some .int) 2 42 (fun a => [.ref (a 44), .int u1, .int u2]) M (f_X7_plan M u1 u2).1 (f_X7_plan M u1 u2).2 := by
  refine MI.intro (lv0 := fun a => [some (.ref (a 44)), some (.int u1), some (.int u2), none, none, none]) (by decide) (fun a => ⟨(Nat.le_of_ble_eq_true rfl), rfl⟩) ?_
  intro p9 l9 e9 s9 m9 g9 b9 h9 c9 D9 A9 ct a C
  have C : Cx p9 s9 m9 g9 h9 c9 cX7_plan 6 RX7 (some .int) D9 A9 ct a := C
  refine q_iload1 C dX7_plan_0 ?_
  refine qc_SI C (c_X7_isADay _ _) cw_X7_214 rfl rfl (Nat.le_of_ble_eq_true rfl) ⟨(Nat.le_of_ble_eq_true rfl), (Nat.le_of_ble_eq_true rfl)⟩ ⟨Nat.zero_le _, Nat.zero_le _⟩ dX7_plan_1 ?_
  refine q_if_eq (tgt := 18) C dX7_plan_4 (by decide) (fun c1 => ?_) (fun c1 => ?_)
  · refine q_iconst (v := -1) C dX7_plan_18 (by decide) ?_
    exact q_iret C (by first | rfl | (rw [f_X7_plan, if_pos c1]; done) | (rw [f_X7_plan, if_pos c1]; rfl) | (simp only [f_X7_plan, if_pos c1]; done)) (by first | rfl | (rw [f_X7_plan, if_pos c1]; done) | (rw [f_X7_plan, if_pos c1]; rfl) | (simp only [f_X7_plan, if_pos c1]; done)) dX7_plan_19
  · refine q_iload2 C dX7_plan_7 ?_
    refine q_iconst (v := 1) C dX7_plan_8 (by decide) ?_
    refine q_sipush (v := 1000) C dX7_plan_9 (by decide) ?_
    refine qc_SI C (c_X7_in _ _ _ _) cw_X7_125 rfl rfl (Nat.le_of_ble_eq_true rfl) ⟨(Nat.le_of_ble_eq_true rfl), (Nat.le_of_ble_eq_true rfl)⟩ ⟨Nat.zero_le _, Nat.zero_le _⟩ dX7_plan_12 ?_
    refine q_if_ne (tgt := 20) C dX7_plan_15 (by decide) (fun c2 => ?_) (fun c2 => ?_)
    · refine q_aload0 C dX7_plan_20 ?_
      refine g_X7_101 C dX7_plan_21 ?_
      refine q_iload1 C dX7_plan_24 ?_
      refine q_zaldX (j := (u1).toNatClampNeg) C rfl rfl (by first | assumption | exact day7 (by assumption) | exact wi7_in (by assumption) (by decide) | (simp only [gI_sI, gI_sJ, gI_ite]; simp; assumption) | (simp [gI_sI, gI_sJ, gI_ite]; assumption)) dX7_plan_25 ?_
      refine q_if_ne (tgt := 35) C dX7_plan_26 (by decide) (fun c3 => ?_) (fun c3 => ?_)
      · refine q_iconst (v := 0) C dX7_plan_35 (by decide) ?_
        refine q_istore3 C dX7_plan_36 (by decide) (by intro w h0 h; first | exact absurd rfl h0 | (cases h <;> rfl)) ?_
        refine q_loop 25 b_X7_plan_1 (fun zz => zz) (fun xx zz => [some (.ref (a 44)), some (.int u1), some (.int u2), some (.int xx), none, none]) M  (fun i1 z1 hi1 ih1 => ?_) ?_
        · refine q_iload3 C dX7_plan_37 ?_
          refine q_bipush (v := 24) C dX7_plan_38 (by decide) ?_
          refine q_icmp_gt (tgt := 72) C dX7_plan_40 (by decide) (fun c4 => absurd c4 (nI_nlt (a := 24) (by omega) (by decide))) (fun c4 => ?_)
          refine q_aload0 C dX7_plan_43 ?_
          refine g_X7_113 C dX7_plan_44 ?_
          refine q_iload3 C dX7_plan_47 ?_
          refine q_iload3 C dX7_plan_48 ?_
          refine q_cut z1 58 [some (.ref (a 44)), some (.int u1), some (.int u2), some (.int (nI i1)), none, none] [.int (if (nI i1) = 0 then (0 : Int32) else (-9 : Int32)), .int (nI i1), .ref (a 71)] (fun hJ => ?_) ?_
          · refine q_if_ne (tgt := 56) C dX7_plan_49 (by decide) (fun c5 => ?_) (fun c5 => ?_)
            · refine q_bipush (v := -9) C dX7_plan_56 (by decide) ?_
              (try simp only [if_neg c5] at hJ); exact hJ
            · refine q_iconst (v := 0) C dX7_plan_52 (by decide) ?_
              refine q_goto (tgt := 58) C dX7_plan_53 (by decide) ?_
              (try simp only [if_pos c5] at hJ); exact hJ
          refine q_iastX (j := i1) C rfl (nI_clamp (by omega)) (vp_in_nI (by omega) (by first | decide | omega)) dX7_plan_58 ?_
          refine q_aload0 C dX7_plan_59 ?_
          refine g_X7_116 C dX7_plan_60 ?_
          refine q_iload3 C dX7_plan_63 ?_
          refine q_iconst (v := 0) C dX7_plan_64 (by decide) ?_
          refine q_iastX (j := i1) C rfl (nI_clamp (by omega)) (vp_in_nI (by omega) (by first | decide | omega)) dX7_plan_65 ?_
          refine q_iinc3 (dv := 1) C dX7_plan_66 (by decide) (by decide) (by intro w h0 h; first | exact absurd rfl h0 | (cases h <;> rfl)) ?_
          refine q_goto (tgt := 37) C dX7_plan_69 (by decide) ?_
          exact ih1
        refine q_cut (l_X7_plan_1 M) 37 [some (.ref (a 44)), some (.int u1), some (.int u2), some (.int (nI 25)), none, none] [] (fun hJ => hJ) ?_
        refine q_iload3 C dX7_plan_37 ?_
        refine q_bipush (v := 24) C dX7_plan_38 (by decide) ?_
        refine q_icmp_gt (tgt := 72) C dX7_plan_40 (by decide) (fun c6 => ?_) (fun c6 => absurd (by decide) c6)
        refine q_iconst (v := 0) C dX7_plan_72 (by decide) ?_
        refine q_istore3 C dX7_plan_73 (by decide) (by intro w h0 h; first | exact absurd rfl h0 | (cases h <;> rfl)) ?_
        refine q_loop 24 (b_X7_plan_2 u1 u2) (fun zz => zz) (fun xx zz => [some (.ref (a 44)), some (.int u1), some (.int u2), some (.int xx), none, none]) (l_X7_plan_1 M)  (fun i2 z2 hi2 ih2 => ?_) ?_
        · refine q_iload3 C dX7_plan_74 ?_
          refine q_bipush (v := 24) C dX7_plan_75 (by decide) ?_
          refine q_icmp_ge (tgt := 270) C dX7_plan_77 (by decide) (fun c7 => absurd c7 (nI_ge (b := 24) (by omega) (by omega))) (fun c7 => ?_)
          refine q_iload3 C dX7_plan_80 ?_
          refine q_iconst (v := 1) C dX7_plan_81 (by decide) ?_
          refine q_iadd C dX7_plan_82 ?_
          refine q_istore4 C dX7_plan_83 (by decide) (by intro w h0 h; first | exact absurd rfl h0 | (cases h <;> rfl)) ?_
          refine q_loopD (i2 + 2) (b_X7_plan_3 u1 u2 i2) (fun zz => zz) (fun xx zz => [some (.ref (a 44)), some (.int u1), some (.int u2), some (.int (nI i2)), some (.int xx), none]) z2 (nI_hx i2) (fun i3 z3 hi3 ih3 => ?_) ?_
          · refine q_iload4 C dX7_plan_85 ?_
            refine q_if_lt (tgt := 264) C dX7_plan_87 (by decide) (fun c8 => absurd c8 (nI_pos (by omega))) (fun c8 => ?_)
            refine q_iload4 C dX7_plan_90 ?_
            refine q_cut z3 133 [some (.ref (a 44)), some (.int u1), some (.int u2), some (.int (nI i2)), some (.int (nI i3)), none] [.int (if (nI i3) = 0 then (-9 : Int32) else (if 0 ≤ (gI z3 71 (i3 - 1)) then ((gI z3 71 (i3 - 1)) + (gI z3 68 (24 * (u1).toNatClampNeg + i2))) else (-9 : Int32)))] (fun hJ => ?_) ?_
            · refine q_if_eq (tgt := 107) C dX7_plan_92 (by decide) (fun c9 => ?_) (fun c9 => ?_)
              · refine q_bipush (v := -9) C dX7_plan_107 (by decide) ?_
                refine q_goto (tgt := 133) C dX7_plan_109 (by decide) ?_
                (try simp only [if_pos c9] at hJ); exact hJ
              · refine q_aload0 C dX7_plan_95 ?_
                refine g_X7_113 C dX7_plan_96 ?_
                refine q_iload4 C dX7_plan_99 ?_
                refine q_iconst (v := 1) C dX7_plan_101 (by decide) ?_
                refine q_isub C dX7_plan_102 ?_
                refine q_ialdX (j := (i3 - 1)) C rfl (nI_clampQ c9 (by omega)) (vinQ c9 (by omega) (by decide)) dX7_plan_103 ?_
                refine q_if_ge (tgt := 112) C dX7_plan_104 (by decide) (fun c10 => ?_) (fun c10 => ?_)
                · refine q_aload0 C dX7_plan_112 ?_
                  refine g_X7_113 C dX7_plan_113 ?_
                  refine q_iload4 C dX7_plan_116 ?_
                  refine q_iconst (v := 1) C dX7_plan_118 (by decide) ?_
                  refine q_isub C dX7_plan_119 ?_
                  refine q_ialdX (j := (i3 - 1)) C rfl (nI_clampQ c9 (by omega)) (vinQ c9 (by omega) (by decide)) dX7_plan_120 ?_
                  refine q_aload0 C dX7_plan_121 ?_
                  refine g_X7_104 C dX7_plan_122 ?_
                  refine q_bipush (v := 24) C dX7_plan_125 (by decide) ?_
                  refine q_iload1 C dX7_plan_127 ?_
                  refine q_imul C dX7_plan_128 ?_
                  refine q_iload3 C dX7_plan_129 ?_
                  refine q_iadd C dX7_plan_130 ?_
                  refine q_ialdX (j := (24 * (u1).toNatClampNeg + i2)) C rfl (ix24 (day7 (by assumption)) (by omega)) (iv24 (day7 (by assumption)) (by omega)) dX7_plan_131 ?_
                  refine q_iadd C dX7_plan_132 ?_
                  (try simp only [if_neg c9, if_pos c10] at hJ); exact hJ
                · refine q_bipush (v := -9) C dX7_plan_107 (by decide) ?_
                  refine q_goto (tgt := 133) C dX7_plan_109 (by decide) ?_
                  (try simp only [if_neg c9, if_neg c10] at hJ); exact hJ
            refine q_istore5 C dX7_plan_133 (by decide) (by intro w h0 h; first | exact absurd rfl h0 | (cases h <;> rfl)) ?_
            refine q_iload5 C dX7_plan_135 ?_
            refine q_cut (if (if (nI i3) = 0 then (-9 : Int32) else (if 0 ≤ (gI z3 71 (i3 - 1)) then ((gI z3 71 (i3 - 1)) + (gI z3 68 (24 * (u1).toNatClampNeg + i2))) else (-9 : Int32))) < 0 then z3 else (if (gI z3 71 i3) < 0 then (sI (m_X7_plan_2 u1 i2 i3 z3) 72 i3 ((gI (m_X7_plan_2 u1 i2 i3 z3) 72 (i3 - 1)) ||| ((1 : Int32) <<< ((nI i2) &&& 31)))) else (if (if (nI i3) = 0 then (-9 : Int32) else (if 0 ≤ (gI z3 71 (i3 - 1)) then ((gI z3 71 (i3 - 1)) + (gI z3 68 (24 * (u1).toNatClampNeg + i2))) else (-9 : Int32))) < (gI z3 71 i3) then (sI (m_X7_plan_3 u1 i2 i3 z3) 72 i3 ((gI (m_X7_plan_3 u1 i2 i3 z3) 72 (i3 - 1)) ||| ((1 : Int32) <<< ((nI i2) &&& 31)))) else (if (if (nI i3) = 0 then (-9 : Int32) else (if 0 ≤ (gI z3 71 (i3 - 1)) then ((gI z3 71 (i3 - 1)) + (gI z3 68 (24 * (u1).toNatClampNeg + i2))) else (-9 : Int32))) = (gI z3 71 i3) then (if (gI z3 72 i3) ≤ ((gI z3 72 (i3 - 1)) ||| ((1 : Int32) <<< ((nI i2) &&& 31))) then z3 else (sI (m_X7_plan_4 u1 i2 i3 z3) 72 i3 ((gI (m_X7_plan_4 u1 i2 i3 z3) 72 (i3 - 1)) ||| ((1 : Int32) <<< ((nI i2) &&& 31))))) else z3)))) 226 [some (.ref (a 44)), some (.int u1), some (.int u2), some (.int (nI i2)), some (.int (nI i3)), none] [] (fun hJ => ?_) ?_
            · refine q_if_lt (tgt := 226) C dX7_plan_137 (by decide) (fun c11 => ?_) (fun c11 => ?_)
              · refine q_drop [some (.ref (a 44)), some (.int u1), some (.int u2), some (.int (nI i2)), some (.int (nI i3)), none] (by repeat' (first | exact trivial | rfl | constructor)) ?_
                (try simp only [if_pos c11] at hJ); exact hJ
              · refine q_aload0 C dX7_plan_140 ?_
                refine g_X7_113 C dX7_plan_141 ?_
                refine q_iload4 C dX7_plan_144 ?_
                refine q_ialdX (j := i3) C rfl (nI_clamp (by omega)) (vp_in_nI (by omega) (by first | decide | omega)) dX7_plan_146 ?_
                refine q_if_lt (tgt := 197) C dX7_plan_147 (by decide) (fun c12 => ?_) (fun c12 => ?_)
                · refine q_aload0 C dX7_plan_197 ?_
                  refine g_X7_113 C dX7_plan_198 ?_
                  refine q_iload4 C dX7_plan_201 ?_
                  refine q_iload5 C dX7_plan_203 ?_
                  refine q_iastX (j := i3) C rfl (nI_clamp (by omega)) (vp_in_nI (by omega) (by first | decide | omega)) dX7_plan_205 ?_
                  refine q_cut (m_X7_plan_2 u1 i2 i3 z3) 206 [some (.ref (a 44)), some (.int u1), some (.int u2), some (.int (nI i2)), some (.int (nI i3)), some (.int (if (nI i3) = 0 then (-9 : Int32) else (if 0 ≤ (gI z3 71 (i3 - 1)) then ((gI z3 71 (i3 - 1)) + (gI z3 68 (24 * (u1).toNatClampNeg + i2))) else (-9 : Int32))))] [] (fun hJ => hJ) ?_
                  refine q_aload0 C dX7_plan_206 ?_
                  refine g_X7_116 C dX7_plan_207 ?_
                  refine q_iload4 C dX7_plan_210 ?_
                  refine q_aload0 C dX7_plan_212 ?_
                  refine g_X7_116 C dX7_plan_213 ?_
                  refine q_iload4 C dX7_plan_216 ?_
                  refine q_iconst (v := 1) C dX7_plan_218 (by decide) ?_
                  refine q_isub C dX7_plan_219 ?_
                  refine q_ialdX (j := (i3 - 1)) C rfl (nI_clampQ (pl_k c11) (by omega)) (vinQ (pl_k c11) (by omega) (by decide)) dX7_plan_220 ?_
                  refine q_iconst (v := 1) C dX7_plan_221 (by decide) ?_
                  refine q_iload3 C dX7_plan_222 ?_
                  refine q_ishl C dX7_plan_223 ?_
                  refine q_ior C dX7_plan_224 ?_
                  refine q_iastX (j := i3) C rfl (nI_clamp (by omega)) (vp_in_nI (by omega) (by first | decide | omega)) dX7_plan_225 ?_
                  refine q_drop [some (.ref (a 44)), some (.int u1), some (.int u2), some (.int (nI i2)), some (.int (nI i3)), none] (by repeat' (first | exact trivial | rfl | constructor)) ?_
                  (try simp only [if_neg c11, if_pos c12] at hJ); exact hJ
                · refine q_iload5 C dX7_plan_150 ?_
                  refine q_aload0 C dX7_plan_152 ?_
                  refine g_X7_113 C dX7_plan_153 ?_
                  refine q_iload4 C dX7_plan_156 ?_
                  refine q_ialdX (j := i3) C rfl (nI_clamp (by omega)) (vp_in_nI (by omega) (by first | decide | omega)) dX7_plan_158 ?_
                  refine q_icmp_lt (tgt := 197) C dX7_plan_159 (by decide) (fun c13 => ?_) (fun c13 => ?_)
                  · refine q_aload0 C dX7_plan_197 ?_
                    refine g_X7_113 C dX7_plan_198 ?_
                    refine q_iload4 C dX7_plan_201 ?_
                    refine q_iload5 C dX7_plan_203 ?_
                    refine q_iastX (j := i3) C rfl (nI_clamp (by omega)) (vp_in_nI (by omega) (by first | decide | omega)) dX7_plan_205 ?_
                    refine q_cut (m_X7_plan_3 u1 i2 i3 z3) 206 [some (.ref (a 44)), some (.int u1), some (.int u2), some (.int (nI i2)), some (.int (nI i3)), some (.int (if (nI i3) = 0 then (-9 : Int32) else (if 0 ≤ (gI z3 71 (i3 - 1)) then ((gI z3 71 (i3 - 1)) + (gI z3 68 (24 * (u1).toNatClampNeg + i2))) else (-9 : Int32))))] [] (fun hJ => hJ) ?_
                    refine q_aload0 C dX7_plan_206 ?_
                    refine g_X7_116 C dX7_plan_207 ?_
                    refine q_iload4 C dX7_plan_210 ?_
                    refine q_aload0 C dX7_plan_212 ?_
                    refine g_X7_116 C dX7_plan_213 ?_
                    refine q_iload4 C dX7_plan_216 ?_
                    refine q_iconst (v := 1) C dX7_plan_218 (by decide) ?_
                    refine q_isub C dX7_plan_219 ?_
                    refine q_ialdX (j := (i3 - 1)) C rfl (nI_clampQ (pl_k c11) (by omega)) (vinQ (pl_k c11) (by omega) (by decide)) dX7_plan_220 ?_
                    refine q_iconst (v := 1) C dX7_plan_221 (by decide) ?_
                    refine q_iload3 C dX7_plan_222 ?_
                    refine q_ishl C dX7_plan_223 ?_
                    refine q_ior C dX7_plan_224 ?_
                    refine q_iastX (j := i3) C rfl (nI_clamp (by omega)) (vp_in_nI (by omega) (by first | decide | omega)) dX7_plan_225 ?_
                    refine q_drop [some (.ref (a 44)), some (.int u1), some (.int u2), some (.int (nI i2)), some (.int (nI i3)), none] (by repeat' (first | exact trivial | rfl | constructor)) ?_
                    (try simp only [if_neg c11, if_neg c12, if_pos c13] at hJ); exact hJ
                  · refine q_iload5 C dX7_plan_162 ?_
                    refine q_aload0 C dX7_plan_164 ?_
                    refine g_X7_113 C dX7_plan_165 ?_
                    refine q_iload4 C dX7_plan_168 ?_
                    refine q_ialdX (j := i3) C rfl (nI_clamp (by omega)) (vp_in_nI (by omega) (by first | decide | omega)) dX7_plan_170 ?_
                    refine q_icmp_ne (tgt := 226) C dX7_plan_171 (by decide) (fun c14 => ?_) (fun c14 => ?_)
                    · refine q_drop [some (.ref (a 44)), some (.int u1), some (.int u2), some (.int (nI i2)), some (.int (nI i3)), none] (by repeat' (first | exact trivial | rfl | constructor)) ?_
                      (try simp only [if_neg c11, if_neg c12, if_neg c13, if_neg c14] at hJ); exact hJ
                    · refine q_aload0 C dX7_plan_174 ?_
                      refine g_X7_116 C dX7_plan_175 ?_
                      refine q_iload4 C dX7_plan_178 ?_
                      refine q_iconst (v := 1) C dX7_plan_180 (by decide) ?_
                      refine q_isub C dX7_plan_181 ?_
                      refine q_ialdX (j := (i3 - 1)) C rfl (nI_clampQ (pl_k c11) (by omega)) (vinQ (pl_k c11) (by omega) (by decide)) dX7_plan_182 ?_
                      refine q_iconst (v := 1) C dX7_plan_183 (by decide) ?_
                      refine q_iload3 C dX7_plan_184 ?_
                      refine q_ishl C dX7_plan_185 ?_
                      refine q_ior C dX7_plan_186 ?_
                      refine q_aload0 C dX7_plan_187 ?_
                      refine g_X7_116 C dX7_plan_188 ?_
                      refine q_iload4 C dX7_plan_191 ?_
                      refine q_ialdX (j := i3) C rfl (nI_clamp (by omega)) (vp_in_nI (by omega) (by first | decide | omega)) dX7_plan_193 ?_
                      refine q_icmp_ge (tgt := 226) C dX7_plan_194 (by decide) (fun c15 => ?_) (fun c15 => ?_)
                      · refine q_drop [some (.ref (a 44)), some (.int u1), some (.int u2), some (.int (nI i2)), some (.int (nI i3)), none] (by repeat' (first | exact trivial | rfl | constructor)) ?_
                        (try simp only [if_neg c11, if_neg c12, if_neg c13, if_pos c14, if_pos c15] at hJ); exact hJ
                      · refine q_aload0 C dX7_plan_197 ?_
                        refine g_X7_113 C dX7_plan_198 ?_
                        refine q_iload4 C dX7_plan_201 ?_
                        refine q_iload5 C dX7_plan_203 ?_
                        refine q_iastX (j := i3) C rfl (nI_clamp (by omega)) (vp_in_nI (by omega) (by first | decide | omega)) dX7_plan_205 ?_
                        refine q_cut (m_X7_plan_4 u1 i2 i3 z3) 206 [some (.ref (a 44)), some (.int u1), some (.int u2), some (.int (nI i2)), some (.int (nI i3)), some (.int (if (nI i3) = 0 then (-9 : Int32) else (if 0 ≤ (gI z3 71 (i3 - 1)) then ((gI z3 71 (i3 - 1)) + (gI z3 68 (24 * (u1).toNatClampNeg + i2))) else (-9 : Int32))))] [] (fun hJ => hJ) ?_
                        refine q_aload0 C dX7_plan_206 ?_
                        refine g_X7_116 C dX7_plan_207 ?_
                        refine q_iload4 C dX7_plan_210 ?_
                        refine q_aload0 C dX7_plan_212 ?_
                        refine g_X7_116 C dX7_plan_213 ?_
                        refine q_iload4 C dX7_plan_216 ?_
                        refine q_iconst (v := 1) C dX7_plan_218 (by decide) ?_
                        refine q_isub C dX7_plan_219 ?_
                        refine q_ialdX (j := (i3 - 1)) C rfl (nI_clampQ (pl_k c11) (by omega)) (vinQ (pl_k c11) (by omega) (by decide)) dX7_plan_220 ?_
                        refine q_iconst (v := 1) C dX7_plan_221 (by decide) ?_
                        refine q_iload3 C dX7_plan_222 ?_
                        refine q_ishl C dX7_plan_223 ?_
                        refine q_ior C dX7_plan_224 ?_
                        refine q_iastX (j := i3) C rfl (nI_clamp (by omega)) (vp_in_nI (by omega) (by first | decide | omega)) dX7_plan_225 ?_
                        refine q_drop [some (.ref (a 44)), some (.int u1), some (.int u2), some (.int (nI i2)), some (.int (nI i3)), none] (by repeat' (first | exact trivial | rfl | constructor)) ?_
                        (try simp only [if_neg c11, if_neg c12, if_neg c13, if_pos c14, if_neg c15] at hJ); exact hJ
            refine q_cut (m_X7_plan_5 u1 i2 i3 z3) 226 [some (.ref (a 44)), some (.int u1), some (.int u2), some (.int (nI i2)), some (.int (nI i3)), none] [] (fun hJ => hJ) ?_
            refine q_aload0 C dX7_plan_226 ?_
            refine g_X7_113 C dX7_plan_227 ?_
            refine q_iload4 C dX7_plan_230 ?_
            refine q_iload2 C dX7_plan_232 ?_
            refine q_iload4 C dX7_plan_233 ?_
            refine q_imul C dX7_plan_235 ?_
            refine q_aload0 C dX7_plan_236 ?_
            refine g_X7_107 C dX7_plan_237 ?_
            refine q_iload3 C dX7_plan_240 ?_
            refine q_ialdX (j := i2) C rfl (nI_clamp (by omega)) (vp_in_nI (by omega) (by first | decide | omega)) dX7_plan_241 ?_
            refine q_cut (m_X7_plan_5 u1 i2 i3 z3) 257 [some (.ref (a 44)), some (.int u1), some (.int u2), some (.int (nI i2)), some (.int (nI i3)), none] [.int (if (gI (m_X7_plan_5 u1 i2 i3 z3) 69 i2) ≤ (u2 * (nI i3)) then (gI (m_X7_plan_5 u1 i2 i3 z3) 71 i3) else (-9 : Int32)), .int (nI i3), .ref (a 71)] (fun hJ => ?_) ?_
            · refine q_icmp_ge (tgt := 250) C dX7_plan_242 (by decide) (fun c16 => ?_) (fun c16 => ?_)
              · refine q_aload0 C dX7_plan_250 ?_
                refine g_X7_113 C dX7_plan_251 ?_
                refine q_iload4 C dX7_plan_254 ?_
                refine q_ialdX (j := i3) C rfl (nI_clamp (by omega)) (vp_in_nI (by omega) (by first | decide | omega)) dX7_plan_256 ?_
                (try simp only [if_pos c16] at hJ); exact hJ
              · refine q_bipush (v := -9) C dX7_plan_245 (by decide) ?_
                refine q_goto (tgt := 257) C dX7_plan_247 (by decide) ?_
                (try simp only [if_neg c16] at hJ); exact hJ
            refine q_iastX (j := i3) C rfl (nI_clamp (by omega)) (vp_in_nI (by omega) (by first | decide | omega)) dX7_plan_257 ?_
            refine q_cut (m_X7_plan_6 u1 u2 i2 i3 z3) 258 [some (.ref (a 44)), some (.int u1), some (.int u2), some (.int (nI i2)), some (.int (nI i3)), none] [] (fun hJ => hJ) ?_
            refine q_iinc4 (dv := -1) C dX7_plan_258 (by decide) (by decide) (by intro w h0 h; first | exact absurd rfl h0 | (cases h <;> rfl)) ?_
            refine q_goto (tgt := 85) C dX7_plan_261 (by decide) ?_
            exact ih3
          refine q_cut (l_X7_plan_3 u1 u2 i2 z2) 85 [some (.ref (a 44)), some (.int u1), some (.int u2), some (.int (nI i2)), some (.int (-1 : Int32)), none] [] (fun hJ => hJ) ?_
          refine q_iload4 C dX7_plan_85 ?_
          refine q_if_lt (tgt := 264) C dX7_plan_87 (by decide) (fun c17 => ?_) (fun c17 => absurd (by decide) c17)
          refine q_iinc3 (dv := 1) C dX7_plan_264 (by decide) (by decide) (by intro w h0 h; first | exact absurd rfl h0 | (cases h <;> rfl)) ?_
          refine q_goto (tgt := 74) C dX7_plan_267 (by decide) ?_
          refine q_drop [some (.ref (a 44)), some (.int u1), some (.int u2), some (.int ((nI i2) + 1)), none, none] (by repeat' (first | exact trivial | rfl | constructor)) ?_
          exact ih2
        refine q_cut (l_X7_plan_2 u1 u2 (l_X7_plan_1 M)) 74 [some (.ref (a 44)), some (.int u1), some (.int u2), some (.int (nI 24)), none, none] [] (fun hJ => hJ) ?_
        refine q_iload3 C dX7_plan_74 ?_
        refine q_bipush (v := 24) C dX7_plan_75 (by decide) ?_
        refine q_icmp_ge (tgt := 270) C dX7_plan_77 (by decide) (fun c18 => ?_) (fun c18 => absurd (Int32.le_refl _) c18)
        refine q_bipush (v := -9) C dX7_plan_270 (by decide) ?_
        refine q_istore3 C dX7_plan_272 (by decide) (by intro w h0 h; first | exact absurd rfl h0 | (cases h <;> rfl)) ?_
        refine q_iconst (v := 0) C dX7_plan_273 (by decide) ?_
        refine q_istore4 C dX7_plan_274 (by decide) (by intro w h0 h; first | exact absurd rfl h0 | (cases h <;> rfl)) ?_
        refine q_drop [some (.ref (a 44)), none, none, some (.int (-9 : Int32)), some (.int (0 : Int32)), none] (by repeat' (first | exact trivial | rfl | constructor)) ?_
        refine q_loopI (fun i4 z4 => z4 = -9 ∨ vp_in z4 26) 25 (b_X7_plan_4 M u1 u2) (fun zz => (l_X7_plan_2 u1 u2 (l_X7_plan_1 M))) (fun xx zz => [some (.ref (a 44)), none, none, some (.int zz), some (.int xx), none]) (-9 : Int32) (Or.inl rfl) pl_inv (fun i4 z4 hi4 hv4 ih4 => ?_) (fun hv4 => ?_)
        · refine q_iload4 C dX7_plan_276 ?_
          refine q_bipush (v := 24) C dX7_plan_278 (by decide) ?_
          refine q_icmp_gt (tgt := 326) C dX7_plan_280 (by decide) (fun c19 => absurd c19 (nI_nlt (a := 24) (by omega) (by decide))) (fun c19 => ?_)
          refine q_aload0 C dX7_plan_283 ?_
          refine g_X7_113 C dX7_plan_284 ?_
          refine q_iload4 C dX7_plan_287 ?_
          refine q_ialdX (j := i4) C rfl (nI_clamp (by omega)) (vp_in_nI (by omega) (by first | decide | omega)) dX7_plan_289 ?_
          refine q_cut (l_X7_plan_2 u1 u2 (l_X7_plan_1 M)) 319 [some (.ref (a 44)), none, none, none, some (.int (nI i4)), none] [.int (if (gI (l_X7_plan_2 u1 u2 (l_X7_plan_1 M)) 71 i4) < 0 then z4 else (if z4 < 0 then (nI i4) else (if (gI (l_X7_plan_2 u1 u2 (l_X7_plan_1 M)) 71 (z4).toNatClampNeg) ≤ (gI (l_X7_plan_2 u1 u2 (l_X7_plan_1 M)) 71 i4) then z4 else (nI i4))))] (fun hJ => ?_) ?_
          · refine q_if_lt (tgt := 318) C dX7_plan_290 (by decide) (fun c20 => ?_) (fun c20 => ?_)
            · refine q_iload3 C dX7_plan_318 ?_
              refine q_drop [some (.ref (a 44)), none, none, none, some (.int (nI i4)), none] (by repeat' (first | exact trivial | rfl | constructor)) ?_
              (try simp only [if_pos c20] at hJ); exact hJ
            · refine q_iload3 C dX7_plan_293 ?_
              refine q_if_lt (tgt := 313) C dX7_plan_294 (by decide) (fun c21 => ?_) (fun c21 => ?_)
              · refine q_iload4 C dX7_plan_313 ?_
                refine q_goto (tgt := 319) C dX7_plan_315 (by decide) ?_
                refine q_drop [some (.ref (a 44)), none, none, none, some (.int (nI i4)), none] (by repeat' (first | exact trivial | rfl | constructor)) ?_
                (try simp only [if_neg c20, if_pos c21] at hJ); exact hJ
              · refine q_aload0 C dX7_plan_297 ?_
                refine g_X7_113 C dX7_plan_298 ?_
                refine q_iload4 C dX7_plan_301 ?_
                refine q_ialdX (j := i4) C rfl (nI_clamp (by omega)) (vp_in_nI (by omega) (by first | decide | omega)) dX7_plan_303 ?_
                refine q_aload0 C dX7_plan_304 ?_
                refine g_X7_113 C dX7_plan_305 ?_
                refine q_iload3 C dX7_plan_308 ?_
                refine q_ialdX (j := (z4).toNatClampNeg) C rfl rfl (pb_in hv4 (by assumption)) dX7_plan_309 ?_
                refine q_icmp_ge (tgt := 318) C dX7_plan_310 (by decide) (fun c22 => ?_) (fun c22 => ?_)
                · refine q_iload3 C dX7_plan_318 ?_
                  refine q_drop [some (.ref (a 44)), none, none, none, some (.int (nI i4)), none] (by repeat' (first | exact trivial | rfl | constructor)) ?_
                  (try simp only [if_neg c20, if_neg c21, if_pos c22] at hJ); exact hJ
                · refine q_iload4 C dX7_plan_313 ?_
                  refine q_goto (tgt := 319) C dX7_plan_315 (by decide) ?_
                  refine q_drop [some (.ref (a 44)), none, none, none, some (.int (nI i4)), none] (by repeat' (first | exact trivial | rfl | constructor)) ?_
                  (try simp only [if_neg c20, if_neg c21, if_neg c22] at hJ); exact hJ
          refine q_istore3 C dX7_plan_319 (by decide) (by intro w h0 h; first | exact absurd rfl h0 | (cases h <;> rfl)) ?_
          refine q_iinc4 (dv := 1) C dX7_plan_320 (by decide) (by decide) (by intro w h0 h; first | exact absurd rfl h0 | (cases h <;> rfl)) ?_
          refine q_goto (tgt := 276) C dX7_plan_323 (by decide) ?_
          exact ih4
        refine q_cut (l_X7_plan_2 u1 u2 (l_X7_plan_1 M)) 276 [some (.ref (a 44)), none, none, some (.int (l_X7_plan_4 M u1 u2 (-9 : Int32))), some (.int (nI 25)), none] [] (fun hJ => hJ) ?_
        refine q_iload4 C dX7_plan_276 ?_
        refine q_bipush (v := 24) C dX7_plan_278 (by decide) ?_
        refine q_icmp_gt (tgt := 326) C dX7_plan_280 (by decide) (fun c23 => ?_) (fun c23 => absurd (by decide) c23)
        refine q_iload3 C dX7_plan_326 ?_
        refine q_cut (if 0 ≤ (l_X7_plan_4 M u1 u2 (-9 : Int32)) then (f_X7_tell (l_X7_plan_2 u1 u2 (l_X7_plan_1 M)) ((gI (l_X7_plan_2 u1 u2 (l_X7_plan_1 M)) 71 ((l_X7_plan_4 M u1 u2 (-9 : Int32))).toNatClampNeg)).toInt64 (gI (l_X7_plan_2 u1 u2 (l_X7_plan_1 M)) 72 ((l_X7_plan_4 M u1 u2 (-9 : Int32))).toNatClampNeg)).2 else (l_X7_plan_2 u1 u2 (l_X7_plan_1 M))) 352 [none, none, none, none, none, none] [.int (if 0 ≤ (l_X7_plan_4 M u1 u2 (-9 : Int32)) then (f_X7_tell (l_X7_plan_2 u1 u2 (l_X7_plan_1 M)) ((gI (l_X7_plan_2 u1 u2 (l_X7_plan_1 M)) 71 ((l_X7_plan_4 M u1 u2 (-9 : Int32))).toNatClampNeg)).toInt64 (gI (l_X7_plan_2 u1 u2 (l_X7_plan_1 M)) 72 ((l_X7_plan_4 M u1 u2 (-9 : Int32))).toNatClampNeg)).1 else (-9 : Int32))] (fun hJ => ?_) ?_
        · refine q_if_ge (tgt := 335) C dX7_plan_327 (by decide) (fun c24 => ?_) (fun c24 => ?_)
          · refine q_aload0 C dX7_plan_335 ?_
            refine q_aload0 C dX7_plan_336 ?_
            refine g_X7_113 C dX7_plan_337 ?_
            refine q_iload3 C dX7_plan_340 ?_
            refine q_ialdX (j := ((l_X7_plan_4 M u1 u2 (-9 : Int32))).toNatClampNeg) C rfl rfl (pb_in2 hv4 (by assumption)) dX7_plan_341 ?_
            refine q_i2l C dX7_plan_342 ?_
            refine q_aload0 C dX7_plan_343 ?_
            refine g_X7_116 C dX7_plan_344 ?_
            refine q_iload3 C dX7_plan_347 ?_
            refine q_ialdX (j := ((l_X7_plan_4 M u1 u2 (-9 : Int32))).toNatClampNeg) C rfl rfl (pb_in2 hv4 (by assumption)) dX7_plan_348 ?_
            refine qc_VI C (c_X7_tell _ _ _) cw_X7_200 rfl rfl rfl rfl (Nat.le_of_ble_eq_true rfl) ⟨(Nat.le_of_ble_eq_true rfl), (Nat.le_of_ble_eq_true rfl)⟩ ⟨Nat.zero_le _, Nat.zero_le _⟩ dX7_plan_349 ?_
            refine q_drop [none, none, none, none, none, none] (by repeat' (first | exact trivial | rfl | constructor)) ?_
            (try simp only [if_pos c24] at hJ); exact hJ
          · refine q_bipush (v := -9) C dX7_plan_330 (by decide) ?_
            refine q_goto (tgt := 352) C dX7_plan_332 (by decide) ?_
            refine q_drop [none, none, none, none, none, none] (by repeat' (first | exact trivial | rfl | constructor)) ?_
            (try simp only [if_neg c24] at hJ); exact hJ
        exact q_iret C (by first | rfl | (rw [f_X7_plan, if_neg c1, if_neg c2, if_neg c3]; done) | (rw [f_X7_plan, if_neg c1, if_neg c2, if_neg c3]; rfl) | (simp only [f_X7_plan, if_neg c1, if_neg c2, if_neg c3]; done)) (by first | rfl | (rw [f_X7_plan, if_neg c1, if_neg c2, if_neg c3]; done) | (rw [f_X7_plan, if_neg c1, if_neg c2, if_neg c3]; rfl) | (simp only [f_X7_plan, if_neg c1, if_neg c2, if_neg c3]; done)) dX7_plan_352
      · refine q_aload0 C dX7_plan_29 ?_
        refine q_iconst (v := 1) C dX7_plan_30 (by decide) ?_
        refine qc_VI C (c_X7_meets _ _ (by first | assumption | exact vp_in_nI (by omega) (by decide) | omega | (unfold vp_in; decide) | decide)) cw_X7_151 rfl rfl rfl rfl (Nat.le_of_ble_eq_true rfl) ⟨(Nat.le_of_ble_eq_true rfl), (Nat.le_of_ble_eq_true rfl)⟩ ⟨Nat.zero_le _, Nat.zero_le _⟩ dX7_plan_31 ?_
        exact q_iret C (by first | rfl | (rw [f_X7_plan, if_neg c1, if_neg c2, if_pos c3]; done) | (rw [f_X7_plan, if_neg c1, if_neg c2, if_pos c3]; rfl) | (simp only [f_X7_plan, if_neg c1, if_neg c2, if_pos c3]; done)) (by first | rfl | (rw [f_X7_plan, if_neg c1, if_neg c2, if_pos c3]; done) | (rw [f_X7_plan, if_neg c1, if_neg c2, if_pos c3]; rfl) | (simp only [f_X7_plan, if_neg c1, if_neg c2, if_pos c3]; done)) dX7_plan_34
    · refine q_iconst (v := -1) C dX7_plan_18 (by decide) ?_
      exact q_iret C (by first | rfl | (rw [f_X7_plan, if_neg c1, if_pos c2]; done) | (rw [f_X7_plan, if_neg c1, if_pos c2]; rfl) | (simp only [f_X7_plan, if_neg c1, if_pos c2]; done)) (by first | rfl | (rw [f_X7_plan, if_neg c1, if_pos c2]; done) | (rw [f_X7_plan, if_neg c1, if_pos c2]; rfl) | (simp only [f_X7_plan, if_neg c1, if_pos c2]; done)) dX7_plan_19
