def m_X7_bag_1 (u1 : Int32) (i1 : Nat) (z1 : Int32 × Mm) : Mm := (if (gI z1.2 62 i1) = u1 then (if (gI z1.2 64 i1) ≤ 0 then z1.2 else (sI (sI (sI (sI z1.2 64 i1 ((gI z1.2 64 i1) - (if z1.1 ≤ (gI z1.2 64 i1) then z1.1 else (gI z1.2 64 i1)))) 65 ((gI (sI z1.2 64 i1 ((gI z1.2 64 i1) - (if z1.1 ≤ (gI z1.2 64 i1) then z1.1 else (gI z1.2 64 i1)))) 44 35)).toNatClampNeg (gI (sI z1.2 64 i1 ((gI z1.2 64 i1) - (if z1.1 ≤ (gI z1.2 64 i1) then z1.1 else (gI z1.2 64 i1)))) 63 i1)) 66 ((gI (sI (sI z1.2 64 i1 ((gI z1.2 64 i1) - (if z1.1 ≤ (gI z1.2 64 i1) then z1.1 else (gI z1.2 64 i1)))) 65 ((gI (sI z1.2 64 i1 ((gI z1.2 64 i1) - (if z1.1 ≤ (gI z1.2 64 i1) then z1.1 else (gI z1.2 64 i1)))) 44 35)).toNatClampNeg (gI (sI z1.2 64 i1 ((gI z1.2 64 i1) - (if z1.1 ≤ (gI z1.2 64 i1) then z1.1 else (gI z1.2 64 i1)))) 63 i1)) 44 35)).toNatClampNeg (if z1.1 ≤ (gI z1.2 64 i1) then z1.1 else (gI z1.2 64 i1))) 44 35 ((gI (sI (sI (sI z1.2 64 i1 ((gI z1.2 64 i1) - (if z1.1 ≤ (gI z1.2 64 i1) then z1.1 else (gI z1.2 64 i1)))) 65 ((gI (sI z1.2 64 i1 ((gI z1.2 64 i1) - (if z1.1 ≤ (gI z1.2 64 i1) then z1.1 else (gI z1.2 64 i1)))) 44 35)).toNatClampNeg (gI (sI z1.2 64 i1 ((gI z1.2 64 i1) - (if z1.1 ≤ (gI z1.2 64 i1) then z1.1 else (gI z1.2 64 i1)))) 63 i1)) 66 ((gI (sI (sI z1.2 64 i1 ((gI z1.2 64 i1) - (if z1.1 ≤ (gI z1.2 64 i1) then z1.1 else (gI z1.2 64 i1)))) 65 ((gI (sI z1.2 64 i1 ((gI z1.2 64 i1) - (if z1.1 ≤ (gI z1.2 64 i1) then z1.1 else (gI z1.2 64 i1)))) 44 35)).toNatClampNeg (gI (sI z1.2 64 i1 ((gI z1.2 64 i1) - (if z1.1 ≤ (gI z1.2 64 i1) then z1.1 else (gI z1.2 64 i1)))) 63 i1)) 44 35)).toNatClampNeg (if z1.1 ≤ (gI z1.2 64 i1) then z1.1 else (gI z1.2 64 i1))) 44 35) + (1 : Int32)))) else z1.2)
def b_X7_bag_1 (u1 : Int32) (i1 : Nat) (z1 : Int32 × Mm) : Int32 × Mm := if z1.1 ≤ 0 then z1 else ((if (gI z1.2 62 i1) = u1 then (if (gI z1.2 64 i1) ≤ 0 then z1.1 else (z1.1 - (if z1.1 ≤ (gI z1.2 64 i1) then z1.1 else (gI z1.2 64 i1)))) else z1.1), (m_X7_bag_1 u1 i1 z1))
def l_X7_bag_1 (u1 : Int32) (z1 : Int32 × Mm) : Int32 × Mm := itr (b_X7_bag_1 u1) 500 z1
def f_X7_bag (M : Mm) (u1 : Int32) (u2 : Int32) : Int32 × Mm := (if (f_X7_in u1 (0 : Int32) (2 : Int32)) = 0 then ((-1 : Int32), M) else (if (f_X7_in u2 (1 : Int32) (10000 : Int32)) = 0 then ((-1 : Int32), M) else (if u2 ≤ (f_X7_inSilo M u1 (0 : Int32)) then ((gI (l_X7_bag_1 u1 (u2, (sI M 44 35 (0 : Int32)))).2 44 35), (l_X7_bag_1 u1 (u2, (sI M 44 35 (0 : Int32)))).2) else ((-4 : Int32), M))))
theorem bg_inv {u1 : Int32} (i : Nat) (z : Int32 × Mm) (hi : i < 500) (h : ∃ b, b ≤ i ∧ gI z.2 44 35 = nI b) : ∃ b, b ≤ i + 1 ∧ gI (b_X7_bag_1 u1 i z).2 44 35 = nI b := by
  obtain ⟨b, hb, e⟩ := h
  by_cases h1 : z.1 ≤ 0
  · exact ⟨b, by omega, by rw [b_X7_bag_1, if_pos h1]; exact e⟩
  · by_cases h2 : gI z.2 62 i = u1
    · by_cases h3 : gI z.2 64 i ≤ 0
      · exact ⟨b, by omega, by rw [b_X7_bag_1, if_neg h1]; simp only [m_X7_bag_1, if_pos h2, if_pos h3]; exact e⟩
      · refine ⟨b + 1, by omega, ?_⟩
        rw [b_X7_bag_1, if_neg h1]
        simp only [m_X7_bag_1, if_pos h2, if_neg h3]
        rw [gI_sI, if_pos ⟨rfl, rfl⟩, gI_ne (by decide), gI_ne (by decide), gI_ne (by decide), e, nI_succ]
    · exact ⟨b, by omega, by rw [b_X7_bag_1, if_neg h1]; simp only [m_X7_bag_1, if_neg h2]; exact e⟩
set_option maxHeartbeats 4000000 in
set_option maxRecDepth 100000 in
theorem c_X7_bag (M : Mm) (u1 : Int32) (u2 : Int32) (h0 : 0 ≤ gI M 44 31) (hb : (gI M 44 31).toNatClampNeg ≤ 500) (hx : ¬ f_X7_in u1 (0 : Int32) (2 : Int32) = 0 → u2 ≤ f_X7_inSilo M u1 (0 : Int32) → (itr (b_X7_bag_1 u1) 500 (u2, (sI M 44 35 (0 : Int32)))).1 ≤ 0) : MI yX7_bag cX7_bag 6 (some .int) 1 24 (fun a => [.ref (a 44), .int u1, .int u2]) M (f_X7_bag M u1 u2).1 (f_X7_bag M u1 u2).2 := by
  refine MI.intro (lv0 := fun a => [some (.ref (a 44)), some (.int u1), some (.int u2), none, none, none]) (by decide) (fun a => ⟨(Nat.le_of_ble_eq_true rfl), rfl⟩) ?_
  intro p9 l9 e9 s9 m9 g9 b9 h9 c9 D9 A9 ct a C
  have C : Cx p9 s9 m9 g9 h9 c9 cX7_bag 6 RX7 (some .int) D9 A9 ct a := C
  refine q_iload1 C dX7_bag_0 ?_
  refine q_iconst (v := 0) C dX7_bag_1 (by decide) ?_
  refine q_iconst (v := 2) C dX7_bag_2 (by decide) ?_
  refine qc_SI C (c_X7_in _ _ _ _) cw_X7_125 rfl rfl (Nat.le_of_ble_eq_true rfl) ⟨(Nat.le_of_ble_eq_true rfl), (Nat.le_of_ble_eq_true rfl)⟩ ⟨Nat.zero_le _, Nat.zero_le _⟩ dX7_bag_3 ?_
  refine q_if_eq (tgt := 20) C dX7_bag_6 (by decide) (fun c1 => ?_) (fun c1 => ?_)
  · refine q_iconst (v := -1) C dX7_bag_20 (by decide) ?_
    exact q_iret C (by first | rfl | (rw [f_X7_bag, if_pos c1]; done) | (rw [f_X7_bag, if_pos c1]; rfl) | (simp only [f_X7_bag, if_pos c1]; done)) (by first | rfl | (rw [f_X7_bag, if_pos c1]; done) | (rw [f_X7_bag, if_pos c1]; rfl) | (simp only [f_X7_bag, if_pos c1]; done)) dX7_bag_21
  · refine q_iload2 C dX7_bag_9 ?_
    refine q_iconst (v := 1) C dX7_bag_10 (by decide) ?_
    refine q_sipush (v := 10000) C dX7_bag_11 (by decide) ?_
    refine qc_SI C (c_X7_in _ _ _ _) cw_X7_125 rfl rfl (Nat.le_of_ble_eq_true rfl) ⟨(Nat.le_of_ble_eq_true rfl), (Nat.le_of_ble_eq_true rfl)⟩ ⟨Nat.zero_le _, Nat.zero_le _⟩ dX7_bag_14 ?_
    refine q_if_ne (tgt := 22) C dX7_bag_17 (by decide) (fun c2 => ?_) (fun c2 => ?_)
    · refine q_aload0 C dX7_bag_22 ?_
      refine q_iload1 C dX7_bag_23 ?_
      refine q_iconst (v := 0) C dX7_bag_24 (by decide) ?_
      refine qc_VI C (c_X7_inSilo _ _ _ (by first | assumption | exact vp_in_nI (by omega) (by decide) | omega | (unfold vp_in; decide) | decide) (by first | assumption | exact vp_in_nI (by omega) (by decide) | omega | (unfold vp_in; decide) | decide)) cw_X7_207 rfl rfl rfl rfl (Nat.le_of_ble_eq_true rfl) ⟨(Nat.le_of_ble_eq_true rfl), (Nat.le_of_ble_eq_true rfl)⟩ ⟨Nat.zero_le _, Nat.zero_le _⟩ dX7_bag_25 ?_
      refine q_iload2 C dX7_bag_28 ?_
      refine q_icmp_ge (tgt := 35) C dX7_bag_29 (by decide) (fun c3 => ?_) (fun c3 => ?_)
      · refine q_aload0 C dX7_bag_35 ?_
        refine q_iconst (v := 0) C dX7_bag_36 (by decide) ?_
        refine p_X7_211 C  dX7_bag_37 ?_
        refine q_iload2 C dX7_bag_40 ?_
        refine q_istore3 C dX7_bag_41 (by decide) (by intro w h0 h; first | exact absurd rfl h0 | (cases h <;> rfl)) ?_
        refine q_iconst (v := 0) C dX7_bag_42 (by decide) ?_
        refine q_istore4 C dX7_bag_43 (by decide) (by intro w h0 h; first | exact absurd rfl h0 | (cases h <;> rfl)) ?_
        refine q_drop [some (.ref (a 44)), some (.int u1), none, some (.int u2), some (.int (0 : Int32)), none] (by repeat' (first | exact trivial | rfl | constructor)) ?_
        refine q_loopW (fun i1 z1 => ∃ b, b ≤ i1 ∧ gI z1.2 44 35 = nI b) 500 (b_X7_bag_1 u1) (fun zz => zz.2) (fun xx zz => [some (.ref (a 44)), some (.int u1), none, some (.int zz.1), some (.int xx), none]) (u2, (sI M 44 35 (0 : Int32))) ⟨0, Nat.le_refl 0, rfl⟩ bg_inv 154 (fun z1 => z1.1 ≤ 0) (fun i z h => by simp only [b_X7_bag_1, if_pos h]) (hx (by assumption) (by assumption)) (fun z1 hE1 hF x9 => ?_) (fun i1 z1 hi1 hv1 hE1 ih1 => ?_) (fun x9 => ?_) (fun z => Classical.em _)
        · refine q_iload3 C dX7_bag_45 ?_
          refine q_if_le (tgt := 154) C dX7_bag_46 (by decide) (fun c0 => hF x9) (fun c0 => absurd hE1 c0)
        · refine q_iload3 C dX7_bag_45 ?_
          refine q_if_le (tgt := 154) C dX7_bag_46 (by decide) (fun c4 => absurd c4 hE1) (fun c4 => ?_)
          refine q_aload0 C dX7_bag_49 ?_
          refine g_X7_86 C dX7_bag_50 ?_
          refine q_iload4 C dX7_bag_53 ?_
          refine q_ialdX (j := i1) C rfl (nI_clamp (by omega)) (vp_in_nI (by omega) (by first | decide | omega)) dX7_bag_55 ?_
          refine q_iload1 C dX7_bag_56 ?_
          refine q_cut (if (gI z1.2 62 i1) = u1 then (if (gI z1.2 64 i1) ≤ 0 then z1.2 else (sI (sI (sI (sI z1.2 64 i1 ((gI z1.2 64 i1) - (if z1.1 ≤ (gI z1.2 64 i1) then z1.1 else (gI z1.2 64 i1)))) 65 ((gI (sI z1.2 64 i1 ((gI z1.2 64 i1) - (if z1.1 ≤ (gI z1.2 64 i1) then z1.1 else (gI z1.2 64 i1)))) 44 35)).toNatClampNeg (gI (sI z1.2 64 i1 ((gI z1.2 64 i1) - (if z1.1 ≤ (gI z1.2 64 i1) then z1.1 else (gI z1.2 64 i1)))) 63 i1)) 66 ((gI (sI (sI z1.2 64 i1 ((gI z1.2 64 i1) - (if z1.1 ≤ (gI z1.2 64 i1) then z1.1 else (gI z1.2 64 i1)))) 65 ((gI (sI z1.2 64 i1 ((gI z1.2 64 i1) - (if z1.1 ≤ (gI z1.2 64 i1) then z1.1 else (gI z1.2 64 i1)))) 44 35)).toNatClampNeg (gI (sI z1.2 64 i1 ((gI z1.2 64 i1) - (if z1.1 ≤ (gI z1.2 64 i1) then z1.1 else (gI z1.2 64 i1)))) 63 i1)) 44 35)).toNatClampNeg (if z1.1 ≤ (gI z1.2 64 i1) then z1.1 else (gI z1.2 64 i1))) 44 35 ((gI (sI (sI (sI z1.2 64 i1 ((gI z1.2 64 i1) - (if z1.1 ≤ (gI z1.2 64 i1) then z1.1 else (gI z1.2 64 i1)))) 65 ((gI (sI z1.2 64 i1 ((gI z1.2 64 i1) - (if z1.1 ≤ (gI z1.2 64 i1) then z1.1 else (gI z1.2 64 i1)))) 44 35)).toNatClampNeg (gI (sI z1.2 64 i1 ((gI z1.2 64 i1) - (if z1.1 ≤ (gI z1.2 64 i1) then z1.1 else (gI z1.2 64 i1)))) 63 i1)) 66 ((gI (sI (sI z1.2 64 i1 ((gI z1.2 64 i1) - (if z1.1 ≤ (gI z1.2 64 i1) then z1.1 else (gI z1.2 64 i1)))) 65 ((gI (sI z1.2 64 i1 ((gI z1.2 64 i1) - (if z1.1 ≤ (gI z1.2 64 i1) then z1.1 else (gI z1.2 64 i1)))) 44 35)).toNatClampNeg (gI (sI z1.2 64 i1 ((gI z1.2 64 i1) - (if z1.1 ≤ (gI z1.2 64 i1) then z1.1 else (gI z1.2 64 i1)))) 63 i1)) 44 35)).toNatClampNeg (if z1.1 ≤ (gI z1.2 64 i1) then z1.1 else (gI z1.2 64 i1))) 44 35) + (1 : Int32)))) else z1.2) 148 [some (.ref (a 44)), some (.int u1), none, some (.int (if (gI z1.2 62 i1) = u1 then (if (gI z1.2 64 i1) ≤ 0 then z1.1 else (z1.1 - (if z1.1 ≤ (gI z1.2 64 i1) then z1.1 else (gI z1.2 64 i1)))) else z1.1)), some (.int (nI i1)), none] [] (fun hJ => ?_) ?_
          · refine q_icmp_ne (tgt := 148) C dX7_bag_57 (by decide) (fun c5 => ?_) (fun c5 => ?_)
            · (try simp only [if_neg c5] at hJ); exact hJ
            · refine q_aload0 C dX7_bag_60 ?_
              refine g_X7_92 C dX7_bag_61 ?_
              refine q_iload4 C dX7_bag_64 ?_
              refine q_ialdX (j := i1) C rfl (nI_clamp (by omega)) (vp_in_nI (by omega) (by first | decide | omega)) dX7_bag_66 ?_
              refine q_if_le (tgt := 148) C dX7_bag_67 (by decide) (fun c6 => ?_) (fun c6 => ?_)
              · (try simp only [if_pos c5, if_pos c6] at hJ); exact hJ
              · refine q_aload0 C dX7_bag_70 ?_
                refine g_X7_92 C dX7_bag_71 ?_
                refine q_iload4 C dX7_bag_74 ?_
                refine q_ialdX (j := i1) C rfl (nI_clamp (by omega)) (vp_in_nI (by omega) (by first | decide | omega)) dX7_bag_76 ?_
                refine q_iload3 C dX7_bag_77 ?_
                refine q_cut z1.2 92 [some (.ref (a 44)), some (.int u1), none, some (.int z1.1), some (.int (nI i1)), none] [.int (if z1.1 ≤ (gI z1.2 64 i1) then z1.1 else (gI z1.2 64 i1))] (fun hJ => ?_) ?_
                · refine q_icmp_ge (tgt := 91) C dX7_bag_78 (by decide) (fun c7 => ?_) (fun c7 => ?_)
                  · refine q_iload3 C dX7_bag_91 ?_
                    (try simp only [if_pos c7] at hJ); exact hJ
                  · refine q_aload0 C dX7_bag_81 ?_
                    refine g_X7_92 C dX7_bag_82 ?_
                    refine q_iload4 C dX7_bag_85 ?_
                    refine q_ialdX (j := i1) C rfl (nI_clamp (by omega)) (vp_in_nI (by omega) (by first | decide | omega)) dX7_bag_87 ?_
                    refine q_goto (tgt := 92) C dX7_bag_88 (by decide) ?_
                    (try simp only [if_neg c7] at hJ); exact hJ
                refine q_istore5 C dX7_bag_92 (by decide) (by intro w h0 h; first | exact absurd rfl h0 | (cases h <;> rfl)) ?_
                refine q_aload0 C dX7_bag_94 ?_
                refine g_X7_92 C dX7_bag_95 ?_
                refine q_iload4 C dX7_bag_98 ?_
                refine q_dup2 C dX7_bag_100 rfl rfl ?_
                refine q_ialdX (j := i1) C rfl (nI_clamp (by omega)) (vp_in_nI (by omega) (by first | decide | omega)) dX7_bag_101 ?_
                refine q_iload5 C dX7_bag_102 ?_
                refine q_isub C dX7_bag_104 ?_
                refine q_iastX (j := i1) C rfl (nI_clamp (by omega)) (vp_in_nI (by omega) (by first | decide | omega)) dX7_bag_105 ?_
                refine q_iload3 C dX7_bag_106 ?_
                refine q_iload5 C dX7_bag_107 ?_
                refine q_isub C dX7_bag_109 ?_
                refine q_istore3 C dX7_bag_110 (by decide) (by intro w h0 h; first | exact absurd rfl h0 | (cases h <;> rfl)) ?_
                refine q_aload0 C dX7_bag_111 ?_
                refine g_X7_95 C dX7_bag_112 ?_
                refine q_aload0 C dX7_bag_115 ?_
                refine g_X7_211 C dX7_bag_116 ?_
                refine q_aload0 C dX7_bag_119 ?_
                refine g_X7_89 C dX7_bag_120 ?_
                refine q_iload4 C dX7_bag_123 ?_
                refine q_ialdX (j := i1) C rfl (nI_clamp (by omega)) (vp_in_nI (by omega) (by first | decide | omega)) dX7_bag_125 ?_
                refine q_iastX (j := ((gI (sI z1.2 64 i1 ((gI z1.2 64 i1) - (if z1.1 ≤ (gI z1.2 64 i1) then z1.1 else (gI z1.2 64 i1)))) 44 35)).toNatClampNeg) C rfl rfl (by rw [gI_ne (by decide)]; exact bg_in hv1 hi1) dX7_bag_126 ?_
                refine q_aload0 C dX7_bag_127 ?_
                refine g_X7_98 C dX7_bag_128 ?_
                refine q_aload0 C dX7_bag_131 ?_
                refine g_X7_211 C dX7_bag_132 ?_
                refine q_iload5 C dX7_bag_135 ?_
                refine q_iastX (j := ((gI (sI (sI z1.2 64 i1 ((gI z1.2 64 i1) - (if z1.1 ≤ (gI z1.2 64 i1) then z1.1 else (gI z1.2 64 i1)))) 65 ((gI (sI z1.2 64 i1 ((gI z1.2 64 i1) - (if z1.1 ≤ (gI z1.2 64 i1) then z1.1 else (gI z1.2 64 i1)))) 44 35)).toNatClampNeg (gI (sI z1.2 64 i1 ((gI z1.2 64 i1) - (if z1.1 ≤ (gI z1.2 64 i1) then z1.1 else (gI z1.2 64 i1)))) 63 i1)) 44 35)).toNatClampNeg) C rfl rfl (by rw [gI_ne (by decide), gI_ne (by decide)]; exact bg_in hv1 hi1) dX7_bag_137 ?_
                refine q_aload0 C dX7_bag_138 ?_
                refine q_dup C dX7_bag_139 rfl ?_
                refine g_X7_211 C dX7_bag_140 ?_
                refine q_iconst (v := 1) C dX7_bag_143 (by decide) ?_
                refine q_iadd C dX7_bag_144 ?_
                refine p_X7_211 C  dX7_bag_145 ?_
                refine q_drop [some (.ref (a 44)), some (.int u1), none, some (.int (z1.1 - (if z1.1 ≤ (gI z1.2 64 i1) then z1.1 else (gI z1.2 64 i1)))), some (.int (nI i1)), none] (by repeat' (first | exact trivial | rfl | constructor)) ?_
                (try simp only [if_pos c5, if_neg c6] at hJ); exact hJ
          refine q_cut (m_X7_bag_1 u1 i1 z1) 148 [some (.ref (a 44)), some (.int u1), none, some (.int (if (gI z1.2 62 i1) = u1 then (if (gI z1.2 64 i1) ≤ 0 then z1.1 else (z1.1 - (if z1.1 ≤ (gI z1.2 64 i1) then z1.1 else (gI z1.2 64 i1)))) else z1.1)), some (.int (nI i1)), none] [] (fun hJ => hJ) ?_
          refine q_iinc4 (dv := 1) C dX7_bag_148 (by decide) (by decide) (by intro w h0 h; first | exact absurd rfl h0 | (cases h <;> rfl)) ?_
          refine q_goto (tgt := 45) C dX7_bag_151 (by decide) ?_
          (simp only [b_X7_bag_1, if_neg hE1] at ih1); exact ih1
        refine q_cut (l_X7_bag_1 u1 (u2, (sI M 44 35 (0 : Int32)))).2 154 [some (.ref (a 44)), some (.int u1), none, some (.int (l_X7_bag_1 u1 (u2, (sI M 44 35 (0 : Int32)))).1), some (.int x9), none] [] (fun hJ => hJ) ?_
        refine q_aload0 C dX7_bag_154 ?_
        refine g_X7_211 C dX7_bag_155 ?_
        exact q_iret C (by first | rfl | (rw [f_X7_bag, if_neg c1, if_neg c2, if_pos c3]; done) | (rw [f_X7_bag, if_neg c1, if_neg c2, if_pos c3]; rfl) | (simp only [f_X7_bag, if_neg c1, if_neg c2, if_pos c3]; done)) (by first | rfl | (rw [f_X7_bag, if_neg c1, if_neg c2, if_pos c3]; done) | (rw [f_X7_bag, if_neg c1, if_neg c2, if_pos c3]; rfl) | (simp only [f_X7_bag, if_neg c1, if_neg c2, if_pos c3]; done)) dX7_bag_158
      · refine q_bipush (v := -4) C dX7_bag_32 (by decide) ?_
        exact q_iret C (by first | rfl | (rw [f_X7_bag, if_neg c1, if_neg c2, if_neg c3]; done) | (rw [f_X7_bag, if_neg c1, if_neg c2, if_neg c3]; rfl) | (simp only [f_X7_bag, if_neg c1, if_neg c2, if_neg c3]; done)) (by first | rfl | (rw [f_X7_bag, if_neg c1, if_neg c2, if_neg c3]; done) | (rw [f_X7_bag, if_neg c1, if_neg c2, if_neg c3]; rfl) | (simp only [f_X7_bag, if_neg c1, if_neg c2, if_neg c3]; done)) dX7_bag_34
    · refine q_iconst (v := -1) C dX7_bag_20 (by decide) ?_
      exact q_iret C (by first | rfl | (rw [f_X7_bag, if_neg c1, if_pos c2]; done) | (rw [f_X7_bag, if_neg c1, if_pos c2]; rfl) | (simp only [f_X7_bag, if_neg c1, if_pos c2]; done)) (by first | rfl | (rw [f_X7_bag, if_neg c1, if_pos c2]; done) | (rw [f_X7_bag, if_neg c1, if_pos c2]; rfl) | (simp only [f_X7_bag, if_neg c1, if_pos c2]; done)) dX7_bag_21
def b_X7_copy_1 (u1 : Int32) (u2 : Int32) (i1 : Nat) (z1 : Mm) : Mm := (sI z1 70 i1 (gI z1 68 (24 * (u1).toNatClampNeg + ((u2).toNatClampNeg + i1))))
def b_X7_copy_2 (u3 : Int32) (u4 : Int32) (i2 : Nat) (z2 : Mm) : Mm := (sI z2 68 (24 * (u3).toNatClampNeg + ((u4).toNatClampNeg + i2)) (gI z2 70 i2))
def f_X7_copy (M : Mm) (u1 : Int32) (u2 : Int32) (u3 : Int32) (u4 : Int32) (u5 : Int32) : Int32 × Mm := (if (f_X7_isADay u1) = 0 then ((-1 : Int32), M) else (if (f_X7_isADay u3) = 0 then ((-1 : Int32), M) else (if 0 ≤ u5 then (if (gI M 67 (u1).toNatClampNeg) = 0 then ((f_X7_meets M (1 : Int32)).1, (f_X7_meets M (1 : Int32)).2) else (if (gI M 67 (u3).toNatClampNeg) = 0 then ((f_X7_meets M (1 : Int32)).1, (f_X7_meets M (1 : Int32)).2) else (if u2 < 0 then ((f_X7_meets M (2 : Int32)).1, (f_X7_meets M (2 : Int32)).2) else (if u4 < 0 then ((f_X7_meets M (2 : Int32)).1, (f_X7_meets M (2 : Int32)).2) else (if 0 < (lg_cmp ((u2).toInt64 + (u5).toInt64) (24 : Int64)) then ((f_X7_meets M (2 : Int32)).1, (f_X7_meets M (2 : Int32)).2) else (if (lg_cmp ((u4).toInt64 + (u5).toInt64) (24 : Int64)) ≤ 0 then ((1 : Int32), (itr (b_X7_copy_2 u3 u4) (u5).toNatClampNeg (itr (b_X7_copy_1 u1 u2) (u5).toNatClampNeg M))) else ((f_X7_meets M (2 : Int32)).1, (f_X7_meets M (2 : Int32)).2))))))) else ((f_X7_meets M (5 : Int32)).1, (f_X7_meets M (5 : Int32)).2))))
set_option maxHeartbeats 4000000 in
set_option maxRecDepth 100000 in
theorem c_X7_copy (M : Mm) (u1 : Int32) (u2 : Int32) (u3 : Int32) (u4 : Int32) (u5 : Int32)  : MI yX7_copy cX7_copy 7 (some .int) 2 42 (fun a => [.ref (a 44), .int u1, .int u2, .int u3, .int u4, .int u5]) M (f_X7_copy M u1 u2 u3 u4 u5).1 (f_X7_copy M u1 u2 u3 u4 u5).2 := by
  refine MI.intro (lv0 := fun a => [some (.ref (a 44)), some (.int u1), some (.int u2), some (.int u3), some (.int u4), some (.int u5), none]) (by decide) (fun a => ⟨(Nat.le_of_ble_eq_true rfl), rfl⟩) ?_
  intro p9 l9 e9 s9 m9 g9 b9 h9 c9 D9 A9 ct a C
  have C : Cx p9 s9 m9 g9 h9 c9 cX7_copy 7 RX7 (some .int) D9 A9 ct a := C
  refine q_iload1 C dX7_copy_0 ?_
  refine qc_SI C (c_X7_isADay _ _) cw_X7_214 rfl rfl (Nat.le_of_ble_eq_true rfl) ⟨(Nat.le_of_ble_eq_true rfl), (Nat.le_of_ble_eq_true rfl)⟩ ⟨Nat.zero_le _, Nat.zero_le _⟩ dX7_copy_1 ?_
  refine q_if_eq (tgt := 14) C dX7_copy_4 (by decide) (fun c1 => ?_) (fun c1 => ?_)
  · refine q_iconst (v := -1) C dX7_copy_14 (by decide) ?_
    exact q_iret C (by first | rfl | (rw [f_X7_copy, if_pos c1]; done) | (rw [f_X7_copy, if_pos c1]; rfl) | (simp only [f_X7_copy, if_pos c1]; done)) (by first | rfl | (rw [f_X7_copy, if_pos c1]; done) | (rw [f_X7_copy, if_pos c1]; rfl) | (simp only [f_X7_copy, if_pos c1]; done)) dX7_copy_15
  · refine q_iload3 C dX7_copy_7 ?_
    refine qc_SI C (c_X7_isADay _ _) cw_X7_214 rfl rfl (Nat.le_of_ble_eq_true rfl) ⟨(Nat.le_of_ble_eq_true rfl), (Nat.le_of_ble_eq_true rfl)⟩ ⟨Nat.zero_le _, Nat.zero_le _⟩ dX7_copy_8 ?_
    refine q_if_ne (tgt := 16) C dX7_copy_11 (by decide) (fun c2 => ?_) (fun c2 => ?_)
    · refine q_iload5 C dX7_copy_16 ?_
      refine q_if_ge (tgt := 27) C dX7_copy_18 (by decide) (fun c3 => ?_) (fun c3 => ?_)
      · refine q_aload0 C dX7_copy_27 ?_
        refine g_X7_101 C dX7_copy_28 ?_
        refine q_iload1 C dX7_copy_31 ?_
        refine q_zaldX (j := (u1).toNatClampNeg) C rfl rfl (by first | assumption | exact day7 (by assumption) | exact wi7_in (by assumption) (by decide) | (simp only [gI_sI, gI_sJ, gI_ite]; simp; assumption) | (simp [gI_sI, gI_sJ, gI_ite]; assumption)) dX7_copy_32 ?_
        refine q_if_eq (tgt := 45) C dX7_copy_33 (by decide) (fun c4 => ?_) (fun c4 => ?_)
        · refine q_aload0 C dX7_copy_45 ?_
          refine q_iconst (v := 1) C dX7_copy_46 (by decide) ?_
          refine qc_VI C (c_X7_meets _ _ (by first | assumption | exact vp_in_nI (by omega) (by decide) | omega | (unfold vp_in; decide) | decide)) cw_X7_151 rfl rfl rfl rfl (Nat.le_of_ble_eq_true rfl) ⟨(Nat.le_of_ble_eq_true rfl), (Nat.le_of_ble_eq_true rfl)⟩ ⟨Nat.zero_le _, Nat.zero_le _⟩ dX7_copy_47 ?_
          exact q_iret C (by first | rfl | (rw [f_X7_copy, if_neg c1, if_neg c2, if_pos c3, if_pos c4]; done) | (rw [f_X7_copy, if_neg c1, if_neg c2, if_pos c3, if_pos c4]; rfl) | (simp only [f_X7_copy, if_neg c1, if_neg c2, if_pos c3, if_pos c4]; done)) (by first | rfl | (rw [f_X7_copy, if_neg c1, if_neg c2, if_pos c3, if_pos c4]; done) | (rw [f_X7_copy, if_neg c1, if_neg c2, if_pos c3, if_pos c4]; rfl) | (simp only [f_X7_copy, if_neg c1, if_neg c2, if_pos c3, if_pos c4]; done)) dX7_copy_50
        · refine q_aload0 C dX7_copy_36 ?_
          refine g_X7_101 C dX7_copy_37 ?_
          refine q_iload3 C dX7_copy_40 ?_
          refine q_zaldX (j := (u3).toNatClampNeg) C rfl rfl (by first | assumption | exact day7 (by assumption) | exact wi7_in (by assumption) (by decide) | (simp only [gI_sI, gI_sJ, gI_ite]; simp; assumption) | (simp [gI_sI, gI_sJ, gI_ite]; assumption)) dX7_copy_41 ?_
          refine q_if_ne (tgt := 51) C dX7_copy_42 (by decide) (fun c5 => ?_) (fun c5 => ?_)
          · refine q_iload2 C dX7_copy_51 ?_
            refine q_if_lt (tgt := 87) C dX7_copy_52 (by decide) (fun c6 => ?_) (fun c6 => ?_)
            · refine q_aload0 C dX7_copy_87 ?_
              refine q_iconst (v := 2) C dX7_copy_88 (by decide) ?_
              refine qc_VI C (c_X7_meets _ _ (by first | assumption | exact vp_in_nI (by omega) (by decide) | omega | (unfold vp_in; decide) | decide)) cw_X7_151 rfl rfl rfl rfl (Nat.le_of_ble_eq_true rfl) ⟨(Nat.le_of_ble_eq_true rfl), (Nat.le_of_ble_eq_true rfl)⟩ ⟨Nat.zero_le _, Nat.zero_le _⟩ dX7_copy_89 ?_
              exact q_iret C (by first | rfl | (rw [f_X7_copy, if_neg c1, if_neg c2, if_pos c3, if_neg c4, if_neg c5, if_pos c6]; done) | (rw [f_X7_copy, if_neg c1, if_neg c2, if_pos c3, if_neg c4, if_neg c5, if_pos c6]; rfl) | (simp only [f_X7_copy, if_neg c1, if_neg c2, if_pos c3, if_neg c4, if_neg c5, if_pos c6]; done)) (by first | rfl | (rw [f_X7_copy, if_neg c1, if_neg c2, if_pos c3, if_neg c4, if_neg c5, if_pos c6]; done) | (rw [f_X7_copy, if_neg c1, if_neg c2, if_pos c3, if_neg c4, if_neg c5, if_pos c6]; rfl) | (simp only [f_X7_copy, if_neg c1, if_neg c2, if_pos c3, if_neg c4, if_neg c5, if_pos c6]; done)) dX7_copy_92
            · refine q_iload4 C dX7_copy_55 ?_
              refine q_if_lt (tgt := 87) C dX7_copy_57 (by decide) (fun c7 => ?_) (fun c7 => ?_)
              · refine q_aload0 C dX7_copy_87 ?_
                refine q_iconst (v := 2) C dX7_copy_88 (by decide) ?_
                refine qc_VI C (c_X7_meets _ _ (by first | assumption | exact vp_in_nI (by omega) (by decide) | omega | (unfold vp_in; decide) | decide)) cw_X7_151 rfl rfl rfl rfl (Nat.le_of_ble_eq_true rfl) ⟨(Nat.le_of_ble_eq_true rfl), (Nat.le_of_ble_eq_true rfl)⟩ ⟨Nat.zero_le _, Nat.zero_le _⟩ dX7_copy_89 ?_
                exact q_iret C (by first | rfl | (rw [f_X7_copy, if_neg c1, if_neg c2, if_pos c3, if_neg c4, if_neg c5, if_neg c6, if_pos c7]; done) | (rw [f_X7_copy, if_neg c1, if_neg c2, if_pos c3, if_neg c4, if_neg c5, if_neg c6, if_pos c7]; rfl) | (simp only [f_X7_copy, if_neg c1, if_neg c2, if_pos c3, if_neg c4, if_neg c5, if_neg c6, if_pos c7]; done)) (by first | rfl | (rw [f_X7_copy, if_neg c1, if_neg c2, if_pos c3, if_neg c4, if_neg c5, if_neg c6, if_pos c7]; done) | (rw [f_X7_copy, if_neg c1, if_neg c2, if_pos c3, if_neg c4, if_neg c5, if_neg c6, if_pos c7]; rfl) | (simp only [f_X7_copy, if_neg c1, if_neg c2, if_pos c3, if_neg c4, if_neg c5, if_neg c6, if_pos c7]; done)) dX7_copy_92
              · refine q_iload2 C dX7_copy_60 ?_
                refine q_i2l C dX7_copy_61 ?_
                refine q_iload5 C dX7_copy_62 ?_
                refine q_i2l C dX7_copy_64 ?_
                refine q_ladd C dX7_copy_65 ?_
                refine q_ldc2 C dX7_copy_66 wk_X7_218 ?_
                refine q_lcmp C dX7_copy_69 ?_
                refine q_if_gt (tgt := 87) C dX7_copy_70 (by decide) (fun c8 => ?_) (fun c8 => ?_)
                · refine q_aload0 C dX7_copy_87 ?_
                  refine q_iconst (v := 2) C dX7_copy_88 (by decide) ?_
                  refine qc_VI C (c_X7_meets _ _ (by first | assumption | exact vp_in_nI (by omega) (by decide) | omega | (unfold vp_in; decide) | decide)) cw_X7_151 rfl rfl rfl rfl (Nat.le_of_ble_eq_true rfl) ⟨(Nat.le_of_ble_eq_true rfl), (Nat.le_of_ble_eq_true rfl)⟩ ⟨Nat.zero_le _, Nat.zero_le _⟩ dX7_copy_89 ?_
                  exact q_iret C (by first | rfl | (rw [f_X7_copy, if_neg c1, if_neg c2, if_pos c3, if_neg c4, if_neg c5, if_neg c6, if_neg c7, if_pos c8]; done) | (rw [f_X7_copy, if_neg c1, if_neg c2, if_pos c3, if_neg c4, if_neg c5, if_neg c6, if_neg c7, if_pos c8]; rfl) | (simp only [f_X7_copy, if_neg c1, if_neg c2, if_pos c3, if_neg c4, if_neg c5, if_neg c6, if_neg c7, if_pos c8]; done)) (by first | rfl | (rw [f_X7_copy, if_neg c1, if_neg c2, if_pos c3, if_neg c4, if_neg c5, if_neg c6, if_neg c7, if_pos c8]; done) | (rw [f_X7_copy, if_neg c1, if_neg c2, if_pos c3, if_neg c4, if_neg c5, if_neg c6, if_neg c7, if_pos c8]; rfl) | (simp only [f_X7_copy, if_neg c1, if_neg c2, if_pos c3, if_neg c4, if_neg c5, if_neg c6, if_neg c7, if_pos c8]; done)) dX7_copy_92
                · refine q_iload4 C dX7_copy_73 ?_
                  refine q_i2l C dX7_copy_75 ?_
                  refine q_iload5 C dX7_copy_76 ?_
                  refine q_i2l C dX7_copy_78 ?_
                  refine q_ladd C dX7_copy_79 ?_
                  refine q_ldc2 C dX7_copy_80 wk_X7_218 ?_
                  refine q_lcmp C dX7_copy_83 ?_
                  refine q_if_le (tgt := 93) C dX7_copy_84 (by decide) (fun c9 => ?_) (fun c9 => ?_)
                  · obtain ⟨hq1, hq2⟩ := cp_rng2 (i := u2) (j := u4) (n := u5) (by assumption) (by assumption) (by assumption) (by assumption) (by assumption)
                    refine q_iconst (v := 0) C dX7_copy_93 (by decide) ?_
                    refine q_istore6 C dX7_copy_94 (by decide) (by intro w h0 h; first | exact absurd rfl h0 | (cases h <;> rfl)) ?_
                    refine q_loop (u5).toNatClampNeg (b_X7_copy_1 u1 u2) (fun zz => zz) (fun xx zz => [some (.ref (a 44)), some (.int u1), some (.int u2), some (.int u3), some (.int u4), some (.int u5), some (.int xx)]) M  (fun i1 z1 hi1 ih1 => ?_) ?_
                    · refine q_iload6 C dX7_copy_96 ?_
                      refine q_iload5 C dX7_copy_98 ?_
                      refine q_icmp_ge (tgt := 130) C dX7_copy_100 (by decide) (fun c10 => absurd c10 (nge_clamp (by assumption) hi1)) (fun c10 => ?_)
                      refine q_aload0 C dX7_copy_103 ?_
                      refine g_X7_110 C dX7_copy_104 ?_
                      refine q_iload6 C dX7_copy_107 ?_
                      refine q_aload0 C dX7_copy_109 ?_
                      refine g_X7_104 C dX7_copy_110 ?_
                      refine q_bipush (v := 24) C dX7_copy_113 (by decide) ?_
                      refine q_iload1 C dX7_copy_115 ?_
                      refine q_imul C dX7_copy_116 ?_
                      refine q_iload2 C dX7_copy_117 ?_
                      refine q_iadd C dX7_copy_118 ?_
                      refine q_iload6 C dX7_copy_119 ?_
                      refine q_iadd C dX7_copy_121 ?_
                      refine q_ialdX (j := (24 * (u1).toNatClampNeg + ((u2).toNatClampNeg + i1))) C rfl (ix3 (day7 (by assumption)) (by assumption) (by omega)).1 (ix3 (day7 (by assumption)) (by assumption) (by omega)).2 dX7_copy_122 ?_
                      refine q_iastX (j := i1) C rfl (nI_clamp (by omega)) (vp_in_nI (by omega) (by first | decide | omega)) dX7_copy_123 ?_
                      refine q_iinc6 (dv := 1) C dX7_copy_124 (by decide) (by decide) (by intro w h0 h; first | exact absurd rfl h0 | (cases h <;> rfl)) ?_
                      refine q_goto (tgt := 96) C dX7_copy_127 (by decide) ?_
                      exact ih1
                    refine q_iload6 C dX7_copy_96 ?_
                    refine q_iload5 C dX7_copy_98 ?_
                    refine q_icmp_ge (tgt := 130) C dX7_copy_100 (by decide) (fun c11 => ?_) (fun c11 => absurd (ge_clamp (by assumption)) c11)
                    refine q_iconst (v := 0) C dX7_copy_130 (by decide) ?_
                    refine q_istore6 C dX7_copy_131 (by decide) (by intro w h0 h; first | exact absurd rfl h0 | (cases h <;> rfl)) ?_
                    refine q_drop [some (.ref (a 44)), none, none, some (.int u3), some (.int u4), some (.int u5), some (.int (0 : Int32))] (by repeat' (first | exact trivial | rfl | constructor)) ?_
                    refine q_loop (u5).toNatClampNeg (b_X7_copy_2 u3 u4) (fun zz => zz) (fun xx zz => [some (.ref (a 44)), none, none, some (.int u3), some (.int u4), some (.int u5), some (.int xx)]) (itr (b_X7_copy_1 u1 u2) (u5).toNatClampNeg M)  (fun i2 z2 hi2 ih2 => ?_) ?_
                    · refine q_iload6 C dX7_copy_133 ?_
                      refine q_iload5 C dX7_copy_135 ?_
                      refine q_icmp_ge (tgt := 168) C dX7_copy_137 (by decide) (fun c12 => absurd c12 (nge_clamp (by assumption) hi2)) (fun c12 => ?_)
                      refine q_aload0 C dX7_copy_140 ?_
                      refine g_X7_104 C dX7_copy_141 ?_
                      refine q_bipush (v := 24) C dX7_copy_144 (by decide) ?_
                      refine q_iload3 C dX7_copy_146 ?_
                      refine q_imul C dX7_copy_147 ?_
                      refine q_iload4 C dX7_copy_148 ?_
                      refine q_iadd C dX7_copy_150 ?_
                      refine q_iload6 C dX7_copy_151 ?_
                      refine q_iadd C dX7_copy_153 ?_
                      refine q_aload0 C dX7_copy_154 ?_
                      refine g_X7_110 C dX7_copy_155 ?_
                      refine q_iload6 C dX7_copy_158 ?_
                      refine q_ialdX (j := i2) C rfl (nI_clamp (by omega)) (vp_in_nI (by omega) (by first | decide | omega)) dX7_copy_160 ?_
                      refine q_iastX (j := (24 * (u3).toNatClampNeg + ((u4).toNatClampNeg + i2))) C rfl (ix3 (day7 (by assumption)) (by assumption) (by omega)).1 (ix3 (day7 (by assumption)) (by assumption) (by omega)).2 dX7_copy_161 ?_
                      refine q_iinc6 (dv := 1) C dX7_copy_162 (by decide) (by decide) (by intro w h0 h; first | exact absurd rfl h0 | (cases h <;> rfl)) ?_
                      refine q_goto (tgt := 133) C dX7_copy_165 (by decide) ?_
                      exact ih2
                    refine q_iload6 C dX7_copy_133 ?_
                    refine q_iload5 C dX7_copy_135 ?_
                    refine q_icmp_ge (tgt := 168) C dX7_copy_137 (by decide) (fun c13 => ?_) (fun c13 => absurd (ge_clamp (by assumption)) c13)
                    refine q_iconst (v := 1) C dX7_copy_168 (by decide) ?_
                    exact q_iret C (by first | rfl | (rw [f_X7_copy, if_neg c1, if_neg c2, if_pos c3, if_neg c4, if_neg c5, if_neg c6, if_neg c7, if_neg c8, if_pos c9]; done) | (rw [f_X7_copy, if_neg c1, if_neg c2, if_pos c3, if_neg c4, if_neg c5, if_neg c6, if_neg c7, if_neg c8, if_pos c9]; rfl) | (simp only [f_X7_copy, if_neg c1, if_neg c2, if_pos c3, if_neg c4, if_neg c5, if_neg c6, if_neg c7, if_neg c8, if_pos c9]; done)) (by first | rfl | (rw [f_X7_copy, if_neg c1, if_neg c2, if_pos c3, if_neg c4, if_neg c5, if_neg c6, if_neg c7, if_neg c8, if_pos c9]; done) | (rw [f_X7_copy, if_neg c1, if_neg c2, if_pos c3, if_neg c4, if_neg c5, if_neg c6, if_neg c7, if_neg c8, if_pos c9]; rfl) | (simp only [f_X7_copy, if_neg c1, if_neg c2, if_pos c3, if_neg c4, if_neg c5, if_neg c6, if_neg c7, if_neg c8, if_pos c9]; done)) dX7_copy_169
                  · refine q_aload0 C dX7_copy_87 ?_
                    refine q_iconst (v := 2) C dX7_copy_88 (by decide) ?_
                    refine qc_VI C (c_X7_meets _ _ (by first | assumption | exact vp_in_nI (by omega) (by decide) | omega | (unfold vp_in; decide) | decide)) cw_X7_151 rfl rfl rfl rfl (Nat.le_of_ble_eq_true rfl) ⟨(Nat.le_of_ble_eq_true rfl), (Nat.le_of_ble_eq_true rfl)⟩ ⟨Nat.zero_le _, Nat.zero_le _⟩ dX7_copy_89 ?_
                    exact q_iret C (by first | rfl | (rw [f_X7_copy, if_neg c1, if_neg c2, if_pos c3, if_neg c4, if_neg c5, if_neg c6, if_neg c7, if_neg c8, if_neg c9]; done) | (rw [f_X7_copy, if_neg c1, if_neg c2, if_pos c3, if_neg c4, if_neg c5, if_neg c6, if_neg c7, if_neg c8, if_neg c9]; rfl) | (simp only [f_X7_copy, if_neg c1, if_neg c2, if_pos c3, if_neg c4, if_neg c5, if_neg c6, if_neg c7, if_neg c8, if_neg c9]; done)) (by first | rfl | (rw [f_X7_copy, if_neg c1, if_neg c2, if_pos c3, if_neg c4, if_neg c5, if_neg c6, if_neg c7, if_neg c8, if_neg c9]; done) | (rw [f_X7_copy, if_neg c1, if_neg c2, if_pos c3, if_neg c4, if_neg c5, if_neg c6, if_neg c7, if_neg c8, if_neg c9]; rfl) | (simp only [f_X7_copy, if_neg c1, if_neg c2, if_pos c3, if_neg c4, if_neg c5, if_neg c6, if_neg c7, if_neg c8, if_neg c9]; done)) dX7_copy_92
          · refine q_aload0 C dX7_copy_45 ?_
            refine q_iconst (v := 1) C dX7_copy_46 (by decide) ?_
            refine qc_VI C (c_X7_meets _ _ (by first | assumption | exact vp_in_nI (by omega) (by decide) | omega | (unfold vp_in; decide) | decide)) cw_X7_151 rfl rfl rfl rfl (Nat.le_of_ble_eq_true rfl) ⟨(Nat.le_of_ble_eq_true rfl), (Nat.le_of_ble_eq_true rfl)⟩ ⟨Nat.zero_le _, Nat.zero_le _⟩ dX7_copy_47 ?_
            exact q_iret C (by first | rfl | (rw [f_X7_copy, if_neg c1, if_neg c2, if_pos c3, if_neg c4, if_pos c5]; done) | (rw [f_X7_copy, if_neg c1, if_neg c2, if_pos c3, if_neg c4, if_pos c5]; rfl) | (simp only [f_X7_copy, if_neg c1, if_neg c2, if_pos c3, if_neg c4, if_pos c5]; done)) (by first | rfl | (rw [f_X7_copy, if_neg c1, if_neg c2, if_pos c3, if_neg c4, if_pos c5]; done) | (rw [f_X7_copy, if_neg c1, if_neg c2, if_pos c3, if_neg c4, if_pos c5]; rfl) | (simp only [f_X7_copy, if_neg c1, if_neg c2, if_pos c3, if_neg c4, if_pos c5]; done)) dX7_copy_50
      · refine q_aload0 C dX7_copy_21 ?_
        refine q_iconst (v := 5) C dX7_copy_22 (by decide) ?_
        refine qc_VI C (c_X7_meets _ _ (by first | assumption | exact vp_in_nI (by omega) (by decide) | omega | (unfold vp_in; decide) | decide)) cw_X7_151 rfl rfl rfl rfl (Nat.le_of_ble_eq_true rfl) ⟨(Nat.le_of_ble_eq_true rfl), (Nat.le_of_ble_eq_true rfl)⟩ ⟨Nat.zero_le _, Nat.zero_le _⟩ dX7_copy_23 ?_
        exact q_iret C (by first | rfl | (rw [f_X7_copy, if_neg c1, if_neg c2, if_neg c3]; done) | (rw [f_X7_copy, if_neg c1, if_neg c2, if_neg c3]; rfl) | (simp only [f_X7_copy, if_neg c1, if_neg c2, if_neg c3]; done)) (by first | rfl | (rw [f_X7_copy, if_neg c1, if_neg c2, if_neg c3]; done) | (rw [f_X7_copy, if_neg c1, if_neg c2, if_neg c3]; rfl) | (simp only [f_X7_copy, if_neg c1, if_neg c2, if_neg c3]; done)) dX7_copy_26
    · refine q_iconst (v := -1) C dX7_copy_14 (by decide) ?_
      exact q_iret C (by first | rfl | (rw [f_X7_copy, if_neg c1, if_pos c2]; done) | (rw [f_X7_copy, if_neg c1, if_pos c2]; rfl) | (simp only [f_X7_copy, if_neg c1, if_pos c2]; done)) (by first | rfl | (rw [f_X7_copy, if_neg c1, if_pos c2]; done) | (rw [f_X7_copy, if_neg c1, if_pos c2]; rfl) | (simp only [f_X7_copy, if_neg c1, if_pos c2]; done)) dX7_copy_15
