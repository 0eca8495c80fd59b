theorem gI_ne {M : Mm} {k j k2 j2 : Nat} {v : Int32} (h : k ≠ k2) : gI (sI M k2 j2 v) k j = gI M k j := by rw [gI_sI, if_neg (fun e => h e.1)]
theorem gJ_ne {M : Mm} {k j k2 j2 : Nat} {v : Int64} (h : k ≠ k2) : gJ (sJ M k2 j2 v) k j = gJ M k j := by rw [gJ_sJ, if_neg (fun e => h e.1)]
theorem tk_fr (M : Mm) (x y : Int32) (k j : Nat) (h : k ≠ 57) : gI (f_X7_taken M x y).2 k j = gI M k j := by
  simp [f_X7_taken, gI_sI, h]
theorem ho1_fr (u : Int32) (i : Nat) (M : Mm) (k j : Nat) (h1 : k ≠ 58) (h2 : k ≠ 59) : gI (b_X7_handOn_1 u i M) k j = gI M k j := by
  simp [b_X7_handOn_1, m_X7_handOn_1, gI_sI, h1, h2]
theorem ho2_fr (i : Nat) (M : Mm) (k j : Nat) (h1 : k ≠ 56) (h2 : k ≠ 57) : gI (b_X7_handOn_2 i M) k j = gI M k j := by
  simp [b_X7_handOn_2, m_X7_handOn_4, m_X7_handOn_3, gI_sI, h1, h2]
theorem ho_fr (M : Mm) (x y : Int32) (k j : Nat) (h1 : k ≠ 56) (h2 : k ≠ 57) (h3 : k ≠ 58) (h4 : k ≠ 59) : gI (f_X7_handOn M x y) k j = gI M k j := by
  unfold f_X7_handOn
  rw [gI_sI, if_neg (by omega), itr_keepI (fun i z => ho2_fr i z k j h1 h2), gI_sI, if_neg (by omega), gI_sI, if_neg (by omega), itr_keepI (fun i z => ho1_fr y i z k j h3 h4)]
def b_X7_step_1  (i1 : Nat) (z1 : Int32 × Mm) : Int32 × Mm := ((f_X7_taken z1.2 (nI i1) z1.1).1, (f_X7_taken z1.2 (nI i1) z1.1).2)
def l_X7_step_1  (z1 : Int32 × Mm) : Int32 × Mm := itd b_X7_step_1 3 z1
def m_X7_step_2 (M : Mm) (u2 : Int32) : Mm := (l_X7_step_1 (((if (gI M 44 23) = 0 then u2 else (0 : Int32)) + ((gI M 57 3) / (10 : Int32))), (sI M 57 3 ((gI M 57 3) - ((gI M 57 3) / (10 : Int32)))))).2
def m_X7_step_3 (M : Mm) (u1 : Int32) (u2 : Int32) (u3 : Int32) : Mm := (sI (sI (f_X7_handOn (m_X7_step_2 M u2) u1 u3) 60 0 (gI (f_X7_handOn (m_X7_step_2 M u2) u1 u3) 56 4)) 60 1 (gI (sI (f_X7_handOn (m_X7_step_2 M u2) u1 u3) 60 0 (gI (f_X7_handOn (m_X7_step_2 M u2) u1 u3) 56 4)) 57 4))
def m_X7_step_4 (M : Mm) (u1 : Int32) (u2 : Int32) (u3 : Int32) : Mm := (sI (m_X7_step_3 M u1 u2 u3) 60 2 (if (gI (m_X7_step_3 M u1 u2 u3) 56 4) = 0 then (0 : Int32) else ((gI (m_X7_step_3 M u1 u2 u3) 57 4) / (gI (m_X7_step_3 M u1 u2 u3) 56 4))))
def m_X7_step_5 (M : Mm) (u1 : Int32) (u2 : Int32) (u3 : Int32) : Mm := (sI (m_X7_step_4 M u1 u2 u3) 60 3 (if (gI (m_X7_step_4 M u1 u2 u3) 60 2) < (60 : Int32) then (if (gI (m_X7_step_4 M u1 u2 u3) 60 2) < (30 : Int32) then (0 : Int32) else (1 : Int32)) else (2 : Int32)))
def m_X7_step_6 (M : Mm) (u1 : Int32) (u2 : Int32) (u3 : Int32) : Mm := (sI (m_X7_step_5 M u1 u2 u3) 60 6 (l_X7_step_1 (((if (gI M 44 23) = 0 then u2 else (0 : Int32)) + ((gI M 57 3) / (10 : Int32))), (sI M 57 3 ((gI M 57 3) - ((gI M 57 3) / (10 : Int32)))))).1)
def m_X7_step_7 (M : Mm) (u1 : Int32) (u2 : Int32) (u3 : Int32) : Mm := (if (gI (m_X7_step_6 M u1 u2 u3) 60 0) ≤ 0 then (m_X7_step_6 M u1 u2 u3) else (f_X7_addLot (m_X7_step_6 M u1 u2 u3) (gI (m_X7_step_6 M u1 u2 u3) 60 3) (gI (m_X7_step_6 M u1 u2 u3) 60 0)))
def m_X7_step_8 (M : Mm) (u1 : Int32) (u2 : Int32) (u3 : Int32) : Mm := (sI (sI (m_X7_step_7 M u1 u2 u3) 60 4 ((f_X7_causeOf (m_X7_step_7 M u1 u2 u3) (if (gI M 44 23) = 0 then u2 else (0 : Int32))) / (10 : Int32))) 60 5 (if (f_X7_causeOf (m_X7_step_7 M u1 u2 u3) (if (gI M 44 23) = 0 then u2 else (0 : Int32))) = 0 then (-9 : Int32) else ((f_X7_causeOf (m_X7_step_7 M u1 u2 u3) (if (gI M 44 23) = 0 then u2 else (0 : Int32))) - (f_X7_causeOf (m_X7_step_7 M u1 u2 u3) (if (gI M 44 23) = 0 then u2 else (0 : Int32))) / (10 : Int32) * (10 : Int32))))
def m_X7_step_9 (M : Mm) (u1 : Int32) (u2 : Int32) (u3 : Int32) : Mm := (sI (m_X7_step_8 M u1 u2 u3) 44 23 (if (gI (m_X7_step_8 M u1 u2 u3) 44 23) = 0 then (if (f_X7_in (gI (m_X7_step_8 M u1 u2 u3) 60 4) (1 : Int32) (2 : Int32)) = 0 then (0 : Int32) else (1 : Int32)) else (1 : Int32)))
def m_X7_step_10 (M : Mm) (u1 : Int32) (u2 : Int32) (u3 : Int32) : Mm := (sI (m_X7_step_9 M u1 u2 u3) 44 30 (if (f_X7_causeOf (m_X7_step_7 M u1 u2 u3) (if (gI M 44 23) = 0 then u2 else (0 : Int32))) ≤ 0 then (gI (m_X7_step_9 M u1 u2 u3) 44 30) else (if 0 ≤ (gI (m_X7_step_9 M u1 u2 u3) 44 30) then (gI (m_X7_step_9 M u1 u2 u3) 44 30) else (gI (m_X7_step_9 M u1 u2 u3) 44 22))))
def m_X7_step_11 (M : Mm) (u1 : Int32) (u2 : Int32) (u3 : Int32) : Mm := (sJ (sJ (m_X7_step_10 M u1 u2 u3) 61 0 ((gJ (m_X7_step_10 M u1 u2 u3) 61 0) + (u1).toInt64)) 61 1 ((gJ (sJ (m_X7_step_10 M u1 u2 u3) 61 0 ((gJ (m_X7_step_10 M u1 u2 u3) 61 0) + (u1).toInt64)) 61 1) + ((if (gI M 44 23) = 0 then u2 else (0 : Int32))).toInt64))
def m_X7_step_12 (M : Mm) (u1 : Int32) (u2 : Int32) (u3 : Int32) : Mm := (sJ (sJ (m_X7_step_11 M u1 u2 u3) 61 2 ((gJ (m_X7_step_11 M u1 u2 u3) 61 2) + ((gI (m_X7_step_11 M u1 u2 u3) 60 0)).toInt64)) 61 3 ((gJ (sJ (m_X7_step_11 M u1 u2 u3) 61 2 ((gJ (m_X7_step_11 M u1 u2 u3) 61 2) + ((gI (m_X7_step_11 M u1 u2 u3) 60 0)).toInt64)) 61 3) + ((gI (sJ (m_X7_step_11 M u1 u2 u3) 61 2 ((gJ (m_X7_step_11 M u1 u2 u3) 61 2) + ((gI (m_X7_step_11 M u1 u2 u3) 60 0)).toInt64)) 60 1)).toInt64))
def m_X7_step_13 (M : Mm) (u1 : Int32) (u2 : Int32) (u3 : Int32) : Mm := (sJ (m_X7_step_12 M u1 u2 u3) 61 4 ((gJ (m_X7_step_12 M u1 u2 u3) 61 4) + ((l_X7_step_1 (((if (gI M 44 23) = 0 then u2 else (0 : Int32)) + ((gI M 57 3) / (10 : Int32))), (sI M 57 3 ((gI M 57 3) - ((gI M 57 3) / (10 : Int32)))))).1).toInt64))
def f_X7_step (M : Mm) (u1 : Int32) (u2 : Int32) (u3 : Int32) : Int32 × Mm := (if (f_X7_in u1 (0 : Int32) (1000 : Int32)) = 0 then ((-1 : Int32), M) else (if (f_X7_in u2 (0 : Int32) (100000 : Int32)) = 0 then ((-1 : Int32), M) else (if (f_X7_in u3 (0 : Int32) (100 : Int32)) = 0 then ((-1 : Int32), M) else (if (gI M 44 22) = (500 : Int32) then ((-2 : Int32), M) else ((gI (sI (m_X7_step_13 M u1 u2 u3) 44 22 ((gI (m_X7_step_13 M u1 u2 u3) 44 22) + (1 : Int32))) 60 4), (sI (m_X7_step_13 M u1 u2 u3) 44 22 ((gI (m_X7_step_13 M u1 u2 u3) 44 22) + (1 : Int32))))))))
theorem l1_fr (z : Int32 × Mm) (k j : Nat) (h : k ≠ 57) : gI (l_X7_step_1 z).2 k j = gI z.2 k j := by
  have e := itd_inv (f := b_X7_step_1) (fun _ w => gI w.2 k j = gI z.2 k j) (fun i w hw => by
    show gI (f_X7_taken w.2 (nI i) w.1).2 k j = _
    rw [tk_fr _ _ _ _ _ h]; exact hw) 3 z rfl
  exact e
theorem st6_fr (M : Mm) (x y w : Int32) (j : Nat) : gI (m_X7_step_6 M x y w) 44 j = gI M 44 j := by
  rw [m_X7_step_6, gI_ne (by decide), m_X7_step_5, gI_ne (by decide), m_X7_step_4, gI_ne (by decide), m_X7_step_3, gI_ne (by decide), gI_ne (by decide), ho_fr _ _ _ _ _ (by decide) (by decide) (by decide) (by decide), m_X7_step_2, l1_fr _ _ _ (by decide), gI_ne (by decide)]
set_option maxHeartbeats 4000000 in
set_option maxRecDepth 100000 in
theorem c_X7_step (M : Mm) (u1 : Int32) (u2 : Int32) (u3 : Int32) (hl : ¬ gI M 44 22 = 500 → vp_in (gI M 44 31) 500) : MI yX7_step cX7_step 8 (some .int) 2 43 (fun a => [.ref (a 44), .int u1, .int u2, .int u3]) M (f_X7_step M u1 u2 u3).1 (f_X7_step M u1 u2 u3).2 := by
  refine MI.intro (lv0 := fun a => [some (.ref (a 44)), some (.int u1), some (.int u2), some (.int u3), none, none, none, none]) (by decide) (fun a => ⟨(Nat.le_of_ble_eq_true rfl), rfl⟩) ?_
  intro p9 l9 e9 s9 m9 g9 b9 h9 c9 D9 A9 ct a C
  have C : Cx p9 s9 m9 g9 h9 c9 cX7_step 8 RX7 (some .int) D9 A9 ct a := C
  refine q_iload1 C dX7_step_0 ?_
  refine q_iconst (v := 0) C dX7_step_1 (by decide) ?_
  refine q_sipush (v := 1000) C dX7_step_2 (by decide) ?_
  refine qc_SI C (c_X7_in _ _ _ _) cw_X7_125 rfl rfl (Nat.le_of_ble_eq_true rfl) ⟨(Nat.le_of_ble_eq_true rfl), (Nat.le_of_ble_eq_true rfl)⟩ ⟨Nat.zero_le _, Nat.zero_le _⟩ dX7_step_5 ?_
  refine q_if_eq (tgt := 31) C dX7_step_8 (by decide) (fun c1 => ?_) (fun c1 => ?_)
  · refine q_iconst (v := -1) C dX7_step_31 (by decide) ?_
    exact q_iret C (by first | rfl | (rw [f_X7_step, if_pos c1]; done) | (rw [f_X7_step, if_pos c1]; rfl) | (simp only [f_X7_step, if_pos c1]; done)) (by first | rfl | (rw [f_X7_step, if_pos c1]; done) | (rw [f_X7_step, if_pos c1]; rfl) | (simp only [f_X7_step, if_pos c1]; done)) dX7_step_32
  · refine q_iload2 C dX7_step_11 ?_
    refine q_iconst (v := 0) C dX7_step_12 (by decide) ?_
    refine q_ldc C dX7_step_13 wk_X7_167 ?_
    refine qc_SI C (c_X7_in _ _ _ _) cw_X7_125 rfl rfl (Nat.le_of_ble_eq_true rfl) ⟨(Nat.le_of_ble_eq_true rfl), (Nat.le_of_ble_eq_true rfl)⟩ ⟨Nat.zero_le _, Nat.zero_le _⟩ dX7_step_15 ?_
    refine q_if_eq (tgt := 31) C dX7_step_18 (by decide) (fun c2 => ?_) (fun c2 => ?_)
    · refine q_iconst (v := -1) C dX7_step_31 (by decide) ?_
      exact q_iret C (by first | rfl | (rw [f_X7_step, if_neg c1, if_pos c2]; done) | (rw [f_X7_step, if_neg c1, if_pos c2]; rfl) | (simp only [f_X7_step, if_neg c1, if_pos c2]; done)) (by first | rfl | (rw [f_X7_step, if_neg c1, if_pos c2]; done) | (rw [f_X7_step, if_neg c1, if_pos c2]; rfl) | (simp only [f_X7_step, if_neg c1, if_pos c2]; done)) dX7_step_32
    · refine q_iload3 C dX7_step_21 ?_
      refine q_iconst (v := 0) C dX7_step_22 (by decide) ?_
      refine q_bipush (v := 100) C dX7_step_23 (by decide) ?_
      refine qc_SI C (c_X7_in _ _ _ _) cw_X7_125 rfl rfl (Nat.le_of_ble_eq_true rfl) ⟨(Nat.le_of_ble_eq_true rfl), (Nat.le_of_ble_eq_true rfl)⟩ ⟨Nat.zero_le _, Nat.zero_le _⟩ dX7_step_25 ?_
      refine q_if_ne (tgt := 33) C dX7_step_28 (by decide) (fun c3 => ?_) (fun c3 => ?_)
      · refine q_aload0 C dX7_step_33 ?_
        refine g_X7_179 C dX7_step_34 ?_
        refine q_sipush (v := 500) C dX7_step_37 (by decide) ?_
        refine q_icmp_ne (tgt := 46) C dX7_step_40 (by decide) (fun c4 => ?_) (fun c4 => ?_)
        · refine q_aload0 C dX7_step_46 ?_
          refine g_X7_182 C dX7_step_47 ?_
          refine q_cut M 58 [some (.ref (a 44)), some (.int u1), none, some (.int u3), none, none, none, none] [.int (if (gI M 44 23) = 0 then u2 else (0 : Int32))] (fun hJ => ?_) ?_
          · refine q_if_eq (tgt := 57) C dX7_step_50 (by decide) (fun c5 => ?_) (fun c5 => ?_)
            · refine q_iload2 C dX7_step_57 ?_
              refine q_drop [some (.ref (a 44)), some (.int u1), none, some (.int u3), none, none, none, none] (by repeat' (first | exact trivial | rfl | constructor)) ?_
              (try simp only [if_pos c5] at hJ); exact hJ
            · refine q_iconst (v := 0) C dX7_step_53 (by decide) ?_
              refine q_goto (tgt := 58) C dX7_step_54 (by decide) ?_
              refine q_drop [some (.ref (a 44)), some (.int u1), none, some (.int u3), none, none, none, none] (by repeat' (first | exact trivial | rfl | constructor)) ?_
              (try simp only [if_neg c5] at hJ); exact hJ
          refine q_istore4 C dX7_step_58 (by decide) (by intro w h0 h; first | exact absurd rfl h0 | (cases h <;> rfl)) ?_
          refine q_aload0 C dX7_step_60 ?_
          refine g_X7_68 C dX7_step_61 ?_
          refine q_iconst (v := 3) C dX7_step_64 (by decide) ?_
          refine q_ialdX (j := 3) C rfl (by decide) (by unfold vp_in; decide) dX7_step_65 ?_
          refine q_bipush (v := 10) C dX7_step_66 (by decide) ?_
          refine q_idiv C dX7_step_68 (by first | decide | assumption | (apply i64ne; assumption)) ?_
          refine q_istore5 C dX7_step_69 (by decide) (by intro w h0 h; first | exact absurd rfl h0 | (cases h <;> rfl)) ?_
          refine q_aload0 C dX7_step_71 ?_
          refine g_X7_68 C dX7_step_72 ?_
          refine q_iconst (v := 3) C dX7_step_75 (by decide) ?_
          refine q_dup2 C dX7_step_76 rfl rfl ?_
          refine q_ialdX (j := 3) C rfl (by decide) (by unfold vp_in; decide) dX7_step_77 ?_
          refine q_iload5 C dX7_step_78 ?_
          refine q_isub C dX7_step_80 ?_
          refine q_iastX (j := 3) C rfl (by decide) (by unfold vp_in; decide) dX7_step_81 ?_
          refine q_iload4 C dX7_step_82 ?_
          refine q_iload5 C dX7_step_84 ?_
          refine q_iadd C dX7_step_86 ?_
          refine q_istore6 C dX7_step_87 (by decide) (by intro w h0 h; first | exact absurd rfl h0 | (cases h <;> rfl)) ?_
          refine q_iconst (v := 2) C dX7_step_89 (by decide) ?_
          refine q_istore7 C dX7_step_90 (by decide) (by intro w h0 h; first | exact absurd rfl h0 | (cases h <;> rfl)) ?_
          refine q_drop [some (.ref (a 44)), some (.int u1), none, some (.int u3), some (.int (if (gI M 44 23) = 0 then u2 else (0 : Int32))), none, some (.int ((if (gI M 44 23) = 0 then u2 else (0 : Int32)) + ((gI M 57 3) / (10 : Int32)))), some (.int (2 : Int32))] (by repeat' (first | exact trivial | rfl | constructor)) ?_
          refine q_loopD 3 b_X7_step_1 (fun zz => zz.2) (fun xx zz => [some (.ref (a 44)), some (.int u1), none, some (.int u3), some (.int (if (gI M 44 23) = 0 then u2 else (0 : Int32))), none, some (.int zz.1), some (.int xx)]) (((if (gI M 44 23) = 0 then u2 else (0 : Int32)) + ((gI M 57 3) / (10 : Int32))), (sI M 57 3 ((gI M 57 3) - ((gI M 57 3) / (10 : Int32))))) (by decide) (fun i1 z1 hi1 ih1 => ?_) ?_
          · refine q_iload7 C dX7_step_92 ?_
            refine q_if_lt (tgt := 113) C dX7_step_94 (by decide) (fun c6 => absurd c6 (nI_pos (by omega))) (fun c6 => ?_)
            refine q_aload0 C dX7_step_97 ?_
            refine q_iload7 C dX7_step_98 ?_
            refine q_iload6 C dX7_step_100 ?_
            refine qc_VI C (c_X7_taken _ _ _ (by first | assumption | exact vp_in_nI (by omega) (by decide) | omega | (unfold vp_in; decide) | decide)) cw_X7_186 rfl rfl rfl rfl (Nat.le_of_ble_eq_true rfl) ⟨(Nat.le_of_ble_eq_true rfl), (Nat.le_of_ble_eq_true rfl)⟩ ⟨Nat.zero_le _, Nat.zero_le _⟩ dX7_step_102 ?_
            refine q_istore6 C dX7_step_105 (by decide) (by intro w h0 h; first | exact absurd rfl h0 | (cases h <;> rfl)) ?_
            refine q_iinc7 (dv := -1) C dX7_step_107 (by decide) (by decide) (by intro w h0 h; first | exact absurd rfl h0 | (cases h <;> rfl)) ?_
            refine q_goto (tgt := 92) C dX7_step_110 (by decide) ?_
            exact ih1
          refine q_cut (l_X7_step_1 (((if (gI M 44 23) = 0 then u2 else (0 : Int32)) + ((gI M 57 3) / (10 : Int32))), (sI M 57 3 ((gI M 57 3) - ((gI M 57 3) / (10 : Int32)))))).2 92 [some (.ref (a 44)), some (.int u1), none, some (.int u3), some (.int (if (gI M 44 23) = 0 then u2 else (0 : Int32))), none, some (.int (l_X7_step_1 (((if (gI M 44 23) = 0 then u2 else (0 : Int32)) + ((gI M 57 3) / (10 : Int32))), (sI M 57 3 ((gI M 57 3) - ((gI M 57 3) / (10 : Int32)))))).1), some (.int (-1 : Int32))] [] (fun hJ => hJ) ?_
          refine q_iload7 C dX7_step_92 ?_
          refine q_if_lt (tgt := 113) C dX7_step_94 (by decide) (fun c7 => ?_) (fun c7 => absurd (by decide) c7)
          refine q_cut (m_X7_step_2 M u2) 113 [some (.ref (a 44)), some (.int u1), none, some (.int u3), some (.int (if (gI M 44 23) = 0 then u2 else (0 : Int32))), none, some (.int (l_X7_step_1 (((if (gI M 44 23) = 0 then u2 else (0 : Int32)) + ((gI M 57 3) / (10 : Int32))), (sI M 57 3 ((gI M 57 3) - ((gI M 57 3) / (10 : Int32)))))).1), some (.int (-1 : Int32))] [] (fun hJ => hJ) ?_
          refine q_aload0 C dX7_step_113 ?_
          refine q_iload1 C dX7_step_114 ?_
          refine q_iload3 C dX7_step_115 ?_
          refine qc_VV C (c_X7_handOn _ _ _) cw_X7_190 rfl rfl rfl rfl (Nat.le_of_ble_eq_true rfl) ⟨(Nat.le_of_ble_eq_true rfl), (Nat.le_of_ble_eq_true rfl)⟩ ⟨Nat.zero_le _, Nat.zero_le _⟩ dX7_step_116 ?_
          refine q_aload0 C dX7_step_119 ?_
          refine g_X7_77 C dX7_step_120 ?_
          refine q_iconst (v := 0) C dX7_step_123 (by decide) ?_
          refine q_aload0 C dX7_step_124 ?_
          refine g_X7_65 C dX7_step_125 ?_
          refine q_iconst (v := 4) C dX7_step_128 (by decide) ?_
          refine q_ialdX (j := 4) C rfl (by decide) (by unfold vp_in; decide) dX7_step_129 ?_
          refine q_iastX (j := 0) C rfl (by decide) (by unfold vp_in; decide) dX7_step_130 ?_
          refine q_aload0 C dX7_step_131 ?_
          refine g_X7_77 C dX7_step_132 ?_
          refine q_iconst (v := 1) C dX7_step_135 (by decide) ?_
          refine q_aload0 C dX7_step_136 ?_
          refine g_X7_68 C dX7_step_137 ?_
          refine q_iconst (v := 4) C dX7_step_140 (by decide) ?_
          refine q_ialdX (j := 4) C rfl (by decide) (by unfold vp_in; decide) dX7_step_141 ?_
          refine q_iastX (j := 1) C rfl (by decide) (by unfold vp_in; decide) dX7_step_142 ?_
          refine q_cut (m_X7_step_3 M u1 u2 u3) 143 [some (.ref (a 44)), some (.int u1), none, some (.int u3), some (.int (if (gI M 44 23) = 0 then u2 else (0 : Int32))), none, some (.int (l_X7_step_1 (((if (gI M 44 23) = 0 then u2 else (0 : Int32)) + ((gI M 57 3) / (10 : Int32))), (sI M 57 3 ((gI M 57 3) - ((gI M 57 3) / (10 : Int32)))))).1), some (.int (-1 : Int32))] [] (fun hJ => hJ) ?_
          refine q_aload0 C dX7_step_143 ?_
          refine g_X7_77 C dX7_step_144 ?_
          refine q_iconst (v := 2) C dX7_step_147 (by decide) ?_
          refine q_aload0 C dX7_step_148 ?_
          refine g_X7_65 C dX7_step_149 ?_
          refine q_iconst (v := 4) C dX7_step_152 (by decide) ?_
          refine q_ialdX (j := 4) C rfl (by decide) (by unfold vp_in; decide) dX7_step_153 ?_
          refine q_cut (m_X7_step_3 M u1 u2 u3) 174 [some (.ref (a 44)), some (.int u1), none, none, some (.int (if (gI M 44 23) = 0 then u2 else (0 : Int32))), none, some (.int (l_X7_step_1 (((if (gI M 44 23) = 0 then u2 else (0 : Int32)) + ((gI M 57 3) / (10 : Int32))), (sI M 57 3 ((gI M 57 3) - ((gI M 57 3) / (10 : Int32)))))).1), none] [.int (if (gI (m_X7_step_3 M u1 u2 u3) 56 4) = 0 then (0 : Int32) else ((gI (m_X7_step_3 M u1 u2 u3) 57 4) / (gI (m_X7_step_3 M u1 u2 u3) 56 4))), .int (2 : Int32), .ref (a 60)] (fun hJ => ?_) ?_
          · refine q_if_ne (tgt := 161) C dX7_step_154 (by decide) (fun c8 => ?_) (fun c8 => ?_)
            · refine q_aload0 C dX7_step_161 ?_
              refine g_X7_68 C dX7_step_162 ?_
              refine q_iconst (v := 4) C dX7_step_165 (by decide) ?_
              refine q_ialdX (j := 4) C rfl (by decide) (by unfold vp_in; decide) dX7_step_166 ?_
              refine q_aload0 C dX7_step_167 ?_
              refine g_X7_65 C dX7_step_168 ?_
              refine q_iconst (v := 4) C dX7_step_171 (by decide) ?_
              refine q_ialdX (j := 4) C rfl (by decide) (by unfold vp_in; decide) dX7_step_172 ?_
              refine q_idiv C dX7_step_173 (by first | decide | assumption | (apply i64ne; assumption)) ?_
              refine q_drop [some (.ref (a 44)), some (.int u1), none, none, some (.int (if (gI M 44 23) = 0 then u2 else (0 : Int32))), none, some (.int (l_X7_step_1 (((if (gI M 44 23) = 0 then u2 else (0 : Int32)) + ((gI M 57 3) / (10 : Int32))), (sI M 57 3 ((gI M 57 3) - ((gI M 57 3) / (10 : Int32)))))).1), none] (by repeat' (first | exact trivial | rfl | constructor)) ?_
              (try simp only [if_neg c8] at hJ); exact hJ
            · refine q_iconst (v := 0) C dX7_step_157 (by decide) ?_
              refine q_goto (tgt := 174) C dX7_step_158 (by decide) ?_
              refine q_drop [some (.ref (a 44)), some (.int u1), none, none, some (.int (if (gI M 44 23) = 0 then u2 else (0 : Int32))), none, some (.int (l_X7_step_1 (((if (gI M 44 23) = 0 then u2 else (0 : Int32)) + ((gI M 57 3) / (10 : Int32))), (sI M 57 3 ((gI M 57 3) - ((gI M 57 3) / (10 : Int32)))))).1), none] (by repeat' (first | exact trivial | rfl | constructor)) ?_
              (try simp only [if_pos c8] at hJ); exact hJ
          refine q_iastX (j := 2) C rfl (by decide) (by unfold vp_in; decide) dX7_step_174 ?_
          refine q_cut (m_X7_step_4 M u1 u2 u3) 175 [some (.ref (a 44)), some (.int u1), none, none, some (.int (if (gI M 44 23) = 0 then u2 else (0 : Int32))), none, some (.int (l_X7_step_1 (((if (gI M 44 23) = 0 then u2 else (0 : Int32)) + ((gI M 57 3) / (10 : Int32))), (sI M 57 3 ((gI M 57 3) - ((gI M 57 3) / (10 : Int32)))))).1), none] [] (fun hJ => hJ) ?_
          refine q_aload0 C dX7_step_175 ?_
          refine g_X7_77 C dX7_step_176 ?_
          refine q_iconst (v := 3) C dX7_step_179 (by decide) ?_
          refine q_aload0 C dX7_step_180 ?_
          refine g_X7_77 C dX7_step_181 ?_
          refine q_iconst (v := 2) C dX7_step_184 (by decide) ?_
          refine q_ialdX (j := 2) C rfl (by decide) (by unfold vp_in; decide) dX7_step_185 ?_
          refine q_bipush (v := 60) C dX7_step_186 (by decide) ?_
          refine q_cut (m_X7_step_4 M u1 u2 u3) 211 [some (.ref (a 44)), some (.int u1), none, none, some (.int (if (gI M 44 23) = 0 then u2 else (0 : Int32))), none, some (.int (l_X7_step_1 (((if (gI M 44 23) = 0 then u2 else (0 : Int32)) + ((gI M 57 3) / (10 : Int32))), (sI M 57 3 ((gI M 57 3) - ((gI M 57 3) / (10 : Int32)))))).1), none] [.int (if (gI (m_X7_step_4 M u1 u2 u3) 60 2) < (60 : Int32) then (if (gI (m_X7_step_4 M u1 u2 u3) 60 2) < (30 : Int32) then (0 : Int32) else (1 : Int32)) else (2 : Int32)), .int (3 : Int32), .ref (a 60)] (fun hJ => ?_) ?_
          · refine q_icmp_lt (tgt := 195) C dX7_step_188 (by decide) (fun c9 => ?_) (fun c9 => ?_)
            · refine q_aload0 C dX7_step_195 ?_
              refine g_X7_77 C dX7_step_196 ?_
              refine q_iconst (v := 2) C dX7_step_199 (by decide) ?_
              refine q_ialdX (j := 2) C rfl (by decide) (by unfold vp_in; decide) dX7_step_200 ?_
              refine q_bipush (v := 30) C dX7_step_201 (by decide) ?_
              refine q_icmp_lt (tgt := 210) C dX7_step_203 (by decide) (fun c10 => ?_) (fun c10 => ?_)
              · refine q_iconst (v := 0) C dX7_step_210 (by decide) ?_
                (try simp only [if_pos c9, if_pos c10] at hJ); exact hJ
              · refine q_iconst (v := 1) C dX7_step_206 (by decide) ?_
                refine q_goto (tgt := 211) C dX7_step_207 (by decide) ?_
                (try simp only [if_pos c9, if_neg c10] at hJ); exact hJ
            · refine q_iconst (v := 2) C dX7_step_191 (by decide) ?_
              refine q_goto (tgt := 211) C dX7_step_192 (by decide) ?_
              (try simp only [if_neg c9] at hJ); exact hJ
          refine q_iastX (j := 3) C rfl (by decide) (by unfold vp_in; decide) dX7_step_211 ?_
          refine q_cut (m_X7_step_5 M u1 u2 u3) 212 [some (.ref (a 44)), some (.int u1), none, none, some (.int (if (gI M 44 23) = 0 then u2 else (0 : Int32))), none, some (.int (l_X7_step_1 (((if (gI M 44 23) = 0 then u2 else (0 : Int32)) + ((gI M 57 3) / (10 : Int32))), (sI M 57 3 ((gI M 57 3) - ((gI M 57 3) / (10 : Int32)))))).1), none] [] (fun hJ => hJ) ?_
          refine q_aload0 C dX7_step_212 ?_
          refine g_X7_77 C dX7_step_213 ?_
          refine q_bipush (v := 6) C dX7_step_216 (by decide) ?_
          refine q_iload6 C dX7_step_218 ?_
          refine q_iastX (j := 6) C rfl (by decide) (by unfold vp_in; decide) dX7_step_220 ?_
          refine q_cut (m_X7_step_6 M u1 u2 u3) 221 [some (.ref (a 44)), some (.int u1), none, none, some (.int (if (gI M 44 23) = 0 then u2 else (0 : Int32))), none, some (.int (l_X7_step_1 (((if (gI M 44 23) = 0 then u2 else (0 : Int32)) + ((gI M 57 3) / (10 : Int32))), (sI M 57 3 ((gI M 57 3) - ((gI M 57 3) / (10 : Int32)))))).1), none] [] (fun hJ => hJ) ?_
          refine q_aload0 C dX7_step_221 ?_
          refine g_X7_77 C dX7_step_222 ?_
          refine q_iconst (v := 0) C dX7_step_225 (by decide) ?_
          refine q_ialdX (j := 0) C rfl (by decide) (by unfold vp_in; decide) dX7_step_226 ?_
          refine q_cut (if (gI (m_X7_step_6 M u1 u2 u3) 60 0) ≤ 0 then (m_X7_step_6 M u1 u2 u3) else (f_X7_addLot (m_X7_step_6 M u1 u2 u3) (gI (m_X7_step_6 M u1 u2 u3) 60 3) (gI (m_X7_step_6 M u1 u2 u3) 60 0))) 246 [some (.ref (a 44)), some (.int u1), none, none, some (.int (if (gI M 44 23) = 0 then u2 else (0 : Int32))), none, some (.int (l_X7_step_1 (((if (gI M 44 23) = 0 then u2 else (0 : Int32)) + ((gI M 57 3) / (10 : Int32))), (sI M 57 3 ((gI M 57 3) - ((gI M 57 3) / (10 : Int32)))))).1), none] [] (fun hJ => ?_) ?_
          · refine q_if_le (tgt := 246) C dX7_step_227 (by decide) (fun c11 => ?_) (fun c11 => ?_)
            · (try simp only [if_pos c11] at hJ); exact hJ
            · refine q_aload0 C dX7_step_230 ?_
              refine q_aload0 C dX7_step_231 ?_
              refine g_X7_77 C dX7_step_232 ?_
              refine q_iconst (v := 3) C dX7_step_235 (by decide) ?_
              refine q_ialdX (j := 3) C rfl (by decide) (by unfold vp_in; decide) dX7_step_236 ?_
              refine q_aload0 C dX7_step_237 ?_
              refine g_X7_77 C dX7_step_238 ?_
              refine q_iconst (v := 0) C dX7_step_241 (by decide) ?_
              refine q_ialdX (j := 0) C rfl (by decide) (by unfold vp_in; decide) dX7_step_242 ?_
              refine qc_VV C (c_X7_addLot _ _ _ (by rw [st6_fr]; exact hl (by assumption))) cw_X7_194 rfl rfl rfl rfl (Nat.le_of_ble_eq_true rfl) ⟨(Nat.le_of_ble_eq_true rfl), (Nat.le_of_ble_eq_true rfl)⟩ ⟨Nat.zero_le _, Nat.zero_le _⟩ dX7_step_243 ?_
              (try simp only [if_neg c11] at hJ); exact hJ
          refine q_cut (m_X7_step_7 M u1 u2 u3) 246 [some (.ref (a 44)), some (.int u1), none, none, some (.int (if (gI M 44 23) = 0 then u2 else (0 : Int32))), none, some (.int (l_X7_step_1 (((if (gI M 44 23) = 0 then u2 else (0 : Int32)) + ((gI M 57 3) / (10 : Int32))), (sI M 57 3 ((gI M 57 3) - ((gI M 57 3) / (10 : Int32)))))).1), none] [] (fun hJ => hJ) ?_
          refine q_aload0 C dX7_step_246 ?_
          refine q_iload4 C dX7_step_247 ?_
          refine qc_VI C (c_X7_causeOf _ _) cw_X7_197 rfl rfl rfl rfl (Nat.le_of_ble_eq_true rfl) ⟨(Nat.le_of_ble_eq_true rfl), (Nat.le_of_ble_eq_true rfl)⟩ ⟨Nat.zero_le _, Nat.zero_le _⟩ dX7_step_249 ?_
          refine q_istore7 C dX7_step_252 (by decide) (by intro w h0 h; first | exact absurd rfl h0 | (cases h <;> rfl)) ?_
          refine q_aload0 C dX7_step_254 ?_
          refine g_X7_77 C dX7_step_255 ?_
          refine q_iconst (v := 4) C dX7_step_258 (by decide) ?_
          refine q_iload7 C dX7_step_259 ?_
          refine q_bipush (v := 10) C dX7_step_261 (by decide) ?_
          refine q_idiv C dX7_step_263 (by first | decide | assumption | (apply i64ne; assumption)) ?_
          refine q_iastX (j := 4) C rfl (by decide) (by unfold vp_in; decide) dX7_step_264 ?_
          refine q_aload0 C dX7_step_265 ?_
          refine g_X7_77 C dX7_step_266 ?_
          refine q_iconst (v := 5) C dX7_step_269 (by decide) ?_
          refine q_iload7 C dX7_step_270 ?_
          refine q_cut (sI (m_X7_step_7 M u1 u2 u3) 60 4 ((f_X7_causeOf (m_X7_step_7 M u1 u2 u3) (if (gI M 44 23) = 0 then u2 else (0 : Int32))) / (10 : Int32))) 285 [some (.ref (a 44)), some (.int u1), none, none, some (.int (if (gI M 44 23) = 0 then u2 else (0 : Int32))), none, some (.int (l_X7_step_1 (((if (gI M 44 23) = 0 then u2 else (0 : Int32)) + ((gI M 57 3) / (10 : Int32))), (sI M 57 3 ((gI M 57 3) - ((gI M 57 3) / (10 : Int32)))))).1), some (.int (f_X7_causeOf (m_X7_step_7 M u1 u2 u3) (if (gI M 44 23) = 0 then u2 else (0 : Int32))))] [.int (if (f_X7_causeOf (m_X7_step_7 M u1 u2 u3) (if (gI M 44 23) = 0 then u2 else (0 : Int32))) = 0 then (-9 : Int32) else ((f_X7_causeOf (m_X7_step_7 M u1 u2 u3) (if (gI M 44 23) = 0 then u2 else (0 : Int32))) - (f_X7_causeOf (m_X7_step_7 M u1 u2 u3) (if (gI M 44 23) = 0 then u2 else (0 : Int32))) / (10 : Int32) * (10 : Int32))), .int (5 : Int32), .ref (a 60)] (fun hJ => ?_) ?_
          · refine q_if_ne (tgt := 280) C dX7_step_272 (by decide) (fun c12 => ?_) (fun c12 => ?_)
            · refine q_iload7 C dX7_step_280 ?_
              refine q_bipush (v := 10) C dX7_step_282 (by decide) ?_
              refine q_irem C dX7_step_284 (by first | decide | assumption | (apply i64ne; assumption)) ?_
              (try simp only [if_neg c12] at hJ); exact hJ
            · refine q_bipush (v := -9) C dX7_step_275 (by decide) ?_
              refine q_goto (tgt := 285) C dX7_step_277 (by decide) ?_
              (try simp only [if_pos c12] at hJ); exact hJ
          refine q_iastX (j := 5) C rfl (by decide) (by unfold vp_in; decide) dX7_step_285 ?_
          refine q_cut (m_X7_step_8 M u1 u2 u3) 286 [some (.ref (a 44)), some (.int u1), none, none, some (.int (if (gI M 44 23) = 0 then u2 else (0 : Int32))), none, some (.int (l_X7_step_1 (((if (gI M 44 23) = 0 then u2 else (0 : Int32)) + ((gI M 57 3) / (10 : Int32))), (sI M 57 3 ((gI M 57 3) - ((gI M 57 3) / (10 : Int32)))))).1), some (.int (f_X7_causeOf (m_X7_step_7 M u1 u2 u3) (if (gI M 44 23) = 0 then u2 else (0 : Int32))))] [] (fun hJ => hJ) ?_
          refine q_aload0 C dX7_step_286 ?_
          refine q_aload0 C dX7_step_287 ?_
          refine g_X7_182 C dX7_step_288 ?_
          refine q_cut (m_X7_step_8 M u1 u2 u3) 313 [some (.ref (a 44)), some (.int u1), none, none, some (.int (if (gI M 44 23) = 0 then u2 else (0 : Int32))), none, some (.int (l_X7_step_1 (((if (gI M 44 23) = 0 then u2 else (0 : Int32)) + ((gI M 57 3) / (10 : Int32))), (sI M 57 3 ((gI M 57 3) - ((gI M 57 3) / (10 : Int32)))))).1), some (.int (f_X7_causeOf (m_X7_step_7 M u1 u2 u3) (if (gI M 44 23) = 0 then u2 else (0 : Int32))))] [.int (if (gI (m_X7_step_8 M u1 u2 u3) 44 23) = 0 then (if (f_X7_in (gI (m_X7_step_8 M u1 u2 u3) 60 4) (1 : Int32) (2 : Int32)) = 0 then (0 : Int32) else (1 : Int32)) else (1 : Int32)), .ref (a 44)] (fun hJ => ?_) ?_
          · refine q_if_ne (tgt := 308) C dX7_step_291 (by decide) (fun c13 => ?_) (fun c13 => ?_)
            · refine q_iconst (v := 1) C dX7_step_308 (by decide) ?_
              refine q_goto (tgt := 313) C dX7_step_309 (by decide) ?_
              (try simp only [if_neg c13] at hJ); exact hJ
            · refine q_aload0 C dX7_step_294 ?_
              refine g_X7_77 C dX7_step_295 ?_
              refine q_iconst (v := 4) C dX7_step_298 (by decide) ?_
              refine q_ialdX (j := 4) C rfl (by decide) (by unfold vp_in; decide) dX7_step_299 ?_
              refine q_iconst (v := 1) C dX7_step_300 (by decide) ?_
              refine q_iconst (v := 2) C dX7_step_301 (by decide) ?_
              refine qc_SI C (c_X7_in _ _ _ _) cw_X7_125 rfl rfl (Nat.le_of_ble_eq_true rfl) ⟨(Nat.le_of_ble_eq_true rfl), (Nat.le_of_ble_eq_true rfl)⟩ ⟨Nat.zero_le _, Nat.zero_le _⟩ dX7_step_302 ?_
              refine q_if_eq (tgt := 312) C dX7_step_305 (by decide) (fun c14 => ?_) (fun c14 => ?_)
              · refine q_iconst (v := 0) C dX7_step_312 (by decide) ?_
                (try simp only [if_pos c13, if_pos c14] at hJ); exact hJ
              · refine q_iconst (v := 1) C dX7_step_308 (by decide) ?_
                refine q_goto (tgt := 313) C dX7_step_309 (by decide) ?_
                (try simp only [if_pos c13, if_neg c14] at hJ); exact hJ
          refine p_X7_182 C (by repeat' first | exact bz_0 | exact bz_1 | assumption | apply bz_if) (by repeat' first | exact bzf_0 | exact bzf_1 | assumption | apply bzf_if) dX7_step_313 ?_
          refine q_cut (m_X7_step_9 M u1 u2 u3) 316 [some (.ref (a 44)), some (.int u1), none, none, some (.int (if (gI M 44 23) = 0 then u2 else (0 : Int32))), none, some (.int (l_X7_step_1 (((if (gI M 44 23) = 0 then u2 else (0 : Int32)) + ((gI M 57 3) / (10 : Int32))), (sI M 57 3 ((gI M 57 3) - ((gI M 57 3) / (10 : Int32)))))).1), some (.int (f_X7_causeOf (m_X7_step_7 M u1 u2 u3) (if (gI M 44 23) = 0 then u2 else (0 : Int32))))] [] (fun hJ => hJ) ?_
          refine q_aload0 C dX7_step_316 ?_
          refine q_iload7 C dX7_step_317 ?_
          refine q_cut (m_X7_step_9 M u1 u2 u3) 340 [some (.ref (a 44)), some (.int u1), none, none, some (.int (if (gI M 44 23) = 0 then u2 else (0 : Int32))), none, some (.int (l_X7_step_1 (((if (gI M 44 23) = 0 then u2 else (0 : Int32)) + ((gI M 57 3) / (10 : Int32))), (sI M 57 3 ((gI M 57 3) - ((gI M 57 3) / (10 : Int32)))))).1), none] [.int (if (f_X7_causeOf (m_X7_step_7 M u1 u2 u3) (if (gI M 44 23) = 0 then u2 else (0 : Int32))) ≤ 0 then (gI (m_X7_step_9 M u1 u2 u3) 44 30) else (if 0 ≤ (gI (m_X7_step_9 M u1 u2 u3) 44 30) then (gI (m_X7_step_9 M u1 u2 u3) 44 30) else (gI (m_X7_step_9 M u1 u2 u3) 44 22))), .ref (a 44)] (fun hJ => ?_) ?_
          · refine q_if_le (tgt := 336) C dX7_step_319 (by decide) (fun c15 => ?_) (fun c15 => ?_)
            · refine q_aload0 C dX7_step_336 ?_
              refine g_X7_83 C dX7_step_337 ?_
              refine q_drop [some (.ref (a 44)), some (.int u1), none, none, some (.int (if (gI M 44 23) = 0 then u2 else (0 : Int32))), none, some (.int (l_X7_step_1 (((if (gI M 44 23) = 0 then u2 else (0 : Int32)) + ((gI M 57 3) / (10 : Int32))), (sI M 57 3 ((gI M 57 3) - ((gI M 57 3) / (10 : Int32)))))).1), none] (by repeat' (first | exact trivial | rfl | constructor)) ?_
              (try simp only [if_pos c15] at hJ); exact hJ
            · refine q_aload0 C dX7_step_322 ?_
              refine g_X7_83 C dX7_step_323 ?_
              refine q_if_ge (tgt := 336) C dX7_step_326 (by decide) (fun c16 => ?_) (fun c16 => ?_)
              · refine q_aload0 C dX7_step_336 ?_
                refine g_X7_83 C dX7_step_337 ?_
                refine q_drop [some (.ref (a 44)), some (.int u1), none, none, some (.int (if (gI M 44 23) = 0 then u2 else (0 : Int32))), none, some (.int (l_X7_step_1 (((if (gI M 44 23) = 0 then u2 else (0 : Int32)) + ((gI M 57 3) / (10 : Int32))), (sI M 57 3 ((gI M 57 3) - ((gI M 57 3) / (10 : Int32)))))).1), none] (by repeat' (first | exact trivial | rfl | constructor)) ?_
                (try simp only [if_neg c15, if_pos c16] at hJ); exact hJ
              · refine q_aload0 C dX7_step_329 ?_
                refine g_X7_179 C dX7_step_330 ?_
                refine q_goto (tgt := 340) C dX7_step_333 (by decide) ?_
                refine q_drop [some (.ref (a 44)), some (.int u1), none, none, some (.int (if (gI M 44 23) = 0 then u2 else (0 : Int32))), none, some (.int (l_X7_step_1 (((if (gI M 44 23) = 0 then u2 else (0 : Int32)) + ((gI M 57 3) / (10 : Int32))), (sI M 57 3 ((gI M 57 3) - ((gI M 57 3) / (10 : Int32)))))).1), none] (by repeat' (first | exact trivial | rfl | constructor)) ?_
                (try simp only [if_neg c15, if_neg c16] at hJ); exact hJ
          refine p_X7_83 C  dX7_step_340 ?_
          refine q_cut (m_X7_step_10 M u1 u2 u3) 343 [some (.ref (a 44)), some (.int u1), none, none, some (.int (if (gI M 44 23) = 0 then u2 else (0 : Int32))), none, some (.int (l_X7_step_1 (((if (gI M 44 23) = 0 then u2 else (0 : Int32)) + ((gI M 57 3) / (10 : Int32))), (sI M 57 3 ((gI M 57 3) - ((gI M 57 3) / (10 : Int32)))))).1), none] [] (fun hJ => hJ) ?_
          refine q_aload0 C dX7_step_343 ?_
          refine g_X7_80 C dX7_step_344 ?_
          refine q_iconst (v := 0) C dX7_step_347 (by decide) ?_
          refine q_dup2 C dX7_step_348 rfl rfl ?_
          refine q_laldX (j := 0) C rfl (by decide) (by unfold vp_in; decide) dX7_step_349 ?_
          refine q_iload1 C dX7_step_350 ?_
          refine q_i2l C dX7_step_351 ?_
          refine q_ladd C dX7_step_352 ?_
          refine q_lastX (j := 0) C rfl (by decide) (by unfold vp_in; decide) dX7_step_353 ?_
          refine q_aload0 C dX7_step_354 ?_
          refine g_X7_80 C dX7_step_355 ?_
          refine q_iconst (v := 1) C dX7_step_358 (by decide) ?_
          refine q_dup2 C dX7_step_359 rfl rfl ?_
          refine q_laldX (j := 1) C rfl (by decide) (by unfold vp_in; decide) dX7_step_360 ?_
          refine q_iload4 C dX7_step_361 ?_
          refine q_i2l C dX7_step_363 ?_
          refine q_ladd C dX7_step_364 ?_
          refine q_lastX (j := 1) C rfl (by decide) (by unfold vp_in; decide) dX7_step_365 ?_
          refine q_cut (m_X7_step_11 M u1 u2 u3) 366 [some (.ref (a 44)), some (.int u1), none, none, some (.int (if (gI M 44 23) = 0 then u2 else (0 : Int32))), none, some (.int (l_X7_step_1 (((if (gI M 44 23) = 0 then u2 else (0 : Int32)) + ((gI M 57 3) / (10 : Int32))), (sI M 57 3 ((gI M 57 3) - ((gI M 57 3) / (10 : Int32)))))).1), none] [] (fun hJ => hJ) ?_
          refine q_aload0 C dX7_step_366 ?_
          refine g_X7_80 C dX7_step_367 ?_
          refine q_iconst (v := 2) C dX7_step_370 (by decide) ?_
          refine q_dup2 C dX7_step_371 rfl rfl ?_
          refine q_laldX (j := 2) C rfl (by decide) (by unfold vp_in; decide) dX7_step_372 ?_
          refine q_aload0 C dX7_step_373 ?_
          refine g_X7_77 C dX7_step_374 ?_
          refine q_iconst (v := 0) C dX7_step_377 (by decide) ?_
          refine q_ialdX (j := 0) C rfl (by decide) (by unfold vp_in; decide) dX7_step_378 ?_
          refine q_i2l C dX7_step_379 ?_
          refine q_ladd C dX7_step_380 ?_
          refine q_lastX (j := 2) C rfl (by decide) (by unfold vp_in; decide) dX7_step_381 ?_
          refine q_aload0 C dX7_step_382 ?_
          refine g_X7_80 C dX7_step_383 ?_
          refine q_iconst (v := 3) C dX7_step_386 (by decide) ?_
          refine q_dup2 C dX7_step_387 rfl rfl ?_
          refine q_laldX (j := 3) C rfl (by decide) (by unfold vp_in; decide) dX7_step_388 ?_
          refine q_aload0 C dX7_step_389 ?_
          refine g_X7_77 C dX7_step_390 ?_
          refine q_iconst (v := 1) C dX7_step_393 (by decide) ?_
          refine q_ialdX (j := 1) C rfl (by decide) (by unfold vp_in; decide) dX7_step_394 ?_
          refine q_i2l C dX7_step_395 ?_
          refine q_ladd C dX7_step_396 ?_
          refine q_lastX (j := 3) C rfl (by decide) (by unfold vp_in; decide) dX7_step_397 ?_
          refine q_cut (m_X7_step_12 M u1 u2 u3) 398 [some (.ref (a 44)), some (.int u1), none, none, some (.int (if (gI M 44 23) = 0 then u2 else (0 : Int32))), none, some (.int (l_X7_step_1 (((if (gI M 44 23) = 0 then u2 else (0 : Int32)) + ((gI M 57 3) / (10 : Int32))), (sI M 57 3 ((gI M 57 3) - ((gI M 57 3) / (10 : Int32)))))).1), none] [] (fun hJ => hJ) ?_
          refine q_aload0 C dX7_step_398 ?_
          refine g_X7_80 C dX7_step_399 ?_
          refine q_iconst (v := 4) C dX7_step_402 (by decide) ?_
          refine q_dup2 C dX7_step_403 rfl rfl ?_
          refine q_laldX (j := 4) C rfl (by decide) (by unfold vp_in; decide) dX7_step_404 ?_
          refine q_iload6 C dX7_step_405 ?_
          refine q_i2l C dX7_step_407 ?_
          refine q_ladd C dX7_step_408 ?_
          refine q_lastX (j := 4) C rfl (by decide) (by unfold vp_in; decide) dX7_step_409 ?_
          refine q_cut (m_X7_step_13 M u1 u2 u3) 410 [some (.ref (a 44)), some (.int u1), none, none, some (.int (if (gI M 44 23) = 0 then u2 else (0 : Int32))), none, some (.int (l_X7_step_1 (((if (gI M 44 23) = 0 then u2 else (0 : Int32)) + ((gI M 57 3) / (10 : Int32))), (sI M 57 3 ((gI M 57 3) - ((gI M 57 3) / (10 : Int32)))))).1), none] [] (fun hJ => hJ) ?_
          refine q_aload0 C dX7_step_410 ?_
          refine q_dup C dX7_step_411 rfl ?_
          refine g_X7_179 C dX7_step_412 ?_
          refine q_iconst (v := 1) C dX7_step_415 (by decide) ?_
          refine q_iadd C dX7_step_416 ?_
          refine p_X7_179 C  dX7_step_417 ?_
          refine q_aload0 C dX7_step_420 ?_
          refine g_X7_77 C dX7_step_421 ?_
          refine q_iconst (v := 4) C dX7_step_424 (by decide) ?_
          refine q_ialdX (j := 4) C rfl (by decide) (by unfold vp_in; decide) dX7_step_425 ?_
          exact q_iret C (by first | rfl | (rw [f_X7_step, if_neg c1, if_neg c2, if_neg c3, if_neg c4]; done) | (rw [f_X7_step, if_neg c1, if_neg c2, if_neg c3, if_neg c4]; rfl) | (simp only [f_X7_step, if_neg c1, if_neg c2, if_neg c3, if_neg c4]; done)) (by first | rfl | (rw [f_X7_step, if_neg c1, if_neg c2, if_neg c3, if_neg c4]; done) | (rw [f_X7_step, if_neg c1, if_neg c2, if_neg c3, if_neg c4]; rfl) | (simp only [f_X7_step, if_neg c1, if_neg c2, if_neg c3, if_neg c4]; done)) dX7_step_426
        · refine q_bipush (v := -2) C dX7_step_43 (by decide) ?_
          exact q_iret C (by first | rfl | (rw [f_X7_step, if_neg c1, if_neg c2, if_neg c3, if_pos c4]; done) | (rw [f_X7_step, if_neg c1, if_neg c2, if_neg c3, if_pos c4]; rfl) | (simp only [f_X7_step, if_neg c1, if_neg c2, if_neg c3, if_pos c4]; done)) (by first | rfl | (rw [f_X7_step, if_neg c1, if_neg c2, if_neg c3, if_pos c4]; done) | (rw [f_X7_step, if_neg c1, if_neg c2, if_neg c3, if_pos c4]; rfl) | (simp only [f_X7_step, if_neg c1, if_neg c2, if_neg c3, if_pos c4]; done)) dX7_step_45
      · refine q_iconst (v := -1) C dX7_step_31 (by decide) ?_
        exact q_iret C (by first | rfl | (rw [f_X7_step, if_neg c1, if_neg c2, if_pos c3]; done) | (rw [f_X7_step, if_neg c1, if_neg c2, if_pos c3]; rfl) | (simp only [f_X7_step, if_neg c1, if_neg c2, if_pos c3]; done)) (by first | rfl | (rw [f_X7_step, if_neg c1, if_neg c2, if_pos c3]; done) | (rw [f_X7_step, if_neg c1, if_neg c2, if_pos c3]; rfl) | (simp only [f_X7_step, if_neg c1, if_neg c2, if_pos c3]; done)) dX7_step_32
