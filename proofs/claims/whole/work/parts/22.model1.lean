def m_X7_stroke_1 (u1 : Int32) (u2 : Int32) (u3 : Int32) (i1 : Nat) (z1 : Mm) : Mm := (if (gI z1 49 i1) = 0 then (sI (sI z1 47 i1 ((gI z1 47 i1) + u1)) 48 i1 ((gI (sI z1 47 i1 ((gI z1 47 i1) + u1)) 48 i1) + (u2 + (u3 * (if ((gI (sI z1 47 i1 ((gI z1 47 i1) + u1)) 44 5) - (gI (sI z1 47 i1 ((gI z1 47 i1) + u1)) 44 5) / (2 : Int32) * (2 : Int32)) = 0 then (nI i1) else ((9 : Int32) - (nI i1))))))) else z1)
def b_X7_stroke_1 (u1 : Int32) (u2 : Int32) (u3 : Int32) (i1 : Nat) (z1 : Mm) : Mm := (m_X7_stroke_1 u1 u2 u3 i1 z1)
def m_X7_stroke_3 (M : Mm) (u1 : Int32) (u2 : Int32) (u3 : Int32) : Mm := (sI (sI (itr (b_X7_stroke_1 u1 u2 u3) 10 M) 46 ((gI (itr (b_X7_stroke_1 u1 u2 u3) 10 M) 44 5)).toNatClampNeg u3) 44 5 ((gI (sI (itr (b_X7_stroke_1 u1 u2 u3) 10 M) 46 ((gI (itr (b_X7_stroke_1 u1 u2 u3) 10 M) 44 5)).toNatClampNeg u3) 44 5) + (1 : Int32)))
def f_X7_stroke (M : Mm) (u1 : Int32) (u2 : Int32) (u3 : Int32) : Int32 × Mm := (if (f_X7_in u1 (1 : Int32) (1000 : Int32)) = 0 then ((-1 : Int32), M) else (if ((lg_cmp ((u2).toInt64 + ((u3).toInt64 * ((0 : Int32)).toInt64)) (0 : Int64)) < 0) ∨ (¬ ((lg_cmp ((u2).toInt64 + ((u3).toInt64 * ((0 : Int32)).toInt64)) (0 : Int64)) < 0) ∧ ¬ ((lg_cmp ((u2).toInt64 + ((u3).toInt64 * ((0 : Int32)).toInt64)) (u1).toInt64) ≤ 0)) then ((-1 : Int32), M) else (if ((lg_cmp ((u2).toInt64 + ((u3).toInt64 * ((1 : Int32)).toInt64)) (0 : Int64)) < 0) ∨ (¬ ((lg_cmp ((u2).toInt64 + ((u3).toInt64 * ((1 : Int32)).toInt64)) (0 : Int64)) < 0) ∧ ¬ ((lg_cmp ((u2).toInt64 + ((u3).toInt64 * ((1 : Int32)).toInt64)) (u1).toInt64) ≤ 0)) then ((-1 : Int32), M) else (if ((lg_cmp ((u2).toInt64 + ((u3).toInt64 * ((2 : Int32)).toInt64)) (0 : Int64)) < 0) ∨ (¬ ((lg_cmp ((u2).toInt64 + ((u3).toInt64 * ((2 : Int32)).toInt64)) (0 : Int64)) < 0) ∧ ¬ ((lg_cmp ((u2).toInt64 + ((u3).toInt64 * ((2 : Int32)).toInt64)) (u1).toInt64) ≤ 0)) then ((-1 : Int32), M) else (if ((lg_cmp ((u2).toInt64 + ((u3).toInt64 * ((3 : Int32)).toInt64)) (0 : Int64)) < 0) ∨ (¬ ((lg_cmp ((u2).toInt64 + ((u3).toInt64 * ((3 : Int32)).toInt64)) (0 : Int64)) < 0) ∧ ¬ ((lg_cmp ((u2).toInt64 + ((u3).toInt64 * ((3 : Int32)).toInt64)) (u1).toInt64) ≤ 0)) then ((-1 : Int32), M) else (if ((lg_cmp ((u2).toInt64 + ((u3).toInt64 * ((4 : Int32)).toInt64)) (0 : Int64)) < 0) ∨ (¬ ((lg_cmp ((u2).toInt64 + ((u3).toInt64 * ((4 : Int32)).toInt64)) (0 : Int64)) < 0) ∧ ¬ ((lg_cmp ((u2).toInt64 + ((u3).toInt64 * ((4 : Int32)).toInt64)) (u1).toInt64) ≤ 0)) then ((-1 : Int32), M) else (if ((lg_cmp ((u2).toInt64 + ((u3).toInt64 * ((5 : Int32)).toInt64)) (0 : Int64)) < 0) ∨ (¬ ((lg_cmp ((u2).toInt64 + ((u3).toInt64 * ((5 : Int32)).toInt64)) (0 : Int64)) < 0) ∧ ¬ ((lg_cmp ((u2).toInt64 + ((u3).toInt64 * ((5 : Int32)).toInt64)) (u1).toInt64) ≤ 0)) then ((-1 : Int32), M) else (if ((lg_cmp ((u2).toInt64 + ((u3).toInt64 * ((6 : Int32)).toInt64)) (0 : Int64)) < 0) ∨ (¬ ((lg_cmp ((u2).toInt64 + ((u3).toInt64 * ((6 : Int32)).toInt64)) (0 : Int64)) < 0) ∧ ¬ ((lg_cmp ((u2).toInt64 + ((u3).toInt64 * ((6 : Int32)).toInt64)) (u1).toInt64) ≤ 0)) then ((-1 : Int32), M) else (if ((lg_cmp ((u2).toInt64 + ((u3).toInt64 * ((7 : Int32)).toInt64)) (0 : Int64)) < 0) ∨ (¬ ((lg_cmp ((u2).toInt64 + ((u3).toInt64 * ((7 : Int32)).toInt64)) (0 : Int64)) < 0) ∧ ¬ ((lg_cmp ((u2).toInt64 + ((u3).toInt64 * ((7 : Int32)).toInt64)) (u1).toInt64) ≤ 0)) then ((-1 : Int32), M) else (if ((lg_cmp ((u2).toInt64 + ((u3).toInt64 * ((8 : Int32)).toInt64)) (0 : Int64)) < 0) ∨ (¬ ((lg_cmp ((u2).toInt64 + ((u3).toInt64 * ((8 : Int32)).toInt64)) (0 : Int64)) < 0) ∧ ¬ ((lg_cmp ((u2).toInt64 + ((u3).toInt64 * ((8 : Int32)).toInt64)) (u1).toInt64) ≤ 0)) then ((-1 : Int32), M) else (if ((lg_cmp ((u2).toInt64 + ((u3).toInt64 * ((9 : Int32)).toInt64)) (0 : Int64)) < 0) ∨ (¬ ((lg_cmp ((u2).toInt64 + ((u3).toInt64 * ((9 : Int32)).toInt64)) (0 : Int64)) < 0) ∧ ¬ ((lg_cmp ((u2).toInt64 + ((u3).toInt64 * ((9 : Int32)).toInt64)) (u1).toInt64) ≤ 0)) then ((-1 : Int32), M) else (if (gI M 44 5) = (30 : Int32) then ((-2 : Int32), M) else ((gI (m_X7_stroke_3 M u1 u2 u3) 44 5), (m_X7_stroke_3 M u1 u2 u3))))))))))))))
set_option maxHeartbeats 4000000 in
set_option maxRecDepth 100000 in
theorem c_X7_stroke (M : Mm) (u1 : Int32) (u2 : Int32) (u3 : Int32) (hst : ¬ gI M 44 5 = 30 → vp_in (gI M 44 5) 30) : MI yX7_stroke cX7_stroke 7 (some .int) 1 22 (fun a => [.ref (a 44), .int u1, .int u2, .int u3]) M (f_X7_stroke M u1 u2 u3).1 (f_X7_stroke M u1 u2 u3).2 := by
  refine MI.intro (lv0 := fun a => [some (.ref (a 44)), some (.int u1), some (.int u2), some (.int u3), none, none, none]) (by decide) (fun a => ⟨(Nat.le_of_ble_eq_true rfl), rfl⟩) ?_
  intro p9 l9 e9 s9 m9 g9 b9 h9 c9 D9 A9 ct a C
  have C : Cx p9 s9 m9 g9 h9 c9 cX7_stroke 7 RX7 (some .int) D9 A9 ct a := C
  refine q_iload1 C dX7_stroke_0 ?_
  refine q_iconst (v := 1) C dX7_stroke_1 (by decide) ?_
  refine q_sipush (v := 1000) C dX7_stroke_2 (by decide) ?_
  refine qc_SI C (c_X7_in _ _ _ _) cw_X7_125 rfl rfl (Nat.le_of_ble_eq_true rfl) ⟨(Nat.le_of_ble_eq_true rfl), (Nat.le_of_ble_eq_true rfl)⟩ ⟨Nat.zero_le _, Nat.zero_le _⟩ dX7_stroke_5 ?_
  refine q_if_ne (tgt := 13) C dX7_stroke_8 (by decide) (fun c1 => ?_) (fun c1 => ?_)
  · refine q_iconst (v := 0) C dX7_stroke_13 (by decide) ?_
    refine q_istore4 C dX7_stroke_14 (by decide) (by intro w h0 h; first | exact absurd rfl h0 | (cases h <;> rfl)) ?_
    refine q_iload4 C dX7_stroke_16 ?_
    refine q_bipush (v := 10) C dX7_stroke_18 (by decide) ?_
    refine q_icmp_ge (tgt := 57) C dX7_stroke_20 (by decide) (fun c2 => absurd c2 (by decide)) (fun c2 => ?_)
    refine q_iload2 C dX7_stroke_23 ?_
    refine q_i2l C dX7_stroke_24 ?_
    refine q_iload3 C dX7_stroke_25 ?_
    refine q_i2l C dX7_stroke_26 ?_
    refine q_iload4 C dX7_stroke_27 ?_
    refine q_i2l C dX7_stroke_29 ?_
    refine q_lmul C dX7_stroke_30 ?_
    refine q_ladd C dX7_stroke_31 ?_
    refine q_lstore5 C dX7_stroke_32 (by decide) (by intro w h0 h; first | exact absurd rfl h0 | (cases h <;> rfl)) ?_
    refine q_lload5 C dX7_stroke_34 ?_
    refine q_lconst (v := 0) C dX7_stroke_36 (by decide) ?_
    refine q_lcmp C dX7_stroke_37 ?_
    refine q_by (((lg_cmp ((u2).toInt64 + ((u3).toInt64 * ((0 : Int32)).toInt64)) (0 : Int64)) < 0) ∨ (¬ ((lg_cmp ((u2).toInt64 + ((u3).toInt64 * ((0 : Int32)).toInt64)) (0 : Int64)) < 0) ∧ ¬ ((lg_cmp ((u2).toInt64 + ((u3).toInt64 * ((0 : Int32)).toInt64)) (u1).toInt64) ≤ 0))) (fun c5 => ?_) (fun c5 => ?_)
    · refine q_if_lt (tgt := 49) C dX7_stroke_38 (by decide) (fun c3 => ?_) (fun c3 => ?_)
      · refine q_iconst (v := -1) C dX7_stroke_49 (by decide) ?_
        exact q_iret C (by first | rfl | (rw [f_X7_stroke, if_neg c1, if_pos c5]; done) | (rw [f_X7_stroke, if_neg c1, if_pos c5]; rfl) | (simp only [f_X7_stroke, if_neg c1, if_pos c5]; done)) (by first | rfl | (rw [f_X7_stroke, if_neg c1, if_pos c5]; done) | (rw [f_X7_stroke, if_neg c1, if_pos c5]; rfl) | (simp only [f_X7_stroke, if_neg c1, if_pos c5]; done)) dX7_stroke_50
      · refine q_lload5 C dX7_stroke_41 ?_
        refine q_iload1 C dX7_stroke_43 ?_
        refine q_i2l C dX7_stroke_44 ?_
        refine q_lcmp C dX7_stroke_45 ?_
        refine q_if_le (tgt := 51) C dX7_stroke_46 (by decide) (fun c4 => ?_) (fun c4 => ?_)
        · exact absurd c5 (fun h => h.elim (fun h => absurd h c3) (fun h => absurd c4 h.2))
        · refine q_iconst (v := -1) C dX7_stroke_49 (by decide) ?_
          exact q_iret C (by first | rfl | (rw [f_X7_stroke, if_neg c1, if_pos c5]; done) | (rw [f_X7_stroke, if_neg c1, if_pos c5]; rfl) | (simp only [f_X7_stroke, if_neg c1, if_pos c5]; done)) (by first | rfl | (rw [f_X7_stroke, if_neg c1, if_pos c5]; done) | (rw [f_X7_stroke, if_neg c1, if_pos c5]; rfl) | (simp only [f_X7_stroke, if_neg c1, if_pos c5]; done)) dX7_stroke_50
    refine q_cut M 51 [some (.ref (a 44)), some (.int u1), some (.int u2), some (.int u3), some (.int (0 : Int32)), none, none] [] (fun hJ => ?_) ?_
    · refine q_if_lt (tgt := 49) C dX7_stroke_38 (by decide) (fun c3 => ?_) (fun c3 => ?_)
      · refine q_iconst (v := -1) C dX7_stroke_49 (by decide) ?_
        exact absurd (Or.inl c3) c5
      · refine q_lload5 C dX7_stroke_41 ?_
        refine q_iload1 C dX7_stroke_43 ?_
        refine q_i2l C dX7_stroke_44 ?_
        refine q_lcmp C dX7_stroke_45 ?_
        refine q_if_le (tgt := 51) C dX7_stroke_46 (by decide) (fun c4 => ?_) (fun c4 => ?_)
        · refine q_drop [some (.ref (a 44)), some (.int u1), some (.int u2), some (.int u3), some (.int (0 : Int32)), none, none] (by repeat' (first | exact trivial | rfl | constructor)) ?_
          exact hJ
        · refine q_iconst (v := -1) C dX7_stroke_49 (by decide) ?_
          exact absurd (Or.inr ⟨c3, c4⟩) c5
    refine q_iinc4 (dv := 1) C dX7_stroke_51 (by decide) (by decide) (by intro w h0 h; first | exact absurd rfl h0 | (cases h <;> rfl)) ?_
    refine q_cut M 54 [some (.ref (a 44)), some (.int u1), some (.int u2), some (.int u3), some (.int (1 : Int32)), none, none] [] (fun hJ => by rw [show ((0 : Int32) + 1) = (1 : Int32) from by decide]; exact hJ) ?_
    refine q_goto (tgt := 16) C dX7_stroke_54 (by decide) ?_
    refine q_iload4 C dX7_stroke_16 ?_
    refine q_bipush (v := 10) C dX7_stroke_18 (by decide) ?_
    refine q_icmp_ge (tgt := 57) C dX7_stroke_20 (by decide) (fun c6 => absurd c6 (by decide)) (fun c6 => ?_)
    refine q_iload2 C dX7_stroke_23 ?_
    refine q_i2l C dX7_stroke_24 ?_
    refine q_iload3 C dX7_stroke_25 ?_
    refine q_i2l C dX7_stroke_26 ?_
    refine q_iload4 C dX7_stroke_27 ?_
    refine q_i2l C dX7_stroke_29 ?_
    refine q_lmul C dX7_stroke_30 ?_
    refine q_ladd C dX7_stroke_31 ?_
    refine q_lstore5 C dX7_stroke_32 (by decide) (by intro w h0 h; first | exact absurd rfl h0 | (cases h <;> rfl)) ?_
    refine q_lload5 C dX7_stroke_34 ?_
    refine q_lconst (v := 0) C dX7_stroke_36 (by decide) ?_
    refine q_lcmp C dX7_stroke_37 ?_
    refine q_by (((lg_cmp ((u2).toInt64 + ((u3).toInt64 * ((1 : Int32)).toInt64)) (0 : Int64)) < 0) ∨ (¬ ((lg_cmp ((u2).toInt64 + ((u3).toInt64 * ((1 : Int32)).toInt64)) (0 : Int64)) < 0) ∧ ¬ ((lg_cmp ((u2).toInt64 + ((u3).toInt64 * ((1 : Int32)).toInt64)) (u1).toInt64) ≤ 0))) (fun c9 => ?_) (fun c9 => ?_)
    · refine q_if_lt (tgt := 49) C dX7_stroke_38 (by decide) (fun c7 => ?_) (fun c7 => ?_)
      · refine q_iconst (v := -1) C dX7_stroke_49 (by decide) ?_
        exact q_iret C (by first | rfl | (rw [f_X7_stroke, if_neg c1, if_neg c5, if_pos c9]; done) | (rw [f_X7_stroke, if_neg c1, if_neg c5, if_pos c9]; rfl) | (simp only [f_X7_stroke, if_neg c1, if_neg c5, if_pos c9]; done)) (by first | rfl | (rw [f_X7_stroke, if_neg c1, if_neg c5, if_pos c9]; done) | (rw [f_X7_stroke, if_neg c1, if_neg c5, if_pos c9]; rfl) | (simp only [f_X7_stroke, if_neg c1, if_neg c5, if_pos c9]; done)) dX7_stroke_50
      · refine q_lload5 C dX7_stroke_41 ?_
        refine q_iload1 C dX7_stroke_43 ?_
        refine q_i2l C dX7_stroke_44 ?_
        refine q_lcmp C dX7_stroke_45 ?_
        refine q_if_le (tgt := 51) C dX7_stroke_46 (by decide) (fun c8 => ?_) (fun c8 => ?_)
        · exact absurd c9 (fun h => h.elim (fun h => absurd h c7) (fun h => absurd c8 h.2))
        · refine q_iconst (v := -1) C dX7_stroke_49 (by decide) ?_
          exact q_iret C (by first | rfl | (rw [f_X7_stroke, if_neg c1, if_neg c5, if_pos c9]; done) | (rw [f_X7_stroke, if_neg c1, if_neg c5, if_pos c9]; rfl) | (simp only [f_X7_stroke, if_neg c1, if_neg c5, if_pos c9]; done)) (by first | rfl | (rw [f_X7_stroke, if_neg c1, if_neg c5, if_pos c9]; done) | (rw [f_X7_stroke, if_neg c1, if_neg c5, if_pos c9]; rfl) | (simp only [f_X7_stroke, if_neg c1, if_neg c5, if_pos c9]; done)) dX7_stroke_50
    refine q_cut M 51 [some (.ref (a 44)), some (.int u1), some (.int u2), some (.int u3), some (.int (1 : Int32)), none, none] [] (fun hJ => ?_) ?_
    · refine q_if_lt (tgt := 49) C dX7_stroke_38 (by decide) (fun c7 => ?_) (fun c7 => ?_)
      · refine q_iconst (v := -1) C dX7_stroke_49 (by decide) ?_
        exact absurd (Or.inl c7) c9
      · refine q_lload5 C dX7_stroke_41 ?_
        refine q_iload1 C dX7_stroke_43 ?_
        refine q_i2l C dX7_stroke_44 ?_
        refine q_lcmp C dX7_stroke_45 ?_
        refine q_if_le (tgt := 51) C dX7_stroke_46 (by decide) (fun c8 => ?_) (fun c8 => ?_)
        · refine q_drop [some (.ref (a 44)), some (.int u1), some (.int u2), some (.int u3), some (.int (1 : Int32)), none, none] (by repeat' (first | exact trivial | rfl | constructor)) ?_
          exact hJ
        · refine q_iconst (v := -1) C dX7_stroke_49 (by decide) ?_
          exact absurd (Or.inr ⟨c7, c8⟩) c9
    refine q_iinc4 (dv := 1) C dX7_stroke_51 (by decide) (by decide) (by intro w h0 h; first | exact absurd rfl h0 | (cases h <;> rfl)) ?_
    refine q_cut M 54 [some (.ref (a 44)), some (.int u1), some (.int u2), some (.int u3), some (.int (2 : Int32)), none, none] [] (fun hJ => by rw [show ((1 : Int32) + 1) = (2 : Int32) from by decide]; exact hJ) ?_
    refine q_goto (tgt := 16) C dX7_stroke_54 (by decide) ?_
    refine q_iload4 C dX7_stroke_16 ?_
    refine q_bipush (v := 10) C dX7_stroke_18 (by decide) ?_
    refine q_icmp_ge (tgt := 57) C dX7_stroke_20 (by decide) (fun c10 => absurd c10 (by decide)) (fun c10 => ?_)
    refine q_iload2 C dX7_stroke_23 ?_
    refine q_i2l C dX7_stroke_24 ?_
    refine q_iload3 C dX7_stroke_25 ?_
    refine q_i2l C dX7_stroke_26 ?_
    refine q_iload4 C dX7_stroke_27 ?_
    refine q_i2l C dX7_stroke_29 ?_
    refine q_lmul C dX7_stroke_30 ?_
    refine q_ladd C dX7_stroke_31 ?_
    refine q_lstore5 C dX7_stroke_32 (by decide) (by intro w h0 h; first | exact absurd rfl h0 | (cases h <;> rfl)) ?_
    refine q_lload5 C dX7_stroke_34 ?_
    refine q_lconst (v := 0) C dX7_stroke_36 (by decide) ?_
    refine q_lcmp C dX7_stroke_37 ?_
    refine q_by (((lg_cmp ((u2).toInt64 + ((u3).toInt64 * ((2 : Int32)).toInt64)) (0 : Int64)) < 0) ∨ (¬ ((lg_cmp ((u2).toInt64 + ((u3).toInt64 * ((2 : Int32)).toInt64)) (0 : Int64)) < 0) ∧ ¬ ((lg_cmp ((u2).toInt64 + ((u3).toInt64 * ((2 : Int32)).toInt64)) (u1).toInt64) ≤ 0))) (fun c13 => ?_) (fun c13 => ?_)
    · refine q_if_lt (tgt := 49) C dX7_stroke_38 (by decide) (fun c11 => ?_) (fun c11 => ?_)
      · refine q_iconst (v := -1) C dX7_stroke_49 (by decide) ?_
        exact q_iret C (by first | rfl | (rw [f_X7_stroke, if_neg c1, if_neg c5, if_neg c9, if_pos c13]; done) | (rw [f_X7_stroke, if_neg c1, if_neg c5, if_neg c9, if_pos c13]; rfl) | (simp only [f_X7_stroke, if_neg c1, if_neg c5, if_neg c9, if_pos c13]; done)) (by first | rfl | (rw [f_X7_stroke, if_neg c1, if_neg c5, if_neg c9, if_pos c13]; done) | (rw [f_X7_stroke, if_neg c1, if_neg c5, if_neg c9, if_pos c13]; rfl) | (simp only [f_X7_stroke, if_neg c1, if_neg c5, if_neg c9, if_pos c13]; done)) dX7_stroke_50
      · refine q_lload5 C dX7_stroke_41 ?_
        refine q_iload1 C dX7_stroke_43 ?_
        refine q_i2l C dX7_stroke_44 ?_
        refine q_lcmp C dX7_stroke_45 ?_
        refine q_if_le (tgt := 51) C dX7_stroke_46 (by decide) (fun c12 => ?_) (fun c12 => ?_)
        · exact absurd c13 (fun h => h.elim (fun h => absurd h c11) (fun h => absurd c12 h.2))
        · refine q_iconst (v := -1) C dX7_stroke_49 (by decide) ?_
          exact q_iret C (by first | rfl | (rw [f_X7_stroke, if_neg c1, if_neg c5, if_neg c9, if_pos c13]; done) | (rw [f_X7_stroke, if_neg c1, if_neg c5, if_neg c9, if_pos c13]; rfl) | (simp only [f_X7_stroke, if_neg c1, if_neg c5, if_neg c9, if_pos c13]; done)) (by first | rfl | (rw [f_X7_stroke, if_neg c1, if_neg c5, if_neg c9, if_pos c13]; done) | (rw [f_X7_stroke, if_neg c1, if_neg c5, if_neg c9, if_pos c13]; rfl) | (simp only [f_X7_stroke, if_neg c1, if_neg c5, if_neg c9, if_pos c13]; done)) dX7_stroke_50
    refine q_cut M 51 [some (.ref (a 44)), some (.int u1), some (.int u2), some (.int u3), some (.int (2 : Int32)), none, none] [] (fun hJ => ?_) ?_
    · refine q_if_lt (tgt := 49) C dX7_stroke_38 (by decide) (fun c11 => ?_) (fun c11 => ?_)
      · refine q_iconst (v := -1) C dX7_stroke_49 (by decide) ?_
        exact absurd (Or.inl c11) c13
      · refine q_lload5 C dX7_stroke_41 ?_
        refine q_iload1 C dX7_stroke_43 ?_
        refine q_i2l C dX7_stroke_44 ?_
        refine q_lcmp C dX7_stroke_45 ?_
        refine q_if_le (tgt := 51) C dX7_stroke_46 (by decide) (fun c12 => ?_) (fun c12 => ?_)
        · refine q_drop [some (.ref (a 44)), some (.int u1), some (.int u2), some (.int u3), some (.int (2 : Int32)), none, none] (by repeat' (first | exact trivial | rfl | constructor)) ?_
          exact hJ
        · refine q_iconst (v := -1) C dX7_stroke_49 (by decide) ?_
          exact absurd (Or.inr ⟨c11, c12⟩) c13
    refine q_iinc4 (dv := 1) C dX7_stroke_51 (by decide) (by decide) (by intro w h0 h; first | exact absurd rfl h0 | (cases h <;> rfl)) ?_
    refine q_cut M 54 [some (.ref (a 44)), some (.int u1), some (.int u2), some (.int u3), some (.int (3 : Int32)), none, none] [] (fun hJ => by rw [show ((2 : Int32) + 1) = (3 : Int32) from by decide]; exact hJ) ?_
    refine q_goto (tgt := 16) C dX7_stroke_54 (by decide) ?_
    refine q_iload4 C dX7_stroke_16 ?_
    refine q_bipush (v := 10) C dX7_stroke_18 (by decide) ?_
    refine q_icmp_ge (tgt := 57) C dX7_stroke_20 (by decide) (fun c14 => absurd c14 (by decide)) (fun c14 => ?_)
    refine q_iload2 C dX7_stroke_23 ?_
    refine q_i2l C dX7_stroke_24 ?_
    refine q_iload3 C dX7_stroke_25 ?_
    refine q_i2l C dX7_stroke_26 ?_
    refine q_iload4 C dX7_stroke_27 ?_
    refine q_i2l C dX7_stroke_29 ?_
    refine q_lmul C dX7_stroke_30 ?_
    refine q_ladd C dX7_stroke_31 ?_
    refine q_lstore5 C dX7_stroke_32 (by decide) (by intro w h0 h; first | exact absurd rfl h0 | (cases h <;> rfl)) ?_
    refine q_lload5 C dX7_stroke_34 ?_
    refine q_lconst (v := 0) C dX7_stroke_36 (by decide) ?_
    refine q_lcmp C dX7_stroke_37 ?_
    refine q_by (((lg_cmp ((u2).toInt64 + ((u3).toInt64 * ((3 : Int32)).toInt64)) (0 : Int64)) < 0) ∨ (¬ ((lg_cmp ((u2).toInt64 + ((u3).toInt64 * ((3 : Int32)).toInt64)) (0 : Int64)) < 0) ∧ ¬ ((lg_cmp ((u2).toInt64 + ((u3).toInt64 * ((3 : Int32)).toInt64)) (u1).toInt64) ≤ 0))) (fun c17 => ?_) (fun c17 => ?_)
    · refine q_if_lt (tgt := 49) C dX7_stroke_38 (by decide) (fun c15 => ?_) (fun c15 => ?_)
      · refine q_iconst (v := -1) C dX7_stroke_49 (by decide) ?_
        exact q_iret C (by first | rfl | (rw [f_X7_stroke, if_neg c1, if_neg c5, if_neg c9, if_neg c13, if_pos c17]; done) | (rw [f_X7_stroke, if_neg c1, if_neg c5, if_neg c9, if_neg c13, if_pos c17]; rfl) | (simp only [f_X7_stroke, if_neg c1, if_neg c5, if_neg c9, if_neg c13, if_pos c17]; done)) (by first | rfl | (rw [f_X7_stroke, if_neg c1, if_neg c5, if_neg c9, if_neg c13, if_pos c17]; done) | (rw [f_X7_stroke, if_neg c1, if_neg c5, if_neg c9, if_neg c13, if_pos c17]; rfl) | (simp only [f_X7_stroke, if_neg c1, if_neg c5, if_neg c9, if_neg c13, if_pos c17]; done)) dX7_stroke_50
      · refine q_lload5 C dX7_stroke_41 ?_
        refine q_iload1 C dX7_stroke_43 ?_
        refine q_i2l C dX7_stroke_44 ?_
        refine q_lcmp C dX7_stroke_45 ?_
        refine q_if_le (tgt := 51) C dX7_stroke_46 (by decide) (fun c16 => ?_) (fun c16 => ?_)
        · exact absurd c17 (fun h => h.elim (fun h => absurd h c15) (fun h => absurd c16 h.2))
        · refine q_iconst (v := -1) C dX7_stroke_49 (by decide) ?_
          exact q_iret C (by first | rfl | (rw [f_X7_stroke, if_neg c1, if_neg c5, if_neg c9, if_neg c13, if_pos c17]; done) | (rw [f_X7_stroke, if_neg c1, if_neg c5, if_neg c9, if_neg c13, if_pos c17]; rfl) | (simp only [f_X7_stroke, if_neg c1, if_neg c5, if_neg c9, if_neg c13, if_pos c17]; done)) (by first | rfl | (rw [f_X7_stroke, if_neg c1, if_neg c5, if_neg c9, if_neg c13, if_pos c17]; done) | (rw [f_X7_stroke, if_neg c1, if_neg c5, if_neg c9, if_neg c13, if_pos c17]; rfl) | (simp only [f_X7_stroke, if_neg c1, if_neg c5, if_neg c9, if_neg c13, if_pos c17]; done)) dX7_stroke_50
    refine q_cut M 51 [some (.ref (a 44)), some (.int u1), some (.int u2), some (.int u3), some (.int (3 : Int32)), none, none] [] (fun hJ => ?_) ?_
    · refine q_if_lt (tgt := 49) C dX7_stroke_38 (by decide) (fun c15 => ?_) (fun c15 => ?_)
      · refine q_iconst (v := -1) C dX7_stroke_49 (by decide) ?_
        exact absurd (Or.inl c15) c17
      · refine q_lload5 C dX7_stroke_41 ?_
        refine q_iload1 C dX7_stroke_43 ?_
        refine q_i2l C dX7_stroke_44 ?_
        refine q_lcmp C dX7_stroke_45 ?_
        refine q_if_le (tgt := 51) C dX7_stroke_46 (by decide) (fun c16 => ?_) (fun c16 => ?_)
        · refine q_drop [some (.ref (a 44)), some (.int u1), some (.int u2), some (.int u3), some (.int (3 : Int32)), none, none] (by repeat' (first | exact trivial | rfl | constructor)) ?_
          exact hJ
        · refine q_iconst (v := -1) C dX7_stroke_49 (by decide) ?_
          exact absurd (Or.inr ⟨c15, c16⟩) c17
    refine q_iinc4 (dv := 1) C dX7_stroke_51 (by decide) (by decide) (by intro w h0 h; first | exact absurd rfl h0 | (cases h <;> rfl)) ?_
    refine q_cut M 54 [some (.ref (a 44)), some (.int u1), some (.int u2), some (.int u3), some (.int (4 : Int32)), none, none] [] (fun hJ => by rw [show ((3 : Int32) + 1) = (4 : Int32) from by decide]; exact hJ) ?_
    refine q_goto (tgt := 16) C dX7_stroke_54 (by decide) ?_
    refine q_iload4 C dX7_stroke_16 ?_
    refine q_bipush (v := 10) C dX7_stroke_18 (by decide) ?_
    refine q_icmp_ge (tgt := 57) C dX7_stroke_20 (by decide) (fun c18 => absurd c18 (by decide)) (fun c18 => ?_)
    refine q_iload2 C dX7_stroke_23 ?_
    refine q_i2l C dX7_stroke_24 ?_
    refine q_iload3 C dX7_stroke_25 ?_
    refine q_i2l C dX7_stroke_26 ?_
    refine q_iload4 C dX7_stroke_27 ?_
    refine q_i2l C dX7_stroke_29 ?_
    refine q_lmul C dX7_stroke_30 ?_
    refine q_ladd C dX7_stroke_31 ?_
    refine q_lstore5 C dX7_stroke_32 (by decide) (by intro w h0 h; first | exact absurd rfl h0 | (cases h <;> rfl)) ?_
    refine q_lload5 C dX7_stroke_34 ?_
    refine q_lconst (v := 0) C dX7_stroke_36 (by decide) ?_
    refine q_lcmp C dX7_stroke_37 ?_
    refine q_by (((lg_cmp ((u2).toInt64 + ((u3).toInt64 * ((4 : Int32)).toInt64)) (0 : Int64)) < 0) ∨ (¬ ((lg_cmp ((u2).toInt64 + ((u3).toInt64 * ((4 : Int32)).toInt64)) (0 : Int64)) < 0) ∧ ¬ ((lg_cmp ((u2).toInt64 + ((u3).toInt64 * ((4 : Int32)).toInt64)) (u1).toInt64) ≤ 0))) (fun c21 => ?_) (fun c21 => ?_)
    · refine q_if_lt (tgt := 49) C dX7_stroke_38 (by decide) (fun c19 => ?_) (fun c19 => ?_)
      · refine q_iconst (v := -1) C dX7_stroke_49 (by decide) ?_
        exact q_iret C (by first | rfl | (rw [f_X7_stroke, if_neg c1, if_neg c5, if_neg c9, if_neg c13, if_neg c17, if_pos c21]; done) | (rw [f_X7_stroke, if_neg c1, if_neg c5, if_neg c9, if_neg c13, if_neg c17, if_pos c21]; rfl) | (simp only [f_X7_stroke, if_neg c1, if_neg c5, if_neg c9, if_neg c13, if_neg c17, if_pos c21]; done)) (by first | rfl | (rw [f_X7_stroke, if_neg c1, if_neg c5, if_neg c9, if_neg c13, if_neg c17, if_pos c21]; done) | (rw [f_X7_stroke, if_neg c1, if_neg c5, if_neg c9, if_neg c13, if_neg c17, if_pos c21]; rfl) | (simp only [f_X7_stroke, if_neg c1, if_neg c5, if_neg c9, if_neg c13, if_neg c17, if_pos c21]; done)) dX7_stroke_50
      · refine q_lload5 C dX7_stroke_41 ?_
        refine q_iload1 C dX7_stroke_43 ?_
        refine q_i2l C dX7_stroke_44 ?_
        refine q_lcmp C dX7_stroke_45 ?_
        refine q_if_le (tgt := 51) C dX7_stroke_46 (by decide) (fun c20 => ?_) (fun c20 => ?_)
        · exact absurd c21 (fun h => h.elim (fun h => absurd h c19) (fun h => absurd c20 h.2))
        · refine q_iconst (v := -1) C dX7_stroke_49 (by decide) ?_
          exact q_iret C (by first | rfl | (rw [f_X7_stroke, if_neg c1, if_neg c5, if_neg c9, if_neg c13, if_neg c17, if_pos c21]; done) | (rw [f_X7_stroke, if_neg c1, if_neg c5, if_neg c9, if_neg c13, if_neg c17, if_pos c21]; rfl) | (simp only [f_X7_stroke, if_neg c1, if_neg c5, if_neg c9, if_neg c13, if_neg c17, if_pos c21]; done)) (by first | rfl | (rw [f_X7_stroke, if_neg c1, if_neg c5, if_neg c9, if_neg c13, if_neg c17, if_pos c21]; done) | (rw [f_X7_stroke, if_neg c1, if_neg c5, if_neg c9, if_neg c13, if_neg c17, if_pos c21]; rfl) | (simp only [f_X7_stroke, if_neg c1, if_neg c5, if_neg c9, if_neg c13, if_neg c17, if_pos c21]; done)) dX7_stroke_50
    refine q_cut M 51 [some (.ref (a 44)), some (.int u1), some (.int u2), some (.int u3), some (.int (4 : Int32)), none, none] [] (fun hJ => ?_) ?_
    · refine q_if_lt (tgt := 49) C dX7_stroke_38 (by decide) (fun c19 => ?_) (fun c19 => ?_)
      · refine q_iconst (v := -1) C dX7_stroke_49 (by decide) ?_
        exact absurd (Or.inl c19) c21
      · refine q_lload5 C dX7_stroke_41 ?_
        refine q_iload1 C dX7_stroke_43 ?_
        refine q_i2l C dX7_stroke_44 ?_
        refine q_lcmp C dX7_stroke_45 ?_
        refine q_if_le (tgt := 51) C dX7_stroke_46 (by decide) (fun c20 => ?_) (fun c20 => ?_)
        · refine q_drop [some (.ref (a 44)), some (.int u1), some (.int u2), some (.int u3), some (.int (4 : Int32)), none, none] (by repeat' (first | exact trivial | rfl | constructor)) ?_
          exact hJ
        · refine q_iconst (v := -1) C dX7_stroke_49 (by decide) ?_
          exact absurd (Or.inr ⟨c19, c20⟩) c21
    refine q_iinc4 (dv := 1) C dX7_stroke_51 (by decide) (by decide) (by intro w h0 h; first | exact absurd rfl h0 | (cases h <;> rfl)) ?_
    refine q_cut M 54 [some (.ref (a 44)), some (.int u1), some (.int u2), some (.int u3), some (.int (5 : Int32)), none, none] [] (fun hJ => by rw [show ((4 : Int32) + 1) = (5 : Int32) from by decide]; exact hJ) ?_
    refine q_goto (tgt := 16) C dX7_stroke_54 (by decide) ?_
    refine q_iload4 C dX7_stroke_16 ?_
    refine q_bipush (v := 10) C dX7_stroke_18 (by decide) ?_
    refine q_icmp_ge (tgt := 57) C dX7_stroke_20 (by decide) (fun c22 => absurd c22 (by decide)) (fun c22 => ?_)
    refine q_iload2 C dX7_stroke_23 ?_
    refine q_i2l C dX7_stroke_24 ?_
    refine q_iload3 C dX7_stroke_25 ?_
    refine q_i2l C dX7_stroke_26 ?_
    refine q_iload4 C dX7_stroke_27 ?_
    refine q_i2l C dX7_stroke_29 ?_
    refine q_lmul C dX7_stroke_30 ?_
    refine q_ladd C dX7_stroke_31 ?_
    refine q_lstore5 C dX7_stroke_32 (by decide) (by intro w h0 h; first | exact absurd rfl h0 | (cases h <;> rfl)) ?_
    refine q_lload5 C dX7_stroke_34 ?_
    refine q_lconst (v := 0) C dX7_stroke_36 (by decide) ?_
    refine q_lcmp C dX7_stroke_37 ?_
    refine q_by (((lg_cmp ((u2).toInt64 + ((u3).toInt64 * ((5 : Int32)).toInt64)) (0 : Int64)) < 0) ∨ (¬ ((lg_cmp ((u2).toInt64 + ((u3).toInt64 * ((5 : Int32)).toInt64)) (0 : Int64)) < 0) ∧ ¬ ((lg_cmp ((u2).toInt64 + ((u3).toInt64 * ((5 : Int32)).toInt64)) (u1).toInt64) ≤ 0))) (fun c25 => ?_) (fun c25 => ?_)
    · refine q_if_lt (tgt := 49) C dX7_stroke_38 (by decide) (fun c23 => ?_) (fun c23 => ?_)
      · refine q_iconst (v := -1) C dX7_stroke_49 (by decide) ?_
        exact q_iret C (by first | rfl | (rw [f_X7_stroke, if_neg c1, if_neg c5, if_neg c9, if_neg c13, if_neg c17, if_neg c21, if_pos c25]; done) | (rw [f_X7_stroke, if_neg c1, if_neg c5, if_neg c9, if_neg c13, if_neg c17, if_neg c21, if_pos c25]; rfl) | (simp only [f_X7_stroke, if_neg c1, if_neg c5, if_neg c9, if_neg c13, if_neg c17, if_neg c21, if_pos c25]; done)) (by first | rfl | (rw [f_X7_stroke, if_neg c1, if_neg c5, if_neg c9, if_neg c13, if_neg c17, if_neg c21, if_pos c25]; done) | (rw [f_X7_stroke, if_neg c1, if_neg c5, if_neg c9, if_neg c13, if_neg c17, if_neg c21, if_pos c25]; rfl) | (simp only [f_X7_stroke, if_neg c1, if_neg c5, if_neg c9, if_neg c13, if_neg c17, if_neg c21, if_pos c25]; done)) dX7_stroke_50
      · refine q_lload5 C dX7_stroke_41 ?_
        refine q_iload1 C dX7_stroke_43 ?_
        refine q_i2l C dX7_stroke_44 ?_
        refine q_lcmp C dX7_stroke_45 ?_
        refine q_if_le (tgt := 51) C dX7_stroke_46 (by decide) (fun c24 => ?_) (fun c24 => ?_)
        · exact absurd c25 (fun h => h.elim (fun h => absurd h c23) (fun h => absurd c24 h.2))
        · refine q_iconst (v := -1) C dX7_stroke_49 (by decide) ?_
          exact q_iret C (by first | rfl | (rw [f_X7_stroke, if_neg c1, if_neg c5, if_neg c9, if_neg c13, if_neg c17, if_neg c21, if_pos c25]; done) | (rw [f_X7_stroke, if_neg c1, if_neg c5, if_neg c9, if_neg c13, if_neg c17, if_neg c21, if_pos c25]; rfl) | (simp only [f_X7_stroke, if_neg c1, if_neg c5, if_neg c9, if_neg c13, if_neg c17, if_neg c21, if_pos c25]; done)) (by first | rfl | (rw [f_X7_stroke, if_neg c1, if_neg c5, if_neg c9, if_neg c13, if_neg c17, if_neg c21, if_pos c25]; done) | (rw [f_X7_stroke, if_neg c1, if_neg c5, if_neg c9, if_neg c13, if_neg c17, if_neg c21, if_pos c25]; rfl) | (simp only [f_X7_stroke, if_neg c1, if_neg c5, if_neg c9, if_neg c13, if_neg c17, if_neg c21, if_pos c25]; done)) dX7_stroke_50
    refine q_cut M 51 [some (.ref (a 44)), some (.int u1), some (.int u2), some (.int u3), some (.int (5 : Int32)), none, none] [] (fun hJ => ?_) ?_
    · refine q_if_lt (tgt := 49) C dX7_stroke_38 (by decide) (fun c23 => ?_) (fun c23 => ?_)
      · refine q_iconst (v := -1) C dX7_stroke_49 (by decide) ?_
        exact absurd (Or.inl c23) c25
      · refine q_lload5 C dX7_stroke_41 ?_
        refine q_iload1 C dX7_stroke_43 ?_
        refine q_i2l C dX7_stroke_44 ?_
        refine q_lcmp C dX7_stroke_45 ?_
        refine q_if_le (tgt := 51) C dX7_stroke_46 (by decide) (fun c24 => ?_) (fun c24 => ?_)
        · refine q_drop [some (.ref (a 44)), some (.int u1), some (.int u2), some (.int u3), some (.int (5 : Int32)), none, none] (by repeat' (first | exact trivial | rfl | constructor)) ?_
          exact hJ
        · refine q_iconst (v := -1) C dX7_stroke_49 (by decide) ?_
          exact absurd (Or.inr ⟨c23, c24⟩) c25
    refine q_iinc4 (dv := 1) C dX7_stroke_51 (by decide) (by decide) (by intro w h0 h; first | exact absurd rfl h0 | (cases h <;> rfl)) ?_
    refine q_cut M 54 [some (.ref (a 44)), some (.int u1), some (.int u2), some (.int u3), some (.int (6 : Int32)), none, none] [] (fun hJ => by rw [show ((5 : Int32) + 1) = (6 : Int32) from by decide]; exact hJ) ?_
    refine q_goto (tgt := 16) C dX7_stroke_54 (by decide) ?_
    refine q_iload4 C dX7_stroke_16 ?_
    refine q_bipush (v := 10) C dX7_stroke_18 (by decide) ?_
    refine q_icmp_ge (tgt := 57) C dX7_stroke_20 (by decide) (fun c26 => absurd c26 (by decide)) (fun c26 => ?_)
    refine q_iload2 C dX7_stroke_23 ?_
    refine q_i2l C dX7_stroke_24 ?_
    refine q_iload3 C dX7_stroke_25 ?_
    refine q_i2l C dX7_stroke_26 ?_
    refine q_iload4 C dX7_stroke_27 ?_
    refine q_i2l C dX7_stroke_29 ?_
    refine q_lmul C dX7_stroke_30 ?_
    refine q_ladd C dX7_stroke_31 ?_
    refine q_lstore5 C dX7_stroke_32 (by decide) (by intro w h0 h; first | exact absurd rfl h0 | (cases h <;> rfl)) ?_
    refine q_lload5 C dX7_stroke_34 ?_
    refine q_lconst (v := 0) C dX7_stroke_36 (by decide) ?_
    refine q_lcmp C dX7_stroke_37 ?_
    refine q_by (((lg_cmp ((u2).toInt64 + ((u3).toInt64 * ((6 : Int32)).toInt64)) (0 : Int64)) < 0) ∨ (¬ ((lg_cmp ((u2).toInt64 + ((u3).toInt64 * ((6 : Int32)).toInt64)) (0 : Int64)) < 0) ∧ ¬ ((lg_cmp ((u2).toInt64 + ((u3).toInt64 * ((6 : Int32)).toInt64)) (u1).toInt64) ≤ 0))) (fun c29 => ?_) (fun c29 => ?_)
    · refine q_if_lt (tgt := 49) C dX7_stroke_38 (by decide) (fun c27 => ?_) (fun c27 => ?_)
      · refine q_iconst (v := -1) C dX7_stroke_49 (by decide) ?_
        exact q_iret C (by first | rfl | (rw [f_X7_stroke, if_neg c1, if_neg c5, if_neg c9, if_neg c13, if_neg c17, if_neg c21, if_neg c25, if_pos c29]; done) | (rw [f_X7_stroke, if_neg c1, if_neg c5, if_neg c9, if_neg c13, if_neg c17, if_neg c21, if_neg c25, if_pos c29]; rfl) | (simp only [f_X7_stroke, if_neg c1, if_neg c5, if_neg c9, if_neg c13, if_neg c17, if_neg c21, if_neg c25, if_pos c29]; done)) (by first | rfl | (rw [f_X7_stroke, if_neg c1, if_neg c5, if_neg c9, if_neg c13, if_neg c17, if_neg c21, if_neg c25, if_pos c29]; done) | (rw [f_X7_stroke, if_neg c1, if_neg c5, if_neg c9, if_neg c13, if_neg c17, if_neg c21, if_neg c25, if_pos c29]; rfl) | (simp only [f_X7_stroke, if_neg c1, if_neg c5, if_neg c9, if_neg c13, if_neg c17, if_neg c21, if_neg c25, if_pos c29]; done)) dX7_stroke_50
      · refine q_lload5 C dX7_stroke_41 ?_
        refine q_iload1 C dX7_stroke_43 ?_
        refine q_i2l C dX7_stroke_44 ?_
        refine q_lcmp C dX7_stroke_45 ?_
        refine q_if_le (tgt := 51) C dX7_stroke_46 (by decide) (fun c28 => ?_) (fun c28 => ?_)
        · exact absurd c29 (fun h => h.elim (fun h => absurd h c27) (fun h => absurd c28 h.2))
        · refine q_iconst (v := -1) C dX7_stroke_49 (by decide) ?_
          exact q_iret C (by first | rfl | (rw [f_X7_stroke, if_neg c1, if_neg c5, if_neg c9, if_neg c13, if_neg c17, if_neg c21, if_neg c25, if_pos c29]; done) | (rw [f_X7_stroke, if_neg c1, if_neg c5, if_neg c9, if_neg c13, if_neg c17, if_neg c21, if_neg c25, if_pos c29]; rfl) | (simp only [f_X7_stroke, if_neg c1, if_neg c5, if_neg c9, if_neg c13, if_neg c17, if_neg c21, if_neg c25, if_pos c29]; done)) (by first | rfl | (rw [f_X7_stroke, if_neg c1, if_neg c5, if_neg c9, if_neg c13, if_neg c17, if_neg c21, if_neg c25, if_pos c29]; done) | (rw [f_X7_stroke, if_neg c1, if_neg c5, if_neg c9, if_neg c13, if_neg c17, if_neg c21, if_neg c25, if_pos c29]; rfl) | (simp only [f_X7_stroke, if_neg c1, if_neg c5, if_neg c9, if_neg c13, if_neg c17, if_neg c21, if_neg c25, if_pos c29]; done)) dX7_stroke_50
    refine q_cut M 51 [some (.ref (a 44)), some (.int u1), some (.int u2), some (.int u3), some (.int (6 : Int32)), none, none] [] (fun hJ => ?_) ?_
    · refine q_if_lt (tgt := 49) C dX7_stroke_38 (by decide) (fun c27 => ?_) (fun c27 => ?_)
      · refine q_iconst (v := -1) C dX7_stroke_49 (by decide) ?_
        exact absurd (Or.inl c27) c29
      · refine q_lload5 C dX7_stroke_41 ?_
        refine q_iload1 C dX7_stroke_43 ?_
        refine q_i2l C dX7_stroke_44 ?_
        refine q_lcmp C dX7_stroke_45 ?_
        refine q_if_le (tgt := 51) C dX7_stroke_46 (by decide) (fun c28 => ?_) (fun c28 => ?_)
        · refine q_drop [some (.ref (a 44)), some (.int u1), some (.int u2), some (.int u3), some (.int (6 : Int32)), none, none] (by repeat' (first | exact trivial | rfl | constructor)) ?_
          exact hJ
        · refine q_iconst (v := -1) C dX7_stroke_49 (by decide) ?_
          exact absurd (Or.inr ⟨c27, c28⟩) c29
    refine q_iinc4 (dv := 1) C dX7_stroke_51 (by decide) (by decide) (by intro w h0 h; first | exact absurd rfl h0 | (cases h <;> rfl)) ?_
    refine q_cut M 54 [some (.ref (a 44)), some (.int u1), some (.int u2), some (.int u3), some (.int (7 : Int32)), none, none] [] (fun hJ => by rw [show ((6 : Int32) + 1) = (7 : Int32) from by decide]; exact hJ) ?_
    refine q_goto (tgt := 16) C dX7_stroke_54 (by decide) ?_
    refine q_iload4 C dX7_stroke_16 ?_
    refine q_bipush (v := 10) C dX7_stroke_18 (by decide) ?_
    refine q_icmp_ge (tgt := 57) C dX7_stroke_20 (by decide) (fun c30 => absurd c30 (by decide)) (fun c30 => ?_)
    refine q_iload2 C dX7_stroke_23 ?_
    refine q_i2l C dX7_stroke_24 ?_
    refine q_iload3 C dX7_stroke_25 ?_
    refine q_i2l C dX7_stroke_26 ?_
    refine q_iload4 C dX7_stroke_27 ?_
    refine q_i2l C dX7_stroke_29 ?_
    refine q_lmul C dX7_stroke_30 ?_
    refine q_ladd C dX7_stroke_31 ?_
    refine q_lstore5 C dX7_stroke_32 (by decide) (by intro w h0 h; first | exact absurd rfl h0 | (cases h <;> rfl)) ?_
    refine q_lload5 C dX7_stroke_34 ?_
    refine q_lconst (v := 0) C dX7_stroke_36 (by decide) ?_
    refine q_lcmp C dX7_stroke_37 ?_
    refine q_by (((lg_cmp ((u2).toInt64 + ((u3).toInt64 * ((7 : Int32)).toInt64)) (0 : Int64)) < 0) ∨ (¬ ((lg_cmp ((u2).toInt64 + ((u3).toInt64 * ((7 : Int32)).toInt64)) (0 : Int64)) < 0) ∧ ¬ ((lg_cmp ((u2).toInt64 + ((u3).toInt64 * ((7 : Int32)).toInt64)) (u1).toInt64) ≤ 0))) (fun c33 => ?_) (fun c33 => ?_)
    · refine q_if_lt (tgt := 49) C dX7_stroke_38 (by decide) (fun c31 => ?_) (fun c31 => ?_)
      · refine q_iconst (v := -1) C dX7_stroke_49 (by decide) ?_
        exact q_iret C (by first | rfl | (rw [f_X7_stroke, if_neg c1, if_neg c5, if_neg c9, if_neg c13, if_neg c17, if_neg c21, if_neg c25, if_neg c29, if_pos c33]; done) | (rw [f_X7_stroke, if_neg c1, if_neg c5, if_neg c9, if_neg c13, if_neg c17, if_neg c21, if_neg c25, if_neg c29, if_pos c33]; rfl) | (simp only [f_X7_stroke, if_neg c1, if_neg c5, if_neg c9, if_neg c13, if_neg c17, if_neg c21, if_neg c25, if_neg c29, if_pos c33]; done)) (by first | rfl | (rw [f_X7_stroke, if_neg c1, if_neg c5, if_neg c9, if_neg c13, if_neg c17, if_neg c21, if_neg c25, if_neg c29, if_pos c33]; done) | (rw [f_X7_stroke, if_neg c1, if_neg c5, if_neg c9, if_neg c13, if_neg c17, if_neg c21, if_neg c25, if_neg c29, if_pos c33]; rfl) | (simp only [f_X7_stroke, if_neg c1, if_neg c5, if_neg c9, if_neg c13, if_neg c17, if_neg c21, if_neg c25, if_neg c29, if_pos c33]; done)) dX7_stroke_50
      · refine q_lload5 C dX7_stroke_41 ?_
        refine q_iload1 C dX7_stroke_43 ?_
        refine q_i2l C dX7_stroke_44 ?_
        refine q_lcmp C dX7_stroke_45 ?_
        refine q_if_le (tgt := 51) C dX7_stroke_46 (by decide) (fun c32 => ?_) (fun c32 => ?_)
        · exact absurd c33 (fun h => h.elim (fun h => absurd h c31) (fun h => absurd c32 h.2))
        · refine q_iconst (v := -1) C dX7_stroke_49 (by decide) ?_
          exact q_iret C (by first | rfl | (rw [f_X7_stroke, if_neg c1, if_neg c5, if_neg c9, if_neg c13, if_neg c17, if_neg c21, if_neg c25, if_neg c29, if_pos c33]; done) | (rw [f_X7_stroke, if_neg c1, if_neg c5, if_neg c9, if_neg c13, if_neg c17, if_neg c21, if_neg c25, if_neg c29, if_pos c33]; rfl) | (simp only [f_X7_stroke, if_neg c1, if_neg c5, if_neg c9, if_neg c13, if_neg c17, if_neg c21, if_neg c25, if_neg c29, if_pos c33]; done)) (by first | rfl | (rw [f_X7_stroke, if_neg c1, if_neg c5, if_neg c9, if_neg c13, if_neg c17, if_neg c21, if_neg c25, if_neg c29, if_pos c33]; done) | (rw [f_X7_stroke, if_neg c1, if_neg c5, if_neg c9, if_neg c13, if_neg c17, if_neg c21, if_neg c25, if_neg c29, if_pos c33]; rfl) | (simp only [f_X7_stroke, if_neg c1, if_neg c5, if_neg c9, if_neg c13, if_neg c17, if_neg c21, if_neg c25, if_neg c29, if_pos c33]; done)) dX7_stroke_50
    refine q_cut M 51 [some (.ref (a 44)), some (.int u1), some (.int u2), some (.int u3), some (.int (7 : Int32)), none, none] [] (fun hJ => ?_) ?_
    · refine q_if_lt (tgt := 49) C dX7_stroke_38 (by decide) (fun c31 => ?_) (fun c31 => ?_)
      · refine q_iconst (v := -1) C dX7_stroke_49 (by decide) ?_
        exact absurd (Or.inl c31) c33
      · refine q_lload5 C dX7_stroke_41 ?_
        refine q_iload1 C dX7_stroke_43 ?_
        refine q_i2l C dX7_stroke_44 ?_
        refine q_lcmp C dX7_stroke_45 ?_
        refine q_if_le (tgt := 51) C dX7_stroke_46 (by decide) (fun c32 => ?_) (fun c32 => ?_)
        · refine q_drop [some (.ref (a 44)), some (.int u1), some (.int u2), some (.int u3), some (.int (7 : Int32)), none, none] (by repeat' (first | exact trivial | rfl | constructor)) ?_
          exact hJ
        · refine q_iconst (v := -1) C dX7_stroke_49 (by decide) ?_
          exact absurd (Or.inr ⟨c31, c32⟩) c33
    refine q_iinc4 (dv := 1) C dX7_stroke_51 (by decide) (by decide) (by intro w h0 h; first | exact absurd rfl h0 | (cases h <;> rfl)) ?_
    refine q_cut M 54 [some (.ref (a 44)), some (.int u1), some (.int u2), some (.int u3), some (.int (8 : Int32)), none, none] [] (fun hJ => by rw [show ((7 : Int32) + 1) = (8 : Int32) from by decide]; exact hJ) ?_
    refine q_goto (tgt := 16) C dX7_stroke_54 (by decide) ?_
    refine q_iload4 C dX7_stroke_16 ?_
    refine q_bipush (v := 10) C dX7_stroke_18 (by decide) ?_
    refine q_icmp_ge (tgt := 57) C dX7_stroke_20 (by decide) (fun c34 => absurd c34 (by decide)) (fun c34 => ?_)
    refine q_iload2 C dX7_stroke_23 ?_
    refine q_i2l C dX7_stroke_24 ?_
    refine q_iload3 C dX7_stroke_25 ?_
    refine q_i2l C dX7_stroke_26 ?_
    refine q_iload4 C dX7_stroke_27 ?_
    refine q_i2l C dX7_stroke_29 ?_
    refine q_lmul C dX7_stroke_30 ?_
    refine q_ladd C dX7_stroke_31 ?_
    refine q_lstore5 C dX7_stroke_32 (by decide) (by intro w h0 h; first | exact absurd rfl h0 | (cases h <;> rfl)) ?_
    refine q_lload5 C dX7_stroke_34 ?_
    refine q_lconst (v := 0) C dX7_stroke_36 (by decide) ?_
    refine q_lcmp C dX7_stroke_37 ?_
    refine q_by (((lg_cmp ((u2).toInt64 + ((u3).toInt64 * ((8 : Int32)).toInt64)) (0 : Int64)) < 0) ∨ (¬ ((lg_cmp ((u2).toInt64 + ((u3).toInt64 * ((8 : Int32)).toInt64)) (0 : Int64)) < 0) ∧ ¬ ((lg_cmp ((u2).toInt64 + ((u3).toInt64 * ((8 : Int32)).toInt64)) (u1).toInt64) ≤ 0))) (fun c37 => ?_) (fun c37 => ?_)
    · refine q_if_lt (tgt := 49) C dX7_stroke_38 (by decide) (fun c35 => ?_) (fun c35 => ?_)
      · refine q_iconst (v := -1) C dX7_stroke_49 (by decide) ?_
        exact q_iret C (by first | rfl | (rw [f_X7_stroke, if_neg c1, if_neg c5, if_neg c9, if_neg c13, if_neg c17, if_neg c21, if_neg c25, if_neg c29, if_neg c33, if_pos c37]; done) | (rw [f_X7_stroke, if_neg c1, if_neg c5, if_neg c9, if_neg c13, if_neg c17, if_neg c21, if_neg c25, if_neg c29, if_neg c33, if_pos c37]; rfl) | (simp only [f_X7_stroke, if_neg c1, if_neg c5, if_neg c9, if_neg c13, if_neg c17, if_neg c21, if_neg c25, if_neg c29, if_neg c33, if_pos c37]; done)) (by first | rfl | (rw [f_X7_stroke, if_neg c1, if_neg c5, if_neg c9, if_neg c13, if_neg c17, if_neg c21, if_neg c25, if_neg c29, if_neg c33, if_pos c37]; done) | (rw [f_X7_stroke, if_neg c1, if_neg c5, if_neg c9, if_neg c13, if_neg c17, if_neg c21, if_neg c25, if_neg c29, if_neg c33, if_pos c37]; rfl) | (simp only [f_X7_stroke, if_neg c1, if_neg c5, if_neg c9, if_neg c13, if_neg c17, if_neg c21, if_neg c25, if_neg c29, if_neg c33, if_pos c37]; done)) dX7_stroke_50
      · refine q_lload5 C dX7_stroke_41 ?_
        refine q_iload1 C dX7_stroke_43 ?_
        refine q_i2l C dX7_stroke_44 ?_
        refine q_lcmp C dX7_stroke_45 ?_
        refine q_if_le (tgt := 51) C dX7_stroke_46 (by decide) (fun c36 => ?_) (fun c36 => ?_)
        · exact absurd c37 (fun h => h.elim (fun h => absurd h c35) (fun h => absurd c36 h.2))
        · refine q_iconst (v := -1) C dX7_stroke_49 (by decide) ?_
          exact q_iret C (by first | rfl | (rw [f_X7_stroke, if_neg c1, if_neg c5, if_neg c9, if_neg c13, if_neg c17, if_neg c21, if_neg c25, if_neg c29, if_neg c33, if_pos c37]; done) | (rw [f_X7_stroke, if_neg c1, if_neg c5, if_neg c9, if_neg c13, if_neg c17, if_neg c21, if_neg c25, if_neg c29, if_neg c33, if_pos c37]; rfl) | (simp only [f_X7_stroke, if_neg c1, if_neg c5, if_neg c9, if_neg c13, if_neg c17, if_neg c21, if_neg c25, if_neg c29, if_neg c33, if_pos c37]; done)) (by first | rfl | (rw [f_X7_stroke, if_neg c1, if_neg c5, if_neg c9, if_neg c13, if_neg c17, if_neg c21, if_neg c25, if_neg c29, if_neg c33, if_pos c37]; done) | (rw [f_X7_stroke, if_neg c1, if_neg c5, if_neg c9, if_neg c13, if_neg c17, if_neg c21, if_neg c25, if_neg c29, if_neg c33, if_pos c37]; rfl) | (simp only [f_X7_stroke, if_neg c1, if_neg c5, if_neg c9, if_neg c13, if_neg c17, if_neg c21, if_neg c25, if_neg c29, if_neg c33, if_pos c37]; done)) dX7_stroke_50
    refine q_cut M 51 [some (.ref (a 44)), some (.int u1), some (.int u2), some (.int u3), some (.int (8 : Int32)), none, none] [] (fun hJ => ?_) ?_
    · refine q_if_lt (tgt := 49) C dX7_stroke_38 (by decide) (fun c35 => ?_) (fun c35 => ?_)
      · refine q_iconst (v := -1) C dX7_stroke_49 (by decide) ?_
        exact absurd (Or.inl c35) c37
      · refine q_lload5 C dX7_stroke_41 ?_
        refine q_iload1 C dX7_stroke_43 ?_
        refine q_i2l C dX7_stroke_44 ?_
        refine q_lcmp C dX7_stroke_45 ?_
        refine q_if_le (tgt := 51) C dX7_stroke_46 (by decide) (fun c36 => ?_) (fun c36 => ?_)
        · refine q_drop [some (.ref (a 44)), some (.int u1), some (.int u2), some (.int u3), some (.int (8 : Int32)), none, none] (by repeat' (first | exact trivial | rfl | constructor)) ?_
          exact hJ
        · refine q_iconst (v := -1) C dX7_stroke_49 (by decide) ?_
          exact absurd (Or.inr ⟨c35, c36⟩) c37
    refine q_iinc4 (dv := 1) C dX7_stroke_51 (by decide) (by decide) (by intro w h0 h; first | exact absurd rfl h0 | (cases h <;> rfl)) ?_
    refine q_cut M 54 [some (.ref (a 44)), some (.int u1), some (.int u2), some (.int u3), some (.int (9 : Int32)), none, none] [] (fun hJ => by rw [show ((8 : Int32) + 1) = (9 : Int32) from by decide]; exact hJ) ?_
    refine q_goto (tgt := 16) C dX7_stroke_54 (by decide) ?_
    refine q_iload4 C dX7_stroke_16 ?_
    refine q_bipush (v := 10) C dX7_stroke_18 (by decide) ?_
    refine q_icmp_ge (tgt := 57) C dX7_stroke_20 (by decide) (fun c38 => absurd c38 (by decide)) (fun c38 => ?_)
    refine q_iload2 C dX7_stroke_23 ?_
    refine q_i2l C dX7_stroke_24 ?_
    refine q_iload3 C dX7_stroke_25 ?_
    refine q_i2l C dX7_stroke_26 ?_
    refine q_iload4 C dX7_stroke_27 ?_
    refine q_i2l C dX7_stroke_29 ?_
    refine q_lmul C dX7_stroke_30 ?_
    refine q_ladd C dX7_stroke_31 ?_
    refine q_lstore5 C dX7_stroke_32 (by decide) (by intro w h0 h; first | exact absurd rfl h0 | (cases h <;> rfl)) ?_
    refine q_lload5 C dX7_stroke_34 ?_
    refine q_lconst (v := 0) C dX7_stroke_36 (by decide) ?_
    refine q_lcmp C dX7_stroke_37 ?_
    refine q_by (((lg_cmp ((u2).toInt64 + ((u3).toInt64 * ((9 : Int32)).toInt64)) (0 : Int64)) < 0) ∨ (¬ ((lg_cmp ((u2).toInt64 + ((u3).toInt64 * ((9 : Int32)).toInt64)) (0 : Int64)) < 0) ∧ ¬ ((lg_cmp ((u2).toInt64 + ((u3).toInt64 * ((9 : Int32)).toInt64)) (u1).toInt64) ≤ 0))) (fun c41 => ?_) (fun c41 => ?_)
    · refine q_if_lt (tgt := 49) C dX7_stroke_38 (by decide) (fun c39 => ?_) (fun c39 => ?_)
      · refine q_iconst (v := -1) C dX7_stroke_49 (by decide) ?_
        exact q_iret C (by first | rfl | (rw [f_X7_stroke, if_neg c1, if_neg c5, if_neg c9, if_neg c13, if_neg c17, if_neg c21, if_neg c25, if_neg c29, if_neg c33, if_neg c37, if_pos c41]; done) | (rw [f_X7_stroke, if_neg c1, if_neg c5, if_neg c9, if_neg c13, if_neg c17, if_neg c21, if_neg c25, if_neg c29, if_neg c33, if_neg c37, if_pos c41]; rfl) | (simp only [f_X7_stroke, if_neg c1, if_neg c5, if_neg c9, if_neg c13, if_neg c17, if_neg c21, if_neg c25, if_neg c29, if_neg c33, if_neg c37, if_pos c41]; done)) (by first | rfl | (rw [f_X7_stroke, if_neg c1, if_neg c5, if_neg c9, if_neg c13, if_neg c17, if_neg c21, if_neg c25, if_neg c29, if_neg c33, if_neg c37, if_pos c41]; done) | (rw [f_X7_stroke, if_neg c1, if_neg c5, if_neg c9, if_neg c13, if_neg c17, if_neg c21, if_neg c25, if_neg c29, if_neg c33, if_neg c37, if_pos c41]; rfl) | (simp only [f_X7_stroke, if_neg c1, if_neg c5, if_neg c9, if_neg c13, if_neg c17, if_neg c21, if_neg c25, if_neg c29, if_neg c33, if_neg c37, if_pos c41]; done)) dX7_stroke_50
      · refine q_lload5 C dX7_stroke_41 ?_
        refine q_iload1 C dX7_stroke_43 ?_
        refine q_i2l C dX7_stroke_44 ?_
        refine q_lcmp C dX7_stroke_45 ?_
        refine q_if_le (tgt := 51) C dX7_stroke_46 (by decide) (fun c40 => ?_) (fun c40 => ?_)
        · exact absurd c41 (fun h => h.elim (fun h => absurd h c39) (fun h => absurd c40 h.2))
        · refine q_iconst (v := -1) C dX7_stroke_49 (by decide) ?_
          exact q_iret C (by first | rfl | (rw [f_X7_stroke, if_neg c1, if_neg c5, if_neg c9, if_neg c13, if_neg c17, if_neg c21, if_neg c25, if_neg c29, if_neg c33, if_neg c37, if_pos c41]; done) | (rw [f_X7_stroke, if_neg c1, if_neg c5, if_neg c9, if_neg c13, if_neg c17, if_neg c21, if_neg c25, if_neg c29, if_neg c33, if_neg c37, if_pos c41]; rfl) | (simp only [f_X7_stroke, if_neg c1, if_neg c5, if_neg c9, if_neg c13, if_neg c17, if_neg c21, if_neg c25, if_neg c29, if_neg c33, if_neg c37, if_pos c41]; done)) (by first | rfl | (rw [f_X7_stroke, if_neg c1, if_neg c5, if_neg c9, if_neg c13, if_neg c17, if_neg c21, if_neg c25, if_neg c29, if_neg c33, if_neg c37, if_pos c41]; done) | (rw [f_X7_stroke, if_neg c1, if_neg c5, if_neg c9, if_neg c13, if_neg c17, if_neg c21, if_neg c25, if_neg c29, if_neg c33, if_neg c37, if_pos c41]; rfl) | (simp only [f_X7_stroke, if_neg c1, if_neg c5, if_neg c9, if_neg c13, if_neg c17, if_neg c21, if_neg c25, if_neg c29, if_neg c33, if_neg c37, if_pos c41]; done)) dX7_stroke_50
    refine q_cut M 51 [some (.ref (a 44)), some (.int u1), some (.int u2), some (.int u3), some (.int (9 : Int32)), none, none] [] (fun hJ => ?_) ?_
    · refine q_if_lt (tgt := 49) C dX7_stroke_38 (by decide) (fun c39 => ?_) (fun c39 => ?_)
      · refine q_iconst (v := -1) C dX7_stroke_49 (by decide) ?_
        exact absurd (Or.inl c39) c41
      · refine q_lload5 C dX7_stroke_41 ?_
        refine q_iload1 C dX7_stroke_43 ?_
        refine q_i2l C dX7_stroke_44 ?_
        refine q_lcmp C dX7_stroke_45 ?_
        refine q_if_le (tgt := 51) C dX7_stroke_46 (by decide) (fun c40 => ?_) (fun c40 => ?_)
        · refine q_drop [some (.ref (a 44)), some (.int u1), some (.int u2), some (.int u3), some (.int (9 : Int32)), none, none] (by repeat' (first | exact trivial | rfl | constructor)) ?_
          exact hJ
        · refine q_iconst (v := -1) C dX7_stroke_49 (by decide) ?_
          exact absurd (Or.inr ⟨c39, c40⟩) c41
    refine q_iinc4 (dv := 1) C dX7_stroke_51 (by decide) (by decide) (by intro w h0 h; first | exact absurd rfl h0 | (cases h <;> rfl)) ?_
    refine q_cut M 54 [some (.ref (a 44)), some (.int u1), some (.int u2), some (.int u3), some (.int (10 : Int32)), none, none] [] (fun hJ => by rw [show ((9 : Int32) + 1) = (10 : Int32) from by decide]; exact hJ) ?_
    refine q_goto (tgt := 16) C dX7_stroke_54 (by decide) ?_
    refine q_iload4 C dX7_stroke_16 ?_
    refine q_bipush (v := 10) C dX7_stroke_18 (by decide) ?_
    refine q_icmp_ge (tgt := 57) C dX7_stroke_20 (by decide) (fun c42 => ?_) (fun c42 => absurd (by decide) c42)
    refine q_aload0 C dX7_stroke_57 ?_
    refine g_X7_129 C dX7_stroke_58 ?_
    refine q_bipush (v := 30) C dX7_stroke_61 (by decide) ?_
    refine q_icmp_ne (tgt := 69) C dX7_stroke_63 (by decide) (fun c43 => ?_) (fun c43 => ?_)
    · refine q_iconst (v := 0) C dX7_stroke_69 (by decide) ?_
      refine q_istore4 C dX7_stroke_70 (by decide) (by intro w h0 h; first | exact absurd rfl h0 | (cases h <;> rfl)) ?_
      refine q_loop 10 (b_X7_stroke_1 u1 u2 u3) (fun zz => zz) (fun xx zz => [some (.ref (a 44)), some (.int u1), some (.int u2), some (.int u3), some (.int xx), none, none]) M  (fun i1 z1 hi1 ih1 => ?_) ?_
      · refine q_iload4 C dX7_stroke_72 ?_
        refine q_bipush (v := 10) C dX7_stroke_74 (by decide) ?_
        refine q_icmp_ge (tgt := 139) C dX7_stroke_76 (by decide) (fun c44 => absurd c44 (nI_ge (b := 10) (by omega) (by omega))) (fun c44 => ?_)
        refine q_aload0 C dX7_stroke_79 ?_
        refine g_X7_26 C dX7_stroke_80 ?_
        refine q_iload4 C dX7_stroke_83 ?_
        refine q_zaldX (j := i1) C rfl (nI_clamp (by omega)) (vp_in_nI (by omega) (by first | decide | omega)) dX7_stroke_85 ?_
        refine q_cut (if (gI z1 49 i1) = 0 then (sI (sI z1 47 i1 ((gI z1 47 i1) + u1)) 48 i1 ((gI (sI z1 47 i1 ((gI z1 47 i1) + u1)) 48 i1) + (u2 + (u3 * (if ((gI (sI z1 47 i1 ((gI z1 47 i1) + u1)) 44 5) - (gI (sI z1 47 i1 ((gI z1 47 i1) + u1)) 44 5) / (2 : Int32) * (2 : Int32)) = 0 then (nI i1) else ((9 : Int32) - (nI i1))))))) else z1) 133 [some (.ref (a 44)), some (.int u1), some (.int u2), some (.int u3), some (.int (nI i1)), none, none] [] (fun hJ => ?_) ?_
        · refine q_if_ne (tgt := 133) C dX7_stroke_86 (by decide) (fun c45 => ?_) (fun c45 => ?_)
          · (try simp only [if_neg c45] at hJ); exact hJ
          · refine q_aload0 C dX7_stroke_89 ?_
            refine g_X7_20 C dX7_stroke_90 ?_
            refine q_iload4 C dX7_stroke_93 ?_
            refine q_dup2 C dX7_stroke_95 rfl rfl ?_
            refine q_ialdX (j := i1) C rfl (nI_clamp (by omega)) (vp_in_nI (by omega) (by first | decide | omega)) dX7_stroke_96 ?_
            refine q_iload1 C dX7_stroke_97 ?_
            refine q_iadd C dX7_stroke_98 ?_
            refine q_iastX (j := i1) C rfl (nI_clamp (by omega)) (vp_in_nI (by omega) (by first | decide | omega)) dX7_stroke_99 ?_
            refine q_aload0 C dX7_stroke_100 ?_
            refine g_X7_23 C dX7_stroke_101 ?_
            refine q_iload4 C dX7_stroke_104 ?_
            refine q_dup2 C dX7_stroke_106 rfl rfl ?_
            refine q_ialdX (j := i1) C rfl (nI_clamp (by omega)) (vp_in_nI (by omega) (by first | decide | omega)) dX7_stroke_107 ?_
            refine q_iload2 C dX7_stroke_108 ?_
            refine q_iload3 C dX7_stroke_109 ?_
            refine q_aload0 C dX7_stroke_110 ?_
            refine g_X7_129 C dX7_stroke_111 ?_
            refine q_iconst (v := 2) C dX7_stroke_114 (by decide) ?_
            refine q_irem C dX7_stroke_115 (by first | decide | assumption | (apply i64ne; assumption)) ?_
            refine q_cut (sI z1 47 i1 ((gI z1 47 i1) + u1)) 129 [some (.ref (a 44)), some (.int u1), some (.int u2), some (.int u3), some (.int (nI i1)), none, none] [.int (if ((gI (sI z1 47 i1 ((gI z1 47 i1) + u1)) 44 5) - (gI (sI z1 47 i1 ((gI z1 47 i1) + u1)) 44 5) / (2 : Int32) * (2 : Int32)) = 0 then (nI i1) else ((9 : Int32) - (nI i1))), .int u3, .int u2, .int (gI (sI z1 47 i1 ((gI z1 47 i1) + u1)) 48 i1), .int (nI i1), .ref (a 48)] (fun hJ => ?_) ?_
            · refine q_if_ne (tgt := 124) C dX7_stroke_116 (by decide) (fun c46 => ?_) (fun c46 => ?_)
              · refine q_bipush (v := 9) C dX7_stroke_124 (by decide) ?_
                refine q_iload4 C dX7_stroke_126 ?_
                refine q_isub C dX7_stroke_128 ?_
                (try simp only [if_neg c46] at hJ); exact hJ
              · refine q_iload4 C dX7_stroke_119 ?_
                refine q_goto (tgt := 129) C dX7_stroke_121 (by decide) ?_
                (try simp only [if_pos c46] at hJ); exact hJ
            refine q_imul C dX7_stroke_129 ?_
            refine q_iadd C dX7_stroke_130 ?_
            refine q_iadd C dX7_stroke_131 ?_
            refine q_iastX (j := i1) C rfl (nI_clamp (by omega)) (vp_in_nI (by omega) (by first | decide | omega)) dX7_stroke_132 ?_
            (try simp only [if_pos c45] at hJ); exact hJ
        refine q_cut (m_X7_stroke_1 u1 u2 u3 i1 z1) 133 [some (.ref (a 44)), some (.int u1), some (.int u2), some (.int u3), some (.int (nI i1)), none, none] [] (fun hJ => hJ) ?_
        refine q_iinc4 (dv := 1) C dX7_stroke_133 (by decide) (by decide) (by intro w h0 h; first | exact absurd rfl h0 | (cases h <;> rfl)) ?_
        refine q_goto (tgt := 72) C dX7_stroke_136 (by decide) ?_
        exact ih1
      refine q_iload4 C dX7_stroke_72 ?_
      refine q_bipush (v := 10) C dX7_stroke_74 (by decide) ?_
      refine q_icmp_ge (tgt := 139) C dX7_stroke_76 (by decide) (fun c47 => ?_) (fun c47 => absurd (Int32.le_refl _) c47)
      refine q_aload0 C dX7_stroke_139 ?_
      refine g_X7_17 C dX7_stroke_140 ?_
      refine q_aload0 C dX7_stroke_143 ?_
      refine g_X7_129 C dX7_stroke_144 ?_
      refine q_iload3 C dX7_stroke_147 ?_
      refine q_iastX (j := ((gI (itr (b_X7_stroke_1 u1 u2 u3) 10 M) 44 5)).toNatClampNeg) C rfl rfl (by rw [itr_keepI (fun i z => by simp [b_X7_stroke_1, m_X7_stroke_1, gI_ite, gI_sI])]; exact hst (by assumption)) dX7_stroke_148 ?_
      refine q_aload0 C dX7_stroke_149 ?_
      refine q_dup C dX7_stroke_150 rfl ?_
      refine g_X7_129 C dX7_stroke_151 ?_
      refine q_iconst (v := 1) C dX7_stroke_154 (by decide) ?_
      refine q_iadd C dX7_stroke_155 ?_
      refine p_X7_129 C  dX7_stroke_156 ?_
      refine q_cut (m_X7_stroke_3 M u1 u2 u3) 159 [some (.ref (a 44)), some (.int u1), some (.int u2), some (.int u3), some (.int (nI 10)), none, none] [] (fun hJ => hJ) ?_
      refine q_aload0 C dX7_stroke_159 ?_
      refine g_X7_129 C dX7_stroke_160 ?_
      exact q_iret C (by first | rfl | (rw [f_X7_stroke, if_neg c1, if_neg c5, if_neg c9, if_neg c13, if_neg c17, if_neg c21, if_neg c25, if_neg c29, if_neg c33, if_neg c37, if_neg c41, if_neg c43]; done) | (rw [f_X7_stroke, if_neg c1, if_neg c5, if_neg c9, if_neg c13, if_neg c17, if_neg c21, if_neg c25, if_neg c29, if_neg c33, if_neg c37, if_neg c41, if_neg c43]; rfl) | (simp only [f_X7_stroke, if_neg c1, if_neg c5, if_neg c9, if_neg c13, if_neg c17, if_neg c21, if_neg c25, if_neg c29, if_neg c33, if_neg c37, if_neg c41, if_neg c43]; done)) (by first | rfl | (rw [f_X7_stroke, if_neg c1, if_neg c5, if_neg c9, if_neg c13, if_neg c17, if_neg c21, if_neg c25, if_neg c29, if_neg c33, if_neg c37, if_neg c41, if_neg c43]; done) | (rw [f_X7_stroke, if_neg c1, if_neg c5, if_neg c9, if_neg c13, if_neg c17, if_neg c21, if_neg c25, if_neg c29, if_neg c33, if_neg c37, if_neg c41, if_neg c43]; rfl) | (simp only [f_X7_stroke, if_neg c1, if_neg c5, if_neg c9, if_neg c13, if_neg c17, if_neg c21, if_neg c25, if_neg c29, if_neg c33, if_neg c37, if_neg c41, if_neg c43]; done)) dX7_stroke_163
    · refine q_bipush (v := -2) C dX7_stroke_66 (by decide) ?_
      exact q_iret C (by first | rfl | (rw [f_X7_stroke, if_neg c1, if_neg c5, if_neg c9, if_neg c13, if_neg c17, if_neg c21, if_neg c25, if_neg c29, if_neg c33, if_neg c37, if_neg c41, if_pos c43]; done) | (rw [f_X7_stroke, if_neg c1, if_neg c5, if_neg c9, if_neg c13, if_neg c17, if_neg c21, if_neg c25, if_neg c29, if_neg c33, if_neg c37, if_neg c41, if_pos c43]; rfl) | (simp only [f_X7_stroke, if_neg c1, if_neg c5, if_neg c9, if_neg c13, if_neg c17, if_neg c21, if_neg c25, if_neg c29, if_neg c33, if_neg c37, if_neg c41, if_pos c43]; done)) (by first | rfl | (rw [f_X7_stroke, if_neg c1, if_neg c5, if_neg c9, if_neg c13, if_neg c17, if_neg c21, if_neg c25, if_neg c29, if_neg c33, if_neg c37, if_neg c41, if_pos c43]; done) | (rw [f_X7_stroke, if_neg c1, if_neg c5, if_neg c9, if_neg c13, if_neg c17, if_neg c21, if_neg c25, if_neg c29, if_neg c33, if_neg c37, if_neg c41, if_pos c43]; rfl) | (simp only [f_X7_stroke, if_neg c1, if_neg c5, if_neg c9, if_neg c13, if_neg c17, if_neg c21, if_neg c25, if_neg c29, if_neg c33, if_neg c37, if_neg c41, if_pos c43]; done)) dX7_stroke_68
  · refine q_iconst (v := -1) C dX7_stroke_11 (by decide) ?_
    exact q_iret C (by first | rfl | (rw [f_X7_stroke, if_pos c1]; done) | (rw [f_X7_stroke, if_pos c1]; rfl) | (simp only [f_X7_stroke, if_pos c1]; done)) (by first | rfl | (rw [f_X7_stroke, if_pos c1]; done) | (rw [f_X7_stroke, if_pos c1]; rfl) | (simp only [f_X7_stroke, if_pos c1]; done)) dX7_stroke_12
def m_X7_cut_1 (M : Mm) (u1 : Int32) : Mm := (sI (sI (sI (sJ M 44 2 ((gI M 48 (u1).toNatClampNeg)).toInt64) 49 (u1).toNatClampNeg (1 : Int32)) 47 (u1).toNatClampNeg (0 : Int32)) 48 (u1).toNatClampNeg (0 : Int32))
def f_X7_cut (M : Mm) (u1 : Int32) : Int32 × Mm := (if (f_X7_in u1 (0 : Int32) (9 : Int32)) = 0 then ((-1 : Int32), M) else (if (gI M 49 (u1).toNatClampNeg) = 0 then ((gI M 47 (u1).toNatClampNeg), (m_X7_cut_1 M u1)) else ((-4 : Int32), M)))
set_option maxHeartbeats 4000000 in
set_option maxRecDepth 100000 in
theorem c_X7_cut (M : Mm) (u1 : Int32)  : MI yX7_cut cX7_cut 3 (some .int) 1 22 (fun a => [.ref (a 44), .int u1]) M (f_X7_cut M u1).1 (f_X7_cut M u1).2 := by
  refine MI.intro (lv0 := fun a => [some (.ref (a 44)), some (.int u1), none]) (by decide) (fun a => ⟨(Nat.le_of_ble_eq_true rfl), rfl⟩) ?_
  intro p9 l9 e9 s9 m9 g9 b9 h9 c9 D9 A9 ct a C
  have C : Cx p9 s9 m9 g9 h9 c9 cX7_cut 3 RX7 (some .int) D9 A9 ct a := C
  refine q_iload1 C dX7_cut_0 ?_
  refine q_iconst (v := 0) C dX7_cut_1 (by decide) ?_
  refine q_bipush (v := 9) C dX7_cut_2 (by decide) ?_
  refine qc_SI C (c_X7_in _ _ _ _) cw_X7_125 rfl rfl (Nat.le_of_ble_eq_true rfl) ⟨(Nat.le_of_ble_eq_true rfl), (Nat.le_of_ble_eq_true rfl)⟩ ⟨Nat.zero_le _, Nat.zero_le _⟩ dX7_cut_4 ?_
  refine q_if_ne (tgt := 12) C dX7_cut_7 (by decide) (fun c1 => ?_) (fun c1 => ?_)
  · refine q_aload0 C dX7_cut_12 ?_
    refine g_X7_26 C dX7_cut_13 ?_
    refine q_iload1 C dX7_cut_16 ?_
    refine q_zaldX (j := (u1).toNatClampNeg) C rfl rfl (by first | assumption | exact wi7_in (by assumption) (by decide) | (simp only [gI_sI, gI_sJ, gI_ite]; simp; assumption) | (simp [gI_sI, gI_sJ, gI_ite]; assumption)) dX7_cut_17 ?_
    refine q_if_eq (tgt := 24) C dX7_cut_18 (by decide) (fun c2 => ?_) (fun c2 => ?_)
    · refine q_aload0 C dX7_cut_24 ?_
      refine g_X7_20 C dX7_cut_25 ?_
      refine q_iload1 C dX7_cut_28 ?_
      refine q_ialdX (j := (u1).toNatClampNeg) C rfl rfl (by first | assumption | exact wi7_in (by assumption) (by decide) | (simp only [gI_sI, gI_sJ, gI_ite]; simp; assumption) | (simp [gI_sI, gI_sJ, gI_ite]; assumption)) dX7_cut_29 ?_
      refine q_istore2 C dX7_cut_30 (by decide) (by intro w h0 h; first | exact absurd rfl h0 | (cases h <;> rfl)) ?_
      refine q_aload0 C dX7_cut_31 ?_
      refine q_aload0 C dX7_cut_32 ?_
      refine g_X7_23 C dX7_cut_33 ?_
      refine q_iload1 C dX7_cut_36 ?_
      refine q_ialdX (j := (u1).toNatClampNeg) C rfl rfl (by first | assumption | exact wi7_in (by assumption) (by decide) | (simp only [gI_sI, gI_sJ, gI_ite]; simp; assumption) | (simp [gI_sI, gI_sJ, gI_ite]; assumption)) dX7_cut_37 ?_
      refine q_i2l C dX7_cut_38 ?_
      refine p_X7_122 C  dX7_cut_39 ?_
      refine q_aload0 C dX7_cut_42 ?_
      refine g_X7_26 C dX7_cut_43 ?_
      refine q_iload1 C dX7_cut_46 ?_
      refine q_iconst (v := 1) C dX7_cut_47 (by decide) ?_
      refine q_zastX (j := (u1).toNatClampNeg) C rfl rfl (by first | assumption | exact wi7_in (by assumption) (by decide) | (simp only [gI_sI, gI_sJ, gI_ite]; simp; assumption) | (simp [gI_sI, gI_sJ, gI_ite]; assumption)) (by repeat' first | exact bz_0 | exact bz_1 | assumption | apply bz_if) dX7_cut_48 ?_
      refine q_aload0 C dX7_cut_49 ?_
      refine g_X7_20 C dX7_cut_50 ?_
      refine q_iload1 C dX7_cut_53 ?_
      refine q_iconst (v := 0) C dX7_cut_54 (by decide) ?_
      refine q_iastX (j := (u1).toNatClampNeg) C rfl rfl (by first | assumption | exact wi7_in (by assumption) (by decide) | (simp only [gI_sI, gI_sJ, gI_ite]; simp; assumption) | (simp [gI_sI, gI_sJ, gI_ite]; assumption)) dX7_cut_55 ?_
      refine q_aload0 C dX7_cut_56 ?_
      refine g_X7_23 C dX7_cut_57 ?_
      refine q_iload1 C dX7_cut_60 ?_
      refine q_iconst (v := 0) C dX7_cut_61 (by decide) ?_
      refine q_iastX (j := (u1).toNatClampNeg) C rfl rfl (by first | assumption | exact wi7_in (by assumption) (by decide) | (simp only [gI_sI, gI_sJ, gI_ite]; simp; assumption) | (simp [gI_sI, gI_sJ, gI_ite]; assumption)) dX7_cut_62 ?_
      refine q_cut (m_X7_cut_1 M u1) 63 [some (.ref (a 44)), some (.int u1), some (.int (gI M 47 (u1).toNatClampNeg))] [] (fun hJ => hJ) ?_
      refine q_iload2 C dX7_cut_63 ?_
      exact q_iret C (by first | rfl | (rw [f_X7_cut, if_neg c1, if_pos c2]; done) | (rw [f_X7_cut, if_neg c1, if_pos c2]; rfl) | (simp only [f_X7_cut, if_neg c1, if_pos c2]; done)) (by first | rfl | (rw [f_X7_cut, if_neg c1, if_pos c2]; done) | (rw [f_X7_cut, if_neg c1, if_pos c2]; rfl) | (simp only [f_X7_cut, if_neg c1, if_pos c2]; done)) dX7_cut_64
    · refine q_bipush (v := -4) C dX7_cut_21 (by decide) ?_
      exact q_iret C (by first | rfl | (rw [f_X7_cut, if_neg c1, if_neg c2]; done) | (rw [f_X7_cut, if_neg c1, if_neg c2]; rfl) | (simp only [f_X7_cut, if_neg c1, if_neg c2]; done)) (by first | rfl | (rw [f_X7_cut, if_neg c1, if_neg c2]; done) | (rw [f_X7_cut, if_neg c1, if_neg c2]; rfl) | (simp only [f_X7_cut, if_neg c1, if_neg c2]; done)) dX7_cut_23
  · refine q_iconst (v := -1) C dX7_cut_10 (by decide) ?_
    exact q_iret C (by first | rfl | (rw [f_X7_cut, if_pos c1]; done) | (rw [f_X7_cut, if_pos c1]; rfl) | (simp only [f_X7_cut, if_pos c1]; done)) (by first | rfl | (rw [f_X7_cut, if_pos c1]; done) | (rw [f_X7_cut, if_pos c1]; rfl) | (simp only [f_X7_cut, if_pos c1]; done)) dX7_cut_11
def f_X7_place (M : Mm) (u1 : Int32) (u2 : Int32) : Int32 := (if (f_X7_in u1 (0 : Int32) (9 : Int32)) = 0 then (-1 : Int32) else (if (f_X7_in u2 (0 : Int32) (1 : Int32)) = 0 then (-1 : Int32) else (if u2 = 0 then (gI M 47 (u1).toNatClampNeg) else (gI M 48 (u1).toNatClampNeg))))
set_option maxHeartbeats 4000000 in
set_option maxRecDepth 100000 in
theorem c_X7_place (M : Mm) (u1 : Int32) (u2 : Int32)  : MI yX7_place cX7_place 3 (some .int) 1 22 (fun a => [.ref (a 44), .int u1, .int u2]) M (f_X7_place M u1 u2) M := by
  refine MI.intro (lv0 := fun a => [some (.ref (a 44)), some (.int u1), some (.int u2)]) (by decide) (fun a => ⟨(Nat.le_of_ble_eq_true rfl), rfl⟩) ?_
  intro p9 l9 e9 s9 m9 g9 b9 h9 c9 D9 A9 ct a C
  have C : Cx p9 s9 m9 g9 h9 c9 cX7_place 3 RX7 (some .int) D9 A9 ct a := C
  refine q_iload1 C dX7_place_0 ?_
  refine q_iconst (v := 0) C dX7_place_1 (by decide) ?_
  refine q_bipush (v := 9) C dX7_place_2 (by decide) ?_
  refine qc_SI C (c_X7_in _ _ _ _) cw_X7_125 rfl rfl (Nat.le_of_ble_eq_true rfl) ⟨(Nat.le_of_ble_eq_true rfl), (Nat.le_of_ble_eq_true rfl)⟩ ⟨Nat.zero_le _, Nat.zero_le _⟩ dX7_place_4 ?_
  refine q_cut M 42 [none, none, none] [.int (if (f_X7_in u1 (0 : Int32) (9 : Int32)) = 0 then (-1 : Int32) else (if (f_X7_in u2 (0 : Int32) (1 : Int32)) = 0 then (-1 : Int32) else (if u2 = 0 then (gI M 47 (u1).toNatClampNeg) else (gI M 48 (u1).toNatClampNeg))))] (fun hJ => ?_) ?_
  · refine q_if_eq (tgt := 19) C dX7_place_7 (by decide) (fun c1 => ?_) (fun c1 => ?_)
    · refine q_iconst (v := -1) C dX7_place_19 (by decide) ?_
      refine q_goto (tgt := 42) C dX7_place_20 (by decide) ?_
      refine q_drop [none, none, none] (by repeat' (first | exact trivial | rfl | constructor)) ?_
      (try simp only [if_pos c1] at hJ); exact hJ
    · refine q_iload2 C dX7_place_10 ?_
      refine q_iconst (v := 0) C dX7_place_11 (by decide) ?_
      refine q_iconst (v := 1) C dX7_place_12 (by decide) ?_
      refine qc_SI C (c_X7_in _ _ _ _) cw_X7_125 rfl rfl (Nat.le_of_ble_eq_true rfl) ⟨(Nat.le_of_ble_eq_true rfl), (Nat.le_of_ble_eq_true rfl)⟩ ⟨Nat.zero_le _, Nat.zero_le _⟩ dX7_place_13 ?_
      refine q_if_ne (tgt := 23) C dX7_place_16 (by decide) (fun c2 => ?_) (fun c2 => ?_)
      · refine q_iload2 C dX7_place_23 ?_
        refine q_if_ne (tgt := 36) C dX7_place_24 (by decide) (fun c3 => ?_) (fun c3 => ?_)
        · refine q_aload0 C dX7_place_36 ?_
          refine g_X7_23 C dX7_place_37 ?_
          refine q_iload1 C dX7_place_40 ?_
          refine q_ialdX (j := (u1).toNatClampNeg) C rfl rfl (by first | assumption | exact wi7_in (by assumption) (by decide) | (simp only [gI_sI, gI_sJ, gI_ite]; simp; assumption) | (simp [gI_sI, gI_sJ, gI_ite]; assumption)) dX7_place_41 ?_
          refine q_drop [none, none, none] (by repeat' (first | exact trivial | rfl | constructor)) ?_
          (try simp only [if_neg c1, if_neg c2, if_neg c3] at hJ); exact hJ
        · refine q_aload0 C dX7_place_27 ?_
          refine g_X7_20 C dX7_place_28 ?_
          refine q_iload1 C dX7_place_31 ?_
          refine q_ialdX (j := (u1).toNatClampNeg) C rfl rfl (by first | assumption | exact wi7_in (by assumption) (by decide) | (simp only [gI_sI, gI_sJ, gI_ite]; simp; assumption) | (simp [gI_sI, gI_sJ, gI_ite]; assumption)) dX7_place_32 ?_
          refine q_goto (tgt := 42) C dX7_place_33 (by decide) ?_
          refine q_drop [none, none, none] (by repeat' (first | exact trivial | rfl | constructor)) ?_
          (try simp only [if_neg c1, if_neg c2, if_pos c3] at hJ); exact hJ
      · refine q_iconst (v := -1) C dX7_place_19 (by decide) ?_
        refine q_goto (tgt := 42) C dX7_place_20 (by decide) ?_
        refine q_drop [none, none, none] (by repeat' (first | exact trivial | rfl | constructor)) ?_
        (try simp only [if_neg c1, if_pos c2] at hJ); exact hJ
  exact q_iret C (by first | (rw [f_X7_place]; done) | rfl) rfl dX7_place_42
def b_X7_spread_1 (M : Mm) (i1 : Nat) (z1 : Int32 × Int32) : Int32 × Int32 := ((if (gI M 49 i1) = 0 then (if z1.1 < 0 then (gI M 48 i1) else (if z1.1 ≤ (gI M 48 i1) then z1.1 else (gI M 48 i1))) else z1.1), (if (gI M 49 i1) = 0 then (if (gI M 48 i1) ≤ z1.2 then z1.2 else (gI M 48 i1)) else z1.2))
def l_X7_spread_1 (M : Mm) (z1 : Int32 × Int32) : Int32 × Int32 := itr (b_X7_spread_1 M) 10 z1
def f_X7_spread (M : Mm)  : Int32 := (if 0 ≤ (l_X7_spread_1 M ((-9 : Int32), (-9 : Int32))).1 then ((l_X7_spread_1 M ((-9 : Int32), (-9 : Int32))).2 - (l_X7_spread_1 M ((-9 : Int32), (-9 : Int32))).1) else (-9 : Int32))
set_option maxHeartbeats 4000000 in
set_option maxRecDepth 100000 in
theorem c_X7_spread (M : Mm)   : MI yX7_spread cX7_spread 4 (some .int) 0 0 (fun a => [.ref (a 44)]) M (f_X7_spread M) M := by
  refine MI.intro (lv0 := fun a => [some (.ref (a 44)), none, none, none]) (by decide) (fun a => ⟨(Nat.le_of_ble_eq_true rfl), rfl⟩) ?_
  intro p9 l9 e9 s9 m9 g9 b9 h9 c9 D9 A9 ct a C
  have C : Cx p9 s9 m9 g9 h9 c9 cX7_spread 4 RX7 (some .int) D9 A9 ct a := C
  refine q_bipush (v := -9) C dX7_spread_0 (by decide) ?_
  refine q_istore1 C dX7_spread_2 (by decide) (by intro w h0 h; first | exact absurd rfl h0 | (cases h <;> rfl)) ?_
  refine q_bipush (v := -9) C dX7_spread_3 (by decide) ?_
  refine q_istore2 C dX7_spread_5 (by decide) (by intro w h0 h; first | exact absurd rfl h0 | (cases h <;> rfl)) ?_
  refine q_iconst (v := 0) C dX7_spread_6 (by decide) ?_
  refine q_istore3 C dX7_spread_7 (by decide) (by intro w h0 h; first | exact absurd rfl h0 | (cases h <;> rfl)) ?_
  refine q_loop 10 (b_X7_spread_1 M) (fun zz => M) (fun xx zz => [some (.ref (a 44)), some (.int zz.1), some (.int zz.2), some (.int xx)]) ((-9 : Int32), (-9 : Int32))  (fun i1 z1 hi1 ih1 => ?_) ?_
  · refine q_iload3 C dX7_spread_8 ?_
    refine q_bipush (v := 10) C dX7_spread_9 (by decide) ?_
    refine q_icmp_ge (tgt := 75) C dX7_spread_11 (by decide) (fun c1 => absurd c1 (nI_ge (b := 10) (by omega) (by omega))) (fun c1 => ?_)
    refine q_aload0 C dX7_spread_14 ?_
    refine g_X7_26 C dX7_spread_15 ?_
    refine q_iload3 C dX7_spread_18 ?_
    refine q_zaldX (j := i1) C rfl (nI_clamp (by omega)) (vp_in_nI (by omega) (by first | decide | omega)) dX7_spread_19 ?_
    refine q_cut M 69 [some (.ref (a 44)), some (.int (if (gI M 49 i1) = 0 then (if z1.1 < 0 then (gI M 48 i1) else (if z1.1 ≤ (gI M 48 i1) then z1.1 else (gI M 48 i1))) else z1.1)), some (.int (if (gI M 49 i1) = 0 then (if (gI M 48 i1) ≤ z1.2 then z1.2 else (gI M 48 i1)) else z1.2)), some (.int (nI i1))] [] (fun hJ => ?_) ?_
    · refine q_if_ne (tgt := 69) C dX7_spread_20 (by decide) (fun c2 => ?_) (fun c2 => ?_)
      · (try simp only [if_neg c2] at hJ); exact hJ
      · refine q_iload1 C dX7_spread_23 ?_
        refine q_cut M 47 [some (.ref (a 44)), none, some (.int z1.2), some (.int (nI i1))] [.int (if z1.1 < 0 then (gI M 48 i1) else (if z1.1 ≤ (gI M 48 i1) then z1.1 else (gI M 48 i1)))] (fun hJ => ?_) ?_
        · refine q_if_lt (tgt := 37) C dX7_spread_24 (by decide) (fun c3 => ?_) (fun c3 => ?_)
          · refine q_aload0 C dX7_spread_37 ?_
            refine g_X7_23 C dX7_spread_38 ?_
            refine q_iload3 C dX7_spread_41 ?_
            refine q_ialdX (j := i1) C rfl (nI_clamp (by omega)) (vp_in_nI (by omega) (by first | decide | omega)) dX7_spread_42 ?_
            refine q_goto (tgt := 47) C dX7_spread_43 (by decide) ?_
            refine q_drop [some (.ref (a 44)), none, some (.int z1.2), some (.int (nI i1))] (by repeat' (first | exact trivial | rfl | constructor)) ?_
            (try simp only [if_pos c3] at hJ); exact hJ
          · refine q_aload0 C dX7_spread_27 ?_
            refine g_X7_23 C dX7_spread_28 ?_
            refine q_iload3 C dX7_spread_31 ?_
            refine q_ialdX (j := i1) C rfl (nI_clamp (by omega)) (vp_in_nI (by omega) (by first | decide | omega)) dX7_spread_32 ?_
            refine q_iload1 C dX7_spread_33 ?_
            refine q_icmp_ge (tgt := 46) C dX7_spread_34 (by decide) (fun c4 => ?_) (fun c4 => ?_)
            · refine q_iload1 C dX7_spread_46 ?_
              refine q_drop [some (.ref (a 44)), none, some (.int z1.2), some (.int (nI i1))] (by repeat' (first | exact trivial | rfl | constructor)) ?_
              (try simp only [if_neg c3, if_pos c4] at hJ); exact hJ
            · refine q_aload0 C dX7_spread_37 ?_
              refine g_X7_23 C dX7_spread_38 ?_
              refine q_iload3 C dX7_spread_41 ?_
              refine q_ialdX (j := i1) C rfl (nI_clamp (by omega)) (vp_in_nI (by omega) (by first | decide | omega)) dX7_spread_42 ?_
              refine q_goto (tgt := 47) C dX7_spread_43 (by decide) ?_
              refine q_drop [some (.ref (a 44)), none, some (.int z1.2), some (.int (nI i1))] (by repeat' (first | exact trivial | rfl | constructor)) ?_
              (try simp only [if_neg c3, if_neg c4] at hJ); exact hJ
        refine q_istore1 C dX7_spread_47 (by decide) (by intro w h0 h; first | exact absurd rfl h0 | (cases h <;> rfl)) ?_
        refine q_aload0 C dX7_spread_48 ?_
        refine g_X7_23 C dX7_spread_49 ?_
        refine q_iload3 C dX7_spread_52 ?_
        refine q_ialdX (j := i1) C rfl (nI_clamp (by omega)) (vp_in_nI (by omega) (by first | decide | omega)) dX7_spread_53 ?_
        refine q_iload2 C dX7_spread_54 ?_
        refine q_cut M 68 [some (.ref (a 44)), some (.int (if z1.1 < 0 then (gI M 48 i1) else (if z1.1 ≤ (gI M 48 i1) then z1.1 else (gI M 48 i1)))), none, some (.int (nI i1))] [.int (if (gI M 48 i1) ≤ z1.2 then z1.2 else (gI M 48 i1))] (fun hJ => ?_) ?_
        · refine q_icmp_le (tgt := 67) C dX7_spread_55 (by decide) (fun c5 => ?_) (fun c5 => ?_)
          · refine q_iload2 C dX7_spread_67 ?_
            refine q_drop [some (.ref (a 44)), some (.int (if z1.1 < 0 then (gI M 48 i1) else (if z1.1 ≤ (gI M 48 i1) then z1.1 else (gI M 48 i1)))), none, some (.int (nI i1))] (by repeat' (first | exact trivial | rfl | constructor)) ?_
            (try simp only [if_pos c5] at hJ); exact hJ
          · refine q_aload0 C dX7_spread_58 ?_
            refine g_X7_23 C dX7_spread_59 ?_
            refine q_iload3 C dX7_spread_62 ?_
            refine q_ialdX (j := i1) C rfl (nI_clamp (by omega)) (vp_in_nI (by omega) (by first | decide | omega)) dX7_spread_63 ?_
            refine q_goto (tgt := 68) C dX7_spread_64 (by decide) ?_
            refine q_drop [some (.ref (a 44)), some (.int (if z1.1 < 0 then (gI M 48 i1) else (if z1.1 ≤ (gI M 48 i1) then z1.1 else (gI M 48 i1)))), none, some (.int (nI i1))] (by repeat' (first | exact trivial | rfl | constructor)) ?_
            (try simp only [if_neg c5] at hJ); exact hJ
        refine q_istore2 C dX7_spread_68 (by decide) (by intro w h0 h; first | exact absurd rfl h0 | (cases h <;> rfl)) ?_
        (try simp only [if_pos c2] at hJ); exact hJ
    refine q_iinc3 (dv := 1) C dX7_spread_69 (by decide) (by decide) (by intro w h0 h; first | exact absurd rfl h0 | (cases h <;> rfl)) ?_
    refine q_goto (tgt := 8) C dX7_spread_72 (by decide) ?_
    exact ih1
  refine q_cut M 8 [some (.ref (a 44)), some (.int (l_X7_spread_1 M ((-9 : Int32), (-9 : Int32))).1), some (.int (l_X7_spread_1 M ((-9 : Int32), (-9 : Int32))).2), some (.int (nI 10))] [] (fun hJ => hJ) ?_
  refine q_iload3 C dX7_spread_8 ?_
  refine q_bipush (v := 10) C dX7_spread_9 (by decide) ?_
  refine q_icmp_ge (tgt := 75) C dX7_spread_11 (by decide) (fun c6 => ?_) (fun c6 => absurd (Int32.le_refl _) c6)
  refine q_iload1 C dX7_spread_75 ?_
  refine q_cut M 87 [none, none, none, none] [.int (if 0 ≤ (l_X7_spread_1 M ((-9 : Int32), (-9 : Int32))).1 then ((l_X7_spread_1 M ((-9 : Int32), (-9 : Int32))).2 - (l_X7_spread_1 M ((-9 : Int32), (-9 : Int32))).1) else (-9 : Int32))] (fun hJ => ?_) ?_
  · refine q_if_ge (tgt := 84) C dX7_spread_76 (by decide) (fun c7 => ?_) (fun c7 => ?_)
    · refine q_iload2 C dX7_spread_84 ?_
      refine q_iload1 C dX7_spread_85 ?_
      refine q_isub C dX7_spread_86 ?_
      refine q_drop [none, none, none, none] (by repeat' (first | exact trivial | rfl | constructor)) ?_
      (try simp only [if_pos c7] at hJ); exact hJ
    · refine q_bipush (v := -9) C dX7_spread_79 (by decide) ?_
      refine q_goto (tgt := 87) C dX7_spread_81 (by decide) ?_
      refine q_drop [none, none, none, none] (by repeat' (first | exact trivial | rfl | constructor)) ?_
      (try simp only [if_neg c7] at hJ); exact hJ
  exact q_iret C (by first | (rw [f_X7_spread]; done) | rfl) rfl dX7_spread_87
def f_X7_strokeSpread (M : Mm) (u1 : Int32) : Int32 := (if (f_X7_in u1 (0 : Int32) ((gI M 44 5) - (1 : Int32))) = 0 then (-1 : Int32) else ((9 : Int32) * (if 0 ≤ (gI M 46 (u1).toNatClampNeg) then (gI M 46 (u1).toNatClampNeg) else (-(gI M 46 (u1).toNatClampNeg)))))
set_option maxHeartbeats 4000000 in
set_option maxRecDepth 100000 in
theorem c_X7_strokeSpread (M : Mm) (u1 : Int32) (h0 : 0 ≤ gI M 44 5) (h1 : gI M 44 5 ≤ 30) : MI yX7_strokeSpread cX7_strokeSpread 2 (some .int) 1 22 (fun a => [.ref (a 44), .int u1]) M (f_X7_strokeSpread M u1) M := by
  refine MI.intro (lv0 := fun a => [some (.ref (a 44)), some (.int u1)]) (by decide) (fun a => ⟨(Nat.le_of_ble_eq_true rfl), rfl⟩) ?_
  intro p9 l9 e9 s9 m9 g9 b9 h9 c9 D9 A9 ct a C
  have C : Cx p9 s9 m9 g9 h9 c9 cX7_strokeSpread 2 RX7 (some .int) D9 A9 ct a := C
  refine q_iload1 C dX7_strokeSpread_0 ?_
  refine q_iconst (v := 0) C dX7_strokeSpread_1 (by decide) ?_
  refine q_aload0 C dX7_strokeSpread_2 ?_
  refine g_X7_129 C dX7_strokeSpread_3 ?_
  refine q_iconst (v := 1) C dX7_strokeSpread_6 (by decide) ?_
  refine q_isub C dX7_strokeSpread_7 ?_
  refine qc_SI C (c_X7_in _ _ _ _) cw_X7_125 rfl rfl (Nat.le_of_ble_eq_true rfl) ⟨(Nat.le_of_ble_eq_true rfl), (Nat.le_of_ble_eq_true rfl)⟩ ⟨Nat.zero_le _, Nat.zero_le _⟩ dX7_strokeSpread_8 ?_
  refine q_cut M 46 [none, none] [.int (if (f_X7_in u1 (0 : Int32) ((gI M 44 5) - (1 : Int32))) = 0 then (-1 : Int32) else ((9 : Int32) * (if 0 ≤ (gI M 46 (u1).toNatClampNeg) then (gI M 46 (u1).toNatClampNeg) else (-(gI M 46 (u1).toNatClampNeg)))))] (fun hJ => ?_) ?_
  · refine q_if_ne (tgt := 18) C dX7_strokeSpread_11 (by decide) (fun c1 => ?_) (fun c1 => ?_)
    · refine q_bipush (v := 9) C dX7_strokeSpread_18 (by decide) ?_
      refine q_aload0 C dX7_strokeSpread_20 ?_
      refine g_X7_17 C dX7_strokeSpread_21 ?_
      refine q_iload1 C dX7_strokeSpread_24 ?_
      refine q_ialdX (j := (u1).toNatClampNeg) C rfl rfl (wi7_in' (by assumption) h0 h1 (by decide)) dX7_strokeSpread_25 ?_
      refine q_cut M 45 [none, none] [.int (if 0 ≤ (gI M 46 (u1).toNatClampNeg) then (gI M 46 (u1).toNatClampNeg) else (-(gI M 46 (u1).toNatClampNeg))), .int (9 : Int32)] (fun hJ => ?_) ?_
      · refine q_if_ge (tgt := 39) C dX7_strokeSpread_26 (by decide) (fun c2 => ?_) (fun c2 => ?_)
        · refine q_aload0 C dX7_strokeSpread_39 ?_
          refine g_X7_17 C dX7_strokeSpread_40 ?_
          refine q_iload1 C dX7_strokeSpread_43 ?_
          refine q_ialdX (j := (u1).toNatClampNeg) C rfl rfl (wi7_in' (by assumption) h0 h1 (by decide)) dX7_strokeSpread_44 ?_
          refine q_drop [none, none] (by repeat' (first | exact trivial | rfl | constructor)) ?_
          (try simp only [if_pos c2] at hJ); exact hJ
        · refine q_aload0 C dX7_strokeSpread_29 ?_
          refine g_X7_17 C dX7_strokeSpread_30 ?_
          refine q_iload1 C dX7_strokeSpread_33 ?_
          refine q_ialdX (j := (u1).toNatClampNeg) C rfl rfl (wi7_in' (by assumption) h0 h1 (by decide)) dX7_strokeSpread_34 ?_
          refine q_ineg C dX7_strokeSpread_35 ?_
          refine q_goto (tgt := 45) C dX7_strokeSpread_36 (by decide) ?_
          refine q_drop [none, none] (by repeat' (first | exact trivial | rfl | constructor)) ?_
          (try simp only [if_neg c2] at hJ); exact hJ
      refine q_imul C dX7_strokeSpread_45 ?_
      (try simp only [if_neg c1] at hJ); exact hJ
    · refine q_iconst (v := -1) C dX7_strokeSpread_14 (by decide) ?_
      refine q_goto (tgt := 46) C dX7_strokeSpread_15 (by decide) ?_
      refine q_drop [none, none] (by repeat' (first | exact trivial | rfl | constructor)) ?_
      (try simp only [if_pos c1] at hJ); exact hJ
  exact q_iret C (by first | (rw [f_X7_strokeSpread]; done) | rfl) rfl dX7_strokeSpread_46
def b_X7_clear_1  (i1 : Nat) (z1 : Mm) : Mm := (sI (sI (sI z1 47 i1 (0 : Int32)) 48 i1 (0 : Int32)) 49 i1 (0 : Int32))
def f_X7_clear (M : Mm)  : Int32 × Mm := ((gI M 44 5), (itr b_X7_clear_1 10 (sI M 44 5 (0 : Int32))))
set_option maxHeartbeats 4000000 in
set_option maxRecDepth 100000 in
theorem c_X7_clear (M : Mm)   : MI yX7_clear cX7_clear 3 (some .int) 0 0 (fun a => [.ref (a 44)]) M (f_X7_clear M).1 (f_X7_clear M).2 := by
  refine MI.intro (lv0 := fun a => [some (.ref (a 44)), none, none]) (by decide) (fun a => ⟨(Nat.le_of_ble_eq_true rfl), rfl⟩) ?_
  intro p9 l9 e9 s9 m9 g9 b9 h9 c9 D9 A9 ct a C
  have C : Cx p9 s9 m9 g9 h9 c9 cX7_clear 3 RX7 (some .int) D9 A9 ct a := C
  refine q_aload0 C dX7_clear_0 ?_
  refine g_X7_129 C dX7_clear_1 ?_
  refine q_istore1 C dX7_clear_4 (by decide) (by intro w h0 h; first | exact absurd rfl h0 | (cases h <;> rfl)) ?_
  refine q_aload0 C dX7_clear_5 ?_
  refine q_iconst (v := 0) C dX7_clear_6 (by decide) ?_
  refine p_X7_129 C  dX7_clear_7 ?_
  refine q_iconst (v := 0) C dX7_clear_10 (by decide) ?_
  refine q_istore2 C dX7_clear_11 (by decide) (by intro w h0 h; first | exact absurd rfl h0 | (cases h <;> rfl)) ?_
  refine q_loop 10 b_X7_clear_1 (fun zz => zz) (fun xx zz => [some (.ref (a 44)), some (.int (gI M 44 5)), some (.int xx)]) (sI M 44 5 (0 : Int32))  (fun i1 z1 hi1 ih1 => ?_) ?_
  · refine q_iload2 C dX7_clear_12 ?_
    refine q_bipush (v := 10) C dX7_clear_13 (by decide) ?_
    refine q_icmp_ge (tgt := 45) C dX7_clear_15 (by decide) (fun c1 => absurd c1 (nI_ge (b := 10) (by omega) (by omega))) (fun c1 => ?_)
    refine q_aload0 C dX7_clear_18 ?_
    refine g_X7_20 C dX7_clear_19 ?_
    refine q_iload2 C dX7_clear_22 ?_
    refine q_iconst (v := 0) C dX7_clear_23 (by decide) ?_
    refine q_iastX (j := i1) C rfl (nI_clamp (by omega)) (vp_in_nI (by omega) (by first | decide | omega)) dX7_clear_24 ?_
    refine q_aload0 C dX7_clear_25 ?_
    refine g_X7_23 C dX7_clear_26 ?_
    refine q_iload2 C dX7_clear_29 ?_
    refine q_iconst (v := 0) C dX7_clear_30 (by decide) ?_
    refine q_iastX (j := i1) C rfl (nI_clamp (by omega)) (vp_in_nI (by omega) (by first | decide | omega)) dX7_clear_31 ?_
    refine q_aload0 C dX7_clear_32 ?_
    refine g_X7_26 C dX7_clear_33 ?_
    refine q_iload2 C dX7_clear_36 ?_
    refine q_iconst (v := 0) C dX7_clear_37 (by decide) ?_
    refine q_zastX (j := i1) C rfl (nI_clamp (by omega)) (vp_in_nI (by omega) (by first | decide | omega)) (by repeat' first | exact bz_0 | exact bz_1 | assumption | apply bz_if) dX7_clear_38 ?_
    refine q_iinc2 (dv := 1) C dX7_clear_39 (by decide) (by decide) (by intro w h0 h; first | exact absurd rfl h0 | (cases h <;> rfl)) ?_
    refine q_goto (tgt := 12) C dX7_clear_42 (by decide) ?_
    exact ih1
  refine q_iload2 C dX7_clear_12 ?_
  refine q_bipush (v := 10) C dX7_clear_13 (by decide) ?_
  refine q_icmp_ge (tgt := 45) C dX7_clear_15 (by decide) (fun c2 => ?_) (fun c2 => absurd (Int32.le_refl _) c2)
  refine q_iload1 C dX7_clear_45 ?_
  exact q_iret C (by first | (rw [f_X7_clear]; done) | rfl) (by first | (rw [f_X7_clear]; done) | rfl) dX7_clear_46
