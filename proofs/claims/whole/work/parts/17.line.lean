def f_X6_stroke (M : Mm) (u1 : Int32) (u2 : Int32) (u3 : Int32) : Int32 × Mm := (if (f_X6_within u1 (1 : Int32) (1000 : Int32)) = 0 then ((-1 : Int32), M) else (if (f_X6_within u2 (0 : Int32) u1) = 0 then ((-1 : Int32), M) else (if (lg_cmp ((u2).toInt64 + ((9 : Int64) * (u3).toInt64)) (0 : Int64)) < 0 then ((-1 : Int32), M) else (if (lg_cmp ((u2).toInt64 + ((9 : Int64) * (u3).toInt64)) (u1).toInt64) ≤ 0 then (if (f_X2_strokes M) < (30 : Int32) then ((f_X2_lay M u1 u2 u3).1, (f_X2_lay M u1 u2 u3).2) else ((-2 : Int32), M)) else ((-1 : Int32), M)))))
set_option maxHeartbeats 4000000 in
set_option maxRecDepth 100000 in
theorem c_X6_stroke (M : Mm) (u1 : Int32) (u2 : Int32) (u3 : Int32) (h0 : 0 ≤ gI M 1 4) : MI yX6_stroke cX6_stroke 6 (some .int) 2 48 (fun a => [.ref (a 0), .int u1, .int u2, .int u3]) M (f_X6_stroke M u1 u2 u3).1 (f_X6_stroke M u1 u2 u3).2 := by
  refine MI.intro (lv0 := fun a => [some (.ref (a 0)), some (.int u1), some (.int u2), some (.int u3), none, none]) (by decide) (fun a => ⟨(Nat.le_of_ble_eq_true rfl), rfl⟩) ?_
  intro p9 l9 e9 s9 m9 g9 b9 h9 c9 D9 A9 ct a C
  have C : Cx p9 s9 m9 g9 h9 c9 cX6_stroke 6 RX6 (some .int) D9 A9 ct a := C
  refine q_iload2 C dX6_stroke_0 ?_
  refine q_i2l C dX6_stroke_1 ?_
  refine q_ldc2 C dX6_stroke_2 wk_X6_61 ?_
  refine q_iload3 C dX6_stroke_5 ?_
  refine q_i2l C dX6_stroke_6 ?_
  refine q_lmul C dX6_stroke_7 ?_
  refine q_ladd C dX6_stroke_8 ?_
  refine q_lstore4 C dX6_stroke_9 (by decide) (by intro w h0 h; first | exact absurd rfl h0 | (cases h <;> rfl)) ?_
  refine q_iload1 C dX6_stroke_11 ?_
  refine q_iconst (v := 1) C dX6_stroke_12 (by decide) ?_
  refine q_sipush (v := 1000) C dX6_stroke_13 (by decide) ?_
  refine qc_SI C (c_X6_within _ _ _ _) cw_X6_63 rfl rfl (Nat.le_of_ble_eq_true rfl) ⟨(Nat.le_of_ble_eq_true rfl), (Nat.le_of_ble_eq_true rfl)⟩ ⟨Nat.zero_le _, Nat.zero_le _⟩ dX6_stroke_16 ?_
  refine q_if_eq (tgt := 46) C dX6_stroke_19 (by decide) (fun c1 => ?_) (fun c1 => ?_)
  · refine q_iconst (v := -1) C dX6_stroke_46 (by decide) ?_
    exact q_iret C (by first | rfl | (rw [f_X6_stroke, if_pos c1]; done) | (rw [f_X6_stroke, if_pos c1]; rfl) | (simp only [f_X6_stroke, if_pos c1]; done)) (by first | rfl | (rw [f_X6_stroke, if_pos c1]; done) | (rw [f_X6_stroke, if_pos c1]; rfl) | (simp only [f_X6_stroke, if_pos c1]; done)) dX6_stroke_47
  · refine q_iload2 C dX6_stroke_22 ?_
    refine q_iconst (v := 0) C dX6_stroke_23 (by decide) ?_
    refine q_iload1 C dX6_stroke_24 ?_
    refine qc_SI C (c_X6_within _ _ _ _) cw_X6_63 rfl rfl (Nat.le_of_ble_eq_true rfl) ⟨(Nat.le_of_ble_eq_true rfl), (Nat.le_of_ble_eq_true rfl)⟩ ⟨Nat.zero_le _, Nat.zero_le _⟩ dX6_stroke_25 ?_
    refine q_if_eq (tgt := 46) C dX6_stroke_28 (by decide) (fun c2 => ?_) (fun c2 => ?_)
    · refine q_iconst (v := -1) C dX6_stroke_46 (by decide) ?_
      exact q_iret C (by first | rfl | (rw [f_X6_stroke, if_neg c1, if_pos c2]; done) | (rw [f_X6_stroke, if_neg c1, if_pos c2]; rfl) | (simp only [f_X6_stroke, if_neg c1, if_pos c2]; done)) (by first | rfl | (rw [f_X6_stroke, if_neg c1, if_pos c2]; done) | (rw [f_X6_stroke, if_neg c1, if_pos c2]; rfl) | (simp only [f_X6_stroke, if_neg c1, if_pos c2]; done)) dX6_stroke_47
    · refine q_lload4 C dX6_stroke_31 ?_
      refine q_lconst (v := 0) C dX6_stroke_33 (by decide) ?_
      refine q_lcmp C dX6_stroke_34 ?_
      refine q_if_lt (tgt := 46) C dX6_stroke_35 (by decide) (fun c3 => ?_) (fun c3 => ?_)
      · refine q_iconst (v := -1) C dX6_stroke_46 (by decide) ?_
        exact q_iret C (by first | rfl | (rw [f_X6_stroke, if_neg c1, if_neg c2, if_pos c3]; done) | (rw [f_X6_stroke, if_neg c1, if_neg c2, if_pos c3]; rfl) | (simp only [f_X6_stroke, if_neg c1, if_neg c2, if_pos c3]; done)) (by first | rfl | (rw [f_X6_stroke, if_neg c1, if_neg c2, if_pos c3]; done) | (rw [f_X6_stroke, if_neg c1, if_neg c2, if_pos c3]; rfl) | (simp only [f_X6_stroke, if_neg c1, if_neg c2, if_pos c3]; done)) dX6_stroke_47
      · refine q_lload4 C dX6_stroke_38 ?_
        refine q_iload1 C dX6_stroke_40 ?_
        refine q_i2l C dX6_stroke_41 ?_
        refine q_lcmp C dX6_stroke_42 ?_
        refine q_if_le (tgt := 48) C dX6_stroke_43 (by decide) (fun c4 => ?_) (fun c4 => ?_)
        · refine q_aload0 C dX6_stroke_48 ?_
          refine g_X6_10 C dX6_stroke_49 ?_
          refine qc_VI C (c_X2_strokes _ ) cw_X6_67 rfl rfl rfl rfl (Nat.le_of_ble_eq_true rfl) ⟨(Nat.le_of_ble_eq_true rfl), (Nat.le_of_ble_eq_true rfl)⟩ ⟨Nat.zero_le _, Nat.zero_le _⟩ dX6_stroke_52 ?_
          refine q_bipush (v := 30) C dX6_stroke_55 (by decide) ?_
          refine q_icmp_lt (tgt := 63) C dX6_stroke_57 (by decide) (fun c5 => ?_) (fun c5 => ?_)
          · refine q_aload0 C dX6_stroke_63 ?_
            refine g_X6_10 C dX6_stroke_64 ?_
            refine q_iload1 C dX6_stroke_67 ?_
            refine q_iload2 C dX6_stroke_68 ?_
            refine q_iload3 C dX6_stroke_69 ?_
            refine qc_VI C (c_X2_lay _ _ _ _ (vin_l h0 (by assumption) (by decide))) cw_X6_71 rfl rfl rfl rfl (Nat.le_of_ble_eq_true rfl) ⟨(Nat.le_of_ble_eq_true rfl), (Nat.le_of_ble_eq_true rfl)⟩ ⟨Nat.zero_le _, Nat.zero_le _⟩ dX6_stroke_70 ?_
            exact q_iret C (by first | rfl | (rw [f_X6_stroke, if_neg c1, if_neg c2, if_neg c3, if_pos c4, if_pos c5]; done) | (rw [f_X6_stroke, if_neg c1, if_neg c2, if_neg c3, if_pos c4, if_pos c5]; rfl) | (simp only [f_X6_stroke, if_neg c1, if_neg c2, if_neg c3, if_pos c4, if_pos c5]; done)) (by first | rfl | (rw [f_X6_stroke, if_neg c1, if_neg c2, if_neg c3, if_pos c4, if_pos c5]; done) | (rw [f_X6_stroke, if_neg c1, if_neg c2, if_neg c3, if_pos c4, if_pos c5]; rfl) | (simp only [f_X6_stroke, if_neg c1, if_neg c2, if_neg c3, if_pos c4, if_pos c5]; done)) dX6_stroke_73
          · refine q_bipush (v := -2) C dX6_stroke_60 (by decide) ?_
            exact q_iret C (by first | rfl | (rw [f_X6_stroke, if_neg c1, if_neg c2, if_neg c3, if_pos c4, if_neg c5]; done) | (rw [f_X6_stroke, if_neg c1, if_neg c2, if_neg c3, if_pos c4, if_neg c5]; rfl) | (simp only [f_X6_stroke, if_neg c1, if_neg c2, if_neg c3, if_pos c4, if_neg c5]; done)) (by first | rfl | (rw [f_X6_stroke, if_neg c1, if_neg c2, if_neg c3, if_pos c4, if_neg c5]; done) | (rw [f_X6_stroke, if_neg c1, if_neg c2, if_neg c3, if_pos c4, if_neg c5]; rfl) | (simp only [f_X6_stroke, if_neg c1, if_neg c2, if_neg c3, if_pos c4, if_neg c5]; done)) dX6_stroke_62
        · refine q_iconst (v := -1) C dX6_stroke_46 (by decide) ?_
          exact q_iret C (by first | rfl | (rw [f_X6_stroke, if_neg c1, if_neg c2, if_neg c3, if_neg c4]; done) | (rw [f_X6_stroke, if_neg c1, if_neg c2, if_neg c3, if_neg c4]; rfl) | (simp only [f_X6_stroke, if_neg c1, if_neg c2, if_neg c3, if_neg c4]; done)) (by first | rfl | (rw [f_X6_stroke, if_neg c1, if_neg c2, if_neg c3, if_neg c4]; done) | (rw [f_X6_stroke, if_neg c1, if_neg c2, if_neg c3, if_neg c4]; rfl) | (simp only [f_X6_stroke, if_neg c1, if_neg c2, if_neg c3, if_neg c4]; done)) dX6_stroke_47
def f_X6_cut (M : Mm) (u1 : Int32) : Int32 × Mm := (if (f_X6_within u1 (0 : Int32) (9 : Int32)) = 0 then ((-1 : Int32), M) else (if (f_X2_isCut M u1) = 0 then ((f_X2_take (sJ M 0 8 ((f_X2_limeOn M u1)).toInt64) u1).1, (f_X2_take (sJ M 0 8 ((f_X2_limeOn M u1)).toInt64) u1).2) else ((-4 : Int32), M)))
set_option maxHeartbeats 4000000 in
set_option maxRecDepth 100000 in
theorem c_X6_cut (M : Mm) (u1 : Int32) (hz : ∀ j, bz (gI M 9 j)) : MI yX6_cut cX6_cut 2 (some .int) 1 22 (fun a => [.ref (a 0), .int u1]) M (f_X6_cut M u1).1 (f_X6_cut M u1).2 := by
  refine MI.intro (lv0 := fun a => [some (.ref (a 0)), some (.int u1)]) (by decide) (fun a => ⟨(Nat.le_of_ble_eq_true rfl), rfl⟩) ?_
  intro p9 l9 e9 s9 m9 g9 b9 h9 c9 D9 A9 ct a C
  have C : Cx p9 s9 m9 g9 h9 c9 cX6_cut 2 RX6 (some .int) D9 A9 ct a := C
  refine q_iload1 C dX6_cut_0 ?_
  refine q_iconst (v := 0) C dX6_cut_1 (by decide) ?_
  refine q_bipush (v := 9) C dX6_cut_2 (by decide) ?_
  refine qc_SI C (c_X6_within _ _ _ _) cw_X6_63 rfl rfl (Nat.le_of_ble_eq_true rfl) ⟨(Nat.le_of_ble_eq_true rfl), (Nat.le_of_ble_eq_true rfl)⟩ ⟨Nat.zero_le _, Nat.zero_le _⟩ dX6_cut_4 ?_
  refine q_if_ne (tgt := 12) C dX6_cut_7 (by decide) (fun c1 => ?_) (fun c1 => ?_)
  · refine q_aload0 C dX6_cut_12 ?_
    refine g_X6_10 C dX6_cut_13 ?_
    refine q_iload1 C dX6_cut_16 ?_
    refine qc_VI C (c_X2_isCut _ _ (wi_in (by assumption) (by decide)) (hz _)) cw_X6_75 rfl rfl rfl rfl (Nat.le_of_ble_eq_true rfl) ⟨(Nat.le_of_ble_eq_true rfl), (Nat.le_of_ble_eq_true rfl)⟩ ⟨Nat.zero_le _, Nat.zero_le _⟩ dX6_cut_17 ?_
    refine q_if_eq (tgt := 26) C dX6_cut_20 (by decide) (fun c2 => ?_) (fun c2 => ?_)
    · refine q_aload0 C dX6_cut_26 ?_
      refine q_aload0 C dX6_cut_27 ?_
      refine g_X6_10 C dX6_cut_28 ?_
      refine q_iload1 C dX6_cut_31 ?_
      refine qc_VI C (c_X2_limeOn _ _ (wi_in (by assumption) (by decide))) cw_X6_79 rfl rfl rfl rfl (Nat.le_of_ble_eq_true rfl) ⟨(Nat.le_of_ble_eq_true rfl), (Nat.le_of_ble_eq_true rfl)⟩ ⟨Nat.zero_le _, Nat.zero_le _⟩ dX6_cut_32 ?_
      refine q_i2l C dX6_cut_35 ?_
      refine p_X6_58 C  dX6_cut_36 ?_
      refine q_aload0 C dX6_cut_39 ?_
      refine g_X6_10 C dX6_cut_40 ?_
      refine q_iload1 C dX6_cut_43 ?_
      refine qc_VI C (c_X2_take _ _ (wi_in (by assumption) (by decide))) cw_X6_83 rfl rfl rfl rfl (Nat.le_of_ble_eq_true rfl) ⟨(Nat.le_of_ble_eq_true rfl), (Nat.le_of_ble_eq_true rfl)⟩ ⟨Nat.zero_le _, Nat.zero_le _⟩ dX6_cut_44 ?_
      exact q_iret C (by first | rfl | (rw [f_X6_cut, if_neg c1, if_pos c2]; done) | (rw [f_X6_cut, if_neg c1, if_pos c2]; rfl) | (simp only [f_X6_cut, if_neg c1, if_pos c2]; done)) (by first | rfl | (rw [f_X6_cut, if_neg c1, if_pos c2]; done) | (rw [f_X6_cut, if_neg c1, if_pos c2]; rfl) | (simp only [f_X6_cut, if_neg c1, if_pos c2]; done)) dX6_cut_47
    · refine q_bipush (v := -4) C dX6_cut_23 (by decide) ?_
      exact q_iret C (by first | rfl | (rw [f_X6_cut, if_neg c1, if_neg c2]; done) | (rw [f_X6_cut, if_neg c1, if_neg c2]; rfl) | (simp only [f_X6_cut, if_neg c1, if_neg c2]; done)) (by first | rfl | (rw [f_X6_cut, if_neg c1, if_neg c2]; done) | (rw [f_X6_cut, if_neg c1, if_neg c2]; rfl) | (simp only [f_X6_cut, if_neg c1, if_neg c2]; done)) dX6_cut_25
  · refine q_iconst (v := -1) C dX6_cut_10 (by decide) ?_
    exact q_iret C (by first | rfl | (rw [f_X6_cut, if_pos c1]; done) | (rw [f_X6_cut, if_pos c1]; rfl) | (simp only [f_X6_cut, if_pos c1]; done)) (by first | rfl | (rw [f_X6_cut, if_pos c1]; done) | (rw [f_X6_cut, if_pos c1]; rfl) | (simp only [f_X6_cut, if_pos c1]; done)) dX6_cut_11
def f_X6_place (M : Mm) (u1 : Int32) (u2 : Int32) : Int32 := (if (f_X6_within u1 (0 : Int32) (9 : Int32)) = 0 then (-1 : Int32) else (if (f_X6_within u2 (0 : Int32) (1 : Int32)) = 0 then (-1 : Int32) else (if u2 = 0 then (f_X2_tonsOn M u1) else (f_X2_limeOn M u1))))
set_option maxHeartbeats 4000000 in
set_option maxRecDepth 100000 in
theorem c_X6_place (M : Mm) (u1 : Int32) (u2 : Int32)  : MI yX6_place cX6_place 3 (some .int) 1 22 (fun a => [.ref (a 0), .int u1, .int u2]) M (f_X6_place M u1 u2) M := by
  refine MI.intro (lv0 := fun a => [some (.ref (a 0)), some (.int u1), some (.int u2)]) (by decide) (fun a => ⟨(Nat.le_of_ble_eq_true rfl), rfl⟩) ?_
  intro p9 l9 e9 s9 m9 g9 b9 h9 c9 D9 A9 ct a C
  have C : Cx p9 s9 m9 g9 h9 c9 cX6_place 3 RX6 (some .int) D9 A9 ct a := C
  refine q_iload1 C dX6_place_0 ?_
  refine q_iconst (v := 0) C dX6_place_1 (by decide) ?_
  refine q_bipush (v := 9) C dX6_place_2 (by decide) ?_
  refine qc_SI C (c_X6_within _ _ _ _) cw_X6_63 rfl rfl (Nat.le_of_ble_eq_true rfl) ⟨(Nat.le_of_ble_eq_true rfl), (Nat.le_of_ble_eq_true rfl)⟩ ⟨Nat.zero_le _, Nat.zero_le _⟩ dX6_place_4 ?_
  refine q_if_eq (tgt := 19) C dX6_place_7 (by decide) (fun c1 => ?_) (fun c1 => ?_)
  · refine q_iconst (v := -1) C dX6_place_19 (by decide) ?_
    exact q_iret C (by first | rfl | (rw [f_X6_place, if_pos c1]; done) | (rw [f_X6_place, if_pos c1]; rfl) | (simp only [f_X6_place, if_pos c1]; done)) rfl dX6_place_20
  · refine q_iload2 C dX6_place_10 ?_
    refine q_iconst (v := 0) C dX6_place_11 (by decide) ?_
    refine q_iconst (v := 1) C dX6_place_12 (by decide) ?_
    refine qc_SI C (c_X6_within _ _ _ _) cw_X6_63 rfl rfl (Nat.le_of_ble_eq_true rfl) ⟨(Nat.le_of_ble_eq_true rfl), (Nat.le_of_ble_eq_true rfl)⟩ ⟨Nat.zero_le _, Nat.zero_le _⟩ dX6_place_13 ?_
    refine q_if_ne (tgt := 21) C dX6_place_16 (by decide) (fun c2 => ?_) (fun c2 => ?_)
    · refine q_iload2 C dX6_place_21 ?_
      refine q_cut M 44 [none, none, none] [.int (if u2 = 0 then (f_X2_tonsOn M u1) else (f_X2_limeOn M u1))] (fun hJ => ?_) ?_
      · refine q_if_ne (tgt := 36) C dX6_place_22 (by decide) (fun c3 => ?_) (fun c3 => ?_)
        · refine q_aload0 C dX6_place_36 ?_
          refine g_X6_10 C dX6_place_37 ?_
          refine q_iload1 C dX6_place_40 ?_
          refine qc_VI C (c_X2_limeOn _ _ (wi_in (by assumption) (by decide))) cw_X6_79 rfl rfl rfl rfl (Nat.le_of_ble_eq_true rfl) ⟨(Nat.le_of_ble_eq_true rfl), (Nat.le_of_ble_eq_true rfl)⟩ ⟨Nat.zero_le _, Nat.zero_le _⟩ dX6_place_41 ?_
          refine q_drop [none, none, none] (by repeat' (first | exact trivial | rfl | constructor)) ?_
          (try simp only [if_neg c3] at hJ); exact hJ
        · refine q_aload0 C dX6_place_25 ?_
          refine g_X6_10 C dX6_place_26 ?_
          refine q_iload1 C dX6_place_29 ?_
          refine qc_VI C (c_X2_tonsOn _ _ (wi_in (by assumption) (by decide))) cw_X6_86 rfl rfl rfl rfl (Nat.le_of_ble_eq_true rfl) ⟨(Nat.le_of_ble_eq_true rfl), (Nat.le_of_ble_eq_true rfl)⟩ ⟨Nat.zero_le _, Nat.zero_le _⟩ dX6_place_30 ?_
          refine q_goto (tgt := 44) C dX6_place_33 (by decide) ?_
          refine q_drop [none, none, none] (by repeat' (first | exact trivial | rfl | constructor)) ?_
          (try simp only [if_pos c3] at hJ); exact hJ
      exact q_iret C (by first | rfl | (rw [f_X6_place, if_neg c1, if_neg c2]; done) | (rw [f_X6_place, if_neg c1, if_neg c2]; rfl) | (simp only [f_X6_place, if_neg c1, if_neg c2]; done)) rfl dX6_place_44
    · refine q_iconst (v := -1) C dX6_place_19 (by decide) ?_
      exact q_iret C (by first | rfl | (rw [f_X6_place, if_neg c1, if_pos c2]; done) | (rw [f_X6_place, if_neg c1, if_pos c2]; rfl) | (simp only [f_X6_place, if_neg c1, if_pos c2]; done)) rfl dX6_place_20
def f_X6_spread (M : Mm)  : Int32 := (f_X2_spreadNow M)
set_option maxHeartbeats 4000000 in
set_option maxRecDepth 100000 in
theorem c_X6_spread (M : Mm)   : MI yX6_spread cX6_spread 1 (some .int) 2 46 (fun a => [.ref (a 0)]) M (f_X6_spread M) M := by
  refine MI.intro (lv0 := fun a => [some (.ref (a 0))]) (by decide) (fun a => ⟨(Nat.le_of_ble_eq_true rfl), rfl⟩) ?_
  intro p9 l9 e9 s9 m9 g9 b9 h9 c9 D9 A9 ct a C
  have C : Cx p9 s9 m9 g9 h9 c9 cX6_spread 1 RX6 (some .int) D9 A9 ct a := C
  refine q_aload0 C dX6_spread_0 ?_
  refine g_X6_10 C dX6_spread_1 ?_
  refine qc_VI C (c_X2_spreadNow _ ) cw_X6_89 rfl rfl rfl rfl (Nat.le_of_ble_eq_true rfl) ⟨(Nat.le_of_ble_eq_true rfl), (Nat.le_of_ble_eq_true rfl)⟩ ⟨Nat.zero_le _, Nat.zero_le _⟩ dX6_spread_4 ?_
  exact q_iret C (by first | (rw [f_X6_spread]; done) | rfl) rfl dX6_spread_7
def f_X6_strokeSpread (M : Mm) (u1 : Int32) : Int32 := (if (f_X6_within u1 (0 : Int32) ((f_X2_strokes M) - (1 : Int32))) = 0 then (-1 : Int32) else (f_X2_spreadLaid M u1))
set_option maxHeartbeats 4000000 in
set_option maxRecDepth 100000 in
theorem c_X6_strokeSpread (M : Mm) (u1 : Int32) (h0 : 0 ≤ gI M 1 4) (h1 : gI M 1 4 ≤ 30) : MI yX6_strokeSpread cX6_strokeSpread 2 (some .int) 1 22 (fun a => [.ref (a 0), .int u1]) M (f_X6_strokeSpread M u1) M := by
  refine MI.intro (lv0 := fun a => [some (.ref (a 0)), some (.int u1)]) (by decide) (fun a => ⟨(Nat.le_of_ble_eq_true rfl), rfl⟩) ?_
  intro p9 l9 e9 s9 m9 g9 b9 h9 c9 D9 A9 ct a C
  have C : Cx p9 s9 m9 g9 h9 c9 cX6_strokeSpread 2 RX6 (some .int) D9 A9 ct a := C
  refine q_iload1 C dX6_strokeSpread_0 ?_
  refine q_iconst (v := 0) C dX6_strokeSpread_1 (by decide) ?_
  refine q_aload0 C dX6_strokeSpread_2 ?_
  refine g_X6_10 C dX6_strokeSpread_3 ?_
  refine qc_VI C (c_X2_strokes _ ) cw_X6_67 rfl rfl rfl rfl (Nat.le_of_ble_eq_true rfl) ⟨(Nat.le_of_ble_eq_true rfl), (Nat.le_of_ble_eq_true rfl)⟩ ⟨Nat.zero_le _, Nat.zero_le _⟩ dX6_strokeSpread_6 ?_
  refine q_iconst (v := 1) C dX6_strokeSpread_9 (by decide) ?_
  refine q_isub C dX6_strokeSpread_10 ?_
  refine qc_SI C (c_X6_within _ _ _ _) cw_X6_63 rfl rfl (Nat.le_of_ble_eq_true rfl) ⟨(Nat.le_of_ble_eq_true rfl), (Nat.le_of_ble_eq_true rfl)⟩ ⟨Nat.zero_le _, Nat.zero_le _⟩ dX6_strokeSpread_11 ?_
  refine q_if_ne (tgt := 19) C dX6_strokeSpread_14 (by decide) (fun c1 => ?_) (fun c1 => ?_)
  · refine q_aload0 C dX6_strokeSpread_19 ?_
    refine g_X6_10 C dX6_strokeSpread_20 ?_
    refine q_iload1 C dX6_strokeSpread_23 ?_
    refine qc_VI C (c_X2_spreadLaid _ _ (wi_in' (by assumption) h0 h1 (by decide))) cw_X6_92 rfl rfl rfl rfl (Nat.le_of_ble_eq_true rfl) ⟨(Nat.le_of_ble_eq_true rfl), (Nat.le_of_ble_eq_true rfl)⟩ ⟨Nat.zero_le _, Nat.zero_le _⟩ dX6_strokeSpread_24 ?_
    exact q_iret C (by first | rfl | (rw [f_X6_strokeSpread, if_neg c1]; done) | (rw [f_X6_strokeSpread, if_neg c1]; rfl) | (simp only [f_X6_strokeSpread, if_neg c1]; done)) rfl dX6_strokeSpread_27
  · refine q_iconst (v := -1) C dX6_strokeSpread_17 (by decide) ?_
    exact q_iret C (by first | rfl | (rw [f_X6_strokeSpread, if_pos c1]; done) | (rw [f_X6_strokeSpread, if_pos c1]; rfl) | (simp only [f_X6_strokeSpread, if_pos c1]; done)) rfl dX6_strokeSpread_18
def f_X6_clear (M : Mm)  : Int32 × Mm := ((f_X2_empty M).1, (f_X2_empty M).2)
set_option maxHeartbeats 4000000 in
set_option maxRecDepth 100000 in
theorem c_X6_clear (M : Mm)   : MI yX6_clear cX6_clear 1 (some .int) 1 22 (fun a => [.ref (a 0)]) M (f_X6_clear M).1 (f_X6_clear M).2 := by
  refine MI.intro (lv0 := fun a => [some (.ref (a 0))]) (by decide) (fun a => ⟨(Nat.le_of_ble_eq_true rfl), rfl⟩) ?_
  intro p9 l9 e9 s9 m9 g9 b9 h9 c9 D9 A9 ct a C
  have C : Cx p9 s9 m9 g9 h9 c9 cX6_clear 1 RX6 (some .int) D9 A9 ct a := C
  refine q_aload0 C dX6_clear_0 ?_
  refine g_X6_10 C dX6_clear_1 ?_
  refine qc_VI C (c_X2_empty _ ) cw_X6_95 rfl rfl rfl rfl (Nat.le_of_ble_eq_true rfl) ⟨(Nat.le_of_ble_eq_true rfl), (Nat.le_of_ble_eq_true rfl)⟩ ⟨Nat.zero_le _, Nat.zero_le _⟩ dX6_clear_4 ?_
  exact q_iret C (by first | (rw [f_X6_clear]; done) | rfl) (by first | (rw [f_X6_clear]; done) | rfl) dX6_clear_7
def f_X6_stock (M : Mm) (u1 : Int32) (u2 : Int32) (u3 : Int32) (u4 : Int32) : Int32 × Mm := (if (f_X6_within u1 (0 : Int32) (3 : Int32)) = 0 then ((-1 : Int32), M) else (if (f_X6_fitWhole u2 u3 u4) = 0 then ((-1 : Int32), M) else ((1 : Int32), (f_X0_setParts M u1 u2 u3 u4))))
set_option maxHeartbeats 4000000 in
set_option maxRecDepth 100000 in
theorem c_X6_stock (M : Mm) (u1 : Int32) (u2 : Int32) (u3 : Int32) (u4 : Int32)  : MI yX6_stock cX6_stock 5 (some .int) 2 44 (fun a => [.ref (a 0), .int u1, .int u2, .int u3, .int u4]) M (f_X6_stock M u1 u2 u3 u4).1 (f_X6_stock M u1 u2 u3 u4).2 := by
  refine MI.intro (lv0 := fun a => [some (.ref (a 0)), some (.int u1), some (.int u2), some (.int u3), some (.int u4)]) (by decide) (fun a => ⟨(Nat.le_of_ble_eq_true rfl), rfl⟩) ?_
  intro p9 l9 e9 s9 m9 g9 b9 h9 c9 D9 A9 ct a C
  have C : Cx p9 s9 m9 g9 h9 c9 cX6_stock 5 RX6 (some .int) D9 A9 ct a := C
  refine q_iload1 C dX6_stock_0 ?_
  refine q_iconst (v := 0) C dX6_stock_1 (by decide) ?_
  refine q_iconst (v := 3) C dX6_stock_2 (by decide) ?_
  refine qc_SI C (c_X6_within _ _ _ _) cw_X6_63 rfl rfl (Nat.le_of_ble_eq_true rfl) ⟨(Nat.le_of_ble_eq_true rfl), (Nat.le_of_ble_eq_true rfl)⟩ ⟨Nat.zero_le _, Nat.zero_le _⟩ dX6_stock_3 ?_
  refine q_if_eq (tgt := 19) C dX6_stock_6 (by decide) (fun c1 => ?_) (fun c1 => ?_)
  · refine q_iconst (v := -1) C dX6_stock_19 (by decide) ?_
    exact q_iret C (by first | rfl | (rw [f_X6_stock, if_pos c1]; done) | (rw [f_X6_stock, if_pos c1]; rfl) | (simp only [f_X6_stock, if_pos c1]; done)) (by first | rfl | (rw [f_X6_stock, if_pos c1]; done) | (rw [f_X6_stock, if_pos c1]; rfl) | (simp only [f_X6_stock, if_pos c1]; done)) dX6_stock_20
  · refine q_iload2 C dX6_stock_9 ?_
    refine q_iload3 C dX6_stock_10 ?_
    refine q_iload4 C dX6_stock_11 ?_
    refine qc_SI C (c_X6_fitWhole _ _ _ _) cw_X6_98 rfl rfl (Nat.le_of_ble_eq_true rfl) ⟨(Nat.le_of_ble_eq_true rfl), (Nat.le_of_ble_eq_true rfl)⟩ ⟨Nat.zero_le _, Nat.zero_le _⟩ dX6_stock_13 ?_
    refine q_if_ne (tgt := 21) C dX6_stock_16 (by decide) (fun c2 => ?_) (fun c2 => ?_)
    · refine q_aload0 C dX6_stock_21 ?_
      refine g_X6_19 C dX6_stock_22 ?_
      refine q_iload1 C dX6_stock_25 ?_
      refine q_iload2 C dX6_stock_26 ?_
      refine q_iload3 C dX6_stock_27 ?_
      refine q_iload4 C dX6_stock_28 ?_
      refine qc_VV C (c_X0_setParts _ _ _ _ _ (wi_in (by assumption) (by decide))) cw_X6_101 rfl rfl rfl rfl (Nat.le_of_ble_eq_true rfl) ⟨(Nat.le_of_ble_eq_true rfl), (Nat.le_of_ble_eq_true rfl)⟩ ⟨Nat.zero_le _, Nat.zero_le _⟩ dX6_stock_30 ?_
      refine q_iconst (v := 1) C dX6_stock_33 (by decide) ?_
      exact q_iret C (by first | rfl | (rw [f_X6_stock, if_neg c1, if_neg c2]; done) | (rw [f_X6_stock, if_neg c1, if_neg c2]; rfl) | (simp only [f_X6_stock, if_neg c1, if_neg c2]; done)) (by first | rfl | (rw [f_X6_stock, if_neg c1, if_neg c2]; done) | (rw [f_X6_stock, if_neg c1, if_neg c2]; rfl) | (simp only [f_X6_stock, if_neg c1, if_neg c2]; done)) dX6_stock_34
    · refine q_iconst (v := -1) C dX6_stock_19 (by decide) ?_
      exact q_iret C (by first | rfl | (rw [f_X6_stock, if_neg c1, if_pos c2]; done) | (rw [f_X6_stock, if_neg c1, if_pos c2]; rfl) | (simp only [f_X6_stock, if_neg c1, if_pos c2]; done)) (by first | rfl | (rw [f_X6_stock, if_neg c1, if_pos c2]; done) | (rw [f_X6_stock, if_neg c1, if_pos c2]; rfl) | (simp only [f_X6_stock, if_neg c1, if_pos c2]; done)) dX6_stock_20
def f_X6_share (M : Mm) (u1 : Int32) (u2 : Int32) (u3 : Int32) : Int32 × Mm := (if (f_X6_fitWhole u1 u2 u3) = 0 then ((-1 : Int32), M) else ((1 : Int32), (f_X0_setShares M u1 u2 u3)))
set_option maxHeartbeats 4000000 in
set_option maxRecDepth 100000 in
theorem c_X6_share (M : Mm) (u1 : Int32) (u2 : Int32) (u3 : Int32)  : MI yX6_share cX6_share 4 (some .int) 2 44 (fun a => [.ref (a 0), .int u1, .int u2, .int u3]) M (f_X6_share M u1 u2 u3).1 (f_X6_share M u1 u2 u3).2 := by
  refine MI.intro (lv0 := fun a => [some (.ref (a 0)), some (.int u1), some (.int u2), some (.int u3)]) (by decide) (fun a => ⟨(Nat.le_of_ble_eq_true rfl), rfl⟩) ?_
  intro p9 l9 e9 s9 m9 g9 b9 h9 c9 D9 A9 ct a C
  have C : Cx p9 s9 m9 g9 h9 c9 cX6_share 4 RX6 (some .int) D9 A9 ct a := C
  refine q_iload1 C dX6_share_0 ?_
  refine q_iload2 C dX6_share_1 ?_
  refine q_iload3 C dX6_share_2 ?_
  refine qc_SI C (c_X6_fitWhole _ _ _ _) cw_X6_98 rfl rfl (Nat.le_of_ble_eq_true rfl) ⟨(Nat.le_of_ble_eq_true rfl), (Nat.le_of_ble_eq_true rfl)⟩ ⟨Nat.zero_le _, Nat.zero_le _⟩ dX6_share_3 ?_
  refine q_if_ne (tgt := 11) C dX6_share_6 (by decide) (fun c1 => ?_) (fun c1 => ?_)
  · refine q_aload0 C dX6_share_11 ?_
    refine g_X6_19 C dX6_share_12 ?_
    refine q_iload1 C dX6_share_15 ?_
    refine q_iload2 C dX6_share_16 ?_
    refine q_iload3 C dX6_share_17 ?_
    refine qc_VV C (c_X0_setShares _ _ _ _) cw_X6_105 rfl rfl rfl rfl (Nat.le_of_ble_eq_true rfl) ⟨(Nat.le_of_ble_eq_true rfl), (Nat.le_of_ble_eq_true rfl)⟩ ⟨Nat.zero_le _, Nat.zero_le _⟩ dX6_share_18 ?_
    refine q_iconst (v := 1) C dX6_share_21 (by decide) ?_
    exact q_iret C (by first | rfl | (rw [f_X6_share, if_neg c1]; done) | (rw [f_X6_share, if_neg c1]; rfl) | (simp only [f_X6_share, if_neg c1]; done)) (by first | rfl | (rw [f_X6_share, if_neg c1]; done) | (rw [f_X6_share, if_neg c1]; rfl) | (simp only [f_X6_share, if_neg c1]; done)) dX6_share_22
  · refine q_iconst (v := -1) C dX6_share_9 (by decide) ?_
    exact q_iret C (by first | rfl | (rw [f_X6_share, if_pos c1]; done) | (rw [f_X6_share, if_pos c1]; rfl) | (simp only [f_X6_share, if_pos c1]; done)) (by first | rfl | (rw [f_X6_share, if_pos c1]; done) | (rw [f_X6_share, if_pos c1]; rfl) | (simp only [f_X6_share, if_pos c1]; done)) dX6_share_10
def f_X6_shareOf (M : Mm) (u1 : Int32) : Int32 := (if (f_X6_within u1 (0 : Int32) (3 : Int32)) = 0 then (-1 : Int32) else (f_X0_sharesOf M u1))
set_option maxHeartbeats 4000000 in
set_option maxRecDepth 100000 in
theorem c_X6_shareOf (M : Mm) (u1 : Int32)  : MI yX6_shareOf cX6_shareOf 2 (some .int) 1 22 (fun a => [.ref (a 0), .int u1]) M (f_X6_shareOf M u1) M := by
  refine MI.intro (lv0 := fun a => [some (.ref (a 0)), some (.int u1)]) (by decide) (fun a => ⟨(Nat.le_of_ble_eq_true rfl), rfl⟩) ?_
  intro p9 l9 e9 s9 m9 g9 b9 h9 c9 D9 A9 ct a C
  have C : Cx p9 s9 m9 g9 h9 c9 cX6_shareOf 2 RX6 (some .int) D9 A9 ct a := C
  refine q_iload1 C dX6_shareOf_0 ?_
  refine q_iconst (v := 0) C dX6_shareOf_1 (by decide) ?_
  refine q_iconst (v := 3) C dX6_shareOf_2 (by decide) ?_
  refine qc_SI C (c_X6_within _ _ _ _) cw_X6_63 rfl rfl (Nat.le_of_ble_eq_true rfl) ⟨(Nat.le_of_ble_eq_true rfl), (Nat.le_of_ble_eq_true rfl)⟩ ⟨Nat.zero_le _, Nat.zero_le _⟩ dX6_shareOf_3 ?_
  refine q_if_ne (tgt := 11) C dX6_shareOf_6 (by decide) (fun c1 => ?_) (fun c1 => ?_)
  · refine q_aload0 C dX6_shareOf_11 ?_
    refine g_X6_19 C dX6_shareOf_12 ?_
    refine q_iload1 C dX6_shareOf_15 ?_
    refine qc_VI C (c_X0_sharesOf _ _ (wi_in (by assumption) (by decide))) cw_X6_109 rfl rfl rfl rfl (Nat.le_of_ble_eq_true rfl) ⟨(Nat.le_of_ble_eq_true rfl), (Nat.le_of_ble_eq_true rfl)⟩ ⟨Nat.zero_le _, Nat.zero_le _⟩ dX6_shareOf_16 ?_
    exact q_iret C (by first | rfl | (rw [f_X6_shareOf, if_neg c1]; done) | (rw [f_X6_shareOf, if_neg c1]; rfl) | (simp only [f_X6_shareOf, if_neg c1]; done)) rfl dX6_shareOf_19
  · refine q_iconst (v := -1) C dX6_shareOf_9 (by decide) ?_
    exact q_iret C (by first | rfl | (rw [f_X6_shareOf, if_pos c1]; done) | (rw [f_X6_shareOf, if_pos c1]; rfl) | (simp only [f_X6_shareOf, if_pos c1]; done)) rfl dX6_shareOf_10
def f_X6_mix (M : Mm) (u1 : Int32) : Int32 := (if (f_X6_within u1 (0 : Int32) (3 : Int32)) = 0 then (-1 : Int32) else (f_X0_part M u1))
set_option maxHeartbeats 4000000 in
set_option maxRecDepth 100000 in
theorem c_X6_mix (M : Mm) (u1 : Int32)  : MI yX6_mix cX6_mix 2 (some .int) 1 23 (fun a => [.ref (a 0), .int u1]) M (f_X6_mix M u1) M := by
  refine MI.intro (lv0 := fun a => [some (.ref (a 0)), some (.int u1)]) (by decide) (fun a => ⟨(Nat.le_of_ble_eq_true rfl), rfl⟩) ?_
  intro p9 l9 e9 s9 m9 g9 b9 h9 c9 D9 A9 ct a C
  have C : Cx p9 s9 m9 g9 h9 c9 cX6_mix 2 RX6 (some .int) D9 A9 ct a := C
  refine q_iload1 C dX6_mix_0 ?_
  refine q_iconst (v := 0) C dX6_mix_1 (by decide) ?_
  refine q_iconst (v := 3) C dX6_mix_2 (by decide) ?_
  refine qc_SI C (c_X6_within _ _ _ _) cw_X6_63 rfl rfl (Nat.le_of_ble_eq_true rfl) ⟨(Nat.le_of_ble_eq_true rfl), (Nat.le_of_ble_eq_true rfl)⟩ ⟨Nat.zero_le _, Nat.zero_le _⟩ dX6_mix_3 ?_
  refine q_if_ne (tgt := 11) C dX6_mix_6 (by decide) (fun c1 => ?_) (fun c1 => ?_)
  · refine q_aload0 C dX6_mix_11 ?_
    refine g_X6_19 C dX6_mix_12 ?_
    refine q_iload1 C dX6_mix_15 ?_
    refine qc_VI C (c_X0_part _ _ (wi_in (by assumption) (by decide))) cw_X6_112 rfl rfl rfl rfl (Nat.le_of_ble_eq_true rfl) ⟨(Nat.le_of_ble_eq_true rfl), (Nat.le_of_ble_eq_true rfl)⟩ ⟨Nat.zero_le _, Nat.zero_le _⟩ dX6_mix_16 ?_
    exact q_iret C (by first | rfl | (rw [f_X6_mix, if_neg c1]; done) | (rw [f_X6_mix, if_neg c1]; rfl) | (simp only [f_X6_mix, if_neg c1]; done)) rfl dX6_mix_19
  · refine q_iconst (v := -1) C dX6_mix_9 (by decide) ?_
    exact q_iret C (by first | rfl | (rw [f_X6_mix, if_pos c1]; done) | (rw [f_X6_mix, if_pos c1]; rfl) | (simp only [f_X6_mix, if_pos c1]; done)) rfl dX6_mix_10
def m_X6_number_1 (M : Mm) : Mm := (sJ (sJ M 0 6 (((f_X0_numberUpper M) / (f_X6_commonDivisor (f_X0_numberUpper M) (f_X0_numberLower M)))).toInt64) 0 7 (((f_X0_numberLower M) / (f_X6_commonDivisor (f_X0_numberUpper M) (f_X0_numberLower M)))).toInt64)
def f_X6_number (M : Mm)  : Int32 × Mm := (if (f_X0_numberLower M) = 0 then ((f_X1_answer M (4 : Int32)).1, (f_X1_answer M (4 : Int32)).2) else ((1 : Int32), (m_X6_number_1 M)))
set_option maxHeartbeats 4000000 in
set_option maxRecDepth 100000 in
theorem c_X6_number (M : Mm)   : MI yX6_number cX6_number 4 (some .int) 2 48 (fun a => [.ref (a 0)]) M (f_X6_number M).1 (f_X6_number M).2 := by
  refine MI.intro (lv0 := fun a => [some (.ref (a 0)), none, none, none]) (by decide) (fun a => ⟨(Nat.le_of_ble_eq_true rfl), rfl⟩) ?_
  intro p9 l9 e9 s9 m9 g9 b9 h9 c9 D9 A9 ct a C
  have C : Cx p9 s9 m9 g9 h9 c9 cX6_number 4 RX6 (some .int) D9 A9 ct a := C
  refine q_aload0 C dX6_number_0 ?_
  refine g_X6_19 C dX6_number_1 ?_
  refine qc_VI C (c_X0_numberUpper _ ) cw_X6_115 rfl rfl rfl rfl (Nat.le_of_ble_eq_true rfl) ⟨(Nat.le_of_ble_eq_true rfl), (Nat.le_of_ble_eq_true rfl)⟩ ⟨Nat.zero_le _, Nat.zero_le _⟩ dX6_number_4 ?_
  refine q_istore1 C dX6_number_7 (by decide) (by intro w h0 h; first | exact absurd rfl h0 | (cases h <;> rfl)) ?_
  refine q_aload0 C dX6_number_8 ?_
  refine g_X6_19 C dX6_number_9 ?_
  refine qc_VI C (c_X0_numberLower _ ) cw_X6_118 rfl rfl rfl rfl (Nat.le_of_ble_eq_true rfl) ⟨(Nat.le_of_ble_eq_true rfl), (Nat.le_of_ble_eq_true rfl)⟩ ⟨Nat.zero_le _, Nat.zero_le _⟩ dX6_number_12 ?_
  refine q_istore2 C dX6_number_15 (by decide) (by intro w h0 h; first | exact absurd rfl h0 | (cases h <;> rfl)) ?_
  refine q_iload2 C dX6_number_16 ?_
  refine q_if_ne (tgt := 29) C dX6_number_17 (by decide) (fun c1 => ?_) (fun c1 => ?_)
  · refine q_iload1 C dX6_number_29 ?_
    refine q_iload2 C dX6_number_30 ?_
    refine qc_SI C (c_X6_commonDivisor _ _ _) cw_X6_124 rfl rfl (Nat.le_of_ble_eq_true rfl) ⟨(Nat.le_of_ble_eq_true rfl), (Nat.le_of_ble_eq_true rfl)⟩ ⟨Nat.zero_le _, Nat.zero_le _⟩ dX6_number_31 ?_
    refine q_istore3 C dX6_number_34 (by decide) (by intro w h0 h; first | exact absurd rfl h0 | (cases h <;> rfl)) ?_
    refine q_aload0 C dX6_number_35 ?_
    refine q_iload1 C dX6_number_36 ?_
    refine q_iload3 C dX6_number_37 ?_
    refine q_idiv C dX6_number_38 (cd_ne _ _) ?_
    refine q_i2l C dX6_number_39 ?_
    refine p_X6_51 C  dX6_number_40 ?_
    refine q_aload0 C dX6_number_43 ?_
    refine q_iload2 C dX6_number_44 ?_
    refine q_iload3 C dX6_number_45 ?_
    refine q_idiv C dX6_number_46 (cd_ne _ _) ?_
    refine q_i2l C dX6_number_47 ?_
    refine p_X6_55 C  dX6_number_48 ?_
    refine q_cut (m_X6_number_1 M) 51 [some (.ref (a 0)), some (.int (f_X0_numberUpper M)), some (.int (f_X0_numberLower M)), some (.int (f_X6_commonDivisor (f_X0_numberUpper M) (f_X0_numberLower M)))] [] (fun hJ => hJ) ?_
    refine q_iconst (v := 1) C dX6_number_51 (by decide) ?_
    exact q_iret C (by first | rfl | (rw [f_X6_number, if_neg c1]; done) | (rw [f_X6_number, if_neg c1]; rfl) | (simp only [f_X6_number, if_neg c1]; done)) (by first | rfl | (rw [f_X6_number, if_neg c1]; done) | (rw [f_X6_number, if_neg c1]; rfl) | (simp only [f_X6_number, if_neg c1]; done)) dX6_number_52
  · refine q_aload0 C dX6_number_20 ?_
    refine g_X6_47 C dX6_number_21 ?_
    refine q_iconst (v := 4) C dX6_number_24 (by decide) ?_
    refine qc_VI C (c_X1_answer _ _ (by first | assumption | exact vp_in_nI (by omega) (by decide) | omega | (unfold vp_in; decide) | decide)) cw_X6_121 rfl rfl rfl rfl (Nat.le_of_ble_eq_true rfl) ⟨(Nat.le_of_ble_eq_true rfl), (Nat.le_of_ble_eq_true rfl)⟩ ⟨Nat.zero_le _, Nat.zero_le _⟩ dX6_number_25 ?_
    exact q_iret C (by first | rfl | (rw [f_X6_number, if_pos c1]; done) | (rw [f_X6_number, if_pos c1]; rfl) | (simp only [f_X6_number, if_pos c1]; done)) (by first | rfl | (rw [f_X6_number, if_pos c1]; done) | (rw [f_X6_number, if_pos c1]; rfl) | (simp only [f_X6_number, if_pos c1]; done)) dX6_number_28
def f_X6_aim (M : Mm) (u1 : Int32) (u2 : Int32) : Int32 × Mm := (if (f_X6_within u1 (1 : Int32) (1000 : Int32)) = 0 then ((-1 : Int32), M) else (if (f_X6_within u2 (1 : Int32) (1000 : Int32)) = 0 then ((-1 : Int32), M) else ((1 : Int32), (f_X0_setAim M u1 u2))))
set_option maxHeartbeats 4000000 in
set_option maxRecDepth 100000 in
theorem c_X6_aim (M : Mm) (u1 : Int32) (u2 : Int32)  : MI yX6_aim cX6_aim 3 (some .int) 1 22 (fun a => [.ref (a 0), .int u1, .int u2]) M (f_X6_aim M u1 u2).1 (f_X6_aim M u1 u2).2 := by
  refine MI.intro (lv0 := fun a => [some (.ref (a 0)), some (.int u1), some (.int u2)]) (by decide) (fun a => ⟨(Nat.le_of_ble_eq_true rfl), rfl⟩) ?_
  intro p9 l9 e9 s9 m9 g9 b9 h9 c9 D9 A9 ct a C
  have C : Cx p9 s9 m9 g9 h9 c9 cX6_aim 3 RX6 (some .int) D9 A9 ct a := C
  refine q_iload1 C dX6_aim_0 ?_
  refine q_iconst (v := 1) C dX6_aim_1 (by decide) ?_
  refine q_sipush (v := 1000) C dX6_aim_2 (by decide) ?_
  refine qc_SI C (c_X6_within _ _ _ _) cw_X6_63 rfl rfl (Nat.le_of_ble_eq_true rfl) ⟨(Nat.le_of_ble_eq_true rfl), (Nat.le_of_ble_eq_true rfl)⟩ ⟨Nat.zero_le _, Nat.zero_le _⟩ dX6_aim_5 ?_
  refine q_if_eq (tgt := 22) C dX6_aim_8 (by decide) (fun c1 => ?_) (fun c1 => ?_)
  · refine q_iconst (v := -1) C dX6_aim_22 (by decide) ?_
    exact q_iret C (by first | rfl | (rw [f_X6_aim, if_pos c1]; done) | (rw [f_X6_aim, if_pos c1]; rfl) | (simp only [f_X6_aim, if_pos c1]; done)) (by first | rfl | (rw [f_X6_aim, if_pos c1]; done) | (rw [f_X6_aim, if_pos c1]; rfl) | (simp only [f_X6_aim, if_pos c1]; done)) dX6_aim_23
  · refine q_iload2 C dX6_aim_11 ?_
    refine q_iconst (v := 1) C dX6_aim_12 (by decide) ?_
    refine q_sipush (v := 1000) C dX6_aim_13 (by decide) ?_
    refine qc_SI C (c_X6_within _ _ _ _) cw_X6_63 rfl rfl (Nat.le_of_ble_eq_true rfl) ⟨(Nat.le_of_ble_eq_true rfl), (Nat.le_of_ble_eq_true rfl)⟩ ⟨Nat.zero_le _, Nat.zero_le _⟩ dX6_aim_16 ?_
    refine q_if_ne (tgt := 24) C dX6_aim_19 (by decide) (fun c2 => ?_) (fun c2 => ?_)
    · refine q_aload0 C dX6_aim_24 ?_
      refine g_X6_19 C dX6_aim_25 ?_
      refine q_iload1 C dX6_aim_28 ?_
      refine q_iload2 C dX6_aim_29 ?_
      refine qc_VV C (c_X0_setAim _ _ _) cw_X6_128 rfl rfl rfl rfl (Nat.le_of_ble_eq_true rfl) ⟨(Nat.le_of_ble_eq_true rfl), (Nat.le_of_ble_eq_true rfl)⟩ ⟨Nat.zero_le _, Nat.zero_le _⟩ dX6_aim_30 ?_
      refine q_iconst (v := 1) C dX6_aim_33 (by decide) ?_
      exact q_iret C (by first | rfl | (rw [f_X6_aim, if_neg c1, if_neg c2]; done) | (rw [f_X6_aim, if_neg c1, if_neg c2]; rfl) | (simp only [f_X6_aim, if_neg c1, if_neg c2]; done)) (by first | rfl | (rw [f_X6_aim, if_neg c1, if_neg c2]; done) | (rw [f_X6_aim, if_neg c1, if_neg c2]; rfl) | (simp only [f_X6_aim, if_neg c1, if_neg c2]; done)) dX6_aim_34
    · refine q_iconst (v := -1) C dX6_aim_22 (by decide) ?_
      exact q_iret C (by first | rfl | (rw [f_X6_aim, if_neg c1, if_pos c2]; done) | (rw [f_X6_aim, if_neg c1, if_pos c2]; rfl) | (simp only [f_X6_aim, if_neg c1, if_pos c2]; done)) (by first | rfl | (rw [f_X6_aim, if_neg c1, if_pos c2]; done) | (rw [f_X6_aim, if_neg c1, if_pos c2]; rfl) | (simp only [f_X6_aim, if_neg c1, if_pos c2]; done)) dX6_aim_23
def f_X6_rule (M : Mm) (u1 : Int32) (u2 : Int32) : Int32 × Mm := (if (f_X6_within u1 (0 : Int32) (5 : Int32)) = 0 then ((-1 : Int32), M) else (if (f_X6_within u2 (0 : Int32) (100 : Int32)) = 0 then ((-1 : Int32), M) else ((1 : Int32), (f_X0_setRule M u1 u2))))
set_option maxHeartbeats 4000000 in
set_option maxRecDepth 100000 in
theorem c_X6_rule (M : Mm) (u1 : Int32) (u2 : Int32)  : MI yX6_rule cX6_rule 3 (some .int) 1 22 (fun a => [.ref (a 0), .int u1, .int u2]) M (f_X6_rule M u1 u2).1 (f_X6_rule M u1 u2).2 := by
  refine MI.intro (lv0 := fun a => [some (.ref (a 0)), some (.int u1), some (.int u2)]) (by decide) (fun a => ⟨(Nat.le_of_ble_eq_true rfl), rfl⟩) ?_
  intro p9 l9 e9 s9 m9 g9 b9 h9 c9 D9 A9 ct a C
  have C : Cx p9 s9 m9 g9 h9 c9 cX6_rule 3 RX6 (some .int) D9 A9 ct a := C
  refine q_iload1 C dX6_rule_0 ?_
  refine q_iconst (v := 0) C dX6_rule_1 (by decide) ?_
  refine q_iconst (v := 5) C dX6_rule_2 (by decide) ?_
  refine qc_SI C (c_X6_within _ _ _ _) cw_X6_63 rfl rfl (Nat.le_of_ble_eq_true rfl) ⟨(Nat.le_of_ble_eq_true rfl), (Nat.le_of_ble_eq_true rfl)⟩ ⟨Nat.zero_le _, Nat.zero_le _⟩ dX6_rule_3 ?_
  refine q_if_eq (tgt := 19) C dX6_rule_6 (by decide) (fun c1 => ?_) (fun c1 => ?_)
  · refine q_iconst (v := -1) C dX6_rule_19 (by decide) ?_
    exact q_iret C (by first | rfl | (rw [f_X6_rule, if_pos c1]; done) | (rw [f_X6_rule, if_pos c1]; rfl) | (simp only [f_X6_rule, if_pos c1]; done)) (by first | rfl | (rw [f_X6_rule, if_pos c1]; done) | (rw [f_X6_rule, if_pos c1]; rfl) | (simp only [f_X6_rule, if_pos c1]; done)) dX6_rule_20
  · refine q_iload2 C dX6_rule_9 ?_
    refine q_iconst (v := 0) C dX6_rule_10 (by decide) ?_
    refine q_bipush (v := 100) C dX6_rule_11 (by decide) ?_
    refine qc_SI C (c_X6_within _ _ _ _) cw_X6_63 rfl rfl (Nat.le_of_ble_eq_true rfl) ⟨(Nat.le_of_ble_eq_true rfl), (Nat.le_of_ble_eq_true rfl)⟩ ⟨Nat.zero_le _, Nat.zero_le _⟩ dX6_rule_13 ?_
    refine q_if_ne (tgt := 21) C dX6_rule_16 (by decide) (fun c2 => ?_) (fun c2 => ?_)
    · refine q_aload0 C dX6_rule_21 ?_
      refine g_X6_19 C dX6_rule_22 ?_
      refine q_iload1 C dX6_rule_25 ?_
      refine q_iload2 C dX6_rule_26 ?_
      refine qc_VV C (c_X0_setRule _ _ _) cw_X6_132 rfl rfl rfl rfl (Nat.le_of_ble_eq_true rfl) ⟨(Nat.le_of_ble_eq_true rfl), (Nat.le_of_ble_eq_true rfl)⟩ ⟨Nat.zero_le _, Nat.zero_le _⟩ dX6_rule_27 ?_
      refine q_iconst (v := 1) C dX6_rule_30 (by decide) ?_
      exact q_iret C (by first | rfl | (rw [f_X6_rule, if_neg c1, if_neg c2]; done) | (rw [f_X6_rule, if_neg c1, if_neg c2]; rfl) | (simp only [f_X6_rule, if_neg c1, if_neg c2]; done)) (by first | rfl | (rw [f_X6_rule, if_neg c1, if_neg c2]; done) | (rw [f_X6_rule, if_neg c1, if_neg c2]; rfl) | (simp only [f_X6_rule, if_neg c1, if_neg c2]; done)) dX6_rule_31
    · refine q_iconst (v := -1) C dX6_rule_19 (by decide) ?_
      exact q_iret C (by first | rfl | (rw [f_X6_rule, if_neg c1, if_pos c2]; done) | (rw [f_X6_rule, if_neg c1, if_pos c2]; rfl) | (simp only [f_X6_rule, if_neg c1, if_pos c2]; done)) (by first | rfl | (rw [f_X6_rule, if_neg c1, if_pos c2]; done) | (rw [f_X6_rule, if_neg c1, if_pos c2]; rfl) | (simp only [f_X6_rule, if_neg c1, if_pos c2]; done)) dX6_rule_20
def f_X6_hour (M : Mm) (u1 : Int32) : Int32 × Mm := (if (f_X0_hours M) < (200 : Int32) then ((f_X0_passHour M u1).1, (f_X0_passHour M u1).2) else ((-2 : Int32), M))
set_option maxHeartbeats 4000000 in
set_option maxRecDepth 100000 in
theorem c_X6_hour (M : Mm) (u1 : Int32) (h0 : 0 ≤ gI M 2 5) : MI yX6_hour cX6_hour 2 (some .int) 4 92 (fun a => [.ref (a 0), .int u1]) M (f_X6_hour M u1).1 (f_X6_hour M u1).2 := by
  refine MI.intro (lv0 := fun a => [some (.ref (a 0)), some (.int u1)]) (by decide) (fun a => ⟨(Nat.le_of_ble_eq_true rfl), rfl⟩) ?_
  intro p9 l9 e9 s9 m9 g9 b9 h9 c9 D9 A9 ct a C
  have C : Cx p9 s9 m9 g9 h9 c9 cX6_hour 2 RX6 (some .int) D9 A9 ct a := C
  refine q_aload0 C dX6_hour_0 ?_
  refine g_X6_19 C dX6_hour_1 ?_
  refine qc_VI C (c_X0_hours _ ) cw_X6_135 rfl rfl rfl rfl (Nat.le_of_ble_eq_true rfl) ⟨(Nat.le_of_ble_eq_true rfl), (Nat.le_of_ble_eq_true rfl)⟩ ⟨Nat.zero_le _, Nat.zero_le _⟩ dX6_hour_4 ?_
  refine q_sipush (v := 200) C dX6_hour_7 (by decide) ?_
  refine q_icmp_lt (tgt := 16) C dX6_hour_10 (by decide) (fun c1 => ?_) (fun c1 => ?_)
  · refine q_aload0 C dX6_hour_16 ?_
    refine g_X6_19 C dX6_hour_17 ?_
    refine q_iload1 C dX6_hour_20 ?_
    refine qc_VI C (c_X0_passHour _ _ h0 (vin_lt (vin_l h0 (by assumption) (by decide)))) cw_X6_138 rfl rfl rfl rfl (Nat.le_of_ble_eq_true rfl) ⟨(Nat.le_of_ble_eq_true rfl), (Nat.le_of_ble_eq_true rfl)⟩ ⟨Nat.zero_le _, Nat.zero_le _⟩ dX6_hour_21 ?_
    exact q_iret C (by first | rfl | (rw [f_X6_hour, if_pos c1]; done) | (rw [f_X6_hour, if_pos c1]; rfl) | (simp only [f_X6_hour, if_pos c1]; done)) (by first | rfl | (rw [f_X6_hour, if_pos c1]; done) | (rw [f_X6_hour, if_pos c1]; rfl) | (simp only [f_X6_hour, if_pos c1]; done)) dX6_hour_24
  · refine q_bipush (v := -2) C dX6_hour_13 (by decide) ?_
    exact q_iret C (by first | rfl | (rw [f_X6_hour, if_neg c1]; done) | (rw [f_X6_hour, if_neg c1]; rfl) | (simp only [f_X6_hour, if_neg c1]; done)) (by first | rfl | (rw [f_X6_hour, if_neg c1]; done) | (rw [f_X6_hour, if_neg c1]; rfl) | (simp only [f_X6_hour, if_neg c1]; done)) dX6_hour_15
def f_X6_read (M : Mm)  : Int32 := (f_X0_latestRead M)
set_option maxHeartbeats 4000000 in
set_option maxRecDepth 100000 in
theorem c_X6_read (M : Mm)   : MI yX6_read cX6_read 1 (some .int) 1 20 (fun a => [.ref (a 0)]) M (f_X6_read M) M := by
  refine MI.intro (lv0 := fun a => [some (.ref (a 0))]) (by decide) (fun a => ⟨(Nat.le_of_ble_eq_true rfl), rfl⟩) ?_
  intro p9 l9 e9 s9 m9 g9 b9 h9 c9 D9 A9 ct a C
  have C : Cx p9 s9 m9 g9 h9 c9 cX6_read 1 RX6 (some .int) D9 A9 ct a := C
  refine q_aload0 C dX6_read_0 ?_
  refine g_X6_19 C dX6_read_1 ?_
  refine qc_VI C (c_X0_latestRead _ ) cw_X6_142 rfl rfl rfl rfl (Nat.le_of_ble_eq_true rfl) ⟨(Nat.le_of_ble_eq_true rfl), (Nat.le_of_ble_eq_true rfl)⟩ ⟨Nat.zero_le _, Nat.zero_le _⟩ dX6_read_4 ?_
  exact q_iret C (by first | (rw [f_X6_read]; done) | rfl) rfl dX6_read_7
def f_X6_passed (M : Mm)  : Int32 := (f_X0_passedOver M)
set_option maxHeartbeats 4000000 in
set_option maxRecDepth 100000 in
theorem c_X6_passed (M : Mm)   : MI yX6_passed cX6_passed 1 (some .int) 1 20 (fun a => [.ref (a 0)]) M (f_X6_passed M) M := by
  refine MI.intro (lv0 := fun a => [some (.ref (a 0))]) (by decide) (fun a => ⟨(Nat.le_of_ble_eq_true rfl), rfl⟩) ?_
  intro p9 l9 e9 s9 m9 g9 b9 h9 c9 D9 A9 ct a C
  have C : Cx p9 s9 m9 g9 h9 c9 cX6_passed 1 RX6 (some .int) D9 A9 ct a := C
  refine q_aload0 C dX6_passed_0 ?_
  refine g_X6_19 C dX6_passed_1 ?_
  refine qc_VI C (c_X0_passedOver _ ) cw_X6_145 rfl rfl rfl rfl (Nat.le_of_ble_eq_true rfl) ⟨(Nat.le_of_ble_eq_true rfl), (Nat.le_of_ble_eq_true rfl)⟩ ⟨Nat.zero_le _, Nat.zero_le _⟩ dX6_passed_4 ?_
  exact q_iret C (by first | (rw [f_X6_passed]; done) | rfl) rfl dX6_passed_7
def m_X6_step_1 (M : Mm) (u1 : Int32) (u2 : Int32) (u3 : Int32) : Mm := (if (f_X3_latest (f_X3_burn M u1 u2 u3).2 (0 : Int32)) ≤ 0 then (f_X3_burn M u1 u2 u3).2 else (f_X5_store (f_X3_burn M u1 u2 u3).2 (f_X3_steps M) (f_X3_latest (f_X3_burn M u1 u2 u3).2 (3 : Int32)) (f_X3_latest (f_X3_burn M u1 u2 u3).2 (0 : Int32))))
def f_X6_step (M : Mm) (u1 : Int32) (u2 : Int32) (u3 : Int32) : Int32 × Mm := (if (f_X6_within u1 (0 : Int32) (1000 : Int32)) = 0 then ((-1 : Int32), M) else (if (f_X6_within u2 (0 : Int32) (100000 : Int32)) = 0 then ((-1 : Int32), M) else (if (f_X6_within u3 (0 : Int32) (100 : Int32)) = 0 then ((-1 : Int32), M) else (if (f_X3_steps M) < (500 : Int32) then ((f_X3_burn M u1 u2 u3).1, (m_X6_step_1 M u1 u2 u3)) else ((-2 : Int32), M)))))
set_option maxHeartbeats 4000000 in
set_option maxRecDepth 100000 in
theorem c_X6_step (M : Mm) (u1 : Int32) (u2 : Int32) (u3 : Int32) (h0 : 0 ≤ gI M 3 6) : MI yX6_step cX6_step 7 (some .int) 3 69 (fun a => [.ref (a 0), .int u1, .int u2, .int u3]) M (f_X6_step M u1 u2 u3).1 (f_X6_step M u1 u2 u3).2 := by
  refine MI.intro (lv0 := fun a => [some (.ref (a 0)), some (.int u1), some (.int u2), some (.int u3), none, none, none]) (by decide) (fun a => ⟨(Nat.le_of_ble_eq_true rfl), rfl⟩) ?_
  intro p9 l9 e9 s9 m9 g9 b9 h9 c9 D9 A9 ct a C
  have C : Cx p9 s9 m9 g9 h9 c9 cX6_step 7 RX6 (some .int) D9 A9 ct a := C
  refine q_iload1 C dX6_step_0 ?_
  refine q_iconst (v := 0) C dX6_step_1 (by decide) ?_
  refine q_sipush (v := 1000) C dX6_step_2 (by decide) ?_
  refine qc_SI C (c_X6_within _ _ _ _) cw_X6_63 rfl rfl (Nat.le_of_ble_eq_true rfl) ⟨(Nat.le_of_ble_eq_true rfl), (Nat.le_of_ble_eq_true rfl)⟩ ⟨Nat.zero_le _, Nat.zero_le _⟩ dX6_step_5 ?_
  refine q_if_eq (tgt := 31) C dX6_step_8 (by decide) (fun c1 => ?_) (fun c1 => ?_)
  · refine q_iconst (v := -1) C dX6_step_31 (by decide) ?_
    exact q_iret C (by first | rfl | (rw [f_X6_step, if_pos c1]; done) | (rw [f_X6_step, if_pos c1]; rfl) | (simp only [f_X6_step, if_pos c1]; done)) (by first | rfl | (rw [f_X6_step, if_pos c1]; done) | (rw [f_X6_step, if_pos c1]; rfl) | (simp only [f_X6_step, if_pos c1]; done)) dX6_step_32
  · refine q_iload2 C dX6_step_11 ?_
    refine q_iconst (v := 0) C dX6_step_12 (by decide) ?_
    refine q_ldc C dX6_step_13 wk_X6_148 ?_
    refine qc_SI C (c_X6_within _ _ _ _) cw_X6_63 rfl rfl (Nat.le_of_ble_eq_true rfl) ⟨(Nat.le_of_ble_eq_true rfl), (Nat.le_of_ble_eq_true rfl)⟩ ⟨Nat.zero_le _, Nat.zero_le _⟩ dX6_step_15 ?_
    refine q_if_eq (tgt := 31) C dX6_step_18 (by decide) (fun c2 => ?_) (fun c2 => ?_)
    · refine q_iconst (v := -1) C dX6_step_31 (by decide) ?_
      exact q_iret C (by first | rfl | (rw [f_X6_step, if_neg c1, if_pos c2]; done) | (rw [f_X6_step, if_neg c1, if_pos c2]; rfl) | (simp only [f_X6_step, if_neg c1, if_pos c2]; done)) (by first | rfl | (rw [f_X6_step, if_neg c1, if_pos c2]; done) | (rw [f_X6_step, if_neg c1, if_pos c2]; rfl) | (simp only [f_X6_step, if_neg c1, if_pos c2]; done)) dX6_step_32
    · refine q_iload3 C dX6_step_21 ?_
      refine q_iconst (v := 0) C dX6_step_22 (by decide) ?_
      refine q_bipush (v := 100) C dX6_step_23 (by decide) ?_
      refine qc_SI C (c_X6_within _ _ _ _) cw_X6_63 rfl rfl (Nat.le_of_ble_eq_true rfl) ⟨(Nat.le_of_ble_eq_true rfl), (Nat.le_of_ble_eq_true rfl)⟩ ⟨Nat.zero_le _, Nat.zero_le _⟩ dX6_step_25 ?_
      refine q_if_ne (tgt := 33) C dX6_step_28 (by decide) (fun c3 => ?_) (fun c3 => ?_)
      · refine q_aload0 C dX6_step_33 ?_
        refine g_X6_26 C dX6_step_34 ?_
        refine qc_VI C (c_X3_steps _ ) cw_X6_149 rfl rfl rfl rfl (Nat.le_of_ble_eq_true rfl) ⟨(Nat.le_of_ble_eq_true rfl), (Nat.le_of_ble_eq_true rfl)⟩ ⟨Nat.zero_le _, Nat.zero_le _⟩ dX6_step_37 ?_
        refine q_istore4 C dX6_step_40 (by decide) (by intro w h0 h; first | exact absurd rfl h0 | (cases h <;> rfl)) ?_
        refine q_iload4 C dX6_step_42 ?_
        refine q_sipush (v := 500) C dX6_step_44 (by decide) ?_
        refine q_icmp_lt (tgt := 53) C dX6_step_47 (by decide) (fun c4 => ?_) (fun c4 => ?_)
        · refine q_aload0 C dX6_step_53 ?_
          refine g_X6_26 C dX6_step_54 ?_
          refine q_iload1 C dX6_step_57 ?_
          refine q_iload2 C dX6_step_58 ?_
          refine q_iload3 C dX6_step_59 ?_
          refine qc_VI C (c_X3_burn _ _ _ _) cw_X6_152 rfl rfl rfl rfl (Nat.le_of_ble_eq_true rfl) ⟨(Nat.le_of_ble_eq_true rfl), (Nat.le_of_ble_eq_true rfl)⟩ ⟨Nat.zero_le _, Nat.zero_le _⟩ dX6_step_60 ?_
          refine q_istore5 C dX6_step_63 (by decide) (by intro w h0 h; first | exact absurd rfl h0 | (cases h <;> rfl)) ?_
          refine q_aload0 C dX6_step_65 ?_
          refine g_X6_26 C dX6_step_66 ?_
          refine q_iconst (v := 0) C dX6_step_69 (by decide) ?_
          refine qc_VI C (c_X3_latest _ _ (by first | assumption | exact vp_in_nI (by omega) (by decide) | omega | (unfold vp_in; decide) | decide)) cw_X6_155 rfl rfl rfl rfl (Nat.le_of_ble_eq_true rfl) ⟨(Nat.le_of_ble_eq_true rfl), (Nat.le_of_ble_eq_true rfl)⟩ ⟨Nat.zero_le _, Nat.zero_le _⟩ dX6_step_70 ?_
          refine q_istore6 C dX6_step_73 (by decide) (by intro w h0 h; first | exact absurd rfl h0 | (cases h <;> rfl)) ?_
          refine q_iload6 C dX6_step_75 ?_
          refine q_cut (if (f_X3_latest (f_X3_burn M u1 u2 u3).2 (0 : Int32)) ≤ 0 then (f_X3_burn M u1 u2 u3).2 else (f_X5_store (f_X3_burn M u1 u2 u3).2 (f_X3_steps M) (f_X3_latest (f_X3_burn M u1 u2 u3).2 (3 : Int32)) (f_X3_latest (f_X3_burn M u1 u2 u3).2 (0 : Int32)))) 99 [none, none, none, none, none, some (.int (f_X3_burn M u1 u2 u3).1), none] [] (fun hJ => ?_) ?_
          · refine q_if_le (tgt := 99) C dX6_step_77 (by decide) (fun c5 => ?_) (fun c5 => ?_)
            · refine q_drop [none, none, none, none, none, some (.int (f_X3_burn M u1 u2 u3).1), none] (by repeat' (first | exact trivial | rfl | constructor)) ?_
              (try simp only [if_pos c5] at hJ); exact hJ
            · refine q_aload0 C dX6_step_80 ?_
              refine g_X6_33 C dX6_step_81 ?_
              refine q_iload4 C dX6_step_84 ?_
              refine q_aload0 C dX6_step_86 ?_
              refine g_X6_26 C dX6_step_87 ?_
              refine q_iconst (v := 3) C dX6_step_90 (by decide) ?_
              refine qc_VI C (c_X3_latest _ _ (by first | assumption | exact vp_in_nI (by omega) (by decide) | omega | (unfold vp_in; decide) | decide)) cw_X6_155 rfl rfl rfl rfl (Nat.le_of_ble_eq_true rfl) ⟨(Nat.le_of_ble_eq_true rfl), (Nat.le_of_ble_eq_true rfl)⟩ ⟨Nat.zero_le _, Nat.zero_le _⟩ dX6_step_91 ?_
              refine q_iload6 C dX6_step_94 ?_
              refine qc_VV C (c_X5_store _ _ _ _ (vin_l h0 (by assumption) (by decide)) (burn_grade _ _ _ _)) cw_X6_158 rfl rfl rfl rfl (Nat.le_of_ble_eq_true rfl) ⟨(Nat.le_of_ble_eq_true rfl), (Nat.le_of_ble_eq_true rfl)⟩ ⟨Nat.zero_le _, Nat.zero_le _⟩ dX6_step_96 ?_
              refine q_drop [none, none, none, none, none, some (.int (f_X3_burn M u1 u2 u3).1), none] (by repeat' (first | exact trivial | rfl | constructor)) ?_
              (try simp only [if_neg c5] at hJ); exact hJ
          refine q_cut (m_X6_step_1 M u1 u2 u3) 99 [none, none, none, none, none, some (.int (f_X3_burn M u1 u2 u3).1), none] [] (fun hJ => hJ) ?_
          refine q_iload5 C dX6_step_99 ?_
          exact q_iret C (by first | rfl | (rw [f_X6_step, if_neg c1, if_neg c2, if_neg c3, if_pos c4]; done) | (rw [f_X6_step, if_neg c1, if_neg c2, if_neg c3, if_pos c4]; rfl) | (simp only [f_X6_step, if_neg c1, if_neg c2, if_neg c3, if_pos c4]; done)) (by first | rfl | (rw [f_X6_step, if_neg c1, if_neg c2, if_neg c3, if_pos c4]; done) | (rw [f_X6_step, if_neg c1, if_neg c2, if_neg c3, if_pos c4]; rfl) | (simp only [f_X6_step, if_neg c1, if_neg c2, if_neg c3, if_pos c4]; done)) dX6_step_101
        · refine q_bipush (v := -2) C dX6_step_50 (by decide) ?_
          exact q_iret C (by first | rfl | (rw [f_X6_step, if_neg c1, if_neg c2, if_neg c3, if_neg c4]; done) | (rw [f_X6_step, if_neg c1, if_neg c2, if_neg c3, if_neg c4]; rfl) | (simp only [f_X6_step, if_neg c1, if_neg c2, if_neg c3, if_neg c4]; done)) (by first | rfl | (rw [f_X6_step, if_neg c1, if_neg c2, if_neg c3, if_neg c4]; done) | (rw [f_X6_step, if_neg c1, if_neg c2, if_neg c3, if_neg c4]; rfl) | (simp only [f_X6_step, if_neg c1, if_neg c2, if_neg c3, if_neg c4]; done)) dX6_step_52
      · refine q_iconst (v := -1) C dX6_step_31 (by decide) ?_
        exact q_iret C (by first | rfl | (rw [f_X6_step, if_neg c1, if_neg c2, if_pos c3]; done) | (rw [f_X6_step, if_neg c1, if_neg c2, if_pos c3]; rfl) | (simp only [f_X6_step, if_neg c1, if_neg c2, if_pos c3]; done)) (by first | rfl | (rw [f_X6_step, if_neg c1, if_neg c2, if_pos c3]; done) | (rw [f_X6_step, if_neg c1, if_neg c2, if_pos c3]; rfl) | (simp only [f_X6_step, if_neg c1, if_neg c2, if_pos c3]; done)) dX6_step_32
def f_X6_start (M : Mm)  : Int32 × Mm := ((f_X3_restart M).1, (f_X3_restart M).2)
set_option maxHeartbeats 4000000 in
set_option maxRecDepth 100000 in
theorem c_X6_start (M : Mm)   : MI yX6_start cX6_start 1 (some .int) 1 20 (fun a => [.ref (a 0)]) M (f_X6_start M).1 (f_X6_start M).2 := by
  refine MI.intro (lv0 := fun a => [some (.ref (a 0))]) (by decide) (fun a => ⟨(Nat.le_of_ble_eq_true rfl), rfl⟩) ?_
  intro p9 l9 e9 s9 m9 g9 b9 h9 c9 D9 A9 ct a C
  have C : Cx p9 s9 m9 g9 h9 c9 cX6_start 1 RX6 (some .int) D9 A9 ct a := C
  refine q_aload0 C dX6_start_0 ?_
  refine g_X6_26 C dX6_start_1 ?_
  refine qc_VI C (c_X3_restart _ ) cw_X6_161 rfl rfl rfl rfl (Nat.le_of_ble_eq_true rfl) ⟨(Nat.le_of_ble_eq_true rfl), (Nat.le_of_ble_eq_true rfl)⟩ ⟨Nat.zero_le _, Nat.zero_le _⟩ dX6_start_4 ?_
  exact q_iret C (by first | (rw [f_X6_start]; done) | rfl) (by first | (rw [f_X6_start]; done) | rfl) dX6_start_7
def f_X6_zone (M : Mm) (u1 : Int32) (u2 : Int32) : Int32 := (if (f_X6_within u1 (0 : Int32) (3 : Int32)) = 0 then (-1 : Int32) else (if (f_X6_within u2 (0 : Int32) (2 : Int32)) = 0 then (-1 : Int32) else (if u2 = (2 : Int32) then (f_X3_kindOf u1) else (if u2 = 0 then (f_X3_stuffIn M u1) else (f_X3_heatIn M u1)))))
set_option maxHeartbeats 4000000 in
set_option maxRecDepth 100000 in
theorem c_X6_zone (M : Mm) (u1 : Int32) (u2 : Int32)  : MI yX6_zone cX6_zone 3 (some .int) 1 22 (fun a => [.ref (a 0), .int u1, .int u2]) M (f_X6_zone M u1 u2) M := by
  refine MI.intro (lv0 := fun a => [some (.ref (a 0)), some (.int u1), some (.int u2)]) (by decide) (fun a => ⟨(Nat.le_of_ble_eq_true rfl), rfl⟩) ?_
  intro p9 l9 e9 s9 m9 g9 b9 h9 c9 D9 A9 ct a C
  have C : Cx p9 s9 m9 g9 h9 c9 cX6_zone 3 RX6 (some .int) D9 A9 ct a := C
  refine q_iload1 C dX6_zone_0 ?_
  refine q_iconst (v := 0) C dX6_zone_1 (by decide) ?_
  refine q_iconst (v := 3) C dX6_zone_2 (by decide) ?_
  refine qc_SI C (c_X6_within _ _ _ _) cw_X6_63 rfl rfl (Nat.le_of_ble_eq_true rfl) ⟨(Nat.le_of_ble_eq_true rfl), (Nat.le_of_ble_eq_true rfl)⟩ ⟨Nat.zero_le _, Nat.zero_le _⟩ dX6_zone_3 ?_
  refine q_if_eq (tgt := 18) C dX6_zone_6 (by decide) (fun c1 => ?_) (fun c1 => ?_)
  · refine q_iconst (v := -1) C dX6_zone_18 (by decide) ?_
    exact q_iret C (by first | rfl | (rw [f_X6_zone, if_pos c1]; done) | (rw [f_X6_zone, if_pos c1]; rfl) | (simp only [f_X6_zone, if_pos c1]; done)) rfl dX6_zone_19
  · refine q_iload2 C dX6_zone_9 ?_
    refine q_iconst (v := 0) C dX6_zone_10 (by decide) ?_
    refine q_iconst (v := 2) C dX6_zone_11 (by decide) ?_
    refine qc_SI C (c_X6_within _ _ _ _) cw_X6_63 rfl rfl (Nat.le_of_ble_eq_true rfl) ⟨(Nat.le_of_ble_eq_true rfl), (Nat.le_of_ble_eq_true rfl)⟩ ⟨Nat.zero_le _, Nat.zero_le _⟩ dX6_zone_12 ?_
    refine q_if_ne (tgt := 20) C dX6_zone_15 (by decide) (fun c2 => ?_) (fun c2 => ?_)
    · refine q_iload2 C dX6_zone_20 ?_
      refine q_iconst (v := 2) C dX6_zone_21 (by decide) ?_
      refine q_icmp_ne (tgt := 34) C dX6_zone_22 (by decide) (fun c3 => ?_) (fun c3 => ?_)
      · refine q_iload2 C dX6_zone_34 ?_
        refine q_cut M 57 [none, none, none] [.int (if u2 = 0 then (f_X3_stuffIn M u1) else (f_X3_heatIn M u1))] (fun hJ => ?_) ?_
        · refine q_if_ne (tgt := 49) C dX6_zone_35 (by decide) (fun c4 => ?_) (fun c4 => ?_)
          · refine q_aload0 C dX6_zone_49 ?_
            refine g_X6_26 C dX6_zone_50 ?_
            refine q_iload1 C dX6_zone_53 ?_
            refine qc_VI C (c_X3_heatIn _ _ (wi_in (by assumption) (by decide))) cw_X6_170 rfl rfl rfl rfl (Nat.le_of_ble_eq_true rfl) ⟨(Nat.le_of_ble_eq_true rfl), (Nat.le_of_ble_eq_true rfl)⟩ ⟨Nat.zero_le _, Nat.zero_le _⟩ dX6_zone_54 ?_
            refine q_drop [none, none, none] (by repeat' (first | exact trivial | rfl | constructor)) ?_
            (try simp only [if_neg c4] at hJ); exact hJ
          · refine q_aload0 C dX6_zone_38 ?_
            refine g_X6_26 C dX6_zone_39 ?_
            refine q_iload1 C dX6_zone_42 ?_
            refine qc_VI C (c_X3_stuffIn _ _ (wi_in (by assumption) (by decide))) cw_X6_167 rfl rfl rfl rfl (Nat.le_of_ble_eq_true rfl) ⟨(Nat.le_of_ble_eq_true rfl), (Nat.le_of_ble_eq_true rfl)⟩ ⟨Nat.zero_le _, Nat.zero_le _⟩ dX6_zone_43 ?_
            refine q_goto (tgt := 57) C dX6_zone_46 (by decide) ?_
            refine q_drop [none, none, none] (by repeat' (first | exact trivial | rfl | constructor)) ?_
            (try simp only [if_pos c4] at hJ); exact hJ
        exact q_iret C (by first | rfl | (rw [f_X6_zone, if_neg c1, if_neg c2, if_neg c3]; done) | (rw [f_X6_zone, if_neg c1, if_neg c2, if_neg c3]; rfl) | (simp only [f_X6_zone, if_neg c1, if_neg c2, if_neg c3]; done)) rfl dX6_zone_57
      · refine q_aload0 C dX6_zone_25 ?_
        refine g_X6_26 C dX6_zone_26 ?_
        refine q_iload1 C dX6_zone_29 ?_
        refine qc_VI C (c_X3_kindOf _ _ (wi_in (by assumption) (by decide))) cw_X6_164 rfl rfl rfl rfl (Nat.le_of_ble_eq_true rfl) ⟨(Nat.le_of_ble_eq_true rfl), (Nat.le_of_ble_eq_true rfl)⟩ ⟨Nat.zero_le _, Nat.zero_le _⟩ dX6_zone_30 ?_
        exact q_iret C (by first | rfl | (rw [f_X6_zone, if_neg c1, if_neg c2, if_pos c3]; done) | (rw [f_X6_zone, if_neg c1, if_neg c2, if_pos c3]; rfl) | (simp only [f_X6_zone, if_neg c1, if_neg c2, if_pos c3]; done)) rfl dX6_zone_33
    · refine q_iconst (v := -1) C dX6_zone_18 (by decide) ?_
      exact q_iret C (by first | rfl | (rw [f_X6_zone, if_neg c1, if_pos c2]; done) | (rw [f_X6_zone, if_neg c1, if_pos c2]; rfl) | (simp only [f_X6_zone, if_neg c1, if_pos c2]; done)) rfl dX6_zone_19
def f_X6_warmth (M : Mm) (u1 : Int32) (u2 : Int32) : Int32 × Mm := (if (f_X6_within u1 (0 : Int32) (3 : Int32)) = 0 then ((-1 : Int32), M) else (if (f_X6_within u2 (0 : Int32) (2 : Int32)) = 0 then ((-1 : Int32), M) else (if u2 = 0 then (if (f_X3_stuffIn M u1) = 0 then ((f_X1_answer M (4 : Int32)).1, (f_X1_answer M (4 : Int32)).2) else (((f_X3_heatIn M u1) / (f_X3_stuffIn M u1)), M)) else (if u2 = (f_X3_kindOf u1) then (if (f_X3_stuffIn M u1) = 0 then ((f_X1_answer M (4 : Int32)).1, (f_X1_answer M (4 : Int32)).2) else (((f_X3_heatIn M u1) / (f_X3_stuffIn M u1)), M)) else ((f_X1_answer M (3 : Int32)).1, (f_X1_answer M (3 : Int32)).2)))))
set_option maxHeartbeats 4000000 in
set_option maxRecDepth 100000 in
theorem c_X6_warmth (M : Mm) (u1 : Int32) (u2 : Int32)  : MI yX6_warmth cX6_warmth 4 (some .int) 1 22 (fun a => [.ref (a 0), .int u1, .int u2]) M (f_X6_warmth M u1 u2).1 (f_X6_warmth M u1 u2).2 := by
  refine MI.intro (lv0 := fun a => [some (.ref (a 0)), some (.int u1), some (.int u2), none]) (by decide) (fun a => ⟨(Nat.le_of_ble_eq_true rfl), rfl⟩) ?_
  intro p9 l9 e9 s9 m9 g9 b9 h9 c9 D9 A9 ct a C
  have C : Cx p9 s9 m9 g9 h9 c9 cX6_warmth 4 RX6 (some .int) D9 A9 ct a := C
  refine q_iload1 C dX6_warmth_0 ?_
  refine q_iconst (v := 0) C dX6_warmth_1 (by decide) ?_
  refine q_iconst (v := 3) C dX6_warmth_2 (by decide) ?_
  refine qc_SI C (c_X6_within _ _ _ _) cw_X6_63 rfl rfl (Nat.le_of_ble_eq_true rfl) ⟨(Nat.le_of_ble_eq_true rfl), (Nat.le_of_ble_eq_true rfl)⟩ ⟨Nat.zero_le _, Nat.zero_le _⟩ dX6_warmth_3 ?_
  refine q_if_eq (tgt := 18) C dX6_warmth_6 (by decide) (fun c1 => ?_) (fun c1 => ?_)
  · refine q_iconst (v := -1) C dX6_warmth_18 (by decide) ?_
    exact q_iret C (by first | rfl | (rw [f_X6_warmth, if_pos c1]; done) | (rw [f_X6_warmth, if_pos c1]; rfl) | (simp only [f_X6_warmth, if_pos c1]; done)) (by first | rfl | (rw [f_X6_warmth, if_pos c1]; done) | (rw [f_X6_warmth, if_pos c1]; rfl) | (simp only [f_X6_warmth, if_pos c1]; done)) dX6_warmth_19
  · refine q_iload2 C dX6_warmth_9 ?_
    refine q_iconst (v := 0) C dX6_warmth_10 (by decide) ?_
    refine q_iconst (v := 2) C dX6_warmth_11 (by decide) ?_
    refine qc_SI C (c_X6_within _ _ _ _) cw_X6_63 rfl rfl (Nat.le_of_ble_eq_true rfl) ⟨(Nat.le_of_ble_eq_true rfl), (Nat.le_of_ble_eq_true rfl)⟩ ⟨Nat.zero_le _, Nat.zero_le _⟩ dX6_warmth_12 ?_
    refine q_if_ne (tgt := 20) C dX6_warmth_15 (by decide) (fun c2 => ?_) (fun c2 => ?_)
    · refine q_iload2 C dX6_warmth_20 ?_
      refine q_if_eq (tgt := 45) C dX6_warmth_21 (by decide) (fun c3 => ?_) (fun c3 => ?_)
      · refine q_aload0 C dX6_warmth_45 ?_
        refine g_X6_26 C dX6_warmth_46 ?_
        refine q_iload1 C dX6_warmth_49 ?_
        refine qc_VI C (c_X3_stuffIn _ _ (wi_in (by assumption) (by decide))) cw_X6_167 rfl rfl rfl rfl (Nat.le_of_ble_eq_true rfl) ⟨(Nat.le_of_ble_eq_true rfl), (Nat.le_of_ble_eq_true rfl)⟩ ⟨Nat.zero_le _, Nat.zero_le _⟩ dX6_warmth_50 ?_
        refine q_istore3 C dX6_warmth_53 (by decide) (by intro w h0 h; first | exact absurd rfl h0 | (cases h <;> rfl)) ?_
        refine q_iload3 C dX6_warmth_54 ?_
        refine q_if_ne (tgt := 67) C dX6_warmth_55 (by decide) (fun c4 => ?_) (fun c4 => ?_)
        · refine q_aload0 C dX6_warmth_67 ?_
          refine g_X6_26 C dX6_warmth_68 ?_
          refine q_iload1 C dX6_warmth_71 ?_
          refine qc_VI C (c_X3_heatIn _ _ (wi_in (by assumption) (by decide))) cw_X6_170 rfl rfl rfl rfl (Nat.le_of_ble_eq_true rfl) ⟨(Nat.le_of_ble_eq_true rfl), (Nat.le_of_ble_eq_true rfl)⟩ ⟨Nat.zero_le _, Nat.zero_le _⟩ dX6_warmth_72 ?_
          refine q_iload3 C dX6_warmth_75 ?_
          refine q_idiv C dX6_warmth_76 (by first | decide | assumption | (apply i64ne; assumption)) ?_
          exact q_iret C (by first | rfl | (rw [f_X6_warmth, if_neg c1, if_neg c2, if_pos c3, if_neg c4]; done) | (rw [f_X6_warmth, if_neg c1, if_neg c2, if_pos c3, if_neg c4]; rfl) | (simp only [f_X6_warmth, if_neg c1, if_neg c2, if_pos c3, if_neg c4]; done)) (by first | rfl | (rw [f_X6_warmth, if_neg c1, if_neg c2, if_pos c3, if_neg c4]; done) | (rw [f_X6_warmth, if_neg c1, if_neg c2, if_pos c3, if_neg c4]; rfl) | (simp only [f_X6_warmth, if_neg c1, if_neg c2, if_pos c3, if_neg c4]; done)) dX6_warmth_77
        · refine q_aload0 C dX6_warmth_58 ?_
          refine g_X6_47 C dX6_warmth_59 ?_
          refine q_iconst (v := 4) C dX6_warmth_62 (by decide) ?_
          refine qc_VI C (c_X1_answer _ _ (by first | assumption | exact vp_in_nI (by omega) (by decide) | omega | (unfold vp_in; decide) | decide)) cw_X6_121 rfl rfl rfl rfl (Nat.le_of_ble_eq_true rfl) ⟨(Nat.le_of_ble_eq_true rfl), (Nat.le_of_ble_eq_true rfl)⟩ ⟨Nat.zero_le _, Nat.zero_le _⟩ dX6_warmth_63 ?_
          exact q_iret C (by first | rfl | (rw [f_X6_warmth, if_neg c1, if_neg c2, if_pos c3, if_pos c4]; done) | (rw [f_X6_warmth, if_neg c1, if_neg c2, if_pos c3, if_pos c4]; rfl) | (simp only [f_X6_warmth, if_neg c1, if_neg c2, if_pos c3, if_pos c4]; done)) (by first | rfl | (rw [f_X6_warmth, if_neg c1, if_neg c2, if_pos c3, if_pos c4]; done) | (rw [f_X6_warmth, if_neg c1, if_neg c2, if_pos c3, if_pos c4]; rfl) | (simp only [f_X6_warmth, if_neg c1, if_neg c2, if_pos c3, if_pos c4]; done)) dX6_warmth_66
      · refine q_iload2 C dX6_warmth_24 ?_
        refine q_aload0 C dX6_warmth_25 ?_
        refine g_X6_26 C dX6_warmth_26 ?_
        refine q_iload1 C dX6_warmth_29 ?_
        refine qc_VI C (c_X3_kindOf _ _ (wi_in (by assumption) (by decide))) cw_X6_164 rfl rfl rfl rfl (Nat.le_of_ble_eq_true rfl) ⟨(Nat.le_of_ble_eq_true rfl), (Nat.le_of_ble_eq_true rfl)⟩ ⟨Nat.zero_le _, Nat.zero_le _⟩ dX6_warmth_30 ?_
        refine q_icmp_eq (tgt := 45) C dX6_warmth_33 (by decide) (fun c5 => ?_) (fun c5 => ?_)
        · refine q_aload0 C dX6_warmth_45 ?_
          refine g_X6_26 C dX6_warmth_46 ?_
          refine q_iload1 C dX6_warmth_49 ?_
          refine qc_VI C (c_X3_stuffIn _ _ (wi_in (by assumption) (by decide))) cw_X6_167 rfl rfl rfl rfl (Nat.le_of_ble_eq_true rfl) ⟨(Nat.le_of_ble_eq_true rfl), (Nat.le_of_ble_eq_true rfl)⟩ ⟨Nat.zero_le _, Nat.zero_le _⟩ dX6_warmth_50 ?_
          refine q_istore3 C dX6_warmth_53 (by decide) (by intro w h0 h; first | exact absurd rfl h0 | (cases h <;> rfl)) ?_
          refine q_iload3 C dX6_warmth_54 ?_
          refine q_if_ne (tgt := 67) C dX6_warmth_55 (by decide) (fun c6 => ?_) (fun c6 => ?_)
          · refine q_aload0 C dX6_warmth_67 ?_
            refine g_X6_26 C dX6_warmth_68 ?_
            refine q_iload1 C dX6_warmth_71 ?_
            refine qc_VI C (c_X3_heatIn _ _ (wi_in (by assumption) (by decide))) cw_X6_170 rfl rfl rfl rfl (Nat.le_of_ble_eq_true rfl) ⟨(Nat.le_of_ble_eq_true rfl), (Nat.le_of_ble_eq_true rfl)⟩ ⟨Nat.zero_le _, Nat.zero_le _⟩ dX6_warmth_72 ?_
            refine q_iload3 C dX6_warmth_75 ?_
            refine q_idiv C dX6_warmth_76 (by first | decide | assumption | (apply i64ne; assumption)) ?_
            exact q_iret C (by first | rfl | (rw [f_X6_warmth, if_neg c1, if_neg c2, if_neg c3, if_pos c5, if_neg c6]; done) | (rw [f_X6_warmth, if_neg c1, if_neg c2, if_neg c3, if_pos c5, if_neg c6]; rfl) | (simp only [f_X6_warmth, if_neg c1, if_neg c2, if_neg c3, if_pos c5, if_neg c6]; done)) (by first | rfl | (rw [f_X6_warmth, if_neg c1, if_neg c2, if_neg c3, if_pos c5, if_neg c6]; done) | (rw [f_X6_warmth, if_neg c1, if_neg c2, if_neg c3, if_pos c5, if_neg c6]; rfl) | (simp only [f_X6_warmth, if_neg c1, if_neg c2, if_neg c3, if_pos c5, if_neg c6]; done)) dX6_warmth_77
          · refine q_aload0 C dX6_warmth_58 ?_
            refine g_X6_47 C dX6_warmth_59 ?_
            refine q_iconst (v := 4) C dX6_warmth_62 (by decide) ?_
            refine qc_VI C (c_X1_answer _ _ (by first | assumption | exact vp_in_nI (by omega) (by decide) | omega | (unfold vp_in; decide) | decide)) cw_X6_121 rfl rfl rfl rfl (Nat.le_of_ble_eq_true rfl) ⟨(Nat.le_of_ble_eq_true rfl), (Nat.le_of_ble_eq_true rfl)⟩ ⟨Nat.zero_le _, Nat.zero_le _⟩ dX6_warmth_63 ?_
            exact q_iret C (by first | rfl | (rw [f_X6_warmth, if_neg c1, if_neg c2, if_neg c3, if_pos c5, if_pos c6]; done) | (rw [f_X6_warmth, if_neg c1, if_neg c2, if_neg c3, if_pos c5, if_pos c6]; rfl) | (simp only [f_X6_warmth, if_neg c1, if_neg c2, if_neg c3, if_pos c5, if_pos c6]; done)) (by first | rfl | (rw [f_X6_warmth, if_neg c1, if_neg c2, if_neg c3, if_pos c5, if_pos c6]; done) | (rw [f_X6_warmth, if_neg c1, if_neg c2, if_neg c3, if_pos c5, if_pos c6]; rfl) | (simp only [f_X6_warmth, if_neg c1, if_neg c2, if_neg c3, if_pos c5, if_pos c6]; done)) dX6_warmth_66
        · refine q_aload0 C dX6_warmth_36 ?_
          refine g_X6_47 C dX6_warmth_37 ?_
          refine q_iconst (v := 3) C dX6_warmth_40 (by decide) ?_
          refine qc_VI C (c_X1_answer _ _ (by first | assumption | exact vp_in_nI (by omega) (by decide) | omega | (unfold vp_in; decide) | decide)) cw_X6_121 rfl rfl rfl rfl (Nat.le_of_ble_eq_true rfl) ⟨(Nat.le_of_ble_eq_true rfl), (Nat.le_of_ble_eq_true rfl)⟩ ⟨Nat.zero_le _, Nat.zero_le _⟩ dX6_warmth_41 ?_
          exact q_iret C (by first | rfl | (rw [f_X6_warmth, if_neg c1, if_neg c2, if_neg c3, if_neg c5]; done) | (rw [f_X6_warmth, if_neg c1, if_neg c2, if_neg c3, if_neg c5]; rfl) | (simp only [f_X6_warmth, if_neg c1, if_neg c2, if_neg c3, if_neg c5]; done)) (by first | rfl | (rw [f_X6_warmth, if_neg c1, if_neg c2, if_neg c3, if_neg c5]; done) | (rw [f_X6_warmth, if_neg c1, if_neg c2, if_neg c3, if_neg c5]; rfl) | (simp only [f_X6_warmth, if_neg c1, if_neg c2, if_neg c3, if_neg c5]; done)) dX6_warmth_44
    · refine q_iconst (v := -1) C dX6_warmth_18 (by decide) ?_
      exact q_iret C (by first | rfl | (rw [f_X6_warmth, if_neg c1, if_pos c2]; done) | (rw [f_X6_warmth, if_neg c1, if_pos c2]; rfl) | (simp only [f_X6_warmth, if_neg c1, if_pos c2]; done)) (by first | rfl | (rw [f_X6_warmth, if_neg c1, if_pos c2]; done) | (rw [f_X6_warmth, if_neg c1, if_pos c2]; rfl) | (simp only [f_X6_warmth, if_neg c1, if_pos c2]; done)) dX6_warmth_19
def f_X6_out (M : Mm) (u1 : Int32) : Int32 := (if (f_X6_within u1 (0 : Int32) (6 : Int32)) = 0 then (-1 : Int32) else (if (f_X3_steps M) = 0 then (-9 : Int32) else (f_X3_latest M u1)))
set_option maxHeartbeats 4000000 in
set_option maxRecDepth 100000 in
theorem c_X6_out (M : Mm) (u1 : Int32)  : MI yX6_out cX6_out 2 (some .int) 1 22 (fun a => [.ref (a 0), .int u1]) M (f_X6_out M u1) M := by
  refine MI.intro (lv0 := fun a => [some (.ref (a 0)), some (.int u1)]) (by decide) (fun a => ⟨(Nat.le_of_ble_eq_true rfl), rfl⟩) ?_
  intro p9 l9 e9 s9 m9 g9 b9 h9 c9 D9 A9 ct a C
  have C : Cx p9 s9 m9 g9 h9 c9 cX6_out 2 RX6 (some .int) D9 A9 ct a := C
  refine q_iload1 C dX6_out_0 ?_
  refine q_iconst (v := 0) C dX6_out_1 (by decide) ?_
  refine q_bipush (v := 6) C dX6_out_2 (by decide) ?_
  refine qc_SI C (c_X6_within _ _ _ _) cw_X6_63 rfl rfl (Nat.le_of_ble_eq_true rfl) ⟨(Nat.le_of_ble_eq_true rfl), (Nat.le_of_ble_eq_true rfl)⟩ ⟨Nat.zero_le _, Nat.zero_le _⟩ dX6_out_4 ?_
  refine q_if_ne (tgt := 12) C dX6_out_7 (by decide) (fun c1 => ?_) (fun c1 => ?_)
  · refine q_aload0 C dX6_out_12 ?_
    refine g_X6_26 C dX6_out_13 ?_
    refine qc_VI C (c_X3_steps _ ) cw_X6_149 rfl rfl rfl rfl (Nat.le_of_ble_eq_true rfl) ⟨(Nat.le_of_ble_eq_true rfl), (Nat.le_of_ble_eq_true rfl)⟩ ⟨Nat.zero_le _, Nat.zero_le _⟩ dX6_out_16 ?_
    refine q_cut M 35 [none, none] [.int (if (f_X3_steps M) = 0 then (-9 : Int32) else (f_X3_latest M u1))] (fun hJ => ?_) ?_
    · refine q_if_ne (tgt := 27) C dX6_out_19 (by decide) (fun c2 => ?_) (fun c2 => ?_)
      · refine q_aload0 C dX6_out_27 ?_
        refine g_X6_26 C dX6_out_28 ?_
        refine q_iload1 C dX6_out_31 ?_
        refine qc_VI C (c_X3_latest _ _ (wi_in (by assumption) (by decide))) cw_X6_155 rfl rfl rfl rfl (Nat.le_of_ble_eq_true rfl) ⟨(Nat.le_of_ble_eq_true rfl), (Nat.le_of_ble_eq_true rfl)⟩ ⟨Nat.zero_le _, Nat.zero_le _⟩ dX6_out_32 ?_
        refine q_drop [none, none] (by repeat' (first | exact trivial | rfl | constructor)) ?_
        (try simp only [if_neg c2] at hJ); exact hJ
      · refine q_bipush (v := -9) C dX6_out_22 (by decide) ?_
        refine q_goto (tgt := 35) C dX6_out_24 (by decide) ?_
        refine q_drop [none, none] (by repeat' (first | exact trivial | rfl | constructor)) ?_
        (try simp only [if_pos c2] at hJ); exact hJ
    exact q_iret C (by first | rfl | (rw [f_X6_out, if_neg c1]; done) | (rw [f_X6_out, if_neg c1]; rfl) | (simp only [f_X6_out, if_neg c1]; done)) rfl dX6_out_35
  · refine q_iconst (v := -1) C dX6_out_10 (by decide) ?_
    exact q_iret C (by first | rfl | (rw [f_X6_out, if_pos c1]; done) | (rw [f_X6_out, if_pos c1]; rfl) | (simp only [f_X6_out, if_pos c1]; done)) rfl dX6_out_11
def f_X6_sum (M : Mm) (u1 : Int32) : Int32 × Mm := (if (f_X6_within u1 (0 : Int32) (4 : Int32)) = 0 then ((-1 : Int32), M) else ((1 : Int32), (sJ M 0 8 (f_X3_inAll M u1))))
set_option maxHeartbeats 4000000 in
set_option maxRecDepth 100000 in
theorem c_X6_sum (M : Mm) (u1 : Int32)  : MI yX6_sum cX6_sum 2 (some .int) 1 22 (fun a => [.ref (a 0), .int u1]) M (f_X6_sum M u1).1 (f_X6_sum M u1).2 := by
  refine MI.intro (lv0 := fun a => [some (.ref (a 0)), some (.int u1)]) (by decide) (fun a => ⟨(Nat.le_of_ble_eq_true rfl), rfl⟩) ?_
  intro p9 l9 e9 s9 m9 g9 b9 h9 c9 D9 A9 ct a C
  have C : Cx p9 s9 m9 g9 h9 c9 cX6_sum 2 RX6 (some .int) D9 A9 ct a := C
  refine q_iload1 C dX6_sum_0 ?_
  refine q_iconst (v := 0) C dX6_sum_1 (by decide) ?_
  refine q_iconst (v := 4) C dX6_sum_2 (by decide) ?_
  refine qc_SI C (c_X6_within _ _ _ _) cw_X6_63 rfl rfl (Nat.le_of_ble_eq_true rfl) ⟨(Nat.le_of_ble_eq_true rfl), (Nat.le_of_ble_eq_true rfl)⟩ ⟨Nat.zero_le _, Nat.zero_le _⟩ dX6_sum_3 ?_
  refine q_if_ne (tgt := 11) C dX6_sum_6 (by decide) (fun c1 => ?_) (fun c1 => ?_)
  · refine q_aload0 C dX6_sum_11 ?_
    refine q_aload0 C dX6_sum_12 ?_
    refine g_X6_26 C dX6_sum_13 ?_
    refine q_iload1 C dX6_sum_16 ?_
    refine qc_VJ C (c_X3_inAll _ _ (wi_in (by assumption) (by decide))) cw_X6_173 rfl rfl rfl rfl (Nat.le_of_ble_eq_true rfl) ⟨(Nat.le_of_ble_eq_true rfl), (Nat.le_of_ble_eq_true rfl)⟩ ⟨Nat.zero_le _, Nat.zero_le _⟩ dX6_sum_17 ?_
    refine p_X6_58 C  dX6_sum_20 ?_
    refine q_iconst (v := 1) C dX6_sum_23 (by decide) ?_
    exact q_iret C (by first | rfl | (rw [f_X6_sum, if_neg c1]; done) | (rw [f_X6_sum, if_neg c1]; rfl) | (simp only [f_X6_sum, if_neg c1]; done)) (by first | rfl | (rw [f_X6_sum, if_neg c1]; done) | (rw [f_X6_sum, if_neg c1]; rfl) | (simp only [f_X6_sum, if_neg c1]; done)) dX6_sum_24
  · refine q_iconst (v := -1) C dX6_sum_9 (by decide) ?_
    exact q_iret C (by first | rfl | (rw [f_X6_sum, if_pos c1]; done) | (rw [f_X6_sum, if_pos c1]; rfl) | (simp only [f_X6_sum, if_pos c1]; done)) (by first | rfl | (rw [f_X6_sum, if_pos c1]; done) | (rw [f_X6_sum, if_pos c1]; rfl) | (simp only [f_X6_sum, if_pos c1]; done)) dX6_sum_10
def f_X6_first (M : Mm)  : Int32 := (f_X3_firstCaused M)
set_option maxHeartbeats 4000000 in
set_option maxRecDepth 100000 in
theorem c_X6_first (M : Mm)   : MI yX6_first cX6_first 1 (some .int) 1 20 (fun a => [.ref (a 0)]) M (f_X6_first M) M := by
  refine MI.intro (lv0 := fun a => [some (.ref (a 0))]) (by decide) (fun a => ⟨(Nat.le_of_ble_eq_true rfl), rfl⟩) ?_
  intro p9 l9 e9 s9 m9 g9 b9 h9 c9 D9 A9 ct a C
  have C : Cx p9 s9 m9 g9 h9 c9 cX6_first 1 RX6 (some .int) D9 A9 ct a := C
  refine q_aload0 C dX6_first_0 ?_
  refine g_X6_26 C dX6_first_1 ?_
  refine qc_VI C (c_X3_firstCaused _ ) cw_X6_177 rfl rfl rfl rfl (Nat.le_of_ble_eq_true rfl) ⟨(Nat.le_of_ble_eq_true rfl), (Nat.le_of_ble_eq_true rfl)⟩ ⟨Nat.zero_le _, Nat.zero_le _⟩ dX6_first_4 ?_
  exact q_iret C (by first | (rw [f_X6_first]; done) | rfl) rfl dX6_first_7
