def f_X7_areParts (u1 : Int32) (u2 : Int32) (u3 : Int32) : Int32 := (if (f_X7_in u1 (0 : Int32) (1000 : Int32)) = 0 then (0 : Int32) else (if (f_X7_in u2 (0 : Int32) (1000 : Int32)) = 0 then (0 : Int32) else (if (f_X7_in u3 (0 : Int32) (1000 : Int32)) = 0 then (0 : Int32) else (if (1000 : Int32) < ((u1 + u2) + u3) then (0 : Int32) else (1 : Int32)))))
set_option maxHeartbeats 4000000 in
set_option maxRecDepth 100000 in
theorem c_X7_areParts (M : Mm) (u1 : Int32) (u2 : Int32) (u3 : Int32)  : MI yX7_areParts cX7_areParts 3 (some .boolean) 1 22 (fun a => [.int u1, .int u2, .int u3]) M (f_X7_areParts u1 u2 u3) M := by
  refine MI.intro (lv0 := fun a => [some (.int u1), some (.int u2), some (.int u3)]) (by decide) (fun a => ⟨(Nat.le_of_ble_eq_true rfl), rfl⟩) ?_
  intro p9 l9 e9 s9 m9 g9 b9 h9 c9 D9 A9 ct a C
  have C : Cx p9 s9 m9 g9 h9 c9 cX7_areParts 3 RX7 (some .boolean) D9 A9 ct a := C
  refine q_iload0 C dX7_areParts_0 ?_
  refine q_iconst (v := 0) C dX7_areParts_1 (by decide) ?_
  refine q_sipush (v := 1000) C dX7_areParts_2 (by decide) ?_
  refine qc_SI C (c_X7_in _ _ _ _) cw_X7_125 rfl rfl (Nat.le_of_ble_eq_true rfl) ⟨(Nat.le_of_ble_eq_true rfl), (Nat.le_of_ble_eq_true rfl)⟩ ⟨Nat.zero_le _, Nat.zero_le _⟩ dX7_areParts_5 ?_
  refine q_cut M 49 [none, none, none] [.int (if (f_X7_in u1 (0 : Int32) (1000 : Int32)) = 0 then (0 : Int32) else (if (f_X7_in u2 (0 : Int32) (1000 : Int32)) = 0 then (0 : Int32) else (if (f_X7_in u3 (0 : Int32) (1000 : Int32)) = 0 then (0 : Int32) else (if (1000 : Int32) < ((u1 + u2) + u3) then (0 : Int32) else (1 : Int32)))))] (fun hJ => ?_) ?_
  · refine q_if_eq (tgt := 48) C dX7_areParts_8 (by decide) (fun c1 => ?_) (fun c1 => ?_)
    · refine q_iconst (v := 0) C dX7_areParts_48 (by decide) ?_
      refine q_drop [none, none, none] (by repeat' (first | exact trivial | rfl | constructor)) ?_
      (try simp only [if_pos c1] at hJ); exact hJ
    · refine q_iload1 C dX7_areParts_11 ?_
      refine q_iconst (v := 0) C dX7_areParts_12 (by decide) ?_
      refine q_sipush (v := 1000) C dX7_areParts_13 (by decide) ?_
      refine qc_SI C (c_X7_in _ _ _ _) cw_X7_125 rfl rfl (Nat.le_of_ble_eq_true rfl) ⟨(Nat.le_of_ble_eq_true rfl), (Nat.le_of_ble_eq_true rfl)⟩ ⟨Nat.zero_le _, Nat.zero_le _⟩ dX7_areParts_16 ?_
      refine q_if_eq (tgt := 48) C dX7_areParts_19 (by decide) (fun c2 => ?_) (fun c2 => ?_)
      · refine q_iconst (v := 0) C dX7_areParts_48 (by decide) ?_
        refine q_drop [none, none, none] (by repeat' (first | exact trivial | rfl | constructor)) ?_
        (try simp only [if_neg c1, if_pos c2] at hJ); exact hJ
      · refine q_iload2 C dX7_areParts_22 ?_
        refine q_iconst (v := 0) C dX7_areParts_23 (by decide) ?_
        refine q_sipush (v := 1000) C dX7_areParts_24 (by decide) ?_
        refine qc_SI C (c_X7_in _ _ _ _) cw_X7_125 rfl rfl (Nat.le_of_ble_eq_true rfl) ⟨(Nat.le_of_ble_eq_true rfl), (Nat.le_of_ble_eq_true rfl)⟩ ⟨Nat.zero_le _, Nat.zero_le _⟩ dX7_areParts_27 ?_
        refine q_if_eq (tgt := 48) C dX7_areParts_30 (by decide) (fun c3 => ?_) (fun c3 => ?_)
        · refine q_iconst (v := 0) C dX7_areParts_48 (by decide) ?_
          refine q_drop [none, none, none] (by repeat' (first | exact trivial | rfl | constructor)) ?_
          (try simp only [if_neg c1, if_neg c2, if_pos c3] at hJ); exact hJ
        · refine q_iload0 C dX7_areParts_33 ?_
          refine q_iload1 C dX7_areParts_34 ?_
          refine q_iadd C dX7_areParts_35 ?_
          refine q_iload2 C dX7_areParts_36 ?_
          refine q_iadd C dX7_areParts_37 ?_
          refine q_sipush (v := 1000) C dX7_areParts_38 (by decide) ?_
          refine q_icmp_gt (tgt := 48) C dX7_areParts_41 (by decide) (fun c4 => ?_) (fun c4 => ?_)
          · refine q_iconst (v := 0) C dX7_areParts_48 (by decide) ?_
            refine q_drop [none, none, none] (by repeat' (first | exact trivial | rfl | constructor)) ?_
            (try simp only [if_neg c1, if_neg c2, if_neg c3, if_pos c4] at hJ); exact hJ
          · refine q_iconst (v := 1) C dX7_areParts_44 (by decide) ?_
            refine q_goto (tgt := 49) C dX7_areParts_45 (by decide) ?_
            refine q_drop [none, none, none] (by repeat' (first | exact trivial | rfl | constructor)) ?_
            (try simp only [if_neg c1, if_neg c2, if_neg c3, if_neg c4] at hJ); exact hJ
  exact q_zret C (by repeat' first | exact bz_0 | exact bz_1 | assumption | apply bz_if) (by first | (rw [f_X7_areParts]; done) | rfl) rfl dX7_areParts_49
def m_X7_stock_1 (M : Mm) (u1 : Int32) (u2 : Int32) (u3 : Int32) (u4 : Int32) : Mm := (sI (sI (sI (sI M 50 (4 * (u1).toNatClampNeg) u2) 50 (4 * (u1).toNatClampNeg + 1) u3) 50 (4 * (u1).toNatClampNeg + 2) u4) 50 (4 * (u1).toNatClampNeg + 3) ((((1000 : Int32) - u2) - u3) - u4))
def f_X7_stock (M : Mm) (u1 : Int32) (u2 : Int32) (u3 : Int32) (u4 : Int32) : Int32 × Mm := (if (f_X7_in u1 (0 : Int32) (3 : Int32)) = 0 then ((-1 : Int32), M) else (if (f_X7_areParts u2 u3 u4) = 0 then ((-1 : Int32), M) else ((1 : Int32), (m_X7_stock_1 M u1 u2 u3 u4))))
set_option maxHeartbeats 4000000 in
set_option maxRecDepth 100000 in
theorem c_X7_stock (M : Mm) (u1 : Int32) (u2 : Int32) (u3 : Int32) (u4 : Int32)  : MI yX7_stock cX7_stock 5 (some .int) 2 44 (fun a => [.ref (a 44), .int u1, .int u2, .int u3, .int u4]) M (f_X7_stock M u1 u2 u3 u4).1 (f_X7_stock M u1 u2 u3 u4).2 := by
  refine MI.intro (lv0 := fun a => [some (.ref (a 44)), some (.int u1), some (.int u2), some (.int u3), some (.int u4)]) (by decide) (fun a => ⟨(Nat.le_of_ble_eq_true rfl), rfl⟩) ?_
  intro p9 l9 e9 s9 m9 g9 b9 h9 c9 D9 A9 ct a C
  have C : Cx p9 s9 m9 g9 h9 c9 cX7_stock 5 RX7 (some .int) D9 A9 ct a := C
  refine q_iload1 C dX7_stock_0 ?_
  refine q_iconst (v := 0) C dX7_stock_1 (by decide) ?_
  refine q_iconst (v := 3) C dX7_stock_2 (by decide) ?_
  refine qc_SI C (c_X7_in _ _ _ _) cw_X7_125 rfl rfl (Nat.le_of_ble_eq_true rfl) ⟨(Nat.le_of_ble_eq_true rfl), (Nat.le_of_ble_eq_true rfl)⟩ ⟨Nat.zero_le _, Nat.zero_le _⟩ dX7_stock_3 ?_
  refine q_if_eq (tgt := 19) C dX7_stock_6 (by decide) (fun c1 => ?_) (fun c1 => ?_)
  · refine q_iconst (v := -1) C dX7_stock_19 (by decide) ?_
    exact q_iret C (by first | rfl | (rw [f_X7_stock, if_pos c1]; done) | (rw [f_X7_stock, if_pos c1]; rfl) | (simp only [f_X7_stock, if_pos c1]; done)) (by first | rfl | (rw [f_X7_stock, if_pos c1]; done) | (rw [f_X7_stock, if_pos c1]; rfl) | (simp only [f_X7_stock, if_pos c1]; done)) dX7_stock_20
  · refine q_iload2 C dX7_stock_9 ?_
    refine q_iload3 C dX7_stock_10 ?_
    refine q_iload4 C dX7_stock_11 ?_
    refine qc_SI C (c_X7_areParts _ _ _ _) cw_X7_132 rfl rfl (Nat.le_of_ble_eq_true rfl) ⟨(Nat.le_of_ble_eq_true rfl), (Nat.le_of_ble_eq_true rfl)⟩ ⟨Nat.zero_le _, Nat.zero_le _⟩ dX7_stock_13 ?_
    refine q_if_ne (tgt := 21) C dX7_stock_16 (by decide) (fun c2 => ?_) (fun c2 => ?_)
    · refine q_aload0 C dX7_stock_21 ?_
      refine g_X7_30 C dX7_stock_22 ?_
      refine q_iconst (v := 4) C dX7_stock_25 (by decide) ?_
      refine q_iload1 C dX7_stock_26 ?_
      refine q_imul C dX7_stock_27 ?_
      refine q_iload2 C dX7_stock_28 ?_
      refine q_iastX (j := (4 * (u1).toNatClampNeg)) C rfl (ix4i0 (wi7_in (by assumption) (by decide))) (iv4i0 (wi7_in (by assumption) (by decide))) dX7_stock_29 ?_
      refine q_aload0 C dX7_stock_30 ?_
      refine g_X7_30 C dX7_stock_31 ?_
      refine q_iconst (v := 4) C dX7_stock_34 (by decide) ?_
      refine q_iload1 C dX7_stock_35 ?_
      refine q_imul C dX7_stock_36 ?_
      refine q_iconst (v := 1) C dX7_stock_37 (by decide) ?_
      refine q_iadd C dX7_stock_38 ?_
      refine q_iload3 C dX7_stock_39 ?_
      refine q_iastX (j := (4 * (u1).toNatClampNeg + 1)) C rfl (by rw [ix4y (wi7_in (by assumption) (by decide)) (by unfold vp_in; decide)]; rfl) (iv4y (wi7_in (by assumption) (by decide)) (by unfold vp_in; decide)) dX7_stock_40 ?_
      refine q_aload0 C dX7_stock_41 ?_
      refine g_X7_30 C dX7_stock_42 ?_
      refine q_iconst (v := 4) C dX7_stock_45 (by decide) ?_
      refine q_iload1 C dX7_stock_46 ?_
      refine q_imul C dX7_stock_47 ?_
      refine q_iconst (v := 2) C dX7_stock_48 (by decide) ?_
      refine q_iadd C dX7_stock_49 ?_
      refine q_iload4 C dX7_stock_50 ?_
      refine q_iastX (j := (4 * (u1).toNatClampNeg + 2)) C rfl (by rw [ix4y (wi7_in (by assumption) (by decide)) (by unfold vp_in; decide)]; rfl) (iv4y (wi7_in (by assumption) (by decide)) (by unfold vp_in; decide)) dX7_stock_52 ?_
      refine q_aload0 C dX7_stock_53 ?_
      refine g_X7_30 C dX7_stock_54 ?_
      refine q_iconst (v := 4) C dX7_stock_57 (by decide) ?_
      refine q_iload1 C dX7_stock_58 ?_
      refine q_imul C dX7_stock_59 ?_
      refine q_iconst (v := 3) C dX7_stock_60 (by decide) ?_
      refine q_iadd C dX7_stock_61 ?_
      refine q_sipush (v := 1000) C dX7_stock_62 (by decide) ?_
      refine q_iload2 C dX7_stock_65 ?_
      refine q_isub C dX7_stock_66 ?_
      refine q_iload3 C dX7_stock_67 ?_
      refine q_isub C dX7_stock_68 ?_
      refine q_iload4 C dX7_stock_69 ?_
      refine q_isub C dX7_stock_71 ?_
      refine q_iastX (j := (4 * (u1).toNatClampNeg + 3)) C rfl (by rw [ix4y (wi7_in (by assumption) (by decide)) (by unfold vp_in; decide)]; rfl) (iv4y (wi7_in (by assumption) (by decide)) (by unfold vp_in; decide)) dX7_stock_72 ?_
      refine q_cut (m_X7_stock_1 M u1 u2 u3 u4) 73 [some (.ref (a 44)), some (.int u1), some (.int u2), some (.int u3), some (.int u4)] [] (fun hJ => hJ) ?_
      refine q_iconst (v := 1) C dX7_stock_73 (by decide) ?_
      exact q_iret C (by first | rfl | (rw [f_X7_stock, if_neg c1, if_neg c2]; done) | (rw [f_X7_stock, if_neg c1, if_neg c2]; rfl) | (simp only [f_X7_stock, if_neg c1, if_neg c2]; done)) (by first | rfl | (rw [f_X7_stock, if_neg c1, if_neg c2]; done) | (rw [f_X7_stock, if_neg c1, if_neg c2]; rfl) | (simp only [f_X7_stock, if_neg c1, if_neg c2]; done)) dX7_stock_74
    · refine q_iconst (v := -1) C dX7_stock_19 (by decide) ?_
      exact q_iret C (by first | rfl | (rw [f_X7_stock, if_neg c1, if_pos c2]; done) | (rw [f_X7_stock, if_neg c1, if_pos c2]; rfl) | (simp only [f_X7_stock, if_neg c1, if_pos c2]; done)) (by first | rfl | (rw [f_X7_stock, if_neg c1, if_pos c2]; done) | (rw [f_X7_stock, if_neg c1, if_pos c2]; rfl) | (simp only [f_X7_stock, if_neg c1, if_pos c2]; done)) dX7_stock_20
def f_X7_share (M : Mm) (u1 : Int32) (u2 : Int32) (u3 : Int32) : Int32 × Mm := (if (f_X7_areParts u1 u2 u3) = 0 then ((-1 : Int32), M) else ((1 : Int32), (sI (sI (sI (sI M 51 0 u1) 51 1 u2) 51 2 u3) 51 3 ((((1000 : Int32) - u1) - u2) - u3))))
set_option maxHeartbeats 4000000 in
set_option maxRecDepth 100000 in
theorem c_X7_share (M : Mm) (u1 : Int32) (u2 : Int32) (u3 : Int32)  : MI yX7_share cX7_share 4 (some .int) 2 44 (fun a => [.ref (a 44), .int u1, .int u2, .int u3]) M (f_X7_share M u1 u2 u3).1 (f_X7_share M u1 u2 u3).2 := by
  refine MI.intro (lv0 := fun a => [some (.ref (a 44)), some (.int u1), some (.int u2), some (.int u3)]) (by decide) (fun a => ⟨(Nat.le_of_ble_eq_true rfl), rfl⟩) ?_
  intro p9 l9 e9 s9 m9 g9 b9 h9 c9 D9 A9 ct a C
  have C : Cx p9 s9 m9 g9 h9 c9 cX7_share 4 RX7 (some .int) D9 A9 ct a := C
  refine q_iload1 C dX7_share_0 ?_
  refine q_iload2 C dX7_share_1 ?_
  refine q_iload3 C dX7_share_2 ?_
  refine qc_SI C (c_X7_areParts _ _ _ _) cw_X7_132 rfl rfl (Nat.le_of_ble_eq_true rfl) ⟨(Nat.le_of_ble_eq_true rfl), (Nat.le_of_ble_eq_true rfl)⟩ ⟨Nat.zero_le _, Nat.zero_le _⟩ dX7_share_3 ?_
  refine q_if_ne (tgt := 11) C dX7_share_6 (by decide) (fun c1 => ?_) (fun c1 => ?_)
  · refine q_aload0 C dX7_share_11 ?_
    refine g_X7_33 C dX7_share_12 ?_
    refine q_iconst (v := 0) C dX7_share_15 (by decide) ?_
    refine q_iload1 C dX7_share_16 ?_
    refine q_iastX (j := 0) C rfl (by decide) (by unfold vp_in; decide) dX7_share_17 ?_
    refine q_aload0 C dX7_share_18 ?_
    refine g_X7_33 C dX7_share_19 ?_
    refine q_iconst (v := 1) C dX7_share_22 (by decide) ?_
    refine q_iload2 C dX7_share_23 ?_
    refine q_iastX (j := 1) C rfl (by decide) (by unfold vp_in; decide) dX7_share_24 ?_
    refine q_aload0 C dX7_share_25 ?_
    refine g_X7_33 C dX7_share_26 ?_
    refine q_iconst (v := 2) C dX7_share_29 (by decide) ?_
    refine q_iload3 C dX7_share_30 ?_
    refine q_iastX (j := 2) C rfl (by decide) (by unfold vp_in; decide) dX7_share_31 ?_
    refine q_aload0 C dX7_share_32 ?_
    refine g_X7_33 C dX7_share_33 ?_
    refine q_iconst (v := 3) C dX7_share_36 (by decide) ?_
    refine q_sipush (v := 1000) C dX7_share_37 (by decide) ?_
    refine q_iload1 C dX7_share_40 ?_
    refine q_isub C dX7_share_41 ?_
    refine q_iload2 C dX7_share_42 ?_
    refine q_isub C dX7_share_43 ?_
    refine q_iload3 C dX7_share_44 ?_
    refine q_isub C dX7_share_45 ?_
    refine q_iastX (j := 3) C rfl (by decide) (by unfold vp_in; decide) dX7_share_46 ?_
    refine q_iconst (v := 1) C dX7_share_47 (by decide) ?_
    exact q_iret C (by first | rfl | (rw [f_X7_share, if_neg c1]; done) | (rw [f_X7_share, if_neg c1]; rfl) | (simp only [f_X7_share, if_neg c1]; done)) (by first | rfl | (rw [f_X7_share, if_neg c1]; done) | (rw [f_X7_share, if_neg c1]; rfl) | (simp only [f_X7_share, if_neg c1]; done)) dX7_share_48
  · refine q_iconst (v := -1) C dX7_share_9 (by decide) ?_
    exact q_iret C (by first | rfl | (rw [f_X7_share, if_pos c1]; done) | (rw [f_X7_share, if_pos c1]; rfl) | (simp only [f_X7_share, if_pos c1]; done)) (by first | rfl | (rw [f_X7_share, if_pos c1]; done) | (rw [f_X7_share, if_pos c1]; rfl) | (simp only [f_X7_share, if_pos c1]; done)) dX7_share_10
def f_X7_shareOf (M : Mm) (u1 : Int32) : Int32 := (if (f_X7_in u1 (0 : Int32) (3 : Int32)) = 0 then (-1 : Int32) else (gI M 51 (u1).toNatClampNeg))
set_option maxHeartbeats 4000000 in
set_option maxRecDepth 100000 in
theorem c_X7_shareOf (M : Mm) (u1 : Int32)  : MI yX7_shareOf cX7_shareOf 2 (some .int) 1 22 (fun a => [.ref (a 44), .int u1]) M (f_X7_shareOf M u1) M := by
  refine MI.intro (lv0 := fun a => [some (.ref (a 44)), some (.int u1)]) (by decide) (fun a => ⟨(Nat.le_of_ble_eq_true rfl), rfl⟩) ?_
  intro p9 l9 e9 s9 m9 g9 b9 h9 c9 D9 A9 ct a C
  have C : Cx p9 s9 m9 g9 h9 c9 cX7_shareOf 2 RX7 (some .int) D9 A9 ct a := C
  refine q_iload1 C dX7_shareOf_0 ?_
  refine q_iconst (v := 0) C dX7_shareOf_1 (by decide) ?_
  refine q_iconst (v := 3) C dX7_shareOf_2 (by decide) ?_
  refine qc_SI C (c_X7_in _ _ _ _) cw_X7_125 rfl rfl (Nat.le_of_ble_eq_true rfl) ⟨(Nat.le_of_ble_eq_true rfl), (Nat.le_of_ble_eq_true rfl)⟩ ⟨Nat.zero_le _, Nat.zero_le _⟩ dX7_shareOf_3 ?_
  refine q_cut M 19 [none, none] [.int (if (f_X7_in u1 (0 : Int32) (3 : Int32)) = 0 then (-1 : Int32) else (gI M 51 (u1).toNatClampNeg))] (fun hJ => ?_) ?_
  · refine q_if_eq (tgt := 18) C dX7_shareOf_6 (by decide) (fun c1 => ?_) (fun c1 => ?_)
    · refine q_iconst (v := -1) C dX7_shareOf_18 (by decide) ?_
      refine q_drop [none, none] (by repeat' (first | exact trivial | rfl | constructor)) ?_
      (try simp only [if_pos c1] at hJ); exact hJ
    · refine q_aload0 C dX7_shareOf_9 ?_
      refine g_X7_33 C dX7_shareOf_10 ?_
      refine q_iload1 C dX7_shareOf_13 ?_
      refine q_ialdX (j := (u1).toNatClampNeg) C rfl rfl (by first | assumption | exact wi7_in (by assumption) (by decide) | (simp only [gI_sI, gI_sJ, gI_ite]; simp; assumption) | (simp [gI_sI, gI_sJ, gI_ite]; assumption)) dX7_shareOf_14 ?_
      refine q_goto (tgt := 19) C dX7_shareOf_15 (by decide) ?_
      refine q_drop [none, none] (by repeat' (first | exact trivial | rfl | constructor)) ?_
      (try simp only [if_neg c1] at hJ); exact hJ
  exact q_iret C (by first | (rw [f_X7_shareOf]; done) | rfl) rfl dX7_shareOf_19
def b_X7_mixed_1 (M : Mm) (u1 : Int32) (i1 : Nat) (z1 : Int32) : Int32 := (z1 + ((gI M 51 i1) * (gI M 50 (4 * i1 + (u1).toNatClampNeg))))
def f_X7_mixed (M : Mm) (u1 : Int32) : Int32 := (itr (b_X7_mixed_1 M u1) 4 (0 : Int32))
set_option maxHeartbeats 4000000 in
set_option maxRecDepth 100000 in
theorem c_X7_mixed (M : Mm) (u1 : Int32) (h1 : vp_in u1 4) : MI yX7_mixed cX7_mixed 4 (some .int) 0 0 (fun a => [.ref (a 44), .int u1]) M (f_X7_mixed M u1) M := by
  refine MI.intro (lv0 := fun a => [some (.ref (a 44)), some (.int u1), none, none]) (by decide) (fun a => ⟨(Nat.le_of_ble_eq_true rfl), rfl⟩) ?_
  intro p9 l9 e9 s9 m9 g9 b9 h9 c9 D9 A9 ct a C
  have C : Cx p9 s9 m9 g9 h9 c9 cX7_mixed 4 RX7 (some .int) D9 A9 ct a := C
  refine q_iconst (v := 0) C dX7_mixed_0 (by decide) ?_
  refine q_istore2 C dX7_mixed_1 (by decide) (by intro w h0 h; first | exact absurd rfl h0 | (cases h <;> rfl)) ?_
  refine q_iconst (v := 0) C dX7_mixed_2 (by decide) ?_
  refine q_istore3 C dX7_mixed_3 (by decide) (by intro w h0 h; first | exact absurd rfl h0 | (cases h <;> rfl)) ?_
  refine q_loop 4 (b_X7_mixed_1 M u1) (fun zz => M) (fun xx zz => [some (.ref (a 44)), some (.int u1), some (.int zz), some (.int xx)]) (0 : Int32)  (fun i1 z1 hi1 ih1 => ?_) ?_
  · refine q_iload3 C dX7_mixed_4 ?_
    refine q_iconst (v := 4) C dX7_mixed_5 (by decide) ?_
    refine q_icmp_ge (tgt := 35) C dX7_mixed_6 (by decide) (fun c1 => absurd c1 (nI_ge (b := 4) (by omega) (by omega))) (fun c1 => ?_)
    refine q_iload2 C dX7_mixed_9 ?_
    refine q_aload0 C dX7_mixed_10 ?_
    refine g_X7_33 C dX7_mixed_11 ?_
    refine q_iload3 C dX7_mixed_14 ?_
    refine q_ialdX (j := i1) C rfl (nI_clamp (by omega)) (vp_in_nI (by omega) (by first | decide | omega)) dX7_mixed_15 ?_
    refine q_aload0 C dX7_mixed_16 ?_
    refine g_X7_30 C dX7_mixed_17 ?_
    refine q_iconst (v := 4) C dX7_mixed_20 (by decide) ?_
    refine q_iload3 C dX7_mixed_21 ?_
    refine q_imul C dX7_mixed_22 ?_
    refine q_iload1 C dX7_mixed_23 ?_
    refine q_iadd C dX7_mixed_24 ?_
    refine q_ialdX (j := (4 * i1 + (u1).toNatClampNeg)) C rfl (ix4i (by omega) h1) (iv4y (vp_in_nI (by omega) (by decide)) h1) dX7_mixed_25 ?_
    refine q_imul C dX7_mixed_26 ?_
    refine q_iadd C dX7_mixed_27 ?_
    refine q_istore2 C dX7_mixed_28 (by decide) (by intro w h0 h; first | exact absurd rfl h0 | (cases h <;> rfl)) ?_
    refine q_iinc3 (dv := 1) C dX7_mixed_29 (by decide) (by decide) (by intro w h0 h; first | exact absurd rfl h0 | (cases h <;> rfl)) ?_
    refine q_goto (tgt := 4) C dX7_mixed_32 (by decide) ?_
    exact ih1
  refine q_iload3 C dX7_mixed_4 ?_
  refine q_iconst (v := 4) C dX7_mixed_5 (by decide) ?_
  refine q_icmp_ge (tgt := 35) C dX7_mixed_6 (by decide) (fun c2 => ?_) (fun c2 => absurd (Int32.le_refl _) c2)
  refine q_iload2 C dX7_mixed_35 ?_
  exact q_iret C (by first | (rw [f_X7_mixed]; done) | rfl) rfl dX7_mixed_36
def f_X7_mix (M : Mm) (u1 : Int32) : Int32 := (if (f_X7_in u1 (0 : Int32) (3 : Int32)) = 0 then (-1 : Int32) else (f_X7_mixed M u1))
set_option maxHeartbeats 4000000 in
set_option maxRecDepth 100000 in
theorem c_X7_mix (M : Mm) (u1 : Int32)  : MI yX7_mix cX7_mix 2 (some .int) 1 23 (fun a => [.ref (a 44), .int u1]) M (f_X7_mix M u1) M := by
  refine MI.intro (lv0 := fun a => [some (.ref (a 44)), some (.int u1)]) (by decide) (fun a => ⟨(Nat.le_of_ble_eq_true rfl), rfl⟩) ?_
  intro p9 l9 e9 s9 m9 g9 b9 h9 c9 D9 A9 ct a C
  have C : Cx p9 s9 m9 g9 h9 c9 cX7_mix 2 RX7 (some .int) D9 A9 ct a := C
  refine q_iload1 C dX7_mix_0 ?_
  refine q_iconst (v := 0) C dX7_mix_1 (by decide) ?_
  refine q_iconst (v := 3) C dX7_mix_2 (by decide) ?_
  refine qc_SI C (c_X7_in _ _ _ _) cw_X7_125 rfl rfl (Nat.le_of_ble_eq_true rfl) ⟨(Nat.le_of_ble_eq_true rfl), (Nat.le_of_ble_eq_true rfl)⟩ ⟨Nat.zero_le _, Nat.zero_le _⟩ dX7_mix_3 ?_
  refine q_cut M 18 [none, none] [.int (if (f_X7_in u1 (0 : Int32) (3 : Int32)) = 0 then (-1 : Int32) else (f_X7_mixed M u1))] (fun hJ => ?_) ?_
  · refine q_if_eq (tgt := 17) C dX7_mix_6 (by decide) (fun c1 => ?_) (fun c1 => ?_)
    · refine q_iconst (v := -1) C dX7_mix_17 (by decide) ?_
      refine q_drop [none, none] (by repeat' (first | exact trivial | rfl | constructor)) ?_
      (try simp only [if_pos c1] at hJ); exact hJ
    · refine q_aload0 C dX7_mix_9 ?_
      refine q_iload1 C dX7_mix_10 ?_
      refine qc_VI C (c_X7_mixed _ _ (wi7_in (by assumption) (by decide))) cw_X7_135 rfl rfl rfl rfl (Nat.le_of_ble_eq_true rfl) ⟨(Nat.le_of_ble_eq_true rfl), (Nat.le_of_ble_eq_true rfl)⟩ ⟨Nat.zero_le _, Nat.zero_le _⟩ dX7_mix_11 ?_
      refine q_goto (tgt := 18) C dX7_mix_14 (by decide) ?_
      refine q_drop [none, none] (by repeat' (first | exact trivial | rfl | constructor)) ?_
      (try simp only [if_neg c1] at hJ); exact hJ
  exact q_iret C (by first | (rw [f_X7_mix]; done) | rfl) rfl dX7_mix_18
def f_X7_numberUpper (M : Mm)  : Int64 := ((10 : Int64) * ((f_X7_mixed M (0 : Int32))).toInt64)
set_option maxHeartbeats 4000000 in
set_option maxRecDepth 100000 in
theorem c_X7_numberUpper (M : Mm)   : MJ yX7_numberUpper cX7_numberUpper 1 (some .long) 1 23 (fun a => [.ref (a 44)]) M (f_X7_numberUpper M) M := by
  refine MJ.intro (lv0 := fun a => [some (.ref (a 44))]) (by decide) (fun a => ⟨(Nat.le_of_ble_eq_true rfl), rfl⟩) ?_
  intro p9 l9 e9 s9 m9 g9 b9 h9 c9 D9 A9 ct a C
  have C : Cx p9 s9 m9 g9 h9 c9 cX7_numberUpper 1 RX7 (some .long) D9 A9 ct a := C
  refine q_ldc2 C dX7_numberUpper_0 wk_X7_139 ?_
  refine q_aload0 C dX7_numberUpper_3 ?_
  refine q_iconst (v := 0) C dX7_numberUpper_4 (by decide) ?_
  refine qc_VI C (c_X7_mixed _ _ (by first | assumption | exact vp_in_nI (by omega) (by decide) | omega | (unfold vp_in; decide) | decide)) cw_X7_135 rfl rfl rfl rfl (Nat.le_of_ble_eq_true rfl) ⟨(Nat.le_of_ble_eq_true rfl), (Nat.le_of_ble_eq_true rfl)⟩ ⟨Nat.zero_le _, Nat.zero_le _⟩ dX7_numberUpper_5 ?_
  refine q_i2l C dX7_numberUpper_8 ?_
  refine q_lmul C dX7_numberUpper_9 ?_
  exact q_lret C (by first | (rw [f_X7_numberUpper]; done) | rfl) rfl dX7_numberUpper_10
def f_X7_numberLower (M : Mm)  : Int64 := ((((28 : Int64) * ((f_X7_mixed M (1 : Int32))).toInt64) + ((12 : Int64) * ((f_X7_mixed M (2 : Int32))).toInt64)) + ((7 : Int64) * ((f_X7_mixed M (3 : Int32))).toInt64))
set_option maxHeartbeats 4000000 in
set_option maxRecDepth 100000 in
theorem c_X7_numberLower (M : Mm)   : MJ yX7_numberLower cX7_numberLower 1 (some .long) 1 23 (fun a => [.ref (a 44)]) M (f_X7_numberLower M) M := by
  refine MJ.intro (lv0 := fun a => [some (.ref (a 44))]) (by decide) (fun a => ⟨(Nat.le_of_ble_eq_true rfl), rfl⟩) ?_
  intro p9 l9 e9 s9 m9 g9 b9 h9 c9 D9 A9 ct a C
  have C : Cx p9 s9 m9 g9 h9 c9 cX7_numberLower 1 RX7 (some .long) D9 A9 ct a := C
  refine q_ldc2 C dX7_numberLower_0 wk_X7_141 ?_
  refine q_aload0 C dX7_numberLower_3 ?_
  refine q_iconst (v := 1) C dX7_numberLower_4 (by decide) ?_
  refine qc_VI C (c_X7_mixed _ _ (by first | assumption | exact vp_in_nI (by omega) (by decide) | omega | (unfold vp_in; decide) | decide)) cw_X7_135 rfl rfl rfl rfl (Nat.le_of_ble_eq_true rfl) ⟨(Nat.le_of_ble_eq_true rfl), (Nat.le_of_ble_eq_true rfl)⟩ ⟨Nat.zero_le _, Nat.zero_le _⟩ dX7_numberLower_5 ?_
  refine q_i2l C dX7_numberLower_8 ?_
  refine q_lmul C dX7_numberLower_9 ?_
  refine q_ldc2 C dX7_numberLower_10 wk_X7_143 ?_
  refine q_aload0 C dX7_numberLower_13 ?_
  refine q_iconst (v := 2) C dX7_numberLower_14 (by decide) ?_
  refine qc_VI C (c_X7_mixed _ _ (by first | assumption | exact vp_in_nI (by omega) (by decide) | omega | (unfold vp_in; decide) | decide)) cw_X7_135 rfl rfl rfl rfl (Nat.le_of_ble_eq_true rfl) ⟨(Nat.le_of_ble_eq_true rfl), (Nat.le_of_ble_eq_true rfl)⟩ ⟨Nat.zero_le _, Nat.zero_le _⟩ dX7_numberLower_15 ?_
  refine q_i2l C dX7_numberLower_18 ?_
  refine q_lmul C dX7_numberLower_19 ?_
  refine q_ladd C dX7_numberLower_20 ?_
  refine q_ldc2 C dX7_numberLower_21 wk_X7_145 ?_
  refine q_aload0 C dX7_numberLower_24 ?_
  refine q_iconst (v := 3) C dX7_numberLower_25 (by decide) ?_
  refine qc_VI C (c_X7_mixed _ _ (by first | assumption | exact vp_in_nI (by omega) (by decide) | omega | (unfold vp_in; decide) | decide)) cw_X7_135 rfl rfl rfl rfl (Nat.le_of_ble_eq_true rfl) ⟨(Nat.le_of_ble_eq_true rfl), (Nat.le_of_ble_eq_true rfl)⟩ ⟨Nat.zero_le _, Nat.zero_le _⟩ dX7_numberLower_26 ?_
  refine q_i2l C dX7_numberLower_29 ?_
  refine q_lmul C dX7_numberLower_30 ?_
  refine q_ladd C dX7_numberLower_31 ?_
  exact q_lret C (by first | (rw [f_X7_numberLower]; done) | rfl) rfl dX7_numberLower_32
def b_X7_divisor_1  (i1 : Nat) (z1 : Int64 × Int64) : Int64 × Int64 := if (lg_cmp z1.2 (0 : Int64)) = 0 then z1 else (z1.2, (z1.1 - z1.1 / z1.2 * z1.2))
def l_X7_divisor_1  (z1 : Int64 × Int64) : Int64 × Int64 := itr b_X7_divisor_1 64 z1
def f_X7_divisor (u1 : Int64) (u2 : Int64) : Int64 := (l_X7_divisor_1 (u1, u2)).1
set_option maxHeartbeats 4000000 in
set_option maxRecDepth 100000 in
theorem c_X7_divisor (M : Mm) (u1 : Int64) (u2 : Int64) (hx : (lg_cmp (itr b_X7_divisor_1 64 (u1, u2)).2 (0 : Int64)) = 0) : MJ yX7_divisor cX7_divisor 10 (some .long) 0 0 (fun a => [.long u1, .long u2]) M (f_X7_divisor u1 u2) M := by
  refine MJ.intro (lv0 := fun a => [some (.long u1), none, some (.long u2), none, none, none, none, none, none, none]) (by decide) (fun a => ⟨(Nat.le_of_ble_eq_true rfl), rfl⟩) ?_
  intro p9 l9 e9 s9 m9 g9 b9 h9 c9 D9 A9 ct a C
  have C : Cx p9 s9 m9 g9 h9 c9 cX7_divisor 10 RX7 (some .long) D9 A9 ct a := C
  refine q_lload0 C dX7_divisor_0 ?_
  refine q_lstore4 C dX7_divisor_1 (by decide) (by intro w h0 h; first | exact absurd rfl h0 | (cases h <;> rfl)) ?_
  refine q_lload2 C dX7_divisor_3 ?_
  refine q_lstore6 C dX7_divisor_4 (by decide) (by intro w h0 h; first | exact absurd rfl h0 | (cases h <;> rfl)) ?_
  refine q_drop [none, none, none, none, some (.long u1), none, some (.long u2), none, none, none] (by repeat' (first | exact trivial | rfl | constructor)) ?_
  refine q_loopW (fun i1 z1 => True) 64 b_X7_divisor_1 (fun zz => M) (fun xx zz => [none, none, none, none, some (.long zz.1), none, some (.long zz.2), none, none, none]) (u1, u2) trivial (fun _ _ _ _ => trivial) 31 (fun z1 => (lg_cmp z1.2 (0 : Int64)) = 0) (fun i z h => by simp only [b_X7_divisor_1, if_pos h]) hx (fun z1 hE1 hF x9 => ?_) (fun i1 z1 hi1 hv1 hE1 ih1 => ?_) (fun x9 => ?_) (fun z => Classical.em _)
  · refine q_lload6 C dX7_divisor_6 ?_
    refine q_lconst (v := 0) C dX7_divisor_8 (by decide) ?_
    refine q_lcmp C dX7_divisor_9 ?_
    refine q_if_eq (tgt := 31) C dX7_divisor_10 (by decide) (fun c0 => hF x9) (fun c0 => absurd hE1 c0)
  · refine q_lload6 C dX7_divisor_6 ?_
    refine q_lconst (v := 0) C dX7_divisor_8 (by decide) ?_
    refine q_lcmp C dX7_divisor_9 ?_
    refine q_if_eq (tgt := 31) C dX7_divisor_10 (by decide) (fun c1 => absurd c1 hE1) (fun c1 => ?_)
    refine q_lload4 C dX7_divisor_13 ?_
    refine q_lload6 C dX7_divisor_15 ?_
    refine q_lrem C dX7_divisor_17 (lgne hE1) ?_
    refine q_lstore8 C dX7_divisor_18 (by decide) (by intro w h0 h; first | exact absurd rfl h0 | (cases h <;> rfl)) ?_
    refine q_lload6 C dX7_divisor_20 ?_
    refine q_lstore4 C dX7_divisor_22 (by decide) (by intro w h0 h; first | exact absurd rfl h0 | (cases h <;> rfl)) ?_
    refine q_lload8 C dX7_divisor_24 ?_
    refine q_lstore6 C dX7_divisor_26 (by decide) (by intro w h0 h; first | exact absurd rfl h0 | (cases h <;> rfl)) ?_
    refine q_goto (tgt := 6) C dX7_divisor_28 (by decide) ?_
    refine q_drop [none, none, none, none, some (.long z1.2), none, some (.long (z1.1 - z1.1 / z1.2 * z1.2)), none, none, none] (by repeat' (first | exact trivial | rfl | constructor)) ?_
    (simp only [b_X7_divisor_1, if_neg hE1] at ih1); exact ih1
  refine q_cut M 31 [none, none, none, none, some (.long (l_X7_divisor_1 (u1, u2)).1), none, some (.long (l_X7_divisor_1 (u1, u2)).2), none, none, none] [] (fun hJ => hJ) ?_
  refine q_lload4 C dX7_divisor_31 ?_
  exact q_lret C (by first | (rw [f_X7_divisor]; done) | rfl) rfl dX7_divisor_33
def m_X7_number_1 (M : Mm) : Mm := (sJ (sJ M 44 3 ((f_X7_numberUpper M) / (f_X7_divisor (f_X7_numberUpper M) (f_X7_numberLower M)))) 44 4 ((f_X7_numberLower M) / (f_X7_divisor (f_X7_numberUpper M) (f_X7_numberLower M))))
def f_X7_number (M : Mm)  : Int32 × Mm := (if (lg_cmp (f_X7_numberLower M) (0 : Int64)) = 0 then ((f_X7_meets M (4 : Int32)).1, (f_X7_meets M (4 : Int32)).2) else ((1 : Int32), (m_X7_number_1 M)))
set_option maxHeartbeats 4000000 in
set_option maxRecDepth 100000 in
theorem c_X7_number (M : Mm)  (hx : (lg_cmp (itr b_X7_divisor_1 64 ((f_X7_numberUpper M), (f_X7_numberLower M))).2 (0 : Int64)) = 0) (hd : ¬ (lg_cmp (f_X7_numberLower M) (0 : Int64)) = 0 → ¬ (f_X7_divisor (f_X7_numberUpper M) (f_X7_numberLower M)) = 0) : MI yX7_number cX7_number 5 (some .int) 2 43 (fun a => [.ref (a 44)]) M (f_X7_number M).1 (f_X7_number M).2 := by
  refine MI.intro (lv0 := fun a => [some (.ref (a 44)), none, none, none, none]) (by decide) (fun a => ⟨(Nat.le_of_ble_eq_true rfl), rfl⟩) ?_
  intro p9 l9 e9 s9 m9 g9 b9 h9 c9 D9 A9 ct a C
  have C : Cx p9 s9 m9 g9 h9 c9 cX7_number 5 RX7 (some .int) D9 A9 ct a := C
  refine q_aload0 C dX7_number_0 ?_
  refine qc_VJ C (c_X7_numberLower _ ) cw_X7_147 rfl rfl rfl rfl (Nat.le_of_ble_eq_true rfl) ⟨(Nat.le_of_ble_eq_true rfl), (Nat.le_of_ble_eq_true rfl)⟩ ⟨Nat.zero_le _, Nat.zero_le _⟩ dX7_number_1 ?_
  refine q_lstore1 C dX7_number_4 (by decide) (by intro w h0 h; first | exact absurd rfl h0 | (cases h <;> rfl)) ?_
  refine q_lload1 C dX7_number_5 ?_
  refine q_lconst (v := 0) C dX7_number_6 (by decide) ?_
  refine q_lcmp C dX7_number_7 ?_
  refine q_if_ne (tgt := 17) C dX7_number_8 (by decide) (fun c1 => ?_) (fun c1 => ?_)
  · refine q_aload0 C dX7_number_17 ?_
    refine qc_VJ C (c_X7_numberUpper _ ) cw_X7_154 rfl rfl rfl rfl (Nat.le_of_ble_eq_true rfl) ⟨(Nat.le_of_ble_eq_true rfl), (Nat.le_of_ble_eq_true rfl)⟩ ⟨Nat.zero_le _, Nat.zero_le _⟩ dX7_number_18 ?_
    refine q_lload1 C dX7_number_21 ?_
    refine qc_SJ C (c_X7_divisor _ _ _ hx) cw_X7_157 rfl rfl (Nat.le_of_ble_eq_true rfl) ⟨(Nat.le_of_ble_eq_true rfl), (Nat.le_of_ble_eq_true rfl)⟩ ⟨Nat.zero_le _, Nat.zero_le _⟩ dX7_number_22 ?_
    refine q_lstore3 C dX7_number_25 (by decide) (by intro w h0 h; first | exact absurd rfl h0 | (cases h <;> rfl)) ?_
    refine q_aload0 C dX7_number_26 ?_
    refine q_aload0 C dX7_number_27 ?_
    refine qc_VJ C (c_X7_numberUpper _ ) cw_X7_154 rfl rfl rfl rfl (Nat.le_of_ble_eq_true rfl) ⟨(Nat.le_of_ble_eq_true rfl), (Nat.le_of_ble_eq_true rfl)⟩ ⟨Nat.zero_le _, Nat.zero_le _⟩ dX7_number_28 ?_
    refine q_lload3 C dX7_number_31 ?_
    refine q_ldiv C dX7_number_32 (hd (by assumption)) ?_
    refine p_X7_161 C  dX7_number_33 ?_
    refine q_aload0 C dX7_number_36 ?_
    refine q_lload1 C dX7_number_37 ?_
    refine q_lload3 C dX7_number_38 ?_
    refine q_ldiv C dX7_number_39 (hd (by assumption)) ?_
    refine p_X7_13 C  dX7_number_40 ?_
    refine q_cut (m_X7_number_1 M) 43 [some (.ref (a 44)), some (.long (f_X7_numberLower M)), none, some (.long (f_X7_divisor (f_X7_numberUpper M) (f_X7_numberLower M))), none] [] (fun hJ => hJ) ?_
    refine q_iconst (v := 1) C dX7_number_43 (by decide) ?_
    exact q_iret C (by first | rfl | (rw [f_X7_number, if_neg c1]; done) | (rw [f_X7_number, if_neg c1]; rfl) | (simp only [f_X7_number, if_neg c1]; done)) (by first | rfl | (rw [f_X7_number, if_neg c1]; done) | (rw [f_X7_number, if_neg c1]; rfl) | (simp only [f_X7_number, if_neg c1]; done)) dX7_number_44
  · refine q_aload0 C dX7_number_11 ?_
    refine q_iconst (v := 4) C dX7_number_12 (by decide) ?_
    refine qc_VI C (c_X7_meets _ _ (by first | assumption | exact vp_in_nI (by omega) (by decide) | omega | (unfold vp_in; decide) | decide)) cw_X7_151 rfl rfl rfl rfl (Nat.le_of_ble_eq_true rfl) ⟨(Nat.le_of_ble_eq_true rfl), (Nat.le_of_ble_eq_true rfl)⟩ ⟨Nat.zero_le _, Nat.zero_le _⟩ dX7_number_13 ?_
    exact q_iret C (by first | rfl | (rw [f_X7_number, if_pos c1]; done) | (rw [f_X7_number, if_pos c1]; rfl) | (simp only [f_X7_number, if_pos c1]; done)) (by first | rfl | (rw [f_X7_number, if_pos c1]; done) | (rw [f_X7_number, if_pos c1]; rfl) | (simp only [f_X7_number, if_pos c1]; done)) dX7_number_16
def f_X7_aim (M : Mm) (u1 : Int32) (u2 : Int32) : Int32 × Mm := (if (f_X7_in u1 (1 : Int32) (1000 : Int32)) = 0 then ((-1 : Int32), M) else (if (f_X7_in u2 (1 : Int32) (1000 : Int32)) = 0 then ((-1 : Int32), M) else ((1 : Int32), (sI (sI M 44 12 u1) 44 13 u2))))
set_option maxHeartbeats 4000000 in
set_option maxRecDepth 100000 in
theorem c_X7_aim (M : Mm) (u1 : Int32) (u2 : Int32)  : MI yX7_aim cX7_aim 3 (some .int) 1 22 (fun a => [.ref (a 44), .int u1, .int u2]) M (f_X7_aim M u1 u2).1 (f_X7_aim M u1 u2).2 := by
  refine MI.intro (lv0 := fun a => [some (.ref (a 44)), some (.int u1), some (.int u2)]) (by decide) (fun a => ⟨(Nat.le_of_ble_eq_true rfl), rfl⟩) ?_
  intro p9 l9 e9 s9 m9 g9 b9 h9 c9 D9 A9 ct a C
  have C : Cx p9 s9 m9 g9 h9 c9 cX7_aim 3 RX7 (some .int) D9 A9 ct a := C
  refine q_iload1 C dX7_aim_0 ?_
  refine q_iconst (v := 1) C dX7_aim_1 (by decide) ?_
  refine q_sipush (v := 1000) C dX7_aim_2 (by decide) ?_
  refine qc_SI C (c_X7_in _ _ _ _) cw_X7_125 rfl rfl (Nat.le_of_ble_eq_true rfl) ⟨(Nat.le_of_ble_eq_true rfl), (Nat.le_of_ble_eq_true rfl)⟩ ⟨Nat.zero_le _, Nat.zero_le _⟩ dX7_aim_5 ?_
  refine q_if_eq (tgt := 22) C dX7_aim_8 (by decide) (fun c1 => ?_) (fun c1 => ?_)
  · refine q_iconst (v := -1) C dX7_aim_22 (by decide) ?_
    exact q_iret C (by first | rfl | (rw [f_X7_aim, if_pos c1]; done) | (rw [f_X7_aim, if_pos c1]; rfl) | (simp only [f_X7_aim, if_pos c1]; done)) (by first | rfl | (rw [f_X7_aim, if_pos c1]; done) | (rw [f_X7_aim, if_pos c1]; rfl) | (simp only [f_X7_aim, if_pos c1]; done)) dX7_aim_23
  · refine q_iload2 C dX7_aim_11 ?_
    refine q_iconst (v := 1) C dX7_aim_12 (by decide) ?_
    refine q_sipush (v := 1000) C dX7_aim_13 (by decide) ?_
    refine qc_SI C (c_X7_in _ _ _ _) cw_X7_125 rfl rfl (Nat.le_of_ble_eq_true rfl) ⟨(Nat.le_of_ble_eq_true rfl), (Nat.le_of_ble_eq_true rfl)⟩ ⟨Nat.zero_le _, Nat.zero_le _⟩ dX7_aim_16 ?_
    refine q_if_ne (tgt := 24) C dX7_aim_19 (by decide) (fun c2 => ?_) (fun c2 => ?_)
    · refine q_aload0 C dX7_aim_24 ?_
      refine q_iload1 C dX7_aim_25 ?_
      refine p_X7_36 C  dX7_aim_26 ?_
      refine q_aload0 C dX7_aim_29 ?_
      refine q_iload2 C dX7_aim_30 ?_
      refine p_X7_40 C  dX7_aim_31 ?_
      refine q_iconst (v := 1) C dX7_aim_34 (by decide) ?_
      exact q_iret C (by first | rfl | (rw [f_X7_aim, if_neg c1, if_neg c2]; done) | (rw [f_X7_aim, if_neg c1, if_neg c2]; rfl) | (simp only [f_X7_aim, if_neg c1, if_neg c2]; done)) (by first | rfl | (rw [f_X7_aim, if_neg c1, if_neg c2]; done) | (rw [f_X7_aim, if_neg c1, if_neg c2]; rfl) | (simp only [f_X7_aim, if_neg c1, if_neg c2]; done)) dX7_aim_35
    · refine q_iconst (v := -1) C dX7_aim_22 (by decide) ?_
      exact q_iret C (by first | rfl | (rw [f_X7_aim, if_neg c1, if_pos c2]; done) | (rw [f_X7_aim, if_neg c1, if_pos c2]; rfl) | (simp only [f_X7_aim, if_neg c1, if_pos c2]; done)) (by first | rfl | (rw [f_X7_aim, if_neg c1, if_pos c2]; done) | (rw [f_X7_aim, if_neg c1, if_pos c2]; rfl) | (simp only [f_X7_aim, if_neg c1, if_pos c2]; done)) dX7_aim_23
def f_X7_rule (M : Mm) (u1 : Int32) (u2 : Int32) : Int32 × Mm := (if (f_X7_in u1 (0 : Int32) (5 : Int32)) = 0 then ((-1 : Int32), M) else (if (f_X7_in u2 (0 : Int32) (100 : Int32)) = 0 then ((-1 : Int32), M) else ((1 : Int32), (sI (sI M 44 14 u1) 44 15 u2))))
set_option maxHeartbeats 4000000 in
set_option maxRecDepth 100000 in
theorem c_X7_rule (M : Mm) (u1 : Int32) (u2 : Int32)  : MI yX7_rule cX7_rule 3 (some .int) 1 22 (fun a => [.ref (a 44), .int u1, .int u2]) M (f_X7_rule M u1 u2).1 (f_X7_rule M u1 u2).2 := by
  refine MI.intro (lv0 := fun a => [some (.ref (a 44)), some (.int u1), some (.int u2)]) (by decide) (fun a => ⟨(Nat.le_of_ble_eq_true rfl), rfl⟩) ?_
  intro p9 l9 e9 s9 m9 g9 b9 h9 c9 D9 A9 ct a C
  have C : Cx p9 s9 m9 g9 h9 c9 cX7_rule 3 RX7 (some .int) D9 A9 ct a := C
  refine q_iload1 C dX7_rule_0 ?_
  refine q_iconst (v := 0) C dX7_rule_1 (by decide) ?_
  refine q_iconst (v := 5) C dX7_rule_2 (by decide) ?_
  refine qc_SI C (c_X7_in _ _ _ _) cw_X7_125 rfl rfl (Nat.le_of_ble_eq_true rfl) ⟨(Nat.le_of_ble_eq_true rfl), (Nat.le_of_ble_eq_true rfl)⟩ ⟨Nat.zero_le _, Nat.zero_le _⟩ dX7_rule_3 ?_
  refine q_if_eq (tgt := 19) C dX7_rule_6 (by decide) (fun c1 => ?_) (fun c1 => ?_)
  · refine q_iconst (v := -1) C dX7_rule_19 (by decide) ?_
    exact q_iret C (by first | rfl | (rw [f_X7_rule, if_pos c1]; done) | (rw [f_X7_rule, if_pos c1]; rfl) | (simp only [f_X7_rule, if_pos c1]; done)) (by first | rfl | (rw [f_X7_rule, if_pos c1]; done) | (rw [f_X7_rule, if_pos c1]; rfl) | (simp only [f_X7_rule, if_pos c1]; done)) dX7_rule_20
  · refine q_iload2 C dX7_rule_9 ?_
    refine q_iconst (v := 0) C dX7_rule_10 (by decide) ?_
    refine q_bipush (v := 100) C dX7_rule_11 (by decide) ?_
    refine qc_SI C (c_X7_in _ _ _ _) cw_X7_125 rfl rfl (Nat.le_of_ble_eq_true rfl) ⟨(Nat.le_of_ble_eq_true rfl), (Nat.le_of_ble_eq_true rfl)⟩ ⟨Nat.zero_le _, Nat.zero_le _⟩ dX7_rule_13 ?_
    refine q_if_ne (tgt := 21) C dX7_rule_16 (by decide) (fun c2 => ?_) (fun c2 => ?_)
    · refine q_aload0 C dX7_rule_21 ?_
      refine q_iload1 C dX7_rule_22 ?_
      refine p_X7_43 C  dX7_rule_23 ?_
      refine q_aload0 C dX7_rule_26 ?_
      refine q_iload2 C dX7_rule_27 ?_
      refine p_X7_46 C  dX7_rule_28 ?_
      refine q_iconst (v := 1) C dX7_rule_31 (by decide) ?_
      exact q_iret C (by first | rfl | (rw [f_X7_rule, if_neg c1, if_neg c2]; done) | (rw [f_X7_rule, if_neg c1, if_neg c2]; rfl) | (simp only [f_X7_rule, if_neg c1, if_neg c2]; done)) (by first | rfl | (rw [f_X7_rule, if_neg c1, if_neg c2]; done) | (rw [f_X7_rule, if_neg c1, if_neg c2]; rfl) | (simp only [f_X7_rule, if_neg c1, if_neg c2]; done)) dX7_rule_32
    · refine q_iconst (v := -1) C dX7_rule_19 (by decide) ?_
      exact q_iret C (by first | rfl | (rw [f_X7_rule, if_neg c1, if_pos c2]; done) | (rw [f_X7_rule, if_neg c1, if_pos c2]; rfl) | (simp only [f_X7_rule, if_neg c1, if_pos c2]; done)) (by first | rfl | (rw [f_X7_rule, if_neg c1, if_pos c2]; done) | (rw [f_X7_rule, if_neg c1, if_pos c2]; rfl) | (simp only [f_X7_rule, if_neg c1, if_pos c2]; done)) dX7_rule_20
def v_X7_steer_1 (M : Mm) (u1 : Int64) (u2 : Int64) : Int32 := (if (gI M 44 15) ≤ (gI M 51 ((if (if 0 ≤ (lg_cmp (u1 * ((gI M 44 13)).toInt64) (((gI M 44 12)).toInt64 * u2)) then (0 : Int32) else (1 : Int32)) = 0 then (0 : Int32) else (1 : Int32))).toNatClampNeg) then (gI M 44 15) else (gI M 51 ((if (if 0 ≤ (lg_cmp (u1 * ((gI M 44 13)).toInt64) (((gI M 44 12)).toInt64 * u2)) then (0 : Int32) else (1 : Int32)) = 0 then (0 : Int32) else (1 : Int32))).toNatClampNeg))
def m_X7_steer_2 (M : Mm) (u1 : Int64) (u2 : Int64) : Mm := (sI M 51 ((if (if 0 ≤ (lg_cmp (u1 * ((gI M 44 13)).toInt64) (((gI M 44 12)).toInt64 * u2)) then (0 : Int32) else (1 : Int32)) = 0 then (0 : Int32) else (1 : Int32))).toNatClampNeg ((gI M 51 ((if (if 0 ≤ (lg_cmp (u1 * ((gI M 44 13)).toInt64) (((gI M 44 12)).toInt64 * u2)) then (0 : Int32) else (1 : Int32)) = 0 then (0 : Int32) else (1 : Int32))).toNatClampNeg) - (v_X7_steer_1 M u1 u2)))
def m_X7_steer_3 (M : Mm) (u1 : Int64) (u2 : Int64) : Mm := (sI (m_X7_steer_2 M u1 u2) 51 (((1 : Int32) - (if (if 0 ≤ (lg_cmp (u1 * ((gI M 44 13)).toInt64) (((gI M 44 12)).toInt64 * u2)) then (0 : Int32) else (1 : Int32)) = 0 then (0 : Int32) else (1 : Int32)))).toNatClampNeg ((gI (m_X7_steer_2 M u1 u2) 51 (((1 : Int32) - (if (if 0 ≤ (lg_cmp (u1 * ((gI M 44 13)).toInt64) (((gI M 44 12)).toInt64 * u2)) then (0 : Int32) else (1 : Int32)) = 0 then (0 : Int32) else (1 : Int32)))).toNatClampNeg) + (v_X7_steer_1 M u1 u2)))
def f_X7_steer (M : Mm) (u1 : Int64) (u2 : Int64) : Int32 × Mm := (if (lg_cmp u2 (0 : Int64)) = 0 then ((1 : Int32), M) else (if (lg_cmp (u1 * ((gI M 44 13)).toInt64) (((gI M 44 12)).toInt64 * u2)) = 0 then ((1 : Int32), M) else ((if (v_X7_steer_1 M u1 u2) = 0 then (1 : Int32) else (if (if 0 ≤ (lg_cmp (u1 * ((gI M 44 13)).toInt64) (((gI M 44 12)).toInt64 * u2)) then (0 : Int32) else (1 : Int32)) = 0 then (3 : Int32) else (2 : Int32))), (m_X7_steer_3 M u1 u2))))
set_option maxHeartbeats 4000000 in
set_option maxRecDepth 100000 in
theorem c_X7_steer (M : Mm) (u1 : Int64) (u2 : Int64)  : MI yX7_steer cX7_steer 8 (some .int) 0 0 (fun a => [.ref (a 44), .long u1, .long u2]) M (f_X7_steer M u1 u2).1 (f_X7_steer M u1 u2).2 := by
  refine MI.intro (lv0 := fun a => [some (.ref (a 44)), some (.long u1), none, some (.long u2), none, none, none, none]) (by decide) (fun a => ⟨(Nat.le_of_ble_eq_true rfl), rfl⟩) ?_
  intro p9 l9 e9 s9 m9 g9 b9 h9 c9 D9 A9 ct a C
  have C : Cx p9 s9 m9 g9 h9 c9 cX7_steer 8 RX7 (some .int) D9 A9 ct a := C
  refine q_lload3 C dX7_steer_0 ?_
  refine q_lconst (v := 0) C dX7_steer_1 (by decide) ?_
  refine q_lcmp C dX7_steer_2 ?_
  refine q_if_eq (tgt := 24) C dX7_steer_3 (by decide) (fun c1 => ?_) (fun c1 => ?_)
  · refine q_iconst (v := 1) C dX7_steer_24 (by decide) ?_
    exact q_iret C (by first | rfl | (rw [f_X7_steer, if_pos c1]; done) | (rw [f_X7_steer, if_pos c1]; rfl) | (simp only [f_X7_steer, if_pos c1]; done)) (by first | rfl | (rw [f_X7_steer, if_pos c1]; done) | (rw [f_X7_steer, if_pos c1]; rfl) | (simp only [f_X7_steer, if_pos c1]; done)) dX7_steer_25
  · refine q_lload1 C dX7_steer_6 ?_
    refine q_aload0 C dX7_steer_7 ?_
    refine g_X7_40 C dX7_steer_8 ?_
    refine q_i2l C dX7_steer_11 ?_
    refine q_lmul C dX7_steer_12 ?_
    refine q_aload0 C dX7_steer_13 ?_
    refine g_X7_36 C dX7_steer_14 ?_
    refine q_i2l C dX7_steer_17 ?_
    refine q_lload3 C dX7_steer_18 ?_
    refine q_lmul C dX7_steer_19 ?_
    refine q_lcmp C dX7_steer_20 ?_
    refine q_if_ne (tgt := 26) C dX7_steer_21 (by decide) (fun c2 => ?_) (fun c2 => ?_)
    · refine q_lload1 C dX7_steer_26 ?_
      refine q_aload0 C dX7_steer_27 ?_
      refine g_X7_40 C dX7_steer_28 ?_
      refine q_i2l C dX7_steer_31 ?_
      refine q_lmul C dX7_steer_32 ?_
      refine q_aload0 C dX7_steer_33 ?_
      refine g_X7_36 C dX7_steer_34 ?_
      refine q_i2l C dX7_steer_37 ?_
      refine q_lload3 C dX7_steer_38 ?_
      refine q_lmul C dX7_steer_39 ?_
      refine q_lcmp C dX7_steer_40 ?_
      refine q_cut M 49 [some (.ref (a 44)), none, none, none, none, none, none, none] [.int (if 0 ≤ (lg_cmp (u1 * ((gI M 44 13)).toInt64) (((gI M 44 12)).toInt64 * u2)) then (0 : Int32) else (1 : Int32))] (fun hJ => ?_) ?_
      · refine q_if_ge (tgt := 48) C dX7_steer_41 (by decide) (fun c3 => ?_) (fun c3 => ?_)
        · refine q_iconst (v := 0) C dX7_steer_48 (by decide) ?_
          refine q_drop [some (.ref (a 44)), none, none, none, none, none, none, none] (by repeat' (first | exact trivial | rfl | constructor)) ?_
          (try simp only [if_pos c3] at hJ); exact hJ
        · refine q_iconst (v := 1) C dX7_steer_44 (by decide) ?_
          refine q_goto (tgt := 49) C dX7_steer_45 (by decide) ?_
          refine q_drop [some (.ref (a 44)), none, none, none, none, none, none, none] (by repeat' (first | exact trivial | rfl | constructor)) ?_
          (try simp only [if_neg c3] at hJ); exact hJ
      refine q_istore5 C dX7_steer_49 (by decide) (by intro w h0 h; first | exact absurd rfl h0 | (cases h <;> rfl)) ?_
      refine q_iload5 C dX7_steer_51 ?_
      refine q_cut M 61 [some (.ref (a 44)), none, none, none, none, some (.int (if 0 ≤ (lg_cmp (u1 * ((gI M 44 13)).toInt64) (((gI M 44 12)).toInt64 * u2)) then (0 : Int32) else (1 : Int32))), none, none] [.int (if (if 0 ≤ (lg_cmp (u1 * ((gI M 44 13)).toInt64) (((gI M 44 12)).toInt64 * u2)) then (0 : Int32) else (1 : Int32)) = 0 then (0 : Int32) else (1 : Int32))] (fun hJ => ?_) ?_
      · refine q_if_eq (tgt := 60) C dX7_steer_53 (by decide) (fun c4 => ?_) (fun c4 => ?_)
        · refine q_iconst (v := 0) C dX7_steer_60 (by decide) ?_
          (try simp only [if_pos c4] at hJ); exact hJ
        · refine q_iconst (v := 1) C dX7_steer_56 (by decide) ?_
          refine q_goto (tgt := 61) C dX7_steer_57 (by decide) ?_
          (try simp only [if_neg c4] at hJ); exact hJ
      refine q_istore6 C dX7_steer_61 (by decide) (by intro w h0 h; first | exact absurd rfl h0 | (cases h <;> rfl)) ?_
      refine q_aload0 C dX7_steer_63 ?_
      refine g_X7_33 C dX7_steer_64 ?_
      refine q_iload6 C dX7_steer_67 ?_
      refine q_ialdX (j := ((if (if 0 ≤ (lg_cmp (u1 * ((gI M 44 13)).toInt64) (((gI M 44 12)).toInt64 * u2)) then (0 : Int32) else (1 : Int32)) = 0 then (0 : Int32) else (1 : Int32))).toNatClampNeg) C rfl rfl st_in dX7_steer_69 ?_
      refine q_aload0 C dX7_steer_70 ?_
      refine g_X7_46 C dX7_steer_71 ?_
      refine q_cut M 91 [some (.ref (a 44)), none, none, none, none, some (.int (if 0 ≤ (lg_cmp (u1 * ((gI M 44 13)).toInt64) (((gI M 44 12)).toInt64 * u2)) then (0 : Int32) else (1 : Int32))), some (.int (if (if 0 ≤ (lg_cmp (u1 * ((gI M 44 13)).toInt64) (((gI M 44 12)).toInt64 * u2)) then (0 : Int32) else (1 : Int32)) = 0 then (0 : Int32) else (1 : Int32))), none] [.int (if (gI M 44 15) ≤ (gI M 51 ((if (if 0 ≤ (lg_cmp (u1 * ((gI M 44 13)).toInt64) (((gI M 44 12)).toInt64 * u2)) then (0 : Int32) else (1 : Int32)) = 0 then (0 : Int32) else (1 : Int32))).toNatClampNeg) then (gI M 44 15) else (gI M 51 ((if (if 0 ≤ (lg_cmp (u1 * ((gI M 44 13)).toInt64) (((gI M 44 12)).toInt64 * u2)) then (0 : Int32) else (1 : Int32)) = 0 then (0 : Int32) else (1 : Int32))).toNatClampNeg))] (fun hJ => ?_) ?_
      · refine q_icmp_ge (tgt := 87) C dX7_steer_74 (by decide) (fun c5 => ?_) (fun c5 => ?_)
        · refine q_aload0 C dX7_steer_87 ?_
          refine g_X7_46 C dX7_steer_88 ?_
          (try simp only [if_pos c5] at hJ); exact hJ
        · refine q_aload0 C dX7_steer_77 ?_
          refine g_X7_33 C dX7_steer_78 ?_
          refine q_iload6 C dX7_steer_81 ?_
          refine q_ialdX (j := ((if (if 0 ≤ (lg_cmp (u1 * ((gI M 44 13)).toInt64) (((gI M 44 12)).toInt64 * u2)) then (0 : Int32) else (1 : Int32)) = 0 then (0 : Int32) else (1 : Int32))).toNatClampNeg) C rfl rfl st_in dX7_steer_83 ?_
          refine q_goto (tgt := 91) C dX7_steer_84 (by decide) ?_
          (try simp only [if_neg c5] at hJ); exact hJ
      refine q_istore7 C dX7_steer_91 (by decide) (by intro w h0 h; first | exact absurd rfl h0 | (cases h <;> rfl)) ?_
      refine q_cut M 93 [some (.ref (a 44)), none, none, none, none, some (.int (if 0 ≤ (lg_cmp (u1 * ((gI M 44 13)).toInt64) (((gI M 44 12)).toInt64 * u2)) then (0 : Int32) else (1 : Int32))), some (.int (if (if 0 ≤ (lg_cmp (u1 * ((gI M 44 13)).toInt64) (((gI M 44 12)).toInt64 * u2)) then (0 : Int32) else (1 : Int32)) = 0 then (0 : Int32) else (1 : Int32))), some (.int (v_X7_steer_1 M u1 u2))] [] (fun hJ => hJ) ?_
      refine q_aload0 C dX7_steer_93 ?_
      refine g_X7_33 C dX7_steer_94 ?_
      refine q_iload6 C dX7_steer_97 ?_
      refine q_dup2 C dX7_steer_99 rfl rfl ?_
      refine q_ialdX (j := ((if (if 0 ≤ (lg_cmp (u1 * ((gI M 44 13)).toInt64) (((gI M 44 12)).toInt64 * u2)) then (0 : Int32) else (1 : Int32)) = 0 then (0 : Int32) else (1 : Int32))).toNatClampNeg) C rfl rfl st_in dX7_steer_100 ?_
      refine q_iload7 C dX7_steer_101 ?_
      refine q_isub C dX7_steer_103 ?_
      refine q_iastX (j := ((if (if 0 ≤ (lg_cmp (u1 * ((gI M 44 13)).toInt64) (((gI M 44 12)).toInt64 * u2)) then (0 : Int32) else (1 : Int32)) = 0 then (0 : Int32) else (1 : Int32))).toNatClampNeg) C rfl rfl st_in dX7_steer_104 ?_
      refine q_cut (m_X7_steer_2 M u1 u2) 105 [some (.ref (a 44)), none, none, none, none, some (.int (if 0 ≤ (lg_cmp (u1 * ((gI M 44 13)).toInt64) (((gI M 44 12)).toInt64 * u2)) then (0 : Int32) else (1 : Int32))), some (.int (if (if 0 ≤ (lg_cmp (u1 * ((gI M 44 13)).toInt64) (((gI M 44 12)).toInt64 * u2)) then (0 : Int32) else (1 : Int32)) = 0 then (0 : Int32) else (1 : Int32))), some (.int (v_X7_steer_1 M u1 u2))] [] (fun hJ => hJ) ?_
      refine q_aload0 C dX7_steer_105 ?_
      refine g_X7_33 C dX7_steer_106 ?_
      refine q_iconst (v := 1) C dX7_steer_109 (by decide) ?_
      refine q_iload6 C dX7_steer_110 ?_
      refine q_isub C dX7_steer_112 ?_
      refine q_dup2 C dX7_steer_113 rfl rfl ?_
      refine q_ialdX (j := (((1 : Int32) - (if (if 0 ≤ (lg_cmp (u1 * ((gI M 44 13)).toInt64) (((gI M 44 12)).toInt64 * u2)) then (0 : Int32) else (1 : Int32)) = 0 then (0 : Int32) else (1 : Int32)))).toNatClampNeg) C rfl rfl st_in' dX7_steer_114 ?_
      refine q_iload7 C dX7_steer_115 ?_
      refine q_iadd C dX7_steer_117 ?_
      refine q_iastX (j := (((1 : Int32) - (if (if 0 ≤ (lg_cmp (u1 * ((gI M 44 13)).toInt64) (((gI M 44 12)).toInt64 * u2)) then (0 : Int32) else (1 : Int32)) = 0 then (0 : Int32) else (1 : Int32)))).toNatClampNeg) C rfl rfl st_in' dX7_steer_118 ?_
      refine q_cut (m_X7_steer_3 M u1 u2) 119 [some (.ref (a 44)), none, none, none, none, some (.int (if 0 ≤ (lg_cmp (u1 * ((gI M 44 13)).toInt64) (((gI M 44 12)).toInt64 * u2)) then (0 : Int32) else (1 : Int32))), some (.int (if (if 0 ≤ (lg_cmp (u1 * ((gI M 44 13)).toInt64) (((gI M 44 12)).toInt64 * u2)) then (0 : Int32) else (1 : Int32)) = 0 then (0 : Int32) else (1 : Int32))), some (.int (v_X7_steer_1 M u1 u2))] [] (fun hJ => hJ) ?_
      refine q_iload7 C dX7_steer_119 ?_
      refine q_cut (m_X7_steer_3 M u1 u2) 138 [none, none, none, none, none, none, none, none] [.int (if (v_X7_steer_1 M u1 u2) = 0 then (1 : Int32) else (if (if 0 ≤ (lg_cmp (u1 * ((gI M 44 13)).toInt64) (((gI M 44 12)).toInt64 * u2)) then (0 : Int32) else (1 : Int32)) = 0 then (3 : Int32) else (2 : Int32)))] (fun hJ => ?_) ?_
      · refine q_if_ne (tgt := 128) C dX7_steer_121 (by decide) (fun c6 => ?_) (fun c6 => ?_)
        · refine q_iload5 C dX7_steer_128 ?_
          refine q_if_eq (tgt := 137) C dX7_steer_130 (by decide) (fun c7 => ?_) (fun c7 => ?_)
          · refine q_iconst (v := 3) C dX7_steer_137 (by decide) ?_
            refine q_drop [none, none, none, none, none, none, none, none] (by repeat' (first | exact trivial | rfl | constructor)) ?_
            (try simp only [if_neg c6, if_pos c7] at hJ); exact hJ
          · refine q_iconst (v := 2) C dX7_steer_133 (by decide) ?_
            refine q_goto (tgt := 138) C dX7_steer_134 (by decide) ?_
            refine q_drop [none, none, none, none, none, none, none, none] (by repeat' (first | exact trivial | rfl | constructor)) ?_
            (try simp only [if_neg c6, if_neg c7] at hJ); exact hJ
        · refine q_iconst (v := 1) C dX7_steer_124 (by decide) ?_
          refine q_goto (tgt := 138) C dX7_steer_125 (by decide) ?_
          refine q_drop [none, none, none, none, none, none, none, none] (by repeat' (first | exact trivial | rfl | constructor)) ?_
          (try simp only [if_pos c6] at hJ); exact hJ
      exact q_iret C (by first | rfl | (rw [f_X7_steer, if_neg c1, if_neg c2]; done) | (rw [f_X7_steer, if_neg c1, if_neg c2]; rfl) | (simp only [f_X7_steer, if_neg c1, if_neg c2]; done)) (by first | rfl | (rw [f_X7_steer, if_neg c1, if_neg c2]; done) | (rw [f_X7_steer, if_neg c1, if_neg c2]; rfl) | (simp only [f_X7_steer, if_neg c1, if_neg c2]; done)) dX7_steer_138
    · refine q_iconst (v := 1) C dX7_steer_24 (by decide) ?_
      exact q_iret C (by first | rfl | (rw [f_X7_steer, if_neg c1, if_pos c2]; done) | (rw [f_X7_steer, if_neg c1, if_pos c2]; rfl) | (simp only [f_X7_steer, if_neg c1, if_pos c2]; done)) (by first | rfl | (rw [f_X7_steer, if_neg c1, if_pos c2]; done) | (rw [f_X7_steer, if_neg c1, if_pos c2]; rfl) | (simp only [f_X7_steer, if_neg c1, if_pos c2]; done)) dX7_steer_25
def f_X7_read (M : Mm)  : Int32 := (gI M 44 21)
set_option maxHeartbeats 4000000 in
set_option maxRecDepth 100000 in
theorem c_X7_read (M : Mm)   : MI yX7_read cX7_read 1 (some .int) 0 0 (fun a => [.ref (a 44)]) M (f_X7_read M) M := by
  refine MI.intro (lv0 := fun a => [some (.ref (a 44))]) (by decide) (fun a => ⟨(Nat.le_of_ble_eq_true rfl), rfl⟩) ?_
  intro p9 l9 e9 s9 m9 g9 b9 h9 c9 D9 A9 ct a C
  have C : Cx p9 s9 m9 g9 h9 c9 cX7_read 1 RX7 (some .int) D9 A9 ct a := C
  refine q_aload0 C dX7_read_0 ?_
  refine g_X7_62 C dX7_read_1 ?_
  exact q_iret C (by first | (rw [f_X7_read]; done) | rfl) rfl dX7_read_4
def b_X7_passed_1 (M : Mm) (i1 : Nat) (z1 : Int32) : Int32 := (z1 + (if (gI M 55 i1) = (2 : Int32) then (1 : Int32) else (0 : Int32)))
def f_X7_passed (M : Mm)  : Int32 := (itr (b_X7_passed_1 M) (gI M 44 16).toNatClampNeg (0 : Int32))
set_option maxHeartbeats 4000000 in
set_option maxRecDepth 100000 in
theorem c_X7_passed (M : Mm)  (h0 : 0 ≤ gI M 44 16) (hb : (gI M 44 16).toNatClampNeg ≤ 200) : MI yX7_passed cX7_passed 3 (some .int) 0 0 (fun a => [.ref (a 44)]) M (f_X7_passed M) M := by
  refine MI.intro (lv0 := fun a => [some (.ref (a 44)), none, none]) (by decide) (fun a => ⟨(Nat.le_of_ble_eq_true rfl), rfl⟩) ?_
  intro p9 l9 e9 s9 m9 g9 b9 h9 c9 D9 A9 ct a C
  have C : Cx p9 s9 m9 g9 h9 c9 cX7_passed 3 RX7 (some .int) D9 A9 ct a := C
  refine q_iconst (v := 0) C dX7_passed_0 (by decide) ?_
  refine q_istore1 C dX7_passed_1 (by decide) (by intro w h0 h; first | exact absurd rfl h0 | (cases h <;> rfl)) ?_
  refine q_iconst (v := 0) C dX7_passed_2 (by decide) ?_
  refine q_istore2 C dX7_passed_3 (by decide) (by intro w h0 h; first | exact absurd rfl h0 | (cases h <;> rfl)) ?_
  refine q_loop (gI M 44 16).toNatClampNeg (b_X7_passed_1 M) (fun zz => M) (fun xx zz => [some (.ref (a 44)), some (.int zz), some (.int xx)]) (0 : Int32)  (fun i1 z1 hi1 ih1 => ?_) ?_
  · refine q_iload2 C dX7_passed_4 ?_
    refine q_aload0 C dX7_passed_5 ?_
    refine g_X7_164 C dX7_passed_6 ?_
    refine q_icmp_ge (tgt := 36) C dX7_passed_9 (by decide) (fun c1 => absurd c1 (nge_clamp h0 hi1)) (fun c1 => ?_)
    refine q_iload1 C dX7_passed_12 ?_
    refine q_aload0 C dX7_passed_13 ?_
    refine g_X7_59 C dX7_passed_14 ?_
    refine q_iload2 C dX7_passed_17 ?_
    refine q_ialdX (j := i1) C rfl (nI_clamp (by omega)) (vp_in_nI (by omega) (by first | decide | omega)) dX7_passed_18 ?_
    refine q_iconst (v := 2) C dX7_passed_19 (by decide) ?_
    refine q_cut M 28 [some (.ref (a 44)), none, some (.int (nI i1))] [.int (if (gI M 55 i1) = (2 : Int32) then (1 : Int32) else (0 : Int32)), .int z1] (fun hJ => ?_) ?_
    · refine q_icmp_ne (tgt := 27) C dX7_passed_20 (by decide) (fun c2 => ?_) (fun c2 => ?_)
      · refine q_iconst (v := 0) C dX7_passed_27 (by decide) ?_
        refine q_drop [some (.ref (a 44)), none, some (.int (nI i1))] (by repeat' (first | exact trivial | rfl | constructor)) ?_
        (try simp only [if_neg c2] at hJ); exact hJ
      · refine q_iconst (v := 1) C dX7_passed_23 (by decide) ?_
        refine q_goto (tgt := 28) C dX7_passed_24 (by decide) ?_
        refine q_drop [some (.ref (a 44)), none, some (.int (nI i1))] (by repeat' (first | exact trivial | rfl | constructor)) ?_
        (try simp only [if_pos c2] at hJ); exact hJ
    refine q_iadd C dX7_passed_28 ?_
    refine q_istore1 C dX7_passed_29 (by decide) (by intro w h0 h; first | exact absurd rfl h0 | (cases h <;> rfl)) ?_
    refine q_iinc2 (dv := 1) C dX7_passed_30 (by decide) (by decide) (by intro w h0 h; first | exact absurd rfl h0 | (cases h <;> rfl)) ?_
    refine q_goto (tgt := 4) C dX7_passed_33 (by decide) ?_
    exact ih1
  refine q_iload2 C dX7_passed_4 ?_
  refine q_aload0 C dX7_passed_5 ?_
  refine g_X7_164 C dX7_passed_6 ?_
  refine q_icmp_ge (tgt := 36) C dX7_passed_9 (by decide) (fun c3 => ?_) (fun c3 => absurd (ge_clamp h0) c3)
  refine q_iload1 C dX7_passed_36 ?_
  exact q_iret C (by first | (rw [f_X7_passed]; done) | rfl) rfl dX7_passed_37
