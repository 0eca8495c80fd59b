def f_X6_within (u1 : Int32) (u2 : Int32) (u3 : Int32) : Int32 := (if u1 < u2 then (0 : Int32) else (if u3 < u1 then (0 : Int32) else (1 : Int32)))
set_option maxHeartbeats 4000000 in
set_option maxRecDepth 100000 in
theorem c_X6_within (M : Mm) (u1 : Int32) (u2 : Int32) (u3 : Int32)  : MI yX6_within cX6_within 3 (some .boolean) 0 0 (fun a => [.int u1, .int u2, .int u3]) M (f_X6_within u1 u2 u3) M := by
  refine MI.intro (lv0 := fun a => [some (.int u1), some (.int u2), some (.int u3)]) (by decide) (fun a => ⟨(Nat.le_of_ble_eq_true rfl), rfl⟩) ?_
  intro p9 l9 e9 s9 m9 g9 b9 h9 c9 D9 A9 ct a C
  have C : Cx p9 s9 m9 g9 h9 c9 cX6_within 3 RX6 (some .boolean) D9 A9 ct a := C
  refine q_iload0 C dX6_within_0 ?_
  refine q_iload1 C dX6_within_1 ?_
  refine q_cut M 15 [none, none, none] [.int (if u1 < u2 then (0 : Int32) else (if u3 < u1 then (0 : Int32) else (1 : Int32)))] (fun hJ => ?_) ?_
  · refine q_icmp_lt (tgt := 14) C dX6_within_2 (by decide) (fun c1 => ?_) (fun c1 => ?_)
    · refine q_iconst (v := 0) C dX6_within_14 (by decide) ?_
      refine q_drop [none, none, none] (by repeat' (first | exact trivial | rfl | constructor)) ?_
      (try simp only [if_pos c1] at hJ); exact hJ
    · refine q_iload0 C dX6_within_5 ?_
      refine q_iload2 C dX6_within_6 ?_
      refine q_icmp_gt (tgt := 14) C dX6_within_7 (by decide) (fun c2 => ?_) (fun c2 => ?_)
      · refine q_iconst (v := 0) C dX6_within_14 (by decide) ?_
        refine q_drop [none, none, none] (by repeat' (first | exact trivial | rfl | constructor)) ?_
        (try simp only [if_neg c1, if_pos c2] at hJ); exact hJ
      · refine q_iconst (v := 1) C dX6_within_10 (by decide) ?_
        refine q_goto (tgt := 15) C dX6_within_11 (by decide) ?_
        refine q_drop [none, none, none] (by repeat' (first | exact trivial | rfl | constructor)) ?_
        (try simp only [if_neg c1, if_neg c2] at hJ); exact hJ
  exact q_zret C (by repeat' first | exact bz_0 | exact bz_1 | assumption | apply bz_if) (by first | (rw [f_X6_within]; done) | rfl) rfl dX6_within_15
def f_X6_fitWhole (u1 : Int32) (u2 : Int32) (u3 : Int32) : Int32 := (if (f_X6_within u1 (0 : Int32) (1000 : Int32)) = 0 then (0 : Int32) else (if (f_X6_within u2 (0 : Int32) (1000 : Int32)) = 0 then (0 : Int32) else (if (f_X6_within u3 (0 : Int32) (1000 : Int32)) = 0 then (0 : Int32) else (if (1000 : Int32) < ((u1 + u2) + u3) then (0 : Int32) else (1 : Int32)))))
set_option maxHeartbeats 4000000 in
set_option maxRecDepth 100000 in
theorem c_X6_fitWhole (M : Mm) (u1 : Int32) (u2 : Int32) (u3 : Int32)  : MI yX6_fitWhole cX6_fitWhole 3 (some .boolean) 1 22 (fun a => [.int u1, .int u2, .int u3]) M (f_X6_fitWhole u1 u2 u3) M := by
  refine MI.intro (lv0 := fun a => [some (.int u1), some (.int u2), some (.int u3)]) (by decide) (fun a => ⟨(Nat.le_of_ble_eq_true rfl), rfl⟩) ?_
  intro p9 l9 e9 s9 m9 g9 b9 h9 c9 D9 A9 ct a C
  have C : Cx p9 s9 m9 g9 h9 c9 cX6_fitWhole 3 RX6 (some .boolean) D9 A9 ct a := C
  refine q_iload0 C dX6_fitWhole_0 ?_
  refine q_iconst (v := 0) C dX6_fitWhole_1 (by decide) ?_
  refine q_sipush (v := 1000) C dX6_fitWhole_2 (by decide) ?_
  refine qc_SI C (c_X6_within _ _ _ _) cw_X6_63 rfl rfl (Nat.le_of_ble_eq_true rfl) ⟨(Nat.le_of_ble_eq_true rfl), (Nat.le_of_ble_eq_true rfl)⟩ ⟨Nat.zero_le _, Nat.zero_le _⟩ dX6_fitWhole_5 ?_
  refine q_cut M 49 [none, none, none] [.int (if (f_X6_within u1 (0 : Int32) (1000 : Int32)) = 0 then (0 : Int32) else (if (f_X6_within u2 (0 : Int32) (1000 : Int32)) = 0 then (0 : Int32) else (if (f_X6_within u3 (0 : Int32) (1000 : Int32)) = 0 then (0 : Int32) else (if (1000 : Int32) < ((u1 + u2) + u3) then (0 : Int32) else (1 : Int32)))))] (fun hJ => ?_) ?_
  · refine q_if_eq (tgt := 48) C dX6_fitWhole_8 (by decide) (fun c1 => ?_) (fun c1 => ?_)
    · refine q_iconst (v := 0) C dX6_fitWhole_48 (by decide) ?_
      refine q_drop [none, none, none] (by repeat' (first | exact trivial | rfl | constructor)) ?_
      (try simp only [if_pos c1] at hJ); exact hJ
    · refine q_iload1 C dX6_fitWhole_11 ?_
      refine q_iconst (v := 0) C dX6_fitWhole_12 (by decide) ?_
      refine q_sipush (v := 1000) C dX6_fitWhole_13 (by decide) ?_
      refine qc_SI C (c_X6_within _ _ _ _) cw_X6_63 rfl rfl (Nat.le_of_ble_eq_true rfl) ⟨(Nat.le_of_ble_eq_true rfl), (Nat.le_of_ble_eq_true rfl)⟩ ⟨Nat.zero_le _, Nat.zero_le _⟩ dX6_fitWhole_16 ?_
      refine q_if_eq (tgt := 48) C dX6_fitWhole_19 (by decide) (fun c2 => ?_) (fun c2 => ?_)
      · refine q_iconst (v := 0) C dX6_fitWhole_48 (by decide) ?_
        refine q_drop [none, none, none] (by repeat' (first | exact trivial | rfl | constructor)) ?_
        (try simp only [if_neg c1, if_pos c2] at hJ); exact hJ
      · refine q_iload2 C dX6_fitWhole_22 ?_
        refine q_iconst (v := 0) C dX6_fitWhole_23 (by decide) ?_
        refine q_sipush (v := 1000) C dX6_fitWhole_24 (by decide) ?_
        refine qc_SI C (c_X6_within _ _ _ _) cw_X6_63 rfl rfl (Nat.le_of_ble_eq_true rfl) ⟨(Nat.le_of_ble_eq_true rfl), (Nat.le_of_ble_eq_true rfl)⟩ ⟨Nat.zero_le _, Nat.zero_le _⟩ dX6_fitWhole_27 ?_
        refine q_if_eq (tgt := 48) C dX6_fitWhole_30 (by decide) (fun c3 => ?_) (fun c3 => ?_)
        · refine q_iconst (v := 0) C dX6_fitWhole_48 (by decide) ?_
          refine q_drop [none, none, none] (by repeat' (first | exact trivial | rfl | constructor)) ?_
          (try simp only [if_neg c1, if_neg c2, if_pos c3] at hJ); exact hJ
        · refine q_iload0 C dX6_fitWhole_33 ?_
          refine q_iload1 C dX6_fitWhole_34 ?_
          refine q_iadd C dX6_fitWhole_35 ?_
          refine q_iload2 C dX6_fitWhole_36 ?_
          refine q_iadd C dX6_fitWhole_37 ?_
          refine q_sipush (v := 1000) C dX6_fitWhole_38 (by decide) ?_
          refine q_icmp_gt (tgt := 48) C dX6_fitWhole_41 (by decide) (fun c4 => ?_) (fun c4 => ?_)
          · refine q_iconst (v := 0) C dX6_fitWhole_48 (by decide) ?_
            refine q_drop [none, none, none] (by repeat' (first | exact trivial | rfl | constructor)) ?_
            (try simp only [if_neg c1, if_neg c2, if_neg c3, if_pos c4] at hJ); exact hJ
          · refine q_iconst (v := 1) C dX6_fitWhole_44 (by decide) ?_
            refine q_goto (tgt := 49) C dX6_fitWhole_45 (by decide) ?_
            refine q_drop [none, none, none] (by repeat' (first | exact trivial | rfl | constructor)) ?_
            (try simp only [if_neg c1, if_neg c2, if_neg c3, if_neg c4] at hJ); exact hJ
  exact q_zret C (by repeat' first | exact bz_0 | exact bz_1 | assumption | apply bz_if) (by first | (rw [f_X6_fitWhole]; done) | rfl) rfl dX6_fitWhole_49
def f_X6_hasHours (u1 : Int32) (u2 : Int32) : Int32 := (if (f_X6_within u1 (0 : Int32) (24 : Int32)) = 0 then (0 : Int32) else (if ((24 : Int32) - u1) < u2 then (0 : Int32) else (1 : Int32)))
set_option maxHeartbeats 4000000 in
set_option maxRecDepth 100000 in
theorem c_X6_hasHours (M : Mm) (u1 : Int32) (u2 : Int32)  : MI yX6_hasHours cX6_hasHours 2 (some .boolean) 1 22 (fun a => [.int u1, .int u2]) M (f_X6_hasHours u1 u2) M := by
  refine MI.intro (lv0 := fun a => [some (.int u1), some (.int u2)]) (by decide) (fun a => ⟨(Nat.le_of_ble_eq_true rfl), rfl⟩) ?_
  intro p9 l9 e9 s9 m9 g9 b9 h9 c9 D9 A9 ct a C
  have C : Cx p9 s9 m9 g9 h9 c9 cX6_hasHours 2 RX6 (some .boolean) D9 A9 ct a := C
  refine q_iload0 C dX6_hasHours_0 ?_
  refine q_iconst (v := 0) C dX6_hasHours_1 (by decide) ?_
  refine q_bipush (v := 24) C dX6_hasHours_2 (by decide) ?_
  refine qc_SI C (c_X6_within _ _ _ _) cw_X6_63 rfl rfl (Nat.le_of_ble_eq_true rfl) ⟨(Nat.le_of_ble_eq_true rfl), (Nat.le_of_ble_eq_true rfl)⟩ ⟨Nat.zero_le _, Nat.zero_le _⟩ dX6_hasHours_4 ?_
  refine q_cut M 23 [none, none] [.int (if (f_X6_within u1 (0 : Int32) (24 : Int32)) = 0 then (0 : Int32) else (if ((24 : Int32) - u1) < u2 then (0 : Int32) else (1 : Int32)))] (fun hJ => ?_) ?_
  · refine q_if_eq (tgt := 22) C dX6_hasHours_7 (by decide) (fun c1 => ?_) (fun c1 => ?_)
    · refine q_iconst (v := 0) C dX6_hasHours_22 (by decide) ?_
      refine q_drop [none, none] (by repeat' (first | exact trivial | rfl | constructor)) ?_
      (try simp only [if_pos c1] at hJ); exact hJ
    · refine q_iload1 C dX6_hasHours_10 ?_
      refine q_bipush (v := 24) C dX6_hasHours_11 (by decide) ?_
      refine q_iload0 C dX6_hasHours_13 ?_
      refine q_isub C dX6_hasHours_14 ?_
      refine q_icmp_gt (tgt := 22) C dX6_hasHours_15 (by decide) (fun c2 => ?_) (fun c2 => ?_)
      · refine q_iconst (v := 0) C dX6_hasHours_22 (by decide) ?_
        refine q_drop [none, none] (by repeat' (first | exact trivial | rfl | constructor)) ?_
        (try simp only [if_neg c1, if_pos c2] at hJ); exact hJ
      · refine q_iconst (v := 1) C dX6_hasHours_18 (by decide) ?_
        refine q_goto (tgt := 23) C dX6_hasHours_19 (by decide) ?_
        refine q_drop [none, none] (by repeat' (first | exact trivial | rfl | constructor)) ?_
        (try simp only [if_neg c1, if_neg c2] at hJ); exact hJ
  exact q_zret C (by repeat' first | exact bz_0 | exact bz_1 | assumption | apply bz_if) (by first | (rw [f_X6_hasHours]; done) | rfl) rfl dX6_hasHours_23
def f_X6_fold (u1 : Int64) (u2 : Int64) : Int64 := (((31 : Int64) * u1) + u2)
set_option maxHeartbeats 4000000 in
set_option maxRecDepth 100000 in
theorem c_X6_fold (M : Mm) (u1 : Int64) (u2 : Int64)  : MJ yX6_fold cX6_fold 4 (some .long) 0 0 (fun a => [.long u1, .long u2]) M (f_X6_fold u1 u2) M := by
  refine MJ.intro (lv0 := fun a => [some (.long u1), none, some (.long u2), none]) (by decide) (fun a => ⟨(Nat.le_of_ble_eq_true rfl), rfl⟩) ?_
  intro p9 l9 e9 s9 m9 g9 b9 h9 c9 D9 A9 ct a C
  have C : Cx p9 s9 m9 g9 h9 c9 cX6_fold 4 RX6 (some .long) D9 A9 ct a := C
  refine q_ldc2 C dX6_fold_0 wk_X6_264 ?_
  refine q_lload0 C dX6_fold_3 ?_
  refine q_lmul C dX6_fold_4 ?_
  refine q_lload2 C dX6_fold_5 ?_
  refine q_ladd C dX6_fold_6 ?_
  exact q_lret C (by first | (rw [f_X6_fold]; done) | rfl) rfl dX6_fold_7
def f_X1_answer (M : Mm) (u1 : Int32) : Int32 × Mm := ((-3 : Int32), (sI (sI M 6 1 u1) 43 (u1).toNatClampNeg ((gI (sI M 6 1 u1) 43 (u1).toNatClampNeg) + (1 : Int32))))
set_option maxHeartbeats 4000000 in
set_option maxRecDepth 100000 in
theorem c_X1_answer (M : Mm) (u1 : Int32) (h1 : vp_in u1 6) : MI yX1_answer cX1_answer 2 (some .int) 0 0 (fun a => [.ref (a 6), .int u1]) M (f_X1_answer M u1).1 (f_X1_answer M u1).2 := by
  refine MI.intro (lv0 := fun a => [some (.ref (a 6)), some (.int u1)]) (by decide) (fun a => ⟨(Nat.le_of_ble_eq_true rfl), rfl⟩) ?_
  intro p9 l9 e9 s9 m9 g9 b9 h9 c9 D9 A9 ct a C
  have C : Cx p9 s9 m9 g9 h9 c9 cX1_answer 2 RX1 (some .int) D9 A9 ct a := C
  refine q_aload0 C dX1_answer_0 ?_
  refine q_iload1 C dX1_answer_1 ?_
  refine p_X1_15 C  dX1_answer_2 ?_
  refine q_aload0 C dX1_answer_5 ?_
  refine g_X1_9 C dX1_answer_6 ?_
  refine q_iload1 C dX1_answer_9 ?_
  refine q_dup2 C dX1_answer_10 rfl rfl ?_
  refine q_ialdX (j := (u1).toNatClampNeg) C rfl rfl (by first | assumption | (simp only [gI_sI, gI_sJ, gI_ite]; simp; assumption) | (simp [gI_sI, gI_sJ, gI_ite]; assumption)) dX1_answer_11 ?_
  refine q_iconst (v := 1) C dX1_answer_12 (by decide) ?_
  refine q_iadd C dX1_answer_13 ?_
  refine q_iastX (j := (u1).toNatClampNeg) C rfl rfl (by first | assumption | (simp only [gI_sI, gI_sJ, gI_ite]; simp; assumption) | (simp [gI_sI, gI_sJ, gI_ite]; assumption)) dX1_answer_14 ?_
  refine q_bipush (v := -3) C dX1_answer_15 (by decide) ?_
  exact q_iret C (by first | (rw [f_X1_answer]; done) | rfl) (by first | (rw [f_X1_answer]; done) | rfl) dX1_answer_17
def f_X1_latest (M : Mm)  : Int32 := (gI M 6 1)
set_option maxHeartbeats 4000000 in
set_option maxRecDepth 100000 in
theorem c_X1_latest (M : Mm)   : MI yX1_latest cX1_latest 1 (some .int) 0 0 (fun a => [.ref (a 6)]) M (f_X1_latest M) M := by
  refine MI.intro (lv0 := fun a => [some (.ref (a 6))]) (by decide) (fun a => ⟨(Nat.le_of_ble_eq_true rfl), rfl⟩) ?_
  intro p9 l9 e9 s9 m9 g9 b9 h9 c9 D9 A9 ct a C
  have C : Cx p9 s9 m9 g9 h9 c9 cX1_latest 1 RX1 (some .int) D9 A9 ct a := C
  refine q_aload0 C dX1_latest_0 ?_
  refine g_X1_15 C dX1_latest_1 ?_
  exact q_iret C (by first | (rw [f_X1_latest]; done) | rfl) rfl dX1_latest_4
def f_X1_times (M : Mm) (u1 : Int32) : Int32 := (gI M 43 (u1).toNatClampNeg)
set_option maxHeartbeats 4000000 in
set_option maxRecDepth 100000 in
theorem c_X1_times (M : Mm) (u1 : Int32) (h1 : vp_in u1 6) : MI yX1_times cX1_times 2 (some .int) 0 0 (fun a => [.ref (a 6), .int u1]) M (f_X1_times M u1) M := by
  refine MI.intro (lv0 := fun a => [some (.ref (a 6)), some (.int u1)]) (by decide) (fun a => ⟨(Nat.le_of_ble_eq_true rfl), rfl⟩) ?_
  intro p9 l9 e9 s9 m9 g9 b9 h9 c9 D9 A9 ct a C
  have C : Cx p9 s9 m9 g9 h9 c9 cX1_times 2 RX1 (some .int) D9 A9 ct a := C
  refine q_aload0 C dX1_times_0 ?_
  refine g_X1_9 C dX1_times_1 ?_
  refine q_iload1 C dX1_times_4 ?_
  refine q_ialdX (j := (u1).toNatClampNeg) C rfl rfl (by first | assumption | (simp only [gI_sI, gI_sJ, gI_ite]; simp; assumption) | (simp [gI_sI, gI_sJ, gI_ite]; assumption)) dX1_times_5 ?_
  exact q_iret C (by first | (rw [f_X1_times]; done) | rfl) rfl dX1_times_6
