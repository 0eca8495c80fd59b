def f_X7_in (u1 : Int32) (u2 : Int32) (u3 : Int32) : Int32 := (if u1 < u2 then (0 : Int32) else (if u3 < u1 then (0 : Int32) else (1 : Int32)))
set_option maxHeartbeats 4000000 in
set_option maxRecDepth 100000 in
theorem c_X7_in (M : Mm) (u1 : Int32) (u2 : Int32) (u3 : Int32)  : MI yX7_in cX7_in 3 (some .boolean) 0 0 (fun a => [.int u1, .int u2, .int u3]) M (f_X7_in u1 u2 u3) M := by
  refine MI.intro (lv0 := fun a => [some (.int u1), some (.int u2), some (.int u3)]) (by decide) (fun a => ⟨(Nat.le_of_ble_eq_true rfl), rfl⟩) ?_
  intro p9 l9 e9 s9 m9 g9 b9 h9 c9 D9 A9 ct a C
  have C : Cx p9 s9 m9 g9 h9 c9 cX7_in 3 RX7 (some .boolean) D9 A9 ct a := C
  refine q_iload0 C dX7_in_0 ?_
  refine q_iload1 C dX7_in_1 ?_
  refine q_cut M 15 [none, none, none] [.int (if u1 < u2 then (0 : Int32) else (if u3 < u1 then (0 : Int32) else (1 : Int32)))] (fun hJ => ?_) ?_
  · refine q_icmp_lt (tgt := 14) C dX7_in_2 (by decide) (fun c1 => ?_) (fun c1 => ?_)
    · refine q_iconst (v := 0) C dX7_in_14 (by decide) ?_
      refine q_drop [none, none, none] (by repeat' (first | exact trivial | rfl | constructor)) ?_
      (try simp only [if_pos c1] at hJ); exact hJ
    · refine q_iload0 C dX7_in_5 ?_
      refine q_iload2 C dX7_in_6 ?_
      refine q_icmp_gt (tgt := 14) C dX7_in_7 (by decide) (fun c2 => ?_) (fun c2 => ?_)
      · refine q_iconst (v := 0) C dX7_in_14 (by decide) ?_
        refine q_drop [none, none, none] (by repeat' (first | exact trivial | rfl | constructor)) ?_
        (try simp only [if_neg c1, if_pos c2] at hJ); exact hJ
      · refine q_iconst (v := 1) C dX7_in_10 (by decide) ?_
        refine q_goto (tgt := 15) C dX7_in_11 (by decide) ?_
        refine q_drop [none, none, none] (by repeat' (first | exact trivial | rfl | constructor)) ?_
        (try simp only [if_neg c1, if_neg c2] at hJ); exact hJ
  exact q_zret C (by repeat' first | exact bz_0 | exact bz_1 | assumption | apply bz_if) (by first | (rw [f_X7_in]; done) | rfl) rfl dX7_in_15
def f_X7_meets (M : Mm) (u1 : Int32) : Int32 × Mm := ((-3 : Int32), (sI (sI M 44 0 u1) 45 (u1).toNatClampNeg ((gI (sI M 44 0 u1) 45 (u1).toNatClampNeg) + (1 : Int32))))
set_option maxHeartbeats 4000000 in
set_option maxRecDepth 100000 in
theorem c_X7_meets (M : Mm) (u1 : Int32) (h1 : vp_in u1 6) : MI yX7_meets cX7_meets 2 (some .int) 0 0 (fun a => [.ref (a 44), .int u1]) M (f_X7_meets M u1).1 (f_X7_meets M u1).2 := by
  refine MI.intro (lv0 := fun a => [some (.ref (a 44)), some (.int u1)]) (by decide) (fun a => ⟨(Nat.le_of_ble_eq_true rfl), rfl⟩) ?_
  intro p9 l9 e9 s9 m9 g9 b9 h9 c9 D9 A9 ct a C
  have C : Cx p9 s9 m9 g9 h9 c9 cX7_meets 2 RX7 (some .int) D9 A9 ct a := C
  refine q_aload0 C dX7_meets_0 ?_
  refine q_iload1 C dX7_meets_1 ?_
  refine p_X7_119 C  dX7_meets_2 ?_
  refine q_aload0 C dX7_meets_5 ?_
  refine g_X7_7 C dX7_meets_6 ?_
  refine q_iload1 C dX7_meets_9 ?_
  refine q_dup2 C dX7_meets_10 rfl rfl ?_
  refine q_ialdX (j := (u1).toNatClampNeg) C rfl rfl (by first | assumption | exact wi7_in (by assumption) (by decide) | (simp only [gI_sI, gI_sJ, gI_ite]; simp; assumption) | (simp [gI_sI, gI_sJ, gI_ite]; assumption)) dX7_meets_11 ?_
  refine q_iconst (v := 1) C dX7_meets_12 (by decide) ?_
  refine q_iadd C dX7_meets_13 ?_
  refine q_iastX (j := (u1).toNatClampNeg) C rfl rfl (by first | assumption | exact wi7_in (by assumption) (by decide) | (simp only [gI_sI, gI_sJ, gI_ite]; simp; assumption) | (simp [gI_sI, gI_sJ, gI_ite]; assumption)) dX7_meets_14 ?_
  refine q_bipush (v := -3) C dX7_meets_15 (by decide) ?_
  exact q_iret C (by first | (rw [f_X7_meets]; done) | rfl) (by first | (rw [f_X7_meets]; done) | rfl) dX7_meets_17
def f_X7_tell (M : Mm) (u1 : Int64) (u2 : Int32) : Int32 × Mm := (u2, (sJ M 44 2 u1))
set_option maxHeartbeats 4000000 in
set_option maxRecDepth 100000 in
theorem c_X7_tell (M : Mm) (u1 : Int64) (u2 : Int32)  : MI yX7_tell cX7_tell 4 (some .int) 0 0 (fun a => [.ref (a 44), .long u1, .int u2]) M (f_X7_tell M u1 u2).1 (f_X7_tell M u1 u2).2 := by
  refine MI.intro (lv0 := fun a => [some (.ref (a 44)), some (.long u1), none, some (.int u2)]) (by decide) (fun a => ⟨(Nat.le_of_ble_eq_true rfl), rfl⟩) ?_
  intro p9 l9 e9 s9 m9 g9 b9 h9 c9 D9 A9 ct a C
  have C : Cx p9 s9 m9 g9 h9 c9 cX7_tell 4 RX7 (some .int) D9 A9 ct a := C
  refine q_aload0 C dX7_tell_0 ?_
  refine q_lload1 C dX7_tell_1 ?_
  refine p_X7_122 C  dX7_tell_2 ?_
  refine q_iload3 C dX7_tell_5 ?_
  exact q_iret C (by first | (rw [f_X7_tell]; done) | rfl) (by first | (rw [f_X7_tell]; done) | rfl) dX7_tell_6
