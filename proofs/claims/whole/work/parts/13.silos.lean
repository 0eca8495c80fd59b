def f_X5_tonsIn (M : Mm) (u1 : Int32) : Int32 := (gI M 28 (u1).toNatClampNeg)
set_option maxHeartbeats 4000000 in
set_option maxRecDepth 100000 in
theorem c_X5_tonsIn (M : Mm) (u1 : Int32) (h1 : vp_in u1 3) : MI yX5_tonsIn cX5_tonsIn 2 (some .int) 0 0 (fun a => [.ref (a 4), .int u1]) M (f_X5_tonsIn M u1) M := by
  refine MI.intro (lv0 := fun a => [some (.ref (a 4)), some (.int u1)]) (by decide) (fun a => ⟨(Nat.le_of_ble_eq_true rfl), rfl⟩) ?_
  intro p9 l9 e9 s9 m9 g9 b9 h9 c9 D9 A9 ct a C
  have C : Cx p9 s9 m9 g9 h9 c9 cX5_tonsIn 2 RX5 (some .int) D9 A9 ct a := C
  refine q_aload0 C dX5_tonsIn_0 ?_
  refine g_X5_18 C dX5_tonsIn_1 ?_
  refine q_iload1 C dX5_tonsIn_4 ?_
  refine q_ialdX (j := (u1).toNatClampNeg) C rfl rfl (by first | assumption | (simp only [gI_sI, gI_sJ, gI_ite]; simp; assumption) | (simp [gI_sI, gI_sJ, gI_ite]; assumption)) dX5_tonsIn_5 ?_
  exact q_iret C (by first | (rw [f_X5_tonsIn]; done) | rfl) rfl dX5_tonsIn_6
def f_X5_lotsIn (M : Mm) (u1 : Int32) : Int32 := (gI M 29 (u1).toNatClampNeg)
set_option maxHeartbeats 4000000 in
set_option maxRecDepth 100000 in
theorem c_X5_lotsIn (M : Mm) (u1 : Int32) (h1 : vp_in u1 3) : MI yX5_lotsIn cX5_lotsIn 2 (some .int) 0 0 (fun a => [.ref (a 4), .int u1]) M (f_X5_lotsIn M u1) M := by
  refine MI.intro (lv0 := fun a => [some (.ref (a 4)), some (.int u1)]) (by decide) (fun a => ⟨(Nat.le_of_ble_eq_true rfl), rfl⟩) ?_
  intro p9 l9 e9 s9 m9 g9 b9 h9 c9 D9 A9 ct a C
  have C : Cx p9 s9 m9 g9 h9 c9 cX5_lotsIn 2 RX5 (some .int) D9 A9 ct a := C
  refine q_aload0 C dX5_lotsIn_0 ?_
  refine g_X5_21 C dX5_lotsIn_1 ?_
  refine q_iload1 C dX5_lotsIn_4 ?_
  refine q_ialdX (j := (u1).toNatClampNeg) C rfl rfl (by first | assumption | (simp only [gI_sI, gI_sJ, gI_ite]; simp; assumption) | (simp [gI_sI, gI_sJ, gI_ite]; assumption)) dX5_lotsIn_5 ?_
  exact q_iret C (by first | (rw [f_X5_lotsIn]; done) | rfl) rfl dX5_lotsIn_6
def f_X5_lotsInBag (M : Mm)  : Int32 := (gI M 4 6)
set_option maxHeartbeats 4000000 in
set_option maxRecDepth 100000 in
theorem c_X5_lotsInBag (M : Mm)   : MI yX5_lotsInBag cX5_lotsInBag 1 (some .int) 0 0 (fun a => [.ref (a 4)]) M (f_X5_lotsInBag M) M := by
  refine MI.intro (lv0 := fun a => [some (.ref (a 4))]) (by decide) (fun a => ⟨(Nat.le_of_ble_eq_true rfl), rfl⟩) ?_
  intro p9 l9 e9 s9 m9 g9 b9 h9 c9 D9 A9 ct a C
  have C : Cx p9 s9 m9 g9 h9 c9 cX5_lotsInBag 1 RX5 (some .int) D9 A9 ct a := C
  refine q_aload0 C dX5_lotsInBag_0 ?_
  refine g_X5_30 C dX5_lotsInBag_1 ?_
  exact q_iret C (by first | (rw [f_X5_lotsInBag]; done) | rfl) rfl dX5_lotsInBag_4
def f_X5_stepInBag (M : Mm) (u1 : Int32) : Int32 := (gI M 30 (u1).toNatClampNeg)
set_option maxHeartbeats 4000000 in
set_option maxRecDepth 100000 in
theorem c_X5_stepInBag (M : Mm) (u1 : Int32) (h1 : vp_in u1 500) : MI yX5_stepInBag cX5_stepInBag 2 (some .int) 0 0 (fun a => [.ref (a 4), .int u1]) M (f_X5_stepInBag M u1) M := by
  refine MI.intro (lv0 := fun a => [some (.ref (a 4)), some (.int u1)]) (by decide) (fun a => ⟨(Nat.le_of_ble_eq_true rfl), rfl⟩) ?_
  intro p9 l9 e9 s9 m9 g9 b9 h9 c9 D9 A9 ct a C
  have C : Cx p9 s9 m9 g9 h9 c9 cX5_stepInBag 2 RX5 (some .int) D9 A9 ct a := C
  refine q_aload0 C dX5_stepInBag_0 ?_
  refine g_X5_24 C dX5_stepInBag_1 ?_
  refine q_iload1 C dX5_stepInBag_4 ?_
  refine q_ialdX (j := (u1).toNatClampNeg) C rfl rfl (by first | assumption | (simp only [gI_sI, gI_sJ, gI_ite]; simp; assumption) | (simp [gI_sI, gI_sJ, gI_ite]; assumption)) dX5_stepInBag_5 ?_
  exact q_iret C (by first | (rw [f_X5_stepInBag]; done) | rfl) rfl dX5_stepInBag_6
def f_X5_tonsInBag (M : Mm) (u1 : Int32) : Int32 := (gI M 31 (u1).toNatClampNeg)
set_option maxHeartbeats 4000000 in
set_option maxRecDepth 100000 in
theorem c_X5_tonsInBag (M : Mm) (u1 : Int32) (h1 : vp_in u1 500) : MI yX5_tonsInBag cX5_tonsInBag 2 (some .int) 0 0 (fun a => [.ref (a 4), .int u1]) M (f_X5_tonsInBag M u1) M := by
  refine MI.intro (lv0 := fun a => [some (.ref (a 4)), some (.int u1)]) (by decide) (fun a => ⟨(Nat.le_of_ble_eq_true rfl), rfl⟩) ?_
  intro p9 l9 e9 s9 m9 g9 b9 h9 c9 D9 A9 ct a C
  have C : Cx p9 s9 m9 g9 h9 c9 cX5_tonsInBag 2 RX5 (some .int) D9 A9 ct a := C
  refine q_aload0 C dX5_tonsInBag_0 ?_
  refine g_X5_27 C dX5_tonsInBag_1 ?_
  refine q_iload1 C dX5_tonsInBag_4 ?_
  refine q_ialdX (j := (u1).toNatClampNeg) C rfl rfl (by first | assumption | (simp only [gI_sI, gI_sJ, gI_ite]; simp; assumption) | (simp [gI_sI, gI_sJ, gI_ite]; assumption)) dX5_tonsInBag_5 ?_
  exact q_iret C (by first | (rw [f_X5_tonsInBag]; done) | rfl) rfl dX5_tonsInBag_6
def m_X5_store_1 (M : Mm) (u1 : Int32) (u2 : Int32) (u3 : Int32) : Mm := (sI (sI (sI M 26 (u1).toNatClampNeg u2) 27 (u1).toNatClampNeg u3) 28 (u2).toNatClampNeg ((gI (sI (sI M 26 (u1).toNatClampNeg u2) 27 (u1).toNatClampNeg u3) 28 (u2).toNatClampNeg) + u3))
def f_X5_store (M : Mm) (u1 : Int32) (u2 : Int32) (u3 : Int32) : Mm := (sI (m_X5_store_1 M u1 u2 u3) 29 (u2).toNatClampNeg ((gI (m_X5_store_1 M u1 u2 u3) 29 (u2).toNatClampNeg) + (1 : Int32)))
set_option maxHeartbeats 4000000 in
set_option maxRecDepth 100000 in
theorem c_X5_store (M : Mm) (u1 : Int32) (u2 : Int32) (u3 : Int32) (h1 : vp_in u1 500) (h2 : vp_in u2 3) : MV yX5_store cX5_store 4 none 0 0 (fun a => [.ref (a 4), .int u1, .int u2, .int u3]) M (f_X5_store M u1 u2 u3) := by
  refine MV.intro (lv0 := fun a => [some (.ref (a 4)), some (.int u1), some (.int u2), some (.int u3)]) (by decide) (fun a => ⟨(Nat.le_of_ble_eq_true rfl), rfl⟩) ?_
  intro p9 l9 e9 s9 m9 g9 b9 h9 c9 D9 A9 ct a C
  have C : Cx p9 s9 m9 g9 h9 c9 cX5_store 4 RX5 none D9 A9 ct a := C
  refine q_aload0 C dX5_store_0 ?_
  refine g_X5_9 C dX5_store_1 ?_
  refine q_iload1 C dX5_store_4 ?_
  refine q_iload2 C dX5_store_5 ?_
  refine q_iastX (j := (u1).toNatClampNeg) C rfl rfl (by first | assumption | (simp only [gI_sI, gI_sJ, gI_ite]; simp; assumption) | (simp [gI_sI, gI_sJ, gI_ite]; assumption)) dX5_store_6 ?_
  refine q_aload0 C dX5_store_7 ?_
  refine g_X5_15 C dX5_store_8 ?_
  refine q_iload1 C dX5_store_11 ?_
  refine q_iload3 C dX5_store_12 ?_
  refine q_iastX (j := (u1).toNatClampNeg) C rfl rfl (by first | assumption | (simp only [gI_sI, gI_sJ, gI_ite]; simp; assumption) | (simp [gI_sI, gI_sJ, gI_ite]; assumption)) dX5_store_13 ?_
  refine q_aload0 C dX5_store_14 ?_
  refine g_X5_18 C dX5_store_15 ?_
  refine q_iload2 C dX5_store_18 ?_
  refine q_dup2 C dX5_store_19 rfl rfl ?_
  refine q_ialdX (j := (u2).toNatClampNeg) C rfl rfl (by first | assumption | (simp only [gI_sI, gI_sJ, gI_ite]; simp; assumption) | (simp [gI_sI, gI_sJ, gI_ite]; assumption)) dX5_store_20 ?_
  refine q_iload3 C dX5_store_21 ?_
  refine q_iadd C dX5_store_22 ?_
  refine q_iastX (j := (u2).toNatClampNeg) C rfl rfl (by first | assumption | (simp only [gI_sI, gI_sJ, gI_ite]; simp; assumption) | (simp [gI_sI, gI_sJ, gI_ite]; assumption)) dX5_store_23 ?_
  refine q_cut (m_X5_store_1 M u1 u2 u3) 24 [some (.ref (a 4)), some (.int u1), some (.int u2), some (.int u3)] [] (fun hJ => hJ) ?_
  refine q_aload0 C dX5_store_24 ?_
  refine g_X5_21 C dX5_store_25 ?_
  refine q_iload2 C dX5_store_28 ?_
  refine q_dup2 C dX5_store_29 rfl rfl ?_
  refine q_ialdX (j := (u2).toNatClampNeg) C rfl rfl (by first | assumption | (simp only [m_X5_store_1, gI_sI, gI_sJ, gI_ite]; simp; assumption) | (simp [m_X5_store_1, gI_sI, gI_sJ, gI_ite]; assumption)) dX5_store_30 ?_
  refine q_iconst (v := 1) C dX5_store_31 (by decide) ?_
  refine q_iadd C dX5_store_32 ?_
  refine q_iastX (j := (u2).toNatClampNeg) C rfl rfl (by first | assumption | (simp only [m_X5_store_1, gI_sI, gI_sJ, gI_ite]; simp; assumption) | (simp [m_X5_store_1, gI_sI, gI_sJ, gI_ite]; assumption)) dX5_store_33 ?_
  exact q_vret C (by first | (rw [f_X5_store]; done) | rfl) dX5_store_34
def m_X5_takeOf_1 (M : Mm) (u1 : Int32) (u2 : Int32) : Mm := (sI (sI M 27 (u1).toNatClampNeg ((gI M 27 (u1).toNatClampNeg) - (if u2 < (gI M 27 (u1).toNatClampNeg) then u2 else (gI M 27 (u1).toNatClampNeg)))) 28 ((gI M 26 (u1).toNatClampNeg)).toNatClampNeg ((gI (sI M 27 (u1).toNatClampNeg ((gI M 27 (u1).toNatClampNeg) - (if u2 < (gI M 27 (u1).toNatClampNeg) then u2 else (gI M 27 (u1).toNatClampNeg)))) 28 ((gI M 26 (u1).toNatClampNeg)).toNatClampNeg) - (if u2 < (gI M 27 (u1).toNatClampNeg) then u2 else (gI M 27 (u1).toNatClampNeg))))
def m_X5_takeOf_2 (M : Mm) (u1 : Int32) (u2 : Int32) : Mm := (if (gI (m_X5_takeOf_1 M u1 u2) 27 (u1).toNatClampNeg) = 0 then (sI (m_X5_takeOf_1 M u1 u2) 29 ((gI M 26 (u1).toNatClampNeg)).toNatClampNeg ((gI (m_X5_takeOf_1 M u1 u2) 29 ((gI M 26 (u1).toNatClampNeg)).toNatClampNeg) - (1 : Int32))) else (m_X5_takeOf_1 M u1 u2))
def m_X5_takeOf_3 (M : Mm) (u1 : Int32) (u2 : Int32) : Mm := (sI (sI (m_X5_takeOf_2 M u1 u2) 30 ((gI (m_X5_takeOf_2 M u1 u2) 4 6)).toNatClampNeg u1) 31 ((gI (sI (m_X5_takeOf_2 M u1 u2) 30 ((gI (m_X5_takeOf_2 M u1 u2) 4 6)).toNatClampNeg u1) 4 6)).toNatClampNeg (if u2 < (gI M 27 (u1).toNatClampNeg) then u2 else (gI M 27 (u1).toNatClampNeg)))
def f_X5_takeOf (M : Mm) (u1 : Int32) (u2 : Int32) : Int32 × Mm := ((if u2 < (gI M 27 (u1).toNatClampNeg) then u2 else (gI M 27 (u1).toNatClampNeg)), (sI (m_X5_takeOf_3 M u1 u2) 4 6 ((gI (m_X5_takeOf_3 M u1 u2) 4 6) + (1 : Int32))))
theorem to_m2 (M : Mm) (u1 u2 : Int32) : gI (m_X5_takeOf_2 M u1 u2) 4 6 = gI M 4 6 := by
  unfold m_X5_takeOf_2
  split <;> rfl
theorem to_m3 {M : Mm} {u1 u2 : Int32} {j : Nat} {v : Int32} : gI (sI (m_X5_takeOf_2 M u1 u2) 30 j v) 4 6 = gI M 4 6 := to_m2 M u1 u2
set_option maxHeartbeats 4000000 in
set_option maxRecDepth 100000 in
theorem c_X5_takeOf (M : Mm) (u1 : Int32) (u2 : Int32) (h1 : vp_in u1 500) (h2 : vp_in (gI M 26 u1.toNatClampNeg) 3) (h3 : vp_in (gI M 4 6) 500) : MI yX5_takeOf cX5_takeOf 5 (some .int) 1 23 (fun a => [.ref (a 4), .int u1, .int u2]) M (f_X5_takeOf M u1 u2).1 (f_X5_takeOf M u1 u2).2 := by
  refine MI.intro (lv0 := fun a => [some (.ref (a 4)), some (.int u1), some (.int u2), none, none]) (by decide) (fun a => ⟨(Nat.le_of_ble_eq_true rfl), rfl⟩) ?_
  intro p9 l9 e9 s9 m9 g9 b9 h9 c9 D9 A9 ct a C
  have C : Cx p9 s9 m9 g9 h9 c9 cX5_takeOf 5 RX5 (some .int) D9 A9 ct a := C
  refine q_aload0 C dX5_takeOf_0 ?_
  refine g_X5_9 C dX5_takeOf_1 ?_
  refine q_iload1 C dX5_takeOf_4 ?_
  refine q_ialdX (j := (u1).toNatClampNeg) C rfl rfl (by first | assumption | (simp only [gI_sI, gI_sJ, gI_ite]; simp; assumption) | (simp [gI_sI, gI_sJ, gI_ite]; assumption)) dX5_takeOf_5 ?_
  refine q_istore3 C dX5_takeOf_6 (by decide) (by intro w h0 h; first | exact absurd rfl h0 | (cases h <;> rfl)) ?_
  refine q_aload0 C dX5_takeOf_7 ?_
  refine g_X5_15 C dX5_takeOf_8 ?_
  refine q_iload1 C dX5_takeOf_11 ?_
  refine q_ialdX (j := (u1).toNatClampNeg) C rfl rfl (by first | assumption | (simp only [gI_sI, gI_sJ, gI_ite]; simp; assumption) | (simp [gI_sI, gI_sJ, gI_ite]; assumption)) dX5_takeOf_12 ?_
  refine q_iload2 C dX5_takeOf_13 ?_
  refine qc_mmin C wm_X5_38 ws_min.1 ws_min.2.1 ws_min.2.2 ⟨(Nat.le_of_ble_eq_true rfl), (Nat.le_of_ble_eq_true rfl)⟩ ⟨Nat.zero_le _, Nat.zero_le _⟩ dX5_takeOf_14 ?_
  refine q_istore4 C dX5_takeOf_17 (by decide) (by intro w h0 h; first | exact absurd rfl h0 | (cases h <;> rfl)) ?_
  refine q_aload0 C dX5_takeOf_19 ?_
  refine g_X5_15 C dX5_takeOf_20 ?_
  refine q_iload1 C dX5_takeOf_23 ?_
  refine q_dup2 C dX5_takeOf_24 rfl rfl ?_
  refine q_ialdX (j := (u1).toNatClampNeg) C rfl rfl (by first | assumption | (simp only [gI_sI, gI_sJ, gI_ite]; simp; assumption) | (simp [gI_sI, gI_sJ, gI_ite]; assumption)) dX5_takeOf_25 ?_
  refine q_iload4 C dX5_takeOf_26 ?_
  refine q_isub C dX5_takeOf_28 ?_
  refine q_iastX (j := (u1).toNatClampNeg) C rfl rfl (by first | assumption | (simp only [gI_sI, gI_sJ, gI_ite]; simp; assumption) | (simp [gI_sI, gI_sJ, gI_ite]; assumption)) dX5_takeOf_29 ?_
  refine q_aload0 C dX5_takeOf_30 ?_
  refine g_X5_18 C dX5_takeOf_31 ?_
  refine q_iload3 C dX5_takeOf_34 ?_
  refine q_dup2 C dX5_takeOf_35 rfl rfl ?_
  refine q_ialdX (j := ((gI M 26 (u1).toNatClampNeg)).toNatClampNeg) C rfl rfl (by first | assumption | (simp only [gI_sI, gI_sJ, gI_ite]; simp; assumption) | (simp [gI_sI, gI_sJ, gI_ite]; assumption)) dX5_takeOf_36 ?_
  refine q_iload4 C dX5_takeOf_37 ?_
  refine q_isub C dX5_takeOf_39 ?_
  refine q_iastX (j := ((gI M 26 (u1).toNatClampNeg)).toNatClampNeg) C rfl rfl (by first | assumption | (simp only [gI_sI, gI_sJ, gI_ite]; simp; assumption) | (simp [gI_sI, gI_sJ, gI_ite]; assumption)) dX5_takeOf_40 ?_
  refine q_cut (m_X5_takeOf_1 M u1 u2) 41 [some (.ref (a 4)), some (.int u1), some (.int u2), some (.int (gI M 26 (u1).toNatClampNeg)), some (.int (if u2 < (gI M 27 (u1).toNatClampNeg) then u2 else (gI M 27 (u1).toNatClampNeg)))] [] (fun hJ => hJ) ?_
  refine q_aload0 C dX5_takeOf_41 ?_
  refine g_X5_15 C dX5_takeOf_42 ?_
  refine q_iload1 C dX5_takeOf_45 ?_
  refine q_ialdX (j := (u1).toNatClampNeg) C rfl rfl (by first | assumption | (simp only [m_X5_takeOf_1, gI_sI, gI_sJ, gI_ite]; simp; assumption) | (simp [m_X5_takeOf_1, gI_sI, gI_sJ, gI_ite]; assumption)) dX5_takeOf_46 ?_
  refine q_cut (if (gI (m_X5_takeOf_1 M u1 u2) 27 (u1).toNatClampNeg) = 0 then (sI (m_X5_takeOf_1 M u1 u2) 29 ((gI M 26 (u1).toNatClampNeg)).toNatClampNeg ((gI (m_X5_takeOf_1 M u1 u2) 29 ((gI M 26 (u1).toNatClampNeg)).toNatClampNeg) - (1 : Int32))) else (m_X5_takeOf_1 M u1 u2)) 60 [some (.ref (a 4)), some (.int u1), none, none, some (.int (if u2 < (gI M 27 (u1).toNatClampNeg) then u2 else (gI M 27 (u1).toNatClampNeg)))] [] (fun hJ => ?_) ?_
  · refine q_if_ne (tgt := 60) C dX5_takeOf_47 (by decide) (fun c1 => ?_) (fun c1 => ?_)
    · refine q_drop [some (.ref (a 4)), some (.int u1), none, none, some (.int (if u2 < (gI M 27 (u1).toNatClampNeg) then u2 else (gI M 27 (u1).toNatClampNeg)))] (by repeat' (first | exact trivial | rfl | constructor)) ?_
      (try simp only [if_neg c1] at hJ); exact hJ
    · refine q_aload0 C dX5_takeOf_50 ?_
      refine g_X5_21 C dX5_takeOf_51 ?_
      refine q_iload3 C dX5_takeOf_54 ?_
      refine q_dup2 C dX5_takeOf_55 rfl rfl ?_
      refine q_ialdX (j := ((gI M 26 (u1).toNatClampNeg)).toNatClampNeg) C rfl rfl (by first | assumption | (simp only [m_X5_takeOf_1, gI_sI, gI_sJ, gI_ite]; simp; assumption) | (simp [m_X5_takeOf_1, gI_sI, gI_sJ, gI_ite]; assumption)) dX5_takeOf_56 ?_
      refine q_iconst (v := 1) C dX5_takeOf_57 (by decide) ?_
      refine q_isub C dX5_takeOf_58 ?_
      refine q_iastX (j := ((gI M 26 (u1).toNatClampNeg)).toNatClampNeg) C rfl rfl (by first | assumption | (simp only [m_X5_takeOf_1, gI_sI, gI_sJ, gI_ite]; simp; assumption) | (simp [m_X5_takeOf_1, gI_sI, gI_sJ, gI_ite]; assumption)) dX5_takeOf_59 ?_
      refine q_drop [some (.ref (a 4)), some (.int u1), none, none, some (.int (if u2 < (gI M 27 (u1).toNatClampNeg) then u2 else (gI M 27 (u1).toNatClampNeg)))] (by repeat' (first | exact trivial | rfl | constructor)) ?_
      (try simp only [if_pos c1] at hJ); exact hJ
  refine q_cut (m_X5_takeOf_2 M u1 u2) 60 [some (.ref (a 4)), some (.int u1), none, none, some (.int (if u2 < (gI M 27 (u1).toNatClampNeg) then u2 else (gI M 27 (u1).toNatClampNeg)))] [] (fun hJ => hJ) ?_
  refine q_aload0 C dX5_takeOf_60 ?_
  refine g_X5_24 C dX5_takeOf_61 ?_
  refine q_aload0 C dX5_takeOf_64 ?_
  refine g_X5_30 C dX5_takeOf_65 ?_
  refine q_iload1 C dX5_takeOf_68 ?_
  refine q_iastX (j := ((gI (m_X5_takeOf_2 M u1 u2) 4 6)).toNatClampNeg) C rfl rfl (by rw [to_m2]; exact h3) dX5_takeOf_69 ?_
  refine q_aload0 C dX5_takeOf_70 ?_
  refine g_X5_27 C dX5_takeOf_71 ?_
  refine q_aload0 C dX5_takeOf_74 ?_
  refine g_X5_30 C dX5_takeOf_75 ?_
  refine q_iload4 C dX5_takeOf_78 ?_
  refine q_iastX (j := ((gI (sI (m_X5_takeOf_2 M u1 u2) 30 ((gI (m_X5_takeOf_2 M u1 u2) 4 6)).toNatClampNeg u1) 4 6)).toNatClampNeg) C rfl rfl (by rw [to_m3]; exact h3) dX5_takeOf_80 ?_
  refine q_cut (m_X5_takeOf_3 M u1 u2) 81 [some (.ref (a 4)), some (.int u1), none, none, some (.int (if u2 < (gI M 27 (u1).toNatClampNeg) then u2 else (gI M 27 (u1).toNatClampNeg)))] [] (fun hJ => hJ) ?_
  refine q_aload0 C dX5_takeOf_81 ?_
  refine q_dup C dX5_takeOf_82 rfl ?_
  refine g_X5_30 C dX5_takeOf_83 ?_
  refine q_iconst (v := 1) C dX5_takeOf_86 (by decide) ?_
  refine q_iadd C dX5_takeOf_87 ?_
  refine p_X5_30 C  dX5_takeOf_88 ?_
  refine q_iload4 C dX5_takeOf_91 ?_
  exact q_iret C (by first | (rw [f_X5_takeOf]; done) | rfl) (by first | (rw [f_X5_takeOf]; done) | rfl) dX5_takeOf_93
def b_X5_foldInto_1 (M : Mm) (i1 : Nat) (z1 : Int64) : Int64 := (f_X6_fold (f_X6_fold z1 ((gI M 28 i1)).toInt64) ((gI M 29 i1)).toInt64)
def f_X5_foldInto (M : Mm) (u1 : Int64) : Int64 := (itr (b_X5_foldInto_1 M) 3 u1)
set_option maxHeartbeats 4000000 in
set_option maxRecDepth 100000 in
theorem c_X5_foldInto (M : Mm) (u1 : Int64)  : MJ yX5_foldInto cX5_foldInto 6 (some .long) 1 23 (fun a => [.ref (a 4), .long u1]) M (f_X5_foldInto M u1) M := by
  refine MJ.intro (lv0 := fun a => [some (.ref (a 4)), some (.long u1), none, none, none, none]) (by decide) (fun a => ⟨(Nat.le_of_ble_eq_true rfl), rfl⟩) ?_
  intro p9 l9 e9 s9 m9 g9 b9 h9 c9 D9 A9 ct a C
  have C : Cx p9 s9 m9 g9 h9 c9 cX5_foldInto 6 RX5 (some .long) D9 A9 ct a := C
  refine q_lload1 C dX5_foldInto_0 ?_
  refine q_lstore3 C dX5_foldInto_1 (by decide) (by intro w h0 h; first | exact absurd rfl h0 | (cases h <;> rfl)) ?_
  refine q_iconst (v := 0) C dX5_foldInto_2 (by decide) ?_
  refine q_istore5 C dX5_foldInto_3 (by decide) (by intro w h0 h; first | exact absurd rfl h0 | (cases h <;> rfl)) ?_
  refine q_drop [some (.ref (a 4)), none, none, some (.long u1), none, some (.int (0 : Int32))] (by repeat' (first | exact trivial | rfl | constructor)) ?_
  refine q_loop 3 (b_X5_foldInto_1 M) (fun zz => M) (fun xx zz => [some (.ref (a 4)), none, none, some (.long zz), none, some (.int xx)]) u1  (fun i1 z1 hi1 ih1 => ?_) ?_
  · refine q_iload5 C dX5_foldInto_5 ?_
    refine q_iconst (v := 3) C dX5_foldInto_7 (by decide) ?_
    refine q_icmp_ge (tgt := 43) C dX5_foldInto_8 (by decide) (fun c1 => absurd c1 (nI_ge (b := 3) (by omega) (by omega))) (fun c1 => ?_)
    refine q_lload3 C dX5_foldInto_11 ?_
    refine q_aload0 C dX5_foldInto_12 ?_
    refine g_X5_18 C dX5_foldInto_13 ?_
    refine q_iload5 C dX5_foldInto_16 ?_
    refine q_ialdX (j := i1) C rfl (nI_clamp (by omega)) (vp_in_nI (by omega) (by first | decide | omega)) dX5_foldInto_18 ?_
    refine q_i2l C dX5_foldInto_19 ?_
    refine qc_NJ C (c_X6_fold _ _ _) nl_X5 ws_fold.1 ws_fold.2.1 ws_fold.2.2 hdy_fold rfl rfl (Nat.le_of_ble_eq_true rfl) ⟨(Nat.le_of_ble_eq_true rfl), (Nat.le_of_ble_eq_true rfl)⟩ ⟨Nat.zero_le _, Nat.zero_le _⟩ dX5_foldInto_20 ?_
    refine q_lstore3 C dX5_foldInto_23 (by decide) (by intro w h0 h; first | exact absurd rfl h0 | (cases h <;> rfl)) ?_
    refine q_lload3 C dX5_foldInto_24 ?_
    refine q_aload0 C dX5_foldInto_25 ?_
    refine g_X5_21 C dX5_foldInto_26 ?_
    refine q_iload5 C dX5_foldInto_29 ?_
    refine q_ialdX (j := i1) C rfl (nI_clamp (by omega)) (vp_in_nI (by omega) (by first | decide | omega)) dX5_foldInto_31 ?_
    refine q_i2l C dX5_foldInto_32 ?_
    refine qc_NJ C (c_X6_fold _ _ _) nl_X5 ws_fold.1 ws_fold.2.1 ws_fold.2.2 hdy_fold rfl rfl (Nat.le_of_ble_eq_true rfl) ⟨(Nat.le_of_ble_eq_true rfl), (Nat.le_of_ble_eq_true rfl)⟩ ⟨Nat.zero_le _, Nat.zero_le _⟩ dX5_foldInto_33 ?_
    refine q_lstore3 C dX5_foldInto_36 (by decide) (by intro w h0 h; first | exact absurd rfl h0 | (cases h <;> rfl)) ?_
    refine q_iinc5 (dv := 1) C dX5_foldInto_37 (by decide) (by decide) (by intro w h0 h; first | exact absurd rfl h0 | (cases h <;> rfl)) ?_
    refine q_goto (tgt := 5) C dX5_foldInto_40 (by decide) ?_
    exact ih1
  refine q_iload5 C dX5_foldInto_5 ?_
  refine q_iconst (v := 3) C dX5_foldInto_7 (by decide) ?_
  refine q_icmp_ge (tgt := 43) C dX5_foldInto_8 (by decide) (fun c2 => ?_) (fun c2 => absurd (Int32.le_refl _) c2)
  refine q_lload3 C dX5_foldInto_43 ?_
  exact q_lret C (by first | (rw [f_X5_foldInto]; done) | rfl) rfl dX5_foldInto_44
theorem to_bag (M : Mm) (x y : Int32) : gI (f_X5_takeOf M x y).2 4 6 = gI M 4 6 + 1 := by
  have e : gI (m_X5_takeOf_3 M x y) 4 6 = gI M 4 6 := to_m2 M x y
  show gI (m_X5_takeOf_3 M x y) 4 6 + 1 = _
  rw [e]
def b_X5_fill_1 (u1 : Int32) (i1 : Nat) (z1 : Int32 × Mm) : Int32 × Mm := (if z1.1 ≤ 0 then z1 else ((if (gI z1.2 26 i1) = u1 then (if (gI z1.2 27 i1) ≤ 0 then z1.1 else (z1.1 - (f_X5_takeOf z1.2 (nI i1) z1.1).1)) else z1.1), (if (gI z1.2 26 i1) = u1 then (if (gI z1.2 27 i1) ≤ 0 then z1.2 else (f_X5_takeOf z1.2 (nI i1) z1.1).2) else z1.2)))
def l_X5_fill_1 (u1 : Int32) (z1 : Int32 × Mm) : Int32 × Mm := itr (b_X5_fill_1 u1) 500 z1
def f_X5_fill (M : Mm) (u1 : Int32) (u2 : Int32) : Int32 × Mm := ((gI (l_X5_fill_1 u1 (u2, (sI M 4 6 (0 : Int32)))).2 4 6), (l_X5_fill_1 u1 (u2, (sI M 4 6 (0 : Int32)))).2)
theorem fl_inv {u1 : Int32} (i : Nat) (z : Int32 × Mm) (hi : i < 500) (h : ∃ b, b ≤ i ∧ gI z.2 4 6 = nI b) : ∃ b, b ≤ i + 1 ∧ gI (b_X5_fill_1 u1 i z).2 4 6 = nI b := by
  obtain ⟨b, hb, e⟩ := h
  simp only [b_X5_fill_1]
  repeat' split
  all_goals first | exact ⟨b, by omega, e⟩ | exact ⟨b + 1, by omega, by show gI (f_X5_takeOf _ _ _).2 4 6 = _; rw [to_bag, e, nI_succ]⟩
set_option maxHeartbeats 4000000 in
set_option maxRecDepth 100000 in
theorem c_X5_fill (M : Mm) (u1 : Int32) (u2 : Int32) (h1 : vp_in u1 3) : MI yX5_fill cX5_fill 5 (some .int) 2 47 (fun a => [.ref (a 4), .int u1, .int u2]) M (f_X5_fill M u1 u2).1 (f_X5_fill M u1 u2).2 := by
  refine MI.intro (lv0 := fun a => [some (.ref (a 4)), some (.int u1), some (.int u2), none, none]) (by decide) (fun a => ⟨(Nat.le_of_ble_eq_true rfl), rfl⟩) ?_
  intro p9 l9 e9 s9 m9 g9 b9 h9 c9 D9 A9 ct a C
  have C : Cx p9 s9 m9 g9 h9 c9 cX5_fill 5 RX5 (some .int) D9 A9 ct a := C
  refine q_iload2 C dX5_fill_0 ?_
  refine q_istore3 C dX5_fill_1 (by decide) (by intro w h0 h; first | exact absurd rfl h0 | (cases h <;> rfl)) ?_
  refine q_aload0 C dX5_fill_2 ?_
  refine q_iconst (v := 0) C dX5_fill_3 (by decide) ?_
  refine p_X5_30 C  dX5_fill_4 ?_
  refine q_iconst (v := 0) C dX5_fill_7 (by decide) ?_
  refine q_istore4 C dX5_fill_8 (by decide) (by intro w h0 h; first | exact absurd rfl h0 | (cases h <;> rfl)) ?_
  refine q_drop [some (.ref (a 4)), some (.int u1), none, some (.int u2), some (.int (0 : Int32))] (by repeat' (first | exact trivial | rfl | constructor)) ?_
  refine q_loopEI (fun i1 z1 => ∃ b, b ≤ i1 ∧ gI z1.2 4 6 = nI b) 500 (b_X5_fill_1 u1) (fun zz => zz.2) (fun xx zz => [some (.ref (a 4)), some (.int u1), none, some (.int zz.1), some (.int xx)]) (u2, (sI M 4 6 (0 : Int32))) ⟨0, Nat.le_refl 0, rfl⟩ fl_inv 59 (fun z1 => z1.1 ≤ 0) (fun i z h => by simp only [b_X5_fill_1, if_pos h]) (fun i1 z1 hi1 hv1 hE1 ih1 => ?_) (fun hF => ?_) (fun x9 => ?_)
  · refine q_iload4 C dX5_fill_10 ?_
    refine q_sipush (v := 500) C dX5_fill_12 (by decide) ?_
    refine q_icmp_ge (tgt := 59) C dX5_fill_15 (by decide) (fun c1 => absurd c1 (nI_ge (b := 500) (by omega) (by omega))) (fun c1 => ?_)
    refine q_iload3 C dX5_fill_18 ?_
    refine q_if_le (tgt := 59) C dX5_fill_19 (by decide) (fun c2 => ?_) (fun c2 => ?_)
    · exact hE1 c2 _
    · refine q_aload0 C dX5_fill_22 ?_
      refine g_X5_9 C dX5_fill_23 ?_
      refine q_iload4 C dX5_fill_26 ?_
      refine q_ialdX (j := i1) C rfl (nI_clamp (by omega)) (vp_in_nI (by omega) (by first | decide | omega)) dX5_fill_28 ?_
      refine q_iload1 C dX5_fill_29 ?_
      refine q_cut (if (gI z1.2 26 i1) = u1 then (if (gI z1.2 27 i1) ≤ 0 then z1.2 else (f_X5_takeOf z1.2 (nI i1) z1.1).2) else z1.2) 53 [some (.ref (a 4)), some (.int u1), none, some (.int (if (gI z1.2 26 i1) = u1 then (if (gI z1.2 27 i1) ≤ 0 then z1.1 else (z1.1 - (f_X5_takeOf z1.2 (nI i1) z1.1).1)) else z1.1)), some (.int (nI i1))] [] (fun hJ => ?_) ?_
      · refine q_icmp_ne (tgt := 53) C dX5_fill_30 (by decide) (fun c3 => ?_) (fun c3 => ?_)
        · (try simp only [if_neg c3] at hJ); exact hJ
        · refine q_aload0 C dX5_fill_33 ?_
          refine g_X5_15 C dX5_fill_34 ?_
          refine q_iload4 C dX5_fill_37 ?_
          refine q_ialdX (j := i1) C rfl (nI_clamp (by omega)) (vp_in_nI (by omega) (by first | decide | omega)) dX5_fill_39 ?_
          refine q_if_le (tgt := 53) C dX5_fill_40 (by decide) (fun c4 => ?_) (fun c4 => ?_)
          · (try simp only [if_pos c3, if_pos c4] at hJ); exact hJ
          · refine q_iload3 C dX5_fill_43 ?_
            refine q_aload0 C dX5_fill_44 ?_
            refine q_iload4 C dX5_fill_45 ?_
            refine q_iload3 C dX5_fill_47 ?_
            refine qc_VI C (c_X5_takeOf _ _ _ (vp_in_nI (by omega) (by decide)) (by rw [nI_clamp (by omega), ‹gI z1.2 26 i1 = u1›]; exact h1) (by obtain ⟨b, hb, e⟩ := hv1; rw [e]; exact vp_in_nI (by omega) (by decide))) cw_X5_34 rfl rfl rfl rfl (Nat.le_of_ble_eq_true rfl) ⟨(Nat.le_of_ble_eq_true rfl), (Nat.le_of_ble_eq_true rfl)⟩ ⟨Nat.zero_le _, Nat.zero_le _⟩ dX5_fill_48 ?_
            refine q_isub C dX5_fill_51 ?_
            refine q_istore3 C dX5_fill_52 (by decide) (by intro w h0 h; first | exact absurd rfl h0 | (cases h <;> rfl)) ?_
            (try simp only [if_pos c3, if_neg c4] at hJ); exact hJ
      refine q_iinc4 (dv := 1) C dX5_fill_53 (by decide) (by decide) (by intro w h0 h; first | exact absurd rfl h0 | (cases h <;> rfl)) ?_
      refine q_goto (tgt := 10) C dX5_fill_56 (by decide) ?_
      (have ih8 := ih1 c2); (simp only [b_X5_fill_1, if_neg c2] at ih8); exact ih8
  · refine q_cut (l_X5_fill_1 u1 (u2, (sI M 4 6 (0 : Int32)))).2 10 [some (.ref (a 4)), some (.int u1), none, some (.int (l_X5_fill_1 u1 (u2, (sI M 4 6 (0 : Int32)))).1), some (.int (nI 500))] [] (fun hJ => hJ) ?_
    refine q_iload4 C dX5_fill_10 ?_
    refine q_sipush (v := 500) C dX5_fill_12 (by decide) ?_
    refine q_icmp_ge (tgt := 59) C dX5_fill_15 (by decide) (fun c5 => ?_) (fun c5 => absurd (Int32.le_refl _) c5)
    exact hF _
  refine q_cut (l_X5_fill_1 u1 (u2, (sI M 4 6 (0 : Int32)))).2 59 [some (.ref (a 4)), some (.int u1), none, some (.int (l_X5_fill_1 u1 (u2, (sI M 4 6 (0 : Int32)))).1), some (.int x9)] [] (fun hJ => hJ) ?_
  refine q_aload0 C dX5_fill_59 ?_
  refine g_X5_30 C dX5_fill_60 ?_
  exact q_iret C (by first | (rw [f_X5_fill]; done) | rfl) (by first | (rw [f_X5_fill]; done) | rfl) dX5_fill_63
