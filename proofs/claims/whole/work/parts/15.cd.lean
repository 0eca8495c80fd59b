def b_X6_commonDivisor_1  (i1 : Nat) (z1 : Int32 × Int32) : Int32 × Int32 := (if z1.1 = 0 then z1 else ((z1.2 - z1.2 / z1.1 * z1.1), z1.1))
def l_X6_commonDivisor_1  (z1 : Int32 × Int32) : Int32 × Int32 := itr b_X6_commonDivisor_1 64 z1
def f_X6_commonDivisor (u1 : Int32) (u2 : Int32) : Int32 := (if (l_X6_commonDivisor_1 (u1, u2)).2 < (1 : Int32) then (1 : Int32) else (l_X6_commonDivisor_1 (u1, u2)).2)
set_option maxHeartbeats 4000000 in
set_option maxRecDepth 100000 in
theorem c_X6_commonDivisor (M : Mm) (u1 : Int32) (u2 : Int32)  : MI yX6_commonDivisor cX6_commonDivisor 6 (some .int) 1 23 (fun a => [.int u1, .int u2]) M (f_X6_commonDivisor u1 u2) M := by
  refine MI.intro (lv0 := fun a => [some (.int u1), some (.int u2), none, none, none, none]) (by decide) (fun a => ⟨(Nat.le_of_ble_eq_true rfl), rfl⟩) ?_
  intro p9 l9 e9 s9 m9 g9 b9 h9 c9 D9 A9 ct a C
  have C : Cx p9 s9 m9 g9 h9 c9 cX6_commonDivisor 6 RX6 (some .int) D9 A9 ct a := C
  refine q_iload0 C dX6_commonDivisor_0 ?_
  refine q_istore2 C dX6_commonDivisor_1 (by decide) (by intro w h0 h; first | exact absurd rfl h0 | (cases h <;> rfl)) ?_
  refine q_iload1 C dX6_commonDivisor_2 ?_
  refine q_istore3 C dX6_commonDivisor_3 (by decide) (by intro w h0 h; first | exact absurd rfl h0 | (cases h <;> rfl)) ?_
  refine q_iconst (v := 0) C dX6_commonDivisor_4 (by decide) ?_
  refine q_istore4 C dX6_commonDivisor_5 (by decide) (by intro w h0 h; first | exact absurd rfl h0 | (cases h <;> rfl)) ?_
  refine q_drop [none, none, some (.int u1), some (.int u2), some (.int (0 : Int32)), none] (by repeat' (first | exact trivial | rfl | constructor)) ?_
  refine q_loopE 64 b_X6_commonDivisor_1 (fun zz => M) (fun xx zz => [none, none, some (.int zz.1), some (.int zz.2), some (.int xx), none]) (u1, u2) 34 (fun z1 => z1.1 = 0) (fun i z h => by simp only [b_X6_commonDivisor_1, if_pos h]) (fun i1 z1 hi1 hE1 ih1 => ?_) (fun hF => ?_) (fun x9 => ?_)
  · refine q_iload4 C dX6_commonDivisor_7 ?_
    refine q_bipush (v := 64) C dX6_commonDivisor_9 (by decide) ?_
    refine q_icmp_ge (tgt := 34) C dX6_commonDivisor_11 (by decide) (fun c1 => absurd c1 (nI_ge (b := 64) (by omega) (by omega))) (fun c1 => ?_)
    refine q_iload2 C dX6_commonDivisor_14 ?_
    refine q_if_eq (tgt := 34) C dX6_commonDivisor_15 (by decide) (fun c2 => ?_) (fun c2 => ?_)
    · exact hE1 c2 _
    · refine q_iload3 C dX6_commonDivisor_18 ?_
      refine q_iload2 C dX6_commonDivisor_19 ?_
      refine q_irem C dX6_commonDivisor_20 (by first | decide | assumption | (apply i64ne; assumption)) ?_
      refine q_istore5 C dX6_commonDivisor_21 (by decide) (by intro w h0 h; first | exact absurd rfl h0 | (cases h <;> rfl)) ?_
      refine q_iload2 C dX6_commonDivisor_23 ?_
      refine q_istore3 C dX6_commonDivisor_24 (by decide) (by intro w h0 h; first | exact absurd rfl h0 | (cases h <;> rfl)) ?_
      refine q_iload5 C dX6_commonDivisor_25 ?_
      refine q_istore2 C dX6_commonDivisor_27 (by decide) (by intro w h0 h; first | exact absurd rfl h0 | (cases h <;> rfl)) ?_
      refine q_iinc4 (dv := 1) C dX6_commonDivisor_28 (by decide) (by decide) (by intro w h0 h; first | exact absurd rfl h0 | (cases h <;> rfl)) ?_
      refine q_goto (tgt := 7) C dX6_commonDivisor_31 (by decide) ?_
      refine q_drop [none, none, some (.int (z1.2 - z1.2 / z1.1 * z1.1)), some (.int z1.1), some (.int ((nI i1) + 1)), none] (by repeat' (first | exact trivial | rfl | constructor)) ?_
      (have ih8 := ih1 c2); (simp only [b_X6_commonDivisor_1, if_neg c2] at ih8); exact ih8
  · refine q_cut M 7 [none, none, some (.int (l_X6_commonDivisor_1 (u1, u2)).1), some (.int (l_X6_commonDivisor_1 (u1, u2)).2), some (.int (nI 64)), none] [] (fun hJ => hJ) ?_
    refine q_iload4 C dX6_commonDivisor_7 ?_
    refine q_bipush (v := 64) C dX6_commonDivisor_9 (by decide) ?_
    refine q_icmp_ge (tgt := 34) C dX6_commonDivisor_11 (by decide) (fun c3 => ?_) (fun c3 => absurd (Int32.le_refl _) c3)
    exact hF _
  refine q_cut M 34 [none, none, some (.int (l_X6_commonDivisor_1 (u1, u2)).1), some (.int (l_X6_commonDivisor_1 (u1, u2)).2), some (.int x9), none] [] (fun hJ => hJ) ?_
  refine q_iload3 C dX6_commonDivisor_34 ?_
  refine q_iconst (v := 1) C dX6_commonDivisor_35 (by decide) ?_
  refine qc_mmax C wm_X6_266 ws_max.1 ws_max.2.1 ws_max.2.2 ⟨(Nat.le_of_ble_eq_true rfl), (Nat.le_of_ble_eq_true rfl)⟩ ⟨Nat.zero_le _, Nat.zero_le _⟩ dX6_commonDivisor_36 ?_
  exact q_iret C (by first | (rw [f_X6_commonDivisor]; done) | rfl) rfl dX6_commonDivisor_39
