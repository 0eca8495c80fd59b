/-! making: KilnLine$Prices -/
def F_X4 (ct : Nat → ClassId) (h0 : Nat) (r : Nat → Nat) : va_W := [(h0, .inr (4, [.ref (r 0), .ref (r 1), .ref (r 9), .ref (r 10), .int (0)])),
  (r 0, .inl (ct 2, 7, .inl (fun _ => 0))),
  (r 1, .inl (ct 3, 7, .inr (.inr (.inr (.inr (fun i => if i < 7 then some (r (2 + i)) else none)))))),
  (r 2, .inl (ct 0, 24, .inl (fun _ => 0))),
  (r 3, .inl (ct 0, 24, .inl (fun _ => 0))),
  (r 4, .inl (ct 0, 24, .inl (fun _ => 0))),
  (r 5, .inl (ct 0, 24, .inl (fun _ => 0))),
  (r 6, .inl (ct 0, 24, .inl (fun _ => 0))),
  (r 7, .inl (ct 0, 24, .inl (fun _ => 0))),
  (r 8, .inl (ct 0, 24, .inl (fun _ => 0))),
  (r 9, .inl (ct 0, 24, .inl (fun _ => 0))),
  (r 10, .inl (ct 1, 25, .inr (.inl (fun _ => 0))))]
set_option maxHeartbeats 8000000 in
set_option maxRecDepth 100000 in
theorem mc_X4 : MC yX4_init cX4_init 1 1 12 11 231 [] (fun _ => .inr (4, [.null, .null, .null, .null, .int 0])) F_X4 := by
  refine MC.intro (lv0 := fun h0 => [some (.ref h0)]) (by decide) (fun h0 => ⟨(Nat.le_of_ble_eq_true rfl), rfl⟩) ?_
  intro p l e s m args below meth c D A ct h0 C hi
  have C : Bx p s m args meth c cX4_init 1 RX4 none D A ct := C
  refine b_aload0 C dX4_init_0 ?_
  refine b_obj C wo_X4 wo_i wo_c ⟨(Nat.le_of_ble_eq_true rfl), (Nat.le_of_ble_eq_true rfl)⟩ dX4_init_1 ?_
  refine b_aload0 C dX4_init_4 ?_
  refine b_bipush (v := 7) C dX4_init_5 (by decide) ?_
  refine b_newa (t := 2) (ty := .boolean) (z := .inl (fun _ => 0)) (N' := 7) C rfl rfl (fun _ _ h => h) wa_boolean (fun _ => rfl) (by decide) (by decide) (by decide) (Nat.le_of_ble_eq_true rfl) (Nat.le_of_ble_eq_true rfl) dX4_init_7 (fun q0 => ?_)
  refine b_to (ws' := [(h0, .inr (4, [.null, .null, .null, .null, .int 0])), (q0, .inl (ct 2, 7, .inl (fun _ => 0)))]) rfl ?_
  refine b_putF (q0 := 0) (j := 0) (ty := .array .boolean) (ws' := [(h0, .inr (4, [.ref q0, .null, .null, .null, .int 0])), (q0, .inl (ct 2, 7, .inl (fun _ => 0)))]) C hi rfl rfl rfl (by decide) iw_X4 tyX4_ok nmX4 wf_X4_9 rfl (by decide +kernel) rfl rfl (Nat.le_of_ble_eq_true rfl) dX4_init_9 rfl ?_
  refine b_aload0 C dX4_init_12 ?_
  refine b_bipush (v := 7) C dX4_init_13 (by decide) ?_
  refine b_bipush (v := 24) C dX4_init_15 (by decide) ?_
  refine b_mna (N' := 7) (K' := 24) C wc_X4_15 wa_int (by decide) (by decide) (by decide) (by decide) (by decide) (by decide) (by decide) (Nat.le_of_ble_eq_true rfl) (Nat.le_of_ble_eq_true rfl) dX4_init_17 (fun q1 r1 => ?_)
  refine b_to (ws' := [(h0, .inr (4, [.ref q0, .null, .null, .null, .int 0])), (q0, .inl (ct 2, 7, .inl (fun _ => 0))), (q1, .inl (ct 3, 7, .inr (.inr (.inr (.inr (fun i => if i < 7 then some (r1 i) else none)))))), ((r1 0), .inl (ct 0, 24, .inl (fun _ => 0))), ((r1 1), .inl (ct 0, 24, .inl (fun _ => 0))), ((r1 2), .inl (ct 0, 24, .inl (fun _ => 0))), ((r1 3), .inl (ct 0, 24, .inl (fun _ => 0))), ((r1 4), .inl (ct 0, 24, .inl (fun _ => 0))), ((r1 5), .inl (ct 0, 24, .inl (fun _ => 0))), ((r1 6), .inl (ct 0, 24, .inl (fun _ => 0)))]) rfl ?_
  refine b_putF (q0 := 0) (j := 1) (ty := .array (.array .int)) (ws' := [(h0, .inr (4, [.ref q0, .ref q1, .null, .null, .int 0])), (q0, .inl (ct 2, 7, .inl (fun _ => 0))), (q1, .inl (ct 3, 7, .inr (.inr (.inr (.inr (fun i => if i < 7 then some (r1 i) else none)))))), ((r1 0), .inl (ct 0, 24, .inl (fun _ => 0))), ((r1 1), .inl (ct 0, 24, .inl (fun _ => 0))), ((r1 2), .inl (ct 0, 24, .inl (fun _ => 0))), ((r1 3), .inl (ct 0, 24, .inl (fun _ => 0))), ((r1 4), .inl (ct 0, 24, .inl (fun _ => 0))), ((r1 5), .inl (ct 0, 24, .inl (fun _ => 0))), ((r1 6), .inl (ct 0, 24, .inl (fun _ => 0)))]) C hi rfl rfl rfl (by decide) iw_X4 tyX4_ok nmX4 wf_X4_17 rfl (by decide +kernel) rfl rfl (Nat.le_of_ble_eq_true rfl) dX4_init_21 rfl ?_
  refine b_aload0 C dX4_init_24 ?_
  refine b_bipush (v := 24) C dX4_init_25 (by decide) ?_
  refine b_newa (t := 0) (ty := .int) (z := .inl (fun _ => 0)) (N' := 24) C rfl rfl (fun _ _ h => h) wa_int (fun _ => rfl) (by decide) (by decide) (by decide) (Nat.le_of_ble_eq_true rfl) (Nat.le_of_ble_eq_true rfl) dX4_init_27 (fun q2 => ?_)
  refine b_to (ws' := [(h0, .inr (4, [.ref q0, .ref q1, .null, .null, .int 0])), (q0, .inl (ct 2, 7, .inl (fun _ => 0))), (q1, .inl (ct 3, 7, .inr (.inr (.inr (.inr (fun i => if i < 7 then some (r1 i) else none)))))), ((r1 0), .inl (ct 0, 24, .inl (fun _ => 0))), ((r1 1), .inl (ct 0, 24, .inl (fun _ => 0))), ((r1 2), .inl (ct 0, 24, .inl (fun _ => 0))), ((r1 3), .inl (ct 0, 24, .inl (fun _ => 0))), ((r1 4), .inl (ct 0, 24, .inl (fun _ => 0))), ((r1 5), .inl (ct 0, 24, .inl (fun _ => 0))), ((r1 6), .inl (ct 0, 24, .inl (fun _ => 0))), (q2, .inl (ct 0, 24, .inl (fun _ => 0)))]) rfl ?_
  refine b_putF (q0 := 0) (j := 2) (ty := .array .int) (ws' := [(h0, .inr (4, [.ref q0, .ref q1, .ref q2, .null, .int 0])), (q0, .inl (ct 2, 7, .inl (fun _ => 0))), (q1, .inl (ct 3, 7, .inr (.inr (.inr (.inr (fun i => if i < 7 then some (r1 i) else none)))))), ((r1 0), .inl (ct 0, 24, .inl (fun _ => 0))), ((r1 1), .inl (ct 0, 24, .inl (fun _ => 0))), ((r1 2), .inl (ct 0, 24, .inl (fun _ => 0))), ((r1 3), .inl (ct 0, 24, .inl (fun _ => 0))), ((r1 4), .inl (ct 0, 24, .inl (fun _ => 0))), ((r1 5), .inl (ct 0, 24, .inl (fun _ => 0))), ((r1 6), .inl (ct 0, 24, .inl (fun _ => 0))), (q2, .inl (ct 0, 24, .inl (fun _ => 0)))]) C hi rfl rfl rfl (by decide) iw_X4 tyX4_ok nmX4 wf_X4_20 rfl (by decide +kernel) rfl rfl (Nat.le_of_ble_eq_true rfl) dX4_init_29 rfl ?_
  refine b_aload0 C dX4_init_32 ?_
  refine b_bipush (v := 25) C dX4_init_33 (by decide) ?_
  refine b_newa (t := 1) (ty := .long) (z := .inr (.inl (fun _ => 0))) (N' := 25) C rfl rfl (fun _ _ h => h) wa_long (fun _ => rfl) (by decide) (by decide) (by decide) (Nat.le_of_ble_eq_true rfl) (Nat.le_of_ble_eq_true rfl) dX4_init_35 (fun q3 => ?_)
  refine b_to (ws' := [(h0, .inr (4, [.ref q0, .ref q1, .ref q2, .null, .int 0])), (q0, .inl (ct 2, 7, .inl (fun _ => 0))), (q1, .inl (ct 3, 7, .inr (.inr (.inr (.inr (fun i => if i < 7 then some (r1 i) else none)))))), ((r1 0), .inl (ct 0, 24, .inl (fun _ => 0))), ((r1 1), .inl (ct 0, 24, .inl (fun _ => 0))), ((r1 2), .inl (ct 0, 24, .inl (fun _ => 0))), ((r1 3), .inl (ct 0, 24, .inl (fun _ => 0))), ((r1 4), .inl (ct 0, 24, .inl (fun _ => 0))), ((r1 5), .inl (ct 0, 24, .inl (fun _ => 0))), ((r1 6), .inl (ct 0, 24, .inl (fun _ => 0))), (q2, .inl (ct 0, 24, .inl (fun _ => 0))), (q3, .inl (ct 1, 25, .inr (.inl (fun _ => 0))))]) rfl ?_
  refine b_putF (q0 := 0) (j := 3) (ty := .array .long) (ws' := [(h0, .inr (4, [.ref q0, .ref q1, .ref q2, .ref q3, .int 0])), (q0, .inl (ct 2, 7, .inl (fun _ => 0))), (q1, .inl (ct 3, 7, .inr (.inr (.inr (.inr (fun i => if i < 7 then some (r1 i) else none)))))), ((r1 0), .inl (ct 0, 24, .inl (fun _ => 0))), ((r1 1), .inl (ct 0, 24, .inl (fun _ => 0))), ((r1 2), .inl (ct 0, 24, .inl (fun _ => 0))), ((r1 3), .inl (ct 0, 24, .inl (fun _ => 0))), ((r1 4), .inl (ct 0, 24, .inl (fun _ => 0))), ((r1 5), .inl (ct 0, 24, .inl (fun _ => 0))), ((r1 6), .inl (ct 0, 24, .inl (fun _ => 0))), (q2, .inl (ct 0, 24, .inl (fun _ => 0))), (q3, .inl (ct 1, 25, .inr (.inl (fun _ => 0))))]) C hi rfl rfl rfl (by decide) iw_X4 tyX4_ok nmX4 wf_X4_24 rfl (by decide +kernel) rfl rfl (Nat.le_of_ble_eq_true rfl) dX4_init_37 rfl ?_
  refine b_aload0 C dX4_init_40 ?_
  refine b_iconst (v := 0) C dX4_init_41 (by decide) ?_
  refine b_put (q0 := 0) (j := 4) (ty := .int) (ws' := [(h0, .inr (4, [.ref q0, .ref q1, .ref q2, .ref q3, .int (0)])), (q0, .inl (ct 2, 7, .inl (fun _ => 0))), (q1, .inl (ct 3, 7, .inr (.inr (.inr (.inr (fun i => if i < 7 then some (r1 i) else none)))))), ((r1 0), .inl (ct 0, 24, .inl (fun _ => 0))), ((r1 1), .inl (ct 0, 24, .inl (fun _ => 0))), ((r1 2), .inl (ct 0, 24, .inl (fun _ => 0))), ((r1 3), .inl (ct 0, 24, .inl (fun _ => 0))), ((r1 4), .inl (ct 0, 24, .inl (fun _ => 0))), ((r1 5), .inl (ct 0, 24, .inl (fun _ => 0))), ((r1 6), .inl (ct 0, 24, .inl (fun _ => 0))), (q2, .inl (ct 0, 24, .inl (fun _ => 0))), (q3, .inl (ct 1, 25, .inr (.inl (fun _ => 0))))]) C rfl rfl (by decide) iw_X4 tyX4_ok nmX4 wf_X4_28 rfl (by decide +kernel) rfl rfl (Nat.le_of_ble_eq_true rfl) dX4_init_42 rfl ?_
  have er2 : (fun i => if i < 7 then some (r1 i) else none) = (fun i => if i < 7 then some ([q0, q1, (r1 0), (r1 1), (r1 2), (r1 3), (r1 4), (r1 5), (r1 6), q2, q3].getD (2 + i) 0) else none) := by
    funext i
    by_cases h : i < 7
    · rcases (show i = 0 ∨ i = 1 ∨ i = 2 ∨ i = 3 ∨ i = 4 ∨ i = 5 ∨ i = 6 by omega) with rfl | rfl | rfl | rfl | rfl | rfl | rfl <;> rfl
    · rw [if_neg h, if_neg h]
  refine b_to (ws' := [(h0, .inr (4, [.ref q0, .ref q1, .ref q2, .ref q3, .int (0)])), (q0, .inl (ct 2, 7, .inl (fun _ => 0))), (q1, .inl (ct 3, 7, .inr (.inr (.inr (.inr (fun i => if i < 7 then some ([q0, q1, (r1 0), (r1 1), (r1 2), (r1 3), (r1 4), (r1 5), (r1 6), q2, q3].getD (2 + i) 0) else none)))))), ((r1 0), .inl (ct 0, 24, .inl (fun _ => 0))), ((r1 1), .inl (ct 0, 24, .inl (fun _ => 0))), ((r1 2), .inl (ct 0, 24, .inl (fun _ => 0))), ((r1 3), .inl (ct 0, 24, .inl (fun _ => 0))), ((r1 4), .inl (ct 0, 24, .inl (fun _ => 0))), ((r1 5), .inl (ct 0, 24, .inl (fun _ => 0))), ((r1 6), .inl (ct 0, 24, .inl (fun _ => 0))), (q2, .inl (ct 0, 24, .inl (fun _ => 0))), (q3, .inl (ct 1, 25, .inr (.inl (fun _ => 0))))]) (by rw [er2]) ?_
  exact b_ret C (fun k => [q0, q1, (r1 0), (r1 1), (r1 2), (r1 3), (r1 4), (r1 5), (r1 6), q2, q3].getD k 0) rfl dX4_init_45
