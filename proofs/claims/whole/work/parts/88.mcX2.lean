/-! making: KilnLine$Heap -/
def F_X2 (ct : Nat → ClassId) (h0 : Nat) (r : Nat → Nat) : va_W := [(h0, .inr (2, [.ref (r 0), .ref (r 1), .ref (r 2), .ref (r 3), .int (0)])),
  (r 0, .inl (ct 0, 10, .inl (fun _ => 0))),
  (r 1, .inl (ct 0, 10, .inl (fun _ => 0))),
  (r 2, .inl (ct 2, 10, .inl (fun _ => 0))),
  (r 3, .inl (ct 0, 30, .inl (fun _ => 0)))]
set_option maxHeartbeats 8000000 in
set_option maxRecDepth 100000 in
theorem mc_X2 : MC yX2_init cX2_init 1 1 12 4 60 [] (fun _ => .inr (2, [.null, .null, .null, .null, .int 0])) F_X2 := by
  refine MC.intro (lv0 := fun h0 => [some (.ref h0)]) (by decide) (fun h0 => ⟨(Nat.le_of_ble_eq_true rfl), rfl⟩) ?_
  intro p l e s m args below meth c D A ct h0 C hi
  have C : Bx p s m args meth c cX2_init 1 RX2 none D A ct := C
  refine b_aload0 C dX2_init_0 ?_
  refine b_obj C wo_X2 wo_i wo_c ⟨(Nat.le_of_ble_eq_true rfl), (Nat.le_of_ble_eq_true rfl)⟩ dX2_init_1 ?_
  refine b_aload0 C dX2_init_4 ?_
  refine b_bipush (v := 10) C dX2_init_5 (by decide) ?_
  refine b_newa (t := 0) (ty := .int) (z := .inl (fun _ => 0)) (N' := 10) C rfl rfl (fun _ _ h => h) wa_int (fun _ => rfl) (by decide) (by decide) (by decide) (Nat.le_of_ble_eq_true rfl) (Nat.le_of_ble_eq_true rfl) dX2_init_7 (fun q0 => ?_)
  refine b_to (ws' := [(h0, .inr (2, [.null, .null, .null, .null, .int 0])), (q0, .inl (ct 0, 10, .inl (fun _ => 0)))]) rfl ?_
  refine b_putF (q0 := 0) (j := 0) (ty := .array .int) (ws' := [(h0, .inr (2, [.ref q0, .null, .null, .null, .int 0])), (q0, .inl (ct 0, 10, .inl (fun _ => 0)))]) C hi rfl rfl rfl (by decide) iw_X2 tyX2_ok nmX2 wf_X2_9 rfl (by decide +kernel) rfl rfl (Nat.le_of_ble_eq_true rfl) dX2_init_9 rfl ?_
  refine b_aload0 C dX2_init_12 ?_
  refine b_bipush (v := 10) C dX2_init_13 (by decide) ?_
  refine b_newa (t := 0) (ty := .int) (z := .inl (fun _ => 0)) (N' := 10) C rfl rfl (fun _ _ h => h) wa_int (fun _ => rfl) (by decide) (by decide) (by decide) (Nat.le_of_ble_eq_true rfl) (Nat.le_of_ble_eq_true rfl) dX2_init_15 (fun q1 => ?_)
  refine b_to (ws' := [(h0, .inr (2, [.ref q0, .null, .null, .null, .int 0])), (q0, .inl (ct 0, 10, .inl (fun _ => 0))), (q1, .inl (ct 0, 10, .inl (fun _ => 0)))]) rfl ?_
  refine b_putF (q0 := 0) (j := 1) (ty := .array .int) (ws' := [(h0, .inr (2, [.ref q0, .ref q1, .null, .null, .int 0])), (q0, .inl (ct 0, 10, .inl (fun _ => 0))), (q1, .inl (ct 0, 10, .inl (fun _ => 0)))]) C hi rfl rfl rfl (by decide) iw_X2 tyX2_ok nmX2 wf_X2_15 rfl (by decide +kernel) rfl rfl (Nat.le_of_ble_eq_true rfl) dX2_init_17 rfl ?_
  refine b_aload0 C dX2_init_20 ?_
  refine b_bipush (v := 10) C dX2_init_21 (by decide) ?_
  refine b_newa (t := 2) (ty := .boolean) (z := .inl (fun _ => 0)) (N' := 10) C rfl rfl (fun _ _ h => h) wa_boolean (fun _ => rfl) (by decide) (by decide) (by decide) (Nat.le_of_ble_eq_true rfl) (Nat.le_of_ble_eq_true rfl) dX2_init_23 (fun q2 => ?_)
  refine b_to (ws' := [(h0, .inr (2, [.ref q0, .ref q1, .null, .null, .int 0])), (q0, .inl (ct 0, 10, .inl (fun _ => 0))), (q1, .inl (ct 0, 10, .inl (fun _ => 0))), (q2, .inl (ct 2, 10, .inl (fun _ => 0)))]) rfl ?_
  refine b_putF (q0 := 0) (j := 2) (ty := .array .boolean) (ws' := [(h0, .inr (2, [.ref q0, .ref q1, .ref q2, .null, .int 0])), (q0, .inl (ct 0, 10, .inl (fun _ => 0))), (q1, .inl (ct 0, 10, .inl (fun _ => 0))), (q2, .inl (ct 2, 10, .inl (fun _ => 0)))]) C hi rfl rfl rfl (by decide) iw_X2 tyX2_ok nmX2 wf_X2_18 rfl (by decide +kernel) rfl rfl (Nat.le_of_ble_eq_true rfl) dX2_init_25 rfl ?_
  refine b_aload0 C dX2_init_28 ?_
  refine b_bipush (v := 30) C dX2_init_29 (by decide) ?_
  refine b_newa (t := 0) (ty := .int) (z := .inl (fun _ => 0)) (N' := 30) C rfl rfl (fun _ _ h => h) wa_int (fun _ => rfl) (by decide) (by decide) (by decide) (Nat.le_of_ble_eq_true rfl) (Nat.le_of_ble_eq_true rfl) dX2_init_31 (fun q3 => ?_)
  refine b_to (ws' := [(h0, .inr (2, [.ref q0, .ref q1, .ref q2, .null, .int 0])), (q0, .inl (ct 0, 10, .inl (fun _ => 0))), (q1, .inl (ct 0, 10, .inl (fun _ => 0))), (q2, .inl (ct 2, 10, .inl (fun _ => 0))), (q3, .inl (ct 0, 30, .inl (fun _ => 0)))]) rfl ?_
  refine b_putF (q0 := 0) (j := 3) (ty := .array .int) (ws' := [(h0, .inr (2, [.ref q0, .ref q1, .ref q2, .ref q3, .int 0])), (q0, .inl (ct 0, 10, .inl (fun _ => 0))), (q1, .inl (ct 0, 10, .inl (fun _ => 0))), (q2, .inl (ct 2, 10, .inl (fun _ => 0))), (q3, .inl (ct 0, 30, .inl (fun _ => 0)))]) C hi rfl rfl rfl (by decide) iw_X2 tyX2_ok nmX2 wf_X2_22 rfl (by decide +kernel) rfl rfl (Nat.le_of_ble_eq_true rfl) dX2_init_33 rfl ?_
  refine b_aload0 C dX2_init_36 ?_
  refine b_iconst (v := 0) C dX2_init_37 (by decide) ?_
  refine b_put (q0 := 0) (j := 4) (ty := .int) (ws' := [(h0, .inr (2, [.ref q0, .ref q1, .ref q2, .ref q3, .int (0)])), (q0, .inl (ct 0, 10, .inl (fun _ => 0))), (q1, .inl (ct 0, 10, .inl (fun _ => 0))), (q2, .inl (ct 2, 10, .inl (fun _ => 0))), (q3, .inl (ct 0, 30, .inl (fun _ => 0)))]) C rfl rfl (by decide) iw_X2 tyX2_ok nmX2 wf_X2_25 rfl (by decide +kernel) rfl rfl (Nat.le_of_ble_eq_true rfl) dX2_init_38 rfl ?_
  exact b_ret C (fun k => [q0, q1, q2, q3].getD k 0) rfl dX2_init_41
