/-! making: KilnLine$Silos -/
def F_X5 (ct : Nat → ClassId) (h0 : Nat) (r : Nat → Nat) : va_W := [(h0, .inr (5, [.ref (r 0), .ref (r 1), .ref (r 2), .ref (r 3), .ref (r 4), .ref (r 5), .int (0)])),
  (r 0, .inl (ct 0, 500, .inl (fun _ => 0))),
  (r 1, .inl (ct 0, 500, .inl (fun _ => 0))),
  (r 2, .inl (ct 0, 3, .inl (fun _ => 0))),
  (r 3, .inl (ct 0, 3, .inl (fun _ => 0))),
  (r 4, .inl (ct 0, 500, .inl (fun _ => 0))),
  (r 5, .inl (ct 0, 500, .inl (fun _ => 0)))]
set_option maxHeartbeats 8000000 in
set_option maxRecDepth 100000 in
theorem mc_X5 : MC yX5_init cX5_init 1 1 12 6 2006 [] (fun _ => .inr (5, [.null, .null, .null, .null, .null, .null, .int 0])) F_X5 := by
  refine MC.intro (lv0 := fun h0 => [some (.ref h0)]) (by decide) (fun h0 => ⟨(Nat.le_of_ble_eq_true rfl), rfl⟩) ?_
  intro p l e s m args below meth c D A ct h0 C hi
  have C : Bx p s m args meth c cX5_init 1 RX5 none D A ct := C
  refine b_aload0 C dX5_init_0 ?_
  refine b_obj C wo_X5 wo_i wo_c ⟨(Nat.le_of_ble_eq_true rfl), (Nat.le_of_ble_eq_true rfl)⟩ dX5_init_1 ?_
  refine b_aload0 C dX5_init_4 ?_
  refine b_sipush (v := 500) C dX5_init_5 (by decide) ?_
  refine b_newa (t := 0) (ty := .int) (z := .inl (fun _ => 0)) (N' := 500) C rfl rfl (fun _ _ h => h) wa_int (fun _ => rfl) (by decide) (by decide) (by decide) (Nat.le_of_ble_eq_true rfl) (Nat.le_of_ble_eq_true rfl) dX5_init_8 (fun q0 => ?_)
  refine b_to (ws' := [(h0, .inr (5, [.null, .null, .null, .null, .null, .null, .int 0])), (q0, .inl (ct 0, 500, .inl (fun _ => 0)))]) rfl ?_
  refine b_putF (q0 := 0) (j := 0) (ty := .array .int) (ws' := [(h0, .inr (5, [.ref q0, .null, .null, .null, .null, .null, .int 0])), (q0, .inl (ct 0, 500, .inl (fun _ => 0)))]) C hi rfl rfl rfl (by decide) iw_X5 tyX5_ok nmX5 wf_X5_9 rfl (by decide +kernel) rfl rfl (Nat.le_of_ble_eq_true rfl) dX5_init_10 rfl ?_
  refine b_aload0 C dX5_init_13 ?_
  refine b_sipush (v := 500) C dX5_init_14 (by decide) ?_
  refine b_newa (t := 0) (ty := .int) (z := .inl (fun _ => 0)) (N' := 500) C rfl rfl (fun _ _ h => h) wa_int (fun _ => rfl) (by decide) (by decide) (by decide) (Nat.le_of_ble_eq_true rfl) (Nat.le_of_ble_eq_true rfl) dX5_init_17 (fun q1 => ?_)
  refine b_to (ws' := [(h0, .inr (5, [.ref q0, .null, .null, .null, .null, .null, .int 0])), (q0, .inl (ct 0, 500, .inl (fun _ => 0))), (q1, .inl (ct 0, 500, .inl (fun _ => 0)))]) rfl ?_
  refine b_putF (q0 := 0) (j := 1) (ty := .array .int) (ws' := [(h0, .inr (5, [.ref q0, .ref q1, .null, .null, .null, .null, .int 0])), (q0, .inl (ct 0, 500, .inl (fun _ => 0))), (q1, .inl (ct 0, 500, .inl (fun _ => 0)))]) C hi rfl rfl rfl (by decide) iw_X5 tyX5_ok nmX5 wf_X5_15 rfl (by decide +kernel) rfl rfl (Nat.le_of_ble_eq_true rfl) dX5_init_19 rfl ?_
  refine b_aload0 C dX5_init_22 ?_
  refine b_iconst (v := 3) C dX5_init_23 (by decide) ?_
  refine b_newa (t := 0) (ty := .int) (z := .inl (fun _ => 0)) (N' := 3) C rfl rfl (fun _ _ h => h) wa_int (fun _ => rfl) (by decide) (by decide) (by decide) (Nat.le_of_ble_eq_true rfl) (Nat.le_of_ble_eq_true rfl) dX5_init_24 (fun q2 => ?_)
  refine b_to (ws' := [(h0, .inr (5, [.ref q0, .ref q1, .null, .null, .null, .null, .int 0])), (q0, .inl (ct 0, 500, .inl (fun _ => 0))), (q1, .inl (ct 0, 500, .inl (fun _ => 0))), (q2, .inl (ct 0, 3, .inl (fun _ => 0)))]) rfl ?_
  refine b_putF (q0 := 0) (j := 2) (ty := .array .int) (ws' := [(h0, .inr (5, [.ref q0, .ref q1, .ref q2, .null, .null, .null, .int 0])), (q0, .inl (ct 0, 500, .inl (fun _ => 0))), (q1, .inl (ct 0, 500, .inl (fun _ => 0))), (q2, .inl (ct 0, 3, .inl (fun _ => 0)))]) C hi rfl rfl rfl (by decide) iw_X5 tyX5_ok nmX5 wf_X5_18 rfl (by decide +kernel) rfl rfl (Nat.le_of_ble_eq_true rfl) dX5_init_26 rfl ?_
  refine b_aload0 C dX5_init_29 ?_
  refine b_iconst (v := 3) C dX5_init_30 (by decide) ?_
  refine b_newa (t := 0) (ty := .int) (z := .inl (fun _ => 0)) (N' := 3) C rfl rfl (fun _ _ h => h) wa_int (fun _ => rfl) (by decide) (by decide) (by decide) (Nat.le_of_ble_eq_true rfl) (Nat.le_of_ble_eq_true rfl) dX5_init_31 (fun q3 => ?_)
  refine b_to (ws' := [(h0, .inr (5, [.ref q0, .ref q1, .ref q2, .null, .null, .null, .int 0])), (q0, .inl (ct 0, 500, .inl (fun _ => 0))), (q1, .inl (ct 0, 500, .inl (fun _ => 0))), (q2, .inl (ct 0, 3, .inl (fun _ => 0))), (q3, .inl (ct 0, 3, .inl (fun _ => 0)))]) rfl ?_
  refine b_putF (q0 := 0) (j := 3) (ty := .array .int) (ws' := [(h0, .inr (5, [.ref q0, .ref q1, .ref q2, .ref q3, .null, .null, .int 0])), (q0, .inl (ct 0, 500, .inl (fun _ => 0))), (q1, .inl (ct 0, 500, .inl (fun _ => 0))), (q2, .inl (ct 0, 3, .inl (fun _ => 0))), (q3, .inl (ct 0, 3, .inl (fun _ => 0)))]) C hi rfl rfl rfl (by decide) iw_X5 tyX5_ok nmX5 wf_X5_21 rfl (by decide +kernel) rfl rfl (Nat.le_of_ble_eq_true rfl) dX5_init_33 rfl ?_
  refine b_aload0 C dX5_init_36 ?_
  refine b_sipush (v := 500) C dX5_init_37 (by decide) ?_
  refine b_newa (t := 0) (ty := .int) (z := .inl (fun _ => 0)) (N' := 500) C rfl rfl (fun _ _ h => h) wa_int (fun _ => rfl) (by decide) (by decide) (by decide) (Nat.le_of_ble_eq_true rfl) (Nat.le_of_ble_eq_true rfl) dX5_init_40 (fun q4 => ?_)
  refine b_to (ws' := [(h0, .inr (5, [.ref q0, .ref q1, .ref q2, .ref q3, .null, .null, .int 0])), (q0, .inl (ct 0, 500, .inl (fun _ => 0))), (q1, .inl (ct 0, 500, .inl (fun _ => 0))), (q2, .inl (ct 0, 3, .inl (fun _ => 0))), (q3, .inl (ct 0, 3, .inl (fun _ => 0))), (q4, .inl (ct 0, 500, .inl (fun _ => 0)))]) rfl ?_
  refine b_putF (q0 := 0) (j := 4) (ty := .array .int) (ws' := [(h0, .inr (5, [.ref q0, .ref q1, .ref q2, .ref q3, .ref q4, .null, .int 0])), (q0, .inl (ct 0, 500, .inl (fun _ => 0))), (q1, .inl (ct 0, 500, .inl (fun _ => 0))), (q2, .inl (ct 0, 3, .inl (fun _ => 0))), (q3, .inl (ct 0, 3, .inl (fun _ => 0))), (q4, .inl (ct 0, 500, .inl (fun _ => 0)))]) C hi rfl rfl rfl (by decide) iw_X5 tyX5_ok nmX5 wf_X5_24 rfl (by decide +kernel) rfl rfl (Nat.le_of_ble_eq_true rfl) dX5_init_42 rfl ?_
  refine b_aload0 C dX5_init_45 ?_
  refine b_sipush (v := 500) C dX5_init_46 (by decide) ?_
  refine b_newa (t := 0) (ty := .int) (z := .inl (fun _ => 0)) (N' := 500) C rfl rfl (fun _ _ h => h) wa_int (fun _ => rfl) (by decide) (by decide) (by decide) (Nat.le_of_ble_eq_true rfl) (Nat.le_of_ble_eq_true rfl) dX5_init_49 (fun q5 => ?_)
  refine b_to (ws' := [(h0, .inr (5, [.ref q0, .ref q1, .ref q2, .ref q3, .ref q4, .null, .int 0])), (q0, .inl (ct 0, 500, .inl (fun _ => 0))), (q1, .inl (ct 0, 500, .inl (fun _ => 0))), (q2, .inl (ct 0, 3, .inl (fun _ => 0))), (q3, .inl (ct 0, 3, .inl (fun _ => 0))), (q4, .inl (ct 0, 500, .inl (fun _ => 0))), (q5, .inl (ct 0, 500, .inl (fun _ => 0)))]) rfl ?_
  refine b_putF (q0 := 0) (j := 5) (ty := .array .int) (ws' := [(h0, .inr (5, [.ref q0, .ref q1, .ref q2, .ref q3, .ref q4, .ref q5, .int 0])), (q0, .inl (ct 0, 500, .inl (fun _ => 0))), (q1, .inl (ct 0, 500, .inl (fun _ => 0))), (q2, .inl (ct 0, 3, .inl (fun _ => 0))), (q3, .inl (ct 0, 3, .inl (fun _ => 0))), (q4, .inl (ct 0, 500, .inl (fun _ => 0))), (q5, .inl (ct 0, 500, .inl (fun _ => 0)))]) C hi rfl rfl rfl (by decide) iw_X5 tyX5_ok nmX5 wf_X5_27 rfl (by decide +kernel) rfl rfl (Nat.le_of_ble_eq_true rfl) dX5_init_51 rfl ?_
  refine b_aload0 C dX5_init_54 ?_
  refine b_iconst (v := 0) C dX5_init_55 (by decide) ?_
  refine b_put (q0 := 0) (j := 6) (ty := .int) (ws' := [(h0, .inr (5, [.ref q0, .ref q1, .ref q2, .ref q3, .ref q4, .ref q5, .int (0)])), (q0, .inl (ct 0, 500, .inl (fun _ => 0))), (q1, .inl (ct 0, 500, .inl (fun _ => 0))), (q2, .inl (ct 0, 3, .inl (fun _ => 0))), (q3, .inl (ct 0, 3, .inl (fun _ => 0))), (q4, .inl (ct 0, 500, .inl (fun _ => 0))), (q5, .inl (ct 0, 500, .inl (fun _ => 0)))]) C rfl rfl (by decide) iw_X5 tyX5_ok nmX5 wf_X5_30 rfl (by decide +kernel) rfl rfl (Nat.le_of_ble_eq_true rfl) dX5_init_56 rfl ?_
  exact b_ret C (fun k => [q0, q1, q2, q3, q4, q5].getD k 0) rfl dX5_init_59
