/-! making: KilnLine$Kiln -/
def F_X3 (ct : Nat → ClassId) (h0 : Nat) (r : Nat → Nat) : va_W := [(h0, .inr (3, [.ref (r 0), .ref (r 1), .ref (r 2), .ref (r 3), .ref (r 4), .ref (r 5), .int (0), .int (-9), .int (0)])),
  (r 0, .inl (ct 0, 4, .inl (fun _ => 0))),
  (r 1, .inl (ct 0, 4, .inl (fun _ => 0))),
  (r 2, .inl (ct 0, 4, .inl (fun _ => 0))),
  (r 3, .inl (ct 0, 4, .inl (fun _ => 0))),
  (r 4, .inl (ct 0, 7, .inl (fun _ => 0))),
  (r 5, .inl (ct 1, 5, .inr (.inl (fun _ => 0))))]
set_option maxHeartbeats 8000000 in
set_option maxRecDepth 100000 in
theorem mc_X3 : MC yX3_init cX3_init 1 1 12 6 28 [] (fun _ => .inr (3, [.null, .null, .null, .null, .null, .null, .int 0, .int 0, .int 0])) F_X3 := by
  refine MC.intro (lv0 := fun h0 => [some (.ref h0)]) (by decide) (fun h0 => ⟨(Nat.le_of_ble_eq_true rfl), rfl⟩) ?_
  intro p l e s m args below meth c D A ct h0 C hi
  have C : Bx p s m args meth c cX3_init 1 RX3 none D A ct := C
  refine b_aload0 C dX3_init_0 ?_
  refine b_obj C wo_X3 wo_i wo_c ⟨(Nat.le_of_ble_eq_true rfl), (Nat.le_of_ble_eq_true rfl)⟩ dX3_init_1 ?_
  refine b_aload0 C dX3_init_4 ?_
  refine b_iconst (v := 4) C dX3_init_5 (by decide) ?_
  refine b_newa (t := 0) (ty := .int) (z := .inl (fun _ => 0)) (N' := 4) C rfl rfl (fun _ _ h => h) wa_int (fun _ => rfl) (by decide) (by decide) (by decide) (Nat.le_of_ble_eq_true rfl) (Nat.le_of_ble_eq_true rfl) dX3_init_6 (fun q0 => ?_)
  refine b_to (ws' := [(h0, .inr (3, [.null, .null, .null, .null, .null, .null, .int 0, .int 0, .int 0])), (q0, .inl (ct 0, 4, .inl (fun _ => 0)))]) rfl ?_
  refine b_putF (q0 := 0) (j := 0) (ty := .array .int) (ws' := [(h0, .inr (3, [.ref q0, .null, .null, .null, .null, .null, .int 0, .int 0, .int 0])), (q0, .inl (ct 0, 4, .inl (fun _ => 0)))]) C hi rfl rfl rfl (by decide) iw_X3 tyX3_ok nmX3 wf_X3_9 rfl (by decide +kernel) rfl rfl (Nat.le_of_ble_eq_true rfl) dX3_init_8 rfl ?_
  refine b_aload0 C dX3_init_11 ?_
  refine b_iconst (v := 4) C dX3_init_12 (by decide) ?_
  refine b_newa (t := 0) (ty := .int) (z := .inl (fun _ => 0)) (N' := 4) C rfl rfl (fun _ _ h => h) wa_int (fun _ => rfl) (by decide) (by decide) (by decide) (Nat.le_of_ble_eq_true rfl) (Nat.le_of_ble_eq_true rfl) dX3_init_13 (fun q1 => ?_)
  refine b_to (ws' := [(h0, .inr (3, [.ref q0, .null, .null, .null, .null, .null, .int 0, .int 0, .int 0])), (q0, .inl (ct 0, 4, .inl (fun _ => 0))), (q1, .inl (ct 0, 4, .inl (fun _ => 0)))]) rfl ?_
  refine b_putF (q0 := 0) (j := 1) (ty := .array .int) (ws' := [(h0, .inr (3, [.ref q0, .ref q1, .null, .null, .null, .null, .int 0, .int 0, .int 0])), (q0, .inl (ct 0, 4, .inl (fun _ => 0))), (q1, .inl (ct 0, 4, .inl (fun _ => 0)))]) C hi rfl rfl rfl (by decide) iw_X3 tyX3_ok nmX3 wf_X3_15 rfl (by decide +kernel) rfl rfl (Nat.le_of_ble_eq_true rfl) dX3_init_15 rfl ?_
  refine b_aload0 C dX3_init_18 ?_
  refine b_iconst (v := 4) C dX3_init_19 (by decide) ?_
  refine b_newa (t := 0) (ty := .int) (z := .inl (fun _ => 0)) (N' := 4) C rfl rfl (fun _ _ h => h) wa_int (fun _ => rfl) (by decide) (by decide) (by decide) (Nat.le_of_ble_eq_true rfl) (Nat.le_of_ble_eq_true rfl) dX3_init_20 (fun q2 => ?_)
  refine b_to (ws' := [(h0, .inr (3, [.ref q0, .ref q1, .null, .null, .null, .null, .int 0, .int 0, .int 0])), (q0, .inl (ct 0, 4, .inl (fun _ => 0))), (q1, .inl (ct 0, 4, .inl (fun _ => 0))), (q2, .inl (ct 0, 4, .inl (fun _ => 0)))]) rfl ?_
  refine b_putF (q0 := 0) (j := 2) (ty := .array .int) (ws' := [(h0, .inr (3, [.ref q0, .ref q1, .ref q2, .null, .null, .null, .int 0, .int 0, .int 0])), (q0, .inl (ct 0, 4, .inl (fun _ => 0))), (q1, .inl (ct 0, 4, .inl (fun _ => 0))), (q2, .inl (ct 0, 4, .inl (fun _ => 0)))]) C hi rfl rfl rfl (by decide) iw_X3 tyX3_ok nmX3 wf_X3_18 rfl (by decide +kernel) rfl rfl (Nat.le_of_ble_eq_true rfl) dX3_init_22 rfl ?_
  refine b_aload0 C dX3_init_25 ?_
  refine b_iconst (v := 4) C dX3_init_26 (by decide) ?_
  refine b_newa (t := 0) (ty := .int) (z := .inl (fun _ => 0)) (N' := 4) C rfl rfl (fun _ _ h => h) wa_int (fun _ => rfl) (by decide) (by decide) (by decide) (Nat.le_of_ble_eq_true rfl) (Nat.le_of_ble_eq_true rfl) dX3_init_27 (fun q3 => ?_)
  refine b_to (ws' := [(h0, .inr (3, [.ref q0, .ref q1, .ref q2, .null, .null, .null, .int 0, .int 0, .int 0])), (q0, .inl (ct 0, 4, .inl (fun _ => 0))), (q1, .inl (ct 0, 4, .inl (fun _ => 0))), (q2, .inl (ct 0, 4, .inl (fun _ => 0))), (q3, .inl (ct 0, 4, .inl (fun _ => 0)))]) rfl ?_
  refine b_putF (q0 := 0) (j := 3) (ty := .array .int) (ws' := [(h0, .inr (3, [.ref q0, .ref q1, .ref q2, .ref q3, .null, .null, .int 0, .int 0, .int 0])), (q0, .inl (ct 0, 4, .inl (fun _ => 0))), (q1, .inl (ct 0, 4, .inl (fun _ => 0))), (q2, .inl (ct 0, 4, .inl (fun _ => 0))), (q3, .inl (ct 0, 4, .inl (fun _ => 0)))]) C hi rfl rfl rfl (by decide) iw_X3 tyX3_ok nmX3 wf_X3_21 rfl (by decide +kernel) rfl rfl (Nat.le_of_ble_eq_true rfl) dX3_init_29 rfl ?_
  refine b_aload0 C dX3_init_32 ?_
  refine b_bipush (v := 7) C dX3_init_33 (by decide) ?_
  refine b_newa (t := 0) (ty := .int) (z := .inl (fun _ => 0)) (N' := 7) C rfl rfl (fun _ _ h => h) wa_int (fun _ => rfl) (by decide) (by decide) (by decide) (Nat.le_of_ble_eq_true rfl) (Nat.le_of_ble_eq_true rfl) dX3_init_35 (fun q4 => ?_)
  refine b_to (ws' := [(h0, .inr (3, [.ref q0, .ref q1, .ref q2, .ref q3, .null, .null, .int 0, .int 0, .int 0])), (q0, .inl (ct 0, 4, .inl (fun _ => 0))), (q1, .inl (ct 0, 4, .inl (fun _ => 0))), (q2, .inl (ct 0, 4, .inl (fun _ => 0))), (q3, .inl (ct 0, 4, .inl (fun _ => 0))), (q4, .inl (ct 0, 7, .inl (fun _ => 0)))]) rfl ?_
  refine b_putF (q0 := 0) (j := 4) (ty := .array .int) (ws' := [(h0, .inr (3, [.ref q0, .ref q1, .ref q2, .ref q3, .ref q4, .null, .int 0, .int 0, .int 0])), (q0, .inl (ct 0, 4, .inl (fun _ => 0))), (q1, .inl (ct 0, 4, .inl (fun _ => 0))), (q2, .inl (ct 0, 4, .inl (fun _ => 0))), (q3, .inl (ct 0, 4, .inl (fun _ => 0))), (q4, .inl (ct 0, 7, .inl (fun _ => 0)))]) C hi rfl rfl rfl (by decide) iw_X3 tyX3_ok nmX3 wf_X3_24 rfl (by decide +kernel) rfl rfl (Nat.le_of_ble_eq_true rfl) dX3_init_37 rfl ?_
  refine b_aload0 C dX3_init_40 ?_
  refine b_iconst (v := 5) C dX3_init_41 (by decide) ?_
  refine b_newa (t := 1) (ty := .long) (z := .inr (.inl (fun _ => 0))) (N' := 5) C rfl rfl (fun _ _ h => h) wa_long (fun _ => rfl) (by decide) (by decide) (by decide) (Nat.le_of_ble_eq_true rfl) (Nat.le_of_ble_eq_true rfl) dX3_init_42 (fun q5 => ?_)
  refine b_to (ws' := [(h0, .inr (3, [.ref q0, .ref q1, .ref q2, .ref q3, .ref q4, .null, .int 0, .int 0, .int 0])), (q0, .inl (ct 0, 4, .inl (fun _ => 0))), (q1, .inl (ct 0, 4, .inl (fun _ => 0))), (q2, .inl (ct 0, 4, .inl (fun _ => 0))), (q3, .inl (ct 0, 4, .inl (fun _ => 0))), (q4, .inl (ct 0, 7, .inl (fun _ => 0))), (q5, .inl (ct 1, 5, .inr (.inl (fun _ => 0))))]) rfl ?_
  refine b_putF (q0 := 0) (j := 5) (ty := .array .long) (ws' := [(h0, .inr (3, [.ref q0, .ref q1, .ref q2, .ref q3, .ref q4, .ref q5, .int 0, .int 0, .int 0])), (q0, .inl (ct 0, 4, .inl (fun _ => 0))), (q1, .inl (ct 0, 4, .inl (fun _ => 0))), (q2, .inl (ct 0, 4, .inl (fun _ => 0))), (q3, .inl (ct 0, 4, .inl (fun _ => 0))), (q4, .inl (ct 0, 7, .inl (fun _ => 0))), (q5, .inl (ct 1, 5, .inr (.inl (fun _ => 0))))]) C hi rfl rfl rfl (by decide) iw_X3 tyX3_ok nmX3 wf_X3_27 rfl (by decide +kernel) rfl rfl (Nat.le_of_ble_eq_true rfl) dX3_init_44 rfl ?_
  refine b_aload0 C dX3_init_47 ?_
  refine b_iconst (v := 0) C dX3_init_48 (by decide) ?_
  refine b_put (q0 := 0) (j := 6) (ty := .int) (ws' := [(h0, .inr (3, [.ref q0, .ref q1, .ref q2, .ref q3, .ref q4, .ref q5, .int (0), .int 0, .int 0])), (q0, .inl (ct 0, 4, .inl (fun _ => 0))), (q1, .inl (ct 0, 4, .inl (fun _ => 0))), (q2, .inl (ct 0, 4, .inl (fun _ => 0))), (q3, .inl (ct 0, 4, .inl (fun _ => 0))), (q4, .inl (ct 0, 7, .inl (fun _ => 0))), (q5, .inl (ct 1, 5, .inr (.inl (fun _ => 0))))]) C rfl rfl (by decide) iw_X3 tyX3_ok nmX3 wf_X3_31 rfl (by decide +kernel) rfl rfl (Nat.le_of_ble_eq_true rfl) dX3_init_49 rfl ?_
  refine b_aload0 C dX3_init_52 ?_
  refine b_bipush (v := -9) C dX3_init_53 (by decide) ?_
  refine b_put (q0 := 0) (j := 7) (ty := .int) (ws' := [(h0, .inr (3, [.ref q0, .ref q1, .ref q2, .ref q3, .ref q4, .ref q5, .int (0), .int (-9), .int 0])), (q0, .inl (ct 0, 4, .inl (fun _ => 0))), (q1, .inl (ct 0, 4, .inl (fun _ => 0))), (q2, .inl (ct 0, 4, .inl (fun _ => 0))), (q3, .inl (ct 0, 4, .inl (fun _ => 0))), (q4, .inl (ct 0, 7, .inl (fun _ => 0))), (q5, .inl (ct 1, 5, .inr (.inl (fun _ => 0))))]) C rfl rfl (by decide) iw_X3 tyX3_ok nmX3 wf_X3_35 rfl (by decide +kernel) rfl rfl (Nat.le_of_ble_eq_true rfl) dX3_init_55 rfl ?_
  refine b_aload0 C dX3_init_58 ?_
  refine b_iconst (v := 0) C dX3_init_59 (by decide) ?_
  refine b_put (q0 := 0) (j := 8) (ty := .boolean) (ws' := [(h0, .inr (3, [.ref q0, .ref q1, .ref q2, .ref q3, .ref q4, .ref q5, .int (0), .int (-9), .int (0)])), (q0, .inl (ct 0, 4, .inl (fun _ => 0))), (q1, .inl (ct 0, 4, .inl (fun _ => 0))), (q2, .inl (ct 0, 4, .inl (fun _ => 0))), (q3, .inl (ct 0, 4, .inl (fun _ => 0))), (q4, .inl (ct 0, 7, .inl (fun _ => 0))), (q5, .inl (ct 1, 5, .inr (.inl (fun _ => 0))))]) C rfl rfl (by decide) iw_X3 tyX3_ok nmX3 wf_X3_38 rfl (by decide +kernel) rfl rfl (Nat.le_of_ble_eq_true rfl) dX3_init_60 rfl ?_
  exact b_ret C (fun k => [q0, q1, q2, q3, q4, q5].getD k 0) rfl dX3_init_63
