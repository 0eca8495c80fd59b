/-! making: KilnLine$Found -/
def F_X1 (ct : Nat → ClassId) (h0 : Nat) (r : Nat → Nat) : va_W := [(h0, .inr (1, [.ref (r 0), .int (0)])),
  (r 0, .inl (ct 0, 6, .inl (fun _ => 0)))]
set_option maxHeartbeats 8000000 in
set_option maxRecDepth 100000 in
theorem mc_X1 : MC yX1_init cX1_init 1 1 12 1 6 [] (fun _ => .inr (1, [.null, .int 0])) F_X1 := by
  refine MC.intro (lv0 := fun h0 => [some (.ref h0)]) (by decide) (fun h0 => ⟨(Nat.le_of_ble_eq_true rfl), rfl⟩) ?_
  intro p l e s m args below meth c D A ct h0 C hi
  have C : Bx p s m args meth c cX1_init 1 RX1 none D A ct := C
  refine b_aload0 C dX1_init_0 ?_
  refine b_obj C wo_X1 wo_i wo_c ⟨(Nat.le_of_ble_eq_true rfl), (Nat.le_of_ble_eq_true rfl)⟩ dX1_init_1 ?_
  refine b_aload0 C dX1_init_4 ?_
  refine b_bipush (v := 6) C dX1_init_5 (by decide) ?_
  refine b_newa (t := 0) (ty := .int) (z := .inl (fun _ => 0)) (N' := 6) C rfl rfl (fun _ _ h => h) wa_int (fun _ => rfl) (by decide) (by decide) (by decide) (Nat.le_of_ble_eq_true rfl) (Nat.le_of_ble_eq_true rfl) dX1_init_7 (fun q0 => ?_)
  refine b_to (ws' := [(h0, .inr (1, [.null, .int 0])), (q0, .inl (ct 0, 6, .inl (fun _ => 0)))]) rfl ?_
  refine b_putF (q0 := 0) (j := 0) (ty := .array .int) (ws' := [(h0, .inr (1, [.ref q0, .int 0])), (q0, .inl (ct 0, 6, .inl (fun _ => 0)))]) C hi rfl rfl rfl (by decide) iw_X1 tyX1_ok nmX1 wf_X1_9 rfl (by decide +kernel) rfl rfl (Nat.le_of_ble_eq_true rfl) dX1_init_9 rfl ?_
  refine b_aload0 C dX1_init_12 ?_
  refine b_iconst (v := 0) C dX1_init_13 (by decide) ?_
  refine b_put (q0 := 0) (j := 1) (ty := .int) (ws' := [(h0, .inr (1, [.ref q0, .int (0)])), (q0, .inl (ct 0, 6, .inl (fun _ => 0)))]) C rfl rfl (by decide) iw_X1 tyX1_ok nmX1 wf_X1_15 rfl (by decide +kernel) rfl rfl (Nat.le_of_ble_eq_true rfl) dX1_init_14 rfl ?_
  exact b_ret C (fun k => [q0].getD k 0) rfl dX1_init_17
