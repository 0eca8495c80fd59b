/-! the law from its entry -/
theorem known8 {s : State} {args : Array Value} (hts : ∀ w ∈ tbw, w.before args s = true) : ∃ D : va_G, ∀ (k : Nat) (q : vw_C), vwCl[k]? = some q → u_Kn s q.1 q.2.1 q.2.2 (D.1 k) (D.2 k) := by
  obtain ⟨c0, i0, h0⟩ := u_known (C := RX0) (T := TX0) (N := 12) (n := 12) hts iw_X0 (hts _ wn_X0)
  obtain ⟨c1, i1, h1⟩ := u_known (C := RX1) (T := TX1) (N := 2) (n := 2) hts iw_X1 (hts _ wn_X1)
  obtain ⟨c2, i2, h2⟩ := u_known (C := RX2) (T := TX2) (N := 5) (n := 5) hts iw_X2 (hts _ wn_X2)
  obtain ⟨c3, i3, h3⟩ := u_known (C := RX3) (T := TX3) (N := 9) (n := 9) hts iw_X3 (hts _ wn_X3)
  obtain ⟨c4, i4, h4⟩ := u_known (C := RX4) (T := TX4) (N := 5) (n := 5) hts iw_X4 (hts _ wn_X4)
  obtain ⟨c5, i5, h5⟩ := u_known (C := RX5) (T := TX5) (N := 7) (n := 7) hts iw_X5 (hts _ wn_X5)
  obtain ⟨c6, i6, h6⟩ := u_known (C := RX6) (T := TX6) (N := 9) (n := 9) hts iw_X6 (hts _ wn_X6)
  obtain ⟨c7, i7, h7⟩ := u_known (C := RX7) (T := TX7) (N := 44) (n := 44) hts iw_X7 (hts _ wn_X7)
  refine ⟨(fun k => [c0, c1, c2, c3, c4, c5, c6, c7].getD k c0, fun k => [i0, i1, i2, i3, i4, i5, i6, i7].getD k i0), fun k q hq => ?_⟩
  match k, hq with
  | 0, hq => cases hq; exact h0
  | 1, hq => cases hq; exact h1
  | 2, hq => cases hq; exact h2
  | 3, hq => cases hq; exact h3
  | 4, hq => cases hq; exact h4
  | 5, hq => cases hq; exact h5
  | 6, hq => cases hq; exact h6
  | 7, hq => cases hq; exact h7
  | n + 8, hq => cases hq
theorem arr_of {s : State} {ty : FieldType} {cA comp : ClassId} {k : Class} (h2 : s.vm.classes[cA]? = some k) (h3 : k.kind = .array comp ty) : ArrOfT s cA ty := fun _ _ => ⟨fun _ h => (by cases h), k, h2, comp, h3⟩
theorem ctypes {s : State} {args : Array Value} (hts : ∀ w ∈ tbw, w.before args s = true) (ho : (Cond.arrayOver (.array .int)).before args s = true) : ∃ ct : Nat → ClassId, ∀ (k : Nat) (q : ClassId × FieldType), (tyl ct)[k]? = some q → ArrOfT s q.1 q.2 ∧ va_RA s q.1 q.2 := by
  obtain ⟨a0, k0, m0, f0, g0, e0⟩ := Cond.arrayClass_spec (hts _ wa_int)
  obtain ⟨a1, k1, m1, f1, g1, e1⟩ := Cond.arrayClass_spec (hts _ wa_long)
  obtain ⟨a2, k2, m2, f2, g2, e2⟩ := Cond.arrayClass_spec (hts _ wa_boolean)
  obtain ⟨m3, a3, k3, -, -, g3, e3, f3⟩ := arrayOverA_spec ho
  refine ⟨fun k => [a0, a1, a2, a3].getD k a0, fun k q hq => ?_⟩
  match k, hq with
  | 0, hq => cases hq; exact ⟨arr_of g0 e0, f0⟩
  | 1, hq => cases hq; exact ⟨arr_of g1 e1, f1⟩
  | 2, hq => cases hq; exact ⟨arr_of g2 e2, f2⟩
  | 3, hq => cases hq; exact ⟨arr_of g3 e3, f3⟩
  | n + 4, hq => cases hq
theorem nws_in : ∀ w ∈ nws, w ∈ lw_tbl := by decide +kernel
theorem nvs_in : ∀ w ∈ nvs, w ∈ lw_tbl := by decide +kernel
theorem ao_in : Cond.arrayOver (.array .int) ∈ lw_tbl := by decide +kernel
theorem ks_in : Cond.laysStatic "KilnLine$Kiln" "KINDS" "[I" ∈ lw_tbl := by decide +kernel
theorem kd_start {s : State} {b : Nat} (hts : ∀ w ∈ lw_tbl, w.before #[Value.ref b] s = true) (hts2 : ∀ w ∈ tbw, w.before #[Value.ref b] s = true) (hgv : (Jvm.Cond.and given_1 narrow_1).before #[Value.ref b] s = true) : Kd (LA s) s s.heap := by
  have hs := flat_of_before _ hgv
  have hA : ∀ a : Nat, a < s.heap.size → ¬ LA s a := fun a h q => absurd h (Nat.not_lt.mpr q)
  have h0 : (Cond.arrayOf (.static "KilnLine$Kiln" "KINDS" "[I") .int).before #[Value.ref b] s = true := hs _ (by decide +kernel)
  have h1 : (Cond.eq (.length (.static "KilnLine$Kiln" "KINDS" "[I")) (.int 4)).before #[Value.ref b] s = true := hs _ (by decide +kernel)
  have g0 : (Cond.eq (.elem (.static "KilnLine$Kiln" "KINDS" "[I") (.int 0)) (.int 0)).before #[Value.ref b] s = true := hs _ (by decide +kernel)
  have g1 : (Cond.eq (.elem (.static "KilnLine$Kiln" "KINDS" "[I") (.int 1)) (.int 0)).before #[Value.ref b] s = true := hs _ (by decide +kernel)
  have g2 : (Cond.eq (.elem (.static "KilnLine$Kiln" "KINDS" "[I") (.int 2)) (.int 1)).before #[Value.ref b] s = true := hs _ (by decide +kernel)
  have g3 : (Cond.eq (.elem (.static "KilnLine$Kiln" "KINDS" "[I") (.int 3)) (.int 2)).before #[Value.ref b] s = true := hs _ (by decide +kernel)
  obtain ⟨t, ht, hT⟩ := va_Tof (tm := .static "KilnLine$Kiln" "KINDS" "[I") (ty := .int) (N := 4) (f := fun j => .int (kinds j)) (A := LA s) (by decide) h0 (va_eqt h1) (fun j hj => by
    match j, hj with
    | 0, _ => exact va_eqt g0
    | 1, _ => exact va_eqt g1
    | 2, _ => exact va_eqt g2
    | 3, _ => exact va_eqt g3
    | n + 4, h => exact absurd h (by omega)) hA
  exact ⟨t, va_Zof (hts _ ks_in) (hts2 _ wi_X3) ht hA, hT⟩
theorem ao_start {s : State} {b : Nat} (hts : ∀ w ∈ lw_tbl, w.before #[Value.ref b] s = true) : AO s := ⟨over_moved (Vm.Alike.refl _) (hts _ ao_in), fun w hw => by
  obtain ⟨c, i, x, h, rfl⟩ := nvs_shape w hw
  exact va_Nw.of rfl (hts _ (nvs_in _ hw))⟩
theorem nw_start {s : State} {b : Nat} (hts : ∀ w ∈ lw_tbl, w.before #[Value.ref b] s = true) : NW s := fun w hw => by
  obtain ⟨c, i, x, h, rfl⟩ := nws_shape w hw
  exact va_Nw.of rfl (hts _ (nws_in _ hw))
set_option maxHeartbeats 8000000 in
set_option maxRecDepth 100000 in
theorem whole_start {p : Program} {e : Env} {s : State} {m : MethodId} {below : List Frame} {meth : Method} {c : Code} (l : Launch) {b L : Nat} {xs : Nat → Int32} (hL : L ≤ 3072) (C0 : lw_At p s m meth c b L xs) : W p l e room_1 s m #[Value.ref b] below meth c s.heap [] 0 0 (lw_Z below #[Value.ref b] s) (entryFrame m ([Value.ref b] : List Value).toArray 4) := by
  obtain ⟨hx, hb, hr, hml, hown, hts, hX, hbl, hlocks, hgv⟩ := id C0
  have hts2 : ∀ w ∈ tbw, w.before #[Value.ref b] s = true := fun w h => hts w (List.mem_filter.mp h).1
  obtain ⟨D, hD8⟩ := known8 hts2
  obtain ⟨ct, hct⟩ := ctypes hts2 (hts _ ao_in)
  have hK : va_K D vwCl (tyl ct) s := ⟨hD8, hct⟩
  have hKd := kd_start hts hts2 hgv
  have hAO := ao_start hts
  have hNW := nw_start hts
  have F : CallFix p m c cL_law 4 s #[Value.ref b] tbw RL := ⟨hx, hb, hml, hown, hts2⟩
  have B : Bx p s m #[Value.ref b] meth c cL_law 4 RL ret D (LA s) ct := ⟨F, hK, fun _ h => h, hAO, hlocks, hr⟩
  have key : BW p l e room_1 s m #[Value.ref b] below meth c 0 0 (lw_Z below #[Value.ref b] s) D (LA s) 4 [] 0 [some (.ref b), none, none, none] [] := by
    refine b_new (ci := 6) (fs := [.null, .null, .null, .null, .null, .null, .long 0, .long 0, .long 0]) B rfl iw_X6 tyX6_ok wc_L_7 wn_X6 wi_X6 (fun j hj => by match j, hj with | 0, _ => rfl | 1, _ => rfl | 2, _ => rfl | 3, _ => rfl | 4, _ => rfl | 5, _ => rfl | 6, _ => rfl | 7, _ => rfl | 8, _ => rfl | n + 9, h => exact absurd h (by omega)) (Nat.le_of_ble_eq_true rfl) (Nat.le_of_ble_eq_true rfl) dL_law_0 (fun q6 => ?_)
    refine b_to (ws' := [(q6, .inr (6, [.null, .null, .null, .null, .null, .null, .long 0, .long 0, .long 0]))]) rfl ?_
    refine b_dup B dL_law_3 rfl ?_
    refine b_callC (a0 := q6) (wr := []) B mc_X6 ci_L_9 [0] [] rfl rfl rfl (by decide) rfl (Nat.le_of_ble_eq_true rfl) ⟨(Nat.le_of_ble_eq_true rfl), (Nat.le_of_ble_eq_true rfl)⟩ ⟨(Nat.le_of_ble_eq_true rfl), (Nat.le_of_ble_eq_true rfl)⟩ dL_law_4 (fun r6 => ?_)
    refine b_to (ws' := F_X6 ct q6 r6) rfl ?_
    refine b_astore1 B dL_law_7 (by decide) (by intro w h0 h; cases h; rfl) ?_
    refine b_new (ci := 7) (fs := [.int 0, .null, .long 0, .long 0, .long 0, .int 0, .null, .null, .null, .null, .null, .null, .int 0, .int 0, .int 0, .int 0, .int 0, .null, .null, .null, .null, .int 0, .int 0, .int 0, .null, .null, .null, .null, .null, .null, .int 0, .int 0, .null, .null, .null, .int 0, .null, .null, .null, .null, .null, .null, .null, .null]) B rfl iw_X7 tyX7_ok wc_L_10 wn_X7 wi_X7 (fun j hj => by match j, hj with | 0, _ => rfl | 1, _ => rfl | 2, _ => rfl | 3, _ => rfl | 4, _ => rfl | 5, _ => rfl | 6, _ => rfl | 7, _ => rfl | 8, _ => rfl | 9, _ => rfl | 10, _ => rfl | 11, _ => rfl | 12, _ => rfl | 13, _ => rfl | 14, _ => rfl | 15, _ => rfl | 16, _ => rfl | 17, _ => rfl | 18, _ => rfl | 19, _ => rfl | 20, _ => rfl | 21, _ => rfl | 22, _ => rfl | 23, _ => rfl | 24, _ => rfl | 25, _ => rfl | 26, _ => rfl | 27, _ => rfl | 28, _ => rfl | 29, _ => rfl | 30, _ => rfl | 31, _ => rfl | 32, _ => rfl | 33, _ => rfl | 34, _ => rfl | 35, _ => rfl | 36, _ => rfl | 37, _ => rfl | 38, _ => rfl | 39, _ => rfl | 40, _ => rfl | 41, _ => rfl | 42, _ => rfl | 43, _ => rfl | n + 44, h => exact absurd h (by omega)) (Nat.le_of_ble_eq_true rfl) (Nat.le_of_ble_eq_true rfl) dL_law_8 (fun q7 => ?_)
    refine b_dup B dL_law_11 rfl ?_
    refine b_callC (a0 := q7) (wr := F_X6 ct q6 r6) B mc_X7 ci_L_12 [44] [0, 1, 2, 3, 4, 5, 6, 7, 8, 9, 10, 11, 12, 13, 14, 15, 16, 17, 18, 19, 20, 21, 22, 23, 24, 25, 26, 27, 28, 29, 30, 31, 32, 33, 34, 35, 36, 37, 38, 39, 40, 41, 42, 43] rfl rfl (by decide) (by decide) rfl (Nat.le_of_ble_eq_true rfl) ⟨(Nat.le_of_ble_eq_true rfl), (Nat.le_of_ble_eq_true rfl)⟩ ⟨(Nat.le_of_ble_eq_true rfl), (Nat.le_of_ble_eq_true rfl)⟩ dL_law_12 (fun r7 => ?_)
    refine b_astore2 B dL_law_15 (by decide) (by intro w h0 h; cases h; rfl) ?_
    refine b_iconst (v := 0) B dL_law_16 (by decide) ?_
    refine b_istore3 B dL_law_17 (by decide) (by intro w h0 h; cases h; rfl) ?_
    refine b_widen (cells' := 600000) (slots' := 7302250) (Nat.le_of_ble_eq_true rfl) (Nat.le_of_ble_eq_true rfl) ?_
    intro H locs ls hP hDw hS hl
    have C : LCx p s m meth c D ct (aL q6 r6 q7 r7) b := ⟨F, hK, wdD_start hDw, fun _ h => h, hKd, hNW, hlocks, hr⟩
    have LL := law_loop (p := p) (l := l) (e := e) (below := below) C hX hbl (Nat.not_le.mpr hbl) hL (L + 1) 0 M0 (by omega) (by decide) RX_0
    exact LL H locs ls (wd_start hP) hS hl
  have hP0 : va_P D vwCl [] s.heap := fun k q h => by cases h
  have hD0 : va_D (LA s) [] := ⟨fun i j p q h => (by cases h), fun k q h => (by cases h)⟩
  have hl := lv_entry ([.ref b]) (n := 4) (Nat.le_of_ble_eq_true rfl)
  rw [lg_entry_eq]
  generalize (lg_sl ([.ref b]) ++ List.replicate (4 - (lg_sl ([.ref b])).length) Slot.unset).toArray = ls at hl ⊢
  refine key s.heap [] ls hP0 hD0 va_S.rf ?_
  rw [show ([some (.ref b), none, none, none] : List (Option Value)) = lvA [.ref b] ++ List.replicate 3 none from rfl, lvl_lvA]
  exact hl
