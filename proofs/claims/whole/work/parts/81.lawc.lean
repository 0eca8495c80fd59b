/-! the law's cases -/
section LAWQ
variable {p : Program} {l : Launch} {e : Env} {R : Room} {s : State} {m : MethodId} {args : Array Value} {below : List Frame} {meth : Method} {c : Code} {cells slots : Nat} {Q : State → Prop} {D : va_G} {A : Nat → Prop} {ct : Nat → ClassId} {a : Nat → Nat} {nL : Nat} {M : Mm} {pc : Nat} {lv : List (Option Value)} {st : List Value} {cc : ByteArray} {own : String} {ret : Option FieldType}
theorem q_sld {b L : Nat} {xs : Nat → Int32} {i : Int32} (C : Cx p s m args meth c cc nL own ret D A ct a) (hX : va_X b L xs s s.heap) (hbl : b < s.heap.size) (hbA : ¬ A b) (hin : vp_in i L) (hd : decode cc pc = .ok (.iaload, 1)) (k : KW p l e R s m args below meth c cells slots Q D A ct a nL M (pc + 1) lv (.int (xs i.toNatClampNeg) :: st)) : KW p l e R s m args below meth c cells slots Q D A ct a nL M pc lv (.int i :: .ref b :: st) := fun H locs ls hP hS hl => va_sld C.1.1 C.1.2.1 hX hbl hbA hS hin hd (k H locs ls hP hS hl)
theorem q_slen {b L : Nat} {xs : Nat → Int32} (C : Cx p s m args meth c cc nL own ret D A ct a) (hX : va_X b L xs s s.heap) (hbl : b < s.heap.size) (hbA : ¬ A b) (hd : decode cc pc = .ok (.arraylength, 1)) (k : KW p l e R s m args below meth c cells slots Q D A ct a nL M (pc + 1) lv (.int (Int32.ofNat L) :: st)) : KW p l e R s m args below meth c cells slots Q D A ct a nL M pc lv (.ref b :: st) := fun H locs ls hP hS hl => va_slen C.1.1 C.1.2.1 hX hbl hbA hS hd (k H locs ls hP hS hl)
end LAWQ
theorem vin_k {k L : Nat} (hk : k + 6 ≤ L) (hL : L ≤ 3072) (j : Nat) (hj : j < 6) {v : Int32} (hv : v = nI j) : vp_in (nI k + v) L := by
  rw [hv, nA]
  exact vp_in_nI (by omega) (by omega)
abbrev LA (s : State) : Nat → Prop := fun q => s.heap.size ≤ q
abbrev LKW (p : Program) (l : Launch) (e : Env) (s : State) (m : MethodId) (below : List Frame) (meth : Method) (c : Code) (D : va_G) (ct : Nat → ClassId) (a : Nat → Nat) (b k : Nat) (M : Mm) (pc : Nat) (st : List Value) : Prop :=
  KW p l e room_1 s m #[Value.ref b] below meth c 600000 7302250 (lw_Z below #[Value.ref b] s) D (LA s) ct a 4 M pc [some (.ref b), some (.ref (a 0)), some (.ref (a 44)), some (.int (nI k))] st
abbrev LCx (p : Program) (s : State) (m : MethodId) (meth : Method) (c : Code) (D : va_G) (ct : Nat → ClassId) (a : Nat → Nat) (b : Nat) : Prop := Cx p s m #[Value.ref b] meth c cL_law 4 RL ret D (LA s) ct a
section LAWC
variable {p : Program} {l : Launch} {e : Env} {s : State} {m : MethodId} {below : List Frame} {meth : Method} {c : Code} {D : va_G} {ct : Nat → ClassId} {a : Nat → Nat} {b L k : Nat} {xs : Nat → Int32} {M : Mm}
theorem lw_case_0 (C : LCx p s m meth c D ct a b) (hX : va_X b L xs s s.heap) (hbl : b < s.heap.size) (hbA : ¬ LA s b) (hL : L ≤ 3072) (hk : k + 6 ≤ L) (h : RX M M) (next : ∀ M1, RX M1 M1 → LKW p l e s m below meth c D ct a b k M1 1251 []) : LKW p l e s m below meth c D ct a b k M 204 [] := by
  refine q_aload1 C dL_law_204 ?_
  refine q_aload0 C dL_law_205 ?_
  refine q_iload3 C dL_law_206 ?_
  refine q_iconst (v := 1) C dL_law_207 (by decide) ?_
  refine q_iadd C dL_law_208 ?_
  refine q_sld C hX hbl hbA (vin_k hk hL 1 (by decide) (by decide)) dL_law_209 ?_
  refine q_aload0 C dL_law_210 ?_
  refine q_iload3 C dL_law_211 ?_
  refine q_iconst (v := 2) C dL_law_212 (by decide) ?_
  refine q_iadd C dL_law_213 ?_
  refine q_sld C hX hbl hbA (vin_k hk hL 2 (by decide) (by decide)) dL_law_214 ?_
  refine q_aload0 C dL_law_215 ?_
  refine q_iload3 C dL_law_216 ?_
  refine q_iconst (v := 3) C dL_law_217 (by decide) ?_
  refine q_iadd C dL_law_218 ?_
  refine q_sld C hX hbl hbA (vin_k hk hL 3 (by decide) (by decide)) dL_law_219 ?_
  refine qc_VI C (k6_stroke h (xs (nI k + 1).toNatClampNeg) (xs (nI k + 2).toNatClampNeg) (xs (nI k + 3).toNatClampNeg)) cw_L_13 rfl rfl rfl rfl (Nat.le_of_ble_eq_true rfl) ⟨(Nat.le_of_ble_eq_true rfl), (Nat.le_of_ble_eq_true rfl)⟩ ⟨(Nat.le_of_ble_eq_true rfl), (Nat.le_of_ble_eq_true rfl)⟩ dL_law_220 ?_
  refine q_aload2 C dL_law_223 ?_
  refine q_aload0 C dL_law_224 ?_
  refine q_iload3 C dL_law_225 ?_
  refine q_iconst (v := 1) C dL_law_226 (by decide) ?_
  refine q_iadd C dL_law_227 ?_
  refine q_sld C hX hbl hbA (vin_k hk hL 1 (by decide) (by decide)) dL_law_228 ?_
  refine q_aload0 C dL_law_229 ?_
  refine q_iload3 C dL_law_230 ?_
  refine q_iconst (v := 2) C dL_law_231 (by decide) ?_
  refine q_iadd C dL_law_232 ?_
  refine q_sld C hX hbl hbA (vin_k hk hL 2 (by decide) (by decide)) dL_law_233 ?_
  refine q_aload0 C dL_law_234 ?_
  refine q_iload3 C dL_law_235 ?_
  refine q_iconst (v := 3) C dL_law_236 (by decide) ?_
  refine q_iadd C dL_law_237 ?_
  refine q_sld C hX hbl hbA (vin_k hk hL 3 (by decide) (by decide)) dL_law_238 ?_
  refine qc_VI C (k7_stroke (gx_stroke h (xs (nI k + 1).toNatClampNeg) (xs (nI k + 2).toNatClampNeg) (xs (nI k + 3).toNatClampNeg)) (xs (nI k + 1).toNatClampNeg) (xs (nI k + 2).toNatClampNeg) (xs (nI k + 3).toNatClampNeg)) cw_L_17 rfl rfl rfl rfl (Nat.le_of_ble_eq_true rfl) ⟨(Nat.le_of_ble_eq_true rfl), (Nat.le_of_ble_eq_true rfl)⟩ ⟨(Nat.le_of_ble_eq_true rfl), (Nat.le_of_ble_eq_true rfl)⟩ dL_law_239 ?_
  exact q_icmp_eq (tgt := 1251) C dL_law_242 (by decide) (fun _ => next _ (rx_stroke h (xs (nI k + 1).toNatClampNeg) (xs (nI k + 2).toNatClampNeg) (xs (nI k + 3).toNatClampNeg)).2) (fun n => absurd (rx_stroke h (xs (nI k + 1).toNatClampNeg) (xs (nI k + 2).toNatClampNeg) (xs (nI k + 3).toNatClampNeg)).1 n)
theorem lw_case_1 (C : LCx p s m meth c D ct a b) (hX : va_X b L xs s s.heap) (hbl : b < s.heap.size) (hbA : ¬ LA s b) (hL : L ≤ 3072) (hk : k + 6 ≤ L) (h : RX M M) (next : ∀ M1, RX M1 M1 → LKW p l e s m below meth c D ct a b k M1 1251 []) : LKW p l e s m below meth c D ct a b k M 247 [] := by
  refine q_aload1 C dL_law_247 ?_
  refine q_aload0 C dL_law_248 ?_
  refine q_iload3 C dL_law_249 ?_
  refine q_iconst (v := 1) C dL_law_250 (by decide) ?_
  refine q_iadd C dL_law_251 ?_
  refine q_sld C hX hbl hbA (vin_k hk hL 1 (by decide) (by decide)) dL_law_252 ?_
  refine qc_VI C (k6_cut h (xs (nI k + 1).toNatClampNeg)) cw_L_18 rfl rfl rfl rfl (Nat.le_of_ble_eq_true rfl) ⟨(Nat.le_of_ble_eq_true rfl), (Nat.le_of_ble_eq_true rfl)⟩ ⟨(Nat.le_of_ble_eq_true rfl), (Nat.le_of_ble_eq_true rfl)⟩ dL_law_253 ?_
  refine q_aload2 C dL_law_256 ?_
  refine q_aload0 C dL_law_257 ?_
  refine q_iload3 C dL_law_258 ?_
  refine q_iconst (v := 1) C dL_law_259 (by decide) ?_
  refine q_iadd C dL_law_260 ?_
  refine q_sld C hX hbl hbA (vin_k hk hL 1 (by decide) (by decide)) dL_law_261 ?_
  refine qc_VI C (k7_cut (gx_cut h (xs (nI k + 1).toNatClampNeg)) (xs (nI k + 1).toNatClampNeg)) cw_L_22 rfl rfl rfl rfl (Nat.le_of_ble_eq_true rfl) ⟨(Nat.le_of_ble_eq_true rfl), (Nat.le_of_ble_eq_true rfl)⟩ ⟨(Nat.le_of_ble_eq_true rfl), (Nat.le_of_ble_eq_true rfl)⟩ dL_law_262 ?_
  exact q_icmp_eq (tgt := 1251) C dL_law_265 (by decide) (fun _ => next _ (rx_cut h (xs (nI k + 1).toNatClampNeg)).2) (fun n => absurd (rx_cut h (xs (nI k + 1).toNatClampNeg)).1 n)
theorem lw_case_2 (C : LCx p s m meth c D ct a b) (hX : va_X b L xs s s.heap) (hbl : b < s.heap.size) (hbA : ¬ LA s b) (hL : L ≤ 3072) (hk : k + 6 ≤ L) (h : RX M M) (next : ∀ M1, RX M1 M1 → LKW p l e s m below meth c D ct a b k M1 1251 []) : LKW p l e s m below meth c D ct a b k M 270 [] := by
  refine q_aload1 C dL_law_270 ?_
  refine q_aload0 C dL_law_271 ?_
  refine q_iload3 C dL_law_272 ?_
  refine q_iconst (v := 1) C dL_law_273 (by decide) ?_
  refine q_iadd C dL_law_274 ?_
  refine q_sld C hX hbl hbA (vin_k hk hL 1 (by decide) (by decide)) dL_law_275 ?_
  refine q_aload0 C dL_law_276 ?_
  refine q_iload3 C dL_law_277 ?_
  refine q_iconst (v := 2) C dL_law_278 (by decide) ?_
  refine q_iadd C dL_law_279 ?_
  refine q_sld C hX hbl hbA (vin_k hk hL 2 (by decide) (by decide)) dL_law_280 ?_
  refine qc_VI C (k6_place h (xs (nI k + 1).toNatClampNeg) (xs (nI k + 2).toNatClampNeg)) cw_L_23 rfl rfl rfl rfl (Nat.le_of_ble_eq_true rfl) ⟨(Nat.le_of_ble_eq_true rfl), (Nat.le_of_ble_eq_true rfl)⟩ ⟨(Nat.le_of_ble_eq_true rfl), (Nat.le_of_ble_eq_true rfl)⟩ dL_law_281 ?_
  refine q_aload2 C dL_law_284 ?_
  refine q_aload0 C dL_law_285 ?_
  refine q_iload3 C dL_law_286 ?_
  refine q_iconst (v := 1) C dL_law_287 (by decide) ?_
  refine q_iadd C dL_law_288 ?_
  refine q_sld C hX hbl hbA (vin_k hk hL 1 (by decide) (by decide)) dL_law_289 ?_
  refine q_aload0 C dL_law_290 ?_
  refine q_iload3 C dL_law_291 ?_
  refine q_iconst (v := 2) C dL_law_292 (by decide) ?_
  refine q_iadd C dL_law_293 ?_
  refine q_sld C hX hbl hbA (vin_k hk hL 2 (by decide) (by decide)) dL_law_294 ?_
  refine qc_VI C (k7_place h (xs (nI k + 1).toNatClampNeg) (xs (nI k + 2).toNatClampNeg)) cw_L_27 rfl rfl rfl rfl (Nat.le_of_ble_eq_true rfl) ⟨(Nat.le_of_ble_eq_true rfl), (Nat.le_of_ble_eq_true rfl)⟩ ⟨(Nat.le_of_ble_eq_true rfl), (Nat.le_of_ble_eq_true rfl)⟩ dL_law_295 ?_
  exact q_icmp_eq (tgt := 1251) C dL_law_298 (by decide) (fun _ => next _ h) (fun n => absurd (sim_place h.1 (xs (nI k + 1).toNatClampNeg) (xs (nI k + 2).toNatClampNeg)) n)
theorem lw_case_3 (C : LCx p s m meth c D ct a b) (hX : va_X b L xs s s.heap) (hbl : b < s.heap.size) (hbA : ¬ LA s b) (hL : L ≤ 3072) (hk : k + 6 ≤ L) (h : RX M M) (next : ∀ M1, RX M1 M1 → LKW p l e s m below meth c D ct a b k M1 1251 []) : LKW p l e s m below meth c D ct a b k M 303 [] := by
  refine q_aload1 C dL_law_303 ?_
  refine qc_VI C (k6_spread h) cw_L_28 rfl rfl rfl rfl (Nat.le_of_ble_eq_true rfl) ⟨(Nat.le_of_ble_eq_true rfl), (Nat.le_of_ble_eq_true rfl)⟩ ⟨(Nat.le_of_ble_eq_true rfl), (Nat.le_of_ble_eq_true rfl)⟩ dL_law_304 ?_
  refine q_aload2 C dL_law_307 ?_
  refine qc_VI C (k7_spread h) cw_L_32 rfl rfl rfl rfl (Nat.le_of_ble_eq_true rfl) ⟨(Nat.le_of_ble_eq_true rfl), (Nat.le_of_ble_eq_true rfl)⟩ ⟨(Nat.le_of_ble_eq_true rfl), (Nat.le_of_ble_eq_true rfl)⟩ dL_law_308 ?_
  exact q_icmp_eq (tgt := 1251) C dL_law_311 (by decide) (fun _ => next _ h) (fun n => absurd (sim_spread h.1) n)
theorem lw_case_4 (C : LCx p s m meth c D ct a b) (hX : va_X b L xs s s.heap) (hbl : b < s.heap.size) (hbA : ¬ LA s b) (hL : L ≤ 3072) (hk : k + 6 ≤ L) (h : RX M M) (next : ∀ M1, RX M1 M1 → LKW p l e s m below meth c D ct a b k M1 1251 []) : LKW p l e s m below meth c D ct a b k M 316 [] := by
  refine q_aload1 C dL_law_316 ?_
  refine q_aload0 C dL_law_317 ?_
  refine q_iload3 C dL_law_318 ?_
  refine q_iconst (v := 1) C dL_law_319 (by decide) ?_
  refine q_iadd C dL_law_320 ?_
  refine q_sld C hX hbl hbA (vin_k hk hL 1 (by decide) (by decide)) dL_law_321 ?_
  refine qc_VI C (k6_strokeSpread h (xs (nI k + 1).toNatClampNeg)) cw_L_33 rfl rfl rfl rfl (Nat.le_of_ble_eq_true rfl) ⟨(Nat.le_of_ble_eq_true rfl), (Nat.le_of_ble_eq_true rfl)⟩ ⟨(Nat.le_of_ble_eq_true rfl), (Nat.le_of_ble_eq_true rfl)⟩ dL_law_322 ?_
  refine q_aload2 C dL_law_325 ?_
  refine q_aload0 C dL_law_326 ?_
  refine q_iload3 C dL_law_327 ?_
  refine q_iconst (v := 1) C dL_law_328 (by decide) ?_
  refine q_iadd C dL_law_329 ?_
  refine q_sld C hX hbl hbA (vin_k hk hL 1 (by decide) (by decide)) dL_law_330 ?_
  refine qc_VI C (k7_strokeSpread h (xs (nI k + 1).toNatClampNeg)) cw_L_36 rfl rfl rfl rfl (Nat.le_of_ble_eq_true rfl) ⟨(Nat.le_of_ble_eq_true rfl), (Nat.le_of_ble_eq_true rfl)⟩ ⟨(Nat.le_of_ble_eq_true rfl), (Nat.le_of_ble_eq_true rfl)⟩ dL_law_331 ?_
  exact q_icmp_eq (tgt := 1251) C dL_law_334 (by decide) (fun _ => next _ h) (fun n => absurd (sim_strokeSpread h.1 (xs (nI k + 1).toNatClampNeg)) n)
theorem lw_case_5 (C : LCx p s m meth c D ct a b) (hX : va_X b L xs s s.heap) (hbl : b < s.heap.size) (hbA : ¬ LA s b) (hL : L ≤ 3072) (hk : k + 6 ≤ L) (h : RX M M) (next : ∀ M1, RX M1 M1 → LKW p l e s m below meth c D ct a b k M1 1251 []) : LKW p l e s m below meth c D ct a b k M 339 [] := by
  refine q_aload1 C dL_law_339 ?_
  refine qc_VI C (k6_clear h) cw_L_37 rfl rfl rfl rfl (Nat.le_of_ble_eq_true rfl) ⟨(Nat.le_of_ble_eq_true rfl), (Nat.le_of_ble_eq_true rfl)⟩ ⟨(Nat.le_of_ble_eq_true rfl), (Nat.le_of_ble_eq_true rfl)⟩ dL_law_340 ?_
  refine q_aload2 C dL_law_343 ?_
  refine qc_VI C (k7_clear (gx_clear h)) cw_L_40 rfl rfl rfl rfl (Nat.le_of_ble_eq_true rfl) ⟨(Nat.le_of_ble_eq_true rfl), (Nat.le_of_ble_eq_true rfl)⟩ ⟨(Nat.le_of_ble_eq_true rfl), (Nat.le_of_ble_eq_true rfl)⟩ dL_law_344 ?_
  exact q_icmp_eq (tgt := 1251) C dL_law_347 (by decide) (fun _ => next _ (rx_clear h).2) (fun n => absurd (rx_clear h).1 n)
theorem lw_case_6 (C : LCx p s m meth c D ct a b) (hX : va_X b L xs s s.heap) (hbl : b < s.heap.size) (hbA : ¬ LA s b) (hL : L ≤ 3072) (hk : k + 6 ≤ L) (h : RX M M) (next : ∀ M1, RX M1 M1 → LKW p l e s m below meth c D ct a b k M1 1251 []) : LKW p l e s m below meth c D ct a b k M 352 [] := by
  refine q_aload1 C dL_law_352 ?_
  refine q_aload0 C dL_law_353 ?_
  refine q_iload3 C dL_law_354 ?_
  refine q_iconst (v := 1) C dL_law_355 (by decide) ?_
  refine q_iadd C dL_law_356 ?_
  refine q_sld C hX hbl hbA (vin_k hk hL 1 (by decide) (by decide)) dL_law_357 ?_
  refine q_aload0 C dL_law_358 ?_
  refine q_iload3 C dL_law_359 ?_
  refine q_iconst (v := 2) C dL_law_360 (by decide) ?_
  refine q_iadd C dL_law_361 ?_
  refine q_sld C hX hbl hbA (vin_k hk hL 2 (by decide) (by decide)) dL_law_362 ?_
  refine q_aload0 C dL_law_363 ?_
  refine q_iload3 C dL_law_364 ?_
  refine q_iconst (v := 3) C dL_law_365 (by decide) ?_
  refine q_iadd C dL_law_366 ?_
  refine q_sld C hX hbl hbA (vin_k hk hL 3 (by decide) (by decide)) dL_law_367 ?_
  refine q_aload0 C dL_law_368 ?_
  refine q_iload3 C dL_law_369 ?_
  refine q_iconst (v := 4) C dL_law_370 (by decide) ?_
  refine q_iadd C dL_law_371 ?_
  refine q_sld C hX hbl hbA (vin_k hk hL 4 (by decide) (by decide)) dL_law_372 ?_
  refine qc_VI C (k6_stock h (xs (nI k + 1).toNatClampNeg) (xs (nI k + 2).toNatClampNeg) (xs (nI k + 3).toNatClampNeg) (xs (nI k + 4).toNatClampNeg)) cw_L_41 rfl rfl rfl rfl (Nat.le_of_ble_eq_true rfl) ⟨(Nat.le_of_ble_eq_true rfl), (Nat.le_of_ble_eq_true rfl)⟩ ⟨(Nat.le_of_ble_eq_true rfl), (Nat.le_of_ble_eq_true rfl)⟩ dL_law_373 ?_
  refine q_aload2 C dL_law_376 ?_
  refine q_aload0 C dL_law_377 ?_
  refine q_iload3 C dL_law_378 ?_
  refine q_iconst (v := 1) C dL_law_379 (by decide) ?_
  refine q_iadd C dL_law_380 ?_
  refine q_sld C hX hbl hbA (vin_k hk hL 1 (by decide) (by decide)) dL_law_381 ?_
  refine q_aload0 C dL_law_382 ?_
  refine q_iload3 C dL_law_383 ?_
  refine q_iconst (v := 2) C dL_law_384 (by decide) ?_
  refine q_iadd C dL_law_385 ?_
  refine q_sld C hX hbl hbA (vin_k hk hL 2 (by decide) (by decide)) dL_law_386 ?_
  refine q_aload0 C dL_law_387 ?_
  refine q_iload3 C dL_law_388 ?_
  refine q_iconst (v := 3) C dL_law_389 (by decide) ?_
  refine q_iadd C dL_law_390 ?_
  refine q_sld C hX hbl hbA (vin_k hk hL 3 (by decide) (by decide)) dL_law_391 ?_
  refine q_aload0 C dL_law_392 ?_
  refine q_iload3 C dL_law_393 ?_
  refine q_iconst (v := 4) C dL_law_394 (by decide) ?_
  refine q_iadd C dL_law_395 ?_
  refine q_sld C hX hbl hbA (vin_k hk hL 4 (by decide) (by decide)) dL_law_396 ?_
  refine qc_VI C (k7_stock (gx_stock h (xs (nI k + 1).toNatClampNeg) (xs (nI k + 2).toNatClampNeg) (xs (nI k + 3).toNatClampNeg) (xs (nI k + 4).toNatClampNeg)) (xs (nI k + 1).toNatClampNeg) (xs (nI k + 2).toNatClampNeg) (xs (nI k + 3).toNatClampNeg) (xs (nI k + 4).toNatClampNeg)) cw_L_45 rfl rfl rfl rfl (Nat.le_of_ble_eq_true rfl) ⟨(Nat.le_of_ble_eq_true rfl), (Nat.le_of_ble_eq_true rfl)⟩ ⟨(Nat.le_of_ble_eq_true rfl), (Nat.le_of_ble_eq_true rfl)⟩ dL_law_397 ?_
  exact q_icmp_eq (tgt := 1251) C dL_law_400 (by decide) (fun _ => next _ (rx_stock h (xs (nI k + 1).toNatClampNeg) (xs (nI k + 2).toNatClampNeg) (xs (nI k + 3).toNatClampNeg) (xs (nI k + 4).toNatClampNeg)).2) (fun n => absurd (rx_stock h (xs (nI k + 1).toNatClampNeg) (xs (nI k + 2).toNatClampNeg) (xs (nI k + 3).toNatClampNeg) (xs (nI k + 4).toNatClampNeg)).1 n)
theorem lw_case_7 (C : LCx p s m meth c D ct a b) (hX : va_X b L xs s s.heap) (hbl : b < s.heap.size) (hbA : ¬ LA s b) (hL : L ≤ 3072) (hk : k + 6 ≤ L) (h : RX M M) (next : ∀ M1, RX M1 M1 → LKW p l e s m below meth c D ct a b k M1 1251 []) : LKW p l e s m below meth c D ct a b k M 405 [] := by
  refine q_aload1 C dL_law_405 ?_
  refine q_aload0 C dL_law_406 ?_
  refine q_iload3 C dL_law_407 ?_
  refine q_iconst (v := 1) C dL_law_408 (by decide) ?_
  refine q_iadd C dL_law_409 ?_
  refine q_sld C hX hbl hbA (vin_k hk hL 1 (by decide) (by decide)) dL_law_410 ?_
  refine q_aload0 C dL_law_411 ?_
  refine q_iload3 C dL_law_412 ?_
  refine q_iconst (v := 2) C dL_law_413 (by decide) ?_
  refine q_iadd C dL_law_414 ?_
  refine q_sld C hX hbl hbA (vin_k hk hL 2 (by decide) (by decide)) dL_law_415 ?_
  refine q_aload0 C dL_law_416 ?_
  refine q_iload3 C dL_law_417 ?_
  refine q_iconst (v := 3) C dL_law_418 (by decide) ?_
  refine q_iadd C dL_law_419 ?_
  refine q_sld C hX hbl hbA (vin_k hk hL 3 (by decide) (by decide)) dL_law_420 ?_
  refine qc_VI C (k6_share h (xs (nI k + 1).toNatClampNeg) (xs (nI k + 2).toNatClampNeg) (xs (nI k + 3).toNatClampNeg)) cw_L_46 rfl rfl rfl rfl (Nat.le_of_ble_eq_true rfl) ⟨(Nat.le_of_ble_eq_true rfl), (Nat.le_of_ble_eq_true rfl)⟩ ⟨(Nat.le_of_ble_eq_true rfl), (Nat.le_of_ble_eq_true rfl)⟩ dL_law_421 ?_
  refine q_aload2 C dL_law_424 ?_
  refine q_aload0 C dL_law_425 ?_
  refine q_iload3 C dL_law_426 ?_
  refine q_iconst (v := 1) C dL_law_427 (by decide) ?_
  refine q_iadd C dL_law_428 ?_
  refine q_sld C hX hbl hbA (vin_k hk hL 1 (by decide) (by decide)) dL_law_429 ?_
  refine q_aload0 C dL_law_430 ?_
  refine q_iload3 C dL_law_431 ?_
  refine q_iconst (v := 2) C dL_law_432 (by decide) ?_
  refine q_iadd C dL_law_433 ?_
  refine q_sld C hX hbl hbA (vin_k hk hL 2 (by decide) (by decide)) dL_law_434 ?_
  refine q_aload0 C dL_law_435 ?_
  refine q_iload3 C dL_law_436 ?_
  refine q_iconst (v := 3) C dL_law_437 (by decide) ?_
  refine q_iadd C dL_law_438 ?_
  refine q_sld C hX hbl hbA (vin_k hk hL 3 (by decide) (by decide)) dL_law_439 ?_
  refine qc_VI C (k7_share (gx_share h (xs (nI k + 1).toNatClampNeg) (xs (nI k + 2).toNatClampNeg) (xs (nI k + 3).toNatClampNeg)) (xs (nI k + 1).toNatClampNeg) (xs (nI k + 2).toNatClampNeg) (xs (nI k + 3).toNatClampNeg)) cw_L_49 rfl rfl rfl rfl (Nat.le_of_ble_eq_true rfl) ⟨(Nat.le_of_ble_eq_true rfl), (Nat.le_of_ble_eq_true rfl)⟩ ⟨(Nat.le_of_ble_eq_true rfl), (Nat.le_of_ble_eq_true rfl)⟩ dL_law_440 ?_
  exact q_icmp_eq (tgt := 1251) C dL_law_443 (by decide) (fun _ => next _ (rx_share h (xs (nI k + 1).toNatClampNeg) (xs (nI k + 2).toNatClampNeg) (xs (nI k + 3).toNatClampNeg)).2) (fun n => absurd (rx_share h (xs (nI k + 1).toNatClampNeg) (xs (nI k + 2).toNatClampNeg) (xs (nI k + 3).toNatClampNeg)).1 n)
theorem lw_case_8 (C : LCx p s m meth c D ct a b) (hX : va_X b L xs s s.heap) (hbl : b < s.heap.size) (hbA : ¬ LA s b) (hL : L ≤ 3072) (hk : k + 6 ≤ L) (h : RX M M) (next : ∀ M1, RX M1 M1 → LKW p l e s m below meth c D ct a b k M1 1251 []) : LKW p l e s m below meth c D ct a b k M 448 [] := by
  refine q_aload1 C dL_law_448 ?_
  refine q_aload0 C dL_law_449 ?_
  refine q_iload3 C dL_law_450 ?_
  refine q_iconst (v := 1) C dL_law_451 (by decide) ?_
  refine q_iadd C dL_law_452 ?_
  refine q_sld C hX hbl hbA (vin_k hk hL 1 (by decide) (by decide)) dL_law_453 ?_
  refine qc_VI C (k6_shareOf h (xs (nI k + 1).toNatClampNeg)) cw_L_50 rfl rfl rfl rfl (Nat.le_of_ble_eq_true rfl) ⟨(Nat.le_of_ble_eq_true rfl), (Nat.le_of_ble_eq_true rfl)⟩ ⟨(Nat.le_of_ble_eq_true rfl), (Nat.le_of_ble_eq_true rfl)⟩ dL_law_454 ?_
  refine q_aload2 C dL_law_457 ?_
  refine q_aload0 C dL_law_458 ?_
  refine q_iload3 C dL_law_459 ?_
  refine q_iconst (v := 1) C dL_law_460 (by decide) ?_
  refine q_iadd C dL_law_461 ?_
  refine q_sld C hX hbl hbA (vin_k hk hL 1 (by decide) (by decide)) dL_law_462 ?_
  refine qc_VI C (k7_shareOf h (xs (nI k + 1).toNatClampNeg)) cw_L_53 rfl rfl rfl rfl (Nat.le_of_ble_eq_true rfl) ⟨(Nat.le_of_ble_eq_true rfl), (Nat.le_of_ble_eq_true rfl)⟩ ⟨(Nat.le_of_ble_eq_true rfl), (Nat.le_of_ble_eq_true rfl)⟩ dL_law_463 ?_
  exact q_icmp_eq (tgt := 1251) C dL_law_466 (by decide) (fun _ => next _ h) (fun n => absurd (sim_shareOf h.2.2.2.1 (xs (nI k + 1).toNatClampNeg)) n)
theorem lw_case_9 (C : LCx p s m meth c D ct a b) (hX : va_X b L xs s s.heap) (hbl : b < s.heap.size) (hbA : ¬ LA s b) (hL : L ≤ 3072) (hk : k + 6 ≤ L) (h : RX M M) (next : ∀ M1, RX M1 M1 → LKW p l e s m below meth c D ct a b k M1 1251 []) : LKW p l e s m below meth c D ct a b k M 471 [] := by
  refine q_aload1 C dL_law_471 ?_
  refine q_aload0 C dL_law_472 ?_
  refine q_iload3 C dL_law_473 ?_
  refine q_iconst (v := 1) C dL_law_474 (by decide) ?_
  refine q_iadd C dL_law_475 ?_
  refine q_sld C hX hbl hbA (vin_k hk hL 1 (by decide) (by decide)) dL_law_476 ?_
  refine qc_VI C (k6_mix h (xs (nI k + 1).toNatClampNeg)) cw_L_54 rfl rfl rfl rfl (Nat.le_of_ble_eq_true rfl) ⟨(Nat.le_of_ble_eq_true rfl), (Nat.le_of_ble_eq_true rfl)⟩ ⟨(Nat.le_of_ble_eq_true rfl), (Nat.le_of_ble_eq_true rfl)⟩ dL_law_477 ?_
  refine q_aload2 C dL_law_480 ?_
  refine q_aload0 C dL_law_481 ?_
  refine q_iload3 C dL_law_482 ?_
  refine q_iconst (v := 1) C dL_law_483 (by decide) ?_
  refine q_iadd C dL_law_484 ?_
  refine q_sld C hX hbl hbA (vin_k hk hL 1 (by decide) (by decide)) dL_law_485 ?_
  refine qc_VI C (k7_mix h (xs (nI k + 1).toNatClampNeg)) cw_L_57 rfl rfl rfl rfl (Nat.le_of_ble_eq_true rfl) ⟨(Nat.le_of_ble_eq_true rfl), (Nat.le_of_ble_eq_true rfl)⟩ ⟨(Nat.le_of_ble_eq_true rfl), (Nat.le_of_ble_eq_true rfl)⟩ dL_law_486 ?_
  exact q_icmp_eq (tgt := 1251) C dL_law_489 (by decide) (fun _ => next _ h) (fun n => absurd (sim_mix h.2.2.2.1 (xs (nI k + 1).toNatClampNeg)) n)
theorem lw_case_10 (C : LCx p s m meth c D ct a b) (hX : va_X b L xs s s.heap) (hbl : b < s.heap.size) (hbA : ¬ LA s b) (hL : L ≤ 3072) (hk : k + 6 ≤ L) (h : RX M M) (next : ∀ M1, RX M1 M1 → LKW p l e s m below meth c D ct a b k M1 1251 []) : LKW p l e s m below meth c D ct a b k M 494 [] := by
  refine q_aload1 C dL_law_494 ?_
  refine qc_VI C (k6_number h) cw_L_58 rfl rfl rfl rfl (Nat.le_of_ble_eq_true rfl) ⟨(Nat.le_of_ble_eq_true rfl), (Nat.le_of_ble_eq_true rfl)⟩ ⟨(Nat.le_of_ble_eq_true rfl), (Nat.le_of_ble_eq_true rfl)⟩ dL_law_495 ?_
  refine q_aload2 C dL_law_498 ?_
  refine qc_VI C (k7_number (gx_number h)) cw_L_61 rfl rfl rfl rfl (Nat.le_of_ble_eq_true rfl) ⟨(Nat.le_of_ble_eq_true rfl), (Nat.le_of_ble_eq_true rfl)⟩ ⟨(Nat.le_of_ble_eq_true rfl), (Nat.le_of_ble_eq_true rfl)⟩ dL_law_499 ?_
  exact q_icmp_eq (tgt := 1251) C dL_law_502 (by decide) (fun _ => next _ (rx_number h).2) (fun n => absurd (rx_number h).1 n)
theorem lw_case_11 (C : LCx p s m meth c D ct a b) (hX : va_X b L xs s s.heap) (hbl : b < s.heap.size) (hbA : ¬ LA s b) (hL : L ≤ 3072) (hk : k + 6 ≤ L) (h : RX M M) (next : ∀ M1, RX M1 M1 → LKW p l e s m below meth c D ct a b k M1 1251 []) : LKW p l e s m below meth c D ct a b k M 507 [] := by
  refine q_aload1 C dL_law_507 ?_
  refine q_aload0 C dL_law_508 ?_
  refine q_iload3 C dL_law_509 ?_
  refine q_iconst (v := 1) C dL_law_510 (by decide) ?_
  refine q_iadd C dL_law_511 ?_
  refine q_sld C hX hbl hbA (vin_k hk hL 1 (by decide) (by decide)) dL_law_512 ?_
  refine q_aload0 C dL_law_513 ?_
  refine q_iload3 C dL_law_514 ?_
  refine q_iconst (v := 2) C dL_law_515 (by decide) ?_
  refine q_iadd C dL_law_516 ?_
  refine q_sld C hX hbl hbA (vin_k hk hL 2 (by decide) (by decide)) dL_law_517 ?_
  refine qc_VI C (k6_aim h (xs (nI k + 1).toNatClampNeg) (xs (nI k + 2).toNatClampNeg)) cw_L_62 rfl rfl rfl rfl (Nat.le_of_ble_eq_true rfl) ⟨(Nat.le_of_ble_eq_true rfl), (Nat.le_of_ble_eq_true rfl)⟩ ⟨(Nat.le_of_ble_eq_true rfl), (Nat.le_of_ble_eq_true rfl)⟩ dL_law_518 ?_
  refine q_aload2 C dL_law_521 ?_
  refine q_aload0 C dL_law_522 ?_
  refine q_iload3 C dL_law_523 ?_
  refine q_iconst (v := 1) C dL_law_524 (by decide) ?_
  refine q_iadd C dL_law_525 ?_
  refine q_sld C hX hbl hbA (vin_k hk hL 1 (by decide) (by decide)) dL_law_526 ?_
  refine q_aload0 C dL_law_527 ?_
  refine q_iload3 C dL_law_528 ?_
  refine q_iconst (v := 2) C dL_law_529 (by decide) ?_
  refine q_iadd C dL_law_530 ?_
  refine q_sld C hX hbl hbA (vin_k hk hL 2 (by decide) (by decide)) dL_law_531 ?_
  refine qc_VI C (k7_aim (gx_aim h (xs (nI k + 1).toNatClampNeg) (xs (nI k + 2).toNatClampNeg)) (xs (nI k + 1).toNatClampNeg) (xs (nI k + 2).toNatClampNeg)) cw_L_65 rfl rfl rfl rfl (Nat.le_of_ble_eq_true rfl) ⟨(Nat.le_of_ble_eq_true rfl), (Nat.le_of_ble_eq_true rfl)⟩ ⟨(Nat.le_of_ble_eq_true rfl), (Nat.le_of_ble_eq_true rfl)⟩ dL_law_532 ?_
  exact q_icmp_eq (tgt := 1251) C dL_law_535 (by decide) (fun _ => next _ (rx_aim h (xs (nI k + 1).toNatClampNeg) (xs (nI k + 2).toNatClampNeg)).2) (fun n => absurd (rx_aim h (xs (nI k + 1).toNatClampNeg) (xs (nI k + 2).toNatClampNeg)).1 n)
theorem lw_case_12 (C : LCx p s m meth c D ct a b) (hX : va_X b L xs s s.heap) (hbl : b < s.heap.size) (hbA : ¬ LA s b) (hL : L ≤ 3072) (hk : k + 6 ≤ L) (h : RX M M) (next : ∀ M1, RX M1 M1 → LKW p l e s m below meth c D ct a b k M1 1251 []) : LKW p l e s m below meth c D ct a b k M 540 [] := by
  refine q_aload1 C dL_law_540 ?_
  refine q_aload0 C dL_law_541 ?_
  refine q_iload3 C dL_law_542 ?_
  refine q_iconst (v := 1) C dL_law_543 (by decide) ?_
  refine q_iadd C dL_law_544 ?_
  refine q_sld C hX hbl hbA (vin_k hk hL 1 (by decide) (by decide)) dL_law_545 ?_
  refine q_aload0 C dL_law_546 ?_
  refine q_iload3 C dL_law_547 ?_
  refine q_iconst (v := 2) C dL_law_548 (by decide) ?_
  refine q_iadd C dL_law_549 ?_
  refine q_sld C hX hbl hbA (vin_k hk hL 2 (by decide) (by decide)) dL_law_550 ?_
  refine qc_VI C (k6_rule h (xs (nI k + 1).toNatClampNeg) (xs (nI k + 2).toNatClampNeg)) cw_L_66 rfl rfl rfl rfl (Nat.le_of_ble_eq_true rfl) ⟨(Nat.le_of_ble_eq_true rfl), (Nat.le_of_ble_eq_true rfl)⟩ ⟨(Nat.le_of_ble_eq_true rfl), (Nat.le_of_ble_eq_true rfl)⟩ dL_law_551 ?_
  refine q_aload2 C dL_law_554 ?_
  refine q_aload0 C dL_law_555 ?_
  refine q_iload3 C dL_law_556 ?_
  refine q_iconst (v := 1) C dL_law_557 (by decide) ?_
  refine q_iadd C dL_law_558 ?_
  refine q_sld C hX hbl hbA (vin_k hk hL 1 (by decide) (by decide)) dL_law_559 ?_
  refine q_aload0 C dL_law_560 ?_
  refine q_iload3 C dL_law_561 ?_
  refine q_iconst (v := 2) C dL_law_562 (by decide) ?_
  refine q_iadd C dL_law_563 ?_
  refine q_sld C hX hbl hbA (vin_k hk hL 2 (by decide) (by decide)) dL_law_564 ?_
  refine qc_VI C (k7_rule (gx_rule h (xs (nI k + 1).toNatClampNeg) (xs (nI k + 2).toNatClampNeg)) (xs (nI k + 1).toNatClampNeg) (xs (nI k + 2).toNatClampNeg)) cw_L_69 rfl rfl rfl rfl (Nat.le_of_ble_eq_true rfl) ⟨(Nat.le_of_ble_eq_true rfl), (Nat.le_of_ble_eq_true rfl)⟩ ⟨(Nat.le_of_ble_eq_true rfl), (Nat.le_of_ble_eq_true rfl)⟩ dL_law_565 ?_
  exact q_icmp_eq (tgt := 1251) C dL_law_568 (by decide) (fun _ => next _ (rx_rule h (xs (nI k + 1).toNatClampNeg) (xs (nI k + 2).toNatClampNeg)).2) (fun n => absurd (rx_rule h (xs (nI k + 1).toNatClampNeg) (xs (nI k + 2).toNatClampNeg)).1 n)
theorem lw_case_13 (C : LCx p s m meth c D ct a b) (hX : va_X b L xs s s.heap) (hbl : b < s.heap.size) (hbA : ¬ LA s b) (hL : L ≤ 3072) (hk : k + 6 ≤ L) (h : RX M M) (next : ∀ M1, RX M1 M1 → LKW p l e s m below meth c D ct a b k M1 1251 []) : LKW p l e s m below meth c D ct a b k M 573 [] := by
  refine q_by (xs (nI k + 1).toNatClampNeg = 0) (fun q => ?_) (fun q => ?_)
  · refine q_aload1 C dL_law_573 ?_
    refine q_aload0 C dL_law_574 ?_
    refine q_iload3 C dL_law_575 ?_
    refine q_iconst (v := 1) C dL_law_576 (by decide) ?_
    refine q_iadd C dL_law_577 ?_
    refine q_sld C hX hbl hbA (vin_k hk hL 1 (by decide) (by decide)) dL_law_578 ?_
    refine q_if_eq (tgt := 586) C dL_law_579 (by decide) (fun _ => ?_) (fun n => absurd q n)
    refine q_iconst (v := 0) C dL_law_586 (by decide) ?_
    refine qc_VI C (k6_hour h (0 : Int32)) cw_L_70 rfl rfl rfl rfl (Nat.le_of_ble_eq_true rfl) ⟨(Nat.le_of_ble_eq_true rfl), (Nat.le_of_ble_eq_true rfl)⟩ ⟨(Nat.le_of_ble_eq_true rfl), (Nat.le_of_ble_eq_true rfl)⟩ dL_law_587 ?_
    refine q_aload2 C dL_law_590 ?_
    refine q_aload0 C dL_law_591 ?_
    refine q_iload3 C dL_law_592 ?_
    refine q_iconst (v := 1) C dL_law_593 (by decide) ?_
    refine q_iadd C dL_law_594 ?_
    refine q_sld C hX hbl hbA (vin_k hk hL 1 (by decide) (by decide)) dL_law_595 ?_
    refine q_if_eq (tgt := 603) C dL_law_596 (by decide) (fun _ => ?_) (fun n => absurd q n)
    refine q_iconst (v := 0) C dL_law_603 (by decide) ?_
    refine qc_VI C (k7_hour (gx_hour h (0 : Int32)) (0 : Int32)) cw_L_74 rfl rfl rfl rfl (Nat.le_of_ble_eq_true rfl) ⟨(Nat.le_of_ble_eq_true rfl), (Nat.le_of_ble_eq_true rfl)⟩ ⟨(Nat.le_of_ble_eq_true rfl), (Nat.le_of_ble_eq_true rfl)⟩ dL_law_604 ?_
    exact q_icmp_eq (tgt := 1251) C dL_law_607 (by decide) (fun _ => next _ (rx_hour h (0 : Int32)).2) (fun n => absurd (rx_hour h (0 : Int32)).1 n)
  · refine q_aload1 C dL_law_573 ?_
    refine q_aload0 C dL_law_574 ?_
    refine q_iload3 C dL_law_575 ?_
    refine q_iconst (v := 1) C dL_law_576 (by decide) ?_
    refine q_iadd C dL_law_577 ?_
    refine q_sld C hX hbl hbA (vin_k hk hL 1 (by decide) (by decide)) dL_law_578 ?_
    refine q_if_eq (tgt := 586) C dL_law_579 (by decide) (fun n => absurd n q) (fun _ => ?_)
    refine q_iconst (v := 1) C dL_law_582 (by decide) ?_
    refine q_goto (tgt := 587) C dL_law_583 (by decide) ?_
    refine qc_VI C (k6_hour h (1 : Int32)) cw_L_70 rfl rfl rfl rfl (Nat.le_of_ble_eq_true rfl) ⟨(Nat.le_of_ble_eq_true rfl), (Nat.le_of_ble_eq_true rfl)⟩ ⟨(Nat.le_of_ble_eq_true rfl), (Nat.le_of_ble_eq_true rfl)⟩ dL_law_587 ?_
    refine q_aload2 C dL_law_590 ?_
    refine q_aload0 C dL_law_591 ?_
    refine q_iload3 C dL_law_592 ?_
    refine q_iconst (v := 1) C dL_law_593 (by decide) ?_
    refine q_iadd C dL_law_594 ?_
    refine q_sld C hX hbl hbA (vin_k hk hL 1 (by decide) (by decide)) dL_law_595 ?_
    refine q_if_eq (tgt := 603) C dL_law_596 (by decide) (fun n => absurd n q) (fun _ => ?_)
    refine q_iconst (v := 1) C dL_law_599 (by decide) ?_
    refine q_goto (tgt := 604) C dL_law_600 (by decide) ?_
    refine qc_VI C (k7_hour (gx_hour h (1 : Int32)) (1 : Int32)) cw_L_74 rfl rfl rfl rfl (Nat.le_of_ble_eq_true rfl) ⟨(Nat.le_of_ble_eq_true rfl), (Nat.le_of_ble_eq_true rfl)⟩ ⟨(Nat.le_of_ble_eq_true rfl), (Nat.le_of_ble_eq_true rfl)⟩ dL_law_604 ?_
    exact q_icmp_eq (tgt := 1251) C dL_law_607 (by decide) (fun _ => next _ (rx_hour h (1 : Int32)).2) (fun n => absurd (rx_hour h (1 : Int32)).1 n)
theorem lw_case_14 (C : LCx p s m meth c D ct a b) (hX : va_X b L xs s s.heap) (hbl : b < s.heap.size) (hbA : ¬ LA s b) (hL : L ≤ 3072) (hk : k + 6 ≤ L) (h : RX M M) (next : ∀ M1, RX M1 M1 → LKW p l e s m below meth c D ct a b k M1 1251 []) : LKW p l e s m below meth c D ct a b k M 612 [] := by
  refine q_aload1 C dL_law_612 ?_
  refine qc_VI C (k6_read h) cw_L_75 rfl rfl rfl rfl (Nat.le_of_ble_eq_true rfl) ⟨(Nat.le_of_ble_eq_true rfl), (Nat.le_of_ble_eq_true rfl)⟩ ⟨(Nat.le_of_ble_eq_true rfl), (Nat.le_of_ble_eq_true rfl)⟩ dL_law_613 ?_
  refine q_aload2 C dL_law_616 ?_
  refine qc_VI C (k7_read h) cw_L_78 rfl rfl rfl rfl (Nat.le_of_ble_eq_true rfl) ⟨(Nat.le_of_ble_eq_true rfl), (Nat.le_of_ble_eq_true rfl)⟩ ⟨(Nat.le_of_ble_eq_true rfl), (Nat.le_of_ble_eq_true rfl)⟩ dL_law_617 ?_
  exact q_icmp_eq (tgt := 1251) C dL_law_620 (by decide) (fun _ => next _ h) (fun n => absurd (sim_read h.2.2.2.2.1) n)
theorem lw_case_15 (C : LCx p s m meth c D ct a b) (hX : va_X b L xs s s.heap) (hbl : b < s.heap.size) (hbA : ¬ LA s b) (hL : L ≤ 3072) (hk : k + 6 ≤ L) (h : RX M M) (next : ∀ M1, RX M1 M1 → LKW p l e s m below meth c D ct a b k M1 1251 []) : LKW p l e s m below meth c D ct a b k M 625 [] := by
  refine q_aload1 C dL_law_625 ?_
  refine qc_VI C (k6_passed h) cw_L_79 rfl rfl rfl rfl (Nat.le_of_ble_eq_true rfl) ⟨(Nat.le_of_ble_eq_true rfl), (Nat.le_of_ble_eq_true rfl)⟩ ⟨(Nat.le_of_ble_eq_true rfl), (Nat.le_of_ble_eq_true rfl)⟩ dL_law_626 ?_
  refine q_aload2 C dL_law_629 ?_
  refine qc_VI C (k7_passed h) cw_L_82 rfl rfl rfl rfl (Nat.le_of_ble_eq_true rfl) ⟨(Nat.le_of_ble_eq_true rfl), (Nat.le_of_ble_eq_true rfl)⟩ ⟨(Nat.le_of_ble_eq_true rfl), (Nat.le_of_ble_eq_true rfl)⟩ dL_law_630 ?_
  exact q_icmp_eq (tgt := 1251) C dL_law_633 (by decide) (fun _ => next _ h) (fun n => absurd (sim_passed h.2.2.2.2.1) n)
theorem lw_case_16 (C : LCx p s m meth c D ct a b) (hX : va_X b L xs s s.heap) (hbl : b < s.heap.size) (hbA : ¬ LA s b) (hL : L ≤ 3072) (hk : k + 6 ≤ L) (h : RX M M) (next : ∀ M1, RX M1 M1 → LKW p l e s m below meth c D ct a b k M1 1251 []) : LKW p l e s m below meth c D ct a b k M 638 [] := by
  refine q_aload1 C dL_law_638 ?_
  refine q_aload0 C dL_law_639 ?_
  refine q_iload3 C dL_law_640 ?_
  refine q_iconst (v := 1) C dL_law_641 (by decide) ?_
  refine q_iadd C dL_law_642 ?_
  refine q_sld C hX hbl hbA (vin_k hk hL 1 (by decide) (by decide)) dL_law_643 ?_
  refine q_aload0 C dL_law_644 ?_
  refine q_iload3 C dL_law_645 ?_
  refine q_iconst (v := 2) C dL_law_646 (by decide) ?_
  refine q_iadd C dL_law_647 ?_
  refine q_sld C hX hbl hbA (vin_k hk hL 2 (by decide) (by decide)) dL_law_648 ?_
  refine q_aload0 C dL_law_649 ?_
  refine q_iload3 C dL_law_650 ?_
  refine q_iconst (v := 3) C dL_law_651 (by decide) ?_
  refine q_iadd C dL_law_652 ?_
  refine q_sld C hX hbl hbA (vin_k hk hL 3 (by decide) (by decide)) dL_law_653 ?_
  refine qc_VI C (k6_step h (xs (nI k + 1).toNatClampNeg) (xs (nI k + 2).toNatClampNeg) (xs (nI k + 3).toNatClampNeg)) cw_L_83 rfl rfl rfl rfl (Nat.le_of_ble_eq_true rfl) ⟨(Nat.le_of_ble_eq_true rfl), (Nat.le_of_ble_eq_true rfl)⟩ ⟨(Nat.le_of_ble_eq_true rfl), (Nat.le_of_ble_eq_true rfl)⟩ dL_law_654 ?_
  refine q_aload2 C dL_law_657 ?_
  refine q_aload0 C dL_law_658 ?_
  refine q_iload3 C dL_law_659 ?_
  refine q_iconst (v := 1) C dL_law_660 (by decide) ?_
  refine q_iadd C dL_law_661 ?_
  refine q_sld C hX hbl hbA (vin_k hk hL 1 (by decide) (by decide)) dL_law_662 ?_
  refine q_aload0 C dL_law_663 ?_
  refine q_iload3 C dL_law_664 ?_
  refine q_iconst (v := 2) C dL_law_665 (by decide) ?_
  refine q_iadd C dL_law_666 ?_
  refine q_sld C hX hbl hbA (vin_k hk hL 2 (by decide) (by decide)) dL_law_667 ?_
  refine q_aload0 C dL_law_668 ?_
  refine q_iload3 C dL_law_669 ?_
  refine q_iconst (v := 3) C dL_law_670 (by decide) ?_
  refine q_iadd C dL_law_671 ?_
  refine q_sld C hX hbl hbA (vin_k hk hL 3 (by decide) (by decide)) dL_law_672 ?_
  refine qc_VI C (k7_step (gx_step h (xs (nI k + 1).toNatClampNeg) (xs (nI k + 2).toNatClampNeg) (xs (nI k + 3).toNatClampNeg)) (xs (nI k + 1).toNatClampNeg) (xs (nI k + 2).toNatClampNeg) (xs (nI k + 3).toNatClampNeg)) cw_L_86 rfl rfl rfl rfl (Nat.le_of_ble_eq_true rfl) ⟨(Nat.le_of_ble_eq_true rfl), (Nat.le_of_ble_eq_true rfl)⟩ ⟨(Nat.le_of_ble_eq_true rfl), (Nat.le_of_ble_eq_true rfl)⟩ dL_law_673 ?_
  exact q_icmp_eq (tgt := 1251) C dL_law_676 (by decide) (fun _ => next _ (rx_step h (xs (nI k + 1).toNatClampNeg) (xs (nI k + 2).toNatClampNeg) (xs (nI k + 3).toNatClampNeg)).2) (fun n => absurd (rx_step h (xs (nI k + 1).toNatClampNeg) (xs (nI k + 2).toNatClampNeg) (xs (nI k + 3).toNatClampNeg)).1 n)
theorem lw_case_17 (C : LCx p s m meth c D ct a b) (hX : va_X b L xs s s.heap) (hbl : b < s.heap.size) (hbA : ¬ LA s b) (hL : L ≤ 3072) (hk : k + 6 ≤ L) (h : RX M M) (next : ∀ M1, RX M1 M1 → LKW p l e s m below meth c D ct a b k M1 1251 []) : LKW p l e s m below meth c D ct a b k M 681 [] := by
  refine q_aload1 C dL_law_681 ?_
  refine qc_VI C (k6_start h) cw_L_87 rfl rfl rfl rfl (Nat.le_of_ble_eq_true rfl) ⟨(Nat.le_of_ble_eq_true rfl), (Nat.le_of_ble_eq_true rfl)⟩ ⟨(Nat.le_of_ble_eq_true rfl), (Nat.le_of_ble_eq_true rfl)⟩ dL_law_682 ?_
  refine q_aload2 C dL_law_685 ?_
  refine qc_VI C (k7_start (gx_start h)) cw_L_90 rfl rfl rfl rfl (Nat.le_of_ble_eq_true rfl) ⟨(Nat.le_of_ble_eq_true rfl), (Nat.le_of_ble_eq_true rfl)⟩ ⟨(Nat.le_of_ble_eq_true rfl), (Nat.le_of_ble_eq_true rfl)⟩ dL_law_686 ?_
  exact q_icmp_eq (tgt := 1251) C dL_law_689 (by decide) (fun _ => next _ (rx_start h).2) (fun n => absurd (rx_start h).1 n)
theorem lw_case_18 (C : LCx p s m meth c D ct a b) (hX : va_X b L xs s s.heap) (hbl : b < s.heap.size) (hbA : ¬ LA s b) (hL : L ≤ 3072) (hk : k + 6 ≤ L) (h : RX M M) (next : ∀ M1, RX M1 M1 → LKW p l e s m below meth c D ct a b k M1 1251 []) : LKW p l e s m below meth c D ct a b k M 694 [] := by
  refine q_aload1 C dL_law_694 ?_
  refine q_aload0 C dL_law_695 ?_
  refine q_iload3 C dL_law_696 ?_
  refine q_iconst (v := 1) C dL_law_697 (by decide) ?_
  refine q_iadd C dL_law_698 ?_
  refine q_sld C hX hbl hbA (vin_k hk hL 1 (by decide) (by decide)) dL_law_699 ?_
  refine q_aload0 C dL_law_700 ?_
  refine q_iload3 C dL_law_701 ?_
  refine q_iconst (v := 2) C dL_law_702 (by decide) ?_
  refine q_iadd C dL_law_703 ?_
  refine q_sld C hX hbl hbA (vin_k hk hL 2 (by decide) (by decide)) dL_law_704 ?_
  refine qc_VI C (k6_zone h (xs (nI k + 1).toNatClampNeg) (xs (nI k + 2).toNatClampNeg)) cw_L_91 rfl rfl rfl rfl (Nat.le_of_ble_eq_true rfl) ⟨(Nat.le_of_ble_eq_true rfl), (Nat.le_of_ble_eq_true rfl)⟩ ⟨(Nat.le_of_ble_eq_true rfl), (Nat.le_of_ble_eq_true rfl)⟩ dL_law_705 ?_
  refine q_aload2 C dL_law_708 ?_
  refine q_aload0 C dL_law_709 ?_
  refine q_iload3 C dL_law_710 ?_
  refine q_iconst (v := 1) C dL_law_711 (by decide) ?_
  refine q_iadd C dL_law_712 ?_
  refine q_sld C hX hbl hbA (vin_k hk hL 1 (by decide) (by decide)) dL_law_713 ?_
  refine q_aload0 C dL_law_714 ?_
  refine q_iload3 C dL_law_715 ?_
  refine q_iconst (v := 2) C dL_law_716 (by decide) ?_
  refine q_iadd C dL_law_717 ?_
  refine q_sld C hX hbl hbA (vin_k hk hL 2 (by decide) (by decide)) dL_law_718 ?_
  refine qc_VI C (k7_zone h (xs (nI k + 1).toNatClampNeg) (xs (nI k + 2).toNatClampNeg)) cw_L_94 rfl rfl rfl rfl (Nat.le_of_ble_eq_true rfl) ⟨(Nat.le_of_ble_eq_true rfl), (Nat.le_of_ble_eq_true rfl)⟩ ⟨(Nat.le_of_ble_eq_true rfl), (Nat.le_of_ble_eq_true rfl)⟩ dL_law_719 ?_
  exact q_icmp_eq (tgt := 1251) C dL_law_722 (by decide) (fun _ => next _ h) (fun n => absurd (sim_zone h.2.2.2.2.2.1 (xs (nI k + 1).toNatClampNeg) (xs (nI k + 2).toNatClampNeg)) n)
theorem lw_case_19 (C : LCx p s m meth c D ct a b) (hX : va_X b L xs s s.heap) (hbl : b < s.heap.size) (hbA : ¬ LA s b) (hL : L ≤ 3072) (hk : k + 6 ≤ L) (h : RX M M) (next : ∀ M1, RX M1 M1 → LKW p l e s m below meth c D ct a b k M1 1251 []) : LKW p l e s m below meth c D ct a b k M 727 [] := by
  refine q_aload1 C dL_law_727 ?_
  refine q_aload0 C dL_law_728 ?_
  refine q_iload3 C dL_law_729 ?_
  refine q_iconst (v := 1) C dL_law_730 (by decide) ?_
  refine q_iadd C dL_law_731 ?_
  refine q_sld C hX hbl hbA (vin_k hk hL 1 (by decide) (by decide)) dL_law_732 ?_
  refine q_aload0 C dL_law_733 ?_
  refine q_iload3 C dL_law_734 ?_
  refine q_iconst (v := 2) C dL_law_735 (by decide) ?_
  refine q_iadd C dL_law_736 ?_
  refine q_sld C hX hbl hbA (vin_k hk hL 2 (by decide) (by decide)) dL_law_737 ?_
  refine qc_VI C (k6_warmth h (xs (nI k + 1).toNatClampNeg) (xs (nI k + 2).toNatClampNeg)) cw_L_95 rfl rfl rfl rfl (Nat.le_of_ble_eq_true rfl) ⟨(Nat.le_of_ble_eq_true rfl), (Nat.le_of_ble_eq_true rfl)⟩ ⟨(Nat.le_of_ble_eq_true rfl), (Nat.le_of_ble_eq_true rfl)⟩ dL_law_738 ?_
  refine q_aload2 C dL_law_741 ?_
  refine q_aload0 C dL_law_742 ?_
  refine q_iload3 C dL_law_743 ?_
  refine q_iconst (v := 1) C dL_law_744 (by decide) ?_
  refine q_iadd C dL_law_745 ?_
  refine q_sld C hX hbl hbA (vin_k hk hL 1 (by decide) (by decide)) dL_law_746 ?_
  refine q_aload0 C dL_law_747 ?_
  refine q_iload3 C dL_law_748 ?_
  refine q_iconst (v := 2) C dL_law_749 (by decide) ?_
  refine q_iadd C dL_law_750 ?_
  refine q_sld C hX hbl hbA (vin_k hk hL 2 (by decide) (by decide)) dL_law_751 ?_
  refine qc_VI C (k7_warmth (gx_warmth h (xs (nI k + 1).toNatClampNeg) (xs (nI k + 2).toNatClampNeg)) (xs (nI k + 1).toNatClampNeg) (xs (nI k + 2).toNatClampNeg)) cw_L_98 rfl rfl rfl rfl (Nat.le_of_ble_eq_true rfl) ⟨(Nat.le_of_ble_eq_true rfl), (Nat.le_of_ble_eq_true rfl)⟩ ⟨(Nat.le_of_ble_eq_true rfl), (Nat.le_of_ble_eq_true rfl)⟩ dL_law_752 ?_
  exact q_icmp_eq (tgt := 1251) C dL_law_755 (by decide) (fun _ => next _ (rx_warmth h (xs (nI k + 1).toNatClampNeg) (xs (nI k + 2).toNatClampNeg)).2) (fun n => absurd (rx_warmth h (xs (nI k + 1).toNatClampNeg) (xs (nI k + 2).toNatClampNeg)).1 n)
theorem lw_case_20 (C : LCx p s m meth c D ct a b) (hX : va_X b L xs s s.heap) (hbl : b < s.heap.size) (hbA : ¬ LA s b) (hL : L ≤ 3072) (hk : k + 6 ≤ L) (h : RX M M) (next : ∀ M1, RX M1 M1 → LKW p l e s m below meth c D ct a b k M1 1251 []) : LKW p l e s m below meth c D ct a b k M 760 [] := by
  refine q_aload1 C dL_law_760 ?_
  refine q_aload0 C dL_law_761 ?_
  refine q_iload3 C dL_law_762 ?_
  refine q_iconst (v := 1) C dL_law_763 (by decide) ?_
  refine q_iadd C dL_law_764 ?_
  refine q_sld C hX hbl hbA (vin_k hk hL 1 (by decide) (by decide)) dL_law_765 ?_
  refine qc_VI C (k6_out h (xs (nI k + 1).toNatClampNeg)) cw_L_99 rfl rfl rfl rfl (Nat.le_of_ble_eq_true rfl) ⟨(Nat.le_of_ble_eq_true rfl), (Nat.le_of_ble_eq_true rfl)⟩ ⟨(Nat.le_of_ble_eq_true rfl), (Nat.le_of_ble_eq_true rfl)⟩ dL_law_766 ?_
  refine q_aload2 C dL_law_769 ?_
  refine q_aload0 C dL_law_770 ?_
  refine q_iload3 C dL_law_771 ?_
  refine q_iconst (v := 1) C dL_law_772 (by decide) ?_
  refine q_iadd C dL_law_773 ?_
  refine q_sld C hX hbl hbA (vin_k hk hL 1 (by decide) (by decide)) dL_law_774 ?_
  refine qc_VI C (k7_out h (xs (nI k + 1).toNatClampNeg)) cw_L_102 rfl rfl rfl rfl (Nat.le_of_ble_eq_true rfl) ⟨(Nat.le_of_ble_eq_true rfl), (Nat.le_of_ble_eq_true rfl)⟩ ⟨(Nat.le_of_ble_eq_true rfl), (Nat.le_of_ble_eq_true rfl)⟩ dL_law_775 ?_
  exact q_icmp_eq (tgt := 1251) C dL_law_778 (by decide) (fun _ => next _ h) (fun n => absurd (sim_out h.2.2.2.2.2.1 (xs (nI k + 1).toNatClampNeg)) n)
theorem lw_case_21 (C : LCx p s m meth c D ct a b) (hX : va_X b L xs s s.heap) (hbl : b < s.heap.size) (hbA : ¬ LA s b) (hL : L ≤ 3072) (hk : k + 6 ≤ L) (h : RX M M) (next : ∀ M1, RX M1 M1 → LKW p l e s m below meth c D ct a b k M1 1251 []) : LKW p l e s m below meth c D ct a b k M 783 [] := by
  refine q_aload1 C dL_law_783 ?_
  refine q_aload0 C dL_law_784 ?_
  refine q_iload3 C dL_law_785 ?_
  refine q_iconst (v := 1) C dL_law_786 (by decide) ?_
  refine q_iadd C dL_law_787 ?_
  refine q_sld C hX hbl hbA (vin_k hk hL 1 (by decide) (by decide)) dL_law_788 ?_
  refine qc_VI C (k6_sum h (xs (nI k + 1).toNatClampNeg)) cw_L_103 rfl rfl rfl rfl (Nat.le_of_ble_eq_true rfl) ⟨(Nat.le_of_ble_eq_true rfl), (Nat.le_of_ble_eq_true rfl)⟩ ⟨(Nat.le_of_ble_eq_true rfl), (Nat.le_of_ble_eq_true rfl)⟩ dL_law_789 ?_
  refine q_aload2 C dL_law_792 ?_
  refine q_aload0 C dL_law_793 ?_
  refine q_iload3 C dL_law_794 ?_
  refine q_iconst (v := 1) C dL_law_795 (by decide) ?_
  refine q_iadd C dL_law_796 ?_
  refine q_sld C hX hbl hbA (vin_k hk hL 1 (by decide) (by decide)) dL_law_797 ?_
  refine qc_VI C (k7_sum (gx_sum h (xs (nI k + 1).toNatClampNeg)) (xs (nI k + 1).toNatClampNeg)) cw_L_106 rfl rfl rfl rfl (Nat.le_of_ble_eq_true rfl) ⟨(Nat.le_of_ble_eq_true rfl), (Nat.le_of_ble_eq_true rfl)⟩ ⟨(Nat.le_of_ble_eq_true rfl), (Nat.le_of_ble_eq_true rfl)⟩ dL_law_798 ?_
  exact q_icmp_eq (tgt := 1251) C dL_law_801 (by decide) (fun _ => next _ (rx_sum h (xs (nI k + 1).toNatClampNeg)).2) (fun n => absurd (rx_sum h (xs (nI k + 1).toNatClampNeg)).1 n)
theorem lw_case_22 (C : LCx p s m meth c D ct a b) (hX : va_X b L xs s s.heap) (hbl : b < s.heap.size) (hbA : ¬ LA s b) (hL : L ≤ 3072) (hk : k + 6 ≤ L) (h : RX M M) (next : ∀ M1, RX M1 M1 → LKW p l e s m below meth c D ct a b k M1 1251 []) : LKW p l e s m below meth c D ct a b k M 806 [] := by
  refine q_aload1 C dL_law_806 ?_
  refine qc_VI C (k6_first h) cw_L_107 rfl rfl rfl rfl (Nat.le_of_ble_eq_true rfl) ⟨(Nat.le_of_ble_eq_true rfl), (Nat.le_of_ble_eq_true rfl)⟩ ⟨(Nat.le_of_ble_eq_true rfl), (Nat.le_of_ble_eq_true rfl)⟩ dL_law_807 ?_
  refine q_aload2 C dL_law_810 ?_
  refine qc_VI C (k7_first h) cw_L_110 rfl rfl rfl rfl (Nat.le_of_ble_eq_true rfl) ⟨(Nat.le_of_ble_eq_true rfl), (Nat.le_of_ble_eq_true rfl)⟩ ⟨(Nat.le_of_ble_eq_true rfl), (Nat.le_of_ble_eq_true rfl)⟩ dL_law_811 ?_
  exact q_icmp_eq (tgt := 1251) C dL_law_814 (by decide) (fun _ => next _ h) (fun n => absurd (sim_first h.2.2.2.2.2.1) n)
theorem lw_case_23 (C : LCx p s m meth c D ct a b) (hX : va_X b L xs s s.heap) (hbl : b < s.heap.size) (hbA : ¬ LA s b) (hL : L ≤ 3072) (hk : k + 6 ≤ L) (h : RX M M) (next : ∀ M1, RX M1 M1 → LKW p l e s m below meth c D ct a b k M1 1251 []) : LKW p l e s m below meth c D ct a b k M 819 [] := by
  refine q_aload1 C dL_law_819 ?_
  refine q_aload0 C dL_law_820 ?_
  refine q_iload3 C dL_law_821 ?_
  refine q_iconst (v := 1) C dL_law_822 (by decide) ?_
  refine q_iadd C dL_law_823 ?_
  refine q_sld C hX hbl hbA (vin_k hk hL 1 (by decide) (by decide)) dL_law_824 ?_
  refine q_aload0 C dL_law_825 ?_
  refine q_iload3 C dL_law_826 ?_
  refine q_iconst (v := 2) C dL_law_827 (by decide) ?_
  refine q_iadd C dL_law_828 ?_
  refine q_sld C hX hbl hbA (vin_k hk hL 2 (by decide) (by decide)) dL_law_829 ?_
  refine qc_VI C (k6_silo h (xs (nI k + 1).toNatClampNeg) (xs (nI k + 2).toNatClampNeg)) cw_L_111 rfl rfl rfl rfl (Nat.le_of_ble_eq_true rfl) ⟨(Nat.le_of_ble_eq_true rfl), (Nat.le_of_ble_eq_true rfl)⟩ ⟨(Nat.le_of_ble_eq_true rfl), (Nat.le_of_ble_eq_true rfl)⟩ dL_law_830 ?_
  refine q_aload2 C dL_law_833 ?_
  refine q_aload0 C dL_law_834 ?_
  refine q_iload3 C dL_law_835 ?_
  refine q_iconst (v := 1) C dL_law_836 (by decide) ?_
  refine q_iadd C dL_law_837 ?_
  refine q_sld C hX hbl hbA (vin_k hk hL 1 (by decide) (by decide)) dL_law_838 ?_
  refine q_aload0 C dL_law_839 ?_
  refine q_iload3 C dL_law_840 ?_
  refine q_iconst (v := 2) C dL_law_841 (by decide) ?_
  refine q_iadd C dL_law_842 ?_
  refine q_sld C hX hbl hbA (vin_k hk hL 2 (by decide) (by decide)) dL_law_843 ?_
  refine qc_VI C (k7_silo h (xs (nI k + 1).toNatClampNeg) (xs (nI k + 2).toNatClampNeg)) cw_L_114 rfl rfl rfl rfl (Nat.le_of_ble_eq_true rfl) ⟨(Nat.le_of_ble_eq_true rfl), (Nat.le_of_ble_eq_true rfl)⟩ ⟨(Nat.le_of_ble_eq_true rfl), (Nat.le_of_ble_eq_true rfl)⟩ dL_law_844 ?_
  exact q_icmp_eq (tgt := 1251) C dL_law_847 (by decide) (fun _ => next _ h) (fun n => absurd (sim_silo h.2.2.2.2.2.2.2.1 (xs (nI k + 1).toNatClampNeg) (xs (nI k + 2).toNatClampNeg)) n)
theorem lw_case_24 (C : LCx p s m meth c D ct a b) (hX : va_X b L xs s s.heap) (hbl : b < s.heap.size) (hbA : ¬ LA s b) (hL : L ≤ 3072) (hk : k + 6 ≤ L) (h : RX M M) (next : ∀ M1, RX M1 M1 → LKW p l e s m below meth c D ct a b k M1 1251 []) : LKW p l e s m below meth c D ct a b k M 852 [] := by
  refine q_aload1 C dL_law_852 ?_
  refine q_aload0 C dL_law_853 ?_
  refine q_iload3 C dL_law_854 ?_
  refine q_iconst (v := 1) C dL_law_855 (by decide) ?_
  refine q_iadd C dL_law_856 ?_
  refine q_sld C hX hbl hbA (vin_k hk hL 1 (by decide) (by decide)) dL_law_857 ?_
  refine q_aload0 C dL_law_858 ?_
  refine q_iload3 C dL_law_859 ?_
  refine q_iconst (v := 2) C dL_law_860 (by decide) ?_
  refine q_iadd C dL_law_861 ?_
  refine q_sld C hX hbl hbA (vin_k hk hL 2 (by decide) (by decide)) dL_law_862 ?_
  refine qc_VI C (k6_bag h (xs (nI k + 1).toNatClampNeg) (xs (nI k + 2).toNatClampNeg)) cw_L_115 rfl rfl rfl rfl (Nat.le_of_ble_eq_true rfl) ⟨(Nat.le_of_ble_eq_true rfl), (Nat.le_of_ble_eq_true rfl)⟩ ⟨(Nat.le_of_ble_eq_true rfl), (Nat.le_of_ble_eq_true rfl)⟩ dL_law_863 ?_
  refine q_aload2 C dL_law_866 ?_
  refine q_aload0 C dL_law_867 ?_
  refine q_iload3 C dL_law_868 ?_
  refine q_iconst (v := 1) C dL_law_869 (by decide) ?_
  refine q_iadd C dL_law_870 ?_
  refine q_sld C hX hbl hbA (vin_k hk hL 1 (by decide) (by decide)) dL_law_871 ?_
  refine q_aload0 C dL_law_872 ?_
  refine q_iload3 C dL_law_873 ?_
  refine q_iconst (v := 2) C dL_law_874 (by decide) ?_
  refine q_iadd C dL_law_875 ?_
  refine q_sld C hX hbl hbA (vin_k hk hL 2 (by decide) (by decide)) dL_law_876 ?_
  refine qc_VI C (k7_bag (gx_bag h (xs (nI k + 1).toNatClampNeg) (xs (nI k + 2).toNatClampNeg)) (xs (nI k + 1).toNatClampNeg) (xs (nI k + 2).toNatClampNeg)) cw_L_118 rfl rfl rfl rfl (Nat.le_of_ble_eq_true rfl) ⟨(Nat.le_of_ble_eq_true rfl), (Nat.le_of_ble_eq_true rfl)⟩ ⟨(Nat.le_of_ble_eq_true rfl), (Nat.le_of_ble_eq_true rfl)⟩ dL_law_877 ?_
  exact q_icmp_eq (tgt := 1251) C dL_law_880 (by decide) (fun _ => next _ (rx_bag h (xs (nI k + 1).toNatClampNeg) (xs (nI k + 2).toNatClampNeg)).2) (fun n => absurd (rx_bag h (xs (nI k + 1).toNatClampNeg) (xs (nI k + 2).toNatClampNeg)).1 n)
theorem lw_case_25 (C : LCx p s m meth c D ct a b) (hX : va_X b L xs s s.heap) (hbl : b < s.heap.size) (hbA : ¬ LA s b) (hL : L ≤ 3072) (hk : k + 6 ≤ L) (h : RX M M) (next : ∀ M1, RX M1 M1 → LKW p l e s m below meth c D ct a b k M1 1251 []) : LKW p l e s m below meth c D ct a b k M 885 [] := by
  refine q_aload1 C dL_law_885 ?_
  refine q_aload0 C dL_law_886 ?_
  refine q_iload3 C dL_law_887 ?_
  refine q_iconst (v := 1) C dL_law_888 (by decide) ?_
  refine q_iadd C dL_law_889 ?_
  refine q_sld C hX hbl hbA (vin_k hk hL 1 (by decide) (by decide)) dL_law_890 ?_
  refine q_aload0 C dL_law_891 ?_
  refine q_iload3 C dL_law_892 ?_
  refine q_iconst (v := 2) C dL_law_893 (by decide) ?_
  refine q_iadd C dL_law_894 ?_
  refine q_sld C hX hbl hbA (vin_k hk hL 2 (by decide) (by decide)) dL_law_895 ?_
  refine qc_VI C (k6_lot h (xs (nI k + 1).toNatClampNeg) (xs (nI k + 2).toNatClampNeg)) cw_L_119 rfl rfl rfl rfl (Nat.le_of_ble_eq_true rfl) ⟨(Nat.le_of_ble_eq_true rfl), (Nat.le_of_ble_eq_true rfl)⟩ ⟨(Nat.le_of_ble_eq_true rfl), (Nat.le_of_ble_eq_true rfl)⟩ dL_law_896 ?_
  refine q_aload2 C dL_law_899 ?_
  refine q_aload0 C dL_law_900 ?_
  refine q_iload3 C dL_law_901 ?_
  refine q_iconst (v := 1) C dL_law_902 (by decide) ?_
  refine q_iadd C dL_law_903 ?_
  refine q_sld C hX hbl hbA (vin_k hk hL 1 (by decide) (by decide)) dL_law_904 ?_
  refine q_aload0 C dL_law_905 ?_
  refine q_iload3 C dL_law_906 ?_
  refine q_iconst (v := 2) C dL_law_907 (by decide) ?_
  refine q_iadd C dL_law_908 ?_
  refine q_sld C hX hbl hbA (vin_k hk hL 2 (by decide) (by decide)) dL_law_909 ?_
  refine qc_VI C (k7_lot h (xs (nI k + 1).toNatClampNeg) (xs (nI k + 2).toNatClampNeg)) cw_L_122 rfl rfl rfl rfl (Nat.le_of_ble_eq_true rfl) ⟨(Nat.le_of_ble_eq_true rfl), (Nat.le_of_ble_eq_true rfl)⟩ ⟨(Nat.le_of_ble_eq_true rfl), (Nat.le_of_ble_eq_true rfl)⟩ dL_law_910 ?_
  exact q_icmp_eq (tgt := 1251) C dL_law_913 (by decide) (fun _ => next _ h) (fun n => absurd (sim_lot h.2.2.2.2.2.2.2.2.1 (xs (nI k + 1).toNatClampNeg) (xs (nI k + 2).toNatClampNeg)) n)
theorem lw_case_26 (C : LCx p s m meth c D ct a b) (hX : va_X b L xs s s.heap) (hbl : b < s.heap.size) (hbA : ¬ LA s b) (hL : L ≤ 3072) (hk : k + 6 ≤ L) (h : RX M M) (next : ∀ M1, RX M1 M1 → LKW p l e s m below meth c D ct a b k M1 1251 []) : LKW p l e s m below meth c D ct a b k M 918 [] := by
  refine q_aload1 C dL_law_918 ?_
  refine q_aload0 C dL_law_919 ?_
  refine q_iload3 C dL_law_920 ?_
  refine q_iconst (v := 1) C dL_law_921 (by decide) ?_
  refine q_iadd C dL_law_922 ?_
  refine q_sld C hX hbl hbA (vin_k hk hL 1 (by decide) (by decide)) dL_law_923 ?_
  refine qc_VI C (k6_day h (xs (nI k + 1).toNatClampNeg)) cw_L_123 rfl rfl rfl rfl (Nat.le_of_ble_eq_true rfl) ⟨(Nat.le_of_ble_eq_true rfl), (Nat.le_of_ble_eq_true rfl)⟩ ⟨(Nat.le_of_ble_eq_true rfl), (Nat.le_of_ble_eq_true rfl)⟩ dL_law_924 ?_
  refine q_aload2 C dL_law_927 ?_
  refine q_aload0 C dL_law_928 ?_
  refine q_iload3 C dL_law_929 ?_
  refine q_iconst (v := 1) C dL_law_930 (by decide) ?_
  refine q_iadd C dL_law_931 ?_
  refine q_sld C hX hbl hbA (vin_k hk hL 1 (by decide) (by decide)) dL_law_932 ?_
  refine qc_VI C (k7_day (gx_day h (xs (nI k + 1).toNatClampNeg)) (xs (nI k + 1).toNatClampNeg)) cw_L_126 rfl rfl rfl rfl (Nat.le_of_ble_eq_true rfl) ⟨(Nat.le_of_ble_eq_true rfl), (Nat.le_of_ble_eq_true rfl)⟩ ⟨(Nat.le_of_ble_eq_true rfl), (Nat.le_of_ble_eq_true rfl)⟩ dL_law_933 ?_
  exact q_icmp_eq (tgt := 1251) C dL_law_936 (by decide) (fun _ => next _ (rx_day h (xs (nI k + 1).toNatClampNeg)).2) (fun n => absurd (rx_day h (xs (nI k + 1).toNatClampNeg)).1 n)
theorem lw_case_27 (C : LCx p s m meth c D ct a b) (hX : va_X b L xs s s.heap) (hbl : b < s.heap.size) (hbA : ¬ LA s b) (hL : L ≤ 3072) (hk : k + 6 ≤ L) (h : RX M M) (next : ∀ M1, RX M1 M1 → LKW p l e s m below meth c D ct a b k M1 1251 []) : LKW p l e s m below meth c D ct a b k M 941 [] := by
  refine q_aload1 C dL_law_941 ?_
  refine q_aload0 C dL_law_942 ?_
  refine q_iload3 C dL_law_943 ?_
  refine q_iconst (v := 1) C dL_law_944 (by decide) ?_
  refine q_iadd C dL_law_945 ?_
  refine q_sld C hX hbl hbA (vin_k hk hL 1 (by decide) (by decide)) dL_law_946 ?_
  refine q_aload0 C dL_law_947 ?_
  refine q_iload3 C dL_law_948 ?_
  refine q_iconst (v := 2) C dL_law_949 (by decide) ?_
  refine q_iadd C dL_law_950 ?_
  refine q_sld C hX hbl hbA (vin_k hk hL 2 (by decide) (by decide)) dL_law_951 ?_
  refine q_aload0 C dL_law_952 ?_
  refine q_iload3 C dL_law_953 ?_
  refine q_iconst (v := 3) C dL_law_954 (by decide) ?_
  refine q_iadd C dL_law_955 ?_
  refine q_sld C hX hbl hbA (vin_k hk hL 3 (by decide) (by decide)) dL_law_956 ?_
  refine qc_VI C (k6_price h (xs (nI k + 1).toNatClampNeg) (xs (nI k + 2).toNatClampNeg) (xs (nI k + 3).toNatClampNeg)) cw_L_127 rfl rfl rfl rfl (Nat.le_of_ble_eq_true rfl) ⟨(Nat.le_of_ble_eq_true rfl), (Nat.le_of_ble_eq_true rfl)⟩ ⟨(Nat.le_of_ble_eq_true rfl), (Nat.le_of_ble_eq_true rfl)⟩ dL_law_957 ?_
  refine q_aload2 C dL_law_960 ?_
  refine q_aload0 C dL_law_961 ?_
  refine q_iload3 C dL_law_962 ?_
  refine q_iconst (v := 1) C dL_law_963 (by decide) ?_
  refine q_iadd C dL_law_964 ?_
  refine q_sld C hX hbl hbA (vin_k hk hL 1 (by decide) (by decide)) dL_law_965 ?_
  refine q_aload0 C dL_law_966 ?_
  refine q_iload3 C dL_law_967 ?_
  refine q_iconst (v := 2) C dL_law_968 (by decide) ?_
  refine q_iadd C dL_law_969 ?_
  refine q_sld C hX hbl hbA (vin_k hk hL 2 (by decide) (by decide)) dL_law_970 ?_
  refine q_aload0 C dL_law_971 ?_
  refine q_iload3 C dL_law_972 ?_
  refine q_iconst (v := 3) C dL_law_973 (by decide) ?_
  refine q_iadd C dL_law_974 ?_
  refine q_sld C hX hbl hbA (vin_k hk hL 3 (by decide) (by decide)) dL_law_975 ?_
  refine qc_VI C (k7_price (gx_price h (xs (nI k + 1).toNatClampNeg) (xs (nI k + 2).toNatClampNeg) (xs (nI k + 3).toNatClampNeg)) (xs (nI k + 1).toNatClampNeg) (xs (nI k + 2).toNatClampNeg) (xs (nI k + 3).toNatClampNeg)) cw_L_130 rfl rfl rfl rfl (Nat.le_of_ble_eq_true rfl) ⟨(Nat.le_of_ble_eq_true rfl), (Nat.le_of_ble_eq_true rfl)⟩ ⟨(Nat.le_of_ble_eq_true rfl), (Nat.le_of_ble_eq_true rfl)⟩ dL_law_976 ?_
  exact q_icmp_eq (tgt := 1251) C dL_law_979 (by decide) (fun _ => next _ (rx_price h (xs (nI k + 1).toNatClampNeg) (xs (nI k + 2).toNatClampNeg) (xs (nI k + 3).toNatClampNeg)).2) (fun n => absurd (rx_price h (xs (nI k + 1).toNatClampNeg) (xs (nI k + 2).toNatClampNeg) (xs (nI k + 3).toNatClampNeg)).1 n)
theorem lw_case_28 (C : LCx p s m meth c D ct a b) (hX : va_X b L xs s s.heap) (hbl : b < s.heap.size) (hbA : ¬ LA s b) (hL : L ≤ 3072) (hk : k + 6 ≤ L) (h : RX M M) (next : ∀ M1, RX M1 M1 → LKW p l e s m below meth c D ct a b k M1 1251 []) : LKW p l e s m below meth c D ct a b k M 984 [] := by
  refine q_aload1 C dL_law_984 ?_
  refine q_aload0 C dL_law_985 ?_
  refine q_iload3 C dL_law_986 ?_
  refine q_iconst (v := 1) C dL_law_987 (by decide) ?_
  refine q_iadd C dL_law_988 ?_
  refine q_sld C hX hbl hbA (vin_k hk hL 1 (by decide) (by decide)) dL_law_989 ?_
  refine qc_VI C (k6_tear h (xs (nI k + 1).toNatClampNeg)) cw_L_131 rfl rfl rfl rfl (Nat.le_of_ble_eq_true rfl) ⟨(Nat.le_of_ble_eq_true rfl), (Nat.le_of_ble_eq_true rfl)⟩ ⟨(Nat.le_of_ble_eq_true rfl), (Nat.le_of_ble_eq_true rfl)⟩ dL_law_990 ?_
  refine q_aload2 C dL_law_993 ?_
  refine q_aload0 C dL_law_994 ?_
  refine q_iload3 C dL_law_995 ?_
  refine q_iconst (v := 1) C dL_law_996 (by decide) ?_
  refine q_iadd C dL_law_997 ?_
  refine q_sld C hX hbl hbA (vin_k hk hL 1 (by decide) (by decide)) dL_law_998 ?_
  refine qc_VI C (k7_tear (gx_tear h (xs (nI k + 1).toNatClampNeg)) (xs (nI k + 1).toNatClampNeg)) cw_L_134 rfl rfl rfl rfl (Nat.le_of_ble_eq_true rfl) ⟨(Nat.le_of_ble_eq_true rfl), (Nat.le_of_ble_eq_true rfl)⟩ ⟨(Nat.le_of_ble_eq_true rfl), (Nat.le_of_ble_eq_true rfl)⟩ dL_law_999 ?_
  exact q_icmp_eq (tgt := 1251) C dL_law_1002 (by decide) (fun _ => next _ (rx_tear h (xs (nI k + 1).toNatClampNeg)).2) (fun n => absurd (rx_tear h (xs (nI k + 1).toNatClampNeg)).1 n)
theorem lw_case_29 (C : LCx p s m meth c D ct a b) (hX : va_X b L xs s s.heap) (hbl : b < s.heap.size) (hbA : ¬ LA s b) (hL : L ≤ 3072) (hk : k + 6 ≤ L) (h : RX M M) (next : ∀ M1, RX M1 M1 → LKW p l e s m below meth c D ct a b k M1 1251 []) : LKW p l e s m below meth c D ct a b k M 1007 [] := by
  refine q_aload1 C dL_law_1007 ?_
  refine q_aload0 C dL_law_1008 ?_
  refine q_iload3 C dL_law_1009 ?_
  refine q_iconst (v := 1) C dL_law_1010 (by decide) ?_
  refine q_iadd C dL_law_1011 ?_
  refine q_sld C hX hbl hbA (vin_k hk hL 1 (by decide) (by decide)) dL_law_1012 ?_
  refine q_aload0 C dL_law_1013 ?_
  refine q_iload3 C dL_law_1014 ?_
  refine q_iconst (v := 2) C dL_law_1015 (by decide) ?_
  refine q_iadd C dL_law_1016 ?_
  refine q_sld C hX hbl hbA (vin_k hk hL 2 (by decide) (by decide)) dL_law_1017 ?_
  refine q_aload0 C dL_law_1018 ?_
  refine q_iload3 C dL_law_1019 ?_
  refine q_iconst (v := 3) C dL_law_1020 (by decide) ?_
  refine q_iadd C dL_law_1021 ?_
  refine q_sld C hX hbl hbA (vin_k hk hL 3 (by decide) (by decide)) dL_law_1022 ?_
  refine q_aload0 C dL_law_1023 ?_
  refine q_iload3 C dL_law_1024 ?_
  refine q_iconst (v := 4) C dL_law_1025 (by decide) ?_
  refine q_iadd C dL_law_1026 ?_
  refine q_sld C hX hbl hbA (vin_k hk hL 4 (by decide) (by decide)) dL_law_1027 ?_
  refine q_aload0 C dL_law_1028 ?_
  refine q_iload3 C dL_law_1029 ?_
  refine q_iconst (v := 5) C dL_law_1030 (by decide) ?_
  refine q_iadd C dL_law_1031 ?_
  refine q_sld C hX hbl hbA (vin_k hk hL 5 (by decide) (by decide)) dL_law_1032 ?_
  refine qc_VI C (k6_copy h (xs (nI k + 1).toNatClampNeg) (xs (nI k + 2).toNatClampNeg) (xs (nI k + 3).toNatClampNeg) (xs (nI k + 4).toNatClampNeg) (xs (nI k + 5).toNatClampNeg)) cw_L_135 rfl rfl rfl rfl (Nat.le_of_ble_eq_true rfl) ⟨(Nat.le_of_ble_eq_true rfl), (Nat.le_of_ble_eq_true rfl)⟩ ⟨(Nat.le_of_ble_eq_true rfl), (Nat.le_of_ble_eq_true rfl)⟩ dL_law_1033 ?_
  refine q_aload2 C dL_law_1036 ?_
  refine q_aload0 C dL_law_1037 ?_
  refine q_iload3 C dL_law_1038 ?_
  refine q_iconst (v := 1) C dL_law_1039 (by decide) ?_
  refine q_iadd C dL_law_1040 ?_
  refine q_sld C hX hbl hbA (vin_k hk hL 1 (by decide) (by decide)) dL_law_1041 ?_
  refine q_aload0 C dL_law_1042 ?_
  refine q_iload3 C dL_law_1043 ?_
  refine q_iconst (v := 2) C dL_law_1044 (by decide) ?_
  refine q_iadd C dL_law_1045 ?_
  refine q_sld C hX hbl hbA (vin_k hk hL 2 (by decide) (by decide)) dL_law_1046 ?_
  refine q_aload0 C dL_law_1047 ?_
  refine q_iload3 C dL_law_1048 ?_
  refine q_iconst (v := 3) C dL_law_1049 (by decide) ?_
  refine q_iadd C dL_law_1050 ?_
  refine q_sld C hX hbl hbA (vin_k hk hL 3 (by decide) (by decide)) dL_law_1051 ?_
  refine q_aload0 C dL_law_1052 ?_
  refine q_iload3 C dL_law_1053 ?_
  refine q_iconst (v := 4) C dL_law_1054 (by decide) ?_
  refine q_iadd C dL_law_1055 ?_
  refine q_sld C hX hbl hbA (vin_k hk hL 4 (by decide) (by decide)) dL_law_1056 ?_
  refine q_aload0 C dL_law_1057 ?_
  refine q_iload3 C dL_law_1058 ?_
  refine q_iconst (v := 5) C dL_law_1059 (by decide) ?_
  refine q_iadd C dL_law_1060 ?_
  refine q_sld C hX hbl hbA (vin_k hk hL 5 (by decide) (by decide)) dL_law_1061 ?_
  refine qc_VI C (k7_copy (gx_copy h (xs (nI k + 1).toNatClampNeg) (xs (nI k + 2).toNatClampNeg) (xs (nI k + 3).toNatClampNeg) (xs (nI k + 4).toNatClampNeg) (xs (nI k + 5).toNatClampNeg)) (xs (nI k + 1).toNatClampNeg) (xs (nI k + 2).toNatClampNeg) (xs (nI k + 3).toNatClampNeg) (xs (nI k + 4).toNatClampNeg) (xs (nI k + 5).toNatClampNeg)) cw_L_139 rfl rfl rfl rfl (Nat.le_of_ble_eq_true rfl) ⟨(Nat.le_of_ble_eq_true rfl), (Nat.le_of_ble_eq_true rfl)⟩ ⟨(Nat.le_of_ble_eq_true rfl), (Nat.le_of_ble_eq_true rfl)⟩ dL_law_1062 ?_
  exact q_icmp_eq (tgt := 1251) C dL_law_1065 (by decide) (fun _ => next _ (rx_copy h (xs (nI k + 1).toNatClampNeg) (xs (nI k + 2).toNatClampNeg) (xs (nI k + 3).toNatClampNeg) (xs (nI k + 4).toNatClampNeg) (xs (nI k + 5).toNatClampNeg)).2) (fun n => absurd (rx_copy h (xs (nI k + 1).toNatClampNeg) (xs (nI k + 2).toNatClampNeg) (xs (nI k + 3).toNatClampNeg) (xs (nI k + 4).toNatClampNeg) (xs (nI k + 5).toNatClampNeg)).1 n)
theorem lw_case_30 (C : LCx p s m meth c D ct a b) (hX : va_X b L xs s s.heap) (hbl : b < s.heap.size) (hbA : ¬ LA s b) (hL : L ≤ 3072) (hk : k + 6 ≤ L) (h : RX M M) (next : ∀ M1, RX M1 M1 → LKW p l e s m below meth c D ct a b k M1 1251 []) : LKW p l e s m below meth c D ct a b k M 1070 [] := by
  refine q_aload1 C dL_law_1070 ?_
  refine q_aload0 C dL_law_1071 ?_
  refine q_iload3 C dL_law_1072 ?_
  refine q_iconst (v := 1) C dL_law_1073 (by decide) ?_
  refine q_iadd C dL_law_1074 ?_
  refine q_sld C hX hbl hbA (vin_k hk hL 1 (by decide) (by decide)) dL_law_1075 ?_
  refine q_aload0 C dL_law_1076 ?_
  refine q_iload3 C dL_law_1077 ?_
  refine q_iconst (v := 2) C dL_law_1078 (by decide) ?_
  refine q_iadd C dL_law_1079 ?_
  refine q_sld C hX hbl hbA (vin_k hk hL 2 (by decide) (by decide)) dL_law_1080 ?_
  refine qc_VI C (k6_need h (xs (nI k + 1).toNatClampNeg) (xs (nI k + 2).toNatClampNeg)) cw_L_140 rfl rfl rfl rfl (Nat.le_of_ble_eq_true rfl) ⟨(Nat.le_of_ble_eq_true rfl), (Nat.le_of_ble_eq_true rfl)⟩ ⟨(Nat.le_of_ble_eq_true rfl), (Nat.le_of_ble_eq_true rfl)⟩ dL_law_1081 ?_
  refine q_aload2 C dL_law_1084 ?_
  refine q_aload0 C dL_law_1085 ?_
  refine q_iload3 C dL_law_1086 ?_
  refine q_iconst (v := 1) C dL_law_1087 (by decide) ?_
  refine q_iadd C dL_law_1088 ?_
  refine q_sld C hX hbl hbA (vin_k hk hL 1 (by decide) (by decide)) dL_law_1089 ?_
  refine q_aload0 C dL_law_1090 ?_
  refine q_iload3 C dL_law_1091 ?_
  refine q_iconst (v := 2) C dL_law_1092 (by decide) ?_
  refine q_iadd C dL_law_1093 ?_
  refine q_sld C hX hbl hbA (vin_k hk hL 2 (by decide) (by decide)) dL_law_1094 ?_
  refine qc_VI C (k7_need (gx_need h (xs (nI k + 1).toNatClampNeg) (xs (nI k + 2).toNatClampNeg)) (xs (nI k + 1).toNatClampNeg) (xs (nI k + 2).toNatClampNeg)) cw_L_143 rfl rfl rfl rfl (Nat.le_of_ble_eq_true rfl) ⟨(Nat.le_of_ble_eq_true rfl), (Nat.le_of_ble_eq_true rfl)⟩ ⟨(Nat.le_of_ble_eq_true rfl), (Nat.le_of_ble_eq_true rfl)⟩ dL_law_1095 ?_
  exact q_icmp_eq (tgt := 1251) C dL_law_1098 (by decide) (fun _ => next _ (rx_need h (xs (nI k + 1).toNatClampNeg) (xs (nI k + 2).toNatClampNeg)).2) (fun n => absurd (rx_need h (xs (nI k + 1).toNatClampNeg) (xs (nI k + 2).toNatClampNeg)).1 n)
theorem lw_case_31 (C : LCx p s m meth c D ct a b) (hX : va_X b L xs s s.heap) (hbl : b < s.heap.size) (hbA : ¬ LA s b) (hL : L ≤ 3072) (hk : k + 6 ≤ L) (h : RX M M) (next : ∀ M1, RX M1 M1 → LKW p l e s m below meth c D ct a b k M1 1251 []) : LKW p l e s m below meth c D ct a b k M 1103 [] := by
  refine q_aload1 C dL_law_1103 ?_
  refine q_aload0 C dL_law_1104 ?_
  refine q_iload3 C dL_law_1105 ?_
  refine q_iconst (v := 1) C dL_law_1106 (by decide) ?_
  refine q_iadd C dL_law_1107 ?_
  refine q_sld C hX hbl hbA (vin_k hk hL 1 (by decide) (by decide)) dL_law_1108 ?_
  refine q_aload0 C dL_law_1109 ?_
  refine q_iload3 C dL_law_1110 ?_
  refine q_iconst (v := 2) C dL_law_1111 (by decide) ?_
  refine q_iadd C dL_law_1112 ?_
  refine q_sld C hX hbl hbA (vin_k hk hL 2 (by decide) (by decide)) dL_law_1113 ?_
  refine qc_VI C (k6_plan h (xs (nI k + 1).toNatClampNeg) (xs (nI k + 2).toNatClampNeg)) cw_L_144 rfl rfl rfl rfl (Nat.le_of_ble_eq_true rfl) ⟨(Nat.le_of_ble_eq_true rfl), (Nat.le_of_ble_eq_true rfl)⟩ ⟨(Nat.le_of_ble_eq_true rfl), (Nat.le_of_ble_eq_true rfl)⟩ dL_law_1114 ?_
  refine q_aload2 C dL_law_1117 ?_
  refine q_aload0 C dL_law_1118 ?_
  refine q_iload3 C dL_law_1119 ?_
  refine q_iconst (v := 1) C dL_law_1120 (by decide) ?_
  refine q_iadd C dL_law_1121 ?_
  refine q_sld C hX hbl hbA (vin_k hk hL 1 (by decide) (by decide)) dL_law_1122 ?_
  refine q_aload0 C dL_law_1123 ?_
  refine q_iload3 C dL_law_1124 ?_
  refine q_iconst (v := 2) C dL_law_1125 (by decide) ?_
  refine q_iadd C dL_law_1126 ?_
  refine q_sld C hX hbl hbA (vin_k hk hL 2 (by decide) (by decide)) dL_law_1127 ?_
  refine qc_VI C (k7_plan (gx_plan h (xs (nI k + 1).toNatClampNeg) (xs (nI k + 2).toNatClampNeg)) (xs (nI k + 1).toNatClampNeg) (xs (nI k + 2).toNatClampNeg)) cw_L_147 rfl rfl rfl rfl (Nat.le_of_ble_eq_true rfl) ⟨(Nat.le_of_ble_eq_true rfl), (Nat.le_of_ble_eq_true rfl)⟩ ⟨(Nat.le_of_ble_eq_true rfl), (Nat.le_of_ble_eq_true rfl)⟩ dL_law_1128 ?_
  exact q_icmp_eq (tgt := 1251) C dL_law_1131 (by decide) (fun _ => next _ (rx_plan h (xs (nI k + 1).toNatClampNeg) (xs (nI k + 2).toNatClampNeg)).2) (fun n => absurd (rx_plan h (xs (nI k + 1).toNatClampNeg) (xs (nI k + 2).toNatClampNeg)).1 n)
theorem lw_case_32 (C : LCx p s m meth c D ct a b) (hX : va_X b L xs s s.heap) (hbl : b < s.heap.size) (hbA : ¬ LA s b) (hL : L ≤ 3072) (hk : k + 6 ≤ L) (h : RX M M) (next : ∀ M1, RX M1 M1 → LKW p l e s m below meth c D ct a b k M1 1251 []) : LKW p l e s m below meth c D ct a b k M 1136 [] := by
  refine q_aload1 C dL_law_1136 ?_
  refine qc_VJ C (k6_upper h) cw_L_148 rfl rfl rfl rfl (Nat.le_of_ble_eq_true rfl) ⟨(Nat.le_of_ble_eq_true rfl), (Nat.le_of_ble_eq_true rfl)⟩ ⟨(Nat.le_of_ble_eq_true rfl), (Nat.le_of_ble_eq_true rfl)⟩ dL_law_1137 ?_
  refine q_aload2 C dL_law_1140 ?_
  refine qc_VJ C (k7_upper h) cw_L_152 rfl rfl rfl rfl (Nat.le_of_ble_eq_true rfl) ⟨(Nat.le_of_ble_eq_true rfl), (Nat.le_of_ble_eq_true rfl)⟩ ⟨(Nat.le_of_ble_eq_true rfl), (Nat.le_of_ble_eq_true rfl)⟩ dL_law_1141 ?_
  refine q_lcmp C dL_law_1144 ?_
  exact q_if_eq (tgt := 1251) C dL_law_1145 (by decide) (fun _ => next _ h) (fun n => absurd (by rw [sim_upper h.2.1]; exact lg_self _) n)
theorem lw_case_33 (C : LCx p s m meth c D ct a b) (hX : va_X b L xs s s.heap) (hbl : b < s.heap.size) (hbA : ¬ LA s b) (hL : L ≤ 3072) (hk : k + 6 ≤ L) (h : RX M M) (next : ∀ M1, RX M1 M1 → LKW p l e s m below meth c D ct a b k M1 1251 []) : LKW p l e s m below meth c D ct a b k M 1150 [] := by
  refine q_aload1 C dL_law_1150 ?_
  refine qc_VJ C (k6_lower h) cw_L_153 rfl rfl rfl rfl (Nat.le_of_ble_eq_true rfl) ⟨(Nat.le_of_ble_eq_true rfl), (Nat.le_of_ble_eq_true rfl)⟩ ⟨(Nat.le_of_ble_eq_true rfl), (Nat.le_of_ble_eq_true rfl)⟩ dL_law_1151 ?_
  refine q_aload2 C dL_law_1154 ?_
  refine qc_VJ C (k7_lower h) cw_L_156 rfl rfl rfl rfl (Nat.le_of_ble_eq_true rfl) ⟨(Nat.le_of_ble_eq_true rfl), (Nat.le_of_ble_eq_true rfl)⟩ ⟨(Nat.le_of_ble_eq_true rfl), (Nat.le_of_ble_eq_true rfl)⟩ dL_law_1155 ?_
  refine q_lcmp C dL_law_1158 ?_
  exact q_if_eq (tgt := 1251) C dL_law_1159 (by decide) (fun _ => next _ h) (fun n => absurd (by rw [sim_lower h.2.1]; exact lg_self _) n)
theorem lw_case_34 (C : LCx p s m meth c D ct a b) (hX : va_X b L xs s s.heap) (hbl : b < s.heap.size) (hbA : ¬ LA s b) (hL : L ≤ 3072) (hk : k + 6 ≤ L) (h : RX M M) (next : ∀ M1, RX M1 M1 → LKW p l e s m below meth c D ct a b k M1 1251 []) : LKW p l e s m below meth c D ct a b k M 1164 [] := by
  refine q_aload1 C dL_law_1164 ?_
  refine qc_VJ C (k6_asked h) cw_L_157 rfl rfl rfl rfl (Nat.le_of_ble_eq_true rfl) ⟨(Nat.le_of_ble_eq_true rfl), (Nat.le_of_ble_eq_true rfl)⟩ ⟨(Nat.le_of_ble_eq_true rfl), (Nat.le_of_ble_eq_true rfl)⟩ dL_law_1165 ?_
  refine q_aload2 C dL_law_1168 ?_
  refine qc_VJ C (k7_asked h) cw_L_160 rfl rfl rfl rfl (Nat.le_of_ble_eq_true rfl) ⟨(Nat.le_of_ble_eq_true rfl), (Nat.le_of_ble_eq_true rfl)⟩ ⟨(Nat.le_of_ble_eq_true rfl), (Nat.le_of_ble_eq_true rfl)⟩ dL_law_1169 ?_
  refine q_lcmp C dL_law_1172 ?_
  exact q_if_eq (tgt := 1251) C dL_law_1173 (by decide) (fun _ => next _ h) (fun n => absurd (by rw [sim_asked h.2.1]; exact lg_self _) n)
theorem lw_case_35 (C : LCx p s m meth c D ct a b) (hX : va_X b L xs s s.heap) (hbl : b < s.heap.size) (hbA : ¬ LA s b) (hL : L ≤ 3072) (hk : k + 6 ≤ L) (h : RX M M) (next : ∀ M1, RX M1 M1 → LKW p l e s m below meth c D ct a b k M1 1251 []) : LKW p l e s m below meth c D ct a b k M 1178 [] := by
  refine q_aload1 C dL_law_1178 ?_
  refine q_aload0 C dL_law_1179 ?_
  refine q_iload3 C dL_law_1180 ?_
  refine q_iconst (v := 1) C dL_law_1181 (by decide) ?_
  refine q_iadd C dL_law_1182 ?_
  refine q_sld C hX hbl hbA (vin_k hk hL 1 (by decide) (by decide)) dL_law_1183 ?_
  refine qc_VI C (k6_count h (xs (nI k + 1).toNatClampNeg)) cw_L_161 rfl rfl rfl rfl (Nat.le_of_ble_eq_true rfl) ⟨(Nat.le_of_ble_eq_true rfl), (Nat.le_of_ble_eq_true rfl)⟩ ⟨(Nat.le_of_ble_eq_true rfl), (Nat.le_of_ble_eq_true rfl)⟩ dL_law_1184 ?_
  refine q_aload2 C dL_law_1187 ?_
  refine q_aload0 C dL_law_1188 ?_
  refine q_iload3 C dL_law_1189 ?_
  refine q_iconst (v := 1) C dL_law_1190 (by decide) ?_
  refine q_iadd C dL_law_1191 ?_
  refine q_sld C hX hbl hbA (vin_k hk hL 1 (by decide) (by decide)) dL_law_1192 ?_
  refine qc_VI C (k7_count h (xs (nI k + 1).toNatClampNeg)) cw_L_164 rfl rfl rfl rfl (Nat.le_of_ble_eq_true rfl) ⟨(Nat.le_of_ble_eq_true rfl), (Nat.le_of_ble_eq_true rfl)⟩ ⟨(Nat.le_of_ble_eq_true rfl), (Nat.le_of_ble_eq_true rfl)⟩ dL_law_1193 ?_
  exact q_icmp_eq (tgt := 1251) C dL_law_1196 (by decide) (fun _ => next _ h) (fun n => absurd (sim_count h.1 h.2.2.2.2.1 h.2.2.2.2.2.1 h.2.2.2.2.2.2.1 (xs (nI k + 1).toNatClampNeg)) n)
theorem lw_case_36 (C : LCx p s m meth c D ct a b) (hX : va_X b L xs s s.heap) (hbl : b < s.heap.size) (hbA : ¬ LA s b) (hL : L ≤ 3072) (hk : k + 6 ≤ L) (h : RX M M) (next : ∀ M1, RX M1 M1 → LKW p l e s m below meth c D ct a b k M1 1251 []) : LKW p l e s m below meth c D ct a b k M 1201 [] := by
  refine q_aload1 C dL_law_1201 ?_
  refine qc_VI C (k6_finding h) cw_L_165 rfl rfl rfl rfl (Nat.le_of_ble_eq_true rfl) ⟨(Nat.le_of_ble_eq_true rfl), (Nat.le_of_ble_eq_true rfl)⟩ ⟨(Nat.le_of_ble_eq_true rfl), (Nat.le_of_ble_eq_true rfl)⟩ dL_law_1202 ?_
  refine q_aload2 C dL_law_1205 ?_
  refine qc_VI C (k7_finding h) cw_L_168 rfl rfl rfl rfl (Nat.le_of_ble_eq_true rfl) ⟨(Nat.le_of_ble_eq_true rfl), (Nat.le_of_ble_eq_true rfl)⟩ ⟨(Nat.le_of_ble_eq_true rfl), (Nat.le_of_ble_eq_true rfl)⟩ dL_law_1206 ?_
  exact q_icmp_eq (tgt := 1251) C dL_law_1209 (by decide) (fun _ => next _ h) (fun n => absurd (sim_finding h.2.2.1) n)
theorem lw_case_37 (C : LCx p s m meth c D ct a b) (hX : va_X b L xs s s.heap) (hbl : b < s.heap.size) (hbA : ¬ LA s b) (hL : L ≤ 3072) (hk : k + 6 ≤ L) (h : RX M M) (next : ∀ M1, RX M1 M1 → LKW p l e s m below meth c D ct a b k M1 1251 []) : LKW p l e s m below meth c D ct a b k M 1214 [] := by
  refine q_aload1 C dL_law_1214 ?_
  refine q_aload0 C dL_law_1215 ?_
  refine q_iload3 C dL_law_1216 ?_
  refine q_iconst (v := 1) C dL_law_1217 (by decide) ?_
  refine q_iadd C dL_law_1218 ?_
  refine q_sld C hX hbl hbA (vin_k hk hL 1 (by decide) (by decide)) dL_law_1219 ?_
  refine qc_VI C (k6_findings h (xs (nI k + 1).toNatClampNeg)) cw_L_169 rfl rfl rfl rfl (Nat.le_of_ble_eq_true rfl) ⟨(Nat.le_of_ble_eq_true rfl), (Nat.le_of_ble_eq_true rfl)⟩ ⟨(Nat.le_of_ble_eq_true rfl), (Nat.le_of_ble_eq_true rfl)⟩ dL_law_1220 ?_
  refine q_aload2 C dL_law_1223 ?_
  refine q_aload0 C dL_law_1224 ?_
  refine q_iload3 C dL_law_1225 ?_
  refine q_iconst (v := 1) C dL_law_1226 (by decide) ?_
  refine q_iadd C dL_law_1227 ?_
  refine q_sld C hX hbl hbA (vin_k hk hL 1 (by decide) (by decide)) dL_law_1228 ?_
  refine qc_VI C (k7_findings h (xs (nI k + 1).toNatClampNeg)) cw_L_172 rfl rfl rfl rfl (Nat.le_of_ble_eq_true rfl) ⟨(Nat.le_of_ble_eq_true rfl), (Nat.le_of_ble_eq_true rfl)⟩ ⟨(Nat.le_of_ble_eq_true rfl), (Nat.le_of_ble_eq_true rfl)⟩ dL_law_1229 ?_
  exact q_icmp_eq (tgt := 1251) C dL_law_1232 (by decide) (fun _ => next _ h) (fun n => absurd (sim_findings h.2.2.1 (xs (nI k + 1).toNatClampNeg)) n)
theorem lw_case_38 (C : LCx p s m meth c D ct a b) (hX : va_X b L xs s s.heap) (hbl : b < s.heap.size) (hbA : ¬ LA s b) (hL : L ≤ 3072) (hk : k + 6 ≤ L) (h : RX M M) (next : ∀ M1, RX M1 M1 → LKW p l e s m below meth c D ct a b k M1 1251 []) : LKW p l e s m below meth c D ct a b k M 1237 [] := by
  refine q_aload1 C dL_law_1237 ?_
  refine qc_VJ C (k6_digest h) cw_L_173 rfl rfl rfl rfl (Nat.le_of_ble_eq_true rfl) ⟨(Nat.le_of_ble_eq_true rfl), (Nat.le_of_ble_eq_true rfl)⟩ ⟨(Nat.le_of_ble_eq_true rfl), (Nat.le_of_ble_eq_true rfl)⟩ dL_law_1238 ?_
  refine q_aload2 C dL_law_1241 ?_
  refine qc_VJ C (k7_digest h) cw_L_176 rfl rfl rfl rfl (Nat.le_of_ble_eq_true rfl) ⟨(Nat.le_of_ble_eq_true rfl), (Nat.le_of_ble_eq_true rfl)⟩ ⟨(Nat.le_of_ble_eq_true rfl), (Nat.le_of_ble_eq_true rfl)⟩ dL_law_1242 ?_
  refine q_lcmp C dL_law_1245 ?_
  exact q_if_eq (tgt := 1251) C dL_law_1246 (by decide) (fun _ => next _ h) (fun n => absurd (by rw [sim_digest h.1 h.2.2.2.1 h.2.2.2.2.1 h.2.2.2.2.2.1 h.2.2.2.2.2.2.2.1 h.2.2.2.2.2.2.1]; exact lg_self _) n)
end LAWC
