/-! making: contracts of what makes -/
abbrev QcC (D : va_G) (A : Nat → Prop) (F : (Nat → Nat) → va_W) : Array Value → State → Outcome → State → Prop := va_Qv (fun (_ : Nat → Nat) => True) (fun r t => va_P D vwCl (F r) t.heap ∧ va_D A (F r)) A
def PC (D : va_G) (ct : Nat → ClassId) (w : va_W) (sz : Nat) (U : State) : Prop := U.heap.size = sz ∧ va_P D vwCl w U.heap ∧ va_K D vwCl (tyl ct) U ∧ AO U
theorem PC_blind {D : va_G} {ct : Nat → ClassId} {w : va_W} {sz : Nat} {as : List Value} : FrameBlind (va_Pc as (PC D ct w sz)) := fun v U g mk q => by
  obtain ⟨q0, q1, q2, q3, q4⟩ := q
  exact ⟨q0, q1, q2, va_K.moved (u := U) (U := U.calling g mk v) (Vm.Alike.refl U.vm) q3, AO.same (u := U) (U := U.calling g mk v) rfl q4⟩
def MC (y : MethodName) (cc : ByteArray) (nL fr lo mc ms : Nat) (as : List Value) (e0 : (Nat → ClassId) → va_E) (F : (Nat → ClassId) → Nat → (Nat → Nat) → va_W) : Prop :=
  ∀ (l : Launch) (D : va_G) (ct : Nat → ClassId) (h0 sz : Nat), Met l y (.code y cc nL none :: tbw) { frames := fr, cells := mc, slots := ms, locals := lo } (va_Pc (.ref h0 :: as) (PC D ct [(h0, e0 ct)] sz)) (QcC D (va_A [(h0, e0 ct)] sz) (F ct h0)) mc ms (va_A [(h0, e0 ct)] sz)
theorem va_D1 {h0 sz : Nat} {x : va_E} : va_D (va_A [(h0, x)] sz) [(h0, x)] := by
  refine ⟨fun i j p q hi hj _ => ?_, fun k q hk => va_A.in hk⟩
  have h1 : i < 1 := (List.getElem?_eq_some_iff.mp hi).1
  have h2 : j < 1 := (List.getElem?_eq_some_iff.mp hj).1
  omega
theorem MC.intro {y : MethodName} {cc : ByteArray} {nL fr lo mc ms : Nat} {as : List Value} {e0 : (Nat → ClassId) → va_E} {F : (Nat → ClassId) → Nat → (Nat → Nat) → va_W} {lv0 : Nat → List (Option Value)} (hy : plainName y.cls = true) (hlv : ∀ h0 : Nat, (lg_sl (.ref h0 :: as)).length ≤ nL ∧ lvA (.ref h0 :: as) ++ List.replicate (nL - (lvA (.ref h0 :: as)).length) none = lv0 h0)
    (body : ∀ (p : Program) (l : Launch) (e : Env) (s : State) (m : MethodId) (args : Array Value) (below : List Frame) (meth : Method) (c : Code) (D : va_G) (A : Nat → Prop) (ct : Nat → ClassId) (h0 : Nat), Bx p s m args meth c cc nL y.cls none D A ct → meth.name = y.name → BW p l e { frames := fr, cells := mc, slots := ms, locals := lo } s m args below meth c 0 0 (MQ below (QcC D A (F ct h0)) args s mc ms A) D A nL [(h0, e0 ct)] 0 (lv0 h0) []) : MC y cc nL fr lo mc ms as e0 F := by
  intro l D ct h0 sz
  refine Met.ofW (cc := cc) (maxL := nL) (ret := none) hy rfl ?_
  intro p e s m args below meth c s₁ B hml hv
  obtain ⟨rfl, hsz, hP, hK, hO⟩ := hv
  subst hsz
  have hts := atoms_spec (ws := .code y cc nL none :: tbw) B.pre
  have hown : s.vm.findClass y.cls = some m.cls := findClass_of_methodNamed B.named
  have hnm : meth.name = y.name := (name_of_methodNamed B.named B.method).1
  have C : Bx p s m (Value.ref h0 :: as).toArray meth c cc nL y.cls none D (va_A [(h0, e0 ct)] s.heap.size) ct := ⟨⟨B.exec, B.bytes, hml, hown, fun w hw => hts w (List.mem_cons_of_mem _ hw)⟩, hK, fun q hq => Or.inr hq, hO, B.notSynchronized, B.returns⟩
  have K := body p l e s m (Value.ref h0 :: as).toArray below meth c D (va_A [(h0, e0 ct)] s.heap.size) ct h0 C hnm
  have hl := lv_entry (Value.ref h0 :: as) (n := nL) (hlv h0).1
  rw [lg_entry_eq]
  generalize (lg_sl (Value.ref h0 :: as) ++ List.replicate (nL - (lg_sl (Value.ref h0 :: as)).length) Slot.unset).toArray = ls at hl ⊢
  refine K s.heap [] ls hP va_D1 va_S.rf ?_
  rw [← (hlv h0).2, lvl_lvA]
  exact hl
section BLC
variable {p : Program} {l : Launch} {e : Env} {R : Room} {s : State} {m : MethodId} {args : Array Value} {below : List Frame} {meth : Method} {c : Code} {cells slots : Nat} {Q : State → Prop} {D : va_G} {A : Nat → Prop} {ct : Nat → ClassId} {nL : Nat} {ws : va_W} {pc : Nat} {lv : List (Option Value)} {st : List Value} {cc : ByteArray} {own : String} {ret : Option FieldType}
theorem b_ret {F : (Nat → Nat) → va_W} (C : Bx p s m args meth c cc nL own none D A ct) (r : Nat → Nat) (h : ws = F r) (hd : decode cc pc = .ok (.return_, 1)) : BW p l e R s m args below meth c cells slots (MQ below (QcC D A F) args s cells slots A) D A nL ws pc lv [] := fun H locs ls hP hD hS hl => by
  subst h
  exact W.vret C.1.1 C.1.2.1 C.2.2.2.2.2 (fun t ht hW => ⟨⟨r, rfl, trivial, by rw [ht]; exact hP, hD⟩, hS.F ht⟩) hS.2.2 hd C.2.2.2.2.1
def cwI' (own : String) (idx : Nat) (y : MethodName) (bytes : ByteArray) (maxL n : Nat) : Prop := cwB own idx y bytes maxL none n ∧ Cond.instanceMethod y ∈ tbw ∧ y.name = "<init>"
theorem cwB.useC {own : String} {idx : Nat} {y : MethodName} {bytes : ByteArray} {maxL n fr lo mc ms : Nat} {ret : Option FieldType} (h : cwB own idx y bytes maxL ret n) (hts : ∀ w ∈ tbw, w.before args s = true) (hR : fr + 1 ≤ R.frames ∧ 8 + (maxL + 11) + lo ≤ R.locals) : CallB R s args own idx y bytes maxL ret (.code y bytes maxL ret :: tbw) { frames := fr, cells := mc, slots := ms, locals := lo } mc ms n :=
  callB_of (ws' := tbw) n hts (good_tbw h.1.2.1) rfl rfl rfl (hts _ h.1.2.2) (hts _ h.1.1) h.2 hR
theorem b_callC {y : MethodName} {bytes : ByteArray} {maxL fr lo mc ms idx a0 : Nat} {e0 : (Nat → ClassId) → va_E} {F : (Nat → ClassId) → Nat → (Nat → Nat) → va_W} {wr : va_W} (C : Bx p s m args meth c cc nL own ret D A ct) (hM : MC y bytes maxL fr lo mc ms [] e0 F) (cw : cwI' own idx y bytes maxL 0) (isC isR : List Nat) (hC : isC.map (fun i => ws[i]?) = [((a0, e0 ct) : Nat × va_E)].map some) (hR0 : isR.map (fun i => ws[i]?) = wr.map some) (hn : va_nd isR = true) (hdis : ∀ i ∈ isR, i ∉ isC) (hPs : isC.filterMap (fun i => ws[i]?) = [(a0, e0 ct)]) (hw : (st.map fun v => v.category).sum ≤ 8) (hR : fr + 1 ≤ R.frames ∧ 8 + (maxL + 11) + lo ≤ R.locals) (hcs : cells + mc ≤ R.cells ∧ slots + ms ≤ R.slots) (hd : decode cc pc = .ok (.invokespecial idx, 3))
    (kk : ∀ r : Nat → Nat, BW p l e R s m args below meth c (cells + mc) (slots + ms) Q D A nL (wr ++ F ct a0 r) (pc + 3) lv st) : BW p l e R s m args below meth c cells slots Q D A nL ws pc lv (.ref a0 :: st) := fun H locs ls hP hD hS hl => by
  have hPc := hP.sub (ws' := [(a0, e0 ct)]) isC hPs
  have hFc := va_free (wc := [(a0, e0 ct)]) hD hS C.2.2.1 isC hC
  refine va_callv (va_runI (As := []) (rest := st) C.1 (hM l D ct a0 H.size) ⟨cw.1.useC C.1.2.2.2.2 hR, cw.2.2, C.1.2.2.2.2 _ cw.2.1⟩ ⟨PC_blind, fun U hU hW => ⟨rfl, by rw [hU], by rw [hU]; exact hPc, C.2.1.moved hW.alike, C.2.2.2.1.warm hW⟩⟩ rfl rfl hl.1 rfl (lv_room hw) hd hcs) hS (fun q _ h => hFc q h) hFc (fun r t H1 locs1 ht hvm hpost hB hz hk hS1 => ?_)
  obtain ⟨hP1, hD1⟩ := hB
  rw [ht] at hP1
  obtain ⟨hP2, hD2⟩ := va_join (wr := wr) (w1 := F ct a0 r) hP hD isC isR hC hR0 hn hdis hk hFc hP1 hD1
  exact kk r H1 locs1 ls hP2 hD2 hS1 hl
theorem b_callN {y : MethodName} {bytes : ByteArray} {maxL fr lo mc ms idx a0 : Nat} {host : String} {e0 : (Nat → ClassId) → va_E} {F : (Nat → ClassId) → Nat → (Nat → Nat) → va_W} {wr : va_W} (C : Bx p s m args meth c cc nL own ret D A ct) (hM : MC y bytes maxL fr lo mc ms [] e0 F) (hl0 : Cond.methodLinkNest own idx y host ∈ nvs) (hcd : Cond.code y bytes maxL none ∈ tbw) (hini : Cond.initialized y.cls ∈ tbw) (hins : Cond.instanceMethod y ∈ tbw) (hnm : y.name = "<init>") (hdy : y.cls ≠ "java/lang/invoke/MethodHandle" ∧ y.cls ≠ "java/lang/invoke/VarHandle" ∧ (parseMethodDescriptor y.desc).map (fun d => d.parameters.length) = some 0) (isC isR : List Nat) (hC : isC.map (fun i => ws[i]?) = [((a0, e0 ct) : Nat × va_E)].map some) (hR0 : isR.map (fun i => ws[i]?) = wr.map some) (hn : va_nd isR = true) (hdis : ∀ i ∈ isR, i ∉ isC) (hPs : isC.filterMap (fun i => ws[i]?) = [(a0, e0 ct)]) (hw : (st.map fun v => v.category).sum ≤ 8) (hR : fr + 1 ≤ R.frames ∧ 8 + (maxL + 11) + lo ≤ R.locals) (hcs : cells + mc ≤ R.cells ∧ slots + ms ≤ R.slots) (hd : decode cc pc = .ok (.invokespecial idx, 3))
    (kk : ∀ r : Nat → Nat, BW p l e R s m args below meth c (cells + mc) (slots + ms) Q D A nL (wr ++ F ct a0 r) (pc + 3) lv st) : BW p l e R s m args below meth c cells slots Q D A nL ws pc lv (.ref a0 :: st) := fun H locs ls hP hD hS hl => by
  have hPc := hP.sub (ws' := [(a0, e0 ct)]) isC hPs
  have hFc := va_free (wc := [(a0, e0 ct)]) hD hS C.2.2.1 isC hC
  refine va_callv (va_runIN (As := []) (rest := st) C.1 (hM l D ct a0 H.size) ⟨va_cnB (ws' := tbw) 0 C.1.2.2.2.2 (good_tbw hcd) rfl rfl rfl (C.2.2.2.1.2 _ hl0) (C.1.2.2.2.2 _ hini) hdy hR, hnm, C.1.2.2.2.2 _ hins⟩ ⟨PC_blind, fun U hU hW => ⟨rfl, by rw [hU], by rw [hU]; exact hPc, C.2.1.moved hW.alike, C.2.2.2.1.warm hW⟩⟩ rfl rfl hl.1 rfl (lv_room hw) hd hcs) hS (fun q _ h => hFc q h) hFc (fun r t H1 locs1 ht hvm hpost hB hz hk hS1 => ?_)
  obtain ⟨hP1, hD1⟩ := hB
  rw [ht] at hP1
  obtain ⟨hP2, hD2⟩ := va_join (wr := wr) (w1 := F ct a0 r) hP hD isC isR hC hR0 hn hdis hk hFc hP1 hD1
  exact kk r H1 locs1 ls hP2 hD2 hS1 hl
theorem b_callF {y : MethodName} {bytes : ByteArray} {maxL fr lo idx a0 : Nat} {v : Int32} {e0 : (Nat → ClassId) → va_E} {F : (Nat → ClassId) → Nat → (Nat → Nat) → va_W} {wr : va_W} (C : Bx p s m args meth c cc nL own ret D A ct) (hM : MC y bytes maxL fr lo 0 0 [.int v] e0 F) (cw : cwS' own idx y bytes maxL none 2) (isC isR : List Nat) (hC : isC.map (fun i => ws[i]?) = [((a0, e0 ct) : Nat × va_E)].map some) (hR0 : isR.map (fun i => ws[i]?) = wr.map some) (hn : va_nd isR = true) (hdis : ∀ i ∈ isR, i ∉ isC) (hPs : isC.filterMap (fun i => ws[i]?) = [(a0, e0 ct)]) (hw : (st.map fun v => v.category).sum ≤ 8) (hR : fr + 1 ≤ R.frames ∧ 8 + (maxL + 11) + lo ≤ R.locals) (hcs : cells ≤ R.cells ∧ slots ≤ R.slots) (hd : decode cc pc = .ok (.invokestatic idx, 3))
    (kk : ∀ r : Nat → Nat, BW p l e R s m args below meth c cells slots Q D A nL (wr ++ F ct a0 r) (pc + 3) lv st) : BW p l e R s m args below meth c cells slots Q D A nL ws pc lv (.int v :: .ref a0 :: st) := fun H locs ls hP hD hS hl => by
  have hPc := hP.sub (ws' := [(a0, e0 ct)]) isC hPs
  have hFc := va_free (wc := [(a0, e0 ct)]) hD hS C.2.2.1 isC hC
  refine va_callv (va_runS (As := [.ref a0, .int v]) (rest := st) C.1 (hM l D ct a0 H.size) ⟨cw.1.useC C.1.2.2.2.2 hR, C.1.2.2.2.2 _ cw.2⟩ ⟨PC_blind, fun U hU hW => ⟨rfl, by rw [hU], by rw [hU]; exact hPc, C.2.1.moved hW.alike, C.2.2.2.1.warm hW⟩⟩ rfl rfl hl.1 rfl (lv_room hw) hd hcs) hS (fun q _ h => hFc q h) hFc (fun r t H1 locs1 ht hvm hpost hB hz hk hS1 => ?_)
  obtain ⟨hP1, hD1⟩ := hB
  rw [ht] at hP1
  obtain ⟨hP2, hD2⟩ := va_join (wr := wr) (w1 := F ct a0 r) hP hD isC isR hC hR0 hn hdis hk hFc hP1 hD1
  exact kk r H1 locs1 ls hP2 hD2 hS1 hl
theorem b_loop (N : Nat) (Wf : Nat → va_W) (lf : Int32 → List (Option Value)) (step : ∀ i, i < N → BW p l e R s m args below meth c cells slots Q D A nL (Wf (i + 1)) pc (lf (nI i + 1)) st → BW p l e R s m args below meth c cells slots Q D A nL (Wf i) pc (lf (nI i)) st) (done : BW p l e R s m args below meth c cells slots Q D A nL (Wf N) pc (lf (nI N)) st) : BW p l e R s m args below meth c cells slots Q D A nL (Wf 0) pc (lf 0) st := by
  have key : ∀ j, j ≤ N → BW p l e R s m args below meth c cells slots Q D A nL (Wf (N - j)) pc (lf (nI (N - j))) st := by
    intro j
    induction j with
    | zero => intro _; exact done
    | succ j ih =>
      intro hj
      have h1 := ih (by omega)
      have e : N - j = (N - (j + 1)) + 1 := by omega
      rw [e, nI_succ] at h1
      exact step (N - (j + 1)) (by omega) h1
  have h := key N (Nat.le_refl N)
  rw [Nat.sub_self] at h
  exact h
end BLC
def flF (i : Nat) (v : Int32) (f : Nat → Int32) : Nat → Int32 := fun j => if j < i then v else f j
theorem flF_0 (v : Int32) (f : Nat → Int32) : flF 0 v f = f := by
  funext j
  rw [flF, if_neg (by omega)]
theorem flF_s (i : Nat) (v : Int32) (f : Nat → Int32) : upd (flF i v f) i v = flF (i + 1) v f := by
  funext j
  unfold upd flF
  by_cases e : j = i
  · simp [e]
  · by_cases l : j < i
    · simp [e, l, Nat.lt_succ_of_lt l]
    · simp [e, l, show ¬ j < i + 1 by omega]
set_option maxHeartbeats 4000000 in
theorem mc_fill (n : Nat) (hn : n < 2 ^ 31) (v : Int32) (f : Nat → Int32) : MC yJ7_fill_53178 cJ7_fill_53178 4 0 0 0 0 [.int v] (fun ct => .inl (ct 0, n, .inl f)) (fun ct h0 _ => [(h0, .inl (ct 0, n, .inl (flF n v f)))]) := by
  refine MC.intro (lv0 := fun h0 => [some (.ref h0), some (.int v), none, none]) (by decide) (fun h0 => ⟨(Nat.le_of_ble_eq_true rfl), rfl⟩) ?_
  intro p l e s m args below meth c D A ct h0 C _
  refine b_iconst (v := 0) C dJ7_fill_53178_0 (by decide) ?_
  refine b_istore2 C dJ7_fill_53178_1 (by decide) (by intro w h0 h; cases h; rfl) ?_
  refine b_aload0 C dJ7_fill_53178_2 ?_
  refine b_alen (q0 := 0) (v := nI n) C rfl rfl dJ7_fill_53178_3 ?_
  refine b_istore3 C dJ7_fill_53178_4 (by decide) (by intro w h0 h; cases h; rfl) ?_
  refine b_to (ws' := [(h0, .inl (ct 0, n, .inl (flF 0 v f)))]) (by rw [flF_0]) ?_
  refine b_loop n (fun i => [(h0, .inl (ct 0, n, .inl (flF i v f)))]) (fun x => [some (.ref h0), some (.int v), some (.int x), some (.int (nI n))]) (fun i hi k => ?_) ?_
  · refine b_iload2 C dJ7_fill_53178_5 ?_
    refine b_iload3 C dJ7_fill_53178_6 ?_
    refine b_icmp_ge (tgt := 20) C dJ7_fill_53178_7 (by decide) (fun g => absurd g (nI_ge hi hn)) (fun _ => ?_)
    refine b_aload0 C dJ7_fill_53178_10 ?_
    refine b_iload2 C dJ7_fill_53178_11 ?_
    refine b_iload1 C dJ7_fill_53178_12 ?_
    refine b_iast (q0 := 0) (ws' := [(h0, .inl (ct 0, n, .inl (flF (i + 1) v f)))]) C rfl (vp_in_nI hi hn) dJ7_fill_53178_13 (by rw [nI_clamp (by omega), flF_s]; rfl) ?_
    refine b_iinc2 (y := nI i + 1) C dJ7_fill_53178_14 rfl (by decide) (by intro w h0 h; cases h; rfl) ?_
    exact b_goto (tgt := 5) C dJ7_fill_53178_17 (by decide) k
  · refine b_iload2 C dJ7_fill_53178_5 ?_
    refine b_iload3 C dJ7_fill_53178_6 ?_
    refine b_icmp_ge (tgt := 20) C dJ7_fill_53178_7 (by decide) (fun _ => ?_) (fun g => absurd (Int32.le_refl _) g)
    exact b_ret C (fun _ => 0) rfl dJ7_fill_53178_20
