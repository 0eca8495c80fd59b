theorem tbw_good {w : Cond} (h : w ∈ tbw) : goodWord w = true := (List.mem_filter.mp h).2
section LY2
variable {p : Program} {l : Launch} {e : Env} {R : Room} {s : State} {m : MethodId} {args : Array Value} {below : List Frame} {meth : Method} {c : Code} {cells slots : Nat} {Q : State → Prop} {D : va_G} {A : Nat → Prop} {ct : Nat → ClassId} {a : Nat → Nat} {nL : Nat} {M : Mm} {pc : Nat} {lv : List (Option Value)} {st : List Value} {cc : ByteArray} {own : String} {ret : Option FieldType}
/-- a field, read -/
theorem q_get {k ci j f N index : Nat} {fs : List Nat} {Cn : String} {T : u_T} (C : Cx p s m args meth c cc nL own ret D A ct a) (hs : SH[k]? = some (.inl (ci, fs))) (hf : fs[j]? = some f) (hc : vwCl[ci]? = some (Cn, T, N)) (hj : j < N) (hin : ∀ w ∈ u_ws Cn T N, w ∈ tbw) (hm : Cond.fieldLink own index (T j).1 (T j).2.1 (T j).2.2.1 ∈ tbw) (hd : decode cc pc = .ok (.getfield index, 3))
    (kk : KW p l e R s m args below meth c cells slots Q D A ct a nL M (pc + 3) lv (fv a M k j f :: st)) : KW p l e R s m args below meth c cells slots Q D A ct a nL M pc lv (.ref (a k) :: st) := fun H locs ls hP hS hl =>
  va_get C.1.1 C.1.2.1 C.1.2.2.2.2 hin C.1.2.2.2.1 C.2.1 hP k (wd_get hs) hc j hj (C.1.2.2.2.2 _ hm) (fun _ h => h) (v := fv a M k j f) (by simp [List.getElem?_mapIdx, hf]) hd (kk H locs ls hP hS hl)
theorem q_putI {k ci j N index : Nat} {fs : List Nat} {Cn : String} {T : u_T} {ty0 : Nat → FieldType} {v : Int32} (C : Cx p s m args meth c cc nL own ret D A ct a) (hs : SH[k]? = some (.inl (ci, fs))) (hf : fs[j]? = some 0) (hc : vwCl[ci]? = some (Cn, T, N)) (hj : j < N) (hin : ∀ w ∈ u_ws Cn T N, w ∈ tbw) (hty : ∀ k, k < N → parseFieldDescriptor (T k).2.2.1 = some (ty0 k)) (hnm : ∀ a, a < N → ∀ b, b < N → a ≠ b → (T a).2.1 ≠ (T b).2.1) (hm : Cond.fieldLink own index (T j).1 (T j).2.1 (T j).2.2.1 ∈ tbw) (hfin : (T j).2.2.2 = false) {ty : FieldType} (hdd : parseFieldDescriptor (T j).2.2.1 = some ty) (hn : narrow ty (.int v) = .int v) (hfit : fits ty (.int v) = true) (hd : decode cc pc = .ok (.putfield index, 3))
    (kk : KW p l e R s m args below meth c cells slots Q D A ct a nL (sI M k j v) (pc + 3) lv st) : KW p l e R s m args below meth c cells slots Q D A ct a nL M pc lv (.int v :: .ref (a k) :: st) := fun H locs ls hP hS hl => by
  refine va_put C.1.1 C.1.2.1 C.1.2.2.2.2 hin ty0 hty hnm C.1.2.2.2.1 C.2.1 hP (C.2.2.1.toD ct M) hS k (wd_get hs) hc j hj (C.1.2.2.2.2 _ hm) (fun _ h => h) hfin hdd hn hfit (by simpa using (List.getElem?_eq_some_iff.mp hf).1) hd (fun H1 locs1 hP1 hD1 hS1 => ?_)
  rw [fs_setI hf] at hP1
  have e := wd_set (ct := ct) (a := a) (M := M) (M' := sI M k j v) hs (fun i j' h => by simp [gI_sI, h]) (fun i j' h => rfl)
  exact kk H1 locs1 ls (by rw [← e]; exact hP1) hS1 hl
theorem q_putJ {k ci j N index : Nat} {fs : List Nat} {Cn : String} {T : u_T} {ty0 : Nat → FieldType} {v : Int64} (C : Cx p s m args meth c cc nL own ret D A ct a) (hs : SH[k]? = some (.inl (ci, fs))) (hf : fs[j]? = some 1) (hc : vwCl[ci]? = some (Cn, T, N)) (hj : j < N) (hin : ∀ w ∈ u_ws Cn T N, w ∈ tbw) (hty : ∀ k, k < N → parseFieldDescriptor (T k).2.2.1 = some (ty0 k)) (hnm : ∀ a, a < N → ∀ b, b < N → a ≠ b → (T a).2.1 ≠ (T b).2.1) (hm : Cond.fieldLink own index (T j).1 (T j).2.1 (T j).2.2.1 ∈ tbw) (hfin : (T j).2.2.2 = false) (hdd : parseFieldDescriptor (T j).2.2.1 = some .long) (hd : decode cc pc = .ok (.putfield index, 3))
    (kk : KW p l e R s m args below meth c cells slots Q D A ct a nL (sJ M k j v) (pc + 3) lv st) : KW p l e R s m args below meth c cells slots Q D A ct a nL M pc lv (.long v :: .ref (a k) :: st) := fun H locs ls hP hS hl => by
  refine va_put C.1.1 C.1.2.1 C.1.2.2.2.2 hin ty0 hty hnm C.1.2.2.2.1 C.2.1 hP (C.2.2.1.toD ct M) hS k (wd_get hs) hc j hj (C.1.2.2.2.2 _ hm) (fun _ h => h) hfin hdd rfl rfl (by simpa using (List.getElem?_eq_some_iff.mp hf).1) hd (fun H1 locs1 hP1 hD1 hS1 => ?_)
  rw [fs_setJ hf] at hP1
  have e := wd_set (ct := ct) (a := a) (M := M) (M' := sJ M k j v) hs (fun i j' h => rfl) (fun i j' h => by simp [gJ_sJ, h])
  exact kk H1 locs1 ls (by rw [← e]; exact hP1) hS1 hl
/-! arrays -/
theorem q_iald {k n r : Nat} {i : Int32} (C : Cx p s m args meth c cc nL own ret D A ct a) (hs : SH[k]? = some (.inr (0, n, r))) (hin : vp_in i n) (hd : decode cc pc = .ok (.iaload, 1)) (kk : KW p l e R s m args below meth c cells slots Q D A ct a nL M (pc + 1) lv (.int (gI M k i.toNatClampNeg) :: st)) : KW p l e R s m args below meth c cells slots Q D A ct a nL M pc lv (.int i :: .ref (a k) :: st) := fun H locs ls hP hS hl =>
  va_iald (f := gI M k) C.1.1 C.1.2.1 C.2.1 hP k 0 (wd_get hs) rfl hin hd (kk H locs ls hP hS hl)
theorem q_zald {k n r : Nat} {i : Int32} (C : Cx p s m args meth c cc nL own ret D A ct a) (hs : SH[k]? = some (.inr (2, n, r))) (hin : vp_in i n) (hd : decode cc pc = .ok (.baload, 1)) (kk : KW p l e R s m args below meth c cells slots Q D A ct a nL M (pc + 1) lv (.int (gI M k i.toNatClampNeg) :: st)) : KW p l e R s m args below meth c cells slots Q D A ct a nL M pc lv (.int i :: .ref (a k) :: st) := fun H locs ls hP hS hl =>
  va_zald (f := gI M k) C.1.1 C.1.2.1 C.2.1 hP k 2 (wd_get hs) rfl hin hd (kk H locs ls hP hS hl)
theorem q_lald {k n r : Nat} {i : Int32} (C : Cx p s m args meth c cc nL own ret D A ct a) (hs : SH[k]? = some (.inr (1, n, r))) (hin : vp_in i n) (hd : decode cc pc = .ok (.laload, 1)) (kk : KW p l e R s m args below meth c cells slots Q D A ct a nL M (pc + 1) lv (.long (gJ M k i.toNatClampNeg) :: st)) : KW p l e R s m args below meth c cells slots Q D A ct a nL M pc lv (.int i :: .ref (a k) :: st) := fun H locs ls hP hS hl =>
  va_lald (f := gJ M k) C.1.1 C.1.2.1 C.2.1 hP k 1 (wd_get hs) rfl hin hd (kk H locs ls hP hS hl)
theorem q_aald {k n r : Nat} {i : Int32} (C : Cx p s m args meth c cc nL own ret D A ct a) (hs : SH[k]? = some (.inr (3, n, r))) (hin : vp_in i n) (hd : decode cc pc = .ok (.aaload, 1)) (kk : KW p l e R s m args below meth c cells slots Q D A ct a nL M (pc + 1) lv (.ref (a (r + i.toNatClampNeg)) :: st)) : KW p l e R s m args below meth c cells slots Q D A ct a nL M pc lv (.int i :: .ref (a k) :: st) := fun H locs ls hP hS hl => by
  have hlt : i.toNatClampNeg < n := Nat.not_le.mp fun q => hin (Or.inr q)
  have ha := hP k _ (wd_get hs)
  exact W.aald (v := .ref (a (r + i.toNatClampNeg))) (ty := .array .int) C.1.1 C.1.2.1 ha ((C.2.1.2 3 (ct 3, .array .int) rfl).1 n (fun j => va_rf (if j < n then some (a (r + j)) else none))) rfl (fun q => by cases q) (by show ¬ (i < 0 ∨ (arrV _ _ _).slots.size ≤ _); rw [arrV_size]; exact hin) (by show (arrV _ _ _).slots[_]? = _; rw [arrV_read _ _ hlt]; simp [hlt, va_rf]) rfl rfl hd (kk H locs ls hP hS hl)
theorem q_iast {k n r : Nat} {i v : Int32} (C : Cx p s m args meth c cc nL own ret D A ct a) (hs : SH[k]? = some (.inr (0, n, r))) (hin : vp_in i n) (hd : decode cc pc = .ok (.iastore, 1)) (kk : KW p l e R s m args below meth c cells slots Q D A ct a nL (sI M k i.toNatClampNeg v) (pc + 1) lv st) : KW p l e R s m args below meth c cells slots Q D A ct a nL M pc lv (.int v :: .int i :: .ref (a k) :: st) := fun H locs ls hP hS hl => by
  refine va_iast (f := gI M k) C.1.1 C.1.2.1 C.2.1 hP (C.2.2.1.toD ct M) hS k 0 (wd_get hs) rfl hin hd (fun H1 locs1 hP1 hD1 hS1 => ?_)
  rw [ca_upd] at hP1
  have e := wd_set (ct := ct) (a := a) (M := M) (M' := sI M k i.toNatClampNeg v) hs (fun i j' h => by simp [gI_sI, h]) (fun i j' h => rfl)
  exact kk H1 locs1 ls (by rw [← e]; exact hP1) hS1 hl
theorem q_zast {k n r : Nat} {i v : Int32} (C : Cx p s m args meth c cc nL own ret D A ct a) (hs : SH[k]? = some (.inr (2, n, r))) (hin : vp_in i n) (hv : vp_nar .boolean v = v) (hd : decode cc pc = .ok (.bastore, 1)) (kk : KW p l e R s m args below meth c cells slots Q D A ct a nL (sI M k i.toNatClampNeg v) (pc + 1) lv st) : KW p l e R s m args below meth c cells slots Q D A ct a nL M pc lv (.int v :: .int i :: .ref (a k) :: st) := fun H locs ls hP hS hl => by
  refine va_zast (f := gI M k) C.1.1 C.1.2.1 C.2.1 hP (C.2.2.1.toD ct M) hS k 2 (wd_get hs) rfl hin hd (fun H1 locs1 hP1 hD1 hS1 => ?_)
  rw [hv, ca_upd] at hP1
  have e := wd_set (ct := ct) (a := a) (M := M) (M' := sI M k i.toNatClampNeg v) hs (fun i j' h => by simp [gI_sI, h]) (fun i j' h => rfl)
  exact kk H1 locs1 ls (by rw [← e]; exact hP1) hS1 hl
theorem q_last {k n r : Nat} {i : Int32} {v : Int64} (C : Cx p s m args meth c cc nL own ret D A ct a) (hs : SH[k]? = some (.inr (1, n, r))) (hin : vp_in i n) (hd : decode cc pc = .ok (.lastore, 1)) (kk : KW p l e R s m args below meth c cells slots Q D A ct a nL (sJ M k i.toNatClampNeg v) (pc + 1) lv st) : KW p l e R s m args below meth c cells slots Q D A ct a nL M pc lv (.long v :: .int i :: .ref (a k) :: st) := fun H locs ls hP hS hl => by
  refine va_last (f := gJ M k) C.1.1 C.1.2.1 C.2.1 hP (C.2.2.1.toD ct M) hS k 1 (wd_get hs) rfl hin hd (fun H1 locs1 hP1 hD1 hS1 => ?_)
  rw [ca_updL] at hP1
  have e := wd_set (ct := ct) (a := a) (M := M) (M' := sJ M k i.toNatClampNeg v) hs (fun i j' h => rfl) (fun i j' h => by simp [gJ_sJ, h])
  exact kk H1 locs1 ls (by rw [← e]; exact hP1) hS1 hl
theorem q_alen {k t n r : Nat} {v : Int32} (C : Cx p s m args meth c cc nL own ret D A ct a) (hs : SH[k]? = some (.inr (t, n, r))) (ht : t < 3) (hv : Int32.ofNat n = v) (hd : decode cc pc = .ok (.arraylength, 1)) (kk : KW p l e R s m args below meth c cells slots Q D A ct a nL M (pc + 1) lv (.int v :: st)) : KW p l e R s m args below meth c cells slots Q D A ct a nL M pc lv (.ref (a k) :: st) := fun H locs ls hP hS hl => by
  have h3 : ∃ ty, (tyl ct)[t]? = some (ct t, ty) := by
    rcases (show t = 0 ∨ t = 1 ∨ t = 2 by omega) with rfl | rfl | rfl
    · exact ⟨_, rfl⟩
    · exact ⟨_, rfl⟩
    · exact ⟨_, rfl⟩
  obtain ⟨ty, hty⟩ := h3
  exact va_alen C.1.1 C.1.2.1 C.2.1 hP k t (wd_get hs) hty hv hd (kk H locs ls hP hS hl)
/-- the constant row of kinds -/
theorem q_getK {index : Nat} (C : Cx p s m args meth c cc nL own ret D A ct a) (hm : Cond.fieldLink own index "KilnLine$Kiln" "KINDS" "[I" ∈ tbw) (hd : decode cc pc = .ok (.getstatic index, 3)) (kk : ∀ t, va_T .int t 4 (fun j => .int (kinds j)) A s s.heap → KW p l e R s m args below meth c cells slots Q D A ct a nL M (pc + 3) lv (.ref t :: st)) : KW p l e R s m args below meth c cells slots Q D A ct a nL M pc lv st := fun H locs ls hP hS hl => by
  obtain ⟨t, h1, h2⟩ := C.2.2.2.2.1
  exact va_gets C.1.1 C.1.2.1 h1 hS C.1.2.2.2.1 (C.1.2.2.2.2 _ hm) (fun _ h => h) hd (kk t h2 H locs ls hP hS hl)
theorem q_kald {t : Nat} {i : Int32} (C : Cx p s m args meth c cc nL own ret D A ct a) (ht : va_T .int t 4 (fun j => .int (kinds j)) A s s.heap) (hin : vp_in i 4) (hd : decode cc pc = .ok (.iaload, 1)) (kk : KW p l e R s m args below meth c cells slots Q D A ct a nL M (pc + 1) lv (.int (kinds i.toNatClampNeg) :: st)) : KW p l e R s m args below meth c cells slots Q D A ct a nL M pc lv (.int i :: .ref t :: st) := fun H locs ls hP hS hl =>
  va_ti C.1.1 C.1.2.1 ht hS hin rfl hd (kk H locs ls hP hS hl)
end LY2
/-! contracts -/
def PW (D : va_G) (ct : Nat → ClassId) (a : Nat → Nat) (M : Mm) (sz : Nat) (U : State) : Prop := U.heap.size = sz ∧ va_P D vwCl (wd ct a M) U.heap ∧ va_K D vwCl (tyl ct) U ∧ wdD (fun _ => True) a ∧ Kd (Aa a sz) U U.heap ∧ NW U
abbrev QcI (D : va_G) (A : Nat → Prop) (ct : Nat → ClassId) (a : Nat → Nat) (r : Int32) (M' : Mm) : Array Value → State → Outcome → State → Prop := va_Qi (fun (r' : Int32) (u : Mm) => r' = r ∧ u = M') (fun u t => va_P D vwCl (wd ct a u) t.heap) A
abbrev QcJ (D : va_G) (A : Nat → Prop) (ct : Nat → ClassId) (a : Nat → Nat) (r : Int64) (M' : Mm) : Array Value → State → Outcome → State → Prop := va_Ql (fun (r' : Int64) (u : Mm) => r' = r ∧ u = M') (fun u t => va_P D vwCl (wd ct a u) t.heap) A
abbrev QcV (D : va_G) (A : Nat → Prop) (ct : Nat → ClassId) (a : Nat → Nat) (M' : Mm) : Array Value → State → Outcome → State → Prop := va_Qv (fun (u : Mm) => u = M') (fun u t => va_P D vwCl (wd ct a u) t.heap) A
def MI (y : MethodName) (cc : ByteArray) (nL : Nat) (ret : Option FieldType) (fr lo : Nat) (as : (Nat → Nat) → List Value) (M : Mm) (r : Int32) (M' : Mm) : Prop :=
  ∀ (l : Launch) (D : va_G) (ct : Nat → ClassId) (a : Nat → Nat) (sz : Nat), Met l y (.code y cc nL ret :: tbw) { frames := fr, cells := 0, slots := 0, locals := lo } (va_Pc (as a) (PW D ct a M sz)) (QcI D (Aa a sz) ct a r M') 0 0 (Aa a sz)
def MJ (y : MethodName) (cc : ByteArray) (nL : Nat) (ret : Option FieldType) (fr lo : Nat) (as : (Nat → Nat) → List Value) (M : Mm) (r : Int64) (M' : Mm) : Prop :=
  ∀ (l : Launch) (D : va_G) (ct : Nat → ClassId) (a : Nat → Nat) (sz : Nat), Met l y (.code y cc nL ret :: tbw) { frames := fr, cells := 0, slots := 0, locals := lo } (va_Pc (as a) (PW D ct a M sz)) (QcJ D (Aa a sz) ct a r M') 0 0 (Aa a sz)
def MV (y : MethodName) (cc : ByteArray) (nL : Nat) (ret : Option FieldType) (fr lo : Nat) (as : (Nat → Nat) → List Value) (M : Mm) (M' : Mm) : Prop :=
  ∀ (l : Launch) (D : va_G) (ct : Nat → ClassId) (a : Nat → Nat) (sz : Nat), Met l y (.code y cc nL ret :: tbw) { frames := fr, cells := 0, slots := 0, locals := lo } (va_Pc (as a) (PW D ct a M sz)) (QcV D (Aa a sz) ct a M') 0 0 (Aa a sz)
theorem nws_shape : ∀ w ∈ nws, ∃ c i x h, w = .methodLinkNest c i x h := by
  intro w hw
  simp only [nws, List.mem_cons, List.not_mem_nil, or_false] at hw
  rcases hw with rfl | rfl | rfl | rfl | rfl <;> exact ⟨_, _, _, _, rfl⟩
theorem NW.warm {s U : State} (hW : s.WarmedH U.vm) (h : NW s) : NW U := fun w hw => by
  obtain ⟨c, i, x, q, rfl⟩ := nws_shape w hw
  exact (h _ hw).warmM hW
theorem NW.same {s U : State} (hv : s.vm = U.vm) (h : NW s) : NW U := fun w hw => by
  obtain ⟨c, i, x, q, rfl⟩ := nws_shape w hw
  exact (h _ hw).same rfl hv
theorem Kd.moved {A : Nat → Prop} {u U : State} {H : Heap} (hvm : u.vm.Alike U.vm) (h : Kd A u H) : Kd A U H := by
  obtain ⟨t, h1, h2⟩ := h
  exact ⟨t, h1.moved hvm, h2.moved hvm⟩
theorem Kd.kept {A : Nat → Prop} {U : State} {H H1 : Heap} (h : Kd A U H) (hq : ∀ a : Nat, a < H.size → ¬ A a → H1[a]? = H[a]?) : Kd A U H1 := by
  obtain ⟨t, h1, h2⟩ := h
  exact ⟨t, h1.kept hq, h2.kept hq⟩
theorem Kd.narrow {A B : Nat → Prop} {U : State} {H : Heap} (h : Kd A U H) (hAB : ∀ q, B q → A q) : Kd B U H := by
  obtain ⟨t, h1, h2⟩ := h
  exact ⟨t, h1.narrow hAB, h2.narrow hAB⟩
theorem PW_blind {D : va_G} {ct : Nat → ClassId} {a : Nat → Nat} {M : Mm} {sz : Nat} {as : List Value} : FrameBlind (va_Pc as (PW D ct a M sz)) := fun v U g mk q => by
  obtain ⟨q0, q1, q2, q3, q4, q5, q6⟩ := q
  exact ⟨q0, q1, q2, va_K.moved (u := U) (U := U.calling g mk v) (Vm.Alike.refl U.vm) q3, q4, q5.moved (U := U.calling g mk v) (Vm.Alike.refl U.vm), NW.same (s := U) (U := U.calling g mk v) rfl q6⟩
section LY3
variable {p : Program} {l : Launch} {e : Env} {R : Room} {s : State} {m : MethodId} {args : Array Value} {below : List Frame} {meth : Method} {c : Code} {cells slots : Nat} {Q : State → Prop} {D : va_G} {A : Nat → Prop} {ct : Nat → ClassId} {a : Nat → Nat} {nL : Nat} {M M' : Mm} {pc : Nat} {lv : List (Option Value)} {st : List Value} {cc : ByteArray} {own : String} {ret : Option FieldType}
theorem Cx.pre (C : Cx p s m args meth c cc nL own ret D A ct a) {H : Heap} {locs : List Loc} (hP : va_P D vwCl (wd ct a M) H) (hS : va_S A s.heap H locs) {U : State} (hU : U.heap = H) (hW : s.WarmedH U.vm) : PW D ct a M H.size U := by
  obtain ⟨-, hK, hD, hA, hKd, hN, -, -⟩ := C
  refine ⟨by rw [hU], by rw [hU]; exact hP, hK.moved hW.alike, ⟨hD.1, fun _ _ => trivial⟩, ?_, hN.warm hW⟩
  rw [hU]
  refine ((hKd.moved hW.alike).kept (H1 := H) (fun q h1 h2 => hS.2.1 q h1 h2)).narrow (fun q hq => ?_)
  rcases hq with ⟨k, hk, rfl⟩ | hq
  · exact hD.2 k hk
  · exact hA q (Nat.le_trans hS.1 hq)
theorem Cx.freeA (C : Cx p s m args meth c cc nL own ret D A ct a) {H : Heap} {locs : List Loc} (hS : va_S A s.heap H locs) : ∀ q, Aa a H.size q → A q := fun q hq => by
  rcases hq with ⟨k, hk, rfl⟩ | hq
  · exact C.2.2.1.2 k hk
  · exact C.2.2.2.1 q (Nat.le_trans hS.1 hq)
def cwB (own : String) (idx : Nat) (y : MethodName) (bytes : ByteArray) (maxL : Nat) (ret : Option FieldType) (n : Nat) : Prop := (Cond.methodLink own idx y ∈ tbw ∧ Cond.code y bytes maxL ret ∈ tbw ∧ Cond.initialized y.cls ∈ tbw) ∧ (y.cls ≠ "java/lang/invoke/MethodHandle" ∧ y.cls ≠ "java/lang/invoke/VarHandle" ∧ (parseMethodDescriptor y.desc).map (fun d => d.parameters.length) = some n)
def cwV' (own : String) (idx : Nat) (y : MethodName) (bytes : ByteArray) (maxL : Nat) (ret : Option FieldType) (n : Nat) : Prop := cwB own idx y bytes maxL ret n ∧ Cond.instanceMethod y ∈ tbw ∧ Cond.selects y.cls y y ∈ tbw
def cwS' (own : String) (idx : Nat) (y : MethodName) (bytes : ByteArray) (maxL : Nat) (ret : Option FieldType) (n : Nat) : Prop := cwB own idx y bytes maxL ret n ∧ Cond.static y ∈ tbw
theorem good_tbw {y : MethodName} {bytes : ByteArray} {maxL : Nat} {ret : Option FieldType} (h : Cond.code y bytes maxL ret ∈ tbw) : GoodIn tbw (Cond.code y bytes maxL ret :: tbw) := fun w hw => by
  have h' : w ∈ tbw := (List.mem_cons.mp hw).elim (fun e => e ▸ h) id
  exact ⟨h', good_of_word (tbw_good h')⟩
theorem cwB.use {own : String} {idx : Nat} {y : MethodName} {bytes : ByteArray} {maxL n fr lo : Nat} {ret : Option FieldType} (h : cwB own idx y bytes maxL ret n) (hts : ∀ w ∈ tbw, w.before args s = true) (hR : fr + 1 ≤ R.frames ∧ 8 + (maxL + 11) + lo ≤ R.locals) : CallB R s args own idx y bytes maxL ret (.code y bytes maxL ret :: tbw) { frames := fr, cells := 0, slots := 0, locals := lo } 0 0 n :=
  callB_of (ws' := tbw) n hts (good_tbw h.1.2.1) rfl rfl rfl (hts _ h.1.2.2) (hts _ h.1.1) h.2 hR
theorem qc_VI {y : MethodName} {bytes : ByteArray} {maxL n fr lo k0 ci idx : Nat} {fs : List Nat} {ret2 : Option FieldType} {as : (Nat → Nat) → List Value} {r : Int32} {stk : List Value} (C : Cx p s m args meth c cc nL own ret D A ct a) (hM : MI y bytes maxL ret2 fr lo (fun a => .ref (a k0) :: as a) M r M') (cw : cwV' own idx y bytes maxL ret2 n) (hs : SH[k0]? = some (.inl (ci, fs))) (hc : vwCl[ci]?.map (fun q => q.1) = some y.cls) (hn : (as a).length = n) (hst : stk = (as a).reverse ++ .ref (a k0) :: st) (hw : (st.map fun v => v.category).sum ≤ 8) (hR : fr + 1 ≤ R.frames ∧ 8 + (maxL + 11) + lo ≤ R.locals) (hcs : cells ≤ R.cells ∧ slots ≤ R.slots) (hd : decode cc pc = .ok (.invokevirtual idx, 3)) (kk : KW p l e R s m args below meth c cells slots Q D A ct a nL M' (pc + 3) lv (.int r :: st)) : KW p l e R s m args below meth c cells slots Q D A ct a nL M pc lv stk := fun H locs ls hP hS hl => by
  subst hst
  obtain ⟨q, hq1, hq2⟩ : ∃ q, vwCl[ci]? = some q ∧ q.1 = y.cls := by
    cases hv : vwCl[ci]? with
    | none => rw [hv] at hc; cases hc
    | some q => rw [hv] at hc; exact ⟨q, rfl, Option.some.inj hc⟩
  have hrecv := va_recv (C.2.1) hP hq1 (wd_get (ct := ct) (a := a) (M := M) hs)
  rw [hq2] at hrecv
  refine va_calli (va_runV (C := y.cls) (As := as a) (rest := st) C.1 (hM l D ct a H.size) ⟨cw.1.use C.1.2.2.2.2 hR, C.1.2.2.2.2 _ cw.2.1, C.1.2.2.2.2 _ cw.2.2⟩ ⟨PW_blind, hrecv, fun U hU hW => ⟨rfl, C.pre hP hS hU hW⟩⟩ rfl hn hl.1 rfl (lv_room hw) hd ⟨hcs.1, hcs.2⟩) hS (fun q _ h => C.freeA hS q h) (C.freeA hS) (fun r' u t H1 locs1 ht hvm hpost hB hz hk hS1 => ?_)
  obtain ⟨rfl, rfl⟩ := hpost
  rw [ht] at hB
  exact kk H1 locs1 ls hB hS1 hl
theorem qc_SI {y : MethodName} {bytes : ByteArray} {maxL n fr lo idx : Nat} {ret2 : Option FieldType} {as : (Nat → Nat) → List Value} {r : Int32} {stk : List Value} (C : Cx p s m args meth c cc nL own ret D A ct a) (hM : MI y bytes maxL ret2 fr lo as M r M') (cw : cwS' own idx y bytes maxL ret2 n) (hn : (as a).length = n) (hst : stk = (as a).reverse ++ st) (hw : (st.map fun v => v.category).sum ≤ 8) (hR : fr + 1 ≤ R.frames ∧ 8 + (maxL + 11) + lo ≤ R.locals) (hcs : cells ≤ R.cells ∧ slots ≤ R.slots) (hd : decode cc pc = .ok (.invokestatic idx, 3)) (kk : KW p l e R s m args below meth c cells slots Q D A ct a nL M' (pc + 3) lv (.int r :: st)) : KW p l e R s m args below meth c cells slots Q D A ct a nL M pc lv stk := fun H locs ls hP hS hl => by
  subst hst
  refine va_calli (va_runS (As := as a) (rest := st) C.1 (hM l D ct a H.size) ⟨cw.1.use C.1.2.2.2.2 hR, C.1.2.2.2.2 _ cw.2⟩ ⟨PW_blind, fun U hU hW => ⟨rfl, C.pre hP hS hU hW⟩⟩ rfl hn hl.1 rfl (lv_room hw) hd ⟨hcs.1, hcs.2⟩) hS (fun q _ h => C.freeA hS q h) (C.freeA hS) (fun r' u t H1 locs1 ht hvm hpost hB hz hk hS1 => ?_)
  obtain ⟨rfl, rfl⟩ := hpost
  rw [ht] at hB
  exact kk H1 locs1 ls hB hS1 hl
theorem qc_VJ {y : MethodName} {bytes : ByteArray} {maxL n fr lo k0 ci idx : Nat} {fs : List Nat} {ret2 : Option FieldType} {as : (Nat → Nat) → List Value} {r : Int64} {stk : List Value} (C : Cx p s m args meth c cc nL own ret D A ct a) (hM : MJ y bytes maxL ret2 fr lo (fun a => .ref (a k0) :: as a) M r M') (cw : cwV' own idx y bytes maxL ret2 n) (hs : SH[k0]? = some (.inl (ci, fs))) (hc : vwCl[ci]?.map (fun q => q.1) = some y.cls) (hn : (as a).length = n) (hst : stk = (as a).reverse ++ .ref (a k0) :: st) (hw : (st.map fun v => v.category).sum ≤ 8) (hR : fr + 1 ≤ R.frames ∧ 8 + (maxL + 11) + lo ≤ R.locals) (hcs : cells ≤ R.cells ∧ slots ≤ R.slots) (hd : decode cc pc = .ok (.invokevirtual idx, 3)) (kk : KW p l e R s m args below meth c cells slots Q D A ct a nL M' (pc + 3) lv (.long r :: st)) : KW p l e R s m args below meth c cells slots Q D A ct a nL M pc lv stk := fun H locs ls hP hS hl => by
  subst hst
  obtain ⟨q, hq1, hq2⟩ : ∃ q, vwCl[ci]? = some q ∧ q.1 = y.cls := by
    cases hv : vwCl[ci]? with
    | none => rw [hv] at hc; cases hc
    | some q => rw [hv] at hc; exact ⟨q, rfl, Option.some.inj hc⟩
  have hrecv := va_recv (C.2.1) hP hq1 (wd_get (ct := ct) (a := a) (M := M) hs)
  rw [hq2] at hrecv
  refine va_calll (va_runV (C := y.cls) (As := as a) (rest := st) C.1 (hM l D ct a H.size) ⟨cw.1.use C.1.2.2.2.2 hR, C.1.2.2.2.2 _ cw.2.1, C.1.2.2.2.2 _ cw.2.2⟩ ⟨PW_blind, hrecv, fun U hU hW => ⟨rfl, C.pre hP hS hU hW⟩⟩ rfl hn hl.1 rfl (lv_room hw) hd ⟨hcs.1, hcs.2⟩) hS (fun q _ h => C.freeA hS q h) (C.freeA hS) (fun r' u t H1 locs1 ht hvm hpost hB hz hk hS1 => ?_)
  obtain ⟨rfl, rfl⟩ := hpost
  rw [ht] at hB
  exact kk H1 locs1 ls hB hS1 hl
theorem qc_SJ {y : MethodName} {bytes : ByteArray} {maxL n fr lo idx : Nat} {ret2 : Option FieldType} {as : (Nat → Nat) → List Value} {r : Int64} {stk : List Value} (C : Cx p s m args meth c cc nL own ret D A ct a) (hM : MJ y bytes maxL ret2 fr lo as M r M') (cw : cwS' own idx y bytes maxL ret2 n) (hn : (as a).length = n) (hst : stk = (as a).reverse ++ st) (hw : (st.map fun v => v.category).sum ≤ 8) (hR : fr + 1 ≤ R.frames ∧ 8 + (maxL + 11) + lo ≤ R.locals) (hcs : cells ≤ R.cells ∧ slots ≤ R.slots) (hd : decode cc pc = .ok (.invokestatic idx, 3)) (kk : KW p l e R s m args below meth c cells slots Q D A ct a nL M' (pc + 3) lv (.long r :: st)) : KW p l e R s m args below meth c cells slots Q D A ct a nL M pc lv stk := fun H locs ls hP hS hl => by
  subst hst
  refine va_calll (va_runS (As := as a) (rest := st) C.1 (hM l D ct a H.size) ⟨cw.1.use C.1.2.2.2.2 hR, C.1.2.2.2.2 _ cw.2⟩ ⟨PW_blind, fun U hU hW => ⟨rfl, C.pre hP hS hU hW⟩⟩ rfl hn hl.1 rfl (lv_room hw) hd ⟨hcs.1, hcs.2⟩) hS (fun q _ h => C.freeA hS q h) (C.freeA hS) (fun r' u t H1 locs1 ht hvm hpost hB hz hk hS1 => ?_)
  obtain ⟨rfl, rfl⟩ := hpost
  rw [ht] at hB
  exact kk H1 locs1 ls hB hS1 hl
theorem qc_VV {y : MethodName} {bytes : ByteArray} {maxL n fr lo k0 ci idx : Nat} {fs : List Nat} {ret2 : Option FieldType} {as : (Nat → Nat) → List Value} {stk : List Value} (C : Cx p s m args meth c cc nL own ret D A ct a) (hM : MV y bytes maxL ret2 fr lo (fun a => .ref (a k0) :: as a) M  M') (cw : cwV' own idx y bytes maxL ret2 n) (hs : SH[k0]? = some (.inl (ci, fs))) (hc : vwCl[ci]?.map (fun q => q.1) = some y.cls) (hn : (as a).length = n) (hst : stk = (as a).reverse ++ .ref (a k0) :: st) (hw : (st.map fun v => v.category).sum ≤ 8) (hR : fr + 1 ≤ R.frames ∧ 8 + (maxL + 11) + lo ≤ R.locals) (hcs : cells ≤ R.cells ∧ slots ≤ R.slots) (hd : decode cc pc = .ok (.invokevirtual idx, 3)) (kk : KW p l e R s m args below meth c cells slots Q D A ct a nL M' (pc + 3) lv (st)) : KW p l e R s m args below meth c cells slots Q D A ct a nL M pc lv stk := fun H locs ls hP hS hl => by
  subst hst
  obtain ⟨q, hq1, hq2⟩ : ∃ q, vwCl[ci]? = some q ∧ q.1 = y.cls := by
    cases hv : vwCl[ci]? with
    | none => rw [hv] at hc; cases hc
    | some q => rw [hv] at hc; exact ⟨q, rfl, Option.some.inj hc⟩
  have hrecv := va_recv (C.2.1) hP hq1 (wd_get (ct := ct) (a := a) (M := M) hs)
  rw [hq2] at hrecv
  refine va_callv (va_runV (C := y.cls) (As := as a) (rest := st) C.1 (hM l D ct a H.size) ⟨cw.1.use C.1.2.2.2.2 hR, C.1.2.2.2.2 _ cw.2.1, C.1.2.2.2.2 _ cw.2.2⟩ ⟨PW_blind, hrecv, fun U hU hW => ⟨rfl, C.pre hP hS hU hW⟩⟩ rfl hn hl.1 rfl (lv_room hw) hd ⟨hcs.1, hcs.2⟩) hS (fun q _ h => C.freeA hS q h) (C.freeA hS) (fun u t H1 locs1 ht hvm hpost hB hz hk hS1 => ?_)
  subst hpost
  rw [ht] at hB
  exact kk H1 locs1 ls hB hS1 hl
theorem qc_SV {y : MethodName} {bytes : ByteArray} {maxL n fr lo idx : Nat} {ret2 : Option FieldType} {as : (Nat → Nat) → List Value} {stk : List Value} (C : Cx p s m args meth c cc nL own ret D A ct a) (hM : MV y bytes maxL ret2 fr lo as M  M') (cw : cwS' own idx y bytes maxL ret2 n) (hn : (as a).length = n) (hst : stk = (as a).reverse ++ st) (hw : (st.map fun v => v.category).sum ≤ 8) (hR : fr + 1 ≤ R.frames ∧ 8 + (maxL + 11) + lo ≤ R.locals) (hcs : cells ≤ R.cells ∧ slots ≤ R.slots) (hd : decode cc pc = .ok (.invokestatic idx, 3)) (kk : KW p l e R s m args below meth c cells slots Q D A ct a nL M' (pc + 3) lv (st)) : KW p l e R s m args below meth c cells slots Q D A ct a nL M pc lv stk := fun H locs ls hP hS hl => by
  subst hst
  refine va_callv (va_runS (As := as a) (rest := st) C.1 (hM l D ct a H.size) ⟨cw.1.use C.1.2.2.2.2 hR, C.1.2.2.2.2 _ cw.2⟩ ⟨PW_blind, fun U hU hW => ⟨rfl, C.pre hP hS hU hW⟩⟩ rfl hn hl.1 rfl (lv_room hw) hd ⟨hcs.1, hcs.2⟩) hS (fun q _ h => C.freeA hS q h) (C.freeA hS) (fun u t H1 locs1 ht hvm hpost hB hz hk hS1 => ?_)
  subst hpost
  rw [ht] at hB
  exact kk H1 locs1 ls hB hS1 hl
theorem qc_NJ {y : MethodName} {bytes : ByteArray} {maxL n fr lo idx : Nat} {ret2 : Option FieldType} {host : String} {as : (Nat → Nat) → List Value} {r : Int64} {stk : List Value} (C : Cx p s m args meth c cc nL own ret D A ct a) (hM : MJ y bytes maxL ret2 fr lo as M r M') (hl0 : Cond.methodLinkNest own idx y host ∈ nws) (hcd : Cond.code y bytes maxL ret2 ∈ tbw) (hsta : Cond.static y ∈ tbw) (hini : Cond.initialized y.cls ∈ tbw) (hdy : y.cls ≠ "java/lang/invoke/MethodHandle" ∧ y.cls ≠ "java/lang/invoke/VarHandle" ∧ (parseMethodDescriptor y.desc).map (fun d => d.parameters.length) = some n) (hn : (as a).length = n) (hst : stk = (as a).reverse ++ st) (hw : (st.map fun v => v.category).sum ≤ 8) (hR : fr + 1 ≤ R.frames ∧ 8 + (maxL + 11) + lo ≤ R.locals) (hcs : cells ≤ R.cells ∧ slots ≤ R.slots) (hd : decode cc pc = .ok (.invokestatic idx, 3)) (kk : KW p l e R s m args below meth c cells slots Q D A ct a nL M' (pc + 3) lv (.long r :: st)) : KW p l e R s m args below meth c cells slots Q D A ct a nL M pc lv stk := fun H locs ls hP hS hl => by
  subst hst
  refine va_calll (va_runSN (As := as a) (rest := st) C.1 (hM l D ct a H.size) ⟨va_cnB (ws' := tbw) n C.1.2.2.2.2 (good_tbw hcd) rfl rfl rfl (C.2.2.2.2.2.1 _ hl0) (C.1.2.2.2.2 _ hini) hdy hR, C.1.2.2.2.2 _ hsta, trivial⟩ ⟨PW_blind, fun U hU hW => ⟨rfl, C.pre hP hS hU hW⟩⟩ rfl hn hl.1 rfl (lv_room hw) hd ⟨hcs.1, hcs.2⟩) hS (fun q _ h => C.freeA hS q h) (C.freeA hS) (fun r' u t H1 locs1 ht hvm hpost hB hz hk hS1 => ?_)
  obtain ⟨rfl, rfl⟩ := hpost
  rw [ht] at hB
  exact kk H1 locs1 ls hB hS1 hl
theorem qc_mmax {idx : Nat} {x y : Int32} (C : Cx p s m args meth c cc nL own ret D A ct a) (h1 : Cond.methodLink own idx Lib.Math.max.name ∈ tbw) (h2 : Cond.static Lib.Math.max.name ∈ tbw) (h3 : Cond.initialized "java/lang/Math" ∈ tbw) (h4 : Cond.code Lib.Math.max.name Lib.Math.max.code 2 (some .int) ∈ tbw) (hR : 1 ≤ R.frames ∧ (st.map fun v => v.category).sum + 13 ≤ R.locals) (hcs : cells ≤ R.cells ∧ slots ≤ R.slots) (hd : decode cc pc = .ok (.invokestatic idx, 3)) (kk : KW p l e R s m args below meth c cells slots Q D A ct a nL M (pc + 3) lv (.int (if x < y then y else x) :: st)) : KW p l e R s m args below meth c cells slots Q D A ct a nL M pc lv (.int y :: .int x :: st) := fun H locs ls hP hS hl =>
  va_mmax C.1.1 C.1.2.1 (by rw [C.1.2.2.1, hl.1]) C.1.2.2.2.1 (C.1.2.2.2.2 _ h1) (C.1.2.2.2.2 _ h2) (C.1.2.2.2.2 _ h3) (C.1.2.2.2.2 _ h4) hR.1 hR.2 hcs.1 hcs.2 hd (kk H locs ls hP hS hl)
theorem qc_mmin {idx : Nat} {x y : Int32} (C : Cx p s m args meth c cc nL own ret D A ct a) (h1 : Cond.methodLink own idx Lib.Math.min.name ∈ tbw) (h2 : Cond.static Lib.Math.min.name ∈ tbw) (h3 : Cond.initialized "java/lang/Math" ∈ tbw) (h4 : Cond.code Lib.Math.min.name Lib.Math.min.code 2 (some .int) ∈ tbw) (hR : 1 ≤ R.frames ∧ (st.map fun v => v.category).sum + 13 ≤ R.locals) (hcs : cells ≤ R.cells ∧ slots ≤ R.slots) (hd : decode cc pc = .ok (.invokestatic idx, 3)) (kk : KW p l e R s m args below meth c cells slots Q D A ct a nL M (pc + 3) lv (.int (if y < x then y else x) :: st)) : KW p l e R s m args below meth c cells slots Q D A ct a nL M pc lv (.int y :: .int x :: st) := fun H locs ls hP hS hl =>
  va_mmin C.1.1 C.1.2.1 (by rw [C.1.2.2.1, hl.1]) C.1.2.2.2.1 (C.1.2.2.2.2 _ h1) (C.1.2.2.2.2 _ h2) (C.1.2.2.2.2 _ h3) (C.1.2.2.2.2 _ h4) hR.1 hR.2 hcs.1 hcs.2 hd (kk H locs ls hP hS hl)
theorem qc_mabs {idx : Nat} {x : Int32} (C : Cx p s m args meth c cc nL own ret D A ct a) (h1 : Cond.methodLink own idx Lib.Math.abs.name ∈ tbw) (h2 : Cond.static Lib.Math.abs.name ∈ tbw) (h3 : Cond.initialized "java/lang/Math" ∈ tbw) (h4 : Cond.code Lib.Math.abs.name Lib.Math.abs.code 1 (some .int) ∈ tbw) (hR : 1 ≤ R.frames ∧ (st.map fun v => v.category).sum + 13 ≤ R.locals) (hcs : cells ≤ R.cells ∧ slots ≤ R.slots) (hd : decode cc pc = .ok (.invokestatic idx, 3)) (kk : KW p l e R s m args below meth c cells slots Q D A ct a nL M (pc + 3) lv (.int (if 0 ≤ x then x else 0 - x) :: st)) : KW p l e R s m args below meth c cells slots Q D A ct a nL M pc lv (.int x :: st) := fun H locs ls hP hS hl =>
  va_mabs C.1.1 C.1.2.1 (by rw [C.1.2.2.1, hl.1]) C.1.2.2.2.1 (C.1.2.2.2.2 _ h1) (C.1.2.2.2.2 _ h2) (C.1.2.2.2.2 _ h3) (C.1.2.2.2.2 _ h4) hR.1 (by have := hR.2; omega) hcs.1 hcs.2 hd (kk H locs ls hP hS hl)
theorem qc_mminL {idx : Nat} {x y : Int64} (C : Cx p s m args meth c cc nL own ret D A ct a) (h1 : Cond.methodLink own idx Lib.MathLoose.min_long.x ∈ tbw) (h2 : Cond.static Lib.MathLoose.min_long.x ∈ tbw) (h3 : Cond.initialized "java/lang/Math" ∈ tbw) (h4 : Cond.code Lib.MathLoose.min_long.x Lib.MathLoose.min_long.code 4 (some .long) ∈ tbw) (hR : 1 ≤ R.frames ∧ (st.map fun v => v.category).sum + 15 ≤ R.locals) (hcs : cells ≤ R.cells ∧ slots ≤ R.slots) (hd : decode cc pc = .ok (.invokestatic idx, 3)) (kk : KW p l e R s m args below meth c cells slots Q D A ct a nL M (pc + 3) lv (.long (if y < x then y else x) :: st)) : KW p l e R s m args below meth c cells slots Q D A ct a nL M pc lv (.long y :: .long x :: st) := fun H locs ls hP hS hl =>
  va_mmin_long C.1.1 C.1.2.1 (by rw [C.1.2.2.1, hl.1]) C.1.2.2.2.1 (C.1.2.2.2.2 _ h1) (C.1.2.2.2.2 _ h2) (C.1.2.2.2.2 _ h3) (C.1.2.2.2.2 _ h4) hR.1 hR.2 hcs.1 hcs.2 hd (kk H locs ls hP hS hl)
theorem qc_copy {idx k0 k1 n0 n1 r0 r1 : Nat} {sp dp n : Int32} (C : Cx p s m args meth c cc nL own ret D A ct a) (hs0 : SH[k0]? = some (.inr (0, n0, r0))) (hs1 : SH[k1]? = some (.inr (0, n1, r1))) (g1 : Cond.methodLink own idx arraycopyName ∈ tbw) (g2 : Cond.native arraycopyName ∈ lw_tbl) (g2' : (Cond.native arraycopyName).before args s = true) (g3 : Cond.static arraycopyName ∈ tbw) (g4 : Cond.initialized "java/lang/System" ∈ tbw) (h1 : ¬ sp < 0) (h2 : ¬ dp < 0) (h3 : ¬ n < 0) (h4 : sp.toNatClampNeg + n.toNatClampNeg ≤ n0) (h5 : dp.toNatClampNeg + n.toNatClampNeg ≤ n1) (hR : 1 ≤ R.frames ∧ (st.map fun v => v.category).sum + (nativeFrameWords "java/lang/System" "arraycopy" 5 + 11) ≤ R.locals) (hd : decode cc pc = .ok (.invokestatic idx, 3)) (kk : KW p l e R s m args below meth c cells slots Q D A ct a nL (sA M k1 (va_cpy (gI M k0) (gI M k1) sp.toNatClampNeg dp.toNatClampNeg n.toNatClampNeg)) (pc + 3) lv st) : KW p l e R s m args below meth c cells slots Q D A ct a nL M pc lv (.int n :: .int dp :: .ref (a k1) :: .int sp :: .ref (a k0) :: st) := fun H locs ls hP hS hl => by
  refine va_copyi (f := gI M k0) (g := gI M k1) (ty := .int) C.1.1 C.1.2.1 (by rw [C.1.2.2.1, hl.1]) C.1.2.2.2.1 (C.1.2.2.2.2 _ g1) g2' (C.1.2.2.2.2 _ g3) (C.1.2.2.2.2 _ g4) C.2.1 hP (C.2.2.1.toD ct M) hS k0 k1 0 0 (wd_get hs0) (wd_get hs1) rfl rfl rfl h1 h2 h3 h4 h5 (fun _ _ => rfl) hR.1 hR.2 hd (fun H1 locs1 hP1 hD1 hS1 => ?_)
  have e0 : va_cpy (gI M k0) (gI M k1) sp.toNatClampNeg dp.toNatClampNeg n.toNatClampNeg = gI (sA M k1 (va_cpy (gI M k0) (gI M k1) sp.toNatClampNeg dp.toNatClampNeg n.toNatClampNeg)) k1 := by funext j; simp [gI_sA]
  rw [e0] at hP1
  have e := wd_set (ct := ct) (a := a) (M := M) (M' := sA M k1 (va_cpy (gI M k0) (gI M k1) sp.toNatClampNeg dp.toNatClampNeg n.toNatClampNeg)) hs1 (fun i j' h => by simp [gI_sA, h]) (fun i j' h => rfl)
  exact kk H1 locs1 ls (by rw [← e]; exact hP1) hS1 hl
theorem q_iret {v r : Int32} (C : Cx p s m args meth c cc nL own (some .int) D A ct a)  (h1 : v = r) (h2 : M = M') (hd : decode cc pc = .ok (.ireturn, 1)) : KW p l e R s m args below meth c 0 0 (MQ below (QcI D A ct a r M') args s 0 0 A) D A ct a nL M pc lv [.int v] := fun H locs ls hP hS hl => by
  subst h1
  subst h2
  exact W.iret (v := v) C.1.1 C.1.2.1 C.2.2.2.2.2.2.2  (fun t ht hW => ⟨⟨v, M, rfl, ⟨rfl, rfl⟩, by show va_P D vwCl (wd ct a M) t.heap; rw [ht]; exact hP⟩, hS.F ht⟩) hS.2.2 hd C.2.2.2.2.2.2.1
theorem q_zret {v r : Int32} (C : Cx p s m args meth c cc nL own (some .boolean) D A ct a) (hn : narrow .boolean (.int v) = .int v) (h1 : v = r) (h2 : M = M') (hd : decode cc pc = .ok (.ireturn, 1)) : KW p l e R s m args below meth c 0 0 (MQ below (QcI D A ct a r M') args s 0 0 A) D A ct a nL M pc lv [.int v] := fun H locs ls hP hS hl => by
  subst h1
  subst h2
  exact W.zret (v := v) C.1.1 C.1.2.1 C.2.2.2.2.2.2.2 hn (fun t ht hW => ⟨⟨v, M, rfl, ⟨rfl, rfl⟩, by show va_P D vwCl (wd ct a M) t.heap; rw [ht]; exact hP⟩, hS.F ht⟩) hS.2.2 hd C.2.2.2.2.2.2.1
theorem q_lret {v r : Int64} (C : Cx p s m args meth c cc nL own (some .long) D A ct a)  (h1 : v = r) (h2 : M = M') (hd : decode cc pc = .ok (.lreturn, 1)) : KW p l e R s m args below meth c 0 0 (MQ below (QcJ D A ct a r M') args s 0 0 A) D A ct a nL M pc lv [.long v] := fun H locs ls hP hS hl => by
  subst h1
  subst h2
  exact W.lret (v := v) C.1.1 C.1.2.1 C.2.2.2.2.2.2.2  (fun t ht hW => ⟨⟨v, M, rfl, ⟨rfl, rfl⟩, by show va_P D vwCl (wd ct a M) t.heap; rw [ht]; exact hP⟩, hS.F ht⟩) hS.2.2 hd C.2.2.2.2.2.2.1
theorem q_vret (C : Cx p s m args meth c cc nL own none D A ct a) (h2 : M = M') (hd : decode cc pc = .ok (.return_, 1)) : KW p l e R s m args below meth c 0 0 (MQ below (QcV D A ct a M') args s 0 0 A) D A ct a nL M pc lv [] := fun H locs ls hP hS hl => by
  subst h2
  exact W.vret C.1.1 C.1.2.1 C.2.2.2.2.2.2.2 (fun t ht hW => ⟨⟨M, rfl, rfl, by show va_P D vwCl (wd ct a M) t.heap; rw [ht]; exact hP⟩, hS.F ht⟩) hS.2.2 hd C.2.2.2.2.2.2.1
end LY3
theorem MI.intro {y : MethodName} {cc : ByteArray} {nL fr lo : Nat} {ret : Option FieldType} {as : (Nat → Nat) → List Value} {M M' : Mm} {r : Int32} {lv0 : (Nat → Nat) → List (Option Value)} (hy : plainName y.cls = true) (hlv : ∀ a, (lg_sl (as a)).length ≤ nL ∧ lvA (as a) ++ List.replicate (nL - (lvA (as a)).length) none = lv0 a)
    (body : ∀ (p : Program) (l : Launch) (e : Env) (s : State) (m : MethodId) (args : Array Value) (below : List Frame) (meth : Method) (c : Code) (D : va_G) (A : Nat → Prop) (ct : Nat → ClassId) (a : Nat → Nat), Cx p s m args meth c cc nL y.cls ret D A ct a → KW p l e { frames := fr, cells := 0, slots := 0, locals := lo } s m args below meth c 0 0 (MQ below (QcI D A ct a r M') args s 0 0 A) D A ct a nL M 0 (lv0 a) []) : MI y cc nL ret fr lo as M r M' := by
  intro l D ct a sz
  refine Met.ofW (cc := cc) (maxL := nL) (ret := ret) hy rfl ?_
  intro p e s m args below meth c s₁ B hml hv
  obtain ⟨rfl, hsz, hP, hK, hD0, hKd, hN⟩ := hv
  subst hsz
  have hts := atoms_spec (ws := .code y cc nL ret :: tbw) B.pre
  have hown : s.vm.findClass y.cls = some m.cls := findClass_of_methodNamed B.named
  have C : Cx p s m (as a).toArray meth c cc nL y.cls ret D (Aa a s.heap.size) ct a := ⟨⟨B.exec, B.bytes, hml, hown, fun w hw => hts w (List.mem_cons_of_mem _ hw)⟩, hK, ⟨hD0.1, fun k hk => Or.inl ⟨k, hk, rfl⟩⟩, fun q hq => Or.inr hq, hKd, hN, B.notSynchronized, B.returns⟩
  have K := body p l e s m (as a).toArray below meth c D (Aa a s.heap.size) ct a C
  have hl := lv_entry (as a) (n := nL) (hlv a).1
  rw [lg_entry_eq]
  generalize (lg_sl (as a) ++ List.replicate (nL - (lg_sl (as a)).length) Slot.unset).toArray = ls at hl ⊢
  refine K s.heap [] ls hP va_S.rf ?_
  rw [← (hlv a).2, lvl_lvA]
  exact hl
theorem MJ.intro {y : MethodName} {cc : ByteArray} {nL fr lo : Nat} {ret : Option FieldType} {as : (Nat → Nat) → List Value} {M M' : Mm} {r : Int64} {lv0 : (Nat → Nat) → List (Option Value)} (hy : plainName y.cls = true) (hlv : ∀ a, (lg_sl (as a)).length ≤ nL ∧ lvA (as a) ++ List.replicate (nL - (lvA (as a)).length) none = lv0 a)
    (body : ∀ (p : Program) (l : Launch) (e : Env) (s : State) (m : MethodId) (args : Array Value) (below : List Frame) (meth : Method) (c : Code) (D : va_G) (A : Nat → Prop) (ct : Nat → ClassId) (a : Nat → Nat), Cx p s m args meth c cc nL y.cls ret D A ct a → KW p l e { frames := fr, cells := 0, slots := 0, locals := lo } s m args below meth c 0 0 (MQ below (QcJ D A ct a r M') args s 0 0 A) D A ct a nL M 0 (lv0 a) []) : MJ y cc nL ret fr lo as M r M' := by
  intro l D ct a sz
  refine Met.ofW (cc := cc) (maxL := nL) (ret := ret) hy rfl ?_
  intro p e s m args below meth c s₁ B hml hv
  obtain ⟨rfl, hsz, hP, hK, hD0, hKd, hN⟩ := hv
  subst hsz
  have hts := atoms_spec (ws := .code y cc nL ret :: tbw) B.pre
  have hown : s.vm.findClass y.cls = some m.cls := findClass_of_methodNamed B.named
  have C : Cx p s m (as a).toArray meth c cc nL y.cls ret D (Aa a s.heap.size) ct a := ⟨⟨B.exec, B.bytes, hml, hown, fun w hw => hts w (List.mem_cons_of_mem _ hw)⟩, hK, ⟨hD0.1, fun k hk => Or.inl ⟨k, hk, rfl⟩⟩, fun q hq => Or.inr hq, hKd, hN, B.notSynchronized, B.returns⟩
  have K := body p l e s m (as a).toArray below meth c D (Aa a s.heap.size) ct a C
  have hl := lv_entry (as a) (n := nL) (hlv a).1
  rw [lg_entry_eq]
  generalize (lg_sl (as a) ++ List.replicate (nL - (lg_sl (as a)).length) Slot.unset).toArray = ls at hl ⊢
  refine K s.heap [] ls hP va_S.rf ?_
  rw [← (hlv a).2, lvl_lvA]
  exact hl
theorem MV.intro {y : MethodName} {cc : ByteArray} {nL fr lo : Nat} {ret : Option FieldType} {as : (Nat → Nat) → List Value} {M M' : Mm} {lv0 : (Nat → Nat) → List (Option Value)} (hy : plainName y.cls = true) (hlv : ∀ a, (lg_sl (as a)).length ≤ nL ∧ lvA (as a) ++ List.replicate (nL - (lvA (as a)).length) none = lv0 a)
    (body : ∀ (p : Program) (l : Launch) (e : Env) (s : State) (m : MethodId) (args : Array Value) (below : List Frame) (meth : Method) (c : Code) (D : va_G) (A : Nat → Prop) (ct : Nat → ClassId) (a : Nat → Nat), Cx p s m args meth c cc nL y.cls ret D A ct a → KW p l e { frames := fr, cells := 0, slots := 0, locals := lo } s m args below meth c 0 0 (MQ below (QcV D A ct a M') args s 0 0 A) D A ct a nL M 0 (lv0 a) []) : MV y cc nL ret fr lo as M M' := by
  intro l D ct a sz
  refine Met.ofW (cc := cc) (maxL := nL) (ret := ret) hy rfl ?_
  intro p e s m args below meth c s₁ B hml hv
  obtain ⟨rfl, hsz, hP, hK, hD0, hKd, hN⟩ := hv
  subst hsz
  have hts := atoms_spec (ws := .code y cc nL ret :: tbw) B.pre
  have hown : s.vm.findClass y.cls = some m.cls := findClass_of_methodNamed B.named
  have C : Cx p s m (as a).toArray meth c cc nL y.cls ret D (Aa a s.heap.size) ct a := ⟨⟨B.exec, B.bytes, hml, hown, fun w hw => hts w (List.mem_cons_of_mem _ hw)⟩, hK, ⟨hD0.1, fun k hk => Or.inl ⟨k, hk, rfl⟩⟩, fun q hq => Or.inr hq, hKd, hN, B.notSynchronized, B.returns⟩
  have K := body p l e s m (as a).toArray below meth c D (Aa a s.heap.size) ct a C
  have hl := lv_entry (as a) (n := nL) (hlv a).1
  rw [lg_entry_eq]
  generalize (lg_sl (as a) ++ List.replicate (nL - (lg_sl (as a)).length) Slot.unset).toArray = ls at hl ⊢
  refine K s.heap [] ls hP va_S.rf ?_
  rw [← (hlv a).2, lvl_lvA]
  exact hl
