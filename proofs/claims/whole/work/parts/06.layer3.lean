/-! loops, joins, indices -/
def itr {σ : Type} (f : Nat → σ → σ) (n : Nat) (s : σ) : σ := if n = 0 then s else f (n - 1) (itr f (n - 1) s)
termination_by n
def itd {σ : Type} (f : Nat → σ → σ) (n : Nat) (s : σ) : σ := if n = 0 then s else itd f (n - 1) (f (n - 1) s)
termination_by n
theorem itr_0 {σ : Type} (f : Nat → σ → σ) (s : σ) : itr f 0 s = s := by rw [itr]; simp
theorem itr_s {σ : Type} (f : Nat → σ → σ) (n : Nat) (s : σ) : itr f (n + 1) s = f n (itr f n s) := by rw [itr]; simp
theorem itd_0 {σ : Type} (f : Nat → σ → σ) (s : σ) : itd f 0 s = s := by rw [itd]; simp
theorem itd_s {σ : Type} (f : Nat → σ → σ) (n : Nat) (s : σ) : itd f (n + 1) s = itd f n (f n s) := by rw [itd]; simp
theorem nI_down (i : Nat) : nI (i + 1) + (-1) = nI i := by
  have h := nI_pred i
  rw [← h, Int32.sub_eq_add_neg]
theorem vin2 {x y : Int32} {n : Nat} (h1 : 0 ≤ x) (h2 : x ≤ y) (h3 : y.toInt < n) : vp_in x n := by
  rw [vp_in_iff]
  have a1 := Int32.le_iff_toInt_le.mp h1
  have a2 := Int32.le_iff_toInt_le.mp h2
  have e0 : (0 : Int32).toInt = 0 := by decide
  rw [e0] at a1
  omega
def bz (v : Int32) : Prop := narrow .boolean (.int v) = .int v
theorem bz_and {v : Int32} (h : bz v) : v &&& 1 = v := by
  have h1 : Value.int (v &&& 1) = Value.int v := h
  exact Value.int.inj h1
theorem bz_nar {v : Int32} (h : bz v) : vp_nar .boolean v = v := by
  have e : vp_nar .boolean v = v &&& 1 := rfl
  rw [e, bz_and h]
theorem bz_if {c : Prop} [Decidable c] {x y : Int32} (hx : bz x) (hy : bz y) : bz (if c then x else y) := by
  split
  · exact hx
  · exact hy
theorem bz_0 : bz 0 := congrArg Value.int (by decide : (0 &&& 1 : Int32) = 0)
theorem bz_1 : bz 1 := congrArg Value.int (by decide : (1 &&& 1 : Int32) = 1)
theorem bz_01 {v : Int32} (h : v = 0 ∨ v = 1) : bz v := by
  rcases h with rfl | rfl
  · exact bz_0
  · exact bz_1
theorem bzf_0 : fits .boolean (.int 0) = true := by decide
theorem bzf_1 : fits .boolean (.int 1) = true := by decide
theorem bzf_if {c : Prop} [Decidable c] {x y : Int32} (hx : fits .boolean (.int x) = true) (hy : fits .boolean (.int y) = true) : fits .boolean (.int (if c then x else y)) = true := by
  split
  · exact hx
  · exact hy
section LY4
variable {p : Program} {l : Launch} {e : Env} {R : Room} {s : State} {m : MethodId} {args : Array Value} {below : List Frame} {meth : Method} {c : Code} {cells slots : Nat} {Q : State → Prop} {D : va_G} {A : Nat → Prop} {ct : Nat → ClassId} {a : Nat → Nat} {nL : Nat} {M : Mm} {pc : Nat} {lv : List (Option Value)} {st : List Value} {cc : ByteArray} {own : String} {ret : Option FieldType}
theorem q_cut (M1 : Mm) (pc1 : Nat) (lv1 : List (Option Value)) (st1 : List Value) (h : KW p l e R s m args below meth c cells slots Q D A ct a nL M1 pc1 lv1 st1 → KW p l e R s m args below meth c cells slots Q D A ct a nL M pc lv st) (k : KW p l e R s m args below meth c cells slots Q D A ct a nL M1 pc1 lv1 st1) : KW p l e R s m args below meth c cells slots Q D A ct a nL M pc lv st := h k
theorem q_ialdX {k n r j : Nat} {i : Int32} (C : Cx p s m args meth c cc nL own ret D A ct a) (hs : SH[k]? = some (.inr (0, n, r))) (hj : i.toNatClampNeg = j) (hin : vp_in i n) (hd : decode cc pc = .ok (.iaload, 1)) (kk : KW p l e R s m args below meth c cells slots Q D A ct a nL M (pc + 1) lv (.int (gI M k j) :: st)) : KW p l e R s m args below meth c cells slots Q D A ct a nL M pc lv (.int i :: .ref (a k) :: st) := by
  subst hj; exact q_iald C hs hin hd kk
theorem q_zaldX {k n r j : Nat} {i : Int32} (C : Cx p s m args meth c cc nL own ret D A ct a) (hs : SH[k]? = some (.inr (2, n, r))) (hj : i.toNatClampNeg = j) (hin : vp_in i n) (hd : decode cc pc = .ok (.baload, 1)) (kk : KW p l e R s m args below meth c cells slots Q D A ct a nL M (pc + 1) lv (.int (gI M k j) :: st)) : KW p l e R s m args below meth c cells slots Q D A ct a nL M pc lv (.int i :: .ref (a k) :: st) := by
  subst hj; exact q_zald C hs hin hd kk
theorem q_laldX {k n r j : Nat} {i : Int32} (C : Cx p s m args meth c cc nL own ret D A ct a) (hs : SH[k]? = some (.inr (1, n, r))) (hj : i.toNatClampNeg = j) (hin : vp_in i n) (hd : decode cc pc = .ok (.laload, 1)) (kk : KW p l e R s m args below meth c cells slots Q D A ct a nL M (pc + 1) lv (.long (gJ M k j) :: st)) : KW p l e R s m args below meth c cells slots Q D A ct a nL M pc lv (.int i :: .ref (a k) :: st) := by
  subst hj; exact q_lald C hs hin hd kk
theorem q_aaldX {k n r j : Nat} {i : Int32} (C : Cx p s m args meth c cc nL own ret D A ct a) (hs : SH[k]? = some (.inr (3, n, r))) (hj : i.toNatClampNeg = j) (hin : vp_in i n) (hd : decode cc pc = .ok (.aaload, 1)) (kk : KW p l e R s m args below meth c cells slots Q D A ct a nL M (pc + 1) lv (.ref (a (r + j)) :: st)) : KW p l e R s m args below meth c cells slots Q D A ct a nL M pc lv (.int i :: .ref (a k) :: st) := by
  subst hj; exact q_aald C hs hin hd kk
theorem q_iastX {k n r j : Nat} {i v : Int32} (C : Cx p s m args meth c cc nL own ret D A ct a) (hs : SH[k]? = some (.inr (0, n, r))) (hj : i.toNatClampNeg = j) (hin : vp_in i n) (hd : decode cc pc = .ok (.iastore, 1)) (kk : KW p l e R s m args below meth c cells slots Q D A ct a nL (sI M k j v) (pc + 1) lv st) : KW p l e R s m args below meth c cells slots Q D A ct a nL M pc lv (.int v :: .int i :: .ref (a k) :: st) := by
  subst hj; exact q_iast C hs hin hd kk
theorem q_zastX {k n r j : Nat} {i v : Int32} (C : Cx p s m args meth c cc nL own ret D A ct a) (hs : SH[k]? = some (.inr (2, n, r))) (hj : i.toNatClampNeg = j) (hin : vp_in i n) (hv : bz v) (hd : decode cc pc = .ok (.bastore, 1)) (kk : KW p l e R s m args below meth c cells slots Q D A ct a nL (sI M k j v) (pc + 1) lv st) : KW p l e R s m args below meth c cells slots Q D A ct a nL M pc lv (.int v :: .int i :: .ref (a k) :: st) := by
  subst hj; exact q_zast C hs hin (bz_nar hv) hd kk
theorem q_lastX {k n r j : Nat} {i : Int32} {v : Int64} (C : Cx p s m args meth c cc nL own ret D A ct a) (hs : SH[k]? = some (.inr (1, n, r))) (hj : i.toNatClampNeg = j) (hin : vp_in i n) (hd : decode cc pc = .ok (.lastore, 1)) (kk : KW p l e R s m args below meth c cells slots Q D A ct a nL (sJ M k j v) (pc + 1) lv st) : KW p l e R s m args below meth c cells slots Q D A ct a nL M pc lv (.long v :: .int i :: .ref (a k) :: st) := by
  subst hj; exact q_last C hs hin hd kk
theorem q_loop {σ : Type} (N : Nat) (f : Nat → σ → σ) (Mf : σ → Mm) (lf : Int32 → σ → List (Option Value)) (s0 : σ) (step : ∀ i z, i < N → KW p l e R s m args below meth c cells slots Q D A ct a nL (Mf (f i z)) pc (lf (nI i + 1) (f i z)) st → KW p l e R s m args below meth c cells slots Q D A ct a nL (Mf z) pc (lf (nI i) z) st) (done : KW p l e R s m args below meth c cells slots Q D A ct a nL (Mf (itr f N s0)) pc (lf (nI N) (itr f N s0)) st) : KW p l e R s m args below meth c cells slots Q D A ct a nL (Mf s0) pc (lf 0 s0) st := by
  have key : ∀ j, j ≤ N → KW p l e R s m args below meth c cells slots Q D A ct a nL (Mf (itr f (N - j) s0)) pc (lf (nI (N - j)) (itr f (N - j) s0)) st := by
    intro j
    induction j with
    | zero => intro _; exact done
    | succ j ih =>
      intro hj
      have h1 := ih (by omega)
      have e : N - j = (N - (j + 1)) + 1 := by omega
      rw [e, nI_succ, itr_s] at h1
      exact step (N - (j + 1)) _ (by omega) h1
  have h := key N (Nat.le_refl N)
  rw [Nat.sub_self, itr_0] at h
  exact h
theorem q_loopI {σ : Type} (I : Nat → σ → Prop) (N : Nat) (f : Nat → σ → σ) (Mf : σ → Mm) (lf : Int32 → σ → List (Option Value)) (s0 : σ) (h0 : I 0 s0) (hI : ∀ i z, i < N → I i z → I (i + 1) (f i z)) (step : ∀ i z, i < N → I i z → KW p l e R s m args below meth c cells slots Q D A ct a nL (Mf (f i z)) pc (lf (nI i + 1) (f i z)) st → KW p l e R s m args below meth c cells slots Q D A ct a nL (Mf z) pc (lf (nI i) z) st) (done : I N (itr f N s0) → KW p l e R s m args below meth c cells slots Q D A ct a nL (Mf (itr f N s0)) pc (lf (nI N) (itr f N s0)) st) : KW p l e R s m args below meth c cells slots Q D A ct a nL (Mf s0) pc (lf 0 s0) st := by
  have hI' : ∀ i, i ≤ N → I i (itr f i s0) := by
    intro i
    induction i with
    | zero => intro _; rw [itr_0]; exact h0
    | succ i ih => intro hi; rw [itr_s]; exact hI i _ (by omega) (ih (by omega))
  have key : ∀ j, j ≤ N → KW p l e R s m args below meth c cells slots Q D A ct a nL (Mf (itr f (N - j) s0)) pc (lf (nI (N - j)) (itr f (N - j) s0)) st := by
    intro j
    induction j with
    | zero => intro _; exact done (hI' N (Nat.le_refl N))
    | succ j ih =>
      intro hj
      have h1 := ih (by omega)
      have e : N - j = (N - (j + 1)) + 1 := by omega
      rw [e, nI_succ, itr_s] at h1
      exact step (N - (j + 1)) _ (by omega) (hI' _ (by omega)) h1
  have h := key N (Nat.le_refl N)
  rw [Nat.sub_self, itr_0] at h
  exact h
/-- downward: the counter is N - 1, .., 0 -/
theorem q_loopD {σ : Type} (N : Nat) (f : Nat → σ → σ) (Mf : σ → Mm) (lf : Int32 → σ → List (Option Value)) (s0 : σ) {x0 : Int32} (hx : x0 = nI N + (-1)) (step : ∀ i z, i < N → KW p l e R s m args below meth c cells slots Q D A ct a nL (Mf (f i z)) pc (lf (nI i + (-1)) (f i z)) st → KW p l e R s m args below meth c cells slots Q D A ct a nL (Mf z) pc (lf (nI i) z) st) (done : KW p l e R s m args below meth c cells slots Q D A ct a nL (Mf (itd f N s0)) pc (lf (-1) (itd f N s0)) st) : KW p l e R s m args below meth c cells slots Q D A ct a nL (Mf s0) pc (lf x0 s0) st := by
  subst hx
  have key : ∀ n, n ≤ N → ∀ s1, KW p l e R s m args below meth c cells slots Q D A ct a nL (Mf (itd f n s1)) pc (lf (-1) (itd f n s1)) st → KW p l e R s m args below meth c cells slots Q D A ct a nL (Mf s1) pc (lf (nI n + (-1)) s1) st := by
    intro n
    induction n with
    | zero =>
      intro _ s1 h
      have e : nI 0 + (-1) = -1 := by decide
      rw [e]
      rw [itd_0] at h
      exact h
    | succ n ih =>
      intro hn s1 h
      rw [nI_down]
      rw [itd_s] at h
      exact step n s1 (by omega) (ih (by omega) (f n s1) h)
  exact key N (Nat.le_refl N) s0 done
end LY4
/-- pairs of a contract's end -/
theorem q_p2 {α β : Type} {o : α × β} {x : α} {y : β} (h : o = (x, y)) : x = o.1 ∧ y = o.2 := by subst h; exact ⟨rfl, rfl⟩
