theorem sh_12 {j : Nat} (h : j < 4) : SH[12 + j]? = some (.inr (0, 4, 0)) := by
  rcases (show j = 0 ∨ j = 1 ∨ j = 2 ∨ j = 3 by omega) with rfl | rfl | rfl | rfl <;> rfl
theorem sh_34 {j : Nat} (h : j < 7) : SH[34 + j]? = some (.inr (0, 24, 0)) := by
  rcases (show j = 0 ∨ j = 1 ∨ j = 2 ∨ j = 3 ∨ j = 4 ∨ j = 5 ∨ j = 6 by omega) with rfl | rfl | rfl | rfl | rfl | rfl | rfl <;> rfl
theorem vin_lt {x : Int32} {n : Nat} (h : vp_in x n) : x.toNatClampNeg < n := Nat.not_le.mp fun q => h (Or.inr q)
theorem hdy_fold : yX6_fold.cls ≠ "java/lang/invoke/MethodHandle" ∧ yX6_fold.cls ≠ "java/lang/invoke/VarHandle" ∧ (parseMethodDescriptor yX6_fold.desc).map (fun d => d.parameters.length) = some 2 := by decide +kernel
theorem nl_X0 : Cond.methodLinkNest RX0 88 yX6_fold "KilnLine" ∈ nws := by decide +kernel
theorem nl_X2 : Cond.methodLinkNest RX2 42 yX6_fold "KilnLine" ∈ nws := by decide +kernel
theorem nl_X3 : Cond.methodLinkNest RX3 77 yX6_fold "KilnLine" ∈ nws := by decide +kernel
theorem nl_X4 : Cond.methodLinkNest RX4 71 yX6_fold "KilnLine" ∈ nws := by decide +kernel
theorem nl_X5 : Cond.methodLinkNest RX5 43 yX6_fold "KilnLine" ∈ nws := by decide +kernel
section LY5
variable {p : Program} {l : Launch} {e : Env} {R : Room} {s : State} {m : MethodId} {args : Array Value} {below : List Frame} {meth : Method} {c : Code} {cells slots : Nat} {Q : State → Prop} {D : va_G} {A : Nat → Prop} {ct : Nat → ClassId} {a : Nat → Nat} {nL : Nat} {M : Mm} {pc : Nat} {lv : List (Option Value)} {st : List Value} {cc : ByteArray} {own : String} {ret : Option FieldType}
theorem q_kaldX {t j : Nat} {i : Int32} (C : Cx p s m args meth c cc nL own ret D A ct a) (ht : va_T .int t 4 (fun j => .int (kinds j)) A s s.heap) (hj : i.toNatClampNeg = j) (hin : vp_in i 4) (hd : decode cc pc = .ok (.iaload, 1)) (kk : KW p l e R s m args below meth c cells slots Q D A ct a nL M (pc + 1) lv (.int (kinds j) :: st)) : KW p l e R s m args below meth c cells slots Q D A ct a nL M pc lv (.int i :: .ref t :: st) := by
  subst hj; exact q_kald C ht hin hd kk
end LY5
def lsub : List (Option Value) → List (Option Value) → Prop
  | [], [] => True
  | none :: r, _ :: q => lsub r q
  | some v :: r, x :: q => x = some v ∧ lsub r q
  | _, _ => False
theorem lsub_mem : ∀ (l q : List (Option Value)), lsub l q → ∀ (n : Nat) (v : Value), l[n]? = some (some v) → q[n]? = some (some v)
  | [], [], _, n, v, h => by simp at h
  | none :: r, x :: q, hs, n, v, h => by
    cases n with
    | zero => simp at h
    | succ n => simpa using lsub_mem r q hs n v (by simpa using h)
  | some w :: r, x :: q, hs, n, v, h => by
    cases n with
    | zero =>
      have e : w = v := by simpa using h
      rw [hs.1, e]; rfl
    | succ n => simpa using lsub_mem r q hs.2 n v (by simpa using h)
  | [], _ :: _, hs, _, _, _ => by simp [lsub] at hs
  | none :: _, [], hs, _, _, _ => by simp [lsub] at hs
  | some _ :: _, [], hs, _, _, _ => by simp [lsub] at hs
section LY6
variable {p : Program} {l : Launch} {e : Env} {R : Room} {s : State} {m : MethodId} {args : Array Value} {below : List Frame} {meth : Method} {c : Code} {cells slots : Nat} {Q : State → Prop} {D : va_G} {A : Nat → Prop} {ct : Nat → ClassId} {a : Nat → Nat} {nL : Nat} {M : Mm} {pc : Nat} {lv : List (Option Value)} {st : List Value}
theorem q_drop (lv' : List (Option Value)) (hs : lsub lv' lv) (k : KW p l e R s m args below meth c cells slots Q D A ct a nL M pc lv' st) : KW p l e R s m args below meth c cells slots Q D A ct a nL M pc lv st := fun H locs ls hP hS hl => k H locs ls hP hS ⟨hl.1, hl.2.1, fun q hq => by
  obtain ⟨j, w⟩ := q
  obtain ⟨n, h1, h2⟩ := (lvl_mem _ 0).mp hq
  exact hl.2.2 (j, w) ((lvl_mem _ 0).mpr ⟨n, h1, lsub_mem lv' lv hs n w h2⟩)⟩
end LY6
theorem itr_keepI {f : Nat → Mm → Mm} {k j : Nat} (h : ∀ i z, gI (f i z) k j = gI z k j) : ∀ (n : Nat) (z : Mm), gI (itr f n z) k j = gI z k j
  | 0, _ => by rw [itr_0]
  | n + 1, z => by rw [itr_s, h, itr_keepI h n z]
theorem itr_keepJ {f : Nat → Mm → Mm} {k j : Nat} (h : ∀ i z, gJ (f i z) k j = gJ z k j) : ∀ (n : Nat) (z : Mm), gJ (itr f n z) k j = gJ z k j
  | 0, _ => by rw [itr_0]
  | n + 1, z => by rw [itr_s, h, itr_keepJ h n z]
theorem itd_keepI {f : Nat → Mm → Mm} {k j : Nat} (h : ∀ i z, gI (f i z) k j = gI z k j) : ∀ (n : Nat) (z : Mm), gI (itd f n z) k j = gI z k j
  | 0, _ => by rw [itd_0]
  | n + 1, z => by rw [itd_s, itd_keepI h n, h]
/-- a property of the state that every round keeps -/
theorem itr_inv {σ : Type} {f : Nat → σ → σ} (I : Nat → σ → Prop) {N : Nat} (hI : ∀ i z, i < N → I i z → I (i + 1) (f i z)) {z : σ} (h0 : I 0 z) : ∀ n, n ≤ N → I n (itr f n z)
  | 0, _ => by rw [itr_0]; exact h0
  | n + 1, hn => by rw [itr_s]; exact hI n _ (by omega) (itr_inv I hI h0 n (by omega))
theorem itd_inv {σ : Type} {f : Nat → σ → σ} (I : Nat → σ → Prop) (hI : ∀ i z, I (i + 1) z → I i (f i z)) : ∀ (n : Nat) (z : σ), I n z → I 0 (itd f n z)
  | 0, _, h => by rw [itd_0]; exact h
  | n + 1, z, h => by rw [itd_s]; exact itd_inv I hI n (f n z) (hI n z h)
/-- two loops side by side -/
theorem itr_rel {σ τ : Type} {f : Nat → σ → σ} {g : Nat → τ → τ} (I : Nat → σ → τ → Prop) {N : Nat} (hI : ∀ i z w, i < N → I i z w → I (i + 1) (f i z) (g i w)) {z : σ} {w : τ} (h0 : I 0 z w) : ∀ n, n ≤ N → I n (itr f n z) (itr g n w)
  | 0, _ => by rw [itr_0, itr_0]; exact h0
  | n + 1, hn => by rw [itr_s, itr_s]; exact hI n _ _ (by omega) (itr_rel I hI h0 n (by omega))
theorem itd_rel {σ τ : Type} {f : Nat → σ → σ} {g : Nat → τ → τ} (I : Nat → σ → τ → Prop) (hI : ∀ i z w, I (i + 1) z w → I i (f i z) (g i w)) : ∀ (n : Nat) (z : σ) (w : τ), I n z w → I 0 (itd f n z) (itd g n w)
  | 0, _, _, h => by rw [itd_0, itd_0]; exact h
  | n + 1, z, w, h => by rw [itd_s, itd_s]; exact itd_rel I hI n (f n z) (g n w) (hI n z w h)
theorem gI_ite {c : Prop} [Decidable c] {A B : Mm} {k j : Nat} : gI (if c then A else B) k j = if c then gI A k j else gI B k j := by split <;> rfl
theorem gJ_ite {c : Prop} [Decidable c] {A B : Mm} {k j : Nat} : gJ (if c then A else B) k j = if c then gJ A k j else gJ B k j := by split <;> rfl
theorem i64ne {x : Int32} (h : ¬ x = 0) : ¬ x.toInt64 = 0 := fun e => h (by
  have h1 : x.toInt64.toInt32 = (0 : Int64).toInt32 := by rw [e]
  rw [Int32.toInt32_toInt64] at h1
  exact h1)
theorem nI_hx (i : Nat) : nI i + 1 = nI (i + 2) + (-1) := by rw [nI_down (i + 1), nI_succ]
theorem nI_pos_of {i : Nat} (h : ¬ nI i ≤ 0) : 0 < i := by
  cases i with
  | zero => exact absurd (by decide) h
  | succ n => omega
theorem nI_sub1 {i : Nat} (h : 0 < i) : nI i - 1 = nI (i - 1) := by
  obtain ⟨n, rfl⟩ : ∃ n, i = n + 1 := ⟨i - 1, by omega⟩
  rw [nI_pred]; rfl
theorem nI_clampP {i : Nat} (h : ¬ nI i ≤ 0) (hi : i < 2 ^ 31) : (nI i - 1).toNatClampNeg = i - 1 := by
  rw [nI_sub1 (nI_pos_of h), nI_clamp (by omega)]
theorem vinP {i n : Nat} (h : ¬ nI i ≤ 0) (hi : i ≤ n) (hn : n < 2 ^ 31) : vp_in (nI i - 1) n := by
  have := nI_pos_of h
  rw [nI_sub1 this]
  exact vp_in_nI (by omega) hn
theorem nI_of_clamp {x : Int32} (h : 0 ≤ x) : nI x.toNatClampNeg = x := by
  have h1 := Int32.le_iff_toInt_le.mp h
  have e0 : (0 : Int32).toInt = 0 := by decide
  rw [e0] at h1
  apply Int32.toInt_inj.mp
  have hl : x.toNatClampNeg < 2 ^ 31 := by
    have := x.toInt_lt
    have e : x.toNatClampNeg = x.toInt.toNat := rfl
    omega
  rw [nI_toInt hl]
  show ((x.toInt.toNat : Nat) : Int) = x.toInt
  omega
theorem nlt_clamp {x : Int32} {i : Nat} (hx : 0 ≤ x) (h : i < x.toNatClampNeg + 1) : ¬ x < nI i := by
  have hl : x.toNatClampNeg < 2 ^ 31 := by
    have := x.toInt_lt
    have e : x.toNatClampNeg = x.toInt.toNat := rfl
    omega
  have := nI_nlt (a := x.toNatClampNeg) (b := i) (by omega) hl
  rw [nI_of_clamp hx] at this
  exact this
theorem lt_clamp {x : Int32} (hx : 0 ≤ x) (hl : x.toNatClampNeg + 1 < 2 ^ 31) : x < nI (x.toNatClampNeg + 1) := by
  have := nI_lt (a := x.toNatClampNeg) (b := x.toNatClampNeg + 1) (by omega) hl
  rw [nI_of_clamp hx] at this
  exact this
section LY7
variable {p : Program} {l : Launch} {e : Env} {R : Room} {s : State} {m : MethodId} {args : Array Value} {below : List Frame} {meth : Method} {c : Code} {cells slots : Nat} {Q : State → Prop} {D : va_G} {A : Nat → Prop} {ct : Nat → ClassId} {a : Nat → Nat} {nL : Nat} {M : Mm} {pc : Nat} {lv : List (Option Value)} {st : List Value}
/-- a loop that may also end when Ex holds -/
theorem q_loopE {σ : Type} (N : Nat) (f : Nat → σ → σ) (Mf : σ → Mm) (lf : Int32 → σ → List (Option Value)) (s0 : σ) (px : Nat) (Ex : σ → Prop) (habs : ∀ i z, Ex z → f i z = z)
    (step : ∀ i z, i < N → (Ex z → ∀ x, KW p l e R s m args below meth c cells slots Q D A ct a nL (Mf z) px (lf x z) st) → (¬ Ex z → KW p l e R s m args below meth c cells slots Q D A ct a nL (Mf (f i z)) pc (lf (nI i + 1) (f i z)) st) → KW p l e R s m args below meth c cells slots Q D A ct a nL (Mf z) pc (lf (nI i) z) st)
    (done : (∀ x, KW p l e R s m args below meth c cells slots Q D A ct a nL (Mf (itr f N s0)) px (lf x (itr f N s0)) st) → KW p l e R s m args below meth c cells slots Q D A ct a nL (Mf (itr f N s0)) pc (lf (nI N) (itr f N s0)) st) (F : ∀ x, KW p l e R s m args below meth c cells slots Q D A ct a nL (Mf (itr f N s0)) px (lf x (itr f N s0)) st) : KW p l e R s m args below meth c cells slots Q D A ct a nL (Mf s0) pc (lf 0 s0) st := by
  have habs' : ∀ i, Ex (itr f i s0) → ∀ j, itr f (i + j) s0 = itr f i s0 := by
    intro i hi j
    induction j with
    | zero => rfl
    | succ j ih =>
      rw [show i + (j + 1) = (i + j) + 1 by omega, itr_s, ih, habs _ _ hi]
  have key : ∀ j, j ≤ N → KW p l e R s m args below meth c cells slots Q D A ct a nL (Mf (itr f (N - j) s0)) pc (lf (nI (N - j)) (itr f (N - j) s0)) st := by
    intro j
    induction j with
    | zero => intro _; exact done F
    | succ j ih =>
      intro hj
      have h1 := ih (by omega)
      have e : N - j = (N - (j + 1)) + 1 := by omega
      rw [e, nI_succ, itr_s] at h1
      refine step (N - (j + 1)) _ (by omega) (fun hE => ?_) (fun _ => h1)
      have e2 := habs' _ hE (j + 1)
      rw [show N - (j + 1) + (j + 1) = N by omega] at e2
      rw [← e2]
      exact F
  have h := key N (Nat.le_refl N)
  rw [Nat.sub_self, itr_0] at h
  exact h
/-- the same with an invariant -/
theorem q_loopEI {σ : Type} (I : Nat → σ → Prop) (N : Nat) (f : Nat → σ → σ) (Mf : σ → Mm) (lf : Int32 → σ → List (Option Value)) (s0 : σ) (h0 : I 0 s0) (hI : ∀ i z, i < N → I i z → I (i + 1) (f i z)) (px : Nat) (Ex : σ → Prop) (habs : ∀ i z, Ex z → f i z = z)
    (step : ∀ i z, i < N → I i z → (Ex z → ∀ x, KW p l e R s m args below meth c cells slots Q D A ct a nL (Mf z) px (lf x z) st) → (¬ Ex z → KW p l e R s m args below meth c cells slots Q D A ct a nL (Mf (f i z)) pc (lf (nI i + 1) (f i z)) st) → KW p l e R s m args below meth c cells slots Q D A ct a nL (Mf z) pc (lf (nI i) z) st)
    (done : (∀ x, KW p l e R s m args below meth c cells slots Q D A ct a nL (Mf (itr f N s0)) px (lf x (itr f N s0)) st) → KW p l e R s m args below meth c cells slots Q D A ct a nL (Mf (itr f N s0)) pc (lf (nI N) (itr f N s0)) st) (F : ∀ x, KW p l e R s m args below meth c cells slots Q D A ct a nL (Mf (itr f N s0)) px (lf x (itr f N s0)) st) : KW p l e R s m args below meth c cells slots Q D A ct a nL (Mf s0) pc (lf 0 s0) st := by
  have hI' : ∀ i, i ≤ N → I i (itr f i s0) := itr_inv I hI h0
  have habs' : ∀ i, Ex (itr f i s0) → ∀ j, itr f (i + j) s0 = itr f i s0 := by
    intro i hi j
    induction j with
    | zero => rfl
    | succ j ih =>
      rw [show i + (j + 1) = (i + j) + 1 by omega, itr_s, ih, habs _ _ hi]
  have key : ∀ j, j ≤ N → KW p l e R s m args below meth c cells slots Q D A ct a nL (Mf (itr f (N - j) s0)) pc (lf (nI (N - j)) (itr f (N - j) s0)) st := by
    intro j
    induction j with
    | zero => intro _; exact done F
    | succ j ih =>
      intro hj
      have h1 := ih (by omega)
      have e : N - j = (N - (j + 1)) + 1 := by omega
      rw [e, nI_succ, itr_s] at h1
      refine step (N - (j + 1)) _ (by omega) (hI' _ (by omega)) (fun hE => ?_) (fun _ => h1)
      have e2 := habs' _ hE (j + 1)
      rw [show N - (j + 1) + (j + 1) = N by omega] at e2
      rw [← e2]
      exact F
  have h := key N (Nat.le_refl N)
  rw [Nat.sub_self, itr_0] at h
  exact h
theorem q_by (b : Prop) [Decidable b] (kt : b → KW p l e R s m args below meth c cells slots Q D A ct a nL M pc lv st) (kf : ¬ b → KW p l e R s m args below meth c cells slots Q D A ct a nL M pc lv st) : KW p l e R s m args below meth c cells slots Q D A ct a nL M pc lv st := if h : b then kt h else kf h
end LY7
theorem wcopyL : Cond.native arraycopyName ∈ lw_tbl := by decide +kernel
theorem wcopy : Cond.native arraycopyName ∈ tbw ∧ Cond.static arraycopyName ∈ tbw ∧ Cond.initialized "java/lang/System" ∈ tbw := ⟨List.mem_filter.mpr ⟨wcopyL, by decide +kernel⟩, List.mem_filter.mpr ⟨by decide +kernel, by decide +kernel⟩, List.mem_filter.mpr ⟨by decide +kernel, by decide +kernel⟩⟩
theorem vin_of {x : Int32} {n : Nat} (h : 0 ≤ x) (hn : x.toNatClampNeg < n) : vp_in x n := by
  intro q
  rcases q with q | q
  · exact absurd h (Int32.not_le.mpr q)
  · omega
